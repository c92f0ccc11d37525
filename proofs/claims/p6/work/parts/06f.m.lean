theorem dX11_lookAt_0 : decode cX11_lookAt 0 = .ok (.aload_n 0, 1) := kd_42 (by decide +kernel)
theorem dX11_lookAt_1 : decode cX11_lookAt 1 = .ok (.iload_n 1, 1) := kd_27 (by decide +kernel)
theorem dX11_lookAt_2 : decode cX11_lookAt 2 = .ok (.putfield 244, 3) := kd_181 (a := 0) (b := 244) (by decide +kernel)
theorem dX11_lookAt_5 : decode cX11_lookAt 5 = .ok (.aload_n 0, 1) := kd_42 (by decide +kernel)
theorem dX11_lookAt_6 : decode cX11_lookAt 6 = .ok (.getfield 244, 3) := kd_180 (a := 0) (b := 244) (by decide +kernel)
theorem dX11_lookAt_9 : decode cX11_lookAt 9 = .ok (.aload_n 0, 1) := kd_42 (by decide +kernel)
theorem dX11_lookAt_10 : decode cX11_lookAt 10 = .ok (.getfield 232, 3) := kd_180 (a := 0) (b := 232) (by decide +kernel)
theorem dX11_lookAt_13 : decode cX11_lookAt 13 = .ok (.if_icmp .ge 30, 3) := kd_162 (a := 0) (b := 30) (by decide +kernel)
theorem dX11_lookAt_43 : decode cX11_lookAt 43 = .ok (.aload_n 0, 1) := kd_42 (by decide +kernel)
theorem dX11_lookAt_44 : decode cX11_lookAt 44 = .ok (.iconst 0, 1) := kd_3 (by decide +kernel)
theorem dX11_lookAt_45 : decode cX11_lookAt 45 = .ok (.putfield 247, 3) := kd_181 (a := 0) (b := 247) (by decide +kernel)
theorem dX11_lookAt_48 : decode cX11_lookAt 48 = .ok (.aload_n 0, 1) := kd_42 (by decide +kernel)
theorem dX11_lookAt_49 : decode cX11_lookAt 49 = .ok (.iconst 0, 1) := kd_3 (by decide +kernel)
theorem dX11_lookAt_50 : decode cX11_lookAt 50 = .ok (.putfield 250, 3) := kd_181 (a := 0) (b := 250) (by decide +kernel)
theorem dX11_lookAt_53 : decode cX11_lookAt 53 = .ok (.aload_n 0, 1) := kd_42 (by decide +kernel)
theorem dX11_lookAt_54 : decode cX11_lookAt 54 = .ok (.iconst 0, 1) := kd_3 (by decide +kernel)
theorem dX11_lookAt_55 : decode cX11_lookAt 55 = .ok (.putfield 253, 3) := kd_181 (a := 0) (b := 253) (by decide +kernel)
theorem dX11_lookAt_58 : decode cX11_lookAt 58 = .ok (.aload_n 0, 1) := kd_42 (by decide +kernel)
theorem dX11_lookAt_59 : decode cX11_lookAt 59 = .ok (.getfield 244, 3) := kd_180 (a := 0) (b := 244) (by decide +kernel)
theorem dX11_lookAt_62 : decode cX11_lookAt 62 = .ok (.aload_n 0, 1) := kd_42 (by decide +kernel)
theorem dX11_lookAt_63 : decode cX11_lookAt 63 = .ok (.getfield 232, 3) := kd_180 (a := 0) (b := 232) (by decide +kernel)
theorem dX11_lookAt_66 : decode cX11_lookAt 66 = .ok (.if_icmp .ne 4, 3) := kd_160 (a := 0) (b := 4) (by decide +kernel)
theorem dX11_lookAt_69 : decode cX11_lookAt 69 = .ok (.return_, 1) := kd_177 (by decide +kernel)
theorem dX11_lookAt_16 : decode cX11_lookAt 16 = .ok (.aload_n 0, 1) := kd_42 (by decide +kernel)
theorem dX11_lookAt_17 : decode cX11_lookAt 17 = .ok (.getfield 48, 3) := kd_180 (a := 0) (b := 48) (by decide +kernel)
theorem dX11_lookAt_20 : decode cX11_lookAt 20 = .ok (.aload_n 0, 1) := kd_42 (by decide +kernel)
theorem dX11_lookAt_21 : decode cX11_lookAt 21 = .ok (.getfield 244, 3) := kd_180 (a := 0) (b := 244) (by decide +kernel)
theorem dX11_lookAt_24 : decode cX11_lookAt 24 = .ok (.iaload, 1) := kd_46 (by decide +kernel)
theorem dX11_lookAt_25 : decode cX11_lookAt 25 = .ok (.bipush 32, 2) := kd_16 (a := 32) (by decide +kernel)
theorem dX11_lookAt_27 : decode cX11_lookAt 27 = .ok (.if_icmp .ne 16, 3) := kd_160 (a := 0) (b := 16) (by decide +kernel)
theorem dX11_lookAt_70 : decode cX11_lookAt 70 = .ok (.aload_n 0, 1) := kd_42 (by decide +kernel)
theorem dX11_lookAt_71 : decode cX11_lookAt 71 = .ok (.getfield 48, 3) := kd_180 (a := 0) (b := 48) (by decide +kernel)
theorem dX11_lookAt_74 : decode cX11_lookAt 74 = .ok (.aload_n 0, 1) := kd_42 (by decide +kernel)
theorem dX11_lookAt_75 : decode cX11_lookAt 75 = .ok (.getfield 244, 3) := kd_180 (a := 0) (b := 244) (by decide +kernel)
theorem dX11_lookAt_78 : decode cX11_lookAt 78 = .ok (.iaload, 1) := kd_46 (by decide +kernel)
theorem dX11_lookAt_79 : decode cX11_lookAt 79 = .ok (.istore_n 2, 1) := kd_61 (by decide +kernel)
theorem dX11_lookAt_80 : decode cX11_lookAt 80 = .ok (.aload_n 0, 1) := kd_42 (by decide +kernel)
theorem dX11_lookAt_81 : decode cX11_lookAt 81 = .ok (.iload_n 2, 1) := kd_28 (by decide +kernel)
theorem gX11_lookAt_X11_isSmall : GoodIn wsX11_lookAt (va_wsS RX11 256 yX11_isSmall wsX11_isSmall) := gW_S (in_r19 (List.mem_of_getElem? (i := 16) rfl)) (in_r19 (List.mem_of_getElem? (i := 17) rfl)) (in_r1 (List.mem_of_getElem? (i := 5) rfl)) (in_r19 (List.mem_of_getElem? (i := 18) rfl))
theorem dX11_lookAt_82 : decode cX11_lookAt 82 = .ok (.invokestatic 256, 3) := kd_184 (a := 1) (b := 0) (by decide +kernel)
theorem dX11_lookAt_85 : decode cX11_lookAt 85 = .ok (.ifCond .eq 7, 3) := kd_153 (a := 0) (b := 7) (by decide +kernel)
theorem dX11_lookAt_88 : decode cX11_lookAt 88 = .ok (.iconst 1, 1) := kd_4 (by decide +kernel)
theorem dX11_lookAt_89 : decode cX11_lookAt 89 = .ok (.goto 25, 3) := kd_167 (a := 0) (b := 25) (by decide +kernel)
theorem dX11_lookAt_114 : decode cX11_lookAt 114 = .ok (.putfield 250, 3) := kd_181 (a := 0) (b := 250) (by decide +kernel)
theorem dX11_lookAt_117 : decode cX11_lookAt 117 = .ok (.aload_n 0, 1) := kd_42 (by decide +kernel)
theorem dX11_lookAt_118 : decode cX11_lookAt 118 = .ok (.iconst 1, 1) := kd_4 (by decide +kernel)
theorem dX11_lookAt_119 : decode cX11_lookAt 119 = .ok (.putfield 247, 3) := kd_181 (a := 0) (b := 247) (by decide +kernel)
theorem dX11_lookAt_122 : decode cX11_lookAt 122 = .ok (.aload_n 0, 1) := kd_42 (by decide +kernel)
theorem dX11_lookAt_123 : decode cX11_lookAt 123 = .ok (.getfield 250, 3) := kd_180 (a := 0) (b := 250) (by decide +kernel)
theorem dX11_lookAt_126 : decode cX11_lookAt 126 = .ok (.iconst 3, 1) := kd_6 (by decide +kernel)
theorem dX11_lookAt_127 : decode cX11_lookAt 127 = .ok (.if_icmp .ge 7, 3) := kd_162 (a := 0) (b := 7) (by decide +kernel)
theorem dX11_lookAt_130 : decode cX11_lookAt 130 = .ok (.iconst 1, 1) := kd_4 (by decide +kernel)
theorem dX11_lookAt_131 : decode cX11_lookAt 131 = .ok (.goto 4, 3) := kd_167 (a := 0) (b := 4) (by decide +kernel)
theorem dX11_lookAt_135 : decode cX11_lookAt 135 = .ok (.istore_n 3, 1) := kd_62 (by decide +kernel)
theorem dX11_lookAt_136 : decode cX11_lookAt 136 = .ok (.iload_n 3, 1) := kd_29 (by decide +kernel)
theorem dX11_lookAt_137 : decode cX11_lookAt 137 = .ok (.ifCond .eq 78, 3) := kd_153 (a := 0) (b := 78) (by decide +kernel)
theorem dX11_lookAt_215 : decode cX11_lookAt 215 = .ok (.iconst 0, 1) := kd_3 (by decide +kernel)
theorem dX11_lookAt_216 : decode cX11_lookAt 216 = .ok (.istore 4, 2) := kd_54 (a := 4) (by decide +kernel)
theorem dX11_lookAt_218 : decode cX11_lookAt 218 = .ok (.iload 4, 2) := kd_21 (a := 4) (by decide +kernel)
theorem dX11_lookAt_220 : decode cX11_lookAt 220 = .ok (.aload_n 0, 1) := kd_42 (by decide +kernel)
theorem dX11_lookAt_221 : decode cX11_lookAt 221 = .ok (.getfield 247, 3) := kd_180 (a := 0) (b := 247) (by decide +kernel)
theorem dX11_lookAt_224 : decode cX11_lookAt 224 = .ok (.if_icmp .ge 50, 3) := kd_162 (a := 0) (b := 50) (by decide +kernel)
theorem dX11_lookAt_227 : decode cX11_lookAt 227 = .ok (.iload 4, 2) := kd_21 (a := 4) (by decide +kernel)
theorem dX11_lookAt_229 : decode cX11_lookAt 229 = .ok (.iconst 2, 1) := kd_5 (by decide +kernel)
theorem dX11_lookAt_230 : decode cX11_lookAt 230 = .ok (.if_icmp .ge 44, 3) := kd_162 (a := 0) (b := 44) (by decide +kernel)
theorem dX11_lookAt_233 : decode cX11_lookAt 233 = .ok (.aload_n 0, 1) := kd_42 (by decide +kernel)
theorem dX11_lookAt_234 : decode cX11_lookAt 234 = .ok (.getfield 250, 3) := kd_180 (a := 0) (b := 250) (by decide +kernel)
theorem dX11_lookAt_237 : decode cX11_lookAt 237 = .ok (.iconst 2, 1) := kd_5 (by decide +kernel)
theorem dX11_lookAt_238 : decode cX11_lookAt 238 = .ok (.if_icmp .ne 36, 3) := kd_160 (a := 0) (b := 36) (by decide +kernel)
theorem dX11_lookAt_274 : decode cX11_lookAt 274 = .ok (.aload_n 0, 1) := kd_42 (by decide +kernel)
theorem dX11_lookAt_275 : decode cX11_lookAt 275 = .ok (.aload_n 0, 1) := kd_42 (by decide +kernel)
theorem dX11_lookAt_276 : decode cX11_lookAt 276 = .ok (.getfield 250, 3) := kd_180 (a := 0) (b := 250) (by decide +kernel)
theorem dX11_lookAt_279 : decode cX11_lookAt 279 = .ok (.iconst 2, 1) := kd_5 (by decide +kernel)
theorem dX11_lookAt_280 : decode cX11_lookAt 280 = .ok (.if_icmp .ne 15, 3) := kd_160 (a := 0) (b := 15) (by decide +kernel)
theorem dX11_lookAt_295 : decode cX11_lookAt 295 = .ok (.aload_n 0, 1) := kd_42 (by decide +kernel)
theorem dX11_lookAt_296 : decode cX11_lookAt 296 = .ok (.getfield 250, 3) := kd_180 (a := 0) (b := 250) (by decide +kernel)
theorem dX11_lookAt_299 : decode cX11_lookAt 299 = .ok (.putfield 250, 3) := kd_181 (a := 0) (b := 250) (by decide +kernel)
theorem dX11_lookAt_302 : decode cX11_lookAt 302 = .ok (.return_, 1) := kd_177 (by decide +kernel)
theorem dX11_lookAt_140 : decode cX11_lookAt 140 = .ok (.aload_n 0, 1) := kd_42 (by decide +kernel)
theorem dX11_lookAt_141 : decode cX11_lookAt 141 = .ok (.getfield 244, 3) := kd_180 (a := 0) (b := 244) (by decide +kernel)
theorem dX11_lookAt_144 : decode cX11_lookAt 144 = .ok (.aload_n 0, 1) := kd_42 (by decide +kernel)
theorem dX11_lookAt_145 : decode cX11_lookAt 145 = .ok (.getfield 247, 3) := kd_180 (a := 0) (b := 247) (by decide +kernel)
theorem dX11_lookAt_148 : decode cX11_lookAt 148 = .ok (.iadd, 1) := kd_96 (by decide +kernel)
theorem dX11_lookAt_149 : decode cX11_lookAt 149 = .ok (.aload_n 0, 1) := kd_42 (by decide +kernel)
theorem dX11_lookAt_150 : decode cX11_lookAt 150 = .ok (.getfield 232, 3) := kd_180 (a := 0) (b := 232) (by decide +kernel)
theorem dX11_lookAt_153 : decode cX11_lookAt 153 = .ok (.if_icmp .ge 62, 3) := kd_162 (a := 0) (b := 62) (by decide +kernel)
theorem dX11_lookAt_156 : decode cX11_lookAt 156 = .ok (.aload_n 0, 1) := kd_42 (by decide +kernel)
theorem dX11_lookAt_157 : decode cX11_lookAt 157 = .ok (.getfield 48, 3) := kd_180 (a := 0) (b := 48) (by decide +kernel)
theorem dX11_lookAt_160 : decode cX11_lookAt 160 = .ok (.aload_n 0, 1) := kd_42 (by decide +kernel)
theorem dX11_lookAt_161 : decode cX11_lookAt 161 = .ok (.getfield 244, 3) := kd_180 (a := 0) (b := 244) (by decide +kernel)
theorem dX11_lookAt_164 : decode cX11_lookAt 164 = .ok (.aload_n 0, 1) := kd_42 (by decide +kernel)
theorem dX11_lookAt_165 : decode cX11_lookAt 165 = .ok (.getfield 247, 3) := kd_180 (a := 0) (b := 247) (by decide +kernel)
theorem dX11_lookAt_168 : decode cX11_lookAt 168 = .ok (.iadd, 1) := kd_96 (by decide +kernel)
theorem dX11_lookAt_169 : decode cX11_lookAt 169 = .ok (.iaload, 1) := kd_46 (by decide +kernel)
theorem dX11_lookAt_170 : decode cX11_lookAt 170 = .ok (.istore 4, 2) := kd_54 (a := 4) (by decide +kernel)
theorem dX11_lookAt_172 : decode cX11_lookAt 172 = .ok (.aload_n 0, 1) := kd_42 (by decide +kernel)
theorem dX11_lookAt_173 : decode cX11_lookAt 173 = .ok (.getfield 250, 3) := kd_180 (a := 0) (b := 250) (by decide +kernel)
theorem dX11_lookAt_176 : decode cX11_lookAt 176 = .ok (.iconst 1, 1) := kd_4 (by decide +kernel)
theorem dX11_lookAt_177 : decode cX11_lookAt 177 = .ok (.if_icmp .ne 11, 3) := kd_160 (a := 0) (b := 11) (by decide +kernel)
theorem dX11_lookAt_180 : decode cX11_lookAt 180 = .ok (.iload 4, 2) := kd_21 (a := 4) (by decide +kernel)
theorem dX11_lookAt_182 : decode cX11_lookAt 182 = .ok (.invokestatic 256, 3) := kd_184 (a := 1) (b := 0) (by decide +kernel)
theorem dX11_lookAt_185 : decode cX11_lookAt 185 = .ok (.goto 8, 3) := kd_167 (a := 0) (b := 8) (by decide +kernel)
theorem dX11_lookAt_193 : decode cX11_lookAt 193 = .ok (.istore_n 3, 1) := kd_62 (by decide +kernel)
theorem dX11_lookAt_194 : decode cX11_lookAt 194 = .ok (.aload_n 0, 1) := kd_42 (by decide +kernel)
theorem dX11_lookAt_195 : decode cX11_lookAt 195 = .ok (.dup, 1) := kd_89 (by decide +kernel)
theorem dX11_lookAt_196 : decode cX11_lookAt 196 = .ok (.getfield 247, 3) := kd_180 (a := 0) (b := 247) (by decide +kernel)
theorem dX11_lookAt_199 : decode cX11_lookAt 199 = .ok (.iload_n 3, 1) := kd_29 (by decide +kernel)
theorem dX11_lookAt_200 : decode cX11_lookAt 200 = .ok (.ifCond .eq 7, 3) := kd_153 (a := 0) (b := 7) (by decide +kernel)
theorem dX11_lookAt_203 : decode cX11_lookAt 203 = .ok (.iconst 1, 1) := kd_4 (by decide +kernel)
theorem dX11_lookAt_204 : decode cX11_lookAt 204 = .ok (.goto 4, 3) := kd_167 (a := 0) (b := 4) (by decide +kernel)
theorem dX11_lookAt_208 : decode cX11_lookAt 208 = .ok (.iadd, 1) := kd_96 (by decide +kernel)
theorem dX11_lookAt_209 : decode cX11_lookAt 209 = .ok (.putfield 247, 3) := kd_181 (a := 0) (b := 247) (by decide +kernel)
theorem dX11_lookAt_212 : decode cX11_lookAt 212 = .ok (.goto (-76), 3) := kd_167 (a := 255) (b := 180) (by decide +kernel)
theorem dX11_lookAt_207 : decode cX11_lookAt 207 = .ok (.iconst 0, 1) := kd_3 (by decide +kernel)
theorem dX11_lookAt_92 : decode cX11_lookAt 92 = .ok (.iload_n 2, 1) := kd_28 (by decide +kernel)
theorem gX11_lookAt_X11_isFigure : GoodIn wsX11_lookAt (va_wsS RX11 259 yX11_isFigure wsX11_isFigure) := gW_S (in_r19 (List.mem_of_getElem? (i := 21) rfl)) (in_r19 (List.mem_of_getElem? (i := 22) rfl)) (in_r1 (List.mem_of_getElem? (i := 5) rfl)) (in_r19 (List.mem_of_getElem? (i := 23) rfl))
theorem dX11_lookAt_93 : decode cX11_lookAt 93 = .ok (.invokestatic 259, 3) := kd_184 (a := 1) (b := 3) (by decide +kernel)
theorem dX11_lookAt_96 : decode cX11_lookAt 96 = .ok (.ifCond .eq 7, 3) := kd_153 (a := 0) (b := 7) (by decide +kernel)
theorem dX11_lookAt_99 : decode cX11_lookAt 99 = .ok (.iconst 2, 1) := kd_5 (by decide +kernel)
theorem dX11_lookAt_100 : decode cX11_lookAt 100 = .ok (.goto 14, 3) := kd_167 (a := 0) (b := 14) (by decide +kernel)
theorem dX11_lookAt_241 : decode cX11_lookAt 241 = .ok (.aload_n 0, 1) := kd_42 (by decide +kernel)
theorem dX11_lookAt_242 : decode cX11_lookAt 242 = .ok (.bipush 10, 2) := kd_16 (a := 10) (by decide +kernel)
theorem dX11_lookAt_244 : decode cX11_lookAt 244 = .ok (.aload_n 0, 1) := kd_42 (by decide +kernel)
theorem dX11_lookAt_245 : decode cX11_lookAt 245 = .ok (.getfield 253, 3) := kd_180 (a := 0) (b := 253) (by decide +kernel)
theorem dX11_lookAt_248 : decode cX11_lookAt 248 = .ok (.imul, 1) := kd_104 (by decide +kernel)
theorem dX11_lookAt_249 : decode cX11_lookAt 249 = .ok (.aload_n 0, 1) := kd_42 (by decide +kernel)
theorem dX11_lookAt_250 : decode cX11_lookAt 250 = .ok (.getfield 48, 3) := kd_180 (a := 0) (b := 48) (by decide +kernel)
theorem dX11_lookAt_253 : decode cX11_lookAt 253 = .ok (.aload_n 0, 1) := kd_42 (by decide +kernel)
theorem dX11_lookAt_254 : decode cX11_lookAt 254 = .ok (.getfield 244, 3) := kd_180 (a := 0) (b := 244) (by decide +kernel)
theorem dX11_lookAt_257 : decode cX11_lookAt 257 = .ok (.iload 4, 2) := kd_21 (a := 4) (by decide +kernel)
theorem dX11_lookAt_259 : decode cX11_lookAt 259 = .ok (.iadd, 1) := kd_96 (by decide +kernel)
theorem dX11_lookAt_260 : decode cX11_lookAt 260 = .ok (.iaload, 1) := kd_46 (by decide +kernel)
theorem dX11_lookAt_261 : decode cX11_lookAt 261 = .ok (.iadd, 1) := kd_96 (by decide +kernel)
theorem dX11_lookAt_262 : decode cX11_lookAt 262 = .ok (.bipush 48, 2) := kd_16 (a := 48) (by decide +kernel)
theorem dX11_lookAt_264 : decode cX11_lookAt 264 = .ok (.isub, 1) := kd_100 (by decide +kernel)
theorem dX11_lookAt_265 : decode cX11_lookAt 265 = .ok (.putfield 253, 3) := kd_181 (a := 0) (b := 253) (by decide +kernel)
theorem dX11_lookAt_268 : decode cX11_lookAt 268 = .ok (.iinc 4 1, 3) := kd_132 (a := 4) (b := 1) (by decide +kernel)
theorem dX11_lookAt_271 : decode cX11_lookAt 271 = .ok (.goto (-53), 3) := kd_167 (a := 255) (b := 203) (by decide +kernel)
theorem dX11_lookAt_283 : decode cX11_lookAt 283 = .ok (.aload_n 0, 1) := kd_42 (by decide +kernel)
theorem dX11_lookAt_284 : decode cX11_lookAt 284 = .ok (.getfield 247, 3) := kd_180 (a := 0) (b := 247) (by decide +kernel)
theorem dX11_lookAt_287 : decode cX11_lookAt 287 = .ok (.iconst 2, 1) := kd_5 (by decide +kernel)
theorem dX11_lookAt_288 : decode cX11_lookAt 288 = .ok (.if_icmp .le 7, 3) := kd_164 (a := 0) (b := 7) (by decide +kernel)
theorem dX11_lookAt_291 : decode cX11_lookAt 291 = .ok (.iconst 4, 1) := kd_7 (by decide +kernel)
theorem dX11_lookAt_292 : decode cX11_lookAt 292 = .ok (.goto 7, 3) := kd_167 (a := 0) (b := 7) (by decide +kernel)
theorem dX11_lookAt_188 : decode cX11_lookAt 188 = .ok (.iload 4, 2) := kd_21 (a := 4) (by decide +kernel)
theorem dX11_lookAt_190 : decode cX11_lookAt 190 = .ok (.invokestatic 259, 3) := kd_184 (a := 1) (b := 3) (by decide +kernel)
theorem dX11_lookAt_103 : decode cX11_lookAt 103 = .ok (.iload_n 2, 1) := kd_28 (by decide +kernel)
theorem dX11_lookAt_104 : decode cX11_lookAt 104 = .ok (.bipush 59, 2) := kd_16 (a := 59) (by decide +kernel)
theorem dX11_lookAt_106 : decode cX11_lookAt 106 = .ok (.if_icmp .ne 7, 3) := kd_160 (a := 0) (b := 7) (by decide +kernel)
theorem dX11_lookAt_113 : decode cX11_lookAt 113 = .ok (.iconst 4, 1) := kd_7 (by decide +kernel)
theorem dX11_lookAt_134 : decode cX11_lookAt 134 = .ok (.iconst 0, 1) := kd_3 (by decide +kernel)
theorem dX11_lookAt_109 : decode cX11_lookAt 109 = .ok (.iconst 3, 1) := kd_6 (by decide +kernel)
theorem dX11_lookAt_110 : decode cX11_lookAt 110 = .ok (.goto 4, 3) := kd_167 (a := 0) (b := 4) (by decide +kernel)
theorem dX11_lookAt_30 : decode cX11_lookAt 30 = .ok (.aload_n 0, 1) := kd_42 (by decide +kernel)
theorem dX11_lookAt_31 : decode cX11_lookAt 31 = .ok (.dup, 1) := kd_89 (by decide +kernel)
theorem dX11_lookAt_32 : decode cX11_lookAt 32 = .ok (.getfield 244, 3) := kd_180 (a := 0) (b := 244) (by decide +kernel)
theorem dX11_lookAt_35 : decode cX11_lookAt 35 = .ok (.iconst 1, 1) := kd_4 (by decide +kernel)
theorem dX11_lookAt_36 : decode cX11_lookAt 36 = .ok (.iadd, 1) := kd_96 (by decide +kernel)
theorem dX11_lookAt_37 : decode cX11_lookAt 37 = .ok (.putfield 244, 3) := kd_181 (a := 0) (b := 244) (by decide +kernel)
theorem dX11_lookAt_40 : decode cX11_lookAt 40 = .ok (.goto (-35), 3) := kd_167 (a := 255) (b := 221) (by decide +kernel)
set_option maxHeartbeats 8000000 in
set_option maxRecDepth 100000 in
theorem c_X11_lookAt (l : Launch) (G : gG) (m0 : Nat) (m_all : Nat) (m_kept : Nat) (m_isKept : Nat) (m_refused : Nat) (m_above : Int) (m_below : Int) (m_hand : Nat) (m_fewest : Nat) (m_whoBites : Nat) (m_leaves : Nat) (m_bestFeast : Nat) (m_tells : Nat) (m_hardOn : Nat) (m_bytes : Nat) (m_bytesLong : Int) (m_tokenAt : Int) (m_tokenLong : Int) (m_token : Int) (m_value : Int) (m_anew : Nat) (m_values : Nat) (my : Nat → Int) (f0 : Int) (y0_ : bd 0 127 my) (hL : 0 ≤ m_bytesLong ∧ m_bytesLong ≤ 150) (hf : 0 ≤ f0 ∧ f0 ≤ m_bytesLong) (sz : Nat) : gV G l yX11_lookAt wsX11_lookAt ({ frames := 2, cells := 0, slots := 0, locals := 45 } : Room) [.ref m0, .int (iI f0)] [(m0, .inr (10, [.ref m_all, .ref m_kept, .ref m_isKept, .ref m_refused, .long (lI m_above), .long (lI m_below), .ref m_hand, .ref m_fewest, .ref m_whoBites, .ref m_leaves, .ref m_bestFeast, .ref m_tells, .ref m_hardOn, .ref m_bytes, .int (iI m_bytesLong), .int (iI m_tokenAt), .int (iI m_tokenLong), .int (iI m_token), .int (iI m_value), .ref m_anew, .ref m_values])), (m_bytes, .inl (G.2 0, 150, .inl (cI my)))] sz (fun (u : va_W) => (∃ NtA : Int, ∃ NtL : Int, ∃ Ntk : Int, ∃ Nva : Int, (0 ≤ NtA ∧ 0 ≤ NtL ∧ NtA + NtL ≤ m_bytesLong) ∧ (0 ≤ Ntk ∧ Ntk ≤ 4) ∧ (Ntk = 0 ∨ 1 ≤ NtL) ∧ (-2000 ≤ Nva ∧ Nva ≤ 2000) ∧ (f0 ≤ NtA) ∧ (rt my m_bytesLong f0 NtA NtL Ntk Nva) ∧ u = [(m0, .inr (10, [.ref m_all, .ref m_kept, .ref m_isKept, .ref m_refused, .long (lI m_above), .long (lI m_below), .ref m_hand, .ref m_fewest, .ref m_whoBites, .ref m_leaves, .ref m_bestFeast, .ref m_tells, .ref m_hardOn, .ref m_bytes, .int (iI m_bytesLong), .int (iI NtA), .int (iI NtL), .int (iI Ntk), .int (iI Nva), .ref m_anew, .ref m_values])), (m_bytes, .inl (G.2 0, 150, .inl (cI my)))])) := by
  refine Met.ofW (cc := cX11_lookAt) (maxL := 5) (ret := none) (by decide) rfl ?_
  intro p e s m args below meth c s₁ B hml hv
  obtain ⟨rfl, hsz, hP, hK, hD0, hN, hZ⟩ := hv
  have hx := B.exec
  have hb := B.bytes
  have hr := B.returns
  have hts := atoms_spec (ws := wsX11_lookAt) B.pre
  have hown : s.vm.findClass RX11 = some m.cls := findClass_of_methodNamed B.named
  have hlocks := B.notSynchronized
  subst hsz
  have hD := hD0.self (sz := s.heap.size)
  generalize hAe : va_A [(m0, .inr (10, [.ref m_all, .ref m_kept, .ref m_isKept, .ref m_refused, .long (lI m_above), .long (lI m_below), .ref m_hand, .ref m_fewest, .ref m_whoBites, .ref m_leaves, .ref m_bestFeast, .ref m_tells, .ref m_hardOn, .ref m_bytes, .int (iI m_bytesLong), .int (iI m_tokenAt), .int (iI m_tokenLong), .int (iI m_token), .int (iI m_value), .ref m_anew, .ref m_values])), (m_bytes, .inl (G.2 0, 150, .inl (cI my)))] s.heap.size = A at hD hZ ⊢
  have hA : ∀ q : Nat, s.heap.size ≤ q → A q := fun q h => by rw [← hAe]; exact Or.inr h
  have hS : va_S A s.heap s.heap [] := va_S.rf
  have hP : va_P G.1 vwCl [(m0, .inr (10, [.ref m_all, .ref m_kept, .ref m_isKept, .ref m_refused, .long (lI m_above), .long (lI m_below), .ref m_hand, .ref m_fewest, .ref m_whoBites, .ref m_leaves, .ref m_bestFeast, .ref m_tells, .ref m_hardOn, .ref m_bytes, .int (iI m_bytesLong), .int (iI m_tokenAt), .int (iI m_tokenLong), .int (iI m_token), .int (iI m_value), .ref m_anew, .ref m_values])), (m_bytes, .inl (G.2 0, 150, .inl (cI my)))] s.heap := hP
  have hl := lv_entry ([.ref m0, .int (iI f0)]) (n := 5) (Nat.le_of_ble_eq_true rfl)
  rw [lg_entry_eq]
  generalize (lg_sl ([.ref m0, .int (iI f0)]) ++ List.replicate (5 - (lg_sl ([.ref m0, .int (iI f0)])).length) Slot.unset).toArray = ls at hl ⊢
  have hl : lv_has ls 5 [(0, .ref m0), (1, .int (iI f0))] := hl
  refine lv_aload_n hx hb dX11_lookAt_0 rfl (lv_at hl 0 rfl) ?_
  refine lv_iload_n hx hb dX11_lookAt_1 rfl (lv_at hl 1 rfl) ?_
  refine va_put (D := G.1) (ci := 10) (v := .int (iI f0)) (ty := .int) (C := RX11) (T := TX11) (N := 21) hx hb hts (fun _ h => List.mem_cons_of_mem _ (inlX11 _ h)) tyX11 tyX11_ok nmX11 hown hK hP hD hS 0 rfl rfl 15 (by decide) (hts _ (List.mem_cons_of_mem _ (in_r19 (List.mem_of_getElem? (i := 8) rfl)))) (fun _ h9 => h9) rfl (by decide +kernel) rfl rfl (Nat.le_of_ble_eq_true rfl) dX11_lookAt_2 (fun H locs hP hD hS => ?_)
  have hPD : PD G A H [(m0, .inr (10, [.ref m_all, .ref m_kept, .ref m_isKept, .ref m_refused, .long (lI m_above), .long (lI m_below), .ref m_hand, .ref m_fewest, .ref m_whoBites, .ref m_leaves, .ref m_bestFeast, .ref m_tells, .ref m_hardOn, .ref m_bytes, .int (iI m_bytesLong), .int (iI f0), .int (iI m_tokenLong), .int (iI m_token), .int (iI m_value), .ref m_anew, .ref m_values])), (m_bytes, .inl (G.2 0, 150, .inl (cI my)))] := ⟨hP, hD⟩
  have hP := hPD.1
  have hD := hPD.2
  clear hPD
  refine g_loopN (pc := 5) (fun nn H locs ls => ∃ ta_1 : Int, (f0 ≤ ta_1 ∧ ta_1 ≤ m_bytesLong) ∧ (fr my 32 32 f0 ta_1) ∧ (150 - ta_1).toNat = nn ∧ va_P G.1 vwCl [(m0, .inr (10, [.ref m_all, .ref m_kept, .ref m_isKept, .ref m_refused, .long (lI m_above), .long (lI m_below), .ref m_hand, .ref m_fewest, .ref m_whoBites, .ref m_leaves, .ref m_bestFeast, .ref m_tells, .ref m_hardOn, .ref m_bytes, .int (iI m_bytesLong), .int (iI ta_1), .int (iI m_tokenLong), .int (iI m_token), .int (iI m_value), .ref m_anew, .ref m_values])), (m_bytes, .inl (G.2 0, 150, .inl (cI my)))] H ∧ va_D A [(m0, .inr (10, [.ref m_all, .ref m_kept, .ref m_isKept, .ref m_refused, .long (lI m_above), .long (lI m_below), .ref m_hand, .ref m_fewest, .ref m_whoBites, .ref m_leaves, .ref m_bestFeast, .ref m_tells, .ref m_hardOn, .ref m_bytes, .int (iI m_bytesLong), .int (iI ta_1), .int (iI m_tokenLong), .int (iI m_token), .int (iI m_value), .ref m_anew, .ref m_values])), (m_bytes, .inl (G.2 0, 150, .inl (cI my)))] ∧ va_S A s.heap H locs ∧ lv_has ls 5 [(0, .ref m0), (1, .int (iI f0))]) ?_ ⟨f0, (by first | assumption | omega), (fr_0 (by omega)), rfl, hP, hD, hS, lv_sub hl [0, 1] rfl⟩
  intro nn_5 H locs ls ih_4 hI
  refine ea_1_7 hI (fun ta_1 f_2 f_3 hnn_6 hP hD hS hl => ?_)
  clear hI
  refine lv_aload_n hx hb dX11_lookAt_5 rfl (lv_at hl 0 rfl) ?_
  refine va_get (D := G.1) (ci := 10) (v := .int (iI ta_1)) (C := RX11) (T := TX11) (N := 21) hx hb hts (fun _ h => List.mem_cons_of_mem _ (inlX11 _ h)) hown hK hP 0 rfl rfl 15 (by decide) (hts _ (List.mem_cons_of_mem _ (in_r19 (List.mem_of_getElem? (i := 8) rfl)))) (fun _ h9 => h9) rfl dX11_lookAt_6 ?_
  refine lv_aload_n hx hb dX11_lookAt_9 rfl (lv_at hl 0 rfl) ?_
  refine va_get (D := G.1) (ci := 10) (v := .int (iI m_bytesLong)) (C := RX11) (T := TX11) (N := 21) hx hb hts (fun _ h => List.mem_cons_of_mem _ (inlX11 _ h)) hown hK hP 0 rfl rfl 14 (by decide) (hts _ (List.mem_cons_of_mem _ (in_r11 (List.mem_of_getElem? (i := 7) rfl)))) (fun _ h9 => h9) rfl dX11_lookAt_10 ?_
  refine lv_icmp_ge (tgt := 43) hx hb dX11_lookAt_13 (by decide) (fun c_7 => ?_) (fun c_7 => ?_)
  · have c_7 := (iI_le (a := m_bytesLong) (b := ta_1) (by omega) (by omega)).mp c_7
    refine lv_aload_n hx hb dX11_lookAt_43 rfl (lv_at hl 0 rfl) ?_
    refine lv_iconst (v := iI 0) hx hb dX11_lookAt_44 rfl ?_
    refine va_put (D := G.1) (ci := 10) (v := .int (iI 0)) (ty := .int) (C := RX11) (T := TX11) (N := 21) hx hb hts (fun _ h => List.mem_cons_of_mem _ (inlX11 _ h)) tyX11 tyX11_ok nmX11 hown hK hP hD hS 0 rfl rfl 16 (by decide) (hts _ (List.mem_cons_of_mem _ (in_r19 (List.mem_of_getElem? (i := 14) rfl)))) (fun _ h9 => h9) rfl (by decide +kernel) rfl rfl (Nat.le_of_ble_eq_true rfl) dX11_lookAt_45 (fun H locs hP hD hS => ?_)
    have hPD : PD G A H [(m0, .inr (10, [.ref m_all, .ref m_kept, .ref m_isKept, .ref m_refused, .long (lI m_above), .long (lI m_below), .ref m_hand, .ref m_fewest, .ref m_whoBites, .ref m_leaves, .ref m_bestFeast, .ref m_tells, .ref m_hardOn, .ref m_bytes, .int (iI m_bytesLong), .int (iI ta_1), .int (iI 0), .int (iI m_token), .int (iI m_value), .ref m_anew, .ref m_values])), (m_bytes, .inl (G.2 0, 150, .inl (cI my)))] := ⟨hP, hD⟩
    have hP := hPD.1
    have hD := hPD.2
    clear hPD
    refine lv_aload_n hx hb dX11_lookAt_48 rfl (lv_at hl 0 rfl) ?_
    refine lv_iconst (v := iI 0) hx hb dX11_lookAt_49 rfl ?_
    refine va_put (D := G.1) (ci := 10) (v := .int (iI 0)) (ty := .int) (C := RX11) (T := TX11) (N := 21) hx hb hts (fun _ h => List.mem_cons_of_mem _ (inlX11 _ h)) tyX11 tyX11_ok nmX11 hown hK hP hD hS 0 rfl rfl 17 (by decide) (hts _ (List.mem_cons_of_mem _ (in_r19 (List.mem_of_getElem? (i := 9) rfl)))) (fun _ h9 => h9) rfl (by decide +kernel) rfl rfl (Nat.le_of_ble_eq_true rfl) dX11_lookAt_50 (fun H locs hP hD hS => ?_)
    have hPD : PD G A H [(m0, .inr (10, [.ref m_all, .ref m_kept, .ref m_isKept, .ref m_refused, .long (lI m_above), .long (lI m_below), .ref m_hand, .ref m_fewest, .ref m_whoBites, .ref m_leaves, .ref m_bestFeast, .ref m_tells, .ref m_hardOn, .ref m_bytes, .int (iI m_bytesLong), .int (iI ta_1), .int (iI 0), .int (iI 0), .int (iI m_value), .ref m_anew, .ref m_values])), (m_bytes, .inl (G.2 0, 150, .inl (cI my)))] := ⟨hP, hD⟩
    have hP := hPD.1
    have hD := hPD.2
    clear hPD
    refine lv_aload_n hx hb dX11_lookAt_53 rfl (lv_at hl 0 rfl) ?_
    refine lv_iconst (v := iI 0) hx hb dX11_lookAt_54 rfl ?_
    refine va_put (D := G.1) (ci := 10) (v := .int (iI 0)) (ty := .int) (C := RX11) (T := TX11) (N := 21) hx hb hts (fun _ h => List.mem_cons_of_mem _ (inlX11 _ h)) tyX11 tyX11_ok nmX11 hown hK hP hD hS 0 rfl rfl 18 (by decide) (hts _ (List.mem_cons_of_mem _ (in_r19 (List.mem_of_getElem? (i := 15) rfl)))) (fun _ h9 => h9) rfl (by decide +kernel) rfl rfl (Nat.le_of_ble_eq_true rfl) dX11_lookAt_55 (fun H locs hP hD hS => ?_)
    have hPD : PD G A H [(m0, .inr (10, [.ref m_all, .ref m_kept, .ref m_isKept, .ref m_refused, .long (lI m_above), .long (lI m_below), .ref m_hand, .ref m_fewest, .ref m_whoBites, .ref m_leaves, .ref m_bestFeast, .ref m_tells, .ref m_hardOn, .ref m_bytes, .int (iI m_bytesLong), .int (iI ta_1), .int (iI 0), .int (iI 0), .int (iI 0), .ref m_anew, .ref m_values])), (m_bytes, .inl (G.2 0, 150, .inl (cI my)))] := ⟨hP, hD⟩
    have hP := hPD.1
    have hD := hPD.2
    clear hPD
    refine lv_aload_n hx hb dX11_lookAt_58 rfl (lv_at hl 0 rfl) ?_
    refine va_get (D := G.1) (ci := 10) (v := .int (iI ta_1)) (C := RX11) (T := TX11) (N := 21) hx hb hts (fun _ h => List.mem_cons_of_mem _ (inlX11 _ h)) hown hK hP 0 rfl rfl 15 (by decide) (hts _ (List.mem_cons_of_mem _ (in_r19 (List.mem_of_getElem? (i := 8) rfl)))) (fun _ h9 => h9) rfl dX11_lookAt_59 ?_
    refine lv_aload_n hx hb dX11_lookAt_62 rfl (lv_at hl 0 rfl) ?_
    refine va_get (D := G.1) (ci := 10) (v := .int (iI m_bytesLong)) (C := RX11) (T := TX11) (N := 21) hx hb hts (fun _ h => List.mem_cons_of_mem _ (inlX11 _ h)) hown hK hP 0 rfl rfl 14 (by decide) (hts _ (List.mem_cons_of_mem _ (in_r11 (List.mem_of_getElem? (i := 7) rfl)))) (fun _ h9 => h9) rfl dX11_lookAt_63 ?_
    refine lv_icmp_ne (tgt := 70) hx hb dX11_lookAt_66 (by decide) (fun c_8 => ?_) (fun c_8 => ?_)
    · have c_8 : ¬ (ta_1 = m_bytesLong) := fun h9 => c_8 ((iI_eq (a := ta_1) (b := m_bytesLong) (by omega) (by omega)).mpr h9)
      exfalso
      omega
    · have c_8 := (iI_eq (a := ta_1) (b := m_bytesLong) (by omega) (by omega)).mp c_8
      exact g_vret hx hb hr hlocks hP hD hS (⟨ta_1, 0, 0, 0, (by first | assumption | omega), (by first | assumption | omega), (by first | assumption | omega), (by first | assumption | omega), (by first | assumption | omega), (rt_0 (sk_of (by assumption) (by omega) (fun q9 => absurd q9 (by omega))) (by omega)), rfl⟩) dX11_lookAt_69
  · have c_7 : ¬ (m_bytesLong ≤ ta_1) := fun h9 => c_7 ((iI_le (a := m_bytesLong) (b := ta_1) (by omega) (by omega)).mpr h9)
    refine lv_aload_n hx hb dX11_lookAt_16 rfl (lv_at hl 0 rfl) ?_
    refine va_get (D := G.1) (ci := 10) (v := .ref m_bytes) (C := RX11) (T := TX11) (N := 21) hx hb hts (fun _ h => List.mem_cons_of_mem _ (inlX11 _ h)) hown hK hP 0 rfl rfl 13 (by decide) (hts _ (List.mem_cons_of_mem _ (in_r6 (List.mem_of_getElem? (i := 12) rfl)))) (fun _ h9 => h9) rfl dX11_lookAt_17 ?_
    refine lv_aload_n hx hb dX11_lookAt_20 rfl (lv_at hl 0 rfl) ?_
    refine va_get (D := G.1) (ci := 10) (v := .int (iI ta_1)) (C := RX11) (T := TX11) (N := 21) hx hb hts (fun _ h => List.mem_cons_of_mem _ (inlX11 _ h)) hown hK hP 0 rfl rfl 15 (by decide) (hts _ (List.mem_cons_of_mem _ (in_r19 (List.mem_of_getElem? (i := 8) rfl)))) (fun _ h9 => h9) rfl dX11_lookAt_21 ?_
    refine g_ild hx hb hK hP 1 rfl (by omega) (by omega) (by first | exact Nat.le_of_ble_eq_true rfl | omega) dX11_lookAt_24 (fun w_9 ew_9 => ?_)
    have ew_9 : my (ta_1.toNat) = w_9 := ew_9
    subst ew_9
    have b0w_9 := y0_ (ta_1.toNat)
    refine lv_bipush (v := iI 32) hx hb dX11_lookAt_25 (by decide) ?_
    refine lv_icmp_ne (tgt := 43) hx hb dX11_lookAt_27 (by decide) (fun c_10 => ?_) (fun c_10 => ?_)
    · have c_10 : ¬ ((my (ta_1.toNat)) = 32) := fun h9 => c_10 ((iI_eq (a := (my (ta_1.toNat))) (b := 32) (by omega) (by first | decide | omega)).mpr h9)
      refine lv_aload_n hx hb dX11_lookAt_43 rfl (lv_at hl 0 rfl) ?_
      refine lv_iconst (v := iI 0) hx hb dX11_lookAt_44 rfl ?_
      refine va_put (D := G.1) (ci := 10) (v := .int (iI 0)) (ty := .int) (C := RX11) (T := TX11) (N := 21) hx hb hts (fun _ h => List.mem_cons_of_mem _ (inlX11 _ h)) tyX11 tyX11_ok nmX11 hown hK hP hD hS 0 rfl rfl 16 (by decide) (hts _ (List.mem_cons_of_mem _ (in_r19 (List.mem_of_getElem? (i := 14) rfl)))) (fun _ h9 => h9) rfl (by decide +kernel) rfl rfl (Nat.le_of_ble_eq_true rfl) dX11_lookAt_45 (fun H locs hP hD hS => ?_)
      have hPD : PD G A H [(m0, .inr (10, [.ref m_all, .ref m_kept, .ref m_isKept, .ref m_refused, .long (lI m_above), .long (lI m_below), .ref m_hand, .ref m_fewest, .ref m_whoBites, .ref m_leaves, .ref m_bestFeast, .ref m_tells, .ref m_hardOn, .ref m_bytes, .int (iI m_bytesLong), .int (iI ta_1), .int (iI 0), .int (iI m_token), .int (iI m_value), .ref m_anew, .ref m_values])), (m_bytes, .inl (G.2 0, 150, .inl (cI my)))] := ⟨hP, hD⟩
      have hP := hPD.1
      have hD := hPD.2
      clear hPD
      refine lv_aload_n hx hb dX11_lookAt_48 rfl (lv_at hl 0 rfl) ?_
      refine lv_iconst (v := iI 0) hx hb dX11_lookAt_49 rfl ?_
      refine va_put (D := G.1) (ci := 10) (v := .int (iI 0)) (ty := .int) (C := RX11) (T := TX11) (N := 21) hx hb hts (fun _ h => List.mem_cons_of_mem _ (inlX11 _ h)) tyX11 tyX11_ok nmX11 hown hK hP hD hS 0 rfl rfl 17 (by decide) (hts _ (List.mem_cons_of_mem _ (in_r19 (List.mem_of_getElem? (i := 9) rfl)))) (fun _ h9 => h9) rfl (by decide +kernel) rfl rfl (Nat.le_of_ble_eq_true rfl) dX11_lookAt_50 (fun H locs hP hD hS => ?_)
      have hPD : PD G A H [(m0, .inr (10, [.ref m_all, .ref m_kept, .ref m_isKept, .ref m_refused, .long (lI m_above), .long (lI m_below), .ref m_hand, .ref m_fewest, .ref m_whoBites, .ref m_leaves, .ref m_bestFeast, .ref m_tells, .ref m_hardOn, .ref m_bytes, .int (iI m_bytesLong), .int (iI ta_1), .int (iI 0), .int (iI 0), .int (iI m_value), .ref m_anew, .ref m_values])), (m_bytes, .inl (G.2 0, 150, .inl (cI my)))] := ⟨hP, hD⟩
      have hP := hPD.1
      have hD := hPD.2
      clear hPD
      refine lv_aload_n hx hb dX11_lookAt_53 rfl (lv_at hl 0 rfl) ?_
      refine lv_iconst (v := iI 0) hx hb dX11_lookAt_54 rfl ?_
      refine va_put (D := G.1) (ci := 10) (v := .int (iI 0)) (ty := .int) (C := RX11) (T := TX11) (N := 21) hx hb hts (fun _ h => List.mem_cons_of_mem _ (inlX11 _ h)) tyX11 tyX11_ok nmX11 hown hK hP hD hS 0 rfl rfl 18 (by decide) (hts _ (List.mem_cons_of_mem _ (in_r19 (List.mem_of_getElem? (i := 15) rfl)))) (fun _ h9 => h9) rfl (by decide +kernel) rfl rfl (Nat.le_of_ble_eq_true rfl) dX11_lookAt_55 (fun H locs hP hD hS => ?_)
      have hPD : PD G A H [(m0, .inr (10, [.ref m_all, .ref m_kept, .ref m_isKept, .ref m_refused, .long (lI m_above), .long (lI m_below), .ref m_hand, .ref m_fewest, .ref m_whoBites, .ref m_leaves, .ref m_bestFeast, .ref m_tells, .ref m_hardOn, .ref m_bytes, .int (iI m_bytesLong), .int (iI ta_1), .int (iI 0), .int (iI 0), .int (iI 0), .ref m_anew, .ref m_values])), (m_bytes, .inl (G.2 0, 150, .inl (cI my)))] := ⟨hP, hD⟩
      have hP := hPD.1
      have hD := hPD.2
      clear hPD
      refine lv_aload_n hx hb dX11_lookAt_58 rfl (lv_at hl 0 rfl) ?_
      refine va_get (D := G.1) (ci := 10) (v := .int (iI ta_1)) (C := RX11) (T := TX11) (N := 21) hx hb hts (fun _ h => List.mem_cons_of_mem _ (inlX11 _ h)) hown hK hP 0 rfl rfl 15 (by decide) (hts _ (List.mem_cons_of_mem _ (in_r19 (List.mem_of_getElem? (i := 8) rfl)))) (fun _ h9 => h9) rfl dX11_lookAt_59 ?_
      refine lv_aload_n hx hb dX11_lookAt_62 rfl (lv_at hl 0 rfl) ?_
      refine va_get (D := G.1) (ci := 10) (v := .int (iI m_bytesLong)) (C := RX11) (T := TX11) (N := 21) hx hb hts (fun _ h => List.mem_cons_of_mem _ (inlX11 _ h)) hown hK hP 0 rfl rfl 14 (by decide) (hts _ (List.mem_cons_of_mem _ (in_r11 (List.mem_of_getElem? (i := 7) rfl)))) (fun _ h9 => h9) rfl dX11_lookAt_63 ?_
      refine lv_icmp_ne (tgt := 70) hx hb dX11_lookAt_66 (by decide) (fun c_11 => ?_) (fun c_11 => ?_)
      · have c_11 : ¬ (ta_1 = m_bytesLong) := fun h9 => c_11 ((iI_eq (a := ta_1) (b := m_bytesLong) (by omega) (by omega)).mpr h9)
        refine lv_aload_n hx hb dX11_lookAt_70 rfl (lv_at hl 0 rfl) ?_
        refine va_get (D := G.1) (ci := 10) (v := .ref m_bytes) (C := RX11) (T := TX11) (N := 21) hx hb hts (fun _ h => List.mem_cons_of_mem _ (inlX11 _ h)) hown hK hP 0 rfl rfl 13 (by decide) (hts _ (List.mem_cons_of_mem _ (in_r6 (List.mem_of_getElem? (i := 12) rfl)))) (fun _ h9 => h9) rfl dX11_lookAt_71 ?_
        refine lv_aload_n hx hb dX11_lookAt_74 rfl (lv_at hl 0 rfl) ?_
        refine va_get (D := G.1) (ci := 10) (v := .int (iI ta_1)) (C := RX11) (T := TX11) (N := 21) hx hb hts (fun _ h => List.mem_cons_of_mem _ (inlX11 _ h)) hown hK hP 0 rfl rfl 15 (by decide) (hts _ (List.mem_cons_of_mem _ (in_r19 (List.mem_of_getElem? (i := 8) rfl)))) (fun _ h9 => h9) rfl dX11_lookAt_75 ?_
        refine g_ild hx hb hK hP 1 rfl (by omega) (by omega) (by first | exact Nat.le_of_ble_eq_true rfl | omega) dX11_lookAt_78 (fun w_12 ew_12 => ?_)
        have ew_12 : my (ta_1.toNat) = w_12 := ew_12
        subst ew_12
        have b0w_12 := y0_ (ta_1.toNat)
        refine lv_istore_n (lv' := [(2, .int (iI (my (ta_1.toNat)))), (0, .ref m0), (1, .int (iI f0))]) hx hb dX11_lookAt_79 rfl hl (by decide) rfl (fun ls hl => ?_)
        refine lv_aload_n hx hb dX11_lookAt_80 rfl (lv_at hl 1 rfl) ?_
        refine lv_iload_n hx hb dX11_lookAt_81 rfl (lv_at hl 0 rfl) ?_
        refine g_calli (wr := [(m0, .inr (10, [.ref m_all, .ref m_kept, .ref m_isKept, .ref m_refused, .long (lI m_above), .long (lI m_below), .ref m_hand, .ref m_fewest, .ref m_whoBites, .ref m_leaves, .ref m_bestFeast, .ref m_tells, .ref m_hardOn, .ref m_bytes, .int (iI m_bytesLong), .int (iI ta_1), .int (iI 0), .int (iI 0), .int (iI 0), .ref m_anew, .ref m_values])), (m_bytes, .inl (G.2 0, 150, .inl (cI my)))]) (va_runS (As := [.int (iI (my (ta_1.toNat)))]) (rest := [.ref m0]) ⟨hx, hb, hml, hown, hts⟩ (c_X11_isSmall l G ((my (ta_1.toNat))) (by first | assumption | omega) _) (va_cwS 1 hts gX11_lookAt_X11_isSmall rfl rfl rfl (by decide +kernel) ⟨Nat.le_of_ble_eq_true rfl, Nat.le_of_ble_eq_true rfl⟩) (g_preS [.int (iI (my (ta_1.toNat)))] hP hD hK hN hS hA hZ [] rfl rfl) rfl rfl hl.1 rfl (lv_room (Nat.le_of_ble_eq_true rfl)) dX11_lookAt_82 ⟨Nat.le_of_ble_eq_true rfl, Nat.le_of_ble_eq_true rfl⟩) hP hD hS hA [] [0, 1] rfl rfl rfl (by decide) (fun r_13 u H locs hw hP hD hS => ?_)
        rcases hw with hw | hw
        · refine ea_0_4 hw (fun k_14 k_15 e8_0 e8_1 => ?_)
          subst e8_0
          subst e8_1
          clear hw
          have hPD : PD G A H [(m0, .inr (10, [.ref m_all, .ref m_kept, .ref m_isKept, .ref m_refused, .long (lI m_above), .long (lI m_below), .ref m_hand, .ref m_fewest, .ref m_whoBites, .ref m_leaves, .ref m_bestFeast, .ref m_tells, .ref m_hardOn, .ref m_bytes, .int (iI m_bytesLong), .int (iI ta_1), .int (iI 0), .int (iI 0), .int (iI 0), .ref m_anew, .ref m_values])), (m_bytes, .inl (G.2 0, 150, .inl (cI my)))] := ⟨hP, hD⟩
          have hP := hPD.1
          have hD := hPD.2
          clear hPD
          refine lv_if_eq (tgt := 92) hx hb dX11_lookAt_85 (by decide) (fun c_17 => g_no c_17 (by decide)) (fun _ => ?_)
          refine lv_iconst (v := iI 1) hx hb dX11_lookAt_88 rfl ?_
          refine lv_goto (tgt := 114) hx hb dX11_lookAt_89 (by decide) ?_
          refine va_put (D := G.1) (ci := 10) (v := .int (iI 1)) (ty := .int) (C := RX11) (T := TX11) (N := 21) hx hb hts (fun _ h => List.mem_cons_of_mem _ (inlX11 _ h)) tyX11 tyX11_ok nmX11 hown hK hP hD hS 0 rfl rfl 17 (by decide) (hts _ (List.mem_cons_of_mem _ (in_r19 (List.mem_of_getElem? (i := 9) rfl)))) (fun _ h9 => h9) rfl (by decide +kernel) rfl rfl (Nat.le_of_ble_eq_true rfl) dX11_lookAt_114 (fun H locs hP hD hS => ?_)
          have hPD : PD G A H [(m0, .inr (10, [.ref m_all, .ref m_kept, .ref m_isKept, .ref m_refused, .long (lI m_above), .long (lI m_below), .ref m_hand, .ref m_fewest, .ref m_whoBites, .ref m_leaves, .ref m_bestFeast, .ref m_tells, .ref m_hardOn, .ref m_bytes, .int (iI m_bytesLong), .int (iI ta_1), .int (iI 0), .int (iI 1), .int (iI 0), .ref m_anew, .ref m_values])), (m_bytes, .inl (G.2 0, 150, .inl (cI my)))] := ⟨hP, hD⟩
          have hP := hPD.1
          have hD := hPD.2
          clear hPD
          refine lv_aload_n hx hb dX11_lookAt_117 rfl (lv_at hl 1 rfl) ?_
          refine lv_iconst (v := iI 1) hx hb dX11_lookAt_118 rfl ?_
          refine va_put (D := G.1) (ci := 10) (v := .int (iI 1)) (ty := .int) (C := RX11) (T := TX11) (N := 21) hx hb hts (fun _ h => List.mem_cons_of_mem _ (inlX11 _ h)) tyX11 tyX11_ok nmX11 hown hK hP hD hS 0 rfl rfl 16 (by decide) (hts _ (List.mem_cons_of_mem _ (in_r19 (List.mem_of_getElem? (i := 14) rfl)))) (fun _ h9 => h9) rfl (by decide +kernel) rfl rfl (Nat.le_of_ble_eq_true rfl) dX11_lookAt_119 (fun H locs hP hD hS => ?_)
          have hPD : PD G A H [(m0, .inr (10, [.ref m_all, .ref m_kept, .ref m_isKept, .ref m_refused, .long (lI m_above), .long (lI m_below), .ref m_hand, .ref m_fewest, .ref m_whoBites, .ref m_leaves, .ref m_bestFeast, .ref m_tells, .ref m_hardOn, .ref m_bytes, .int (iI m_bytesLong), .int (iI ta_1), .int (iI 1), .int (iI 1), .int (iI 0), .ref m_anew, .ref m_values])), (m_bytes, .inl (G.2 0, 150, .inl (cI my)))] := ⟨hP, hD⟩
          have hP := hPD.1
          have hD := hPD.2
          clear hPD
          refine lv_aload_n hx hb dX11_lookAt_122 rfl (lv_at hl 1 rfl) ?_
          refine va_get (D := G.1) (ci := 10) (v := .int (iI 1)) (C := RX11) (T := TX11) (N := 21) hx hb hts (fun _ h => List.mem_cons_of_mem _ (inlX11 _ h)) hown hK hP 0 rfl rfl 17 (by decide) (hts _ (List.mem_cons_of_mem _ (in_r19 (List.mem_of_getElem? (i := 9) rfl)))) (fun _ h9 => h9) rfl dX11_lookAt_123 ?_
          refine lv_iconst (v := iI 3) hx hb dX11_lookAt_126 rfl ?_
          refine lv_icmp_ge (tgt := 134) hx hb dX11_lookAt_127 (by decide) (fun c_18 => g_no c_18 (by decide)) (fun _ => ?_)
          refine lv_iconst (v := iI 1) hx hb dX11_lookAt_130 rfl ?_
          refine lv_goto (tgt := 135) hx hb dX11_lookAt_131 (by decide) ?_
          refine lv_istore_n (lv' := [(3, .int (iI 1)), (2, .int (iI (my (ta_1.toNat)))), (0, .ref m0), (1, .int (iI f0))]) hx hb dX11_lookAt_135 rfl hl (by decide) rfl (fun ls hl => ?_)
          refine g_loopN (pc := 136) (fun nn H locs ls => ∃ g0__19 : Int, ∃ tl__20 : Int, (g0__19 = 0 ∨ g0__19 = 1) ∧ (1 ≤ tl__20 ∧ ta_1 + tl__20 ≤ m_bytesLong) ∧ (lkI my m_bytesLong 1 ta_1 tl__20 g0__19) ∧ (2 * (150 - tl__20) + g0__19).toNat = nn ∧ va_P G.1 vwCl [(m0, .inr (10, [.ref m_all, .ref m_kept, .ref m_isKept, .ref m_refused, .long (lI m_above), .long (lI m_below), .ref m_hand, .ref m_fewest, .ref m_whoBites, .ref m_leaves, .ref m_bestFeast, .ref m_tells, .ref m_hardOn, .ref m_bytes, .int (iI m_bytesLong), .int (iI ta_1), .int (iI tl__20), .int (iI 1), .int (iI 0), .ref m_anew, .ref m_values])), (m_bytes, .inl (G.2 0, 150, .inl (cI my)))] H ∧ va_D A [(m0, .inr (10, [.ref m_all, .ref m_kept, .ref m_isKept, .ref m_refused, .long (lI m_above), .long (lI m_below), .ref m_hand, .ref m_fewest, .ref m_whoBites, .ref m_leaves, .ref m_bestFeast, .ref m_tells, .ref m_hardOn, .ref m_bytes, .int (iI m_bytesLong), .int (iI ta_1), .int (iI tl__20), .int (iI 1), .int (iI 0), .ref m_anew, .ref m_values])), (m_bytes, .inl (G.2 0, 150, .inl (cI my)))] ∧ va_S A s.heap H locs ∧ lv_has ls 5 [(3, .int (iI g0__19)), (2, .int (iI (my (ta_1.toNat)))), (0, .ref m0), (1, .int (iI f0))]) ?_ ⟨1, 1, (by first | assumption | omega), (by first | assumption | omega), (lkI_0 (by omega) (by omega)), rfl, hP, hD, hS, lv_sub hl [0, 1, 2, 3] rfl⟩
          intro nn_25 H locs ls ih_24 hI
          refine ea_2_8 hI (fun g0__19 tl__20 f_21 f_22 f_23 hnn_26 hP hD hS hl => ?_)
          clear hI
          refine lv_iload_n hx hb dX11_lookAt_136 rfl (lv_at hl 0 rfl) ?_
          refine lv_if_eq (tgt := 215) hx hb dX11_lookAt_137 (by decide) (fun c_27 => ?_) (fun c_27 => ?_)
          · have c_27 := (iI_eq (a := g0__19) (b := 0) (by omega) (by first | decide | omega)).mp c_27
            refine lv_iconst (v := iI 0) hx hb dX11_lookAt_215 rfl ?_
            refine lv_istore (lv' := [(4, .int (iI 0)), (3, .int (iI g0__19)), (2, .int (iI (my (ta_1.toNat)))), (0, .ref m0), (1, .int (iI f0))]) hx hb dX11_lookAt_216 hl (by decide) rfl (fun ls hl => ?_)
            refine lv_iload hx hb dX11_lookAt_218 (lv_at hl 0 rfl) ?_
            refine lv_aload_n hx hb dX11_lookAt_220 rfl (lv_at hl 3 rfl) ?_
            refine va_get (D := G.1) (ci := 10) (v := .int (iI tl__20)) (C := RX11) (T := TX11) (N := 21) hx hb hts (fun _ h => List.mem_cons_of_mem _ (inlX11 _ h)) hown hK hP 0 rfl rfl 16 (by decide) (hts _ (List.mem_cons_of_mem _ (in_r19 (List.mem_of_getElem? (i := 14) rfl)))) (fun _ h9 => h9) rfl dX11_lookAt_221 ?_
            refine lv_icmp_ge (tgt := 274) hx hb dX11_lookAt_224 (by decide) (fun c_28 => ?_) (fun c_28 => ?_)
            · have c_28 := (iI_le (a := tl__20) (b := 0) (by omega) (by first | decide | omega)).mp c_28
              exfalso
              omega
            · have c_28 : ¬ (tl__20 ≤ 0) := fun h9 => c_28 ((iI_le (a := tl__20) (b := 0) (by omega) (by first | decide | omega)).mpr h9)
              refine lv_iload hx hb dX11_lookAt_227 (lv_at hl 0 rfl) ?_
              refine lv_iconst (v := iI 2) hx hb dX11_lookAt_229 rfl ?_
              refine lv_icmp_ge (tgt := 274) hx hb dX11_lookAt_230 (by decide) (fun c_29 => g_no c_29 (by decide)) (fun _ => ?_)
              refine lv_aload_n hx hb dX11_lookAt_233 rfl (lv_at hl 3 rfl) ?_
              refine va_get (D := G.1) (ci := 10) (v := .int (iI 1)) (C := RX11) (T := TX11) (N := 21) hx hb hts (fun _ h => List.mem_cons_of_mem _ (inlX11 _ h)) hown hK hP 0 rfl rfl 17 (by decide) (hts _ (List.mem_cons_of_mem _ (in_r19 (List.mem_of_getElem? (i := 9) rfl)))) (fun _ h9 => h9) rfl dX11_lookAt_234 ?_
              refine lv_iconst (v := iI 2) hx hb dX11_lookAt_237 rfl ?_
              refine lv_icmp_ne (tgt := 274) hx hb dX11_lookAt_238 (by decide) (fun _ => ?_) (fun c_30 => g_no c_30 (by decide))
              refine lv_aload_n hx hb dX11_lookAt_274 rfl (lv_at hl 3 rfl) ?_
              refine lv_aload_n hx hb dX11_lookAt_275 rfl (lv_at hl 3 rfl) ?_
              refine va_get (D := G.1) (ci := 10) (v := .int (iI 1)) (C := RX11) (T := TX11) (N := 21) hx hb hts (fun _ h => List.mem_cons_of_mem _ (inlX11 _ h)) hown hK hP 0 rfl rfl 17 (by decide) (hts _ (List.mem_cons_of_mem _ (in_r19 (List.mem_of_getElem? (i := 9) rfl)))) (fun _ h9 => h9) rfl dX11_lookAt_276 ?_
              refine lv_iconst (v := iI 2) hx hb dX11_lookAt_279 rfl ?_
              refine lv_icmp_ne (tgt := 295) hx hb dX11_lookAt_280 (by decide) (fun _ => ?_) (fun c_31 => g_no c_31 (by decide))
              refine lv_aload_n hx hb dX11_lookAt_295 rfl (lv_at hl 3 rfl) ?_
              refine va_get (D := G.1) (ci := 10) (v := .int (iI 1)) (C := RX11) (T := TX11) (N := 21) hx hb hts (fun _ h => List.mem_cons_of_mem _ (inlX11 _ h)) hown hK hP 0 rfl rfl 17 (by decide) (hts _ (List.mem_cons_of_mem _ (in_r19 (List.mem_of_getElem? (i := 9) rfl)))) (fun _ h9 => h9) rfl dX11_lookAt_296 ?_
              refine va_put (D := G.1) (ci := 10) (v := .int (iI 1)) (ty := .int) (C := RX11) (T := TX11) (N := 21) hx hb hts (fun _ h => List.mem_cons_of_mem _ (inlX11 _ h)) tyX11 tyX11_ok nmX11 hown hK hP hD hS 0 rfl rfl 17 (by decide) (hts _ (List.mem_cons_of_mem _ (in_r19 (List.mem_of_getElem? (i := 9) rfl)))) (fun _ h9 => h9) rfl (by decide +kernel) rfl rfl (Nat.le_of_ble_eq_true rfl) dX11_lookAt_299 (fun H locs hP hD hS => ?_)
              have hPD : PD G A H [(m0, .inr (10, [.ref m_all, .ref m_kept, .ref m_isKept, .ref m_refused, .long (lI m_above), .long (lI m_below), .ref m_hand, .ref m_fewest, .ref m_whoBites, .ref m_leaves, .ref m_bestFeast, .ref m_tells, .ref m_hardOn, .ref m_bytes, .int (iI m_bytesLong), .int (iI ta_1), .int (iI tl__20), .int (iI 1), .int (iI 0), .ref m_anew, .ref m_values])), (m_bytes, .inl (G.2 0, 150, .inl (cI my)))] := ⟨hP, hD⟩
              have hP := hPD.1
              have hD := hPD.2
              clear hPD
              exact g_vret hx hb hr hlocks hP hD hS (⟨ta_1, tl__20, 1, 0, (by first | assumption | omega), (by first | assumption | omega), (by first | assumption | omega), (by first | assumption | omega), (by first | assumption | omega), (rt_i (t := 1) (g := g0__19) (sk_of (by assumption) (by omega) (fun _ => by omega)) (by omega) (by omega) f_23 (by omega) (by omega) (by omega) (by omega)), rfl⟩) dX11_lookAt_302
          · have c_27 : ¬ (g0__19 = 0) := fun h9 => c_27 ((iI_eq (a := g0__19) (b := 0) (by omega) (by first | decide | omega)).mpr h9)
            refine lv_aload_n hx hb dX11_lookAt_140 rfl (lv_at hl 2 rfl) ?_
            refine va_get (D := G.1) (ci := 10) (v := .int (iI ta_1)) (C := RX11) (T := TX11) (N := 21) hx hb hts (fun _ h => List.mem_cons_of_mem _ (inlX11 _ h)) hown hK hP 0 rfl rfl 15 (by decide) (hts _ (List.mem_cons_of_mem _ (in_r19 (List.mem_of_getElem? (i := 8) rfl)))) (fun _ h9 => h9) rfl dX11_lookAt_141 ?_
            refine lv_aload_n hx hb dX11_lookAt_144 rfl (lv_at hl 2 rfl) ?_
            refine va_get (D := G.1) (ci := 10) (v := .int (iI tl__20)) (C := RX11) (T := TX11) (N := 21) hx hb hts (fun _ h => List.mem_cons_of_mem _ (inlX11 _ h)) hown hK hP 0 rfl rfl 16 (by decide) (hts _ (List.mem_cons_of_mem _ (in_r19 (List.mem_of_getElem? (i := 14) rfl)))) (fun _ h9 => h9) rfl dX11_lookAt_145 ?_
            refine lv_iadd hx hb dX11_lookAt_148 ?_
            refine g_topi (y := iI (ta_1 + tl__20)) (iI_add ta_1 tl__20) ?_
            refine lv_aload_n hx hb dX11_lookAt_149 rfl (lv_at hl 2 rfl) ?_
            refine va_get (D := G.1) (ci := 10) (v := .int (iI m_bytesLong)) (C := RX11) (T := TX11) (N := 21) hx hb hts (fun _ h => List.mem_cons_of_mem _ (inlX11 _ h)) hown hK hP 0 rfl rfl 14 (by decide) (hts _ (List.mem_cons_of_mem _ (in_r11 (List.mem_of_getElem? (i := 7) rfl)))) (fun _ h9 => h9) rfl dX11_lookAt_150 ?_
            refine lv_icmp_ge (tgt := 215) hx hb dX11_lookAt_153 (by decide) (fun c_32 => ?_) (fun c_32 => ?_)
            · have c_32 := (iI_le (a := m_bytesLong) (b := (ta_1 + tl__20)) (by omega) (by omega)).mp c_32
              refine lv_iconst (v := iI 0) hx hb dX11_lookAt_215 rfl ?_
              refine lv_istore (lv' := [(4, .int (iI 0)), (3, .int (iI g0__19)), (2, .int (iI (my (ta_1.toNat)))), (0, .ref m0), (1, .int (iI f0))]) hx hb dX11_lookAt_216 hl (by decide) rfl (fun ls hl => ?_)
              refine lv_iload hx hb dX11_lookAt_218 (lv_at hl 0 rfl) ?_
              refine lv_aload_n hx hb dX11_lookAt_220 rfl (lv_at hl 3 rfl) ?_
              refine va_get (D := G.1) (ci := 10) (v := .int (iI tl__20)) (C := RX11) (T := TX11) (N := 21) hx hb hts (fun _ h => List.mem_cons_of_mem _ (inlX11 _ h)) hown hK hP 0 rfl rfl 16 (by decide) (hts _ (List.mem_cons_of_mem _ (in_r19 (List.mem_of_getElem? (i := 14) rfl)))) (fun _ h9 => h9) rfl dX11_lookAt_221 ?_
              refine lv_icmp_ge (tgt := 274) hx hb dX11_lookAt_224 (by decide) (fun c_33 => ?_) (fun c_33 => ?_)
              · have c_33 := (iI_le (a := tl__20) (b := 0) (by omega) (by first | decide | omega)).mp c_33
                exfalso
                omega
              · have c_33 : ¬ (tl__20 ≤ 0) := fun h9 => c_33 ((iI_le (a := tl__20) (b := 0) (by omega) (by first | decide | omega)).mpr h9)
                refine lv_iload hx hb dX11_lookAt_227 (lv_at hl 0 rfl) ?_
                refine lv_iconst (v := iI 2) hx hb dX11_lookAt_229 rfl ?_
                refine lv_icmp_ge (tgt := 274) hx hb dX11_lookAt_230 (by decide) (fun c_34 => g_no c_34 (by decide)) (fun _ => ?_)
                refine lv_aload_n hx hb dX11_lookAt_233 rfl (lv_at hl 3 rfl) ?_
                refine va_get (D := G.1) (ci := 10) (v := .int (iI 1)) (C := RX11) (T := TX11) (N := 21) hx hb hts (fun _ h => List.mem_cons_of_mem _ (inlX11 _ h)) hown hK hP 0 rfl rfl 17 (by decide) (hts _ (List.mem_cons_of_mem _ (in_r19 (List.mem_of_getElem? (i := 9) rfl)))) (fun _ h9 => h9) rfl dX11_lookAt_234 ?_
                refine lv_iconst (v := iI 2) hx hb dX11_lookAt_237 rfl ?_
                refine lv_icmp_ne (tgt := 274) hx hb dX11_lookAt_238 (by decide) (fun _ => ?_) (fun c_35 => g_no c_35 (by decide))
                refine lv_aload_n hx hb dX11_lookAt_274 rfl (lv_at hl 3 rfl) ?_
                refine lv_aload_n hx hb dX11_lookAt_275 rfl (lv_at hl 3 rfl) ?_
                refine va_get (D := G.1) (ci := 10) (v := .int (iI 1)) (C := RX11) (T := TX11) (N := 21) hx hb hts (fun _ h => List.mem_cons_of_mem _ (inlX11 _ h)) hown hK hP 0 rfl rfl 17 (by decide) (hts _ (List.mem_cons_of_mem _ (in_r19 (List.mem_of_getElem? (i := 9) rfl)))) (fun _ h9 => h9) rfl dX11_lookAt_276 ?_
                refine lv_iconst (v := iI 2) hx hb dX11_lookAt_279 rfl ?_
                refine lv_icmp_ne (tgt := 295) hx hb dX11_lookAt_280 (by decide) (fun _ => ?_) (fun c_36 => g_no c_36 (by decide))
                refine lv_aload_n hx hb dX11_lookAt_295 rfl (lv_at hl 3 rfl) ?_
                refine va_get (D := G.1) (ci := 10) (v := .int (iI 1)) (C := RX11) (T := TX11) (N := 21) hx hb hts (fun _ h => List.mem_cons_of_mem _ (inlX11 _ h)) hown hK hP 0 rfl rfl 17 (by decide) (hts _ (List.mem_cons_of_mem _ (in_r19 (List.mem_of_getElem? (i := 9) rfl)))) (fun _ h9 => h9) rfl dX11_lookAt_296 ?_
                refine va_put (D := G.1) (ci := 10) (v := .int (iI 1)) (ty := .int) (C := RX11) (T := TX11) (N := 21) hx hb hts (fun _ h => List.mem_cons_of_mem _ (inlX11 _ h)) tyX11 tyX11_ok nmX11 hown hK hP hD hS 0 rfl rfl 17 (by decide) (hts _ (List.mem_cons_of_mem _ (in_r19 (List.mem_of_getElem? (i := 9) rfl)))) (fun _ h9 => h9) rfl (by decide +kernel) rfl rfl (Nat.le_of_ble_eq_true rfl) dX11_lookAt_299 (fun H locs hP hD hS => ?_)
                have hPD : PD G A H [(m0, .inr (10, [.ref m_all, .ref m_kept, .ref m_isKept, .ref m_refused, .long (lI m_above), .long (lI m_below), .ref m_hand, .ref m_fewest, .ref m_whoBites, .ref m_leaves, .ref m_bestFeast, .ref m_tells, .ref m_hardOn, .ref m_bytes, .int (iI m_bytesLong), .int (iI ta_1), .int (iI tl__20), .int (iI 1), .int (iI 0), .ref m_anew, .ref m_values])), (m_bytes, .inl (G.2 0, 150, .inl (cI my)))] := ⟨hP, hD⟩
                have hP := hPD.1
                have hD := hPD.2
                clear hPD
                exact g_vret hx hb hr hlocks hP hD hS (⟨ta_1, tl__20, 1, 0, (by first | assumption | omega), (by first | assumption | omega), (by first | assumption | omega), (by first | assumption | omega), (by first | assumption | omega), (rt_i (t := 1) (g := g0__19) (sk_of (by assumption) (by omega) (fun _ => by omega)) (by omega) (by omega) f_23 (by omega) (by omega) (by omega) (by omega)), rfl⟩) dX11_lookAt_302
            · have c_32 : ¬ (m_bytesLong ≤ (ta_1 + tl__20)) := fun h9 => c_32 ((iI_le (a := m_bytesLong) (b := (ta_1 + tl__20)) (by omega) (by omega)).mpr h9)
              refine lv_aload_n hx hb dX11_lookAt_156 rfl (lv_at hl 2 rfl) ?_
              refine va_get (D := G.1) (ci := 10) (v := .ref m_bytes) (C := RX11) (T := TX11) (N := 21) hx hb hts (fun _ h => List.mem_cons_of_mem _ (inlX11 _ h)) hown hK hP 0 rfl rfl 13 (by decide) (hts _ (List.mem_cons_of_mem _ (in_r6 (List.mem_of_getElem? (i := 12) rfl)))) (fun _ h9 => h9) rfl dX11_lookAt_157 ?_
              refine lv_aload_n hx hb dX11_lookAt_160 rfl (lv_at hl 2 rfl) ?_
              refine va_get (D := G.1) (ci := 10) (v := .int (iI ta_1)) (C := RX11) (T := TX11) (N := 21) hx hb hts (fun _ h => List.mem_cons_of_mem _ (inlX11 _ h)) hown hK hP 0 rfl rfl 15 (by decide) (hts _ (List.mem_cons_of_mem _ (in_r19 (List.mem_of_getElem? (i := 8) rfl)))) (fun _ h9 => h9) rfl dX11_lookAt_161 ?_
              refine lv_aload_n hx hb dX11_lookAt_164 rfl (lv_at hl 2 rfl) ?_
              refine va_get (D := G.1) (ci := 10) (v := .int (iI tl__20)) (C := RX11) (T := TX11) (N := 21) hx hb hts (fun _ h => List.mem_cons_of_mem _ (inlX11 _ h)) hown hK hP 0 rfl rfl 16 (by decide) (hts _ (List.mem_cons_of_mem _ (in_r19 (List.mem_of_getElem? (i := 14) rfl)))) (fun _ h9 => h9) rfl dX11_lookAt_165 ?_
              refine lv_iadd hx hb dX11_lookAt_168 ?_
              refine g_topi (y := iI (ta_1 + tl__20)) (iI_add ta_1 tl__20) ?_
              refine g_ild hx hb hK hP 1 rfl (by omega) (by omega) (by first | exact Nat.le_of_ble_eq_true rfl | omega) dX11_lookAt_169 (fun w_37 ew_37 => ?_)
              have ew_37 : my ((ta_1 + tl__20).toNat) = w_37 := ew_37
              subst ew_37
              have b0w_37 := y0_ ((ta_1 + tl__20).toNat)
              refine lv_istore (lv' := [(4, .int (iI (my ((ta_1 + tl__20).toNat)))), (3, .int (iI g0__19)), (2, .int (iI (my (ta_1.toNat)))), (0, .ref m0), (1, .int (iI f0))]) hx hb dX11_lookAt_170 hl (by decide) rfl (fun ls hl => ?_)
              refine lv_aload_n hx hb dX11_lookAt_172 rfl (lv_at hl 3 rfl) ?_
              refine va_get (D := G.1) (ci := 10) (v := .int (iI 1)) (C := RX11) (T := TX11) (N := 21) hx hb hts (fun _ h => List.mem_cons_of_mem _ (inlX11 _ h)) hown hK hP 0 rfl rfl 17 (by decide) (hts _ (List.mem_cons_of_mem _ (in_r19 (List.mem_of_getElem? (i := 9) rfl)))) (fun _ h9 => h9) rfl dX11_lookAt_173 ?_
              refine lv_iconst (v := iI 1) hx hb dX11_lookAt_176 rfl ?_
              refine lv_icmp_ne (tgt := 188) hx hb dX11_lookAt_177 (by decide) (fun c_38 => g_no (by decide) c_38) (fun _ => ?_)
              refine lv_iload hx hb dX11_lookAt_180 (lv_at hl 0 rfl) ?_
              refine g_calli (wr := [(m0, .inr (10, [.ref m_all, .ref m_kept, .ref m_isKept, .ref m_refused, .long (lI m_above), .long (lI m_below), .ref m_hand, .ref m_fewest, .ref m_whoBites, .ref m_leaves, .ref m_bestFeast, .ref m_tells, .ref m_hardOn, .ref m_bytes, .int (iI m_bytesLong), .int (iI ta_1), .int (iI tl__20), .int (iI 1), .int (iI 0), .ref m_anew, .ref m_values])), (m_bytes, .inl (G.2 0, 150, .inl (cI my)))]) (va_runS (As := [.int (iI (my ((ta_1 + tl__20).toNat)))]) (rest := []) ⟨hx, hb, hml, hown, hts⟩ (c_X11_isSmall l G ((my ((ta_1 + tl__20).toNat))) (by first | assumption | omega) _) (va_cwS 1 hts gX11_lookAt_X11_isSmall rfl rfl rfl (by decide +kernel) ⟨Nat.le_of_ble_eq_true rfl, Nat.le_of_ble_eq_true rfl⟩) (g_preS [.int (iI (my ((ta_1 + tl__20).toNat)))] hP hD hK hN hS hA hZ [] rfl rfl) rfl rfl hl.1 rfl (lv_room (Nat.le_of_ble_eq_true rfl)) dX11_lookAt_182 ⟨Nat.le_of_ble_eq_true rfl, Nat.le_of_ble_eq_true rfl⟩) hP hD hS hA [] [0, 1] rfl rfl rfl (by decide) (fun r_39 u H locs hw hP hD hS => ?_)
              rcases hw with hw | hw
              · refine ea_0_4 hw (fun k_40 k_41 e8_0 e8_1 => ?_)
                subst e8_0
                subst e8_1
                clear hw
                have hPD : PD G A H [(m0, .inr (10, [.ref m_all, .ref m_kept, .ref m_isKept, .ref m_refused, .long (lI m_above), .long (lI m_below), .ref m_hand, .ref m_fewest, .ref m_whoBites, .ref m_leaves, .ref m_bestFeast, .ref m_tells, .ref m_hardOn, .ref m_bytes, .int (iI m_bytesLong), .int (iI ta_1), .int (iI tl__20), .int (iI 1), .int (iI 0), .ref m_anew, .ref m_values])), (m_bytes, .inl (G.2 0, 150, .inl (cI my)))] := ⟨hP, hD⟩
                have hP := hPD.1
                have hD := hPD.2
                clear hPD
                refine lv_goto (tgt := 193) hx hb dX11_lookAt_185 (by decide) ?_
                refine lv_istore_n (lv' := [(3, .int (iI 1)), (4, .int (iI (my ((ta_1 + tl__20).toNat)))), (2, .int (iI (my (ta_1.toNat)))), (0, .ref m0), (1, .int (iI f0))]) hx hb dX11_lookAt_193 rfl hl (by decide) rfl (fun ls hl => ?_)
                refine lv_aload_n hx hb dX11_lookAt_194 rfl (lv_at hl 3 rfl) ?_
                refine lv_dup hx hb dX11_lookAt_195 rfl ?_
                refine va_get (D := G.1) (ci := 10) (v := .int (iI tl__20)) (C := RX11) (T := TX11) (N := 21) hx hb hts (fun _ h => List.mem_cons_of_mem _ (inlX11 _ h)) hown hK hP 0 rfl rfl 16 (by decide) (hts _ (List.mem_cons_of_mem _ (in_r19 (List.mem_of_getElem? (i := 14) rfl)))) (fun _ h9 => h9) rfl dX11_lookAt_196 ?_
                refine lv_iload_n hx hb dX11_lookAt_199 rfl (lv_at hl 0 rfl) ?_
                refine lv_if_eq (tgt := 207) hx hb dX11_lookAt_200 (by decide) (fun c_43 => g_no c_43 (by decide)) (fun _ => ?_)
                refine lv_iconst (v := iI 1) hx hb dX11_lookAt_203 rfl ?_
                refine lv_goto (tgt := 208) hx hb dX11_lookAt_204 (by decide) ?_
                refine lv_iadd hx hb dX11_lookAt_208 ?_
                refine g_topi (y := iI (tl__20 + 1)) (iI_add tl__20 1) ?_
                refine va_put (D := G.1) (ci := 10) (v := .int (iI (tl__20 + 1))) (ty := .int) (C := RX11) (T := TX11) (N := 21) hx hb hts (fun _ h => List.mem_cons_of_mem _ (inlX11 _ h)) tyX11 tyX11_ok nmX11 hown hK hP hD hS 0 rfl rfl 16 (by decide) (hts _ (List.mem_cons_of_mem _ (in_r19 (List.mem_of_getElem? (i := 14) rfl)))) (fun _ h9 => h9) rfl (by decide +kernel) rfl rfl (Nat.le_of_ble_eq_true rfl) dX11_lookAt_209 (fun H locs hP hD hS => ?_)
                have hPD : PD G A H [(m0, .inr (10, [.ref m_all, .ref m_kept, .ref m_isKept, .ref m_refused, .long (lI m_above), .long (lI m_below), .ref m_hand, .ref m_fewest, .ref m_whoBites, .ref m_leaves, .ref m_bestFeast, .ref m_tells, .ref m_hardOn, .ref m_bytes, .int (iI m_bytesLong), .int (iI ta_1), .int (iI (tl__20 + 1)), .int (iI 1), .int (iI 0), .ref m_anew, .ref m_values])), (m_bytes, .inl (G.2 0, 150, .inl (cI my)))] := ⟨hP, hD⟩
                have hP := hPD.1
                have hD := hPD.2
                clear hPD
                refine lv_goto (tgt := 136) hx hb dX11_lookAt_212 (by decide) ?_
                exact ih_24 _ _ _ _ (by omega) ⟨1, (tl__20 + 1), (by first | assumption | omega), (by first | assumption | omega), (lkI_s (by assumption) (by omega) (by omega) (by omega)), rfl, hP, hD, hS, lv_sub hl [0, 2, 3, 4] rfl⟩
              · refine ea_0_3 hw (fun k_42 e8_0 e8_1 => ?_)
                subst e8_0
                subst e8_1
                clear hw
                have hPD : PD G A H [(m0, .inr (10, [.ref m_all, .ref m_kept, .ref m_isKept, .ref m_refused, .long (lI m_above), .long (lI m_below), .ref m_hand, .ref m_fewest, .ref m_whoBites, .ref m_leaves, .ref m_bestFeast, .ref m_tells, .ref m_hardOn, .ref m_bytes, .int (iI m_bytesLong), .int (iI ta_1), .int (iI tl__20), .int (iI 1), .int (iI 0), .ref m_anew, .ref m_values])), (m_bytes, .inl (G.2 0, 150, .inl (cI my)))] := ⟨hP, hD⟩
                have hP := hPD.1
                have hD := hPD.2
                clear hPD
                refine lv_goto (tgt := 193) hx hb dX11_lookAt_185 (by decide) ?_
                refine lv_istore_n (lv' := [(3, .int (iI 0)), (4, .int (iI (my ((ta_1 + tl__20).toNat)))), (2, .int (iI (my (ta_1.toNat)))), (0, .ref m0), (1, .int (iI f0))]) hx hb dX11_lookAt_193 rfl hl (by decide) rfl (fun ls hl => ?_)
                refine lv_aload_n hx hb dX11_lookAt_194 rfl (lv_at hl 3 rfl) ?_
                refine lv_dup hx hb dX11_lookAt_195 rfl ?_
                refine va_get (D := G.1) (ci := 10) (v := .int (iI tl__20)) (C := RX11) (T := TX11) (N := 21) hx hb hts (fun _ h => List.mem_cons_of_mem _ (inlX11 _ h)) hown hK hP 0 rfl rfl 16 (by decide) (hts _ (List.mem_cons_of_mem _ (in_r19 (List.mem_of_getElem? (i := 14) rfl)))) (fun _ h9 => h9) rfl dX11_lookAt_196 ?_
                refine lv_iload_n hx hb dX11_lookAt_199 rfl (lv_at hl 0 rfl) ?_
                refine lv_if_eq (tgt := 207) hx hb dX11_lookAt_200 (by decide) (fun _ => ?_) (fun c_44 => g_no (by decide) c_44)
                refine lv_iconst (v := iI 0) hx hb dX11_lookAt_207 rfl ?_
                refine lv_iadd hx hb dX11_lookAt_208 ?_
                refine g_topi (y := iI (tl__20 + 0)) (iI_add tl__20 0) ?_
                refine va_put (D := G.1) (ci := 10) (v := .int (iI (tl__20 + 0))) (ty := .int) (C := RX11) (T := TX11) (N := 21) hx hb hts (fun _ h => List.mem_cons_of_mem _ (inlX11 _ h)) tyX11 tyX11_ok nmX11 hown hK hP hD hS 0 rfl rfl 16 (by decide) (hts _ (List.mem_cons_of_mem _ (in_r19 (List.mem_of_getElem? (i := 14) rfl)))) (fun _ h9 => h9) rfl (by decide +kernel) rfl rfl (Nat.le_of_ble_eq_true rfl) dX11_lookAt_209 (fun H locs hP hD hS => ?_)
                have hPD : PD G A H [(m0, .inr (10, [.ref m_all, .ref m_kept, .ref m_isKept, .ref m_refused, .long (lI m_above), .long (lI m_below), .ref m_hand, .ref m_fewest, .ref m_whoBites, .ref m_leaves, .ref m_bestFeast, .ref m_tells, .ref m_hardOn, .ref m_bytes, .int (iI m_bytesLong), .int (iI ta_1), .int (iI (tl__20 + 0)), .int (iI 1), .int (iI 0), .ref m_anew, .ref m_values])), (m_bytes, .inl (G.2 0, 150, .inl (cI my)))] := ⟨hP, hD⟩
                have hP := hPD.1
                have hD := hPD.2
                clear hPD
                refine lv_goto (tgt := 136) hx hb dX11_lookAt_212 (by decide) ?_
                exact ih_24 _ _ _ _ (by omega) ⟨0, (tl__20 + 0), (by first | assumption | omega), (by first | assumption | omega), (lkI_s (by assumption) (by omega) (by omega) (by omega)), rfl, hP, hD, hS, lv_sub hl [0, 2, 3, 4] rfl⟩
        · refine ea_0_3 hw (fun k_16 e8_0 e8_1 => ?_)
          subst e8_0
          subst e8_1
          clear hw
          have hPD : PD G A H [(m0, .inr (10, [.ref m_all, .ref m_kept, .ref m_isKept, .ref m_refused, .long (lI m_above), .long (lI m_below), .ref m_hand, .ref m_fewest, .ref m_whoBites, .ref m_leaves, .ref m_bestFeast, .ref m_tells, .ref m_hardOn, .ref m_bytes, .int (iI m_bytesLong), .int (iI ta_1), .int (iI 0), .int (iI 0), .int (iI 0), .ref m_anew, .ref m_values])), (m_bytes, .inl (G.2 0, 150, .inl (cI my)))] := ⟨hP, hD⟩
          have hP := hPD.1
          have hD := hPD.2
          clear hPD
          refine lv_if_eq (tgt := 92) hx hb dX11_lookAt_85 (by decide) (fun _ => ?_) (fun c_45 => g_no (by decide) c_45)
          refine lv_iload_n hx hb dX11_lookAt_92 rfl (lv_at hl 0 rfl) ?_
          refine g_calli (wr := [(m0, .inr (10, [.ref m_all, .ref m_kept, .ref m_isKept, .ref m_refused, .long (lI m_above), .long (lI m_below), .ref m_hand, .ref m_fewest, .ref m_whoBites, .ref m_leaves, .ref m_bestFeast, .ref m_tells, .ref m_hardOn, .ref m_bytes, .int (iI m_bytesLong), .int (iI ta_1), .int (iI 0), .int (iI 0), .int (iI 0), .ref m_anew, .ref m_values])), (m_bytes, .inl (G.2 0, 150, .inl (cI my)))]) (va_runS (As := [.int (iI (my (ta_1.toNat)))]) (rest := [.ref m0]) ⟨hx, hb, hml, hown, hts⟩ (c_X11_isFigure l G ((my (ta_1.toNat))) (by first | assumption | omega) _) (va_cwS 1 hts gX11_lookAt_X11_isFigure rfl rfl rfl (by decide +kernel) ⟨Nat.le_of_ble_eq_true rfl, Nat.le_of_ble_eq_true rfl⟩) (g_preS [.int (iI (my (ta_1.toNat)))] hP hD hK hN hS hA hZ [] rfl rfl) rfl rfl hl.1 rfl (lv_room (Nat.le_of_ble_eq_true rfl)) dX11_lookAt_93 ⟨Nat.le_of_ble_eq_true rfl, Nat.le_of_ble_eq_true rfl⟩) hP hD hS hA [] [0, 1] rfl rfl rfl (by decide) (fun r_46 u H locs hw hP hD hS => ?_)
          rcases hw with hw | hw
          · refine ea_0_4 hw (fun k_47 k_48 e8_0 e8_1 => ?_)
            subst e8_0
            subst e8_1
            clear hw
            have hPD : PD G A H [(m0, .inr (10, [.ref m_all, .ref m_kept, .ref m_isKept, .ref m_refused, .long (lI m_above), .long (lI m_below), .ref m_hand, .ref m_fewest, .ref m_whoBites, .ref m_leaves, .ref m_bestFeast, .ref m_tells, .ref m_hardOn, .ref m_bytes, .int (iI m_bytesLong), .int (iI ta_1), .int (iI 0), .int (iI 0), .int (iI 0), .ref m_anew, .ref m_values])), (m_bytes, .inl (G.2 0, 150, .inl (cI my)))] := ⟨hP, hD⟩
            have hP := hPD.1
            have hD := hPD.2
            clear hPD
            refine lv_if_eq (tgt := 103) hx hb dX11_lookAt_96 (by decide) (fun c_50 => g_no c_50 (by decide)) (fun _ => ?_)
            refine lv_iconst (v := iI 2) hx hb dX11_lookAt_99 rfl ?_
            refine lv_goto (tgt := 114) hx hb dX11_lookAt_100 (by decide) ?_
            refine va_put (D := G.1) (ci := 10) (v := .int (iI 2)) (ty := .int) (C := RX11) (T := TX11) (N := 21) hx hb hts (fun _ h => List.mem_cons_of_mem _ (inlX11 _ h)) tyX11 tyX11_ok nmX11 hown hK hP hD hS 0 rfl rfl 17 (by decide) (hts _ (List.mem_cons_of_mem _ (in_r19 (List.mem_of_getElem? (i := 9) rfl)))) (fun _ h9 => h9) rfl (by decide +kernel) rfl rfl (Nat.le_of_ble_eq_true rfl) dX11_lookAt_114 (fun H locs hP hD hS => ?_)
            have hPD : PD G A H [(m0, .inr (10, [.ref m_all, .ref m_kept, .ref m_isKept, .ref m_refused, .long (lI m_above), .long (lI m_below), .ref m_hand, .ref m_fewest, .ref m_whoBites, .ref m_leaves, .ref m_bestFeast, .ref m_tells, .ref m_hardOn, .ref m_bytes, .int (iI m_bytesLong), .int (iI ta_1), .int (iI 0), .int (iI 2), .int (iI 0), .ref m_anew, .ref m_values])), (m_bytes, .inl (G.2 0, 150, .inl (cI my)))] := ⟨hP, hD⟩
            have hP := hPD.1
            have hD := hPD.2
            clear hPD
            refine lv_aload_n hx hb dX11_lookAt_117 rfl (lv_at hl 1 rfl) ?_
            refine lv_iconst (v := iI 1) hx hb dX11_lookAt_118 rfl ?_
            refine va_put (D := G.1) (ci := 10) (v := .int (iI 1)) (ty := .int) (C := RX11) (T := TX11) (N := 21) hx hb hts (fun _ h => List.mem_cons_of_mem _ (inlX11 _ h)) tyX11 tyX11_ok nmX11 hown hK hP hD hS 0 rfl rfl 16 (by decide) (hts _ (List.mem_cons_of_mem _ (in_r19 (List.mem_of_getElem? (i := 14) rfl)))) (fun _ h9 => h9) rfl (by decide +kernel) rfl rfl (Nat.le_of_ble_eq_true rfl) dX11_lookAt_119 (fun H locs hP hD hS => ?_)
            have hPD : PD G A H [(m0, .inr (10, [.ref m_all, .ref m_kept, .ref m_isKept, .ref m_refused, .long (lI m_above), .long (lI m_below), .ref m_hand, .ref m_fewest, .ref m_whoBites, .ref m_leaves, .ref m_bestFeast, .ref m_tells, .ref m_hardOn, .ref m_bytes, .int (iI m_bytesLong), .int (iI ta_1), .int (iI 1), .int (iI 2), .int (iI 0), .ref m_anew, .ref m_values])), (m_bytes, .inl (G.2 0, 150, .inl (cI my)))] := ⟨hP, hD⟩
            have hP := hPD.1
            have hD := hPD.2
            clear hPD
            refine lv_aload_n hx hb dX11_lookAt_122 rfl (lv_at hl 1 rfl) ?_
            refine va_get (D := G.1) (ci := 10) (v := .int (iI 2)) (C := RX11) (T := TX11) (N := 21) hx hb hts (fun _ h => List.mem_cons_of_mem _ (inlX11 _ h)) hown hK hP 0 rfl rfl 17 (by decide) (hts _ (List.mem_cons_of_mem _ (in_r19 (List.mem_of_getElem? (i := 9) rfl)))) (fun _ h9 => h9) rfl dX11_lookAt_123 ?_
            refine lv_iconst (v := iI 3) hx hb dX11_lookAt_126 rfl ?_
            refine lv_icmp_ge (tgt := 134) hx hb dX11_lookAt_127 (by decide) (fun c_51 => g_no c_51 (by decide)) (fun _ => ?_)
            refine lv_iconst (v := iI 1) hx hb dX11_lookAt_130 rfl ?_
            refine lv_goto (tgt := 135) hx hb dX11_lookAt_131 (by decide) ?_
            refine lv_istore_n (lv' := [(3, .int (iI 1)), (2, .int (iI (my (ta_1.toNat)))), (0, .ref m0), (1, .int (iI f0))]) hx hb dX11_lookAt_135 rfl hl (by decide) rfl (fun ls hl => ?_)
            refine g_loopN (pc := 136) (fun nn H locs ls => ∃ g0__52 : Int, ∃ tl__53 : Int, (g0__52 = 0 ∨ g0__52 = 1) ∧ (1 ≤ tl__53 ∧ ta_1 + tl__53 ≤ m_bytesLong) ∧ (lkI my m_bytesLong 2 ta_1 tl__53 g0__52) ∧ (2 * (150 - tl__53) + g0__52).toNat = nn ∧ va_P G.1 vwCl [(m0, .inr (10, [.ref m_all, .ref m_kept, .ref m_isKept, .ref m_refused, .long (lI m_above), .long (lI m_below), .ref m_hand, .ref m_fewest, .ref m_whoBites, .ref m_leaves, .ref m_bestFeast, .ref m_tells, .ref m_hardOn, .ref m_bytes, .int (iI m_bytesLong), .int (iI ta_1), .int (iI tl__53), .int (iI 2), .int (iI 0), .ref m_anew, .ref m_values])), (m_bytes, .inl (G.2 0, 150, .inl (cI my)))] H ∧ va_D A [(m0, .inr (10, [.ref m_all, .ref m_kept, .ref m_isKept, .ref m_refused, .long (lI m_above), .long (lI m_below), .ref m_hand, .ref m_fewest, .ref m_whoBites, .ref m_leaves, .ref m_bestFeast, .ref m_tells, .ref m_hardOn, .ref m_bytes, .int (iI m_bytesLong), .int (iI ta_1), .int (iI tl__53), .int (iI 2), .int (iI 0), .ref m_anew, .ref m_values])), (m_bytes, .inl (G.2 0, 150, .inl (cI my)))] ∧ va_S A s.heap H locs ∧ lv_has ls 5 [(3, .int (iI g0__52)), (2, .int (iI (my (ta_1.toNat)))), (0, .ref m0), (1, .int (iI f0))]) ?_ ⟨1, 1, (by first | assumption | omega), (by first | assumption | omega), (lkI_0 (by omega) (by omega)), rfl, hP, hD, hS, lv_sub hl [0, 1, 2, 3] rfl⟩
            intro nn_58 H locs ls ih_57 hI
            refine ea_2_8 hI (fun g0__52 tl__53 f_54 f_55 f_56 hnn_59 hP hD hS hl => ?_)
            clear hI
            refine lv_iload_n hx hb dX11_lookAt_136 rfl (lv_at hl 0 rfl) ?_
            refine lv_if_eq (tgt := 215) hx hb dX11_lookAt_137 (by decide) (fun c_60 => ?_) (fun c_60 => ?_)
            · have c_60 := (iI_eq (a := g0__52) (b := 0) (by omega) (by first | decide | omega)).mp c_60
              refine lv_iconst (v := iI 0) hx hb dX11_lookAt_215 rfl ?_
              refine lv_istore (lv' := [(4, .int (iI 0)), (3, .int (iI g0__52)), (2, .int (iI (my (ta_1.toNat)))), (0, .ref m0), (1, .int (iI f0))]) hx hb dX11_lookAt_216 hl (by decide) rfl (fun ls hl => ?_)
              refine lv_iload hx hb dX11_lookAt_218 (lv_at hl 0 rfl) ?_
              refine lv_aload_n hx hb dX11_lookAt_220 rfl (lv_at hl 3 rfl) ?_
              refine va_get (D := G.1) (ci := 10) (v := .int (iI tl__53)) (C := RX11) (T := TX11) (N := 21) hx hb hts (fun _ h => List.mem_cons_of_mem _ (inlX11 _ h)) hown hK hP 0 rfl rfl 16 (by decide) (hts _ (List.mem_cons_of_mem _ (in_r19 (List.mem_of_getElem? (i := 14) rfl)))) (fun _ h9 => h9) rfl dX11_lookAt_221 ?_
              refine lv_icmp_ge (tgt := 274) hx hb dX11_lookAt_224 (by decide) (fun c_61 => ?_) (fun c_61 => ?_)
              · have c_61 := (iI_le (a := tl__53) (b := 0) (by omega) (by first | decide | omega)).mp c_61
                exfalso
                omega
              · have c_61 : ¬ (tl__53 ≤ 0) := fun h9 => c_61 ((iI_le (a := tl__53) (b := 0) (by omega) (by first | decide | omega)).mpr h9)
                refine lv_iload hx hb dX11_lookAt_227 (lv_at hl 0 rfl) ?_
                refine lv_iconst (v := iI 2) hx hb dX11_lookAt_229 rfl ?_
                refine lv_icmp_ge (tgt := 274) hx hb dX11_lookAt_230 (by decide) (fun c_62 => g_no c_62 (by decide)) (fun _ => ?_)
                refine lv_aload_n hx hb dX11_lookAt_233 rfl (lv_at hl 3 rfl) ?_
                refine va_get (D := G.1) (ci := 10) (v := .int (iI 2)) (C := RX11) (T := TX11) (N := 21) hx hb hts (fun _ h => List.mem_cons_of_mem _ (inlX11 _ h)) hown hK hP 0 rfl rfl 17 (by decide) (hts _ (List.mem_cons_of_mem _ (in_r19 (List.mem_of_getElem? (i := 9) rfl)))) (fun _ h9 => h9) rfl dX11_lookAt_234 ?_
                refine lv_iconst (v := iI 2) hx hb dX11_lookAt_237 rfl ?_
                refine lv_icmp_ne (tgt := 274) hx hb dX11_lookAt_238 (by decide) (fun c_63 => g_no (by decide) c_63) (fun _ => ?_)
                refine lv_aload_n hx hb dX11_lookAt_241 rfl (lv_at hl 3 rfl) ?_
                refine lv_bipush (v := iI 10) hx hb dX11_lookAt_242 (by decide) ?_
                refine lv_aload_n hx hb dX11_lookAt_244 rfl (lv_at hl 3 rfl) ?_
                refine va_get (D := G.1) (ci := 10) (v := .int (iI 0)) (C := RX11) (T := TX11) (N := 21) hx hb hts (fun _ h => List.mem_cons_of_mem _ (inlX11 _ h)) hown hK hP 0 rfl rfl 18 (by decide) (hts _ (List.mem_cons_of_mem _ (in_r19 (List.mem_of_getElem? (i := 15) rfl)))) (fun _ h9 => h9) rfl dX11_lookAt_245 ?_
                refine lv_imul hx hb dX11_lookAt_248 ?_
                refine g_topi (y := iI 0) (iI_mul 10 0) ?_
                refine lv_aload_n hx hb dX11_lookAt_249 rfl (lv_at hl 3 rfl) ?_
                refine va_get (D := G.1) (ci := 10) (v := .ref m_bytes) (C := RX11) (T := TX11) (N := 21) hx hb hts (fun _ h => List.mem_cons_of_mem _ (inlX11 _ h)) hown hK hP 0 rfl rfl 13 (by decide) (hts _ (List.mem_cons_of_mem _ (in_r6 (List.mem_of_getElem? (i := 12) rfl)))) (fun _ h9 => h9) rfl dX11_lookAt_250 ?_
                refine lv_aload_n hx hb dX11_lookAt_253 rfl (lv_at hl 3 rfl) ?_
                refine va_get (D := G.1) (ci := 10) (v := .int (iI ta_1)) (C := RX11) (T := TX11) (N := 21) hx hb hts (fun _ h => List.mem_cons_of_mem _ (inlX11 _ h)) hown hK hP 0 rfl rfl 15 (by decide) (hts _ (List.mem_cons_of_mem _ (in_r19 (List.mem_of_getElem? (i := 8) rfl)))) (fun _ h9 => h9) rfl dX11_lookAt_254 ?_
                refine lv_iload hx hb dX11_lookAt_257 (lv_at hl 0 rfl) ?_
                refine lv_iadd hx hb dX11_lookAt_259 ?_
                refine g_topi (y := iI (ta_1 + 0)) (iI_add ta_1 0) ?_
                refine g_ild hx hb hK hP 1 rfl (by omega) (by omega) (by first | exact Nat.le_of_ble_eq_true rfl | omega) dX11_lookAt_260 (fun w_64 ew_64 => ?_)
                have ew_64 : my ((ta_1 + 0).toNat) = w_64 := ew_64
                subst ew_64
                have b0w_64 := y0_ ((ta_1 + 0).toNat)
                refine lv_iadd hx hb dX11_lookAt_261 ?_
                refine g_topi (y := iI (0 + (my ((ta_1 + 0).toNat)))) (iI_add 0 (my ((ta_1 + 0).toNat))) ?_
                refine lv_bipush (v := iI 48) hx hb dX11_lookAt_262 (by decide) ?_
                refine lv_isub hx hb dX11_lookAt_264 ?_
                refine g_topi (y := iI ((0 + (my ((ta_1 + 0).toNat))) - 48)) (iI_sub (0 + (my ((ta_1 + 0).toNat))) 48) ?_
                refine va_put (D := G.1) (ci := 10) (v := .int (iI ((0 + (my ((ta_1 + 0).toNat))) - 48))) (ty := .int) (C := RX11) (T := TX11) (N := 21) hx hb hts (fun _ h => List.mem_cons_of_mem _ (inlX11 _ h)) tyX11 tyX11_ok nmX11 hown hK hP hD hS 0 rfl rfl 18 (by decide) (hts _ (List.mem_cons_of_mem _ (in_r19 (List.mem_of_getElem? (i := 15) rfl)))) (fun _ h9 => h9) rfl (by decide +kernel) rfl rfl (Nat.le_of_ble_eq_true rfl) dX11_lookAt_265 (fun H locs hP hD hS => ?_)
                have hPD : PD G A H [(m0, .inr (10, [.ref m_all, .ref m_kept, .ref m_isKept, .ref m_refused, .long (lI m_above), .long (lI m_below), .ref m_hand, .ref m_fewest, .ref m_whoBites, .ref m_leaves, .ref m_bestFeast, .ref m_tells, .ref m_hardOn, .ref m_bytes, .int (iI m_bytesLong), .int (iI ta_1), .int (iI tl__53), .int (iI 2), .int (iI ((0 + (my ((ta_1 + 0).toNat))) - 48)), .ref m_anew, .ref m_values])), (m_bytes, .inl (G.2 0, 150, .inl (cI my)))] := ⟨hP, hD⟩
                have hP := hPD.1
                have hD := hPD.2
                clear hPD
                refine lv_iinc (v := iI 1) (lv' := [(4, .int (iI 1)), (3, .int (iI g0__52)), (2, .int (iI (my (ta_1.toNat)))), (0, .ref m0), (1, .int (iI f0))]) hx hb dX11_lookAt_268 hl (k := 0) rfl (iI_add 0 1) (by decide) rfl (fun ls hl => ?_)
                refine lv_goto (tgt := 218) hx hb dX11_lookAt_271 (by decide) ?_
                refine lv_iload hx hb dX11_lookAt_218 (lv_at hl 0 rfl) ?_
                refine lv_aload_n hx hb dX11_lookAt_220 rfl (lv_at hl 3 rfl) ?_
                refine va_get (D := G.1) (ci := 10) (v := .int (iI tl__53)) (C := RX11) (T := TX11) (N := 21) hx hb hts (fun _ h => List.mem_cons_of_mem _ (inlX11 _ h)) hown hK hP 0 rfl rfl 16 (by decide) (hts _ (List.mem_cons_of_mem _ (in_r19 (List.mem_of_getElem? (i := 14) rfl)))) (fun _ h9 => h9) rfl dX11_lookAt_221 ?_
                refine lv_icmp_ge (tgt := 274) hx hb dX11_lookAt_224 (by decide) (fun c_65 => ?_) (fun c_65 => ?_)
                · have c_65 := (iI_le (a := tl__53) (b := 1) (by omega) (by first | decide | omega)).mp c_65
                  refine lv_aload_n hx hb dX11_lookAt_274 rfl (lv_at hl 3 rfl) ?_
                  refine lv_aload_n hx hb dX11_lookAt_275 rfl (lv_at hl 3 rfl) ?_
                  refine va_get (D := G.1) (ci := 10) (v := .int (iI 2)) (C := RX11) (T := TX11) (N := 21) hx hb hts (fun _ h => List.mem_cons_of_mem _ (inlX11 _ h)) hown hK hP 0 rfl rfl 17 (by decide) (hts _ (List.mem_cons_of_mem _ (in_r19 (List.mem_of_getElem? (i := 9) rfl)))) (fun _ h9 => h9) rfl dX11_lookAt_276 ?_
                  refine lv_iconst (v := iI 2) hx hb dX11_lookAt_279 rfl ?_
                  refine lv_icmp_ne (tgt := 295) hx hb dX11_lookAt_280 (by decide) (fun c_66 => g_no (by decide) c_66) (fun _ => ?_)
                  refine lv_aload_n hx hb dX11_lookAt_283 rfl (lv_at hl 3 rfl) ?_
                  refine va_get (D := G.1) (ci := 10) (v := .int (iI tl__53)) (C := RX11) (T := TX11) (N := 21) hx hb hts (fun _ h => List.mem_cons_of_mem _ (inlX11 _ h)) hown hK hP 0 rfl rfl 16 (by decide) (hts _ (List.mem_cons_of_mem _ (in_r19 (List.mem_of_getElem? (i := 14) rfl)))) (fun _ h9 => h9) rfl dX11_lookAt_284 ?_
                  refine lv_iconst (v := iI 2) hx hb dX11_lookAt_287 rfl ?_
                  refine g_join (jn := 299) (rest := [.ref m0]) (fun t_67 ls => ((tl__53 ≤ 2 ∧ t_67 = 2) ∨ (¬ (tl__53 ≤ 2) ∧ t_67 = 4)) ∧ lv_has ls 5 [(4, .int (iI 1)), (3, .int (iI g0__52)), (2, .int (iI (my (ta_1.toNat)))), (0, .ref m0), (1, .int (iI f0))]) (fun t_67 ls hI => ?_) (fun hJ_68 => ?_)
                  · obtain ⟨f_69, hl⟩ := hI
                    refine va_put (D := G.1) (ci := 10) (v := .int (iI t_67)) (ty := .int) (C := RX11) (T := TX11) (N := 21) hx hb hts (fun _ h => List.mem_cons_of_mem _ (inlX11 _ h)) tyX11 tyX11_ok nmX11 hown hK hP hD hS 0 rfl rfl 17 (by decide) (hts _ (List.mem_cons_of_mem _ (in_r19 (List.mem_of_getElem? (i := 9) rfl)))) (fun _ h9 => h9) rfl (by decide +kernel) rfl rfl (Nat.le_of_ble_eq_true rfl) dX11_lookAt_299 (fun H locs hP hD hS => ?_)
                    have hPD : PD G A H [(m0, .inr (10, [.ref m_all, .ref m_kept, .ref m_isKept, .ref m_refused, .long (lI m_above), .long (lI m_below), .ref m_hand, .ref m_fewest, .ref m_whoBites, .ref m_leaves, .ref m_bestFeast, .ref m_tells, .ref m_hardOn, .ref m_bytes, .int (iI m_bytesLong), .int (iI ta_1), .int (iI tl__53), .int (iI t_67), .int (iI ((0 + (my ((ta_1 + 0).toNat))) - 48)), .ref m_anew, .ref m_values])), (m_bytes, .inl (G.2 0, 150, .inl (cI my)))] := ⟨hP, hD⟩
                    have hP := hPD.1
                    have hD := hPD.2
                    clear hPD
                    exact g_vret hx hb hr hlocks hP hD hS (⟨ta_1, tl__53, t_67, ((0 + (my ((ta_1 + 0).toNat))) - 48), (by first | assumption | omega), (by first | assumption | omega), (by first | assumption | omega), (by first | assumption | omega), (by first | assumption | omega), (rt_i (t := 2) (g := g0__52) (sk_of (by assumption) (by omega) (fun _ => by omega)) (by omega) (by omega) f_56 (by omega) (by omega) (by omega) (by omega)), rfl⟩) dX11_lookAt_302
                  · refine lv_icmp_le (tgt := 295) hx hb dX11_lookAt_288 (by decide) (fun c_70 => ?_) (fun c_70 => ?_)
                    · have c_70 := (iI_le (a := tl__53) (b := 2) (by omega) (by first | decide | omega)).mp c_70
                      refine lv_aload_n hx hb dX11_lookAt_295 rfl (lv_at hl 3 rfl) ?_
                      refine va_get (D := G.1) (ci := 10) (v := .int (iI 2)) (C := RX11) (T := TX11) (N := 21) hx hb hts (fun _ h => List.mem_cons_of_mem _ (inlX11 _ h)) hown hK hP 0 rfl rfl 17 (by decide) (hts _ (List.mem_cons_of_mem _ (in_r19 (List.mem_of_getElem? (i := 9) rfl)))) (fun _ h9 => h9) rfl dX11_lookAt_296 ?_
                      exact hJ_68 2 ls ⟨by omega, lv_sub hl [0, 1, 2, 3, 4] rfl⟩
                    · have c_70 : ¬ (tl__53 ≤ 2) := fun h9 => c_70 ((iI_le (a := tl__53) (b := 2) (by omega) (by first | decide | omega)).mpr h9)
                      refine lv_iconst (v := iI 4) hx hb dX11_lookAt_291 rfl ?_
                      refine lv_goto (tgt := 299) hx hb dX11_lookAt_292 (by decide) ?_
                      exact hJ_68 4 ls ⟨by omega, lv_sub hl [0, 1, 2, 3, 4] rfl⟩
                · have c_65 : ¬ (tl__53 ≤ 1) := fun h9 => c_65 ((iI_le (a := tl__53) (b := 1) (by omega) (by first | decide | omega)).mpr h9)
                  refine lv_iload hx hb dX11_lookAt_227 (lv_at hl 0 rfl) ?_
                  refine lv_iconst (v := iI 2) hx hb dX11_lookAt_229 rfl ?_
                  refine lv_icmp_ge (tgt := 274) hx hb dX11_lookAt_230 (by decide) (fun c_71 => g_no c_71 (by decide)) (fun _ => ?_)
                  refine lv_aload_n hx hb dX11_lookAt_233 rfl (lv_at hl 3 rfl) ?_
                  refine va_get (D := G.1) (ci := 10) (v := .int (iI 2)) (C := RX11) (T := TX11) (N := 21) hx hb hts (fun _ h => List.mem_cons_of_mem _ (inlX11 _ h)) hown hK hP 0 rfl rfl 17 (by decide) (hts _ (List.mem_cons_of_mem _ (in_r19 (List.mem_of_getElem? (i := 9) rfl)))) (fun _ h9 => h9) rfl dX11_lookAt_234 ?_
                  refine lv_iconst (v := iI 2) hx hb dX11_lookAt_237 rfl ?_
                  refine lv_icmp_ne (tgt := 274) hx hb dX11_lookAt_238 (by decide) (fun c_72 => g_no (by decide) c_72) (fun _ => ?_)
                  refine lv_aload_n hx hb dX11_lookAt_241 rfl (lv_at hl 3 rfl) ?_
                  refine lv_bipush (v := iI 10) hx hb dX11_lookAt_242 (by decide) ?_
                  refine lv_aload_n hx hb dX11_lookAt_244 rfl (lv_at hl 3 rfl) ?_
                  refine va_get (D := G.1) (ci := 10) (v := .int (iI ((0 + (my ((ta_1 + 0).toNat))) - 48))) (C := RX11) (T := TX11) (N := 21) hx hb hts (fun _ h => List.mem_cons_of_mem _ (inlX11 _ h)) hown hK hP 0 rfl rfl 18 (by decide) (hts _ (List.mem_cons_of_mem _ (in_r19 (List.mem_of_getElem? (i := 15) rfl)))) (fun _ h9 => h9) rfl dX11_lookAt_245 ?_
                  refine lv_imul hx hb dX11_lookAt_248 ?_
                  refine g_topi (y := iI (10 * ((0 + (my ((ta_1 + 0).toNat))) - 48))) (iI_mul 10 ((0 + (my ((ta_1 + 0).toNat))) - 48)) ?_
                  refine lv_aload_n hx hb dX11_lookAt_249 rfl (lv_at hl 3 rfl) ?_
                  refine va_get (D := G.1) (ci := 10) (v := .ref m_bytes) (C := RX11) (T := TX11) (N := 21) hx hb hts (fun _ h => List.mem_cons_of_mem _ (inlX11 _ h)) hown hK hP 0 rfl rfl 13 (by decide) (hts _ (List.mem_cons_of_mem _ (in_r6 (List.mem_of_getElem? (i := 12) rfl)))) (fun _ h9 => h9) rfl dX11_lookAt_250 ?_
                  refine lv_aload_n hx hb dX11_lookAt_253 rfl (lv_at hl 3 rfl) ?_
                  refine va_get (D := G.1) (ci := 10) (v := .int (iI ta_1)) (C := RX11) (T := TX11) (N := 21) hx hb hts (fun _ h => List.mem_cons_of_mem _ (inlX11 _ h)) hown hK hP 0 rfl rfl 15 (by decide) (hts _ (List.mem_cons_of_mem _ (in_r19 (List.mem_of_getElem? (i := 8) rfl)))) (fun _ h9 => h9) rfl dX11_lookAt_254 ?_
                  refine lv_iload hx hb dX11_lookAt_257 (lv_at hl 0 rfl) ?_
                  refine lv_iadd hx hb dX11_lookAt_259 ?_
                  refine g_topi (y := iI (ta_1 + 1)) (iI_add ta_1 1) ?_
                  refine g_ild hx hb hK hP 1 rfl (by omega) (by omega) (by first | exact Nat.le_of_ble_eq_true rfl | omega) dX11_lookAt_260 (fun w_73 ew_73 => ?_)
                  have ew_73 : my ((ta_1 + 1).toNat) = w_73 := ew_73
                  subst ew_73
                  have b0w_73 := y0_ ((ta_1 + 1).toNat)
                  refine lv_iadd hx hb dX11_lookAt_261 ?_
                  refine g_topi (y := iI ((10 * ((0 + (my ((ta_1 + 0).toNat))) - 48)) + (my ((ta_1 + 1).toNat)))) (iI_add (10 * ((0 + (my ((ta_1 + 0).toNat))) - 48)) (my ((ta_1 + 1).toNat))) ?_
                  refine lv_bipush (v := iI 48) hx hb dX11_lookAt_262 (by decide) ?_
                  refine lv_isub hx hb dX11_lookAt_264 ?_
                  refine g_topi (y := iI (((10 * ((0 + (my ((ta_1 + 0).toNat))) - 48)) + (my ((ta_1 + 1).toNat))) - 48)) (iI_sub ((10 * ((0 + (my ((ta_1 + 0).toNat))) - 48)) + (my ((ta_1 + 1).toNat))) 48) ?_
                  refine va_put (D := G.1) (ci := 10) (v := .int (iI (((10 * ((0 + (my ((ta_1 + 0).toNat))) - 48)) + (my ((ta_1 + 1).toNat))) - 48))) (ty := .int) (C := RX11) (T := TX11) (N := 21) hx hb hts (fun _ h => List.mem_cons_of_mem _ (inlX11 _ h)) tyX11 tyX11_ok nmX11 hown hK hP hD hS 0 rfl rfl 18 (by decide) (hts _ (List.mem_cons_of_mem _ (in_r19 (List.mem_of_getElem? (i := 15) rfl)))) (fun _ h9 => h9) rfl (by decide +kernel) rfl rfl (Nat.le_of_ble_eq_true rfl) dX11_lookAt_265 (fun H locs hP hD hS => ?_)
                  have hPD : PD G A H [(m0, .inr (10, [.ref m_all, .ref m_kept, .ref m_isKept, .ref m_refused, .long (lI m_above), .long (lI m_below), .ref m_hand, .ref m_fewest, .ref m_whoBites, .ref m_leaves, .ref m_bestFeast, .ref m_tells, .ref m_hardOn, .ref m_bytes, .int (iI m_bytesLong), .int (iI ta_1), .int (iI tl__53), .int (iI 2), .int (iI (((10 * ((0 + (my ((ta_1 + 0).toNat))) - 48)) + (my ((ta_1 + 1).toNat))) - 48)), .ref m_anew, .ref m_values])), (m_bytes, .inl (G.2 0, 150, .inl (cI my)))] := ⟨hP, hD⟩
                  have hP := hPD.1
                  have hD := hPD.2
                  clear hPD
                  refine lv_iinc (v := iI 2) (lv' := [(4, .int (iI 2)), (3, .int (iI g0__52)), (2, .int (iI (my (ta_1.toNat)))), (0, .ref m0), (1, .int (iI f0))]) hx hb dX11_lookAt_268 hl (k := 0) rfl (iI_add 1 1) (by decide) rfl (fun ls hl => ?_)
                  refine lv_goto (tgt := 218) hx hb dX11_lookAt_271 (by decide) ?_
                  refine lv_iload hx hb dX11_lookAt_218 (lv_at hl 0 rfl) ?_
                  refine lv_aload_n hx hb dX11_lookAt_220 rfl (lv_at hl 3 rfl) ?_
                  refine va_get (D := G.1) (ci := 10) (v := .int (iI tl__53)) (C := RX11) (T := TX11) (N := 21) hx hb hts (fun _ h => List.mem_cons_of_mem _ (inlX11 _ h)) hown hK hP 0 rfl rfl 16 (by decide) (hts _ (List.mem_cons_of_mem _ (in_r19 (List.mem_of_getElem? (i := 14) rfl)))) (fun _ h9 => h9) rfl dX11_lookAt_221 ?_
                  refine lv_icmp_ge (tgt := 274) hx hb dX11_lookAt_224 (by decide) (fun c_74 => ?_) (fun c_74 => ?_)
                  · have c_74 := (iI_le (a := tl__53) (b := 2) (by omega) (by first | decide | omega)).mp c_74
                    refine lv_aload_n hx hb dX11_lookAt_274 rfl (lv_at hl 3 rfl) ?_
                    refine lv_aload_n hx hb dX11_lookAt_275 rfl (lv_at hl 3 rfl) ?_
                    refine va_get (D := G.1) (ci := 10) (v := .int (iI 2)) (C := RX11) (T := TX11) (N := 21) hx hb hts (fun _ h => List.mem_cons_of_mem _ (inlX11 _ h)) hown hK hP 0 rfl rfl 17 (by decide) (hts _ (List.mem_cons_of_mem _ (in_r19 (List.mem_of_getElem? (i := 9) rfl)))) (fun _ h9 => h9) rfl dX11_lookAt_276 ?_
                    refine lv_iconst (v := iI 2) hx hb dX11_lookAt_279 rfl ?_
                    refine lv_icmp_ne (tgt := 295) hx hb dX11_lookAt_280 (by decide) (fun c_75 => g_no (by decide) c_75) (fun _ => ?_)
                    refine lv_aload_n hx hb dX11_lookAt_283 rfl (lv_at hl 3 rfl) ?_
                    refine va_get (D := G.1) (ci := 10) (v := .int (iI tl__53)) (C := RX11) (T := TX11) (N := 21) hx hb hts (fun _ h => List.mem_cons_of_mem _ (inlX11 _ h)) hown hK hP 0 rfl rfl 16 (by decide) (hts _ (List.mem_cons_of_mem _ (in_r19 (List.mem_of_getElem? (i := 14) rfl)))) (fun _ h9 => h9) rfl dX11_lookAt_284 ?_
                    refine lv_iconst (v := iI 2) hx hb dX11_lookAt_287 rfl ?_
                    refine g_join (jn := 299) (rest := [.ref m0]) (fun t_76 ls => ((tl__53 ≤ 2 ∧ t_76 = 2) ∨ (¬ (tl__53 ≤ 2) ∧ t_76 = 4)) ∧ lv_has ls 5 [(4, .int (iI 2)), (3, .int (iI g0__52)), (2, .int (iI (my (ta_1.toNat)))), (0, .ref m0), (1, .int (iI f0))]) (fun t_76 ls hI => ?_) (fun hJ_77 => ?_)
                    · obtain ⟨f_78, hl⟩ := hI
                      refine va_put (D := G.1) (ci := 10) (v := .int (iI t_76)) (ty := .int) (C := RX11) (T := TX11) (N := 21) hx hb hts (fun _ h => List.mem_cons_of_mem _ (inlX11 _ h)) tyX11 tyX11_ok nmX11 hown hK hP hD hS 0 rfl rfl 17 (by decide) (hts _ (List.mem_cons_of_mem _ (in_r19 (List.mem_of_getElem? (i := 9) rfl)))) (fun _ h9 => h9) rfl (by decide +kernel) rfl rfl (Nat.le_of_ble_eq_true rfl) dX11_lookAt_299 (fun H locs hP hD hS => ?_)
                      have hPD : PD G A H [(m0, .inr (10, [.ref m_all, .ref m_kept, .ref m_isKept, .ref m_refused, .long (lI m_above), .long (lI m_below), .ref m_hand, .ref m_fewest, .ref m_whoBites, .ref m_leaves, .ref m_bestFeast, .ref m_tells, .ref m_hardOn, .ref m_bytes, .int (iI m_bytesLong), .int (iI ta_1), .int (iI tl__53), .int (iI t_76), .int (iI (((10 * ((0 + (my ((ta_1 + 0).toNat))) - 48)) + (my ((ta_1 + 1).toNat))) - 48)), .ref m_anew, .ref m_values])), (m_bytes, .inl (G.2 0, 150, .inl (cI my)))] := ⟨hP, hD⟩
                      have hP := hPD.1
                      have hD := hPD.2
                      clear hPD
                      exact g_vret hx hb hr hlocks hP hD hS (⟨ta_1, tl__53, t_76, (((10 * ((0 + (my ((ta_1 + 0).toNat))) - 48)) + (my ((ta_1 + 1).toNat))) - 48), (by first | assumption | omega), (by first | assumption | omega), (by first | assumption | omega), (by first | assumption | omega), (by first | assumption | omega), (rt_i (t := 2) (g := g0__52) (sk_of (by assumption) (by omega) (fun _ => by omega)) (by omega) (by omega) f_56 (by omega) (by omega) (by omega) (by omega)), rfl⟩) dX11_lookAt_302
                    · refine lv_icmp_le (tgt := 295) hx hb dX11_lookAt_288 (by decide) (fun c_79 => ?_) (fun c_79 => ?_)
                      · have c_79 := (iI_le (a := tl__53) (b := 2) (by omega) (by first | decide | omega)).mp c_79
                        refine lv_aload_n hx hb dX11_lookAt_295 rfl (lv_at hl 3 rfl) ?_
                        refine va_get (D := G.1) (ci := 10) (v := .int (iI 2)) (C := RX11) (T := TX11) (N := 21) hx hb hts (fun _ h => List.mem_cons_of_mem _ (inlX11 _ h)) hown hK hP 0 rfl rfl 17 (by decide) (hts _ (List.mem_cons_of_mem _ (in_r19 (List.mem_of_getElem? (i := 9) rfl)))) (fun _ h9 => h9) rfl dX11_lookAt_296 ?_
                        exact hJ_77 2 ls ⟨by omega, lv_sub hl [0, 1, 2, 3, 4] rfl⟩
                      · have c_79 : ¬ (tl__53 ≤ 2) := fun h9 => c_79 ((iI_le (a := tl__53) (b := 2) (by omega) (by first | decide | omega)).mpr h9)
                        refine lv_iconst (v := iI 4) hx hb dX11_lookAt_291 rfl ?_
                        refine lv_goto (tgt := 299) hx hb dX11_lookAt_292 (by decide) ?_
                        exact hJ_77 4 ls ⟨by omega, lv_sub hl [0, 1, 2, 3, 4] rfl⟩
                  · have c_74 : ¬ (tl__53 ≤ 2) := fun h9 => c_74 ((iI_le (a := tl__53) (b := 2) (by omega) (by first | decide | omega)).mpr h9)
                    refine lv_iload hx hb dX11_lookAt_227 (lv_at hl 0 rfl) ?_
                    refine lv_iconst (v := iI 2) hx hb dX11_lookAt_229 rfl ?_
                    refine lv_icmp_ge (tgt := 274) hx hb dX11_lookAt_230 (by decide) (fun _ => ?_) (fun c_80 => g_no (by decide) c_80)
                    refine lv_aload_n hx hb dX11_lookAt_274 rfl (lv_at hl 3 rfl) ?_
                    refine lv_aload_n hx hb dX11_lookAt_275 rfl (lv_at hl 3 rfl) ?_
                    refine va_get (D := G.1) (ci := 10) (v := .int (iI 2)) (C := RX11) (T := TX11) (N := 21) hx hb hts (fun _ h => List.mem_cons_of_mem _ (inlX11 _ h)) hown hK hP 0 rfl rfl 17 (by decide) (hts _ (List.mem_cons_of_mem _ (in_r19 (List.mem_of_getElem? (i := 9) rfl)))) (fun _ h9 => h9) rfl dX11_lookAt_276 ?_
                    refine lv_iconst (v := iI 2) hx hb dX11_lookAt_279 rfl ?_
                    refine lv_icmp_ne (tgt := 295) hx hb dX11_lookAt_280 (by decide) (fun c_81 => g_no (by decide) c_81) (fun _ => ?_)
                    refine lv_aload_n hx hb dX11_lookAt_283 rfl (lv_at hl 3 rfl) ?_
                    refine va_get (D := G.1) (ci := 10) (v := .int (iI tl__53)) (C := RX11) (T := TX11) (N := 21) hx hb hts (fun _ h => List.mem_cons_of_mem _ (inlX11 _ h)) hown hK hP 0 rfl rfl 16 (by decide) (hts _ (List.mem_cons_of_mem _ (in_r19 (List.mem_of_getElem? (i := 14) rfl)))) (fun _ h9 => h9) rfl dX11_lookAt_284 ?_
                    refine lv_iconst (v := iI 2) hx hb dX11_lookAt_287 rfl ?_
                    refine g_join (jn := 299) (rest := [.ref m0]) (fun t_82 ls => ((tl__53 ≤ 2 ∧ t_82 = 2) ∨ (¬ (tl__53 ≤ 2) ∧ t_82 = 4)) ∧ lv_has ls 5 [(4, .int (iI 2)), (3, .int (iI g0__52)), (2, .int (iI (my (ta_1.toNat)))), (0, .ref m0), (1, .int (iI f0))]) (fun t_82 ls hI => ?_) (fun hJ_83 => ?_)
                    · obtain ⟨f_84, hl⟩ := hI
                      refine va_put (D := G.1) (ci := 10) (v := .int (iI t_82)) (ty := .int) (C := RX11) (T := TX11) (N := 21) hx hb hts (fun _ h => List.mem_cons_of_mem _ (inlX11 _ h)) tyX11 tyX11_ok nmX11 hown hK hP hD hS 0 rfl rfl 17 (by decide) (hts _ (List.mem_cons_of_mem _ (in_r19 (List.mem_of_getElem? (i := 9) rfl)))) (fun _ h9 => h9) rfl (by decide +kernel) rfl rfl (Nat.le_of_ble_eq_true rfl) dX11_lookAt_299 (fun H locs hP hD hS => ?_)
                      have hPD : PD G A H [(m0, .inr (10, [.ref m_all, .ref m_kept, .ref m_isKept, .ref m_refused, .long (lI m_above), .long (lI m_below), .ref m_hand, .ref m_fewest, .ref m_whoBites, .ref m_leaves, .ref m_bestFeast, .ref m_tells, .ref m_hardOn, .ref m_bytes, .int (iI m_bytesLong), .int (iI ta_1), .int (iI tl__53), .int (iI t_82), .int (iI (((10 * ((0 + (my ((ta_1 + 0).toNat))) - 48)) + (my ((ta_1 + 1).toNat))) - 48)), .ref m_anew, .ref m_values])), (m_bytes, .inl (G.2 0, 150, .inl (cI my)))] := ⟨hP, hD⟩
                      have hP := hPD.1
                      have hD := hPD.2
                      clear hPD
                      exact g_vret hx hb hr hlocks hP hD hS (⟨ta_1, tl__53, t_82, (((10 * ((0 + (my ((ta_1 + 0).toNat))) - 48)) + (my ((ta_1 + 1).toNat))) - 48), (by first | assumption | omega), (by first | assumption | omega), (by first | assumption | omega), (by first | assumption | omega), (by first | assumption | omega), (rt_i (t := 2) (g := g0__52) (sk_of (by assumption) (by omega) (fun _ => by omega)) (by omega) (by omega) f_56 (by omega) (by omega) (by omega) (by omega)), rfl⟩) dX11_lookAt_302
                    · refine lv_icmp_le (tgt := 295) hx hb dX11_lookAt_288 (by decide) (fun c_85 => ?_) (fun c_85 => ?_)
                      · have c_85 := (iI_le (a := tl__53) (b := 2) (by omega) (by first | decide | omega)).mp c_85
                        refine lv_aload_n hx hb dX11_lookAt_295 rfl (lv_at hl 3 rfl) ?_
                        refine va_get (D := G.1) (ci := 10) (v := .int (iI 2)) (C := RX11) (T := TX11) (N := 21) hx hb hts (fun _ h => List.mem_cons_of_mem _ (inlX11 _ h)) hown hK hP 0 rfl rfl 17 (by decide) (hts _ (List.mem_cons_of_mem _ (in_r19 (List.mem_of_getElem? (i := 9) rfl)))) (fun _ h9 => h9) rfl dX11_lookAt_296 ?_
                        exact hJ_83 2 ls ⟨by omega, lv_sub hl [0, 1, 2, 3, 4] rfl⟩
                      · have c_85 : ¬ (tl__53 ≤ 2) := fun h9 => c_85 ((iI_le (a := tl__53) (b := 2) (by omega) (by first | decide | omega)).mpr h9)
                        refine lv_iconst (v := iI 4) hx hb dX11_lookAt_291 rfl ?_
                        refine lv_goto (tgt := 299) hx hb dX11_lookAt_292 (by decide) ?_
                        exact hJ_83 4 ls ⟨by omega, lv_sub hl [0, 1, 2, 3, 4] rfl⟩
            · have c_60 : ¬ (g0__52 = 0) := fun h9 => c_60 ((iI_eq (a := g0__52) (b := 0) (by omega) (by first | decide | omega)).mpr h9)
              refine lv_aload_n hx hb dX11_lookAt_140 rfl (lv_at hl 2 rfl) ?_
              refine va_get (D := G.1) (ci := 10) (v := .int (iI ta_1)) (C := RX11) (T := TX11) (N := 21) hx hb hts (fun _ h => List.mem_cons_of_mem _ (inlX11 _ h)) hown hK hP 0 rfl rfl 15 (by decide) (hts _ (List.mem_cons_of_mem _ (in_r19 (List.mem_of_getElem? (i := 8) rfl)))) (fun _ h9 => h9) rfl dX11_lookAt_141 ?_
              refine lv_aload_n hx hb dX11_lookAt_144 rfl (lv_at hl 2 rfl) ?_
              refine va_get (D := G.1) (ci := 10) (v := .int (iI tl__53)) (C := RX11) (T := TX11) (N := 21) hx hb hts (fun _ h => List.mem_cons_of_mem _ (inlX11 _ h)) hown hK hP 0 rfl rfl 16 (by decide) (hts _ (List.mem_cons_of_mem _ (in_r19 (List.mem_of_getElem? (i := 14) rfl)))) (fun _ h9 => h9) rfl dX11_lookAt_145 ?_
              refine lv_iadd hx hb dX11_lookAt_148 ?_
              refine g_topi (y := iI (ta_1 + tl__53)) (iI_add ta_1 tl__53) ?_
              refine lv_aload_n hx hb dX11_lookAt_149 rfl (lv_at hl 2 rfl) ?_
              refine va_get (D := G.1) (ci := 10) (v := .int (iI m_bytesLong)) (C := RX11) (T := TX11) (N := 21) hx hb hts (fun _ h => List.mem_cons_of_mem _ (inlX11 _ h)) hown hK hP 0 rfl rfl 14 (by decide) (hts _ (List.mem_cons_of_mem _ (in_r11 (List.mem_of_getElem? (i := 7) rfl)))) (fun _ h9 => h9) rfl dX11_lookAt_150 ?_
              refine lv_icmp_ge (tgt := 215) hx hb dX11_lookAt_153 (by decide) (fun c_86 => ?_) (fun c_86 => ?_)
              · have c_86 := (iI_le (a := m_bytesLong) (b := (ta_1 + tl__53)) (by omega) (by omega)).mp c_86
                refine lv_iconst (v := iI 0) hx hb dX11_lookAt_215 rfl ?_
                refine lv_istore (lv' := [(4, .int (iI 0)), (3, .int (iI g0__52)), (2, .int (iI (my (ta_1.toNat)))), (0, .ref m0), (1, .int (iI f0))]) hx hb dX11_lookAt_216 hl (by decide) rfl (fun ls hl => ?_)
                refine lv_iload hx hb dX11_lookAt_218 (lv_at hl 0 rfl) ?_
                refine lv_aload_n hx hb dX11_lookAt_220 rfl (lv_at hl 3 rfl) ?_
                refine va_get (D := G.1) (ci := 10) (v := .int (iI tl__53)) (C := RX11) (T := TX11) (N := 21) hx hb hts (fun _ h => List.mem_cons_of_mem _ (inlX11 _ h)) hown hK hP 0 rfl rfl 16 (by decide) (hts _ (List.mem_cons_of_mem _ (in_r19 (List.mem_of_getElem? (i := 14) rfl)))) (fun _ h9 => h9) rfl dX11_lookAt_221 ?_
                refine lv_icmp_ge (tgt := 274) hx hb dX11_lookAt_224 (by decide) (fun c_87 => ?_) (fun c_87 => ?_)
                · have c_87 := (iI_le (a := tl__53) (b := 0) (by omega) (by first | decide | omega)).mp c_87
                  exfalso
                  omega
                · have c_87 : ¬ (tl__53 ≤ 0) := fun h9 => c_87 ((iI_le (a := tl__53) (b := 0) (by omega) (by first | decide | omega)).mpr h9)
                  refine lv_iload hx hb dX11_lookAt_227 (lv_at hl 0 rfl) ?_
                  refine lv_iconst (v := iI 2) hx hb dX11_lookAt_229 rfl ?_
                  refine lv_icmp_ge (tgt := 274) hx hb dX11_lookAt_230 (by decide) (fun c_88 => g_no c_88 (by decide)) (fun _ => ?_)
                  refine lv_aload_n hx hb dX11_lookAt_233 rfl (lv_at hl 3 rfl) ?_
                  refine va_get (D := G.1) (ci := 10) (v := .int (iI 2)) (C := RX11) (T := TX11) (N := 21) hx hb hts (fun _ h => List.mem_cons_of_mem _ (inlX11 _ h)) hown hK hP 0 rfl rfl 17 (by decide) (hts _ (List.mem_cons_of_mem _ (in_r19 (List.mem_of_getElem? (i := 9) rfl)))) (fun _ h9 => h9) rfl dX11_lookAt_234 ?_
                  refine lv_iconst (v := iI 2) hx hb dX11_lookAt_237 rfl ?_
                  refine lv_icmp_ne (tgt := 274) hx hb dX11_lookAt_238 (by decide) (fun c_89 => g_no (by decide) c_89) (fun _ => ?_)
                  refine lv_aload_n hx hb dX11_lookAt_241 rfl (lv_at hl 3 rfl) ?_
                  refine lv_bipush (v := iI 10) hx hb dX11_lookAt_242 (by decide) ?_
                  refine lv_aload_n hx hb dX11_lookAt_244 rfl (lv_at hl 3 rfl) ?_
                  refine va_get (D := G.1) (ci := 10) (v := .int (iI 0)) (C := RX11) (T := TX11) (N := 21) hx hb hts (fun _ h => List.mem_cons_of_mem _ (inlX11 _ h)) hown hK hP 0 rfl rfl 18 (by decide) (hts _ (List.mem_cons_of_mem _ (in_r19 (List.mem_of_getElem? (i := 15) rfl)))) (fun _ h9 => h9) rfl dX11_lookAt_245 ?_
                  refine lv_imul hx hb dX11_lookAt_248 ?_
                  refine g_topi (y := iI 0) (iI_mul 10 0) ?_
                  refine lv_aload_n hx hb dX11_lookAt_249 rfl (lv_at hl 3 rfl) ?_
                  refine va_get (D := G.1) (ci := 10) (v := .ref m_bytes) (C := RX11) (T := TX11) (N := 21) hx hb hts (fun _ h => List.mem_cons_of_mem _ (inlX11 _ h)) hown hK hP 0 rfl rfl 13 (by decide) (hts _ (List.mem_cons_of_mem _ (in_r6 (List.mem_of_getElem? (i := 12) rfl)))) (fun _ h9 => h9) rfl dX11_lookAt_250 ?_
                  refine lv_aload_n hx hb dX11_lookAt_253 rfl (lv_at hl 3 rfl) ?_
                  refine va_get (D := G.1) (ci := 10) (v := .int (iI ta_1)) (C := RX11) (T := TX11) (N := 21) hx hb hts (fun _ h => List.mem_cons_of_mem _ (inlX11 _ h)) hown hK hP 0 rfl rfl 15 (by decide) (hts _ (List.mem_cons_of_mem _ (in_r19 (List.mem_of_getElem? (i := 8) rfl)))) (fun _ h9 => h9) rfl dX11_lookAt_254 ?_
                  refine lv_iload hx hb dX11_lookAt_257 (lv_at hl 0 rfl) ?_
                  refine lv_iadd hx hb dX11_lookAt_259 ?_
                  refine g_topi (y := iI (ta_1 + 0)) (iI_add ta_1 0) ?_
                  refine g_ild hx hb hK hP 1 rfl (by omega) (by omega) (by first | exact Nat.le_of_ble_eq_true rfl | omega) dX11_lookAt_260 (fun w_90 ew_90 => ?_)
                  have ew_90 : my ((ta_1 + 0).toNat) = w_90 := ew_90
                  subst ew_90
                  have b0w_90 := y0_ ((ta_1 + 0).toNat)
                  refine lv_iadd hx hb dX11_lookAt_261 ?_
                  refine g_topi (y := iI (0 + (my ((ta_1 + 0).toNat)))) (iI_add 0 (my ((ta_1 + 0).toNat))) ?_
                  refine lv_bipush (v := iI 48) hx hb dX11_lookAt_262 (by decide) ?_
                  refine lv_isub hx hb dX11_lookAt_264 ?_
                  refine g_topi (y := iI ((0 + (my ((ta_1 + 0).toNat))) - 48)) (iI_sub (0 + (my ((ta_1 + 0).toNat))) 48) ?_
                  refine va_put (D := G.1) (ci := 10) (v := .int (iI ((0 + (my ((ta_1 + 0).toNat))) - 48))) (ty := .int) (C := RX11) (T := TX11) (N := 21) hx hb hts (fun _ h => List.mem_cons_of_mem _ (inlX11 _ h)) tyX11 tyX11_ok nmX11 hown hK hP hD hS 0 rfl rfl 18 (by decide) (hts _ (List.mem_cons_of_mem _ (in_r19 (List.mem_of_getElem? (i := 15) rfl)))) (fun _ h9 => h9) rfl (by decide +kernel) rfl rfl (Nat.le_of_ble_eq_true rfl) dX11_lookAt_265 (fun H locs hP hD hS => ?_)
                  have hPD : PD G A H [(m0, .inr (10, [.ref m_all, .ref m_kept, .ref m_isKept, .ref m_refused, .long (lI m_above), .long (lI m_below), .ref m_hand, .ref m_fewest, .ref m_whoBites, .ref m_leaves, .ref m_bestFeast, .ref m_tells, .ref m_hardOn, .ref m_bytes, .int (iI m_bytesLong), .int (iI ta_1), .int (iI tl__53), .int (iI 2), .int (iI ((0 + (my ((ta_1 + 0).toNat))) - 48)), .ref m_anew, .ref m_values])), (m_bytes, .inl (G.2 0, 150, .inl (cI my)))] := ⟨hP, hD⟩
                  have hP := hPD.1
                  have hD := hPD.2
                  clear hPD
                  refine lv_iinc (v := iI 1) (lv' := [(4, .int (iI 1)), (3, .int (iI g0__52)), (2, .int (iI (my (ta_1.toNat)))), (0, .ref m0), (1, .int (iI f0))]) hx hb dX11_lookAt_268 hl (k := 0) rfl (iI_add 0 1) (by decide) rfl (fun ls hl => ?_)
                  refine lv_goto (tgt := 218) hx hb dX11_lookAt_271 (by decide) ?_
                  refine lv_iload hx hb dX11_lookAt_218 (lv_at hl 0 rfl) ?_
                  refine lv_aload_n hx hb dX11_lookAt_220 rfl (lv_at hl 3 rfl) ?_
                  refine va_get (D := G.1) (ci := 10) (v := .int (iI tl__53)) (C := RX11) (T := TX11) (N := 21) hx hb hts (fun _ h => List.mem_cons_of_mem _ (inlX11 _ h)) hown hK hP 0 rfl rfl 16 (by decide) (hts _ (List.mem_cons_of_mem _ (in_r19 (List.mem_of_getElem? (i := 14) rfl)))) (fun _ h9 => h9) rfl dX11_lookAt_221 ?_
                  refine lv_icmp_ge (tgt := 274) hx hb dX11_lookAt_224 (by decide) (fun c_91 => ?_) (fun c_91 => ?_)
                  · have c_91 := (iI_le (a := tl__53) (b := 1) (by omega) (by first | decide | omega)).mp c_91
                    refine lv_aload_n hx hb dX11_lookAt_274 rfl (lv_at hl 3 rfl) ?_
                    refine lv_aload_n hx hb dX11_lookAt_275 rfl (lv_at hl 3 rfl) ?_
                    refine va_get (D := G.1) (ci := 10) (v := .int (iI 2)) (C := RX11) (T := TX11) (N := 21) hx hb hts (fun _ h => List.mem_cons_of_mem _ (inlX11 _ h)) hown hK hP 0 rfl rfl 17 (by decide) (hts _ (List.mem_cons_of_mem _ (in_r19 (List.mem_of_getElem? (i := 9) rfl)))) (fun _ h9 => h9) rfl dX11_lookAt_276 ?_
                    refine lv_iconst (v := iI 2) hx hb dX11_lookAt_279 rfl ?_
                    refine lv_icmp_ne (tgt := 295) hx hb dX11_lookAt_280 (by decide) (fun c_92 => g_no (by decide) c_92) (fun _ => ?_)
                    refine lv_aload_n hx hb dX11_lookAt_283 rfl (lv_at hl 3 rfl) ?_
                    refine va_get (D := G.1) (ci := 10) (v := .int (iI tl__53)) (C := RX11) (T := TX11) (N := 21) hx hb hts (fun _ h => List.mem_cons_of_mem _ (inlX11 _ h)) hown hK hP 0 rfl rfl 16 (by decide) (hts _ (List.mem_cons_of_mem _ (in_r19 (List.mem_of_getElem? (i := 14) rfl)))) (fun _ h9 => h9) rfl dX11_lookAt_284 ?_
                    refine lv_iconst (v := iI 2) hx hb dX11_lookAt_287 rfl ?_
                    refine g_join (jn := 299) (rest := [.ref m0]) (fun t_93 ls => ((tl__53 ≤ 2 ∧ t_93 = 2) ∨ (¬ (tl__53 ≤ 2) ∧ t_93 = 4)) ∧ lv_has ls 5 [(4, .int (iI 1)), (3, .int (iI g0__52)), (2, .int (iI (my (ta_1.toNat)))), (0, .ref m0), (1, .int (iI f0))]) (fun t_93 ls hI => ?_) (fun hJ_94 => ?_)
                    · obtain ⟨f_95, hl⟩ := hI
                      refine va_put (D := G.1) (ci := 10) (v := .int (iI t_93)) (ty := .int) (C := RX11) (T := TX11) (N := 21) hx hb hts (fun _ h => List.mem_cons_of_mem _ (inlX11 _ h)) tyX11 tyX11_ok nmX11 hown hK hP hD hS 0 rfl rfl 17 (by decide) (hts _ (List.mem_cons_of_mem _ (in_r19 (List.mem_of_getElem? (i := 9) rfl)))) (fun _ h9 => h9) rfl (by decide +kernel) rfl rfl (Nat.le_of_ble_eq_true rfl) dX11_lookAt_299 (fun H locs hP hD hS => ?_)
                      have hPD : PD G A H [(m0, .inr (10, [.ref m_all, .ref m_kept, .ref m_isKept, .ref m_refused, .long (lI m_above), .long (lI m_below), .ref m_hand, .ref m_fewest, .ref m_whoBites, .ref m_leaves, .ref m_bestFeast, .ref m_tells, .ref m_hardOn, .ref m_bytes, .int (iI m_bytesLong), .int (iI ta_1), .int (iI tl__53), .int (iI t_93), .int (iI ((0 + (my ((ta_1 + 0).toNat))) - 48)), .ref m_anew, .ref m_values])), (m_bytes, .inl (G.2 0, 150, .inl (cI my)))] := ⟨hP, hD⟩
                      have hP := hPD.1
                      have hD := hPD.2
                      clear hPD
                      exact g_vret hx hb hr hlocks hP hD hS (⟨ta_1, tl__53, t_93, ((0 + (my ((ta_1 + 0).toNat))) - 48), (by first | assumption | omega), (by first | assumption | omega), (by first | assumption | omega), (by first | assumption | omega), (by first | assumption | omega), (rt_i (t := 2) (g := g0__52) (sk_of (by assumption) (by omega) (fun _ => by omega)) (by omega) (by omega) f_56 (by omega) (by omega) (by omega) (by omega)), rfl⟩) dX11_lookAt_302
                    · refine lv_icmp_le (tgt := 295) hx hb dX11_lookAt_288 (by decide) (fun c_96 => ?_) (fun c_96 => ?_)
                      · have c_96 := (iI_le (a := tl__53) (b := 2) (by omega) (by first | decide | omega)).mp c_96
                        refine lv_aload_n hx hb dX11_lookAt_295 rfl (lv_at hl 3 rfl) ?_
                        refine va_get (D := G.1) (ci := 10) (v := .int (iI 2)) (C := RX11) (T := TX11) (N := 21) hx hb hts (fun _ h => List.mem_cons_of_mem _ (inlX11 _ h)) hown hK hP 0 rfl rfl 17 (by decide) (hts _ (List.mem_cons_of_mem _ (in_r19 (List.mem_of_getElem? (i := 9) rfl)))) (fun _ h9 => h9) rfl dX11_lookAt_296 ?_
                        exact hJ_94 2 ls ⟨by omega, lv_sub hl [0, 1, 2, 3, 4] rfl⟩
                      · have c_96 : ¬ (tl__53 ≤ 2) := fun h9 => c_96 ((iI_le (a := tl__53) (b := 2) (by omega) (by first | decide | omega)).mpr h9)
                        refine lv_iconst (v := iI 4) hx hb dX11_lookAt_291 rfl ?_
                        refine lv_goto (tgt := 299) hx hb dX11_lookAt_292 (by decide) ?_
                        exact hJ_94 4 ls ⟨by omega, lv_sub hl [0, 1, 2, 3, 4] rfl⟩
                  · have c_91 : ¬ (tl__53 ≤ 1) := fun h9 => c_91 ((iI_le (a := tl__53) (b := 1) (by omega) (by first | decide | omega)).mpr h9)
                    refine lv_iload hx hb dX11_lookAt_227 (lv_at hl 0 rfl) ?_
                    refine lv_iconst (v := iI 2) hx hb dX11_lookAt_229 rfl ?_
                    refine lv_icmp_ge (tgt := 274) hx hb dX11_lookAt_230 (by decide) (fun c_97 => g_no c_97 (by decide)) (fun _ => ?_)
                    refine lv_aload_n hx hb dX11_lookAt_233 rfl (lv_at hl 3 rfl) ?_
                    refine va_get (D := G.1) (ci := 10) (v := .int (iI 2)) (C := RX11) (T := TX11) (N := 21) hx hb hts (fun _ h => List.mem_cons_of_mem _ (inlX11 _ h)) hown hK hP 0 rfl rfl 17 (by decide) (hts _ (List.mem_cons_of_mem _ (in_r19 (List.mem_of_getElem? (i := 9) rfl)))) (fun _ h9 => h9) rfl dX11_lookAt_234 ?_
                    refine lv_iconst (v := iI 2) hx hb dX11_lookAt_237 rfl ?_
                    refine lv_icmp_ne (tgt := 274) hx hb dX11_lookAt_238 (by decide) (fun c_98 => g_no (by decide) c_98) (fun _ => ?_)
                    refine lv_aload_n hx hb dX11_lookAt_241 rfl (lv_at hl 3 rfl) ?_
                    refine lv_bipush (v := iI 10) hx hb dX11_lookAt_242 (by decide) ?_
                    refine lv_aload_n hx hb dX11_lookAt_244 rfl (lv_at hl 3 rfl) ?_
                    refine va_get (D := G.1) (ci := 10) (v := .int (iI ((0 + (my ((ta_1 + 0).toNat))) - 48))) (C := RX11) (T := TX11) (N := 21) hx hb hts (fun _ h => List.mem_cons_of_mem _ (inlX11 _ h)) hown hK hP 0 rfl rfl 18 (by decide) (hts _ (List.mem_cons_of_mem _ (in_r19 (List.mem_of_getElem? (i := 15) rfl)))) (fun _ h9 => h9) rfl dX11_lookAt_245 ?_
                    refine lv_imul hx hb dX11_lookAt_248 ?_
                    refine g_topi (y := iI (10 * ((0 + (my ((ta_1 + 0).toNat))) - 48))) (iI_mul 10 ((0 + (my ((ta_1 + 0).toNat))) - 48)) ?_
                    refine lv_aload_n hx hb dX11_lookAt_249 rfl (lv_at hl 3 rfl) ?_
                    refine va_get (D := G.1) (ci := 10) (v := .ref m_bytes) (C := RX11) (T := TX11) (N := 21) hx hb hts (fun _ h => List.mem_cons_of_mem _ (inlX11 _ h)) hown hK hP 0 rfl rfl 13 (by decide) (hts _ (List.mem_cons_of_mem _ (in_r6 (List.mem_of_getElem? (i := 12) rfl)))) (fun _ h9 => h9) rfl dX11_lookAt_250 ?_
                    refine lv_aload_n hx hb dX11_lookAt_253 rfl (lv_at hl 3 rfl) ?_
                    refine va_get (D := G.1) (ci := 10) (v := .int (iI ta_1)) (C := RX11) (T := TX11) (N := 21) hx hb hts (fun _ h => List.mem_cons_of_mem _ (inlX11 _ h)) hown hK hP 0 rfl rfl 15 (by decide) (hts _ (List.mem_cons_of_mem _ (in_r19 (List.mem_of_getElem? (i := 8) rfl)))) (fun _ h9 => h9) rfl dX11_lookAt_254 ?_
                    refine lv_iload hx hb dX11_lookAt_257 (lv_at hl 0 rfl) ?_
                    refine lv_iadd hx hb dX11_lookAt_259 ?_
                    refine g_topi (y := iI (ta_1 + 1)) (iI_add ta_1 1) ?_
                    refine g_ild hx hb hK hP 1 rfl (by omega) (by omega) (by first | exact Nat.le_of_ble_eq_true rfl | omega) dX11_lookAt_260 (fun w_99 ew_99 => ?_)
                    have ew_99 : my ((ta_1 + 1).toNat) = w_99 := ew_99
                    subst ew_99
                    have b0w_99 := y0_ ((ta_1 + 1).toNat)
                    refine lv_iadd hx hb dX11_lookAt_261 ?_
                    refine g_topi (y := iI ((10 * ((0 + (my ((ta_1 + 0).toNat))) - 48)) + (my ((ta_1 + 1).toNat)))) (iI_add (10 * ((0 + (my ((ta_1 + 0).toNat))) - 48)) (my ((ta_1 + 1).toNat))) ?_
                    refine lv_bipush (v := iI 48) hx hb dX11_lookAt_262 (by decide) ?_
                    refine lv_isub hx hb dX11_lookAt_264 ?_
                    refine g_topi (y := iI (((10 * ((0 + (my ((ta_1 + 0).toNat))) - 48)) + (my ((ta_1 + 1).toNat))) - 48)) (iI_sub ((10 * ((0 + (my ((ta_1 + 0).toNat))) - 48)) + (my ((ta_1 + 1).toNat))) 48) ?_
                    refine va_put (D := G.1) (ci := 10) (v := .int (iI (((10 * ((0 + (my ((ta_1 + 0).toNat))) - 48)) + (my ((ta_1 + 1).toNat))) - 48))) (ty := .int) (C := RX11) (T := TX11) (N := 21) hx hb hts (fun _ h => List.mem_cons_of_mem _ (inlX11 _ h)) tyX11 tyX11_ok nmX11 hown hK hP hD hS 0 rfl rfl 18 (by decide) (hts _ (List.mem_cons_of_mem _ (in_r19 (List.mem_of_getElem? (i := 15) rfl)))) (fun _ h9 => h9) rfl (by decide +kernel) rfl rfl (Nat.le_of_ble_eq_true rfl) dX11_lookAt_265 (fun H locs hP hD hS => ?_)
                    have hPD : PD G A H [(m0, .inr (10, [.ref m_all, .ref m_kept, .ref m_isKept, .ref m_refused, .long (lI m_above), .long (lI m_below), .ref m_hand, .ref m_fewest, .ref m_whoBites, .ref m_leaves, .ref m_bestFeast, .ref m_tells, .ref m_hardOn, .ref m_bytes, .int (iI m_bytesLong), .int (iI ta_1), .int (iI tl__53), .int (iI 2), .int (iI (((10 * ((0 + (my ((ta_1 + 0).toNat))) - 48)) + (my ((ta_1 + 1).toNat))) - 48)), .ref m_anew, .ref m_values])), (m_bytes, .inl (G.2 0, 150, .inl (cI my)))] := ⟨hP, hD⟩
                    have hP := hPD.1
                    have hD := hPD.2
                    clear hPD
                    refine lv_iinc (v := iI 2) (lv' := [(4, .int (iI 2)), (3, .int (iI g0__52)), (2, .int (iI (my (ta_1.toNat)))), (0, .ref m0), (1, .int (iI f0))]) hx hb dX11_lookAt_268 hl (k := 0) rfl (iI_add 1 1) (by decide) rfl (fun ls hl => ?_)
                    refine lv_goto (tgt := 218) hx hb dX11_lookAt_271 (by decide) ?_
                    refine lv_iload hx hb dX11_lookAt_218 (lv_at hl 0 rfl) ?_
                    refine lv_aload_n hx hb dX11_lookAt_220 rfl (lv_at hl 3 rfl) ?_
                    refine va_get (D := G.1) (ci := 10) (v := .int (iI tl__53)) (C := RX11) (T := TX11) (N := 21) hx hb hts (fun _ h => List.mem_cons_of_mem _ (inlX11 _ h)) hown hK hP 0 rfl rfl 16 (by decide) (hts _ (List.mem_cons_of_mem _ (in_r19 (List.mem_of_getElem? (i := 14) rfl)))) (fun _ h9 => h9) rfl dX11_lookAt_221 ?_
                    refine lv_icmp_ge (tgt := 274) hx hb dX11_lookAt_224 (by decide) (fun c_100 => ?_) (fun c_100 => ?_)
                    · have c_100 := (iI_le (a := tl__53) (b := 2) (by omega) (by first | decide | omega)).mp c_100
                      refine lv_aload_n hx hb dX11_lookAt_274 rfl (lv_at hl 3 rfl) ?_
                      refine lv_aload_n hx hb dX11_lookAt_275 rfl (lv_at hl 3 rfl) ?_
                      refine va_get (D := G.1) (ci := 10) (v := .int (iI 2)) (C := RX11) (T := TX11) (N := 21) hx hb hts (fun _ h => List.mem_cons_of_mem _ (inlX11 _ h)) hown hK hP 0 rfl rfl 17 (by decide) (hts _ (List.mem_cons_of_mem _ (in_r19 (List.mem_of_getElem? (i := 9) rfl)))) (fun _ h9 => h9) rfl dX11_lookAt_276 ?_
                      refine lv_iconst (v := iI 2) hx hb dX11_lookAt_279 rfl ?_
                      refine lv_icmp_ne (tgt := 295) hx hb dX11_lookAt_280 (by decide) (fun c_101 => g_no (by decide) c_101) (fun _ => ?_)
                      refine lv_aload_n hx hb dX11_lookAt_283 rfl (lv_at hl 3 rfl) ?_
                      refine va_get (D := G.1) (ci := 10) (v := .int (iI tl__53)) (C := RX11) (T := TX11) (N := 21) hx hb hts (fun _ h => List.mem_cons_of_mem _ (inlX11 _ h)) hown hK hP 0 rfl rfl 16 (by decide) (hts _ (List.mem_cons_of_mem _ (in_r19 (List.mem_of_getElem? (i := 14) rfl)))) (fun _ h9 => h9) rfl dX11_lookAt_284 ?_
                      refine lv_iconst (v := iI 2) hx hb dX11_lookAt_287 rfl ?_
                      refine g_join (jn := 299) (rest := [.ref m0]) (fun t_102 ls => ((tl__53 ≤ 2 ∧ t_102 = 2) ∨ (¬ (tl__53 ≤ 2) ∧ t_102 = 4)) ∧ lv_has ls 5 [(4, .int (iI 2)), (3, .int (iI g0__52)), (2, .int (iI (my (ta_1.toNat)))), (0, .ref m0), (1, .int (iI f0))]) (fun t_102 ls hI => ?_) (fun hJ_103 => ?_)
                      · obtain ⟨f_104, hl⟩ := hI
                        refine va_put (D := G.1) (ci := 10) (v := .int (iI t_102)) (ty := .int) (C := RX11) (T := TX11) (N := 21) hx hb hts (fun _ h => List.mem_cons_of_mem _ (inlX11 _ h)) tyX11 tyX11_ok nmX11 hown hK hP hD hS 0 rfl rfl 17 (by decide) (hts _ (List.mem_cons_of_mem _ (in_r19 (List.mem_of_getElem? (i := 9) rfl)))) (fun _ h9 => h9) rfl (by decide +kernel) rfl rfl (Nat.le_of_ble_eq_true rfl) dX11_lookAt_299 (fun H locs hP hD hS => ?_)
                        have hPD : PD G A H [(m0, .inr (10, [.ref m_all, .ref m_kept, .ref m_isKept, .ref m_refused, .long (lI m_above), .long (lI m_below), .ref m_hand, .ref m_fewest, .ref m_whoBites, .ref m_leaves, .ref m_bestFeast, .ref m_tells, .ref m_hardOn, .ref m_bytes, .int (iI m_bytesLong), .int (iI ta_1), .int (iI tl__53), .int (iI t_102), .int (iI (((10 * ((0 + (my ((ta_1 + 0).toNat))) - 48)) + (my ((ta_1 + 1).toNat))) - 48)), .ref m_anew, .ref m_values])), (m_bytes, .inl (G.2 0, 150, .inl (cI my)))] := ⟨hP, hD⟩
                        have hP := hPD.1
                        have hD := hPD.2
                        clear hPD
                        exact g_vret hx hb hr hlocks hP hD hS (⟨ta_1, tl__53, t_102, (((10 * ((0 + (my ((ta_1 + 0).toNat))) - 48)) + (my ((ta_1 + 1).toNat))) - 48), (by first | assumption | omega), (by first | assumption | omega), (by first | assumption | omega), (by first | assumption | omega), (by first | assumption | omega), (rt_i (t := 2) (g := g0__52) (sk_of (by assumption) (by omega) (fun _ => by omega)) (by omega) (by omega) f_56 (by omega) (by omega) (by omega) (by omega)), rfl⟩) dX11_lookAt_302
                      · refine lv_icmp_le (tgt := 295) hx hb dX11_lookAt_288 (by decide) (fun c_105 => ?_) (fun c_105 => ?_)
                        · have c_105 := (iI_le (a := tl__53) (b := 2) (by omega) (by first | decide | omega)).mp c_105
                          refine lv_aload_n hx hb dX11_lookAt_295 rfl (lv_at hl 3 rfl) ?_
                          refine va_get (D := G.1) (ci := 10) (v := .int (iI 2)) (C := RX11) (T := TX11) (N := 21) hx hb hts (fun _ h => List.mem_cons_of_mem _ (inlX11 _ h)) hown hK hP 0 rfl rfl 17 (by decide) (hts _ (List.mem_cons_of_mem _ (in_r19 (List.mem_of_getElem? (i := 9) rfl)))) (fun _ h9 => h9) rfl dX11_lookAt_296 ?_
                          exact hJ_103 2 ls ⟨by omega, lv_sub hl [0, 1, 2, 3, 4] rfl⟩
                        · have c_105 : ¬ (tl__53 ≤ 2) := fun h9 => c_105 ((iI_le (a := tl__53) (b := 2) (by omega) (by first | decide | omega)).mpr h9)
                          refine lv_iconst (v := iI 4) hx hb dX11_lookAt_291 rfl ?_
                          refine lv_goto (tgt := 299) hx hb dX11_lookAt_292 (by decide) ?_
                          exact hJ_103 4 ls ⟨by omega, lv_sub hl [0, 1, 2, 3, 4] rfl⟩
                    · have c_100 : ¬ (tl__53 ≤ 2) := fun h9 => c_100 ((iI_le (a := tl__53) (b := 2) (by omega) (by first | decide | omega)).mpr h9)
                      refine lv_iload hx hb dX11_lookAt_227 (lv_at hl 0 rfl) ?_
                      refine lv_iconst (v := iI 2) hx hb dX11_lookAt_229 rfl ?_
                      refine lv_icmp_ge (tgt := 274) hx hb dX11_lookAt_230 (by decide) (fun _ => ?_) (fun c_106 => g_no (by decide) c_106)
                      refine lv_aload_n hx hb dX11_lookAt_274 rfl (lv_at hl 3 rfl) ?_
                      refine lv_aload_n hx hb dX11_lookAt_275 rfl (lv_at hl 3 rfl) ?_
                      refine va_get (D := G.1) (ci := 10) (v := .int (iI 2)) (C := RX11) (T := TX11) (N := 21) hx hb hts (fun _ h => List.mem_cons_of_mem _ (inlX11 _ h)) hown hK hP 0 rfl rfl 17 (by decide) (hts _ (List.mem_cons_of_mem _ (in_r19 (List.mem_of_getElem? (i := 9) rfl)))) (fun _ h9 => h9) rfl dX11_lookAt_276 ?_
                      refine lv_iconst (v := iI 2) hx hb dX11_lookAt_279 rfl ?_
                      refine lv_icmp_ne (tgt := 295) hx hb dX11_lookAt_280 (by decide) (fun c_107 => g_no (by decide) c_107) (fun _ => ?_)
                      refine lv_aload_n hx hb dX11_lookAt_283 rfl (lv_at hl 3 rfl) ?_
                      refine va_get (D := G.1) (ci := 10) (v := .int (iI tl__53)) (C := RX11) (T := TX11) (N := 21) hx hb hts (fun _ h => List.mem_cons_of_mem _ (inlX11 _ h)) hown hK hP 0 rfl rfl 16 (by decide) (hts _ (List.mem_cons_of_mem _ (in_r19 (List.mem_of_getElem? (i := 14) rfl)))) (fun _ h9 => h9) rfl dX11_lookAt_284 ?_
                      refine lv_iconst (v := iI 2) hx hb dX11_lookAt_287 rfl ?_
                      refine g_join (jn := 299) (rest := [.ref m0]) (fun t_108 ls => ((tl__53 ≤ 2 ∧ t_108 = 2) ∨ (¬ (tl__53 ≤ 2) ∧ t_108 = 4)) ∧ lv_has ls 5 [(4, .int (iI 2)), (3, .int (iI g0__52)), (2, .int (iI (my (ta_1.toNat)))), (0, .ref m0), (1, .int (iI f0))]) (fun t_108 ls hI => ?_) (fun hJ_109 => ?_)
                      · obtain ⟨f_110, hl⟩ := hI
                        refine va_put (D := G.1) (ci := 10) (v := .int (iI t_108)) (ty := .int) (C := RX11) (T := TX11) (N := 21) hx hb hts (fun _ h => List.mem_cons_of_mem _ (inlX11 _ h)) tyX11 tyX11_ok nmX11 hown hK hP hD hS 0 rfl rfl 17 (by decide) (hts _ (List.mem_cons_of_mem _ (in_r19 (List.mem_of_getElem? (i := 9) rfl)))) (fun _ h9 => h9) rfl (by decide +kernel) rfl rfl (Nat.le_of_ble_eq_true rfl) dX11_lookAt_299 (fun H locs hP hD hS => ?_)
                        have hPD : PD G A H [(m0, .inr (10, [.ref m_all, .ref m_kept, .ref m_isKept, .ref m_refused, .long (lI m_above), .long (lI m_below), .ref m_hand, .ref m_fewest, .ref m_whoBites, .ref m_leaves, .ref m_bestFeast, .ref m_tells, .ref m_hardOn, .ref m_bytes, .int (iI m_bytesLong), .int (iI ta_1), .int (iI tl__53), .int (iI t_108), .int (iI (((10 * ((0 + (my ((ta_1 + 0).toNat))) - 48)) + (my ((ta_1 + 1).toNat))) - 48)), .ref m_anew, .ref m_values])), (m_bytes, .inl (G.2 0, 150, .inl (cI my)))] := ⟨hP, hD⟩
                        have hP := hPD.1
                        have hD := hPD.2
                        clear hPD
                        exact g_vret hx hb hr hlocks hP hD hS (⟨ta_1, tl__53, t_108, (((10 * ((0 + (my ((ta_1 + 0).toNat))) - 48)) + (my ((ta_1 + 1).toNat))) - 48), (by first | assumption | omega), (by first | assumption | omega), (by first | assumption | omega), (by first | assumption | omega), (by first | assumption | omega), (rt_i (t := 2) (g := g0__52) (sk_of (by assumption) (by omega) (fun _ => by omega)) (by omega) (by omega) f_56 (by omega) (by omega) (by omega) (by omega)), rfl⟩) dX11_lookAt_302
                      · refine lv_icmp_le (tgt := 295) hx hb dX11_lookAt_288 (by decide) (fun c_111 => ?_) (fun c_111 => ?_)
                        · have c_111 := (iI_le (a := tl__53) (b := 2) (by omega) (by first | decide | omega)).mp c_111
                          refine lv_aload_n hx hb dX11_lookAt_295 rfl (lv_at hl 3 rfl) ?_
                          refine va_get (D := G.1) (ci := 10) (v := .int (iI 2)) (C := RX11) (T := TX11) (N := 21) hx hb hts (fun _ h => List.mem_cons_of_mem _ (inlX11 _ h)) hown hK hP 0 rfl rfl 17 (by decide) (hts _ (List.mem_cons_of_mem _ (in_r19 (List.mem_of_getElem? (i := 9) rfl)))) (fun _ h9 => h9) rfl dX11_lookAt_296 ?_
                          exact hJ_109 2 ls ⟨by omega, lv_sub hl [0, 1, 2, 3, 4] rfl⟩
                        · have c_111 : ¬ (tl__53 ≤ 2) := fun h9 => c_111 ((iI_le (a := tl__53) (b := 2) (by omega) (by first | decide | omega)).mpr h9)
                          refine lv_iconst (v := iI 4) hx hb dX11_lookAt_291 rfl ?_
                          refine lv_goto (tgt := 299) hx hb dX11_lookAt_292 (by decide) ?_
                          exact hJ_109 4 ls ⟨by omega, lv_sub hl [0, 1, 2, 3, 4] rfl⟩
              · have c_86 : ¬ (m_bytesLong ≤ (ta_1 + tl__53)) := fun h9 => c_86 ((iI_le (a := m_bytesLong) (b := (ta_1 + tl__53)) (by omega) (by omega)).mpr h9)
                refine lv_aload_n hx hb dX11_lookAt_156 rfl (lv_at hl 2 rfl) ?_
                refine va_get (D := G.1) (ci := 10) (v := .ref m_bytes) (C := RX11) (T := TX11) (N := 21) hx hb hts (fun _ h => List.mem_cons_of_mem _ (inlX11 _ h)) hown hK hP 0 rfl rfl 13 (by decide) (hts _ (List.mem_cons_of_mem _ (in_r6 (List.mem_of_getElem? (i := 12) rfl)))) (fun _ h9 => h9) rfl dX11_lookAt_157 ?_
                refine lv_aload_n hx hb dX11_lookAt_160 rfl (lv_at hl 2 rfl) ?_
                refine va_get (D := G.1) (ci := 10) (v := .int (iI ta_1)) (C := RX11) (T := TX11) (N := 21) hx hb hts (fun _ h => List.mem_cons_of_mem _ (inlX11 _ h)) hown hK hP 0 rfl rfl 15 (by decide) (hts _ (List.mem_cons_of_mem _ (in_r19 (List.mem_of_getElem? (i := 8) rfl)))) (fun _ h9 => h9) rfl dX11_lookAt_161 ?_
                refine lv_aload_n hx hb dX11_lookAt_164 rfl (lv_at hl 2 rfl) ?_
                refine va_get (D := G.1) (ci := 10) (v := .int (iI tl__53)) (C := RX11) (T := TX11) (N := 21) hx hb hts (fun _ h => List.mem_cons_of_mem _ (inlX11 _ h)) hown hK hP 0 rfl rfl 16 (by decide) (hts _ (List.mem_cons_of_mem _ (in_r19 (List.mem_of_getElem? (i := 14) rfl)))) (fun _ h9 => h9) rfl dX11_lookAt_165 ?_
                refine lv_iadd hx hb dX11_lookAt_168 ?_
                refine g_topi (y := iI (ta_1 + tl__53)) (iI_add ta_1 tl__53) ?_
                refine g_ild hx hb hK hP 1 rfl (by omega) (by omega) (by first | exact Nat.le_of_ble_eq_true rfl | omega) dX11_lookAt_169 (fun w_112 ew_112 => ?_)
                have ew_112 : my ((ta_1 + tl__53).toNat) = w_112 := ew_112
                subst ew_112
                have b0w_112 := y0_ ((ta_1 + tl__53).toNat)
                refine lv_istore (lv' := [(4, .int (iI (my ((ta_1 + tl__53).toNat)))), (3, .int (iI g0__52)), (2, .int (iI (my (ta_1.toNat)))), (0, .ref m0), (1, .int (iI f0))]) hx hb dX11_lookAt_170 hl (by decide) rfl (fun ls hl => ?_)
                refine lv_aload_n hx hb dX11_lookAt_172 rfl (lv_at hl 3 rfl) ?_
                refine va_get (D := G.1) (ci := 10) (v := .int (iI 2)) (C := RX11) (T := TX11) (N := 21) hx hb hts (fun _ h => List.mem_cons_of_mem _ (inlX11 _ h)) hown hK hP 0 rfl rfl 17 (by decide) (hts _ (List.mem_cons_of_mem _ (in_r19 (List.mem_of_getElem? (i := 9) rfl)))) (fun _ h9 => h9) rfl dX11_lookAt_173 ?_
                refine lv_iconst (v := iI 1) hx hb dX11_lookAt_176 rfl ?_
                refine lv_icmp_ne (tgt := 188) hx hb dX11_lookAt_177 (by decide) (fun _ => ?_) (fun c_113 => g_no c_113 (by decide))
                refine lv_iload hx hb dX11_lookAt_188 (lv_at hl 0 rfl) ?_
                refine g_calli (wr := [(m0, .inr (10, [.ref m_all, .ref m_kept, .ref m_isKept, .ref m_refused, .long (lI m_above), .long (lI m_below), .ref m_hand, .ref m_fewest, .ref m_whoBites, .ref m_leaves, .ref m_bestFeast, .ref m_tells, .ref m_hardOn, .ref m_bytes, .int (iI m_bytesLong), .int (iI ta_1), .int (iI tl__53), .int (iI 2), .int (iI 0), .ref m_anew, .ref m_values])), (m_bytes, .inl (G.2 0, 150, .inl (cI my)))]) (va_runS (As := [.int (iI (my ((ta_1 + tl__53).toNat)))]) (rest := []) ⟨hx, hb, hml, hown, hts⟩ (c_X11_isFigure l G ((my ((ta_1 + tl__53).toNat))) (by first | assumption | omega) _) (va_cwS 1 hts gX11_lookAt_X11_isFigure rfl rfl rfl (by decide +kernel) ⟨Nat.le_of_ble_eq_true rfl, Nat.le_of_ble_eq_true rfl⟩) (g_preS [.int (iI (my ((ta_1 + tl__53).toNat)))] hP hD hK hN hS hA hZ [] rfl rfl) rfl rfl hl.1 rfl (lv_room (Nat.le_of_ble_eq_true rfl)) dX11_lookAt_190 ⟨Nat.le_of_ble_eq_true rfl, Nat.le_of_ble_eq_true rfl⟩) hP hD hS hA [] [0, 1] rfl rfl rfl (by decide) (fun r_114 u H locs hw hP hD hS => ?_)
                rcases hw with hw | hw
                · refine ea_0_4 hw (fun k_115 k_116 e8_0 e8_1 => ?_)
                  subst e8_0
                  subst e8_1
                  clear hw
                  have hPD : PD G A H [(m0, .inr (10, [.ref m_all, .ref m_kept, .ref m_isKept, .ref m_refused, .long (lI m_above), .long (lI m_below), .ref m_hand, .ref m_fewest, .ref m_whoBites, .ref m_leaves, .ref m_bestFeast, .ref m_tells, .ref m_hardOn, .ref m_bytes, .int (iI m_bytesLong), .int (iI ta_1), .int (iI tl__53), .int (iI 2), .int (iI 0), .ref m_anew, .ref m_values])), (m_bytes, .inl (G.2 0, 150, .inl (cI my)))] := ⟨hP, hD⟩
                  have hP := hPD.1
                  have hD := hPD.2
                  clear hPD
                  refine lv_istore_n (lv' := [(3, .int (iI 1)), (4, .int (iI (my ((ta_1 + tl__53).toNat)))), (2, .int (iI (my (ta_1.toNat)))), (0, .ref m0), (1, .int (iI f0))]) hx hb dX11_lookAt_193 rfl hl (by decide) rfl (fun ls hl => ?_)
                  refine lv_aload_n hx hb dX11_lookAt_194 rfl (lv_at hl 3 rfl) ?_
                  refine lv_dup hx hb dX11_lookAt_195 rfl ?_
                  refine va_get (D := G.1) (ci := 10) (v := .int (iI tl__53)) (C := RX11) (T := TX11) (N := 21) hx hb hts (fun _ h => List.mem_cons_of_mem _ (inlX11 _ h)) hown hK hP 0 rfl rfl 16 (by decide) (hts _ (List.mem_cons_of_mem _ (in_r19 (List.mem_of_getElem? (i := 14) rfl)))) (fun _ h9 => h9) rfl dX11_lookAt_196 ?_
                  refine lv_iload_n hx hb dX11_lookAt_199 rfl (lv_at hl 0 rfl) ?_
                  refine lv_if_eq (tgt := 207) hx hb dX11_lookAt_200 (by decide) (fun c_118 => g_no c_118 (by decide)) (fun _ => ?_)
                  refine lv_iconst (v := iI 1) hx hb dX11_lookAt_203 rfl ?_
                  refine lv_goto (tgt := 208) hx hb dX11_lookAt_204 (by decide) ?_
                  refine lv_iadd hx hb dX11_lookAt_208 ?_
                  refine g_topi (y := iI (tl__53 + 1)) (iI_add tl__53 1) ?_
                  refine va_put (D := G.1) (ci := 10) (v := .int (iI (tl__53 + 1))) (ty := .int) (C := RX11) (T := TX11) (N := 21) hx hb hts (fun _ h => List.mem_cons_of_mem _ (inlX11 _ h)) tyX11 tyX11_ok nmX11 hown hK hP hD hS 0 rfl rfl 16 (by decide) (hts _ (List.mem_cons_of_mem _ (in_r19 (List.mem_of_getElem? (i := 14) rfl)))) (fun _ h9 => h9) rfl (by decide +kernel) rfl rfl (Nat.le_of_ble_eq_true rfl) dX11_lookAt_209 (fun H locs hP hD hS => ?_)
                  have hPD : PD G A H [(m0, .inr (10, [.ref m_all, .ref m_kept, .ref m_isKept, .ref m_refused, .long (lI m_above), .long (lI m_below), .ref m_hand, .ref m_fewest, .ref m_whoBites, .ref m_leaves, .ref m_bestFeast, .ref m_tells, .ref m_hardOn, .ref m_bytes, .int (iI m_bytesLong), .int (iI ta_1), .int (iI (tl__53 + 1)), .int (iI 2), .int (iI 0), .ref m_anew, .ref m_values])), (m_bytes, .inl (G.2 0, 150, .inl (cI my)))] := ⟨hP, hD⟩
                  have hP := hPD.1
                  have hD := hPD.2
                  clear hPD
                  refine lv_goto (tgt := 136) hx hb dX11_lookAt_212 (by decide) ?_
                  exact ih_57 _ _ _ _ (by omega) ⟨1, (tl__53 + 1), (by first | assumption | omega), (by first | assumption | omega), (lkI_s (by assumption) (by omega) (by omega) (by omega)), rfl, hP, hD, hS, lv_sub hl [0, 2, 3, 4] rfl⟩
                · refine ea_0_3 hw (fun k_117 e8_0 e8_1 => ?_)
                  subst e8_0
                  subst e8_1
                  clear hw
                  have hPD : PD G A H [(m0, .inr (10, [.ref m_all, .ref m_kept, .ref m_isKept, .ref m_refused, .long (lI m_above), .long (lI m_below), .ref m_hand, .ref m_fewest, .ref m_whoBites, .ref m_leaves, .ref m_bestFeast, .ref m_tells, .ref m_hardOn, .ref m_bytes, .int (iI m_bytesLong), .int (iI ta_1), .int (iI tl__53), .int (iI 2), .int (iI 0), .ref m_anew, .ref m_values])), (m_bytes, .inl (G.2 0, 150, .inl (cI my)))] := ⟨hP, hD⟩
                  have hP := hPD.1
                  have hD := hPD.2
                  clear hPD
                  refine lv_istore_n (lv' := [(3, .int (iI 0)), (4, .int (iI (my ((ta_1 + tl__53).toNat)))), (2, .int (iI (my (ta_1.toNat)))), (0, .ref m0), (1, .int (iI f0))]) hx hb dX11_lookAt_193 rfl hl (by decide) rfl (fun ls hl => ?_)
                  refine lv_aload_n hx hb dX11_lookAt_194 rfl (lv_at hl 3 rfl) ?_
                  refine lv_dup hx hb dX11_lookAt_195 rfl ?_
                  refine va_get (D := G.1) (ci := 10) (v := .int (iI tl__53)) (C := RX11) (T := TX11) (N := 21) hx hb hts (fun _ h => List.mem_cons_of_mem _ (inlX11 _ h)) hown hK hP 0 rfl rfl 16 (by decide) (hts _ (List.mem_cons_of_mem _ (in_r19 (List.mem_of_getElem? (i := 14) rfl)))) (fun _ h9 => h9) rfl dX11_lookAt_196 ?_
                  refine lv_iload_n hx hb dX11_lookAt_199 rfl (lv_at hl 0 rfl) ?_
                  refine lv_if_eq (tgt := 207) hx hb dX11_lookAt_200 (by decide) (fun _ => ?_) (fun c_119 => g_no (by decide) c_119)
                  refine lv_iconst (v := iI 0) hx hb dX11_lookAt_207 rfl ?_
                  refine lv_iadd hx hb dX11_lookAt_208 ?_
                  refine g_topi (y := iI (tl__53 + 0)) (iI_add tl__53 0) ?_
                  refine va_put (D := G.1) (ci := 10) (v := .int (iI (tl__53 + 0))) (ty := .int) (C := RX11) (T := TX11) (N := 21) hx hb hts (fun _ h => List.mem_cons_of_mem _ (inlX11 _ h)) tyX11 tyX11_ok nmX11 hown hK hP hD hS 0 rfl rfl 16 (by decide) (hts _ (List.mem_cons_of_mem _ (in_r19 (List.mem_of_getElem? (i := 14) rfl)))) (fun _ h9 => h9) rfl (by decide +kernel) rfl rfl (Nat.le_of_ble_eq_true rfl) dX11_lookAt_209 (fun H locs hP hD hS => ?_)
                  have hPD : PD G A H [(m0, .inr (10, [.ref m_all, .ref m_kept, .ref m_isKept, .ref m_refused, .long (lI m_above), .long (lI m_below), .ref m_hand, .ref m_fewest, .ref m_whoBites, .ref m_leaves, .ref m_bestFeast, .ref m_tells, .ref m_hardOn, .ref m_bytes, .int (iI m_bytesLong), .int (iI ta_1), .int (iI (tl__53 + 0)), .int (iI 2), .int (iI 0), .ref m_anew, .ref m_values])), (m_bytes, .inl (G.2 0, 150, .inl (cI my)))] := ⟨hP, hD⟩
                  have hP := hPD.1
                  have hD := hPD.2
                  clear hPD
                  refine lv_goto (tgt := 136) hx hb dX11_lookAt_212 (by decide) ?_
                  exact ih_57 _ _ _ _ (by omega) ⟨0, (tl__53 + 0), (by first | assumption | omega), (by first | assumption | omega), (lkI_s (by assumption) (by omega) (by omega) (by omega)), rfl, hP, hD, hS, lv_sub hl [0, 2, 3, 4] rfl⟩
          · refine ea_0_3 hw (fun k_49 e8_0 e8_1 => ?_)
            subst e8_0
            subst e8_1
            clear hw
            have hPD : PD G A H [(m0, .inr (10, [.ref m_all, .ref m_kept, .ref m_isKept, .ref m_refused, .long (lI m_above), .long (lI m_below), .ref m_hand, .ref m_fewest, .ref m_whoBites, .ref m_leaves, .ref m_bestFeast, .ref m_tells, .ref m_hardOn, .ref m_bytes, .int (iI m_bytesLong), .int (iI ta_1), .int (iI 0), .int (iI 0), .int (iI 0), .ref m_anew, .ref m_values])), (m_bytes, .inl (G.2 0, 150, .inl (cI my)))] := ⟨hP, hD⟩
            have hP := hPD.1
            have hD := hPD.2
            clear hPD
            refine lv_if_eq (tgt := 103) hx hb dX11_lookAt_96 (by decide) (fun _ => ?_) (fun c_120 => g_no (by decide) c_120)
            refine lv_iload_n hx hb dX11_lookAt_103 rfl (lv_at hl 0 rfl) ?_
            refine lv_bipush (v := iI 59) hx hb dX11_lookAt_104 (by decide) ?_
            refine lv_icmp_ne (tgt := 113) hx hb dX11_lookAt_106 (by decide) (fun c_121 => ?_) (fun c_121 => ?_)
            · have c_121 : ¬ ((my (ta_1.toNat)) = 59) := fun h9 => c_121 ((iI_eq (a := (my (ta_1.toNat))) (b := 59) (by omega) (by first | decide | omega)).mpr h9)
              refine lv_iconst (v := iI 4) hx hb dX11_lookAt_113 rfl ?_
              refine va_put (D := G.1) (ci := 10) (v := .int (iI 4)) (ty := .int) (C := RX11) (T := TX11) (N := 21) hx hb hts (fun _ h => List.mem_cons_of_mem _ (inlX11 _ h)) tyX11 tyX11_ok nmX11 hown hK hP hD hS 0 rfl rfl 17 (by decide) (hts _ (List.mem_cons_of_mem _ (in_r19 (List.mem_of_getElem? (i := 9) rfl)))) (fun _ h9 => h9) rfl (by decide +kernel) rfl rfl (Nat.le_of_ble_eq_true rfl) dX11_lookAt_114 (fun H locs hP hD hS => ?_)
              have hPD : PD G A H [(m0, .inr (10, [.ref m_all, .ref m_kept, .ref m_isKept, .ref m_refused, .long (lI m_above), .long (lI m_below), .ref m_hand, .ref m_fewest, .ref m_whoBites, .ref m_leaves, .ref m_bestFeast, .ref m_tells, .ref m_hardOn, .ref m_bytes, .int (iI m_bytesLong), .int (iI ta_1), .int (iI 0), .int (iI 4), .int (iI 0), .ref m_anew, .ref m_values])), (m_bytes, .inl (G.2 0, 150, .inl (cI my)))] := ⟨hP, hD⟩
              have hP := hPD.1
              have hD := hPD.2
              clear hPD
              refine lv_aload_n hx hb dX11_lookAt_117 rfl (lv_at hl 1 rfl) ?_
              refine lv_iconst (v := iI 1) hx hb dX11_lookAt_118 rfl ?_
              refine va_put (D := G.1) (ci := 10) (v := .int (iI 1)) (ty := .int) (C := RX11) (T := TX11) (N := 21) hx hb hts (fun _ h => List.mem_cons_of_mem _ (inlX11 _ h)) tyX11 tyX11_ok nmX11 hown hK hP hD hS 0 rfl rfl 16 (by decide) (hts _ (List.mem_cons_of_mem _ (in_r19 (List.mem_of_getElem? (i := 14) rfl)))) (fun _ h9 => h9) rfl (by decide +kernel) rfl rfl (Nat.le_of_ble_eq_true rfl) dX11_lookAt_119 (fun H locs hP hD hS => ?_)
              have hPD : PD G A H [(m0, .inr (10, [.ref m_all, .ref m_kept, .ref m_isKept, .ref m_refused, .long (lI m_above), .long (lI m_below), .ref m_hand, .ref m_fewest, .ref m_whoBites, .ref m_leaves, .ref m_bestFeast, .ref m_tells, .ref m_hardOn, .ref m_bytes, .int (iI m_bytesLong), .int (iI ta_1), .int (iI 1), .int (iI 4), .int (iI 0), .ref m_anew, .ref m_values])), (m_bytes, .inl (G.2 0, 150, .inl (cI my)))] := ⟨hP, hD⟩
              have hP := hPD.1
              have hD := hPD.2
              clear hPD
              refine lv_aload_n hx hb dX11_lookAt_122 rfl (lv_at hl 1 rfl) ?_
              refine va_get (D := G.1) (ci := 10) (v := .int (iI 4)) (C := RX11) (T := TX11) (N := 21) hx hb hts (fun _ h => List.mem_cons_of_mem _ (inlX11 _ h)) hown hK hP 0 rfl rfl 17 (by decide) (hts _ (List.mem_cons_of_mem _ (in_r19 (List.mem_of_getElem? (i := 9) rfl)))) (fun _ h9 => h9) rfl dX11_lookAt_123 ?_
              refine lv_iconst (v := iI 3) hx hb dX11_lookAt_126 rfl ?_
              refine lv_icmp_ge (tgt := 134) hx hb dX11_lookAt_127 (by decide) (fun _ => ?_) (fun c_122 => g_no (by decide) c_122)
              refine lv_iconst (v := iI 0) hx hb dX11_lookAt_134 rfl ?_
              refine lv_istore_n (lv' := [(3, .int (iI 0)), (2, .int (iI (my (ta_1.toNat)))), (0, .ref m0), (1, .int (iI f0))]) hx hb dX11_lookAt_135 rfl hl (by decide) rfl (fun ls hl => ?_)
              refine lv_iload_n hx hb dX11_lookAt_136 rfl (lv_at hl 0 rfl) ?_
              refine lv_if_eq (tgt := 215) hx hb dX11_lookAt_137 (by decide) (fun _ => ?_) (fun c_123 => g_no (by decide) c_123)
              refine lv_iconst (v := iI 0) hx hb dX11_lookAt_215 rfl ?_
              refine lv_istore (lv' := [(4, .int (iI 0)), (3, .int (iI 0)), (2, .int (iI (my (ta_1.toNat)))), (0, .ref m0), (1, .int (iI f0))]) hx hb dX11_lookAt_216 hl (by decide) rfl (fun ls hl => ?_)
              refine lv_iload hx hb dX11_lookAt_218 (lv_at hl 0 rfl) ?_
              refine lv_aload_n hx hb dX11_lookAt_220 rfl (lv_at hl 3 rfl) ?_
              refine va_get (D := G.1) (ci := 10) (v := .int (iI 1)) (C := RX11) (T := TX11) (N := 21) hx hb hts (fun _ h => List.mem_cons_of_mem _ (inlX11 _ h)) hown hK hP 0 rfl rfl 16 (by decide) (hts _ (List.mem_cons_of_mem _ (in_r19 (List.mem_of_getElem? (i := 14) rfl)))) (fun _ h9 => h9) rfl dX11_lookAt_221 ?_
              refine lv_icmp_ge (tgt := 274) hx hb dX11_lookAt_224 (by decide) (fun c_124 => g_no c_124 (by decide)) (fun _ => ?_)
              refine lv_iload hx hb dX11_lookAt_227 (lv_at hl 0 rfl) ?_
              refine lv_iconst (v := iI 2) hx hb dX11_lookAt_229 rfl ?_
              refine lv_icmp_ge (tgt := 274) hx hb dX11_lookAt_230 (by decide) (fun c_125 => g_no c_125 (by decide)) (fun _ => ?_)
              refine lv_aload_n hx hb dX11_lookAt_233 rfl (lv_at hl 3 rfl) ?_
              refine va_get (D := G.1) (ci := 10) (v := .int (iI 4)) (C := RX11) (T := TX11) (N := 21) hx hb hts (fun _ h => List.mem_cons_of_mem _ (inlX11 _ h)) hown hK hP 0 rfl rfl 17 (by decide) (hts _ (List.mem_cons_of_mem _ (in_r19 (List.mem_of_getElem? (i := 9) rfl)))) (fun _ h9 => h9) rfl dX11_lookAt_234 ?_
              refine lv_iconst (v := iI 2) hx hb dX11_lookAt_237 rfl ?_
              refine lv_icmp_ne (tgt := 274) hx hb dX11_lookAt_238 (by decide) (fun _ => ?_) (fun c_126 => g_no c_126 (by decide))
              refine lv_aload_n hx hb dX11_lookAt_274 rfl (lv_at hl 3 rfl) ?_
              refine lv_aload_n hx hb dX11_lookAt_275 rfl (lv_at hl 3 rfl) ?_
              refine va_get (D := G.1) (ci := 10) (v := .int (iI 4)) (C := RX11) (T := TX11) (N := 21) hx hb hts (fun _ h => List.mem_cons_of_mem _ (inlX11 _ h)) hown hK hP 0 rfl rfl 17 (by decide) (hts _ (List.mem_cons_of_mem _ (in_r19 (List.mem_of_getElem? (i := 9) rfl)))) (fun _ h9 => h9) rfl dX11_lookAt_276 ?_
              refine lv_iconst (v := iI 2) hx hb dX11_lookAt_279 rfl ?_
              refine lv_icmp_ne (tgt := 295) hx hb dX11_lookAt_280 (by decide) (fun _ => ?_) (fun c_127 => g_no c_127 (by decide))
              refine lv_aload_n hx hb dX11_lookAt_295 rfl (lv_at hl 3 rfl) ?_
              refine va_get (D := G.1) (ci := 10) (v := .int (iI 4)) (C := RX11) (T := TX11) (N := 21) hx hb hts (fun _ h => List.mem_cons_of_mem _ (inlX11 _ h)) hown hK hP 0 rfl rfl 17 (by decide) (hts _ (List.mem_cons_of_mem _ (in_r19 (List.mem_of_getElem? (i := 9) rfl)))) (fun _ h9 => h9) rfl dX11_lookAt_296 ?_
              refine va_put (D := G.1) (ci := 10) (v := .int (iI 4)) (ty := .int) (C := RX11) (T := TX11) (N := 21) hx hb hts (fun _ h => List.mem_cons_of_mem _ (inlX11 _ h)) tyX11 tyX11_ok nmX11 hown hK hP hD hS 0 rfl rfl 17 (by decide) (hts _ (List.mem_cons_of_mem _ (in_r19 (List.mem_of_getElem? (i := 9) rfl)))) (fun _ h9 => h9) rfl (by decide +kernel) rfl rfl (Nat.le_of_ble_eq_true rfl) dX11_lookAt_299 (fun H locs hP hD hS => ?_)
              have hPD : PD G A H [(m0, .inr (10, [.ref m_all, .ref m_kept, .ref m_isKept, .ref m_refused, .long (lI m_above), .long (lI m_below), .ref m_hand, .ref m_fewest, .ref m_whoBites, .ref m_leaves, .ref m_bestFeast, .ref m_tells, .ref m_hardOn, .ref m_bytes, .int (iI m_bytesLong), .int (iI ta_1), .int (iI 1), .int (iI 4), .int (iI 0), .ref m_anew, .ref m_values])), (m_bytes, .inl (G.2 0, 150, .inl (cI my)))] := ⟨hP, hD⟩
              have hP := hPD.1
              have hD := hPD.2
              clear hPD
              exact g_vret hx hb hr hlocks hP hD hS (⟨ta_1, 1, 4, 0, (by first | assumption | omega), (by first | assumption | omega), (by first | assumption | omega), (by first | assumption | omega), (by first | assumption | omega), (rt_o (sk_of (by assumption) (by omega) (fun _ => by omega)) (by omega) (by omega)), rfl⟩) dX11_lookAt_302
            · have c_121 := (iI_eq (a := (my (ta_1.toNat))) (b := 59) (by omega) (by first | decide | omega)).mp c_121
              refine lv_iconst (v := iI 3) hx hb dX11_lookAt_109 rfl ?_
              refine lv_goto (tgt := 114) hx hb dX11_lookAt_110 (by decide) ?_
              refine va_put (D := G.1) (ci := 10) (v := .int (iI 3)) (ty := .int) (C := RX11) (T := TX11) (N := 21) hx hb hts (fun _ h => List.mem_cons_of_mem _ (inlX11 _ h)) tyX11 tyX11_ok nmX11 hown hK hP hD hS 0 rfl rfl 17 (by decide) (hts _ (List.mem_cons_of_mem _ (in_r19 (List.mem_of_getElem? (i := 9) rfl)))) (fun _ h9 => h9) rfl (by decide +kernel) rfl rfl (Nat.le_of_ble_eq_true rfl) dX11_lookAt_114 (fun H locs hP hD hS => ?_)
              have hPD : PD G A H [(m0, .inr (10, [.ref m_all, .ref m_kept, .ref m_isKept, .ref m_refused, .long (lI m_above), .long (lI m_below), .ref m_hand, .ref m_fewest, .ref m_whoBites, .ref m_leaves, .ref m_bestFeast, .ref m_tells, .ref m_hardOn, .ref m_bytes, .int (iI m_bytesLong), .int (iI ta_1), .int (iI 0), .int (iI 3), .int (iI 0), .ref m_anew, .ref m_values])), (m_bytes, .inl (G.2 0, 150, .inl (cI my)))] := ⟨hP, hD⟩
              have hP := hPD.1
              have hD := hPD.2
              clear hPD
              refine lv_aload_n hx hb dX11_lookAt_117 rfl (lv_at hl 1 rfl) ?_
              refine lv_iconst (v := iI 1) hx hb dX11_lookAt_118 rfl ?_
              refine va_put (D := G.1) (ci := 10) (v := .int (iI 1)) (ty := .int) (C := RX11) (T := TX11) (N := 21) hx hb hts (fun _ h => List.mem_cons_of_mem _ (inlX11 _ h)) tyX11 tyX11_ok nmX11 hown hK hP hD hS 0 rfl rfl 16 (by decide) (hts _ (List.mem_cons_of_mem _ (in_r19 (List.mem_of_getElem? (i := 14) rfl)))) (fun _ h9 => h9) rfl (by decide +kernel) rfl rfl (Nat.le_of_ble_eq_true rfl) dX11_lookAt_119 (fun H locs hP hD hS => ?_)
              have hPD : PD G A H [(m0, .inr (10, [.ref m_all, .ref m_kept, .ref m_isKept, .ref m_refused, .long (lI m_above), .long (lI m_below), .ref m_hand, .ref m_fewest, .ref m_whoBites, .ref m_leaves, .ref m_bestFeast, .ref m_tells, .ref m_hardOn, .ref m_bytes, .int (iI m_bytesLong), .int (iI ta_1), .int (iI 1), .int (iI 3), .int (iI 0), .ref m_anew, .ref m_values])), (m_bytes, .inl (G.2 0, 150, .inl (cI my)))] := ⟨hP, hD⟩
              have hP := hPD.1
              have hD := hPD.2
              clear hPD
              refine lv_aload_n hx hb dX11_lookAt_122 rfl (lv_at hl 1 rfl) ?_
              refine va_get (D := G.1) (ci := 10) (v := .int (iI 3)) (C := RX11) (T := TX11) (N := 21) hx hb hts (fun _ h => List.mem_cons_of_mem _ (inlX11 _ h)) hown hK hP 0 rfl rfl 17 (by decide) (hts _ (List.mem_cons_of_mem _ (in_r19 (List.mem_of_getElem? (i := 9) rfl)))) (fun _ h9 => h9) rfl dX11_lookAt_123 ?_
              refine lv_iconst (v := iI 3) hx hb dX11_lookAt_126 rfl ?_
              refine lv_icmp_ge (tgt := 134) hx hb dX11_lookAt_127 (by decide) (fun _ => ?_) (fun c_128 => g_no (by decide) c_128)
              refine lv_iconst (v := iI 0) hx hb dX11_lookAt_134 rfl ?_
              refine lv_istore_n (lv' := [(3, .int (iI 0)), (2, .int (iI (my (ta_1.toNat)))), (0, .ref m0), (1, .int (iI f0))]) hx hb dX11_lookAt_135 rfl hl (by decide) rfl (fun ls hl => ?_)
              refine lv_iload_n hx hb dX11_lookAt_136 rfl (lv_at hl 0 rfl) ?_
              refine lv_if_eq (tgt := 215) hx hb dX11_lookAt_137 (by decide) (fun _ => ?_) (fun c_129 => g_no (by decide) c_129)
              refine lv_iconst (v := iI 0) hx hb dX11_lookAt_215 rfl ?_
              refine lv_istore (lv' := [(4, .int (iI 0)), (3, .int (iI 0)), (2, .int (iI (my (ta_1.toNat)))), (0, .ref m0), (1, .int (iI f0))]) hx hb dX11_lookAt_216 hl (by decide) rfl (fun ls hl => ?_)
              refine lv_iload hx hb dX11_lookAt_218 (lv_at hl 0 rfl) ?_
              refine lv_aload_n hx hb dX11_lookAt_220 rfl (lv_at hl 3 rfl) ?_
              refine va_get (D := G.1) (ci := 10) (v := .int (iI 1)) (C := RX11) (T := TX11) (N := 21) hx hb hts (fun _ h => List.mem_cons_of_mem _ (inlX11 _ h)) hown hK hP 0 rfl rfl 16 (by decide) (hts _ (List.mem_cons_of_mem _ (in_r19 (List.mem_of_getElem? (i := 14) rfl)))) (fun _ h9 => h9) rfl dX11_lookAt_221 ?_
              refine lv_icmp_ge (tgt := 274) hx hb dX11_lookAt_224 (by decide) (fun c_130 => g_no c_130 (by decide)) (fun _ => ?_)
              refine lv_iload hx hb dX11_lookAt_227 (lv_at hl 0 rfl) ?_
              refine lv_iconst (v := iI 2) hx hb dX11_lookAt_229 rfl ?_
              refine lv_icmp_ge (tgt := 274) hx hb dX11_lookAt_230 (by decide) (fun c_131 => g_no c_131 (by decide)) (fun _ => ?_)
              refine lv_aload_n hx hb dX11_lookAt_233 rfl (lv_at hl 3 rfl) ?_
              refine va_get (D := G.1) (ci := 10) (v := .int (iI 3)) (C := RX11) (T := TX11) (N := 21) hx hb hts (fun _ h => List.mem_cons_of_mem _ (inlX11 _ h)) hown hK hP 0 rfl rfl 17 (by decide) (hts _ (List.mem_cons_of_mem _ (in_r19 (List.mem_of_getElem? (i := 9) rfl)))) (fun _ h9 => h9) rfl dX11_lookAt_234 ?_
              refine lv_iconst (v := iI 2) hx hb dX11_lookAt_237 rfl ?_
              refine lv_icmp_ne (tgt := 274) hx hb dX11_lookAt_238 (by decide) (fun _ => ?_) (fun c_132 => g_no c_132 (by decide))
              refine lv_aload_n hx hb dX11_lookAt_274 rfl (lv_at hl 3 rfl) ?_
              refine lv_aload_n hx hb dX11_lookAt_275 rfl (lv_at hl 3 rfl) ?_
              refine va_get (D := G.1) (ci := 10) (v := .int (iI 3)) (C := RX11) (T := TX11) (N := 21) hx hb hts (fun _ h => List.mem_cons_of_mem _ (inlX11 _ h)) hown hK hP 0 rfl rfl 17 (by decide) (hts _ (List.mem_cons_of_mem _ (in_r19 (List.mem_of_getElem? (i := 9) rfl)))) (fun _ h9 => h9) rfl dX11_lookAt_276 ?_
              refine lv_iconst (v := iI 2) hx hb dX11_lookAt_279 rfl ?_
              refine lv_icmp_ne (tgt := 295) hx hb dX11_lookAt_280 (by decide) (fun _ => ?_) (fun c_133 => g_no c_133 (by decide))
              refine lv_aload_n hx hb dX11_lookAt_295 rfl (lv_at hl 3 rfl) ?_
              refine va_get (D := G.1) (ci := 10) (v := .int (iI 3)) (C := RX11) (T := TX11) (N := 21) hx hb hts (fun _ h => List.mem_cons_of_mem _ (inlX11 _ h)) hown hK hP 0 rfl rfl 17 (by decide) (hts _ (List.mem_cons_of_mem _ (in_r19 (List.mem_of_getElem? (i := 9) rfl)))) (fun _ h9 => h9) rfl dX11_lookAt_296 ?_
              refine va_put (D := G.1) (ci := 10) (v := .int (iI 3)) (ty := .int) (C := RX11) (T := TX11) (N := 21) hx hb hts (fun _ h => List.mem_cons_of_mem _ (inlX11 _ h)) tyX11 tyX11_ok nmX11 hown hK hP hD hS 0 rfl rfl 17 (by decide) (hts _ (List.mem_cons_of_mem _ (in_r19 (List.mem_of_getElem? (i := 9) rfl)))) (fun _ h9 => h9) rfl (by decide +kernel) rfl rfl (Nat.le_of_ble_eq_true rfl) dX11_lookAt_299 (fun H locs hP hD hS => ?_)
              have hPD : PD G A H [(m0, .inr (10, [.ref m_all, .ref m_kept, .ref m_isKept, .ref m_refused, .long (lI m_above), .long (lI m_below), .ref m_hand, .ref m_fewest, .ref m_whoBites, .ref m_leaves, .ref m_bestFeast, .ref m_tells, .ref m_hardOn, .ref m_bytes, .int (iI m_bytesLong), .int (iI ta_1), .int (iI 1), .int (iI 3), .int (iI 0), .ref m_anew, .ref m_values])), (m_bytes, .inl (G.2 0, 150, .inl (cI my)))] := ⟨hP, hD⟩
              have hP := hPD.1
              have hD := hPD.2
              clear hPD
              exact g_vret hx hb hr hlocks hP hD hS (⟨ta_1, 1, 3, 0, (by first | assumption | omega), (by first | assumption | omega), (by first | assumption | omega), (by first | assumption | omega), (by first | assumption | omega), (rt_o (sk_of (by assumption) (by omega) (fun _ => by omega)) (by omega) (by omega)), rfl⟩) dX11_lookAt_302
      · have c_11 := (iI_eq (a := ta_1) (b := m_bytesLong) (by omega) (by omega)).mp c_11
        exfalso
        omega
    · have c_10 := (iI_eq (a := (my (ta_1.toNat))) (b := 32) (by omega) (by first | decide | omega)).mp c_10
      refine lv_aload_n hx hb dX11_lookAt_30 rfl (lv_at hl 0 rfl) ?_
      refine lv_dup hx hb dX11_lookAt_31 rfl ?_
      refine va_get (D := G.1) (ci := 10) (v := .int (iI ta_1)) (C := RX11) (T := TX11) (N := 21) hx hb hts (fun _ h => List.mem_cons_of_mem _ (inlX11 _ h)) hown hK hP 0 rfl rfl 15 (by decide) (hts _ (List.mem_cons_of_mem _ (in_r19 (List.mem_of_getElem? (i := 8) rfl)))) (fun _ h9 => h9) rfl dX11_lookAt_32 ?_
      refine lv_iconst (v := iI 1) hx hb dX11_lookAt_35 rfl ?_
      refine lv_iadd hx hb dX11_lookAt_36 ?_
      refine g_topi (y := iI (ta_1 + 1)) (iI_add ta_1 1) ?_
      refine va_put (D := G.1) (ci := 10) (v := .int (iI (ta_1 + 1))) (ty := .int) (C := RX11) (T := TX11) (N := 21) hx hb hts (fun _ h => List.mem_cons_of_mem _ (inlX11 _ h)) tyX11 tyX11_ok nmX11 hown hK hP hD hS 0 rfl rfl 15 (by decide) (hts _ (List.mem_cons_of_mem _ (in_r19 (List.mem_of_getElem? (i := 8) rfl)))) (fun _ h9 => h9) rfl (by decide +kernel) rfl rfl (Nat.le_of_ble_eq_true rfl) dX11_lookAt_37 (fun H locs hP hD hS => ?_)
      have hPD : PD G A H [(m0, .inr (10, [.ref m_all, .ref m_kept, .ref m_isKept, .ref m_refused, .long (lI m_above), .long (lI m_below), .ref m_hand, .ref m_fewest, .ref m_whoBites, .ref m_leaves, .ref m_bestFeast, .ref m_tells, .ref m_hardOn, .ref m_bytes, .int (iI m_bytesLong), .int (iI (ta_1 + 1)), .int (iI m_tokenLong), .int (iI m_token), .int (iI m_value), .ref m_anew, .ref m_values])), (m_bytes, .inl (G.2 0, 150, .inl (cI my)))] := ⟨hP, hD⟩
      have hP := hPD.1
      have hD := hPD.2
      clear hPD
      refine lv_goto (tgt := 5) hx hb dX11_lookAt_40 (by decide) ?_
      exact ih_4 _ _ _ _ (by omega) ⟨(ta_1 + 1), (by first | assumption | omega), (fr_s (by assumption) (by omega)), rfl, hP, hD, hS, lv_sub hl [0, 1] rfl⟩
theorem dX11_goBehind_0 : decode cX11_goBehind 0 = .ok (.aload_n 0, 1) := kd_42 (by decide +kernel)
theorem dX11_goBehind_1 : decode cX11_goBehind 1 = .ok (.aload_n 0, 1) := kd_42 (by decide +kernel)
theorem dX11_goBehind_2 : decode cX11_goBehind 2 = .ok (.getfield 244, 3) := kd_180 (a := 0) (b := 244) (by decide +kernel)
theorem dX11_goBehind_5 : decode cX11_goBehind 5 = .ok (.aload_n 0, 1) := kd_42 (by decide +kernel)
theorem dX11_goBehind_6 : decode cX11_goBehind 6 = .ok (.getfield 247, 3) := kd_180 (a := 0) (b := 247) (by decide +kernel)
theorem dX11_goBehind_9 : decode cX11_goBehind 9 = .ok (.iadd, 1) := kd_96 (by decide +kernel)
theorem gX11_goBehind_X11_lookAt : GoodIn wsX11_goBehind (wsV RX11 262 RX11 yX11_lookAt wsX11_lookAt) := gW_V (in_r19 (List.mem_of_getElem? (i := 10) rfl)) (in_r19 (List.mem_of_getElem? (i := 11) rfl)) (in_r19 (List.mem_of_getElem? (i := 12) rfl)) (in_r1 (List.mem_of_getElem? (i := 5) rfl)) (in_r19 (List.mem_of_getElem? (i := 13) rfl))
theorem dX11_goBehind_10 : decode cX11_goBehind 10 = .ok (.invokevirtual 262, 3) := kd_182 (a := 1) (b := 6) (by decide +kernel)
theorem dX11_goBehind_13 : decode cX11_goBehind 13 = .ok (.return_, 1) := kd_177 (by decide +kernel)
set_option maxHeartbeats 8000000 in
set_option maxRecDepth 100000 in
theorem c_X11_goBehind (l : Launch) (G : gG) (m0 : Nat) (m_all : Nat) (m_kept : Nat) (m_isKept : Nat) (m_refused : Nat) (m_above : Int) (m_below : Int) (m_hand : Nat) (m_fewest : Nat) (m_whoBites : Nat) (m_leaves : Nat) (m_bestFeast : Nat) (m_tells : Nat) (m_hardOn : Nat) (m_bytes : Nat) (m_bytesLong : Int) (m_tokenAt : Int) (m_tokenLong : Int) (m_token : Int) (m_value : Int) (m_anew : Nat) (m_values : Nat) (my : Nat → Int) (uS : Nat → Int) (uA : Nat → Int) (uV : Nat → Int) (uE : Nat → Int) (n0 : Int) (j0 : Int) (y0_ : bd 0 127 my) (hL : 0 ≤ m_bytesLong ∧ m_bytesLong ≤ 150) (i0_ : 0 ≤ m_tokenAt ∧ 0 ≤ m_tokenLong ∧ m_tokenAt + m_tokenLong ≤ m_bytesLong) (i1_ : 0 ≤ m_token ∧ m_token ≤ 4) (i2_ : m_token = 0 ∨ 1 ≤ m_tokenLong) (i3_ : -2000 ≤ m_value ∧ m_value ≤ 2000) (hch : chF my m_bytesLong uS uA uV n0 uE) (hra : ra my uS uA uV uE j0 m_tokenAt m_tokenLong m_token m_value) (hj : 0 ≤ j0 ∧ j0 < n0) (hs : ¬ (uS (j0 : Int).toNat = 0)) (sz : Nat) : gV G l yX11_goBehind wsX11_goBehind ({ frames := 3, cells := 0, slots := 0, locals := 69 } : Room) [.ref m0] [(m0, .inr (10, [.ref m_all, .ref m_kept, .ref m_isKept, .ref m_refused, .long (lI m_above), .long (lI m_below), .ref m_hand, .ref m_fewest, .ref m_whoBites, .ref m_leaves, .ref m_bestFeast, .ref m_tells, .ref m_hardOn, .ref m_bytes, .int (iI m_bytesLong), .int (iI m_tokenAt), .int (iI m_tokenLong), .int (iI m_token), .int (iI m_value), .ref m_anew, .ref m_values])), (m_bytes, .inl (G.2 0, 150, .inl (cI my)))] sz (fun (u : va_W) => (∃ NtA : Int, ∃ NtL : Int, ∃ Ntk : Int, ∃ Nva : Int, (0 ≤ NtA ∧ 0 ≤ NtL ∧ NtA + NtL ≤ m_bytesLong) ∧ (0 ≤ Ntk ∧ Ntk ≤ 4) ∧ (Ntk = 0 ∨ 1 ≤ NtL) ∧ (-2000 ≤ Nva ∧ Nva ≤ 2000) ∧ (m_tokenAt + m_tokenLong ≤ NtA) ∧ (ra my uS uA uV uE (j0 + 1) NtA NtL Ntk Nva) ∧ (j0 + 1 < n0) ∧ u = [(m0, .inr (10, [.ref m_all, .ref m_kept, .ref m_isKept, .ref m_refused, .long (lI m_above), .long (lI m_below), .ref m_hand, .ref m_fewest, .ref m_whoBites, .ref m_leaves, .ref m_bestFeast, .ref m_tells, .ref m_hardOn, .ref m_bytes, .int (iI m_bytesLong), .int (iI NtA), .int (iI NtL), .int (iI Ntk), .int (iI Nva), .ref m_anew, .ref m_values])), (m_bytes, .inl (G.2 0, 150, .inl (cI my)))])) := by
  refine Met.ofW (cc := cX11_goBehind) (maxL := 1) (ret := none) (by decide) rfl ?_
  intro p e s m args below meth c s₁ B hml hv
  obtain ⟨rfl, hsz, hP, hK, hD0, hN, hZ⟩ := hv
  have hx := B.exec
  have hb := B.bytes
  have hr := B.returns
  have hts := atoms_spec (ws := wsX11_goBehind) B.pre
  have hown : s.vm.findClass RX11 = some m.cls := findClass_of_methodNamed B.named
  have hlocks := B.notSynchronized
  subst hsz
  have hD := hD0.self (sz := s.heap.size)
  generalize hAe : va_A [(m0, .inr (10, [.ref m_all, .ref m_kept, .ref m_isKept, .ref m_refused, .long (lI m_above), .long (lI m_below), .ref m_hand, .ref m_fewest, .ref m_whoBites, .ref m_leaves, .ref m_bestFeast, .ref m_tells, .ref m_hardOn, .ref m_bytes, .int (iI m_bytesLong), .int (iI m_tokenAt), .int (iI m_tokenLong), .int (iI m_token), .int (iI m_value), .ref m_anew, .ref m_values])), (m_bytes, .inl (G.2 0, 150, .inl (cI my)))] s.heap.size = A at hD hZ ⊢
  have hA : ∀ q : Nat, s.heap.size ≤ q → A q := fun q h => by rw [← hAe]; exact Or.inr h
  have hS : va_S A s.heap s.heap [] := va_S.rf
  have hP : va_P G.1 vwCl [(m0, .inr (10, [.ref m_all, .ref m_kept, .ref m_isKept, .ref m_refused, .long (lI m_above), .long (lI m_below), .ref m_hand, .ref m_fewest, .ref m_whoBites, .ref m_leaves, .ref m_bestFeast, .ref m_tells, .ref m_hardOn, .ref m_bytes, .int (iI m_bytesLong), .int (iI m_tokenAt), .int (iI m_tokenLong), .int (iI m_token), .int (iI m_value), .ref m_anew, .ref m_values])), (m_bytes, .inl (G.2 0, 150, .inl (cI my)))] s.heap := hP
  have hl := lv_entry ([.ref m0]) (n := 1) (Nat.le_of_ble_eq_true rfl)
  rw [lg_entry_eq]
  generalize (lg_sl ([.ref m0]) ++ List.replicate (1 - (lg_sl ([.ref m0])).length) Slot.unset).toArray = ls at hl ⊢
  have hl : lv_has ls 1 [(0, .ref m0)] := hl
  refine lv_aload_n hx hb dX11_goBehind_0 rfl (lv_at hl 0 rfl) ?_
  refine lv_aload_n hx hb dX11_goBehind_1 rfl (lv_at hl 0 rfl) ?_
  refine va_get (D := G.1) (ci := 10) (v := .int (iI m_tokenAt)) (C := RX11) (T := TX11) (N := 21) hx hb hts (fun _ h => List.mem_cons_of_mem _ (inlX11 _ h)) hown hK hP 0 rfl rfl 15 (by decide) (hts _ (List.mem_cons_of_mem _ (in_r19 (List.mem_of_getElem? (i := 8) rfl)))) (fun _ h9 => h9) rfl dX11_goBehind_2 ?_
  refine lv_aload_n hx hb dX11_goBehind_5 rfl (lv_at hl 0 rfl) ?_
  refine va_get (D := G.1) (ci := 10) (v := .int (iI m_tokenLong)) (C := RX11) (T := TX11) (N := 21) hx hb hts (fun _ h => List.mem_cons_of_mem _ (inlX11 _ h)) hown hK hP 0 rfl rfl 16 (by decide) (hts _ (List.mem_cons_of_mem _ (in_r19 (List.mem_of_getElem? (i := 14) rfl)))) (fun _ h9 => h9) rfl dX11_goBehind_6 ?_
  refine lv_iadd hx hb dX11_goBehind_9 ?_
  refine g_topi (y := iI (m_tokenAt + m_tokenLong)) (iI_add m_tokenAt m_tokenLong) ?_
  refine g_callv (wr := []) (va_runV (As := [.int (iI (m_tokenAt + m_tokenLong))]) (rest := []) ⟨hx, hb, hml, hown, hts⟩ (c_X11_lookAt l G (m0) (m_all) (m_kept) (m_isKept) (m_refused) (m_above) (m_below) (m_hand) (m_fewest) (m_whoBites) (m_leaves) (m_bestFeast) (m_tells) (m_hardOn) (m_bytes) (m_bytesLong) (m_tokenAt) (m_tokenLong) (m_token) (m_value) (m_anew) (m_values) (my) ((m_tokenAt + m_tokenLong)) (by first | exact y0_ | exact bd_mono y0_ (by omega) (by omega) | assumption) (by first | exact hL | assumption | omega) (by first | assumption | omega) _) (cwV 1 hts gX11_goBehind_X11_lookAt rfl rfl rfl (by decide +kernel) ⟨Nat.le_of_ble_eq_true rfl, Nat.le_of_ble_eq_true rfl⟩) (g_preV m0 [.int (iI (m_tokenAt + m_tokenLong))] hP hD hK hN hS hA hZ [0, 1] rfl rfl 0 (ci := 10) rfl rfl) rfl rfl hl.1 rfl (lv_room (Nat.le_of_ble_eq_true rfl)) dX11_goBehind_10 ⟨Nat.le_of_ble_eq_true rfl, Nat.le_of_ble_eq_true rfl⟩) hP hD hS hA [0, 1] [] rfl rfl rfl (by decide) (fun u H locs hw hP hD hS => ?_)
  refine ea_4_7 hw (fun NtA_1 NtL_2 Ntk_3 Nva_4 k_5 k_6 k_7 k_8 k_9 k_10 e8_0 => ?_)
  subst e8_0
  clear hw
  have hPD : PD G A H [(m0, .inr (10, [.ref m_all, .ref m_kept, .ref m_isKept, .ref m_refused, .long (lI m_above), .long (lI m_below), .ref m_hand, .ref m_fewest, .ref m_whoBites, .ref m_leaves, .ref m_bestFeast, .ref m_tells, .ref m_hardOn, .ref m_bytes, .int (iI m_bytesLong), .int (iI NtA_1), .int (iI NtL_2), .int (iI Ntk_3), .int (iI Nva_4), .ref m_anew, .ref m_values])), (m_bytes, .inl (G.2 0, 150, .inl (cI my)))] := ⟨hP, hD⟩
  have hP := hPD.1
  have hD := hPD.2
  clear hPD
  exact g_vret hx hb hr hlocks hP hD hS (⟨NtA_1, NtL_2, Ntk_3, Nva_4, (by first | exact k_5 | assumption | omega), (by first | exact k_6 | assumption | omega), (by first | exact k_7 | assumption | omega), (by first | exact k_8 | assumption | omega), (by first | assumption | omega), (ra_nx hch hra (by omega) (hch.ts (by omega) (by omega) hs) (by assumption)), (hch.ts (by omega) (by omega) hs), rfl⟩) dX11_goBehind_13
theorem dX11_spells_0 : decode cX11_spells 0 = .ok (.aload_n 0, 1) := kd_42 (by decide +kernel)
theorem dX11_spells_1 : decode cX11_spells 1 = .ok (.getfield 250, 3) := kd_180 (a := 0) (b := 250) (by decide +kernel)
theorem dX11_spells_4 : decode cX11_spells 4 = .ok (.iconst 1, 1) := kd_4 (by decide +kernel)
theorem dX11_spells_5 : decode cX11_spells 5 = .ok (.if_icmp .ne 15, 3) := kd_160 (a := 0) (b := 15) (by decide +kernel)
theorem dX11_spells_20 : decode cX11_spells 20 = .ok (.iconst 0, 1) := kd_3 (by decide +kernel)
theorem dX11_spells_8 : decode cX11_spells 8 = .ok (.aload_n 0, 1) := kd_42 (by decide +kernel)
theorem dX11_spells_9 : decode cX11_spells 9 = .ok (.getfield 247, 3) := kd_180 (a := 0) (b := 247) (by decide +kernel)
theorem dX11_spells_12 : decode cX11_spells 12 = .ok (.iload_n 1, 1) := kd_27 (by decide +kernel)
theorem dX11_spells_13 : decode cX11_spells 13 = .ok (.if_icmp .ne 7, 3) := kd_160 (a := 0) (b := 7) (by decide +kernel)
theorem dX11_spells_16 : decode cX11_spells 16 = .ok (.iconst 1, 1) := kd_4 (by decide +kernel)
theorem dX11_spells_17 : decode cX11_spells 17 = .ok (.goto 4, 3) := kd_167 (a := 0) (b := 4) (by decide +kernel)
theorem dX11_spells_21 : decode cX11_spells 21 = .ok (.istore 8, 2) := kd_54 (a := 8) (by decide +kernel)
theorem dX11_spells_23 : decode cX11_spells 23 = .ok (.iconst 0, 1) := kd_3 (by decide +kernel)
theorem dX11_spells_24 : decode cX11_spells 24 = .ok (.istore 9, 2) := kd_54 (a := 9) (by decide +kernel)
theorem dX11_spells_26 : decode cX11_spells 26 = .ok (.iload 9, 2) := kd_21 (a := 9) (by decide +kernel)
theorem dX11_spells_28 : decode cX11_spells 28 = .ok (.iload_n 1, 1) := kd_27 (by decide +kernel)
theorem dX11_spells_29 : decode cX11_spells 29 = .ok (.if_icmp .ge 90, 3) := kd_162 (a := 0) (b := 90) (by decide +kernel)
theorem dX11_spells_119 : decode cX11_spells 119 = .ok (.iload 8, 2) := kd_21 (a := 8) (by decide +kernel)
theorem dX11_spells_121 : decode cX11_spells 121 = .ok (.ireturn, 1) := kd_172 (by decide +kernel)
theorem dX11_spells_32 : decode cX11_spells 32 = .ok (.iload 8, 2) := kd_21 (a := 8) (by decide +kernel)
theorem dX11_spells_34 : decode cX11_spells 34 = .ok (.ifCond .eq 85, 3) := kd_153 (a := 0) (b := 85) (by decide +kernel)
theorem dX11_spells_37 : decode cX11_spells 37 = .ok (.aload_n 0, 1) := kd_42 (by decide +kernel)
theorem dX11_spells_38 : decode cX11_spells 38 = .ok (.getfield 48, 3) := kd_180 (a := 0) (b := 48) (by decide +kernel)
theorem dX11_spells_41 : decode cX11_spells 41 = .ok (.aload_n 0, 1) := kd_42 (by decide +kernel)
theorem dX11_spells_42 : decode cX11_spells 42 = .ok (.getfield 244, 3) := kd_180 (a := 0) (b := 244) (by decide +kernel)
theorem dX11_spells_45 : decode cX11_spells 45 = .ok (.iload 9, 2) := kd_21 (a := 9) (by decide +kernel)
theorem dX11_spells_47 : decode cX11_spells 47 = .ok (.iadd, 1) := kd_96 (by decide +kernel)
theorem dX11_spells_48 : decode cX11_spells 48 = .ok (.iaload, 1) := kd_46 (by decide +kernel)
theorem dX11_spells_49 : decode cX11_spells 49 = .ok (.iload 9, 2) := kd_21 (a := 9) (by decide +kernel)
theorem dX11_spells_51 : decode cX11_spells 51 = .ok (.ifCond .ne 7, 3) := kd_154 (a := 0) (b := 7) (by decide +kernel)
theorem dX11_spells_58 : decode cX11_spells 58 = .ok (.iload 9, 2) := kd_21 (a := 9) (by decide +kernel)
theorem dX11_spells_60 : decode cX11_spells 60 = .ok (.iconst 1, 1) := kd_4 (by decide +kernel)
theorem dX11_spells_61 : decode cX11_spells 61 = .ok (.if_icmp .ne 7, 3) := kd_160 (a := 0) (b := 7) (by decide +kernel)
theorem dX11_spells_68 : decode cX11_spells 68 = .ok (.iload 9, 2) := kd_21 (a := 9) (by decide +kernel)
theorem dX11_spells_70 : decode cX11_spells 70 = .ok (.iconst 2, 1) := kd_5 (by decide +kernel)
theorem dX11_spells_71 : decode cX11_spells 71 = .ok (.if_icmp .ne 8, 3) := kd_160 (a := 0) (b := 8) (by decide +kernel)
theorem dX11_spells_79 : decode cX11_spells 79 = .ok (.iload 9, 2) := kd_21 (a := 9) (by decide +kernel)
theorem dX11_spells_81 : decode cX11_spells 81 = .ok (.iconst 3, 1) := kd_6 (by decide +kernel)
theorem dX11_spells_82 : decode cX11_spells 82 = .ok (.if_icmp .ne 8, 3) := kd_160 (a := 0) (b := 8) (by decide +kernel)
theorem dX11_spells_90 : decode cX11_spells 90 = .ok (.iload 9, 2) := kd_21 (a := 9) (by decide +kernel)
theorem dX11_spells_92 : decode cX11_spells 92 = .ok (.iconst 4, 1) := kd_7 (by decide +kernel)
theorem dX11_spells_93 : decode cX11_spells 93 = .ok (.if_icmp .ne 8, 3) := kd_160 (a := 0) (b := 8) (by decide +kernel)
theorem dX11_spells_101 : decode cX11_spells 101 = .ok (.iload 7, 2) := kd_21 (a := 7) (by decide +kernel)
theorem dX11_spells_96 : decode cX11_spells 96 = .ok (.iload 6, 2) := kd_21 (a := 6) (by decide +kernel)
theorem dX11_spells_98 : decode cX11_spells 98 = .ok (.goto 5, 3) := kd_167 (a := 0) (b := 5) (by decide +kernel)
theorem dX11_spells_85 : decode cX11_spells 85 = .ok (.iload 5, 2) := kd_21 (a := 5) (by decide +kernel)
theorem dX11_spells_87 : decode cX11_spells 87 = .ok (.goto 16, 3) := kd_167 (a := 0) (b := 16) (by decide +kernel)
theorem dX11_spells_74 : decode cX11_spells 74 = .ok (.iload 4, 2) := kd_21 (a := 4) (by decide +kernel)
theorem dX11_spells_76 : decode cX11_spells 76 = .ok (.goto 27, 3) := kd_167 (a := 0) (b := 27) (by decide +kernel)
theorem dX11_spells_64 : decode cX11_spells 64 = .ok (.iload_n 3, 1) := kd_29 (by decide +kernel)
theorem dX11_spells_65 : decode cX11_spells 65 = .ok (.goto 38, 3) := kd_167 (a := 0) (b := 38) (by decide +kernel)
theorem dX11_spells_54 : decode cX11_spells 54 = .ok (.iload_n 2, 1) := kd_28 (by decide +kernel)
theorem dX11_spells_55 : decode cX11_spells 55 = .ok (.goto 48, 3) := kd_167 (a := 0) (b := 48) (by decide +kernel)
theorem dX11_spells_103 : decode cX11_spells 103 = .ok (.if_icmp .ne 7, 3) := kd_160 (a := 0) (b := 7) (by decide +kernel)
theorem dX11_spells_110 : decode cX11_spells 110 = .ok (.iconst 0, 1) := kd_3 (by decide +kernel)
theorem dX11_spells_106 : decode cX11_spells 106 = .ok (.iconst 1, 1) := kd_4 (by decide +kernel)
theorem dX11_spells_107 : decode cX11_spells 107 = .ok (.goto 4, 3) := kd_167 (a := 0) (b := 4) (by decide +kernel)
theorem dX11_spells_111 : decode cX11_spells 111 = .ok (.istore 8, 2) := kd_54 (a := 8) (by decide +kernel)
theorem dX11_spells_113 : decode cX11_spells 113 = .ok (.iinc 9 1, 3) := kd_132 (a := 9) (b := 1) (by decide +kernel)
theorem dX11_spells_116 : decode cX11_spells 116 = .ok (.goto (-90), 3) := kd_167 (a := 255) (b := 166) (by decide +kernel)
set_option maxHeartbeats 8000000 in
set_option maxRecDepth 100000 in
theorem c_X11_spells (l : Launch) (G : gG) (m0 : Nat) (m_all : Nat) (m_kept : Nat) (m_isKept : Nat) (m_refused : Nat) (m_above : Int) (m_below : Int) (m_hand : Nat) (m_fewest : Nat) (m_whoBites : Nat) (m_leaves : Nat) (m_bestFeast : Nat) (m_tells : Nat) (m_hardOn : Nat) (m_bytes : Nat) (m_bytesLong : Int) (m_tokenAt : Int) (m_tokenLong : Int) (m_token : Int) (m_value : Int) (m_anew : Nat) (m_values : Nat) (my : Nat → Int) (uS : Nat → Int) (uA : Nat → Int) (uV : Nat → Int) (uE : Nat → Int) (n0 : Int) (j0 : Int) (i0 : Nat) (s0 : Int) (a1 : Int) (a2 : Int) (a3 : Int) (a4 : Int) (a5 : Int) (a6 : Int) (y0_ : bd 0 127 my) (hL : 0 ≤ m_bytesLong ∧ m_bytesLong ≤ 150) (i0_ : 0 ≤ m_tokenAt ∧ 0 ≤ m_tokenLong ∧ m_tokenAt + m_tokenLong ≤ m_bytesLong) (i1_ : 0 ≤ m_token ∧ m_token ≤ 4) (i2_ : m_token = 0 ∨ 1 ≤ m_tokenLong) (i3_ : -2000 ≤ m_value ∧ m_value ≤ 2000) (hch : chF my m_bytesLong uS uA uV n0 uE) (hra : ra my uS uA uV uE j0 m_tokenAt m_tokenLong m_token m_value) (hj : 0 ≤ j0 ∧ j0 < n0) (hi7 : i0 < 7) (hcs : cs i0 s0 a1 a2 a3 a4 a5 a6) (hn : 0 ≤ s0 ∧ s0 ≤ 6) (ra1 : -2147483648 ≤ a1 ∧ a1 ≤ 2147483647) (ra2 : -2147483648 ≤ a2 ∧ a2 ≤ 2147483647) (ra3 : -2147483648 ≤ a3 ∧ a3 ≤ 2147483647) (ra4 : -2147483648 ≤ a4 ∧ a4 ≤ 2147483647) (ra5 : -2147483648 ≤ a5 ∧ a5 ≤ 2147483647) (ra6 : -2147483648 ≤ a6 ∧ a6 ≤ 2147483647) (sz : Nat) : gI G l yX11_spells wsX11_spells ({ frames := 0, cells := 0, slots := 0, locals := 0 } : Room) [.ref m0, .int (iI s0), .int (iI a1), .int (iI a2), .int (iI a3), .int (iI a4), .int (iI a5), .int (iI a6)] [(m0, .inr (10, [.ref m_all, .ref m_kept, .ref m_isKept, .ref m_refused, .long (lI m_above), .long (lI m_below), .ref m_hand, .ref m_fewest, .ref m_whoBites, .ref m_leaves, .ref m_bestFeast, .ref m_tells, .ref m_hardOn, .ref m_bytes, .int (iI m_bytesLong), .int (iI m_tokenAt), .int (iI m_tokenLong), .int (iI m_token), .int (iI m_value), .ref m_anew, .ref m_values])), (m_bytes, .inl (G.2 0, 150, .inl (cI my)))] sz (fun (r : Int32) (u : va_W) => (∃ rr : Int, (rr = 0 ∨ rr = 1) ∧ ((rr = 1 ∧ uS (j0 : Int).toNat = 4 + (i0 : Int)) ∨ (rr = 0 ∧ ¬ (uS (j0 : Int).toNat = 4 + (i0 : Int)))) ∧ r = (iI rr) ∧ u = [(m0, .inr (10, [.ref m_all, .ref m_kept, .ref m_isKept, .ref m_refused, .long (lI m_above), .long (lI m_below), .ref m_hand, .ref m_fewest, .ref m_whoBites, .ref m_leaves, .ref m_bestFeast, .ref m_tells, .ref m_hardOn, .ref m_bytes, .int (iI m_bytesLong), .int (iI m_tokenAt), .int (iI m_tokenLong), .int (iI m_token), .int (iI m_value), .ref m_anew, .ref m_values])), (m_bytes, .inl (G.2 0, 150, .inl (cI my)))])) := by
  refine Met.ofW (cc := cX11_spells) (maxL := 10) (ret := (some .boolean)) (by decide) rfl ?_
  intro p e s m args below meth c s₁ B hml hv
  obtain ⟨rfl, hsz, hP, hK, hD0, hN, hZ⟩ := hv
  have hx := B.exec
  have hb := B.bytes
  have hr := B.returns
  have hts := atoms_spec (ws := wsX11_spells) B.pre
  have hown : s.vm.findClass RX11 = some m.cls := findClass_of_methodNamed B.named
  have hlocks := B.notSynchronized
  subst hsz
  have hD := hD0.self (sz := s.heap.size)
  generalize hAe : va_A [(m0, .inr (10, [.ref m_all, .ref m_kept, .ref m_isKept, .ref m_refused, .long (lI m_above), .long (lI m_below), .ref m_hand, .ref m_fewest, .ref m_whoBites, .ref m_leaves, .ref m_bestFeast, .ref m_tells, .ref m_hardOn, .ref m_bytes, .int (iI m_bytesLong), .int (iI m_tokenAt), .int (iI m_tokenLong), .int (iI m_token), .int (iI m_value), .ref m_anew, .ref m_values])), (m_bytes, .inl (G.2 0, 150, .inl (cI my)))] s.heap.size = A at hD hZ ⊢
  have hA : ∀ q : Nat, s.heap.size ≤ q → A q := fun q h => by rw [← hAe]; exact Or.inr h
  have hS : va_S A s.heap s.heap [] := va_S.rf
  have hP : va_P G.1 vwCl [(m0, .inr (10, [.ref m_all, .ref m_kept, .ref m_isKept, .ref m_refused, .long (lI m_above), .long (lI m_below), .ref m_hand, .ref m_fewest, .ref m_whoBites, .ref m_leaves, .ref m_bestFeast, .ref m_tells, .ref m_hardOn, .ref m_bytes, .int (iI m_bytesLong), .int (iI m_tokenAt), .int (iI m_tokenLong), .int (iI m_token), .int (iI m_value), .ref m_anew, .ref m_values])), (m_bytes, .inl (G.2 0, 150, .inl (cI my)))] s.heap := hP
  have hl := lv_entry ([.ref m0, .int (iI s0), .int (iI a1), .int (iI a2), .int (iI a3), .int (iI a4), .int (iI a5), .int (iI a6)]) (n := 10) (Nat.le_of_ble_eq_true rfl)
  rw [lg_entry_eq]
  generalize (lg_sl ([.ref m0, .int (iI s0), .int (iI a1), .int (iI a2), .int (iI a3), .int (iI a4), .int (iI a5), .int (iI a6)]) ++ List.replicate (10 - (lg_sl ([.ref m0, .int (iI s0), .int (iI a1), .int (iI a2), .int (iI a3), .int (iI a4), .int (iI a5), .int (iI a6)])).length) Slot.unset).toArray = ls at hl ⊢
  have hl : lv_has ls 10 [(0, .ref m0), (1, .int (iI s0)), (2, .int (iI a1)), (3, .int (iI a2)), (4, .int (iI a3)), (5, .int (iI a4)), (6, .int (iI a5)), (7, .int (iI a6))] := hl
  refine lv_aload_n hx hb dX11_spells_0 rfl (lv_at hl 0 rfl) ?_
  refine va_get (D := G.1) (ci := 10) (v := .int (iI m_token)) (C := RX11) (T := TX11) (N := 21) hx hb hts (fun _ h => List.mem_cons_of_mem _ (inlX11 _ h)) hown hK hP 0 rfl rfl 17 (by decide) (hts _ (List.mem_cons_of_mem _ (in_r19 (List.mem_of_getElem? (i := 9) rfl)))) (fun _ h9 => h9) rfl dX11_spells_1 ?_
  refine lv_iconst (v := iI 1) hx hb dX11_spells_4 rfl ?_
  refine g_join (jn := 21) (rest := []) (fun t_1 ls => ((t_1 = 0 ∧ ¬ (m_token = 1 ∧ m_tokenLong = s0)) ∨ (t_1 = 1 ∧ m_token = 1 ∧ m_tokenLong = s0)) ∧ lv_has ls 10 [(0, .ref m0), (1, .int (iI s0)), (2, .int (iI a1)), (3, .int (iI a2)), (4, .int (iI a3)), (5, .int (iI a4)), (6, .int (iI a5)), (7, .int (iI a6))]) (fun t_1 ls hI => ?_) (fun hJ_2 => ?_)
  · obtain ⟨f_3, hl⟩ := hI
    refine lv_istore (lv' := [(8, .int (iI t_1)), (0, .ref m0), (1, .int (iI s0)), (2, .int (iI a1)), (3, .int (iI a2)), (4, .int (iI a3)), (5, .int (iI a4)), (6, .int (iI a5)), (7, .int (iI a6))]) hx hb dX11_spells_21 hl (by decide) rfl (fun ls hl => ?_)
    refine lv_iconst (v := iI 0) hx hb dX11_spells_23 rfl ?_
    refine lv_istore (lv' := [(9, .int (iI 0)), (8, .int (iI t_1)), (0, .ref m0), (1, .int (iI s0)), (2, .int (iI a1)), (3, .int (iI a2)), (4, .int (iI a3)), (5, .int (iI a4)), (6, .int (iI a5)), (7, .int (iI a6))]) hx hb dX11_spells_24 hl (by decide) rfl (fun ls hl => ?_)
    refine g_loopN (pc := 26) (fun nn H locs ls => ∃ s0__4 : Int, ∃ k0__5 : Int, (s0__4 = 0 ∨ (s0__4 = 1 ∧ s0 = m_tokenLong)) ∧ (0 ≤ k0__5 ∧ k0__5 ≤ s0) ∧ (spI i0 my m_tokenAt m_tokenLong m_token s0__4 k0__5) ∧ (6 - k0__5).toNat = nn ∧ va_P G.1 vwCl [(m0, .inr (10, [.ref m_all, .ref m_kept, .ref m_isKept, .ref m_refused, .long (lI m_above), .long (lI m_below), .ref m_hand, .ref m_fewest, .ref m_whoBites, .ref m_leaves, .ref m_bestFeast, .ref m_tells, .ref m_hardOn, .ref m_bytes, .int (iI m_bytesLong), .int (iI m_tokenAt), .int (iI m_tokenLong), .int (iI m_token), .int (iI m_value), .ref m_anew, .ref m_values])), (m_bytes, .inl (G.2 0, 150, .inl (cI my)))] H ∧ va_D A [(m0, .inr (10, [.ref m_all, .ref m_kept, .ref m_isKept, .ref m_refused, .long (lI m_above), .long (lI m_below), .ref m_hand, .ref m_fewest, .ref m_whoBites, .ref m_leaves, .ref m_bestFeast, .ref m_tells, .ref m_hardOn, .ref m_bytes, .int (iI m_bytesLong), .int (iI m_tokenAt), .int (iI m_tokenLong), .int (iI m_token), .int (iI m_value), .ref m_anew, .ref m_values])), (m_bytes, .inl (G.2 0, 150, .inl (cI my)))] ∧ va_S A s.heap H locs ∧ lv_has ls 10 [(9, .int (iI k0__5)), (8, .int (iI s0__4)), (0, .ref m0), (1, .int (iI s0)), (2, .int (iI a1)), (3, .int (iI a2)), (4, .int (iI a3)), (5, .int (iI a4)), (6, .int (iI a5)), (7, .int (iI a6))]) ?_ ⟨t_1, 0, (by first | assumption | omega), (by first | assumption | omega), (spI_0 hcs.1 (by omega)), rfl, hP, hD, hS, lv_sub hl [0, 1, 2, 3, 4, 5, 6, 7, 8, 9] rfl⟩
    intro nn_10 H locs ls ih_9 hI
    refine ea_2_8 hI (fun s0__4 k0__5 f_6 f_7 f_8 hnn_11 hP hD hS hl => ?_)
    clear hI
    refine lv_iload hx hb dX11_spells_26 (lv_at hl 0 rfl) ?_
    refine lv_iload_n hx hb dX11_spells_28 rfl (lv_at hl 3 rfl) ?_
    refine lv_icmp_ge (tgt := 119) hx hb dX11_spells_29 (by decide) (fun c_12 => ?_) (fun c_12 => ?_)
    · have c_12 := (iI_le (a := s0) (b := k0__5) (by omega) (by omega)).mp c_12
      refine lv_iload hx hb dX11_spells_119 (lv_at hl 1 rfl) ?_
      exact g_zret (v := (iI s0__4)) hx hb hr hlocks (narrow_z (by omega)) hP hD hS (⟨s0__4, (by first | assumption | omega), (spI_e hra hi7 (by assumption) (by have h9 : s0 = zL i0 := hcs.1; omega)), rfl, rfl⟩) dX11_spells_121
    · have c_12 : ¬ (s0 ≤ k0__5) := fun h9 => c_12 ((iI_le (a := s0) (b := k0__5) (by omega) (by omega)).mpr h9)
      refine lv_iload hx hb dX11_spells_32 (lv_at hl 1 rfl) ?_
      refine lv_if_eq (tgt := 119) hx hb dX11_spells_34 (by decide) (fun c_13 => ?_) (fun c_13 => ?_)
      · have c_13 := (iI_eq (a := s0__4) (b := 0) (by omega) (by first | decide | omega)).mp c_13
        refine lv_iload hx hb dX11_spells_119 (lv_at hl 1 rfl) ?_
        exact g_zret (v := (iI s0__4)) hx hb hr hlocks (narrow_z (by omega)) hP hD hS (⟨s0__4, (by first | assumption | omega), (spI_e hra hi7 (by assumption) (by have h9 : s0 = zL i0 := hcs.1; omega)), rfl, rfl⟩) dX11_spells_121
      · have c_13 : ¬ (s0__4 = 0) := fun h9 => c_13 ((iI_eq (a := s0__4) (b := 0) (by omega) (by first | decide | omega)).mpr h9)
        refine lv_aload_n hx hb dX11_spells_37 rfl (lv_at hl 2 rfl) ?_
        refine va_get (D := G.1) (ci := 10) (v := .ref m_bytes) (C := RX11) (T := TX11) (N := 21) hx hb hts (fun _ h => List.mem_cons_of_mem _ (inlX11 _ h)) hown hK hP 0 rfl rfl 13 (by decide) (hts _ (List.mem_cons_of_mem _ (in_r6 (List.mem_of_getElem? (i := 12) rfl)))) (fun _ h9 => h9) rfl dX11_spells_38 ?_
        refine lv_aload_n hx hb dX11_spells_41 rfl (lv_at hl 2 rfl) ?_
        refine va_get (D := G.1) (ci := 10) (v := .int (iI m_tokenAt)) (C := RX11) (T := TX11) (N := 21) hx hb hts (fun _ h => List.mem_cons_of_mem _ (inlX11 _ h)) hown hK hP 0 rfl rfl 15 (by decide) (hts _ (List.mem_cons_of_mem _ (in_r19 (List.mem_of_getElem? (i := 8) rfl)))) (fun _ h9 => h9) rfl dX11_spells_42 ?_
        refine lv_iload hx hb dX11_spells_45 (lv_at hl 0 rfl) ?_
        refine lv_iadd hx hb dX11_spells_47 ?_
        refine g_topi (y := iI (m_tokenAt + k0__5)) (iI_add m_tokenAt k0__5) ?_
        refine g_ild hx hb hK hP 1 rfl (by omega) (by omega) (by first | exact Nat.le_of_ble_eq_true rfl | omega) dX11_spells_48 (fun w_14 ew_14 => ?_)
        have ew_14 : my ((m_tokenAt + k0__5).toNat) = w_14 := ew_14
        subst ew_14
        have b0w_14 := y0_ ((m_tokenAt + k0__5).toNat)
        refine lv_iload hx hb dX11_spells_49 (lv_at hl 0 rfl) ?_
        refine g_join (jn := 103) (rest := [.int (iI (my ((m_tokenAt + k0__5).toNat)))]) (fun t_15 ls => ((k0__5 = 0 ∧ t_15 = a1) ∨ (k0__5 = 1 ∧ t_15 = a2) ∨ (k0__5 = 2 ∧ t_15 = a3) ∨ (k0__5 = 3 ∧ t_15 = a4) ∨ (k0__5 = 4 ∧ t_15 = a5) ∨ ((k0__5 < 0 ∨ 4 < k0__5) ∧ t_15 = a6)) ∧ lv_has ls 10 [(9, .int (iI k0__5)), (8, .int (iI s0__4)), (0, .ref m0), (1, .int (iI s0)), (2, .int (iI a1)), (3, .int (iI a2)), (4, .int (iI a3)), (5, .int (iI a4)), (6, .int (iI a5)), (7, .int (iI a6))]) (fun t_15 ls hI => ?_) (fun hJ_16 => ?_)
        · obtain ⟨f_17, hl⟩ := hI
          refine g_join (jn := 111) (rest := []) (fun t_18 ls => ((¬ ((my ((m_tokenAt + k0__5).toNat)) = t_15) ∧ t_18 = 0) ∨ ((my ((m_tokenAt + k0__5).toNat)) = t_15 ∧ t_18 = 1)) ∧ lv_has ls 10 [(9, .int (iI k0__5)), (8, .int (iI s0__4)), (0, .ref m0), (1, .int (iI s0)), (2, .int (iI a1)), (3, .int (iI a2)), (4, .int (iI a3)), (5, .int (iI a4)), (6, .int (iI a5)), (7, .int (iI a6))]) (fun t_18 ls hI => ?_) (fun hJ_19 => ?_)
          · obtain ⟨f_20, hl⟩ := hI
            refine lv_istore (lv' := [(8, .int (iI t_18)), (9, .int (iI k0__5)), (0, .ref m0), (1, .int (iI s0)), (2, .int (iI a1)), (3, .int (iI a2)), (4, .int (iI a3)), (5, .int (iI a4)), (6, .int (iI a5)), (7, .int (iI a6))]) hx hb dX11_spells_111 hl (by decide) rfl (fun ls hl => ?_)
            refine lv_iinc (v := iI (k0__5 + 1)) (lv' := [(9, .int (iI (k0__5 + 1))), (8, .int (iI t_18)), (0, .ref m0), (1, .int (iI s0)), (2, .int (iI a1)), (3, .int (iI a2)), (4, .int (iI a3)), (5, .int (iI a4)), (6, .int (iI a5)), (7, .int (iI a6))]) hx hb dX11_spells_113 hl (k := 1) rfl (iI_add k0__5 1) (by decide) rfl (fun ls hl => ?_)
            refine lv_goto (tgt := 26) hx hb dX11_spells_116 (by decide) ?_
            exact ih_9 _ _ _ _ (by omega) ⟨t_18, (k0__5 + 1), (by first | assumption | omega), (by first | assumption | omega), (spI_s hcs (by assumption) (by omega) (by omega) (by assumption) (by omega)), rfl, hP, hD, hS, lv_sub hl [0, 1, 2, 3, 4, 5, 6, 7, 8, 9] rfl⟩
          · refine lv_icmp_ne (tgt := 110) hx hb dX11_spells_103 (by decide) (fun c_21 => ?_) (fun c_21 => ?_)
            · have c_21 : ¬ ((my ((m_tokenAt + k0__5).toNat)) = t_15) := fun h9 => c_21 ((iI_eq (a := (my ((m_tokenAt + k0__5).toNat))) (b := t_15) (by omega) (by omega)).mpr h9)
              refine lv_iconst (v := iI 0) hx hb dX11_spells_110 rfl ?_
              exact hJ_19 0 ls ⟨by omega, lv_sub hl [0, 1, 2, 3, 4, 5, 6, 7, 8, 9] rfl⟩
            · have c_21 := (iI_eq (a := (my ((m_tokenAt + k0__5).toNat))) (b := t_15) (by omega) (by omega)).mp c_21
              refine lv_iconst (v := iI 1) hx hb dX11_spells_106 rfl ?_
              refine lv_goto (tgt := 111) hx hb dX11_spells_107 (by decide) ?_
              exact hJ_19 1 ls ⟨by omega, lv_sub hl [0, 1, 2, 3, 4, 5, 6, 7, 8, 9] rfl⟩
        · refine lv_if_ne (tgt := 58) hx hb dX11_spells_51 (by decide) (fun c_22 => ?_) (fun c_22 => ?_)
          · have c_22 : ¬ (k0__5 = 0) := fun h9 => c_22 ((iI_eq (a := k0__5) (b := 0) (by omega) (by first | decide | omega)).mpr h9)
            refine lv_iload hx hb dX11_spells_58 (lv_at hl 0 rfl) ?_
            refine lv_iconst (v := iI 1) hx hb dX11_spells_60 rfl ?_
            refine g_join (jn := 103) (rest := [.int (iI (my ((m_tokenAt + k0__5).toNat)))]) (fun t_23 ls => ((k0__5 = 0 ∧ t_23 = a1) ∨ (k0__5 = 1 ∧ t_23 = a2) ∨ (k0__5 = 2 ∧ t_23 = a3) ∨ (k0__5 = 3 ∧ t_23 = a4) ∨ (k0__5 = 4 ∧ t_23 = a5) ∨ ((k0__5 < 0 ∨ 4 < k0__5) ∧ t_23 = a6)) ∧ lv_has ls 10 [(9, .int (iI k0__5)), (8, .int (iI s0__4)), (0, .ref m0), (1, .int (iI s0)), (2, .int (iI a1)), (3, .int (iI a2)), (4, .int (iI a3)), (5, .int (iI a4)), (6, .int (iI a5)), (7, .int (iI a6))]) (fun t_23 ls hI => ?_) (fun hJ_24 => ?_)
            · obtain ⟨f_25, hl⟩ := hI
              exact hJ_16 t_23 ls ⟨by omega, lv_sub hl [0, 1, 2, 3, 4, 5, 6, 7, 8, 9] rfl⟩
            · refine lv_icmp_ne (tgt := 68) hx hb dX11_spells_61 (by decide) (fun c_26 => ?_) (fun c_26 => ?_)
              · have c_26 : ¬ (k0__5 = 1) := fun h9 => c_26 ((iI_eq (a := k0__5) (b := 1) (by omega) (by first | decide | omega)).mpr h9)
                refine lv_iload hx hb dX11_spells_68 (lv_at hl 0 rfl) ?_
                refine lv_iconst (v := iI 2) hx hb dX11_spells_70 rfl ?_
                refine g_join (jn := 103) (rest := [.int (iI (my ((m_tokenAt + k0__5).toNat)))]) (fun t_27 ls => ((k0__5 = 0 ∧ t_27 = a1) ∨ (k0__5 = 1 ∧ t_27 = a2) ∨ (k0__5 = 2 ∧ t_27 = a3) ∨ (k0__5 = 3 ∧ t_27 = a4) ∨ (k0__5 = 4 ∧ t_27 = a5) ∨ ((k0__5 < 0 ∨ 4 < k0__5) ∧ t_27 = a6)) ∧ lv_has ls 10 [(9, .int (iI k0__5)), (8, .int (iI s0__4)), (0, .ref m0), (1, .int (iI s0)), (2, .int (iI a1)), (3, .int (iI a2)), (4, .int (iI a3)), (5, .int (iI a4)), (6, .int (iI a5)), (7, .int (iI a6))]) (fun t_27 ls hI => ?_) (fun hJ_28 => ?_)
                · obtain ⟨f_29, hl⟩ := hI
                  exact hJ_24 t_27 ls ⟨by omega, lv_sub hl [0, 1, 2, 3, 4, 5, 6, 7, 8, 9] rfl⟩
                · refine lv_icmp_ne (tgt := 79) hx hb dX11_spells_71 (by decide) (fun c_30 => ?_) (fun c_30 => ?_)
                  · have c_30 : ¬ (k0__5 = 2) := fun h9 => c_30 ((iI_eq (a := k0__5) (b := 2) (by omega) (by first | decide | omega)).mpr h9)
                    refine lv_iload hx hb dX11_spells_79 (lv_at hl 0 rfl) ?_
                    refine lv_iconst (v := iI 3) hx hb dX11_spells_81 rfl ?_
                    refine g_join (jn := 103) (rest := [.int (iI (my ((m_tokenAt + k0__5).toNat)))]) (fun t_31 ls => ((k0__5 = 0 ∧ t_31 = a1) ∨ (k0__5 = 1 ∧ t_31 = a2) ∨ (k0__5 = 2 ∧ t_31 = a3) ∨ (k0__5 = 3 ∧ t_31 = a4) ∨ (k0__5 = 4 ∧ t_31 = a5) ∨ ((k0__5 < 0 ∨ 4 < k0__5) ∧ t_31 = a6)) ∧ lv_has ls 10 [(9, .int (iI k0__5)), (8, .int (iI s0__4)), (0, .ref m0), (1, .int (iI s0)), (2, .int (iI a1)), (3, .int (iI a2)), (4, .int (iI a3)), (5, .int (iI a4)), (6, .int (iI a5)), (7, .int (iI a6))]) (fun t_31 ls hI => ?_) (fun hJ_32 => ?_)
                    · obtain ⟨f_33, hl⟩ := hI
                      exact hJ_28 t_31 ls ⟨by omega, lv_sub hl [0, 1, 2, 3, 4, 5, 6, 7, 8, 9] rfl⟩
                    · refine lv_icmp_ne (tgt := 90) hx hb dX11_spells_82 (by decide) (fun c_34 => ?_) (fun c_34 => ?_)
                      · have c_34 : ¬ (k0__5 = 3) := fun h9 => c_34 ((iI_eq (a := k0__5) (b := 3) (by omega) (by first | decide | omega)).mpr h9)
                        refine lv_iload hx hb dX11_spells_90 (lv_at hl 0 rfl) ?_
                        refine lv_iconst (v := iI 4) hx hb dX11_spells_92 rfl ?_
                        refine g_join (jn := 103) (rest := [.int (iI (my ((m_tokenAt + k0__5).toNat)))]) (fun t_35 ls => ((k0__5 = 0 ∧ t_35 = a1) ∨ (k0__5 = 1 ∧ t_35 = a2) ∨ (k0__5 = 2 ∧ t_35 = a3) ∨ (k0__5 = 3 ∧ t_35 = a4) ∨ (k0__5 = 4 ∧ t_35 = a5) ∨ ((k0__5 < 0 ∨ 4 < k0__5) ∧ t_35 = a6)) ∧ lv_has ls 10 [(9, .int (iI k0__5)), (8, .int (iI s0__4)), (0, .ref m0), (1, .int (iI s0)), (2, .int (iI a1)), (3, .int (iI a2)), (4, .int (iI a3)), (5, .int (iI a4)), (6, .int (iI a5)), (7, .int (iI a6))]) (fun t_35 ls hI => ?_) (fun hJ_36 => ?_)
                        · obtain ⟨f_37, hl⟩ := hI
                          exact hJ_32 t_35 ls ⟨by omega, lv_sub hl [0, 1, 2, 3, 4, 5, 6, 7, 8, 9] rfl⟩
                        · refine lv_icmp_ne (tgt := 101) hx hb dX11_spells_93 (by decide) (fun c_38 => ?_) (fun c_38 => ?_)
                          · have c_38 : ¬ (k0__5 = 4) := fun h9 => c_38 ((iI_eq (a := k0__5) (b := 4) (by omega) (by first | decide | omega)).mpr h9)
                            refine lv_iload hx hb dX11_spells_101 (lv_at hl 9 rfl) ?_
                            exact hJ_36 a6 ls ⟨by omega, lv_sub hl [0, 1, 2, 3, 4, 5, 6, 7, 8, 9] rfl⟩
                          · have c_38 := (iI_eq (a := k0__5) (b := 4) (by omega) (by first | decide | omega)).mp c_38
                            refine lv_iload hx hb dX11_spells_96 (lv_at hl 8 rfl) ?_
                            refine lv_goto (tgt := 103) hx hb dX11_spells_98 (by decide) ?_
                            exact hJ_36 a5 ls ⟨by omega, lv_sub hl [0, 1, 2, 3, 4, 5, 6, 7, 8, 9] rfl⟩
                      · have c_34 := (iI_eq (a := k0__5) (b := 3) (by omega) (by first | decide | omega)).mp c_34
                        refine lv_iload hx hb dX11_spells_85 (lv_at hl 7 rfl) ?_
                        refine lv_goto (tgt := 103) hx hb dX11_spells_87 (by decide) ?_
                        exact hJ_32 a4 ls ⟨by omega, lv_sub hl [0, 1, 2, 3, 4, 5, 6, 7, 8, 9] rfl⟩
                  · have c_30 := (iI_eq (a := k0__5) (b := 2) (by omega) (by first | decide | omega)).mp c_30
                    refine lv_iload hx hb dX11_spells_74 (lv_at hl 6 rfl) ?_
                    refine lv_goto (tgt := 103) hx hb dX11_spells_76 (by decide) ?_
                    exact hJ_28 a3 ls ⟨by omega, lv_sub hl [0, 1, 2, 3, 4, 5, 6, 7, 8, 9] rfl⟩
              · have c_26 := (iI_eq (a := k0__5) (b := 1) (by omega) (by first | decide | omega)).mp c_26
                refine lv_iload_n hx hb dX11_spells_64 rfl (lv_at hl 5 rfl) ?_
                refine lv_goto (tgt := 103) hx hb dX11_spells_65 (by decide) ?_
                exact hJ_24 a2 ls ⟨by omega, lv_sub hl [0, 1, 2, 3, 4, 5, 6, 7, 8, 9] rfl⟩
          · have c_22 := (iI_eq (a := k0__5) (b := 0) (by omega) (by first | decide | omega)).mp c_22
            refine lv_iload_n hx hb dX11_spells_54 rfl (lv_at hl 4 rfl) ?_
            refine lv_goto (tgt := 103) hx hb dX11_spells_55 (by decide) ?_
            exact hJ_16 a1 ls ⟨by omega, lv_sub hl [0, 1, 2, 3, 4, 5, 6, 7, 8, 9] rfl⟩
  · refine lv_icmp_ne (tgt := 20) hx hb dX11_spells_5 (by decide) (fun c_39 => ?_) (fun c_39 => ?_)
    · have c_39 : ¬ (m_token = 1) := fun h9 => c_39 ((iI_eq (a := m_token) (b := 1) (by omega) (by first | decide | omega)).mpr h9)
      refine lv_iconst (v := iI 0) hx hb dX11_spells_20 rfl ?_
      exact hJ_2 0 ls ⟨by omega, lv_sub hl [0, 1, 2, 3, 4, 5, 6, 7] rfl⟩
    · have c_39 := (iI_eq (a := m_token) (b := 1) (by omega) (by first | decide | omega)).mp c_39
      refine lv_aload_n hx hb dX11_spells_8 rfl (lv_at hl 0 rfl) ?_
      refine va_get (D := G.1) (ci := 10) (v := .int (iI m_tokenLong)) (C := RX11) (T := TX11) (N := 21) hx hb hts (fun _ h => List.mem_cons_of_mem _ (inlX11 _ h)) hown hK hP 0 rfl rfl 16 (by decide) (hts _ (List.mem_cons_of_mem _ (in_r19 (List.mem_of_getElem? (i := 14) rfl)))) (fun _ h9 => h9) rfl dX11_spells_9 ?_
      refine lv_iload_n hx hb dX11_spells_12 rfl (lv_at hl 1 rfl) ?_
      refine g_join (jn := 21) (rest := []) (fun t_40 ls => ((¬ (m_tokenLong = s0) ∧ t_40 = 0) ∨ (m_tokenLong = s0 ∧ t_40 = 1)) ∧ lv_has ls 10 [(0, .ref m0), (1, .int (iI s0)), (2, .int (iI a1)), (3, .int (iI a2)), (4, .int (iI a3)), (5, .int (iI a4)), (6, .int (iI a5)), (7, .int (iI a6))]) (fun t_40 ls hI => ?_) (fun hJ_41 => ?_)
      · obtain ⟨f_42, hl⟩ := hI
        exact hJ_2 t_40 ls ⟨by omega, lv_sub hl [0, 1, 2, 3, 4, 5, 6, 7] rfl⟩
      · refine lv_icmp_ne (tgt := 20) hx hb dX11_spells_13 (by decide) (fun c_43 => ?_) (fun c_43 => ?_)
        · have c_43 : ¬ (m_tokenLong = s0) := fun h9 => c_43 ((iI_eq (a := m_tokenLong) (b := s0) (by omega) (by omega)).mpr h9)
          refine lv_iconst (v := iI 0) hx hb dX11_spells_20 rfl ?_
          exact hJ_41 0 ls ⟨by omega, lv_sub hl [0, 1, 2, 3, 4, 5, 6, 7] rfl⟩
        · have c_43 := (iI_eq (a := m_tokenLong) (b := s0) (by omega) (by omega)).mp c_43
          refine lv_iconst (v := iI 1) hx hb dX11_spells_16 rfl ?_
          refine lv_goto (tgt := 21) hx hb dX11_spells_17 (by decide) ?_
          exact hJ_41 1 ls ⟨by omega, lv_sub hl [0, 1, 2, 3, 4, 5, 6, 7] rfl⟩
theorem dX11_gives_0 : decode cX11_gives 0 = .ok (.aload_n 0, 1) := kd_42 (by decide +kernel)
theorem dX11_gives_1 : decode cX11_gives 1 = .ok (.getfield 250, 3) := kd_180 (a := 0) (b := 250) (by decide +kernel)
theorem dX11_gives_4 : decode cX11_gives 4 = .ok (.iconst 2, 1) := kd_5 (by decide +kernel)
theorem dX11_gives_5 : decode cX11_gives 5 = .ok (.if_icmp .ne 18, 3) := kd_160 (a := 0) (b := 18) (by decide +kernel)
theorem dX11_gives_23 : decode cX11_gives 23 = .ok (.iconst 0, 1) := kd_3 (by decide +kernel)
theorem dX11_gives_24 : decode cX11_gives 24 = .ok (.ireturn, 1) := kd_172 (by decide +kernel)
theorem dX11_gives_8 : decode cX11_gives 8 = .ok (.aload_n 0, 1) := kd_42 (by decide +kernel)
theorem dX11_gives_9 : decode cX11_gives 9 = .ok (.getfield 253, 3) := kd_180 (a := 0) (b := 253) (by decide +kernel)
theorem dX11_gives_12 : decode cX11_gives 12 = .ok (.i2l, 1) := kd_133 (by decide +kernel)
theorem dX11_gives_13 : decode cX11_gives 13 = .ok (.iload_n 2, 1) := kd_28 (by decide +kernel)
theorem dX11_gives_14 : decode cX11_gives 14 = .ok (.i2l, 1) := kd_133 (by decide +kernel)
theorem dX11_gives_15 : decode cX11_gives 15 = .ok (.iload_n 3, 1) := kd_29 (by decide +kernel)
theorem dX11_gives_16 : decode cX11_gives 16 = .ok (.i2l, 1) := kd_133 (by decide +kernel)
theorem gX11_gives_X11_in : GoodIn wsX11_gives (va_wsS RX11 65 yX11_in wsX11_in) := gW_S (in_r8 (List.mem_of_getElem? (i := 9) rfl)) (in_r8 (List.mem_of_getElem? (i := 10) rfl)) (in_r1 (List.mem_of_getElem? (i := 5) rfl)) (in_r8 (List.mem_of_getElem? (i := 11) rfl))
theorem dX11_gives_17 : decode cX11_gives 17 = .ok (.invokestatic 65, 3) := kd_184 (a := 0) (b := 65) (by decide +kernel)
theorem dX11_gives_20 : decode cX11_gives 20 = .ok (.ifCond .ne 5, 3) := kd_154 (a := 0) (b := 5) (by decide +kernel)
theorem dX11_gives_25 : decode cX11_gives 25 = .ok (.aload_n 0, 1) := kd_42 (by decide +kernel)
theorem dX11_gives_26 : decode cX11_gives 26 = .ok (.getfield 54, 3) := kd_180 (a := 0) (b := 54) (by decide +kernel)
theorem dX11_gives_29 : decode cX11_gives 29 = .ok (.iload_n 1, 1) := kd_27 (by decide +kernel)
theorem dX11_gives_30 : decode cX11_gives 30 = .ok (.aload_n 0, 1) := kd_42 (by decide +kernel)
theorem dX11_gives_31 : decode cX11_gives 31 = .ok (.getfield 253, 3) := kd_180 (a := 0) (b := 253) (by decide +kernel)
theorem dX11_gives_34 : decode cX11_gives 34 = .ok (.iastore, 1) := kd_79 (by decide +kernel)
theorem dX11_gives_35 : decode cX11_gives 35 = .ok (.aload_n 0, 1) := kd_42 (by decide +kernel)
theorem gX11_gives_X11_goBehind : GoodIn wsX11_gives (wsV RX11 265 RX11 yX11_goBehind wsX11_goBehind) := gW_V (in_r20 (List.mem_of_getElem? (i := 6) rfl)) (in_r20 (List.mem_of_getElem? (i := 7) rfl)) (in_r20 (List.mem_of_getElem? (i := 8) rfl)) (in_r1 (List.mem_of_getElem? (i := 5) rfl)) (in_r20 (List.mem_of_getElem? (i := 9) rfl))
theorem dX11_gives_36 : decode cX11_gives 36 = .ok (.invokevirtual 265, 3) := kd_182 (a := 1) (b := 9) (by decide +kernel)
theorem dX11_gives_39 : decode cX11_gives 39 = .ok (.iconst 1, 1) := kd_4 (by decide +kernel)
theorem dX11_gives_40 : decode cX11_gives 40 = .ok (.ireturn, 1) := kd_172 (by decide +kernel)
set_option maxHeartbeats 8000000 in
set_option maxRecDepth 100000 in
theorem c_X11_gives0 (l : Launch) (G : gG) (m0 : Nat) (m_all : Nat) (m_kept : Nat) (m_isKept : Nat) (m_refused : Nat) (m_above : Int) (m_below : Int) (m_hand : Nat) (m_fewest : Nat) (m_whoBites : Nat) (m_leaves : Nat) (m_bestFeast : Nat) (m_tells : Nat) (m_hardOn : Nat) (m_bytes : Nat) (m_bytesLong : Int) (m_tokenAt : Int) (m_tokenLong : Int) (m_token : Int) (m_value : Int) (m_anew : Nat) (m_values : Nat) (my : Nat → Int) (mv : Nat → Int) (uS : Nat → Int) (uA : Nat → Int) (uV : Nat → Int) (uE : Nat → Int) (n0 : Int) (j0 : Int) (lo0 : Int) (hi0 : Int) (y0_ : bd 0 127 my) (hL : 0 ≤ m_bytesLong ∧ m_bytesLong ≤ 150) (i0_ : 0 ≤ m_tokenAt ∧ 0 ≤ m_tokenLong ∧ m_tokenAt + m_tokenLong ≤ m_bytesLong) (i1_ : 0 ≤ m_token ∧ m_token ≤ 4) (i2_ : m_token = 0 ∨ 1 ≤ m_tokenLong) (i3_ : -2000 ≤ m_value ∧ m_value ≤ 2000) (hch : chF my m_bytesLong uS uA uV n0 uE) (hra : ra my uS uA uV uE j0 m_tokenAt m_tokenLong m_token m_value) (hj : 0 ≤ j0 ∧ j0 < n0) (rlo0 : -2147483648 ≤ lo0 ∧ lo0 ≤ 2147483647) (rhi0 : -2147483648 ≤ hi0 ∧ hi0 ≤ 2147483647) (sz : Nat) : gI G l yX11_gives wsX11_gives ({ frames := 4, cells := 0, slots := 0, locals := 89 } : Room) [.ref m0, .int (iI 0), .int (iI lo0), .int (iI hi0)] [(m0, .inr (10, [.ref m_all, .ref m_kept, .ref m_isKept, .ref m_refused, .long (lI m_above), .long (lI m_below), .ref m_hand, .ref m_fewest, .ref m_whoBites, .ref m_leaves, .ref m_bestFeast, .ref m_tells, .ref m_hardOn, .ref m_bytes, .int (iI m_bytesLong), .int (iI m_tokenAt), .int (iI m_tokenLong), .int (iI m_token), .int (iI m_value), .ref m_anew, .ref m_values])), (m_bytes, .inl (G.2 0, 150, .inl (cI my))), (m_values, .inl (G.2 0, 3, .inl (cI mv)))] sz (fun (r : Int32) (u : va_W) => (∃ NtA : Int, ∃ NtL : Int, ∃ Ntk : Int, ∃ Nva : Int, ∃ nv : Int, (nv = uV (j0 : Int).toNat) ∧ (0 ≤ NtA ∧ 0 ≤ NtL ∧ NtA + NtL ≤ m_bytesLong) ∧ (0 ≤ Ntk ∧ Ntk ≤ 4) ∧ (Ntk = 0 ∨ 1 ≤ NtL) ∧ (-2000 ≤ Nva ∧ Nva ≤ 2000) ∧ (m_tokenAt ≤ NtA) ∧ (ra my uS uA uV uE (j0 + 1) NtA NtL Ntk Nva) ∧ (uS (j0 : Int).toNat = 2 ∧ lo0 ≤ uV (j0 : Int).toNat ∧ uV (j0 : Int).toNat ≤ hi0) ∧ (j0 + 1 < n0) ∧ r = (iI 1) ∧ u = [(m0, .inr (10, [.ref m_all, .ref m_kept, .ref m_isKept, .ref m_refused, .long (lI m_above), .long (lI m_below), .ref m_hand, .ref m_fewest, .ref m_whoBites, .ref m_leaves, .ref m_bestFeast, .ref m_tells, .ref m_hardOn, .ref m_bytes, .int (iI m_bytesLong), .int (iI NtA), .int (iI NtL), .int (iI Ntk), .int (iI Nva), .ref m_anew, .ref m_values])), (m_bytes, .inl (G.2 0, 150, .inl (cI my))), (m_values, .inl (G.2 0, 3, .inl (cI (uI mv 0 nv))))]) ∨ ((¬ (uS (j0 : Int).toNat = 2 ∧ lo0 ≤ uV (j0 : Int).toNat ∧ uV (j0 : Int).toNat ≤ hi0)) ∧ r = (iI 0) ∧ u = [(m0, .inr (10, [.ref m_all, .ref m_kept, .ref m_isKept, .ref m_refused, .long (lI m_above), .long (lI m_below), .ref m_hand, .ref m_fewest, .ref m_whoBites, .ref m_leaves, .ref m_bestFeast, .ref m_tells, .ref m_hardOn, .ref m_bytes, .int (iI m_bytesLong), .int (iI m_tokenAt), .int (iI m_tokenLong), .int (iI m_token), .int (iI m_value), .ref m_anew, .ref m_values])), (m_bytes, .inl (G.2 0, 150, .inl (cI my))), (m_values, .inl (G.2 0, 3, .inl (cI mv)))])) := by
  refine Met.ofW (cc := cX11_gives) (maxL := 4) (ret := (some .boolean)) (by decide) rfl ?_
  intro p e s m args below meth c s₁ B hml hv
  obtain ⟨rfl, hsz, hP, hK, hD0, hN, hZ⟩ := hv
  have hx := B.exec
  have hb := B.bytes
  have hr := B.returns
  have hts := atoms_spec (ws := wsX11_gives) B.pre
  have hown : s.vm.findClass RX11 = some m.cls := findClass_of_methodNamed B.named
  have hlocks := B.notSynchronized
  subst hsz
  have hD := hD0.self (sz := s.heap.size)
  generalize hAe : va_A [(m0, .inr (10, [.ref m_all, .ref m_kept, .ref m_isKept, .ref m_refused, .long (lI m_above), .long (lI m_below), .ref m_hand, .ref m_fewest, .ref m_whoBites, .ref m_leaves, .ref m_bestFeast, .ref m_tells, .ref m_hardOn, .ref m_bytes, .int (iI m_bytesLong), .int (iI m_tokenAt), .int (iI m_tokenLong), .int (iI m_token), .int (iI m_value), .ref m_anew, .ref m_values])), (m_bytes, .inl (G.2 0, 150, .inl (cI my))), (m_values, .inl (G.2 0, 3, .inl (cI mv)))] s.heap.size = A at hD hZ ⊢
  have hA : ∀ q : Nat, s.heap.size ≤ q → A q := fun q h => by rw [← hAe]; exact Or.inr h
  have hS : va_S A s.heap s.heap [] := va_S.rf
  have hP : va_P G.1 vwCl [(m0, .inr (10, [.ref m_all, .ref m_kept, .ref m_isKept, .ref m_refused, .long (lI m_above), .long (lI m_below), .ref m_hand, .ref m_fewest, .ref m_whoBites, .ref m_leaves, .ref m_bestFeast, .ref m_tells, .ref m_hardOn, .ref m_bytes, .int (iI m_bytesLong), .int (iI m_tokenAt), .int (iI m_tokenLong), .int (iI m_token), .int (iI m_value), .ref m_anew, .ref m_values])), (m_bytes, .inl (G.2 0, 150, .inl (cI my))), (m_values, .inl (G.2 0, 3, .inl (cI mv)))] s.heap := hP
  have hl := lv_entry ([.ref m0, .int (iI 0), .int (iI lo0), .int (iI hi0)]) (n := 4) (Nat.le_of_ble_eq_true rfl)
  rw [lg_entry_eq]
  generalize (lg_sl ([.ref m0, .int (iI 0), .int (iI lo0), .int (iI hi0)]) ++ List.replicate (4 - (lg_sl ([.ref m0, .int (iI 0), .int (iI lo0), .int (iI hi0)])).length) Slot.unset).toArray = ls at hl ⊢
  have hl : lv_has ls 4 [(0, .ref m0), (1, .int (iI 0)), (2, .int (iI lo0)), (3, .int (iI hi0))] := hl
  refine lv_aload_n hx hb dX11_gives_0 rfl (lv_at hl 0 rfl) ?_
  refine va_get (D := G.1) (ci := 10) (v := .int (iI m_token)) (C := RX11) (T := TX11) (N := 21) hx hb hts (fun _ h => List.mem_cons_of_mem _ (inlX11 _ h)) hown hK hP 0 rfl rfl 17 (by decide) (hts _ (List.mem_cons_of_mem _ (in_r19 (List.mem_of_getElem? (i := 9) rfl)))) (fun _ h9 => h9) rfl dX11_gives_1 ?_
  refine lv_iconst (v := iI 2) hx hb dX11_gives_4 rfl ?_
  refine lv_icmp_ne (tgt := 23) hx hb dX11_gives_5 (by decide) (fun c_1 => ?_) (fun c_1 => ?_)
  · have c_1 : ¬ (m_token = 2) := fun h9 => c_1 ((iI_eq (a := m_token) (b := 2) (by omega) (by first | decide | omega)).mpr h9)
    refine lv_iconst (v := iI 0) hx hb dX11_gives_23 rfl ?_
    exact g_zret (v := (iI 0)) hx hb hr hlocks rfl hP hD hS (Or.inr (⟨(ra_non hra (by omega)), rfl, rfl⟩)) dX11_gives_24
  · have c_1 := (iI_eq (a := m_token) (b := 2) (by omega) (by first | decide | omega)).mp c_1
    refine lv_aload_n hx hb dX11_gives_8 rfl (lv_at hl 0 rfl) ?_
    refine va_get (D := G.1) (ci := 10) (v := .int (iI m_value)) (C := RX11) (T := TX11) (N := 21) hx hb hts (fun _ h => List.mem_cons_of_mem _ (inlX11 _ h)) hown hK hP 0 rfl rfl 18 (by decide) (hts _ (List.mem_cons_of_mem _ (in_r19 (List.mem_of_getElem? (i := 15) rfl)))) (fun _ h9 => h9) rfl dX11_gives_9 ?_
    refine lv_i2l (v := lI m_value) hx hb dX11_gives_12 (i2l_iI (by omega)) ?_
    refine lv_iload_n hx hb dX11_gives_13 rfl (lv_at hl 2 rfl) ?_
    refine lv_i2l (v := lI lo0) hx hb dX11_gives_14 (i2l_iI (by omega)) ?_
    refine lv_iload_n hx hb dX11_gives_15 rfl (lv_at hl 3 rfl) ?_
    refine lv_i2l (v := lI hi0) hx hb dX11_gives_16 (i2l_iI (by omega)) ?_
    refine g_calli (wr := [(m0, .inr (10, [.ref m_all, .ref m_kept, .ref m_isKept, .ref m_refused, .long (lI m_above), .long (lI m_below), .ref m_hand, .ref m_fewest, .ref m_whoBites, .ref m_leaves, .ref m_bestFeast, .ref m_tells, .ref m_hardOn, .ref m_bytes, .int (iI m_bytesLong), .int (iI m_tokenAt), .int (iI m_tokenLong), .int (iI m_token), .int (iI m_value), .ref m_anew, .ref m_values])), (m_bytes, .inl (G.2 0, 150, .inl (cI my))), (m_values, .inl (G.2 0, 3, .inl (cI mv)))]) (va_runS (As := [.long (lI m_value), .long (lI lo0), .long (lI hi0)]) (rest := []) ⟨hx, hb, hml, hown, hts⟩ (c_X11_in l G (m_value) (lo0) (hi0) (by first | assumption | omega) (by first | assumption | omega) (by first | assumption | omega) _) (va_cwS 3 hts gX11_gives_X11_in rfl rfl rfl (by decide +kernel) ⟨Nat.le_of_ble_eq_true rfl, Nat.le_of_ble_eq_true rfl⟩) (g_preS [.long (lI m_value), .long (lI lo0), .long (lI hi0)] hP hD hK hN hS hA hZ [] rfl rfl) rfl rfl hl.1 rfl (lv_room (Nat.le_of_ble_eq_true rfl)) dX11_gives_17 ⟨Nat.le_of_ble_eq_true rfl, Nat.le_of_ble_eq_true rfl⟩) hP hD hS hA [] [0, 1, 2] rfl rfl rfl (by decide) (fun r_2 u H locs hw hP hD hS => ?_)
    rcases hw with hw | hw
    · refine ea_0_4 hw (fun k_3 k_4 e8_0 e8_1 => ?_)
      subst e8_0
      subst e8_1
      clear hw
      have hPD : PD G A H [(m0, .inr (10, [.ref m_all, .ref m_kept, .ref m_isKept, .ref m_refused, .long (lI m_above), .long (lI m_below), .ref m_hand, .ref m_fewest, .ref m_whoBites, .ref m_leaves, .ref m_bestFeast, .ref m_tells, .ref m_hardOn, .ref m_bytes, .int (iI m_bytesLong), .int (iI m_tokenAt), .int (iI m_tokenLong), .int (iI m_token), .int (iI m_value), .ref m_anew, .ref m_values])), (m_bytes, .inl (G.2 0, 150, .inl (cI my))), (m_values, .inl (G.2 0, 3, .inl (cI mv)))] := ⟨hP, hD⟩
      have hP := hPD.1
      have hD := hPD.2
      clear hPD
      refine lv_if_ne (tgt := 25) hx hb dX11_gives_20 (by decide) (fun _ => ?_) (fun c_6 => g_no c_6 (by decide))
      have hs2 := hra.2.1.2.2.mp (by omega)
      refine lv_aload_n hx hb dX11_gives_25 rfl (lv_at hl 0 rfl) ?_
      refine va_get (D := G.1) (ci := 10) (v := .ref m_values) (C := RX11) (T := TX11) (N := 21) hx hb hts (fun _ h => List.mem_cons_of_mem _ (inlX11 _ h)) hown hK hP 0 rfl rfl 20 (by decide) (hts _ (List.mem_cons_of_mem _ (in_r6 (List.mem_of_getElem? (i := 14) rfl)))) (fun _ h9 => h9) rfl dX11_gives_26 ?_
      refine lv_iload_n hx hb dX11_gives_29 rfl (lv_at hl 1 rfl) ?_
      refine lv_aload_n hx hb dX11_gives_30 rfl (lv_at hl 0 rfl) ?_
      refine va_get (D := G.1) (ci := 10) (v := .int (iI m_value)) (C := RX11) (T := TX11) (N := 21) hx hb hts (fun _ h => List.mem_cons_of_mem _ (inlX11 _ h)) hown hK hP 0 rfl rfl 18 (by decide) (hts _ (List.mem_cons_of_mem _ (in_r19 (List.mem_of_getElem? (i := 15) rfl)))) (fun _ h9 => h9) rfl dX11_gives_31 ?_
      refine g_ist hx hb hK hP hD hS 2 rfl (by omega) (by omega) (by first | exact Nat.le_of_ble_eq_true rfl | omega) dX11_gives_34 (fun H locs hP hD hS => ?_)
      have hPD : PD G A H [(m0, .inr (10, [.ref m_all, .ref m_kept, .ref m_isKept, .ref m_refused, .long (lI m_above), .long (lI m_below), .ref m_hand, .ref m_fewest, .ref m_whoBites, .ref m_leaves, .ref m_bestFeast, .ref m_tells, .ref m_hardOn, .ref m_bytes, .int (iI m_bytesLong), .int (iI m_tokenAt), .int (iI m_tokenLong), .int (iI m_token), .int (iI m_value), .ref m_anew, .ref m_values])), (m_bytes, .inl (G.2 0, 150, .inl (cI my))), (m_values, .inl (G.2 0, 3, .inl (cI (uI mv 0 m_value))))] := ⟨hP, hD⟩
      have hP := hPD.1
      have hD := hPD.2
      clear hPD
      refine lv_aload_n hx hb dX11_gives_35 rfl (lv_at hl 0 rfl) ?_
      refine g_callv (wr := [(m_values, .inl (G.2 0, 3, .inl (cI (uI mv 0 m_value))))]) (va_runV (As := []) (rest := []) ⟨hx, hb, hml, hown, hts⟩ (c_X11_goBehind l G (m0) (m_all) (m_kept) (m_isKept) (m_refused) (m_above) (m_below) (m_hand) (m_fewest) (m_whoBites) (m_leaves) (m_bestFeast) (m_tells) (m_hardOn) (m_bytes) (m_bytesLong) (m_tokenAt) (m_tokenLong) (m_token) (m_value) (m_anew) (m_values) (my) (uS) (uA) (uV) (uE) (n0) (j0) (by first | exact y0_ | exact bd_mono y0_ (by omega) (by omega) | assumption) (by first | exact hL | assumption | omega) (by first | exact i0_ | assumption | omega) (by first | exact i1_ | assumption | omega) (by first | exact i2_ | assumption | omega) (by first | exact i3_ | assumption | omega) (by first | exact hch | assumption | omega) (by first | exact hra | assumption | omega) (by first | exact hj | assumption | omega) (by first | assumption | omega) _) (cwV 0 hts gX11_gives_X11_goBehind rfl rfl rfl (by decide +kernel) ⟨Nat.le_of_ble_eq_true rfl, Nat.le_of_ble_eq_true rfl⟩) (g_preV m0 [] hP hD hK hN hS hA hZ [0, 1] rfl rfl 0 (ci := 10) rfl rfl) rfl rfl hl.1 rfl (lv_room (Nat.le_of_ble_eq_true rfl)) dX11_gives_36 ⟨Nat.le_of_ble_eq_true rfl, Nat.le_of_ble_eq_true rfl⟩) hP hD hS hA [0, 1] [2] rfl rfl rfl (by decide) (fun u H locs hw hP hD hS => ?_)
      refine ea_4_8 hw (fun NtA_8 NtL_9 Ntk_10 Nva_11 k_12 k_13 k_14 k_15 k_16 k_17 k_18 e8_0 => ?_)
      subst e8_0
      clear hw
      have hPD : PD G A H [(m_values, .inl (G.2 0, 3, .inl (cI (uI mv 0 m_value)))), (m0, .inr (10, [.ref m_all, .ref m_kept, .ref m_isKept, .ref m_refused, .long (lI m_above), .long (lI m_below), .ref m_hand, .ref m_fewest, .ref m_whoBites, .ref m_leaves, .ref m_bestFeast, .ref m_tells, .ref m_hardOn, .ref m_bytes, .int (iI m_bytesLong), .int (iI NtA_8), .int (iI NtL_9), .int (iI Ntk_10), .int (iI Nva_11), .ref m_anew, .ref m_values])), (m_bytes, .inl (G.2 0, 150, .inl (cI my)))] := ⟨hP, hD⟩
      have hP := hPD.1
      have hD := hPD.2
      clear hPD
      refine lv_iconst (v := iI 1) hx hb dX11_gives_39 rfl ?_
      have hP := hP.sub (ws' := [(m0, .inr (10, [.ref m_all, .ref m_kept, .ref m_isKept, .ref m_refused, .long (lI m_above), .long (lI m_below), .ref m_hand, .ref m_fewest, .ref m_whoBites, .ref m_leaves, .ref m_bestFeast, .ref m_tells, .ref m_hardOn, .ref m_bytes, .int (iI m_bytesLong), .int (iI NtA_8), .int (iI NtL_9), .int (iI Ntk_10), .int (iI Nva_11), .ref m_anew, .ref m_values])), (m_bytes, .inl (G.2 0, 150, .inl (cI my))), (m_values, .inl (G.2 0, 3, .inl (cI (uI mv 0 m_value))))]) [1, 2, 0] rfl
      have hD := hD.sub (ws' := [(m0, .inr (10, [.ref m_all, .ref m_kept, .ref m_isKept, .ref m_refused, .long (lI m_above), .long (lI m_below), .ref m_hand, .ref m_fewest, .ref m_whoBites, .ref m_leaves, .ref m_bestFeast, .ref m_tells, .ref m_hardOn, .ref m_bytes, .int (iI m_bytesLong), .int (iI NtA_8), .int (iI NtL_9), .int (iI Ntk_10), .int (iI Nva_11), .ref m_anew, .ref m_values])), (m_bytes, .inl (G.2 0, 150, .inl (cI my))), (m_values, .inl (G.2 0, 3, .inl (cI (uI mv 0 m_value))))]) [1, 2, 0] rfl rfl
      exact g_zret (v := (iI 1)) hx hb hr hlocks rfl hP hD hS (Or.inl ⟨NtA_8, NtL_9, Ntk_10, Nva_11, m_value, (hra.2.2.1 (by omega)), (by first | exact k_12 | assumption | omega), (by first | exact k_13 | assumption | omega), (by first | exact k_14 | assumption | omega), (by first | exact k_15 | assumption | omega), (by first | assumption | omega), (by first | exact k_17 | assumption | omega), (ra_num hra (by omega)), (by first | exact k_18 | assumption | omega), rfl, rfl⟩) dX11_gives_40
    · refine ea_0_3 hw (fun k_5 e8_0 e8_1 => ?_)
      subst e8_0
      subst e8_1
      clear hw
      have hPD : PD G A H [(m0, .inr (10, [.ref m_all, .ref m_kept, .ref m_isKept, .ref m_refused, .long (lI m_above), .long (lI m_below), .ref m_hand, .ref m_fewest, .ref m_whoBites, .ref m_leaves, .ref m_bestFeast, .ref m_tells, .ref m_hardOn, .ref m_bytes, .int (iI m_bytesLong), .int (iI m_tokenAt), .int (iI m_tokenLong), .int (iI m_token), .int (iI m_value), .ref m_anew, .ref m_values])), (m_bytes, .inl (G.2 0, 150, .inl (cI my))), (m_values, .inl (G.2 0, 3, .inl (cI mv)))] := ⟨hP, hD⟩
      have hP := hPD.1
      have hD := hPD.2
      clear hPD
      refine lv_if_ne (tgt := 25) hx hb dX11_gives_20 (by decide) (fun c_19 => g_no (by decide) c_19) (fun _ => ?_)
      refine lv_iconst (v := iI 0) hx hb dX11_gives_23 rfl ?_
      exact g_zret (v := (iI 0)) hx hb hr hlocks rfl hP hD hS (Or.inr (⟨(ra_non hra (by omega)), rfl, rfl⟩)) dX11_gives_24
set_option maxHeartbeats 8000000 in
set_option maxRecDepth 100000 in
theorem c_X11_gives1 (l : Launch) (G : gG) (m0 : Nat) (m_all : Nat) (m_kept : Nat) (m_isKept : Nat) (m_refused : Nat) (m_above : Int) (m_below : Int) (m_hand : Nat) (m_fewest : Nat) (m_whoBites : Nat) (m_leaves : Nat) (m_bestFeast : Nat) (m_tells : Nat) (m_hardOn : Nat) (m_bytes : Nat) (m_bytesLong : Int) (m_tokenAt : Int) (m_tokenLong : Int) (m_token : Int) (m_value : Int) (m_anew : Nat) (m_values : Nat) (my : Nat → Int) (mv : Nat → Int) (uS : Nat → Int) (uA : Nat → Int) (uV : Nat → Int) (uE : Nat → Int) (n0 : Int) (j0 : Int) (lo0 : Int) (hi0 : Int) (y0_ : bd 0 127 my) (hL : 0 ≤ m_bytesLong ∧ m_bytesLong ≤ 150) (i0_ : 0 ≤ m_tokenAt ∧ 0 ≤ m_tokenLong ∧ m_tokenAt + m_tokenLong ≤ m_bytesLong) (i1_ : 0 ≤ m_token ∧ m_token ≤ 4) (i2_ : m_token = 0 ∨ 1 ≤ m_tokenLong) (i3_ : -2000 ≤ m_value ∧ m_value ≤ 2000) (hch : chF my m_bytesLong uS uA uV n0 uE) (hra : ra my uS uA uV uE j0 m_tokenAt m_tokenLong m_token m_value) (hj : 0 ≤ j0 ∧ j0 < n0) (rlo0 : -2147483648 ≤ lo0 ∧ lo0 ≤ 2147483647) (rhi0 : -2147483648 ≤ hi0 ∧ hi0 ≤ 2147483647) (sz : Nat) : gI G l yX11_gives wsX11_gives ({ frames := 4, cells := 0, slots := 0, locals := 89 } : Room) [.ref m0, .int (iI 1), .int (iI lo0), .int (iI hi0)] [(m0, .inr (10, [.ref m_all, .ref m_kept, .ref m_isKept, .ref m_refused, .long (lI m_above), .long (lI m_below), .ref m_hand, .ref m_fewest, .ref m_whoBites, .ref m_leaves, .ref m_bestFeast, .ref m_tells, .ref m_hardOn, .ref m_bytes, .int (iI m_bytesLong), .int (iI m_tokenAt), .int (iI m_tokenLong), .int (iI m_token), .int (iI m_value), .ref m_anew, .ref m_values])), (m_bytes, .inl (G.2 0, 150, .inl (cI my))), (m_values, .inl (G.2 0, 3, .inl (cI mv)))] sz (fun (r : Int32) (u : va_W) => (∃ NtA : Int, ∃ NtL : Int, ∃ Ntk : Int, ∃ Nva : Int, ∃ nv : Int, (nv = uV (j0 : Int).toNat) ∧ (0 ≤ NtA ∧ 0 ≤ NtL ∧ NtA + NtL ≤ m_bytesLong) ∧ (0 ≤ Ntk ∧ Ntk ≤ 4) ∧ (Ntk = 0 ∨ 1 ≤ NtL) ∧ (-2000 ≤ Nva ∧ Nva ≤ 2000) ∧ (m_tokenAt ≤ NtA) ∧ (ra my uS uA uV uE (j0 + 1) NtA NtL Ntk Nva) ∧ (uS (j0 : Int).toNat = 2 ∧ lo0 ≤ uV (j0 : Int).toNat ∧ uV (j0 : Int).toNat ≤ hi0) ∧ (j0 + 1 < n0) ∧ r = (iI 1) ∧ u = [(m0, .inr (10, [.ref m_all, .ref m_kept, .ref m_isKept, .ref m_refused, .long (lI m_above), .long (lI m_below), .ref m_hand, .ref m_fewest, .ref m_whoBites, .ref m_leaves, .ref m_bestFeast, .ref m_tells, .ref m_hardOn, .ref m_bytes, .int (iI m_bytesLong), .int (iI NtA), .int (iI NtL), .int (iI Ntk), .int (iI Nva), .ref m_anew, .ref m_values])), (m_bytes, .inl (G.2 0, 150, .inl (cI my))), (m_values, .inl (G.2 0, 3, .inl (cI (uI mv 1 nv))))]) ∨ ((¬ (uS (j0 : Int).toNat = 2 ∧ lo0 ≤ uV (j0 : Int).toNat ∧ uV (j0 : Int).toNat ≤ hi0)) ∧ r = (iI 0) ∧ u = [(m0, .inr (10, [.ref m_all, .ref m_kept, .ref m_isKept, .ref m_refused, .long (lI m_above), .long (lI m_below), .ref m_hand, .ref m_fewest, .ref m_whoBites, .ref m_leaves, .ref m_bestFeast, .ref m_tells, .ref m_hardOn, .ref m_bytes, .int (iI m_bytesLong), .int (iI m_tokenAt), .int (iI m_tokenLong), .int (iI m_token), .int (iI m_value), .ref m_anew, .ref m_values])), (m_bytes, .inl (G.2 0, 150, .inl (cI my))), (m_values, .inl (G.2 0, 3, .inl (cI mv)))])) := by
  refine Met.ofW (cc := cX11_gives) (maxL := 4) (ret := (some .boolean)) (by decide) rfl ?_
  intro p e s m args below meth c s₁ B hml hv
  obtain ⟨rfl, hsz, hP, hK, hD0, hN, hZ⟩ := hv
  have hx := B.exec
  have hb := B.bytes
  have hr := B.returns
  have hts := atoms_spec (ws := wsX11_gives) B.pre
  have hown : s.vm.findClass RX11 = some m.cls := findClass_of_methodNamed B.named
  have hlocks := B.notSynchronized
  subst hsz
  have hD := hD0.self (sz := s.heap.size)
  generalize hAe : va_A [(m0, .inr (10, [.ref m_all, .ref m_kept, .ref m_isKept, .ref m_refused, .long (lI m_above), .long (lI m_below), .ref m_hand, .ref m_fewest, .ref m_whoBites, .ref m_leaves, .ref m_bestFeast, .ref m_tells, .ref m_hardOn, .ref m_bytes, .int (iI m_bytesLong), .int (iI m_tokenAt), .int (iI m_tokenLong), .int (iI m_token), .int (iI m_value), .ref m_anew, .ref m_values])), (m_bytes, .inl (G.2 0, 150, .inl (cI my))), (m_values, .inl (G.2 0, 3, .inl (cI mv)))] s.heap.size = A at hD hZ ⊢
  have hA : ∀ q : Nat, s.heap.size ≤ q → A q := fun q h => by rw [← hAe]; exact Or.inr h
  have hS : va_S A s.heap s.heap [] := va_S.rf
  have hP : va_P G.1 vwCl [(m0, .inr (10, [.ref m_all, .ref m_kept, .ref m_isKept, .ref m_refused, .long (lI m_above), .long (lI m_below), .ref m_hand, .ref m_fewest, .ref m_whoBites, .ref m_leaves, .ref m_bestFeast, .ref m_tells, .ref m_hardOn, .ref m_bytes, .int (iI m_bytesLong), .int (iI m_tokenAt), .int (iI m_tokenLong), .int (iI m_token), .int (iI m_value), .ref m_anew, .ref m_values])), (m_bytes, .inl (G.2 0, 150, .inl (cI my))), (m_values, .inl (G.2 0, 3, .inl (cI mv)))] s.heap := hP
  have hl := lv_entry ([.ref m0, .int (iI 1), .int (iI lo0), .int (iI hi0)]) (n := 4) (Nat.le_of_ble_eq_true rfl)
  rw [lg_entry_eq]
  generalize (lg_sl ([.ref m0, .int (iI 1), .int (iI lo0), .int (iI hi0)]) ++ List.replicate (4 - (lg_sl ([.ref m0, .int (iI 1), .int (iI lo0), .int (iI hi0)])).length) Slot.unset).toArray = ls at hl ⊢
  have hl : lv_has ls 4 [(0, .ref m0), (1, .int (iI 1)), (2, .int (iI lo0)), (3, .int (iI hi0))] := hl
  refine lv_aload_n hx hb dX11_gives_0 rfl (lv_at hl 0 rfl) ?_
  refine va_get (D := G.1) (ci := 10) (v := .int (iI m_token)) (C := RX11) (T := TX11) (N := 21) hx hb hts (fun _ h => List.mem_cons_of_mem _ (inlX11 _ h)) hown hK hP 0 rfl rfl 17 (by decide) (hts _ (List.mem_cons_of_mem _ (in_r19 (List.mem_of_getElem? (i := 9) rfl)))) (fun _ h9 => h9) rfl dX11_gives_1 ?_
  refine lv_iconst (v := iI 2) hx hb dX11_gives_4 rfl ?_
  refine lv_icmp_ne (tgt := 23) hx hb dX11_gives_5 (by decide) (fun c_1 => ?_) (fun c_1 => ?_)
  · have c_1 : ¬ (m_token = 2) := fun h9 => c_1 ((iI_eq (a := m_token) (b := 2) (by omega) (by first | decide | omega)).mpr h9)
    refine lv_iconst (v := iI 0) hx hb dX11_gives_23 rfl ?_
    exact g_zret (v := (iI 0)) hx hb hr hlocks rfl hP hD hS (Or.inr (⟨(ra_non hra (by omega)), rfl, rfl⟩)) dX11_gives_24
  · have c_1 := (iI_eq (a := m_token) (b := 2) (by omega) (by first | decide | omega)).mp c_1
    refine lv_aload_n hx hb dX11_gives_8 rfl (lv_at hl 0 rfl) ?_
    refine va_get (D := G.1) (ci := 10) (v := .int (iI m_value)) (C := RX11) (T := TX11) (N := 21) hx hb hts (fun _ h => List.mem_cons_of_mem _ (inlX11 _ h)) hown hK hP 0 rfl rfl 18 (by decide) (hts _ (List.mem_cons_of_mem _ (in_r19 (List.mem_of_getElem? (i := 15) rfl)))) (fun _ h9 => h9) rfl dX11_gives_9 ?_
    refine lv_i2l (v := lI m_value) hx hb dX11_gives_12 (i2l_iI (by omega)) ?_
    refine lv_iload_n hx hb dX11_gives_13 rfl (lv_at hl 2 rfl) ?_
    refine lv_i2l (v := lI lo0) hx hb dX11_gives_14 (i2l_iI (by omega)) ?_
    refine lv_iload_n hx hb dX11_gives_15 rfl (lv_at hl 3 rfl) ?_
    refine lv_i2l (v := lI hi0) hx hb dX11_gives_16 (i2l_iI (by omega)) ?_
    refine g_calli (wr := [(m0, .inr (10, [.ref m_all, .ref m_kept, .ref m_isKept, .ref m_refused, .long (lI m_above), .long (lI m_below), .ref m_hand, .ref m_fewest, .ref m_whoBites, .ref m_leaves, .ref m_bestFeast, .ref m_tells, .ref m_hardOn, .ref m_bytes, .int (iI m_bytesLong), .int (iI m_tokenAt), .int (iI m_tokenLong), .int (iI m_token), .int (iI m_value), .ref m_anew, .ref m_values])), (m_bytes, .inl (G.2 0, 150, .inl (cI my))), (m_values, .inl (G.2 0, 3, .inl (cI mv)))]) (va_runS (As := [.long (lI m_value), .long (lI lo0), .long (lI hi0)]) (rest := []) ⟨hx, hb, hml, hown, hts⟩ (c_X11_in l G (m_value) (lo0) (hi0) (by first | assumption | omega) (by first | assumption | omega) (by first | assumption | omega) _) (va_cwS 3 hts gX11_gives_X11_in rfl rfl rfl (by decide +kernel) ⟨Nat.le_of_ble_eq_true rfl, Nat.le_of_ble_eq_true rfl⟩) (g_preS [.long (lI m_value), .long (lI lo0), .long (lI hi0)] hP hD hK hN hS hA hZ [] rfl rfl) rfl rfl hl.1 rfl (lv_room (Nat.le_of_ble_eq_true rfl)) dX11_gives_17 ⟨Nat.le_of_ble_eq_true rfl, Nat.le_of_ble_eq_true rfl⟩) hP hD hS hA [] [0, 1, 2] rfl rfl rfl (by decide) (fun r_2 u H locs hw hP hD hS => ?_)
    rcases hw with hw | hw
    · refine ea_0_4 hw (fun k_3 k_4 e8_0 e8_1 => ?_)
      subst e8_0
      subst e8_1
      clear hw
      have hPD : PD G A H [(m0, .inr (10, [.ref m_all, .ref m_kept, .ref m_isKept, .ref m_refused, .long (lI m_above), .long (lI m_below), .ref m_hand, .ref m_fewest, .ref m_whoBites, .ref m_leaves, .ref m_bestFeast, .ref m_tells, .ref m_hardOn, .ref m_bytes, .int (iI m_bytesLong), .int (iI m_tokenAt), .int (iI m_tokenLong), .int (iI m_token), .int (iI m_value), .ref m_anew, .ref m_values])), (m_bytes, .inl (G.2 0, 150, .inl (cI my))), (m_values, .inl (G.2 0, 3, .inl (cI mv)))] := ⟨hP, hD⟩
      have hP := hPD.1
      have hD := hPD.2
      clear hPD
      refine lv_if_ne (tgt := 25) hx hb dX11_gives_20 (by decide) (fun _ => ?_) (fun c_6 => g_no c_6 (by decide))
      have hs2 := hra.2.1.2.2.mp (by omega)
      refine lv_aload_n hx hb dX11_gives_25 rfl (lv_at hl 0 rfl) ?_
      refine va_get (D := G.1) (ci := 10) (v := .ref m_values) (C := RX11) (T := TX11) (N := 21) hx hb hts (fun _ h => List.mem_cons_of_mem _ (inlX11 _ h)) hown hK hP 0 rfl rfl 20 (by decide) (hts _ (List.mem_cons_of_mem _ (in_r6 (List.mem_of_getElem? (i := 14) rfl)))) (fun _ h9 => h9) rfl dX11_gives_26 ?_
      refine lv_iload_n hx hb dX11_gives_29 rfl (lv_at hl 1 rfl) ?_
      refine lv_aload_n hx hb dX11_gives_30 rfl (lv_at hl 0 rfl) ?_
      refine va_get (D := G.1) (ci := 10) (v := .int (iI m_value)) (C := RX11) (T := TX11) (N := 21) hx hb hts (fun _ h => List.mem_cons_of_mem _ (inlX11 _ h)) hown hK hP 0 rfl rfl 18 (by decide) (hts _ (List.mem_cons_of_mem _ (in_r19 (List.mem_of_getElem? (i := 15) rfl)))) (fun _ h9 => h9) rfl dX11_gives_31 ?_
      refine g_ist hx hb hK hP hD hS 2 rfl (by omega) (by omega) (by first | exact Nat.le_of_ble_eq_true rfl | omega) dX11_gives_34 (fun H locs hP hD hS => ?_)
      have hPD : PD G A H [(m0, .inr (10, [.ref m_all, .ref m_kept, .ref m_isKept, .ref m_refused, .long (lI m_above), .long (lI m_below), .ref m_hand, .ref m_fewest, .ref m_whoBites, .ref m_leaves, .ref m_bestFeast, .ref m_tells, .ref m_hardOn, .ref m_bytes, .int (iI m_bytesLong), .int (iI m_tokenAt), .int (iI m_tokenLong), .int (iI m_token), .int (iI m_value), .ref m_anew, .ref m_values])), (m_bytes, .inl (G.2 0, 150, .inl (cI my))), (m_values, .inl (G.2 0, 3, .inl (cI (uI mv 1 m_value))))] := ⟨hP, hD⟩
      have hP := hPD.1
      have hD := hPD.2
      clear hPD
      refine lv_aload_n hx hb dX11_gives_35 rfl (lv_at hl 0 rfl) ?_
      refine g_callv (wr := [(m_values, .inl (G.2 0, 3, .inl (cI (uI mv 1 m_value))))]) (va_runV (As := []) (rest := []) ⟨hx, hb, hml, hown, hts⟩ (c_X11_goBehind l G (m0) (m_all) (m_kept) (m_isKept) (m_refused) (m_above) (m_below) (m_hand) (m_fewest) (m_whoBites) (m_leaves) (m_bestFeast) (m_tells) (m_hardOn) (m_bytes) (m_bytesLong) (m_tokenAt) (m_tokenLong) (m_token) (m_value) (m_anew) (m_values) (my) (uS) (uA) (uV) (uE) (n0) (j0) (by first | exact y0_ | exact bd_mono y0_ (by omega) (by omega) | assumption) (by first | exact hL | assumption | omega) (by first | exact i0_ | assumption | omega) (by first | exact i1_ | assumption | omega) (by first | exact i2_ | assumption | omega) (by first | exact i3_ | assumption | omega) (by first | exact hch | assumption | omega) (by first | exact hra | assumption | omega) (by first | exact hj | assumption | omega) (by first | assumption | omega) _) (cwV 0 hts gX11_gives_X11_goBehind rfl rfl rfl (by decide +kernel) ⟨Nat.le_of_ble_eq_true rfl, Nat.le_of_ble_eq_true rfl⟩) (g_preV m0 [] hP hD hK hN hS hA hZ [0, 1] rfl rfl 0 (ci := 10) rfl rfl) rfl rfl hl.1 rfl (lv_room (Nat.le_of_ble_eq_true rfl)) dX11_gives_36 ⟨Nat.le_of_ble_eq_true rfl, Nat.le_of_ble_eq_true rfl⟩) hP hD hS hA [0, 1] [2] rfl rfl rfl (by decide) (fun u H locs hw hP hD hS => ?_)
      refine ea_4_8 hw (fun NtA_8 NtL_9 Ntk_10 Nva_11 k_12 k_13 k_14 k_15 k_16 k_17 k_18 e8_0 => ?_)
      subst e8_0
      clear hw
      have hPD : PD G A H [(m_values, .inl (G.2 0, 3, .inl (cI (uI mv 1 m_value)))), (m0, .inr (10, [.ref m_all, .ref m_kept, .ref m_isKept, .ref m_refused, .long (lI m_above), .long (lI m_below), .ref m_hand, .ref m_fewest, .ref m_whoBites, .ref m_leaves, .ref m_bestFeast, .ref m_tells, .ref m_hardOn, .ref m_bytes, .int (iI m_bytesLong), .int (iI NtA_8), .int (iI NtL_9), .int (iI Ntk_10), .int (iI Nva_11), .ref m_anew, .ref m_values])), (m_bytes, .inl (G.2 0, 150, .inl (cI my)))] := ⟨hP, hD⟩
      have hP := hPD.1
      have hD := hPD.2
      clear hPD
      refine lv_iconst (v := iI 1) hx hb dX11_gives_39 rfl ?_
      have hP := hP.sub (ws' := [(m0, .inr (10, [.ref m_all, .ref m_kept, .ref m_isKept, .ref m_refused, .long (lI m_above), .long (lI m_below), .ref m_hand, .ref m_fewest, .ref m_whoBites, .ref m_leaves, .ref m_bestFeast, .ref m_tells, .ref m_hardOn, .ref m_bytes, .int (iI m_bytesLong), .int (iI NtA_8), .int (iI NtL_9), .int (iI Ntk_10), .int (iI Nva_11), .ref m_anew, .ref m_values])), (m_bytes, .inl (G.2 0, 150, .inl (cI my))), (m_values, .inl (G.2 0, 3, .inl (cI (uI mv 1 m_value))))]) [1, 2, 0] rfl
      have hD := hD.sub (ws' := [(m0, .inr (10, [.ref m_all, .ref m_kept, .ref m_isKept, .ref m_refused, .long (lI m_above), .long (lI m_below), .ref m_hand, .ref m_fewest, .ref m_whoBites, .ref m_leaves, .ref m_bestFeast, .ref m_tells, .ref m_hardOn, .ref m_bytes, .int (iI m_bytesLong), .int (iI NtA_8), .int (iI NtL_9), .int (iI Ntk_10), .int (iI Nva_11), .ref m_anew, .ref m_values])), (m_bytes, .inl (G.2 0, 150, .inl (cI my))), (m_values, .inl (G.2 0, 3, .inl (cI (uI mv 1 m_value))))]) [1, 2, 0] rfl rfl
      exact g_zret (v := (iI 1)) hx hb hr hlocks rfl hP hD hS (Or.inl ⟨NtA_8, NtL_9, Ntk_10, Nva_11, m_value, (hra.2.2.1 (by omega)), (by first | exact k_12 | assumption | omega), (by first | exact k_13 | assumption | omega), (by first | exact k_14 | assumption | omega), (by first | exact k_15 | assumption | omega), (by first | assumption | omega), (by first | exact k_17 | assumption | omega), (ra_num hra (by omega)), (by first | exact k_18 | assumption | omega), rfl, rfl⟩) dX11_gives_40
    · refine ea_0_3 hw (fun k_5 e8_0 e8_1 => ?_)
      subst e8_0
      subst e8_1
      clear hw
      have hPD : PD G A H [(m0, .inr (10, [.ref m_all, .ref m_kept, .ref m_isKept, .ref m_refused, .long (lI m_above), .long (lI m_below), .ref m_hand, .ref m_fewest, .ref m_whoBites, .ref m_leaves, .ref m_bestFeast, .ref m_tells, .ref m_hardOn, .ref m_bytes, .int (iI m_bytesLong), .int (iI m_tokenAt), .int (iI m_tokenLong), .int (iI m_token), .int (iI m_value), .ref m_anew, .ref m_values])), (m_bytes, .inl (G.2 0, 150, .inl (cI my))), (m_values, .inl (G.2 0, 3, .inl (cI mv)))] := ⟨hP, hD⟩
      have hP := hPD.1
      have hD := hPD.2
      clear hPD
      refine lv_if_ne (tgt := 25) hx hb dX11_gives_20 (by decide) (fun c_19 => g_no (by decide) c_19) (fun _ => ?_)
      refine lv_iconst (v := iI 0) hx hb dX11_gives_23 rfl ?_
      exact g_zret (v := (iI 0)) hx hb hr hlocks rfl hP hD hS (Or.inr (⟨(ra_non hra (by omega)), rfl, rfl⟩)) dX11_gives_24
set_option maxHeartbeats 8000000 in
set_option maxRecDepth 100000 in
theorem c_X11_gives2 (l : Launch) (G : gG) (m0 : Nat) (m_all : Nat) (m_kept : Nat) (m_isKept : Nat) (m_refused : Nat) (m_above : Int) (m_below : Int) (m_hand : Nat) (m_fewest : Nat) (m_whoBites : Nat) (m_leaves : Nat) (m_bestFeast : Nat) (m_tells : Nat) (m_hardOn : Nat) (m_bytes : Nat) (m_bytesLong : Int) (m_tokenAt : Int) (m_tokenLong : Int) (m_token : Int) (m_value : Int) (m_anew : Nat) (m_values : Nat) (my : Nat → Int) (mv : Nat → Int) (uS : Nat → Int) (uA : Nat → Int) (uV : Nat → Int) (uE : Nat → Int) (n0 : Int) (j0 : Int) (lo0 : Int) (hi0 : Int) (y0_ : bd 0 127 my) (hL : 0 ≤ m_bytesLong ∧ m_bytesLong ≤ 150) (i0_ : 0 ≤ m_tokenAt ∧ 0 ≤ m_tokenLong ∧ m_tokenAt + m_tokenLong ≤ m_bytesLong) (i1_ : 0 ≤ m_token ∧ m_token ≤ 4) (i2_ : m_token = 0 ∨ 1 ≤ m_tokenLong) (i3_ : -2000 ≤ m_value ∧ m_value ≤ 2000) (hch : chF my m_bytesLong uS uA uV n0 uE) (hra : ra my uS uA uV uE j0 m_tokenAt m_tokenLong m_token m_value) (hj : 0 ≤ j0 ∧ j0 < n0) (rlo0 : -2147483648 ≤ lo0 ∧ lo0 ≤ 2147483647) (rhi0 : -2147483648 ≤ hi0 ∧ hi0 ≤ 2147483647) (sz : Nat) : gI G l yX11_gives wsX11_gives ({ frames := 4, cells := 0, slots := 0, locals := 89 } : Room) [.ref m0, .int (iI 2), .int (iI lo0), .int (iI hi0)] [(m0, .inr (10, [.ref m_all, .ref m_kept, .ref m_isKept, .ref m_refused, .long (lI m_above), .long (lI m_below), .ref m_hand, .ref m_fewest, .ref m_whoBites, .ref m_leaves, .ref m_bestFeast, .ref m_tells, .ref m_hardOn, .ref m_bytes, .int (iI m_bytesLong), .int (iI m_tokenAt), .int (iI m_tokenLong), .int (iI m_token), .int (iI m_value), .ref m_anew, .ref m_values])), (m_bytes, .inl (G.2 0, 150, .inl (cI my))), (m_values, .inl (G.2 0, 3, .inl (cI mv)))] sz (fun (r : Int32) (u : va_W) => (∃ NtA : Int, ∃ NtL : Int, ∃ Ntk : Int, ∃ Nva : Int, ∃ nv : Int, (nv = uV (j0 : Int).toNat) ∧ (0 ≤ NtA ∧ 0 ≤ NtL ∧ NtA + NtL ≤ m_bytesLong) ∧ (0 ≤ Ntk ∧ Ntk ≤ 4) ∧ (Ntk = 0 ∨ 1 ≤ NtL) ∧ (-2000 ≤ Nva ∧ Nva ≤ 2000) ∧ (m_tokenAt ≤ NtA) ∧ (ra my uS uA uV uE (j0 + 1) NtA NtL Ntk Nva) ∧ (uS (j0 : Int).toNat = 2 ∧ lo0 ≤ uV (j0 : Int).toNat ∧ uV (j0 : Int).toNat ≤ hi0) ∧ (j0 + 1 < n0) ∧ r = (iI 1) ∧ u = [(m0, .inr (10, [.ref m_all, .ref m_kept, .ref m_isKept, .ref m_refused, .long (lI m_above), .long (lI m_below), .ref m_hand, .ref m_fewest, .ref m_whoBites, .ref m_leaves, .ref m_bestFeast, .ref m_tells, .ref m_hardOn, .ref m_bytes, .int (iI m_bytesLong), .int (iI NtA), .int (iI NtL), .int (iI Ntk), .int (iI Nva), .ref m_anew, .ref m_values])), (m_bytes, .inl (G.2 0, 150, .inl (cI my))), (m_values, .inl (G.2 0, 3, .inl (cI (uI mv 2 nv))))]) ∨ ((¬ (uS (j0 : Int).toNat = 2 ∧ lo0 ≤ uV (j0 : Int).toNat ∧ uV (j0 : Int).toNat ≤ hi0)) ∧ r = (iI 0) ∧ u = [(m0, .inr (10, [.ref m_all, .ref m_kept, .ref m_isKept, .ref m_refused, .long (lI m_above), .long (lI m_below), .ref m_hand, .ref m_fewest, .ref m_whoBites, .ref m_leaves, .ref m_bestFeast, .ref m_tells, .ref m_hardOn, .ref m_bytes, .int (iI m_bytesLong), .int (iI m_tokenAt), .int (iI m_tokenLong), .int (iI m_token), .int (iI m_value), .ref m_anew, .ref m_values])), (m_bytes, .inl (G.2 0, 150, .inl (cI my))), (m_values, .inl (G.2 0, 3, .inl (cI mv)))])) := by
  refine Met.ofW (cc := cX11_gives) (maxL := 4) (ret := (some .boolean)) (by decide) rfl ?_
  intro p e s m args below meth c s₁ B hml hv
  obtain ⟨rfl, hsz, hP, hK, hD0, hN, hZ⟩ := hv
  have hx := B.exec
  have hb := B.bytes
  have hr := B.returns
  have hts := atoms_spec (ws := wsX11_gives) B.pre
  have hown : s.vm.findClass RX11 = some m.cls := findClass_of_methodNamed B.named
  have hlocks := B.notSynchronized
  subst hsz
  have hD := hD0.self (sz := s.heap.size)
  generalize hAe : va_A [(m0, .inr (10, [.ref m_all, .ref m_kept, .ref m_isKept, .ref m_refused, .long (lI m_above), .long (lI m_below), .ref m_hand, .ref m_fewest, .ref m_whoBites, .ref m_leaves, .ref m_bestFeast, .ref m_tells, .ref m_hardOn, .ref m_bytes, .int (iI m_bytesLong), .int (iI m_tokenAt), .int (iI m_tokenLong), .int (iI m_token), .int (iI m_value), .ref m_anew, .ref m_values])), (m_bytes, .inl (G.2 0, 150, .inl (cI my))), (m_values, .inl (G.2 0, 3, .inl (cI mv)))] s.heap.size = A at hD hZ ⊢
  have hA : ∀ q : Nat, s.heap.size ≤ q → A q := fun q h => by rw [← hAe]; exact Or.inr h
  have hS : va_S A s.heap s.heap [] := va_S.rf
  have hP : va_P G.1 vwCl [(m0, .inr (10, [.ref m_all, .ref m_kept, .ref m_isKept, .ref m_refused, .long (lI m_above), .long (lI m_below), .ref m_hand, .ref m_fewest, .ref m_whoBites, .ref m_leaves, .ref m_bestFeast, .ref m_tells, .ref m_hardOn, .ref m_bytes, .int (iI m_bytesLong), .int (iI m_tokenAt), .int (iI m_tokenLong), .int (iI m_token), .int (iI m_value), .ref m_anew, .ref m_values])), (m_bytes, .inl (G.2 0, 150, .inl (cI my))), (m_values, .inl (G.2 0, 3, .inl (cI mv)))] s.heap := hP
  have hl := lv_entry ([.ref m0, .int (iI 2), .int (iI lo0), .int (iI hi0)]) (n := 4) (Nat.le_of_ble_eq_true rfl)
  rw [lg_entry_eq]
  generalize (lg_sl ([.ref m0, .int (iI 2), .int (iI lo0), .int (iI hi0)]) ++ List.replicate (4 - (lg_sl ([.ref m0, .int (iI 2), .int (iI lo0), .int (iI hi0)])).length) Slot.unset).toArray = ls at hl ⊢
  have hl : lv_has ls 4 [(0, .ref m0), (1, .int (iI 2)), (2, .int (iI lo0)), (3, .int (iI hi0))] := hl
  refine lv_aload_n hx hb dX11_gives_0 rfl (lv_at hl 0 rfl) ?_
  refine va_get (D := G.1) (ci := 10) (v := .int (iI m_token)) (C := RX11) (T := TX11) (N := 21) hx hb hts (fun _ h => List.mem_cons_of_mem _ (inlX11 _ h)) hown hK hP 0 rfl rfl 17 (by decide) (hts _ (List.mem_cons_of_mem _ (in_r19 (List.mem_of_getElem? (i := 9) rfl)))) (fun _ h9 => h9) rfl dX11_gives_1 ?_
  refine lv_iconst (v := iI 2) hx hb dX11_gives_4 rfl ?_
  refine lv_icmp_ne (tgt := 23) hx hb dX11_gives_5 (by decide) (fun c_1 => ?_) (fun c_1 => ?_)
  · have c_1 : ¬ (m_token = 2) := fun h9 => c_1 ((iI_eq (a := m_token) (b := 2) (by omega) (by first | decide | omega)).mpr h9)
    refine lv_iconst (v := iI 0) hx hb dX11_gives_23 rfl ?_
    exact g_zret (v := (iI 0)) hx hb hr hlocks rfl hP hD hS (Or.inr (⟨(ra_non hra (by omega)), rfl, rfl⟩)) dX11_gives_24
  · have c_1 := (iI_eq (a := m_token) (b := 2) (by omega) (by first | decide | omega)).mp c_1
    refine lv_aload_n hx hb dX11_gives_8 rfl (lv_at hl 0 rfl) ?_
    refine va_get (D := G.1) (ci := 10) (v := .int (iI m_value)) (C := RX11) (T := TX11) (N := 21) hx hb hts (fun _ h => List.mem_cons_of_mem _ (inlX11 _ h)) hown hK hP 0 rfl rfl 18 (by decide) (hts _ (List.mem_cons_of_mem _ (in_r19 (List.mem_of_getElem? (i := 15) rfl)))) (fun _ h9 => h9) rfl dX11_gives_9 ?_
    refine lv_i2l (v := lI m_value) hx hb dX11_gives_12 (i2l_iI (by omega)) ?_
    refine lv_iload_n hx hb dX11_gives_13 rfl (lv_at hl 2 rfl) ?_
    refine lv_i2l (v := lI lo0) hx hb dX11_gives_14 (i2l_iI (by omega)) ?_
    refine lv_iload_n hx hb dX11_gives_15 rfl (lv_at hl 3 rfl) ?_
    refine lv_i2l (v := lI hi0) hx hb dX11_gives_16 (i2l_iI (by omega)) ?_
    refine g_calli (wr := [(m0, .inr (10, [.ref m_all, .ref m_kept, .ref m_isKept, .ref m_refused, .long (lI m_above), .long (lI m_below), .ref m_hand, .ref m_fewest, .ref m_whoBites, .ref m_leaves, .ref m_bestFeast, .ref m_tells, .ref m_hardOn, .ref m_bytes, .int (iI m_bytesLong), .int (iI m_tokenAt), .int (iI m_tokenLong), .int (iI m_token), .int (iI m_value), .ref m_anew, .ref m_values])), (m_bytes, .inl (G.2 0, 150, .inl (cI my))), (m_values, .inl (G.2 0, 3, .inl (cI mv)))]) (va_runS (As := [.long (lI m_value), .long (lI lo0), .long (lI hi0)]) (rest := []) ⟨hx, hb, hml, hown, hts⟩ (c_X11_in l G (m_value) (lo0) (hi0) (by first | assumption | omega) (by first | assumption | omega) (by first | assumption | omega) _) (va_cwS 3 hts gX11_gives_X11_in rfl rfl rfl (by decide +kernel) ⟨Nat.le_of_ble_eq_true rfl, Nat.le_of_ble_eq_true rfl⟩) (g_preS [.long (lI m_value), .long (lI lo0), .long (lI hi0)] hP hD hK hN hS hA hZ [] rfl rfl) rfl rfl hl.1 rfl (lv_room (Nat.le_of_ble_eq_true rfl)) dX11_gives_17 ⟨Nat.le_of_ble_eq_true rfl, Nat.le_of_ble_eq_true rfl⟩) hP hD hS hA [] [0, 1, 2] rfl rfl rfl (by decide) (fun r_2 u H locs hw hP hD hS => ?_)
    rcases hw with hw | hw
    · refine ea_0_4 hw (fun k_3 k_4 e8_0 e8_1 => ?_)
      subst e8_0
      subst e8_1
      clear hw
      have hPD : PD G A H [(m0, .inr (10, [.ref m_all, .ref m_kept, .ref m_isKept, .ref m_refused, .long (lI m_above), .long (lI m_below), .ref m_hand, .ref m_fewest, .ref m_whoBites, .ref m_leaves, .ref m_bestFeast, .ref m_tells, .ref m_hardOn, .ref m_bytes, .int (iI m_bytesLong), .int (iI m_tokenAt), .int (iI m_tokenLong), .int (iI m_token), .int (iI m_value), .ref m_anew, .ref m_values])), (m_bytes, .inl (G.2 0, 150, .inl (cI my))), (m_values, .inl (G.2 0, 3, .inl (cI mv)))] := ⟨hP, hD⟩
      have hP := hPD.1
      have hD := hPD.2
      clear hPD
      refine lv_if_ne (tgt := 25) hx hb dX11_gives_20 (by decide) (fun _ => ?_) (fun c_6 => g_no c_6 (by decide))
      have hs2 := hra.2.1.2.2.mp (by omega)
      refine lv_aload_n hx hb dX11_gives_25 rfl (lv_at hl 0 rfl) ?_
      refine va_get (D := G.1) (ci := 10) (v := .ref m_values) (C := RX11) (T := TX11) (N := 21) hx hb hts (fun _ h => List.mem_cons_of_mem _ (inlX11 _ h)) hown hK hP 0 rfl rfl 20 (by decide) (hts _ (List.mem_cons_of_mem _ (in_r6 (List.mem_of_getElem? (i := 14) rfl)))) (fun _ h9 => h9) rfl dX11_gives_26 ?_
      refine lv_iload_n hx hb dX11_gives_29 rfl (lv_at hl 1 rfl) ?_
      refine lv_aload_n hx hb dX11_gives_30 rfl (lv_at hl 0 rfl) ?_
      refine va_get (D := G.1) (ci := 10) (v := .int (iI m_value)) (C := RX11) (T := TX11) (N := 21) hx hb hts (fun _ h => List.mem_cons_of_mem _ (inlX11 _ h)) hown hK hP 0 rfl rfl 18 (by decide) (hts _ (List.mem_cons_of_mem _ (in_r19 (List.mem_of_getElem? (i := 15) rfl)))) (fun _ h9 => h9) rfl dX11_gives_31 ?_
      refine g_ist hx hb hK hP hD hS 2 rfl (by omega) (by omega) (by first | exact Nat.le_of_ble_eq_true rfl | omega) dX11_gives_34 (fun H locs hP hD hS => ?_)
      have hPD : PD G A H [(m0, .inr (10, [.ref m_all, .ref m_kept, .ref m_isKept, .ref m_refused, .long (lI m_above), .long (lI m_below), .ref m_hand, .ref m_fewest, .ref m_whoBites, .ref m_leaves, .ref m_bestFeast, .ref m_tells, .ref m_hardOn, .ref m_bytes, .int (iI m_bytesLong), .int (iI m_tokenAt), .int (iI m_tokenLong), .int (iI m_token), .int (iI m_value), .ref m_anew, .ref m_values])), (m_bytes, .inl (G.2 0, 150, .inl (cI my))), (m_values, .inl (G.2 0, 3, .inl (cI (uI mv 2 m_value))))] := ⟨hP, hD⟩
      have hP := hPD.1
      have hD := hPD.2
      clear hPD
      refine lv_aload_n hx hb dX11_gives_35 rfl (lv_at hl 0 rfl) ?_
      refine g_callv (wr := [(m_values, .inl (G.2 0, 3, .inl (cI (uI mv 2 m_value))))]) (va_runV (As := []) (rest := []) ⟨hx, hb, hml, hown, hts⟩ (c_X11_goBehind l G (m0) (m_all) (m_kept) (m_isKept) (m_refused) (m_above) (m_below) (m_hand) (m_fewest) (m_whoBites) (m_leaves) (m_bestFeast) (m_tells) (m_hardOn) (m_bytes) (m_bytesLong) (m_tokenAt) (m_tokenLong) (m_token) (m_value) (m_anew) (m_values) (my) (uS) (uA) (uV) (uE) (n0) (j0) (by first | exact y0_ | exact bd_mono y0_ (by omega) (by omega) | assumption) (by first | exact hL | assumption | omega) (by first | exact i0_ | assumption | omega) (by first | exact i1_ | assumption | omega) (by first | exact i2_ | assumption | omega) (by first | exact i3_ | assumption | omega) (by first | exact hch | assumption | omega) (by first | exact hra | assumption | omega) (by first | exact hj | assumption | omega) (by first | assumption | omega) _) (cwV 0 hts gX11_gives_X11_goBehind rfl rfl rfl (by decide +kernel) ⟨Nat.le_of_ble_eq_true rfl, Nat.le_of_ble_eq_true rfl⟩) (g_preV m0 [] hP hD hK hN hS hA hZ [0, 1] rfl rfl 0 (ci := 10) rfl rfl) rfl rfl hl.1 rfl (lv_room (Nat.le_of_ble_eq_true rfl)) dX11_gives_36 ⟨Nat.le_of_ble_eq_true rfl, Nat.le_of_ble_eq_true rfl⟩) hP hD hS hA [0, 1] [2] rfl rfl rfl (by decide) (fun u H locs hw hP hD hS => ?_)
      refine ea_4_8 hw (fun NtA_8 NtL_9 Ntk_10 Nva_11 k_12 k_13 k_14 k_15 k_16 k_17 k_18 e8_0 => ?_)
      subst e8_0
      clear hw
      have hPD : PD G A H [(m_values, .inl (G.2 0, 3, .inl (cI (uI mv 2 m_value)))), (m0, .inr (10, [.ref m_all, .ref m_kept, .ref m_isKept, .ref m_refused, .long (lI m_above), .long (lI m_below), .ref m_hand, .ref m_fewest, .ref m_whoBites, .ref m_leaves, .ref m_bestFeast, .ref m_tells, .ref m_hardOn, .ref m_bytes, .int (iI m_bytesLong), .int (iI NtA_8), .int (iI NtL_9), .int (iI Ntk_10), .int (iI Nva_11), .ref m_anew, .ref m_values])), (m_bytes, .inl (G.2 0, 150, .inl (cI my)))] := ⟨hP, hD⟩
      have hP := hPD.1
      have hD := hPD.2
      clear hPD
      refine lv_iconst (v := iI 1) hx hb dX11_gives_39 rfl ?_
      have hP := hP.sub (ws' := [(m0, .inr (10, [.ref m_all, .ref m_kept, .ref m_isKept, .ref m_refused, .long (lI m_above), .long (lI m_below), .ref m_hand, .ref m_fewest, .ref m_whoBites, .ref m_leaves, .ref m_bestFeast, .ref m_tells, .ref m_hardOn, .ref m_bytes, .int (iI m_bytesLong), .int (iI NtA_8), .int (iI NtL_9), .int (iI Ntk_10), .int (iI Nva_11), .ref m_anew, .ref m_values])), (m_bytes, .inl (G.2 0, 150, .inl (cI my))), (m_values, .inl (G.2 0, 3, .inl (cI (uI mv 2 m_value))))]) [1, 2, 0] rfl
      have hD := hD.sub (ws' := [(m0, .inr (10, [.ref m_all, .ref m_kept, .ref m_isKept, .ref m_refused, .long (lI m_above), .long (lI m_below), .ref m_hand, .ref m_fewest, .ref m_whoBites, .ref m_leaves, .ref m_bestFeast, .ref m_tells, .ref m_hardOn, .ref m_bytes, .int (iI m_bytesLong), .int (iI NtA_8), .int (iI NtL_9), .int (iI Ntk_10), .int (iI Nva_11), .ref m_anew, .ref m_values])), (m_bytes, .inl (G.2 0, 150, .inl (cI my))), (m_values, .inl (G.2 0, 3, .inl (cI (uI mv 2 m_value))))]) [1, 2, 0] rfl rfl
      exact g_zret (v := (iI 1)) hx hb hr hlocks rfl hP hD hS (Or.inl ⟨NtA_8, NtL_9, Ntk_10, Nva_11, m_value, (hra.2.2.1 (by omega)), (by first | exact k_12 | assumption | omega), (by first | exact k_13 | assumption | omega), (by first | exact k_14 | assumption | omega), (by first | exact k_15 | assumption | omega), (by first | assumption | omega), (by first | exact k_17 | assumption | omega), (ra_num hra (by omega)), (by first | exact k_18 | assumption | omega), rfl, rfl⟩) dX11_gives_40
    · refine ea_0_3 hw (fun k_5 e8_0 e8_1 => ?_)
      subst e8_0
      subst e8_1
      clear hw
      have hPD : PD G A H [(m0, .inr (10, [.ref m_all, .ref m_kept, .ref m_isKept, .ref m_refused, .long (lI m_above), .long (lI m_below), .ref m_hand, .ref m_fewest, .ref m_whoBites, .ref m_leaves, .ref m_bestFeast, .ref m_tells, .ref m_hardOn, .ref m_bytes, .int (iI m_bytesLong), .int (iI m_tokenAt), .int (iI m_tokenLong), .int (iI m_token), .int (iI m_value), .ref m_anew, .ref m_values])), (m_bytes, .inl (G.2 0, 150, .inl (cI my))), (m_values, .inl (G.2 0, 3, .inl (cI mv)))] := ⟨hP, hD⟩
      have hP := hPD.1
      have hD := hPD.2
      clear hPD
      refine lv_if_ne (tgt := 25) hx hb dX11_gives_20 (by decide) (fun c_19 => g_no (by decide) c_19) (fun _ => ?_)
      refine lv_iconst (v := iI 0) hx hb dX11_gives_23 rfl ?_
      exact g_zret (v := (iI 0)) hx hb hr hlocks rfl hP hD hS (Or.inr (⟨(ra_non hra (by omega)), rfl, rfl⟩)) dX11_gives_24
theorem dX11_isApplesNumber_0 : decode cX11_isApplesNumber 0 = .ok (.aload_n 0, 1) := kd_42 (by decide +kernel)
theorem dX11_isApplesNumber_1 : decode cX11_isApplesNumber 1 = .ok (.getfield 250, 3) := kd_180 (a := 0) (b := 250) (by decide +kernel)
theorem dX11_isApplesNumber_4 : decode cX11_isApplesNumber 4 = .ok (.iconst 2, 1) := kd_5 (by decide +kernel)
theorem dX11_isApplesNumber_5 : decode cX11_isApplesNumber 5 = .ok (.if_icmp .ne 42, 3) := kd_160 (a := 0) (b := 42) (by decide +kernel)
theorem dX11_isApplesNumber_47 : decode cX11_isApplesNumber 47 = .ok (.iconst 0, 1) := kd_3 (by decide +kernel)
theorem dX11_isApplesNumber_48 : decode cX11_isApplesNumber 48 = .ok (.ireturn, 1) := kd_172 (by decide +kernel)
theorem dX11_isApplesNumber_8 : decode cX11_isApplesNumber 8 = .ok (.aload_n 0, 1) := kd_42 (by decide +kernel)
theorem dX11_isApplesNumber_9 : decode cX11_isApplesNumber 9 = .ok (.getfield 253, 3) := kd_180 (a := 0) (b := 253) (by decide +kernel)
theorem dX11_isApplesNumber_12 : decode cX11_isApplesNumber 12 = .ok (.i2l, 1) := kd_133 (by decide +kernel)
theorem dX11_isApplesNumber_13 : decode cX11_isApplesNumber 13 = .ok (.lconst 0, 1) := kd_9 (by decide +kernel)
theorem dX11_isApplesNumber_14 : decode cX11_isApplesNumber 14 = .ok (.aload_n 0, 1) := kd_42 (by decide +kernel)
theorem dX11_isApplesNumber_15 : decode cX11_isApplesNumber 15 = .ok (.getfield 51, 3) := kd_180 (a := 0) (b := 51) (by decide +kernel)
theorem dX11_isApplesNumber_18 : decode cX11_isApplesNumber 18 = .ok (.iconst 0, 1) := kd_3 (by decide +kernel)
theorem dX11_isApplesNumber_19 : decode cX11_isApplesNumber 19 = .ok (.iaload, 1) := kd_46 (by decide +kernel)
theorem dX11_isApplesNumber_20 : decode cX11_isApplesNumber 20 = .ok (.iconst 1, 1) := kd_4 (by decide +kernel)
theorem dX11_isApplesNumber_21 : decode cX11_isApplesNumber 21 = .ok (.isub, 1) := kd_100 (by decide +kernel)
theorem dX11_isApplesNumber_22 : decode cX11_isApplesNumber 22 = .ok (.i2l, 1) := kd_133 (by decide +kernel)
theorem gX11_isApplesNumber_X11_in : GoodIn wsX11_isApplesNumber (va_wsS RX11 65 yX11_in wsX11_in) := gW_S (in_r8 (List.mem_of_getElem? (i := 9) rfl)) (in_r8 (List.mem_of_getElem? (i := 10) rfl)) (in_r1 (List.mem_of_getElem? (i := 5) rfl)) (in_r8 (List.mem_of_getElem? (i := 11) rfl))
theorem dX11_isApplesNumber_23 : decode cX11_isApplesNumber 23 = .ok (.invokestatic 65, 3) := kd_184 (a := 0) (b := 65) (by decide +kernel)
theorem dX11_isApplesNumber_26 : decode cX11_isApplesNumber 26 = .ok (.ifCond .eq 21, 3) := kd_153 (a := 0) (b := 21) (by decide +kernel)
theorem dX11_isApplesNumber_29 : decode cX11_isApplesNumber 29 = .ok (.aload_n 0, 1) := kd_42 (by decide +kernel)
theorem dX11_isApplesNumber_30 : decode cX11_isApplesNumber 30 = .ok (.getfield 51, 3) := kd_180 (a := 0) (b := 51) (by decide +kernel)
theorem dX11_isApplesNumber_33 : decode cX11_isApplesNumber 33 = .ok (.aload_n 0, 1) := kd_42 (by decide +kernel)
theorem dX11_isApplesNumber_34 : decode cX11_isApplesNumber 34 = .ok (.getfield 253, 3) := kd_180 (a := 0) (b := 253) (by decide +kernel)
theorem gX11_isApplesNumber_X11_isOut : GoodIn wsX11_isApplesNumber (va_wsS RX11 120 yX11_isOut wsX11_isOut) := gW_S (in_r21 (List.mem_of_getElem? (i := 14) rfl)) (in_r21 (List.mem_of_getElem? (i := 15) rfl)) (in_r1 (List.mem_of_getElem? (i := 5) rfl)) (in_r21 (List.mem_of_getElem? (i := 16) rfl))
theorem dX11_isApplesNumber_37 : decode cX11_isApplesNumber 37 = .ok (.invokestatic 120, 3) := kd_184 (a := 0) (b := 120) (by decide +kernel)
theorem dX11_isApplesNumber_40 : decode cX11_isApplesNumber 40 = .ok (.ifCond .ne 7, 3) := kd_154 (a := 0) (b := 7) (by decide +kernel)
theorem dX11_isApplesNumber_43 : decode cX11_isApplesNumber 43 = .ok (.iconst 1, 1) := kd_4 (by decide +kernel)
theorem dX11_isApplesNumber_44 : decode cX11_isApplesNumber 44 = .ok (.goto 4, 3) := kd_167 (a := 0) (b := 4) (by decide +kernel)
set_option maxHeartbeats 8000000 in
set_option maxRecDepth 100000 in
theorem c_X11_isApplesNumber (l : Launch) (G : gG) (m0 : Nat) (m_all : Nat) (m_kept : Nat) (m_isKept : Nat) (m_refused : Nat) (m_above : Int) (m_below : Int) (m_hand : Nat) (m_fewest : Nat) (m_whoBites : Nat) (m_leaves : Nat) (m_bestFeast : Nat) (m_tells : Nat) (m_hardOn : Nat) (m_bytes : Nat) (m_bytesLong : Int) (m_tokenAt : Int) (m_tokenLong : Int) (m_token : Int) (m_value : Int) (m_anew : Nat) (m_values : Nat) (mn : Nat → Int) (K0 : Int) (y0_ : bp (plA K0) mn) (hva : -2000 ≤ m_value ∧ m_value ≤ 2000) (htk : 0 ≤ m_token ∧ m_token ≤ 4) (hK0 : 1000 ≤ K0 ∧ K0 ≤ 1900000) (sz : Nat) : gI G l yX11_isApplesNumber wsX11_isApplesNumber ({ frames := 1, cells := 0, slots := 0, locals := 25 } : Room) [.ref m0] [(m0, .inr (10, [.ref m_all, .ref m_kept, .ref m_isKept, .ref m_refused, .long (lI m_above), .long (lI m_below), .ref m_hand, .ref m_fewest, .ref m_whoBites, .ref m_leaves, .ref m_bestFeast, .ref m_tells, .ref m_hardOn, .ref m_bytes, .int (iI m_bytesLong), .int (iI m_tokenAt), .int (iI m_tokenLong), .int (iI m_token), .int (iI m_value), .ref m_anew, .ref m_values])), (m_anew, .inl (G.2 0, 135, .inl (cI mn)))] sz (fun (r : Int32) (u : va_W) => (((m_token = 2 ∧ 0 ≤ m_value ∧ m_value ≤ mn 0 - 1) ∧ mn ((20 + m_value).toNat) = 0) ∧ (m_value ≤ 6) ∧ r = (iI 1) ∧ u = [(m0, .inr (10, [.ref m_all, .ref m_kept, .ref m_isKept, .ref m_refused, .long (lI m_above), .long (lI m_below), .ref m_hand, .ref m_fewest, .ref m_whoBites, .ref m_leaves, .ref m_bestFeast, .ref m_tells, .ref m_hardOn, .ref m_bytes, .int (iI m_bytesLong), .int (iI m_tokenAt), .int (iI m_tokenLong), .int (iI m_token), .int (iI m_value), .ref m_anew, .ref m_values])), (m_anew, .inl (G.2 0, 135, .inl (cI mn)))]) ∨ ((¬ ((m_token = 2 ∧ 0 ≤ m_value ∧ m_value ≤ mn 0 - 1) ∧ mn ((20 + m_value).toNat) = 0)) ∧ r = (iI 0) ∧ u = [(m0, .inr (10, [.ref m_all, .ref m_kept, .ref m_isKept, .ref m_refused, .long (lI m_above), .long (lI m_below), .ref m_hand, .ref m_fewest, .ref m_whoBites, .ref m_leaves, .ref m_bestFeast, .ref m_tells, .ref m_hardOn, .ref m_bytes, .int (iI m_bytesLong), .int (iI m_tokenAt), .int (iI m_tokenLong), .int (iI m_token), .int (iI m_value), .ref m_anew, .ref m_values])), (m_anew, .inl (G.2 0, 135, .inl (cI mn)))])) := by
  refine Met.ofW (cc := cX11_isApplesNumber) (maxL := 1) (ret := (some .boolean)) (by decide) rfl ?_
  intro p e s m args below meth c s₁ B hml hv
  obtain ⟨rfl, hsz, hP, hK, hD0, hN, hZ⟩ := hv
  have hx := B.exec
  have hb := B.bytes
  have hr := B.returns
  have hts := atoms_spec (ws := wsX11_isApplesNumber) B.pre
  have hown : s.vm.findClass RX11 = some m.cls := findClass_of_methodNamed B.named
  have hlocks := B.notSynchronized
  subst hsz
  have hD := hD0.self (sz := s.heap.size)
  generalize hAe : va_A [(m0, .inr (10, [.ref m_all, .ref m_kept, .ref m_isKept, .ref m_refused, .long (lI m_above), .long (lI m_below), .ref m_hand, .ref m_fewest, .ref m_whoBites, .ref m_leaves, .ref m_bestFeast, .ref m_tells, .ref m_hardOn, .ref m_bytes, .int (iI m_bytesLong), .int (iI m_tokenAt), .int (iI m_tokenLong), .int (iI m_token), .int (iI m_value), .ref m_anew, .ref m_values])), (m_anew, .inl (G.2 0, 135, .inl (cI mn)))] s.heap.size = A at hD hZ ⊢
  have hA : ∀ q : Nat, s.heap.size ≤ q → A q := fun q h => by rw [← hAe]; exact Or.inr h
  have hS : va_S A s.heap s.heap [] := va_S.rf
  have hP : va_P G.1 vwCl [(m0, .inr (10, [.ref m_all, .ref m_kept, .ref m_isKept, .ref m_refused, .long (lI m_above), .long (lI m_below), .ref m_hand, .ref m_fewest, .ref m_whoBites, .ref m_leaves, .ref m_bestFeast, .ref m_tells, .ref m_hardOn, .ref m_bytes, .int (iI m_bytesLong), .int (iI m_tokenAt), .int (iI m_tokenLong), .int (iI m_token), .int (iI m_value), .ref m_anew, .ref m_values])), (m_anew, .inl (G.2 0, 135, .inl (cI mn)))] s.heap := hP
  have hl := lv_entry ([.ref m0]) (n := 1) (Nat.le_of_ble_eq_true rfl)
  rw [lg_entry_eq]
  generalize (lg_sl ([.ref m0]) ++ List.replicate (1 - (lg_sl ([.ref m0])).length) Slot.unset).toArray = ls at hl ⊢
  have hl : lv_has ls 1 [(0, .ref m0)] := hl
  refine lv_aload_n hx hb dX11_isApplesNumber_0 rfl (lv_at hl 0 rfl) ?_
  refine va_get (D := G.1) (ci := 10) (v := .int (iI m_token)) (C := RX11) (T := TX11) (N := 21) hx hb hts (fun _ h => List.mem_cons_of_mem _ (inlX11 _ h)) hown hK hP 0 rfl rfl 17 (by decide) (hts _ (List.mem_cons_of_mem _ (in_r19 (List.mem_of_getElem? (i := 9) rfl)))) (fun _ h9 => h9) rfl dX11_isApplesNumber_1 ?_
  refine lv_iconst (v := iI 2) hx hb dX11_isApplesNumber_4 rfl ?_
  refine lv_icmp_ne (tgt := 47) hx hb dX11_isApplesNumber_5 (by decide) (fun c_1 => ?_) (fun c_1 => ?_)
  · have c_1 : ¬ (m_token = 2) := fun h9 => c_1 ((iI_eq (a := m_token) (b := 2) (by omega) (by first | decide | omega)).mpr h9)
    refine lv_iconst (v := iI 0) hx hb dX11_isApplesNumber_47 rfl ?_
    exact g_zret (v := (iI 0)) hx hb hr hlocks rfl hP hD hS (Or.inr (⟨(by first | assumption | omega), rfl, rfl⟩)) dX11_isApplesNumber_48
  · have c_1 := (iI_eq (a := m_token) (b := 2) (by omega) (by first | decide | omega)).mp c_1
    refine lv_aload_n hx hb dX11_isApplesNumber_8 rfl (lv_at hl 0 rfl) ?_
    refine va_get (D := G.1) (ci := 10) (v := .int (iI m_value)) (C := RX11) (T := TX11) (N := 21) hx hb hts (fun _ h => List.mem_cons_of_mem _ (inlX11 _ h)) hown hK hP 0 rfl rfl 18 (by decide) (hts _ (List.mem_cons_of_mem _ (in_r19 (List.mem_of_getElem? (i := 15) rfl)))) (fun _ h9 => h9) rfl dX11_isApplesNumber_9 ?_
    refine lv_i2l (v := lI m_value) hx hb dX11_isApplesNumber_12 (i2l_iI (by omega)) ?_
    refine lv_lconst (v := lI 0) hx hb dX11_isApplesNumber_13 (by decide) ?_
    refine lv_aload_n hx hb dX11_isApplesNumber_14 rfl (lv_at hl 0 rfl) ?_
    refine va_get (D := G.1) (ci := 10) (v := .ref m_anew) (C := RX11) (T := TX11) (N := 21) hx hb hts (fun _ h => List.mem_cons_of_mem _ (inlX11 _ h)) hown hK hP 0 rfl rfl 19 (by decide) (hts _ (List.mem_cons_of_mem _ (in_r6 (List.mem_of_getElem? (i := 13) rfl)))) (fun _ h9 => h9) rfl dX11_isApplesNumber_15 ?_
    refine lv_iconst (v := iI 0) hx hb dX11_isApplesNumber_18 rfl ?_
    refine g_ild hx hb hK hP 1 rfl (by omega) (by omega) (by first | exact Nat.le_of_ble_eq_true rfl | omega) dX11_isApplesNumber_19 (fun w_2 ew_2 => ?_)
    have ew_2 : mn 0 = w_2 := ew_2
    subst ew_2
    have bw_2 : 0 ≤ (mn 0) ∧ (mn 0) ≤ 7 := y0_ 0
    refine lv_iconst (v := iI 1) hx hb dX11_isApplesNumber_20 rfl ?_
    refine lv_isub hx hb dX11_isApplesNumber_21 ?_
    refine g_topi (y := iI ((mn 0) - 1)) (iI_sub (mn 0) 1) ?_
    refine lv_i2l (v := lI ((mn 0) - 1)) hx hb dX11_isApplesNumber_22 (i2l_iI (by omega)) ?_
    refine g_calli (wr := [(m0, .inr (10, [.ref m_all, .ref m_kept, .ref m_isKept, .ref m_refused, .long (lI m_above), .long (lI m_below), .ref m_hand, .ref m_fewest, .ref m_whoBites, .ref m_leaves, .ref m_bestFeast, .ref m_tells, .ref m_hardOn, .ref m_bytes, .int (iI m_bytesLong), .int (iI m_tokenAt), .int (iI m_tokenLong), .int (iI m_token), .int (iI m_value), .ref m_anew, .ref m_values])), (m_anew, .inl (G.2 0, 135, .inl (cI mn)))]) (va_runS (As := [.long (lI m_value), .long (lI 0), .long (lI ((mn 0) - 1))]) (rest := []) ⟨hx, hb, hml, hown, hts⟩ (c_X11_in l G (m_value) (0) (((mn 0) - 1)) (by first | assumption | omega) (by first | assumption | omega) (by first | assumption | omega) _) (va_cwS 3 hts gX11_isApplesNumber_X11_in rfl rfl rfl (by decide +kernel) ⟨Nat.le_of_ble_eq_true rfl, Nat.le_of_ble_eq_true rfl⟩) (g_preS [.long (lI m_value), .long (lI 0), .long (lI ((mn 0) - 1))] hP hD hK hN hS hA hZ [] rfl rfl) rfl rfl hl.1 rfl (lv_room (Nat.le_of_ble_eq_true rfl)) dX11_isApplesNumber_23 ⟨Nat.le_of_ble_eq_true rfl, Nat.le_of_ble_eq_true rfl⟩) hP hD hS hA [] [0, 1] rfl rfl rfl (by decide) (fun r_3 u H locs hw hP hD hS => ?_)
    rcases hw with hw | hw
    · refine ea_0_4 hw (fun k_4 k_5 e8_0 e8_1 => ?_)
      subst e8_0
      subst e8_1
      clear hw
      have hPD : PD G A H [(m0, .inr (10, [.ref m_all, .ref m_kept, .ref m_isKept, .ref m_refused, .long (lI m_above), .long (lI m_below), .ref m_hand, .ref m_fewest, .ref m_whoBites, .ref m_leaves, .ref m_bestFeast, .ref m_tells, .ref m_hardOn, .ref m_bytes, .int (iI m_bytesLong), .int (iI m_tokenAt), .int (iI m_tokenLong), .int (iI m_token), .int (iI m_value), .ref m_anew, .ref m_values])), (m_anew, .inl (G.2 0, 135, .inl (cI mn)))] := ⟨hP, hD⟩
      have hP := hPD.1
      have hD := hPD.2
      clear hPD
      refine lv_if_eq (tgt := 47) hx hb dX11_isApplesNumber_26 (by decide) (fun c_7 => g_no c_7 (by decide)) (fun _ => ?_)
      refine lv_aload_n hx hb dX11_isApplesNumber_29 rfl (lv_at hl 0 rfl) ?_
      refine va_get (D := G.1) (ci := 10) (v := .ref m_anew) (C := RX11) (T := TX11) (N := 21) hx hb hts (fun _ h => List.mem_cons_of_mem _ (inlX11 _ h)) hown hK hP 0 rfl rfl 19 (by decide) (hts _ (List.mem_cons_of_mem _ (in_r6 (List.mem_of_getElem? (i := 13) rfl)))) (fun _ h9 => h9) rfl dX11_isApplesNumber_30 ?_
      refine lv_aload_n hx hb dX11_isApplesNumber_33 rfl (lv_at hl 0 rfl) ?_
      refine va_get (D := G.1) (ci := 10) (v := .int (iI m_value)) (C := RX11) (T := TX11) (N := 21) hx hb hts (fun _ h => List.mem_cons_of_mem _ (inlX11 _ h)) hown hK hP 0 rfl rfl 18 (by decide) (hts _ (List.mem_cons_of_mem _ (in_r19 (List.mem_of_getElem? (i := 15) rfl)))) (fun _ h9 => h9) rfl dX11_isApplesNumber_34 ?_
      refine g_calli (wr := [(m0, .inr (10, [.ref m_all, .ref m_kept, .ref m_isKept, .ref m_refused, .long (lI m_above), .long (lI m_below), .ref m_hand, .ref m_fewest, .ref m_whoBites, .ref m_leaves, .ref m_bestFeast, .ref m_tells, .ref m_hardOn, .ref m_bytes, .int (iI m_bytesLong), .int (iI m_tokenAt), .int (iI m_tokenLong), .int (iI m_token), .int (iI m_value), .ref m_anew, .ref m_values]))]) (va_runS (As := [.ref m_anew, .int (iI m_value)]) (rest := []) ⟨hx, hb, hml, hown, hts⟩ (c_X11_isOut_135 l G (m_anew) (mn) (K0) (m_value) (by first | exact y0_ | exact bpA_mono y0_ (by omega) | assumption) (by first | assumption | omega) (by first | assumption | omega) _) (va_cwS 2 hts gX11_isApplesNumber_X11_isOut rfl rfl rfl (by decide +kernel) ⟨Nat.le_of_ble_eq_true rfl, Nat.le_of_ble_eq_true rfl⟩) (g_preS [.ref m_anew, .int (iI m_value)] hP hD hK hN hS hA hZ [1] rfl rfl) rfl rfl hl.1 rfl (lv_room (Nat.le_of_ble_eq_true rfl)) dX11_isApplesNumber_37 ⟨Nat.le_of_ble_eq_true rfl, Nat.le_of_ble_eq_true rfl⟩) hP hD hS hA [1] [0] rfl rfl rfl (by decide) (fun r_8 u H locs hw hP hD hS => ?_)
      refine ea_1_3 hw (fun rr_9 k_10 e8_0 e8_1 => ?_)
      subst e8_0
      subst e8_1
      clear hw
      have hPD : PD G A H [(m0, .inr (10, [.ref m_all, .ref m_kept, .ref m_isKept, .ref m_refused, .long (lI m_above), .long (lI m_below), .ref m_hand, .ref m_fewest, .ref m_whoBites, .ref m_leaves, .ref m_bestFeast, .ref m_tells, .ref m_hardOn, .ref m_bytes, .int (iI m_bytesLong), .int (iI m_tokenAt), .int (iI m_tokenLong), .int (iI m_token), .int (iI m_value), .ref m_anew, .ref m_values])), (m_anew, .inl (G.2 0, 135, .inl (cI mn)))] := ⟨hP, hD⟩
      have hP := hPD.1
      have hD := hPD.2
      clear hPD
      refine lv_if_ne (tgt := 47) hx hb dX11_isApplesNumber_40 (by decide) (fun c_11 => ?_) (fun c_11 => ?_)
      · have c_11 : ¬ (rr_9 = 0) := fun h9 => c_11 ((iI_eq (a := rr_9) (b := 0) (by omega) (by first | decide | omega)).mpr h9)
        refine lv_iconst (v := iI 0) hx hb dX11_isApplesNumber_47 rfl ?_
        exact g_zret (v := (iI 0)) hx hb hr hlocks rfl hP hD hS (Or.inr (⟨(by first | assumption | omega), rfl, rfl⟩)) dX11_isApplesNumber_48
      · have c_11 := (iI_eq (a := rr_9) (b := 0) (by omega) (by first | decide | omega)).mp c_11
        refine lv_iconst (v := iI 1) hx hb dX11_isApplesNumber_43 rfl ?_
        refine lv_goto (tgt := 48) hx hb dX11_isApplesNumber_44 (by decide) ?_
        exact g_zret (v := (iI 1)) hx hb hr hlocks rfl hP hD hS (Or.inl ⟨(by first | assumption | omega), (by first | assumption | omega), rfl, rfl⟩) dX11_isApplesNumber_48
    · refine ea_0_3 hw (fun k_6 e8_0 e8_1 => ?_)
      subst e8_0
      subst e8_1
      clear hw
      have hPD : PD G A H [(m0, .inr (10, [.ref m_all, .ref m_kept, .ref m_isKept, .ref m_refused, .long (lI m_above), .long (lI m_below), .ref m_hand, .ref m_fewest, .ref m_whoBites, .ref m_leaves, .ref m_bestFeast, .ref m_tells, .ref m_hardOn, .ref m_bytes, .int (iI m_bytesLong), .int (iI m_tokenAt), .int (iI m_tokenLong), .int (iI m_token), .int (iI m_value), .ref m_anew, .ref m_values])), (m_anew, .inl (G.2 0, 135, .inl (cI mn)))] := ⟨hP, hD⟩
      have hP := hPD.1
      have hD := hPD.2
      clear hPD
      refine lv_if_eq (tgt := 47) hx hb dX11_isApplesNumber_26 (by decide) (fun _ => ?_) (fun c_12 => g_no (by decide) c_12)
      refine lv_iconst (v := iI 0) hx hb dX11_isApplesNumber_47 rfl ?_
      exact g_zret (v := (iI 0)) hx hb hr hlocks rfl hP hD hS (Or.inr (⟨(by first | assumption | omega), rfl, rfl⟩)) dX11_isApplesNumber_48
theorem dX11_givesDamp_0 : decode cX11_givesDamp 0 = .ok (.iconst 0, 1) := kd_3 (by decide +kernel)
theorem dX11_givesDamp_1 : decode cX11_givesDamp 1 = .ok (.istore_n 1, 1) := kd_60 (by decide +kernel)
theorem dX11_givesDamp_2 : decode cX11_givesDamp 2 = .ok (.aload_n 0, 1) := kd_42 (by decide +kernel)
theorem gX11_givesDamp_X11_goBehind : GoodIn wsX11_givesDamp (wsV RX11 265 RX11 yX11_goBehind wsX11_goBehind) := gW_V (in_r20 (List.mem_of_getElem? (i := 6) rfl)) (in_r20 (List.mem_of_getElem? (i := 7) rfl)) (in_r20 (List.mem_of_getElem? (i := 8) rfl)) (in_r1 (List.mem_of_getElem? (i := 5) rfl)) (in_r20 (List.mem_of_getElem? (i := 9) rfl))
theorem dX11_givesDamp_3 : decode cX11_givesDamp 3 = .ok (.invokevirtual 265, 3) := kd_182 (a := 1) (b := 9) (by decide +kernel)
theorem dX11_givesDamp_6 : decode cX11_givesDamp 6 = .ok (.iload_n 1, 1) := kd_27 (by decide +kernel)
theorem dX11_givesDamp_7 : decode cX11_givesDamp 7 = .ok (.ifCond .eq 11, 3) := kd_153 (a := 0) (b := 11) (by decide +kernel)
theorem dX11_givesDamp_18 : decode cX11_givesDamp 18 = .ok (.iload_n 1, 1) := kd_27 (by decide +kernel)
theorem dX11_givesDamp_19 : decode cX11_givesDamp 19 = .ok (.bipush 6, 2) := kd_16 (a := 6) (by decide +kernel)
theorem dX11_givesDamp_21 : decode cX11_givesDamp 21 = .ok (.if_icmp .eq 13, 3) := kd_159 (a := 0) (b := 13) (by decide +kernel)
theorem dX11_givesDamp_34 : decode cX11_givesDamp 34 = .ok (.iconst 0, 1) := kd_3 (by decide +kernel)
theorem dX11_givesDamp_35 : decode cX11_givesDamp 35 = .ok (.ireturn, 1) := kd_172 (by decide +kernel)
theorem dX11_givesDamp_24 : decode cX11_givesDamp 24 = .ok (.aload_n 0, 1) := kd_42 (by decide +kernel)
theorem dX11_givesDamp_25 : decode cX11_givesDamp 25 = .ok (.iconst 0, 1) := kd_3 (by decide +kernel)
theorem dX11_givesDamp_26 : decode cX11_givesDamp 26 = .ok (.iconst 0, 1) := kd_3 (by decide +kernel)
theorem dX11_givesDamp_27 : decode cX11_givesDamp 27 = .ok (.iconst 4, 1) := kd_7 (by decide +kernel)
theorem gX11_givesDamp_X11_gives : GoodIn wsX11_givesDamp (wsV RX11 268 RX11 yX11_gives wsX11_gives) := gW_V (in_r20 (List.mem_of_getElem? (i := 18) rfl)) (in_r20 (List.mem_of_getElem? (i := 19) rfl)) (in_r20 (List.mem_of_getElem? (i := 20) rfl)) (in_r1 (List.mem_of_getElem? (i := 5) rfl)) (in_r20 (List.mem_of_getElem? (i := 21) rfl))
theorem dX11_givesDamp_28 : decode cX11_givesDamp 28 = .ok (.invokevirtual 268, 3) := kd_182 (a := 1) (b := 12) (by decide +kernel)
theorem dX11_givesDamp_31 : decode cX11_givesDamp 31 = .ok (.ifCond .ne 5, 3) := kd_154 (a := 0) (b := 5) (by decide +kernel)
theorem dX11_givesDamp_36 : decode cX11_givesDamp 36 = .ok (.aload_n 0, 1) := kd_42 (by decide +kernel)
theorem dX11_givesDamp_37 : decode cX11_givesDamp 37 = .ok (.getfield 51, 3) := kd_180 (a := 0) (b := 51) (by decide +kernel)
theorem dX11_givesDamp_40 : decode cX11_givesDamp 40 = .ok (.bipush 28, 2) := kd_16 (a := 28) (by decide +kernel)
theorem dX11_givesDamp_42 : decode cX11_givesDamp 42 = .ok (.iload_n 1, 1) := kd_27 (by decide +kernel)
theorem dX11_givesDamp_43 : decode cX11_givesDamp 43 = .ok (.iadd, 1) := kd_96 (by decide +kernel)
theorem dX11_givesDamp_44 : decode cX11_givesDamp 44 = .ok (.aload_n 0, 1) := kd_42 (by decide +kernel)
theorem dX11_givesDamp_45 : decode cX11_givesDamp 45 = .ok (.getfield 54, 3) := kd_180 (a := 0) (b := 54) (by decide +kernel)
theorem dX11_givesDamp_48 : decode cX11_givesDamp 48 = .ok (.iconst 0, 1) := kd_3 (by decide +kernel)
theorem dX11_givesDamp_49 : decode cX11_givesDamp 49 = .ok (.iaload, 1) := kd_46 (by decide +kernel)
theorem dX11_givesDamp_50 : decode cX11_givesDamp 50 = .ok (.iastore, 1) := kd_79 (by decide +kernel)
theorem dX11_givesDamp_51 : decode cX11_givesDamp 51 = .ok (.iinc 1 1, 3) := kd_132 (a := 1) (b := 1) (by decide +kernel)
theorem dX11_givesDamp_54 : decode cX11_givesDamp 54 = .ok (.goto (-48), 3) := kd_167 (a := 255) (b := 208) (by decide +kernel)
theorem dX11_givesDamp_10 : decode cX11_givesDamp 10 = .ok (.aload_n 0, 1) := kd_42 (by decide +kernel)
theorem dX11_givesDamp_11 : decode cX11_givesDamp 11 = .ok (.getfield 250, 3) := kd_180 (a := 0) (b := 250) (by decide +kernel)
theorem dX11_givesDamp_14 : decode cX11_givesDamp 14 = .ok (.iconst 3, 1) := kd_6 (by decide +kernel)
theorem dX11_givesDamp_15 : decode cX11_givesDamp 15 = .ok (.if_icmp .eq 42, 3) := kd_159 (a := 0) (b := 42) (by decide +kernel)
theorem dX11_givesDamp_57 : decode cX11_givesDamp 57 = .ok (.iconst 1, 1) := kd_4 (by decide +kernel)
theorem dX11_givesDamp_58 : decode cX11_givesDamp 58 = .ok (.ireturn, 1) := kd_172 (by decide +kernel)
set_option maxHeartbeats 8000000 in
set_option maxRecDepth 100000 in
theorem c_X11_givesDamp (l : Launch) (G : gG) (m0 : Nat) (m_all : Nat) (m_kept : Nat) (m_isKept : Nat) (m_refused : Nat) (m_above : Int) (m_below : Int) (m_hand : Nat) (m_fewest : Nat) (m_whoBites : Nat) (m_leaves : Nat) (m_bestFeast : Nat) (m_tells : Nat) (m_hardOn : Nat) (m_bytes : Nat) (m_bytesLong : Int) (m_tokenAt : Int) (m_tokenLong : Int) (m_token : Int) (m_value : Int) (m_anew : Nat) (m_values : Nat) (my : Nat → Int) (mv : Nat → Int) (mn : Nat → Int) (K0 : Int) (uS : Nat → Int) (uA : Nat → Int) (uV : Nat → Int) (uE : Nat → Int) (n0 : Int) (j0 : Int) (y0_ : bd 0 127 my) (y1_ : bp (plA K0) mn) (hL : 0 ≤ m_bytesLong ∧ m_bytesLong ≤ 150) (i0_ : 0 ≤ m_tokenAt ∧ 0 ≤ m_tokenLong ∧ m_tokenAt + m_tokenLong ≤ m_bytesLong) (i1_ : 0 ≤ m_token ∧ m_token ≤ 4) (i2_ : m_token = 0 ∨ 1 ≤ m_tokenLong) (i3_ : -2000 ≤ m_value ∧ m_value ≤ 2000) (hch : chF my m_bytesLong uS uA uV n0 uE) (hra : ra my uS uA uV uE j0 m_tokenAt m_tokenLong m_token m_value) (hj : 0 ≤ j0 ∧ j0 < n0) (hK0 : 1000 ≤ K0 ∧ K0 ≤ 1900000) (h5 : uS (j0 : Int).toNat = 5) (sz : Nat) : gI G l yX11_givesDamp wsX11_givesDamp ({ frames := 5, cells := 0, slots := 0, locals := 112 } : Room) [.ref m0] [(m0, .inr (10, [.ref m_all, .ref m_kept, .ref m_isKept, .ref m_refused, .long (lI m_above), .long (lI m_below), .ref m_hand, .ref m_fewest, .ref m_whoBites, .ref m_leaves, .ref m_bestFeast, .ref m_tells, .ref m_hardOn, .ref m_bytes, .int (iI m_bytesLong), .int (iI m_tokenAt), .int (iI m_tokenLong), .int (iI m_token), .int (iI m_value), .ref m_anew, .ref m_values])), (m_bytes, .inl (G.2 0, 150, .inl (cI my))), (m_values, .inl (G.2 0, 3, .inl (cI mv))), (m_anew, .inl (G.2 0, 135, .inl (cI mn)))] sz (fun (r : Int32) (u : va_W) => (∃ NtA : Int, ∃ NtL : Int, ∃ Ntk : Int, ∃ Nva : Int, ∃ N_v : Nat → Int, ∃ N_n : Nat → Int, ∃ jN : Int, (MOk (cIt uS uV mn j0) jN N_n) ∧ (0 ≤ NtA ∧ 0 ≤ NtL ∧ NtA + NtL ≤ m_bytesLong) ∧ (0 ≤ Ntk ∧ Ntk ≤ 4) ∧ (Ntk = 0 ∨ 1 ≤ NtL) ∧ (-2000 ≤ Nva ∧ Nva ≤ 2000) ∧ (m_tokenAt ≤ NtA) ∧ (ra my uS uA uV uE jN NtA NtL Ntk Nva) ∧ (j0 < jN ∧ jN < n0) ∧ (bp (plA (K0 + 99)) N_n) ∧ r = (iI 1) ∧ u = [(m0, .inr (10, [.ref m_all, .ref m_kept, .ref m_isKept, .ref m_refused, .long (lI m_above), .long (lI m_below), .ref m_hand, .ref m_fewest, .ref m_whoBites, .ref m_leaves, .ref m_bestFeast, .ref m_tells, .ref m_hardOn, .ref m_bytes, .int (iI m_bytesLong), .int (iI NtA), .int (iI NtL), .int (iI Ntk), .int (iI Nva), .ref m_anew, .ref m_values])), (m_bytes, .inl (G.2 0, 150, .inl (cI my))), (m_values, .inl (G.2 0, 3, .inl (cI N_v))), (m_anew, .inl (G.2 0, 135, .inl (cI N_n)))]) ∨ (∃ NtA : Int, ∃ NtL : Int, ∃ Ntk : Int, ∃ Nva : Int, ∃ N_v : Nat → Int, ∃ N_n : Nat → Int, ∃ jN : Int, (INo uS (cIt uS uV mn j0) jN) ∧ (0 ≤ NtA ∧ 0 ≤ NtL ∧ NtA + NtL ≤ m_bytesLong) ∧ (0 ≤ Ntk ∧ Ntk ≤ 4) ∧ (Ntk = 0 ∨ 1 ≤ NtL) ∧ (-2000 ≤ Nva ∧ Nva ≤ 2000) ∧ (m_tokenAt ≤ NtA) ∧ (ra my uS uA uV uE jN NtA NtL Ntk Nva) ∧ (0 ≤ jN ∧ jN < n0) ∧ (bp (plA (K0 + 99)) N_n) ∧ r = (iI 0) ∧ u = [(m0, .inr (10, [.ref m_all, .ref m_kept, .ref m_isKept, .ref m_refused, .long (lI m_above), .long (lI m_below), .ref m_hand, .ref m_fewest, .ref m_whoBites, .ref m_leaves, .ref m_bestFeast, .ref m_tells, .ref m_hardOn, .ref m_bytes, .int (iI m_bytesLong), .int (iI NtA), .int (iI NtL), .int (iI Ntk), .int (iI Nva), .ref m_anew, .ref m_values])), (m_bytes, .inl (G.2 0, 150, .inl (cI my))), (m_values, .inl (G.2 0, 3, .inl (cI N_v))), (m_anew, .inl (G.2 0, 135, .inl (cI N_n)))])) := by
  refine Met.ofW (cc := cX11_givesDamp) (maxL := 2) (ret := (some .boolean)) (by decide) rfl ?_
  intro p e s m args below meth c s₁ B hml hv
  obtain ⟨rfl, hsz, hP, hK, hD0, hN, hZ⟩ := hv
  have hx := B.exec
  have hb := B.bytes
  have hr := B.returns
  have hts := atoms_spec (ws := wsX11_givesDamp) B.pre
  have hown : s.vm.findClass RX11 = some m.cls := findClass_of_methodNamed B.named
  have hlocks := B.notSynchronized
  subst hsz
  have hD := hD0.self (sz := s.heap.size)
  generalize hAe : va_A [(m0, .inr (10, [.ref m_all, .ref m_kept, .ref m_isKept, .ref m_refused, .long (lI m_above), .long (lI m_below), .ref m_hand, .ref m_fewest, .ref m_whoBites, .ref m_leaves, .ref m_bestFeast, .ref m_tells, .ref m_hardOn, .ref m_bytes, .int (iI m_bytesLong), .int (iI m_tokenAt), .int (iI m_tokenLong), .int (iI m_token), .int (iI m_value), .ref m_anew, .ref m_values])), (m_bytes, .inl (G.2 0, 150, .inl (cI my))), (m_values, .inl (G.2 0, 3, .inl (cI mv))), (m_anew, .inl (G.2 0, 135, .inl (cI mn)))] s.heap.size = A at hD hZ ⊢
  have hA : ∀ q : Nat, s.heap.size ≤ q → A q := fun q h => by rw [← hAe]; exact Or.inr h
  have hS : va_S A s.heap s.heap [] := va_S.rf
  have hP : va_P G.1 vwCl [(m0, .inr (10, [.ref m_all, .ref m_kept, .ref m_isKept, .ref m_refused, .long (lI m_above), .long (lI m_below), .ref m_hand, .ref m_fewest, .ref m_whoBites, .ref m_leaves, .ref m_bestFeast, .ref m_tells, .ref m_hardOn, .ref m_bytes, .int (iI m_bytesLong), .int (iI m_tokenAt), .int (iI m_tokenLong), .int (iI m_token), .int (iI m_value), .ref m_anew, .ref m_values])), (m_bytes, .inl (G.2 0, 150, .inl (cI my))), (m_values, .inl (G.2 0, 3, .inl (cI mv))), (m_anew, .inl (G.2 0, 135, .inl (cI mn)))] s.heap := hP
  have hl := lv_entry ([.ref m0]) (n := 2) (Nat.le_of_ble_eq_true rfl)
  rw [lg_entry_eq]
  generalize (lg_sl ([.ref m0]) ++ List.replicate (2 - (lg_sl ([.ref m0])).length) Slot.unset).toArray = ls at hl ⊢
  have hl : lv_has ls 2 [(0, .ref m0)] := hl
  refine lv_iconst (v := iI 0) hx hb dX11_givesDamp_0 rfl ?_
  refine lv_istore_n (lv' := [(1, .int (iI 0)), (0, .ref m0)]) hx hb dX11_givesDamp_1 rfl hl (by decide) rfl (fun ls hl => ?_)
  refine lv_aload_n hx hb dX11_givesDamp_2 rfl (lv_at hl 1 rfl) ?_
  refine g_callv (wr := [(m_values, .inl (G.2 0, 3, .inl (cI mv))), (m_anew, .inl (G.2 0, 135, .inl (cI mn)))]) (va_runV (As := []) (rest := []) ⟨hx, hb, hml, hown, hts⟩ (c_X11_goBehind l G (m0) (m_all) (m_kept) (m_isKept) (m_refused) (m_above) (m_below) (m_hand) (m_fewest) (m_whoBites) (m_leaves) (m_bestFeast) (m_tells) (m_hardOn) (m_bytes) (m_bytesLong) (m_tokenAt) (m_tokenLong) (m_token) (m_value) (m_anew) (m_values) (my) (uS) (uA) (uV) (uE) (n0) (j0) (by first | exact y0_ | exact bd_mono y0_ (by omega) (by omega) | assumption) (by first | exact hL | assumption | omega) (by first | exact i0_ | assumption | omega) (by first | exact i1_ | assumption | omega) (by first | exact i2_ | assumption | omega) (by first | exact i3_ | assumption | omega) (by first | exact hch | assumption | omega) (by first | exact hra | assumption | omega) (by first | exact hj | assumption | omega) (by first | assumption | omega) _) (cwV 0 hts gX11_givesDamp_X11_goBehind rfl rfl rfl (by decide +kernel) ⟨Nat.le_of_ble_eq_true rfl, Nat.le_of_ble_eq_true rfl⟩) (g_preV m0 [] hP hD hK hN hS hA hZ [0, 1] rfl rfl 0 (ci := 10) rfl rfl) rfl rfl hl.1 rfl (lv_room (Nat.le_of_ble_eq_true rfl)) dX11_givesDamp_3 ⟨Nat.le_of_ble_eq_true rfl, Nat.le_of_ble_eq_true rfl⟩) hP hD hS hA [0, 1] [2, 3] rfl rfl rfl (by decide) (fun u H locs hw hP hD hS => ?_)
  refine ea_4_8 hw (fun NtA_1 NtL_2 Ntk_3 Nva_4 k_5 k_6 k_7 k_8 k_9 k_10 k_11 e8_0 => ?_)
  subst e8_0
  clear hw
  have hPD : PD G A H [(m_values, .inl (G.2 0, 3, .inl (cI mv))), (m_anew, .inl (G.2 0, 135, .inl (cI mn))), (m0, .inr (10, [.ref m_all, .ref m_kept, .ref m_isKept, .ref m_refused, .long (lI m_above), .long (lI m_below), .ref m_hand, .ref m_fewest, .ref m_whoBites, .ref m_leaves, .ref m_bestFeast, .ref m_tells, .ref m_hardOn, .ref m_bytes, .int (iI m_bytesLong), .int (iI NtA_1), .int (iI NtL_2), .int (iI Ntk_3), .int (iI Nva_4), .ref m_anew, .ref m_values])), (m_bytes, .inl (G.2 0, 150, .inl (cI my)))] := ⟨hP, hD⟩
  have hP := hPD.1
  have hD := hPD.2
  clear hPD
  refine g_loopN (pc := 6) (fun nn H locs ls => ∃ d0__12 : Int, ∃ Ev_13 : Nat → Int, ∃ En_14 : Nat → Int, ∃ ta_15 : Int, ∃ tl__16 : Int, ∃ tk_17 : Int, ∃ va_18 : Int, (0 ≤ d0__12 ∧ d0__12 ≤ 6) ∧ (m_tokenAt ≤ ta_15) ∧ (bp (plA K0) En_14) ∧ (0 ≤ ta_15 ∧ 0 ≤ tl__16 ∧ ta_15 + tl__16 ≤ m_bytesLong) ∧ (0 ≤ tk_17 ∧ tk_17 ≤ 4) ∧ (tk_17 = 0 ∨ 1 ≤ tl__16) ∧ (-2000 ≤ va_18 ∧ va_18 ≤ 2000) ∧ (dmJ uS uV mn j0 n0 d0__12 En_14 my uA uE ta_15 tl__16 tk_17 va_18) ∧ (7 - d0__12).toNat = nn ∧ va_P G.1 vwCl [(m_values, .inl (G.2 0, 3, .inl (cI Ev_13))), (m_anew, .inl (G.2 0, 135, .inl (cI En_14))), (m0, .inr (10, [.ref m_all, .ref m_kept, .ref m_isKept, .ref m_refused, .long (lI m_above), .long (lI m_below), .ref m_hand, .ref m_fewest, .ref m_whoBites, .ref m_leaves, .ref m_bestFeast, .ref m_tells, .ref m_hardOn, .ref m_bytes, .int (iI m_bytesLong), .int (iI ta_15), .int (iI tl__16), .int (iI tk_17), .int (iI va_18), .ref m_anew, .ref m_values])), (m_bytes, .inl (G.2 0, 150, .inl (cI my)))] H ∧ va_D A [(m_values, .inl (G.2 0, 3, .inl (cI Ev_13))), (m_anew, .inl (G.2 0, 135, .inl (cI En_14))), (m0, .inr (10, [.ref m_all, .ref m_kept, .ref m_isKept, .ref m_refused, .long (lI m_above), .long (lI m_below), .ref m_hand, .ref m_fewest, .ref m_whoBites, .ref m_leaves, .ref m_bestFeast, .ref m_tells, .ref m_hardOn, .ref m_bytes, .int (iI m_bytesLong), .int (iI ta_15), .int (iI tl__16), .int (iI tk_17), .int (iI va_18), .ref m_anew, .ref m_values])), (m_bytes, .inl (G.2 0, 150, .inl (cI my)))] ∧ va_S A s.heap H locs ∧ lv_has ls 2 [(1, .int (iI d0__12)), (0, .ref m0)]) ?_ ⟨0, mv, mn, NtA_1, NtL_2, Ntk_3, Nva_4, (by first | assumption | omega), (by first | assumption | omega), (by first | exact y1_ | exact bpA_mono y1_ (by omega) | assumption), (by first | exact k_5 | assumption | omega), (by first | exact k_6 | assumption | omega), (by first | exact k_7 | assumption | omega), (by first | exact k_8 | assumption | omega), ⟨_, dmI_0 _ _ _ _, by assumption, by omega⟩, rfl, hP, hD, hS, lv_sub hl [0, 1] rfl⟩
  intro nn_28 H locs ls ih_27 hI
  refine ea_7_13 hI (fun d0__12 Ev_13 En_14 ta_15 tl__16 tk_17 va_18 f_19 f_20 f_21 f_22 f_23 f_24 f_25 f_26 hnn_29 hP hD hS hl => ?_)
  clear hI
  obtain ⟨b_30, hd_31, hr_32, hb_33⟩ := f_26
  refine lv_iload_n hx hb dX11_givesDamp_6 rfl (lv_at hl 0 rfl) ?_
  refine lv_if_eq (tgt := 18) hx hb dX11_givesDamp_7 (by decide) (fun c_34 => ?_) (fun c_34 => ?_)
  · have c_34 := (iI_eq (a := d0__12) (b := 0) (by omega) (by first | decide | omega)).mp c_34
    refine lv_iload_n hx hb dX11_givesDamp_18 rfl (lv_at hl 0 rfl) ?_
    refine lv_bipush (v := iI 6) hx hb dX11_givesDamp_19 (by decide) ?_
    refine lv_icmp_eq (tgt := 34) hx hb dX11_givesDamp_21 (by decide) (fun c_35 => ?_) (fun c_35 => ?_)
    · have c_35 := (iI_eq (a := d0__12) (b := 6) (by omega) (by first | decide | omega)).mp c_35
      refine lv_iconst (v := iI 0) hx hb dX11_givesDamp_34 rfl ?_
      have hP := hP.sub (ws' := [(m0, .inr (10, [.ref m_all, .ref m_kept, .ref m_isKept, .ref m_refused, .long (lI m_above), .long (lI m_below), .ref m_hand, .ref m_fewest, .ref m_whoBites, .ref m_leaves, .ref m_bestFeast, .ref m_tells, .ref m_hardOn, .ref m_bytes, .int (iI m_bytesLong), .int (iI ta_15), .int (iI tl__16), .int (iI tk_17), .int (iI va_18), .ref m_anew, .ref m_values])), (m_bytes, .inl (G.2 0, 150, .inl (cI my))), (m_values, .inl (G.2 0, 3, .inl (cI Ev_13))), (m_anew, .inl (G.2 0, 135, .inl (cI En_14)))]) [2, 3, 0, 1] rfl
      have hD := hD.sub (ws' := [(m0, .inr (10, [.ref m_all, .ref m_kept, .ref m_isKept, .ref m_refused, .long (lI m_above), .long (lI m_below), .ref m_hand, .ref m_fewest, .ref m_whoBites, .ref m_leaves, .ref m_bestFeast, .ref m_tells, .ref m_hardOn, .ref m_bytes, .int (iI m_bytesLong), .int (iI ta_15), .int (iI tl__16), .int (iI tk_17), .int (iI va_18), .ref m_anew, .ref m_values])), (m_bytes, .inl (G.2 0, 150, .inl (cI my))), (m_values, .inl (G.2 0, 3, .inl (cI Ev_13))), (m_anew, .inl (G.2 0, 135, .inl (cI En_14)))]) [2, 3, 0, 1] rfl rfl
      exact g_zret (v := (iI 0)) hx hb hr hlocks rfl hP hD hS (Or.inr (⟨ta_15, tl__16, tk_17, va_18, Ev_13, En_14, b_30, (by rw [cIt_5 h5]; exact (dmI_r hd_31 (by omega) (by omega) (by omega) (ra_ns hr_32 (by omega)))), (by first | exact f_22 | assumption | omega), (by first | exact f_23 | assumption | omega), (by first | exact f_24 | assumption | omega), (by first | exact f_25 | assumption | omega), (by first | exact f_20 | assumption | omega), (by first | exact hr_32 | assumption | omega), (by first | assumption | omega), (by first | exact f_21 | exact bpA_mono f_21 (by omega) | assumption), rfl, rfl⟩)) dX11_givesDamp_35
    · have c_35 : ¬ (d0__12 = 6) := fun h9 => c_35 ((iI_eq (a := d0__12) (b := 6) (by omega) (by first | decide | omega)).mpr h9)
      refine lv_aload_n hx hb dX11_givesDamp_24 rfl (lv_at hl 1 rfl) ?_
      refine lv_iconst (v := iI 0) hx hb dX11_givesDamp_25 rfl ?_
      refine lv_iconst (v := iI 0) hx hb dX11_givesDamp_26 rfl ?_
      refine lv_iconst (v := iI 4) hx hb dX11_givesDamp_27 rfl ?_
      refine g_calli (wr := [(m_anew, .inl (G.2 0, 135, .inl (cI En_14)))]) (va_runV (As := [.int (iI 0), .int (iI 0), .int (iI 4)]) (rest := []) ⟨hx, hb, hml, hown, hts⟩ (c_X11_gives0 l G (m0) (m_all) (m_kept) (m_isKept) (m_refused) (m_above) (m_below) (m_hand) (m_fewest) (m_whoBites) (m_leaves) (m_bestFeast) (m_tells) (m_hardOn) (m_bytes) (m_bytesLong) (ta_15) (tl__16) (tk_17) (va_18) (m_anew) (m_values) (my) (Ev_13) (uS) (uA) (uV) (uE) (n0) (b_30) (0) (4) (by first | exact y0_ | exact bd_mono y0_ (by omega) (by omega) | assumption) (by first | exact hL | assumption | omega) (by first | exact f_22 | assumption | omega) (by first | exact f_23 | assumption | omega) (by first | exact f_24 | assumption | omega) (by first | exact f_25 | assumption | omega) (by first | exact hch | assumption | omega) (by first | exact hr_32 | assumption | omega) (by first | assumption | omega) (by first | assumption | omega) (by first | assumption | omega) _) (cwV 3 hts gX11_givesDamp_X11_gives rfl rfl rfl (by decide +kernel) ⟨Nat.le_of_ble_eq_true rfl, Nat.le_of_ble_eq_true rfl⟩) (g_preV m0 [.int (iI 0), .int (iI 0), .int (iI 4)] hP hD hK hN hS hA hZ [2, 3, 0] rfl rfl 2 (ci := 10) rfl rfl) rfl rfl hl.1 rfl (lv_room (Nat.le_of_ble_eq_true rfl)) dX11_givesDamp_28 ⟨Nat.le_of_ble_eq_true rfl, Nat.le_of_ble_eq_true rfl⟩) hP hD hS hA [2, 3, 0] [1] rfl rfl rfl (by decide) (fun r_36 u H locs hw hP hD hS => ?_)
      rcases hw with ⟨NtA_37, NtL_38, Ntk_39, Nva_40, nv_41, rfl, k_42, k_43, k_44, k_45, k_46, k_47, k_48, k_49, rfl, rfl⟩ | ⟨k_50, rfl, rfl⟩
      · have hPD : PD G A H [(m_anew, .inl (G.2 0, 135, .inl (cI En_14))), (m0, .inr (10, [.ref m_all, .ref m_kept, .ref m_isKept, .ref m_refused, .long (lI m_above), .long (lI m_below), .ref m_hand, .ref m_fewest, .ref m_whoBites, .ref m_leaves, .ref m_bestFeast, .ref m_tells, .ref m_hardOn, .ref m_bytes, .int (iI m_bytesLong), .int (iI NtA_37), .int (iI NtL_38), .int (iI Ntk_39), .int (iI Nva_40), .ref m_anew, .ref m_values])), (m_bytes, .inl (G.2 0, 150, .inl (cI my))), (m_values, .inl (G.2 0, 3, .inl (cI (uI Ev_13 0 (uV (b_30 : Int).toNat)))))] := ⟨hP, hD⟩
        have hP := hPD.1
        have hD := hPD.2
        clear hPD
        refine lv_if_ne (tgt := 36) hx hb dX11_givesDamp_31 (by decide) (fun _ => ?_) (fun c_51 => g_no c_51 (by decide))
        refine lv_aload_n hx hb dX11_givesDamp_36 rfl (lv_at hl 1 rfl) ?_
        refine va_get (D := G.1) (ci := 10) (v := .ref m_anew) (C := RX11) (T := TX11) (N := 21) hx hb hts (fun _ h => List.mem_cons_of_mem _ (inlX11 _ h)) hown hK hP 1 rfl rfl 19 (by decide) (hts _ (List.mem_cons_of_mem _ (in_r6 (List.mem_of_getElem? (i := 13) rfl)))) (fun _ h9 => h9) rfl dX11_givesDamp_37 ?_
        refine lv_bipush (v := iI 28) hx hb dX11_givesDamp_40 (by decide) ?_
        refine lv_iload_n hx hb dX11_givesDamp_42 rfl (lv_at hl 0 rfl) ?_
        refine lv_iadd hx hb dX11_givesDamp_43 ?_
        refine g_topi (y := iI (28 + d0__12)) (iI_add 28 d0__12) ?_
        refine lv_aload_n hx hb dX11_givesDamp_44 rfl (lv_at hl 1 rfl) ?_
        refine va_get (D := G.1) (ci := 10) (v := .ref m_values) (C := RX11) (T := TX11) (N := 21) hx hb hts (fun _ h => List.mem_cons_of_mem _ (inlX11 _ h)) hown hK hP 1 rfl rfl 20 (by decide) (hts _ (List.mem_cons_of_mem _ (in_r6 (List.mem_of_getElem? (i := 14) rfl)))) (fun _ h9 => h9) rfl dX11_givesDamp_45 ?_
        refine lv_iconst (v := iI 0) hx hb dX11_givesDamp_48 rfl ?_
        refine g_ild hx hb hK hP 3 rfl (by omega) (by omega) (by first | exact Nat.le_of_ble_eq_true rfl | omega) dX11_givesDamp_49 (fun w_52 ew_52 => ?_)
        have ew_52 : (uI Ev_13 0 (uV (b_30 : Int).toNat)) 0 = w_52 := ew_52
        rw [uI_eq] at ew_52
        subst ew_52
        refine g_ist hx hb hK hP hD hS 0 rfl (by omega) (by omega) (by first | exact Nat.le_of_ble_eq_true rfl | omega) dX11_givesDamp_50 (fun H locs hP hD hS => ?_)
        have hk_54 := bp_u (h := plA K0) (k := ((28 + d0__12).toNat)) (v := (uV (b_30 : Int).toNat)) f_21 (by omega) (Int.le_trans (show (uV (b_30 : Int).toNat) ≤ K0 by omega) (plAl_K (by omega) (by omega)))
        have hPD : PD G A H [(m_anew, .inl (G.2 0, 135, .inl (cI (uI En_14 ((28 + d0__12).toNat) (uV (b_30 : Int).toNat))))), (m0, .inr (10, [.ref m_all, .ref m_kept, .ref m_isKept, .ref m_refused, .long (lI m_above), .long (lI m_below), .ref m_hand, .ref m_fewest, .ref m_whoBites, .ref m_leaves, .ref m_bestFeast, .ref m_tells, .ref m_hardOn, .ref m_bytes, .int (iI m_bytesLong), .int (iI NtA_37), .int (iI NtL_38), .int (iI Ntk_39), .int (iI Nva_40), .ref m_anew, .ref m_values])), (m_bytes, .inl (G.2 0, 150, .inl (cI my))), (m_values, .inl (G.2 0, 3, .inl (cI (uI Ev_13 0 (uV (b_30 : Int).toNat)))))] := ⟨hP, hD⟩
        have hP := hPD.1
        have hD := hPD.2
        clear hPD
        refine lv_iinc (v := iI (d0__12 + 1)) (lv' := [(1, .int (iI (d0__12 + 1))), (0, .ref m0)]) hx hb dX11_givesDamp_51 hl (k := 0) rfl (iI_add d0__12 1) (by decide) rfl (fun ls hl => ?_)
        refine lv_goto (tgt := 6) hx hb dX11_givesDamp_54 (by decide) ?_
        have hP := hP.sub (ws' := [(m_values, .inl (G.2 0, 3, .inl (cI (uI Ev_13 0 (uV (b_30 : Int).toNat))))), (m_anew, .inl (G.2 0, 135, .inl (cI (uI En_14 ((28 + d0__12).toNat) (uV (b_30 : Int).toNat))))), (m0, .inr (10, [.ref m_all, .ref m_kept, .ref m_isKept, .ref m_refused, .long (lI m_above), .long (lI m_below), .ref m_hand, .ref m_fewest, .ref m_whoBites, .ref m_leaves, .ref m_bestFeast, .ref m_tells, .ref m_hardOn, .ref m_bytes, .int (iI m_bytesLong), .int (iI NtA_37), .int (iI NtL_38), .int (iI Ntk_39), .int (iI Nva_40), .ref m_anew, .ref m_values])), (m_bytes, .inl (G.2 0, 150, .inl (cI my)))]) [3, 0, 1, 2] rfl
        have hD := hD.sub (ws' := [(m_values, .inl (G.2 0, 3, .inl (cI (uI Ev_13 0 (uV (b_30 : Int).toNat))))), (m_anew, .inl (G.2 0, 135, .inl (cI (uI En_14 ((28 + d0__12).toNat) (uV (b_30 : Int).toNat))))), (m0, .inr (10, [.ref m_all, .ref m_kept, .ref m_isKept, .ref m_refused, .long (lI m_above), .long (lI m_below), .ref m_hand, .ref m_fewest, .ref m_whoBites, .ref m_leaves, .ref m_bestFeast, .ref m_tells, .ref m_hardOn, .ref m_bytes, .int (iI m_bytesLong), .int (iI NtA_37), .int (iI NtL_38), .int (iI Ntk_39), .int (iI Nva_40), .ref m_anew, .ref m_values])), (m_bytes, .inl (G.2 0, 150, .inl (cI my)))]) [3, 0, 1, 2] rfl rfl
        exact ih_27 _ _ _ _ (by omega) ⟨(d0__12 + 1), (uI Ev_13 0 (uV (b_30 : Int).toNat)), (uI En_14 ((28 + d0__12).toNat) (uV (b_30 : Int).toNat)), NtA_37, NtL_38, Ntk_39, Nva_40, (by first | assumption | omega), (by first | assumption | omega), (by first | exact hk_54 | exact bpA_mono hk_54 (by omega) | assumption), (by first | exact k_42 | assumption | omega), (by first | exact k_43 | assumption | omega), (by first | exact k_44 | assumption | omega), (by first | exact k_45 | assumption | omega), ⟨_, dmI_s hd_31 (by omega) (by omega) (by first | assumption | omega), by assumption, by omega⟩, rfl, hP, hD, hS, lv_sub hl [0, 1] rfl⟩
      · have hPD : PD G A H [(m_anew, .inl (G.2 0, 135, .inl (cI En_14))), (m0, .inr (10, [.ref m_all, .ref m_kept, .ref m_isKept, .ref m_refused, .long (lI m_above), .long (lI m_below), .ref m_hand, .ref m_fewest, .ref m_whoBites, .ref m_leaves, .ref m_bestFeast, .ref m_tells, .ref m_hardOn, .ref m_bytes, .int (iI m_bytesLong), .int (iI ta_15), .int (iI tl__16), .int (iI tk_17), .int (iI va_18), .ref m_anew, .ref m_values])), (m_bytes, .inl (G.2 0, 150, .inl (cI my))), (m_values, .inl (G.2 0, 3, .inl (cI Ev_13)))] := ⟨hP, hD⟩
        have hP := hPD.1
        have hD := hPD.2
        clear hPD
        refine lv_if_ne (tgt := 36) hx hb dX11_givesDamp_31 (by decide) (fun c_55 => g_no (by decide) c_55) (fun _ => ?_)
        refine lv_iconst (v := iI 0) hx hb dX11_givesDamp_34 rfl ?_
        have hP := hP.sub (ws' := [(m0, .inr (10, [.ref m_all, .ref m_kept, .ref m_isKept, .ref m_refused, .long (lI m_above), .long (lI m_below), .ref m_hand, .ref m_fewest, .ref m_whoBites, .ref m_leaves, .ref m_bestFeast, .ref m_tells, .ref m_hardOn, .ref m_bytes, .int (iI m_bytesLong), .int (iI ta_15), .int (iI tl__16), .int (iI tk_17), .int (iI va_18), .ref m_anew, .ref m_values])), (m_bytes, .inl (G.2 0, 150, .inl (cI my))), (m_values, .inl (G.2 0, 3, .inl (cI Ev_13))), (m_anew, .inl (G.2 0, 135, .inl (cI En_14)))]) [1, 2, 3, 0] rfl
        have hD := hD.sub (ws' := [(m0, .inr (10, [.ref m_all, .ref m_kept, .ref m_isKept, .ref m_refused, .long (lI m_above), .long (lI m_below), .ref m_hand, .ref m_fewest, .ref m_whoBites, .ref m_leaves, .ref m_bestFeast, .ref m_tells, .ref m_hardOn, .ref m_bytes, .int (iI m_bytesLong), .int (iI ta_15), .int (iI tl__16), .int (iI tk_17), .int (iI va_18), .ref m_anew, .ref m_values])), (m_bytes, .inl (G.2 0, 150, .inl (cI my))), (m_values, .inl (G.2 0, 3, .inl (cI Ev_13))), (m_anew, .inl (G.2 0, 135, .inl (cI En_14)))]) [1, 2, 3, 0] rfl rfl
        exact g_zret (v := (iI 0)) hx hb hr hlocks rfl hP hD hS (Or.inr (⟨ta_15, tl__16, tk_17, va_18, Ev_13, En_14, b_30, (by rw [cIt_5 h5]; exact (dmI_r hd_31 (by omega) (by omega) (by omega) (ra_ns hr_32 (by omega)))), (by first | exact f_22 | assumption | omega), (by first | exact f_23 | assumption | omega), (by first | exact f_24 | assumption | omega), (by first | exact f_25 | assumption | omega), (by first | exact f_20 | assumption | omega), (by first | exact hr_32 | assumption | omega), (by first | assumption | omega), (by first | exact f_21 | exact bpA_mono f_21 (by omega) | assumption), rfl, rfl⟩)) dX11_givesDamp_35
  · have c_34 : ¬ (d0__12 = 0) := fun h9 => c_34 ((iI_eq (a := d0__12) (b := 0) (by omega) (by first | decide | omega)).mpr h9)
    refine lv_aload_n hx hb dX11_givesDamp_10 rfl (lv_at hl 1 rfl) ?_
    refine va_get (D := G.1) (ci := 10) (v := .int (iI tk_17)) (C := RX11) (T := TX11) (N := 21) hx hb hts (fun _ h => List.mem_cons_of_mem _ (inlX11 _ h)) hown hK hP 2 rfl rfl 17 (by decide) (hts _ (List.mem_cons_of_mem _ (in_r19 (List.mem_of_getElem? (i := 9) rfl)))) (fun _ h9 => h9) rfl dX11_givesDamp_11 ?_
    refine lv_iconst (v := iI 3) hx hb dX11_givesDamp_14 rfl ?_
    refine lv_icmp_eq (tgt := 57) hx hb dX11_givesDamp_15 (by decide) (fun c_56 => ?_) (fun c_56 => ?_)
    · have c_56 := (iI_eq (a := tk_17) (b := 3) (by omega) (by first | decide | omega)).mp c_56
      refine lv_iconst (v := iI 1) hx hb dX11_givesDamp_57 rfl ?_
      have hP := hP.sub (ws' := [(m0, .inr (10, [.ref m_all, .ref m_kept, .ref m_isKept, .ref m_refused, .long (lI m_above), .long (lI m_below), .ref m_hand, .ref m_fewest, .ref m_whoBites, .ref m_leaves, .ref m_bestFeast, .ref m_tells, .ref m_hardOn, .ref m_bytes, .int (iI m_bytesLong), .int (iI ta_15), .int (iI tl__16), .int (iI tk_17), .int (iI va_18), .ref m_anew, .ref m_values])), (m_bytes, .inl (G.2 0, 150, .inl (cI my))), (m_values, .inl (G.2 0, 3, .inl (cI Ev_13))), (m_anew, .inl (G.2 0, 135, .inl (cI En_14)))]) [2, 3, 0, 1] rfl
      have hD := hD.sub (ws' := [(m0, .inr (10, [.ref m_all, .ref m_kept, .ref m_isKept, .ref m_refused, .long (lI m_above), .long (lI m_below), .ref m_hand, .ref m_fewest, .ref m_whoBites, .ref m_leaves, .ref m_bestFeast, .ref m_tells, .ref m_hardOn, .ref m_bytes, .int (iI m_bytesLong), .int (iI ta_15), .int (iI tl__16), .int (iI tk_17), .int (iI va_18), .ref m_anew, .ref m_values])), (m_bytes, .inl (G.2 0, 150, .inl (cI my))), (m_values, .inl (G.2 0, 3, .inl (cI Ev_13))), (m_anew, .inl (G.2 0, 135, .inl (cI En_14)))]) [2, 3, 0, 1] rfl rfl
      exact g_zret (v := (iI 1)) hx hb hr hlocks rfl hP hD hS (Or.inl ⟨ta_15, tl__16, tk_17, va_18, Ev_13, En_14, b_30, (by rw [cIt_5 h5]; exact (dmI_x hd_31 (by omega) (by omega) (by omega) hr_32 (by omega))), (by first | exact f_22 | assumption | omega), (by first | exact f_23 | assumption | omega), (by first | exact f_24 | assumption | omega), (by first | exact f_25 | assumption | omega), (by first | exact f_20 | assumption | omega), (by first | exact hr_32 | assumption | omega), (by first | assumption | omega), (by first | exact f_21 | exact bpA_mono f_21 (by omega) | assumption), rfl, rfl⟩) dX11_givesDamp_58
    · have c_56 : ¬ (tk_17 = 3) := fun h9 => c_56 ((iI_eq (a := tk_17) (b := 3) (by omega) (by first | decide | omega)).mpr h9)
      refine lv_iload_n hx hb dX11_givesDamp_18 rfl (lv_at hl 0 rfl) ?_
      refine lv_bipush (v := iI 6) hx hb dX11_givesDamp_19 (by decide) ?_
      refine lv_icmp_eq (tgt := 34) hx hb dX11_givesDamp_21 (by decide) (fun c_57 => ?_) (fun c_57 => ?_)
      · have c_57 := (iI_eq (a := d0__12) (b := 6) (by omega) (by first | decide | omega)).mp c_57
        refine lv_iconst (v := iI 0) hx hb dX11_givesDamp_34 rfl ?_
        have hP := hP.sub (ws' := [(m0, .inr (10, [.ref m_all, .ref m_kept, .ref m_isKept, .ref m_refused, .long (lI m_above), .long (lI m_below), .ref m_hand, .ref m_fewest, .ref m_whoBites, .ref m_leaves, .ref m_bestFeast, .ref m_tells, .ref m_hardOn, .ref m_bytes, .int (iI m_bytesLong), .int (iI ta_15), .int (iI tl__16), .int (iI tk_17), .int (iI va_18), .ref m_anew, .ref m_values])), (m_bytes, .inl (G.2 0, 150, .inl (cI my))), (m_values, .inl (G.2 0, 3, .inl (cI Ev_13))), (m_anew, .inl (G.2 0, 135, .inl (cI En_14)))]) [2, 3, 0, 1] rfl
        have hD := hD.sub (ws' := [(m0, .inr (10, [.ref m_all, .ref m_kept, .ref m_isKept, .ref m_refused, .long (lI m_above), .long (lI m_below), .ref m_hand, .ref m_fewest, .ref m_whoBites, .ref m_leaves, .ref m_bestFeast, .ref m_tells, .ref m_hardOn, .ref m_bytes, .int (iI m_bytesLong), .int (iI ta_15), .int (iI tl__16), .int (iI tk_17), .int (iI va_18), .ref m_anew, .ref m_values])), (m_bytes, .inl (G.2 0, 150, .inl (cI my))), (m_values, .inl (G.2 0, 3, .inl (cI Ev_13))), (m_anew, .inl (G.2 0, 135, .inl (cI En_14)))]) [2, 3, 0, 1] rfl rfl
        exact g_zret (v := (iI 0)) hx hb hr hlocks rfl hP hD hS (Or.inr (⟨ta_15, tl__16, tk_17, va_18, Ev_13, En_14, b_30, (by rw [cIt_5 h5]; exact (dmI_r hd_31 (by omega) (by omega) (by omega) (ra_ns hr_32 (by omega)))), (by first | exact f_22 | assumption | omega), (by first | exact f_23 | assumption | omega), (by first | exact f_24 | assumption | omega), (by first | exact f_25 | assumption | omega), (by first | exact f_20 | assumption | omega), (by first | exact hr_32 | assumption | omega), (by first | assumption | omega), (by first | exact f_21 | exact bpA_mono f_21 (by omega) | assumption), rfl, rfl⟩)) dX11_givesDamp_35
      · have c_57 : ¬ (d0__12 = 6) := fun h9 => c_57 ((iI_eq (a := d0__12) (b := 6) (by omega) (by first | decide | omega)).mpr h9)
        refine lv_aload_n hx hb dX11_givesDamp_24 rfl (lv_at hl 1 rfl) ?_
        refine lv_iconst (v := iI 0) hx hb dX11_givesDamp_25 rfl ?_
        refine lv_iconst (v := iI 0) hx hb dX11_givesDamp_26 rfl ?_
        refine lv_iconst (v := iI 4) hx hb dX11_givesDamp_27 rfl ?_
        refine g_calli (wr := [(m_anew, .inl (G.2 0, 135, .inl (cI En_14)))]) (va_runV (As := [.int (iI 0), .int (iI 0), .int (iI 4)]) (rest := []) ⟨hx, hb, hml, hown, hts⟩ (c_X11_gives0 l G (m0) (m_all) (m_kept) (m_isKept) (m_refused) (m_above) (m_below) (m_hand) (m_fewest) (m_whoBites) (m_leaves) (m_bestFeast) (m_tells) (m_hardOn) (m_bytes) (m_bytesLong) (ta_15) (tl__16) (tk_17) (va_18) (m_anew) (m_values) (my) (Ev_13) (uS) (uA) (uV) (uE) (n0) (b_30) (0) (4) (by first | exact y0_ | exact bd_mono y0_ (by omega) (by omega) | assumption) (by first | exact hL | assumption | omega) (by first | exact f_22 | assumption | omega) (by first | exact f_23 | assumption | omega) (by first | exact f_24 | assumption | omega) (by first | exact f_25 | assumption | omega) (by first | exact hch | assumption | omega) (by first | exact hr_32 | assumption | omega) (by first | assumption | omega) (by first | assumption | omega) (by first | assumption | omega) _) (cwV 3 hts gX11_givesDamp_X11_gives rfl rfl rfl (by decide +kernel) ⟨Nat.le_of_ble_eq_true rfl, Nat.le_of_ble_eq_true rfl⟩) (g_preV m0 [.int (iI 0), .int (iI 0), .int (iI 4)] hP hD hK hN hS hA hZ [2, 3, 0] rfl rfl 2 (ci := 10) rfl rfl) rfl rfl hl.1 rfl (lv_room (Nat.le_of_ble_eq_true rfl)) dX11_givesDamp_28 ⟨Nat.le_of_ble_eq_true rfl, Nat.le_of_ble_eq_true rfl⟩) hP hD hS hA [2, 3, 0] [1] rfl rfl rfl (by decide) (fun r_58 u H locs hw hP hD hS => ?_)
        rcases hw with ⟨NtA_59, NtL_60, Ntk_61, Nva_62, nv_63, rfl, k_64, k_65, k_66, k_67, k_68, k_69, k_70, k_71, rfl, rfl⟩ | ⟨k_72, rfl, rfl⟩
        · have hPD : PD G A H [(m_anew, .inl (G.2 0, 135, .inl (cI En_14))), (m0, .inr (10, [.ref m_all, .ref m_kept, .ref m_isKept, .ref m_refused, .long (lI m_above), .long (lI m_below), .ref m_hand, .ref m_fewest, .ref m_whoBites, .ref m_leaves, .ref m_bestFeast, .ref m_tells, .ref m_hardOn, .ref m_bytes, .int (iI m_bytesLong), .int (iI NtA_59), .int (iI NtL_60), .int (iI Ntk_61), .int (iI Nva_62), .ref m_anew, .ref m_values])), (m_bytes, .inl (G.2 0, 150, .inl (cI my))), (m_values, .inl (G.2 0, 3, .inl (cI (uI Ev_13 0 (uV (b_30 : Int).toNat)))))] := ⟨hP, hD⟩
          have hP := hPD.1
          have hD := hPD.2
          clear hPD
          refine lv_if_ne (tgt := 36) hx hb dX11_givesDamp_31 (by decide) (fun _ => ?_) (fun c_73 => g_no c_73 (by decide))
          refine lv_aload_n hx hb dX11_givesDamp_36 rfl (lv_at hl 1 rfl) ?_
          refine va_get (D := G.1) (ci := 10) (v := .ref m_anew) (C := RX11) (T := TX11) (N := 21) hx hb hts (fun _ h => List.mem_cons_of_mem _ (inlX11 _ h)) hown hK hP 1 rfl rfl 19 (by decide) (hts _ (List.mem_cons_of_mem _ (in_r6 (List.mem_of_getElem? (i := 13) rfl)))) (fun _ h9 => h9) rfl dX11_givesDamp_37 ?_
          refine lv_bipush (v := iI 28) hx hb dX11_givesDamp_40 (by decide) ?_
          refine lv_iload_n hx hb dX11_givesDamp_42 rfl (lv_at hl 0 rfl) ?_
          refine lv_iadd hx hb dX11_givesDamp_43 ?_
          refine g_topi (y := iI (28 + d0__12)) (iI_add 28 d0__12) ?_
          refine lv_aload_n hx hb dX11_givesDamp_44 rfl (lv_at hl 1 rfl) ?_
          refine va_get (D := G.1) (ci := 10) (v := .ref m_values) (C := RX11) (T := TX11) (N := 21) hx hb hts (fun _ h => List.mem_cons_of_mem _ (inlX11 _ h)) hown hK hP 1 rfl rfl 20 (by decide) (hts _ (List.mem_cons_of_mem _ (in_r6 (List.mem_of_getElem? (i := 14) rfl)))) (fun _ h9 => h9) rfl dX11_givesDamp_45 ?_
          refine lv_iconst (v := iI 0) hx hb dX11_givesDamp_48 rfl ?_
          refine g_ild hx hb hK hP 3 rfl (by omega) (by omega) (by first | exact Nat.le_of_ble_eq_true rfl | omega) dX11_givesDamp_49 (fun w_74 ew_74 => ?_)
          have ew_74 : (uI Ev_13 0 (uV (b_30 : Int).toNat)) 0 = w_74 := ew_74
          rw [uI_eq] at ew_74
          subst ew_74
          refine g_ist hx hb hK hP hD hS 0 rfl (by omega) (by omega) (by first | exact Nat.le_of_ble_eq_true rfl | omega) dX11_givesDamp_50 (fun H locs hP hD hS => ?_)
          have hk_76 := bp_u (h := plA K0) (k := ((28 + d0__12).toNat)) (v := (uV (b_30 : Int).toNat)) f_21 (by omega) (Int.le_trans (show (uV (b_30 : Int).toNat) ≤ K0 by omega) (plAl_K (by omega) (by omega)))
          have hPD : PD G A H [(m_anew, .inl (G.2 0, 135, .inl (cI (uI En_14 ((28 + d0__12).toNat) (uV (b_30 : Int).toNat))))), (m0, .inr (10, [.ref m_all, .ref m_kept, .ref m_isKept, .ref m_refused, .long (lI m_above), .long (lI m_below), .ref m_hand, .ref m_fewest, .ref m_whoBites, .ref m_leaves, .ref m_bestFeast, .ref m_tells, .ref m_hardOn, .ref m_bytes, .int (iI m_bytesLong), .int (iI NtA_59), .int (iI NtL_60), .int (iI Ntk_61), .int (iI Nva_62), .ref m_anew, .ref m_values])), (m_bytes, .inl (G.2 0, 150, .inl (cI my))), (m_values, .inl (G.2 0, 3, .inl (cI (uI Ev_13 0 (uV (b_30 : Int).toNat)))))] := ⟨hP, hD⟩
          have hP := hPD.1
          have hD := hPD.2
          clear hPD
          refine lv_iinc (v := iI (d0__12 + 1)) (lv' := [(1, .int (iI (d0__12 + 1))), (0, .ref m0)]) hx hb dX11_givesDamp_51 hl (k := 0) rfl (iI_add d0__12 1) (by decide) rfl (fun ls hl => ?_)
          refine lv_goto (tgt := 6) hx hb dX11_givesDamp_54 (by decide) ?_
          have hP := hP.sub (ws' := [(m_values, .inl (G.2 0, 3, .inl (cI (uI Ev_13 0 (uV (b_30 : Int).toNat))))), (m_anew, .inl (G.2 0, 135, .inl (cI (uI En_14 ((28 + d0__12).toNat) (uV (b_30 : Int).toNat))))), (m0, .inr (10, [.ref m_all, .ref m_kept, .ref m_isKept, .ref m_refused, .long (lI m_above), .long (lI m_below), .ref m_hand, .ref m_fewest, .ref m_whoBites, .ref m_leaves, .ref m_bestFeast, .ref m_tells, .ref m_hardOn, .ref m_bytes, .int (iI m_bytesLong), .int (iI NtA_59), .int (iI NtL_60), .int (iI Ntk_61), .int (iI Nva_62), .ref m_anew, .ref m_values])), (m_bytes, .inl (G.2 0, 150, .inl (cI my)))]) [3, 0, 1, 2] rfl
          have hD := hD.sub (ws' := [(m_values, .inl (G.2 0, 3, .inl (cI (uI Ev_13 0 (uV (b_30 : Int).toNat))))), (m_anew, .inl (G.2 0, 135, .inl (cI (uI En_14 ((28 + d0__12).toNat) (uV (b_30 : Int).toNat))))), (m0, .inr (10, [.ref m_all, .ref m_kept, .ref m_isKept, .ref m_refused, .long (lI m_above), .long (lI m_below), .ref m_hand, .ref m_fewest, .ref m_whoBites, .ref m_leaves, .ref m_bestFeast, .ref m_tells, .ref m_hardOn, .ref m_bytes, .int (iI m_bytesLong), .int (iI NtA_59), .int (iI NtL_60), .int (iI Ntk_61), .int (iI Nva_62), .ref m_anew, .ref m_values])), (m_bytes, .inl (G.2 0, 150, .inl (cI my)))]) [3, 0, 1, 2] rfl rfl
          exact ih_27 _ _ _ _ (by omega) ⟨(d0__12 + 1), (uI Ev_13 0 (uV (b_30 : Int).toNat)), (uI En_14 ((28 + d0__12).toNat) (uV (b_30 : Int).toNat)), NtA_59, NtL_60, Ntk_61, Nva_62, (by first | assumption | omega), (by first | assumption | omega), (by first | exact hk_76 | exact bpA_mono hk_76 (by omega) | assumption), (by first | exact k_64 | assumption | omega), (by first | exact k_65 | assumption | omega), (by first | exact k_66 | assumption | omega), (by first | exact k_67 | assumption | omega), ⟨_, dmI_s hd_31 (by omega) (by omega) (by first | assumption | omega), by assumption, by omega⟩, rfl, hP, hD, hS, lv_sub hl [0, 1] rfl⟩
        · have hPD : PD G A H [(m_anew, .inl (G.2 0, 135, .inl (cI En_14))), (m0, .inr (10, [.ref m_all, .ref m_kept, .ref m_isKept, .ref m_refused, .long (lI m_above), .long (lI m_below), .ref m_hand, .ref m_fewest, .ref m_whoBites, .ref m_leaves, .ref m_bestFeast, .ref m_tells, .ref m_hardOn, .ref m_bytes, .int (iI m_bytesLong), .int (iI ta_15), .int (iI tl__16), .int (iI tk_17), .int (iI va_18), .ref m_anew, .ref m_values])), (m_bytes, .inl (G.2 0, 150, .inl (cI my))), (m_values, .inl (G.2 0, 3, .inl (cI Ev_13)))] := ⟨hP, hD⟩
          have hP := hPD.1
          have hD := hPD.2
          clear hPD
          refine lv_if_ne (tgt := 36) hx hb dX11_givesDamp_31 (by decide) (fun c_77 => g_no (by decide) c_77) (fun _ => ?_)
          refine lv_iconst (v := iI 0) hx hb dX11_givesDamp_34 rfl ?_
          have hP := hP.sub (ws' := [(m0, .inr (10, [.ref m_all, .ref m_kept, .ref m_isKept, .ref m_refused, .long (lI m_above), .long (lI m_below), .ref m_hand, .ref m_fewest, .ref m_whoBites, .ref m_leaves, .ref m_bestFeast, .ref m_tells, .ref m_hardOn, .ref m_bytes, .int (iI m_bytesLong), .int (iI ta_15), .int (iI tl__16), .int (iI tk_17), .int (iI va_18), .ref m_anew, .ref m_values])), (m_bytes, .inl (G.2 0, 150, .inl (cI my))), (m_values, .inl (G.2 0, 3, .inl (cI Ev_13))), (m_anew, .inl (G.2 0, 135, .inl (cI En_14)))]) [1, 2, 3, 0] rfl
          have hD := hD.sub (ws' := [(m0, .inr (10, [.ref m_all, .ref m_kept, .ref m_isKept, .ref m_refused, .long (lI m_above), .long (lI m_below), .ref m_hand, .ref m_fewest, .ref m_whoBites, .ref m_leaves, .ref m_bestFeast, .ref m_tells, .ref m_hardOn, .ref m_bytes, .int (iI m_bytesLong), .int (iI ta_15), .int (iI tl__16), .int (iI tk_17), .int (iI va_18), .ref m_anew, .ref m_values])), (m_bytes, .inl (G.2 0, 150, .inl (cI my))), (m_values, .inl (G.2 0, 3, .inl (cI Ev_13))), (m_anew, .inl (G.2 0, 135, .inl (cI En_14)))]) [1, 2, 3, 0] rfl rfl
          exact g_zret (v := (iI 0)) hx hb hr hlocks rfl hP hD hS (Or.inr (⟨ta_15, tl__16, tk_17, va_18, Ev_13, En_14, b_30, (by rw [cIt_5 h5]; exact (dmI_r hd_31 (by omega) (by omega) (by omega) (ra_ns hr_32 (by omega)))), (by first | exact f_22 | assumption | omega), (by first | exact f_23 | assumption | omega), (by first | exact f_24 | assumption | omega), (by first | exact f_25 | assumption | omega), (by first | exact f_20 | assumption | omega), (by first | exact hr_32 | assumption | omega), (by first | assumption | omega), (by first | exact f_21 | exact bpA_mono f_21 (by omega) | assumption), rfl, rfl⟩)) dX11_givesDamp_35
theorem dX11_givesApple_0 : decode cX11_givesApple 0 = .ok (.aload_n 0, 1) := kd_42 (by decide +kernel)
theorem dX11_givesApple_1 : decode cX11_givesApple 1 = .ok (.getfield 51, 3) := kd_180 (a := 0) (b := 51) (by decide +kernel)
theorem dX11_givesApple_4 : decode cX11_givesApple 4 = .ok (.iconst 0, 1) := kd_3 (by decide +kernel)
theorem dX11_givesApple_5 : decode cX11_givesApple 5 = .ok (.iaload, 1) := kd_46 (by decide +kernel)
theorem dX11_givesApple_6 : decode cX11_givesApple 6 = .ok (.bipush 7, 2) := kd_16 (a := 7) (by decide +kernel)
theorem dX11_givesApple_8 : decode cX11_givesApple 8 = .ok (.if_icmp .ne 5, 3) := kd_160 (a := 0) (b := 5) (by decide +kernel)
theorem dX11_givesApple_13 : decode cX11_givesApple 13 = .ok (.aload_n 0, 1) := kd_42 (by decide +kernel)
theorem gX11_givesApple_X11_goBehind : GoodIn wsX11_givesApple (wsV RX11 265 RX11 yX11_goBehind wsX11_goBehind) := gW_V (in_r20 (List.mem_of_getElem? (i := 6) rfl)) (in_r20 (List.mem_of_getElem? (i := 7) rfl)) (in_r20 (List.mem_of_getElem? (i := 8) rfl)) (in_r1 (List.mem_of_getElem? (i := 5) rfl)) (in_r20 (List.mem_of_getElem? (i := 9) rfl))
theorem dX11_givesApple_14 : decode cX11_givesApple 14 = .ok (.invokevirtual 265, 3) := kd_182 (a := 1) (b := 9) (by decide +kernel)
theorem dX11_givesApple_17 : decode cX11_givesApple 17 = .ok (.aload_n 0, 1) := kd_42 (by decide +kernel)
theorem dX11_givesApple_18 : decode cX11_givesApple 18 = .ok (.iconst 0, 1) := kd_3 (by decide +kernel)
theorem dX11_givesApple_19 : decode cX11_givesApple 19 = .ok (.iconst 0, 1) := kd_3 (by decide +kernel)
theorem dX11_givesApple_20 : decode cX11_givesApple 20 = .ok (.iconst 5, 1) := kd_8 (by decide +kernel)
theorem gX11_givesApple_X11_gives : GoodIn wsX11_givesApple (wsV RX11 268 RX11 yX11_gives wsX11_gives) := gW_V (in_r20 (List.mem_of_getElem? (i := 18) rfl)) (in_r20 (List.mem_of_getElem? (i := 19) rfl)) (in_r20 (List.mem_of_getElem? (i := 20) rfl)) (in_r1 (List.mem_of_getElem? (i := 5) rfl)) (in_r20 (List.mem_of_getElem? (i := 21) rfl))
theorem dX11_givesApple_21 : decode cX11_givesApple 21 = .ok (.invokevirtual 268, 3) := kd_182 (a := 1) (b := 12) (by decide +kernel)
theorem dX11_givesApple_24 : decode cX11_givesApple 24 = .ok (.ifCond .eq 25, 3) := kd_153 (a := 0) (b := 25) (by decide +kernel)
theorem dX11_givesApple_27 : decode cX11_givesApple 27 = .ok (.aload_n 0, 1) := kd_42 (by decide +kernel)
theorem dX11_givesApple_28 : decode cX11_givesApple 28 = .ok (.iconst 1, 1) := kd_4 (by decide +kernel)
theorem dX11_givesApple_29 : decode cX11_givesApple 29 = .ok (.iconst 1, 1) := kd_4 (by decide +kernel)
theorem dX11_givesApple_30 : decode cX11_givesApple 30 = .ok (.bipush 30, 2) := kd_16 (a := 30) (by decide +kernel)
theorem dX11_givesApple_32 : decode cX11_givesApple 32 = .ok (.invokevirtual 268, 3) := kd_182 (a := 1) (b := 12) (by decide +kernel)
theorem dX11_givesApple_35 : decode cX11_givesApple 35 = .ok (.ifCond .eq 14, 3) := kd_153 (a := 0) (b := 14) (by decide +kernel)
theorem dX11_givesApple_38 : decode cX11_givesApple 38 = .ok (.aload_n 0, 1) := kd_42 (by decide +kernel)
theorem dX11_givesApple_39 : decode cX11_givesApple 39 = .ok (.iconst 2, 1) := kd_5 (by decide +kernel)
theorem dX11_givesApple_40 : decode cX11_givesApple 40 = .ok (.iconst 0, 1) := kd_3 (by decide +kernel)
theorem dX11_givesApple_41 : decode cX11_givesApple 41 = .ok (.bipush 99, 2) := kd_16 (a := 99) (by decide +kernel)
theorem dX11_givesApple_43 : decode cX11_givesApple 43 = .ok (.invokevirtual 268, 3) := kd_182 (a := 1) (b := 12) (by decide +kernel)
theorem dX11_givesApple_46 : decode cX11_givesApple 46 = .ok (.ifCond .ne 5, 3) := kd_154 (a := 0) (b := 5) (by decide +kernel)
theorem dX11_givesApple_51 : decode cX11_givesApple 51 = .ok (.aload_n 0, 1) := kd_42 (by decide +kernel)
theorem dX11_givesApple_52 : decode cX11_givesApple 52 = .ok (.getfield 51, 3) := kd_180 (a := 0) (b := 51) (by decide +kernel)
theorem dX11_givesApple_55 : decode cX11_givesApple 55 = .ok (.aload_n 0, 1) := kd_42 (by decide +kernel)
theorem dX11_givesApple_56 : decode cX11_givesApple 56 = .ok (.getfield 54, 3) := kd_180 (a := 0) (b := 54) (by decide +kernel)
theorem dX11_givesApple_59 : decode cX11_givesApple 59 = .ok (.iconst 0, 1) := kd_3 (by decide +kernel)
theorem dX11_givesApple_60 : decode cX11_givesApple 60 = .ok (.iaload, 1) := kd_46 (by decide +kernel)
theorem dX11_givesApple_61 : decode cX11_givesApple 61 = .ok (.aload_n 0, 1) := kd_42 (by decide +kernel)
theorem dX11_givesApple_62 : decode cX11_givesApple 62 = .ok (.getfield 54, 3) := kd_180 (a := 0) (b := 54) (by decide +kernel)
theorem dX11_givesApple_65 : decode cX11_givesApple 65 = .ok (.iconst 1, 1) := kd_4 (by decide +kernel)
theorem dX11_givesApple_66 : decode cX11_givesApple 66 = .ok (.iaload, 1) := kd_46 (by decide +kernel)
theorem dX11_givesApple_67 : decode cX11_givesApple 67 = .ok (.aload_n 0, 1) := kd_42 (by decide +kernel)
theorem dX11_givesApple_68 : decode cX11_givesApple 68 = .ok (.getfield 54, 3) := kd_180 (a := 0) (b := 54) (by decide +kernel)
theorem dX11_givesApple_71 : decode cX11_givesApple 71 = .ok (.iconst 2, 1) := kd_5 (by decide +kernel)
theorem dX11_givesApple_72 : decode cX11_givesApple 72 = .ok (.iaload, 1) := kd_46 (by decide +kernel)
theorem gX11_givesApple_X11_layApple : GoodIn wsX11_givesApple (va_wsS RX11 93 yX11_layApple wsX11_layApple) := gW_S (in_r9 (List.mem_of_getElem? (i := 21) rfl)) (in_r9 (List.mem_of_getElem? (i := 22) rfl)) (in_r1 (List.mem_of_getElem? (i := 5) rfl)) (in_r9 (List.mem_of_getElem? (i := 23) rfl))
theorem dX11_givesApple_73 : decode cX11_givesApple 73 = .ok (.invokestatic 93, 3) := kd_184 (a := 0) (b := 93) (by decide +kernel)
theorem dX11_givesApple_76 : decode cX11_givesApple 76 = .ok (.iconst 1, 1) := kd_4 (by decide +kernel)
theorem dX11_givesApple_77 : decode cX11_givesApple 77 = .ok (.ireturn, 1) := kd_172 (by decide +kernel)
theorem dX11_givesApple_49 : decode cX11_givesApple 49 = .ok (.iconst 0, 1) := kd_3 (by decide +kernel)
theorem dX11_givesApple_50 : decode cX11_givesApple 50 = .ok (.ireturn, 1) := kd_172 (by decide +kernel)
theorem dX11_givesApple_11 : decode cX11_givesApple 11 = .ok (.iconst 0, 1) := kd_3 (by decide +kernel)
theorem dX11_givesApple_12 : decode cX11_givesApple 12 = .ok (.ireturn, 1) := kd_172 (by decide +kernel)
set_option maxHeartbeats 8000000 in
set_option maxRecDepth 100000 in
theorem c_X11_givesApple (l : Launch) (G : gG) (m0 : Nat) (m_all : Nat) (m_kept : Nat) (m_isKept : Nat) (m_refused : Nat) (m_above : Int) (m_below : Int) (m_hand : Nat) (m_fewest : Nat) (m_whoBites : Nat) (m_leaves : Nat) (m_bestFeast : Nat) (m_tells : Nat) (m_hardOn : Nat) (m_bytes : Nat) (m_bytesLong : Int) (m_tokenAt : Int) (m_tokenLong : Int) (m_token : Int) (m_value : Int) (m_anew : Nat) (m_values : Nat) (my : Nat → Int) (mv : Nat → Int) (mn : Nat → Int) (K0 : Int) (uS : Nat → Int) (uA : Nat → Int) (uV : Nat → Int) (uE : Nat → Int) (n0 : Int) (j0 : Int) (y0_ : bd 0 127 my) (y1_ : bp (plA K0) mn) (hL : 0 ≤ m_bytesLong ∧ m_bytesLong ≤ 150) (i0_ : 0 ≤ m_tokenAt ∧ 0 ≤ m_tokenLong ∧ m_tokenAt + m_tokenLong ≤ m_bytesLong) (i1_ : 0 ≤ m_token ∧ m_token ≤ 4) (i2_ : m_token = 0 ∨ 1 ≤ m_tokenLong) (i3_ : -2000 ≤ m_value ∧ m_value ≤ 2000) (hch : chF my m_bytesLong uS uA uV n0 uE) (hra : ra my uS uA uV uE j0 m_tokenAt m_tokenLong m_token m_value) (hj : 0 ≤ j0 ∧ j0 < n0) (hK0 : 1000 ≤ K0 ∧ K0 ≤ 1900000) (h5 : uS (j0 : Int).toNat = 6) (sz : Nat) : gI G l yX11_givesApple wsX11_givesApple ({ frames := 5, cells := 0, slots := 0, locals := 112 } : Room) [.ref m0] [(m0, .inr (10, [.ref m_all, .ref m_kept, .ref m_isKept, .ref m_refused, .long (lI m_above), .long (lI m_below), .ref m_hand, .ref m_fewest, .ref m_whoBites, .ref m_leaves, .ref m_bestFeast, .ref m_tells, .ref m_hardOn, .ref m_bytes, .int (iI m_bytesLong), .int (iI m_tokenAt), .int (iI m_tokenLong), .int (iI m_token), .int (iI m_value), .ref m_anew, .ref m_values])), (m_bytes, .inl (G.2 0, 150, .inl (cI my))), (m_values, .inl (G.2 0, 3, .inl (cI mv))), (m_anew, .inl (G.2 0, 135, .inl (cI mn)))] sz (fun (r : Int32) (u : va_W) => (∃ NtA : Int, ∃ NtL : Int, ∃ Ntk : Int, ∃ Nva : Int, ∃ N_v : Nat → Int, ∃ N_n : Nat → Int, ∃ jN : Int, (MOk (cIt uS uV mn j0) jN N_n) ∧ (0 ≤ NtA ∧ 0 ≤ NtL ∧ NtA + NtL ≤ m_bytesLong) ∧ (0 ≤ Ntk ∧ Ntk ≤ 4) ∧ (Ntk = 0 ∨ 1 ≤ NtL) ∧ (-2000 ≤ Nva ∧ Nva ≤ 2000) ∧ (m_tokenAt ≤ NtA) ∧ (ra my uS uA uV uE jN NtA NtL Ntk Nva) ∧ (j0 < jN ∧ jN < n0) ∧ (bp (plA (K0 + 99)) N_n) ∧ r = (iI 1) ∧ u = [(m0, .inr (10, [.ref m_all, .ref m_kept, .ref m_isKept, .ref m_refused, .long (lI m_above), .long (lI m_below), .ref m_hand, .ref m_fewest, .ref m_whoBites, .ref m_leaves, .ref m_bestFeast, .ref m_tells, .ref m_hardOn, .ref m_bytes, .int (iI m_bytesLong), .int (iI NtA), .int (iI NtL), .int (iI Ntk), .int (iI Nva), .ref m_anew, .ref m_values])), (m_bytes, .inl (G.2 0, 150, .inl (cI my))), (m_values, .inl (G.2 0, 3, .inl (cI N_v))), (m_anew, .inl (G.2 0, 135, .inl (cI N_n)))]) ∨ (∃ NtA : Int, ∃ NtL : Int, ∃ Ntk : Int, ∃ Nva : Int, ∃ N_v : Nat → Int, ∃ N_n : Nat → Int, ∃ jN : Int, (INo uS (cIt uS uV mn j0) jN) ∧ (0 ≤ NtA ∧ 0 ≤ NtL ∧ NtA + NtL ≤ m_bytesLong) ∧ (0 ≤ Ntk ∧ Ntk ≤ 4) ∧ (Ntk = 0 ∨ 1 ≤ NtL) ∧ (-2000 ≤ Nva ∧ Nva ≤ 2000) ∧ (m_tokenAt ≤ NtA) ∧ (ra my uS uA uV uE jN NtA NtL Ntk Nva) ∧ (0 ≤ jN ∧ jN < n0) ∧ (bp (plA (K0 + 99)) N_n) ∧ r = (iI 0) ∧ u = [(m0, .inr (10, [.ref m_all, .ref m_kept, .ref m_isKept, .ref m_refused, .long (lI m_above), .long (lI m_below), .ref m_hand, .ref m_fewest, .ref m_whoBites, .ref m_leaves, .ref m_bestFeast, .ref m_tells, .ref m_hardOn, .ref m_bytes, .int (iI m_bytesLong), .int (iI NtA), .int (iI NtL), .int (iI Ntk), .int (iI Nva), .ref m_anew, .ref m_values])), (m_bytes, .inl (G.2 0, 150, .inl (cI my))), (m_values, .inl (G.2 0, 3, .inl (cI N_v))), (m_anew, .inl (G.2 0, 135, .inl (cI N_n)))])) := by
  refine Met.ofW (cc := cX11_givesApple) (maxL := 1) (ret := (some .boolean)) (by decide) rfl ?_
  intro p e s m args below meth c s₁ B hml hv
  obtain ⟨rfl, hsz, hP, hK, hD0, hN, hZ⟩ := hv
  have hx := B.exec
  have hb := B.bytes
  have hr := B.returns
  have hts := atoms_spec (ws := wsX11_givesApple) B.pre
  have hown : s.vm.findClass RX11 = some m.cls := findClass_of_methodNamed B.named
  have hlocks := B.notSynchronized
  subst hsz
  have hD := hD0.self (sz := s.heap.size)
  generalize hAe : va_A [(m0, .inr (10, [.ref m_all, .ref m_kept, .ref m_isKept, .ref m_refused, .long (lI m_above), .long (lI m_below), .ref m_hand, .ref m_fewest, .ref m_whoBites, .ref m_leaves, .ref m_bestFeast, .ref m_tells, .ref m_hardOn, .ref m_bytes, .int (iI m_bytesLong), .int (iI m_tokenAt), .int (iI m_tokenLong), .int (iI m_token), .int (iI m_value), .ref m_anew, .ref m_values])), (m_bytes, .inl (G.2 0, 150, .inl (cI my))), (m_values, .inl (G.2 0, 3, .inl (cI mv))), (m_anew, .inl (G.2 0, 135, .inl (cI mn)))] s.heap.size = A at hD hZ ⊢
  have hA : ∀ q : Nat, s.heap.size ≤ q → A q := fun q h => by rw [← hAe]; exact Or.inr h
  have hS : va_S A s.heap s.heap [] := va_S.rf
  have hP : va_P G.1 vwCl [(m0, .inr (10, [.ref m_all, .ref m_kept, .ref m_isKept, .ref m_refused, .long (lI m_above), .long (lI m_below), .ref m_hand, .ref m_fewest, .ref m_whoBites, .ref m_leaves, .ref m_bestFeast, .ref m_tells, .ref m_hardOn, .ref m_bytes, .int (iI m_bytesLong), .int (iI m_tokenAt), .int (iI m_tokenLong), .int (iI m_token), .int (iI m_value), .ref m_anew, .ref m_values])), (m_bytes, .inl (G.2 0, 150, .inl (cI my))), (m_values, .inl (G.2 0, 3, .inl (cI mv))), (m_anew, .inl (G.2 0, 135, .inl (cI mn)))] s.heap := hP
  have hl := lv_entry ([.ref m0]) (n := 1) (Nat.le_of_ble_eq_true rfl)
  rw [lg_entry_eq]
  generalize (lg_sl ([.ref m0]) ++ List.replicate (1 - (lg_sl ([.ref m0])).length) Slot.unset).toArray = ls at hl ⊢
  have hl : lv_has ls 1 [(0, .ref m0)] := hl
  refine lv_aload_n hx hb dX11_givesApple_0 rfl (lv_at hl 0 rfl) ?_
  refine va_get (D := G.1) (ci := 10) (v := .ref m_anew) (C := RX11) (T := TX11) (N := 21) hx hb hts (fun _ h => List.mem_cons_of_mem _ (inlX11 _ h)) hown hK hP 0 rfl rfl 19 (by decide) (hts _ (List.mem_cons_of_mem _ (in_r6 (List.mem_of_getElem? (i := 13) rfl)))) (fun _ h9 => h9) rfl dX11_givesApple_1 ?_
  refine lv_iconst (v := iI 0) hx hb dX11_givesApple_4 rfl ?_
  refine g_ild hx hb hK hP 3 rfl (by omega) (by omega) (by first | exact Nat.le_of_ble_eq_true rfl | omega) dX11_givesApple_5 (fun w_1 ew_1 => ?_)
  have ew_1 : mn 0 = w_1 := ew_1
  subst ew_1
  have bw_1 : 0 ≤ (mn 0) ∧ (mn 0) ≤ 7 := y1_ 0
  refine lv_bipush (v := iI 7) hx hb dX11_givesApple_6 (by decide) ?_
  refine lv_icmp_ne (tgt := 13) hx hb dX11_givesApple_8 (by decide) (fun c_2 => ?_) (fun c_2 => ?_)
  · have c_2 : ¬ ((mn 0) = 7) := fun h9 => c_2 ((iI_eq (a := (mn 0)) (b := 7) (by omega) (by first | decide | omega)).mpr h9)
    refine lv_aload_n hx hb dX11_givesApple_13 rfl (lv_at hl 0 rfl) ?_
    refine g_callv (wr := [(m_values, .inl (G.2 0, 3, .inl (cI mv))), (m_anew, .inl (G.2 0, 135, .inl (cI mn)))]) (va_runV (As := []) (rest := []) ⟨hx, hb, hml, hown, hts⟩ (c_X11_goBehind l G (m0) (m_all) (m_kept) (m_isKept) (m_refused) (m_above) (m_below) (m_hand) (m_fewest) (m_whoBites) (m_leaves) (m_bestFeast) (m_tells) (m_hardOn) (m_bytes) (m_bytesLong) (m_tokenAt) (m_tokenLong) (m_token) (m_value) (m_anew) (m_values) (my) (uS) (uA) (uV) (uE) (n0) (j0) (by first | exact y0_ | exact bd_mono y0_ (by omega) (by omega) | assumption) (by first | exact hL | assumption | omega) (by first | exact i0_ | assumption | omega) (by first | exact i1_ | assumption | omega) (by first | exact i2_ | assumption | omega) (by first | exact i3_ | assumption | omega) (by first | exact hch | assumption | omega) (by first | exact hra | assumption | omega) (by first | exact hj | assumption | omega) (by first | assumption | omega) _) (cwV 0 hts gX11_givesApple_X11_goBehind rfl rfl rfl (by decide +kernel) ⟨Nat.le_of_ble_eq_true rfl, Nat.le_of_ble_eq_true rfl⟩) (g_preV m0 [] hP hD hK hN hS hA hZ [0, 1] rfl rfl 0 (ci := 10) rfl rfl) rfl rfl hl.1 rfl (lv_room (Nat.le_of_ble_eq_true rfl)) dX11_givesApple_14 ⟨Nat.le_of_ble_eq_true rfl, Nat.le_of_ble_eq_true rfl⟩) hP hD hS hA [0, 1] [2, 3] rfl rfl rfl (by decide) (fun u H locs hw hP hD hS => ?_)
    refine ea_4_8 hw (fun NtA_3 NtL_4 Ntk_5 Nva_6 k_7 k_8 k_9 k_10 k_11 k_12 k_13 e8_0 => ?_)
    subst e8_0
    clear hw
    have hPD : PD G A H [(m_values, .inl (G.2 0, 3, .inl (cI mv))), (m_anew, .inl (G.2 0, 135, .inl (cI mn))), (m0, .inr (10, [.ref m_all, .ref m_kept, .ref m_isKept, .ref m_refused, .long (lI m_above), .long (lI m_below), .ref m_hand, .ref m_fewest, .ref m_whoBites, .ref m_leaves, .ref m_bestFeast, .ref m_tells, .ref m_hardOn, .ref m_bytes, .int (iI m_bytesLong), .int (iI NtA_3), .int (iI NtL_4), .int (iI Ntk_5), .int (iI Nva_6), .ref m_anew, .ref m_values])), (m_bytes, .inl (G.2 0, 150, .inl (cI my)))] := ⟨hP, hD⟩
    have hP := hPD.1
    have hD := hPD.2
    clear hPD
    refine lv_aload_n hx hb dX11_givesApple_17 rfl (lv_at hl 0 rfl) ?_
    refine lv_iconst (v := iI 0) hx hb dX11_givesApple_18 rfl ?_
    refine lv_iconst (v := iI 0) hx hb dX11_givesApple_19 rfl ?_
    refine lv_iconst (v := iI 5) hx hb dX11_givesApple_20 rfl ?_
    refine g_calli (wr := [(m_anew, .inl (G.2 0, 135, .inl (cI mn)))]) (va_runV (As := [.int (iI 0), .int (iI 0), .int (iI 5)]) (rest := []) ⟨hx, hb, hml, hown, hts⟩ (c_X11_gives0 l G (m0) (m_all) (m_kept) (m_isKept) (m_refused) (m_above) (m_below) (m_hand) (m_fewest) (m_whoBites) (m_leaves) (m_bestFeast) (m_tells) (m_hardOn) (m_bytes) (m_bytesLong) (NtA_3) (NtL_4) (Ntk_5) (Nva_6) (m_anew) (m_values) (my) (mv) (uS) (uA) (uV) (uE) (n0) ((j0 + 1)) (0) (5) (by first | exact y0_ | exact bd_mono y0_ (by omega) (by omega) | assumption) (by first | exact hL | assumption | omega) (by first | exact k_7 | assumption | omega) (by first | exact k_8 | assumption | omega) (by first | exact k_9 | assumption | omega) (by first | exact k_10 | assumption | omega) (by first | exact hch | assumption | omega) (by first | exact k_12 | assumption | omega) (by first | assumption | omega) (by first | assumption | omega) (by first | assumption | omega) _) (cwV 3 hts gX11_givesApple_X11_gives rfl rfl rfl (by decide +kernel) ⟨Nat.le_of_ble_eq_true rfl, Nat.le_of_ble_eq_true rfl⟩) (g_preV m0 [.int (iI 0), .int (iI 0), .int (iI 5)] hP hD hK hN hS hA hZ [2, 3, 0] rfl rfl 2 (ci := 10) rfl rfl) rfl rfl hl.1 rfl (lv_room (Nat.le_of_ble_eq_true rfl)) dX11_givesApple_21 ⟨Nat.le_of_ble_eq_true rfl, Nat.le_of_ble_eq_true rfl⟩) hP hD hS hA [2, 3, 0] [1] rfl rfl rfl (by decide) (fun r_14 u H locs hw hP hD hS => ?_)
    rcases hw with ⟨NtA_15, NtL_16, Ntk_17, Nva_18, nv_19, rfl, k_20, k_21, k_22, k_23, k_24, k_25, k_26, k_27, rfl, rfl⟩ | ⟨k_28, rfl, rfl⟩
    · have hPD : PD G A H [(m_anew, .inl (G.2 0, 135, .inl (cI mn))), (m0, .inr (10, [.ref m_all, .ref m_kept, .ref m_isKept, .ref m_refused, .long (lI m_above), .long (lI m_below), .ref m_hand, .ref m_fewest, .ref m_whoBites, .ref m_leaves, .ref m_bestFeast, .ref m_tells, .ref m_hardOn, .ref m_bytes, .int (iI m_bytesLong), .int (iI NtA_15), .int (iI NtL_16), .int (iI Ntk_17), .int (iI Nva_18), .ref m_anew, .ref m_values])), (m_bytes, .inl (G.2 0, 150, .inl (cI my))), (m_values, .inl (G.2 0, 3, .inl (cI (uI mv 0 (uV ((j0 + 1) : Int).toNat)))))] := ⟨hP, hD⟩
      have hP := hPD.1
      have hD := hPD.2
      clear hPD
      refine lv_if_eq (tgt := 49) hx hb dX11_givesApple_24 (by decide) (fun c_29 => g_no c_29 (by decide)) (fun _ => ?_)
      refine lv_aload_n hx hb dX11_givesApple_27 rfl (lv_at hl 0 rfl) ?_
      refine lv_iconst (v := iI 1) hx hb dX11_givesApple_28 rfl ?_
      refine lv_iconst (v := iI 1) hx hb dX11_givesApple_29 rfl ?_
      refine lv_bipush (v := iI 30) hx hb dX11_givesApple_30 (by decide) ?_
      refine g_calli (wr := [(m_anew, .inl (G.2 0, 135, .inl (cI mn)))]) (va_runV (As := [.int (iI 1), .int (iI 1), .int (iI 30)]) (rest := []) ⟨hx, hb, hml, hown, hts⟩ (c_X11_gives1 l G (m0) (m_all) (m_kept) (m_isKept) (m_refused) (m_above) (m_below) (m_hand) (m_fewest) (m_whoBites) (m_leaves) (m_bestFeast) (m_tells) (m_hardOn) (m_bytes) (m_bytesLong) (NtA_15) (NtL_16) (Ntk_17) (Nva_18) (m_anew) (m_values) (my) ((uI mv 0 (uV ((j0 + 1) : Int).toNat))) (uS) (uA) (uV) (uE) (n0) (((j0 + 1) + 1)) (1) (30) (by first | exact y0_ | exact bd_mono y0_ (by omega) (by omega) | assumption) (by first | exact hL | assumption | omega) (by first | exact k_20 | assumption | omega) (by first | exact k_21 | assumption | omega) (by first | exact k_22 | assumption | omega) (by first | exact k_23 | assumption | omega) (by first | exact hch | assumption | omega) (by first | exact k_25 | assumption | omega) (by first | assumption | omega) (by first | assumption | omega) (by first | assumption | omega) _) (cwV 3 hts gX11_givesApple_X11_gives rfl rfl rfl (by decide +kernel) ⟨Nat.le_of_ble_eq_true rfl, Nat.le_of_ble_eq_true rfl⟩) (g_preV m0 [.int (iI 1), .int (iI 1), .int (iI 30)] hP hD hK hN hS hA hZ [1, 2, 3] rfl rfl 1 (ci := 10) rfl rfl) rfl rfl hl.1 rfl (lv_room (Nat.le_of_ble_eq_true rfl)) dX11_givesApple_32 ⟨Nat.le_of_ble_eq_true rfl, Nat.le_of_ble_eq_true rfl⟩) hP hD hS hA [1, 2, 3] [0] rfl rfl rfl (by decide) (fun r_30 u H locs hw hP hD hS => ?_)
      rcases hw with ⟨NtA_31, NtL_32, Ntk_33, Nva_34, nv_35, rfl, k_36, k_37, k_38, k_39, k_40, k_41, k_42, k_43, rfl, rfl⟩ | ⟨k_44, rfl, rfl⟩
      · have hPD : PD G A H [(m_anew, .inl (G.2 0, 135, .inl (cI mn))), (m0, .inr (10, [.ref m_all, .ref m_kept, .ref m_isKept, .ref m_refused, .long (lI m_above), .long (lI m_below), .ref m_hand, .ref m_fewest, .ref m_whoBites, .ref m_leaves, .ref m_bestFeast, .ref m_tells, .ref m_hardOn, .ref m_bytes, .int (iI m_bytesLong), .int (iI NtA_31), .int (iI NtL_32), .int (iI Ntk_33), .int (iI Nva_34), .ref m_anew, .ref m_values])), (m_bytes, .inl (G.2 0, 150, .inl (cI my))), (m_values, .inl (G.2 0, 3, .inl (cI (uI (uI mv 0 (uV ((j0 + 1) : Int).toNat)) 1 (uV (((j0 + 1) + 1) : Int).toNat)))))] := ⟨hP, hD⟩
        have hP := hPD.1
        have hD := hPD.2
        clear hPD
        refine lv_if_eq (tgt := 49) hx hb dX11_givesApple_35 (by decide) (fun c_45 => g_no c_45 (by decide)) (fun _ => ?_)
        refine lv_aload_n hx hb dX11_givesApple_38 rfl (lv_at hl 0 rfl) ?_
        refine lv_iconst (v := iI 2) hx hb dX11_givesApple_39 rfl ?_
        refine lv_iconst (v := iI 0) hx hb dX11_givesApple_40 rfl ?_
        refine lv_bipush (v := iI 99) hx hb dX11_givesApple_41 (by decide) ?_
        refine g_calli (wr := [(m_anew, .inl (G.2 0, 135, .inl (cI mn)))]) (va_runV (As := [.int (iI 2), .int (iI 0), .int (iI 99)]) (rest := []) ⟨hx, hb, hml, hown, hts⟩ (c_X11_gives2 l G (m0) (m_all) (m_kept) (m_isKept) (m_refused) (m_above) (m_below) (m_hand) (m_fewest) (m_whoBites) (m_leaves) (m_bestFeast) (m_tells) (m_hardOn) (m_bytes) (m_bytesLong) (NtA_31) (NtL_32) (Ntk_33) (Nva_34) (m_anew) (m_values) (my) ((uI (uI mv 0 (uV ((j0 + 1) : Int).toNat)) 1 (uV (((j0 + 1) + 1) : Int).toNat))) (uS) (uA) (uV) (uE) (n0) ((((j0 + 1) + 1) + 1)) (0) (99) (by first | exact y0_ | exact bd_mono y0_ (by omega) (by omega) | assumption) (by first | exact hL | assumption | omega) (by first | exact k_36 | assumption | omega) (by first | exact k_37 | assumption | omega) (by first | exact k_38 | assumption | omega) (by first | exact k_39 | assumption | omega) (by first | exact hch | assumption | omega) (by first | exact k_41 | assumption | omega) (by first | assumption | omega) (by first | assumption | omega) (by first | assumption | omega) _) (cwV 3 hts gX11_givesApple_X11_gives rfl rfl rfl (by decide +kernel) ⟨Nat.le_of_ble_eq_true rfl, Nat.le_of_ble_eq_true rfl⟩) (g_preV m0 [.int (iI 2), .int (iI 0), .int (iI 99)] hP hD hK hN hS hA hZ [1, 2, 3] rfl rfl 1 (ci := 10) rfl rfl) rfl rfl hl.1 rfl (lv_room (Nat.le_of_ble_eq_true rfl)) dX11_givesApple_43 ⟨Nat.le_of_ble_eq_true rfl, Nat.le_of_ble_eq_true rfl⟩) hP hD hS hA [1, 2, 3] [0] rfl rfl rfl (by decide) (fun r_46 u H locs hw hP hD hS => ?_)
        rcases hw with ⟨NtA_47, NtL_48, Ntk_49, Nva_50, nv_51, rfl, k_52, k_53, k_54, k_55, k_56, k_57, k_58, k_59, rfl, rfl⟩ | ⟨k_60, rfl, rfl⟩
        · have hPD : PD G A H [(m_anew, .inl (G.2 0, 135, .inl (cI mn))), (m0, .inr (10, [.ref m_all, .ref m_kept, .ref m_isKept, .ref m_refused, .long (lI m_above), .long (lI m_below), .ref m_hand, .ref m_fewest, .ref m_whoBites, .ref m_leaves, .ref m_bestFeast, .ref m_tells, .ref m_hardOn, .ref m_bytes, .int (iI m_bytesLong), .int (iI NtA_47), .int (iI NtL_48), .int (iI Ntk_49), .int (iI Nva_50), .ref m_anew, .ref m_values])), (m_bytes, .inl (G.2 0, 150, .inl (cI my))), (m_values, .inl (G.2 0, 3, .inl (cI (uI (uI (uI mv 0 (uV ((j0 + 1) : Int).toNat)) 1 (uV (((j0 + 1) + 1) : Int).toNat)) 2 (uV ((((j0 + 1) + 1) + 1) : Int).toNat)))))] := ⟨hP, hD⟩
          have hP := hPD.1
          have hD := hPD.2
          clear hPD
          refine lv_if_ne (tgt := 51) hx hb dX11_givesApple_46 (by decide) (fun _ => ?_) (fun c_61 => g_no c_61 (by decide))
          refine lv_aload_n hx hb dX11_givesApple_51 rfl (lv_at hl 0 rfl) ?_
          refine va_get (D := G.1) (ci := 10) (v := .ref m_anew) (C := RX11) (T := TX11) (N := 21) hx hb hts (fun _ h => List.mem_cons_of_mem _ (inlX11 _ h)) hown hK hP 1 rfl rfl 19 (by decide) (hts _ (List.mem_cons_of_mem _ (in_r6 (List.mem_of_getElem? (i := 13) rfl)))) (fun _ h9 => h9) rfl dX11_givesApple_52 ?_
          refine lv_aload_n hx hb dX11_givesApple_55 rfl (lv_at hl 0 rfl) ?_
          refine va_get (D := G.1) (ci := 10) (v := .ref m_values) (C := RX11) (T := TX11) (N := 21) hx hb hts (fun _ h => List.mem_cons_of_mem _ (inlX11 _ h)) hown hK hP 1 rfl rfl 20 (by decide) (hts _ (List.mem_cons_of_mem _ (in_r6 (List.mem_of_getElem? (i := 14) rfl)))) (fun _ h9 => h9) rfl dX11_givesApple_56 ?_
          refine lv_iconst (v := iI 0) hx hb dX11_givesApple_59 rfl ?_
          refine g_ild hx hb hK hP 3 rfl (by omega) (by omega) (by first | exact Nat.le_of_ble_eq_true rfl | omega) dX11_givesApple_60 (fun w_62 ew_62 => ?_)
          have ew_62 : (uI (uI (uI mv 0 (uV ((j0 + 1) : Int).toNat)) 1 (uV (((j0 + 1) + 1) : Int).toNat)) 2 (uV ((((j0 + 1) + 1) + 1) : Int).toNat)) 0 = w_62 := ew_62
          rw [uI_ne (by omega), uI_ne (by omega), uI_eq] at ew_62
          subst ew_62
          refine lv_aload_n hx hb dX11_givesApple_61 rfl (lv_at hl 0 rfl) ?_
          refine va_get (D := G.1) (ci := 10) (v := .ref m_values) (C := RX11) (T := TX11) (N := 21) hx hb hts (fun _ h => List.mem_cons_of_mem _ (inlX11 _ h)) hown hK hP 1 rfl rfl 20 (by decide) (hts _ (List.mem_cons_of_mem _ (in_r6 (List.mem_of_getElem? (i := 14) rfl)))) (fun _ h9 => h9) rfl dX11_givesApple_62 ?_
          refine lv_iconst (v := iI 1) hx hb dX11_givesApple_65 rfl ?_
          refine g_ild hx hb hK hP 3 rfl (by omega) (by omega) (by first | exact Nat.le_of_ble_eq_true rfl | omega) dX11_givesApple_66 (fun w_63 ew_63 => ?_)
          have ew_63 : (uI (uI (uI mv 0 (uV ((j0 + 1) : Int).toNat)) 1 (uV (((j0 + 1) + 1) : Int).toNat)) 2 (uV ((((j0 + 1) + 1) + 1) : Int).toNat)) 1 = w_63 := ew_63
          rw [uI_ne (by omega), uI_eq] at ew_63
          subst ew_63
          refine lv_aload_n hx hb dX11_givesApple_67 rfl (lv_at hl 0 rfl) ?_
          refine va_get (D := G.1) (ci := 10) (v := .ref m_values) (C := RX11) (T := TX11) (N := 21) hx hb hts (fun _ h => List.mem_cons_of_mem _ (inlX11 _ h)) hown hK hP 1 rfl rfl 20 (by decide) (hts _ (List.mem_cons_of_mem _ (in_r6 (List.mem_of_getElem? (i := 14) rfl)))) (fun _ h9 => h9) rfl dX11_givesApple_68 ?_
          refine lv_iconst (v := iI 2) hx hb dX11_givesApple_71 rfl ?_
          refine g_ild hx hb hK hP 3 rfl (by omega) (by omega) (by first | exact Nat.le_of_ble_eq_true rfl | omega) dX11_givesApple_72 (fun w_64 ew_64 => ?_)
          have ew_64 : (uI (uI (uI mv 0 (uV ((j0 + 1) : Int).toNat)) 1 (uV (((j0 + 1) + 1) : Int).toNat)) 2 (uV ((((j0 + 1) + 1) + 1) : Int).toNat)) 2 = w_64 := ew_64
          rw [uI_eq] at ew_64
          subst ew_64
          refine g_callv (wr := [(m0, .inr (10, [.ref m_all, .ref m_kept, .ref m_isKept, .ref m_refused, .long (lI m_above), .long (lI m_below), .ref m_hand, .ref m_fewest, .ref m_whoBites, .ref m_leaves, .ref m_bestFeast, .ref m_tells, .ref m_hardOn, .ref m_bytes, .int (iI m_bytesLong), .int (iI NtA_47), .int (iI NtL_48), .int (iI Ntk_49), .int (iI Nva_50), .ref m_anew, .ref m_values])), (m_bytes, .inl (G.2 0, 150, .inl (cI my))), (m_values, .inl (G.2 0, 3, .inl (cI (uI (uI (uI mv 0 (uV ((j0 + 1) : Int).toNat)) 1 (uV (((j0 + 1) + 1) : Int).toNat)) 2 (uV ((((j0 + 1) + 1) + 1) : Int).toNat)))))]) (va_runS (As := [.ref m_anew, .int (iI (uV ((j0 + 1) : Int).toNat)), .int (iI (uV (((j0 + 1) + 1) : Int).toNat)), .int (iI (uV ((((j0 + 1) + 1) + 1) : Int).toNat))]) (rest := []) ⟨hx, hb, hml, hown, hts⟩ (c_X11_layApple_135 l G (m_anew) (mn) (K0) ((uV ((j0 + 1) : Int).toNat)) ((uV (((j0 + 1) + 1) : Int).toNat)) ((uV ((((j0 + 1) + 1) + 1) : Int).toNat)) (by first | exact y1_ | exact bpA_mono y1_ (by omega) | assumption) (by first | assumption | omega) (by first | assumption | omega) (by first | assumption | omega) (by first | assumption | omega) (by first | assumption | omega) _) (va_cwS 4 hts gX11_givesApple_X11_layApple rfl rfl rfl (by decide +kernel) ⟨Nat.le_of_ble_eq_true rfl, Nat.le_of_ble_eq_true rfl⟩) (g_preS [.ref m_anew, .int (iI (uV ((j0 + 1) : Int).toNat)), .int (iI (uV (((j0 + 1) + 1) : Int).toNat)), .int (iI (uV ((((j0 + 1) + 1) + 1) : Int).toNat))] hP hD hK hN hS hA hZ [0] rfl rfl) rfl rfl hl.1 rfl (lv_room (Nat.le_of_ble_eq_true rfl)) dX11_givesApple_73 ⟨Nat.le_of_ble_eq_true rfl, Nat.le_of_ble_eq_true rfl⟩) hP hD hS hA [0] [1, 2, 3] rfl rfl rfl (by decide) (fun u H locs hw hP hD hS => ?_)
          obtain ⟨Nq_65, rfl, k_66, rfl⟩ := hw
          have hPD : PD G A H [(m0, .inr (10, [.ref m_all, .ref m_kept, .ref m_isKept, .ref m_refused, .long (lI m_above), .long (lI m_below), .ref m_hand, .ref m_fewest, .ref m_whoBites, .ref m_leaves, .ref m_bestFeast, .ref m_tells, .ref m_hardOn, .ref m_bytes, .int (iI m_bytesLong), .int (iI NtA_47), .int (iI NtL_48), .int (iI Ntk_49), .int (iI Nva_50), .ref m_anew, .ref m_values])), (m_bytes, .inl (G.2 0, 150, .inl (cI my))), (m_values, .inl (G.2 0, 3, .inl (cI (uI (uI (uI mv 0 (uV ((j0 + 1) : Int).toNat)) 1 (uV (((j0 + 1) + 1) : Int).toNat)) 2 (uV ((((j0 + 1) + 1) + 1) : Int).toNat))))), (m_anew, .inl (G.2 0, 135, .inl (cI (sApple mn (uV ((j0 + 1) : Int).toNat) (uV (((j0 + 1) + 1) : Int).toNat) (uV ((((j0 + 1) + 1) + 1) : Int).toNat)))))] := ⟨hP, hD⟩
          have hP := hPD.1
          have hD := hPD.2
          clear hPD
          refine lv_iconst (v := iI 1) hx hb dX11_givesApple_76 rfl ?_
          exact g_zret (v := (iI 1)) hx hb hr hlocks rfl hP hD hS (Or.inl ⟨NtA_47, NtL_48, Ntk_49, Nva_50, (uI (uI (uI mv 0 (uV ((j0 + 1) : Int).toNat)) 1 (uV (((j0 + 1) + 1) : Int).toNat)) 2 (uV ((((j0 + 1) + 1) + 1) : Int).toNat)), (sApple mn (uV ((j0 + 1) : Int).toNat) (uV (((j0 + 1) + 1) : Int).toNat) (uV ((((j0 + 1) + 1) + 1) : Int).toNat)), ((((j0 + 1) + 1) + 1) + 1), (by rw [cIt_6 (by omega) (by omega)]; exact (cApple_ok (by first | assumption | omega) (by first | assumption | omega) (by first | assumption | omega))), (by first | exact k_52 | assumption | omega), (by first | exact k_53 | assumption | omega), (by first | exact k_54 | assumption | omega), (by first | exact k_55 | assumption | omega), (by first | assumption | omega), (by first | exact k_57 | assumption | omega), (by first | assumption | omega), (by first | exact k_66 | exact bpA_mono k_66 (by omega) | assumption), rfl, rfl⟩) dX11_givesApple_77
        · have hPD : PD G A H [(m_anew, .inl (G.2 0, 135, .inl (cI mn))), (m0, .inr (10, [.ref m_all, .ref m_kept, .ref m_isKept, .ref m_refused, .long (lI m_above), .long (lI m_below), .ref m_hand, .ref m_fewest, .ref m_whoBites, .ref m_leaves, .ref m_bestFeast, .ref m_tells, .ref m_hardOn, .ref m_bytes, .int (iI m_bytesLong), .int (iI NtA_31), .int (iI NtL_32), .int (iI Ntk_33), .int (iI Nva_34), .ref m_anew, .ref m_values])), (m_bytes, .inl (G.2 0, 150, .inl (cI my))), (m_values, .inl (G.2 0, 3, .inl (cI (uI (uI mv 0 (uV ((j0 + 1) : Int).toNat)) 1 (uV (((j0 + 1) + 1) : Int).toNat)))))] := ⟨hP, hD⟩
          have hP := hPD.1
          have hD := hPD.2
          clear hPD
          refine lv_if_ne (tgt := 51) hx hb dX11_givesApple_46 (by decide) (fun c_67 => g_no (by decide) c_67) (fun _ => ?_)
          refine lv_iconst (v := iI 0) hx hb dX11_givesApple_49 rfl ?_
          have hP := hP.sub (ws' := [(m0, .inr (10, [.ref m_all, .ref m_kept, .ref m_isKept, .ref m_refused, .long (lI m_above), .long (lI m_below), .ref m_hand, .ref m_fewest, .ref m_whoBites, .ref m_leaves, .ref m_bestFeast, .ref m_tells, .ref m_hardOn, .ref m_bytes, .int (iI m_bytesLong), .int (iI NtA_31), .int (iI NtL_32), .int (iI Ntk_33), .int (iI Nva_34), .ref m_anew, .ref m_values])), (m_bytes, .inl (G.2 0, 150, .inl (cI my))), (m_values, .inl (G.2 0, 3, .inl (cI (uI (uI mv 0 (uV ((j0 + 1) : Int).toNat)) 1 (uV (((j0 + 1) + 1) : Int).toNat))))), (m_anew, .inl (G.2 0, 135, .inl (cI mn)))]) [1, 2, 3, 0] rfl
          have hD := hD.sub (ws' := [(m0, .inr (10, [.ref m_all, .ref m_kept, .ref m_isKept, .ref m_refused, .long (lI m_above), .long (lI m_below), .ref m_hand, .ref m_fewest, .ref m_whoBites, .ref m_leaves, .ref m_bestFeast, .ref m_tells, .ref m_hardOn, .ref m_bytes, .int (iI m_bytesLong), .int (iI NtA_31), .int (iI NtL_32), .int (iI Ntk_33), .int (iI Nva_34), .ref m_anew, .ref m_values])), (m_bytes, .inl (G.2 0, 150, .inl (cI my))), (m_values, .inl (G.2 0, 3, .inl (cI (uI (uI mv 0 (uV ((j0 + 1) : Int).toNat)) 1 (uV (((j0 + 1) + 1) : Int).toNat))))), (m_anew, .inl (G.2 0, 135, .inl (cI mn)))]) [1, 2, 3, 0] rfl rfl
          exact g_zret (v := (iI 0)) hx hb hr hlocks rfl hP hD hS (Or.inr (⟨NtA_31, NtL_32, Ntk_33, Nva_34, (uI (uI mv 0 (uV ((j0 + 1) : Int).toNat)) 1 (uV (((j0 + 1) + 1) : Int).toNat)), mn, (((j0 + 1) + 1) + 1), (by rw [cIt_6 (by omega) (by omega)]; exact (cApple_f2 (by first | assumption | omega) (by first | assumption | omega) (by first | assumption | omega))), (by first | exact k_36 | assumption | omega), (by first | exact k_37 | assumption | omega), (by first | exact k_38 | assumption | omega), (by first | exact k_39 | assumption | omega), (by first | assumption | omega), (by first | exact k_41 | assumption | omega), (by first | assumption | omega), (by first | exact y1_ | exact bpA_mono y1_ (by omega) | assumption), rfl, rfl⟩)) dX11_givesApple_50
      · have hPD : PD G A H [(m_anew, .inl (G.2 0, 135, .inl (cI mn))), (m0, .inr (10, [.ref m_all, .ref m_kept, .ref m_isKept, .ref m_refused, .long (lI m_above), .long (lI m_below), .ref m_hand, .ref m_fewest, .ref m_whoBites, .ref m_leaves, .ref m_bestFeast, .ref m_tells, .ref m_hardOn, .ref m_bytes, .int (iI m_bytesLong), .int (iI NtA_15), .int (iI NtL_16), .int (iI Ntk_17), .int (iI Nva_18), .ref m_anew, .ref m_values])), (m_bytes, .inl (G.2 0, 150, .inl (cI my))), (m_values, .inl (G.2 0, 3, .inl (cI (uI mv 0 (uV ((j0 + 1) : Int).toNat)))))] := ⟨hP, hD⟩
        have hP := hPD.1
        have hD := hPD.2
        clear hPD
        refine lv_if_eq (tgt := 49) hx hb dX11_givesApple_35 (by decide) (fun _ => ?_) (fun c_68 => g_no (by decide) c_68)
        refine lv_iconst (v := iI 0) hx hb dX11_givesApple_49 rfl ?_
        have hP := hP.sub (ws' := [(m0, .inr (10, [.ref m_all, .ref m_kept, .ref m_isKept, .ref m_refused, .long (lI m_above), .long (lI m_below), .ref m_hand, .ref m_fewest, .ref m_whoBites, .ref m_leaves, .ref m_bestFeast, .ref m_tells, .ref m_hardOn, .ref m_bytes, .int (iI m_bytesLong), .int (iI NtA_15), .int (iI NtL_16), .int (iI Ntk_17), .int (iI Nva_18), .ref m_anew, .ref m_values])), (m_bytes, .inl (G.2 0, 150, .inl (cI my))), (m_values, .inl (G.2 0, 3, .inl (cI (uI mv 0 (uV ((j0 + 1) : Int).toNat))))), (m_anew, .inl (G.2 0, 135, .inl (cI mn)))]) [1, 2, 3, 0] rfl
        have hD := hD.sub (ws' := [(m0, .inr (10, [.ref m_all, .ref m_kept, .ref m_isKept, .ref m_refused, .long (lI m_above), .long (lI m_below), .ref m_hand, .ref m_fewest, .ref m_whoBites, .ref m_leaves, .ref m_bestFeast, .ref m_tells, .ref m_hardOn, .ref m_bytes, .int (iI m_bytesLong), .int (iI NtA_15), .int (iI NtL_16), .int (iI Ntk_17), .int (iI Nva_18), .ref m_anew, .ref m_values])), (m_bytes, .inl (G.2 0, 150, .inl (cI my))), (m_values, .inl (G.2 0, 3, .inl (cI (uI mv 0 (uV ((j0 + 1) : Int).toNat))))), (m_anew, .inl (G.2 0, 135, .inl (cI mn)))]) [1, 2, 3, 0] rfl rfl
        exact g_zret (v := (iI 0)) hx hb hr hlocks rfl hP hD hS (Or.inr (⟨NtA_15, NtL_16, Ntk_17, Nva_18, (uI mv 0 (uV ((j0 + 1) : Int).toNat)), mn, ((j0 + 1) + 1), (by rw [cIt_6 (by omega) (by omega)]; exact (cApple_f1 (by first | assumption | omega) (by first | assumption | omega))), (by first | exact k_20 | assumption | omega), (by first | exact k_21 | assumption | omega), (by first | exact k_22 | assumption | omega), (by first | exact k_23 | assumption | omega), (by first | assumption | omega), (by first | exact k_25 | assumption | omega), (by first | assumption | omega), (by first | exact y1_ | exact bpA_mono y1_ (by omega) | assumption), rfl, rfl⟩)) dX11_givesApple_50
    · have hPD : PD G A H [(m_anew, .inl (G.2 0, 135, .inl (cI mn))), (m0, .inr (10, [.ref m_all, .ref m_kept, .ref m_isKept, .ref m_refused, .long (lI m_above), .long (lI m_below), .ref m_hand, .ref m_fewest, .ref m_whoBites, .ref m_leaves, .ref m_bestFeast, .ref m_tells, .ref m_hardOn, .ref m_bytes, .int (iI m_bytesLong), .int (iI NtA_3), .int (iI NtL_4), .int (iI Ntk_5), .int (iI Nva_6), .ref m_anew, .ref m_values])), (m_bytes, .inl (G.2 0, 150, .inl (cI my))), (m_values, .inl (G.2 0, 3, .inl (cI mv)))] := ⟨hP, hD⟩
      have hP := hPD.1
      have hD := hPD.2
      clear hPD
      refine lv_if_eq (tgt := 49) hx hb dX11_givesApple_24 (by decide) (fun _ => ?_) (fun c_69 => g_no (by decide) c_69)
      refine lv_iconst (v := iI 0) hx hb dX11_givesApple_49 rfl ?_
      have hP := hP.sub (ws' := [(m0, .inr (10, [.ref m_all, .ref m_kept, .ref m_isKept, .ref m_refused, .long (lI m_above), .long (lI m_below), .ref m_hand, .ref m_fewest, .ref m_whoBites, .ref m_leaves, .ref m_bestFeast, .ref m_tells, .ref m_hardOn, .ref m_bytes, .int (iI m_bytesLong), .int (iI NtA_3), .int (iI NtL_4), .int (iI Ntk_5), .int (iI Nva_6), .ref m_anew, .ref m_values])), (m_bytes, .inl (G.2 0, 150, .inl (cI my))), (m_values, .inl (G.2 0, 3, .inl (cI mv))), (m_anew, .inl (G.2 0, 135, .inl (cI mn)))]) [1, 2, 3, 0] rfl
      have hD := hD.sub (ws' := [(m0, .inr (10, [.ref m_all, .ref m_kept, .ref m_isKept, .ref m_refused, .long (lI m_above), .long (lI m_below), .ref m_hand, .ref m_fewest, .ref m_whoBites, .ref m_leaves, .ref m_bestFeast, .ref m_tells, .ref m_hardOn, .ref m_bytes, .int (iI m_bytesLong), .int (iI NtA_3), .int (iI NtL_4), .int (iI Ntk_5), .int (iI Nva_6), .ref m_anew, .ref m_values])), (m_bytes, .inl (G.2 0, 150, .inl (cI my))), (m_values, .inl (G.2 0, 3, .inl (cI mv))), (m_anew, .inl (G.2 0, 135, .inl (cI mn)))]) [1, 2, 3, 0] rfl rfl
      exact g_zret (v := (iI 0)) hx hb hr hlocks rfl hP hD hS (Or.inr (⟨NtA_3, NtL_4, Ntk_5, Nva_6, mv, mn, (j0 + 1), (by rw [cIt_6 (by omega) (by omega)]; exact (cApple_f0 (by first | assumption | omega))), (by first | exact k_7 | assumption | omega), (by first | exact k_8 | assumption | omega), (by first | exact k_9 | assumption | omega), (by first | exact k_10 | assumption | omega), (by first | assumption | omega), (by first | exact k_12 | assumption | omega), (by first | assumption | omega), (by first | exact y1_ | exact bpA_mono y1_ (by omega) | assumption), rfl, rfl⟩)) dX11_givesApple_50
  · have c_2 := (iI_eq (a := (mn 0)) (b := 7) (by omega) (by first | decide | omega)).mp c_2
    refine lv_iconst (v := iI 0) hx hb dX11_givesApple_11 rfl ?_
    exact g_zret (v := (iI 0)) hx hb hr hlocks rfl hP hD hS (Or.inr (⟨m_tokenAt, m_tokenLong, m_token, m_value, mv, mn, j0, (cIt_n (by omega)), (by first | exact i0_ | assumption | omega), (by first | exact i1_ | assumption | omega), (by first | exact i2_ | assumption | omega), (by first | exact i3_ | assumption | omega), (by first | assumption | omega), (by first | exact hra | assumption | omega), (by first | exact hj | assumption | omega), (by first | exact y1_ | exact bpA_mono y1_ (by omega) | assumption), rfl, rfl⟩)) dX11_givesApple_12
theorem dX11_givesBiter_0 : decode cX11_givesBiter 0 = .ok (.aload_n 0, 1) := kd_42 (by decide +kernel)
theorem dX11_givesBiter_1 : decode cX11_givesBiter 1 = .ok (.getfield 51, 3) := kd_180 (a := 0) (b := 51) (by decide +kernel)
theorem dX11_givesBiter_4 : decode cX11_givesBiter 4 = .ok (.iconst 1, 1) := kd_4 (by decide +kernel)
theorem dX11_givesBiter_5 : decode cX11_givesBiter 5 = .ok (.iaload, 1) := kd_46 (by decide +kernel)
theorem dX11_givesBiter_6 : decode cX11_givesBiter 6 = .ok (.iconst 4, 1) := kd_7 (by decide +kernel)
theorem dX11_givesBiter_7 : decode cX11_givesBiter 7 = .ok (.if_icmp .ne 5, 3) := kd_160 (a := 0) (b := 5) (by decide +kernel)
theorem dX11_givesBiter_12 : decode cX11_givesBiter 12 = .ok (.aload_n 0, 1) := kd_42 (by decide +kernel)
theorem gX11_givesBiter_X11_goBehind : GoodIn wsX11_givesBiter (wsV RX11 265 RX11 yX11_goBehind wsX11_goBehind) := gW_V (in_r20 (List.mem_of_getElem? (i := 6) rfl)) (in_r20 (List.mem_of_getElem? (i := 7) rfl)) (in_r20 (List.mem_of_getElem? (i := 8) rfl)) (in_r1 (List.mem_of_getElem? (i := 5) rfl)) (in_r20 (List.mem_of_getElem? (i := 9) rfl))
theorem dX11_givesBiter_13 : decode cX11_givesBiter 13 = .ok (.invokevirtual 265, 3) := kd_182 (a := 1) (b := 9) (by decide +kernel)
theorem dX11_givesBiter_16 : decode cX11_givesBiter 16 = .ok (.aload_n 0, 1) := kd_42 (by decide +kernel)
theorem dX11_givesBiter_17 : decode cX11_givesBiter 17 = .ok (.iconst 0, 1) := kd_3 (by decide +kernel)
theorem dX11_givesBiter_18 : decode cX11_givesBiter 18 = .ok (.iconst 0, 1) := kd_3 (by decide +kernel)
theorem dX11_givesBiter_19 : decode cX11_givesBiter 19 = .ok (.iconst 5, 1) := kd_8 (by decide +kernel)
theorem gX11_givesBiter_X11_gives : GoodIn wsX11_givesBiter (wsV RX11 268 RX11 yX11_gives wsX11_gives) := gW_V (in_r20 (List.mem_of_getElem? (i := 18) rfl)) (in_r20 (List.mem_of_getElem? (i := 19) rfl)) (in_r20 (List.mem_of_getElem? (i := 20) rfl)) (in_r1 (List.mem_of_getElem? (i := 5) rfl)) (in_r20 (List.mem_of_getElem? (i := 21) rfl))
theorem dX11_givesBiter_20 : decode cX11_givesBiter 20 = .ok (.invokevirtual 268, 3) := kd_182 (a := 1) (b := 12) (by decide +kernel)
theorem dX11_givesBiter_23 : decode cX11_givesBiter 23 = .ok (.ifCond .eq 14, 3) := kd_153 (a := 0) (b := 14) (by decide +kernel)
theorem dX11_givesBiter_26 : decode cX11_givesBiter 26 = .ok (.aload_n 0, 1) := kd_42 (by decide +kernel)
theorem dX11_givesBiter_27 : decode cX11_givesBiter 27 = .ok (.iconst 1, 1) := kd_4 (by decide +kernel)
theorem dX11_givesBiter_28 : decode cX11_givesBiter 28 = .ok (.iconst 1, 1) := kd_4 (by decide +kernel)
theorem dX11_givesBiter_29 : decode cX11_givesBiter 29 = .ok (.bipush 9, 2) := kd_16 (a := 9) (by decide +kernel)
theorem dX11_givesBiter_31 : decode cX11_givesBiter 31 = .ok (.invokevirtual 268, 3) := kd_182 (a := 1) (b := 12) (by decide +kernel)
theorem dX11_givesBiter_34 : decode cX11_givesBiter 34 = .ok (.ifCond .ne 5, 3) := kd_154 (a := 0) (b := 5) (by decide +kernel)
theorem dX11_givesBiter_39 : decode cX11_givesBiter 39 = .ok (.aload_n 0, 1) := kd_42 (by decide +kernel)
theorem dX11_givesBiter_40 : decode cX11_givesBiter 40 = .ok (.getfield 51, 3) := kd_180 (a := 0) (b := 51) (by decide +kernel)
theorem dX11_givesBiter_43 : decode cX11_givesBiter 43 = .ok (.aload_n 0, 1) := kd_42 (by decide +kernel)
theorem dX11_givesBiter_44 : decode cX11_givesBiter 44 = .ok (.getfield 54, 3) := kd_180 (a := 0) (b := 54) (by decide +kernel)
theorem dX11_givesBiter_47 : decode cX11_givesBiter 47 = .ok (.iconst 0, 1) := kd_3 (by decide +kernel)
theorem dX11_givesBiter_48 : decode cX11_givesBiter 48 = .ok (.iaload, 1) := kd_46 (by decide +kernel)
theorem dX11_givesBiter_49 : decode cX11_givesBiter 49 = .ok (.aload_n 0, 1) := kd_42 (by decide +kernel)
theorem dX11_givesBiter_50 : decode cX11_givesBiter 50 = .ok (.getfield 54, 3) := kd_180 (a := 0) (b := 54) (by decide +kernel)
theorem dX11_givesBiter_53 : decode cX11_givesBiter 53 = .ok (.iconst 1, 1) := kd_4 (by decide +kernel)
theorem dX11_givesBiter_54 : decode cX11_givesBiter 54 = .ok (.iaload, 1) := kd_46 (by decide +kernel)
theorem gX11_givesBiter_X11_layBiter : GoodIn wsX11_givesBiter (va_wsS RX11 100 yX11_layBiter wsX11_layBiter) := gW_S (in_r10 (List.mem_of_getElem? (i := 15) rfl)) (in_r10 (List.mem_of_getElem? (i := 16) rfl)) (in_r1 (List.mem_of_getElem? (i := 5) rfl)) (in_r10 (List.mem_of_getElem? (i := 17) rfl))
theorem dX11_givesBiter_55 : decode cX11_givesBiter 55 = .ok (.invokestatic 100, 3) := kd_184 (a := 0) (b := 100) (by decide +kernel)
theorem dX11_givesBiter_58 : decode cX11_givesBiter 58 = .ok (.iconst 1, 1) := kd_4 (by decide +kernel)
theorem dX11_givesBiter_59 : decode cX11_givesBiter 59 = .ok (.ireturn, 1) := kd_172 (by decide +kernel)
theorem dX11_givesBiter_37 : decode cX11_givesBiter 37 = .ok (.iconst 0, 1) := kd_3 (by decide +kernel)
theorem dX11_givesBiter_38 : decode cX11_givesBiter 38 = .ok (.ireturn, 1) := kd_172 (by decide +kernel)
theorem dX11_givesBiter_10 : decode cX11_givesBiter 10 = .ok (.iconst 0, 1) := kd_3 (by decide +kernel)
theorem dX11_givesBiter_11 : decode cX11_givesBiter 11 = .ok (.ireturn, 1) := kd_172 (by decide +kernel)
set_option maxHeartbeats 8000000 in
set_option maxRecDepth 100000 in
theorem c_X11_givesBiter (l : Launch) (G : gG) (m0 : Nat) (m_all : Nat) (m_kept : Nat) (m_isKept : Nat) (m_refused : Nat) (m_above : Int) (m_below : Int) (m_hand : Nat) (m_fewest : Nat) (m_whoBites : Nat) (m_leaves : Nat) (m_bestFeast : Nat) (m_tells : Nat) (m_hardOn : Nat) (m_bytes : Nat) (m_bytesLong : Int) (m_tokenAt : Int) (m_tokenLong : Int) (m_token : Int) (m_value : Int) (m_anew : Nat) (m_values : Nat) (my : Nat → Int) (mv : Nat → Int) (mn : Nat → Int) (K0 : Int) (uS : Nat → Int) (uA : Nat → Int) (uV : Nat → Int) (uE : Nat → Int) (n0 : Int) (j0 : Int) (y0_ : bd 0 127 my) (y1_ : bp (plA K0) mn) (hL : 0 ≤ m_bytesLong ∧ m_bytesLong ≤ 150) (i0_ : 0 ≤ m_tokenAt ∧ 0 ≤ m_tokenLong ∧ m_tokenAt + m_tokenLong ≤ m_bytesLong) (i1_ : 0 ≤ m_token ∧ m_token ≤ 4) (i2_ : m_token = 0 ∨ 1 ≤ m_tokenLong) (i3_ : -2000 ≤ m_value ∧ m_value ≤ 2000) (hch : chF my m_bytesLong uS uA uV n0 uE) (hra : ra my uS uA uV uE j0 m_tokenAt m_tokenLong m_token m_value) (hj : 0 ≤ j0 ∧ j0 < n0) (hK0 : 1000 ≤ K0 ∧ K0 ≤ 1900000) (h5 : uS (j0 : Int).toNat = 7) (sz : Nat) : gI G l yX11_givesBiter wsX11_givesBiter ({ frames := 5, cells := 0, slots := 0, locals := 112 } : Room) [.ref m0] [(m0, .inr (10, [.ref m_all, .ref m_kept, .ref m_isKept, .ref m_refused, .long (lI m_above), .long (lI m_below), .ref m_hand, .ref m_fewest, .ref m_whoBites, .ref m_leaves, .ref m_bestFeast, .ref m_tells, .ref m_hardOn, .ref m_bytes, .int (iI m_bytesLong), .int (iI m_tokenAt), .int (iI m_tokenLong), .int (iI m_token), .int (iI m_value), .ref m_anew, .ref m_values])), (m_bytes, .inl (G.2 0, 150, .inl (cI my))), (m_values, .inl (G.2 0, 3, .inl (cI mv))), (m_anew, .inl (G.2 0, 135, .inl (cI mn)))] sz (fun (r : Int32) (u : va_W) => (∃ NtA : Int, ∃ NtL : Int, ∃ Ntk : Int, ∃ Nva : Int, ∃ N_v : Nat → Int, ∃ N_n : Nat → Int, ∃ jN : Int, (MOk (cIt uS uV mn j0) jN N_n) ∧ (0 ≤ NtA ∧ 0 ≤ NtL ∧ NtA + NtL ≤ m_bytesLong) ∧ (0 ≤ Ntk ∧ Ntk ≤ 4) ∧ (Ntk = 0 ∨ 1 ≤ NtL) ∧ (-2000 ≤ Nva ∧ Nva ≤ 2000) ∧ (m_tokenAt ≤ NtA) ∧ (ra my uS uA uV uE jN NtA NtL Ntk Nva) ∧ (j0 < jN ∧ jN < n0) ∧ (bp (plA (K0 + 99)) N_n) ∧ r = (iI 1) ∧ u = [(m0, .inr (10, [.ref m_all, .ref m_kept, .ref m_isKept, .ref m_refused, .long (lI m_above), .long (lI m_below), .ref m_hand, .ref m_fewest, .ref m_whoBites, .ref m_leaves, .ref m_bestFeast, .ref m_tells, .ref m_hardOn, .ref m_bytes, .int (iI m_bytesLong), .int (iI NtA), .int (iI NtL), .int (iI Ntk), .int (iI Nva), .ref m_anew, .ref m_values])), (m_bytes, .inl (G.2 0, 150, .inl (cI my))), (m_values, .inl (G.2 0, 3, .inl (cI N_v))), (m_anew, .inl (G.2 0, 135, .inl (cI N_n)))]) ∨ (∃ NtA : Int, ∃ NtL : Int, ∃ Ntk : Int, ∃ Nva : Int, ∃ N_v : Nat → Int, ∃ N_n : Nat → Int, ∃ jN : Int, (INo uS (cIt uS uV mn j0) jN) ∧ (0 ≤ NtA ∧ 0 ≤ NtL ∧ NtA + NtL ≤ m_bytesLong) ∧ (0 ≤ Ntk ∧ Ntk ≤ 4) ∧ (Ntk = 0 ∨ 1 ≤ NtL) ∧ (-2000 ≤ Nva ∧ Nva ≤ 2000) ∧ (m_tokenAt ≤ NtA) ∧ (ra my uS uA uV uE jN NtA NtL Ntk Nva) ∧ (0 ≤ jN ∧ jN < n0) ∧ (bp (plA (K0 + 99)) N_n) ∧ r = (iI 0) ∧ u = [(m0, .inr (10, [.ref m_all, .ref m_kept, .ref m_isKept, .ref m_refused, .long (lI m_above), .long (lI m_below), .ref m_hand, .ref m_fewest, .ref m_whoBites, .ref m_leaves, .ref m_bestFeast, .ref m_tells, .ref m_hardOn, .ref m_bytes, .int (iI m_bytesLong), .int (iI NtA), .int (iI NtL), .int (iI Ntk), .int (iI Nva), .ref m_anew, .ref m_values])), (m_bytes, .inl (G.2 0, 150, .inl (cI my))), (m_values, .inl (G.2 0, 3, .inl (cI N_v))), (m_anew, .inl (G.2 0, 135, .inl (cI N_n)))])) := by
  refine Met.ofW (cc := cX11_givesBiter) (maxL := 1) (ret := (some .boolean)) (by decide) rfl ?_
  intro p e s m args below meth c s₁ B hml hv
  obtain ⟨rfl, hsz, hP, hK, hD0, hN, hZ⟩ := hv
  have hx := B.exec
  have hb := B.bytes
  have hr := B.returns
  have hts := atoms_spec (ws := wsX11_givesBiter) B.pre
  have hown : s.vm.findClass RX11 = some m.cls := findClass_of_methodNamed B.named
  have hlocks := B.notSynchronized
  subst hsz
  have hD := hD0.self (sz := s.heap.size)
  generalize hAe : va_A [(m0, .inr (10, [.ref m_all, .ref m_kept, .ref m_isKept, .ref m_refused, .long (lI m_above), .long (lI m_below), .ref m_hand, .ref m_fewest, .ref m_whoBites, .ref m_leaves, .ref m_bestFeast, .ref m_tells, .ref m_hardOn, .ref m_bytes, .int (iI m_bytesLong), .int (iI m_tokenAt), .int (iI m_tokenLong), .int (iI m_token), .int (iI m_value), .ref m_anew, .ref m_values])), (m_bytes, .inl (G.2 0, 150, .inl (cI my))), (m_values, .inl (G.2 0, 3, .inl (cI mv))), (m_anew, .inl (G.2 0, 135, .inl (cI mn)))] s.heap.size = A at hD hZ ⊢
  have hA : ∀ q : Nat, s.heap.size ≤ q → A q := fun q h => by rw [← hAe]; exact Or.inr h
  have hS : va_S A s.heap s.heap [] := va_S.rf
  have hP : va_P G.1 vwCl [(m0, .inr (10, [.ref m_all, .ref m_kept, .ref m_isKept, .ref m_refused, .long (lI m_above), .long (lI m_below), .ref m_hand, .ref m_fewest, .ref m_whoBites, .ref m_leaves, .ref m_bestFeast, .ref m_tells, .ref m_hardOn, .ref m_bytes, .int (iI m_bytesLong), .int (iI m_tokenAt), .int (iI m_tokenLong), .int (iI m_token), .int (iI m_value), .ref m_anew, .ref m_values])), (m_bytes, .inl (G.2 0, 150, .inl (cI my))), (m_values, .inl (G.2 0, 3, .inl (cI mv))), (m_anew, .inl (G.2 0, 135, .inl (cI mn)))] s.heap := hP
  have hl := lv_entry ([.ref m0]) (n := 1) (Nat.le_of_ble_eq_true rfl)
  rw [lg_entry_eq]
  generalize (lg_sl ([.ref m0]) ++ List.replicate (1 - (lg_sl ([.ref m0])).length) Slot.unset).toArray = ls at hl ⊢
  have hl : lv_has ls 1 [(0, .ref m0)] := hl
  refine lv_aload_n hx hb dX11_givesBiter_0 rfl (lv_at hl 0 rfl) ?_
  refine va_get (D := G.1) (ci := 10) (v := .ref m_anew) (C := RX11) (T := TX11) (N := 21) hx hb hts (fun _ h => List.mem_cons_of_mem _ (inlX11 _ h)) hown hK hP 0 rfl rfl 19 (by decide) (hts _ (List.mem_cons_of_mem _ (in_r6 (List.mem_of_getElem? (i := 13) rfl)))) (fun _ h9 => h9) rfl dX11_givesBiter_1 ?_
  refine lv_iconst (v := iI 1) hx hb dX11_givesBiter_4 rfl ?_
  refine g_ild hx hb hK hP 3 rfl (by omega) (by omega) (by first | exact Nat.le_of_ble_eq_true rfl | omega) dX11_givesBiter_5 (fun w_1 ew_1 => ?_)
  have ew_1 : mn 1 = w_1 := ew_1
  subst ew_1
  have bw_1 : 0 ≤ (mn 1) ∧ (mn 1) ≤ 4 := y1_ 1
  refine lv_iconst (v := iI 4) hx hb dX11_givesBiter_6 rfl ?_
  refine lv_icmp_ne (tgt := 12) hx hb dX11_givesBiter_7 (by decide) (fun c_2 => ?_) (fun c_2 => ?_)
  · have c_2 : ¬ ((mn 1) = 4) := fun h9 => c_2 ((iI_eq (a := (mn 1)) (b := 4) (by omega) (by first | decide | omega)).mpr h9)
    refine lv_aload_n hx hb dX11_givesBiter_12 rfl (lv_at hl 0 rfl) ?_
    refine g_callv (wr := [(m_values, .inl (G.2 0, 3, .inl (cI mv))), (m_anew, .inl (G.2 0, 135, .inl (cI mn)))]) (va_runV (As := []) (rest := []) ⟨hx, hb, hml, hown, hts⟩ (c_X11_goBehind l G (m0) (m_all) (m_kept) (m_isKept) (m_refused) (m_above) (m_below) (m_hand) (m_fewest) (m_whoBites) (m_leaves) (m_bestFeast) (m_tells) (m_hardOn) (m_bytes) (m_bytesLong) (m_tokenAt) (m_tokenLong) (m_token) (m_value) (m_anew) (m_values) (my) (uS) (uA) (uV) (uE) (n0) (j0) (by first | exact y0_ | exact bd_mono y0_ (by omega) (by omega) | assumption) (by first | exact hL | assumption | omega) (by first | exact i0_ | assumption | omega) (by first | exact i1_ | assumption | omega) (by first | exact i2_ | assumption | omega) (by first | exact i3_ | assumption | omega) (by first | exact hch | assumption | omega) (by first | exact hra | assumption | omega) (by first | exact hj | assumption | omega) (by first | assumption | omega) _) (cwV 0 hts gX11_givesBiter_X11_goBehind rfl rfl rfl (by decide +kernel) ⟨Nat.le_of_ble_eq_true rfl, Nat.le_of_ble_eq_true rfl⟩) (g_preV m0 [] hP hD hK hN hS hA hZ [0, 1] rfl rfl 0 (ci := 10) rfl rfl) rfl rfl hl.1 rfl (lv_room (Nat.le_of_ble_eq_true rfl)) dX11_givesBiter_13 ⟨Nat.le_of_ble_eq_true rfl, Nat.le_of_ble_eq_true rfl⟩) hP hD hS hA [0, 1] [2, 3] rfl rfl rfl (by decide) (fun u H locs hw hP hD hS => ?_)
    refine ea_4_8 hw (fun NtA_3 NtL_4 Ntk_5 Nva_6 k_7 k_8 k_9 k_10 k_11 k_12 k_13 e8_0 => ?_)
    subst e8_0
    clear hw
    have hPD : PD G A H [(m_values, .inl (G.2 0, 3, .inl (cI mv))), (m_anew, .inl (G.2 0, 135, .inl (cI mn))), (m0, .inr (10, [.ref m_all, .ref m_kept, .ref m_isKept, .ref m_refused, .long (lI m_above), .long (lI m_below), .ref m_hand, .ref m_fewest, .ref m_whoBites, .ref m_leaves, .ref m_bestFeast, .ref m_tells, .ref m_hardOn, .ref m_bytes, .int (iI m_bytesLong), .int (iI NtA_3), .int (iI NtL_4), .int (iI Ntk_5), .int (iI Nva_6), .ref m_anew, .ref m_values])), (m_bytes, .inl (G.2 0, 150, .inl (cI my)))] := ⟨hP, hD⟩
    have hP := hPD.1
    have hD := hPD.2
    clear hPD
    refine lv_aload_n hx hb dX11_givesBiter_16 rfl (lv_at hl 0 rfl) ?_
    refine lv_iconst (v := iI 0) hx hb dX11_givesBiter_17 rfl ?_
    refine lv_iconst (v := iI 0) hx hb dX11_givesBiter_18 rfl ?_
    refine lv_iconst (v := iI 5) hx hb dX11_givesBiter_19 rfl ?_
    refine g_calli (wr := [(m_anew, .inl (G.2 0, 135, .inl (cI mn)))]) (va_runV (As := [.int (iI 0), .int (iI 0), .int (iI 5)]) (rest := []) ⟨hx, hb, hml, hown, hts⟩ (c_X11_gives0 l G (m0) (m_all) (m_kept) (m_isKept) (m_refused) (m_above) (m_below) (m_hand) (m_fewest) (m_whoBites) (m_leaves) (m_bestFeast) (m_tells) (m_hardOn) (m_bytes) (m_bytesLong) (NtA_3) (NtL_4) (Ntk_5) (Nva_6) (m_anew) (m_values) (my) (mv) (uS) (uA) (uV) (uE) (n0) ((j0 + 1)) (0) (5) (by first | exact y0_ | exact bd_mono y0_ (by omega) (by omega) | assumption) (by first | exact hL | assumption | omega) (by first | exact k_7 | assumption | omega) (by first | exact k_8 | assumption | omega) (by first | exact k_9 | assumption | omega) (by first | exact k_10 | assumption | omega) (by first | exact hch | assumption | omega) (by first | exact k_12 | assumption | omega) (by first | assumption | omega) (by first | assumption | omega) (by first | assumption | omega) _) (cwV 3 hts gX11_givesBiter_X11_gives rfl rfl rfl (by decide +kernel) ⟨Nat.le_of_ble_eq_true rfl, Nat.le_of_ble_eq_true rfl⟩) (g_preV m0 [.int (iI 0), .int (iI 0), .int (iI 5)] hP hD hK hN hS hA hZ [2, 3, 0] rfl rfl 2 (ci := 10) rfl rfl) rfl rfl hl.1 rfl (lv_room (Nat.le_of_ble_eq_true rfl)) dX11_givesBiter_20 ⟨Nat.le_of_ble_eq_true rfl, Nat.le_of_ble_eq_true rfl⟩) hP hD hS hA [2, 3, 0] [1] rfl rfl rfl (by decide) (fun r_14 u H locs hw hP hD hS => ?_)
    rcases hw with ⟨NtA_15, NtL_16, Ntk_17, Nva_18, nv_19, rfl, k_20, k_21, k_22, k_23, k_24, k_25, k_26, k_27, rfl, rfl⟩ | ⟨k_28, rfl, rfl⟩
    · have hPD : PD G A H [(m_anew, .inl (G.2 0, 135, .inl (cI mn))), (m0, .inr (10, [.ref m_all, .ref m_kept, .ref m_isKept, .ref m_refused, .long (lI m_above), .long (lI m_below), .ref m_hand, .ref m_fewest, .ref m_whoBites, .ref m_leaves, .ref m_bestFeast, .ref m_tells, .ref m_hardOn, .ref m_bytes, .int (iI m_bytesLong), .int (iI NtA_15), .int (iI NtL_16), .int (iI Ntk_17), .int (iI Nva_18), .ref m_anew, .ref m_values])), (m_bytes, .inl (G.2 0, 150, .inl (cI my))), (m_values, .inl (G.2 0, 3, .inl (cI (uI mv 0 (uV ((j0 + 1) : Int).toNat)))))] := ⟨hP, hD⟩
      have hP := hPD.1
      have hD := hPD.2
      clear hPD
      refine lv_if_eq (tgt := 37) hx hb dX11_givesBiter_23 (by decide) (fun c_29 => g_no c_29 (by decide)) (fun _ => ?_)
      refine lv_aload_n hx hb dX11_givesBiter_26 rfl (lv_at hl 0 rfl) ?_
      refine lv_iconst (v := iI 1) hx hb dX11_givesBiter_27 rfl ?_
      refine lv_iconst (v := iI 1) hx hb dX11_givesBiter_28 rfl ?_
      refine lv_bipush (v := iI 9) hx hb dX11_givesBiter_29 (by decide) ?_
      refine g_calli (wr := [(m_anew, .inl (G.2 0, 135, .inl (cI mn)))]) (va_runV (As := [.int (iI 1), .int (iI 1), .int (iI 9)]) (rest := []) ⟨hx, hb, hml, hown, hts⟩ (c_X11_gives1 l G (m0) (m_all) (m_kept) (m_isKept) (m_refused) (m_above) (m_below) (m_hand) (m_fewest) (m_whoBites) (m_leaves) (m_bestFeast) (m_tells) (m_hardOn) (m_bytes) (m_bytesLong) (NtA_15) (NtL_16) (Ntk_17) (Nva_18) (m_anew) (m_values) (my) ((uI mv 0 (uV ((j0 + 1) : Int).toNat))) (uS) (uA) (uV) (uE) (n0) (((j0 + 1) + 1)) (1) (9) (by first | exact y0_ | exact bd_mono y0_ (by omega) (by omega) | assumption) (by first | exact hL | assumption | omega) (by first | exact k_20 | assumption | omega) (by first | exact k_21 | assumption | omega) (by first | exact k_22 | assumption | omega) (by first | exact k_23 | assumption | omega) (by first | exact hch | assumption | omega) (by first | exact k_25 | assumption | omega) (by first | assumption | omega) (by first | assumption | omega) (by first | assumption | omega) _) (cwV 3 hts gX11_givesBiter_X11_gives rfl rfl rfl (by decide +kernel) ⟨Nat.le_of_ble_eq_true rfl, Nat.le_of_ble_eq_true rfl⟩) (g_preV m0 [.int (iI 1), .int (iI 1), .int (iI 9)] hP hD hK hN hS hA hZ [1, 2, 3] rfl rfl 1 (ci := 10) rfl rfl) rfl rfl hl.1 rfl (lv_room (Nat.le_of_ble_eq_true rfl)) dX11_givesBiter_31 ⟨Nat.le_of_ble_eq_true rfl, Nat.le_of_ble_eq_true rfl⟩) hP hD hS hA [1, 2, 3] [0] rfl rfl rfl (by decide) (fun r_30 u H locs hw hP hD hS => ?_)
      rcases hw with ⟨NtA_31, NtL_32, Ntk_33, Nva_34, nv_35, rfl, k_36, k_37, k_38, k_39, k_40, k_41, k_42, k_43, rfl, rfl⟩ | ⟨k_44, rfl, rfl⟩
      · have hPD : PD G A H [(m_anew, .inl (G.2 0, 135, .inl (cI mn))), (m0, .inr (10, [.ref m_all, .ref m_kept, .ref m_isKept, .ref m_refused, .long (lI m_above), .long (lI m_below), .ref m_hand, .ref m_fewest, .ref m_whoBites, .ref m_leaves, .ref m_bestFeast, .ref m_tells, .ref m_hardOn, .ref m_bytes, .int (iI m_bytesLong), .int (iI NtA_31), .int (iI NtL_32), .int (iI Ntk_33), .int (iI Nva_34), .ref m_anew, .ref m_values])), (m_bytes, .inl (G.2 0, 150, .inl (cI my))), (m_values, .inl (G.2 0, 3, .inl (cI (uI (uI mv 0 (uV ((j0 + 1) : Int).toNat)) 1 (uV (((j0 + 1) + 1) : Int).toNat)))))] := ⟨hP, hD⟩
        have hP := hPD.1
        have hD := hPD.2
        clear hPD
        refine lv_if_ne (tgt := 39) hx hb dX11_givesBiter_34 (by decide) (fun _ => ?_) (fun c_45 => g_no c_45 (by decide))
        refine lv_aload_n hx hb dX11_givesBiter_39 rfl (lv_at hl 0 rfl) ?_
        refine va_get (D := G.1) (ci := 10) (v := .ref m_anew) (C := RX11) (T := TX11) (N := 21) hx hb hts (fun _ h => List.mem_cons_of_mem _ (inlX11 _ h)) hown hK hP 1 rfl rfl 19 (by decide) (hts _ (List.mem_cons_of_mem _ (in_r6 (List.mem_of_getElem? (i := 13) rfl)))) (fun _ h9 => h9) rfl dX11_givesBiter_40 ?_
        refine lv_aload_n hx hb dX11_givesBiter_43 rfl (lv_at hl 0 rfl) ?_
        refine va_get (D := G.1) (ci := 10) (v := .ref m_values) (C := RX11) (T := TX11) (N := 21) hx hb hts (fun _ h => List.mem_cons_of_mem _ (inlX11 _ h)) hown hK hP 1 rfl rfl 20 (by decide) (hts _ (List.mem_cons_of_mem _ (in_r6 (List.mem_of_getElem? (i := 14) rfl)))) (fun _ h9 => h9) rfl dX11_givesBiter_44 ?_
        refine lv_iconst (v := iI 0) hx hb dX11_givesBiter_47 rfl ?_
        refine g_ild hx hb hK hP 3 rfl (by omega) (by omega) (by first | exact Nat.le_of_ble_eq_true rfl | omega) dX11_givesBiter_48 (fun w_46 ew_46 => ?_)
        have ew_46 : (uI (uI mv 0 (uV ((j0 + 1) : Int).toNat)) 1 (uV (((j0 + 1) + 1) : Int).toNat)) 0 = w_46 := ew_46
        rw [uI_ne (by omega), uI_eq] at ew_46
        subst ew_46
        refine lv_aload_n hx hb dX11_givesBiter_49 rfl (lv_at hl 0 rfl) ?_
        refine va_get (D := G.1) (ci := 10) (v := .ref m_values) (C := RX11) (T := TX11) (N := 21) hx hb hts (fun _ h => List.mem_cons_of_mem _ (inlX11 _ h)) hown hK hP 1 rfl rfl 20 (by decide) (hts _ (List.mem_cons_of_mem _ (in_r6 (List.mem_of_getElem? (i := 14) rfl)))) (fun _ h9 => h9) rfl dX11_givesBiter_50 ?_
        refine lv_iconst (v := iI 1) hx hb dX11_givesBiter_53 rfl ?_
        refine g_ild hx hb hK hP 3 rfl (by omega) (by omega) (by first | exact Nat.le_of_ble_eq_true rfl | omega) dX11_givesBiter_54 (fun w_47 ew_47 => ?_)
        have ew_47 : (uI (uI mv 0 (uV ((j0 + 1) : Int).toNat)) 1 (uV (((j0 + 1) + 1) : Int).toNat)) 1 = w_47 := ew_47
        rw [uI_eq] at ew_47
        subst ew_47
        refine g_callv (wr := [(m0, .inr (10, [.ref m_all, .ref m_kept, .ref m_isKept, .ref m_refused, .long (lI m_above), .long (lI m_below), .ref m_hand, .ref m_fewest, .ref m_whoBites, .ref m_leaves, .ref m_bestFeast, .ref m_tells, .ref m_hardOn, .ref m_bytes, .int (iI m_bytesLong), .int (iI NtA_31), .int (iI NtL_32), .int (iI Ntk_33), .int (iI Nva_34), .ref m_anew, .ref m_values])), (m_bytes, .inl (G.2 0, 150, .inl (cI my))), (m_values, .inl (G.2 0, 3, .inl (cI (uI (uI mv 0 (uV ((j0 + 1) : Int).toNat)) 1 (uV (((j0 + 1) + 1) : Int).toNat)))))]) (va_runS (As := [.ref m_anew, .int (iI (uV ((j0 + 1) : Int).toNat)), .int (iI (uV (((j0 + 1) + 1) : Int).toNat))]) (rest := []) ⟨hx, hb, hml, hown, hts⟩ (c_X11_layBiter_135 l G (m_anew) (mn) (K0) ((uV ((j0 + 1) : Int).toNat)) ((uV (((j0 + 1) + 1) : Int).toNat)) (by first | exact y1_ | exact bpA_mono y1_ (by omega) | assumption) (by first | assumption | omega) (by first | assumption | omega) (by first | assumption | omega) (by first | assumption | omega) _) (va_cwS 3 hts gX11_givesBiter_X11_layBiter rfl rfl rfl (by decide +kernel) ⟨Nat.le_of_ble_eq_true rfl, Nat.le_of_ble_eq_true rfl⟩) (g_preS [.ref m_anew, .int (iI (uV ((j0 + 1) : Int).toNat)), .int (iI (uV (((j0 + 1) + 1) : Int).toNat))] hP hD hK hN hS hA hZ [0] rfl rfl) rfl rfl hl.1 rfl (lv_room (Nat.le_of_ble_eq_true rfl)) dX11_givesBiter_55 ⟨Nat.le_of_ble_eq_true rfl, Nat.le_of_ble_eq_true rfl⟩) hP hD hS hA [0] [1, 2, 3] rfl rfl rfl (by decide) (fun u H locs hw hP hD hS => ?_)
        obtain ⟨Nq_48, rfl, k_49, rfl⟩ := hw
        have hPD : PD G A H [(m0, .inr (10, [.ref m_all, .ref m_kept, .ref m_isKept, .ref m_refused, .long (lI m_above), .long (lI m_below), .ref m_hand, .ref m_fewest, .ref m_whoBites, .ref m_leaves, .ref m_bestFeast, .ref m_tells, .ref m_hardOn, .ref m_bytes, .int (iI m_bytesLong), .int (iI NtA_31), .int (iI NtL_32), .int (iI Ntk_33), .int (iI Nva_34), .ref m_anew, .ref m_values])), (m_bytes, .inl (G.2 0, 150, .inl (cI my))), (m_values, .inl (G.2 0, 3, .inl (cI (uI (uI mv 0 (uV ((j0 + 1) : Int).toNat)) 1 (uV (((j0 + 1) + 1) : Int).toNat))))), (m_anew, .inl (G.2 0, 135, .inl (cI (sBiter mn (uV ((j0 + 1) : Int).toNat) (uV (((j0 + 1) + 1) : Int).toNat)))))] := ⟨hP, hD⟩
        have hP := hPD.1
        have hD := hPD.2
        clear hPD
        refine lv_iconst (v := iI 1) hx hb dX11_givesBiter_58 rfl ?_
        exact g_zret (v := (iI 1)) hx hb hr hlocks rfl hP hD hS (Or.inl ⟨NtA_31, NtL_32, Ntk_33, Nva_34, (uI (uI mv 0 (uV ((j0 + 1) : Int).toNat)) 1 (uV (((j0 + 1) + 1) : Int).toNat)), (sBiter mn (uV ((j0 + 1) : Int).toNat) (uV (((j0 + 1) + 1) : Int).toNat)), (((j0 + 1) + 1) + 1), (by rw [cIt_7 (by omega) (by omega)]; exact (cBiter_ok (by first | assumption | omega) (by first | assumption | omega))), (by first | exact k_36 | assumption | omega), (by first | exact k_37 | assumption | omega), (by first | exact k_38 | assumption | omega), (by first | exact k_39 | assumption | omega), (by first | assumption | omega), (by first | exact k_41 | assumption | omega), (by first | assumption | omega), (by first | exact k_49 | exact bpA_mono k_49 (by omega) | assumption), rfl, rfl⟩) dX11_givesBiter_59
      · have hPD : PD G A H [(m_anew, .inl (G.2 0, 135, .inl (cI mn))), (m0, .inr (10, [.ref m_all, .ref m_kept, .ref m_isKept, .ref m_refused, .long (lI m_above), .long (lI m_below), .ref m_hand, .ref m_fewest, .ref m_whoBites, .ref m_leaves, .ref m_bestFeast, .ref m_tells, .ref m_hardOn, .ref m_bytes, .int (iI m_bytesLong), .int (iI NtA_15), .int (iI NtL_16), .int (iI Ntk_17), .int (iI Nva_18), .ref m_anew, .ref m_values])), (m_bytes, .inl (G.2 0, 150, .inl (cI my))), (m_values, .inl (G.2 0, 3, .inl (cI (uI mv 0 (uV ((j0 + 1) : Int).toNat)))))] := ⟨hP, hD⟩
        have hP := hPD.1
        have hD := hPD.2
        clear hPD
        refine lv_if_ne (tgt := 39) hx hb dX11_givesBiter_34 (by decide) (fun c_50 => g_no (by decide) c_50) (fun _ => ?_)
        refine lv_iconst (v := iI 0) hx hb dX11_givesBiter_37 rfl ?_
        have hP := hP.sub (ws' := [(m0, .inr (10, [.ref m_all, .ref m_kept, .ref m_isKept, .ref m_refused, .long (lI m_above), .long (lI m_below), .ref m_hand, .ref m_fewest, .ref m_whoBites, .ref m_leaves, .ref m_bestFeast, .ref m_tells, .ref m_hardOn, .ref m_bytes, .int (iI m_bytesLong), .int (iI NtA_15), .int (iI NtL_16), .int (iI Ntk_17), .int (iI Nva_18), .ref m_anew, .ref m_values])), (m_bytes, .inl (G.2 0, 150, .inl (cI my))), (m_values, .inl (G.2 0, 3, .inl (cI (uI mv 0 (uV ((j0 + 1) : Int).toNat))))), (m_anew, .inl (G.2 0, 135, .inl (cI mn)))]) [1, 2, 3, 0] rfl
        have hD := hD.sub (ws' := [(m0, .inr (10, [.ref m_all, .ref m_kept, .ref m_isKept, .ref m_refused, .long (lI m_above), .long (lI m_below), .ref m_hand, .ref m_fewest, .ref m_whoBites, .ref m_leaves, .ref m_bestFeast, .ref m_tells, .ref m_hardOn, .ref m_bytes, .int (iI m_bytesLong), .int (iI NtA_15), .int (iI NtL_16), .int (iI Ntk_17), .int (iI Nva_18), .ref m_anew, .ref m_values])), (m_bytes, .inl (G.2 0, 150, .inl (cI my))), (m_values, .inl (G.2 0, 3, .inl (cI (uI mv 0 (uV ((j0 + 1) : Int).toNat))))), (m_anew, .inl (G.2 0, 135, .inl (cI mn)))]) [1, 2, 3, 0] rfl rfl
        exact g_zret (v := (iI 0)) hx hb hr hlocks rfl hP hD hS (Or.inr (⟨NtA_15, NtL_16, Ntk_17, Nva_18, (uI mv 0 (uV ((j0 + 1) : Int).toNat)), mn, ((j0 + 1) + 1), (by rw [cIt_7 (by omega) (by omega)]; exact (cBiter_f1 (by first | assumption | omega) (by first | assumption | omega))), (by first | exact k_20 | assumption | omega), (by first | exact k_21 | assumption | omega), (by first | exact k_22 | assumption | omega), (by first | exact k_23 | assumption | omega), (by first | assumption | omega), (by first | exact k_25 | assumption | omega), (by first | assumption | omega), (by first | exact y1_ | exact bpA_mono y1_ (by omega) | assumption), rfl, rfl⟩)) dX11_givesBiter_38
    · have hPD : PD G A H [(m_anew, .inl (G.2 0, 135, .inl (cI mn))), (m0, .inr (10, [.ref m_all, .ref m_kept, .ref m_isKept, .ref m_refused, .long (lI m_above), .long (lI m_below), .ref m_hand, .ref m_fewest, .ref m_whoBites, .ref m_leaves, .ref m_bestFeast, .ref m_tells, .ref m_hardOn, .ref m_bytes, .int (iI m_bytesLong), .int (iI NtA_3), .int (iI NtL_4), .int (iI Ntk_5), .int (iI Nva_6), .ref m_anew, .ref m_values])), (m_bytes, .inl (G.2 0, 150, .inl (cI my))), (m_values, .inl (G.2 0, 3, .inl (cI mv)))] := ⟨hP, hD⟩
      have hP := hPD.1
      have hD := hPD.2
      clear hPD
      refine lv_if_eq (tgt := 37) hx hb dX11_givesBiter_23 (by decide) (fun _ => ?_) (fun c_51 => g_no (by decide) c_51)
      refine lv_iconst (v := iI 0) hx hb dX11_givesBiter_37 rfl ?_
      have hP := hP.sub (ws' := [(m0, .inr (10, [.ref m_all, .ref m_kept, .ref m_isKept, .ref m_refused, .long (lI m_above), .long (lI m_below), .ref m_hand, .ref m_fewest, .ref m_whoBites, .ref m_leaves, .ref m_bestFeast, .ref m_tells, .ref m_hardOn, .ref m_bytes, .int (iI m_bytesLong), .int (iI NtA_3), .int (iI NtL_4), .int (iI Ntk_5), .int (iI Nva_6), .ref m_anew, .ref m_values])), (m_bytes, .inl (G.2 0, 150, .inl (cI my))), (m_values, .inl (G.2 0, 3, .inl (cI mv))), (m_anew, .inl (G.2 0, 135, .inl (cI mn)))]) [1, 2, 3, 0] rfl
      have hD := hD.sub (ws' := [(m0, .inr (10, [.ref m_all, .ref m_kept, .ref m_isKept, .ref m_refused, .long (lI m_above), .long (lI m_below), .ref m_hand, .ref m_fewest, .ref m_whoBites, .ref m_leaves, .ref m_bestFeast, .ref m_tells, .ref m_hardOn, .ref m_bytes, .int (iI m_bytesLong), .int (iI NtA_3), .int (iI NtL_4), .int (iI Ntk_5), .int (iI Nva_6), .ref m_anew, .ref m_values])), (m_bytes, .inl (G.2 0, 150, .inl (cI my))), (m_values, .inl (G.2 0, 3, .inl (cI mv))), (m_anew, .inl (G.2 0, 135, .inl (cI mn)))]) [1, 2, 3, 0] rfl rfl
      exact g_zret (v := (iI 0)) hx hb hr hlocks rfl hP hD hS (Or.inr (⟨NtA_3, NtL_4, Ntk_5, Nva_6, mv, mn, (j0 + 1), (by rw [cIt_7 (by omega) (by omega)]; exact (cBiter_f0 (by first | assumption | omega))), (by first | exact k_7 | assumption | omega), (by first | exact k_8 | assumption | omega), (by first | exact k_9 | assumption | omega), (by first | exact k_10 | assumption | omega), (by first | assumption | omega), (by first | exact k_12 | assumption | omega), (by first | assumption | omega), (by first | exact y1_ | exact bpA_mono y1_ (by omega) | assumption), rfl, rfl⟩)) dX11_givesBiter_38
  · have c_2 := (iI_eq (a := (mn 1)) (b := 4) (by omega) (by first | decide | omega)).mp c_2
    refine lv_iconst (v := iI 0) hx hb dX11_givesBiter_10 rfl ?_
    exact g_zret (v := (iI 0)) hx hb hr hlocks rfl hP hD hS (Or.inr (⟨m_tokenAt, m_tokenLong, m_token, m_value, mv, mn, j0, (cIt_n (by omega)), (by first | exact i0_ | assumption | omega), (by first | exact i1_ | assumption | omega), (by first | exact i2_ | assumption | omega), (by first | exact i3_ | assumption | omega), (by first | assumption | omega), (by first | exact hra | assumption | omega), (by first | exact hj | assumption | omega), (by first | exact y1_ | exact bpA_mono y1_ (by omega) | assumption), rfl, rfl⟩)) dX11_givesBiter_11
theorem dX11_givesBite_0 : decode cX11_givesBite 0 = .ok (.aload_n 0, 1) := kd_42 (by decide +kernel)
theorem gX11_givesBite_X11_goBehind : GoodIn wsX11_givesBite (wsV RX11 265 RX11 yX11_goBehind wsX11_goBehind) := gW_V (in_r20 (List.mem_of_getElem? (i := 6) rfl)) (in_r20 (List.mem_of_getElem? (i := 7) rfl)) (in_r20 (List.mem_of_getElem? (i := 8) rfl)) (in_r1 (List.mem_of_getElem? (i := 5) rfl)) (in_r20 (List.mem_of_getElem? (i := 9) rfl))
theorem dX11_givesBite_1 : decode cX11_givesBite 1 = .ok (.invokevirtual 265, 3) := kd_182 (a := 1) (b := 9) (by decide +kernel)
theorem dX11_givesBite_4 : decode cX11_givesBite 4 = .ok (.aload_n 0, 1) := kd_42 (by decide +kernel)
theorem dX11_givesBite_5 : decode cX11_givesBite 5 = .ok (.iconst 0, 1) := kd_3 (by decide +kernel)
theorem dX11_givesBite_6 : decode cX11_givesBite 6 = .ok (.iconst 0, 1) := kd_3 (by decide +kernel)
theorem dX11_givesBite_7 : decode cX11_givesBite 7 = .ok (.aload_n 0, 1) := kd_42 (by decide +kernel)
theorem dX11_givesBite_8 : decode cX11_givesBite 8 = .ok (.getfield 51, 3) := kd_180 (a := 0) (b := 51) (by decide +kernel)
theorem dX11_givesBite_11 : decode cX11_givesBite 11 = .ok (.iconst 1, 1) := kd_4 (by decide +kernel)
theorem dX11_givesBite_12 : decode cX11_givesBite 12 = .ok (.iaload, 1) := kd_46 (by decide +kernel)
theorem dX11_givesBite_13 : decode cX11_givesBite 13 = .ok (.iconst 1, 1) := kd_4 (by decide +kernel)
theorem dX11_givesBite_14 : decode cX11_givesBite 14 = .ok (.isub, 1) := kd_100 (by decide +kernel)
theorem gX11_givesBite_X11_gives : GoodIn wsX11_givesBite (wsV RX11 268 RX11 yX11_gives wsX11_gives) := gW_V (in_r20 (List.mem_of_getElem? (i := 18) rfl)) (in_r20 (List.mem_of_getElem? (i := 19) rfl)) (in_r20 (List.mem_of_getElem? (i := 20) rfl)) (in_r1 (List.mem_of_getElem? (i := 5) rfl)) (in_r20 (List.mem_of_getElem? (i := 21) rfl))
theorem dX11_givesBite_15 : decode cX11_givesBite 15 = .ok (.invokevirtual 268, 3) := kd_182 (a := 1) (b := 12) (by decide +kernel)
theorem dX11_givesBite_18 : decode cX11_givesBite 18 = .ok (.ifCond .eq 21, 3) := kd_153 (a := 0) (b := 21) (by decide +kernel)
theorem dX11_givesBite_21 : decode cX11_givesBite 21 = .ok (.aload_n 0, 1) := kd_42 (by decide +kernel)
theorem gX11_givesBite_X11_isApplesNumber : GoodIn wsX11_givesBite (wsV RX11 272 RX11 yX11_isApplesNumber wsX11_isApplesNumber) := gW_V (in_r21 (List.mem_of_getElem? (i := 10) rfl)) (in_r21 (List.mem_of_getElem? (i := 11) rfl)) (in_r21 (List.mem_of_getElem? (i := 12) rfl)) (in_r1 (List.mem_of_getElem? (i := 5) rfl)) (in_r21 (List.mem_of_getElem? (i := 13) rfl))
theorem dX11_givesBite_22 : decode cX11_givesBite 22 = .ok (.invokevirtual 272, 3) := kd_182 (a := 1) (b := 16) (by decide +kernel)
theorem dX11_givesBite_25 : decode cX11_givesBite 25 = .ok (.ifCond .eq 14, 3) := kd_153 (a := 0) (b := 14) (by decide +kernel)
theorem dX11_givesBite_28 : decode cX11_givesBite 28 = .ok (.aload_n 0, 1) := kd_42 (by decide +kernel)
theorem dX11_givesBite_29 : decode cX11_givesBite 29 = .ok (.iconst 1, 1) := kd_4 (by decide +kernel)
theorem dX11_givesBite_30 : decode cX11_givesBite 30 = .ok (.iconst 0, 1) := kd_3 (by decide +kernel)
theorem dX11_givesBite_31 : decode cX11_givesBite 31 = .ok (.bipush 6, 2) := kd_16 (a := 6) (by decide +kernel)
theorem dX11_givesBite_33 : decode cX11_givesBite 33 = .ok (.invokevirtual 268, 3) := kd_182 (a := 1) (b := 12) (by decide +kernel)
theorem dX11_givesBite_36 : decode cX11_givesBite 36 = .ok (.ifCond .ne 5, 3) := kd_154 (a := 0) (b := 5) (by decide +kernel)
theorem dX11_givesBite_41 : decode cX11_givesBite 41 = .ok (.aload_n 0, 1) := kd_42 (by decide +kernel)
theorem dX11_givesBite_42 : decode cX11_givesBite 42 = .ok (.getfield 51, 3) := kd_180 (a := 0) (b := 51) (by decide +kernel)
theorem dX11_givesBite_45 : decode cX11_givesBite 45 = .ok (.aload_n 0, 1) := kd_42 (by decide +kernel)
theorem dX11_givesBite_46 : decode cX11_givesBite 46 = .ok (.getfield 54, 3) := kd_180 (a := 0) (b := 54) (by decide +kernel)
theorem dX11_givesBite_49 : decode cX11_givesBite 49 = .ok (.iconst 0, 1) := kd_3 (by decide +kernel)
theorem dX11_givesBite_50 : decode cX11_givesBite 50 = .ok (.iaload, 1) := kd_46 (by decide +kernel)
theorem dX11_givesBite_51 : decode cX11_givesBite 51 = .ok (.aload_n 0, 1) := kd_42 (by decide +kernel)
theorem dX11_givesBite_52 : decode cX11_givesBite 52 = .ok (.getfield 54, 3) := kd_180 (a := 0) (b := 54) (by decide +kernel)
theorem dX11_givesBite_55 : decode cX11_givesBite 55 = .ok (.iconst 1, 1) := kd_4 (by decide +kernel)
theorem dX11_givesBite_56 : decode cX11_givesBite 56 = .ok (.iaload, 1) := kd_46 (by decide +kernel)
theorem gX11_givesBite_X11_goBite : GoodIn wsX11_givesBite (va_wsS RX11 152 yX11_goBite wsX11_goBite) := gW_S (in_r21 (List.mem_of_getElem? (i := 17) rfl)) (in_r21 (List.mem_of_getElem? (i := 18) rfl)) (in_r1 (List.mem_of_getElem? (i := 5) rfl)) (in_r21 (List.mem_of_getElem? (i := 19) rfl))
theorem dX11_givesBite_57 : decode cX11_givesBite 57 = .ok (.invokestatic 152, 3) := kd_184 (a := 0) (b := 152) (by decide +kernel)
theorem dX11_givesBite_60 : decode cX11_givesBite 60 = .ok (.iconst 1, 1) := kd_4 (by decide +kernel)
theorem dX11_givesBite_61 : decode cX11_givesBite 61 = .ok (.ireturn, 1) := kd_172 (by decide +kernel)
theorem dX11_givesBite_39 : decode cX11_givesBite 39 = .ok (.iconst 0, 1) := kd_3 (by decide +kernel)
theorem dX11_givesBite_40 : decode cX11_givesBite 40 = .ok (.ireturn, 1) := kd_172 (by decide +kernel)
set_option maxHeartbeats 8000000 in
set_option maxRecDepth 100000 in
theorem c_X11_givesBite (l : Launch) (G : gG) (m0 : Nat) (m_all : Nat) (m_kept : Nat) (m_isKept : Nat) (m_refused : Nat) (m_above : Int) (m_below : Int) (m_hand : Nat) (m_fewest : Nat) (m_whoBites : Nat) (m_leaves : Nat) (m_bestFeast : Nat) (m_tells : Nat) (m_hardOn : Nat) (m_bytes : Nat) (m_bytesLong : Int) (m_tokenAt : Int) (m_tokenLong : Int) (m_token : Int) (m_value : Int) (m_anew : Nat) (m_values : Nat) (my : Nat → Int) (mv : Nat → Int) (mn : Nat → Int) (K0 : Int) (uS : Nat → Int) (uA : Nat → Int) (uV : Nat → Int) (uE : Nat → Int) (n0 : Int) (j0 : Int) (y0_ : bd 0 127 my) (y1_ : bp (plA K0) mn) (hL : 0 ≤ m_bytesLong ∧ m_bytesLong ≤ 150) (i0_ : 0 ≤ m_tokenAt ∧ 0 ≤ m_tokenLong ∧ m_tokenAt + m_tokenLong ≤ m_bytesLong) (i1_ : 0 ≤ m_token ∧ m_token ≤ 4) (i2_ : m_token = 0 ∨ 1 ≤ m_tokenLong) (i3_ : -2000 ≤ m_value ∧ m_value ≤ 2000) (hch : chF my m_bytesLong uS uA uV n0 uE) (hra : ra my uS uA uV uE j0 m_tokenAt m_tokenLong m_token m_value) (hj : 0 ≤ j0 ∧ j0 < n0) (hK0 : 1000 ≤ K0 ∧ K0 ≤ 1900000) (h5 : uS (j0 : Int).toNat = 8) (sz : Nat) : gI G l yX11_givesBite wsX11_givesBite ({ frames := 5, cells := 0, slots := 0, locals := 112 } : Room) [.ref m0] [(m0, .inr (10, [.ref m_all, .ref m_kept, .ref m_isKept, .ref m_refused, .long (lI m_above), .long (lI m_below), .ref m_hand, .ref m_fewest, .ref m_whoBites, .ref m_leaves, .ref m_bestFeast, .ref m_tells, .ref m_hardOn, .ref m_bytes, .int (iI m_bytesLong), .int (iI m_tokenAt), .int (iI m_tokenLong), .int (iI m_token), .int (iI m_value), .ref m_anew, .ref m_values])), (m_bytes, .inl (G.2 0, 150, .inl (cI my))), (m_values, .inl (G.2 0, 3, .inl (cI mv))), (m_anew, .inl (G.2 0, 135, .inl (cI mn)))] sz (fun (r : Int32) (u : va_W) => (∃ NtA : Int, ∃ NtL : Int, ∃ Ntk : Int, ∃ Nva : Int, ∃ N_v : Nat → Int, ∃ N_n : Nat → Int, ∃ jN : Int, (MOk (cIt uS uV mn j0) jN N_n) ∧ (0 ≤ NtA ∧ 0 ≤ NtL ∧ NtA + NtL ≤ m_bytesLong) ∧ (0 ≤ Ntk ∧ Ntk ≤ 4) ∧ (Ntk = 0 ∨ 1 ≤ NtL) ∧ (-2000 ≤ Nva ∧ Nva ≤ 2000) ∧ (m_tokenAt ≤ NtA) ∧ (ra my uS uA uV uE jN NtA NtL Ntk Nva) ∧ (j0 < jN ∧ jN < n0) ∧ (bp (plA (K0 + 99)) N_n) ∧ r = (iI 1) ∧ u = [(m0, .inr (10, [.ref m_all, .ref m_kept, .ref m_isKept, .ref m_refused, .long (lI m_above), .long (lI m_below), .ref m_hand, .ref m_fewest, .ref m_whoBites, .ref m_leaves, .ref m_bestFeast, .ref m_tells, .ref m_hardOn, .ref m_bytes, .int (iI m_bytesLong), .int (iI NtA), .int (iI NtL), .int (iI Ntk), .int (iI Nva), .ref m_anew, .ref m_values])), (m_bytes, .inl (G.2 0, 150, .inl (cI my))), (m_values, .inl (G.2 0, 3, .inl (cI N_v))), (m_anew, .inl (G.2 0, 135, .inl (cI N_n)))]) ∨ (∃ NtA : Int, ∃ NtL : Int, ∃ Ntk : Int, ∃ Nva : Int, ∃ N_v : Nat → Int, ∃ N_n : Nat → Int, ∃ jN : Int, (INo uS (cIt uS uV mn j0) jN) ∧ (0 ≤ NtA ∧ 0 ≤ NtL ∧ NtA + NtL ≤ m_bytesLong) ∧ (0 ≤ Ntk ∧ Ntk ≤ 4) ∧ (Ntk = 0 ∨ 1 ≤ NtL) ∧ (-2000 ≤ Nva ∧ Nva ≤ 2000) ∧ (m_tokenAt ≤ NtA) ∧ (ra my uS uA uV uE jN NtA NtL Ntk Nva) ∧ (0 ≤ jN ∧ jN < n0) ∧ (bp (plA (K0 + 99)) N_n) ∧ r = (iI 0) ∧ u = [(m0, .inr (10, [.ref m_all, .ref m_kept, .ref m_isKept, .ref m_refused, .long (lI m_above), .long (lI m_below), .ref m_hand, .ref m_fewest, .ref m_whoBites, .ref m_leaves, .ref m_bestFeast, .ref m_tells, .ref m_hardOn, .ref m_bytes, .int (iI m_bytesLong), .int (iI NtA), .int (iI NtL), .int (iI Ntk), .int (iI Nva), .ref m_anew, .ref m_values])), (m_bytes, .inl (G.2 0, 150, .inl (cI my))), (m_values, .inl (G.2 0, 3, .inl (cI N_v))), (m_anew, .inl (G.2 0, 135, .inl (cI N_n)))])) := by
  refine Met.ofW (cc := cX11_givesBite) (maxL := 1) (ret := (some .boolean)) (by decide) rfl ?_
  intro p e s m args below meth c s₁ B hml hv
  obtain ⟨rfl, hsz, hP, hK, hD0, hN, hZ⟩ := hv
  have hx := B.exec
  have hb := B.bytes
  have hr := B.returns
  have hts := atoms_spec (ws := wsX11_givesBite) B.pre
  have hown : s.vm.findClass RX11 = some m.cls := findClass_of_methodNamed B.named
  have hlocks := B.notSynchronized
  subst hsz
  have hD := hD0.self (sz := s.heap.size)
  generalize hAe : va_A [(m0, .inr (10, [.ref m_all, .ref m_kept, .ref m_isKept, .ref m_refused, .long (lI m_above), .long (lI m_below), .ref m_hand, .ref m_fewest, .ref m_whoBites, .ref m_leaves, .ref m_bestFeast, .ref m_tells, .ref m_hardOn, .ref m_bytes, .int (iI m_bytesLong), .int (iI m_tokenAt), .int (iI m_tokenLong), .int (iI m_token), .int (iI m_value), .ref m_anew, .ref m_values])), (m_bytes, .inl (G.2 0, 150, .inl (cI my))), (m_values, .inl (G.2 0, 3, .inl (cI mv))), (m_anew, .inl (G.2 0, 135, .inl (cI mn)))] s.heap.size = A at hD hZ ⊢
  have hA : ∀ q : Nat, s.heap.size ≤ q → A q := fun q h => by rw [← hAe]; exact Or.inr h
  have hS : va_S A s.heap s.heap [] := va_S.rf
  have hP : va_P G.1 vwCl [(m0, .inr (10, [.ref m_all, .ref m_kept, .ref m_isKept, .ref m_refused, .long (lI m_above), .long (lI m_below), .ref m_hand, .ref m_fewest, .ref m_whoBites, .ref m_leaves, .ref m_bestFeast, .ref m_tells, .ref m_hardOn, .ref m_bytes, .int (iI m_bytesLong), .int (iI m_tokenAt), .int (iI m_tokenLong), .int (iI m_token), .int (iI m_value), .ref m_anew, .ref m_values])), (m_bytes, .inl (G.2 0, 150, .inl (cI my))), (m_values, .inl (G.2 0, 3, .inl (cI mv))), (m_anew, .inl (G.2 0, 135, .inl (cI mn)))] s.heap := hP
  have hl := lv_entry ([.ref m0]) (n := 1) (Nat.le_of_ble_eq_true rfl)
  rw [lg_entry_eq]
  generalize (lg_sl ([.ref m0]) ++ List.replicate (1 - (lg_sl ([.ref m0])).length) Slot.unset).toArray = ls at hl ⊢
  have hl : lv_has ls 1 [(0, .ref m0)] := hl
  refine lv_aload_n hx hb dX11_givesBite_0 rfl (lv_at hl 0 rfl) ?_
  refine g_callv (wr := [(m_values, .inl (G.2 0, 3, .inl (cI mv))), (m_anew, .inl (G.2 0, 135, .inl (cI mn)))]) (va_runV (As := []) (rest := []) ⟨hx, hb, hml, hown, hts⟩ (c_X11_goBehind l G (m0) (m_all) (m_kept) (m_isKept) (m_refused) (m_above) (m_below) (m_hand) (m_fewest) (m_whoBites) (m_leaves) (m_bestFeast) (m_tells) (m_hardOn) (m_bytes) (m_bytesLong) (m_tokenAt) (m_tokenLong) (m_token) (m_value) (m_anew) (m_values) (my) (uS) (uA) (uV) (uE) (n0) (j0) (by first | exact y0_ | exact bd_mono y0_ (by omega) (by omega) | assumption) (by first | exact hL | assumption | omega) (by first | exact i0_ | assumption | omega) (by first | exact i1_ | assumption | omega) (by first | exact i2_ | assumption | omega) (by first | exact i3_ | assumption | omega) (by first | exact hch | assumption | omega) (by first | exact hra | assumption | omega) (by first | exact hj | assumption | omega) (by first | assumption | omega) _) (cwV 0 hts gX11_givesBite_X11_goBehind rfl rfl rfl (by decide +kernel) ⟨Nat.le_of_ble_eq_true rfl, Nat.le_of_ble_eq_true rfl⟩) (g_preV m0 [] hP hD hK hN hS hA hZ [0, 1] rfl rfl 0 (ci := 10) rfl rfl) rfl rfl hl.1 rfl (lv_room (Nat.le_of_ble_eq_true rfl)) dX11_givesBite_1 ⟨Nat.le_of_ble_eq_true rfl, Nat.le_of_ble_eq_true rfl⟩) hP hD hS hA [0, 1] [2, 3] rfl rfl rfl (by decide) (fun u H locs hw hP hD hS => ?_)
  refine ea_4_8 hw (fun NtA_1 NtL_2 Ntk_3 Nva_4 k_5 k_6 k_7 k_8 k_9 k_10 k_11 e8_0 => ?_)
  subst e8_0
  clear hw
  have hPD : PD G A H [(m_values, .inl (G.2 0, 3, .inl (cI mv))), (m_anew, .inl (G.2 0, 135, .inl (cI mn))), (m0, .inr (10, [.ref m_all, .ref m_kept, .ref m_isKept, .ref m_refused, .long (lI m_above), .long (lI m_below), .ref m_hand, .ref m_fewest, .ref m_whoBites, .ref m_leaves, .ref m_bestFeast, .ref m_tells, .ref m_hardOn, .ref m_bytes, .int (iI m_bytesLong), .int (iI NtA_1), .int (iI NtL_2), .int (iI Ntk_3), .int (iI Nva_4), .ref m_anew, .ref m_values])), (m_bytes, .inl (G.2 0, 150, .inl (cI my)))] := ⟨hP, hD⟩
  have hP := hPD.1
  have hD := hPD.2
  clear hPD
  refine lv_aload_n hx hb dX11_givesBite_4 rfl (lv_at hl 0 rfl) ?_
  refine lv_iconst (v := iI 0) hx hb dX11_givesBite_5 rfl ?_
  refine lv_iconst (v := iI 0) hx hb dX11_givesBite_6 rfl ?_
  refine lv_aload_n hx hb dX11_givesBite_7 rfl (lv_at hl 0 rfl) ?_
  refine va_get (D := G.1) (ci := 10) (v := .ref m_anew) (C := RX11) (T := TX11) (N := 21) hx hb hts (fun _ h => List.mem_cons_of_mem _ (inlX11 _ h)) hown hK hP 2 rfl rfl 19 (by decide) (hts _ (List.mem_cons_of_mem _ (in_r6 (List.mem_of_getElem? (i := 13) rfl)))) (fun _ h9 => h9) rfl dX11_givesBite_8 ?_
  refine lv_iconst (v := iI 1) hx hb dX11_givesBite_11 rfl ?_
  refine g_ild hx hb hK hP 1 rfl (by omega) (by omega) (by first | exact Nat.le_of_ble_eq_true rfl | omega) dX11_givesBite_12 (fun w_12 ew_12 => ?_)
  have ew_12 : mn 1 = w_12 := ew_12
  subst ew_12
  have bw_12 : 0 ≤ (mn 1) ∧ (mn 1) ≤ 4 := y1_ 1
  refine lv_iconst (v := iI 1) hx hb dX11_givesBite_13 rfl ?_
  refine lv_isub hx hb dX11_givesBite_14 ?_
  refine g_topi (y := iI ((mn 1) - 1)) (iI_sub (mn 1) 1) ?_
  refine g_calli (wr := [(m_anew, .inl (G.2 0, 135, .inl (cI mn)))]) (va_runV (As := [.int (iI 0), .int (iI 0), .int (iI ((mn 1) - 1))]) (rest := []) ⟨hx, hb, hml, hown, hts⟩ (c_X11_gives0 l G (m0) (m_all) (m_kept) (m_isKept) (m_refused) (m_above) (m_below) (m_hand) (m_fewest) (m_whoBites) (m_leaves) (m_bestFeast) (m_tells) (m_hardOn) (m_bytes) (m_bytesLong) (NtA_1) (NtL_2) (Ntk_3) (Nva_4) (m_anew) (m_values) (my) (mv) (uS) (uA) (uV) (uE) (n0) ((j0 + 1)) (0) (((mn 1) - 1)) (by first | exact y0_ | exact bd_mono y0_ (by omega) (by omega) | assumption) (by first | exact hL | assumption | omega) (by first | exact k_5 | assumption | omega) (by first | exact k_6 | assumption | omega) (by first | exact k_7 | assumption | omega) (by first | exact k_8 | assumption | omega) (by first | exact hch | assumption | omega) (by first | exact k_10 | assumption | omega) (by first | assumption | omega) (by first | assumption | omega) (by first | assumption | omega) _) (cwV 3 hts gX11_givesBite_X11_gives rfl rfl rfl (by decide +kernel) ⟨Nat.le_of_ble_eq_true rfl, Nat.le_of_ble_eq_true rfl⟩) (g_preV m0 [.int (iI 0), .int (iI 0), .int (iI ((mn 1) - 1))] hP hD hK hN hS hA hZ [2, 3, 0] rfl rfl 2 (ci := 10) rfl rfl) rfl rfl hl.1 rfl (lv_room (Nat.le_of_ble_eq_true rfl)) dX11_givesBite_15 ⟨Nat.le_of_ble_eq_true rfl, Nat.le_of_ble_eq_true rfl⟩) hP hD hS hA [2, 3, 0] [1] rfl rfl rfl (by decide) (fun r_13 u H locs hw hP hD hS => ?_)
  rcases hw with ⟨NtA_14, NtL_15, Ntk_16, Nva_17, nv_18, rfl, k_19, k_20, k_21, k_22, k_23, k_24, k_25, k_26, rfl, rfl⟩ | ⟨k_27, rfl, rfl⟩
  · have hPD : PD G A H [(m_anew, .inl (G.2 0, 135, .inl (cI mn))), (m0, .inr (10, [.ref m_all, .ref m_kept, .ref m_isKept, .ref m_refused, .long (lI m_above), .long (lI m_below), .ref m_hand, .ref m_fewest, .ref m_whoBites, .ref m_leaves, .ref m_bestFeast, .ref m_tells, .ref m_hardOn, .ref m_bytes, .int (iI m_bytesLong), .int (iI NtA_14), .int (iI NtL_15), .int (iI Ntk_16), .int (iI Nva_17), .ref m_anew, .ref m_values])), (m_bytes, .inl (G.2 0, 150, .inl (cI my))), (m_values, .inl (G.2 0, 3, .inl (cI (uI mv 0 (uV ((j0 + 1) : Int).toNat)))))] := ⟨hP, hD⟩
    have hP := hPD.1
    have hD := hPD.2
    clear hPD
    refine lv_if_eq (tgt := 39) hx hb dX11_givesBite_18 (by decide) (fun c_28 => g_no c_28 (by decide)) (fun _ => ?_)
    refine lv_aload_n hx hb dX11_givesBite_21 rfl (lv_at hl 0 rfl) ?_
    refine g_calli (wr := [(m_bytes, .inl (G.2 0, 150, .inl (cI my))), (m_values, .inl (G.2 0, 3, .inl (cI (uI mv 0 (uV ((j0 + 1) : Int).toNat)))))]) (va_runV (As := []) (rest := []) ⟨hx, hb, hml, hown, hts⟩ (c_X11_isApplesNumber l G (m0) (m_all) (m_kept) (m_isKept) (m_refused) (m_above) (m_below) (m_hand) (m_fewest) (m_whoBites) (m_leaves) (m_bestFeast) (m_tells) (m_hardOn) (m_bytes) (m_bytesLong) (NtA_14) (NtL_15) (Ntk_16) (Nva_17) (m_anew) (m_values) (mn) (K0) (by first | exact y1_ | exact bpA_mono y1_ (by omega) | assumption) (by first | exact k_22 | assumption | omega) (by first | exact k_20 | assumption | omega) (by first | exact hK0 | assumption | omega) _) (cwV 0 hts gX11_givesBite_X11_isApplesNumber rfl rfl rfl (by decide +kernel) ⟨Nat.le_of_ble_eq_true rfl, Nat.le_of_ble_eq_true rfl⟩) (g_preV m0 [] hP hD hK hN hS hA hZ [1, 0] rfl rfl 1 (ci := 10) rfl rfl) rfl rfl hl.1 rfl (lv_room (Nat.le_of_ble_eq_true rfl)) dX11_givesBite_22 ⟨Nat.le_of_ble_eq_true rfl, Nat.le_of_ble_eq_true rfl⟩) hP hD hS hA [1, 0] [2, 3] rfl rfl rfl (by decide) (fun r_29 u H locs hw hP hD hS => ?_)
    rcases hw with hw | hw
    · refine ea_0_4 hw (fun k_30 k_31 e8_0 e8_1 => ?_)
      subst e8_0
      subst e8_1
      clear hw
      have hPD : PD G A H [(m_bytes, .inl (G.2 0, 150, .inl (cI my))), (m_values, .inl (G.2 0, 3, .inl (cI (uI mv 0 (uV ((j0 + 1) : Int).toNat))))), (m0, .inr (10, [.ref m_all, .ref m_kept, .ref m_isKept, .ref m_refused, .long (lI m_above), .long (lI m_below), .ref m_hand, .ref m_fewest, .ref m_whoBites, .ref m_leaves, .ref m_bestFeast, .ref m_tells, .ref m_hardOn, .ref m_bytes, .int (iI m_bytesLong), .int (iI NtA_14), .int (iI NtL_15), .int (iI Ntk_16), .int (iI Nva_17), .ref m_anew, .ref m_values])), (m_anew, .inl (G.2 0, 135, .inl (cI mn)))] := ⟨hP, hD⟩
      have hP := hPD.1
      have hD := hPD.2
      clear hPD
      refine lv_if_eq (tgt := 39) hx hb dX11_givesBite_25 (by decide) (fun c_33 => g_no c_33 (by decide)) (fun _ => ?_)
      refine lv_aload_n hx hb dX11_givesBite_28 rfl (lv_at hl 0 rfl) ?_
      refine lv_iconst (v := iI 1) hx hb dX11_givesBite_29 rfl ?_
      refine lv_iconst (v := iI 0) hx hb dX11_givesBite_30 rfl ?_
      refine lv_bipush (v := iI 6) hx hb dX11_givesBite_31 (by decide) ?_
      refine g_calli (wr := [(m_anew, .inl (G.2 0, 135, .inl (cI mn)))]) (va_runV (As := [.int (iI 1), .int (iI 0), .int (iI 6)]) (rest := []) ⟨hx, hb, hml, hown, hts⟩ (c_X11_gives1 l G (m0) (m_all) (m_kept) (m_isKept) (m_refused) (m_above) (m_below) (m_hand) (m_fewest) (m_whoBites) (m_leaves) (m_bestFeast) (m_tells) (m_hardOn) (m_bytes) (m_bytesLong) (NtA_14) (NtL_15) (Ntk_16) (Nva_17) (m_anew) (m_values) (my) ((uI mv 0 (uV ((j0 + 1) : Int).toNat))) (uS) (uA) (uV) (uE) (n0) (((j0 + 1) + 1)) (0) (6) (by first | exact y0_ | exact bd_mono y0_ (by omega) (by omega) | assumption) (by first | exact hL | assumption | omega) (by first | exact k_19 | assumption | omega) (by first | exact k_20 | assumption | omega) (by first | exact k_21 | assumption | omega) (by first | exact k_22 | assumption | omega) (by first | exact hch | assumption | omega) (by first | exact k_24 | assumption | omega) (by first | assumption | omega) (by first | assumption | omega) (by first | assumption | omega) _) (cwV 3 hts gX11_givesBite_X11_gives rfl rfl rfl (by decide +kernel) ⟨Nat.le_of_ble_eq_true rfl, Nat.le_of_ble_eq_true rfl⟩) (g_preV m0 [.int (iI 1), .int (iI 0), .int (iI 6)] hP hD hK hN hS hA hZ [2, 0, 1] rfl rfl 2 (ci := 10) rfl rfl) rfl rfl hl.1 rfl (lv_room (Nat.le_of_ble_eq_true rfl)) dX11_givesBite_33 ⟨Nat.le_of_ble_eq_true rfl, Nat.le_of_ble_eq_true rfl⟩) hP hD hS hA [2, 0, 1] [3] rfl rfl rfl (by decide) (fun r_34 u H locs hw hP hD hS => ?_)
      rcases hw with ⟨NtA_35, NtL_36, Ntk_37, Nva_38, nv_39, rfl, k_40, k_41, k_42, k_43, k_44, k_45, k_46, k_47, rfl, rfl⟩ | ⟨k_48, rfl, rfl⟩
      · have hPD : PD G A H [(m_anew, .inl (G.2 0, 135, .inl (cI mn))), (m0, .inr (10, [.ref m_all, .ref m_kept, .ref m_isKept, .ref m_refused, .long (lI m_above), .long (lI m_below), .ref m_hand, .ref m_fewest, .ref m_whoBites, .ref m_leaves, .ref m_bestFeast, .ref m_tells, .ref m_hardOn, .ref m_bytes, .int (iI m_bytesLong), .int (iI NtA_35), .int (iI NtL_36), .int (iI Ntk_37), .int (iI Nva_38), .ref m_anew, .ref m_values])), (m_bytes, .inl (G.2 0, 150, .inl (cI my))), (m_values, .inl (G.2 0, 3, .inl (cI (uI (uI mv 0 (uV ((j0 + 1) : Int).toNat)) 1 (uV (((j0 + 1) + 1) : Int).toNat)))))] := ⟨hP, hD⟩
        have hP := hPD.1
        have hD := hPD.2
        clear hPD
        refine lv_if_ne (tgt := 41) hx hb dX11_givesBite_36 (by decide) (fun _ => ?_) (fun c_49 => g_no c_49 (by decide))
        have hw9 := ra_who (B := my) (S := uS) (A := uA) (V := uV) (E := uE) (f := mn) (j := (j0 + 1) + 1) (by assumption) (by assumption)
        refine lv_aload_n hx hb dX11_givesBite_41 rfl (lv_at hl 0 rfl) ?_
        refine va_get (D := G.1) (ci := 10) (v := .ref m_anew) (C := RX11) (T := TX11) (N := 21) hx hb hts (fun _ h => List.mem_cons_of_mem _ (inlX11 _ h)) hown hK hP 1 rfl rfl 19 (by decide) (hts _ (List.mem_cons_of_mem _ (in_r6 (List.mem_of_getElem? (i := 13) rfl)))) (fun _ h9 => h9) rfl dX11_givesBite_42 ?_
        refine lv_aload_n hx hb dX11_givesBite_45 rfl (lv_at hl 0 rfl) ?_
        refine va_get (D := G.1) (ci := 10) (v := .ref m_values) (C := RX11) (T := TX11) (N := 21) hx hb hts (fun _ h => List.mem_cons_of_mem _ (inlX11 _ h)) hown hK hP 1 rfl rfl 20 (by decide) (hts _ (List.mem_cons_of_mem _ (in_r6 (List.mem_of_getElem? (i := 14) rfl)))) (fun _ h9 => h9) rfl dX11_givesBite_46 ?_
        refine lv_iconst (v := iI 0) hx hb dX11_givesBite_49 rfl ?_
        refine g_ild hx hb hK hP 3 rfl (by omega) (by omega) (by first | exact Nat.le_of_ble_eq_true rfl | omega) dX11_givesBite_50 (fun w_50 ew_50 => ?_)
        have ew_50 : (uI (uI mv 0 (uV ((j0 + 1) : Int).toNat)) 1 (uV (((j0 + 1) + 1) : Int).toNat)) 0 = w_50 := ew_50
        rw [uI_ne (by omega), uI_eq] at ew_50
        subst ew_50
        refine lv_aload_n hx hb dX11_givesBite_51 rfl (lv_at hl 0 rfl) ?_
        refine va_get (D := G.1) (ci := 10) (v := .ref m_values) (C := RX11) (T := TX11) (N := 21) hx hb hts (fun _ h => List.mem_cons_of_mem _ (inlX11 _ h)) hown hK hP 1 rfl rfl 20 (by decide) (hts _ (List.mem_cons_of_mem _ (in_r6 (List.mem_of_getElem? (i := 14) rfl)))) (fun _ h9 => h9) rfl dX11_givesBite_52 ?_
        refine lv_iconst (v := iI 1) hx hb dX11_givesBite_55 rfl ?_
        refine g_ild hx hb hK hP 3 rfl (by omega) (by omega) (by first | exact Nat.le_of_ble_eq_true rfl | omega) dX11_givesBite_56 (fun w_51 ew_51 => ?_)
        have ew_51 : (uI (uI mv 0 (uV ((j0 + 1) : Int).toNat)) 1 (uV (((j0 + 1) + 1) : Int).toNat)) 1 = w_51 := ew_51
        rw [uI_eq] at ew_51
        subst ew_51
        refine g_callv (wr := [(m0, .inr (10, [.ref m_all, .ref m_kept, .ref m_isKept, .ref m_refused, .long (lI m_above), .long (lI m_below), .ref m_hand, .ref m_fewest, .ref m_whoBites, .ref m_leaves, .ref m_bestFeast, .ref m_tells, .ref m_hardOn, .ref m_bytes, .int (iI m_bytesLong), .int (iI NtA_35), .int (iI NtL_36), .int (iI Ntk_37), .int (iI Nva_38), .ref m_anew, .ref m_values])), (m_bytes, .inl (G.2 0, 150, .inl (cI my))), (m_values, .inl (G.2 0, 3, .inl (cI (uI (uI mv 0 (uV ((j0 + 1) : Int).toNat)) 1 (uV (((j0 + 1) + 1) : Int).toNat)))))]) (va_runS (As := [.ref m_anew, .int (iI (uV ((j0 + 1) : Int).toNat)), .int (iI (uV (((j0 + 1) + 1) : Int).toNat))]) (rest := []) ⟨hx, hb, hml, hown, hts⟩ (c_X11_goBite_135 l G (m_anew) (mn) (K0) ((uV ((j0 + 1) : Int).toNat)) ((uV (((j0 + 1) + 1) : Int).toNat)) (by first | exact y1_ | exact bpA_mono y1_ (by omega) | assumption) (by first | assumption | omega) (by first | assumption | omega) (by first | assumption | omega) (by first | assumption | omega) _) (va_cwS 3 hts gX11_givesBite_X11_goBite rfl rfl rfl (by decide +kernel) ⟨Nat.le_of_ble_eq_true rfl, Nat.le_of_ble_eq_true rfl⟩) (g_preS [.ref m_anew, .int (iI (uV ((j0 + 1) : Int).toNat)), .int (iI (uV (((j0 + 1) + 1) : Int).toNat))] hP hD hK hN hS hA hZ [0] rfl rfl) rfl rfl hl.1 rfl (lv_room (Nat.le_of_ble_eq_true rfl)) dX11_givesBite_57 ⟨Nat.le_of_ble_eq_true rfl, Nat.le_of_ble_eq_true rfl⟩) hP hD hS hA [0] [1, 2, 3] rfl rfl rfl (by decide) (fun u H locs hw hP hD hS => ?_)
        obtain ⟨Nq_52, rfl, k_53, rfl⟩ := hw
        have hPD : PD G A H [(m0, .inr (10, [.ref m_all, .ref m_kept, .ref m_isKept, .ref m_refused, .long (lI m_above), .long (lI m_below), .ref m_hand, .ref m_fewest, .ref m_whoBites, .ref m_leaves, .ref m_bestFeast, .ref m_tells, .ref m_hardOn, .ref m_bytes, .int (iI m_bytesLong), .int (iI NtA_35), .int (iI NtL_36), .int (iI Ntk_37), .int (iI Nva_38), .ref m_anew, .ref m_values])), (m_bytes, .inl (G.2 0, 150, .inl (cI my))), (m_values, .inl (G.2 0, 3, .inl (cI (uI (uI mv 0 (uV ((j0 + 1) : Int).toNat)) 1 (uV (((j0 + 1) + 1) : Int).toNat))))), (m_anew, .inl (G.2 0, 135, .inl (cI (sBite mn (uV ((j0 + 1) : Int).toNat) (uV (((j0 + 1) + 1) : Int).toNat)))))] := ⟨hP, hD⟩
        have hP := hPD.1
        have hD := hPD.2
        clear hPD
        refine lv_iconst (v := iI 1) hx hb dX11_givesBite_60 rfl ?_
        exact g_zret (v := (iI 1)) hx hb hr hlocks rfl hP hD hS (Or.inl ⟨NtA_35, NtL_36, Ntk_37, Nva_38, (uI (uI mv 0 (uV ((j0 + 1) : Int).toNat)) 1 (uV (((j0 + 1) + 1) : Int).toNat)), (sBite mn (uV ((j0 + 1) : Int).toNat) (uV (((j0 + 1) + 1) : Int).toNat)), (((j0 + 1) + 1) + 1), (by rw [cIt_8 (by omega)]; exact (cBite_ok (by first | assumption | omega) (ra_who (by assumption) (by assumption)))), (by first | exact k_40 | assumption | omega), (by first | exact k_41 | assumption | omega), (by first | exact k_42 | assumption | omega), (by first | exact k_43 | assumption | omega), (by first | assumption | omega), (by first | exact k_45 | assumption | omega), (by first | assumption | omega), (by first | exact k_53 | exact bpA_mono k_53 (by omega) | assumption), rfl, rfl⟩) dX11_givesBite_61
      · exact absurd (ra_num (lo := 0) (hi := 6) k_24 (by omega)) (by assumption)
    · refine ea_0_3 hw (fun k_32 e8_0 e8_1 => ?_)
      subst e8_0
      subst e8_1
      clear hw
      have hPD : PD G A H [(m_bytes, .inl (G.2 0, 150, .inl (cI my))), (m_values, .inl (G.2 0, 3, .inl (cI (uI mv 0 (uV ((j0 + 1) : Int).toNat))))), (m0, .inr (10, [.ref m_all, .ref m_kept, .ref m_isKept, .ref m_refused, .long (lI m_above), .long (lI m_below), .ref m_hand, .ref m_fewest, .ref m_whoBites, .ref m_leaves, .ref m_bestFeast, .ref m_tells, .ref m_hardOn, .ref m_bytes, .int (iI m_bytesLong), .int (iI NtA_14), .int (iI NtL_15), .int (iI Ntk_16), .int (iI Nva_17), .ref m_anew, .ref m_values])), (m_anew, .inl (G.2 0, 135, .inl (cI mn)))] := ⟨hP, hD⟩
      have hP := hPD.1
      have hD := hPD.2
      clear hPD
      refine lv_if_eq (tgt := 39) hx hb dX11_givesBite_25 (by decide) (fun _ => ?_) (fun c_54 => g_no (by decide) c_54)
      refine lv_iconst (v := iI 0) hx hb dX11_givesBite_39 rfl ?_
      have hP := hP.sub (ws' := [(m0, .inr (10, [.ref m_all, .ref m_kept, .ref m_isKept, .ref m_refused, .long (lI m_above), .long (lI m_below), .ref m_hand, .ref m_fewest, .ref m_whoBites, .ref m_leaves, .ref m_bestFeast, .ref m_tells, .ref m_hardOn, .ref m_bytes, .int (iI m_bytesLong), .int (iI NtA_14), .int (iI NtL_15), .int (iI Ntk_16), .int (iI Nva_17), .ref m_anew, .ref m_values])), (m_bytes, .inl (G.2 0, 150, .inl (cI my))), (m_values, .inl (G.2 0, 3, .inl (cI (uI mv 0 (uV ((j0 + 1) : Int).toNat))))), (m_anew, .inl (G.2 0, 135, .inl (cI mn)))]) [2, 0, 1, 3] rfl
      have hD := hD.sub (ws' := [(m0, .inr (10, [.ref m_all, .ref m_kept, .ref m_isKept, .ref m_refused, .long (lI m_above), .long (lI m_below), .ref m_hand, .ref m_fewest, .ref m_whoBites, .ref m_leaves, .ref m_bestFeast, .ref m_tells, .ref m_hardOn, .ref m_bytes, .int (iI m_bytesLong), .int (iI NtA_14), .int (iI NtL_15), .int (iI Ntk_16), .int (iI Nva_17), .ref m_anew, .ref m_values])), (m_bytes, .inl (G.2 0, 150, .inl (cI my))), (m_values, .inl (G.2 0, 3, .inl (cI (uI mv 0 (uV ((j0 + 1) : Int).toNat))))), (m_anew, .inl (G.2 0, 135, .inl (cI mn)))]) [2, 0, 1, 3] rfl rfl
      exact g_zret (v := (iI 0)) hx hb hr hlocks rfl hP hD hS (Or.inr (⟨NtA_14, NtL_15, Ntk_16, Nva_17, (uI mv 0 (uV ((j0 + 1) : Int).toNat)), mn, ((j0 + 1) + 1), (by rw [cIt_8 (by omega)]; exact (cBite_f1 (by first | assumption | omega) (ra_whn (by assumption) (by assumption)))), (by first | exact k_19 | assumption | omega), (by first | exact k_20 | assumption | omega), (by first | exact k_21 | assumption | omega), (by first | exact k_22 | assumption | omega), (by first | assumption | omega), (by first | exact k_24 | assumption | omega), (by first | assumption | omega), (by first | exact y1_ | exact bpA_mono y1_ (by omega) | assumption), rfl, rfl⟩)) dX11_givesBite_40
  · have hPD : PD G A H [(m_anew, .inl (G.2 0, 135, .inl (cI mn))), (m0, .inr (10, [.ref m_all, .ref m_kept, .ref m_isKept, .ref m_refused, .long (lI m_above), .long (lI m_below), .ref m_hand, .ref m_fewest, .ref m_whoBites, .ref m_leaves, .ref m_bestFeast, .ref m_tells, .ref m_hardOn, .ref m_bytes, .int (iI m_bytesLong), .int (iI NtA_1), .int (iI NtL_2), .int (iI Ntk_3), .int (iI Nva_4), .ref m_anew, .ref m_values])), (m_bytes, .inl (G.2 0, 150, .inl (cI my))), (m_values, .inl (G.2 0, 3, .inl (cI mv)))] := ⟨hP, hD⟩
    have hP := hPD.1
    have hD := hPD.2
    clear hPD
    refine lv_if_eq (tgt := 39) hx hb dX11_givesBite_18 (by decide) (fun _ => ?_) (fun c_55 => g_no (by decide) c_55)
    refine lv_iconst (v := iI 0) hx hb dX11_givesBite_39 rfl ?_
    have hP := hP.sub (ws' := [(m0, .inr (10, [.ref m_all, .ref m_kept, .ref m_isKept, .ref m_refused, .long (lI m_above), .long (lI m_below), .ref m_hand, .ref m_fewest, .ref m_whoBites, .ref m_leaves, .ref m_bestFeast, .ref m_tells, .ref m_hardOn, .ref m_bytes, .int (iI m_bytesLong), .int (iI NtA_1), .int (iI NtL_2), .int (iI Ntk_3), .int (iI Nva_4), .ref m_anew, .ref m_values])), (m_bytes, .inl (G.2 0, 150, .inl (cI my))), (m_values, .inl (G.2 0, 3, .inl (cI mv))), (m_anew, .inl (G.2 0, 135, .inl (cI mn)))]) [1, 2, 3, 0] rfl
    have hD := hD.sub (ws' := [(m0, .inr (10, [.ref m_all, .ref m_kept, .ref m_isKept, .ref m_refused, .long (lI m_above), .long (lI m_below), .ref m_hand, .ref m_fewest, .ref m_whoBites, .ref m_leaves, .ref m_bestFeast, .ref m_tells, .ref m_hardOn, .ref m_bytes, .int (iI m_bytesLong), .int (iI NtA_1), .int (iI NtL_2), .int (iI Ntk_3), .int (iI Nva_4), .ref m_anew, .ref m_values])), (m_bytes, .inl (G.2 0, 150, .inl (cI my))), (m_values, .inl (G.2 0, 3, .inl (cI mv))), (m_anew, .inl (G.2 0, 135, .inl (cI mn)))]) [1, 2, 3, 0] rfl rfl
    exact g_zret (v := (iI 0)) hx hb hr hlocks rfl hP hD hS (Or.inr (⟨NtA_1, NtL_2, Ntk_3, Nva_4, mv, mn, (j0 + 1), (by rw [cIt_8 (by omega)]; exact (cBite_f0 (by first | assumption | omega))), (by first | exact k_5 | assumption | omega), (by first | exact k_6 | assumption | omega), (by first | exact k_7 | assumption | omega), (by first | exact k_8 | assumption | omega), (by first | assumption | omega), (by first | exact k_10 | assumption | omega), (by first | assumption | omega), (by first | exact y1_ | exact bpA_mono y1_ (by omega) | assumption), rfl, rfl⟩)) dX11_givesBite_40
theorem dX11_givesDip_0 : decode cX11_givesDip 0 = .ok (.aload_n 0, 1) := kd_42 (by decide +kernel)
theorem gX11_givesDip_X11_goBehind : GoodIn wsX11_givesDip (wsV RX11 265 RX11 yX11_goBehind wsX11_goBehind) := gW_V (in_r20 (List.mem_of_getElem? (i := 6) rfl)) (in_r20 (List.mem_of_getElem? (i := 7) rfl)) (in_r20 (List.mem_of_getElem? (i := 8) rfl)) (in_r1 (List.mem_of_getElem? (i := 5) rfl)) (in_r20 (List.mem_of_getElem? (i := 9) rfl))
theorem dX11_givesDip_1 : decode cX11_givesDip 1 = .ok (.invokevirtual 265, 3) := kd_182 (a := 1) (b := 9) (by decide +kernel)
theorem dX11_givesDip_4 : decode cX11_givesDip 4 = .ok (.aload_n 0, 1) := kd_42 (by decide +kernel)
theorem gX11_givesDip_X11_isApplesNumber : GoodIn wsX11_givesDip (wsV RX11 272 RX11 yX11_isApplesNumber wsX11_isApplesNumber) := gW_V (in_r21 (List.mem_of_getElem? (i := 10) rfl)) (in_r21 (List.mem_of_getElem? (i := 11) rfl)) (in_r21 (List.mem_of_getElem? (i := 12) rfl)) (in_r1 (List.mem_of_getElem? (i := 5) rfl)) (in_r21 (List.mem_of_getElem? (i := 13) rfl))
theorem dX11_givesDip_5 : decode cX11_givesDip 5 = .ok (.invokevirtual 272, 3) := kd_182 (a := 1) (b := 16) (by decide +kernel)
theorem dX11_givesDip_8 : decode cX11_givesDip 8 = .ok (.ifCond .eq 25, 3) := kd_153 (a := 0) (b := 25) (by decide +kernel)
theorem dX11_givesDip_11 : decode cX11_givesDip 11 = .ok (.aload_n 0, 1) := kd_42 (by decide +kernel)
theorem dX11_givesDip_12 : decode cX11_givesDip 12 = .ok (.iconst 0, 1) := kd_3 (by decide +kernel)
theorem dX11_givesDip_13 : decode cX11_givesDip 13 = .ok (.iconst 0, 1) := kd_3 (by decide +kernel)
theorem dX11_givesDip_14 : decode cX11_givesDip 14 = .ok (.bipush 6, 2) := kd_16 (a := 6) (by decide +kernel)
theorem gX11_givesDip_X11_gives : GoodIn wsX11_givesDip (wsV RX11 268 RX11 yX11_gives wsX11_gives) := gW_V (in_r20 (List.mem_of_getElem? (i := 18) rfl)) (in_r20 (List.mem_of_getElem? (i := 19) rfl)) (in_r20 (List.mem_of_getElem? (i := 20) rfl)) (in_r1 (List.mem_of_getElem? (i := 5) rfl)) (in_r20 (List.mem_of_getElem? (i := 21) rfl))
theorem dX11_givesDip_16 : decode cX11_givesDip 16 = .ok (.invokevirtual 268, 3) := kd_182 (a := 1) (b := 12) (by decide +kernel)
theorem dX11_givesDip_19 : decode cX11_givesDip 19 = .ok (.ifCond .eq 14, 3) := kd_153 (a := 0) (b := 14) (by decide +kernel)
theorem dX11_givesDip_22 : decode cX11_givesDip 22 = .ok (.aload_n 0, 1) := kd_42 (by decide +kernel)
theorem dX11_givesDip_23 : decode cX11_givesDip 23 = .ok (.iconst 1, 1) := kd_4 (by decide +kernel)
theorem dX11_givesDip_24 : decode cX11_givesDip 24 = .ok (.iconst 1, 1) := kd_4 (by decide +kernel)
theorem dX11_givesDip_25 : decode cX11_givesDip 25 = .ok (.bipush 9, 2) := kd_16 (a := 9) (by decide +kernel)
theorem dX11_givesDip_27 : decode cX11_givesDip 27 = .ok (.invokevirtual 268, 3) := kd_182 (a := 1) (b := 12) (by decide +kernel)
theorem dX11_givesDip_30 : decode cX11_givesDip 30 = .ok (.ifCond .ne 5, 3) := kd_154 (a := 0) (b := 5) (by decide +kernel)
theorem dX11_givesDip_35 : decode cX11_givesDip 35 = .ok (.aload_n 0, 1) := kd_42 (by decide +kernel)
theorem dX11_givesDip_36 : decode cX11_givesDip 36 = .ok (.getfield 51, 3) := kd_180 (a := 0) (b := 51) (by decide +kernel)
theorem dX11_givesDip_39 : decode cX11_givesDip 39 = .ok (.aload_n 0, 1) := kd_42 (by decide +kernel)
theorem dX11_givesDip_40 : decode cX11_givesDip 40 = .ok (.getfield 54, 3) := kd_180 (a := 0) (b := 54) (by decide +kernel)
theorem dX11_givesDip_43 : decode cX11_givesDip 43 = .ok (.iconst 0, 1) := kd_3 (by decide +kernel)
theorem dX11_givesDip_44 : decode cX11_givesDip 44 = .ok (.iaload, 1) := kd_46 (by decide +kernel)
theorem dX11_givesDip_45 : decode cX11_givesDip 45 = .ok (.aload_n 0, 1) := kd_42 (by decide +kernel)
theorem dX11_givesDip_46 : decode cX11_givesDip 46 = .ok (.getfield 54, 3) := kd_180 (a := 0) (b := 54) (by decide +kernel)
theorem dX11_givesDip_49 : decode cX11_givesDip 49 = .ok (.iconst 1, 1) := kd_4 (by decide +kernel)
theorem dX11_givesDip_50 : decode cX11_givesDip 50 = .ok (.iaload, 1) := kd_46 (by decide +kernel)
theorem gX11_givesDip_X11_goDip : GoodIn wsX11_givesDip (va_wsS RX11 155 yX11_goDip wsX11_goDip) := gW_S (in_r22 (List.mem_of_getElem? (i := 15) rfl)) (in_r22 (List.mem_of_getElem? (i := 16) rfl)) (in_r1 (List.mem_of_getElem? (i := 5) rfl)) (in_r22 (List.mem_of_getElem? (i := 17) rfl))
theorem dX11_givesDip_51 : decode cX11_givesDip 51 = .ok (.invokestatic 155, 3) := kd_184 (a := 0) (b := 155) (by decide +kernel)
theorem dX11_givesDip_54 : decode cX11_givesDip 54 = .ok (.iconst 1, 1) := kd_4 (by decide +kernel)
theorem dX11_givesDip_55 : decode cX11_givesDip 55 = .ok (.ireturn, 1) := kd_172 (by decide +kernel)
theorem dX11_givesDip_33 : decode cX11_givesDip 33 = .ok (.iconst 0, 1) := kd_3 (by decide +kernel)
theorem dX11_givesDip_34 : decode cX11_givesDip 34 = .ok (.ireturn, 1) := kd_172 (by decide +kernel)
set_option maxHeartbeats 8000000 in
set_option maxRecDepth 100000 in
theorem c_X11_givesDip (l : Launch) (G : gG) (m0 : Nat) (m_all : Nat) (m_kept : Nat) (m_isKept : Nat) (m_refused : Nat) (m_above : Int) (m_below : Int) (m_hand : Nat) (m_fewest : Nat) (m_whoBites : Nat) (m_leaves : Nat) (m_bestFeast : Nat) (m_tells : Nat) (m_hardOn : Nat) (m_bytes : Nat) (m_bytesLong : Int) (m_tokenAt : Int) (m_tokenLong : Int) (m_token : Int) (m_value : Int) (m_anew : Nat) (m_values : Nat) (my : Nat → Int) (mv : Nat → Int) (mn : Nat → Int) (K0 : Int) (uS : Nat → Int) (uA : Nat → Int) (uV : Nat → Int) (uE : Nat → Int) (n0 : Int) (j0 : Int) (y0_ : bd 0 127 my) (y1_ : bp (plA K0) mn) (hL : 0 ≤ m_bytesLong ∧ m_bytesLong ≤ 150) (i0_ : 0 ≤ m_tokenAt ∧ 0 ≤ m_tokenLong ∧ m_tokenAt + m_tokenLong ≤ m_bytesLong) (i1_ : 0 ≤ m_token ∧ m_token ≤ 4) (i2_ : m_token = 0 ∨ 1 ≤ m_tokenLong) (i3_ : -2000 ≤ m_value ∧ m_value ≤ 2000) (hch : chF my m_bytesLong uS uA uV n0 uE) (hra : ra my uS uA uV uE j0 m_tokenAt m_tokenLong m_token m_value) (hj : 0 ≤ j0 ∧ j0 < n0) (hK0 : 1000 ≤ K0 ∧ K0 ≤ 1900000) (h5 : uS (j0 : Int).toNat = 9) (sz : Nat) : gI G l yX11_givesDip wsX11_givesDip ({ frames := 5, cells := 0, slots := 0, locals := 112 } : Room) [.ref m0] [(m0, .inr (10, [.ref m_all, .ref m_kept, .ref m_isKept, .ref m_refused, .long (lI m_above), .long (lI m_below), .ref m_hand, .ref m_fewest, .ref m_whoBites, .ref m_leaves, .ref m_bestFeast, .ref m_tells, .ref m_hardOn, .ref m_bytes, .int (iI m_bytesLong), .int (iI m_tokenAt), .int (iI m_tokenLong), .int (iI m_token), .int (iI m_value), .ref m_anew, .ref m_values])), (m_bytes, .inl (G.2 0, 150, .inl (cI my))), (m_values, .inl (G.2 0, 3, .inl (cI mv))), (m_anew, .inl (G.2 0, 135, .inl (cI mn)))] sz (fun (r : Int32) (u : va_W) => (∃ NtA : Int, ∃ NtL : Int, ∃ Ntk : Int, ∃ Nva : Int, ∃ N_v : Nat → Int, ∃ N_n : Nat → Int, ∃ jN : Int, (MOk (cIt uS uV mn j0) jN N_n) ∧ (0 ≤ NtA ∧ 0 ≤ NtL ∧ NtA + NtL ≤ m_bytesLong) ∧ (0 ≤ Ntk ∧ Ntk ≤ 4) ∧ (Ntk = 0 ∨ 1 ≤ NtL) ∧ (-2000 ≤ Nva ∧ Nva ≤ 2000) ∧ (m_tokenAt ≤ NtA) ∧ (ra my uS uA uV uE jN NtA NtL Ntk Nva) ∧ (j0 < jN ∧ jN < n0) ∧ (bp (plA (K0 + 99)) N_n) ∧ r = (iI 1) ∧ u = [(m0, .inr (10, [.ref m_all, .ref m_kept, .ref m_isKept, .ref m_refused, .long (lI m_above), .long (lI m_below), .ref m_hand, .ref m_fewest, .ref m_whoBites, .ref m_leaves, .ref m_bestFeast, .ref m_tells, .ref m_hardOn, .ref m_bytes, .int (iI m_bytesLong), .int (iI NtA), .int (iI NtL), .int (iI Ntk), .int (iI Nva), .ref m_anew, .ref m_values])), (m_bytes, .inl (G.2 0, 150, .inl (cI my))), (m_values, .inl (G.2 0, 3, .inl (cI N_v))), (m_anew, .inl (G.2 0, 135, .inl (cI N_n)))]) ∨ (∃ NtA : Int, ∃ NtL : Int, ∃ Ntk : Int, ∃ Nva : Int, ∃ N_v : Nat → Int, ∃ N_n : Nat → Int, ∃ jN : Int, (INo uS (cIt uS uV mn j0) jN) ∧ (0 ≤ NtA ∧ 0 ≤ NtL ∧ NtA + NtL ≤ m_bytesLong) ∧ (0 ≤ Ntk ∧ Ntk ≤ 4) ∧ (Ntk = 0 ∨ 1 ≤ NtL) ∧ (-2000 ≤ Nva ∧ Nva ≤ 2000) ∧ (m_tokenAt ≤ NtA) ∧ (ra my uS uA uV uE jN NtA NtL Ntk Nva) ∧ (0 ≤ jN ∧ jN < n0) ∧ (bp (plA (K0 + 99)) N_n) ∧ r = (iI 0) ∧ u = [(m0, .inr (10, [.ref m_all, .ref m_kept, .ref m_isKept, .ref m_refused, .long (lI m_above), .long (lI m_below), .ref m_hand, .ref m_fewest, .ref m_whoBites, .ref m_leaves, .ref m_bestFeast, .ref m_tells, .ref m_hardOn, .ref m_bytes, .int (iI m_bytesLong), .int (iI NtA), .int (iI NtL), .int (iI Ntk), .int (iI Nva), .ref m_anew, .ref m_values])), (m_bytes, .inl (G.2 0, 150, .inl (cI my))), (m_values, .inl (G.2 0, 3, .inl (cI N_v))), (m_anew, .inl (G.2 0, 135, .inl (cI N_n)))])) := by
  refine Met.ofW (cc := cX11_givesDip) (maxL := 1) (ret := (some .boolean)) (by decide) rfl ?_
  intro p e s m args below meth c s₁ B hml hv
  obtain ⟨rfl, hsz, hP, hK, hD0, hN, hZ⟩ := hv
  have hx := B.exec
  have hb := B.bytes
  have hr := B.returns
  have hts := atoms_spec (ws := wsX11_givesDip) B.pre
  have hown : s.vm.findClass RX11 = some m.cls := findClass_of_methodNamed B.named
  have hlocks := B.notSynchronized
  subst hsz
  have hD := hD0.self (sz := s.heap.size)
  generalize hAe : va_A [(m0, .inr (10, [.ref m_all, .ref m_kept, .ref m_isKept, .ref m_refused, .long (lI m_above), .long (lI m_below), .ref m_hand, .ref m_fewest, .ref m_whoBites, .ref m_leaves, .ref m_bestFeast, .ref m_tells, .ref m_hardOn, .ref m_bytes, .int (iI m_bytesLong), .int (iI m_tokenAt), .int (iI m_tokenLong), .int (iI m_token), .int (iI m_value), .ref m_anew, .ref m_values])), (m_bytes, .inl (G.2 0, 150, .inl (cI my))), (m_values, .inl (G.2 0, 3, .inl (cI mv))), (m_anew, .inl (G.2 0, 135, .inl (cI mn)))] s.heap.size = A at hD hZ ⊢
  have hA : ∀ q : Nat, s.heap.size ≤ q → A q := fun q h => by rw [← hAe]; exact Or.inr h
  have hS : va_S A s.heap s.heap [] := va_S.rf
  have hP : va_P G.1 vwCl [(m0, .inr (10, [.ref m_all, .ref m_kept, .ref m_isKept, .ref m_refused, .long (lI m_above), .long (lI m_below), .ref m_hand, .ref m_fewest, .ref m_whoBites, .ref m_leaves, .ref m_bestFeast, .ref m_tells, .ref m_hardOn, .ref m_bytes, .int (iI m_bytesLong), .int (iI m_tokenAt), .int (iI m_tokenLong), .int (iI m_token), .int (iI m_value), .ref m_anew, .ref m_values])), (m_bytes, .inl (G.2 0, 150, .inl (cI my))), (m_values, .inl (G.2 0, 3, .inl (cI mv))), (m_anew, .inl (G.2 0, 135, .inl (cI mn)))] s.heap := hP
  have hl := lv_entry ([.ref m0]) (n := 1) (Nat.le_of_ble_eq_true rfl)
  rw [lg_entry_eq]
  generalize (lg_sl ([.ref m0]) ++ List.replicate (1 - (lg_sl ([.ref m0])).length) Slot.unset).toArray = ls at hl ⊢
  have hl : lv_has ls 1 [(0, .ref m0)] := hl
  refine lv_aload_n hx hb dX11_givesDip_0 rfl (lv_at hl 0 rfl) ?_
  refine g_callv (wr := [(m_values, .inl (G.2 0, 3, .inl (cI mv))), (m_anew, .inl (G.2 0, 135, .inl (cI mn)))]) (va_runV (As := []) (rest := []) ⟨hx, hb, hml, hown, hts⟩ (c_X11_goBehind l G (m0) (m_all) (m_kept) (m_isKept) (m_refused) (m_above) (m_below) (m_hand) (m_fewest) (m_whoBites) (m_leaves) (m_bestFeast) (m_tells) (m_hardOn) (m_bytes) (m_bytesLong) (m_tokenAt) (m_tokenLong) (m_token) (m_value) (m_anew) (m_values) (my) (uS) (uA) (uV) (uE) (n0) (j0) (by first | exact y0_ | exact bd_mono y0_ (by omega) (by omega) | assumption) (by first | exact hL | assumption | omega) (by first | exact i0_ | assumption | omega) (by first | exact i1_ | assumption | omega) (by first | exact i2_ | assumption | omega) (by first | exact i3_ | assumption | omega) (by first | exact hch | assumption | omega) (by first | exact hra | assumption | omega) (by first | exact hj | assumption | omega) (by first | assumption | omega) _) (cwV 0 hts gX11_givesDip_X11_goBehind rfl rfl rfl (by decide +kernel) ⟨Nat.le_of_ble_eq_true rfl, Nat.le_of_ble_eq_true rfl⟩) (g_preV m0 [] hP hD hK hN hS hA hZ [0, 1] rfl rfl 0 (ci := 10) rfl rfl) rfl rfl hl.1 rfl (lv_room (Nat.le_of_ble_eq_true rfl)) dX11_givesDip_1 ⟨Nat.le_of_ble_eq_true rfl, Nat.le_of_ble_eq_true rfl⟩) hP hD hS hA [0, 1] [2, 3] rfl rfl rfl (by decide) (fun u H locs hw hP hD hS => ?_)
  refine ea_4_8 hw (fun NtA_1 NtL_2 Ntk_3 Nva_4 k_5 k_6 k_7 k_8 k_9 k_10 k_11 e8_0 => ?_)
  subst e8_0
  clear hw
  have hPD : PD G A H [(m_values, .inl (G.2 0, 3, .inl (cI mv))), (m_anew, .inl (G.2 0, 135, .inl (cI mn))), (m0, .inr (10, [.ref m_all, .ref m_kept, .ref m_isKept, .ref m_refused, .long (lI m_above), .long (lI m_below), .ref m_hand, .ref m_fewest, .ref m_whoBites, .ref m_leaves, .ref m_bestFeast, .ref m_tells, .ref m_hardOn, .ref m_bytes, .int (iI m_bytesLong), .int (iI NtA_1), .int (iI NtL_2), .int (iI Ntk_3), .int (iI Nva_4), .ref m_anew, .ref m_values])), (m_bytes, .inl (G.2 0, 150, .inl (cI my)))] := ⟨hP, hD⟩
  have hP := hPD.1
  have hD := hPD.2
  clear hPD
  refine lv_aload_n hx hb dX11_givesDip_4 rfl (lv_at hl 0 rfl) ?_
  refine g_calli (wr := [(m_values, .inl (G.2 0, 3, .inl (cI mv))), (m_bytes, .inl (G.2 0, 150, .inl (cI my)))]) (va_runV (As := []) (rest := []) ⟨hx, hb, hml, hown, hts⟩ (c_X11_isApplesNumber l G (m0) (m_all) (m_kept) (m_isKept) (m_refused) (m_above) (m_below) (m_hand) (m_fewest) (m_whoBites) (m_leaves) (m_bestFeast) (m_tells) (m_hardOn) (m_bytes) (m_bytesLong) (NtA_1) (NtL_2) (Ntk_3) (Nva_4) (m_anew) (m_values) (mn) (K0) (by first | exact y1_ | exact bpA_mono y1_ (by omega) | assumption) (by first | exact k_8 | assumption | omega) (by first | exact k_6 | assumption | omega) (by first | exact hK0 | assumption | omega) _) (cwV 0 hts gX11_givesDip_X11_isApplesNumber rfl rfl rfl (by decide +kernel) ⟨Nat.le_of_ble_eq_true rfl, Nat.le_of_ble_eq_true rfl⟩) (g_preV m0 [] hP hD hK hN hS hA hZ [2, 1] rfl rfl 2 (ci := 10) rfl rfl) rfl rfl hl.1 rfl (lv_room (Nat.le_of_ble_eq_true rfl)) dX11_givesDip_5 ⟨Nat.le_of_ble_eq_true rfl, Nat.le_of_ble_eq_true rfl⟩) hP hD hS hA [2, 1] [0, 3] rfl rfl rfl (by decide) (fun r_12 u H locs hw hP hD hS => ?_)
  rcases hw with hw | hw
  · refine ea_0_4 hw (fun k_13 k_14 e8_0 e8_1 => ?_)
    subst e8_0
    subst e8_1
    clear hw
    have hPD : PD G A H [(m_values, .inl (G.2 0, 3, .inl (cI mv))), (m_bytes, .inl (G.2 0, 150, .inl (cI my))), (m0, .inr (10, [.ref m_all, .ref m_kept, .ref m_isKept, .ref m_refused, .long (lI m_above), .long (lI m_below), .ref m_hand, .ref m_fewest, .ref m_whoBites, .ref m_leaves, .ref m_bestFeast, .ref m_tells, .ref m_hardOn, .ref m_bytes, .int (iI m_bytesLong), .int (iI NtA_1), .int (iI NtL_2), .int (iI Ntk_3), .int (iI Nva_4), .ref m_anew, .ref m_values])), (m_anew, .inl (G.2 0, 135, .inl (cI mn)))] := ⟨hP, hD⟩
    have hP := hPD.1
    have hD := hPD.2
    clear hPD
    refine lv_if_eq (tgt := 33) hx hb dX11_givesDip_8 (by decide) (fun c_16 => g_no c_16 (by decide)) (fun _ => ?_)
    refine lv_aload_n hx hb dX11_givesDip_11 rfl (lv_at hl 0 rfl) ?_
    refine lv_iconst (v := iI 0) hx hb dX11_givesDip_12 rfl ?_
    refine lv_iconst (v := iI 0) hx hb dX11_givesDip_13 rfl ?_
    refine lv_bipush (v := iI 6) hx hb dX11_givesDip_14 (by decide) ?_
    refine g_calli (wr := [(m_anew, .inl (G.2 0, 135, .inl (cI mn)))]) (va_runV (As := [.int (iI 0), .int (iI 0), .int (iI 6)]) (rest := []) ⟨hx, hb, hml, hown, hts⟩ (c_X11_gives0 l G (m0) (m_all) (m_kept) (m_isKept) (m_refused) (m_above) (m_below) (m_hand) (m_fewest) (m_whoBites) (m_leaves) (m_bestFeast) (m_tells) (m_hardOn) (m_bytes) (m_bytesLong) (NtA_1) (NtL_2) (Ntk_3) (Nva_4) (m_anew) (m_values) (my) (mv) (uS) (uA) (uV) (uE) (n0) ((j0 + 1)) (0) (6) (by first | exact y0_ | exact bd_mono y0_ (by omega) (by omega) | assumption) (by first | exact hL | assumption | omega) (by first | exact k_5 | assumption | omega) (by first | exact k_6 | assumption | omega) (by first | exact k_7 | assumption | omega) (by first | exact k_8 | assumption | omega) (by first | exact hch | assumption | omega) (by first | exact k_10 | assumption | omega) (by first | assumption | omega) (by first | assumption | omega) (by first | assumption | omega) _) (cwV 3 hts gX11_givesDip_X11_gives rfl rfl rfl (by decide +kernel) ⟨Nat.le_of_ble_eq_true rfl, Nat.le_of_ble_eq_true rfl⟩) (g_preV m0 [.int (iI 0), .int (iI 0), .int (iI 6)] hP hD hK hN hS hA hZ [2, 1, 0] rfl rfl 2 (ci := 10) rfl rfl) rfl rfl hl.1 rfl (lv_room (Nat.le_of_ble_eq_true rfl)) dX11_givesDip_16 ⟨Nat.le_of_ble_eq_true rfl, Nat.le_of_ble_eq_true rfl⟩) hP hD hS hA [2, 1, 0] [3] rfl rfl rfl (by decide) (fun r_17 u H locs hw hP hD hS => ?_)
    rcases hw with ⟨NtA_18, NtL_19, Ntk_20, Nva_21, nv_22, rfl, k_23, k_24, k_25, k_26, k_27, k_28, k_29, k_30, rfl, rfl⟩ | ⟨k_31, rfl, rfl⟩
    · have hPD : PD G A H [(m_anew, .inl (G.2 0, 135, .inl (cI mn))), (m0, .inr (10, [.ref m_all, .ref m_kept, .ref m_isKept, .ref m_refused, .long (lI m_above), .long (lI m_below), .ref m_hand, .ref m_fewest, .ref m_whoBites, .ref m_leaves, .ref m_bestFeast, .ref m_tells, .ref m_hardOn, .ref m_bytes, .int (iI m_bytesLong), .int (iI NtA_18), .int (iI NtL_19), .int (iI Ntk_20), .int (iI Nva_21), .ref m_anew, .ref m_values])), (m_bytes, .inl (G.2 0, 150, .inl (cI my))), (m_values, .inl (G.2 0, 3, .inl (cI (uI mv 0 (uV ((j0 + 1) : Int).toNat)))))] := ⟨hP, hD⟩
      have hP := hPD.1
      have hD := hPD.2
      clear hPD
      refine lv_if_eq (tgt := 33) hx hb dX11_givesDip_19 (by decide) (fun c_32 => g_no c_32 (by decide)) (fun _ => ?_)
      refine lv_aload_n hx hb dX11_givesDip_22 rfl (lv_at hl 0 rfl) ?_
      refine lv_iconst (v := iI 1) hx hb dX11_givesDip_23 rfl ?_
      refine lv_iconst (v := iI 1) hx hb dX11_givesDip_24 rfl ?_
      refine lv_bipush (v := iI 9) hx hb dX11_givesDip_25 (by decide) ?_
      refine g_calli (wr := [(m_anew, .inl (G.2 0, 135, .inl (cI mn)))]) (va_runV (As := [.int (iI 1), .int (iI 1), .int (iI 9)]) (rest := []) ⟨hx, hb, hml, hown, hts⟩ (c_X11_gives1 l G (m0) (m_all) (m_kept) (m_isKept) (m_refused) (m_above) (m_below) (m_hand) (m_fewest) (m_whoBites) (m_leaves) (m_bestFeast) (m_tells) (m_hardOn) (m_bytes) (m_bytesLong) (NtA_18) (NtL_19) (Ntk_20) (Nva_21) (m_anew) (m_values) (my) ((uI mv 0 (uV ((j0 + 1) : Int).toNat))) (uS) (uA) (uV) (uE) (n0) (((j0 + 1) + 1)) (1) (9) (by first | exact y0_ | exact bd_mono y0_ (by omega) (by omega) | assumption) (by first | exact hL | assumption | omega) (by first | exact k_23 | assumption | omega) (by first | exact k_24 | assumption | omega) (by first | exact k_25 | assumption | omega) (by first | exact k_26 | assumption | omega) (by first | exact hch | assumption | omega) (by first | exact k_28 | assumption | omega) (by first | assumption | omega) (by first | assumption | omega) (by first | assumption | omega) _) (cwV 3 hts gX11_givesDip_X11_gives rfl rfl rfl (by decide +kernel) ⟨Nat.le_of_ble_eq_true rfl, Nat.le_of_ble_eq_true rfl⟩) (g_preV m0 [.int (iI 1), .int (iI 1), .int (iI 9)] hP hD hK hN hS hA hZ [1, 2, 3] rfl rfl 1 (ci := 10) rfl rfl) rfl rfl hl.1 rfl (lv_room (Nat.le_of_ble_eq_true rfl)) dX11_givesDip_27 ⟨Nat.le_of_ble_eq_true rfl, Nat.le_of_ble_eq_true rfl⟩) hP hD hS hA [1, 2, 3] [0] rfl rfl rfl (by decide) (fun r_33 u H locs hw hP hD hS => ?_)
      rcases hw with ⟨NtA_34, NtL_35, Ntk_36, Nva_37, nv_38, rfl, k_39, k_40, k_41, k_42, k_43, k_44, k_45, k_46, rfl, rfl⟩ | ⟨k_47, rfl, rfl⟩
      · have hPD : PD G A H [(m_anew, .inl (G.2 0, 135, .inl (cI mn))), (m0, .inr (10, [.ref m_all, .ref m_kept, .ref m_isKept, .ref m_refused, .long (lI m_above), .long (lI m_below), .ref m_hand, .ref m_fewest, .ref m_whoBites, .ref m_leaves, .ref m_bestFeast, .ref m_tells, .ref m_hardOn, .ref m_bytes, .int (iI m_bytesLong), .int (iI NtA_34), .int (iI NtL_35), .int (iI Ntk_36), .int (iI Nva_37), .ref m_anew, .ref m_values])), (m_bytes, .inl (G.2 0, 150, .inl (cI my))), (m_values, .inl (G.2 0, 3, .inl (cI (uI (uI mv 0 (uV ((j0 + 1) : Int).toNat)) 1 (uV (((j0 + 1) + 1) : Int).toNat)))))] := ⟨hP, hD⟩
        have hP := hPD.1
        have hD := hPD.2
        clear hPD
        refine lv_if_ne (tgt := 35) hx hb dX11_givesDip_30 (by decide) (fun _ => ?_) (fun c_48 => g_no c_48 (by decide))
        refine lv_aload_n hx hb dX11_givesDip_35 rfl (lv_at hl 0 rfl) ?_
        refine va_get (D := G.1) (ci := 10) (v := .ref m_anew) (C := RX11) (T := TX11) (N := 21) hx hb hts (fun _ h => List.mem_cons_of_mem _ (inlX11 _ h)) hown hK hP 1 rfl rfl 19 (by decide) (hts _ (List.mem_cons_of_mem _ (in_r6 (List.mem_of_getElem? (i := 13) rfl)))) (fun _ h9 => h9) rfl dX11_givesDip_36 ?_
        refine lv_aload_n hx hb dX11_givesDip_39 rfl (lv_at hl 0 rfl) ?_
        refine va_get (D := G.1) (ci := 10) (v := .ref m_values) (C := RX11) (T := TX11) (N := 21) hx hb hts (fun _ h => List.mem_cons_of_mem _ (inlX11 _ h)) hown hK hP 1 rfl rfl 20 (by decide) (hts _ (List.mem_cons_of_mem _ (in_r6 (List.mem_of_getElem? (i := 14) rfl)))) (fun _ h9 => h9) rfl dX11_givesDip_40 ?_
        refine lv_iconst (v := iI 0) hx hb dX11_givesDip_43 rfl ?_
        refine g_ild hx hb hK hP 3 rfl (by omega) (by omega) (by first | exact Nat.le_of_ble_eq_true rfl | omega) dX11_givesDip_44 (fun w_49 ew_49 => ?_)
        have ew_49 : (uI (uI mv 0 (uV ((j0 + 1) : Int).toNat)) 1 (uV (((j0 + 1) + 1) : Int).toNat)) 0 = w_49 := ew_49
        rw [uI_ne (by omega), uI_eq] at ew_49
        subst ew_49
        refine lv_aload_n hx hb dX11_givesDip_45 rfl (lv_at hl 0 rfl) ?_
        refine va_get (D := G.1) (ci := 10) (v := .ref m_values) (C := RX11) (T := TX11) (N := 21) hx hb hts (fun _ h => List.mem_cons_of_mem _ (inlX11 _ h)) hown hK hP 1 rfl rfl 20 (by decide) (hts _ (List.mem_cons_of_mem _ (in_r6 (List.mem_of_getElem? (i := 14) rfl)))) (fun _ h9 => h9) rfl dX11_givesDip_46 ?_
        refine lv_iconst (v := iI 1) hx hb dX11_givesDip_49 rfl ?_
        refine g_ild hx hb hK hP 3 rfl (by omega) (by omega) (by first | exact Nat.le_of_ble_eq_true rfl | omega) dX11_givesDip_50 (fun w_50 ew_50 => ?_)
        have ew_50 : (uI (uI mv 0 (uV ((j0 + 1) : Int).toNat)) 1 (uV (((j0 + 1) + 1) : Int).toNat)) 1 = w_50 := ew_50
        rw [uI_eq] at ew_50
        subst ew_50
        refine g_callv (wr := [(m0, .inr (10, [.ref m_all, .ref m_kept, .ref m_isKept, .ref m_refused, .long (lI m_above), .long (lI m_below), .ref m_hand, .ref m_fewest, .ref m_whoBites, .ref m_leaves, .ref m_bestFeast, .ref m_tells, .ref m_hardOn, .ref m_bytes, .int (iI m_bytesLong), .int (iI NtA_34), .int (iI NtL_35), .int (iI Ntk_36), .int (iI Nva_37), .ref m_anew, .ref m_values])), (m_bytes, .inl (G.2 0, 150, .inl (cI my))), (m_values, .inl (G.2 0, 3, .inl (cI (uI (uI mv 0 (uV ((j0 + 1) : Int).toNat)) 1 (uV (((j0 + 1) + 1) : Int).toNat)))))]) (va_runS (As := [.ref m_anew, .int (iI (uV ((j0 + 1) : Int).toNat)), .int (iI (uV (((j0 + 1) + 1) : Int).toNat))]) (rest := []) ⟨hx, hb, hml, hown, hts⟩ (c_X11_goDip_135 l G (m_anew) (mn) (K0) ((uV ((j0 + 1) : Int).toNat)) ((uV (((j0 + 1) + 1) : Int).toNat)) (by first | exact y1_ | exact bpA_mono y1_ (by omega) | assumption) (by first | assumption | omega) (by first | assumption | omega) (by first | assumption | omega) _) (va_cwS 3 hts gX11_givesDip_X11_goDip rfl rfl rfl (by decide +kernel) ⟨Nat.le_of_ble_eq_true rfl, Nat.le_of_ble_eq_true rfl⟩) (g_preS [.ref m_anew, .int (iI (uV ((j0 + 1) : Int).toNat)), .int (iI (uV (((j0 + 1) + 1) : Int).toNat))] hP hD hK hN hS hA hZ [0] rfl rfl) rfl rfl hl.1 rfl (lv_room (Nat.le_of_ble_eq_true rfl)) dX11_givesDip_51 ⟨Nat.le_of_ble_eq_true rfl, Nat.le_of_ble_eq_true rfl⟩) hP hD hS hA [0] [1, 2, 3] rfl rfl rfl (by decide) (fun u H locs hw hP hD hS => ?_)
        obtain ⟨Nq_51, rfl, k_52, rfl⟩ := hw
        have hPD : PD G A H [(m0, .inr (10, [.ref m_all, .ref m_kept, .ref m_isKept, .ref m_refused, .long (lI m_above), .long (lI m_below), .ref m_hand, .ref m_fewest, .ref m_whoBites, .ref m_leaves, .ref m_bestFeast, .ref m_tells, .ref m_hardOn, .ref m_bytes, .int (iI m_bytesLong), .int (iI NtA_34), .int (iI NtL_35), .int (iI Ntk_36), .int (iI Nva_37), .ref m_anew, .ref m_values])), (m_bytes, .inl (G.2 0, 150, .inl (cI my))), (m_values, .inl (G.2 0, 3, .inl (cI (uI (uI mv 0 (uV ((j0 + 1) : Int).toNat)) 1 (uV (((j0 + 1) + 1) : Int).toNat))))), (m_anew, .inl (G.2 0, 135, .inl (cI (sDip mn (uV ((j0 + 1) : Int).toNat) (uV (((j0 + 1) + 1) : Int).toNat)))))] := ⟨hP, hD⟩
        have hP := hPD.1
        have hD := hPD.2
        clear hPD
        refine lv_iconst (v := iI 1) hx hb dX11_givesDip_54 rfl ?_
        exact g_zret (v := (iI 1)) hx hb hr hlocks rfl hP hD hS (Or.inl ⟨NtA_34, NtL_35, Ntk_36, Nva_37, (uI (uI mv 0 (uV ((j0 + 1) : Int).toNat)) 1 (uV (((j0 + 1) + 1) : Int).toNat)), (sDip mn (uV ((j0 + 1) : Int).toNat) (uV (((j0 + 1) + 1) : Int).toNat)), (((j0 + 1) + 1) + 1), (by rw [cIt_9 (by omega)]; exact (cDip_ok (ra_who (by assumption) (by assumption)) (by first | assumption | omega))), (by first | exact k_39 | assumption | omega), (by first | exact k_40 | assumption | omega), (by first | exact k_41 | assumption | omega), (by first | exact k_42 | assumption | omega), (by first | assumption | omega), (by first | exact k_44 | assumption | omega), (by first | assumption | omega), (by first | exact k_52 | exact bpA_mono k_52 (by omega) | assumption), rfl, rfl⟩) dX11_givesDip_55
      · have hPD : PD G A H [(m_anew, .inl (G.2 0, 135, .inl (cI mn))), (m0, .inr (10, [.ref m_all, .ref m_kept, .ref m_isKept, .ref m_refused, .long (lI m_above), .long (lI m_below), .ref m_hand, .ref m_fewest, .ref m_whoBites, .ref m_leaves, .ref m_bestFeast, .ref m_tells, .ref m_hardOn, .ref m_bytes, .int (iI m_bytesLong), .int (iI NtA_18), .int (iI NtL_19), .int (iI Ntk_20), .int (iI Nva_21), .ref m_anew, .ref m_values])), (m_bytes, .inl (G.2 0, 150, .inl (cI my))), (m_values, .inl (G.2 0, 3, .inl (cI (uI mv 0 (uV ((j0 + 1) : Int).toNat)))))] := ⟨hP, hD⟩
        have hP := hPD.1
        have hD := hPD.2
        clear hPD
        refine lv_if_ne (tgt := 35) hx hb dX11_givesDip_30 (by decide) (fun c_53 => g_no (by decide) c_53) (fun _ => ?_)
        refine lv_iconst (v := iI 0) hx hb dX11_givesDip_33 rfl ?_
        have hP := hP.sub (ws' := [(m0, .inr (10, [.ref m_all, .ref m_kept, .ref m_isKept, .ref m_refused, .long (lI m_above), .long (lI m_below), .ref m_hand, .ref m_fewest, .ref m_whoBites, .ref m_leaves, .ref m_bestFeast, .ref m_tells, .ref m_hardOn, .ref m_bytes, .int (iI m_bytesLong), .int (iI NtA_18), .int (iI NtL_19), .int (iI Ntk_20), .int (iI Nva_21), .ref m_anew, .ref m_values])), (m_bytes, .inl (G.2 0, 150, .inl (cI my))), (m_values, .inl (G.2 0, 3, .inl (cI (uI mv 0 (uV ((j0 + 1) : Int).toNat))))), (m_anew, .inl (G.2 0, 135, .inl (cI mn)))]) [1, 2, 3, 0] rfl
        have hD := hD.sub (ws' := [(m0, .inr (10, [.ref m_all, .ref m_kept, .ref m_isKept, .ref m_refused, .long (lI m_above), .long (lI m_below), .ref m_hand, .ref m_fewest, .ref m_whoBites, .ref m_leaves, .ref m_bestFeast, .ref m_tells, .ref m_hardOn, .ref m_bytes, .int (iI m_bytesLong), .int (iI NtA_18), .int (iI NtL_19), .int (iI Ntk_20), .int (iI Nva_21), .ref m_anew, .ref m_values])), (m_bytes, .inl (G.2 0, 150, .inl (cI my))), (m_values, .inl (G.2 0, 3, .inl (cI (uI mv 0 (uV ((j0 + 1) : Int).toNat))))), (m_anew, .inl (G.2 0, 135, .inl (cI mn)))]) [1, 2, 3, 0] rfl rfl
        exact g_zret (v := (iI 0)) hx hb hr hlocks rfl hP hD hS (Or.inr (⟨NtA_18, NtL_19, Ntk_20, Nva_21, (uI mv 0 (uV ((j0 + 1) : Int).toNat)), mn, ((j0 + 1) + 1), (by rw [cIt_9 (by omega)]; exact (cDip_f1 (ra_who (by assumption) (by assumption)) (by first | assumption | omega))), (by first | exact k_23 | assumption | omega), (by first | exact k_24 | assumption | omega), (by first | exact k_25 | assumption | omega), (by first | exact k_26 | assumption | omega), (by first | assumption | omega), (by first | exact k_28 | assumption | omega), (by first | assumption | omega), (by first | exact y1_ | exact bpA_mono y1_ (by omega) | assumption), rfl, rfl⟩)) dX11_givesDip_34
    · exact absurd (ra_num (lo := 0) (hi := 6) k_10 (by omega)) (by assumption)
  · refine ea_0_3 hw (fun k_15 e8_0 e8_1 => ?_)
    subst e8_0
    subst e8_1
    clear hw
    have hPD : PD G A H [(m_values, .inl (G.2 0, 3, .inl (cI mv))), (m_bytes, .inl (G.2 0, 150, .inl (cI my))), (m0, .inr (10, [.ref m_all, .ref m_kept, .ref m_isKept, .ref m_refused, .long (lI m_above), .long (lI m_below), .ref m_hand, .ref m_fewest, .ref m_whoBites, .ref m_leaves, .ref m_bestFeast, .ref m_tells, .ref m_hardOn, .ref m_bytes, .int (iI m_bytesLong), .int (iI NtA_1), .int (iI NtL_2), .int (iI Ntk_3), .int (iI Nva_4), .ref m_anew, .ref m_values])), (m_anew, .inl (G.2 0, 135, .inl (cI mn)))] := ⟨hP, hD⟩
    have hP := hPD.1
    have hD := hPD.2
    clear hPD
    refine lv_if_eq (tgt := 33) hx hb dX11_givesDip_8 (by decide) (fun _ => ?_) (fun c_54 => g_no (by decide) c_54)
    refine lv_iconst (v := iI 0) hx hb dX11_givesDip_33 rfl ?_
    have hP := hP.sub (ws' := [(m0, .inr (10, [.ref m_all, .ref m_kept, .ref m_isKept, .ref m_refused, .long (lI m_above), .long (lI m_below), .ref m_hand, .ref m_fewest, .ref m_whoBites, .ref m_leaves, .ref m_bestFeast, .ref m_tells, .ref m_hardOn, .ref m_bytes, .int (iI m_bytesLong), .int (iI NtA_1), .int (iI NtL_2), .int (iI Ntk_3), .int (iI Nva_4), .ref m_anew, .ref m_values])), (m_bytes, .inl (G.2 0, 150, .inl (cI my))), (m_values, .inl (G.2 0, 3, .inl (cI mv))), (m_anew, .inl (G.2 0, 135, .inl (cI mn)))]) [2, 1, 0, 3] rfl
    have hD := hD.sub (ws' := [(m0, .inr (10, [.ref m_all, .ref m_kept, .ref m_isKept, .ref m_refused, .long (lI m_above), .long (lI m_below), .ref m_hand, .ref m_fewest, .ref m_whoBites, .ref m_leaves, .ref m_bestFeast, .ref m_tells, .ref m_hardOn, .ref m_bytes, .int (iI m_bytesLong), .int (iI NtA_1), .int (iI NtL_2), .int (iI Ntk_3), .int (iI Nva_4), .ref m_anew, .ref m_values])), (m_bytes, .inl (G.2 0, 150, .inl (cI my))), (m_values, .inl (G.2 0, 3, .inl (cI mv))), (m_anew, .inl (G.2 0, 135, .inl (cI mn)))]) [2, 1, 0, 3] rfl rfl
    exact g_zret (v := (iI 0)) hx hb hr hlocks rfl hP hD hS (Or.inr (⟨NtA_1, NtL_2, Ntk_3, Nva_4, mv, mn, (j0 + 1), (by rw [cIt_9 (by omega)]; exact (cDip_f0 (ra_whn (by assumption) (by assumption)))), (by first | exact k_5 | assumption | omega), (by first | exact k_6 | assumption | omega), (by first | exact k_7 | assumption | omega), (by first | exact k_8 | assumption | omega), (by first | assumption | omega), (by first | exact k_10 | assumption | omega), (by first | assumption | omega), (by first | exact y1_ | exact bpA_mono y1_ (by omega) | assumption), rfl, rfl⟩)) dX11_givesDip_34
theorem dX11_givesDays_0 : decode cX11_givesDays 0 = .ok (.aload_n 0, 1) := kd_42 (by decide +kernel)
theorem gX11_givesDays_X11_goBehind : GoodIn wsX11_givesDays (wsV RX11 265 RX11 yX11_goBehind wsX11_goBehind) := gW_V (in_r20 (List.mem_of_getElem? (i := 6) rfl)) (in_r20 (List.mem_of_getElem? (i := 7) rfl)) (in_r20 (List.mem_of_getElem? (i := 8) rfl)) (in_r1 (List.mem_of_getElem? (i := 5) rfl)) (in_r20 (List.mem_of_getElem? (i := 9) rfl))
theorem dX11_givesDays_1 : decode cX11_givesDays 1 = .ok (.invokevirtual 265, 3) := kd_182 (a := 1) (b := 9) (by decide +kernel)
theorem dX11_givesDays_4 : decode cX11_givesDays 4 = .ok (.aload_n 0, 1) := kd_42 (by decide +kernel)
theorem dX11_givesDays_5 : decode cX11_givesDays 5 = .ok (.iconst 0, 1) := kd_3 (by decide +kernel)
theorem dX11_givesDays_6 : decode cX11_givesDays 6 = .ok (.iconst 1, 1) := kd_4 (by decide +kernel)
theorem dX11_givesDays_7 : decode cX11_givesDays 7 = .ok (.bipush 99, 2) := kd_16 (a := 99) (by decide +kernel)
theorem gX11_givesDays_X11_gives : GoodIn wsX11_givesDays (wsV RX11 268 RX11 yX11_gives wsX11_gives) := gW_V (in_r20 (List.mem_of_getElem? (i := 18) rfl)) (in_r20 (List.mem_of_getElem? (i := 19) rfl)) (in_r20 (List.mem_of_getElem? (i := 20) rfl)) (in_r1 (List.mem_of_getElem? (i := 5) rfl)) (in_r20 (List.mem_of_getElem? (i := 21) rfl))
theorem dX11_givesDays_9 : decode cX11_givesDays 9 = .ok (.invokevirtual 268, 3) := kd_182 (a := 1) (b := 12) (by decide +kernel)
theorem dX11_givesDays_12 : decode cX11_givesDays 12 = .ok (.ifCond .ne 5, 3) := kd_154 (a := 0) (b := 5) (by decide +kernel)
theorem dX11_givesDays_17 : decode cX11_givesDays 17 = .ok (.aload_n 0, 1) := kd_42 (by decide +kernel)
theorem dX11_givesDays_18 : decode cX11_givesDays 18 = .ok (.getfield 51, 3) := kd_180 (a := 0) (b := 51) (by decide +kernel)
theorem dX11_givesDays_21 : decode cX11_givesDays 21 = .ok (.aload_n 0, 1) := kd_42 (by decide +kernel)
theorem dX11_givesDays_22 : decode cX11_givesDays 22 = .ok (.getfield 54, 3) := kd_180 (a := 0) (b := 54) (by decide +kernel)
theorem dX11_givesDays_25 : decode cX11_givesDays 25 = .ok (.iconst 0, 1) := kd_3 (by decide +kernel)
theorem dX11_givesDays_26 : decode cX11_givesDays 26 = .ok (.iaload, 1) := kd_46 (by decide +kernel)
theorem gX11_givesDays_X11_goDays : GoodIn wsX11_givesDays (va_wsS RX11 136 yX11_goDays wsX11_goDays) := gW_S (in_r22 (List.mem_of_getElem? (i := 22) rfl)) (in_r22 (List.mem_of_getElem? (i := 23) rfl)) (in_r1 (List.mem_of_getElem? (i := 5) rfl)) (in_r23 (List.mem_of_getElem? (i := 0) rfl))
theorem dX11_givesDays_27 : decode cX11_givesDays 27 = .ok (.invokestatic 136, 3) := kd_184 (a := 0) (b := 136) (by decide +kernel)
theorem dX11_givesDays_30 : decode cX11_givesDays 30 = .ok (.iconst 1, 1) := kd_4 (by decide +kernel)
theorem dX11_givesDays_31 : decode cX11_givesDays 31 = .ok (.ireturn, 1) := kd_172 (by decide +kernel)
theorem dX11_givesDays_15 : decode cX11_givesDays 15 = .ok (.iconst 0, 1) := kd_3 (by decide +kernel)
theorem dX11_givesDays_16 : decode cX11_givesDays 16 = .ok (.ireturn, 1) := kd_172 (by decide +kernel)
set_option maxHeartbeats 8000000 in
set_option maxRecDepth 100000 in
theorem c_X11_givesDays (l : Launch) (G : gG) (m0 : Nat) (m_all : Nat) (m_kept : Nat) (m_isKept : Nat) (m_refused : Nat) (m_above : Int) (m_below : Int) (m_hand : Nat) (m_fewest : Nat) (m_whoBites : Nat) (m_leaves : Nat) (m_bestFeast : Nat) (m_tells : Nat) (m_hardOn : Nat) (m_bytes : Nat) (m_bytesLong : Int) (m_tokenAt : Int) (m_tokenLong : Int) (m_token : Int) (m_value : Int) (m_anew : Nat) (m_values : Nat) (my : Nat → Int) (mv : Nat → Int) (mn : Nat → Int) (K0 : Int) (uS : Nat → Int) (uA : Nat → Int) (uV : Nat → Int) (uE : Nat → Int) (n0 : Int) (j0 : Int) (y0_ : bd 0 127 my) (y1_ : bp (plA K0) mn) (hL : 0 ≤ m_bytesLong ∧ m_bytesLong ≤ 150) (i0_ : 0 ≤ m_tokenAt ∧ 0 ≤ m_tokenLong ∧ m_tokenAt + m_tokenLong ≤ m_bytesLong) (i1_ : 0 ≤ m_token ∧ m_token ≤ 4) (i2_ : m_token = 0 ∨ 1 ≤ m_tokenLong) (i3_ : -2000 ≤ m_value ∧ m_value ≤ 2000) (hch : chF my m_bytesLong uS uA uV n0 uE) (hra : ra my uS uA uV uE j0 m_tokenAt m_tokenLong m_token m_value) (hj : 0 ≤ j0 ∧ j0 < n0) (hK0 : 1000 ≤ K0 ∧ K0 ≤ 1900000) (h5 : uS (j0 : Int).toNat = 10) (sz : Nat) : gI G l yX11_givesDays wsX11_givesDays ({ frames := 5, cells := 0, slots := 0, locals := 112 } : Room) [.ref m0] [(m0, .inr (10, [.ref m_all, .ref m_kept, .ref m_isKept, .ref m_refused, .long (lI m_above), .long (lI m_below), .ref m_hand, .ref m_fewest, .ref m_whoBites, .ref m_leaves, .ref m_bestFeast, .ref m_tells, .ref m_hardOn, .ref m_bytes, .int (iI m_bytesLong), .int (iI m_tokenAt), .int (iI m_tokenLong), .int (iI m_token), .int (iI m_value), .ref m_anew, .ref m_values])), (m_bytes, .inl (G.2 0, 150, .inl (cI my))), (m_values, .inl (G.2 0, 3, .inl (cI mv))), (m_anew, .inl (G.2 0, 135, .inl (cI mn)))] sz (fun (r : Int32) (u : va_W) => (∃ NtA : Int, ∃ NtL : Int, ∃ Ntk : Int, ∃ Nva : Int, ∃ N_v : Nat → Int, ∃ N_n : Nat → Int, ∃ jN : Int, (MOk (cIt uS uV mn j0) jN N_n) ∧ (0 ≤ NtA ∧ 0 ≤ NtL ∧ NtA + NtL ≤ m_bytesLong) ∧ (0 ≤ Ntk ∧ Ntk ≤ 4) ∧ (Ntk = 0 ∨ 1 ≤ NtL) ∧ (-2000 ≤ Nva ∧ Nva ≤ 2000) ∧ (m_tokenAt ≤ NtA) ∧ (ra my uS uA uV uE jN NtA NtL Ntk Nva) ∧ (j0 < jN ∧ jN < n0) ∧ (bp (plA (K0 + 99)) N_n) ∧ r = (iI 1) ∧ u = [(m0, .inr (10, [.ref m_all, .ref m_kept, .ref m_isKept, .ref m_refused, .long (lI m_above), .long (lI m_below), .ref m_hand, .ref m_fewest, .ref m_whoBites, .ref m_leaves, .ref m_bestFeast, .ref m_tells, .ref m_hardOn, .ref m_bytes, .int (iI m_bytesLong), .int (iI NtA), .int (iI NtL), .int (iI Ntk), .int (iI Nva), .ref m_anew, .ref m_values])), (m_bytes, .inl (G.2 0, 150, .inl (cI my))), (m_values, .inl (G.2 0, 3, .inl (cI N_v))), (m_anew, .inl (G.2 0, 135, .inl (cI N_n)))]) ∨ (∃ NtA : Int, ∃ NtL : Int, ∃ Ntk : Int, ∃ Nva : Int, ∃ N_v : Nat → Int, ∃ N_n : Nat → Int, ∃ jN : Int, (INo uS (cIt uS uV mn j0) jN) ∧ (0 ≤ NtA ∧ 0 ≤ NtL ∧ NtA + NtL ≤ m_bytesLong) ∧ (0 ≤ Ntk ∧ Ntk ≤ 4) ∧ (Ntk = 0 ∨ 1 ≤ NtL) ∧ (-2000 ≤ Nva ∧ Nva ≤ 2000) ∧ (m_tokenAt ≤ NtA) ∧ (ra my uS uA uV uE jN NtA NtL Ntk Nva) ∧ (0 ≤ jN ∧ jN < n0) ∧ (bp (plA (K0 + 99)) N_n) ∧ r = (iI 0) ∧ u = [(m0, .inr (10, [.ref m_all, .ref m_kept, .ref m_isKept, .ref m_refused, .long (lI m_above), .long (lI m_below), .ref m_hand, .ref m_fewest, .ref m_whoBites, .ref m_leaves, .ref m_bestFeast, .ref m_tells, .ref m_hardOn, .ref m_bytes, .int (iI m_bytesLong), .int (iI NtA), .int (iI NtL), .int (iI Ntk), .int (iI Nva), .ref m_anew, .ref m_values])), (m_bytes, .inl (G.2 0, 150, .inl (cI my))), (m_values, .inl (G.2 0, 3, .inl (cI N_v))), (m_anew, .inl (G.2 0, 135, .inl (cI N_n)))])) := by
  refine Met.ofW (cc := cX11_givesDays) (maxL := 1) (ret := (some .boolean)) (by decide) rfl ?_
  intro p e s m args below meth c s₁ B hml hv
  obtain ⟨rfl, hsz, hP, hK, hD0, hN, hZ⟩ := hv
  have hx := B.exec
  have hb := B.bytes
  have hr := B.returns
  have hts := atoms_spec (ws := wsX11_givesDays) B.pre
  have hown : s.vm.findClass RX11 = some m.cls := findClass_of_methodNamed B.named
  have hlocks := B.notSynchronized
  subst hsz
  have hD := hD0.self (sz := s.heap.size)
  generalize hAe : va_A [(m0, .inr (10, [.ref m_all, .ref m_kept, .ref m_isKept, .ref m_refused, .long (lI m_above), .long (lI m_below), .ref m_hand, .ref m_fewest, .ref m_whoBites, .ref m_leaves, .ref m_bestFeast, .ref m_tells, .ref m_hardOn, .ref m_bytes, .int (iI m_bytesLong), .int (iI m_tokenAt), .int (iI m_tokenLong), .int (iI m_token), .int (iI m_value), .ref m_anew, .ref m_values])), (m_bytes, .inl (G.2 0, 150, .inl (cI my))), (m_values, .inl (G.2 0, 3, .inl (cI mv))), (m_anew, .inl (G.2 0, 135, .inl (cI mn)))] s.heap.size = A at hD hZ ⊢
  have hA : ∀ q : Nat, s.heap.size ≤ q → A q := fun q h => by rw [← hAe]; exact Or.inr h
  have hS : va_S A s.heap s.heap [] := va_S.rf
  have hP : va_P G.1 vwCl [(m0, .inr (10, [.ref m_all, .ref m_kept, .ref m_isKept, .ref m_refused, .long (lI m_above), .long (lI m_below), .ref m_hand, .ref m_fewest, .ref m_whoBites, .ref m_leaves, .ref m_bestFeast, .ref m_tells, .ref m_hardOn, .ref m_bytes, .int (iI m_bytesLong), .int (iI m_tokenAt), .int (iI m_tokenLong), .int (iI m_token), .int (iI m_value), .ref m_anew, .ref m_values])), (m_bytes, .inl (G.2 0, 150, .inl (cI my))), (m_values, .inl (G.2 0, 3, .inl (cI mv))), (m_anew, .inl (G.2 0, 135, .inl (cI mn)))] s.heap := hP
  have hl := lv_entry ([.ref m0]) (n := 1) (Nat.le_of_ble_eq_true rfl)
  rw [lg_entry_eq]
  generalize (lg_sl ([.ref m0]) ++ List.replicate (1 - (lg_sl ([.ref m0])).length) Slot.unset).toArray = ls at hl ⊢
  have hl : lv_has ls 1 [(0, .ref m0)] := hl
  refine lv_aload_n hx hb dX11_givesDays_0 rfl (lv_at hl 0 rfl) ?_
  refine g_callv (wr := [(m_values, .inl (G.2 0, 3, .inl (cI mv))), (m_anew, .inl (G.2 0, 135, .inl (cI mn)))]) (va_runV (As := []) (rest := []) ⟨hx, hb, hml, hown, hts⟩ (c_X11_goBehind l G (m0) (m_all) (m_kept) (m_isKept) (m_refused) (m_above) (m_below) (m_hand) (m_fewest) (m_whoBites) (m_leaves) (m_bestFeast) (m_tells) (m_hardOn) (m_bytes) (m_bytesLong) (m_tokenAt) (m_tokenLong) (m_token) (m_value) (m_anew) (m_values) (my) (uS) (uA) (uV) (uE) (n0) (j0) (by first | exact y0_ | exact bd_mono y0_ (by omega) (by omega) | assumption) (by first | exact hL | assumption | omega) (by first | exact i0_ | assumption | omega) (by first | exact i1_ | assumption | omega) (by first | exact i2_ | assumption | omega) (by first | exact i3_ | assumption | omega) (by first | exact hch | assumption | omega) (by first | exact hra | assumption | omega) (by first | exact hj | assumption | omega) (by first | assumption | omega) _) (cwV 0 hts gX11_givesDays_X11_goBehind rfl rfl rfl (by decide +kernel) ⟨Nat.le_of_ble_eq_true rfl, Nat.le_of_ble_eq_true rfl⟩) (g_preV m0 [] hP hD hK hN hS hA hZ [0, 1] rfl rfl 0 (ci := 10) rfl rfl) rfl rfl hl.1 rfl (lv_room (Nat.le_of_ble_eq_true rfl)) dX11_givesDays_1 ⟨Nat.le_of_ble_eq_true rfl, Nat.le_of_ble_eq_true rfl⟩) hP hD hS hA [0, 1] [2, 3] rfl rfl rfl (by decide) (fun u H locs hw hP hD hS => ?_)
  refine ea_4_8 hw (fun NtA_1 NtL_2 Ntk_3 Nva_4 k_5 k_6 k_7 k_8 k_9 k_10 k_11 e8_0 => ?_)
  subst e8_0
  clear hw
  have hPD : PD G A H [(m_values, .inl (G.2 0, 3, .inl (cI mv))), (m_anew, .inl (G.2 0, 135, .inl (cI mn))), (m0, .inr (10, [.ref m_all, .ref m_kept, .ref m_isKept, .ref m_refused, .long (lI m_above), .long (lI m_below), .ref m_hand, .ref m_fewest, .ref m_whoBites, .ref m_leaves, .ref m_bestFeast, .ref m_tells, .ref m_hardOn, .ref m_bytes, .int (iI m_bytesLong), .int (iI NtA_1), .int (iI NtL_2), .int (iI Ntk_3), .int (iI Nva_4), .ref m_anew, .ref m_values])), (m_bytes, .inl (G.2 0, 150, .inl (cI my)))] := ⟨hP, hD⟩
  have hP := hPD.1
  have hD := hPD.2
  clear hPD
  refine lv_aload_n hx hb dX11_givesDays_4 rfl (lv_at hl 0 rfl) ?_
  refine lv_iconst (v := iI 0) hx hb dX11_givesDays_5 rfl ?_
  refine lv_iconst (v := iI 1) hx hb dX11_givesDays_6 rfl ?_
  refine lv_bipush (v := iI 99) hx hb dX11_givesDays_7 (by decide) ?_
  refine g_calli (wr := [(m_anew, .inl (G.2 0, 135, .inl (cI mn)))]) (va_runV (As := [.int (iI 0), .int (iI 1), .int (iI 99)]) (rest := []) ⟨hx, hb, hml, hown, hts⟩ (c_X11_gives0 l G (m0) (m_all) (m_kept) (m_isKept) (m_refused) (m_above) (m_below) (m_hand) (m_fewest) (m_whoBites) (m_leaves) (m_bestFeast) (m_tells) (m_hardOn) (m_bytes) (m_bytesLong) (NtA_1) (NtL_2) (Ntk_3) (Nva_4) (m_anew) (m_values) (my) (mv) (uS) (uA) (uV) (uE) (n0) ((j0 + 1)) (1) (99) (by first | exact y0_ | exact bd_mono y0_ (by omega) (by omega) | assumption) (by first | exact hL | assumption | omega) (by first | exact k_5 | assumption | omega) (by first | exact k_6 | assumption | omega) (by first | exact k_7 | assumption | omega) (by first | exact k_8 | assumption | omega) (by first | exact hch | assumption | omega) (by first | exact k_10 | assumption | omega) (by first | assumption | omega) (by first | assumption | omega) (by first | assumption | omega) _) (cwV 3 hts gX11_givesDays_X11_gives rfl rfl rfl (by decide +kernel) ⟨Nat.le_of_ble_eq_true rfl, Nat.le_of_ble_eq_true rfl⟩) (g_preV m0 [.int (iI 0), .int (iI 1), .int (iI 99)] hP hD hK hN hS hA hZ [2, 3, 0] rfl rfl 2 (ci := 10) rfl rfl) rfl rfl hl.1 rfl (lv_room (Nat.le_of_ble_eq_true rfl)) dX11_givesDays_9 ⟨Nat.le_of_ble_eq_true rfl, Nat.le_of_ble_eq_true rfl⟩) hP hD hS hA [2, 3, 0] [1] rfl rfl rfl (by decide) (fun r_12 u H locs hw hP hD hS => ?_)
  rcases hw with ⟨NtA_13, NtL_14, Ntk_15, Nva_16, nv_17, rfl, k_18, k_19, k_20, k_21, k_22, k_23, k_24, k_25, rfl, rfl⟩ | ⟨k_26, rfl, rfl⟩
  · have hPD : PD G A H [(m_anew, .inl (G.2 0, 135, .inl (cI mn))), (m0, .inr (10, [.ref m_all, .ref m_kept, .ref m_isKept, .ref m_refused, .long (lI m_above), .long (lI m_below), .ref m_hand, .ref m_fewest, .ref m_whoBites, .ref m_leaves, .ref m_bestFeast, .ref m_tells, .ref m_hardOn, .ref m_bytes, .int (iI m_bytesLong), .int (iI NtA_13), .int (iI NtL_14), .int (iI Ntk_15), .int (iI Nva_16), .ref m_anew, .ref m_values])), (m_bytes, .inl (G.2 0, 150, .inl (cI my))), (m_values, .inl (G.2 0, 3, .inl (cI (uI mv 0 (uV ((j0 + 1) : Int).toNat)))))] := ⟨hP, hD⟩
    have hP := hPD.1
    have hD := hPD.2
    clear hPD
    refine lv_if_ne (tgt := 17) hx hb dX11_givesDays_12 (by decide) (fun _ => ?_) (fun c_27 => g_no c_27 (by decide))
    refine lv_aload_n hx hb dX11_givesDays_17 rfl (lv_at hl 0 rfl) ?_
    refine va_get (D := G.1) (ci := 10) (v := .ref m_anew) (C := RX11) (T := TX11) (N := 21) hx hb hts (fun _ h => List.mem_cons_of_mem _ (inlX11 _ h)) hown hK hP 1 rfl rfl 19 (by decide) (hts _ (List.mem_cons_of_mem _ (in_r6 (List.mem_of_getElem? (i := 13) rfl)))) (fun _ h9 => h9) rfl dX11_givesDays_18 ?_
    refine lv_aload_n hx hb dX11_givesDays_21 rfl (lv_at hl 0 rfl) ?_
    refine va_get (D := G.1) (ci := 10) (v := .ref m_values) (C := RX11) (T := TX11) (N := 21) hx hb hts (fun _ h => List.mem_cons_of_mem _ (inlX11 _ h)) hown hK hP 1 rfl rfl 20 (by decide) (hts _ (List.mem_cons_of_mem _ (in_r6 (List.mem_of_getElem? (i := 14) rfl)))) (fun _ h9 => h9) rfl dX11_givesDays_22 ?_
    refine lv_iconst (v := iI 0) hx hb dX11_givesDays_25 rfl ?_
    refine g_ild hx hb hK hP 3 rfl (by omega) (by omega) (by first | exact Nat.le_of_ble_eq_true rfl | omega) dX11_givesDays_26 (fun w_28 ew_28 => ?_)
    have ew_28 : (uI mv 0 (uV ((j0 + 1) : Int).toNat)) 0 = w_28 := ew_28
    rw [uI_eq] at ew_28
    subst ew_28
    refine g_callv (wr := [(m0, .inr (10, [.ref m_all, .ref m_kept, .ref m_isKept, .ref m_refused, .long (lI m_above), .long (lI m_below), .ref m_hand, .ref m_fewest, .ref m_whoBites, .ref m_leaves, .ref m_bestFeast, .ref m_tells, .ref m_hardOn, .ref m_bytes, .int (iI m_bytesLong), .int (iI NtA_13), .int (iI NtL_14), .int (iI Ntk_15), .int (iI Nva_16), .ref m_anew, .ref m_values])), (m_bytes, .inl (G.2 0, 150, .inl (cI my))), (m_values, .inl (G.2 0, 3, .inl (cI (uI mv 0 (uV ((j0 + 1) : Int).toNat)))))]) (va_runS (As := [.ref m_anew, .int (iI (uV ((j0 + 1) : Int).toNat))]) (rest := []) ⟨hx, hb, hml, hown, hts⟩ (c_X11_goDays_135 l G (m_anew) (mn) (K0) ((uV ((j0 + 1) : Int).toNat)) (by first | exact y1_ | exact bpA_mono y1_ (by omega) | assumption) (by first | exact hK0 | assumption | omega) (by first | assumption | omega) _) (va_cwS 2 hts gX11_givesDays_X11_goDays rfl rfl rfl (by decide +kernel) ⟨Nat.le_of_ble_eq_true rfl, Nat.le_of_ble_eq_true rfl⟩) (g_preS [.ref m_anew, .int (iI (uV ((j0 + 1) : Int).toNat))] hP hD hK hN hS hA hZ [0] rfl rfl) rfl rfl hl.1 rfl (lv_room (Nat.le_of_ble_eq_true rfl)) dX11_givesDays_27 ⟨Nat.le_of_ble_eq_true rfl, Nat.le_of_ble_eq_true rfl⟩) hP hD hS hA [0] [1, 2, 3] rfl rfl rfl (by decide) (fun u H locs hw hP hD hS => ?_)
    obtain ⟨Nq_29, rfl, k_30, rfl⟩ := hw
    have hPD : PD G A H [(m0, .inr (10, [.ref m_all, .ref m_kept, .ref m_isKept, .ref m_refused, .long (lI m_above), .long (lI m_below), .ref m_hand, .ref m_fewest, .ref m_whoBites, .ref m_leaves, .ref m_bestFeast, .ref m_tells, .ref m_hardOn, .ref m_bytes, .int (iI m_bytesLong), .int (iI NtA_13), .int (iI NtL_14), .int (iI Ntk_15), .int (iI Nva_16), .ref m_anew, .ref m_values])), (m_bytes, .inl (G.2 0, 150, .inl (cI my))), (m_values, .inl (G.2 0, 3, .inl (cI (uI mv 0 (uV ((j0 + 1) : Int).toNat))))), (m_anew, .inl (G.2 0, 135, .inl (cI (sDays mn (uV ((j0 + 1) : Int).toNat)))))] := ⟨hP, hD⟩
    have hP := hPD.1
    have hD := hPD.2
    clear hPD
    refine lv_iconst (v := iI 1) hx hb dX11_givesDays_30 rfl ?_
    exact g_zret (v := (iI 1)) hx hb hr hlocks rfl hP hD hS (Or.inl ⟨NtA_13, NtL_14, Ntk_15, Nva_16, (uI mv 0 (uV ((j0 + 1) : Int).toNat)), (sDays mn (uV ((j0 + 1) : Int).toNat)), ((j0 + 1) + 1), (by rw [cIt_10 (by omega)]; exact (cDays_ok (by first | assumption | omega))), (by first | exact k_18 | assumption | omega), (by first | exact k_19 | assumption | omega), (by first | exact k_20 | assumption | omega), (by first | exact k_21 | assumption | omega), (by first | assumption | omega), (by first | exact k_23 | assumption | omega), (by first | assumption | omega), (by first | exact k_30 | exact bpA_mono k_30 (by omega) | assumption), rfl, rfl⟩) dX11_givesDays_31
  · have hPD : PD G A H [(m_anew, .inl (G.2 0, 135, .inl (cI mn))), (m0, .inr (10, [.ref m_all, .ref m_kept, .ref m_isKept, .ref m_refused, .long (lI m_above), .long (lI m_below), .ref m_hand, .ref m_fewest, .ref m_whoBites, .ref m_leaves, .ref m_bestFeast, .ref m_tells, .ref m_hardOn, .ref m_bytes, .int (iI m_bytesLong), .int (iI NtA_1), .int (iI NtL_2), .int (iI Ntk_3), .int (iI Nva_4), .ref m_anew, .ref m_values])), (m_bytes, .inl (G.2 0, 150, .inl (cI my))), (m_values, .inl (G.2 0, 3, .inl (cI mv)))] := ⟨hP, hD⟩
    have hP := hPD.1
    have hD := hPD.2
    clear hPD
    refine lv_if_ne (tgt := 17) hx hb dX11_givesDays_12 (by decide) (fun c_31 => g_no (by decide) c_31) (fun _ => ?_)
    refine lv_iconst (v := iI 0) hx hb dX11_givesDays_15 rfl ?_
    have hP := hP.sub (ws' := [(m0, .inr (10, [.ref m_all, .ref m_kept, .ref m_isKept, .ref m_refused, .long (lI m_above), .long (lI m_below), .ref m_hand, .ref m_fewest, .ref m_whoBites, .ref m_leaves, .ref m_bestFeast, .ref m_tells, .ref m_hardOn, .ref m_bytes, .int (iI m_bytesLong), .int (iI NtA_1), .int (iI NtL_2), .int (iI Ntk_3), .int (iI Nva_4), .ref m_anew, .ref m_values])), (m_bytes, .inl (G.2 0, 150, .inl (cI my))), (m_values, .inl (G.2 0, 3, .inl (cI mv))), (m_anew, .inl (G.2 0, 135, .inl (cI mn)))]) [1, 2, 3, 0] rfl
    have hD := hD.sub (ws' := [(m0, .inr (10, [.ref m_all, .ref m_kept, .ref m_isKept, .ref m_refused, .long (lI m_above), .long (lI m_below), .ref m_hand, .ref m_fewest, .ref m_whoBites, .ref m_leaves, .ref m_bestFeast, .ref m_tells, .ref m_hardOn, .ref m_bytes, .int (iI m_bytesLong), .int (iI NtA_1), .int (iI NtL_2), .int (iI Ntk_3), .int (iI Nva_4), .ref m_anew, .ref m_values])), (m_bytes, .inl (G.2 0, 150, .inl (cI my))), (m_values, .inl (G.2 0, 3, .inl (cI mv))), (m_anew, .inl (G.2 0, 135, .inl (cI mn)))]) [1, 2, 3, 0] rfl rfl
    exact g_zret (v := (iI 0)) hx hb hr hlocks rfl hP hD hS (Or.inr (⟨NtA_1, NtL_2, Ntk_3, Nva_4, mv, mn, (j0 + 1), (by rw [cIt_10 (by omega)]; exact (cDays_f0 (by first | assumption | omega))), (by first | exact k_5 | assumption | omega), (by first | exact k_6 | assumption | omega), (by first | exact k_7 | assumption | omega), (by first | exact k_8 | assumption | omega), (by first | assumption | omega), (by first | exact k_10 | assumption | omega), (by first | assumption | omega), (by first | exact y1_ | exact bpA_mono y1_ (by omega) | assumption), rfl, rfl⟩)) dX11_givesDays_16
theorem dX11_givesItem_0 : decode cX11_givesItem 0 = .ok (.aload_n 0, 1) := kd_42 (by decide +kernel)
theorem dX11_givesItem_1 : decode cX11_givesItem 1 = .ok (.iconst 4, 1) := kd_7 (by decide +kernel)
theorem dX11_givesItem_2 : decode cX11_givesItem 2 = .ok (.bipush 100, 2) := kd_16 (a := 100) (by decide +kernel)
theorem dX11_givesItem_4 : decode cX11_givesItem 4 = .ok (.bipush 97, 2) := kd_16 (a := 97) (by decide +kernel)
theorem dX11_givesItem_6 : decode cX11_givesItem 6 = .ok (.bipush 109, 2) := kd_16 (a := 109) (by decide +kernel)
theorem dX11_givesItem_8 : decode cX11_givesItem 8 = .ok (.bipush 112, 2) := kd_16 (a := 112) (by decide +kernel)
theorem dX11_givesItem_10 : decode cX11_givesItem 10 = .ok (.iconst 0, 1) := kd_3 (by decide +kernel)
theorem dX11_givesItem_11 : decode cX11_givesItem 11 = .ok (.iconst 0, 1) := kd_3 (by decide +kernel)
theorem gX11_givesItem_X11_spells : GoodIn wsX11_givesItem (wsV RX11 276 RX11 yX11_spells wsX11_spells) := gW_V (in_r20 (List.mem_of_getElem? (i := 2) rfl)) (in_r20 (List.mem_of_getElem? (i := 3) rfl)) (in_r20 (List.mem_of_getElem? (i := 4) rfl)) (in_r1 (List.mem_of_getElem? (i := 5) rfl)) (in_r20 (List.mem_of_getElem? (i := 5) rfl))
theorem dX11_givesItem_12 : decode cX11_givesItem 12 = .ok (.invokevirtual 276, 3) := kd_182 (a := 1) (b := 20) (by decide +kernel)
theorem dX11_givesItem_15 : decode cX11_givesItem 15 = .ok (.ifCond .eq 8, 3) := kd_153 (a := 0) (b := 8) (by decide +kernel)
theorem dX11_givesItem_23 : decode cX11_givesItem 23 = .ok (.aload_n 0, 1) := kd_42 (by decide +kernel)
theorem dX11_givesItem_24 : decode cX11_givesItem 24 = .ok (.iconst 5, 1) := kd_8 (by decide +kernel)
theorem dX11_givesItem_25 : decode cX11_givesItem 25 = .ok (.bipush 97, 2) := kd_16 (a := 97) (by decide +kernel)
theorem dX11_givesItem_27 : decode cX11_givesItem 27 = .ok (.bipush 112, 2) := kd_16 (a := 112) (by decide +kernel)
theorem dX11_givesItem_29 : decode cX11_givesItem 29 = .ok (.bipush 112, 2) := kd_16 (a := 112) (by decide +kernel)
theorem dX11_givesItem_31 : decode cX11_givesItem 31 = .ok (.bipush 108, 2) := kd_16 (a := 108) (by decide +kernel)
theorem dX11_givesItem_33 : decode cX11_givesItem 33 = .ok (.bipush 101, 2) := kd_16 (a := 101) (by decide +kernel)
theorem dX11_givesItem_35 : decode cX11_givesItem 35 = .ok (.iconst 0, 1) := kd_3 (by decide +kernel)
theorem dX11_givesItem_36 : decode cX11_givesItem 36 = .ok (.invokevirtual 276, 3) := kd_182 (a := 1) (b := 20) (by decide +kernel)
theorem dX11_givesItem_39 : decode cX11_givesItem 39 = .ok (.ifCond .eq 8, 3) := kd_153 (a := 0) (b := 8) (by decide +kernel)
theorem dX11_givesItem_47 : decode cX11_givesItem 47 = .ok (.aload_n 0, 1) := kd_42 (by decide +kernel)
theorem dX11_givesItem_48 : decode cX11_givesItem 48 = .ok (.iconst 5, 1) := kd_8 (by decide +kernel)
theorem dX11_givesItem_49 : decode cX11_givesItem 49 = .ok (.bipush 98, 2) := kd_16 (a := 98) (by decide +kernel)
theorem dX11_givesItem_51 : decode cX11_givesItem 51 = .ok (.bipush 105, 2) := kd_16 (a := 105) (by decide +kernel)
theorem dX11_givesItem_53 : decode cX11_givesItem 53 = .ok (.bipush 116, 2) := kd_16 (a := 116) (by decide +kernel)
theorem dX11_givesItem_55 : decode cX11_givesItem 55 = .ok (.bipush 101, 2) := kd_16 (a := 101) (by decide +kernel)
theorem dX11_givesItem_57 : decode cX11_givesItem 57 = .ok (.bipush 114, 2) := kd_16 (a := 114) (by decide +kernel)
theorem dX11_givesItem_59 : decode cX11_givesItem 59 = .ok (.iconst 0, 1) := kd_3 (by decide +kernel)
theorem dX11_givesItem_60 : decode cX11_givesItem 60 = .ok (.invokevirtual 276, 3) := kd_182 (a := 1) (b := 20) (by decide +kernel)
theorem dX11_givesItem_63 : decode cX11_givesItem 63 = .ok (.ifCond .eq 8, 3) := kd_153 (a := 0) (b := 8) (by decide +kernel)
theorem dX11_givesItem_71 : decode cX11_givesItem 71 = .ok (.aload_n 0, 1) := kd_42 (by decide +kernel)
theorem dX11_givesItem_72 : decode cX11_givesItem 72 = .ok (.iconst 4, 1) := kd_7 (by decide +kernel)
theorem dX11_givesItem_73 : decode cX11_givesItem 73 = .ok (.bipush 98, 2) := kd_16 (a := 98) (by decide +kernel)
theorem dX11_givesItem_75 : decode cX11_givesItem 75 = .ok (.bipush 105, 2) := kd_16 (a := 105) (by decide +kernel)
theorem dX11_givesItem_77 : decode cX11_givesItem 77 = .ok (.bipush 116, 2) := kd_16 (a := 116) (by decide +kernel)
theorem dX11_givesItem_79 : decode cX11_givesItem 79 = .ok (.bipush 101, 2) := kd_16 (a := 101) (by decide +kernel)
theorem dX11_givesItem_81 : decode cX11_givesItem 81 = .ok (.iconst 0, 1) := kd_3 (by decide +kernel)
theorem dX11_givesItem_82 : decode cX11_givesItem 82 = .ok (.iconst 0, 1) := kd_3 (by decide +kernel)
theorem dX11_givesItem_83 : decode cX11_givesItem 83 = .ok (.invokevirtual 276, 3) := kd_182 (a := 1) (b := 20) (by decide +kernel)
theorem dX11_givesItem_86 : decode cX11_givesItem 86 = .ok (.ifCond .eq 8, 3) := kd_153 (a := 0) (b := 8) (by decide +kernel)
theorem dX11_givesItem_94 : decode cX11_givesItem 94 = .ok (.aload_n 0, 1) := kd_42 (by decide +kernel)
theorem dX11_givesItem_95 : decode cX11_givesItem 95 = .ok (.iconst 3, 1) := kd_6 (by decide +kernel)
theorem dX11_givesItem_96 : decode cX11_givesItem 96 = .ok (.bipush 100, 2) := kd_16 (a := 100) (by decide +kernel)
theorem dX11_givesItem_98 : decode cX11_givesItem 98 = .ok (.bipush 105, 2) := kd_16 (a := 105) (by decide +kernel)
theorem dX11_givesItem_100 : decode cX11_givesItem 100 = .ok (.bipush 112, 2) := kd_16 (a := 112) (by decide +kernel)
theorem dX11_givesItem_102 : decode cX11_givesItem 102 = .ok (.iconst 0, 1) := kd_3 (by decide +kernel)
theorem dX11_givesItem_103 : decode cX11_givesItem 103 = .ok (.iconst 0, 1) := kd_3 (by decide +kernel)
theorem dX11_givesItem_104 : decode cX11_givesItem 104 = .ok (.iconst 0, 1) := kd_3 (by decide +kernel)
theorem dX11_givesItem_105 : decode cX11_givesItem 105 = .ok (.invokevirtual 276, 3) := kd_182 (a := 1) (b := 20) (by decide +kernel)
theorem dX11_givesItem_108 : decode cX11_givesItem 108 = .ok (.ifCond .eq 8, 3) := kd_153 (a := 0) (b := 8) (by decide +kernel)
theorem dX11_givesItem_116 : decode cX11_givesItem 116 = .ok (.aload_n 0, 1) := kd_42 (by decide +kernel)
theorem dX11_givesItem_117 : decode cX11_givesItem 117 = .ok (.iconst 4, 1) := kd_7 (by decide +kernel)
theorem dX11_givesItem_118 : decode cX11_givesItem 118 = .ok (.bipush 100, 2) := kd_16 (a := 100) (by decide +kernel)
theorem dX11_givesItem_120 : decode cX11_givesItem 120 = .ok (.bipush 97, 2) := kd_16 (a := 97) (by decide +kernel)
theorem dX11_givesItem_122 : decode cX11_givesItem 122 = .ok (.bipush 121, 2) := kd_16 (a := 121) (by decide +kernel)
theorem dX11_givesItem_124 : decode cX11_givesItem 124 = .ok (.bipush 115, 2) := kd_16 (a := 115) (by decide +kernel)
theorem dX11_givesItem_126 : decode cX11_givesItem 126 = .ok (.iconst 0, 1) := kd_3 (by decide +kernel)
theorem dX11_givesItem_127 : decode cX11_givesItem 127 = .ok (.iconst 0, 1) := kd_3 (by decide +kernel)
theorem dX11_givesItem_128 : decode cX11_givesItem 128 = .ok (.invokevirtual 276, 3) := kd_182 (a := 1) (b := 20) (by decide +kernel)
theorem dX11_givesItem_131 : decode cX11_givesItem 131 = .ok (.ifCond .eq 14, 3) := kd_153 (a := 0) (b := 14) (by decide +kernel)
theorem dX11_givesItem_145 : decode cX11_givesItem 145 = .ok (.iconst 0, 1) := kd_3 (by decide +kernel)
theorem dX11_givesItem_146 : decode cX11_givesItem 146 = .ok (.ireturn, 1) := kd_172 (by decide +kernel)
theorem dX11_givesItem_134 : decode cX11_givesItem 134 = .ok (.aload_n 0, 1) := kd_42 (by decide +kernel)
theorem gX11_givesItem_X11_givesDays : GoodIn wsX11_givesItem (wsV RX11 295 RX11 yX11_givesDays wsX11_givesDays) := gW_V (in_r22 (List.mem_of_getElem? (i := 18) rfl)) (in_r22 (List.mem_of_getElem? (i := 19) rfl)) (in_r22 (List.mem_of_getElem? (i := 20) rfl)) (in_r1 (List.mem_of_getElem? (i := 5) rfl)) (in_r22 (List.mem_of_getElem? (i := 21) rfl))
theorem dX11_givesItem_135 : decode cX11_givesItem 135 = .ok (.invokevirtual 295, 3) := kd_182 (a := 1) (b := 39) (by decide +kernel)
theorem dX11_givesItem_138 : decode cX11_givesItem 138 = .ok (.ifCond .eq 7, 3) := kd_153 (a := 0) (b := 7) (by decide +kernel)
theorem dX11_givesItem_141 : decode cX11_givesItem 141 = .ok (.iconst 1, 1) := kd_4 (by decide +kernel)
theorem dX11_givesItem_142 : decode cX11_givesItem 142 = .ok (.goto 4, 3) := kd_167 (a := 0) (b := 4) (by decide +kernel)
theorem dX11_givesItem_111 : decode cX11_givesItem 111 = .ok (.aload_n 0, 1) := kd_42 (by decide +kernel)
theorem gX11_givesItem_X11_givesDip : GoodIn wsX11_givesItem (wsV RX11 292 RX11 yX11_givesDip wsX11_givesDip) := gW_V (in_r22 (List.mem_of_getElem? (i := 11) rfl)) (in_r22 (List.mem_of_getElem? (i := 12) rfl)) (in_r22 (List.mem_of_getElem? (i := 13) rfl)) (in_r1 (List.mem_of_getElem? (i := 5) rfl)) (in_r22 (List.mem_of_getElem? (i := 14) rfl))
theorem dX11_givesItem_112 : decode cX11_givesItem 112 = .ok (.invokevirtual 292, 3) := kd_182 (a := 1) (b := 36) (by decide +kernel)
theorem dX11_givesItem_115 : decode cX11_givesItem 115 = .ok (.ireturn, 1) := kd_172 (by decide +kernel)
theorem dX11_givesItem_89 : decode cX11_givesItem 89 = .ok (.aload_n 0, 1) := kd_42 (by decide +kernel)
theorem gX11_givesItem_X11_givesBite : GoodIn wsX11_givesItem (wsV RX11 289 RX11 yX11_givesBite wsX11_givesBite) := gW_V (in_r21 (List.mem_of_getElem? (i := 6) rfl)) (in_r21 (List.mem_of_getElem? (i := 7) rfl)) (in_r21 (List.mem_of_getElem? (i := 8) rfl)) (in_r1 (List.mem_of_getElem? (i := 5) rfl)) (in_r21 (List.mem_of_getElem? (i := 9) rfl))
theorem dX11_givesItem_90 : decode cX11_givesItem 90 = .ok (.invokevirtual 289, 3) := kd_182 (a := 1) (b := 33) (by decide +kernel)
theorem dX11_givesItem_93 : decode cX11_givesItem 93 = .ok (.ireturn, 1) := kd_172 (by decide +kernel)
theorem dX11_givesItem_66 : decode cX11_givesItem 66 = .ok (.aload_n 0, 1) := kd_42 (by decide +kernel)
theorem gX11_givesItem_X11_givesBiter : GoodIn wsX11_givesItem (wsV RX11 286 RX11 yX11_givesBiter wsX11_givesBiter) := gW_V (in_r21 (List.mem_of_getElem? (i := 2) rfl)) (in_r21 (List.mem_of_getElem? (i := 3) rfl)) (in_r21 (List.mem_of_getElem? (i := 4) rfl)) (in_r1 (List.mem_of_getElem? (i := 5) rfl)) (in_r21 (List.mem_of_getElem? (i := 5) rfl))
theorem dX11_givesItem_67 : decode cX11_givesItem 67 = .ok (.invokevirtual 286, 3) := kd_182 (a := 1) (b := 30) (by decide +kernel)
theorem dX11_givesItem_70 : decode cX11_givesItem 70 = .ok (.ireturn, 1) := kd_172 (by decide +kernel)
theorem dX11_givesItem_42 : decode cX11_givesItem 42 = .ok (.aload_n 0, 1) := kd_42 (by decide +kernel)
theorem gX11_givesItem_X11_givesApple : GoodIn wsX11_givesItem (wsV RX11 283 RX11 yX11_givesApple wsX11_givesApple) := gW_V (in_r20 (List.mem_of_getElem? (i := 22) rfl)) (in_r20 (List.mem_of_getElem? (i := 23) rfl)) (in_r21 (List.mem_of_getElem? (i := 0) rfl)) (in_r1 (List.mem_of_getElem? (i := 5) rfl)) (in_r21 (List.mem_of_getElem? (i := 1) rfl))
theorem dX11_givesItem_43 : decode cX11_givesItem 43 = .ok (.invokevirtual 283, 3) := kd_182 (a := 1) (b := 27) (by decide +kernel)
theorem dX11_givesItem_46 : decode cX11_givesItem 46 = .ok (.ireturn, 1) := kd_172 (by decide +kernel)
theorem dX11_givesItem_18 : decode cX11_givesItem 18 = .ok (.aload_n 0, 1) := kd_42 (by decide +kernel)
theorem gX11_givesItem_X11_givesDamp : GoodIn wsX11_givesItem (wsV RX11 280 RX11 yX11_givesDamp wsX11_givesDamp) := gW_V (in_r20 (List.mem_of_getElem? (i := 14) rfl)) (in_r20 (List.mem_of_getElem? (i := 15) rfl)) (in_r20 (List.mem_of_getElem? (i := 16) rfl)) (in_r1 (List.mem_of_getElem? (i := 5) rfl)) (in_r20 (List.mem_of_getElem? (i := 17) rfl))
theorem dX11_givesItem_19 : decode cX11_givesItem 19 = .ok (.invokevirtual 280, 3) := kd_182 (a := 1) (b := 24) (by decide +kernel)
theorem dX11_givesItem_22 : decode cX11_givesItem 22 = .ok (.ireturn, 1) := kd_172 (by decide +kernel)
set_option maxHeartbeats 8000000 in
set_option maxRecDepth 100000 in
theorem c_X11_givesItem (l : Launch) (G : gG) (m0 : Nat) (m_all : Nat) (m_kept : Nat) (m_isKept : Nat) (m_refused : Nat) (m_above : Int) (m_below : Int) (m_hand : Nat) (m_fewest : Nat) (m_whoBites : Nat) (m_leaves : Nat) (m_bestFeast : Nat) (m_tells : Nat) (m_hardOn : Nat) (m_bytes : Nat) (m_bytesLong : Int) (m_tokenAt : Int) (m_tokenLong : Int) (m_token : Int) (m_value : Int) (m_anew : Nat) (m_values : Nat) (my : Nat → Int) (mv : Nat → Int) (mn : Nat → Int) (K0 : Int) (uS : Nat → Int) (uA : Nat → Int) (uV : Nat → Int) (uE : Nat → Int) (n0 : Int) (j0 : Int) (y0_ : bd 0 127 my) (y1_ : bp (plA K0) mn) (hL : 0 ≤ m_bytesLong ∧ m_bytesLong ≤ 150) (i0_ : 0 ≤ m_tokenAt ∧ 0 ≤ m_tokenLong ∧ m_tokenAt + m_tokenLong ≤ m_bytesLong) (i1_ : 0 ≤ m_token ∧ m_token ≤ 4) (i2_ : m_token = 0 ∨ 1 ≤ m_tokenLong) (i3_ : -2000 ≤ m_value ∧ m_value ≤ 2000) (hch : chF my m_bytesLong uS uA uV n0 uE) (hra : ra my uS uA uV uE j0 m_tokenAt m_tokenLong m_token m_value) (hj : 0 ≤ j0 ∧ j0 < n0) (hK0 : 1000 ≤ K0 ∧ K0 ≤ 1900000) (sz : Nat) : gI G l yX11_givesItem wsX11_givesItem ({ frames := 6, cells := 0, slots := 0, locals := 133 } : Room) [.ref m0] [(m0, .inr (10, [.ref m_all, .ref m_kept, .ref m_isKept, .ref m_refused, .long (lI m_above), .long (lI m_below), .ref m_hand, .ref m_fewest, .ref m_whoBites, .ref m_leaves, .ref m_bestFeast, .ref m_tells, .ref m_hardOn, .ref m_bytes, .int (iI m_bytesLong), .int (iI m_tokenAt), .int (iI m_tokenLong), .int (iI m_token), .int (iI m_value), .ref m_anew, .ref m_values])), (m_bytes, .inl (G.2 0, 150, .inl (cI my))), (m_values, .inl (G.2 0, 3, .inl (cI mv))), (m_anew, .inl (G.2 0, 135, .inl (cI mn)))] sz (fun (r : Int32) (u : va_W) => (∃ NtA : Int, ∃ NtL : Int, ∃ Ntk : Int, ∃ Nva : Int, ∃ N_v : Nat → Int, ∃ N_n : Nat → Int, ∃ jN : Int, (MOk (cIt uS uV mn j0) jN N_n) ∧ (0 ≤ NtA ∧ 0 ≤ NtL ∧ NtA + NtL ≤ m_bytesLong) ∧ (0 ≤ Ntk ∧ Ntk ≤ 4) ∧ (Ntk = 0 ∨ 1 ≤ NtL) ∧ (-2000 ≤ Nva ∧ Nva ≤ 2000) ∧ (m_tokenAt ≤ NtA) ∧ (ra my uS uA uV uE jN NtA NtL Ntk Nva) ∧ (j0 < jN ∧ jN < n0) ∧ (bp (plA (K0 + 99)) N_n) ∧ r = (iI 1) ∧ u = [(m0, .inr (10, [.ref m_all, .ref m_kept, .ref m_isKept, .ref m_refused, .long (lI m_above), .long (lI m_below), .ref m_hand, .ref m_fewest, .ref m_whoBites, .ref m_leaves, .ref m_bestFeast, .ref m_tells, .ref m_hardOn, .ref m_bytes, .int (iI m_bytesLong), .int (iI NtA), .int (iI NtL), .int (iI Ntk), .int (iI Nva), .ref m_anew, .ref m_values])), (m_bytes, .inl (G.2 0, 150, .inl (cI my))), (m_values, .inl (G.2 0, 3, .inl (cI N_v))), (m_anew, .inl (G.2 0, 135, .inl (cI N_n)))]) ∨ (∃ NtA : Int, ∃ NtL : Int, ∃ Ntk : Int, ∃ Nva : Int, ∃ N_v : Nat → Int, ∃ N_n : Nat → Int, ∃ jN : Int, (INo uS (cIt uS uV mn j0) jN) ∧ (0 ≤ NtA ∧ 0 ≤ NtL ∧ NtA + NtL ≤ m_bytesLong) ∧ (0 ≤ Ntk ∧ Ntk ≤ 4) ∧ (Ntk = 0 ∨ 1 ≤ NtL) ∧ (-2000 ≤ Nva ∧ Nva ≤ 2000) ∧ (m_tokenAt ≤ NtA) ∧ (ra my uS uA uV uE jN NtA NtL Ntk Nva) ∧ (0 ≤ jN ∧ jN < n0) ∧ (bp (plA (K0 + 99)) N_n) ∧ r = (iI 0) ∧ u = [(m0, .inr (10, [.ref m_all, .ref m_kept, .ref m_isKept, .ref m_refused, .long (lI m_above), .long (lI m_below), .ref m_hand, .ref m_fewest, .ref m_whoBites, .ref m_leaves, .ref m_bestFeast, .ref m_tells, .ref m_hardOn, .ref m_bytes, .int (iI m_bytesLong), .int (iI NtA), .int (iI NtL), .int (iI Ntk), .int (iI Nva), .ref m_anew, .ref m_values])), (m_bytes, .inl (G.2 0, 150, .inl (cI my))), (m_values, .inl (G.2 0, 3, .inl (cI N_v))), (m_anew, .inl (G.2 0, 135, .inl (cI N_n)))])) := by
  refine Met.ofW (cc := cX11_givesItem) (maxL := 1) (ret := (some .boolean)) (by decide) rfl ?_
  intro p e s m args below meth c s₁ B hml hv
  obtain ⟨rfl, hsz, hP, hK, hD0, hN, hZ⟩ := hv
  have hx := B.exec
  have hb := B.bytes
  have hr := B.returns
  have hts := atoms_spec (ws := wsX11_givesItem) B.pre
  have hown : s.vm.findClass RX11 = some m.cls := findClass_of_methodNamed B.named
  have hlocks := B.notSynchronized
  subst hsz
  have hD := hD0.self (sz := s.heap.size)
  generalize hAe : va_A [(m0, .inr (10, [.ref m_all, .ref m_kept, .ref m_isKept, .ref m_refused, .long (lI m_above), .long (lI m_below), .ref m_hand, .ref m_fewest, .ref m_whoBites, .ref m_leaves, .ref m_bestFeast, .ref m_tells, .ref m_hardOn, .ref m_bytes, .int (iI m_bytesLong), .int (iI m_tokenAt), .int (iI m_tokenLong), .int (iI m_token), .int (iI m_value), .ref m_anew, .ref m_values])), (m_bytes, .inl (G.2 0, 150, .inl (cI my))), (m_values, .inl (G.2 0, 3, .inl (cI mv))), (m_anew, .inl (G.2 0, 135, .inl (cI mn)))] s.heap.size = A at hD hZ ⊢
  have hA : ∀ q : Nat, s.heap.size ≤ q → A q := fun q h => by rw [← hAe]; exact Or.inr h
  have hS : va_S A s.heap s.heap [] := va_S.rf
  have hP : va_P G.1 vwCl [(m0, .inr (10, [.ref m_all, .ref m_kept, .ref m_isKept, .ref m_refused, .long (lI m_above), .long (lI m_below), .ref m_hand, .ref m_fewest, .ref m_whoBites, .ref m_leaves, .ref m_bestFeast, .ref m_tells, .ref m_hardOn, .ref m_bytes, .int (iI m_bytesLong), .int (iI m_tokenAt), .int (iI m_tokenLong), .int (iI m_token), .int (iI m_value), .ref m_anew, .ref m_values])), (m_bytes, .inl (G.2 0, 150, .inl (cI my))), (m_values, .inl (G.2 0, 3, .inl (cI mv))), (m_anew, .inl (G.2 0, 135, .inl (cI mn)))] s.heap := hP
  have hl := lv_entry ([.ref m0]) (n := 1) (Nat.le_of_ble_eq_true rfl)
  rw [lg_entry_eq]
  generalize (lg_sl ([.ref m0]) ++ List.replicate (1 - (lg_sl ([.ref m0])).length) Slot.unset).toArray = ls at hl ⊢
  have hl : lv_has ls 1 [(0, .ref m0)] := hl
  refine lv_aload_n hx hb dX11_givesItem_0 rfl (lv_at hl 0 rfl) ?_
  refine lv_iconst (v := iI 4) hx hb dX11_givesItem_1 rfl ?_
  refine lv_bipush (v := iI 100) hx hb dX11_givesItem_2 (by decide) ?_
  refine lv_bipush (v := iI 97) hx hb dX11_givesItem_4 (by decide) ?_
  refine lv_bipush (v := iI 109) hx hb dX11_givesItem_6 (by decide) ?_
  refine lv_bipush (v := iI 112) hx hb dX11_givesItem_8 (by decide) ?_
  refine lv_iconst (v := iI 0) hx hb dX11_givesItem_10 rfl ?_
  refine lv_iconst (v := iI 0) hx hb dX11_givesItem_11 rfl ?_
  refine g_calli (wr := [(m_values, .inl (G.2 0, 3, .inl (cI mv))), (m_anew, .inl (G.2 0, 135, .inl (cI mn)))]) (va_runV (As := [.int (iI 4), .int (iI 100), .int (iI 97), .int (iI 109), .int (iI 112), .int (iI 0), .int (iI 0)]) (rest := []) ⟨hx, hb, hml, hown, hts⟩ (c_X11_spells l G (m0) (m_all) (m_kept) (m_isKept) (m_refused) (m_above) (m_below) (m_hand) (m_fewest) (m_whoBites) (m_leaves) (m_bestFeast) (m_tells) (m_hardOn) (m_bytes) (m_bytesLong) (m_tokenAt) (m_tokenLong) (m_token) (m_value) (m_anew) (m_values) (my) (uS) (uA) (uV) (uE) (n0) (j0) (1) (4) (100) (97) (109) (112) (0) (0) (by first | exact y0_ | exact bd_mono y0_ (by omega) (by omega) | assumption) (by first | exact hL | assumption | omega) (by first | exact i0_ | assumption | omega) (by first | exact i1_ | assumption | omega) (by first | exact i2_ | assumption | omega) (by first | exact i3_ | assumption | omega) (by first | exact hch | assumption | omega) (by first | exact hra | assumption | omega) (by first | exact hj | assumption | omega) (by first | assumption | omega) (by unfold cs; decide +kernel) (by first | assumption | omega) (by first | assumption | omega) (by first | assumption | omega) (by first | assumption | omega) (by first | assumption | omega) (by first | assumption | omega) (by first | assumption | omega) _) (cwV 7 hts gX11_givesItem_X11_spells rfl rfl rfl (by decide +kernel) ⟨Nat.le_of_ble_eq_true rfl, Nat.le_of_ble_eq_true rfl⟩) (g_preV m0 [.int (iI 4), .int (iI 100), .int (iI 97), .int (iI 109), .int (iI 112), .int (iI 0), .int (iI 0)] hP hD hK hN hS hA hZ [0, 1] rfl rfl 0 (ci := 10) rfl rfl) rfl rfl hl.1 rfl (lv_room (Nat.le_of_ble_eq_true rfl)) dX11_givesItem_12 ⟨Nat.le_of_ble_eq_true rfl, Nat.le_of_ble_eq_true rfl⟩) hP hD hS hA [0, 1] [2, 3] rfl rfl rfl (by decide) (fun r_1 u H locs hw hP hD hS => ?_)
  refine ea_1_4 hw (fun rr_2 k_3 k_4 e8_0 e8_1 => ?_)
  subst e8_0
  subst e8_1
  clear hw
  have hPD : PD G A H [(m_values, .inl (G.2 0, 3, .inl (cI mv))), (m_anew, .inl (G.2 0, 135, .inl (cI mn))), (m0, .inr (10, [.ref m_all, .ref m_kept, .ref m_isKept, .ref m_refused, .long (lI m_above), .long (lI m_below), .ref m_hand, .ref m_fewest, .ref m_whoBites, .ref m_leaves, .ref m_bestFeast, .ref m_tells, .ref m_hardOn, .ref m_bytes, .int (iI m_bytesLong), .int (iI m_tokenAt), .int (iI m_tokenLong), .int (iI m_token), .int (iI m_value), .ref m_anew, .ref m_values])), (m_bytes, .inl (G.2 0, 150, .inl (cI my)))] := ⟨hP, hD⟩
  have hP := hPD.1
  have hD := hPD.2
  clear hPD
  refine lv_if_eq (tgt := 23) hx hb dX11_givesItem_15 (by decide) (fun c_5 => ?_) (fun c_5 => ?_)
  · have c_5 := (iI_eq (a := rr_2) (b := 0) (by omega) (by first | decide | omega)).mp c_5
    refine lv_aload_n hx hb dX11_givesItem_23 rfl (lv_at hl 0 rfl) ?_
    refine lv_iconst (v := iI 5) hx hb dX11_givesItem_24 rfl ?_
    refine lv_bipush (v := iI 97) hx hb dX11_givesItem_25 (by decide) ?_
    refine lv_bipush (v := iI 112) hx hb dX11_givesItem_27 (by decide) ?_
    refine lv_bipush (v := iI 112) hx hb dX11_givesItem_29 (by decide) ?_
    refine lv_bipush (v := iI 108) hx hb dX11_givesItem_31 (by decide) ?_
    refine lv_bipush (v := iI 101) hx hb dX11_givesItem_33 (by decide) ?_
    refine lv_iconst (v := iI 0) hx hb dX11_givesItem_35 rfl ?_
    refine g_calli (wr := [(m_values, .inl (G.2 0, 3, .inl (cI mv))), (m_anew, .inl (G.2 0, 135, .inl (cI mn)))]) (va_runV (As := [.int (iI 5), .int (iI 97), .int (iI 112), .int (iI 112), .int (iI 108), .int (iI 101), .int (iI 0)]) (rest := []) ⟨hx, hb, hml, hown, hts⟩ (c_X11_spells l G (m0) (m_all) (m_kept) (m_isKept) (m_refused) (m_above) (m_below) (m_hand) (m_fewest) (m_whoBites) (m_leaves) (m_bestFeast) (m_tells) (m_hardOn) (m_bytes) (m_bytesLong) (m_tokenAt) (m_tokenLong) (m_token) (m_value) (m_anew) (m_values) (my) (uS) (uA) (uV) (uE) (n0) (j0) (2) (5) (97) (112) (112) (108) (101) (0) (by first | exact y0_ | exact bd_mono y0_ (by omega) (by omega) | assumption) (by first | exact hL | assumption | omega) (by first | exact i0_ | assumption | omega) (by first | exact i1_ | assumption | omega) (by first | exact i2_ | assumption | omega) (by first | exact i3_ | assumption | omega) (by first | exact hch | assumption | omega) (by first | exact hra | assumption | omega) (by first | exact hj | assumption | omega) (by first | assumption | omega) (by unfold cs; decide +kernel) (by first | assumption | omega) (by first | assumption | omega) (by first | assumption | omega) (by first | assumption | omega) (by first | assumption | omega) (by first | assumption | omega) (by first | assumption | omega) _) (cwV 7 hts gX11_givesItem_X11_spells rfl rfl rfl (by decide +kernel) ⟨Nat.le_of_ble_eq_true rfl, Nat.le_of_ble_eq_true rfl⟩) (g_preV m0 [.int (iI 5), .int (iI 97), .int (iI 112), .int (iI 112), .int (iI 108), .int (iI 101), .int (iI 0)] hP hD hK hN hS hA hZ [2, 3] rfl rfl 2 (ci := 10) rfl rfl) rfl rfl hl.1 rfl (lv_room (Nat.le_of_ble_eq_true rfl)) dX11_givesItem_36 ⟨Nat.le_of_ble_eq_true rfl, Nat.le_of_ble_eq_true rfl⟩) hP hD hS hA [2, 3] [0, 1] rfl rfl rfl (by decide) (fun r_6 u H locs hw hP hD hS => ?_)
    refine ea_1_4 hw (fun rr_7 k_8 k_9 e8_0 e8_1 => ?_)
    subst e8_0
    subst e8_1
    clear hw
    have hPD : PD G A H [(m_values, .inl (G.2 0, 3, .inl (cI mv))), (m_anew, .inl (G.2 0, 135, .inl (cI mn))), (m0, .inr (10, [.ref m_all, .ref m_kept, .ref m_isKept, .ref m_refused, .long (lI m_above), .long (lI m_below), .ref m_hand, .ref m_fewest, .ref m_whoBites, .ref m_leaves, .ref m_bestFeast, .ref m_tells, .ref m_hardOn, .ref m_bytes, .int (iI m_bytesLong), .int (iI m_tokenAt), .int (iI m_tokenLong), .int (iI m_token), .int (iI m_value), .ref m_anew, .ref m_values])), (m_bytes, .inl (G.2 0, 150, .inl (cI my)))] := ⟨hP, hD⟩
    have hP := hPD.1
    have hD := hPD.2
    clear hPD
    refine lv_if_eq (tgt := 47) hx hb dX11_givesItem_39 (by decide) (fun c_10 => ?_) (fun c_10 => ?_)
    · have c_10 := (iI_eq (a := rr_7) (b := 0) (by omega) (by first | decide | omega)).mp c_10
      refine lv_aload_n hx hb dX11_givesItem_47 rfl (lv_at hl 0 rfl) ?_
      refine lv_iconst (v := iI 5) hx hb dX11_givesItem_48 rfl ?_
      refine lv_bipush (v := iI 98) hx hb dX11_givesItem_49 (by decide) ?_
      refine lv_bipush (v := iI 105) hx hb dX11_givesItem_51 (by decide) ?_
      refine lv_bipush (v := iI 116) hx hb dX11_givesItem_53 (by decide) ?_
      refine lv_bipush (v := iI 101) hx hb dX11_givesItem_55 (by decide) ?_
      refine lv_bipush (v := iI 114) hx hb dX11_givesItem_57 (by decide) ?_
      refine lv_iconst (v := iI 0) hx hb dX11_givesItem_59 rfl ?_
      refine g_calli (wr := [(m_values, .inl (G.2 0, 3, .inl (cI mv))), (m_anew, .inl (G.2 0, 135, .inl (cI mn)))]) (va_runV (As := [.int (iI 5), .int (iI 98), .int (iI 105), .int (iI 116), .int (iI 101), .int (iI 114), .int (iI 0)]) (rest := []) ⟨hx, hb, hml, hown, hts⟩ (c_X11_spells l G (m0) (m_all) (m_kept) (m_isKept) (m_refused) (m_above) (m_below) (m_hand) (m_fewest) (m_whoBites) (m_leaves) (m_bestFeast) (m_tells) (m_hardOn) (m_bytes) (m_bytesLong) (m_tokenAt) (m_tokenLong) (m_token) (m_value) (m_anew) (m_values) (my) (uS) (uA) (uV) (uE) (n0) (j0) (3) (5) (98) (105) (116) (101) (114) (0) (by first | exact y0_ | exact bd_mono y0_ (by omega) (by omega) | assumption) (by first | exact hL | assumption | omega) (by first | exact i0_ | assumption | omega) (by first | exact i1_ | assumption | omega) (by first | exact i2_ | assumption | omega) (by first | exact i3_ | assumption | omega) (by first | exact hch | assumption | omega) (by first | exact hra | assumption | omega) (by first | exact hj | assumption | omega) (by first | assumption | omega) (by unfold cs; decide +kernel) (by first | assumption | omega) (by first | assumption | omega) (by first | assumption | omega) (by first | assumption | omega) (by first | assumption | omega) (by first | assumption | omega) (by first | assumption | omega) _) (cwV 7 hts gX11_givesItem_X11_spells rfl rfl rfl (by decide +kernel) ⟨Nat.le_of_ble_eq_true rfl, Nat.le_of_ble_eq_true rfl⟩) (g_preV m0 [.int (iI 5), .int (iI 98), .int (iI 105), .int (iI 116), .int (iI 101), .int (iI 114), .int (iI 0)] hP hD hK hN hS hA hZ [2, 3] rfl rfl 2 (ci := 10) rfl rfl) rfl rfl hl.1 rfl (lv_room (Nat.le_of_ble_eq_true rfl)) dX11_givesItem_60 ⟨Nat.le_of_ble_eq_true rfl, Nat.le_of_ble_eq_true rfl⟩) hP hD hS hA [2, 3] [0, 1] rfl rfl rfl (by decide) (fun r_11 u H locs hw hP hD hS => ?_)
      refine ea_1_4 hw (fun rr_12 k_13 k_14 e8_0 e8_1 => ?_)
      subst e8_0
      subst e8_1
      clear hw
      have hPD : PD G A H [(m_values, .inl (G.2 0, 3, .inl (cI mv))), (m_anew, .inl (G.2 0, 135, .inl (cI mn))), (m0, .inr (10, [.ref m_all, .ref m_kept, .ref m_isKept, .ref m_refused, .long (lI m_above), .long (lI m_below), .ref m_hand, .ref m_fewest, .ref m_whoBites, .ref m_leaves, .ref m_bestFeast, .ref m_tells, .ref m_hardOn, .ref m_bytes, .int (iI m_bytesLong), .int (iI m_tokenAt), .int (iI m_tokenLong), .int (iI m_token), .int (iI m_value), .ref m_anew, .ref m_values])), (m_bytes, .inl (G.2 0, 150, .inl (cI my)))] := ⟨hP, hD⟩
      have hP := hPD.1
      have hD := hPD.2
      clear hPD
      refine lv_if_eq (tgt := 71) hx hb dX11_givesItem_63 (by decide) (fun c_15 => ?_) (fun c_15 => ?_)
      · have c_15 := (iI_eq (a := rr_12) (b := 0) (by omega) (by first | decide | omega)).mp c_15
        refine lv_aload_n hx hb dX11_givesItem_71 rfl (lv_at hl 0 rfl) ?_
        refine lv_iconst (v := iI 4) hx hb dX11_givesItem_72 rfl ?_
        refine lv_bipush (v := iI 98) hx hb dX11_givesItem_73 (by decide) ?_
        refine lv_bipush (v := iI 105) hx hb dX11_givesItem_75 (by decide) ?_
        refine lv_bipush (v := iI 116) hx hb dX11_givesItem_77 (by decide) ?_
        refine lv_bipush (v := iI 101) hx hb dX11_givesItem_79 (by decide) ?_
        refine lv_iconst (v := iI 0) hx hb dX11_givesItem_81 rfl ?_
        refine lv_iconst (v := iI 0) hx hb dX11_givesItem_82 rfl ?_
        refine g_calli (wr := [(m_values, .inl (G.2 0, 3, .inl (cI mv))), (m_anew, .inl (G.2 0, 135, .inl (cI mn)))]) (va_runV (As := [.int (iI 4), .int (iI 98), .int (iI 105), .int (iI 116), .int (iI 101), .int (iI 0), .int (iI 0)]) (rest := []) ⟨hx, hb, hml, hown, hts⟩ (c_X11_spells l G (m0) (m_all) (m_kept) (m_isKept) (m_refused) (m_above) (m_below) (m_hand) (m_fewest) (m_whoBites) (m_leaves) (m_bestFeast) (m_tells) (m_hardOn) (m_bytes) (m_bytesLong) (m_tokenAt) (m_tokenLong) (m_token) (m_value) (m_anew) (m_values) (my) (uS) (uA) (uV) (uE) (n0) (j0) (4) (4) (98) (105) (116) (101) (0) (0) (by first | exact y0_ | exact bd_mono y0_ (by omega) (by omega) | assumption) (by first | exact hL | assumption | omega) (by first | exact i0_ | assumption | omega) (by first | exact i1_ | assumption | omega) (by first | exact i2_ | assumption | omega) (by first | exact i3_ | assumption | omega) (by first | exact hch | assumption | omega) (by first | exact hra | assumption | omega) (by first | exact hj | assumption | omega) (by first | assumption | omega) (by unfold cs; decide +kernel) (by first | assumption | omega) (by first | assumption | omega) (by first | assumption | omega) (by first | assumption | omega) (by first | assumption | omega) (by first | assumption | omega) (by first | assumption | omega) _) (cwV 7 hts gX11_givesItem_X11_spells rfl rfl rfl (by decide +kernel) ⟨Nat.le_of_ble_eq_true rfl, Nat.le_of_ble_eq_true rfl⟩) (g_preV m0 [.int (iI 4), .int (iI 98), .int (iI 105), .int (iI 116), .int (iI 101), .int (iI 0), .int (iI 0)] hP hD hK hN hS hA hZ [2, 3] rfl rfl 2 (ci := 10) rfl rfl) rfl rfl hl.1 rfl (lv_room (Nat.le_of_ble_eq_true rfl)) dX11_givesItem_83 ⟨Nat.le_of_ble_eq_true rfl, Nat.le_of_ble_eq_true rfl⟩) hP hD hS hA [2, 3] [0, 1] rfl rfl rfl (by decide) (fun r_16 u H locs hw hP hD hS => ?_)
        refine ea_1_4 hw (fun rr_17 k_18 k_19 e8_0 e8_1 => ?_)
        subst e8_0
        subst e8_1
        clear hw
        have hPD : PD G A H [(m_values, .inl (G.2 0, 3, .inl (cI mv))), (m_anew, .inl (G.2 0, 135, .inl (cI mn))), (m0, .inr (10, [.ref m_all, .ref m_kept, .ref m_isKept, .ref m_refused, .long (lI m_above), .long (lI m_below), .ref m_hand, .ref m_fewest, .ref m_whoBites, .ref m_leaves, .ref m_bestFeast, .ref m_tells, .ref m_hardOn, .ref m_bytes, .int (iI m_bytesLong), .int (iI m_tokenAt), .int (iI m_tokenLong), .int (iI m_token), .int (iI m_value), .ref m_anew, .ref m_values])), (m_bytes, .inl (G.2 0, 150, .inl (cI my)))] := ⟨hP, hD⟩
        have hP := hPD.1
        have hD := hPD.2
        clear hPD
        refine lv_if_eq (tgt := 94) hx hb dX11_givesItem_86 (by decide) (fun c_20 => ?_) (fun c_20 => ?_)
        · have c_20 := (iI_eq (a := rr_17) (b := 0) (by omega) (by first | decide | omega)).mp c_20
          refine lv_aload_n hx hb dX11_givesItem_94 rfl (lv_at hl 0 rfl) ?_
          refine lv_iconst (v := iI 3) hx hb dX11_givesItem_95 rfl ?_
          refine lv_bipush (v := iI 100) hx hb dX11_givesItem_96 (by decide) ?_
          refine lv_bipush (v := iI 105) hx hb dX11_givesItem_98 (by decide) ?_
          refine lv_bipush (v := iI 112) hx hb dX11_givesItem_100 (by decide) ?_
          refine lv_iconst (v := iI 0) hx hb dX11_givesItem_102 rfl ?_
          refine lv_iconst (v := iI 0) hx hb dX11_givesItem_103 rfl ?_
          refine lv_iconst (v := iI 0) hx hb dX11_givesItem_104 rfl ?_
          refine g_calli (wr := [(m_values, .inl (G.2 0, 3, .inl (cI mv))), (m_anew, .inl (G.2 0, 135, .inl (cI mn)))]) (va_runV (As := [.int (iI 3), .int (iI 100), .int (iI 105), .int (iI 112), .int (iI 0), .int (iI 0), .int (iI 0)]) (rest := []) ⟨hx, hb, hml, hown, hts⟩ (c_X11_spells l G (m0) (m_all) (m_kept) (m_isKept) (m_refused) (m_above) (m_below) (m_hand) (m_fewest) (m_whoBites) (m_leaves) (m_bestFeast) (m_tells) (m_hardOn) (m_bytes) (m_bytesLong) (m_tokenAt) (m_tokenLong) (m_token) (m_value) (m_anew) (m_values) (my) (uS) (uA) (uV) (uE) (n0) (j0) (5) (3) (100) (105) (112) (0) (0) (0) (by first | exact y0_ | exact bd_mono y0_ (by omega) (by omega) | assumption) (by first | exact hL | assumption | omega) (by first | exact i0_ | assumption | omega) (by first | exact i1_ | assumption | omega) (by first | exact i2_ | assumption | omega) (by first | exact i3_ | assumption | omega) (by first | exact hch | assumption | omega) (by first | exact hra | assumption | omega) (by first | exact hj | assumption | omega) (by first | assumption | omega) (by unfold cs; decide +kernel) (by first | assumption | omega) (by first | assumption | omega) (by first | assumption | omega) (by first | assumption | omega) (by first | assumption | omega) (by first | assumption | omega) (by first | assumption | omega) _) (cwV 7 hts gX11_givesItem_X11_spells rfl rfl rfl (by decide +kernel) ⟨Nat.le_of_ble_eq_true rfl, Nat.le_of_ble_eq_true rfl⟩) (g_preV m0 [.int (iI 3), .int (iI 100), .int (iI 105), .int (iI 112), .int (iI 0), .int (iI 0), .int (iI 0)] hP hD hK hN hS hA hZ [2, 3] rfl rfl 2 (ci := 10) rfl rfl) rfl rfl hl.1 rfl (lv_room (Nat.le_of_ble_eq_true rfl)) dX11_givesItem_105 ⟨Nat.le_of_ble_eq_true rfl, Nat.le_of_ble_eq_true rfl⟩) hP hD hS hA [2, 3] [0, 1] rfl rfl rfl (by decide) (fun r_21 u H locs hw hP hD hS => ?_)
          refine ea_1_4 hw (fun rr_22 k_23 k_24 e8_0 e8_1 => ?_)
          subst e8_0
          subst e8_1
          clear hw
          have hPD : PD G A H [(m_values, .inl (G.2 0, 3, .inl (cI mv))), (m_anew, .inl (G.2 0, 135, .inl (cI mn))), (m0, .inr (10, [.ref m_all, .ref m_kept, .ref m_isKept, .ref m_refused, .long (lI m_above), .long (lI m_below), .ref m_hand, .ref m_fewest, .ref m_whoBites, .ref m_leaves, .ref m_bestFeast, .ref m_tells, .ref m_hardOn, .ref m_bytes, .int (iI m_bytesLong), .int (iI m_tokenAt), .int (iI m_tokenLong), .int (iI m_token), .int (iI m_value), .ref m_anew, .ref m_values])), (m_bytes, .inl (G.2 0, 150, .inl (cI my)))] := ⟨hP, hD⟩
          have hP := hPD.1
          have hD := hPD.2
          clear hPD
          refine lv_if_eq (tgt := 116) hx hb dX11_givesItem_108 (by decide) (fun c_25 => ?_) (fun c_25 => ?_)
          · have c_25 := (iI_eq (a := rr_22) (b := 0) (by omega) (by first | decide | omega)).mp c_25
            refine lv_aload_n hx hb dX11_givesItem_116 rfl (lv_at hl 0 rfl) ?_
            refine lv_iconst (v := iI 4) hx hb dX11_givesItem_117 rfl ?_
            refine lv_bipush (v := iI 100) hx hb dX11_givesItem_118 (by decide) ?_
            refine lv_bipush (v := iI 97) hx hb dX11_givesItem_120 (by decide) ?_
            refine lv_bipush (v := iI 121) hx hb dX11_givesItem_122 (by decide) ?_
            refine lv_bipush (v := iI 115) hx hb dX11_givesItem_124 (by decide) ?_
            refine lv_iconst (v := iI 0) hx hb dX11_givesItem_126 rfl ?_
            refine lv_iconst (v := iI 0) hx hb dX11_givesItem_127 rfl ?_
            refine g_calli (wr := [(m_values, .inl (G.2 0, 3, .inl (cI mv))), (m_anew, .inl (G.2 0, 135, .inl (cI mn)))]) (va_runV (As := [.int (iI 4), .int (iI 100), .int (iI 97), .int (iI 121), .int (iI 115), .int (iI 0), .int (iI 0)]) (rest := []) ⟨hx, hb, hml, hown, hts⟩ (c_X11_spells l G (m0) (m_all) (m_kept) (m_isKept) (m_refused) (m_above) (m_below) (m_hand) (m_fewest) (m_whoBites) (m_leaves) (m_bestFeast) (m_tells) (m_hardOn) (m_bytes) (m_bytesLong) (m_tokenAt) (m_tokenLong) (m_token) (m_value) (m_anew) (m_values) (my) (uS) (uA) (uV) (uE) (n0) (j0) (6) (4) (100) (97) (121) (115) (0) (0) (by first | exact y0_ | exact bd_mono y0_ (by omega) (by omega) | assumption) (by first | exact hL | assumption | omega) (by first | exact i0_ | assumption | omega) (by first | exact i1_ | assumption | omega) (by first | exact i2_ | assumption | omega) (by first | exact i3_ | assumption | omega) (by first | exact hch | assumption | omega) (by first | exact hra | assumption | omega) (by first | exact hj | assumption | omega) (by first | assumption | omega) (by unfold cs; decide +kernel) (by first | assumption | omega) (by first | assumption | omega) (by first | assumption | omega) (by first | assumption | omega) (by first | assumption | omega) (by first | assumption | omega) (by first | assumption | omega) _) (cwV 7 hts gX11_givesItem_X11_spells rfl rfl rfl (by decide +kernel) ⟨Nat.le_of_ble_eq_true rfl, Nat.le_of_ble_eq_true rfl⟩) (g_preV m0 [.int (iI 4), .int (iI 100), .int (iI 97), .int (iI 121), .int (iI 115), .int (iI 0), .int (iI 0)] hP hD hK hN hS hA hZ [2, 3] rfl rfl 2 (ci := 10) rfl rfl) rfl rfl hl.1 rfl (lv_room (Nat.le_of_ble_eq_true rfl)) dX11_givesItem_128 ⟨Nat.le_of_ble_eq_true rfl, Nat.le_of_ble_eq_true rfl⟩) hP hD hS hA [2, 3] [0, 1] rfl rfl rfl (by decide) (fun r_26 u H locs hw hP hD hS => ?_)
            refine ea_1_4 hw (fun rr_27 k_28 k_29 e8_0 e8_1 => ?_)
            subst e8_0
            subst e8_1
            clear hw
            have hPD : PD G A H [(m_values, .inl (G.2 0, 3, .inl (cI mv))), (m_anew, .inl (G.2 0, 135, .inl (cI mn))), (m0, .inr (10, [.ref m_all, .ref m_kept, .ref m_isKept, .ref m_refused, .long (lI m_above), .long (lI m_below), .ref m_hand, .ref m_fewest, .ref m_whoBites, .ref m_leaves, .ref m_bestFeast, .ref m_tells, .ref m_hardOn, .ref m_bytes, .int (iI m_bytesLong), .int (iI m_tokenAt), .int (iI m_tokenLong), .int (iI m_token), .int (iI m_value), .ref m_anew, .ref m_values])), (m_bytes, .inl (G.2 0, 150, .inl (cI my)))] := ⟨hP, hD⟩
            have hP := hPD.1
            have hD := hPD.2
            clear hPD
            refine lv_if_eq (tgt := 145) hx hb dX11_givesItem_131 (by decide) (fun c_30 => ?_) (fun c_30 => ?_)
            · have c_30 := (iI_eq (a := rr_27) (b := 0) (by omega) (by first | decide | omega)).mp c_30
              refine lv_iconst (v := iI 0) hx hb dX11_givesItem_145 rfl ?_
              have hP := hP.sub (ws' := [(m0, .inr (10, [.ref m_all, .ref m_kept, .ref m_isKept, .ref m_refused, .long (lI m_above), .long (lI m_below), .ref m_hand, .ref m_fewest, .ref m_whoBites, .ref m_leaves, .ref m_bestFeast, .ref m_tells, .ref m_hardOn, .ref m_bytes, .int (iI m_bytesLong), .int (iI m_tokenAt), .int (iI m_tokenLong), .int (iI m_token), .int (iI m_value), .ref m_anew, .ref m_values])), (m_bytes, .inl (G.2 0, 150, .inl (cI my))), (m_values, .inl (G.2 0, 3, .inl (cI mv))), (m_anew, .inl (G.2 0, 135, .inl (cI mn)))]) [2, 3, 0, 1] rfl
              have hD := hD.sub (ws' := [(m0, .inr (10, [.ref m_all, .ref m_kept, .ref m_isKept, .ref m_refused, .long (lI m_above), .long (lI m_below), .ref m_hand, .ref m_fewest, .ref m_whoBites, .ref m_leaves, .ref m_bestFeast, .ref m_tells, .ref m_hardOn, .ref m_bytes, .int (iI m_bytesLong), .int (iI m_tokenAt), .int (iI m_tokenLong), .int (iI m_token), .int (iI m_value), .ref m_anew, .ref m_values])), (m_bytes, .inl (G.2 0, 150, .inl (cI my))), (m_values, .inl (G.2 0, 3, .inl (cI mv))), (m_anew, .inl (G.2 0, 135, .inl (cI mn)))]) [2, 3, 0, 1] rfl rfl
              exact g_zret (v := (iI 0)) hx hb hr hlocks rfl hP hD hS (Or.inr (⟨m_tokenAt, m_tokenLong, m_token, m_value, mv, mn, j0, (cIt_n (by omega)), (by first | exact i0_ | assumption | omega), (by first | exact i1_ | assumption | omega), (by first | exact i2_ | assumption | omega), (by first | exact i3_ | assumption | omega), (by first | assumption | omega), (by first | exact hra | assumption | omega), (by first | exact hj | assumption | omega), (by first | exact y1_ | exact bpA_mono y1_ (by omega) | assumption), rfl, rfl⟩)) dX11_givesItem_146
            · have c_30 : ¬ (rr_27 = 0) := fun h9 => c_30 ((iI_eq (a := rr_27) (b := 0) (by omega) (by first | decide | omega)).mpr h9)
              refine lv_aload_n hx hb dX11_givesItem_134 rfl (lv_at hl 0 rfl) ?_
              refine g_calli (wr := []) (va_runV (As := []) (rest := []) ⟨hx, hb, hml, hown, hts⟩ (c_X11_givesDays l G (m0) (m_all) (m_kept) (m_isKept) (m_refused) (m_above) (m_below) (m_hand) (m_fewest) (m_whoBites) (m_leaves) (m_bestFeast) (m_tells) (m_hardOn) (m_bytes) (m_bytesLong) (m_tokenAt) (m_tokenLong) (m_token) (m_value) (m_anew) (m_values) (my) (mv) (mn) (K0) (uS) (uA) (uV) (uE) (n0) (j0) (by first | exact y0_ | exact bd_mono y0_ (by omega) (by omega) | assumption) (by first | exact y1_ | exact bpA_mono y1_ (by omega) | assumption) (by first | exact hL | assumption | omega) (by first | exact i0_ | assumption | omega) (by first | exact i1_ | assumption | omega) (by first | exact i2_ | assumption | omega) (by first | exact i3_ | assumption | omega) (by first | exact hch | assumption | omega) (by first | exact hra | assumption | omega) (by first | exact hj | assumption | omega) (by first | exact hK0 | assumption | omega) (by first | assumption | omega) _) (cwV 0 hts gX11_givesItem_X11_givesDays rfl rfl rfl (by decide +kernel) ⟨Nat.le_of_ble_eq_true rfl, Nat.le_of_ble_eq_true rfl⟩) (g_preV m0 [] hP hD hK hN hS hA hZ [2, 3, 0, 1] rfl rfl 2 (ci := 10) rfl rfl) rfl rfl hl.1 rfl (lv_room (Nat.le_of_ble_eq_true rfl)) dX11_givesItem_135 ⟨Nat.le_of_ble_eq_true rfl, Nat.le_of_ble_eq_true rfl⟩) hP hD hS hA [2, 3, 0, 1] [] rfl rfl rfl (by decide) (fun r_31 u H locs hw hP hD hS => ?_)
              rcases hw with hw | hw
              · refine ea_7_11 hw (fun NtA_32 NtL_33 Ntk_34 Nva_35 N_v_36 N_n_37 jN_38 k_39 k_40 k_41 k_42 k_43 k_44 k_45 k_46 k_47 e8_0 e8_1 => ?_)
                subst e8_0
                subst e8_1
                clear hw
                have hPD : PD G A H [(m0, .inr (10, [.ref m_all, .ref m_kept, .ref m_isKept, .ref m_refused, .long (lI m_above), .long (lI m_below), .ref m_hand, .ref m_fewest, .ref m_whoBites, .ref m_leaves, .ref m_bestFeast, .ref m_tells, .ref m_hardOn, .ref m_bytes, .int (iI m_bytesLong), .int (iI NtA_32), .int (iI NtL_33), .int (iI Ntk_34), .int (iI Nva_35), .ref m_anew, .ref m_values])), (m_bytes, .inl (G.2 0, 150, .inl (cI my))), (m_values, .inl (G.2 0, 3, .inl (cI N_v_36))), (m_anew, .inl (G.2 0, 135, .inl (cI N_n_37)))] := ⟨hP, hD⟩
                have hP := hPD.1
                have hD := hPD.2
                clear hPD
                refine lv_if_eq (tgt := 145) hx hb dX11_givesItem_138 (by decide) (fun c_64 => g_no c_64 (by decide)) (fun _ => ?_)
                refine lv_iconst (v := iI 1) hx hb dX11_givesItem_141 rfl ?_
                refine lv_goto (tgt := 146) hx hb dX11_givesItem_142 (by decide) ?_
                exact g_zret (v := (iI 1)) hx hb hr hlocks rfl hP hD hS (Or.inl ⟨NtA_32, NtL_33, Ntk_34, Nva_35, N_v_36, N_n_37, jN_38, (by assumption), (by first | exact k_40 | assumption | omega), (by first | exact k_41 | assumption | omega), (by first | exact k_42 | assumption | omega), (by first | exact k_43 | assumption | omega), (by first | exact k_44 | assumption | omega), (by first | exact k_45 | assumption | omega), (by first | exact k_46 | assumption | omega), (by first | exact k_47 | exact bpA_mono k_47 (by omega) | assumption), rfl, rfl⟩) dX11_givesItem_146
              · refine ea_7_11 hw (fun NtA_48 NtL_49 Ntk_50 Nva_51 N_v_52 N_n_53 jN_54 k_55 k_56 k_57 k_58 k_59 k_60 k_61 k_62 k_63 e8_0 e8_1 => ?_)
                subst e8_0
                subst e8_1
                clear hw
                have hPD : PD G A H [(m0, .inr (10, [.ref m_all, .ref m_kept, .ref m_isKept, .ref m_refused, .long (lI m_above), .long (lI m_below), .ref m_hand, .ref m_fewest, .ref m_whoBites, .ref m_leaves, .ref m_bestFeast, .ref m_tells, .ref m_hardOn, .ref m_bytes, .int (iI m_bytesLong), .int (iI NtA_48), .int (iI NtL_49), .int (iI Ntk_50), .int (iI Nva_51), .ref m_anew, .ref m_values])), (m_bytes, .inl (G.2 0, 150, .inl (cI my))), (m_values, .inl (G.2 0, 3, .inl (cI N_v_52))), (m_anew, .inl (G.2 0, 135, .inl (cI N_n_53)))] := ⟨hP, hD⟩
                have hP := hPD.1
                have hD := hPD.2
                clear hPD
                refine lv_if_eq (tgt := 145) hx hb dX11_givesItem_138 (by decide) (fun _ => ?_) (fun c_65 => g_no (by decide) c_65)
                refine lv_iconst (v := iI 0) hx hb dX11_givesItem_145 rfl ?_
                exact g_zret (v := (iI 0)) hx hb hr hlocks rfl hP hD hS (Or.inr (⟨NtA_48, NtL_49, Ntk_50, Nva_51, N_v_52, N_n_53, jN_54, (by assumption), (by first | exact k_56 | assumption | omega), (by first | exact k_57 | assumption | omega), (by first | exact k_58 | assumption | omega), (by first | exact k_59 | assumption | omega), (by first | exact k_60 | assumption | omega), (by first | exact k_61 | assumption | omega), (by first | exact k_62 | assumption | omega), (by first | exact k_63 | exact bpA_mono k_63 (by omega) | assumption), rfl, rfl⟩)) dX11_givesItem_146
          · have c_25 : ¬ (rr_22 = 0) := fun h9 => c_25 ((iI_eq (a := rr_22) (b := 0) (by omega) (by first | decide | omega)).mpr h9)
            refine lv_aload_n hx hb dX11_givesItem_111 rfl (lv_at hl 0 rfl) ?_
            refine g_calli (wr := []) (va_runV (As := []) (rest := []) ⟨hx, hb, hml, hown, hts⟩ (c_X11_givesDip l G (m0) (m_all) (m_kept) (m_isKept) (m_refused) (m_above) (m_below) (m_hand) (m_fewest) (m_whoBites) (m_leaves) (m_bestFeast) (m_tells) (m_hardOn) (m_bytes) (m_bytesLong) (m_tokenAt) (m_tokenLong) (m_token) (m_value) (m_anew) (m_values) (my) (mv) (mn) (K0) (uS) (uA) (uV) (uE) (n0) (j0) (by first | exact y0_ | exact bd_mono y0_ (by omega) (by omega) | assumption) (by first | exact y1_ | exact bpA_mono y1_ (by omega) | assumption) (by first | exact hL | assumption | omega) (by first | exact i0_ | assumption | omega) (by first | exact i1_ | assumption | omega) (by first | exact i2_ | assumption | omega) (by first | exact i3_ | assumption | omega) (by first | exact hch | assumption | omega) (by first | exact hra | assumption | omega) (by first | exact hj | assumption | omega) (by first | exact hK0 | assumption | omega) (by first | assumption | omega) _) (cwV 0 hts gX11_givesItem_X11_givesDip rfl rfl rfl (by decide +kernel) ⟨Nat.le_of_ble_eq_true rfl, Nat.le_of_ble_eq_true rfl⟩) (g_preV m0 [] hP hD hK hN hS hA hZ [2, 3, 0, 1] rfl rfl 2 (ci := 10) rfl rfl) rfl rfl hl.1 rfl (lv_room (Nat.le_of_ble_eq_true rfl)) dX11_givesItem_112 ⟨Nat.le_of_ble_eq_true rfl, Nat.le_of_ble_eq_true rfl⟩) hP hD hS hA [2, 3, 0, 1] [] rfl rfl rfl (by decide) (fun r_66 u H locs hw hP hD hS => ?_)
            rcases hw with hw | hw
            · refine ea_7_11 hw (fun NtA_67 NtL_68 Ntk_69 Nva_70 N_v_71 N_n_72 jN_73 k_74 k_75 k_76 k_77 k_78 k_79 k_80 k_81 k_82 e8_0 e8_1 => ?_)
              subst e8_0
              subst e8_1
              clear hw
              have hPD : PD G A H [(m0, .inr (10, [.ref m_all, .ref m_kept, .ref m_isKept, .ref m_refused, .long (lI m_above), .long (lI m_below), .ref m_hand, .ref m_fewest, .ref m_whoBites, .ref m_leaves, .ref m_bestFeast, .ref m_tells, .ref m_hardOn, .ref m_bytes, .int (iI m_bytesLong), .int (iI NtA_67), .int (iI NtL_68), .int (iI Ntk_69), .int (iI Nva_70), .ref m_anew, .ref m_values])), (m_bytes, .inl (G.2 0, 150, .inl (cI my))), (m_values, .inl (G.2 0, 3, .inl (cI N_v_71))), (m_anew, .inl (G.2 0, 135, .inl (cI N_n_72)))] := ⟨hP, hD⟩
              have hP := hPD.1
              have hD := hPD.2
              clear hPD
              exact g_zret (v := (iI 1)) hx hb hr hlocks rfl hP hD hS (Or.inl ⟨NtA_67, NtL_68, Ntk_69, Nva_70, N_v_71, N_n_72, jN_73, (by assumption), (by first | exact k_75 | assumption | omega), (by first | exact k_76 | assumption | omega), (by first | exact k_77 | assumption | omega), (by first | exact k_78 | assumption | omega), (by first | exact k_79 | assumption | omega), (by first | exact k_80 | assumption | omega), (by first | exact k_81 | assumption | omega), (by first | exact k_82 | exact bpA_mono k_82 (by omega) | assumption), rfl, rfl⟩) dX11_givesItem_115
            · refine ea_7_11 hw (fun NtA_83 NtL_84 Ntk_85 Nva_86 N_v_87 N_n_88 jN_89 k_90 k_91 k_92 k_93 k_94 k_95 k_96 k_97 k_98 e8_0 e8_1 => ?_)
              subst e8_0
              subst e8_1
              clear hw
              have hPD : PD G A H [(m0, .inr (10, [.ref m_all, .ref m_kept, .ref m_isKept, .ref m_refused, .long (lI m_above), .long (lI m_below), .ref m_hand, .ref m_fewest, .ref m_whoBites, .ref m_leaves, .ref m_bestFeast, .ref m_tells, .ref m_hardOn, .ref m_bytes, .int (iI m_bytesLong), .int (iI NtA_83), .int (iI NtL_84), .int (iI Ntk_85), .int (iI Nva_86), .ref m_anew, .ref m_values])), (m_bytes, .inl (G.2 0, 150, .inl (cI my))), (m_values, .inl (G.2 0, 3, .inl (cI N_v_87))), (m_anew, .inl (G.2 0, 135, .inl (cI N_n_88)))] := ⟨hP, hD⟩
              have hP := hPD.1
              have hD := hPD.2
              clear hPD
              exact g_zret (v := (iI 0)) hx hb hr hlocks rfl hP hD hS (Or.inr (⟨NtA_83, NtL_84, Ntk_85, Nva_86, N_v_87, N_n_88, jN_89, (by assumption), (by first | exact k_91 | assumption | omega), (by first | exact k_92 | assumption | omega), (by first | exact k_93 | assumption | omega), (by first | exact k_94 | assumption | omega), (by first | exact k_95 | assumption | omega), (by first | exact k_96 | assumption | omega), (by first | exact k_97 | assumption | omega), (by first | exact k_98 | exact bpA_mono k_98 (by omega) | assumption), rfl, rfl⟩)) dX11_givesItem_115
        · have c_20 : ¬ (rr_17 = 0) := fun h9 => c_20 ((iI_eq (a := rr_17) (b := 0) (by omega) (by first | decide | omega)).mpr h9)
          refine lv_aload_n hx hb dX11_givesItem_89 rfl (lv_at hl 0 rfl) ?_
          refine g_calli (wr := []) (va_runV (As := []) (rest := []) ⟨hx, hb, hml, hown, hts⟩ (c_X11_givesBite l G (m0) (m_all) (m_kept) (m_isKept) (m_refused) (m_above) (m_below) (m_hand) (m_fewest) (m_whoBites) (m_leaves) (m_bestFeast) (m_tells) (m_hardOn) (m_bytes) (m_bytesLong) (m_tokenAt) (m_tokenLong) (m_token) (m_value) (m_anew) (m_values) (my) (mv) (mn) (K0) (uS) (uA) (uV) (uE) (n0) (j0) (by first | exact y0_ | exact bd_mono y0_ (by omega) (by omega) | assumption) (by first | exact y1_ | exact bpA_mono y1_ (by omega) | assumption) (by first | exact hL | assumption | omega) (by first | exact i0_ | assumption | omega) (by first | exact i1_ | assumption | omega) (by first | exact i2_ | assumption | omega) (by first | exact i3_ | assumption | omega) (by first | exact hch | assumption | omega) (by first | exact hra | assumption | omega) (by first | exact hj | assumption | omega) (by first | exact hK0 | assumption | omega) (by first | assumption | omega) _) (cwV 0 hts gX11_givesItem_X11_givesBite rfl rfl rfl (by decide +kernel) ⟨Nat.le_of_ble_eq_true rfl, Nat.le_of_ble_eq_true rfl⟩) (g_preV m0 [] hP hD hK hN hS hA hZ [2, 3, 0, 1] rfl rfl 2 (ci := 10) rfl rfl) rfl rfl hl.1 rfl (lv_room (Nat.le_of_ble_eq_true rfl)) dX11_givesItem_90 ⟨Nat.le_of_ble_eq_true rfl, Nat.le_of_ble_eq_true rfl⟩) hP hD hS hA [2, 3, 0, 1] [] rfl rfl rfl (by decide) (fun r_99 u H locs hw hP hD hS => ?_)
          rcases hw with hw | hw
          · refine ea_7_11 hw (fun NtA_100 NtL_101 Ntk_102 Nva_103 N_v_104 N_n_105 jN_106 k_107 k_108 k_109 k_110 k_111 k_112 k_113 k_114 k_115 e8_0 e8_1 => ?_)
            subst e8_0
            subst e8_1
            clear hw
            have hPD : PD G A H [(m0, .inr (10, [.ref m_all, .ref m_kept, .ref m_isKept, .ref m_refused, .long (lI m_above), .long (lI m_below), .ref m_hand, .ref m_fewest, .ref m_whoBites, .ref m_leaves, .ref m_bestFeast, .ref m_tells, .ref m_hardOn, .ref m_bytes, .int (iI m_bytesLong), .int (iI NtA_100), .int (iI NtL_101), .int (iI Ntk_102), .int (iI Nva_103), .ref m_anew, .ref m_values])), (m_bytes, .inl (G.2 0, 150, .inl (cI my))), (m_values, .inl (G.2 0, 3, .inl (cI N_v_104))), (m_anew, .inl (G.2 0, 135, .inl (cI N_n_105)))] := ⟨hP, hD⟩
            have hP := hPD.1
            have hD := hPD.2
            clear hPD
            exact g_zret (v := (iI 1)) hx hb hr hlocks rfl hP hD hS (Or.inl ⟨NtA_100, NtL_101, Ntk_102, Nva_103, N_v_104, N_n_105, jN_106, (by assumption), (by first | exact k_108 | assumption | omega), (by first | exact k_109 | assumption | omega), (by first | exact k_110 | assumption | omega), (by first | exact k_111 | assumption | omega), (by first | exact k_112 | assumption | omega), (by first | exact k_113 | assumption | omega), (by first | exact k_114 | assumption | omega), (by first | exact k_115 | exact bpA_mono k_115 (by omega) | assumption), rfl, rfl⟩) dX11_givesItem_93
          · refine ea_7_11 hw (fun NtA_116 NtL_117 Ntk_118 Nva_119 N_v_120 N_n_121 jN_122 k_123 k_124 k_125 k_126 k_127 k_128 k_129 k_130 k_131 e8_0 e8_1 => ?_)
            subst e8_0
            subst e8_1
            clear hw
            have hPD : PD G A H [(m0, .inr (10, [.ref m_all, .ref m_kept, .ref m_isKept, .ref m_refused, .long (lI m_above), .long (lI m_below), .ref m_hand, .ref m_fewest, .ref m_whoBites, .ref m_leaves, .ref m_bestFeast, .ref m_tells, .ref m_hardOn, .ref m_bytes, .int (iI m_bytesLong), .int (iI NtA_116), .int (iI NtL_117), .int (iI Ntk_118), .int (iI Nva_119), .ref m_anew, .ref m_values])), (m_bytes, .inl (G.2 0, 150, .inl (cI my))), (m_values, .inl (G.2 0, 3, .inl (cI N_v_120))), (m_anew, .inl (G.2 0, 135, .inl (cI N_n_121)))] := ⟨hP, hD⟩
            have hP := hPD.1
            have hD := hPD.2
            clear hPD
            exact g_zret (v := (iI 0)) hx hb hr hlocks rfl hP hD hS (Or.inr (⟨NtA_116, NtL_117, Ntk_118, Nva_119, N_v_120, N_n_121, jN_122, (by assumption), (by first | exact k_124 | assumption | omega), (by first | exact k_125 | assumption | omega), (by first | exact k_126 | assumption | omega), (by first | exact k_127 | assumption | omega), (by first | exact k_128 | assumption | omega), (by first | exact k_129 | assumption | omega), (by first | exact k_130 | assumption | omega), (by first | exact k_131 | exact bpA_mono k_131 (by omega) | assumption), rfl, rfl⟩)) dX11_givesItem_93
      · have c_15 : ¬ (rr_12 = 0) := fun h9 => c_15 ((iI_eq (a := rr_12) (b := 0) (by omega) (by first | decide | omega)).mpr h9)
        refine lv_aload_n hx hb dX11_givesItem_66 rfl (lv_at hl 0 rfl) ?_
        refine g_calli (wr := []) (va_runV (As := []) (rest := []) ⟨hx, hb, hml, hown, hts⟩ (c_X11_givesBiter l G (m0) (m_all) (m_kept) (m_isKept) (m_refused) (m_above) (m_below) (m_hand) (m_fewest) (m_whoBites) (m_leaves) (m_bestFeast) (m_tells) (m_hardOn) (m_bytes) (m_bytesLong) (m_tokenAt) (m_tokenLong) (m_token) (m_value) (m_anew) (m_values) (my) (mv) (mn) (K0) (uS) (uA) (uV) (uE) (n0) (j0) (by first | exact y0_ | exact bd_mono y0_ (by omega) (by omega) | assumption) (by first | exact y1_ | exact bpA_mono y1_ (by omega) | assumption) (by first | exact hL | assumption | omega) (by first | exact i0_ | assumption | omega) (by first | exact i1_ | assumption | omega) (by first | exact i2_ | assumption | omega) (by first | exact i3_ | assumption | omega) (by first | exact hch | assumption | omega) (by first | exact hra | assumption | omega) (by first | exact hj | assumption | omega) (by first | exact hK0 | assumption | omega) (by first | assumption | omega) _) (cwV 0 hts gX11_givesItem_X11_givesBiter rfl rfl rfl (by decide +kernel) ⟨Nat.le_of_ble_eq_true rfl, Nat.le_of_ble_eq_true rfl⟩) (g_preV m0 [] hP hD hK hN hS hA hZ [2, 3, 0, 1] rfl rfl 2 (ci := 10) rfl rfl) rfl rfl hl.1 rfl (lv_room (Nat.le_of_ble_eq_true rfl)) dX11_givesItem_67 ⟨Nat.le_of_ble_eq_true rfl, Nat.le_of_ble_eq_true rfl⟩) hP hD hS hA [2, 3, 0, 1] [] rfl rfl rfl (by decide) (fun r_132 u H locs hw hP hD hS => ?_)
        rcases hw with hw | hw
        · refine ea_7_11 hw (fun NtA_133 NtL_134 Ntk_135 Nva_136 N_v_137 N_n_138 jN_139 k_140 k_141 k_142 k_143 k_144 k_145 k_146 k_147 k_148 e8_0 e8_1 => ?_)
          subst e8_0
          subst e8_1
          clear hw
          have hPD : PD G A H [(m0, .inr (10, [.ref m_all, .ref m_kept, .ref m_isKept, .ref m_refused, .long (lI m_above), .long (lI m_below), .ref m_hand, .ref m_fewest, .ref m_whoBites, .ref m_leaves, .ref m_bestFeast, .ref m_tells, .ref m_hardOn, .ref m_bytes, .int (iI m_bytesLong), .int (iI NtA_133), .int (iI NtL_134), .int (iI Ntk_135), .int (iI Nva_136), .ref m_anew, .ref m_values])), (m_bytes, .inl (G.2 0, 150, .inl (cI my))), (m_values, .inl (G.2 0, 3, .inl (cI N_v_137))), (m_anew, .inl (G.2 0, 135, .inl (cI N_n_138)))] := ⟨hP, hD⟩
          have hP := hPD.1
          have hD := hPD.2
          clear hPD
          exact g_zret (v := (iI 1)) hx hb hr hlocks rfl hP hD hS (Or.inl ⟨NtA_133, NtL_134, Ntk_135, Nva_136, N_v_137, N_n_138, jN_139, (by assumption), (by first | exact k_141 | assumption | omega), (by first | exact k_142 | assumption | omega), (by first | exact k_143 | assumption | omega), (by first | exact k_144 | assumption | omega), (by first | exact k_145 | assumption | omega), (by first | exact k_146 | assumption | omega), (by first | exact k_147 | assumption | omega), (by first | exact k_148 | exact bpA_mono k_148 (by omega) | assumption), rfl, rfl⟩) dX11_givesItem_70
        · refine ea_7_11 hw (fun NtA_149 NtL_150 Ntk_151 Nva_152 N_v_153 N_n_154 jN_155 k_156 k_157 k_158 k_159 k_160 k_161 k_162 k_163 k_164 e8_0 e8_1 => ?_)
          subst e8_0
          subst e8_1
          clear hw
          have hPD : PD G A H [(m0, .inr (10, [.ref m_all, .ref m_kept, .ref m_isKept, .ref m_refused, .long (lI m_above), .long (lI m_below), .ref m_hand, .ref m_fewest, .ref m_whoBites, .ref m_leaves, .ref m_bestFeast, .ref m_tells, .ref m_hardOn, .ref m_bytes, .int (iI m_bytesLong), .int (iI NtA_149), .int (iI NtL_150), .int (iI Ntk_151), .int (iI Nva_152), .ref m_anew, .ref m_values])), (m_bytes, .inl (G.2 0, 150, .inl (cI my))), (m_values, .inl (G.2 0, 3, .inl (cI N_v_153))), (m_anew, .inl (G.2 0, 135, .inl (cI N_n_154)))] := ⟨hP, hD⟩
          have hP := hPD.1
          have hD := hPD.2
          clear hPD
          exact g_zret (v := (iI 0)) hx hb hr hlocks rfl hP hD hS (Or.inr (⟨NtA_149, NtL_150, Ntk_151, Nva_152, N_v_153, N_n_154, jN_155, (by assumption), (by first | exact k_157 | assumption | omega), (by first | exact k_158 | assumption | omega), (by first | exact k_159 | assumption | omega), (by first | exact k_160 | assumption | omega), (by first | exact k_161 | assumption | omega), (by first | exact k_162 | assumption | omega), (by first | exact k_163 | assumption | omega), (by first | exact k_164 | exact bpA_mono k_164 (by omega) | assumption), rfl, rfl⟩)) dX11_givesItem_70
    · have c_10 : ¬ (rr_7 = 0) := fun h9 => c_10 ((iI_eq (a := rr_7) (b := 0) (by omega) (by first | decide | omega)).mpr h9)
      refine lv_aload_n hx hb dX11_givesItem_42 rfl (lv_at hl 0 rfl) ?_
      refine g_calli (wr := []) (va_runV (As := []) (rest := []) ⟨hx, hb, hml, hown, hts⟩ (c_X11_givesApple l G (m0) (m_all) (m_kept) (m_isKept) (m_refused) (m_above) (m_below) (m_hand) (m_fewest) (m_whoBites) (m_leaves) (m_bestFeast) (m_tells) (m_hardOn) (m_bytes) (m_bytesLong) (m_tokenAt) (m_tokenLong) (m_token) (m_value) (m_anew) (m_values) (my) (mv) (mn) (K0) (uS) (uA) (uV) (uE) (n0) (j0) (by first | exact y0_ | exact bd_mono y0_ (by omega) (by omega) | assumption) (by first | exact y1_ | exact bpA_mono y1_ (by omega) | assumption) (by first | exact hL | assumption | omega) (by first | exact i0_ | assumption | omega) (by first | exact i1_ | assumption | omega) (by first | exact i2_ | assumption | omega) (by first | exact i3_ | assumption | omega) (by first | exact hch | assumption | omega) (by first | exact hra | assumption | omega) (by first | exact hj | assumption | omega) (by first | exact hK0 | assumption | omega) (by first | assumption | omega) _) (cwV 0 hts gX11_givesItem_X11_givesApple rfl rfl rfl (by decide +kernel) ⟨Nat.le_of_ble_eq_true rfl, Nat.le_of_ble_eq_true rfl⟩) (g_preV m0 [] hP hD hK hN hS hA hZ [2, 3, 0, 1] rfl rfl 2 (ci := 10) rfl rfl) rfl rfl hl.1 rfl (lv_room (Nat.le_of_ble_eq_true rfl)) dX11_givesItem_43 ⟨Nat.le_of_ble_eq_true rfl, Nat.le_of_ble_eq_true rfl⟩) hP hD hS hA [2, 3, 0, 1] [] rfl rfl rfl (by decide) (fun r_165 u H locs hw hP hD hS => ?_)
      rcases hw with hw | hw
      · refine ea_7_11 hw (fun NtA_166 NtL_167 Ntk_168 Nva_169 N_v_170 N_n_171 jN_172 k_173 k_174 k_175 k_176 k_177 k_178 k_179 k_180 k_181 e8_0 e8_1 => ?_)
        subst e8_0
        subst e8_1
        clear hw
        have hPD : PD G A H [(m0, .inr (10, [.ref m_all, .ref m_kept, .ref m_isKept, .ref m_refused, .long (lI m_above), .long (lI m_below), .ref m_hand, .ref m_fewest, .ref m_whoBites, .ref m_leaves, .ref m_bestFeast, .ref m_tells, .ref m_hardOn, .ref m_bytes, .int (iI m_bytesLong), .int (iI NtA_166), .int (iI NtL_167), .int (iI Ntk_168), .int (iI Nva_169), .ref m_anew, .ref m_values])), (m_bytes, .inl (G.2 0, 150, .inl (cI my))), (m_values, .inl (G.2 0, 3, .inl (cI N_v_170))), (m_anew, .inl (G.2 0, 135, .inl (cI N_n_171)))] := ⟨hP, hD⟩
        have hP := hPD.1
        have hD := hPD.2
        clear hPD
        exact g_zret (v := (iI 1)) hx hb hr hlocks rfl hP hD hS (Or.inl ⟨NtA_166, NtL_167, Ntk_168, Nva_169, N_v_170, N_n_171, jN_172, (by assumption), (by first | exact k_174 | assumption | omega), (by first | exact k_175 | assumption | omega), (by first | exact k_176 | assumption | omega), (by first | exact k_177 | assumption | omega), (by first | exact k_178 | assumption | omega), (by first | exact k_179 | assumption | omega), (by first | exact k_180 | assumption | omega), (by first | exact k_181 | exact bpA_mono k_181 (by omega) | assumption), rfl, rfl⟩) dX11_givesItem_46
      · refine ea_7_11 hw (fun NtA_182 NtL_183 Ntk_184 Nva_185 N_v_186 N_n_187 jN_188 k_189 k_190 k_191 k_192 k_193 k_194 k_195 k_196 k_197 e8_0 e8_1 => ?_)
        subst e8_0
        subst e8_1
        clear hw
        have hPD : PD G A H [(m0, .inr (10, [.ref m_all, .ref m_kept, .ref m_isKept, .ref m_refused, .long (lI m_above), .long (lI m_below), .ref m_hand, .ref m_fewest, .ref m_whoBites, .ref m_leaves, .ref m_bestFeast, .ref m_tells, .ref m_hardOn, .ref m_bytes, .int (iI m_bytesLong), .int (iI NtA_182), .int (iI NtL_183), .int (iI Ntk_184), .int (iI Nva_185), .ref m_anew, .ref m_values])), (m_bytes, .inl (G.2 0, 150, .inl (cI my))), (m_values, .inl (G.2 0, 3, .inl (cI N_v_186))), (m_anew, .inl (G.2 0, 135, .inl (cI N_n_187)))] := ⟨hP, hD⟩
        have hP := hPD.1
        have hD := hPD.2
        clear hPD
        exact g_zret (v := (iI 0)) hx hb hr hlocks rfl hP hD hS (Or.inr (⟨NtA_182, NtL_183, Ntk_184, Nva_185, N_v_186, N_n_187, jN_188, (by assumption), (by first | exact k_190 | assumption | omega), (by first | exact k_191 | assumption | omega), (by first | exact k_192 | assumption | omega), (by first | exact k_193 | assumption | omega), (by first | exact k_194 | assumption | omega), (by first | exact k_195 | assumption | omega), (by first | exact k_196 | assumption | omega), (by first | exact k_197 | exact bpA_mono k_197 (by omega) | assumption), rfl, rfl⟩)) dX11_givesItem_46
  · have c_5 : ¬ (rr_2 = 0) := fun h9 => c_5 ((iI_eq (a := rr_2) (b := 0) (by omega) (by first | decide | omega)).mpr h9)
    refine lv_aload_n hx hb dX11_givesItem_18 rfl (lv_at hl 0 rfl) ?_
    refine g_calli (wr := []) (va_runV (As := []) (rest := []) ⟨hx, hb, hml, hown, hts⟩ (c_X11_givesDamp l G (m0) (m_all) (m_kept) (m_isKept) (m_refused) (m_above) (m_below) (m_hand) (m_fewest) (m_whoBites) (m_leaves) (m_bestFeast) (m_tells) (m_hardOn) (m_bytes) (m_bytesLong) (m_tokenAt) (m_tokenLong) (m_token) (m_value) (m_anew) (m_values) (my) (mv) (mn) (K0) (uS) (uA) (uV) (uE) (n0) (j0) (by first | exact y0_ | exact bd_mono y0_ (by omega) (by omega) | assumption) (by first | exact y1_ | exact bpA_mono y1_ (by omega) | assumption) (by first | exact hL | assumption | omega) (by first | exact i0_ | assumption | omega) (by first | exact i1_ | assumption | omega) (by first | exact i2_ | assumption | omega) (by first | exact i3_ | assumption | omega) (by first | exact hch | assumption | omega) (by first | exact hra | assumption | omega) (by first | exact hj | assumption | omega) (by first | exact hK0 | assumption | omega) (by first | assumption | omega) _) (cwV 0 hts gX11_givesItem_X11_givesDamp rfl rfl rfl (by decide +kernel) ⟨Nat.le_of_ble_eq_true rfl, Nat.le_of_ble_eq_true rfl⟩) (g_preV m0 [] hP hD hK hN hS hA hZ [2, 3, 0, 1] rfl rfl 2 (ci := 10) rfl rfl) rfl rfl hl.1 rfl (lv_room (Nat.le_of_ble_eq_true rfl)) dX11_givesItem_19 ⟨Nat.le_of_ble_eq_true rfl, Nat.le_of_ble_eq_true rfl⟩) hP hD hS hA [2, 3, 0, 1] [] rfl rfl rfl (by decide) (fun r_198 u H locs hw hP hD hS => ?_)
    rcases hw with hw | hw
    · refine ea_7_11 hw (fun NtA_199 NtL_200 Ntk_201 Nva_202 N_v_203 N_n_204 jN_205 k_206 k_207 k_208 k_209 k_210 k_211 k_212 k_213 k_214 e8_0 e8_1 => ?_)
      subst e8_0
      subst e8_1
      clear hw
      have hPD : PD G A H [(m0, .inr (10, [.ref m_all, .ref m_kept, .ref m_isKept, .ref m_refused, .long (lI m_above), .long (lI m_below), .ref m_hand, .ref m_fewest, .ref m_whoBites, .ref m_leaves, .ref m_bestFeast, .ref m_tells, .ref m_hardOn, .ref m_bytes, .int (iI m_bytesLong), .int (iI NtA_199), .int (iI NtL_200), .int (iI Ntk_201), .int (iI Nva_202), .ref m_anew, .ref m_values])), (m_bytes, .inl (G.2 0, 150, .inl (cI my))), (m_values, .inl (G.2 0, 3, .inl (cI N_v_203))), (m_anew, .inl (G.2 0, 135, .inl (cI N_n_204)))] := ⟨hP, hD⟩
      have hP := hPD.1
      have hD := hPD.2
      clear hPD
      exact g_zret (v := (iI 1)) hx hb hr hlocks rfl hP hD hS (Or.inl ⟨NtA_199, NtL_200, Ntk_201, Nva_202, N_v_203, N_n_204, jN_205, (by assumption), (by first | exact k_207 | assumption | omega), (by first | exact k_208 | assumption | omega), (by first | exact k_209 | assumption | omega), (by first | exact k_210 | assumption | omega), (by first | exact k_211 | assumption | omega), (by first | exact k_212 | assumption | omega), (by first | exact k_213 | assumption | omega), (by first | exact k_214 | exact bpA_mono k_214 (by omega) | assumption), rfl, rfl⟩) dX11_givesItem_22
    · refine ea_7_11 hw (fun NtA_215 NtL_216 Ntk_217 Nva_218 N_v_219 N_n_220 jN_221 k_222 k_223 k_224 k_225 k_226 k_227 k_228 k_229 k_230 e8_0 e8_1 => ?_)
      subst e8_0
      subst e8_1
      clear hw
      have hPD : PD G A H [(m0, .inr (10, [.ref m_all, .ref m_kept, .ref m_isKept, .ref m_refused, .long (lI m_above), .long (lI m_below), .ref m_hand, .ref m_fewest, .ref m_whoBites, .ref m_leaves, .ref m_bestFeast, .ref m_tells, .ref m_hardOn, .ref m_bytes, .int (iI m_bytesLong), .int (iI NtA_215), .int (iI NtL_216), .int (iI Ntk_217), .int (iI Nva_218), .ref m_anew, .ref m_values])), (m_bytes, .inl (G.2 0, 150, .inl (cI my))), (m_values, .inl (G.2 0, 3, .inl (cI N_v_219))), (m_anew, .inl (G.2 0, 135, .inl (cI N_n_220)))] := ⟨hP, hD⟩
      have hP := hPD.1
      have hD := hPD.2
      clear hPD
      exact g_zret (v := (iI 0)) hx hb hr hlocks rfl hP hD hS (Or.inr (⟨NtA_215, NtL_216, Ntk_217, Nva_218, N_v_219, N_n_220, jN_221, (by assumption), (by first | exact k_223 | assumption | omega), (by first | exact k_224 | assumption | omega), (by first | exact k_225 | assumption | omega), (by first | exact k_226 | assumption | omega), (by first | exact k_227 | assumption | omega), (by first | exact k_228 | assumption | omega), (by first | exact k_229 | assumption | omega), (by first | exact k_230 | exact bpA_mono k_230 (by omega) | assumption), rfl, rfl⟩)) dX11_givesItem_22
