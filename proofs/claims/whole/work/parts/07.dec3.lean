theorem dX11_init_0 : decode cX11_init 0 = .ok (.aload_n 0, 1) := by decide +kernel
theorem dX11_init_1 : decode cX11_init 1 = .ok (.invokespecial 1, 3) := by decide +kernel
theorem dX11_init_4 : decode cX11_init 4 = .ok (.aload_n 0, 1) := by decide +kernel
theorem dX11_init_5 : decode cX11_init 5 = .ok (.sipush 355, 3) := by decide +kernel
theorem dX11_init_8 : decode cX11_init 8 = .ok (.newarray .int, 2) := by decide +kernel
theorem dX11_init_10 : decode cX11_init 10 = .ok (.putfield 7, 3) := by decide +kernel
theorem dX11_init_13 : decode cX11_init 13 = .ok (.aload_n 0, 1) := by decide +kernel
theorem dX11_init_14 : decode cX11_init 14 = .ok (.sipush 355, 3) := by decide +kernel
theorem dX11_init_17 : decode cX11_init 17 = .ok (.newarray .int, 2) := by decide +kernel
theorem dX11_init_19 : decode cX11_init 19 = .ok (.putfield 13, 3) := by decide +kernel
theorem dX11_init_22 : decode cX11_init 22 = .ok (.aload_n 0, 1) := by decide +kernel
theorem dX11_init_23 : decode cX11_init 23 = .ok (.sipush 5680, 3) := by decide +kernel
theorem dX11_init_26 : decode cX11_init 26 = .ok (.newarray .int, 2) := by decide +kernel
theorem dX11_init_28 : decode cX11_init 28 = .ok (.putfield 16, 3) := by decide +kernel
theorem dX11_init_31 : decode cX11_init 31 = .ok (.aload_n 0, 1) := by decide +kernel
theorem dX11_init_32 : decode cX11_init 32 = .ok (.bipush 6, 2) := by decide +kernel
theorem dX11_init_34 : decode cX11_init 34 = .ok (.newarray .int, 2) := by decide +kernel
theorem dX11_init_36 : decode cX11_init 36 = .ok (.putfield 19, 3) := by decide +kernel
theorem dX11_init_39 : decode cX11_init 39 = .ok (.aload_n 0, 1) := by decide +kernel
theorem dX11_init_40 : decode cX11_init 40 = .ok (.iconst 4, 1) := by decide +kernel
theorem dX11_init_41 : decode cX11_init 41 = .ok (.newarray .int, 2) := by decide +kernel
theorem dX11_init_43 : decode cX11_init 43 = .ok (.putfield 22, 3) := by decide +kernel
theorem dX11_init_46 : decode cX11_init 46 = .ok (.aload_n 0, 1) := by decide +kernel
theorem dX11_init_47 : decode cX11_init 47 = .ok (.bipush 18, 2) := by decide +kernel
theorem dX11_init_49 : decode cX11_init 49 = .ok (.newarray .int, 2) := by decide +kernel
theorem dX11_init_51 : decode cX11_init 51 = .ok (.putfield 25, 3) := by decide +kernel
theorem dX11_init_54 : decode cX11_init 54 = .ok (.aload_n 0, 1) := by decide +kernel
theorem dX11_init_55 : decode cX11_init 55 = .ok (.sipush 1200, 3) := by decide +kernel
theorem dX11_init_58 : decode cX11_init 58 = .ok (.newarray .int, 2) := by decide +kernel
theorem dX11_init_60 : decode cX11_init 60 = .ok (.putfield 28, 3) := by decide +kernel
theorem dX11_init_63 : decode cX11_init 63 = .ok (.aload_n 0, 1) := by decide +kernel
theorem dX11_init_64 : decode cX11_init 64 = .ok (.sipush 1200, 3) := by decide +kernel
theorem dX11_init_67 : decode cX11_init 67 = .ok (.newarray .int, 2) := by decide +kernel
theorem dX11_init_69 : decode cX11_init 69 = .ok (.putfield 31, 3) := by decide +kernel
theorem dX11_init_72 : decode cX11_init 72 = .ok (.aload_n 0, 1) := by decide +kernel
theorem dX11_init_73 : decode cX11_init 73 = .ok (.iconst 3, 1) := by decide +kernel
theorem dX11_init_74 : decode cX11_init 74 = .ok (.newarray .int, 2) := by decide +kernel
theorem dX11_init_76 : decode cX11_init 76 = .ok (.putfield 34, 3) := by decide +kernel
theorem dX11_init_79 : decode cX11_init 79 = .ok (.aload_n 0, 1) := by decide +kernel
theorem dX11_init_80 : decode cX11_init 80 = .ok (.sipush 400, 3) := by decide +kernel
theorem dX11_init_83 : decode cX11_init 83 = .ok (.newarray .byte, 2) := by decide +kernel
theorem dX11_init_85 : decode cX11_init 85 = .ok (.putfield 37, 3) := by decide +kernel
theorem dX11_init_88 : decode cX11_init 88 = .ok (.aload_n 0, 1) := by decide +kernel
theorem dX11_init_89 : decode cX11_init 89 = .ok (.iconst (-1), 1) := by decide +kernel
theorem dX11_init_90 : decode cX11_init 90 = .ok (.putfield 41, 3) := by decide +kernel
theorem dX11_init_93 : decode cX11_init 93 = .ok (.aload_n 0, 1) := by decide +kernel
theorem dX11_init_94 : decode cX11_init 94 = .ok (.bipush 6, 2) := by decide +kernel
theorem dX11_init_96 : decode cX11_init 96 = .ok (.newarray .int, 2) := by decide +kernel
theorem dX11_init_98 : decode cX11_init 98 = .ok (.putfield 45, 3) := by decide +kernel
theorem dX11_init_101 : decode cX11_init 101 = .ok (.aload_n 0, 1) := by decide +kernel
theorem dX11_init_102 : decode cX11_init 102 = .ok (.iconst 4, 1) := by decide +kernel
theorem dX11_init_103 : decode cX11_init 103 = .ok (.newarray .int, 2) := by decide +kernel
theorem dX11_init_105 : decode cX11_init 105 = .ok (.putfield 48, 3) := by decide +kernel
theorem dX11_init_108 : decode cX11_init 108 = .ok (.aload_n 0, 1) := by decide +kernel
theorem dX11_init_109 : decode cX11_init 109 = .ok (.bipush 18, 2) := by decide +kernel
theorem dX11_init_111 : decode cX11_init 111 = .ok (.newarray .int, 2) := by decide +kernel
theorem dX11_init_113 : decode cX11_init 113 = .ok (.putfield 51, 3) := by decide +kernel
theorem dX11_init_116 : decode cX11_init 116 = .ok (.aload_n 0, 1) := by decide +kernel
theorem dX11_init_117 : decode cX11_init 117 = .ok (.sipush 1200, 3) := by decide +kernel
theorem dX11_init_120 : decode cX11_init 120 = .ok (.newarray .int, 2) := by decide +kernel
theorem dX11_init_122 : decode cX11_init 122 = .ok (.putfield 54, 3) := by decide +kernel
theorem dX11_init_125 : decode cX11_init 125 = .ok (.aload_n 0, 1) := by decide +kernel
theorem dX11_init_126 : decode cX11_init 126 = .ok (.sipush 1200, 3) := by decide +kernel
theorem dX11_init_129 : decode cX11_init 129 = .ok (.newarray .int, 2) := by decide +kernel
theorem dX11_init_131 : decode cX11_init 131 = .ok (.putfield 57, 3) := by decide +kernel
theorem dX11_init_134 : decode cX11_init 134 = .ok (.aload_n 0, 1) := by decide +kernel
theorem dX11_init_135 : decode cX11_init 135 = .ok (.iconst 3, 1) := by decide +kernel
theorem dX11_init_136 : decode cX11_init 136 = .ok (.newarray .int, 2) := by decide +kernel
theorem dX11_init_138 : decode cX11_init 138 = .ok (.putfield 60, 3) := by decide +kernel
theorem dX11_init_141 : decode cX11_init 141 = .ok (.aload_n 0, 1) := by decide +kernel
theorem dX11_init_142 : decode cX11_init 142 = .ok (.sipush 410, 3) := by decide +kernel
theorem dX11_init_145 : decode cX11_init 145 = .ok (.newarray .int, 2) := by decide +kernel
theorem dX11_init_147 : decode cX11_init 147 = .ok (.putfield 63, 3) := by decide +kernel
theorem dX11_init_150 : decode cX11_init 150 = .ok (.aload_n 0, 1) := by decide +kernel
theorem dX11_init_151 : decode cX11_init 151 = .ok (.bipush 40, 2) := by decide +kernel
theorem dX11_init_153 : decode cX11_init 153 = .ok (.newarray .int, 2) := by decide +kernel
theorem dX11_init_155 : decode cX11_init 155 = .ok (.putfield 66, 3) := by decide +kernel
theorem dX11_init_158 : decode cX11_init 158 = .ok (.aload_n 0, 1) := by decide +kernel
theorem dX11_init_159 : decode cX11_init 159 = .ok (.bipush 40, 2) := by decide +kernel
theorem dX11_init_161 : decode cX11_init 161 = .ok (.newarray .int, 2) := by decide +kernel
theorem dX11_init_163 : decode cX11_init 163 = .ok (.putfield 69, 3) := by decide +kernel
theorem dX11_init_166 : decode cX11_init 166 = .ok (.aload_n 0, 1) := by decide +kernel
theorem dX11_init_167 : decode cX11_init 167 = .ok (.bipush 40, 2) := by decide +kernel
theorem dX11_init_169 : decode cX11_init 169 = .ok (.newarray .boolean, 2) := by decide +kernel
theorem dX11_init_171 : decode cX11_init 171 = .ok (.putfield 72, 3) := by decide +kernel
theorem dX11_init_174 : decode cX11_init 174 = .ok (.aload_n 0, 1) := by decide +kernel
theorem dX11_init_175 : decode cX11_init 175 = .ok (.bipush 40, 2) := by decide +kernel
theorem dX11_init_177 : decode cX11_init 177 = .ok (.newarray .boolean, 2) := by decide +kernel
theorem dX11_init_179 : decode cX11_init 179 = .ok (.putfield 76, 3) := by decide +kernel
theorem dX11_init_182 : decode cX11_init 182 = .ok (.aload_n 0, 1) := by decide +kernel
theorem dX11_init_183 : decode cX11_init 183 = .ok (.iconst 4, 1) := by decide +kernel
theorem dX11_init_184 : decode cX11_init 184 = .ok (.newarray .int, 2) := by decide +kernel
theorem dX11_init_186 : decode cX11_init 186 = .ok (.putfield 79, 3) := by decide +kernel
theorem dX11_init_189 : decode cX11_init 189 = .ok (.aload_n 0, 1) := by decide +kernel
theorem dX11_init_190 : decode cX11_init 190 = .ok (.sipush 400, 3) := by decide +kernel
theorem dX11_init_193 : decode cX11_init 193 = .ok (.newarray .long, 2) := by decide +kernel
theorem dX11_init_195 : decode cX11_init 195 = .ok (.putfield 82, 3) := by decide +kernel
theorem dX11_init_198 : decode cX11_init 198 = .ok (.aload_n 0, 1) := by decide +kernel
theorem dX11_init_199 : decode cX11_init 199 = .ok (.bipush 40, 2) := by decide +kernel
theorem dX11_init_201 : decode cX11_init 201 = .ok (.newarray .long, 2) := by decide +kernel
theorem dX11_init_203 : decode cX11_init 203 = .ok (.putfield 86, 3) := by decide +kernel
theorem dX11_init_206 : decode cX11_init 206 = .ok (.aload_n 0, 1) := by decide +kernel
theorem dX11_init_207 : decode cX11_init 207 = .ok (.bipush 40, 2) := by decide +kernel
theorem dX11_init_209 : decode cX11_init 209 = .ok (.newarray .int, 2) := by decide +kernel
theorem dX11_init_211 : decode cX11_init 211 = .ok (.putfield 89, 3) := by decide +kernel
theorem dX11_init_214 : decode cX11_init 214 = .ok (.aload_n 0, 1) := by decide +kernel
theorem dX11_init_215 : decode cX11_init 215 = .ok (.bipush 40, 2) := by decide +kernel
theorem dX11_init_217 : decode cX11_init 217 = .ok (.newarray .int, 2) := by decide +kernel
theorem dX11_init_219 : decode cX11_init 219 = .ok (.putfield 92, 3) := by decide +kernel
theorem dX11_init_222 : decode cX11_init 222 = .ok (.aload_n 0, 1) := by decide +kernel
theorem dX11_init_223 : decode cX11_init 223 = .ok (.bipush 40, 2) := by decide +kernel
theorem dX11_init_225 : decode cX11_init 225 = .ok (.newarray .long, 2) := by decide +kernel
theorem dX11_init_227 : decode cX11_init 227 = .ok (.putfield 95, 3) := by decide +kernel
theorem dX11_init_230 : decode cX11_init 230 = .ok (.aload_n 0, 1) := by decide +kernel
theorem dX11_init_231 : decode cX11_init 231 = .ok (.bipush 40, 2) := by decide +kernel
theorem dX11_init_233 : decode cX11_init 233 = .ok (.newarray .long, 2) := by decide +kernel
theorem dX11_init_235 : decode cX11_init 235 = .ok (.putfield 98, 3) := by decide +kernel
theorem dX11_init_238 : decode cX11_init 238 = .ok (.aload_n 0, 1) := by decide +kernel
theorem dX11_init_239 : decode cX11_init 239 = .ok (.bipush 60, 2) := by decide +kernel
theorem dX11_init_241 : decode cX11_init 241 = .ok (.newarray .int, 2) := by decide +kernel
theorem dX11_init_243 : decode cX11_init 243 = .ok (.putfield 101, 3) := by decide +kernel
theorem dX11_init_246 : decode cX11_init 246 = .ok (.aload_n 0, 1) := by decide +kernel
theorem dX11_init_247 : decode cX11_init 247 = .ok (.getfield 7, 3) := by decide +kernel
theorem dX11_init_250 : decode cX11_init 250 = .ok (.bipush 32, 2) := by decide +kernel
theorem dX11_init_252 : decode cX11_init 252 = .ok (.bipush 10, 2) := by decide +kernel
theorem dX11_init_254 : decode cX11_init 254 = .ok (.iastore, 1) := by decide +kernel
theorem dX11_init_255 : decode cX11_init 255 = .ok (.return_, 1) := by decide +kernel
theorem dX11_thrown_0 : decode cX11_thrown 0 = .ok (.aload_n 0, 1) := by decide +kernel
theorem dX11_thrown_1 : decode cX11_thrown 1 = .ok (.getfield 104, 3) := by decide +kernel
theorem dX11_thrown_4 : decode cX11_thrown 4 = .ok (.ireturn, 1) := by decide +kernel
theorem dX11_isIn_0 : decode cX11_isIn 0 = .ok (.lload_n 0, 1) := by decide +kernel
theorem dX11_isIn_1 : decode cX11_isIn 1 = .ok (.lload_n 2, 1) := by decide +kernel
theorem dX11_isIn_2 : decode cX11_isIn 2 = .ok (.lcmp, 1) := by decide +kernel
theorem dX11_isIn_3 : decode cX11_isIn 3 = .ok (.ifCond .lt 14, 3) := by decide +kernel
theorem dX11_isIn_6 : decode cX11_isIn 6 = .ok (.lload_n 0, 1) := by decide +kernel
theorem dX11_isIn_7 : decode cX11_isIn 7 = .ok (.lload 4, 2) := by decide +kernel
theorem dX11_isIn_9 : decode cX11_isIn 9 = .ok (.lcmp, 1) := by decide +kernel
theorem dX11_isIn_10 : decode cX11_isIn 10 = .ok (.ifCond .gt 7, 3) := by decide +kernel
theorem dX11_isIn_13 : decode cX11_isIn 13 = .ok (.iconst 1, 1) := by decide +kernel
theorem dX11_isIn_14 : decode cX11_isIn 14 = .ok (.goto 4, 3) := by decide +kernel
theorem dX11_isIn_17 : decode cX11_isIn 17 = .ok (.iconst 0, 1) := by decide +kernel
theorem dX11_isIn_18 : decode cX11_isIn 18 = .ok (.ireturn, 1) := by decide +kernel
theorem dX11_fails_0 : decode cX11_fails 0 = .ok (.aload_n 0, 1) := by decide +kernel
theorem dX11_fails_1 : decode cX11_fails 1 = .ok (.iload_n 1, 1) := by decide +kernel
theorem dX11_fails_2 : decode cX11_fails 2 = .ok (.putfield 104, 3) := by decide +kernel
theorem dX11_fails_5 : decode cX11_fails 5 = .ok (.iconst 0, 1) := by decide +kernel
theorem dX11_fails_6 : decode cX11_fails 6 = .ok (.ireturn, 1) := by decide +kernel
theorem dX11_feed_0 : decode cX11_feed 0 = .ok (.aload_n 0, 1) := by decide +kernel
theorem dX11_feed_1 : decode cX11_feed 1 = .ok (.iconst 0, 1) := by decide +kernel
theorem dX11_feed_2 : decode cX11_feed 2 = .ok (.putfield 104, 3) := by decide +kernel
theorem dX11_feed_5 : decode cX11_feed 5 = .ok (.aload_n 0, 1) := by decide +kernel
theorem dX11_feed_6 : decode cX11_feed 6 = .ok (.getfield 107, 3) := by decide +kernel
theorem dX11_feed_9 : decode cX11_feed 9 = .ok (.bipush 20, 2) := by decide +kernel
theorem dX11_feed_11 : decode cX11_feed 11 = .ok (.iadd, 1) := by decide +kernel
theorem dX11_feed_12 : decode cX11_feed 12 = .ok (.sipush 400, 3) := by decide +kernel
theorem dX11_feed_15 : decode cX11_feed 15 = .ok (.if_icmp .le 5, 3) := by decide +kernel
theorem dX11_feed_18 : decode cX11_feed 18 = .ok (.iconst (-1), 1) := by decide +kernel
theorem dX11_feed_19 : decode cX11_feed 19 = .ok (.ireturn, 1) := by decide +kernel
theorem dX11_feed_20 : decode cX11_feed 20 = .ok (.iconst 0, 1) := by decide +kernel
theorem dX11_feed_21 : decode cX11_feed 21 = .ok (.istore 6, 2) := by decide +kernel
theorem dX11_feed_23 : decode cX11_feed 23 = .ok (.iload 6, 2) := by decide +kernel
theorem dX11_feed_25 : decode cX11_feed 25 = .ok (.bipush 20, 2) := by decide +kernel
theorem dX11_feed_27 : decode cX11_feed 27 = .ok (.if_icmp .ge 90, 3) := by decide +kernel
theorem dX11_feed_30 : decode cX11_feed 30 = .ok (.iload 6, 2) := by decide +kernel
theorem dX11_feed_32 : decode cX11_feed 32 = .ok (.iconst 4, 1) := by decide +kernel
theorem dX11_feed_33 : decode cX11_feed 33 = .ok (.if_icmp .ge 7, 3) := by decide +kernel
theorem dX11_feed_36 : decode cX11_feed 36 = .ok (.iload_n 1, 1) := by decide +kernel
theorem dX11_feed_37 : decode cX11_feed 37 = .ok (.goto 39, 3) := by decide +kernel
theorem dX11_feed_40 : decode cX11_feed 40 = .ok (.iload 6, 2) := by decide +kernel
theorem dX11_feed_42 : decode cX11_feed 42 = .ok (.bipush 8, 2) := by decide +kernel
theorem dX11_feed_44 : decode cX11_feed 44 = .ok (.if_icmp .ge 7, 3) := by decide +kernel
theorem dX11_feed_47 : decode cX11_feed 47 = .ok (.iload_n 2, 1) := by decide +kernel
theorem dX11_feed_48 : decode cX11_feed 48 = .ok (.goto 28, 3) := by decide +kernel
theorem dX11_feed_51 : decode cX11_feed 51 = .ok (.iload 6, 2) := by decide +kernel
theorem dX11_feed_53 : decode cX11_feed 53 = .ok (.bipush 12, 2) := by decide +kernel
theorem dX11_feed_55 : decode cX11_feed 55 = .ok (.if_icmp .ge 7, 3) := by decide +kernel
theorem dX11_feed_58 : decode cX11_feed 58 = .ok (.iload_n 3, 1) := by decide +kernel
theorem dX11_feed_59 : decode cX11_feed 59 = .ok (.goto 17, 3) := by decide +kernel
theorem dX11_feed_62 : decode cX11_feed 62 = .ok (.iload 6, 2) := by decide +kernel
theorem dX11_feed_64 : decode cX11_feed 64 = .ok (.bipush 16, 2) := by decide +kernel
theorem dX11_feed_66 : decode cX11_feed 66 = .ok (.if_icmp .ge 8, 3) := by decide +kernel
theorem dX11_feed_69 : decode cX11_feed 69 = .ok (.iload 4, 2) := by decide +kernel
theorem dX11_feed_71 : decode cX11_feed 71 = .ok (.goto 5, 3) := by decide +kernel
theorem dX11_feed_74 : decode cX11_feed 74 = .ok (.iload 5, 2) := by decide +kernel
theorem dX11_feed_76 : decode cX11_feed 76 = .ok (.istore 7, 2) := by decide +kernel
theorem dX11_feed_78 : decode cX11_feed 78 = .ok (.aload_n 0, 1) := by decide +kernel
theorem dX11_feed_79 : decode cX11_feed 79 = .ok (.getfield 37, 3) := by decide +kernel
theorem dX11_feed_82 : decode cX11_feed 82 = .ok (.aload_n 0, 1) := by decide +kernel
theorem dX11_feed_83 : decode cX11_feed 83 = .ok (.getfield 107, 3) := by decide +kernel
theorem dX11_feed_86 : decode cX11_feed 86 = .ok (.iload 7, 2) := by decide +kernel
theorem dX11_feed_88 : decode cX11_feed 88 = .ok (.bipush 24, 2) := by decide +kernel
theorem dX11_feed_90 : decode cX11_feed 90 = .ok (.bipush 8, 2) := by decide +kernel
theorem dX11_feed_92 : decode cX11_feed 92 = .ok (.iload 6, 2) := by decide +kernel
theorem dX11_feed_94 : decode cX11_feed 94 = .ok (.iconst 4, 1) := by decide +kernel
theorem dX11_feed_95 : decode cX11_feed 95 = .ok (.irem, 1) := by decide +kernel
theorem dX11_feed_96 : decode cX11_feed 96 = .ok (.imul, 1) := by decide +kernel
theorem dX11_feed_97 : decode cX11_feed 97 = .ok (.isub, 1) := by decide +kernel
theorem dX11_feed_98 : decode cX11_feed 98 = .ok (.ishr, 1) := by decide +kernel
theorem dX11_feed_99 : decode cX11_feed 99 = .ok (.i2b, 1) := by decide +kernel
theorem dX11_feed_100 : decode cX11_feed 100 = .ok (.bastore, 1) := by decide +kernel
theorem dX11_feed_101 : decode cX11_feed 101 = .ok (.aload_n 0, 1) := by decide +kernel
theorem dX11_feed_102 : decode cX11_feed 102 = .ok (.dup, 1) := by decide +kernel
theorem dX11_feed_103 : decode cX11_feed 103 = .ok (.getfield 107, 3) := by decide +kernel
theorem dX11_feed_106 : decode cX11_feed 106 = .ok (.iconst 1, 1) := by decide +kernel
theorem dX11_feed_107 : decode cX11_feed 107 = .ok (.iadd, 1) := by decide +kernel
theorem dX11_feed_108 : decode cX11_feed 108 = .ok (.putfield 107, 3) := by decide +kernel
theorem dX11_feed_111 : decode cX11_feed 111 = .ok (.iinc 6 1, 3) := by decide +kernel
theorem dX11_feed_114 : decode cX11_feed 114 = .ok (.goto (-91), 3) := by decide +kernel
theorem dX11_feed_117 : decode cX11_feed 117 = .ok (.aload_n 0, 1) := by decide +kernel
theorem dX11_feed_118 : decode cX11_feed 118 = .ok (.getfield 107, 3) := by decide +kernel
theorem dX11_feed_121 : decode cX11_feed 121 = .ok (.ireturn, 1) := by decide +kernel
theorem dX11_end_0 : decode cX11_end 0 = .ok (.aload_n 0, 1) := by decide +kernel
theorem dX11_end_1 : decode cX11_end 1 = .ok (.iconst 0, 1) := by decide +kernel
theorem dX11_end_2 : decode cX11_end 2 = .ok (.putfield 104, 3) := by decide +kernel
theorem dX11_end_5 : decode cX11_end 5 = .ok (.iload_n 1, 1) := by decide +kernel
theorem dX11_end_6 : decode cX11_end 6 = .ok (.ifCond .lt 11, 3) := by decide +kernel
theorem dX11_end_9 : decode cX11_end 9 = .ok (.iload_n 1, 1) := by decide +kernel
theorem dX11_end_10 : decode cX11_end 10 = .ok (.aload_n 0, 1) := by decide +kernel
theorem dX11_end_11 : decode cX11_end 11 = .ok (.getfield 107, 3) := by decide +kernel
theorem dX11_end_14 : decode cX11_end 14 = .ok (.if_icmp .le 5, 3) := by decide +kernel
theorem dX11_end_17 : decode cX11_end 17 = .ok (.iconst 0, 1) := by decide +kernel
theorem dX11_end_18 : decode cX11_end 18 = .ok (.ireturn, 1) := by decide +kernel
theorem dX11_end_19 : decode cX11_end 19 = .ok (.aload_n 0, 1) := by decide +kernel
theorem dX11_end_20 : decode cX11_end 20 = .ok (.iload_n 1, 1) := by decide +kernel
theorem dX11_end_21 : decode cX11_end 21 = .ok (.putfield 107, 3) := by decide +kernel
theorem dX11_end_24 : decode cX11_end 24 = .ok (.iconst 1, 1) := by decide +kernel
theorem dX11_end_25 : decode cX11_end 25 = .ok (.ireturn, 1) := by decide +kernel
theorem dX11_isWrong_0 : decode cX11_isWrong 0 = .ok (.aload_n 0, 1) := by decide +kernel
theorem dX11_isWrong_1 : decode cX11_isWrong 1 = .ok (.getfield 41, 3) := by decide +kernel
theorem dX11_isWrong_4 : decode cX11_isWrong 4 = .ok (.iconst (-1), 1) := by decide +kernel
theorem dX11_isWrong_5 : decode cX11_isWrong 5 = .ok (.if_icmp .eq 7, 3) := by decide +kernel
theorem dX11_isWrong_8 : decode cX11_isWrong 8 = .ok (.iconst 1, 1) := by decide +kernel
theorem dX11_isWrong_9 : decode cX11_isWrong 9 = .ok (.goto 4, 3) := by decide +kernel
theorem dX11_isWrong_12 : decode cX11_isWrong 12 = .ok (.iconst 0, 1) := by decide +kernel
theorem dX11_isWrong_13 : decode cX11_isWrong 13 = .ok (.ireturn, 1) := by decide +kernel
theorem dX11_wrong_0 : decode cX11_wrong 0 = .ok (.aload_n 0, 1) := by decide +kernel
theorem dX11_wrong_1 : decode cX11_wrong 1 = .ok (.aload_n 0, 1) := by decide +kernel
theorem dX11_wrong_2 : decode cX11_wrong 2 = .ok (.getfield 110, 3) := by decide +kernel
theorem dX11_wrong_5 : decode cX11_wrong 5 = .ok (.invokevirtual 113, 3) := by decide +kernel
theorem dX11_wrong_8 : decode cX11_wrong 8 = .ok (.return_, 1) := by decide +kernel
theorem dX11_wrongAt_0 : decode cX11_wrongAt 0 = .ok (.aload_n 0, 1) := by decide +kernel
theorem dX11_wrongAt_1 : decode cX11_wrongAt 1 = .ok (.aload_n 0, 1) := by decide +kernel
theorem dX11_wrongAt_2 : decode cX11_wrongAt 2 = .ok (.getfield 41, 3) := by decide +kernel
theorem dX11_wrongAt_5 : decode cX11_wrongAt 5 = .ok (.iconst (-1), 1) := by decide +kernel
theorem dX11_wrongAt_6 : decode cX11_wrongAt 6 = .ok (.if_icmp .ne 7, 3) := by decide +kernel
theorem dX11_wrongAt_9 : decode cX11_wrongAt 9 = .ok (.iload_n 1, 1) := by decide +kernel
theorem dX11_wrongAt_10 : decode cX11_wrongAt 10 = .ok (.goto 7, 3) := by decide +kernel
theorem dX11_wrongAt_13 : decode cX11_wrongAt 13 = .ok (.aload_n 0, 1) := by decide +kernel
theorem dX11_wrongAt_14 : decode cX11_wrongAt 14 = .ok (.getfield 41, 3) := by decide +kernel
theorem dX11_wrongAt_17 : decode cX11_wrongAt 17 = .ok (.putfield 41, 3) := by decide +kernel
theorem dX11_wrongAt_20 : decode cX11_wrongAt 20 = .ok (.return_, 1) := by decide +kernel
theorem dX11_here_0 : decode cX11_here 0 = .ok (.aload_n 0, 1) := by decide +kernel
theorem dX11_here_1 : decode cX11_here 1 = .ok (.getfield 110, 3) := by decide +kernel
theorem dX11_here_4 : decode cX11_here 4 = .ok (.aload_n 0, 1) := by decide +kernel
theorem dX11_here_5 : decode cX11_here 5 = .ok (.getfield 117, 3) := by decide +kernel
theorem dX11_here_8 : decode cX11_here 8 = .ok (.if_icmp .ge 58, 3) := by decide +kernel
theorem dX11_here_11 : decode cX11_here 11 = .ok (.aload_n 0, 1) := by decide +kernel
theorem dX11_here_12 : decode cX11_here 12 = .ok (.getfield 37, 3) := by decide +kernel
theorem dX11_here_15 : decode cX11_here 15 = .ok (.aload_n 0, 1) := by decide +kernel
theorem dX11_here_16 : decode cX11_here 16 = .ok (.getfield 110, 3) := by decide +kernel
theorem dX11_here_19 : decode cX11_here 19 = .ok (.baload, 1) := by decide +kernel
theorem dX11_here_20 : decode cX11_here 20 = .ok (.bipush 9, 2) := by decide +kernel
theorem dX11_here_22 : decode cX11_here 22 = .ok (.if_icmp .eq 31, 3) := by decide +kernel
theorem dX11_here_25 : decode cX11_here 25 = .ok (.aload_n 0, 1) := by decide +kernel
theorem dX11_here_26 : decode cX11_here 26 = .ok (.getfield 37, 3) := by decide +kernel
theorem dX11_here_29 : decode cX11_here 29 = .ok (.aload_n 0, 1) := by decide +kernel
theorem dX11_here_30 : decode cX11_here 30 = .ok (.getfield 110, 3) := by decide +kernel
theorem dX11_here_33 : decode cX11_here 33 = .ok (.baload, 1) := by decide +kernel
theorem dX11_here_34 : decode cX11_here 34 = .ok (.bipush 10, 2) := by decide +kernel
theorem dX11_here_36 : decode cX11_here 36 = .ok (.if_icmp .eq 17, 3) := by decide +kernel
theorem dX11_here_39 : decode cX11_here 39 = .ok (.aload_n 0, 1) := by decide +kernel
theorem dX11_here_40 : decode cX11_here 40 = .ok (.getfield 37, 3) := by decide +kernel
theorem dX11_here_43 : decode cX11_here 43 = .ok (.aload_n 0, 1) := by decide +kernel
theorem dX11_here_44 : decode cX11_here 44 = .ok (.getfield 110, 3) := by decide +kernel
theorem dX11_here_47 : decode cX11_here 47 = .ok (.baload, 1) := by decide +kernel
theorem dX11_here_48 : decode cX11_here 48 = .ok (.bipush 32, 2) := by decide +kernel
theorem dX11_here_50 : decode cX11_here 50 = .ok (.if_icmp .ne 16, 3) := by decide +kernel
theorem dX11_here_53 : decode cX11_here 53 = .ok (.aload_n 0, 1) := by decide +kernel
theorem dX11_here_54 : decode cX11_here 54 = .ok (.dup, 1) := by decide +kernel
theorem dX11_here_55 : decode cX11_here 55 = .ok (.getfield 110, 3) := by decide +kernel
theorem dX11_here_58 : decode cX11_here 58 = .ok (.iconst 1, 1) := by decide +kernel
theorem dX11_here_59 : decode cX11_here 59 = .ok (.iadd, 1) := by decide +kernel
theorem dX11_here_60 : decode cX11_here 60 = .ok (.putfield 110, 3) := by decide +kernel
theorem dX11_here_63 : decode cX11_here 63 = .ok (.goto (-63), 3) := by decide +kernel
theorem dX11_here_66 : decode cX11_here 66 = .ok (.aload_n 0, 1) := by decide +kernel
theorem dX11_here_67 : decode cX11_here 67 = .ok (.getfield 110, 3) := by decide +kernel
theorem dX11_here_70 : decode cX11_here 70 = .ok (.aload_n 0, 1) := by decide +kernel
theorem dX11_here_71 : decode cX11_here 71 = .ok (.getfield 117, 3) := by decide +kernel
theorem dX11_here_74 : decode cX11_here 74 = .ok (.if_icmp .ge 19, 3) := by decide +kernel
theorem dX11_here_77 : decode cX11_here 77 = .ok (.aload_n 0, 1) := by decide +kernel
theorem dX11_here_78 : decode cX11_here 78 = .ok (.getfield 37, 3) := by decide +kernel
theorem dX11_here_81 : decode cX11_here 81 = .ok (.aload_n 0, 1) := by decide +kernel
theorem dX11_here_82 : decode cX11_here 82 = .ok (.getfield 110, 3) := by decide +kernel
theorem dX11_here_85 : decode cX11_here 85 = .ok (.baload, 1) := by decide +kernel
theorem dX11_here_86 : decode cX11_here 86 = .ok (.sipush 255, 3) := by decide +kernel
theorem dX11_here_89 : decode cX11_here 89 = .ok (.iand, 1) := by decide +kernel
theorem dX11_here_90 : decode cX11_here 90 = .ok (.goto 4, 3) := by decide +kernel
theorem dX11_here_93 : decode cX11_here 93 = .ok (.iconst (-1), 1) := by decide +kernel
theorem dX11_here_94 : decode cX11_here 94 = .ok (.ireturn, 1) := by decide +kernel
theorem dX11_isLetter_0 : decode cX11_isLetter 0 = .ok (.iload_n 0, 1) := by decide +kernel
theorem dX11_isLetter_1 : decode cX11_isLetter 1 = .ok (.bipush 97, 2) := by decide +kernel
theorem dX11_isLetter_3 : decode cX11_isLetter 3 = .ok (.if_icmp .lt 13, 3) := by decide +kernel
theorem dX11_isLetter_6 : decode cX11_isLetter 6 = .ok (.iload_n 0, 1) := by decide +kernel
theorem dX11_isLetter_7 : decode cX11_isLetter 7 = .ok (.bipush 122, 2) := by decide +kernel
theorem dX11_isLetter_9 : decode cX11_isLetter 9 = .ok (.if_icmp .gt 7, 3) := by decide +kernel
theorem dX11_isLetter_12 : decode cX11_isLetter 12 = .ok (.iconst 1, 1) := by decide +kernel
theorem dX11_isLetter_13 : decode cX11_isLetter 13 = .ok (.goto 4, 3) := by decide +kernel
theorem dX11_isLetter_16 : decode cX11_isLetter 16 = .ok (.iconst 0, 1) := by decide +kernel
theorem dX11_isLetter_17 : decode cX11_isLetter 17 = .ok (.ireturn, 1) := by decide +kernel
theorem dX11_isDigitAt_0 : decode cX11_isDigitAt 0 = .ok (.iload_n 1, 1) := by decide +kernel
theorem dX11_isDigitAt_1 : decode cX11_isDigitAt 1 = .ok (.aload_n 0, 1) := by decide +kernel
theorem dX11_isDigitAt_2 : decode cX11_isDigitAt 2 = .ok (.getfield 117, 3) := by decide +kernel
theorem dX11_isDigitAt_5 : decode cX11_isDigitAt 5 = .ok (.if_icmp .ge 29, 3) := by decide +kernel
theorem dX11_isDigitAt_8 : decode cX11_isDigitAt 8 = .ok (.aload_n 0, 1) := by decide +kernel
theorem dX11_isDigitAt_9 : decode cX11_isDigitAt 9 = .ok (.getfield 37, 3) := by decide +kernel
theorem dX11_isDigitAt_12 : decode cX11_isDigitAt 12 = .ok (.iload_n 1, 1) := by decide +kernel
theorem dX11_isDigitAt_13 : decode cX11_isDigitAt 13 = .ok (.baload, 1) := by decide +kernel
theorem dX11_isDigitAt_14 : decode cX11_isDigitAt 14 = .ok (.bipush 48, 2) := by decide +kernel
theorem dX11_isDigitAt_16 : decode cX11_isDigitAt 16 = .ok (.if_icmp .lt 18, 3) := by decide +kernel
theorem dX11_isDigitAt_19 : decode cX11_isDigitAt 19 = .ok (.aload_n 0, 1) := by decide +kernel
theorem dX11_isDigitAt_20 : decode cX11_isDigitAt 20 = .ok (.getfield 37, 3) := by decide +kernel
theorem dX11_isDigitAt_23 : decode cX11_isDigitAt 23 = .ok (.iload_n 1, 1) := by decide +kernel
theorem dX11_isDigitAt_24 : decode cX11_isDigitAt 24 = .ok (.baload, 1) := by decide +kernel
theorem dX11_isDigitAt_25 : decode cX11_isDigitAt 25 = .ok (.bipush 57, 2) := by decide +kernel
theorem dX11_isDigitAt_27 : decode cX11_isDigitAt 27 = .ok (.if_icmp .gt 7, 3) := by decide +kernel
theorem dX11_isDigitAt_30 : decode cX11_isDigitAt 30 = .ok (.iconst 1, 1) := by decide +kernel
theorem dX11_isDigitAt_31 : decode cX11_isDigitAt 31 = .ok (.goto 4, 3) := by decide +kernel
theorem dX11_isDigitAt_34 : decode cX11_isDigitAt 34 = .ok (.iconst 0, 1) := by decide +kernel
theorem dX11_isDigitAt_35 : decode cX11_isDigitAt 35 = .ok (.ireturn, 1) := by decide +kernel
theorem dX11_wordLong_0 : decode cX11_wordLong 0 = .ok (.aload_n 0, 1) := by decide +kernel
theorem dX11_wordLong_1 : decode cX11_wordLong 1 = .ok (.invokevirtual 120, 3) := by decide +kernel
theorem dX11_wordLong_4 : decode cX11_wordLong 4 = .ok (.pop, 1) := by decide +kernel
theorem dX11_wordLong_5 : decode cX11_wordLong 5 = .ok (.aload_n 0, 1) := by decide +kernel
theorem dX11_wordLong_6 : decode cX11_wordLong 6 = .ok (.getfield 110, 3) := by decide +kernel
theorem dX11_wordLong_9 : decode cX11_wordLong 9 = .ok (.istore_n 1, 1) := by decide +kernel
theorem dX11_wordLong_10 : decode cX11_wordLong 10 = .ok (.iload_n 1, 1) := by decide +kernel
theorem dX11_wordLong_11 : decode cX11_wordLong 11 = .ok (.aload_n 0, 1) := by decide +kernel
theorem dX11_wordLong_12 : decode cX11_wordLong 12 = .ok (.getfield 117, 3) := by decide +kernel
theorem dX11_wordLong_15 : decode cX11_wordLong 15 = .ok (.if_icmp .ge 21, 3) := by decide +kernel
theorem dX11_wordLong_18 : decode cX11_wordLong 18 = .ok (.aload_n 0, 1) := by decide +kernel
theorem dX11_wordLong_19 : decode cX11_wordLong 19 = .ok (.getfield 37, 3) := by decide +kernel
theorem dX11_wordLong_22 : decode cX11_wordLong 22 = .ok (.iload_n 1, 1) := by decide +kernel
theorem dX11_wordLong_23 : decode cX11_wordLong 23 = .ok (.baload, 1) := by decide +kernel
theorem dX11_wordLong_24 : decode cX11_wordLong 24 = .ok (.invokestatic 124, 3) := by decide +kernel
theorem dX11_wordLong_27 : decode cX11_wordLong 27 = .ok (.ifCond .eq 9, 3) := by decide +kernel
theorem dX11_wordLong_30 : decode cX11_wordLong 30 = .ok (.iinc 1 1, 3) := by decide +kernel
theorem dX11_wordLong_33 : decode cX11_wordLong 33 = .ok (.goto (-23), 3) := by decide +kernel
theorem dX11_wordLong_36 : decode cX11_wordLong 36 = .ok (.iload_n 1, 1) := by decide +kernel
theorem dX11_wordLong_37 : decode cX11_wordLong 37 = .ok (.aload_n 0, 1) := by decide +kernel
theorem dX11_wordLong_38 : decode cX11_wordLong 38 = .ok (.getfield 110, 3) := by decide +kernel
theorem dX11_wordLong_41 : decode cX11_wordLong 41 = .ok (.isub, 1) := by decide +kernel
theorem dX11_wordLong_42 : decode cX11_wordLong 42 = .ok (.ireturn, 1) := by decide +kernel
theorem dX11_isWord_0 : decode cX11_isWord 0 = .ok (.aload_n 0, 1) := by decide +kernel
theorem dX11_isWord_1 : decode cX11_isWord 1 = .ok (.invokevirtual 128, 3) := by decide +kernel
theorem dX11_isWord_4 : decode cX11_isWord 4 = .ok (.aload_n 1, 1) := by decide +kernel
theorem dX11_isWord_5 : decode cX11_isWord 5 = .ok (.invokevirtual 131, 3) := by decide +kernel
theorem dX11_isWord_8 : decode cX11_isWord 8 = .ok (.if_icmp .eq 5, 3) := by decide +kernel
theorem dX11_isWord_11 : decode cX11_isWord 11 = .ok (.iconst 0, 1) := by decide +kernel
theorem dX11_isWord_12 : decode cX11_isWord 12 = .ok (.ireturn, 1) := by decide +kernel
theorem dX11_isWord_13 : decode cX11_isWord 13 = .ok (.iconst 0, 1) := by decide +kernel
theorem dX11_isWord_14 : decode cX11_isWord 14 = .ok (.istore_n 2, 1) := by decide +kernel
theorem dX11_isWord_15 : decode cX11_isWord 15 = .ok (.iload_n 2, 1) := by decide +kernel
theorem dX11_isWord_16 : decode cX11_isWord 16 = .ok (.aload_n 1, 1) := by decide +kernel
theorem dX11_isWord_17 : decode cX11_isWord 17 = .ok (.invokevirtual 131, 3) := by decide +kernel
theorem dX11_isWord_20 : decode cX11_isWord 20 = .ok (.if_icmp .ge 30, 3) := by decide +kernel
theorem dX11_isWord_23 : decode cX11_isWord 23 = .ok (.aload_n 0, 1) := by decide +kernel
theorem dX11_isWord_24 : decode cX11_isWord 24 = .ok (.getfield 37, 3) := by decide +kernel
theorem dX11_isWord_27 : decode cX11_isWord 27 = .ok (.aload_n 0, 1) := by decide +kernel
theorem dX11_isWord_28 : decode cX11_isWord 28 = .ok (.getfield 110, 3) := by decide +kernel
theorem dX11_isWord_31 : decode cX11_isWord 31 = .ok (.iload_n 2, 1) := by decide +kernel
theorem dX11_isWord_32 : decode cX11_isWord 32 = .ok (.iadd, 1) := by decide +kernel
theorem dX11_isWord_33 : decode cX11_isWord 33 = .ok (.baload, 1) := by decide +kernel
theorem dX11_isWord_34 : decode cX11_isWord 34 = .ok (.aload_n 1, 1) := by decide +kernel
theorem dX11_isWord_35 : decode cX11_isWord 35 = .ok (.iload_n 2, 1) := by decide +kernel
theorem dX11_isWord_36 : decode cX11_isWord 36 = .ok (.invokevirtual 136, 3) := by decide +kernel
theorem dX11_isWord_39 : decode cX11_isWord 39 = .ok (.if_icmp .eq 5, 3) := by decide +kernel
theorem dX11_isWord_42 : decode cX11_isWord 42 = .ok (.iconst 0, 1) := by decide +kernel
theorem dX11_isWord_43 : decode cX11_isWord 43 = .ok (.ireturn, 1) := by decide +kernel
theorem dX11_isWord_44 : decode cX11_isWord 44 = .ok (.iinc 2 1, 3) := by decide +kernel
theorem dX11_isWord_47 : decode cX11_isWord 47 = .ok (.goto (-32), 3) := by decide +kernel
theorem dX11_isWord_50 : decode cX11_isWord 50 = .ok (.iconst 1, 1) := by decide +kernel
theorem dX11_isWord_51 : decode cX11_isWord 51 = .ok (.ireturn, 1) := by decide +kernel
theorem dX11_takes_0 : decode cX11_takes 0 = .ok (.aload_n 0, 1) := by decide +kernel
theorem dX11_takes_1 : decode cX11_takes 1 = .ok (.invokevirtual 140, 3) := by decide +kernel
theorem dX11_takes_4 : decode cX11_takes 4 = .ok (.ifCond .ne 11, 3) := by decide +kernel
theorem dX11_takes_7 : decode cX11_takes 7 = .ok (.aload_n 0, 1) := by decide +kernel
theorem dX11_takes_8 : decode cX11_takes 8 = .ok (.aload_n 1, 1) := by decide +kernel
theorem dX11_takes_9 : decode cX11_takes 9 = .ok (.invokevirtual 144, 3) := by decide +kernel
theorem dX11_takes_12 : decode cX11_takes 12 = .ok (.ifCond .ne 5, 3) := by decide +kernel
theorem dX11_takes_15 : decode cX11_takes 15 = .ok (.iconst 0, 1) := by decide +kernel
theorem dX11_takes_16 : decode cX11_takes 16 = .ok (.ireturn, 1) := by decide +kernel
theorem dX11_takes_17 : decode cX11_takes 17 = .ok (.aload_n 0, 1) := by decide +kernel
theorem dX11_takes_18 : decode cX11_takes 18 = .ok (.dup, 1) := by decide +kernel
theorem dX11_takes_19 : decode cX11_takes 19 = .ok (.getfield 110, 3) := by decide +kernel
theorem dX11_takes_22 : decode cX11_takes 22 = .ok (.aload_n 1, 1) := by decide +kernel
theorem dX11_takes_23 : decode cX11_takes 23 = .ok (.invokevirtual 131, 3) := by decide +kernel
theorem dX11_takes_26 : decode cX11_takes 26 = .ok (.iadd, 1) := by decide +kernel
theorem dX11_takes_27 : decode cX11_takes 27 = .ok (.putfield 110, 3) := by decide +kernel
theorem dX11_takes_30 : decode cX11_takes 30 = .ok (.iconst 1, 1) := by decide +kernel
theorem dX11_takes_31 : decode cX11_takes 31 = .ok (.ireturn, 1) := by decide +kernel
theorem dX11_sign_0 : decode cX11_sign 0 = .ok (.aload_n 0, 1) := by decide +kernel
theorem dX11_sign_1 : decode cX11_sign 1 = .ok (.invokevirtual 140, 3) := by decide +kernel
theorem dX11_sign_4 : decode cX11_sign 4 = .ok (.ifCond .eq 4, 3) := by decide +kernel
theorem dX11_sign_7 : decode cX11_sign 7 = .ok (.return_, 1) := by decide +kernel
theorem dX11_sign_8 : decode cX11_sign 8 = .ok (.aload_n 0, 1) := by decide +kernel
theorem dX11_sign_9 : decode cX11_sign 9 = .ok (.invokevirtual 120, 3) := by decide +kernel
theorem dX11_sign_12 : decode cX11_sign 12 = .ok (.iload_n 1, 1) := by decide +kernel
theorem dX11_sign_13 : decode cX11_sign 13 = .ok (.if_icmp .ne 16, 3) := by decide +kernel
theorem dX11_sign_16 : decode cX11_sign 16 = .ok (.aload_n 0, 1) := by decide +kernel
theorem dX11_sign_17 : decode cX11_sign 17 = .ok (.dup, 1) := by decide +kernel
theorem dX11_sign_18 : decode cX11_sign 18 = .ok (.getfield 110, 3) := by decide +kernel
theorem dX11_sign_21 : decode cX11_sign 21 = .ok (.iconst 1, 1) := by decide +kernel
theorem dX11_sign_22 : decode cX11_sign 22 = .ok (.iadd, 1) := by decide +kernel
theorem dX11_sign_23 : decode cX11_sign 23 = .ok (.putfield 110, 3) := by decide +kernel
theorem dX11_sign_26 : decode cX11_sign 26 = .ok (.goto 7, 3) := by decide +kernel
theorem dX11_sign_29 : decode cX11_sign 29 = .ok (.aload_n 0, 1) := by decide +kernel
theorem dX11_sign_30 : decode cX11_sign 30 = .ok (.invokevirtual 148, 3) := by decide +kernel
theorem dX11_sign_33 : decode cX11_sign 33 = .ok (.return_, 1) := by decide +kernel
theorem dX11_number_0 : decode cX11_number 0 = .ok (.aload_n 0, 1) := by decide +kernel
theorem dX11_number_1 : decode cX11_number 1 = .ok (.invokevirtual 140, 3) := by decide +kernel
theorem dX11_number_4 : decode cX11_number 4 = .ok (.ifCond .eq 5, 3) := by decide +kernel
theorem dX11_number_7 : decode cX11_number 7 = .ok (.iload_n 2, 1) := by decide +kernel
theorem dX11_number_8 : decode cX11_number 8 = .ok (.ireturn, 1) := by decide +kernel
theorem dX11_number_9 : decode cX11_number 9 = .ok (.aload_n 0, 1) := by decide +kernel
theorem dX11_number_10 : decode cX11_number 10 = .ok (.invokevirtual 120, 3) := by decide +kernel
theorem dX11_number_13 : decode cX11_number 13 = .ok (.pop, 1) := by decide +kernel
theorem dX11_number_14 : decode cX11_number 14 = .ok (.aload_n 0, 1) := by decide +kernel
theorem dX11_number_15 : decode cX11_number 15 = .ok (.getfield 110, 3) := by decide +kernel
theorem dX11_number_18 : decode cX11_number 18 = .ok (.istore 4, 2) := by decide +kernel
theorem dX11_number_20 : decode cX11_number 20 = .ok (.iconst 0, 1) := by decide +kernel
theorem dX11_number_21 : decode cX11_number 21 = .ok (.istore 5, 2) := by decide +kernel
theorem dX11_number_23 : decode cX11_number 23 = .ok (.aload_n 0, 1) := by decide +kernel
theorem dX11_number_24 : decode cX11_number 24 = .ok (.aload_n 0, 1) := by decide +kernel
theorem dX11_number_25 : decode cX11_number 25 = .ok (.getfield 110, 3) := by decide +kernel
theorem dX11_number_28 : decode cX11_number 28 = .ok (.invokevirtual 151, 3) := by decide +kernel
theorem dX11_number_31 : decode cX11_number 31 = .ok (.ifCond .eq 52, 3) := by decide +kernel
theorem dX11_number_34 : decode cX11_number 34 = .ok (.aload_n 0, 1) := by decide +kernel
theorem dX11_number_35 : decode cX11_number 35 = .ok (.getfield 110, 3) := by decide +kernel
theorem dX11_number_38 : decode cX11_number 38 = .ok (.iload 4, 2) := by decide +kernel
theorem dX11_number_40 : decode cX11_number 40 = .ok (.isub, 1) := by decide +kernel
theorem dX11_number_41 : decode cX11_number 41 = .ok (.iconst 5, 1) := by decide +kernel
theorem dX11_number_42 : decode cX11_number 42 = .ok (.if_icmp .ge 24, 3) := by decide +kernel
theorem dX11_number_45 : decode cX11_number 45 = .ok (.bipush 10, 2) := by decide +kernel
theorem dX11_number_47 : decode cX11_number 47 = .ok (.iload 5, 2) := by decide +kernel
theorem dX11_number_49 : decode cX11_number 49 = .ok (.imul, 1) := by decide +kernel
theorem dX11_number_50 : decode cX11_number 50 = .ok (.aload_n 0, 1) := by decide +kernel
theorem dX11_number_51 : decode cX11_number 51 = .ok (.getfield 37, 3) := by decide +kernel
theorem dX11_number_54 : decode cX11_number 54 = .ok (.aload_n 0, 1) := by decide +kernel
theorem dX11_number_55 : decode cX11_number 55 = .ok (.getfield 110, 3) := by decide +kernel
theorem dX11_number_58 : decode cX11_number 58 = .ok (.baload, 1) := by decide +kernel
theorem dX11_number_59 : decode cX11_number 59 = .ok (.iadd, 1) := by decide +kernel
theorem dX11_number_60 : decode cX11_number 60 = .ok (.bipush 48, 2) := by decide +kernel
theorem dX11_number_62 : decode cX11_number 62 = .ok (.isub, 1) := by decide +kernel
theorem dX11_number_63 : decode cX11_number 63 = .ok (.goto 5, 3) := by decide +kernel
theorem dX11_number_66 : decode cX11_number 66 = .ok (.iload 5, 2) := by decide +kernel
theorem dX11_number_68 : decode cX11_number 68 = .ok (.istore 5, 2) := by decide +kernel
theorem dX11_number_70 : decode cX11_number 70 = .ok (.aload_n 0, 1) := by decide +kernel
theorem dX11_number_71 : decode cX11_number 71 = .ok (.dup, 1) := by decide +kernel
theorem dX11_number_72 : decode cX11_number 72 = .ok (.getfield 110, 3) := by decide +kernel
theorem dX11_number_75 : decode cX11_number 75 = .ok (.iconst 1, 1) := by decide +kernel
theorem dX11_number_76 : decode cX11_number 76 = .ok (.iadd, 1) := by decide +kernel
theorem dX11_number_77 : decode cX11_number 77 = .ok (.putfield 110, 3) := by decide +kernel
theorem dX11_number_80 : decode cX11_number 80 = .ok (.goto (-57), 3) := by decide +kernel
theorem dX11_number_83 : decode cX11_number 83 = .ok (.aload_n 0, 1) := by decide +kernel
theorem dX11_number_84 : decode cX11_number 84 = .ok (.getfield 110, 3) := by decide +kernel
theorem dX11_number_87 : decode cX11_number 87 = .ok (.iload 4, 2) := by decide +kernel
theorem dX11_number_89 : decode cX11_number 89 = .ok (.isub, 1) := by decide +kernel
theorem dX11_number_90 : decode cX11_number 90 = .ok (.istore 6, 2) := by decide +kernel
theorem dX11_number_92 : decode cX11_number 92 = .ok (.iload 6, 2) := by decide +kernel
theorem dX11_number_94 : decode cX11_number 94 = .ok (.ifCond .eq 21, 3) := by decide +kernel
theorem dX11_number_97 : decode cX11_number 97 = .ok (.iload 6, 2) := by decide +kernel
theorem dX11_number_99 : decode cX11_number 99 = .ok (.iload_n 1, 1) := by decide +kernel
theorem dX11_number_100 : decode cX11_number 100 = .ok (.if_icmp .gt 15, 3) := by decide +kernel
theorem dX11_number_103 : decode cX11_number 103 = .ok (.iload 5, 2) := by decide +kernel
theorem dX11_number_105 : decode cX11_number 105 = .ok (.iload_n 2, 1) := by decide +kernel
theorem dX11_number_106 : decode cX11_number 106 = .ok (.if_icmp .lt 9, 3) := by decide +kernel
theorem dX11_number_109 : decode cX11_number 109 = .ok (.iload 5, 2) := by decide +kernel
theorem dX11_number_111 : decode cX11_number 111 = .ok (.iload_n 3, 1) := by decide +kernel
theorem dX11_number_112 : decode cX11_number 112 = .ok (.if_icmp .le 11, 3) := by decide +kernel
theorem dX11_number_115 : decode cX11_number 115 = .ok (.aload_n 0, 1) := by decide +kernel
theorem dX11_number_116 : decode cX11_number 116 = .ok (.iload 4, 2) := by decide +kernel
theorem dX11_number_118 : decode cX11_number 118 = .ok (.invokevirtual 113, 3) := by decide +kernel
theorem dX11_number_121 : decode cX11_number 121 = .ok (.iload_n 2, 1) := by decide +kernel
theorem dX11_number_122 : decode cX11_number 122 = .ok (.ireturn, 1) := by decide +kernel
theorem dX11_number_123 : decode cX11_number 123 = .ok (.iload 5, 2) := by decide +kernel
theorem dX11_number_125 : decode cX11_number 125 = .ok (.ireturn, 1) := by decide +kernel
theorem dX11_numberIn_0 : decode cX11_numberIn 0 = .ok (.aload_n 0, 1) := by decide +kernel
theorem dX11_numberIn_1 : decode cX11_numberIn 1 = .ok (.iconst 5, 1) := by decide +kernel
theorem dX11_numberIn_2 : decode cX11_numberIn 2 = .ok (.iload_n 1, 1) := by decide +kernel
theorem dX11_numberIn_3 : decode cX11_numberIn 3 = .ok (.iload_n 2, 1) := by decide +kernel
theorem dX11_numberIn_4 : decode cX11_numberIn 4 = .ok (.invokevirtual 154, 3) := by decide +kernel
theorem dX11_numberIn_7 : decode cX11_numberIn 7 = .ok (.ireturn, 1) := by decide +kernel
theorem dX11_isKeyword_0 : decode cX11_isKeyword 0 = .ok (.aload_n 0, 1) := by decide +kernel
theorem dX11_isKeyword_1 : decode cX11_isKeyword 1 = .ok (.ldc 158, 2) := by decide +kernel
theorem dX11_isKeyword_3 : decode cX11_isKeyword 3 = .ok (.invokevirtual 144, 3) := by decide +kernel
theorem dX11_isKeyword_6 : decode cX11_isKeyword 6 = .ok (.ifCond .ne 74, 3) := by decide +kernel
theorem dX11_isKeyword_9 : decode cX11_isKeyword 9 = .ok (.aload_n 0, 1) := by decide +kernel
theorem dX11_isKeyword_10 : decode cX11_isKeyword 10 = .ok (.ldc 160, 2) := by decide +kernel
theorem dX11_isKeyword_12 : decode cX11_isKeyword 12 = .ok (.invokevirtual 144, 3) := by decide +kernel
theorem dX11_isKeyword_15 : decode cX11_isKeyword 15 = .ok (.ifCond .ne 65, 3) := by decide +kernel
theorem dX11_isKeyword_18 : decode cX11_isKeyword 18 = .ok (.aload_n 0, 1) := by decide +kernel
theorem dX11_isKeyword_19 : decode cX11_isKeyword 19 = .ok (.ldc 162, 2) := by decide +kernel
theorem dX11_isKeyword_21 : decode cX11_isKeyword 21 = .ok (.invokevirtual 144, 3) := by decide +kernel
theorem dX11_isKeyword_24 : decode cX11_isKeyword 24 = .ok (.ifCond .ne 56, 3) := by decide +kernel
theorem dX11_isKeyword_27 : decode cX11_isKeyword 27 = .ok (.aload_n 0, 1) := by decide +kernel
theorem dX11_isKeyword_28 : decode cX11_isKeyword 28 = .ok (.ldc 164, 2) := by decide +kernel
theorem dX11_isKeyword_30 : decode cX11_isKeyword 30 = .ok (.invokevirtual 144, 3) := by decide +kernel
theorem dX11_isKeyword_33 : decode cX11_isKeyword 33 = .ok (.ifCond .ne 47, 3) := by decide +kernel
theorem dX11_isKeyword_36 : decode cX11_isKeyword 36 = .ok (.aload_n 0, 1) := by decide +kernel
theorem dX11_isKeyword_37 : decode cX11_isKeyword 37 = .ok (.ldc 166, 2) := by decide +kernel
theorem dX11_isKeyword_39 : decode cX11_isKeyword 39 = .ok (.invokevirtual 144, 3) := by decide +kernel
theorem dX11_isKeyword_42 : decode cX11_isKeyword 42 = .ok (.ifCond .ne 38, 3) := by decide +kernel
theorem dX11_isKeyword_45 : decode cX11_isKeyword 45 = .ok (.aload_n 0, 1) := by decide +kernel
theorem dX11_isKeyword_46 : decode cX11_isKeyword 46 = .ok (.ldc 168, 2) := by decide +kernel
theorem dX11_isKeyword_48 : decode cX11_isKeyword 48 = .ok (.invokevirtual 144, 3) := by decide +kernel
theorem dX11_isKeyword_51 : decode cX11_isKeyword 51 = .ok (.ifCond .ne 29, 3) := by decide +kernel
theorem dX11_isKeyword_54 : decode cX11_isKeyword 54 = .ok (.aload_n 0, 1) := by decide +kernel
theorem dX11_isKeyword_55 : decode cX11_isKeyword 55 = .ok (.ldc 170, 2) := by decide +kernel
theorem dX11_isKeyword_57 : decode cX11_isKeyword 57 = .ok (.invokevirtual 144, 3) := by decide +kernel
theorem dX11_isKeyword_60 : decode cX11_isKeyword 60 = .ok (.ifCond .ne 20, 3) := by decide +kernel
theorem dX11_isKeyword_63 : decode cX11_isKeyword 63 = .ok (.aload_n 0, 1) := by decide +kernel
theorem dX11_isKeyword_64 : decode cX11_isKeyword 64 = .ok (.ldc 172, 2) := by decide +kernel
theorem dX11_isKeyword_66 : decode cX11_isKeyword 66 = .ok (.invokevirtual 144, 3) := by decide +kernel
theorem dX11_isKeyword_69 : decode cX11_isKeyword 69 = .ok (.ifCond .ne 11, 3) := by decide +kernel
theorem dX11_isKeyword_72 : decode cX11_isKeyword 72 = .ok (.aload_n 0, 1) := by decide +kernel
theorem dX11_isKeyword_73 : decode cX11_isKeyword 73 = .ok (.invokevirtual 174, 3) := by decide +kernel
theorem dX11_isKeyword_76 : decode cX11_isKeyword 76 = .ok (.iconst (-1), 1) := by decide +kernel
theorem dX11_isKeyword_77 : decode cX11_isKeyword 77 = .ok (.if_icmp .eq 7, 3) := by decide +kernel
theorem dX11_isKeyword_80 : decode cX11_isKeyword 80 = .ok (.iconst 1, 1) := by decide +kernel
theorem dX11_isKeyword_81 : decode cX11_isKeyword 81 = .ok (.goto 4, 3) := by decide +kernel
theorem dX11_isKeyword_84 : decode cX11_isKeyword 84 = .ok (.iconst 0, 1) := by decide +kernel
theorem dX11_isKeyword_85 : decode cX11_isKeyword 85 = .ok (.ireturn, 1) := by decide +kernel
theorem dX11_market_0 : decode cX11_market 0 = .ok (.aload_n 0, 1) := by decide +kernel
theorem dX11_market_1 : decode cX11_market 1 = .ok (.ldc 177, 2) := by decide +kernel
theorem dX11_market_3 : decode cX11_market 3 = .ok (.invokevirtual 144, 3) := by decide +kernel
theorem dX11_market_6 : decode cX11_market 6 = .ok (.ifCond .eq 7, 3) := by decide +kernel
theorem dX11_market_9 : decode cX11_market 9 = .ok (.iconst 0, 1) := by decide +kernel
theorem dX11_market_10 : decode cX11_market 10 = .ok (.goto 30, 3) := by decide +kernel
theorem dX11_market_13 : decode cX11_market 13 = .ok (.aload_n 0, 1) := by decide +kernel
theorem dX11_market_14 : decode cX11_market 14 = .ok (.ldc 179, 2) := by decide +kernel
theorem dX11_market_16 : decode cX11_market 16 = .ok (.invokevirtual 144, 3) := by decide +kernel
theorem dX11_market_19 : decode cX11_market 19 = .ok (.ifCond .eq 7, 3) := by decide +kernel
theorem dX11_market_22 : decode cX11_market 22 = .ok (.iconst 1, 1) := by decide +kernel
theorem dX11_market_23 : decode cX11_market 23 = .ok (.goto 17, 3) := by decide +kernel
theorem dX11_market_26 : decode cX11_market 26 = .ok (.aload_n 0, 1) := by decide +kernel
theorem dX11_market_27 : decode cX11_market 27 = .ok (.ldc 181, 2) := by decide +kernel
theorem dX11_market_29 : decode cX11_market 29 = .ok (.invokevirtual 144, 3) := by decide +kernel
theorem dX11_market_32 : decode cX11_market 32 = .ok (.ifCond .eq 7, 3) := by decide +kernel
theorem dX11_market_35 : decode cX11_market 35 = .ok (.iconst 2, 1) := by decide +kernel
theorem dX11_market_36 : decode cX11_market 36 = .ok (.goto 4, 3) := by decide +kernel
theorem dX11_market_39 : decode cX11_market 39 = .ok (.iconst (-1), 1) := by decide +kernel
theorem dX11_market_40 : decode cX11_market 40 = .ok (.ireturn, 1) := by decide +kernel
theorem dX11_nameHere_0 : decode cX11_nameHere 0 = .ok (.aload_n 0, 1) := by decide +kernel
theorem dX11_nameHere_1 : decode cX11_nameHere 1 = .ok (.invokevirtual 128, 3) := by decide +kernel
theorem dX11_nameHere_4 : decode cX11_nameHere 4 = .ok (.istore_n 1, 1) := by decide +kernel
theorem dX11_nameHere_5 : decode cX11_nameHere 5 = .ok (.aload_n 0, 1) := by decide +kernel
theorem dX11_nameHere_6 : decode cX11_nameHere 6 = .ok (.invokevirtual 140, 3) := by decide +kernel
theorem dX11_nameHere_9 : decode cX11_nameHere 9 = .ok (.ifCond .ne 21, 3) := by decide +kernel
theorem dX11_nameHere_12 : decode cX11_nameHere 12 = .ok (.iload_n 1, 1) := by decide +kernel
theorem dX11_nameHere_13 : decode cX11_nameHere 13 = .ok (.iconst 1, 1) := by decide +kernel
theorem dX11_nameHere_14 : decode cX11_nameHere 14 = .ok (.if_icmp .lt 16, 3) := by decide +kernel
theorem dX11_nameHere_17 : decode cX11_nameHere 17 = .ok (.iload_n 1, 1) := by decide +kernel
theorem dX11_nameHere_18 : decode cX11_nameHere 18 = .ok (.bipush 6, 2) := by decide +kernel
theorem dX11_nameHere_20 : decode cX11_nameHere 20 = .ok (.if_icmp .gt 10, 3) := by decide +kernel
theorem dX11_nameHere_23 : decode cX11_nameHere 23 = .ok (.aload_n 0, 1) := by decide +kernel
theorem dX11_nameHere_24 : decode cX11_nameHere 24 = .ok (.invokevirtual 183, 3) := by decide +kernel
theorem dX11_nameHere_27 : decode cX11_nameHere 27 = .ok (.ifCond .eq 5, 3) := by decide +kernel
theorem dX11_nameHere_30 : decode cX11_nameHere 30 = .ok (.iconst 0, 1) := by decide +kernel
theorem dX11_nameHere_31 : decode cX11_nameHere 31 = .ok (.ireturn, 1) := by decide +kernel
theorem dX11_nameHere_32 : decode cX11_nameHere 32 = .ok (.iconst 0, 1) := by decide +kernel
theorem dX11_nameHere_33 : decode cX11_nameHere 33 = .ok (.istore_n 2, 1) := by decide +kernel
theorem dX11_nameHere_34 : decode cX11_nameHere 34 = .ok (.iconst 0, 1) := by decide +kernel
theorem dX11_nameHere_35 : decode cX11_nameHere 35 = .ok (.istore_n 3, 1) := by decide +kernel
theorem dX11_nameHere_36 : decode cX11_nameHere 36 = .ok (.iload_n 3, 1) := by decide +kernel
theorem dX11_nameHere_37 : decode cX11_nameHere 37 = .ok (.iload_n 1, 1) := by decide +kernel
theorem dX11_nameHere_38 : decode cX11_nameHere 38 = .ok (.if_icmp .ge 28, 3) := by decide +kernel
theorem dX11_nameHere_41 : decode cX11_nameHere 41 = .ok (.iload_n 2, 1) := by decide +kernel
theorem dX11_nameHere_42 : decode cX11_nameHere 42 = .ok (.iconst 5, 1) := by decide +kernel
theorem dX11_nameHere_43 : decode cX11_nameHere 43 = .ok (.ishl, 1) := by decide +kernel
theorem dX11_nameHere_44 : decode cX11_nameHere 44 = .ok (.aload_n 0, 1) := by decide +kernel
theorem dX11_nameHere_45 : decode cX11_nameHere 45 = .ok (.getfield 37, 3) := by decide +kernel
theorem dX11_nameHere_48 : decode cX11_nameHere 48 = .ok (.aload_n 0, 1) := by decide +kernel
theorem dX11_nameHere_49 : decode cX11_nameHere 49 = .ok (.getfield 110, 3) := by decide +kernel
theorem dX11_nameHere_52 : decode cX11_nameHere 52 = .ok (.iload_n 3, 1) := by decide +kernel
theorem dX11_nameHere_53 : decode cX11_nameHere 53 = .ok (.iadd, 1) := by decide +kernel
theorem dX11_nameHere_54 : decode cX11_nameHere 54 = .ok (.baload, 1) := by decide +kernel
theorem dX11_nameHere_55 : decode cX11_nameHere 55 = .ok (.bipush 96, 2) := by decide +kernel
theorem dX11_nameHere_57 : decode cX11_nameHere 57 = .ok (.isub, 1) := by decide +kernel
theorem dX11_nameHere_58 : decode cX11_nameHere 58 = .ok (.ior, 1) := by decide +kernel
theorem dX11_nameHere_59 : decode cX11_nameHere 59 = .ok (.istore_n 2, 1) := by decide +kernel
theorem dX11_nameHere_60 : decode cX11_nameHere 60 = .ok (.iinc 3 1, 3) := by decide +kernel
theorem dX11_nameHere_63 : decode cX11_nameHere 63 = .ok (.goto (-27), 3) := by decide +kernel
theorem dX11_nameHere_66 : decode cX11_nameHere 66 = .ok (.iload_n 2, 1) := by decide +kernel
theorem dX11_nameHere_67 : decode cX11_nameHere 67 = .ok (.ireturn, 1) := by decide +kernel
theorem dX11_find_0 : decode cX11_find 0 = .ok (.iconst 0, 1) := by decide +kernel
theorem dX11_find_1 : decode cX11_find 1 = .ok (.istore_n 3, 1) := by decide +kernel
theorem dX11_find_2 : decode cX11_find 2 = .ok (.iload_n 3, 1) := by decide +kernel
theorem dX11_find_3 : decode cX11_find 3 = .ok (.iload_n 1, 1) := by decide +kernel
theorem dX11_find_4 : decode cX11_find 4 = .ok (.if_icmp .ge 18, 3) := by decide +kernel
theorem dX11_find_7 : decode cX11_find 7 = .ok (.aload_n 0, 1) := by decide +kernel
theorem dX11_find_8 : decode cX11_find 8 = .ok (.iload_n 3, 1) := by decide +kernel
theorem dX11_find_9 : decode cX11_find 9 = .ok (.iaload, 1) := by decide +kernel
theorem dX11_find_10 : decode cX11_find 10 = .ok (.iload_n 2, 1) := by decide +kernel
theorem dX11_find_11 : decode cX11_find 11 = .ok (.if_icmp .ne 5, 3) := by decide +kernel
theorem dX11_find_14 : decode cX11_find 14 = .ok (.iload_n 3, 1) := by decide +kernel
theorem dX11_find_15 : decode cX11_find 15 = .ok (.ireturn, 1) := by decide +kernel
theorem dX11_find_16 : decode cX11_find 16 = .ok (.iinc 3 1, 3) := by decide +kernel
theorem dX11_find_19 : decode cX11_find 19 = .ok (.goto (-17), 3) := by decide +kernel
theorem dX11_find_22 : decode cX11_find 22 = .ok (.iconst (-1), 1) := by decide +kernel
theorem dX11_find_23 : decode cX11_find 23 = .ok (.ireturn, 1) := by decide +kernel
theorem dX11_told_0 : decode cX11_told 0 = .ok (.aload_n 0, 1) := by decide +kernel
theorem dX11_told_1 : decode cX11_told 1 = .ok (.invokevirtual 186, 3) := by decide +kernel
theorem dX11_told_4 : decode cX11_told 4 = .ok (.istore_n 2, 1) := by decide +kernel
theorem dX11_told_5 : decode cX11_told 5 = .ok (.iload_n 2, 1) := by decide +kernel
theorem dX11_told_6 : decode cX11_told 6 = .ok (.ifCond .ne 7, 3) := by decide +kernel
theorem dX11_told_9 : decode cX11_told 9 = .ok (.iconst (-1), 1) := by decide +kernel
theorem dX11_told_10 : decode cX11_told 10 = .ok (.goto 34, 3) := by decide +kernel
theorem dX11_told_13 : decode cX11_told 13 = .ok (.iload_n 1, 1) := by decide +kernel
theorem dX11_told_14 : decode cX11_told 14 = .ok (.ifCond .eq 18, 3) := by decide +kernel
theorem dX11_told_17 : decode cX11_told 17 = .ok (.aload_n 0, 1) := by decide +kernel
theorem dX11_told_18 : decode cX11_told 18 = .ok (.getfield 48, 3) := by decide +kernel
theorem dX11_told_21 : decode cX11_told 21 = .ok (.aload_n 0, 1) := by decide +kernel
theorem dX11_told_22 : decode cX11_told 22 = .ok (.getfield 189, 3) := by decide +kernel
theorem dX11_told_25 : decode cX11_told 25 = .ok (.iload_n 2, 1) := by decide +kernel
theorem dX11_told_26 : decode cX11_told 26 = .ok (.invokestatic 192, 3) := by decide +kernel
theorem dX11_told_29 : decode cX11_told 29 = .ok (.goto 15, 3) := by decide +kernel
theorem dX11_told_32 : decode cX11_told 32 = .ok (.aload_n 0, 1) := by decide +kernel
theorem dX11_told_33 : decode cX11_told 33 = .ok (.getfield 45, 3) := by decide +kernel
theorem dX11_told_36 : decode cX11_told 36 = .ok (.aload_n 0, 1) := by decide +kernel
theorem dX11_told_37 : decode cX11_told 37 = .ok (.getfield 196, 3) := by decide +kernel
theorem dX11_told_40 : decode cX11_told 40 = .ok (.iload_n 2, 1) := by decide +kernel
theorem dX11_told_41 : decode cX11_told 41 = .ok (.invokestatic 192, 3) := by decide +kernel
theorem dX11_told_44 : decode cX11_told 44 = .ok (.istore_n 3, 1) := by decide +kernel
theorem dX11_told_45 : decode cX11_told 45 = .ok (.iload_n 3, 1) := by decide +kernel
theorem dX11_told_46 : decode cX11_told 46 = .ok (.iconst (-1), 1) := by decide +kernel
theorem dX11_told_47 : decode cX11_told 47 = .ok (.if_icmp .ne 9, 3) := by decide +kernel
theorem dX11_told_50 : decode cX11_told 50 = .ok (.aload_n 0, 1) := by decide +kernel
theorem dX11_told_51 : decode cX11_told 51 = .ok (.invokevirtual 148, 3) := by decide +kernel
theorem dX11_told_54 : decode cX11_told 54 = .ok (.iconst 0, 1) := by decide +kernel
theorem dX11_told_55 : decode cX11_told 55 = .ok (.ireturn, 1) := by decide +kernel
theorem dX11_told_56 : decode cX11_told 56 = .ok (.aload_n 0, 1) := by decide +kernel
theorem dX11_told_57 : decode cX11_told 57 = .ok (.dup, 1) := by decide +kernel
theorem dX11_told_58 : decode cX11_told 58 = .ok (.getfield 110, 3) := by decide +kernel
theorem dX11_told_61 : decode cX11_told 61 = .ok (.aload_n 0, 1) := by decide +kernel
theorem dX11_told_62 : decode cX11_told 62 = .ok (.invokevirtual 128, 3) := by decide +kernel
theorem dX11_told_65 : decode cX11_told 65 = .ok (.iadd, 1) := by decide +kernel
theorem dX11_told_66 : decode cX11_told 66 = .ok (.putfield 110, 3) := by decide +kernel
theorem dX11_told_69 : decode cX11_told 69 = .ok (.iload_n 3, 1) := by decide +kernel
theorem dX11_told_70 : decode cX11_told 70 = .ok (.ireturn, 1) := by decide +kernel
theorem dX11_fresh_0 : decode cX11_fresh 0 = .ok (.aload_n 0, 1) := by decide +kernel
theorem dX11_fresh_1 : decode cX11_fresh 1 = .ok (.invokevirtual 186, 3) := by decide +kernel
theorem dX11_fresh_4 : decode cX11_fresh 4 = .ok (.istore_n 2, 1) := by decide +kernel
theorem dX11_fresh_5 : decode cX11_fresh 5 = .ok (.iload_n 2, 1) := by decide +kernel
theorem dX11_fresh_6 : decode cX11_fresh 6 = .ok (.ifCond .eq 42, 3) := by decide +kernel
theorem dX11_fresh_9 : decode cX11_fresh 9 = .ok (.iload_n 1, 1) := by decide +kernel
theorem dX11_fresh_10 : decode cX11_fresh 10 = .ok (.ifCond .eq 18, 3) := by decide +kernel
theorem dX11_fresh_13 : decode cX11_fresh 13 = .ok (.aload_n 0, 1) := by decide +kernel
theorem dX11_fresh_14 : decode cX11_fresh 14 = .ok (.getfield 48, 3) := by decide +kernel
theorem dX11_fresh_17 : decode cX11_fresh 17 = .ok (.aload_n 0, 1) := by decide +kernel
theorem dX11_fresh_18 : decode cX11_fresh 18 = .ok (.getfield 189, 3) := by decide +kernel
theorem dX11_fresh_21 : decode cX11_fresh 21 = .ok (.iload_n 2, 1) := by decide +kernel
theorem dX11_fresh_22 : decode cX11_fresh 22 = .ok (.invokestatic 192, 3) := by decide +kernel
theorem dX11_fresh_25 : decode cX11_fresh 25 = .ok (.goto 15, 3) := by decide +kernel
theorem dX11_fresh_28 : decode cX11_fresh 28 = .ok (.aload_n 0, 1) := by decide +kernel
theorem dX11_fresh_29 : decode cX11_fresh 29 = .ok (.getfield 45, 3) := by decide +kernel
theorem dX11_fresh_32 : decode cX11_fresh 32 = .ok (.aload_n 0, 1) := by decide +kernel
theorem dX11_fresh_33 : decode cX11_fresh 33 = .ok (.getfield 196, 3) := by decide +kernel
theorem dX11_fresh_36 : decode cX11_fresh 36 = .ok (.iload_n 2, 1) := by decide +kernel
theorem dX11_fresh_37 : decode cX11_fresh 37 = .ok (.invokestatic 192, 3) := by decide +kernel
theorem dX11_fresh_40 : decode cX11_fresh 40 = .ok (.iconst (-1), 1) := by decide +kernel
theorem dX11_fresh_41 : decode cX11_fresh 41 = .ok (.if_icmp .eq 7, 3) := by decide +kernel
theorem dX11_fresh_44 : decode cX11_fresh 44 = .ok (.iconst 1, 1) := by decide +kernel
theorem dX11_fresh_45 : decode cX11_fresh 45 = .ok (.goto 4, 3) := by decide +kernel
theorem dX11_fresh_48 : decode cX11_fresh 48 = .ok (.iconst 0, 1) := by decide +kernel
theorem dX11_fresh_49 : decode cX11_fresh 49 = .ok (.istore_n 3, 1) := by decide +kernel
theorem dX11_fresh_50 : decode cX11_fresh 50 = .ok (.iload_n 2, 1) := by decide +kernel
theorem dX11_fresh_51 : decode cX11_fresh 51 = .ok (.ifCond .eq 7, 3) := by decide +kernel
theorem dX11_fresh_54 : decode cX11_fresh 54 = .ok (.iload_n 3, 1) := by decide +kernel
theorem dX11_fresh_55 : decode cX11_fresh 55 = .ok (.ifCond .eq 9, 3) := by decide +kernel
theorem dX11_fresh_58 : decode cX11_fresh 58 = .ok (.aload_n 0, 1) := by decide +kernel
theorem dX11_fresh_59 : decode cX11_fresh 59 = .ok (.invokevirtual 148, 3) := by decide +kernel
theorem dX11_fresh_62 : decode cX11_fresh 62 = .ok (.iconst 0, 1) := by decide +kernel
theorem dX11_fresh_63 : decode cX11_fresh 63 = .ok (.ireturn, 1) := by decide +kernel
theorem dX11_fresh_64 : decode cX11_fresh 64 = .ok (.aload_n 0, 1) := by decide +kernel
theorem dX11_fresh_65 : decode cX11_fresh 65 = .ok (.dup, 1) := by decide +kernel
theorem dX11_fresh_66 : decode cX11_fresh 66 = .ok (.getfield 110, 3) := by decide +kernel
theorem dX11_fresh_69 : decode cX11_fresh 69 = .ok (.aload_n 0, 1) := by decide +kernel
theorem dX11_fresh_70 : decode cX11_fresh 70 = .ok (.invokevirtual 128, 3) := by decide +kernel
theorem dX11_fresh_73 : decode cX11_fresh 73 = .ok (.iadd, 1) := by decide +kernel
theorem dX11_fresh_74 : decode cX11_fresh 74 = .ok (.putfield 110, 3) := by decide +kernel
theorem dX11_fresh_77 : decode cX11_fresh 77 = .ok (.iload_n 2, 1) := by decide +kernel
theorem dX11_fresh_78 : decode cX11_fresh 78 = .ok (.ireturn, 1) := by decide +kernel
theorem dX11_modelLine_0 : decode cX11_modelLine 0 = .ok (.aload_n 0, 1) := by decide +kernel
theorem dX11_modelLine_1 : decode cX11_modelLine 1 = .ok (.iconst 0, 1) := by decide +kernel
theorem dX11_modelLine_2 : decode cX11_modelLine 2 = .ok (.invokevirtual 199, 3) := by decide +kernel
theorem dX11_modelLine_5 : decode cX11_modelLine 5 = .ok (.istore_n 1, 1) := by decide +kernel
theorem dX11_modelLine_6 : decode cX11_modelLine 6 = .ok (.aload_n 0, 1) := by decide +kernel
theorem dX11_modelLine_7 : decode cX11_modelLine 7 = .ok (.iconst 1, 1) := by decide +kernel
theorem dX11_modelLine_8 : decode cX11_modelLine 8 = .ok (.sipush 9999, 3) := by decide +kernel
theorem dX11_modelLine_11 : decode cX11_modelLine 11 = .ok (.invokevirtual 203, 3) := by decide +kernel
theorem dX11_modelLine_14 : decode cX11_modelLine 14 = .ok (.istore_n 2, 1) := by decide +kernel
theorem dX11_modelLine_15 : decode cX11_modelLine 15 = .ok (.aload_n 0, 1) := by decide +kernel
theorem dX11_modelLine_16 : decode cX11_modelLine 16 = .ok (.iconst 0, 1) := by decide +kernel
theorem dX11_modelLine_17 : decode cX11_modelLine 17 = .ok (.bipush 99, 2) := by decide +kernel
theorem dX11_modelLine_19 : decode cX11_modelLine 19 = .ok (.invokevirtual 203, 3) := by decide +kernel
theorem dX11_modelLine_22 : decode cX11_modelLine 22 = .ok (.istore_n 3, 1) := by decide +kernel
theorem dX11_modelLine_23 : decode cX11_modelLine 23 = .ok (.aload_n 0, 1) := by decide +kernel
theorem dX11_modelLine_24 : decode cX11_modelLine 24 = .ok (.iconst 0, 1) := by decide +kernel
theorem dX11_modelLine_25 : decode cX11_modelLine 25 = .ok (.sipush 9999, 3) := by decide +kernel
theorem dX11_modelLine_28 : decode cX11_modelLine 28 = .ok (.invokevirtual 203, 3) := by decide +kernel
theorem dX11_modelLine_31 : decode cX11_modelLine 31 = .ok (.istore 4, 2) := by decide +kernel
theorem dX11_modelLine_33 : decode cX11_modelLine 33 = .ok (.aload_n 0, 1) := by decide +kernel
theorem dX11_modelLine_34 : decode cX11_modelLine 34 = .ok (.invokevirtual 140, 3) := by decide +kernel
theorem dX11_modelLine_37 : decode cX11_modelLine 37 = .ok (.ifCond .eq 4, 3) := by decide +kernel
theorem dX11_modelLine_40 : decode cX11_modelLine 40 = .ok (.return_, 1) := by decide +kernel
theorem dX11_modelLine_41 : decode cX11_modelLine 41 = .ok (.aload_n 0, 1) := by decide +kernel
theorem dX11_modelLine_42 : decode cX11_modelLine 42 = .ok (.getfield 45, 3) := by decide +kernel
theorem dX11_modelLine_45 : decode cX11_modelLine 45 = .ok (.aload_n 0, 1) := by decide +kernel
theorem dX11_modelLine_46 : decode cX11_modelLine 46 = .ok (.getfield 196, 3) := by decide +kernel
theorem dX11_modelLine_49 : decode cX11_modelLine 49 = .ok (.iload_n 1, 1) := by decide +kernel
theorem dX11_modelLine_50 : decode cX11_modelLine 50 = .ok (.iastore, 1) := by decide +kernel
theorem dX11_modelLine_51 : decode cX11_modelLine 51 = .ok (.aload_n 0, 1) := by decide +kernel
theorem dX11_modelLine_52 : decode cX11_modelLine 52 = .ok (.getfield 51, 3) := by decide +kernel
theorem dX11_modelLine_55 : decode cX11_modelLine 55 = .ok (.iconst 3, 1) := by decide +kernel
theorem dX11_modelLine_56 : decode cX11_modelLine 56 = .ok (.aload_n 0, 1) := by decide +kernel
theorem dX11_modelLine_57 : decode cX11_modelLine 57 = .ok (.getfield 196, 3) := by decide +kernel
theorem dX11_modelLine_60 : decode cX11_modelLine 60 = .ok (.imul, 1) := by decide +kernel
theorem dX11_modelLine_61 : decode cX11_modelLine 61 = .ok (.iload_n 2, 1) := by decide +kernel
theorem dX11_modelLine_62 : decode cX11_modelLine 62 = .ok (.iastore, 1) := by decide +kernel
theorem dX11_modelLine_63 : decode cX11_modelLine 63 = .ok (.aload_n 0, 1) := by decide +kernel
theorem dX11_modelLine_64 : decode cX11_modelLine 64 = .ok (.getfield 51, 3) := by decide +kernel
theorem dX11_modelLine_67 : decode cX11_modelLine 67 = .ok (.iconst 3, 1) := by decide +kernel
theorem dX11_modelLine_68 : decode cX11_modelLine 68 = .ok (.aload_n 0, 1) := by decide +kernel
theorem dX11_modelLine_69 : decode cX11_modelLine 69 = .ok (.getfield 196, 3) := by decide +kernel
theorem dX11_modelLine_72 : decode cX11_modelLine 72 = .ok (.imul, 1) := by decide +kernel
theorem dX11_modelLine_73 : decode cX11_modelLine 73 = .ok (.iconst 1, 1) := by decide +kernel
theorem dX11_modelLine_74 : decode cX11_modelLine 74 = .ok (.iadd, 1) := by decide +kernel
theorem dX11_modelLine_75 : decode cX11_modelLine 75 = .ok (.iload_n 3, 1) := by decide +kernel
theorem dX11_modelLine_76 : decode cX11_modelLine 76 = .ok (.iastore, 1) := by decide +kernel
theorem dX11_modelLine_77 : decode cX11_modelLine 77 = .ok (.aload_n 0, 1) := by decide +kernel
theorem dX11_modelLine_78 : decode cX11_modelLine 78 = .ok (.getfield 51, 3) := by decide +kernel
theorem dX11_modelLine_81 : decode cX11_modelLine 81 = .ok (.iconst 3, 1) := by decide +kernel
theorem dX11_modelLine_82 : decode cX11_modelLine 82 = .ok (.aload_n 0, 1) := by decide +kernel
theorem dX11_modelLine_83 : decode cX11_modelLine 83 = .ok (.getfield 196, 3) := by decide +kernel
theorem dX11_modelLine_86 : decode cX11_modelLine 86 = .ok (.imul, 1) := by decide +kernel
theorem dX11_modelLine_87 : decode cX11_modelLine 87 = .ok (.iconst 2, 1) := by decide +kernel
theorem dX11_modelLine_88 : decode cX11_modelLine 88 = .ok (.iadd, 1) := by decide +kernel
theorem dX11_modelLine_89 : decode cX11_modelLine 89 = .ok (.iload 4, 2) := by decide +kernel
theorem dX11_modelLine_91 : decode cX11_modelLine 91 = .ok (.iastore, 1) := by decide +kernel
theorem dX11_modelLine_92 : decode cX11_modelLine 92 = .ok (.aload_n 0, 1) := by decide +kernel
theorem dX11_modelLine_93 : decode cX11_modelLine 93 = .ok (.dup, 1) := by decide +kernel
theorem dX11_modelLine_94 : decode cX11_modelLine 94 = .ok (.getfield 196, 3) := by decide +kernel
theorem dX11_modelLine_97 : decode cX11_modelLine 97 = .ok (.iconst 1, 1) := by decide +kernel
theorem dX11_modelLine_98 : decode cX11_modelLine 98 = .ok (.iadd, 1) := by decide +kernel
theorem dX11_modelLine_99 : decode cX11_modelLine 99 = .ok (.putfield 196, 3) := by decide +kernel
theorem dX11_modelLine_102 : decode cX11_modelLine 102 = .ok (.return_, 1) := by decide +kernel
theorem dX11_firmLine_0 : decode cX11_firmLine 0 = .ok (.aload_n 0, 1) := by decide +kernel
theorem dX11_firmLine_1 : decode cX11_firmLine 1 = .ok (.iconst 1, 1) := by decide +kernel
theorem dX11_firmLine_2 : decode cX11_firmLine 2 = .ok (.invokevirtual 199, 3) := by decide +kernel
theorem dX11_firmLine_5 : decode cX11_firmLine 5 = .ok (.istore_n 1, 1) := by decide +kernel
theorem dX11_firmLine_6 : decode cX11_firmLine 6 = .ok (.aload_n 0, 1) := by decide +kernel
theorem dX11_firmLine_7 : decode cX11_firmLine 7 = .ok (.invokevirtual 140, 3) := by decide +kernel
theorem dX11_firmLine_10 : decode cX11_firmLine 10 = .ok (.ifCond .eq 4, 3) := by decide +kernel
theorem dX11_firmLine_13 : decode cX11_firmLine 13 = .ok (.return_, 1) := by decide +kernel
theorem dX11_firmLine_14 : decode cX11_firmLine 14 = .ok (.aload_n 0, 1) := by decide +kernel
theorem dX11_firmLine_15 : decode cX11_firmLine 15 = .ok (.getfield 48, 3) := by decide +kernel
theorem dX11_firmLine_18 : decode cX11_firmLine 18 = .ok (.aload_n 0, 1) := by decide +kernel
theorem dX11_firmLine_19 : decode cX11_firmLine 19 = .ok (.getfield 189, 3) := by decide +kernel
theorem dX11_firmLine_22 : decode cX11_firmLine 22 = .ok (.iload_n 1, 1) := by decide +kernel
theorem dX11_firmLine_23 : decode cX11_firmLine 23 = .ok (.iastore, 1) := by decide +kernel
theorem dX11_firmLine_24 : decode cX11_firmLine 24 = .ok (.aload_n 0, 1) := by decide +kernel
theorem dX11_firmLine_25 : decode cX11_firmLine 25 = .ok (.dup, 1) := by decide +kernel
theorem dX11_firmLine_26 : decode cX11_firmLine 26 = .ok (.getfield 189, 3) := by decide +kernel
theorem dX11_firmLine_29 : decode cX11_firmLine 29 = .ok (.iconst 1, 1) := by decide +kernel
theorem dX11_firmLine_30 : decode cX11_firmLine 30 = .ok (.iadd, 1) := by decide +kernel
theorem dX11_firmLine_31 : decode cX11_firmLine 31 = .ok (.putfield 189, 3) := by decide +kernel
theorem dX11_firmLine_34 : decode cX11_firmLine 34 = .ok (.return_, 1) := by decide +kernel
theorem dX11_costLine_0 : decode cX11_costLine 0 = .ok (.aload_n 0, 1) := by decide +kernel
theorem dX11_costLine_1 : decode cX11_costLine 1 = .ok (.iconst 1, 1) := by decide +kernel
theorem dX11_costLine_2 : decode cX11_costLine 2 = .ok (.invokevirtual 207, 3) := by decide +kernel
theorem dX11_costLine_5 : decode cX11_costLine 5 = .ok (.istore_n 1, 1) := by decide +kernel
theorem dX11_costLine_6 : decode cX11_costLine 6 = .ok (.aload_n 0, 1) := by decide +kernel
theorem dX11_costLine_7 : decode cX11_costLine 7 = .ok (.iconst 0, 1) := by decide +kernel
theorem dX11_costLine_8 : decode cX11_costLine 8 = .ok (.invokevirtual 207, 3) := by decide +kernel
theorem dX11_costLine_11 : decode cX11_costLine 11 = .ok (.istore_n 2, 1) := by decide +kernel
theorem dX11_costLine_12 : decode cX11_costLine 12 = .ok (.aload_n 0, 1) := by decide +kernel
theorem dX11_costLine_13 : decode cX11_costLine 13 = .ok (.iconst 1, 1) := by decide +kernel
theorem dX11_costLine_14 : decode cX11_costLine 14 = .ok (.sipush 9999, 3) := by decide +kernel
theorem dX11_costLine_17 : decode cX11_costLine 17 = .ok (.invokevirtual 203, 3) := by decide +kernel
theorem dX11_costLine_20 : decode cX11_costLine 20 = .ok (.istore_n 3, 1) := by decide +kernel
theorem dX11_costLine_21 : decode cX11_costLine 21 = .ok (.aload_n 0, 1) := by decide +kernel
theorem dX11_costLine_22 : decode cX11_costLine 22 = .ok (.invokevirtual 140, 3) := by decide +kernel
theorem dX11_costLine_25 : decode cX11_costLine 25 = .ok (.ifCond .ne 17, 3) := by decide +kernel
theorem dX11_costLine_28 : decode cX11_costLine 28 = .ok (.aload_n 0, 1) := by decide +kernel
theorem dX11_costLine_29 : decode cX11_costLine 29 = .ok (.getfield 13, 3) := by decide +kernel
theorem dX11_costLine_32 : decode cX11_costLine 32 = .ok (.iconst 0, 1) := by decide +kernel
theorem dX11_costLine_33 : decode cX11_costLine 33 = .ok (.bipush 6, 2) := by decide +kernel
theorem dX11_costLine_35 : decode cX11_costLine 35 = .ok (.iload_n 1, 1) := by decide +kernel
theorem dX11_costLine_36 : decode cX11_costLine 36 = .ok (.imul, 1) := by decide +kernel
theorem dX11_costLine_37 : decode cX11_costLine 37 = .ok (.iadd, 1) := by decide +kernel
theorem dX11_costLine_38 : decode cX11_costLine 38 = .ok (.iload_n 2, 1) := by decide +kernel
theorem dX11_costLine_39 : decode cX11_costLine 39 = .ok (.iadd, 1) := by decide +kernel
theorem dX11_costLine_40 : decode cX11_costLine 40 = .ok (.iload_n 3, 1) := by decide +kernel
theorem dX11_costLine_41 : decode cX11_costLine 41 = .ok (.iastore, 1) := by decide +kernel
theorem dX11_costLine_42 : decode cX11_costLine 42 = .ok (.return_, 1) := by decide +kernel
theorem dX11_marketHere_0 : decode cX11_marketHere 0 = .ok (.aload_n 0, 1) := by decide +kernel
theorem dX11_marketHere_1 : decode cX11_marketHere 1 = .ok (.invokevirtual 174, 3) := by decide +kernel
theorem dX11_marketHere_4 : decode cX11_marketHere 4 = .ok (.istore_n 1, 1) := by decide +kernel
theorem dX11_marketHere_5 : decode cX11_marketHere 5 = .ok (.iload_n 1, 1) := by decide +kernel
theorem dX11_marketHere_6 : decode cX11_marketHere 6 = .ok (.iconst (-1), 1) := by decide +kernel
theorem dX11_marketHere_7 : decode cX11_marketHere 7 = .ok (.if_icmp .eq 10, 3) := by decide +kernel
theorem dX11_marketHere_10 : decode cX11_marketHere 10 = .ok (.aload_n 0, 1) := by decide +kernel
theorem dX11_marketHere_11 : decode cX11_marketHere 11 = .ok (.invokevirtual 140, 3) := by decide +kernel
theorem dX11_marketHere_14 : decode cX11_marketHere 14 = .ok (.ifCond .eq 9, 3) := by decide +kernel
theorem dX11_marketHere_17 : decode cX11_marketHere 17 = .ok (.aload_n 0, 1) := by decide +kernel
theorem dX11_marketHere_18 : decode cX11_marketHere 18 = .ok (.invokevirtual 148, 3) := by decide +kernel
theorem dX11_marketHere_21 : decode cX11_marketHere 21 = .ok (.iconst 0, 1) := by decide +kernel
theorem dX11_marketHere_22 : decode cX11_marketHere 22 = .ok (.ireturn, 1) := by decide +kernel
theorem dX11_marketHere_23 : decode cX11_marketHere 23 = .ok (.aload_n 0, 1) := by decide +kernel
theorem dX11_marketHere_24 : decode cX11_marketHere 24 = .ok (.dup, 1) := by decide +kernel
theorem dX11_marketHere_25 : decode cX11_marketHere 25 = .ok (.getfield 110, 3) := by decide +kernel
theorem dX11_marketHere_28 : decode cX11_marketHere 28 = .ok (.aload_n 0, 1) := by decide +kernel
theorem dX11_marketHere_29 : decode cX11_marketHere 29 = .ok (.invokevirtual 128, 3) := by decide +kernel
theorem dX11_marketHere_32 : decode cX11_marketHere 32 = .ok (.iadd, 1) := by decide +kernel
theorem dX11_marketHere_33 : decode cX11_marketHere 33 = .ok (.putfield 110, 3) := by decide +kernel
theorem dX11_marketHere_36 : decode cX11_marketHere 36 = .ok (.iload_n 1, 1) := by decide +kernel
theorem dX11_marketHere_37 : decode cX11_marketHere 37 = .ok (.ireturn, 1) := by decide +kernel
theorem dX11_sellLine_0 : decode cX11_sellLine 0 = .ok (.bipush 35, 2) := by decide +kernel
theorem dX11_sellLine_2 : decode cX11_sellLine 2 = .ok (.bipush 8, 2) := by decide +kernel
theorem dX11_sellLine_4 : decode cX11_sellLine 4 = .ok (.aload_n 0, 1) := by decide +kernel
theorem dX11_sellLine_5 : decode cX11_sellLine 5 = .ok (.getfield 13, 3) := by decide +kernel
theorem dX11_sellLine_8 : decode cX11_sellLine 8 = .ok (.bipush 34, 2) := by decide +kernel
theorem dX11_sellLine_10 : decode cX11_sellLine 10 = .ok (.iaload, 1) := by decide +kernel
theorem dX11_sellLine_11 : decode cX11_sellLine 11 = .ok (.imul, 1) := by decide +kernel
theorem dX11_sellLine_12 : decode cX11_sellLine 12 = .ok (.iadd, 1) := by decide +kernel
theorem dX11_sellLine_13 : decode cX11_sellLine 13 = .ok (.istore_n 1, 1) := by decide +kernel
theorem dX11_sellLine_14 : decode cX11_sellLine 14 = .ok (.aload_n 0, 1) := by decide +kernel
theorem dX11_sellLine_15 : decode cX11_sellLine 15 = .ok (.invokevirtual 210, 3) := by decide +kernel
theorem dX11_sellLine_18 : decode cX11_sellLine 18 = .ok (.istore_n 2, 1) := by decide +kernel
theorem dX11_sellLine_19 : decode cX11_sellLine 19 = .ok (.aload_n 0, 1) := by decide +kernel
theorem dX11_sellLine_20 : decode cX11_sellLine 20 = .ok (.iconst 1, 1) := by decide +kernel
theorem dX11_sellLine_21 : decode cX11_sellLine 21 = .ok (.invokevirtual 207, 3) := by decide +kernel
theorem dX11_sellLine_24 : decode cX11_sellLine 24 = .ok (.istore_n 3, 1) := by decide +kernel
theorem dX11_sellLine_25 : decode cX11_sellLine 25 = .ok (.aload_n 0, 1) := by decide +kernel
theorem dX11_sellLine_26 : decode cX11_sellLine 26 = .ok (.iconst 0, 1) := by decide +kernel
theorem dX11_sellLine_27 : decode cX11_sellLine 27 = .ok (.invokevirtual 207, 3) := by decide +kernel
theorem dX11_sellLine_30 : decode cX11_sellLine 30 = .ok (.istore 4, 2) := by decide +kernel
theorem dX11_sellLine_32 : decode cX11_sellLine 32 = .ok (.aload_n 0, 1) := by decide +kernel
theorem dX11_sellLine_33 : decode cX11_sellLine 33 = .ok (.iconst 0, 1) := by decide +kernel
theorem dX11_sellLine_34 : decode cX11_sellLine 34 = .ok (.iconst 3, 1) := by decide +kernel
theorem dX11_sellLine_35 : decode cX11_sellLine 35 = .ok (.invokevirtual 203, 3) := by decide +kernel
theorem dX11_sellLine_38 : decode cX11_sellLine 38 = .ok (.istore 5, 2) := by decide +kernel
theorem dX11_sellLine_40 : decode cX11_sellLine 40 = .ok (.aload_n 0, 1) := by decide +kernel
theorem dX11_sellLine_41 : decode cX11_sellLine 41 = .ok (.iconst 0, 1) := by decide +kernel
theorem dX11_sellLine_42 : decode cX11_sellLine 42 = .ok (.bipush 11, 2) := by decide +kernel
theorem dX11_sellLine_44 : decode cX11_sellLine 44 = .ok (.invokevirtual 203, 3) := by decide +kernel
theorem dX11_sellLine_47 : decode cX11_sellLine 47 = .ok (.istore 6, 2) := by decide +kernel
theorem dX11_sellLine_49 : decode cX11_sellLine 49 = .ok (.aload_n 0, 1) := by decide +kernel
theorem dX11_sellLine_50 : decode cX11_sellLine 50 = .ok (.iconst 1, 1) := by decide +kernel
theorem dX11_sellLine_51 : decode cX11_sellLine 51 = .ok (.sipush 999, 3) := by decide +kernel
theorem dX11_sellLine_54 : decode cX11_sellLine 54 = .ok (.invokevirtual 203, 3) := by decide +kernel
theorem dX11_sellLine_57 : decode cX11_sellLine 57 = .ok (.istore 7, 2) := by decide +kernel
theorem dX11_sellLine_59 : decode cX11_sellLine 59 = .ok (.aload_n 0, 1) := by decide +kernel
theorem dX11_sellLine_60 : decode cX11_sellLine 60 = .ok (.iconst 1, 1) := by decide +kernel
theorem dX11_sellLine_61 : decode cX11_sellLine 61 = .ok (.sipush 9999, 3) := by decide +kernel
theorem dX11_sellLine_64 : decode cX11_sellLine 64 = .ok (.invokevirtual 203, 3) := by decide +kernel
theorem dX11_sellLine_67 : decode cX11_sellLine 67 = .ok (.istore 8, 2) := by decide +kernel
theorem dX11_sellLine_69 : decode cX11_sellLine 69 = .ok (.aload_n 0, 1) := by decide +kernel
theorem dX11_sellLine_70 : decode cX11_sellLine 70 = .ok (.invokevirtual 140, 3) := by decide +kernel
theorem dX11_sellLine_73 : decode cX11_sellLine 73 = .ok (.ifCond .eq 4, 3) := by decide +kernel
theorem dX11_sellLine_76 : decode cX11_sellLine 76 = .ok (.return_, 1) := by decide +kernel
theorem dX11_sellLine_77 : decode cX11_sellLine 77 = .ok (.aload_n 0, 1) := by decide +kernel
theorem dX11_sellLine_78 : decode cX11_sellLine 78 = .ok (.getfield 13, 3) := by decide +kernel
theorem dX11_sellLine_81 : decode cX11_sellLine 81 = .ok (.iload_n 1, 1) := by decide +kernel
theorem dX11_sellLine_82 : decode cX11_sellLine 82 = .ok (.iconst 0, 1) := by decide +kernel
theorem dX11_sellLine_83 : decode cX11_sellLine 83 = .ok (.iadd, 1) := by decide +kernel
theorem dX11_sellLine_84 : decode cX11_sellLine 84 = .ok (.iload_n 2, 1) := by decide +kernel
theorem dX11_sellLine_85 : decode cX11_sellLine 85 = .ok (.iastore, 1) := by decide +kernel
theorem dX11_sellLine_86 : decode cX11_sellLine 86 = .ok (.aload_n 0, 1) := by decide +kernel
theorem dX11_sellLine_87 : decode cX11_sellLine 87 = .ok (.getfield 13, 3) := by decide +kernel
theorem dX11_sellLine_90 : decode cX11_sellLine 90 = .ok (.iload_n 1, 1) := by decide +kernel
theorem dX11_sellLine_91 : decode cX11_sellLine 91 = .ok (.iconst 1, 1) := by decide +kernel
theorem dX11_sellLine_92 : decode cX11_sellLine 92 = .ok (.iadd, 1) := by decide +kernel
theorem dX11_sellLine_93 : decode cX11_sellLine 93 = .ok (.iload_n 3, 1) := by decide +kernel
theorem dX11_sellLine_94 : decode cX11_sellLine 94 = .ok (.iastore, 1) := by decide +kernel
theorem dX11_sellLine_95 : decode cX11_sellLine 95 = .ok (.aload_n 0, 1) := by decide +kernel
theorem dX11_sellLine_96 : decode cX11_sellLine 96 = .ok (.getfield 13, 3) := by decide +kernel
theorem dX11_sellLine_99 : decode cX11_sellLine 99 = .ok (.iload_n 1, 1) := by decide +kernel
theorem dX11_sellLine_100 : decode cX11_sellLine 100 = .ok (.iconst 2, 1) := by decide +kernel
theorem dX11_sellLine_101 : decode cX11_sellLine 101 = .ok (.iadd, 1) := by decide +kernel
theorem dX11_sellLine_102 : decode cX11_sellLine 102 = .ok (.iload 4, 2) := by decide +kernel
theorem dX11_sellLine_104 : decode cX11_sellLine 104 = .ok (.iastore, 1) := by decide +kernel
theorem dX11_sellLine_105 : decode cX11_sellLine 105 = .ok (.aload_n 0, 1) := by decide +kernel
theorem dX11_sellLine_106 : decode cX11_sellLine 106 = .ok (.getfield 13, 3) := by decide +kernel
theorem dX11_sellLine_109 : decode cX11_sellLine 109 = .ok (.iload_n 1, 1) := by decide +kernel
theorem dX11_sellLine_110 : decode cX11_sellLine 110 = .ok (.iconst 3, 1) := by decide +kernel
theorem dX11_sellLine_111 : decode cX11_sellLine 111 = .ok (.iadd, 1) := by decide +kernel
theorem dX11_sellLine_112 : decode cX11_sellLine 112 = .ok (.iload 5, 2) := by decide +kernel
theorem dX11_sellLine_114 : decode cX11_sellLine 114 = .ok (.iastore, 1) := by decide +kernel
theorem dX11_sellLine_115 : decode cX11_sellLine 115 = .ok (.aload_n 0, 1) := by decide +kernel
theorem dX11_sellLine_116 : decode cX11_sellLine 116 = .ok (.getfield 13, 3) := by decide +kernel
theorem dX11_sellLine_119 : decode cX11_sellLine 119 = .ok (.iload_n 1, 1) := by decide +kernel
theorem dX11_sellLine_120 : decode cX11_sellLine 120 = .ok (.iconst 4, 1) := by decide +kernel
theorem dX11_sellLine_121 : decode cX11_sellLine 121 = .ok (.iadd, 1) := by decide +kernel
theorem dX11_sellLine_122 : decode cX11_sellLine 122 = .ok (.iload 6, 2) := by decide +kernel
theorem dX11_sellLine_124 : decode cX11_sellLine 124 = .ok (.iastore, 1) := by decide +kernel
theorem dX11_sellLine_125 : decode cX11_sellLine 125 = .ok (.aload_n 0, 1) := by decide +kernel
theorem dX11_sellLine_126 : decode cX11_sellLine 126 = .ok (.getfield 13, 3) := by decide +kernel
theorem dX11_sellLine_129 : decode cX11_sellLine 129 = .ok (.iload_n 1, 1) := by decide +kernel
theorem dX11_sellLine_130 : decode cX11_sellLine 130 = .ok (.iconst 5, 1) := by decide +kernel
theorem dX11_sellLine_131 : decode cX11_sellLine 131 = .ok (.iadd, 1) := by decide +kernel
theorem dX11_sellLine_132 : decode cX11_sellLine 132 = .ok (.iload 7, 2) := by decide +kernel
theorem dX11_sellLine_134 : decode cX11_sellLine 134 = .ok (.iastore, 1) := by decide +kernel
theorem dX11_sellLine_135 : decode cX11_sellLine 135 = .ok (.aload_n 0, 1) := by decide +kernel
theorem dX11_sellLine_136 : decode cX11_sellLine 136 = .ok (.getfield 13, 3) := by decide +kernel
theorem dX11_sellLine_139 : decode cX11_sellLine 139 = .ok (.iload_n 1, 1) := by decide +kernel
theorem dX11_sellLine_140 : decode cX11_sellLine 140 = .ok (.bipush 6, 2) := by decide +kernel
theorem dX11_sellLine_142 : decode cX11_sellLine 142 = .ok (.iadd, 1) := by decide +kernel
theorem dX11_sellLine_143 : decode cX11_sellLine 143 = .ok (.iload 8, 2) := by decide +kernel
theorem dX11_sellLine_145 : decode cX11_sellLine 145 = .ok (.iastore, 1) := by decide +kernel
theorem dX11_sellLine_146 : decode cX11_sellLine 146 = .ok (.aload_n 0, 1) := by decide +kernel
theorem dX11_sellLine_147 : decode cX11_sellLine 147 = .ok (.getfield 13, 3) := by decide +kernel
theorem dX11_sellLine_150 : decode cX11_sellLine 150 = .ok (.iload_n 1, 1) := by decide +kernel
theorem dX11_sellLine_151 : decode cX11_sellLine 151 = .ok (.bipush 7, 2) := by decide +kernel
theorem dX11_sellLine_153 : decode cX11_sellLine 153 = .ok (.iadd, 1) := by decide +kernel
theorem dX11_sellLine_154 : decode cX11_sellLine 154 = .ok (.iconst 1, 1) := by decide +kernel
theorem dX11_sellLine_155 : decode cX11_sellLine 155 = .ok (.iastore, 1) := by decide +kernel
theorem dX11_sellLine_156 : decode cX11_sellLine 156 = .ok (.aload_n 0, 1) := by decide +kernel
theorem dX11_sellLine_157 : decode cX11_sellLine 157 = .ok (.getfield 13, 3) := by decide +kernel
theorem dX11_sellLine_160 : decode cX11_sellLine 160 = .ok (.bipush 34, 2) := by decide +kernel
theorem dX11_sellLine_162 : decode cX11_sellLine 162 = .ok (.dup2, 1) := by decide +kernel
theorem dX11_sellLine_163 : decode cX11_sellLine 163 = .ok (.iaload, 1) := by decide +kernel
theorem dX11_sellLine_164 : decode cX11_sellLine 164 = .ok (.iconst 1, 1) := by decide +kernel
theorem dX11_sellLine_165 : decode cX11_sellLine 165 = .ok (.iadd, 1) := by decide +kernel
theorem dX11_sellLine_166 : decode cX11_sellLine 166 = .ok (.iastore, 1) := by decide +kernel
theorem dX11_sellLine_167 : decode cX11_sellLine 167 = .ok (.return_, 1) := by decide +kernel
theorem dX11_emits_0 : decode cX11_emits 0 = .ok (.aload_n 0, 1) := by decide +kernel
theorem dX11_emits_1 : decode cX11_emits 1 = .ok (.invokevirtual 140, 3) := by decide +kernel
theorem dX11_emits_4 : decode cX11_emits 4 = .ok (.ifCond .eq 4, 3) := by decide +kernel
theorem dX11_emits_7 : decode cX11_emits 7 = .ok (.return_, 1) := by decide +kernel
theorem dX11_emits_8 : decode cX11_emits 8 = .ok (.aload_n 0, 1) := by decide +kernel
theorem dX11_emits_9 : decode cX11_emits 9 = .ok (.getfield 54, 3) := by decide +kernel
theorem dX11_emits_12 : decode cX11_emits 12 = .ok (.sipush 400, 3) := by decide +kernel
theorem dX11_emits_15 : decode cX11_emits 15 = .ok (.aload_n 0, 1) := by decide +kernel
theorem dX11_emits_16 : decode cX11_emits 16 = .ok (.getfield 213, 3) := by decide +kernel
theorem dX11_emits_19 : decode cX11_emits 19 = .ok (.imul, 1) := by decide +kernel
theorem dX11_emits_20 : decode cX11_emits 20 = .ok (.aload_n 0, 1) := by decide +kernel
theorem dX11_emits_21 : decode cX11_emits 21 = .ok (.getfield 60, 3) := by decide +kernel
theorem dX11_emits_24 : decode cX11_emits 24 = .ok (.aload_n 0, 1) := by decide +kernel
theorem dX11_emits_25 : decode cX11_emits 25 = .ok (.getfield 213, 3) := by decide +kernel
theorem dX11_emits_28 : decode cX11_emits 28 = .ok (.iaload, 1) := by decide +kernel
theorem dX11_emits_29 : decode cX11_emits 29 = .ok (.iadd, 1) := by decide +kernel
theorem dX11_emits_30 : decode cX11_emits 30 = .ok (.iload_n 1, 1) := by decide +kernel
theorem dX11_emits_31 : decode cX11_emits 31 = .ok (.iastore, 1) := by decide +kernel
theorem dX11_emits_32 : decode cX11_emits 32 = .ok (.aload_n 0, 1) := by decide +kernel
theorem dX11_emits_33 : decode cX11_emits 33 = .ok (.getfield 57, 3) := by decide +kernel
theorem dX11_emits_36 : decode cX11_emits 36 = .ok (.sipush 400, 3) := by decide +kernel
theorem dX11_emits_39 : decode cX11_emits 39 = .ok (.aload_n 0, 1) := by decide +kernel
theorem dX11_emits_40 : decode cX11_emits 40 = .ok (.getfield 213, 3) := by decide +kernel
theorem dX11_emits_43 : decode cX11_emits 43 = .ok (.imul, 1) := by decide +kernel
theorem dX11_emits_44 : decode cX11_emits 44 = .ok (.aload_n 0, 1) := by decide +kernel
theorem dX11_emits_45 : decode cX11_emits 45 = .ok (.getfield 60, 3) := by decide +kernel
theorem dX11_emits_48 : decode cX11_emits 48 = .ok (.aload_n 0, 1) := by decide +kernel
theorem dX11_emits_49 : decode cX11_emits 49 = .ok (.getfield 213, 3) := by decide +kernel
theorem dX11_emits_52 : decode cX11_emits 52 = .ok (.iaload, 1) := by decide +kernel
theorem dX11_emits_53 : decode cX11_emits 53 = .ok (.iadd, 1) := by decide +kernel
theorem dX11_emits_54 : decode cX11_emits 54 = .ok (.iload_n 2, 1) := by decide +kernel
theorem dX11_emits_55 : decode cX11_emits 55 = .ok (.iastore, 1) := by decide +kernel
theorem dX11_emits_56 : decode cX11_emits 56 = .ok (.aload_n 0, 1) := by decide +kernel
theorem dX11_emits_57 : decode cX11_emits 57 = .ok (.getfield 60, 3) := by decide +kernel
theorem dX11_emits_60 : decode cX11_emits 60 = .ok (.aload_n 0, 1) := by decide +kernel
theorem dX11_emits_61 : decode cX11_emits 61 = .ok (.getfield 213, 3) := by decide +kernel
theorem dX11_emits_64 : decode cX11_emits 64 = .ok (.dup2, 1) := by decide +kernel
theorem dX11_emits_65 : decode cX11_emits 65 = .ok (.iaload, 1) := by decide +kernel
theorem dX11_emits_66 : decode cX11_emits 66 = .ok (.iconst 1, 1) := by decide +kernel
theorem dX11_emits_67 : decode cX11_emits 67 = .ok (.iadd, 1) := by decide +kernel
theorem dX11_emits_68 : decode cX11_emits 68 = .ok (.iastore, 1) := by decide +kernel
theorem dX11_emits_69 : decode cX11_emits 69 = .ok (.return_, 1) := by decide +kernel
theorem dX11_factHere_0 : decode cX11_factHere 0 = .ok (.aload_n 0, 1) := by decide +kernel
theorem dX11_factHere_1 : decode cX11_factHere 1 = .ok (.ldc 216, 2) := by decide +kernel
theorem dX11_factHere_3 : decode cX11_factHere 3 = .ok (.invokevirtual 144, 3) := by decide +kernel
theorem dX11_factHere_6 : decode cX11_factHere 6 = .ok (.ifCond .eq 7, 3) := by decide +kernel
theorem dX11_factHere_9 : decode cX11_factHere 9 = .ok (.iconst 0, 1) := by decide +kernel
theorem dX11_factHere_10 : decode cX11_factHere 10 = .ok (.goto 56, 3) := by decide +kernel
theorem dX11_factHere_13 : decode cX11_factHere 13 = .ok (.aload_n 0, 1) := by decide +kernel
theorem dX11_factHere_14 : decode cX11_factHere 14 = .ok (.ldc 218, 2) := by decide +kernel
theorem dX11_factHere_16 : decode cX11_factHere 16 = .ok (.invokevirtual 144, 3) := by decide +kernel
theorem dX11_factHere_19 : decode cX11_factHere 19 = .ok (.ifCond .eq 7, 3) := by decide +kernel
theorem dX11_factHere_22 : decode cX11_factHere 22 = .ok (.iconst 1, 1) := by decide +kernel
theorem dX11_factHere_23 : decode cX11_factHere 23 = .ok (.goto 43, 3) := by decide +kernel
theorem dX11_factHere_26 : decode cX11_factHere 26 = .ok (.aload_n 0, 1) := by decide +kernel
theorem dX11_factHere_27 : decode cX11_factHere 27 = .ok (.ldc 220, 2) := by decide +kernel
theorem dX11_factHere_29 : decode cX11_factHere 29 = .ok (.invokevirtual 144, 3) := by decide +kernel
theorem dX11_factHere_32 : decode cX11_factHere 32 = .ok (.ifCond .eq 7, 3) := by decide +kernel
theorem dX11_factHere_35 : decode cX11_factHere 35 = .ok (.iconst 2, 1) := by decide +kernel
theorem dX11_factHere_36 : decode cX11_factHere 36 = .ok (.goto 30, 3) := by decide +kernel
theorem dX11_factHere_39 : decode cX11_factHere 39 = .ok (.aload_n 0, 1) := by decide +kernel
theorem dX11_factHere_40 : decode cX11_factHere 40 = .ok (.ldc 222, 2) := by decide +kernel
theorem dX11_factHere_42 : decode cX11_factHere 42 = .ok (.invokevirtual 144, 3) := by decide +kernel
theorem dX11_factHere_45 : decode cX11_factHere 45 = .ok (.ifCond .eq 7, 3) := by decide +kernel
theorem dX11_factHere_48 : decode cX11_factHere 48 = .ok (.iconst 3, 1) := by decide +kernel
theorem dX11_factHere_49 : decode cX11_factHere 49 = .ok (.goto 17, 3) := by decide +kernel
theorem dX11_factHere_52 : decode cX11_factHere 52 = .ok (.aload_n 0, 1) := by decide +kernel
theorem dX11_factHere_53 : decode cX11_factHere 53 = .ok (.ldc 224, 2) := by decide +kernel
theorem dX11_factHere_55 : decode cX11_factHere 55 = .ok (.invokevirtual 144, 3) := by decide +kernel
theorem dX11_factHere_58 : decode cX11_factHere 58 = .ok (.ifCond .eq 7, 3) := by decide +kernel
theorem dX11_factHere_61 : decode cX11_factHere 61 = .ok (.iconst 4, 1) := by decide +kernel
theorem dX11_factHere_62 : decode cX11_factHere 62 = .ok (.goto 4, 3) := by decide +kernel
theorem dX11_factHere_65 : decode cX11_factHere 65 = .ok (.iconst (-1), 1) := by decide +kernel
theorem dX11_factHere_66 : decode cX11_factHere 66 = .ok (.ireturn, 1) := by decide +kernel
theorem dX11_binds_0 : decode cX11_binds 0 = .ok (.iload_n 0, 1) := by decide +kernel
theorem dX11_binds_1 : decode cX11_binds 1 = .ok (.bipush 9, 2) := by decide +kernel
theorem dX11_binds_3 : decode cX11_binds 3 = .ok (.if_icmp .ne 7, 3) := by decide +kernel
theorem dX11_binds_6 : decode cX11_binds 6 = .ok (.iconst 0, 1) := by decide +kernel
theorem dX11_binds_7 : decode cX11_binds 7 = .ok (.goto 13, 3) := by decide +kernel
theorem dX11_binds_10 : decode cX11_binds 10 = .ok (.iload_n 0, 1) := by decide +kernel
theorem dX11_binds_11 : decode cX11_binds 11 = .ok (.iconst 4, 1) := by decide +kernel
theorem dX11_binds_12 : decode cX11_binds 12 = .ok (.if_icmp .ge 7, 3) := by decide +kernel
theorem dX11_binds_15 : decode cX11_binds 15 = .ok (.iconst 1, 1) := by decide +kernel
theorem dX11_binds_16 : decode cX11_binds 16 = .ok (.goto 4, 3) := by decide +kernel
theorem dX11_binds_19 : decode cX11_binds 19 = .ok (.iconst 2, 1) := by decide +kernel
theorem dX11_binds_20 : decode cX11_binds 20 = .ok (.ireturn, 1) := by decide +kernel
theorem dX11_settles_0 : decode cX11_settles 0 = .ok (.aload_n 0, 1) := by decide +kernel
theorem dX11_settles_1 : decode cX11_settles 1 = .ok (.getfield 226, 3) := by decide +kernel
theorem dX11_settles_4 : decode cX11_settles 4 = .ok (.ifCond .le 48, 3) := by decide +kernel
theorem dX11_settles_7 : decode cX11_settles 7 = .ok (.aload_n 0, 1) := by decide +kernel
theorem dX11_settles_8 : decode cX11_settles 8 = .ok (.getfield 63, 3) := by decide +kernel
theorem dX11_settles_11 : decode cX11_settles 11 = .ok (.aload_n 0, 1) := by decide +kernel
theorem dX11_settles_12 : decode cX11_settles 12 = .ok (.getfield 226, 3) := by decide +kernel
theorem dX11_settles_15 : decode cX11_settles 15 = .ok (.iconst 1, 1) := by decide +kernel
theorem dX11_settles_16 : decode cX11_settles 16 = .ok (.isub, 1) := by decide +kernel
theorem dX11_settles_17 : decode cX11_settles 17 = .ok (.iaload, 1) := by decide +kernel
theorem dX11_settles_18 : decode cX11_settles 18 = .ok (.invokestatic 229, 3) := by decide +kernel
theorem dX11_settles_21 : decode cX11_settles 21 = .ok (.iload_n 1, 1) := by decide +kernel
theorem dX11_settles_22 : decode cX11_settles 22 = .ok (.if_icmp .lt 30, 3) := by decide +kernel
theorem dX11_settles_25 : decode cX11_settles 25 = .ok (.aload_n 0, 1) := by decide +kernel
theorem dX11_settles_26 : decode cX11_settles 26 = .ok (.dup, 1) := by decide +kernel
theorem dX11_settles_27 : decode cX11_settles 27 = .ok (.getfield 226, 3) := by decide +kernel
theorem dX11_settles_30 : decode cX11_settles 30 = .ok (.iconst 1, 1) := by decide +kernel
theorem dX11_settles_31 : decode cX11_settles 31 = .ok (.isub, 1) := by decide +kernel
theorem dX11_settles_32 : decode cX11_settles 32 = .ok (.putfield 226, 3) := by decide +kernel
theorem dX11_settles_35 : decode cX11_settles 35 = .ok (.aload_n 0, 1) := by decide +kernel
theorem dX11_settles_36 : decode cX11_settles 36 = .ok (.aload_n 0, 1) := by decide +kernel
theorem dX11_settles_37 : decode cX11_settles 37 = .ok (.getfield 63, 3) := by decide +kernel
theorem dX11_settles_40 : decode cX11_settles 40 = .ok (.aload_n 0, 1) := by decide +kernel
theorem dX11_settles_41 : decode cX11_settles 41 = .ok (.getfield 226, 3) := by decide +kernel
theorem dX11_settles_44 : decode cX11_settles 44 = .ok (.iaload, 1) := by decide +kernel
theorem dX11_settles_45 : decode cX11_settles 45 = .ok (.iconst 0, 1) := by decide +kernel
theorem dX11_settles_46 : decode cX11_settles 46 = .ok (.invokevirtual 233, 3) := by decide +kernel
theorem dX11_settles_49 : decode cX11_settles 49 = .ok (.goto (-49), 3) := by decide +kernel
theorem dX11_settles_52 : decode cX11_settles 52 = .ok (.return_, 1) := by decide +kernel
theorem dX11_pushes_0 : decode cX11_pushes 0 = .ok (.aload_n 0, 1) := by decide +kernel
theorem dX11_pushes_1 : decode cX11_pushes 1 = .ok (.getfield 63, 3) := by decide +kernel
theorem dX11_pushes_4 : decode cX11_pushes 4 = .ok (.aload_n 0, 1) := by decide +kernel
theorem dX11_pushes_5 : decode cX11_pushes 5 = .ok (.getfield 226, 3) := by decide +kernel
theorem dX11_pushes_8 : decode cX11_pushes 8 = .ok (.iload_n 1, 1) := by decide +kernel
theorem dX11_pushes_9 : decode cX11_pushes 9 = .ok (.iastore, 1) := by decide +kernel
theorem dX11_pushes_10 : decode cX11_pushes 10 = .ok (.aload_n 0, 1) := by decide +kernel
theorem dX11_pushes_11 : decode cX11_pushes 11 = .ok (.dup, 1) := by decide +kernel
theorem dX11_pushes_12 : decode cX11_pushes 12 = .ok (.getfield 226, 3) := by decide +kernel
theorem dX11_pushes_15 : decode cX11_pushes 15 = .ok (.iconst 1, 1) := by decide +kernel
theorem dX11_pushes_16 : decode cX11_pushes 16 = .ok (.iadd, 1) := by decide +kernel
theorem dX11_pushes_17 : decode cX11_pushes 17 = .ok (.putfield 226, 3) := by decide +kernel
theorem dX11_pushes_20 : decode cX11_pushes 20 = .ok (.aload_n 0, 1) := by decide +kernel
theorem dX11_pushes_21 : decode cX11_pushes 21 = .ok (.dup, 1) := by decide +kernel
theorem dX11_pushes_22 : decode cX11_pushes 22 = .ok (.getfield 110, 3) := by decide +kernel
theorem dX11_pushes_25 : decode cX11_pushes 25 = .ok (.iconst 1, 1) := by decide +kernel
theorem dX11_pushes_26 : decode cX11_pushes 26 = .ok (.iadd, 1) := by decide +kernel
theorem dX11_pushes_27 : decode cX11_pushes 27 = .ok (.putfield 110, 3) := by decide +kernel
theorem dX11_pushes_30 : decode cX11_pushes 30 = .ok (.return_, 1) := by decide +kernel
theorem dX11_opensOrAtom_0 : decode cX11_opensOrAtom 0 = .ok (.aload_n 0, 1) := by decide +kernel
theorem dX11_opensOrAtom_1 : decode cX11_opensOrAtom 1 = .ok (.invokevirtual 120, 3) := by decide +kernel
theorem dX11_opensOrAtom_4 : decode cX11_opensOrAtom 4 = .ok (.bipush 40, 2) := by decide +kernel
theorem dX11_opensOrAtom_6 : decode cX11_opensOrAtom 6 = .ok (.if_icmp .ne 36, 3) := by decide +kernel
theorem dX11_opensOrAtom_9 : decode cX11_opensOrAtom 9 = .ok (.aload_n 0, 1) := by decide +kernel
theorem dX11_opensOrAtom_10 : decode cX11_opensOrAtom 10 = .ok (.getfield 237, 3) := by decide +kernel
theorem dX11_opensOrAtom_13 : decode cX11_opensOrAtom 13 = .ok (.bipush 6, 2) := by decide +kernel
theorem dX11_opensOrAtom_15 : decode cX11_opensOrAtom 15 = .ok (.if_icmp .ne 9, 3) := by decide +kernel
theorem dX11_opensOrAtom_18 : decode cX11_opensOrAtom 18 = .ok (.aload_n 0, 1) := by decide +kernel
theorem dX11_opensOrAtom_19 : decode cX11_opensOrAtom 19 = .ok (.invokevirtual 148, 3) := by decide +kernel
theorem dX11_opensOrAtom_22 : decode cX11_opensOrAtom 22 = .ok (.iconst 1, 1) := by decide +kernel
theorem dX11_opensOrAtom_23 : decode cX11_opensOrAtom 23 = .ok (.ireturn, 1) := by decide +kernel
theorem dX11_opensOrAtom_24 : decode cX11_opensOrAtom 24 = .ok (.aload_n 0, 1) := by decide +kernel
theorem dX11_opensOrAtom_25 : decode cX11_opensOrAtom 25 = .ok (.dup, 1) := by decide +kernel
theorem dX11_opensOrAtom_26 : decode cX11_opensOrAtom 26 = .ok (.getfield 237, 3) := by decide +kernel
theorem dX11_opensOrAtom_29 : decode cX11_opensOrAtom 29 = .ok (.iconst 1, 1) := by decide +kernel
theorem dX11_opensOrAtom_30 : decode cX11_opensOrAtom 30 = .ok (.iadd, 1) := by decide +kernel
theorem dX11_opensOrAtom_31 : decode cX11_opensOrAtom 31 = .ok (.putfield 237, 3) := by decide +kernel
theorem dX11_opensOrAtom_34 : decode cX11_opensOrAtom 34 = .ok (.aload_n 0, 1) := by decide +kernel
theorem dX11_opensOrAtom_35 : decode cX11_opensOrAtom 35 = .ok (.bipush 9, 2) := by decide +kernel
theorem dX11_opensOrAtom_37 : decode cX11_opensOrAtom 37 = .ok (.invokevirtual 240, 3) := by decide +kernel
theorem dX11_opensOrAtom_40 : decode cX11_opensOrAtom 40 = .ok (.iconst 1, 1) := by decide +kernel
theorem dX11_opensOrAtom_41 : decode cX11_opensOrAtom 41 = .ok (.ireturn, 1) := by decide +kernel
theorem dX11_opensOrAtom_42 : decode cX11_opensOrAtom 42 = .ok (.aload_n 0, 1) := by decide +kernel
theorem dX11_opensOrAtom_43 : decode cX11_opensOrAtom 43 = .ok (.invokevirtual 243, 3) := by decide +kernel
theorem dX11_opensOrAtom_46 : decode cX11_opensOrAtom 46 = .ok (.istore_n 1, 1) := by decide +kernel
theorem dX11_opensOrAtom_47 : decode cX11_opensOrAtom 47 = .ok (.iload_n 1, 1) := by decide +kernel
theorem dX11_opensOrAtom_48 : decode cX11_opensOrAtom 48 = .ok (.iconst (-1), 1) := by decide +kernel
theorem dX11_opensOrAtom_49 : decode cX11_opensOrAtom 49 = .ok (.if_icmp .eq 21, 3) := by decide +kernel
theorem dX11_opensOrAtom_52 : decode cX11_opensOrAtom 52 = .ok (.aload_n 0, 1) := by decide +kernel
theorem dX11_opensOrAtom_53 : decode cX11_opensOrAtom 53 = .ok (.dup, 1) := by decide +kernel
theorem dX11_opensOrAtom_54 : decode cX11_opensOrAtom 54 = .ok (.getfield 110, 3) := by decide +kernel
theorem dX11_opensOrAtom_57 : decode cX11_opensOrAtom 57 = .ok (.iconst 1, 1) := by decide +kernel
theorem dX11_opensOrAtom_58 : decode cX11_opensOrAtom 58 = .ok (.iadd, 1) := by decide +kernel
theorem dX11_opensOrAtom_59 : decode cX11_opensOrAtom 59 = .ok (.putfield 110, 3) := by decide +kernel
theorem dX11_opensOrAtom_62 : decode cX11_opensOrAtom 62 = .ok (.aload_n 0, 1) := by decide +kernel
theorem dX11_opensOrAtom_63 : decode cX11_opensOrAtom 63 = .ok (.iconst 1, 1) := by decide +kernel
theorem dX11_opensOrAtom_64 : decode cX11_opensOrAtom 64 = .ok (.iload_n 1, 1) := by decide +kernel
theorem dX11_opensOrAtom_65 : decode cX11_opensOrAtom 65 = .ok (.invokevirtual 233, 3) := by decide +kernel
theorem dX11_opensOrAtom_68 : decode cX11_opensOrAtom 68 = .ok (.iconst 0, 1) := by decide +kernel
theorem dX11_opensOrAtom_69 : decode cX11_opensOrAtom 69 = .ok (.ireturn, 1) := by decide +kernel
theorem dX11_opensOrAtom_70 : decode cX11_opensOrAtom 70 = .ok (.aload_n 0, 1) := by decide +kernel
theorem dX11_opensOrAtom_71 : decode cX11_opensOrAtom 71 = .ok (.iconst 4, 1) := by decide +kernel
theorem dX11_opensOrAtom_72 : decode cX11_opensOrAtom 72 = .ok (.iconst 0, 1) := by decide +kernel
theorem dX11_opensOrAtom_73 : decode cX11_opensOrAtom 73 = .ok (.sipush 9999, 3) := by decide +kernel
theorem dX11_opensOrAtom_76 : decode cX11_opensOrAtom 76 = .ok (.invokevirtual 154, 3) := by decide +kernel
theorem dX11_opensOrAtom_79 : decode cX11_opensOrAtom 79 = .ok (.istore_n 2, 1) := by decide +kernel
theorem dX11_opensOrAtom_80 : decode cX11_opensOrAtom 80 = .ok (.aload_n 0, 1) := by decide +kernel
theorem dX11_opensOrAtom_81 : decode cX11_opensOrAtom 81 = .ok (.iconst 0, 1) := by decide +kernel
theorem dX11_opensOrAtom_82 : decode cX11_opensOrAtom 82 = .ok (.iload_n 2, 1) := by decide +kernel
theorem dX11_opensOrAtom_83 : decode cX11_opensOrAtom 83 = .ok (.invokevirtual 233, 3) := by decide +kernel
theorem dX11_opensOrAtom_86 : decode cX11_opensOrAtom 86 = .ok (.iconst 0, 1) := by decide +kernel
theorem dX11_opensOrAtom_87 : decode cX11_opensOrAtom 87 = .ok (.ireturn, 1) := by decide +kernel
theorem dX11_signOf_0 : decode cX11_signOf 0 = .ok (.iload_n 0, 1) := by decide +kernel
theorem dX11_signOf_1 : decode cX11_signOf 1 = .ok (.bipush 43, 2) := by decide +kernel
theorem dX11_signOf_3 : decode cX11_signOf 3 = .ok (.if_icmp .ne 7, 3) := by decide +kernel
theorem dX11_signOf_6 : decode cX11_signOf 6 = .ok (.iconst 2, 1) := by decide +kernel
theorem dX11_signOf_7 : decode cX11_signOf 7 = .ok (.goto 34, 3) := by decide +kernel
theorem dX11_signOf_10 : decode cX11_signOf 10 = .ok (.iload_n 0, 1) := by decide +kernel
theorem dX11_signOf_11 : decode cX11_signOf 11 = .ok (.bipush 45, 2) := by decide +kernel
theorem dX11_signOf_13 : decode cX11_signOf 13 = .ok (.if_icmp .ne 7, 3) := by decide +kernel
theorem dX11_signOf_16 : decode cX11_signOf 16 = .ok (.iconst 3, 1) := by decide +kernel
theorem dX11_signOf_17 : decode cX11_signOf 17 = .ok (.goto 24, 3) := by decide +kernel
theorem dX11_signOf_20 : decode cX11_signOf 20 = .ok (.iload_n 0, 1) := by decide +kernel
theorem dX11_signOf_21 : decode cX11_signOf 21 = .ok (.bipush 42, 2) := by decide +kernel
theorem dX11_signOf_23 : decode cX11_signOf 23 = .ok (.if_icmp .ne 7, 3) := by decide +kernel
theorem dX11_signOf_26 : decode cX11_signOf 26 = .ok (.iconst 4, 1) := by decide +kernel
theorem dX11_signOf_27 : decode cX11_signOf 27 = .ok (.goto 14, 3) := by decide +kernel
theorem dX11_signOf_30 : decode cX11_signOf 30 = .ok (.iload_n 0, 1) := by decide +kernel
theorem dX11_signOf_31 : decode cX11_signOf 31 = .ok (.bipush 47, 2) := by decide +kernel
theorem dX11_signOf_33 : decode cX11_signOf 33 = .ok (.if_icmp .ne 7, 3) := by decide +kernel
theorem dX11_signOf_36 : decode cX11_signOf 36 = .ok (.iconst 5, 1) := by decide +kernel
theorem dX11_signOf_37 : decode cX11_signOf 37 = .ok (.goto 4, 3) := by decide +kernel
theorem dX11_signOf_40 : decode cX11_signOf 40 = .ok (.iconst (-1), 1) := by decide +kernel
theorem dX11_signOf_41 : decode cX11_signOf 41 = .ok (.ireturn, 1) := by decide +kernel
theorem dX11_sumHere_0 : decode cX11_sumHere 0 = .ok (.aload_n 0, 1) := by decide +kernel
theorem dX11_sumHere_1 : decode cX11_sumHere 1 = .ok (.iconst 0, 1) := by decide +kernel
theorem dX11_sumHere_2 : decode cX11_sumHere 2 = .ok (.putfield 226, 3) := by decide +kernel
theorem dX11_sumHere_5 : decode cX11_sumHere 5 = .ok (.iconst 1, 1) := by decide +kernel
theorem dX11_sumHere_6 : decode cX11_sumHere 6 = .ok (.istore_n 1, 1) := by decide +kernel
theorem dX11_sumHere_7 : decode cX11_sumHere 7 = .ok (.iconst 1, 1) := by decide +kernel
theorem dX11_sumHere_8 : decode cX11_sumHere 8 = .ok (.istore_n 2, 1) := by decide +kernel
theorem dX11_sumHere_9 : decode cX11_sumHere 9 = .ok (.iload_n 2, 1) := by decide +kernel
theorem dX11_sumHere_10 : decode cX11_sumHere 10 = .ok (.ifCond .eq 120, 3) := by decide +kernel
theorem dX11_sumHere_13 : decode cX11_sumHere 13 = .ok (.aload_n 0, 1) := by decide +kernel
theorem dX11_sumHere_14 : decode cX11_sumHere 14 = .ok (.invokevirtual 140, 3) := by decide +kernel
theorem dX11_sumHere_17 : decode cX11_sumHere 17 = .ok (.ifCond .ne 113, 3) := by decide +kernel
theorem dX11_sumHere_20 : decode cX11_sumHere 20 = .ok (.aload_n 0, 1) := by decide +kernel
theorem dX11_sumHere_21 : decode cX11_sumHere 21 = .ok (.invokevirtual 120, 3) := by decide +kernel
theorem dX11_sumHere_24 : decode cX11_sumHere 24 = .ok (.istore_n 3, 1) := by decide +kernel
theorem dX11_sumHere_25 : decode cX11_sumHere 25 = .ok (.iload_n 1, 1) := by decide +kernel
theorem dX11_sumHere_26 : decode cX11_sumHere 26 = .ok (.ifCond .eq 11, 3) := by decide +kernel
theorem dX11_sumHere_29 : decode cX11_sumHere 29 = .ok (.aload_n 0, 1) := by decide +kernel
theorem dX11_sumHere_30 : decode cX11_sumHere 30 = .ok (.invokevirtual 246, 3) := by decide +kernel
theorem dX11_sumHere_33 : decode cX11_sumHere 33 = .ok (.istore_n 1, 1) := by decide +kernel
theorem dX11_sumHere_34 : decode cX11_sumHere 34 = .ok (.goto 93, 3) := by decide +kernel
theorem dX11_sumHere_37 : decode cX11_sumHere 37 = .ok (.iload_n 3, 1) := by decide +kernel
theorem dX11_sumHere_38 : decode cX11_sumHere 38 = .ok (.invokestatic 249, 3) := by decide +kernel
theorem dX11_sumHere_41 : decode cX11_sumHere 41 = .ok (.iconst (-1), 1) := by decide +kernel
theorem dX11_sumHere_42 : decode cX11_sumHere 42 = .ok (.if_icmp .eq 27, 3) := by decide +kernel
theorem dX11_sumHere_45 : decode cX11_sumHere 45 = .ok (.aload_n 0, 1) := by decide +kernel
theorem dX11_sumHere_46 : decode cX11_sumHere 46 = .ok (.iload_n 3, 1) := by decide +kernel
theorem dX11_sumHere_47 : decode cX11_sumHere 47 = .ok (.invokestatic 249, 3) := by decide +kernel
theorem dX11_sumHere_50 : decode cX11_sumHere 50 = .ok (.invokestatic 229, 3) := by decide +kernel
theorem dX11_sumHere_53 : decode cX11_sumHere 53 = .ok (.invokevirtual 252, 3) := by decide +kernel
theorem dX11_sumHere_56 : decode cX11_sumHere 56 = .ok (.aload_n 0, 1) := by decide +kernel
theorem dX11_sumHere_57 : decode cX11_sumHere 57 = .ok (.iload_n 3, 1) := by decide +kernel
theorem dX11_sumHere_58 : decode cX11_sumHere 58 = .ok (.invokestatic 249, 3) := by decide +kernel
theorem dX11_sumHere_61 : decode cX11_sumHere 61 = .ok (.invokevirtual 240, 3) := by decide +kernel
theorem dX11_sumHere_64 : decode cX11_sumHere 64 = .ok (.iconst 1, 1) := by decide +kernel
theorem dX11_sumHere_65 : decode cX11_sumHere 65 = .ok (.istore_n 1, 1) := by decide +kernel
theorem dX11_sumHere_66 : decode cX11_sumHere 66 = .ok (.goto 61, 3) := by decide +kernel
theorem dX11_sumHere_69 : decode cX11_sumHere 69 = .ok (.aload_n 0, 1) := by decide +kernel
theorem dX11_sumHere_70 : decode cX11_sumHere 70 = .ok (.getfield 237, 3) := by decide +kernel
theorem dX11_sumHere_73 : decode cX11_sumHere 73 = .ok (.ifCond .le 52, 3) := by decide +kernel
theorem dX11_sumHere_76 : decode cX11_sumHere 76 = .ok (.iload_n 3, 1) := by decide +kernel
theorem dX11_sumHere_77 : decode cX11_sumHere 77 = .ok (.bipush 41, 2) := by decide +kernel
theorem dX11_sumHere_79 : decode cX11_sumHere 79 = .ok (.if_icmp .eq 8, 3) := by decide +kernel
theorem dX11_sumHere_82 : decode cX11_sumHere 82 = .ok (.aload_n 0, 1) := by decide +kernel
theorem dX11_sumHere_83 : decode cX11_sumHere 83 = .ok (.invokevirtual 148, 3) := by decide +kernel
theorem dX11_sumHere_86 : decode cX11_sumHere 86 = .ok (.return_, 1) := by decide +kernel
theorem dX11_sumHere_87 : decode cX11_sumHere 87 = .ok (.aload_n 0, 1) := by decide +kernel
theorem dX11_sumHere_88 : decode cX11_sumHere 88 = .ok (.iconst 1, 1) := by decide +kernel
theorem dX11_sumHere_89 : decode cX11_sumHere 89 = .ok (.invokevirtual 252, 3) := by decide +kernel
theorem dX11_sumHere_92 : decode cX11_sumHere 92 = .ok (.aload_n 0, 1) := by decide +kernel
theorem dX11_sumHere_93 : decode cX11_sumHere 93 = .ok (.dup, 1) := by decide +kernel
theorem dX11_sumHere_94 : decode cX11_sumHere 94 = .ok (.getfield 226, 3) := by decide +kernel
theorem dX11_sumHere_97 : decode cX11_sumHere 97 = .ok (.iconst 1, 1) := by decide +kernel
theorem dX11_sumHere_98 : decode cX11_sumHere 98 = .ok (.isub, 1) := by decide +kernel
theorem dX11_sumHere_99 : decode cX11_sumHere 99 = .ok (.putfield 226, 3) := by decide +kernel
theorem dX11_sumHere_102 : decode cX11_sumHere 102 = .ok (.aload_n 0, 1) := by decide +kernel
theorem dX11_sumHere_103 : decode cX11_sumHere 103 = .ok (.dup, 1) := by decide +kernel
theorem dX11_sumHere_104 : decode cX11_sumHere 104 = .ok (.getfield 237, 3) := by decide +kernel
theorem dX11_sumHere_107 : decode cX11_sumHere 107 = .ok (.iconst 1, 1) := by decide +kernel
theorem dX11_sumHere_108 : decode cX11_sumHere 108 = .ok (.isub, 1) := by decide +kernel
theorem dX11_sumHere_109 : decode cX11_sumHere 109 = .ok (.putfield 237, 3) := by decide +kernel
theorem dX11_sumHere_112 : decode cX11_sumHere 112 = .ok (.aload_n 0, 1) := by decide +kernel
theorem dX11_sumHere_113 : decode cX11_sumHere 113 = .ok (.dup, 1) := by decide +kernel
theorem dX11_sumHere_114 : decode cX11_sumHere 114 = .ok (.getfield 110, 3) := by decide +kernel
theorem dX11_sumHere_117 : decode cX11_sumHere 117 = .ok (.iconst 1, 1) := by decide +kernel
theorem dX11_sumHere_118 : decode cX11_sumHere 118 = .ok (.iadd, 1) := by decide +kernel
theorem dX11_sumHere_119 : decode cX11_sumHere 119 = .ok (.putfield 110, 3) := by decide +kernel
theorem dX11_sumHere_122 : decode cX11_sumHere 122 = .ok (.goto 5, 3) := by decide +kernel
theorem dX11_sumHere_125 : decode cX11_sumHere 125 = .ok (.iconst 0, 1) := by decide +kernel
theorem dX11_sumHere_126 : decode cX11_sumHere 126 = .ok (.istore_n 2, 1) := by decide +kernel
theorem dX11_sumHere_127 : decode cX11_sumHere 127 = .ok (.goto (-118), 3) := by decide +kernel
theorem dX11_sumHere_130 : decode cX11_sumHere 130 = .ok (.aload_n 0, 1) := by decide +kernel
theorem dX11_sumHere_131 : decode cX11_sumHere 131 = .ok (.iconst 1, 1) := by decide +kernel
theorem dX11_sumHere_132 : decode cX11_sumHere 132 = .ok (.invokevirtual 252, 3) := by decide +kernel
theorem dX11_sumHere_135 : decode cX11_sumHere 135 = .ok (.return_, 1) := by decide +kernel
theorem dX11_adjustLine_0 : decode cX11_adjustLine 0 = .ok (.aload_n 0, 1) := by decide +kernel
theorem dX11_adjustLine_1 : decode cX11_adjustLine 1 = .ok (.aload_n 0, 1) := by decide +kernel
theorem dX11_adjustLine_2 : decode cX11_adjustLine 2 = .ok (.invokevirtual 210, 3) := by decide +kernel
theorem dX11_adjustLine_5 : decode cX11_adjustLine 5 = .ok (.putfield 213, 3) := by decide +kernel
theorem dX11_adjustLine_8 : decode cX11_adjustLine 8 = .ok (.aload_n 0, 1) := by decide +kernel
theorem dX11_adjustLine_9 : decode cX11_adjustLine 9 = .ok (.invokevirtual 140, 3) := by decide +kernel
theorem dX11_adjustLine_12 : decode cX11_adjustLine 12 = .ok (.ifCond .eq 4, 3) := by decide +kernel
theorem dX11_adjustLine_15 : decode cX11_adjustLine 15 = .ok (.return_, 1) := by decide +kernel
theorem dX11_adjustLine_16 : decode cX11_adjustLine 16 = .ok (.aload_n 0, 1) := by decide +kernel
theorem dX11_adjustLine_17 : decode cX11_adjustLine 17 = .ok (.getfield 60, 3) := by decide +kernel
theorem dX11_adjustLine_20 : decode cX11_adjustLine 20 = .ok (.aload_n 0, 1) := by decide +kernel
theorem dX11_adjustLine_21 : decode cX11_adjustLine 21 = .ok (.getfield 213, 3) := by decide +kernel
theorem dX11_adjustLine_24 : decode cX11_adjustLine 24 = .ok (.iconst 0, 1) := by decide +kernel
theorem dX11_adjustLine_25 : decode cX11_adjustLine 25 = .ok (.iastore, 1) := by decide +kernel
theorem dX11_adjustLine_26 : decode cX11_adjustLine 26 = .ok (.aload_n 0, 1) := by decide +kernel
theorem dX11_adjustLine_27 : decode cX11_adjustLine 27 = .ok (.iconst 0, 1) := by decide +kernel
theorem dX11_adjustLine_28 : decode cX11_adjustLine 28 = .ok (.putfield 237, 3) := by decide +kernel
theorem dX11_adjustLine_31 : decode cX11_adjustLine 31 = .ok (.aload_n 0, 1) := by decide +kernel
theorem dX11_adjustLine_32 : decode cX11_adjustLine 32 = .ok (.invokevirtual 255, 3) := by decide +kernel
theorem dX11_adjustLine_35 : decode cX11_adjustLine 35 = .ok (.return_, 1) := by decide +kernel
theorem dX11_line_0 : decode cX11_line 0 = .ok (.aload_n 0, 1) := by decide +kernel
theorem dX11_line_1 : decode cX11_line 1 = .ok (.invokevirtual 120, 3) := by decide +kernel
theorem dX11_line_4 : decode cX11_line 4 = .ok (.pop, 1) := by decide +kernel
theorem dX11_line_5 : decode cX11_line 5 = .ok (.aload_n 0, 1) := by decide +kernel
theorem dX11_line_6 : decode cX11_line 6 = .ok (.ldc 158, 2) := by decide +kernel
theorem dX11_line_8 : decode cX11_line 8 = .ok (.invokevirtual 144, 3) := by decide +kernel
theorem dX11_line_11 : decode cX11_line 11 = .ok (.ifCond .eq 44, 3) := by decide +kernel
theorem dX11_line_14 : decode cX11_line 14 = .ok (.aload_n 0, 1) := by decide +kernel
theorem dX11_line_15 : decode cX11_line 15 = .ok (.getfield 196, 3) := by decide +kernel
theorem dX11_line_18 : decode cX11_line 18 = .ok (.bipush 6, 2) := by decide +kernel
theorem dX11_line_20 : decode cX11_line 20 = .ok (.if_icmp .ne 7, 3) := by decide +kernel
theorem dX11_line_23 : decode cX11_line 23 = .ok (.aload_n 0, 1) := by decide +kernel
theorem dX11_line_24 : decode cX11_line 24 = .ok (.invokevirtual 148, 3) := by decide +kernel
theorem dX11_line_27 : decode cX11_line 27 = .ok (.aload_n 0, 1) := by decide +kernel
theorem dX11_line_28 : decode cX11_line 28 = .ok (.dup, 1) := by decide +kernel
theorem dX11_line_29 : decode cX11_line 29 = .ok (.getfield 110, 3) := by decide +kernel
theorem dX11_line_32 : decode cX11_line 32 = .ok (.aload_n 0, 1) := by decide +kernel
theorem dX11_line_33 : decode cX11_line 33 = .ok (.invokevirtual 140, 3) := by decide +kernel
theorem dX11_line_36 : decode cX11_line 36 = .ok (.ifCond .eq 7, 3) := by decide +kernel
theorem dX11_line_39 : decode cX11_line 39 = .ok (.iconst 0, 1) := by decide +kernel
theorem dX11_line_40 : decode cX11_line 40 = .ok (.goto 4, 3) := by decide +kernel
theorem dX11_line_43 : decode cX11_line 43 = .ok (.iconst 5, 1) := by decide +kernel
theorem dX11_line_44 : decode cX11_line 44 = .ok (.iadd, 1) := by decide +kernel
theorem dX11_line_45 : decode cX11_line 45 = .ok (.putfield 110, 3) := by decide +kernel
theorem dX11_line_48 : decode cX11_line 48 = .ok (.aload_n 0, 1) := by decide +kernel
theorem dX11_line_49 : decode cX11_line 49 = .ok (.invokevirtual 258, 3) := by decide +kernel
theorem dX11_line_52 : decode cX11_line 52 = .ok (.goto 239, 3) := by decide +kernel
theorem dX11_line_55 : decode cX11_line 55 = .ok (.aload_n 0, 1) := by decide +kernel
theorem dX11_line_56 : decode cX11_line 56 = .ok (.ldc 160, 2) := by decide +kernel
theorem dX11_line_58 : decode cX11_line 58 = .ok (.invokevirtual 144, 3) := by decide +kernel
theorem dX11_line_61 : decode cX11_line 61 = .ok (.ifCond .eq 43, 3) := by decide +kernel
theorem dX11_line_64 : decode cX11_line 64 = .ok (.aload_n 0, 1) := by decide +kernel
theorem dX11_line_65 : decode cX11_line 65 = .ok (.getfield 189, 3) := by decide +kernel
theorem dX11_line_68 : decode cX11_line 68 = .ok (.iconst 4, 1) := by decide +kernel
theorem dX11_line_69 : decode cX11_line 69 = .ok (.if_icmp .ne 7, 3) := by decide +kernel
theorem dX11_line_72 : decode cX11_line 72 = .ok (.aload_n 0, 1) := by decide +kernel
theorem dX11_line_73 : decode cX11_line 73 = .ok (.invokevirtual 148, 3) := by decide +kernel
theorem dX11_line_76 : decode cX11_line 76 = .ok (.aload_n 0, 1) := by decide +kernel
theorem dX11_line_77 : decode cX11_line 77 = .ok (.dup, 1) := by decide +kernel
theorem dX11_line_78 : decode cX11_line 78 = .ok (.getfield 110, 3) := by decide +kernel
theorem dX11_line_81 : decode cX11_line 81 = .ok (.aload_n 0, 1) := by decide +kernel
theorem dX11_line_82 : decode cX11_line 82 = .ok (.invokevirtual 140, 3) := by decide +kernel
theorem dX11_line_85 : decode cX11_line 85 = .ok (.ifCond .eq 7, 3) := by decide +kernel
theorem dX11_line_88 : decode cX11_line 88 = .ok (.iconst 0, 1) := by decide +kernel
theorem dX11_line_89 : decode cX11_line 89 = .ok (.goto 4, 3) := by decide +kernel
theorem dX11_line_92 : decode cX11_line 92 = .ok (.iconst 4, 1) := by decide +kernel
theorem dX11_line_93 : decode cX11_line 93 = .ok (.iadd, 1) := by decide +kernel
theorem dX11_line_94 : decode cX11_line 94 = .ok (.putfield 110, 3) := by decide +kernel
theorem dX11_line_97 : decode cX11_line 97 = .ok (.aload_n 0, 1) := by decide +kernel
theorem dX11_line_98 : decode cX11_line 98 = .ok (.invokevirtual 261, 3) := by decide +kernel
theorem dX11_line_101 : decode cX11_line 101 = .ok (.goto 190, 3) := by decide +kernel
theorem dX11_line_104 : decode cX11_line 104 = .ok (.aload_n 0, 1) := by decide +kernel
theorem dX11_line_105 : decode cX11_line 105 = .ok (.ldc 162, 2) := by decide +kernel
theorem dX11_line_107 : decode cX11_line 107 = .ok (.invokevirtual 264, 3) := by decide +kernel
theorem dX11_line_110 : decode cX11_line 110 = .ok (.ifCond .eq 33, 3) := by decide +kernel
theorem dX11_line_113 : decode cX11_line 113 = .ok (.aload_n 0, 1) := by decide +kernel
theorem dX11_line_114 : decode cX11_line 114 = .ok (.iconst 1, 1) := by decide +kernel
theorem dX11_line_115 : decode cX11_line 115 = .ok (.invokevirtual 207, 3) := by decide +kernel
theorem dX11_line_118 : decode cX11_line 118 = .ok (.istore_n 1, 1) := by decide +kernel
theorem dX11_line_119 : decode cX11_line 119 = .ok (.aload_n 0, 1) := by decide +kernel
theorem dX11_line_120 : decode cX11_line 120 = .ok (.getfield 13, 3) := by decide +kernel
theorem dX11_line_123 : decode cX11_line 123 = .ok (.bipush 24, 2) := by decide +kernel
theorem dX11_line_125 : decode cX11_line 125 = .ok (.iload_n 1, 1) := by decide +kernel
theorem dX11_line_126 : decode cX11_line 126 = .ok (.iadd, 1) := by decide +kernel
theorem dX11_line_127 : decode cX11_line 127 = .ok (.aload_n 0, 1) := by decide +kernel
theorem dX11_line_128 : decode cX11_line 128 = .ok (.invokevirtual 140, 3) := by decide +kernel
theorem dX11_line_131 : decode cX11_line 131 = .ok (.ifCond .eq 7, 3) := by decide +kernel
theorem dX11_line_134 : decode cX11_line 134 = .ok (.iconst 0, 1) := by decide +kernel
theorem dX11_line_135 : decode cX11_line 135 = .ok (.goto 4, 3) := by decide +kernel
theorem dX11_line_138 : decode cX11_line 138 = .ok (.iconst 1, 1) := by decide +kernel
theorem dX11_line_139 : decode cX11_line 139 = .ok (.iastore, 1) := by decide +kernel
theorem dX11_line_140 : decode cX11_line 140 = .ok (.goto 151, 3) := by decide +kernel
theorem dX11_line_143 : decode cX11_line 143 = .ok (.aload_n 0, 1) := by decide +kernel
theorem dX11_line_144 : decode cX11_line 144 = .ok (.ldc 164, 2) := by decide +kernel
theorem dX11_line_146 : decode cX11_line 146 = .ok (.invokevirtual 264, 3) := by decide +kernel
theorem dX11_line_149 : decode cX11_line 149 = .ok (.ifCond .eq 10, 3) := by decide +kernel
theorem dX11_line_152 : decode cX11_line 152 = .ok (.aload_n 0, 1) := by decide +kernel
theorem dX11_line_153 : decode cX11_line 153 = .ok (.invokevirtual 267, 3) := by decide +kernel
theorem dX11_line_156 : decode cX11_line 156 = .ok (.goto 135, 3) := by decide +kernel
theorem dX11_line_159 : decode cX11_line 159 = .ok (.aload_n 0, 1) := by decide +kernel
theorem dX11_line_160 : decode cX11_line 160 = .ok (.ldc 166, 2) := by decide +kernel
theorem dX11_line_162 : decode cX11_line 162 = .ok (.invokevirtual 264, 3) := by decide +kernel
theorem dX11_line_165 : decode cX11_line 165 = .ok (.ifCond .eq 10, 3) := by decide +kernel
theorem dX11_line_168 : decode cX11_line 168 = .ok (.aload_n 0, 1) := by decide +kernel
theorem dX11_line_169 : decode cX11_line 169 = .ok (.invokevirtual 270, 3) := by decide +kernel
theorem dX11_line_172 : decode cX11_line 172 = .ok (.goto 119, 3) := by decide +kernel
theorem dX11_line_175 : decode cX11_line 175 = .ok (.aload_n 0, 1) := by decide +kernel
theorem dX11_line_176 : decode cX11_line 176 = .ok (.ldc 168, 2) := by decide +kernel
theorem dX11_line_178 : decode cX11_line 178 = .ok (.invokevirtual 144, 3) := by decide +kernel
theorem dX11_line_181 : decode cX11_line 181 = .ok (.ifCond .eq 54, 3) := by decide +kernel
theorem dX11_line_184 : decode cX11_line 184 = .ok (.aload_n 0, 1) := by decide +kernel
theorem dX11_line_185 : decode cX11_line 185 = .ok (.getfield 13, 3) := by decide +kernel
theorem dX11_line_188 : decode cX11_line 188 = .ok (.bipush 34, 2) := by decide +kernel
theorem dX11_line_190 : decode cX11_line 190 = .ok (.iaload, 1) := by decide +kernel
theorem dX11_line_191 : decode cX11_line 191 = .ok (.bipush 40, 2) := by decide +kernel
theorem dX11_line_193 : decode cX11_line 193 = .ok (.if_icmp .ne 7, 3) := by decide +kernel
theorem dX11_line_196 : decode cX11_line 196 = .ok (.aload_n 0, 1) := by decide +kernel
theorem dX11_line_197 : decode cX11_line 197 = .ok (.invokevirtual 148, 3) := by decide +kernel
theorem dX11_line_200 : decode cX11_line 200 = .ok (.aload_n 0, 1) := by decide +kernel
theorem dX11_line_201 : decode cX11_line 201 = .ok (.dup, 1) := by decide +kernel
theorem dX11_line_202 : decode cX11_line 202 = .ok (.getfield 110, 3) := by decide +kernel
theorem dX11_line_205 : decode cX11_line 205 = .ok (.aload_n 0, 1) := by decide +kernel
theorem dX11_line_206 : decode cX11_line 206 = .ok (.invokevirtual 140, 3) := by decide +kernel
theorem dX11_line_209 : decode cX11_line 209 = .ok (.ifCond .eq 7, 3) := by decide +kernel
theorem dX11_line_212 : decode cX11_line 212 = .ok (.iconst 0, 1) := by decide +kernel
theorem dX11_line_213 : decode cX11_line 213 = .ok (.goto 4, 3) := by decide +kernel
theorem dX11_line_216 : decode cX11_line 216 = .ok (.iconst 4, 1) := by decide +kernel
theorem dX11_line_217 : decode cX11_line 217 = .ok (.iadd, 1) := by decide +kernel
theorem dX11_line_218 : decode cX11_line 218 = .ok (.putfield 110, 3) := by decide +kernel
theorem dX11_line_221 : decode cX11_line 221 = .ok (.aload_n 0, 1) := by decide +kernel
theorem dX11_line_222 : decode cX11_line 222 = .ok (.invokevirtual 140, 3) := by decide +kernel
theorem dX11_line_225 : decode cX11_line 225 = .ok (.ifCond .ne 66, 3) := by decide +kernel
theorem dX11_line_228 : decode cX11_line 228 = .ok (.aload_n 0, 1) := by decide +kernel
theorem dX11_line_229 : decode cX11_line 229 = .ok (.invokevirtual 273, 3) := by decide +kernel
theorem dX11_line_232 : decode cX11_line 232 = .ok (.goto 59, 3) := by decide +kernel
theorem dX11_line_235 : decode cX11_line 235 = .ok (.aload_n 0, 1) := by decide +kernel
theorem dX11_line_236 : decode cX11_line 236 = .ok (.ldc 170, 2) := by decide +kernel
theorem dX11_line_238 : decode cX11_line 238 = .ok (.invokevirtual 264, 3) := by decide +kernel
theorem dX11_line_241 : decode cX11_line 241 = .ok (.ifCond .eq 20, 3) := by decide +kernel
theorem dX11_line_244 : decode cX11_line 244 = .ok (.aload_n 0, 1) := by decide +kernel
theorem dX11_line_245 : decode cX11_line 245 = .ok (.getfield 13, 3) := by decide +kernel
theorem dX11_line_248 : decode cX11_line 248 = .ok (.bipush 32, 2) := by decide +kernel
theorem dX11_line_250 : decode cX11_line 250 = .ok (.aload_n 0, 1) := by decide +kernel
theorem dX11_line_251 : decode cX11_line 251 = .ok (.iconst 0, 1) := by decide +kernel
theorem dX11_line_252 : decode cX11_line 252 = .ok (.bipush 99, 2) := by decide +kernel
theorem dX11_line_254 : decode cX11_line 254 = .ok (.invokevirtual 203, 3) := by decide +kernel
theorem dX11_line_257 : decode cX11_line 257 = .ok (.iastore, 1) := by decide +kernel
theorem dX11_line_258 : decode cX11_line 258 = .ok (.goto 33, 3) := by decide +kernel
theorem dX11_line_261 : decode cX11_line 261 = .ok (.aload_n 0, 1) := by decide +kernel
theorem dX11_line_262 : decode cX11_line 262 = .ok (.ldc 172, 2) := by decide +kernel
theorem dX11_line_264 : decode cX11_line 264 = .ok (.invokevirtual 264, 3) := by decide +kernel
theorem dX11_line_267 : decode cX11_line 267 = .ok (.ifCond .eq 20, 3) := by decide +kernel
theorem dX11_line_270 : decode cX11_line 270 = .ok (.aload_n 0, 1) := by decide +kernel
theorem dX11_line_271 : decode cX11_line 271 = .ok (.getfield 13, 3) := by decide +kernel
theorem dX11_line_274 : decode cX11_line 274 = .ok (.bipush 33, 2) := by decide +kernel
theorem dX11_line_276 : decode cX11_line 276 = .ok (.aload_n 0, 1) := by decide +kernel
theorem dX11_line_277 : decode cX11_line 277 = .ok (.iconst 0, 1) := by decide +kernel
theorem dX11_line_278 : decode cX11_line 278 = .ok (.bipush 99, 2) := by decide +kernel
theorem dX11_line_280 : decode cX11_line 280 = .ok (.invokevirtual 203, 3) := by decide +kernel
theorem dX11_line_283 : decode cX11_line 283 = .ok (.iastore, 1) := by decide +kernel
theorem dX11_line_284 : decode cX11_line 284 = .ok (.goto 7, 3) := by decide +kernel
theorem dX11_line_287 : decode cX11_line 287 = .ok (.aload_n 0, 1) := by decide +kernel
theorem dX11_line_288 : decode cX11_line 288 = .ok (.invokevirtual 148, 3) := by decide +kernel
theorem dX11_line_291 : decode cX11_line 291 = .ok (.aload_n 0, 1) := by decide +kernel
theorem dX11_line_292 : decode cX11_line 292 = .ok (.bipush 59, 2) := by decide +kernel
theorem dX11_line_294 : decode cX11_line 294 = .ok (.invokevirtual 276, 3) := by decide +kernel
theorem dX11_line_297 : decode cX11_line 297 = .ok (.return_, 1) := by decide +kernel
theorem dX11_read_0 : decode cX11_read 0 = .ok (.aload_n 0, 1) := by decide +kernel
theorem dX11_read_1 : decode cX11_read 1 = .ok (.iconst 0, 1) := by decide +kernel
theorem dX11_read_2 : decode cX11_read 2 = .ok (.putfield 104, 3) := by decide +kernel
theorem dX11_read_5 : decode cX11_read 5 = .ok (.aload_n 0, 1) := by decide +kernel
theorem dX11_read_6 : decode cX11_read 6 = .ok (.aload_n 0, 1) := by decide +kernel
theorem dX11_read_7 : decode cX11_read 7 = .ok (.getfield 107, 3) := by decide +kernel
theorem dX11_read_10 : decode cX11_read 10 = .ok (.putfield 117, 3) := by decide +kernel
theorem dX11_read_13 : decode cX11_read 13 = .ok (.aload_n 0, 1) := by decide +kernel
theorem dX11_read_14 : decode cX11_read 14 = .ok (.iconst 0, 1) := by decide +kernel
theorem dX11_read_15 : decode cX11_read 15 = .ok (.putfield 107, 3) := by decide +kernel
theorem dX11_read_18 : decode cX11_read 18 = .ok (.aload_n 0, 1) := by decide +kernel
theorem dX11_read_19 : decode cX11_read 19 = .ok (.iconst 0, 1) := by decide +kernel
theorem dX11_read_20 : decode cX11_read 20 = .ok (.putfield 110, 3) := by decide +kernel
theorem dX11_read_23 : decode cX11_read 23 = .ok (.aload_n 0, 1) := by decide +kernel
theorem dX11_read_24 : decode cX11_read 24 = .ok (.iconst (-1), 1) := by decide +kernel
theorem dX11_read_25 : decode cX11_read 25 = .ok (.putfield 41, 3) := by decide +kernel
theorem dX11_read_28 : decode cX11_read 28 = .ok (.iconst 0, 1) := by decide +kernel
theorem dX11_read_29 : decode cX11_read 29 = .ok (.istore_n 1, 1) := by decide +kernel
theorem dX11_read_30 : decode cX11_read 30 = .ok (.iload_n 1, 1) := by decide +kernel
theorem dX11_read_31 : decode cX11_read 31 = .ok (.sipush 355, 3) := by decide +kernel
theorem dX11_read_34 : decode cX11_read 34 = .ok (.if_icmp .ge 16, 3) := by decide +kernel
theorem dX11_read_37 : decode cX11_read 37 = .ok (.aload_n 0, 1) := by decide +kernel
theorem dX11_read_38 : decode cX11_read 38 = .ok (.getfield 13, 3) := by decide +kernel
theorem dX11_read_41 : decode cX11_read 41 = .ok (.iload_n 1, 1) := by decide +kernel
theorem dX11_read_42 : decode cX11_read 42 = .ok (.iconst 0, 1) := by decide +kernel
theorem dX11_read_43 : decode cX11_read 43 = .ok (.iastore, 1) := by decide +kernel
theorem dX11_read_44 : decode cX11_read 44 = .ok (.iinc 1 1, 3) := by decide +kernel
theorem dX11_read_47 : decode cX11_read 47 = .ok (.goto (-17), 3) := by decide +kernel
theorem dX11_read_50 : decode cX11_read 50 = .ok (.aload_n 0, 1) := by decide +kernel
theorem dX11_read_51 : decode cX11_read 51 = .ok (.getfield 13, 3) := by decide +kernel
theorem dX11_read_54 : decode cX11_read 54 = .ok (.bipush 32, 2) := by decide +kernel
theorem dX11_read_56 : decode cX11_read 56 = .ok (.bipush 10, 2) := by decide +kernel
theorem dX11_read_58 : decode cX11_read 58 = .ok (.iastore, 1) := by decide +kernel
theorem dX11_read_59 : decode cX11_read 59 = .ok (.aload_n 0, 1) := by decide +kernel
theorem dX11_read_60 : decode cX11_read 60 = .ok (.iconst 0, 1) := by decide +kernel
theorem dX11_read_61 : decode cX11_read 61 = .ok (.putfield 196, 3) := by decide +kernel
theorem dX11_read_64 : decode cX11_read 64 = .ok (.aload_n 0, 1) := by decide +kernel
theorem dX11_read_65 : decode cX11_read 65 = .ok (.iconst 0, 1) := by decide +kernel
theorem dX11_read_66 : decode cX11_read 66 = .ok (.putfield 189, 3) := by decide +kernel
theorem dX11_read_69 : decode cX11_read 69 = .ok (.iconst 0, 1) := by decide +kernel
theorem dX11_read_70 : decode cX11_read 70 = .ok (.istore_n 1, 1) := by decide +kernel
theorem dX11_read_71 : decode cX11_read 71 = .ok (.iload_n 1, 1) := by decide +kernel
theorem dX11_read_72 : decode cX11_read 72 = .ok (.iconst 3, 1) := by decide +kernel
theorem dX11_read_73 : decode cX11_read 73 = .ok (.if_icmp .ge 16, 3) := by decide +kernel
theorem dX11_read_76 : decode cX11_read 76 = .ok (.aload_n 0, 1) := by decide +kernel
theorem dX11_read_77 : decode cX11_read 77 = .ok (.getfield 60, 3) := by decide +kernel
theorem dX11_read_80 : decode cX11_read 80 = .ok (.iload_n 1, 1) := by decide +kernel
theorem dX11_read_81 : decode cX11_read 81 = .ok (.iconst 0, 1) := by decide +kernel
theorem dX11_read_82 : decode cX11_read 82 = .ok (.iastore, 1) := by decide +kernel
theorem dX11_read_83 : decode cX11_read 83 = .ok (.iinc 1 1, 3) := by decide +kernel
theorem dX11_read_86 : decode cX11_read 86 = .ok (.goto (-15), 3) := by decide +kernel
theorem dX11_read_89 : decode cX11_read 89 = .ok (.aload_n 0, 1) := by decide +kernel
theorem dX11_read_90 : decode cX11_read 90 = .ok (.invokevirtual 140, 3) := by decide +kernel
theorem dX11_read_93 : decode cX11_read 93 = .ok (.ifCond .ne 18, 3) := by decide +kernel
theorem dX11_read_96 : decode cX11_read 96 = .ok (.aload_n 0, 1) := by decide +kernel
theorem dX11_read_97 : decode cX11_read 97 = .ok (.invokevirtual 120, 3) := by decide +kernel
theorem dX11_read_100 : decode cX11_read 100 = .ok (.iconst (-1), 1) := by decide +kernel
theorem dX11_read_101 : decode cX11_read 101 = .ok (.if_icmp .eq 10, 3) := by decide +kernel
theorem dX11_read_104 : decode cX11_read 104 = .ok (.aload_n 0, 1) := by decide +kernel
theorem dX11_read_105 : decode cX11_read 105 = .ok (.invokevirtual 279, 3) := by decide +kernel
theorem dX11_read_108 : decode cX11_read 108 = .ok (.goto (-19), 3) := by decide +kernel
theorem dX11_read_111 : decode cX11_read 111 = .ok (.aload_n 0, 1) := by decide +kernel
theorem dX11_read_112 : decode cX11_read 112 = .ok (.invokevirtual 140, 3) := by decide +kernel
theorem dX11_read_115 : decode cX11_read 115 = .ok (.ifCond .eq 9, 3) := by decide +kernel
theorem dX11_read_118 : decode cX11_read 118 = .ok (.aload_n 0, 1) := by decide +kernel
theorem dX11_read_119 : decode cX11_read 119 = .ok (.iconst 1, 1) := by decide +kernel
theorem dX11_read_120 : decode cX11_read 120 = .ok (.invokevirtual 282, 3) := by decide +kernel
theorem dX11_read_123 : decode cX11_read 123 = .ok (.ireturn, 1) := by decide +kernel
theorem dX11_read_124 : decode cX11_read 124 = .ok (.aload_n 0, 1) := by decide +kernel
theorem dX11_read_125 : decode cX11_read 125 = .ok (.invokevirtual 285, 3) := by decide +kernel
theorem dX11_read_128 : decode cX11_read 128 = .ok (.aload_n 0, 1) := by decide +kernel
theorem dX11_read_129 : decode cX11_read 129 = .ok (.getfield 7, 3) := by decide +kernel
theorem dX11_read_132 : decode cX11_read 132 = .ok (.bipush 34, 2) := by decide +kernel
theorem dX11_read_134 : decode cX11_read 134 = .ok (.iaload, 1) := by decide +kernel
theorem dX11_read_135 : decode cX11_read 135 = .ok (.ireturn, 1) := by decide +kernel
theorem dX11_takesAll_0 : decode cX11_takesAll 0 = .ok (.iconst 0, 1) := by decide +kernel
theorem dX11_takesAll_1 : decode cX11_takesAll 1 = .ok (.istore_n 1, 1) := by decide +kernel
theorem dX11_takesAll_2 : decode cX11_takesAll 2 = .ok (.iload_n 1, 1) := by decide +kernel
theorem dX11_takesAll_3 : decode cX11_takesAll 3 = .ok (.sipush 355, 3) := by decide +kernel
theorem dX11_takesAll_6 : decode cX11_takesAll 6 = .ok (.if_icmp .ge 21, 3) := by decide +kernel
theorem dX11_takesAll_9 : decode cX11_takesAll 9 = .ok (.aload_n 0, 1) := by decide +kernel
theorem dX11_takesAll_10 : decode cX11_takesAll 10 = .ok (.getfield 7, 3) := by decide +kernel
theorem dX11_takesAll_13 : decode cX11_takesAll 13 = .ok (.iload_n 1, 1) := by decide +kernel
theorem dX11_takesAll_14 : decode cX11_takesAll 14 = .ok (.aload_n 0, 1) := by decide +kernel
theorem dX11_takesAll_15 : decode cX11_takesAll 15 = .ok (.getfield 13, 3) := by decide +kernel
theorem dX11_takesAll_18 : decode cX11_takesAll 18 = .ok (.iload_n 1, 1) := by decide +kernel
theorem dX11_takesAll_19 : decode cX11_takesAll 19 = .ok (.iaload, 1) := by decide +kernel
theorem dX11_takesAll_20 : decode cX11_takesAll 20 = .ok (.iastore, 1) := by decide +kernel
theorem dX11_takesAll_21 : decode cX11_takesAll 21 = .ok (.iinc 1 1, 3) := by decide +kernel
theorem dX11_takesAll_24 : decode cX11_takesAll 24 = .ok (.goto (-22), 3) := by decide +kernel
theorem dX11_takesAll_27 : decode cX11_takesAll 27 = .ok (.aload_n 0, 1) := by decide +kernel
theorem dX11_takesAll_28 : decode cX11_takesAll 28 = .ok (.aload_n 0, 1) := by decide +kernel
theorem dX11_takesAll_29 : decode cX11_takesAll 29 = .ok (.getfield 196, 3) := by decide +kernel
theorem dX11_takesAll_32 : decode cX11_takesAll 32 = .ok (.putfield 288, 3) := by decide +kernel
theorem dX11_takesAll_35 : decode cX11_takesAll 35 = .ok (.aload_n 0, 1) := by decide +kernel
theorem dX11_takesAll_36 : decode cX11_takesAll 36 = .ok (.aload_n 0, 1) := by decide +kernel
theorem dX11_takesAll_37 : decode cX11_takesAll 37 = .ok (.getfield 189, 3) := by decide +kernel
theorem dX11_takesAll_40 : decode cX11_takesAll 40 = .ok (.putfield 291, 3) := by decide +kernel
theorem dX11_takesAll_43 : decode cX11_takesAll 43 = .ok (.iconst 0, 1) := by decide +kernel
theorem dX11_takesAll_44 : decode cX11_takesAll 44 = .ok (.istore_n 1, 1) := by decide +kernel
theorem dX11_takesAll_45 : decode cX11_takesAll 45 = .ok (.iload_n 1, 1) := by decide +kernel
theorem dX11_takesAll_46 : decode cX11_takesAll 46 = .ok (.bipush 6, 2) := by decide +kernel
theorem dX11_takesAll_48 : decode cX11_takesAll 48 = .ok (.if_icmp .ge 21, 3) := by decide +kernel
theorem dX11_takesAll_51 : decode cX11_takesAll 51 = .ok (.aload_n 0, 1) := by decide +kernel
theorem dX11_takesAll_52 : decode cX11_takesAll 52 = .ok (.getfield 19, 3) := by decide +kernel
theorem dX11_takesAll_55 : decode cX11_takesAll 55 = .ok (.iload_n 1, 1) := by decide +kernel
theorem dX11_takesAll_56 : decode cX11_takesAll 56 = .ok (.aload_n 0, 1) := by decide +kernel
theorem dX11_takesAll_57 : decode cX11_takesAll 57 = .ok (.getfield 45, 3) := by decide +kernel
theorem dX11_takesAll_60 : decode cX11_takesAll 60 = .ok (.iload_n 1, 1) := by decide +kernel
theorem dX11_takesAll_61 : decode cX11_takesAll 61 = .ok (.iaload, 1) := by decide +kernel
theorem dX11_takesAll_62 : decode cX11_takesAll 62 = .ok (.iastore, 1) := by decide +kernel
theorem dX11_takesAll_63 : decode cX11_takesAll 63 = .ok (.iinc 1 1, 3) := by decide +kernel
theorem dX11_takesAll_66 : decode cX11_takesAll 66 = .ok (.goto (-21), 3) := by decide +kernel
theorem dX11_takesAll_69 : decode cX11_takesAll 69 = .ok (.iconst 0, 1) := by decide +kernel
theorem dX11_takesAll_70 : decode cX11_takesAll 70 = .ok (.istore_n 1, 1) := by decide +kernel
theorem dX11_takesAll_71 : decode cX11_takesAll 71 = .ok (.iload_n 1, 1) := by decide +kernel
theorem dX11_takesAll_72 : decode cX11_takesAll 72 = .ok (.iconst 4, 1) := by decide +kernel
theorem dX11_takesAll_73 : decode cX11_takesAll 73 = .ok (.if_icmp .ge 21, 3) := by decide +kernel
theorem dX11_takesAll_76 : decode cX11_takesAll 76 = .ok (.aload_n 0, 1) := by decide +kernel
theorem dX11_takesAll_77 : decode cX11_takesAll 77 = .ok (.getfield 22, 3) := by decide +kernel
theorem dX11_takesAll_80 : decode cX11_takesAll 80 = .ok (.iload_n 1, 1) := by decide +kernel
theorem dX11_takesAll_81 : decode cX11_takesAll 81 = .ok (.aload_n 0, 1) := by decide +kernel
theorem dX11_takesAll_82 : decode cX11_takesAll 82 = .ok (.getfield 48, 3) := by decide +kernel
theorem dX11_takesAll_85 : decode cX11_takesAll 85 = .ok (.iload_n 1, 1) := by decide +kernel
theorem dX11_takesAll_86 : decode cX11_takesAll 86 = .ok (.iaload, 1) := by decide +kernel
theorem dX11_takesAll_87 : decode cX11_takesAll 87 = .ok (.iastore, 1) := by decide +kernel
theorem dX11_takesAll_88 : decode cX11_takesAll 88 = .ok (.iinc 1 1, 3) := by decide +kernel
theorem dX11_takesAll_91 : decode cX11_takesAll 91 = .ok (.goto (-20), 3) := by decide +kernel
theorem dX11_takesAll_94 : decode cX11_takesAll 94 = .ok (.iconst 0, 1) := by decide +kernel
theorem dX11_takesAll_95 : decode cX11_takesAll 95 = .ok (.istore_n 1, 1) := by decide +kernel
theorem dX11_takesAll_96 : decode cX11_takesAll 96 = .ok (.iload_n 1, 1) := by decide +kernel
theorem dX11_takesAll_97 : decode cX11_takesAll 97 = .ok (.bipush 18, 2) := by decide +kernel
theorem dX11_takesAll_99 : decode cX11_takesAll 99 = .ok (.if_icmp .ge 21, 3) := by decide +kernel
theorem dX11_takesAll_102 : decode cX11_takesAll 102 = .ok (.aload_n 0, 1) := by decide +kernel
theorem dX11_takesAll_103 : decode cX11_takesAll 103 = .ok (.getfield 25, 3) := by decide +kernel
theorem dX11_takesAll_106 : decode cX11_takesAll 106 = .ok (.iload_n 1, 1) := by decide +kernel
theorem dX11_takesAll_107 : decode cX11_takesAll 107 = .ok (.aload_n 0, 1) := by decide +kernel
theorem dX11_takesAll_108 : decode cX11_takesAll 108 = .ok (.getfield 51, 3) := by decide +kernel
theorem dX11_takesAll_111 : decode cX11_takesAll 111 = .ok (.iload_n 1, 1) := by decide +kernel
theorem dX11_takesAll_112 : decode cX11_takesAll 112 = .ok (.iaload, 1) := by decide +kernel
theorem dX11_takesAll_113 : decode cX11_takesAll 113 = .ok (.iastore, 1) := by decide +kernel
theorem dX11_takesAll_114 : decode cX11_takesAll 114 = .ok (.iinc 1 1, 3) := by decide +kernel
theorem dX11_takesAll_117 : decode cX11_takesAll 117 = .ok (.goto (-21), 3) := by decide +kernel
theorem dX11_takesAll_120 : decode cX11_takesAll 120 = .ok (.iconst 0, 1) := by decide +kernel
theorem dX11_takesAll_121 : decode cX11_takesAll 121 = .ok (.istore_n 1, 1) := by decide +kernel
theorem dX11_takesAll_122 : decode cX11_takesAll 122 = .ok (.iload_n 1, 1) := by decide +kernel
theorem dX11_takesAll_123 : decode cX11_takesAll 123 = .ok (.sipush 1200, 3) := by decide +kernel
theorem dX11_takesAll_126 : decode cX11_takesAll 126 = .ok (.if_icmp .ge 33, 3) := by decide +kernel
theorem dX11_takesAll_129 : decode cX11_takesAll 129 = .ok (.aload_n 0, 1) := by decide +kernel
theorem dX11_takesAll_130 : decode cX11_takesAll 130 = .ok (.getfield 28, 3) := by decide +kernel
theorem dX11_takesAll_133 : decode cX11_takesAll 133 = .ok (.iload_n 1, 1) := by decide +kernel
theorem dX11_takesAll_134 : decode cX11_takesAll 134 = .ok (.aload_n 0, 1) := by decide +kernel
theorem dX11_takesAll_135 : decode cX11_takesAll 135 = .ok (.getfield 54, 3) := by decide +kernel
theorem dX11_takesAll_138 : decode cX11_takesAll 138 = .ok (.iload_n 1, 1) := by decide +kernel
theorem dX11_takesAll_139 : decode cX11_takesAll 139 = .ok (.iaload, 1) := by decide +kernel
theorem dX11_takesAll_140 : decode cX11_takesAll 140 = .ok (.iastore, 1) := by decide +kernel
theorem dX11_takesAll_141 : decode cX11_takesAll 141 = .ok (.aload_n 0, 1) := by decide +kernel
theorem dX11_takesAll_142 : decode cX11_takesAll 142 = .ok (.getfield 31, 3) := by decide +kernel
theorem dX11_takesAll_145 : decode cX11_takesAll 145 = .ok (.iload_n 1, 1) := by decide +kernel
theorem dX11_takesAll_146 : decode cX11_takesAll 146 = .ok (.aload_n 0, 1) := by decide +kernel
theorem dX11_takesAll_147 : decode cX11_takesAll 147 = .ok (.getfield 57, 3) := by decide +kernel
theorem dX11_takesAll_150 : decode cX11_takesAll 150 = .ok (.iload_n 1, 1) := by decide +kernel
theorem dX11_takesAll_151 : decode cX11_takesAll 151 = .ok (.iaload, 1) := by decide +kernel
theorem dX11_takesAll_152 : decode cX11_takesAll 152 = .ok (.iastore, 1) := by decide +kernel
theorem dX11_takesAll_153 : decode cX11_takesAll 153 = .ok (.iinc 1 1, 3) := by decide +kernel
theorem dX11_takesAll_156 : decode cX11_takesAll 156 = .ok (.goto (-34), 3) := by decide +kernel
theorem dX11_takesAll_159 : decode cX11_takesAll 159 = .ok (.iconst 0, 1) := by decide +kernel
theorem dX11_takesAll_160 : decode cX11_takesAll 160 = .ok (.istore_n 1, 1) := by decide +kernel
theorem dX11_takesAll_161 : decode cX11_takesAll 161 = .ok (.iload_n 1, 1) := by decide +kernel
theorem dX11_takesAll_162 : decode cX11_takesAll 162 = .ok (.iconst 3, 1) := by decide +kernel
theorem dX11_takesAll_163 : decode cX11_takesAll 163 = .ok (.if_icmp .ge 21, 3) := by decide +kernel
theorem dX11_takesAll_166 : decode cX11_takesAll 166 = .ok (.aload_n 0, 1) := by decide +kernel
theorem dX11_takesAll_167 : decode cX11_takesAll 167 = .ok (.getfield 34, 3) := by decide +kernel
theorem dX11_takesAll_170 : decode cX11_takesAll 170 = .ok (.iload_n 1, 1) := by decide +kernel
theorem dX11_takesAll_171 : decode cX11_takesAll 171 = .ok (.aload_n 0, 1) := by decide +kernel
theorem dX11_takesAll_172 : decode cX11_takesAll 172 = .ok (.getfield 60, 3) := by decide +kernel
theorem dX11_takesAll_175 : decode cX11_takesAll 175 = .ok (.iload_n 1, 1) := by decide +kernel
theorem dX11_takesAll_176 : decode cX11_takesAll 176 = .ok (.iaload, 1) := by decide +kernel
theorem dX11_takesAll_177 : decode cX11_takesAll 177 = .ok (.iastore, 1) := by decide +kernel
theorem dX11_takesAll_178 : decode cX11_takesAll 178 = .ok (.iinc 1 1, 3) := by decide +kernel
theorem dX11_takesAll_181 : decode cX11_takesAll 181 = .ok (.goto (-20), 3) := by decide +kernel
theorem dX11_takesAll_184 : decode cX11_takesAll 184 = .ok (.aload_n 0, 1) := by decide +kernel
theorem dX11_takesAll_185 : decode cX11_takesAll 185 = .ok (.iconst 0, 1) := by decide +kernel
theorem dX11_takesAll_186 : decode cX11_takesAll 186 = .ok (.putfield 294, 3) := by decide +kernel
theorem dX11_takesAll_189 : decode cX11_takesAll 189 = .ok (.aload_n 0, 1) := by decide +kernel
theorem dX11_takesAll_190 : decode cX11_takesAll 190 = .ok (.iconst 0, 1) := by decide +kernel
theorem dX11_takesAll_191 : decode cX11_takesAll 191 = .ok (.putfield 297, 3) := by decide +kernel
theorem dX11_takesAll_194 : decode cX11_takesAll 194 = .ok (.return_, 1) := by decide +kernel
theorem dX11_fault_0 : decode cX11_fault 0 = .ok (.aload_n 0, 1) := by decide +kernel
theorem dX11_fault_1 : decode cX11_fault 1 = .ok (.iconst 0, 1) := by decide +kernel
theorem dX11_fault_2 : decode cX11_fault 2 = .ok (.putfield 104, 3) := by decide +kernel
theorem dX11_fault_5 : decode cX11_fault 5 = .ok (.aload_n 0, 1) := by decide +kernel
theorem dX11_fault_6 : decode cX11_fault 6 = .ok (.getfield 41, 3) := by decide +kernel
theorem dX11_fault_9 : decode cX11_fault 9 = .ok (.ireturn, 1) := by decide +kernel
theorem dX11_isModel_0 : decode cX11_isModel 0 = .ok (.iload_n 1, 1) := by decide +kernel
theorem dX11_isModel_1 : decode cX11_isModel 1 = .ok (.i2l, 1) := by decide +kernel
theorem dX11_isModel_2 : decode cX11_isModel 2 = .ok (.lconst 0, 1) := by decide +kernel
theorem dX11_isModel_3 : decode cX11_isModel 3 = .ok (.aload_n 0, 1) := by decide +kernel
theorem dX11_isModel_4 : decode cX11_isModel 4 = .ok (.getfield 288, 3) := by decide +kernel
theorem dX11_isModel_7 : decode cX11_isModel 7 = .ok (.iconst 1, 1) := by decide +kernel
theorem dX11_isModel_8 : decode cX11_isModel 8 = .ok (.isub, 1) := by decide +kernel
theorem dX11_isModel_9 : decode cX11_isModel 9 = .ok (.i2l, 1) := by decide +kernel
theorem dX11_isModel_10 : decode cX11_isModel 10 = .ok (.invokestatic 301, 3) := by decide +kernel
theorem dX11_isModel_13 : decode cX11_isModel 13 = .ok (.ireturn, 1) := by decide +kernel
theorem dX11_isFirm_0 : decode cX11_isFirm 0 = .ok (.iload_n 1, 1) := by decide +kernel
theorem dX11_isFirm_1 : decode cX11_isFirm 1 = .ok (.i2l, 1) := by decide +kernel
theorem dX11_isFirm_2 : decode cX11_isFirm 2 = .ok (.lconst 0, 1) := by decide +kernel
theorem dX11_isFirm_3 : decode cX11_isFirm 3 = .ok (.aload_n 0, 1) := by decide +kernel
theorem dX11_isFirm_4 : decode cX11_isFirm 4 = .ok (.getfield 291, 3) := by decide +kernel
theorem dX11_isFirm_7 : decode cX11_isFirm 7 = .ok (.iconst 1, 1) := by decide +kernel
theorem dX11_isFirm_8 : decode cX11_isFirm 8 = .ok (.isub, 1) := by decide +kernel
theorem dX11_isFirm_9 : decode cX11_isFirm 9 = .ok (.i2l, 1) := by decide +kernel
theorem dX11_isFirm_10 : decode cX11_isFirm 10 = .ok (.invokestatic 301, 3) := by decide +kernel
theorem dX11_isFirm_13 : decode cX11_isFirm 13 = .ok (.ireturn, 1) := by decide +kernel
theorem dX11_isSale_0 : decode cX11_isSale 0 = .ok (.iload_n 1, 1) := by decide +kernel
theorem dX11_isSale_1 : decode cX11_isSale 1 = .ok (.i2l, 1) := by decide +kernel
theorem dX11_isSale_2 : decode cX11_isSale 2 = .ok (.lconst 0, 1) := by decide +kernel
theorem dX11_isSale_3 : decode cX11_isSale 3 = .ok (.aload_n 0, 1) := by decide +kernel
theorem dX11_isSale_4 : decode cX11_isSale 4 = .ok (.getfield 7, 3) := by decide +kernel
theorem dX11_isSale_7 : decode cX11_isSale 7 = .ok (.bipush 34, 2) := by decide +kernel
theorem dX11_isSale_9 : decode cX11_isSale 9 = .ok (.iaload, 1) := by decide +kernel
theorem dX11_isSale_10 : decode cX11_isSale 10 = .ok (.iconst 1, 1) := by decide +kernel
theorem dX11_isSale_11 : decode cX11_isSale 11 = .ok (.isub, 1) := by decide +kernel
theorem dX11_isSale_12 : decode cX11_isSale 12 = .ok (.i2l, 1) := by decide +kernel
theorem dX11_isSale_13 : decode cX11_isSale 13 = .ok (.invokestatic 301, 3) := by decide +kernel
theorem dX11_isSale_16 : decode cX11_isSale 16 = .ok (.ifCond .eq 18, 3) := by decide +kernel
theorem dX11_isSale_19 : decode cX11_isSale 19 = .ok (.aload_n 0, 1) := by decide +kernel
theorem dX11_isSale_20 : decode cX11_isSale 20 = .ok (.iload_n 1, 1) := by decide +kernel
theorem dX11_isSale_21 : decode cX11_isSale 21 = .ok (.bipush 7, 2) := by decide +kernel
theorem dX11_isSale_23 : decode cX11_isSale 23 = .ok (.invokevirtual 305, 3) := by decide +kernel
theorem dX11_isSale_26 : decode cX11_isSale 26 = .ok (.iconst 1, 1) := by decide +kernel
theorem dX11_isSale_27 : decode cX11_isSale 27 = .ok (.if_icmp .ne 7, 3) := by decide +kernel
theorem dX11_isSale_30 : decode cX11_isSale 30 = .ok (.iconst 1, 1) := by decide +kernel
theorem dX11_isSale_31 : decode cX11_isSale 31 = .ok (.goto 4, 3) := by decide +kernel
theorem dX11_isSale_34 : decode cX11_isSale 34 = .ok (.iconst 0, 1) := by decide +kernel
theorem dX11_isSale_35 : decode cX11_isSale 35 = .ok (.ireturn, 1) := by decide +kernel
theorem dX11_of_0 : decode cX11_of 0 = .ok (.aload_n 0, 1) := by decide +kernel
theorem dX11_of_1 : decode cX11_of 1 = .ok (.getfield 7, 3) := by decide +kernel
theorem dX11_of_4 : decode cX11_of 4 = .ok (.bipush 35, 2) := by decide +kernel
theorem dX11_of_6 : decode cX11_of 6 = .ok (.bipush 8, 2) := by decide +kernel
theorem dX11_of_8 : decode cX11_of 8 = .ok (.iload_n 1, 1) := by decide +kernel
theorem dX11_of_9 : decode cX11_of 9 = .ok (.imul, 1) := by decide +kernel
theorem dX11_of_10 : decode cX11_of 10 = .ok (.iadd, 1) := by decide +kernel
theorem dX11_of_11 : decode cX11_of 11 = .ok (.iload_n 2, 1) := by decide +kernel
theorem dX11_of_12 : decode cX11_of 12 = .ok (.iadd, 1) := by decide +kernel
theorem dX11_of_13 : decode cX11_of 13 = .ok (.iaload, 1) := by decide +kernel
theorem dX11_of_14 : decode cX11_of 14 = .ok (.ireturn, 1) := by decide +kernel
theorem dX11_lettersOf_0 : decode cX11_lettersOf 0 = .ok (.iconst 0, 1) := by decide +kernel
theorem dX11_lettersOf_1 : decode cX11_lettersOf 1 = .ok (.istore_n 1, 1) := by decide +kernel
theorem dX11_lettersOf_2 : decode cX11_lettersOf 2 = .ok (.iload_n 0, 1) := by decide +kernel
theorem dX11_lettersOf_3 : decode cX11_lettersOf 3 = .ok (.istore_n 2, 1) := by decide +kernel
theorem dX11_lettersOf_4 : decode cX11_lettersOf 4 = .ok (.iload_n 2, 1) := by decide +kernel
theorem dX11_lettersOf_5 : decode cX11_lettersOf 5 = .ok (.ifCond .le 13, 3) := by decide +kernel
theorem dX11_lettersOf_8 : decode cX11_lettersOf 8 = .ok (.iinc 1 1, 3) := by decide +kernel
theorem dX11_lettersOf_11 : decode cX11_lettersOf 11 = .ok (.iload_n 2, 1) := by decide +kernel
theorem dX11_lettersOf_12 : decode cX11_lettersOf 12 = .ok (.iconst 5, 1) := by decide +kernel
theorem dX11_lettersOf_13 : decode cX11_lettersOf 13 = .ok (.ishr, 1) := by decide +kernel
theorem dX11_lettersOf_14 : decode cX11_lettersOf 14 = .ok (.istore_n 2, 1) := by decide +kernel
theorem dX11_lettersOf_15 : decode cX11_lettersOf 15 = .ok (.goto (-11), 3) := by decide +kernel
theorem dX11_lettersOf_18 : decode cX11_lettersOf 18 = .ok (.iload_n 1, 1) := by decide +kernel
theorem dX11_lettersOf_19 : decode cX11_lettersOf 19 = .ok (.ireturn, 1) := by decide +kernel
theorem dX11_letter_0 : decode cX11_letter 0 = .ok (.iload_n 0, 1) := by decide +kernel
theorem dX11_letter_1 : decode cX11_letter 1 = .ok (.invokestatic 308, 3) := by decide +kernel
theorem dX11_letter_4 : decode cX11_letter 4 = .ok (.istore_n 2, 1) := by decide +kernel
theorem dX11_letter_5 : decode cX11_letter 5 = .ok (.iload_n 1, 1) := by decide +kernel
theorem dX11_letter_6 : decode cX11_letter 6 = .ok (.i2l, 1) := by decide +kernel
theorem dX11_letter_7 : decode cX11_letter 7 = .ok (.lconst 0, 1) := by decide +kernel
theorem dX11_letter_8 : decode cX11_letter 8 = .ok (.iload_n 2, 1) := by decide +kernel
theorem dX11_letter_9 : decode cX11_letter 9 = .ok (.iconst 1, 1) := by decide +kernel
theorem dX11_letter_10 : decode cX11_letter 10 = .ok (.isub, 1) := by decide +kernel
theorem dX11_letter_11 : decode cX11_letter 11 = .ok (.i2l, 1) := by decide +kernel
theorem dX11_letter_12 : decode cX11_letter 12 = .ok (.invokestatic 301, 3) := by decide +kernel
theorem dX11_letter_15 : decode cX11_letter 15 = .ok (.ifCond .eq 21, 3) := by decide +kernel
theorem dX11_letter_18 : decode cX11_letter 18 = .ok (.bipush 96, 2) := by decide +kernel
theorem dX11_letter_20 : decode cX11_letter 20 = .ok (.iload_n 0, 1) := by decide +kernel
theorem dX11_letter_21 : decode cX11_letter 21 = .ok (.iconst 5, 1) := by decide +kernel
theorem dX11_letter_22 : decode cX11_letter 22 = .ok (.iload_n 2, 1) := by decide +kernel
theorem dX11_letter_23 : decode cX11_letter 23 = .ok (.iconst 1, 1) := by decide +kernel
theorem dX11_letter_24 : decode cX11_letter 24 = .ok (.isub, 1) := by decide +kernel
theorem dX11_letter_25 : decode cX11_letter 25 = .ok (.iload_n 1, 1) := by decide +kernel
theorem dX11_letter_26 : decode cX11_letter 26 = .ok (.isub, 1) := by decide +kernel
theorem dX11_letter_27 : decode cX11_letter 27 = .ok (.imul, 1) := by decide +kernel
theorem dX11_letter_28 : decode cX11_letter 28 = .ok (.ishr, 1) := by decide +kernel
theorem dX11_letter_29 : decode cX11_letter 29 = .ok (.bipush 31, 2) := by decide +kernel
theorem dX11_letter_31 : decode cX11_letter 31 = .ok (.iand, 1) := by decide +kernel
theorem dX11_letter_32 : decode cX11_letter 32 = .ok (.iadd, 1) := by decide +kernel
theorem dX11_letter_33 : decode cX11_letter 33 = .ok (.goto 4, 3) := by decide +kernel
theorem dX11_letter_36 : decode cX11_letter 36 = .ok (.iconst (-1), 1) := by decide +kernel
theorem dX11_letter_37 : decode cX11_letter 37 = .ok (.ireturn, 1) := by decide +kernel
theorem dX11_name_0 : decode cX11_name 0 = .ok (.aload_n 0, 1) := by decide +kernel
theorem dX11_name_1 : decode cX11_name 1 = .ok (.iload_n 1, 1) := by decide +kernel
theorem dX11_name_2 : decode cX11_name 2 = .ok (.ifCond .eq 14, 3) := by decide +kernel
theorem dX11_name_5 : decode cX11_name 5 = .ok (.aload_n 0, 1) := by decide +kernel
theorem dX11_name_6 : decode cX11_name 6 = .ok (.iload_n 2, 1) := by decide +kernel
theorem dX11_name_7 : decode cX11_name 7 = .ok (.invokevirtual 311, 3) := by decide +kernel
theorem dX11_name_10 : decode cX11_name 10 = .ok (.ifCond .eq 18, 3) := by decide +kernel
theorem dX11_name_13 : decode cX11_name 13 = .ok (.goto 11, 3) := by decide +kernel
theorem dX11_name_16 : decode cX11_name 16 = .ok (.aload_n 0, 1) := by decide +kernel
theorem dX11_name_17 : decode cX11_name 17 = .ok (.iload_n 2, 1) := by decide +kernel
theorem dX11_name_18 : decode cX11_name 18 = .ok (.invokevirtual 314, 3) := by decide +kernel
theorem dX11_name_21 : decode cX11_name 21 = .ok (.ifCond .eq 7, 3) := by decide +kernel
theorem dX11_name_24 : decode cX11_name 24 = .ok (.iconst 0, 1) := by decide +kernel
theorem dX11_name_25 : decode cX11_name 25 = .ok (.goto 4, 3) := by decide +kernel
theorem dX11_name_28 : decode cX11_name 28 = .ok (.iconst 1, 1) := by decide +kernel
theorem dX11_name_29 : decode cX11_name 29 = .ok (.putfield 104, 3) := by decide +kernel
theorem dX11_name_32 : decode cX11_name 32 = .ok (.aload_n 0, 1) := by decide +kernel
theorem dX11_name_33 : decode cX11_name 33 = .ok (.getfield 104, 3) := by decide +kernel
theorem dX11_name_36 : decode cX11_name 36 = .ok (.ifCond .le 7, 3) := by decide +kernel
theorem dX11_name_39 : decode cX11_name 39 = .ok (.iconst 0, 1) := by decide +kernel
theorem dX11_name_40 : decode cX11_name 40 = .ok (.goto 26, 3) := by decide +kernel
theorem dX11_name_43 : decode cX11_name 43 = .ok (.iload_n 1, 1) := by decide +kernel
theorem dX11_name_44 : decode cX11_name 44 = .ok (.ifCond .eq 12, 3) := by decide +kernel
theorem dX11_name_47 : decode cX11_name 47 = .ok (.aload_n 0, 1) := by decide +kernel
theorem dX11_name_48 : decode cX11_name 48 = .ok (.getfield 22, 3) := by decide +kernel
theorem dX11_name_51 : decode cX11_name 51 = .ok (.iload_n 2, 1) := by decide +kernel
theorem dX11_name_52 : decode cX11_name 52 = .ok (.iaload, 1) := by decide +kernel
theorem dX11_name_53 : decode cX11_name 53 = .ok (.goto 9, 3) := by decide +kernel
theorem dX11_name_56 : decode cX11_name 56 = .ok (.aload_n 0, 1) := by decide +kernel
theorem dX11_name_57 : decode cX11_name 57 = .ok (.getfield 19, 3) := by decide +kernel
theorem dX11_name_60 : decode cX11_name 60 = .ok (.iload_n 2, 1) := by decide +kernel
theorem dX11_name_61 : decode cX11_name 61 = .ok (.iaload, 1) := by decide +kernel
theorem dX11_name_62 : decode cX11_name 62 = .ok (.iload_n 3, 1) := by decide +kernel
theorem dX11_name_63 : decode cX11_name 63 = .ok (.invokestatic 317, 3) := by decide +kernel
theorem dX11_name_66 : decode cX11_name 66 = .ok (.ireturn, 1) := by decide +kernel
theorem dX11_model_0 : decode cX11_model 0 = .ok (.aload_n 0, 1) := by decide +kernel
theorem dX11_model_1 : decode cX11_model 1 = .ok (.aload_n 0, 1) := by decide +kernel
theorem dX11_model_2 : decode cX11_model 2 = .ok (.iload_n 1, 1) := by decide +kernel
theorem dX11_model_3 : decode cX11_model 3 = .ok (.invokevirtual 314, 3) := by decide +kernel
theorem dX11_model_6 : decode cX11_model 6 = .ok (.ifCond .ne 7, 3) := by decide +kernel
theorem dX11_model_9 : decode cX11_model 9 = .ok (.iconst 1, 1) := by decide +kernel
theorem dX11_model_10 : decode cX11_model 10 = .ok (.goto 20, 3) := by decide +kernel
theorem dX11_model_13 : decode cX11_model 13 = .ok (.iload_n 2, 1) := by decide +kernel
theorem dX11_model_14 : decode cX11_model 14 = .ok (.i2l, 1) := by decide +kernel
theorem dX11_model_15 : decode cX11_model 15 = .ok (.lconst 0, 1) := by decide +kernel
theorem dX11_model_16 : decode cX11_model 16 = .ok (.ldc2_w 320, 3) := by decide +kernel
theorem dX11_model_19 : decode cX11_model 19 = .ok (.invokestatic 301, 3) := by decide +kernel
theorem dX11_model_22 : decode cX11_model 22 = .ok (.ifCond .eq 7, 3) := by decide +kernel
theorem dX11_model_25 : decode cX11_model 25 = .ok (.iconst 0, 1) := by decide +kernel
theorem dX11_model_26 : decode cX11_model 26 = .ok (.goto 4, 3) := by decide +kernel
theorem dX11_model_29 : decode cX11_model 29 = .ok (.iconst 2, 1) := by decide +kernel
theorem dX11_model_30 : decode cX11_model 30 = .ok (.putfield 104, 3) := by decide +kernel
theorem dX11_model_33 : decode cX11_model 33 = .ok (.aload_n 0, 1) := by decide +kernel
theorem dX11_model_34 : decode cX11_model 34 = .ok (.getfield 104, 3) := by decide +kernel
theorem dX11_model_37 : decode cX11_model 37 = .ok (.ifCond .le 7, 3) := by decide +kernel
theorem dX11_model_40 : decode cX11_model 40 = .ok (.iconst 0, 1) := by decide +kernel
theorem dX11_model_41 : decode cX11_model 41 = .ok (.goto 13, 3) := by decide +kernel
theorem dX11_model_44 : decode cX11_model 44 = .ok (.aload_n 0, 1) := by decide +kernel
theorem dX11_model_45 : decode cX11_model 45 = .ok (.getfield 25, 3) := by decide +kernel
theorem dX11_model_48 : decode cX11_model 48 = .ok (.iconst 3, 1) := by decide +kernel
theorem dX11_model_49 : decode cX11_model 49 = .ok (.iload_n 1, 1) := by decide +kernel
theorem dX11_model_50 : decode cX11_model 50 = .ok (.imul, 1) := by decide +kernel
theorem dX11_model_51 : decode cX11_model 51 = .ok (.iload_n 2, 1) := by decide +kernel
theorem dX11_model_52 : decode cX11_model 52 = .ok (.iadd, 1) := by decide +kernel
theorem dX11_model_53 : decode cX11_model 53 = .ok (.iaload, 1) := by decide +kernel
theorem dX11_model_54 : decode cX11_model 54 = .ok (.ireturn, 1) := by decide +kernel
theorem dX11_costOf_0 : decode cX11_costOf 0 = .ok (.aload_n 0, 1) := by decide +kernel
theorem dX11_costOf_1 : decode cX11_costOf 1 = .ok (.getfield 7, 3) := by decide +kernel
theorem dX11_costOf_4 : decode cX11_costOf 4 = .ok (.iconst 0, 1) := by decide +kernel
theorem dX11_costOf_5 : decode cX11_costOf 5 = .ok (.bipush 6, 2) := by decide +kernel
theorem dX11_costOf_7 : decode cX11_costOf 7 = .ok (.iload_n 1, 1) := by decide +kernel
theorem dX11_costOf_8 : decode cX11_costOf 8 = .ok (.imul, 1) := by decide +kernel
theorem dX11_costOf_9 : decode cX11_costOf 9 = .ok (.iadd, 1) := by decide +kernel
theorem dX11_costOf_10 : decode cX11_costOf 10 = .ok (.iload_n 2, 1) := by decide +kernel
theorem dX11_costOf_11 : decode cX11_costOf 11 = .ok (.iadd, 1) := by decide +kernel
theorem dX11_costOf_12 : decode cX11_costOf 12 = .ok (.iaload, 1) := by decide +kernel
theorem dX11_costOf_13 : decode cX11_costOf 13 = .ok (.istore_n 3, 1) := by decide +kernel
theorem dX11_costOf_14 : decode cX11_costOf 14 = .ok (.iload_n 3, 1) := by decide +kernel
theorem dX11_costOf_15 : decode cX11_costOf 15 = .ok (.ifCond .le 7, 3) := by decide +kernel
theorem dX11_costOf_18 : decode cX11_costOf 18 = .ok (.iload_n 3, 1) := by decide +kernel
theorem dX11_costOf_19 : decode cX11_costOf 19 = .ok (.goto 11, 3) := by decide +kernel
theorem dX11_costOf_22 : decode cX11_costOf 22 = .ok (.aload_n 0, 1) := by decide +kernel
theorem dX11_costOf_23 : decode cX11_costOf 23 = .ok (.getfield 25, 3) := by decide +kernel
theorem dX11_costOf_26 : decode cX11_costOf 26 = .ok (.iconst 3, 1) := by decide +kernel
theorem dX11_costOf_27 : decode cX11_costOf 27 = .ok (.iload_n 2, 1) := by decide +kernel
theorem dX11_costOf_28 : decode cX11_costOf 28 = .ok (.imul, 1) := by decide +kernel
theorem dX11_costOf_29 : decode cX11_costOf 29 = .ok (.iaload, 1) := by decide +kernel
theorem dX11_costOf_30 : decode cX11_costOf 30 = .ok (.ireturn, 1) := by decide +kernel
theorem dX11_cost_0 : decode cX11_cost 0 = .ok (.aload_n 0, 1) := by decide +kernel
theorem dX11_cost_1 : decode cX11_cost 1 = .ok (.aload_n 0, 1) := by decide +kernel
theorem dX11_cost_2 : decode cX11_cost 2 = .ok (.iload_n 1, 1) := by decide +kernel
theorem dX11_cost_3 : decode cX11_cost 3 = .ok (.invokevirtual 311, 3) := by decide +kernel
theorem dX11_cost_6 : decode cX11_cost 6 = .ok (.ifCond .eq 15, 3) := by decide +kernel
theorem dX11_cost_9 : decode cX11_cost 9 = .ok (.aload_n 0, 1) := by decide +kernel
theorem dX11_cost_10 : decode cX11_cost 10 = .ok (.iload_n 2, 1) := by decide +kernel
theorem dX11_cost_11 : decode cX11_cost 11 = .ok (.invokevirtual 314, 3) := by decide +kernel
theorem dX11_cost_14 : decode cX11_cost 14 = .ok (.ifCond .eq 7, 3) := by decide +kernel
theorem dX11_cost_17 : decode cX11_cost 17 = .ok (.iconst 0, 1) := by decide +kernel
theorem dX11_cost_18 : decode cX11_cost 18 = .ok (.goto 4, 3) := by decide +kernel
theorem dX11_cost_21 : decode cX11_cost 21 = .ok (.iconst 1, 1) := by decide +kernel
theorem dX11_cost_22 : decode cX11_cost 22 = .ok (.putfield 104, 3) := by decide +kernel
theorem dX11_cost_25 : decode cX11_cost 25 = .ok (.aload_n 0, 1) := by decide +kernel
theorem dX11_cost_26 : decode cX11_cost 26 = .ok (.getfield 104, 3) := by decide +kernel
theorem dX11_cost_29 : decode cX11_cost 29 = .ok (.ifCond .le 7, 3) := by decide +kernel
theorem dX11_cost_32 : decode cX11_cost 32 = .ok (.iconst 0, 1) := by decide +kernel
theorem dX11_cost_33 : decode cX11_cost 33 = .ok (.goto 9, 3) := by decide +kernel
theorem dX11_cost_36 : decode cX11_cost 36 = .ok (.aload_n 0, 1) := by decide +kernel
theorem dX11_cost_37 : decode cX11_cost 37 = .ok (.iload_n 1, 1) := by decide +kernel
theorem dX11_cost_38 : decode cX11_cost 38 = .ok (.iload_n 2, 1) := by decide +kernel
theorem dX11_cost_39 : decode cX11_cost 39 = .ok (.invokevirtual 322, 3) := by decide +kernel
theorem dX11_cost_42 : decode cX11_cost 42 = .ok (.ireturn, 1) := by decide +kernel
theorem dX11_kept_0 : decode cX11_kept 0 = .ok (.lload_n 0, 1) := by decide +kernel
theorem dX11_kept_1 : decode cX11_kept 1 = .ok (.ldc2_w 325, 3) := by decide +kernel
theorem dX11_kept_4 : decode cX11_kept 4 = .ok (.lcmp, 1) := by decide +kernel
theorem dX11_kept_5 : decode cX11_kept 5 = .ok (.ifCond .ge 9, 3) := by decide +kernel
theorem dX11_kept_8 : decode cX11_kept 8 = .ok (.ldc2_w 325, 3) := by decide +kernel
theorem dX11_kept_11 : decode cX11_kept 11 = .ok (.goto 18, 3) := by decide +kernel
theorem dX11_kept_14 : decode cX11_kept 14 = .ok (.lload_n 0, 1) := by decide +kernel
theorem dX11_kept_15 : decode cX11_kept 15 = .ok (.ldc2_w 327, 3) := by decide +kernel
theorem dX11_kept_18 : decode cX11_kept 18 = .ok (.lcmp, 1) := by decide +kernel
theorem dX11_kept_19 : decode cX11_kept 19 = .ok (.ifCond .le 9, 3) := by decide +kernel
theorem dX11_kept_22 : decode cX11_kept 22 = .ok (.ldc2_w 327, 3) := by decide +kernel
theorem dX11_kept_25 : decode cX11_kept 25 = .ok (.goto 4, 3) := by decide +kernel
theorem dX11_kept_28 : decode cX11_kept 28 = .ok (.lload_n 0, 1) := by decide +kernel
theorem dX11_kept_29 : decode cX11_kept 29 = .ok (.lreturn, 1) := by decide +kernel
theorem dX11_down_0 : decode cX11_down 0 = .ok (.lload_n 0, 1) := by decide +kernel
theorem dX11_down_1 : decode cX11_down 1 = .ok (.lload_n 2, 1) := by decide +kernel
theorem dX11_down_2 : decode cX11_down 2 = .ok (.ldiv, 1) := by decide +kernel
theorem dX11_down_3 : decode cX11_down 3 = .ok (.lstore 4, 2) := by decide +kernel
theorem dX11_down_5 : decode cX11_down 5 = .ok (.lload_n 0, 1) := by decide +kernel
theorem dX11_down_6 : decode cX11_down 6 = .ok (.lload_n 2, 1) := by decide +kernel
theorem dX11_down_7 : decode cX11_down 7 = .ok (.lrem, 1) := by decide +kernel
theorem dX11_down_8 : decode cX11_down 8 = .ok (.lconst 0, 1) := by decide +kernel
theorem dX11_down_9 : decode cX11_down 9 = .ok (.lcmp, 1) := by decide +kernel
theorem dX11_down_10 : decode cX11_down 10 = .ok (.ifCond .eq 35, 3) := by decide +kernel
theorem dX11_down_13 : decode cX11_down 13 = .ok (.lload_n 0, 1) := by decide +kernel
theorem dX11_down_14 : decode cX11_down 14 = .ok (.lconst 0, 1) := by decide +kernel
theorem dX11_down_15 : decode cX11_down 15 = .ok (.lcmp, 1) := by decide +kernel
theorem dX11_down_16 : decode cX11_down 16 = .ok (.ifCond .ge 7, 3) := by decide +kernel
theorem dX11_down_19 : decode cX11_down 19 = .ok (.iconst 1, 1) := by decide +kernel
theorem dX11_down_20 : decode cX11_down 20 = .ok (.goto 4, 3) := by decide +kernel
theorem dX11_down_23 : decode cX11_down 23 = .ok (.iconst 0, 1) := by decide +kernel
theorem dX11_down_24 : decode cX11_down 24 = .ok (.lload_n 2, 1) := by decide +kernel
theorem dX11_down_25 : decode cX11_down 25 = .ok (.lconst 0, 1) := by decide +kernel
theorem dX11_down_26 : decode cX11_down 26 = .ok (.lcmp, 1) := by decide +kernel
theorem dX11_down_27 : decode cX11_down 27 = .ok (.ifCond .ge 7, 3) := by decide +kernel
theorem dX11_down_30 : decode cX11_down 30 = .ok (.iconst 1, 1) := by decide +kernel
theorem dX11_down_31 : decode cX11_down 31 = .ok (.goto 4, 3) := by decide +kernel
theorem dX11_down_34 : decode cX11_down 34 = .ok (.iconst 0, 1) := by decide +kernel
theorem dX11_down_35 : decode cX11_down 35 = .ok (.if_icmp .eq 10, 3) := by decide +kernel
theorem dX11_down_38 : decode cX11_down 38 = .ok (.lload 4, 2) := by decide +kernel
theorem dX11_down_40 : decode cX11_down 40 = .ok (.lconst 1, 1) := by decide +kernel
theorem dX11_down_41 : decode cX11_down 41 = .ok (.lsub, 1) := by decide +kernel
theorem dX11_down_42 : decode cX11_down 42 = .ok (.goto 5, 3) := by decide +kernel
theorem dX11_down_45 : decode cX11_down 45 = .ok (.lload 4, 2) := by decide +kernel
theorem dX11_down_47 : decode cX11_down 47 = .ok (.lreturn, 1) := by decide +kernel
theorem dX11_fact_0 : decode cX11_fact 0 = .ok (.iload_n 2, 1) := by decide +kernel
theorem dX11_fact_1 : decode cX11_fact 1 = .ok (.tableswitch 64 0 3 #[31, 39, 48, 56], 31) := by decide +kernel
theorem dX11_fact_32 : decode cX11_fact 32 = .ok (.aload_n 0, 1) := by decide +kernel
theorem dX11_fact_33 : decode cX11_fact 33 = .ok (.iload_n 1, 1) := by decide +kernel
theorem dX11_fact_34 : decode cX11_fact 34 = .ok (.iconst 5, 1) := by decide +kernel
theorem dX11_fact_35 : decode cX11_fact 35 = .ok (.invokevirtual 305, 3) := by decide +kernel
theorem dX11_fact_38 : decode cX11_fact 38 = .ok (.i2l, 1) := by decide +kernel
theorem dX11_fact_39 : decode cX11_fact 39 = .ok (.lreturn, 1) := by decide +kernel
theorem dX11_fact_40 : decode cX11_fact 40 = .ok (.aload_n 0, 1) := by decide +kernel
theorem dX11_fact_41 : decode cX11_fact 41 = .ok (.iload_n 1, 1) := by decide +kernel
theorem dX11_fact_42 : decode cX11_fact 42 = .ok (.bipush 6, 2) := by decide +kernel
theorem dX11_fact_44 : decode cX11_fact 44 = .ok (.invokevirtual 305, 3) := by decide +kernel
theorem dX11_fact_47 : decode cX11_fact 47 = .ok (.i2l, 1) := by decide +kernel
theorem dX11_fact_48 : decode cX11_fact 48 = .ok (.lreturn, 1) := by decide +kernel
theorem dX11_fact_49 : decode cX11_fact 49 = .ok (.aload_n 0, 1) := by decide +kernel
theorem dX11_fact_50 : decode cX11_fact 50 = .ok (.iload_n 1, 1) := by decide +kernel
theorem dX11_fact_51 : decode cX11_fact 51 = .ok (.iconst 3, 1) := by decide +kernel
theorem dX11_fact_52 : decode cX11_fact 52 = .ok (.invokevirtual 305, 3) := by decide +kernel
theorem dX11_fact_55 : decode cX11_fact 55 = .ok (.i2l, 1) := by decide +kernel
theorem dX11_fact_56 : decode cX11_fact 56 = .ok (.lreturn, 1) := by decide +kernel
theorem dX11_fact_57 : decode cX11_fact 57 = .ok (.aload_n 0, 1) := by decide +kernel
theorem dX11_fact_58 : decode cX11_fact 58 = .ok (.iload_n 1, 1) := by decide +kernel
theorem dX11_fact_59 : decode cX11_fact 59 = .ok (.iconst 4, 1) := by decide +kernel
theorem dX11_fact_60 : decode cX11_fact 60 = .ok (.invokevirtual 305, 3) := by decide +kernel
theorem dX11_fact_63 : decode cX11_fact 63 = .ok (.i2l, 1) := by decide +kernel
theorem dX11_fact_64 : decode cX11_fact 64 = .ok (.lreturn, 1) := by decide +kernel
theorem dX11_fact_65 : decode cX11_fact 65 = .ok (.aload_n 0, 1) := by decide +kernel
theorem dX11_fact_66 : decode cX11_fact 66 = .ok (.aload_n 0, 1) := by decide +kernel
theorem dX11_fact_67 : decode cX11_fact 67 = .ok (.iload_n 1, 1) := by decide +kernel
theorem dX11_fact_68 : decode cX11_fact 68 = .ok (.iconst 1, 1) := by decide +kernel
theorem dX11_fact_69 : decode cX11_fact 69 = .ok (.invokevirtual 305, 3) := by decide +kernel
theorem dX11_fact_72 : decode cX11_fact 72 = .ok (.aload_n 0, 1) := by decide +kernel
theorem dX11_fact_73 : decode cX11_fact 73 = .ok (.iload_n 1, 1) := by decide +kernel
theorem dX11_fact_74 : decode cX11_fact 74 = .ok (.iconst 2, 1) := by decide +kernel
theorem dX11_fact_75 : decode cX11_fact 75 = .ok (.invokevirtual 305, 3) := by decide +kernel
theorem dX11_fact_78 : decode cX11_fact 78 = .ok (.invokevirtual 322, 3) := by decide +kernel
theorem dX11_fact_81 : decode cX11_fact 81 = .ok (.i2l, 1) := by decide +kernel
theorem dX11_fact_82 : decode cX11_fact 82 = .ok (.lreturn, 1) := by decide +kernel
theorem dX11_offOf_0 : decode cX11_offOf 0 = .ok (.aload_n 0, 1) := by decide +kernel
theorem dX11_offOf_1 : decode cX11_offOf 1 = .ok (.iload_n 1, 1) := by decide +kernel
theorem dX11_offOf_2 : decode cX11_offOf 2 = .ok (.iconst 0, 1) := by decide +kernel
theorem dX11_offOf_3 : decode cX11_offOf 3 = .ok (.invokevirtual 305, 3) := by decide +kernel
theorem dX11_offOf_6 : decode cX11_offOf 6 = .ok (.istore_n 2, 1) := by decide +kernel
theorem dX11_offOf_7 : decode cX11_offOf 7 = .ok (.iconst 0, 1) := by decide +kernel
theorem dX11_offOf_8 : decode cX11_offOf 8 = .ok (.istore_n 3, 1) := by decide +kernel
theorem dX11_offOf_9 : decode cX11_offOf 9 = .ok (.sipush 400, 3) := by decide +kernel
theorem dX11_offOf_12 : decode cX11_offOf 12 = .ok (.iload_n 2, 1) := by decide +kernel
theorem dX11_offOf_13 : decode cX11_offOf 13 = .ok (.imul, 1) := by decide +kernel
theorem dX11_offOf_14 : decode cX11_offOf 14 = .ok (.istore 4, 2) := by decide +kernel
theorem dX11_offOf_16 : decode cX11_offOf 16 = .ok (.iload 4, 2) := by decide +kernel
theorem dX11_offOf_18 : decode cX11_offOf 18 = .ok (.sipush 400, 3) := by decide +kernel
theorem dX11_offOf_21 : decode cX11_offOf 21 = .ok (.iload_n 2, 1) := by decide +kernel
theorem dX11_offOf_22 : decode cX11_offOf 22 = .ok (.imul, 1) := by decide +kernel
theorem dX11_offOf_23 : decode cX11_offOf 23 = .ok (.aload_n 0, 1) := by decide +kernel
theorem dX11_offOf_24 : decode cX11_offOf 24 = .ok (.getfield 34, 3) := by decide +kernel
theorem dX11_offOf_27 : decode cX11_offOf 27 = .ok (.iload_n 2, 1) := by decide +kernel
theorem dX11_offOf_28 : decode cX11_offOf 28 = .ok (.iaload, 1) := by decide +kernel
theorem dX11_offOf_29 : decode cX11_offOf 29 = .ok (.iadd, 1) := by decide +kernel
theorem dX11_offOf_30 : decode cX11_offOf 30 = .ok (.if_icmp .ge 186, 3) := by decide +kernel
theorem dX11_offOf_33 : decode cX11_offOf 33 = .ok (.aload_n 0, 1) := by decide +kernel
theorem dX11_offOf_34 : decode cX11_offOf 34 = .ok (.getfield 28, 3) := by decide +kernel
theorem dX11_offOf_37 : decode cX11_offOf 37 = .ok (.iload 4, 2) := by decide +kernel
theorem dX11_offOf_39 : decode cX11_offOf 39 = .ok (.iaload, 1) := by decide +kernel
theorem dX11_offOf_40 : decode cX11_offOf 40 = .ok (.ifCond .eq 14, 3) := by decide +kernel
theorem dX11_offOf_43 : decode cX11_offOf 43 = .ok (.aload_n 0, 1) := by decide +kernel
theorem dX11_offOf_44 : decode cX11_offOf 44 = .ok (.getfield 28, 3) := by decide +kernel
theorem dX11_offOf_47 : decode cX11_offOf 47 = .ok (.iload 4, 2) := by decide +kernel
theorem dX11_offOf_49 : decode cX11_offOf 49 = .ok (.iaload, 1) := by decide +kernel
theorem dX11_offOf_50 : decode cX11_offOf 50 = .ok (.iconst 1, 1) := by decide +kernel
theorem dX11_offOf_51 : decode cX11_offOf 51 = .ok (.if_icmp .ne 48, 3) := by decide +kernel
theorem dX11_offOf_54 : decode cX11_offOf 54 = .ok (.aload_n 0, 1) := by decide +kernel
theorem dX11_offOf_55 : decode cX11_offOf 55 = .ok (.getfield 82, 3) := by decide +kernel
theorem dX11_offOf_58 : decode cX11_offOf 58 = .ok (.iload_n 3, 1) := by decide +kernel
theorem dX11_offOf_59 : decode cX11_offOf 59 = .ok (.aload_n 0, 1) := by decide +kernel
theorem dX11_offOf_60 : decode cX11_offOf 60 = .ok (.getfield 28, 3) := by decide +kernel
theorem dX11_offOf_63 : decode cX11_offOf 63 = .ok (.iload 4, 2) := by decide +kernel
theorem dX11_offOf_65 : decode cX11_offOf 65 = .ok (.iaload, 1) := by decide +kernel
theorem dX11_offOf_66 : decode cX11_offOf 66 = .ok (.ifCond .ne 14, 3) := by decide +kernel
theorem dX11_offOf_69 : decode cX11_offOf 69 = .ok (.aload_n 0, 1) := by decide +kernel
theorem dX11_offOf_70 : decode cX11_offOf 70 = .ok (.getfield 31, 3) := by decide +kernel
theorem dX11_offOf_73 : decode cX11_offOf 73 = .ok (.iload 4, 2) := by decide +kernel
theorem dX11_offOf_75 : decode cX11_offOf 75 = .ok (.iaload, 1) := by decide +kernel
theorem dX11_offOf_76 : decode cX11_offOf 76 = .ok (.i2l, 1) := by decide +kernel
theorem dX11_offOf_77 : decode cX11_offOf 77 = .ok (.goto 15, 3) := by decide +kernel
theorem dX11_offOf_80 : decode cX11_offOf 80 = .ok (.aload_n 0, 1) := by decide +kernel
theorem dX11_offOf_81 : decode cX11_offOf 81 = .ok (.iload_n 1, 1) := by decide +kernel
theorem dX11_offOf_82 : decode cX11_offOf 82 = .ok (.aload_n 0, 1) := by decide +kernel
theorem dX11_offOf_83 : decode cX11_offOf 83 = .ok (.getfield 31, 3) := by decide +kernel
theorem dX11_offOf_86 : decode cX11_offOf 86 = .ok (.iload 4, 2) := by decide +kernel
theorem dX11_offOf_88 : decode cX11_offOf 88 = .ok (.iaload, 1) := by decide +kernel
theorem dX11_offOf_89 : decode cX11_offOf 89 = .ok (.invokevirtual 329, 3) := by decide +kernel
theorem dX11_offOf_92 : decode cX11_offOf 92 = .ok (.lastore, 1) := by decide +kernel
theorem dX11_offOf_93 : decode cX11_offOf 93 = .ok (.iinc 3 1, 3) := by decide +kernel
theorem dX11_offOf_96 : decode cX11_offOf 96 = .ok (.goto 114, 3) := by decide +kernel
theorem dX11_offOf_99 : decode cX11_offOf 99 = .ok (.iinc 3 (-1), 3) := by decide +kernel
theorem dX11_offOf_102 : decode cX11_offOf 102 = .ok (.aload_n 0, 1) := by decide +kernel
theorem dX11_offOf_103 : decode cX11_offOf 103 = .ok (.getfield 82, 3) := by decide +kernel
theorem dX11_offOf_106 : decode cX11_offOf 106 = .ok (.iload_n 3, 1) := by decide +kernel
theorem dX11_offOf_107 : decode cX11_offOf 107 = .ok (.iconst 1, 1) := by decide +kernel
theorem dX11_offOf_108 : decode cX11_offOf 108 = .ok (.isub, 1) := by decide +kernel
theorem dX11_offOf_109 : decode cX11_offOf 109 = .ok (.laload, 1) := by decide +kernel
theorem dX11_offOf_110 : decode cX11_offOf 110 = .ok (.lstore 5, 2) := by decide +kernel
theorem dX11_offOf_112 : decode cX11_offOf 112 = .ok (.aload_n 0, 1) := by decide +kernel
theorem dX11_offOf_113 : decode cX11_offOf 113 = .ok (.getfield 82, 3) := by decide +kernel
theorem dX11_offOf_116 : decode cX11_offOf 116 = .ok (.iload_n 3, 1) := by decide +kernel
theorem dX11_offOf_117 : decode cX11_offOf 117 = .ok (.laload, 1) := by decide +kernel
theorem dX11_offOf_118 : decode cX11_offOf 118 = .ok (.lstore 7, 2) := by decide +kernel
theorem dX11_offOf_120 : decode cX11_offOf 120 = .ok (.aload_n 0, 1) := by decide +kernel
theorem dX11_offOf_121 : decode cX11_offOf 121 = .ok (.getfield 28, 3) := by decide +kernel
theorem dX11_offOf_124 : decode cX11_offOf 124 = .ok (.iload 4, 2) := by decide +kernel
theorem dX11_offOf_126 : decode cX11_offOf 126 = .ok (.iaload, 1) := by decide +kernel
theorem dX11_offOf_127 : decode cX11_offOf 127 = .ok (.iconst 2, 1) := by decide +kernel
theorem dX11_offOf_128 : decode cX11_offOf 128 = .ok (.if_icmp .ne 11, 3) := by decide +kernel
theorem dX11_offOf_131 : decode cX11_offOf 131 = .ok (.lload 5, 2) := by decide +kernel
theorem dX11_offOf_133 : decode cX11_offOf 133 = .ok (.lload 7, 2) := by decide +kernel
theorem dX11_offOf_135 : decode cX11_offOf 135 = .ok (.ladd, 1) := by decide +kernel
theorem dX11_offOf_136 : decode cX11_offOf 136 = .ok (.goto 59, 3) := by decide +kernel
theorem dX11_offOf_139 : decode cX11_offOf 139 = .ok (.aload_n 0, 1) := by decide +kernel
theorem dX11_offOf_140 : decode cX11_offOf 140 = .ok (.getfield 28, 3) := by decide +kernel
theorem dX11_offOf_143 : decode cX11_offOf 143 = .ok (.iload 4, 2) := by decide +kernel
theorem dX11_offOf_145 : decode cX11_offOf 145 = .ok (.iaload, 1) := by decide +kernel
theorem dX11_offOf_146 : decode cX11_offOf 146 = .ok (.iconst 3, 1) := by decide +kernel
theorem dX11_offOf_147 : decode cX11_offOf 147 = .ok (.if_icmp .ne 11, 3) := by decide +kernel
theorem dX11_offOf_150 : decode cX11_offOf 150 = .ok (.lload 5, 2) := by decide +kernel
theorem dX11_offOf_152 : decode cX11_offOf 152 = .ok (.lload 7, 2) := by decide +kernel
theorem dX11_offOf_154 : decode cX11_offOf 154 = .ok (.lsub, 1) := by decide +kernel
theorem dX11_offOf_155 : decode cX11_offOf 155 = .ok (.goto 40, 3) := by decide +kernel
theorem dX11_offOf_158 : decode cX11_offOf 158 = .ok (.aload_n 0, 1) := by decide +kernel
theorem dX11_offOf_159 : decode cX11_offOf 159 = .ok (.getfield 28, 3) := by decide +kernel
theorem dX11_offOf_162 : decode cX11_offOf 162 = .ok (.iload 4, 2) := by decide +kernel
theorem dX11_offOf_164 : decode cX11_offOf 164 = .ok (.iaload, 1) := by decide +kernel
theorem dX11_offOf_165 : decode cX11_offOf 165 = .ok (.iconst 4, 1) := by decide +kernel
theorem dX11_offOf_166 : decode cX11_offOf 166 = .ok (.if_icmp .ne 11, 3) := by decide +kernel
theorem dX11_offOf_169 : decode cX11_offOf 169 = .ok (.lload 5, 2) := by decide +kernel
theorem dX11_offOf_171 : decode cX11_offOf 171 = .ok (.lload 7, 2) := by decide +kernel
theorem dX11_offOf_173 : decode cX11_offOf 173 = .ok (.lmul, 1) := by decide +kernel
theorem dX11_offOf_174 : decode cX11_offOf 174 = .ok (.goto 21, 3) := by decide +kernel
theorem dX11_offOf_177 : decode cX11_offOf 177 = .ok (.lload 7, 2) := by decide +kernel
theorem dX11_offOf_179 : decode cX11_offOf 179 = .ok (.lconst 0, 1) := by decide +kernel
theorem dX11_offOf_180 : decode cX11_offOf 180 = .ok (.lcmp, 1) := by decide +kernel
theorem dX11_offOf_181 : decode cX11_offOf 181 = .ok (.ifCond .ne 7, 3) := by decide +kernel
theorem dX11_offOf_184 : decode cX11_offOf 184 = .ok (.lconst 0, 1) := by decide +kernel
theorem dX11_offOf_185 : decode cX11_offOf 185 = .ok (.goto 10, 3) := by decide +kernel
theorem dX11_offOf_188 : decode cX11_offOf 188 = .ok (.lload 5, 2) := by decide +kernel
theorem dX11_offOf_190 : decode cX11_offOf 190 = .ok (.lload 7, 2) := by decide +kernel
theorem dX11_offOf_192 : decode cX11_offOf 192 = .ok (.invokestatic 333, 3) := by decide +kernel
theorem dX11_offOf_195 : decode cX11_offOf 195 = .ok (.lstore 9, 2) := by decide +kernel
theorem dX11_offOf_197 : decode cX11_offOf 197 = .ok (.aload_n 0, 1) := by decide +kernel
theorem dX11_offOf_198 : decode cX11_offOf 198 = .ok (.getfield 82, 3) := by decide +kernel
theorem dX11_offOf_201 : decode cX11_offOf 201 = .ok (.iload_n 3, 1) := by decide +kernel
theorem dX11_offOf_202 : decode cX11_offOf 202 = .ok (.iconst 1, 1) := by decide +kernel
theorem dX11_offOf_203 : decode cX11_offOf 203 = .ok (.isub, 1) := by decide +kernel
theorem dX11_offOf_204 : decode cX11_offOf 204 = .ok (.lload 9, 2) := by decide +kernel
theorem dX11_offOf_206 : decode cX11_offOf 206 = .ok (.invokestatic 337, 3) := by decide +kernel
theorem dX11_offOf_209 : decode cX11_offOf 209 = .ok (.lastore, 1) := by decide +kernel
theorem dX11_offOf_210 : decode cX11_offOf 210 = .ok (.iinc 4 1, 3) := by decide +kernel
theorem dX11_offOf_213 : decode cX11_offOf 213 = .ok (.goto (-197), 3) := by decide +kernel
theorem dX11_offOf_216 : decode cX11_offOf 216 = .ok (.aload_n 0, 1) := by decide +kernel
theorem dX11_offOf_217 : decode cX11_offOf 217 = .ok (.getfield 34, 3) := by decide +kernel
theorem dX11_offOf_220 : decode cX11_offOf 220 = .ok (.iload_n 2, 1) := by decide +kernel
theorem dX11_offOf_221 : decode cX11_offOf 221 = .ok (.iaload, 1) := by decide +kernel
theorem dX11_offOf_222 : decode cX11_offOf 222 = .ok (.ifCond .ne 7, 3) := by decide +kernel
theorem dX11_offOf_225 : decode cX11_offOf 225 = .ok (.iconst 0, 1) := by decide +kernel
theorem dX11_offOf_226 : decode cX11_offOf 226 = .ok (.goto 10, 3) := by decide +kernel
theorem dX11_offOf_229 : decode cX11_offOf 229 = .ok (.aload_n 0, 1) := by decide +kernel
theorem dX11_offOf_230 : decode cX11_offOf 230 = .ok (.getfield 82, 3) := by decide +kernel
theorem dX11_offOf_233 : decode cX11_offOf 233 = .ok (.iconst 0, 1) := by decide +kernel
theorem dX11_offOf_234 : decode cX11_offOf 234 = .ok (.laload, 1) := by decide +kernel
theorem dX11_offOf_235 : decode cX11_offOf 235 = .ok (.l2i, 1) := by decide +kernel
theorem dX11_offOf_236 : decode cX11_offOf 236 = .ok (.ireturn, 1) := by decide +kernel
theorem dX11_manyIn_0 : decode cX11_manyIn 0 = .ok (.iconst 0, 1) := by decide +kernel
theorem dX11_manyIn_1 : decode cX11_manyIn 1 = .ok (.istore_n 3, 1) := by decide +kernel
theorem dX11_manyIn_2 : decode cX11_manyIn 2 = .ok (.iconst 0, 1) := by decide +kernel
theorem dX11_manyIn_3 : decode cX11_manyIn 3 = .ok (.istore 4, 2) := by decide +kernel
theorem dX11_manyIn_5 : decode cX11_manyIn 5 = .ok (.iload 4, 2) := by decide +kernel
theorem dX11_manyIn_7 : decode cX11_manyIn 7 = .ok (.aload_n 0, 1) := by decide +kernel
theorem dX11_manyIn_8 : decode cX11_manyIn 8 = .ok (.getfield 7, 3) := by decide +kernel
theorem dX11_manyIn_11 : decode cX11_manyIn 11 = .ok (.bipush 34, 2) := by decide +kernel
theorem dX11_manyIn_13 : decode cX11_manyIn 13 = .ok (.iaload, 1) := by decide +kernel
theorem dX11_manyIn_14 : decode cX11_manyIn 14 = .ok (.if_icmp .ge 54, 3) := by decide +kernel
theorem dX11_manyIn_17 : decode cX11_manyIn 17 = .ok (.iload_n 3, 1) := by decide +kernel
theorem dX11_manyIn_18 : decode cX11_manyIn 18 = .ok (.aload_n 0, 1) := by decide +kernel
theorem dX11_manyIn_19 : decode cX11_manyIn 19 = .ok (.iload 4, 2) := by decide +kernel
theorem dX11_manyIn_21 : decode cX11_manyIn 21 = .ok (.invokevirtual 341, 3) := by decide +kernel
theorem dX11_manyIn_24 : decode cX11_manyIn 24 = .ok (.ifCond .eq 35, 3) := by decide +kernel
theorem dX11_manyIn_27 : decode cX11_manyIn 27 = .ok (.aload_n 0, 1) := by decide +kernel
theorem dX11_manyIn_28 : decode cX11_manyIn 28 = .ok (.iload 4, 2) := by decide +kernel
theorem dX11_manyIn_30 : decode cX11_manyIn 30 = .ok (.iconst 1, 1) := by decide +kernel
theorem dX11_manyIn_31 : decode cX11_manyIn 31 = .ok (.invokevirtual 305, 3) := by decide +kernel
theorem dX11_manyIn_34 : decode cX11_manyIn 34 = .ok (.iload_n 1, 1) := by decide +kernel
theorem dX11_manyIn_35 : decode cX11_manyIn 35 = .ok (.if_icmp .ne 24, 3) := by decide +kernel
theorem dX11_manyIn_38 : decode cX11_manyIn 38 = .ok (.aload_n 0, 1) := by decide +kernel
theorem dX11_manyIn_39 : decode cX11_manyIn 39 = .ok (.iload 4, 2) := by decide +kernel
theorem dX11_manyIn_41 : decode cX11_manyIn 41 = .ok (.iconst 0, 1) := by decide +kernel
theorem dX11_manyIn_42 : decode cX11_manyIn 42 = .ok (.invokevirtual 305, 3) := by decide +kernel
theorem dX11_manyIn_45 : decode cX11_manyIn 45 = .ok (.iload_n 2, 1) := by decide +kernel
theorem dX11_manyIn_46 : decode cX11_manyIn 46 = .ok (.if_icmp .ne 13, 3) := by decide +kernel
theorem dX11_manyIn_49 : decode cX11_manyIn 49 = .ok (.aload_n 0, 1) := by decide +kernel
theorem dX11_manyIn_50 : decode cX11_manyIn 50 = .ok (.iload 4, 2) := by decide +kernel
theorem dX11_manyIn_52 : decode cX11_manyIn 52 = .ok (.iconst 5, 1) := by decide +kernel
theorem dX11_manyIn_53 : decode cX11_manyIn 53 = .ok (.invokevirtual 305, 3) := by decide +kernel
theorem dX11_manyIn_56 : decode cX11_manyIn 56 = .ok (.goto 4, 3) := by decide +kernel
theorem dX11_manyIn_59 : decode cX11_manyIn 59 = .ok (.iconst 0, 1) := by decide +kernel
theorem dX11_manyIn_60 : decode cX11_manyIn 60 = .ok (.iadd, 1) := by decide +kernel
theorem dX11_manyIn_61 : decode cX11_manyIn 61 = .ok (.istore_n 3, 1) := by decide +kernel
theorem dX11_manyIn_62 : decode cX11_manyIn 62 = .ok (.iinc 4 1, 3) := by decide +kernel
theorem dX11_manyIn_65 : decode cX11_manyIn 65 = .ok (.goto (-60), 3) := by decide +kernel
theorem dX11_manyIn_68 : decode cX11_manyIn 68 = .ok (.iload_n 3, 1) := by decide +kernel
theorem dX11_manyIn_69 : decode cX11_manyIn 69 = .ok (.ireturn, 1) := by decide +kernel
theorem dX11_baseFor_0 : decode cX11_baseFor 0 = .ok (.aload_n 0, 1) := by decide +kernel
theorem dX11_baseFor_1 : decode cX11_baseFor 1 = .ok (.iload_n 1, 1) := by decide +kernel
theorem dX11_baseFor_2 : decode cX11_baseFor 2 = .ok (.iconst 1, 1) := by decide +kernel
theorem dX11_baseFor_3 : decode cX11_baseFor 3 = .ok (.invokevirtual 344, 3) := by decide +kernel
theorem dX11_baseFor_6 : decode cX11_baseFor 6 = .ok (.istore_n 2, 1) := by decide +kernel
theorem dX11_baseFor_7 : decode cX11_baseFor 7 = .ok (.aload_n 0, 1) := by decide +kernel
theorem dX11_baseFor_8 : decode cX11_baseFor 8 = .ok (.iload_n 1, 1) := by decide +kernel
theorem dX11_baseFor_9 : decode cX11_baseFor 9 = .ok (.iconst 0, 1) := by decide +kernel
theorem dX11_baseFor_10 : decode cX11_baseFor 10 = .ok (.invokevirtual 344, 3) := by decide +kernel
theorem dX11_baseFor_13 : decode cX11_baseFor 13 = .ok (.istore_n 3, 1) := by decide +kernel
theorem dX11_baseFor_14 : decode cX11_baseFor 14 = .ok (.aload_n 0, 1) := by decide +kernel
theorem dX11_baseFor_15 : decode cX11_baseFor 15 = .ok (.iload_n 1, 1) := by decide +kernel
theorem dX11_baseFor_16 : decode cX11_baseFor 16 = .ok (.iconst 2, 1) := by decide +kernel
theorem dX11_baseFor_17 : decode cX11_baseFor 17 = .ok (.invokevirtual 344, 3) := by decide +kernel
theorem dX11_baseFor_20 : decode cX11_baseFor 20 = .ok (.istore 4, 2) := by decide +kernel
theorem dX11_baseFor_22 : decode cX11_baseFor 22 = .ok (.iload_n 3, 1) := by decide +kernel
theorem dX11_baseFor_23 : decode cX11_baseFor 23 = .ok (.ifCond .le 13, 3) := by decide +kernel
theorem dX11_baseFor_26 : decode cX11_baseFor 26 = .ok (.bipush 20, 2) := by decide +kernel
theorem dX11_baseFor_28 : decode cX11_baseFor 28 = .ok (.iload_n 3, 1) := by decide +kernel
theorem dX11_baseFor_29 : decode cX11_baseFor 29 = .ok (.imul, 1) := by decide +kernel
theorem dX11_baseFor_30 : decode cX11_baseFor 30 = .ok (.iload_n 2, 1) := by decide +kernel
theorem dX11_baseFor_31 : decode cX11_baseFor 31 = .ok (.if_icmp .lt 5, 3) := by decide +kernel
theorem dX11_baseFor_34 : decode cX11_baseFor 34 = .ok (.iconst 0, 1) := by decide +kernel
theorem dX11_baseFor_35 : decode cX11_baseFor 35 = .ok (.ireturn, 1) := by decide +kernel
theorem dX11_baseFor_36 : decode cX11_baseFor 36 = .ok (.iload 4, 2) := by decide +kernel
theorem dX11_baseFor_38 : decode cX11_baseFor 38 = .ok (.ifCond .le 16, 3) := by decide +kernel
theorem dX11_baseFor_41 : decode cX11_baseFor 41 = .ok (.bipush 20, 2) := by decide +kernel
theorem dX11_baseFor_43 : decode cX11_baseFor 43 = .ok (.iload 4, 2) := by decide +kernel
theorem dX11_baseFor_45 : decode cX11_baseFor 45 = .ok (.imul, 1) := by decide +kernel
theorem dX11_baseFor_46 : decode cX11_baseFor 46 = .ok (.iload_n 2, 1) := by decide +kernel
theorem dX11_baseFor_47 : decode cX11_baseFor 47 = .ok (.if_icmp .lt 7, 3) := by decide +kernel
theorem dX11_baseFor_50 : decode cX11_baseFor 50 = .ok (.iconst 2, 1) := by decide +kernel
theorem dX11_baseFor_51 : decode cX11_baseFor 51 = .ok (.goto 4, 3) := by decide +kernel
theorem dX11_baseFor_54 : decode cX11_baseFor 54 = .ok (.iconst (-1), 1) := by decide +kernel
theorem dX11_baseFor_55 : decode cX11_baseFor 55 = .ok (.ireturn, 1) := by decide +kernel
theorem dX11_isInBase_0 : decode cX11_isInBase 0 = .ok (.aload_n 0, 1) := by decide +kernel
theorem dX11_isInBase_1 : decode cX11_isInBase 1 = .ok (.iload_n 1, 1) := by decide +kernel
theorem dX11_isInBase_2 : decode cX11_isInBase 2 = .ok (.invokevirtual 341, 3) := by decide +kernel
theorem dX11_isInBase_5 : decode cX11_isInBase 5 = .ok (.ifCond .eq 27, 3) := by decide +kernel
theorem dX11_isInBase_8 : decode cX11_isInBase 8 = .ok (.aload_n 0, 1) := by decide +kernel
theorem dX11_isInBase_9 : decode cX11_isInBase 9 = .ok (.iload_n 1, 1) := by decide +kernel
theorem dX11_isInBase_10 : decode cX11_isInBase 10 = .ok (.iconst 0, 1) := by decide +kernel
theorem dX11_isInBase_11 : decode cX11_isInBase 11 = .ok (.invokevirtual 305, 3) := by decide +kernel
theorem dX11_isInBase_14 : decode cX11_isInBase 14 = .ok (.aload_n 0, 1) := by decide +kernel
theorem dX11_isInBase_15 : decode cX11_isInBase 15 = .ok (.getfield 79, 3) := by decide +kernel
theorem dX11_isInBase_18 : decode cX11_isInBase 18 = .ok (.aload_n 0, 1) := by decide +kernel
theorem dX11_isInBase_19 : decode cX11_isInBase 19 = .ok (.iload_n 1, 1) := by decide +kernel
theorem dX11_isInBase_20 : decode cX11_isInBase 20 = .ok (.iconst 1, 1) := by decide +kernel
theorem dX11_isInBase_21 : decode cX11_isInBase 21 = .ok (.invokevirtual 305, 3) := by decide +kernel
theorem dX11_isInBase_24 : decode cX11_isInBase 24 = .ok (.iaload, 1) := by decide +kernel
theorem dX11_isInBase_25 : decode cX11_isInBase 25 = .ok (.if_icmp .ne 7, 3) := by decide +kernel
theorem dX11_isInBase_28 : decode cX11_isInBase 28 = .ok (.iconst 1, 1) := by decide +kernel
theorem dX11_isInBase_29 : decode cX11_isInBase 29 = .ok (.goto 4, 3) := by decide +kernel
theorem dX11_isInBase_32 : decode cX11_isInBase 32 = .ok (.iconst 0, 1) := by decide +kernel
theorem dX11_isInBase_33 : decode cX11_isInBase 33 = .ok (.ireturn, 1) := by decide +kernel
theorem dX11_manyBase_0 : decode cX11_manyBase 0 = .ok (.iconst 0, 1) := by decide +kernel
theorem dX11_manyBase_1 : decode cX11_manyBase 1 = .ok (.istore 4, 2) := by decide +kernel
theorem dX11_manyBase_3 : decode cX11_manyBase 3 = .ok (.iconst 0, 1) := by decide +kernel
theorem dX11_manyBase_4 : decode cX11_manyBase 4 = .ok (.istore 5, 2) := by decide +kernel
theorem dX11_manyBase_6 : decode cX11_manyBase 6 = .ok (.iload 5, 2) := by decide +kernel
theorem dX11_manyBase_8 : decode cX11_manyBase 8 = .ok (.aload_n 0, 1) := by decide +kernel
theorem dX11_manyBase_9 : decode cX11_manyBase 9 = .ok (.getfield 7, 3) := by decide +kernel
theorem dX11_manyBase_12 : decode cX11_manyBase 12 = .ok (.bipush 34, 2) := by decide +kernel
theorem dX11_manyBase_14 : decode cX11_manyBase 14 = .ok (.iaload, 1) := by decide +kernel
theorem dX11_manyBase_15 : decode cX11_manyBase 15 = .ok (.if_icmp .ge 82, 3) := by decide +kernel
theorem dX11_manyBase_18 : decode cX11_manyBase 18 = .ok (.aload_n 0, 1) := by decide +kernel
theorem dX11_manyBase_19 : decode cX11_manyBase 19 = .ok (.iload 5, 2) := by decide +kernel
theorem dX11_manyBase_21 : decode cX11_manyBase 21 = .ok (.invokevirtual 347, 3) := by decide +kernel
theorem dX11_manyBase_24 : decode cX11_manyBase 24 = .ok (.ifCond .eq 29, 3) := by decide +kernel
theorem dX11_manyBase_27 : decode cX11_manyBase 27 = .ok (.aload_n 0, 1) := by decide +kernel
theorem dX11_manyBase_28 : decode cX11_manyBase 28 = .ok (.iload 5, 2) := by decide +kernel
theorem dX11_manyBase_30 : decode cX11_manyBase 30 = .ok (.iconst 1, 1) := by decide +kernel
theorem dX11_manyBase_31 : decode cX11_manyBase 31 = .ok (.invokevirtual 305, 3) := by decide +kernel
theorem dX11_manyBase_34 : decode cX11_manyBase 34 = .ok (.iload_n 1, 1) := by decide +kernel
theorem dX11_manyBase_35 : decode cX11_manyBase 35 = .ok (.if_icmp .ne 18, 3) := by decide +kernel
theorem dX11_manyBase_38 : decode cX11_manyBase 38 = .ok (.aload_n 0, 1) := by decide +kernel
theorem dX11_manyBase_39 : decode cX11_manyBase 39 = .ok (.iload 5, 2) := by decide +kernel
theorem dX11_manyBase_41 : decode cX11_manyBase 41 = .ok (.iconst 2, 1) := by decide +kernel
theorem dX11_manyBase_42 : decode cX11_manyBase 42 = .ok (.invokevirtual 305, 3) := by decide +kernel
theorem dX11_manyBase_45 : decode cX11_manyBase 45 = .ok (.iload_n 2, 1) := by decide +kernel
theorem dX11_manyBase_46 : decode cX11_manyBase 46 = .ok (.if_icmp .ne 7, 3) := by decide +kernel
theorem dX11_manyBase_49 : decode cX11_manyBase 49 = .ok (.iconst 1, 1) := by decide +kernel
theorem dX11_manyBase_50 : decode cX11_manyBase 50 = .ok (.goto 4, 3) := by decide +kernel
theorem dX11_manyBase_53 : decode cX11_manyBase 53 = .ok (.iconst 0, 1) := by decide +kernel
theorem dX11_manyBase_54 : decode cX11_manyBase 54 = .ok (.istore 6, 2) := by decide +kernel
theorem dX11_manyBase_56 : decode cX11_manyBase 56 = .ok (.iload 4, 2) := by decide +kernel
theorem dX11_manyBase_58 : decode cX11_manyBase 58 = .ok (.iload 6, 2) := by decide +kernel
theorem dX11_manyBase_60 : decode cX11_manyBase 60 = .ok (.ifCond .eq 27, 3) := by decide +kernel
theorem dX11_manyBase_63 : decode cX11_manyBase 63 = .ok (.iload_n 3, 1) := by decide +kernel
theorem dX11_manyBase_64 : decode cX11_manyBase 64 = .ok (.ifCond .eq 13, 3) := by decide +kernel
theorem dX11_manyBase_67 : decode cX11_manyBase 67 = .ok (.aload_n 0, 1) := by decide +kernel
theorem dX11_manyBase_68 : decode cX11_manyBase 68 = .ok (.getfield 72, 3) := by decide +kernel
theorem dX11_manyBase_71 : decode cX11_manyBase 71 = .ok (.iload 5, 2) := by decide +kernel
theorem dX11_manyBase_73 : decode cX11_manyBase 73 = .ok (.baload, 1) := by decide +kernel
theorem dX11_manyBase_74 : decode cX11_manyBase 74 = .ok (.ifCond .eq 13, 3) := by decide +kernel
theorem dX11_manyBase_77 : decode cX11_manyBase 77 = .ok (.aload_n 0, 1) := by decide +kernel
theorem dX11_manyBase_78 : decode cX11_manyBase 78 = .ok (.iload 5, 2) := by decide +kernel
theorem dX11_manyBase_80 : decode cX11_manyBase 80 = .ok (.iconst 5, 1) := by decide +kernel
theorem dX11_manyBase_81 : decode cX11_manyBase 81 = .ok (.invokevirtual 305, 3) := by decide +kernel
theorem dX11_manyBase_84 : decode cX11_manyBase 84 = .ok (.goto 4, 3) := by decide +kernel
theorem dX11_manyBase_87 : decode cX11_manyBase 87 = .ok (.iconst 0, 1) := by decide +kernel
theorem dX11_manyBase_88 : decode cX11_manyBase 88 = .ok (.iadd, 1) := by decide +kernel
theorem dX11_manyBase_89 : decode cX11_manyBase 89 = .ok (.istore 4, 2) := by decide +kernel
theorem dX11_manyBase_91 : decode cX11_manyBase 91 = .ok (.iinc 5 1, 3) := by decide +kernel
theorem dX11_manyBase_94 : decode cX11_manyBase 94 = .ok (.goto (-88), 3) := by decide +kernel
theorem dX11_manyBase_97 : decode cX11_manyBase 97 = .ok (.iload 4, 2) := by decide +kernel
theorem dX11_manyBase_99 : decode cX11_manyBase 99 = .ok (.ireturn, 1) := by decide +kernel
theorem dX11_areOut_0 : decode cX11_areOut 0 = .ok (.aload_n 0, 1) := by decide +kernel
theorem dX11_areOut_1 : decode cX11_areOut 1 = .ok (.iload_n 1, 1) := by decide +kernel
theorem dX11_areOut_2 : decode cX11_areOut 2 = .ok (.iload_n 2, 1) := by decide +kernel
theorem dX11_areOut_3 : decode cX11_areOut 3 = .ok (.iconst 1, 1) := by decide +kernel
theorem dX11_areOut_4 : decode cX11_areOut 4 = .ok (.invokevirtual 350, 3) := by decide +kernel
theorem dX11_areOut_7 : decode cX11_areOut 7 = .ok (.istore_n 3, 1) := by decide +kernel
theorem dX11_areOut_8 : decode cX11_areOut 8 = .ok (.iload_n 3, 1) := by decide +kernel
theorem dX11_areOut_9 : decode cX11_areOut 9 = .ok (.ifCond .le 20, 3) := by decide +kernel
theorem dX11_areOut_12 : decode cX11_areOut 12 = .ok (.iconst 5, 1) := by decide +kernel
theorem dX11_areOut_13 : decode cX11_areOut 13 = .ok (.iload_n 3, 1) := by decide +kernel
theorem dX11_areOut_14 : decode cX11_areOut 14 = .ok (.imul, 1) := by decide +kernel
theorem dX11_areOut_15 : decode cX11_areOut 15 = .ok (.aload_n 0, 1) := by decide +kernel
theorem dX11_areOut_16 : decode cX11_areOut 16 = .ok (.iload_n 1, 1) := by decide +kernel
theorem dX11_areOut_17 : decode cX11_areOut 17 = .ok (.iload_n 2, 1) := by decide +kernel
theorem dX11_areOut_18 : decode cX11_areOut 18 = .ok (.iconst 0, 1) := by decide +kernel
theorem dX11_areOut_19 : decode cX11_areOut 19 = .ok (.invokevirtual 350, 3) := by decide +kernel
theorem dX11_areOut_22 : decode cX11_areOut 22 = .ok (.if_icmp .lt 7, 3) := by decide +kernel
theorem dX11_areOut_25 : decode cX11_areOut 25 = .ok (.iconst 1, 1) := by decide +kernel
theorem dX11_areOut_26 : decode cX11_areOut 26 = .ok (.goto 4, 3) := by decide +kernel
theorem dX11_areOut_29 : decode cX11_areOut 29 = .ok (.iconst 0, 1) := by decide +kernel
theorem dX11_areOut_30 : decode cX11_areOut 30 = .ok (.ireturn, 1) := by decide +kernel
theorem dX11_lays_0 : decode cX11_lays 0 = .ok (.aload_n 0, 1) := by decide +kernel
theorem dX11_lays_1 : decode cX11_lays 1 = .ok (.getfield 297, 3) := by decide +kernel
theorem dX11_lays_4 : decode cX11_lays 4 = .ok (.ifCond .eq 4, 3) := by decide +kernel
theorem dX11_lays_7 : decode cX11_lays 7 = .ok (.return_, 1) := by decide +kernel
theorem dX11_lays_8 : decode cX11_lays 8 = .ok (.aload_n 0, 1) := by decide +kernel
theorem dX11_lays_9 : decode cX11_lays 9 = .ok (.iconst 1, 1) := by decide +kernel
theorem dX11_lays_10 : decode cX11_lays 10 = .ok (.putfield 297, 3) := by decide +kernel
theorem dX11_lays_13 : decode cX11_lays 13 = .ok (.iconst 0, 1) := by decide +kernel
theorem dX11_lays_14 : decode cX11_lays 14 = .ok (.istore_n 1, 1) := by decide +kernel
theorem dX11_lays_15 : decode cX11_lays 15 = .ok (.iload_n 1, 1) := by decide +kernel
theorem dX11_lays_16 : decode cX11_lays 16 = .ok (.aload_n 0, 1) := by decide +kernel
theorem dX11_lays_17 : decode cX11_lays 17 = .ok (.getfield 291, 3) := by decide +kernel
theorem dX11_lays_20 : decode cX11_lays 20 = .ok (.if_icmp .ge 20, 3) := by decide +kernel
theorem dX11_lays_23 : decode cX11_lays 23 = .ok (.aload_n 0, 1) := by decide +kernel
theorem dX11_lays_24 : decode cX11_lays 24 = .ok (.getfield 79, 3) := by decide +kernel
theorem dX11_lays_27 : decode cX11_lays 27 = .ok (.iload_n 1, 1) := by decide +kernel
theorem dX11_lays_28 : decode cX11_lays 28 = .ok (.aload_n 0, 1) := by decide +kernel
theorem dX11_lays_29 : decode cX11_lays 29 = .ok (.iload_n 1, 1) := by decide +kernel
theorem dX11_lays_30 : decode cX11_lays 30 = .ok (.invokevirtual 354, 3) := by decide +kernel
theorem dX11_lays_33 : decode cX11_lays 33 = .ok (.iastore, 1) := by decide +kernel
theorem dX11_lays_34 : decode cX11_lays 34 = .ok (.iinc 1 1, 3) := by decide +kernel
theorem dX11_lays_37 : decode cX11_lays 37 = .ok (.goto (-22), 3) := by decide +kernel
theorem dX11_lays_40 : decode cX11_lays 40 = .ok (.iconst 0, 1) := by decide +kernel
theorem dX11_lays_41 : decode cX11_lays 41 = .ok (.istore_n 1, 1) := by decide +kernel
theorem dX11_lays_42 : decode cX11_lays 42 = .ok (.iload_n 1, 1) := by decide +kernel
theorem dX11_lays_43 : decode cX11_lays 43 = .ok (.aload_n 0, 1) := by decide +kernel
theorem dX11_lays_44 : decode cX11_lays 44 = .ok (.getfield 7, 3) := by decide +kernel
theorem dX11_lays_47 : decode cX11_lays 47 = .ok (.bipush 34, 2) := by decide +kernel
theorem dX11_lays_49 : decode cX11_lays 49 = .ok (.iaload, 1) := by decide +kernel
theorem dX11_lays_50 : decode cX11_lays 50 = .ok (.if_icmp .ge 107, 3) := by decide +kernel
theorem dX11_lays_53 : decode cX11_lays 53 = .ok (.aload_n 0, 1) := by decide +kernel
theorem dX11_lays_54 : decode cX11_lays 54 = .ok (.getfield 66, 3) := by decide +kernel
theorem dX11_lays_57 : decode cX11_lays 57 = .ok (.iload_n 1, 1) := by decide +kernel
theorem dX11_lays_58 : decode cX11_lays 58 = .ok (.aload_n 0, 1) := by decide +kernel
theorem dX11_lays_59 : decode cX11_lays 59 = .ok (.iload_n 1, 1) := by decide +kernel
theorem dX11_lays_60 : decode cX11_lays 60 = .ok (.invokevirtual 357, 3) := by decide +kernel
theorem dX11_lays_63 : decode cX11_lays 63 = .ok (.iastore, 1) := by decide +kernel
theorem dX11_lays_64 : decode cX11_lays 64 = .ok (.aload_n 0, 1) := by decide +kernel
theorem dX11_lays_65 : decode cX11_lays 65 = .ok (.iload_n 1, 1) := by decide +kernel
theorem dX11_lays_66 : decode cX11_lays 66 = .ok (.bipush 6, 2) := by decide +kernel
theorem dX11_lays_68 : decode cX11_lays 68 = .ok (.invokevirtual 305, 3) := by decide +kernel
theorem dX11_lays_71 : decode cX11_lays 71 = .ok (.aload_n 0, 1) := by decide +kernel
theorem dX11_lays_72 : decode cX11_lays 72 = .ok (.getfield 66, 3) := by decide +kernel
theorem dX11_lays_75 : decode cX11_lays 75 = .ok (.iload_n 1, 1) := by decide +kernel
theorem dX11_lays_76 : decode cX11_lays 76 = .ok (.iaload, 1) := by decide +kernel
theorem dX11_lays_77 : decode cX11_lays 77 = .ok (.isub, 1) := by decide +kernel
theorem dX11_lays_78 : decode cX11_lays 78 = .ok (.istore_n 2, 1) := by decide +kernel
theorem dX11_lays_79 : decode cX11_lays 79 = .ok (.aload_n 0, 1) := by decide +kernel
theorem dX11_lays_80 : decode cX11_lays 80 = .ok (.getfield 69, 3) := by decide +kernel
theorem dX11_lays_83 : decode cX11_lays 83 = .ok (.iload_n 1, 1) := by decide +kernel
theorem dX11_lays_84 : decode cX11_lays 84 = .ok (.iload_n 2, 1) := by decide +kernel
theorem dX11_lays_85 : decode cX11_lays 85 = .ok (.ifCond .ge 7, 3) := by decide +kernel
theorem dX11_lays_88 : decode cX11_lays 88 = .ok (.iconst 0, 1) := by decide +kernel
theorem dX11_lays_89 : decode cX11_lays 89 = .ok (.goto 17, 3) := by decide +kernel
theorem dX11_lays_92 : decode cX11_lays 92 = .ok (.iload_n 2, 1) := by decide +kernel
theorem dX11_lays_93 : decode cX11_lays 93 = .ok (.ldc_w 360, 3) := by decide +kernel
theorem dX11_lays_96 : decode cX11_lays 96 = .ok (.if_icmp .le 9, 3) := by decide +kernel
theorem dX11_lays_99 : decode cX11_lays 99 = .ok (.ldc_w 360, 3) := by decide +kernel
theorem dX11_lays_102 : decode cX11_lays 102 = .ok (.goto 4, 3) := by decide +kernel
theorem dX11_lays_105 : decode cX11_lays 105 = .ok (.iload_n 2, 1) := by decide +kernel
theorem dX11_lays_106 : decode cX11_lays 106 = .ok (.iastore, 1) := by decide +kernel
theorem dX11_lays_107 : decode cX11_lays 107 = .ok (.aload_n 0, 1) := by decide +kernel
theorem dX11_lays_108 : decode cX11_lays 108 = .ok (.getfield 72, 3) := by decide +kernel
theorem dX11_lays_111 : decode cX11_lays 111 = .ok (.iload_n 1, 1) := by decide +kernel
theorem dX11_lays_112 : decode cX11_lays 112 = .ok (.aload_n 0, 1) := by decide +kernel
theorem dX11_lays_113 : decode cX11_lays 113 = .ok (.iload_n 1, 1) := by decide +kernel
theorem dX11_lays_114 : decode cX11_lays 114 = .ok (.invokevirtual 347, 3) := by decide +kernel
theorem dX11_lays_117 : decode cX11_lays 117 = .ok (.ifCond .eq 32, 3) := by decide +kernel
theorem dX11_lays_120 : decode cX11_lays 120 = .ok (.aload_n 0, 1) := by decide +kernel
theorem dX11_lays_121 : decode cX11_lays 121 = .ok (.getfield 69, 3) := by decide +kernel
theorem dX11_lays_124 : decode cX11_lays 124 = .ok (.iload_n 1, 1) := by decide +kernel
theorem dX11_lays_125 : decode cX11_lays 125 = .ok (.iaload, 1) := by decide +kernel
theorem dX11_lays_126 : decode cX11_lays 126 = .ok (.aload_n 0, 1) := by decide +kernel
theorem dX11_lays_127 : decode cX11_lays 127 = .ok (.aload_n 0, 1) := by decide +kernel
theorem dX11_lays_128 : decode cX11_lays 128 = .ok (.iload_n 1, 1) := by decide +kernel
theorem dX11_lays_129 : decode cX11_lays 129 = .ok (.iconst 1, 1) := by decide +kernel
theorem dX11_lays_130 : decode cX11_lays 130 = .ok (.invokevirtual 305, 3) := by decide +kernel
theorem dX11_lays_133 : decode cX11_lays 133 = .ok (.aload_n 0, 1) := by decide +kernel
theorem dX11_lays_134 : decode cX11_lays 134 = .ok (.iload_n 1, 1) := by decide +kernel
theorem dX11_lays_135 : decode cX11_lays 135 = .ok (.iconst 2, 1) := by decide +kernel
theorem dX11_lays_136 : decode cX11_lays 136 = .ok (.invokevirtual 305, 3) := by decide +kernel
theorem dX11_lays_139 : decode cX11_lays 139 = .ok (.invokevirtual 322, 3) := by decide +kernel
theorem dX11_lays_142 : decode cX11_lays 142 = .ok (.if_icmp .ge 7, 3) := by decide +kernel
theorem dX11_lays_145 : decode cX11_lays 145 = .ok (.iconst 1, 1) := by decide +kernel
theorem dX11_lays_146 : decode cX11_lays 146 = .ok (.goto 4, 3) := by decide +kernel
theorem dX11_lays_149 : decode cX11_lays 149 = .ok (.iconst 0, 1) := by decide +kernel
theorem dX11_lays_150 : decode cX11_lays 150 = .ok (.bastore, 1) := by decide +kernel
theorem dX11_lays_151 : decode cX11_lays 151 = .ok (.iinc 1 1, 3) := by decide +kernel
theorem dX11_lays_154 : decode cX11_lays 154 = .ok (.goto (-112), 3) := by decide +kernel
theorem dX11_lays_157 : decode cX11_lays 157 = .ok (.iconst 0, 1) := by decide +kernel
theorem dX11_lays_158 : decode cX11_lays 158 = .ok (.istore_n 1, 1) := by decide +kernel
theorem dX11_lays_159 : decode cX11_lays 159 = .ok (.iload_n 1, 1) := by decide +kernel
theorem dX11_lays_160 : decode cX11_lays 160 = .ok (.aload_n 0, 1) := by decide +kernel
theorem dX11_lays_161 : decode cX11_lays 161 = .ok (.getfield 7, 3) := by decide +kernel
theorem dX11_lays_164 : decode cX11_lays 164 = .ok (.bipush 34, 2) := by decide +kernel
theorem dX11_lays_166 : decode cX11_lays 166 = .ok (.iaload, 1) := by decide +kernel
theorem dX11_lays_167 : decode cX11_lays 167 = .ok (.if_icmp .ge 56, 3) := by decide +kernel
theorem dX11_lays_170 : decode cX11_lays 170 = .ok (.aload_n 0, 1) := by decide +kernel
theorem dX11_lays_171 : decode cX11_lays 171 = .ok (.getfield 76, 3) := by decide +kernel
theorem dX11_lays_174 : decode cX11_lays 174 = .ok (.iload_n 1, 1) := by decide +kernel
theorem dX11_lays_175 : decode cX11_lays 175 = .ok (.aload_n 0, 1) := by decide +kernel
theorem dX11_lays_176 : decode cX11_lays 176 = .ok (.iload_n 1, 1) := by decide +kernel
theorem dX11_lays_177 : decode cX11_lays 177 = .ok (.invokevirtual 347, 3) := by decide +kernel
theorem dX11_lays_180 : decode cX11_lays 180 = .ok (.ifCond .eq 35, 3) := by decide +kernel
theorem dX11_lays_183 : decode cX11_lays 183 = .ok (.aload_n 0, 1) := by decide +kernel
theorem dX11_lays_184 : decode cX11_lays 184 = .ok (.getfield 72, 3) := by decide +kernel
theorem dX11_lays_187 : decode cX11_lays 187 = .ok (.iload_n 1, 1) := by decide +kernel
theorem dX11_lays_188 : decode cX11_lays 188 = .ok (.baload, 1) := by decide +kernel
theorem dX11_lays_189 : decode cX11_lays 189 = .ok (.ifCond .eq 22, 3) := by decide +kernel
theorem dX11_lays_192 : decode cX11_lays 192 = .ok (.aload_n 0, 1) := by decide +kernel
theorem dX11_lays_193 : decode cX11_lays 193 = .ok (.aload_n 0, 1) := by decide +kernel
theorem dX11_lays_194 : decode cX11_lays 194 = .ok (.iload_n 1, 1) := by decide +kernel
theorem dX11_lays_195 : decode cX11_lays 195 = .ok (.iconst 1, 1) := by decide +kernel
theorem dX11_lays_196 : decode cX11_lays 196 = .ok (.invokevirtual 305, 3) := by decide +kernel
theorem dX11_lays_199 : decode cX11_lays 199 = .ok (.aload_n 0, 1) := by decide +kernel
theorem dX11_lays_200 : decode cX11_lays 200 = .ok (.iload_n 1, 1) := by decide +kernel
theorem dX11_lays_201 : decode cX11_lays 201 = .ok (.iconst 2, 1) := by decide +kernel
theorem dX11_lays_202 : decode cX11_lays 202 = .ok (.invokevirtual 305, 3) := by decide +kernel
theorem dX11_lays_205 : decode cX11_lays 205 = .ok (.invokevirtual 361, 3) := by decide +kernel
theorem dX11_lays_208 : decode cX11_lays 208 = .ok (.ifCond .ne 7, 3) := by decide +kernel
theorem dX11_lays_211 : decode cX11_lays 211 = .ok (.iconst 1, 1) := by decide +kernel
theorem dX11_lays_212 : decode cX11_lays 212 = .ok (.goto 4, 3) := by decide +kernel
theorem dX11_lays_215 : decode cX11_lays 215 = .ok (.iconst 0, 1) := by decide +kernel
theorem dX11_lays_216 : decode cX11_lays 216 = .ok (.bastore, 1) := by decide +kernel
theorem dX11_lays_217 : decode cX11_lays 217 = .ok (.iinc 1 1, 3) := by decide +kernel
theorem dX11_lays_220 : decode cX11_lays 220 = .ok (.goto (-61), 3) := by decide +kernel
theorem dX11_lays_223 : decode cX11_lays 223 = .ok (.return_, 1) := by decide +kernel
theorem dX11_sale_0 : decode cX11_sale 0 = .ok (.aload_n 0, 1) := by decide +kernel
theorem dX11_sale_1 : decode cX11_sale 1 = .ok (.aload_n 0, 1) := by decide +kernel
theorem dX11_sale_2 : decode cX11_sale 2 = .ok (.iload_n 1, 1) := by decide +kernel
theorem dX11_sale_3 : decode cX11_sale 3 = .ok (.invokevirtual 341, 3) := by decide +kernel
theorem dX11_sale_6 : decode cX11_sale 6 = .ok (.ifCond .ne 7, 3) := by decide +kernel
theorem dX11_sale_9 : decode cX11_sale 9 = .ok (.iconst 1, 1) := by decide +kernel
theorem dX11_sale_10 : decode cX11_sale 10 = .ok (.goto 20, 3) := by decide +kernel
theorem dX11_sale_13 : decode cX11_sale 13 = .ok (.iload_n 2, 1) := by decide +kernel
theorem dX11_sale_14 : decode cX11_sale 14 = .ok (.i2l, 1) := by decide +kernel
theorem dX11_sale_15 : decode cX11_sale 15 = .ok (.lconst 0, 1) := by decide +kernel
theorem dX11_sale_16 : decode cX11_sale 16 = .ok (.ldc2_w 365, 3) := by decide +kernel
theorem dX11_sale_19 : decode cX11_sale 19 = .ok (.invokestatic 301, 3) := by decide +kernel
theorem dX11_sale_22 : decode cX11_sale 22 = .ok (.ifCond .eq 7, 3) := by decide +kernel
theorem dX11_sale_25 : decode cX11_sale 25 = .ok (.iconst 0, 1) := by decide +kernel
theorem dX11_sale_26 : decode cX11_sale 26 = .ok (.goto 4, 3) := by decide +kernel
theorem dX11_sale_29 : decode cX11_sale 29 = .ok (.iconst 2, 1) := by decide +kernel
theorem dX11_sale_30 : decode cX11_sale 30 = .ok (.putfield 104, 3) := by decide +kernel
theorem dX11_sale_33 : decode cX11_sale 33 = .ok (.aload_n 0, 1) := by decide +kernel
theorem dX11_sale_34 : decode cX11_sale 34 = .ok (.getfield 104, 3) := by decide +kernel
theorem dX11_sale_37 : decode cX11_sale 37 = .ok (.ifCond .le 5, 3) := by decide +kernel
theorem dX11_sale_40 : decode cX11_sale 40 = .ok (.iconst 0, 1) := by decide +kernel
theorem dX11_sale_41 : decode cX11_sale 41 = .ok (.ireturn, 1) := by decide +kernel
theorem dX11_sale_42 : decode cX11_sale 42 = .ok (.aload_n 0, 1) := by decide +kernel
theorem dX11_sale_43 : decode cX11_sale 43 = .ok (.invokevirtual 367, 3) := by decide +kernel
theorem dX11_sale_46 : decode cX11_sale 46 = .ok (.iload_n 2, 1) := by decide +kernel
theorem dX11_sale_47 : decode cX11_sale 47 = .ok (.tableswitch 73 7 10 #[29, 36, 43, 58], 29) := by decide +kernel
theorem dX11_sale_76 : decode cX11_sale 76 = .ok (.aload_n 0, 1) := by decide +kernel
theorem dX11_sale_77 : decode cX11_sale 77 = .ok (.getfield 66, 3) := by decide +kernel
theorem dX11_sale_80 : decode cX11_sale 80 = .ok (.iload_n 1, 1) := by decide +kernel
theorem dX11_sale_81 : decode cX11_sale 81 = .ok (.iaload, 1) := by decide +kernel
theorem dX11_sale_82 : decode cX11_sale 82 = .ok (.ireturn, 1) := by decide +kernel
theorem dX11_sale_83 : decode cX11_sale 83 = .ok (.aload_n 0, 1) := by decide +kernel
theorem dX11_sale_84 : decode cX11_sale 84 = .ok (.getfield 69, 3) := by decide +kernel
theorem dX11_sale_87 : decode cX11_sale 87 = .ok (.iload_n 1, 1) := by decide +kernel
theorem dX11_sale_88 : decode cX11_sale 88 = .ok (.iaload, 1) := by decide +kernel
theorem dX11_sale_89 : decode cX11_sale 89 = .ok (.ireturn, 1) := by decide +kernel
theorem dX11_sale_90 : decode cX11_sale 90 = .ok (.aload_n 0, 1) := by decide +kernel
theorem dX11_sale_91 : decode cX11_sale 91 = .ok (.getfield 72, 3) := by decide +kernel
theorem dX11_sale_94 : decode cX11_sale 94 = .ok (.iload_n 1, 1) := by decide +kernel
theorem dX11_sale_95 : decode cX11_sale 95 = .ok (.baload, 1) := by decide +kernel
theorem dX11_sale_96 : decode cX11_sale 96 = .ok (.ifCond .eq 7, 3) := by decide +kernel
theorem dX11_sale_99 : decode cX11_sale 99 = .ok (.iconst 1, 1) := by decide +kernel
theorem dX11_sale_100 : decode cX11_sale 100 = .ok (.goto 4, 3) := by decide +kernel
theorem dX11_sale_103 : decode cX11_sale 103 = .ok (.iconst 0, 1) := by decide +kernel
theorem dX11_sale_104 : decode cX11_sale 104 = .ok (.ireturn, 1) := by decide +kernel
theorem dX11_sale_105 : decode cX11_sale 105 = .ok (.aload_n 0, 1) := by decide +kernel
theorem dX11_sale_106 : decode cX11_sale 106 = .ok (.getfield 76, 3) := by decide +kernel
theorem dX11_sale_109 : decode cX11_sale 109 = .ok (.iload_n 1, 1) := by decide +kernel
theorem dX11_sale_110 : decode cX11_sale 110 = .ok (.baload, 1) := by decide +kernel
theorem dX11_sale_111 : decode cX11_sale 111 = .ok (.ifCond .eq 7, 3) := by decide +kernel
theorem dX11_sale_114 : decode cX11_sale 114 = .ok (.iconst 1, 1) := by decide +kernel
theorem dX11_sale_115 : decode cX11_sale 115 = .ok (.goto 4, 3) := by decide +kernel
theorem dX11_sale_118 : decode cX11_sale 118 = .ok (.iconst 0, 1) := by decide +kernel
theorem dX11_sale_119 : decode cX11_sale 119 = .ok (.ireturn, 1) := by decide +kernel
theorem dX11_sale_120 : decode cX11_sale 120 = .ok (.aload_n 0, 1) := by decide +kernel
theorem dX11_sale_121 : decode cX11_sale 121 = .ok (.iload_n 1, 1) := by decide +kernel
theorem dX11_sale_122 : decode cX11_sale 122 = .ok (.iload_n 2, 1) := by decide +kernel
theorem dX11_sale_123 : decode cX11_sale 123 = .ok (.invokevirtual 305, 3) := by decide +kernel
theorem dX11_sale_126 : decode cX11_sale 126 = .ok (.ireturn, 1) := by decide +kernel
theorem dX11_remembers_0 : decode cX11_remembers 0 = .ok (.aload_n 0, 1) := by decide +kernel
theorem dX11_remembers_1 : decode cX11_remembers 1 = .ok (.getfield 294, 3) := by decide +kernel
theorem dX11_remembers_4 : decode cX11_remembers 4 = .ok (.bipush 16, 2) := by decide +kernel
theorem dX11_remembers_6 : decode cX11_remembers 6 = .ok (.if_icmp .ne 46, 3) := by decide +kernel
theorem dX11_remembers_9 : decode cX11_remembers 9 = .ok (.sipush 355, 3) := by decide +kernel
theorem dX11_remembers_12 : decode cX11_remembers 12 = .ok (.istore_n 1, 1) := by decide +kernel
theorem dX11_remembers_13 : decode cX11_remembers 13 = .ok (.iload_n 1, 1) := by decide +kernel
theorem dX11_remembers_14 : decode cX11_remembers 14 = .ok (.sipush 5680, 3) := by decide +kernel
theorem dX11_remembers_17 : decode cX11_remembers 17 = .ok (.if_icmp .ge 25, 3) := by decide +kernel
theorem dX11_remembers_20 : decode cX11_remembers 20 = .ok (.aload_n 0, 1) := by decide +kernel
theorem dX11_remembers_21 : decode cX11_remembers 21 = .ok (.getfield 16, 3) := by decide +kernel
theorem dX11_remembers_24 : decode cX11_remembers 24 = .ok (.iload_n 1, 1) := by decide +kernel
theorem dX11_remembers_25 : decode cX11_remembers 25 = .ok (.sipush 355, 3) := by decide +kernel
theorem dX11_remembers_28 : decode cX11_remembers 28 = .ok (.isub, 1) := by decide +kernel
theorem dX11_remembers_29 : decode cX11_remembers 29 = .ok (.aload_n 0, 1) := by decide +kernel
theorem dX11_remembers_30 : decode cX11_remembers 30 = .ok (.getfield 16, 3) := by decide +kernel
theorem dX11_remembers_33 : decode cX11_remembers 33 = .ok (.iload_n 1, 1) := by decide +kernel
theorem dX11_remembers_34 : decode cX11_remembers 34 = .ok (.iaload, 1) := by decide +kernel
theorem dX11_remembers_35 : decode cX11_remembers 35 = .ok (.iastore, 1) := by decide +kernel
theorem dX11_remembers_36 : decode cX11_remembers 36 = .ok (.iinc 1 1, 3) := by decide +kernel
theorem dX11_remembers_39 : decode cX11_remembers 39 = .ok (.goto (-26), 3) := by decide +kernel
theorem dX11_remembers_42 : decode cX11_remembers 42 = .ok (.aload_n 0, 1) := by decide +kernel
theorem dX11_remembers_43 : decode cX11_remembers 43 = .ok (.dup, 1) := by decide +kernel
theorem dX11_remembers_44 : decode cX11_remembers 44 = .ok (.getfield 294, 3) := by decide +kernel
theorem dX11_remembers_47 : decode cX11_remembers 47 = .ok (.iconst 1, 1) := by decide +kernel
theorem dX11_remembers_48 : decode cX11_remembers 48 = .ok (.isub, 1) := by decide +kernel
theorem dX11_remembers_49 : decode cX11_remembers 49 = .ok (.putfield 294, 3) := by decide +kernel
theorem dX11_remembers_52 : decode cX11_remembers 52 = .ok (.iconst 0, 1) := by decide +kernel
theorem dX11_remembers_53 : decode cX11_remembers 53 = .ok (.istore_n 1, 1) := by decide +kernel
theorem dX11_remembers_54 : decode cX11_remembers 54 = .ok (.iload_n 1, 1) := by decide +kernel
theorem dX11_remembers_55 : decode cX11_remembers 55 = .ok (.sipush 355, 3) := by decide +kernel
theorem dX11_remembers_58 : decode cX11_remembers 58 = .ok (.if_icmp .ge 30, 3) := by decide +kernel
theorem dX11_remembers_61 : decode cX11_remembers 61 = .ok (.aload_n 0, 1) := by decide +kernel
theorem dX11_remembers_62 : decode cX11_remembers 62 = .ok (.getfield 16, 3) := by decide +kernel
theorem dX11_remembers_65 : decode cX11_remembers 65 = .ok (.sipush 355, 3) := by decide +kernel
theorem dX11_remembers_68 : decode cX11_remembers 68 = .ok (.aload_n 0, 1) := by decide +kernel
theorem dX11_remembers_69 : decode cX11_remembers 69 = .ok (.getfield 294, 3) := by decide +kernel
theorem dX11_remembers_72 : decode cX11_remembers 72 = .ok (.imul, 1) := by decide +kernel
theorem dX11_remembers_73 : decode cX11_remembers 73 = .ok (.iload_n 1, 1) := by decide +kernel
theorem dX11_remembers_74 : decode cX11_remembers 74 = .ok (.iadd, 1) := by decide +kernel
theorem dX11_remembers_75 : decode cX11_remembers 75 = .ok (.aload_n 0, 1) := by decide +kernel
theorem dX11_remembers_76 : decode cX11_remembers 76 = .ok (.getfield 7, 3) := by decide +kernel
theorem dX11_remembers_79 : decode cX11_remembers 79 = .ok (.iload_n 1, 1) := by decide +kernel
theorem dX11_remembers_80 : decode cX11_remembers 80 = .ok (.iaload, 1) := by decide +kernel
theorem dX11_remembers_81 : decode cX11_remembers 81 = .ok (.iastore, 1) := by decide +kernel
theorem dX11_remembers_82 : decode cX11_remembers 82 = .ok (.iinc 1 1, 3) := by decide +kernel
theorem dX11_remembers_85 : decode cX11_remembers 85 = .ok (.goto (-31), 3) := by decide +kernel
theorem dX11_remembers_88 : decode cX11_remembers 88 = .ok (.aload_n 0, 1) := by decide +kernel
theorem dX11_remembers_89 : decode cX11_remembers 89 = .ok (.dup, 1) := by decide +kernel
theorem dX11_remembers_90 : decode cX11_remembers 90 = .ok (.getfield 294, 3) := by decide +kernel
theorem dX11_remembers_93 : decode cX11_remembers 93 = .ok (.iconst 1, 1) := by decide +kernel
theorem dX11_remembers_94 : decode cX11_remembers 94 = .ok (.iadd, 1) := by decide +kernel
theorem dX11_remembers_95 : decode cX11_remembers 95 = .ok (.putfield 294, 3) := by decide +kernel
theorem dX11_remembers_98 : decode cX11_remembers 98 = .ok (.aload_n 0, 1) := by decide +kernel
theorem dX11_remembers_99 : decode cX11_remembers 99 = .ok (.iconst 0, 1) := by decide +kernel
theorem dX11_remembers_100 : decode cX11_remembers 100 = .ok (.putfield 297, 3) := by decide +kernel
theorem dX11_remembers_103 : decode cX11_remembers 103 = .ok (.return_, 1) := by decide +kernel
theorem dX11_put_0 : decode cX11_put 0 = .ok (.aload_n 0, 1) := by decide +kernel
theorem dX11_put_1 : decode cX11_put 1 = .ok (.iconst 0, 1) := by decide +kernel
theorem dX11_put_2 : decode cX11_put 2 = .ok (.putfield 104, 3) := by decide +kernel
theorem dX11_put_5 : decode cX11_put 5 = .ok (.aload_n 0, 1) := by decide +kernel
theorem dX11_put_6 : decode cX11_put 6 = .ok (.iload_n 2, 1) := by decide +kernel
theorem dX11_put_7 : decode cX11_put 7 = .ok (.invokevirtual 311, 3) := by decide +kernel
theorem dX11_put_10 : decode cX11_put 10 = .ok (.ifCond .eq 11, 3) := by decide +kernel
theorem dX11_put_13 : decode cX11_put 13 = .ok (.aload_n 0, 1) := by decide +kernel
theorem dX11_put_14 : decode cX11_put 14 = .ok (.iload_n 3, 1) := by decide +kernel
theorem dX11_put_15 : decode cX11_put 15 = .ok (.invokevirtual 314, 3) := by decide +kernel
theorem dX11_put_18 : decode cX11_put 18 = .ok (.ifCond .ne 9, 3) := by decide +kernel
theorem dX11_put_21 : decode cX11_put 21 = .ok (.aload_n 0, 1) := by decide +kernel
theorem dX11_put_22 : decode cX11_put 22 = .ok (.iconst 1, 1) := by decide +kernel
theorem dX11_put_23 : decode cX11_put 23 = .ok (.invokevirtual 282, 3) := by decide +kernel
theorem dX11_put_26 : decode cX11_put 26 = .ok (.ireturn, 1) := by decide +kernel
theorem dX11_put_27 : decode cX11_put 27 = .ok (.iload_n 1, 1) := by decide +kernel
theorem dX11_put_28 : decode cX11_put 28 = .ok (.i2l, 1) := by decide +kernel
theorem dX11_put_29 : decode cX11_put 29 = .ok (.lconst 0, 1) := by decide +kernel
theorem dX11_put_30 : decode cX11_put 30 = .ok (.ldc2_w 320, 3) := by decide +kernel
theorem dX11_put_33 : decode cX11_put 33 = .ok (.invokestatic 301, 3) := by decide +kernel
theorem dX11_put_36 : decode cX11_put 36 = .ok (.ifCond .eq 55, 3) := by decide +kernel
theorem dX11_put_39 : decode cX11_put 39 = .ok (.iload 4, 2) := by decide +kernel
theorem dX11_put_41 : decode cX11_put 41 = .ok (.i2l, 1) := by decide +kernel
theorem dX11_put_42 : decode cX11_put 42 = .ok (.lconst 0, 1) := by decide +kernel
theorem dX11_put_43 : decode cX11_put 43 = .ok (.ldc2_w 370, 3) := by decide +kernel
theorem dX11_put_46 : decode cX11_put 46 = .ok (.invokestatic 301, 3) := by decide +kernel
theorem dX11_put_49 : decode cX11_put 49 = .ok (.ifCond .eq 42, 3) := by decide +kernel
theorem dX11_put_52 : decode cX11_put 52 = .ok (.iload 5, 2) := by decide +kernel
theorem dX11_put_54 : decode cX11_put 54 = .ok (.i2l, 1) := by decide +kernel
theorem dX11_put_55 : decode cX11_put 55 = .ok (.lconst 0, 1) := by decide +kernel
theorem dX11_put_56 : decode cX11_put 56 = .ok (.ldc2_w 372, 3) := by decide +kernel
theorem dX11_put_59 : decode cX11_put 59 = .ok (.invokestatic 301, 3) := by decide +kernel
theorem dX11_put_62 : decode cX11_put 62 = .ok (.ifCond .eq 29, 3) := by decide +kernel
theorem dX11_put_65 : decode cX11_put 65 = .ok (.iload 6, 2) := by decide +kernel
theorem dX11_put_67 : decode cX11_put 67 = .ok (.i2l, 1) := by decide +kernel
theorem dX11_put_68 : decode cX11_put 68 = .ok (.lconst 1, 1) := by decide +kernel
theorem dX11_put_69 : decode cX11_put 69 = .ok (.ldc2_w 374, 3) := by decide +kernel
theorem dX11_put_72 : decode cX11_put 72 = .ok (.invokestatic 301, 3) := by decide +kernel
theorem dX11_put_75 : decode cX11_put 75 = .ok (.ifCond .eq 16, 3) := by decide +kernel
theorem dX11_put_78 : decode cX11_put 78 = .ok (.iload 7, 2) := by decide +kernel
theorem dX11_put_80 : decode cX11_put 80 = .ok (.i2l, 1) := by decide +kernel
theorem dX11_put_81 : decode cX11_put 81 = .ok (.lconst 1, 1) := by decide +kernel
theorem dX11_put_82 : decode cX11_put 82 = .ok (.ldc2_w 376, 3) := by decide +kernel
theorem dX11_put_85 : decode cX11_put 85 = .ok (.invokestatic 301, 3) := by decide +kernel
theorem dX11_put_88 : decode cX11_put 88 = .ok (.ifCond .ne 9, 3) := by decide +kernel
theorem dX11_put_91 : decode cX11_put 91 = .ok (.aload_n 0, 1) := by decide +kernel
theorem dX11_put_92 : decode cX11_put 92 = .ok (.iconst 2, 1) := by decide +kernel
theorem dX11_put_93 : decode cX11_put 93 = .ok (.invokevirtual 282, 3) := by decide +kernel
theorem dX11_put_96 : decode cX11_put 96 = .ok (.ireturn, 1) := by decide +kernel
theorem dX11_put_97 : decode cX11_put 97 = .ok (.aload_n 0, 1) := by decide +kernel
theorem dX11_put_98 : decode cX11_put 98 = .ok (.getfield 7, 3) := by decide +kernel
theorem dX11_put_101 : decode cX11_put 101 = .ok (.bipush 34, 2) := by decide +kernel
theorem dX11_put_103 : decode cX11_put 103 = .ok (.iaload, 1) := by decide +kernel
theorem dX11_put_104 : decode cX11_put 104 = .ok (.bipush 40, 2) := by decide +kernel
theorem dX11_put_106 : decode cX11_put 106 = .ok (.if_icmp .ne 9, 3) := by decide +kernel
theorem dX11_put_109 : decode cX11_put 109 = .ok (.aload_n 0, 1) := by decide +kernel
theorem dX11_put_110 : decode cX11_put 110 = .ok (.iconst 3, 1) := by decide +kernel
theorem dX11_put_111 : decode cX11_put 111 = .ok (.invokevirtual 282, 3) := by decide +kernel
theorem dX11_put_114 : decode cX11_put 114 = .ok (.ireturn, 1) := by decide +kernel
theorem dX11_put_115 : decode cX11_put 115 = .ok (.aload_n 0, 1) := by decide +kernel
theorem dX11_put_116 : decode cX11_put 116 = .ok (.invokevirtual 378, 3) := by decide +kernel
theorem dX11_put_119 : decode cX11_put 119 = .ok (.bipush 35, 2) := by decide +kernel
theorem dX11_put_121 : decode cX11_put 121 = .ok (.bipush 8, 2) := by decide +kernel
theorem dX11_put_123 : decode cX11_put 123 = .ok (.aload_n 0, 1) := by decide +kernel
theorem dX11_put_124 : decode cX11_put 124 = .ok (.getfield 7, 3) := by decide +kernel
theorem dX11_put_127 : decode cX11_put 127 = .ok (.bipush 34, 2) := by decide +kernel
theorem dX11_put_129 : decode cX11_put 129 = .ok (.iaload, 1) := by decide +kernel
theorem dX11_put_130 : decode cX11_put 130 = .ok (.imul, 1) := by decide +kernel
theorem dX11_put_131 : decode cX11_put 131 = .ok (.iadd, 1) := by decide +kernel
theorem dX11_put_132 : decode cX11_put 132 = .ok (.istore 8, 2) := by decide +kernel
theorem dX11_put_134 : decode cX11_put 134 = .ok (.aload_n 0, 1) := by decide +kernel
theorem dX11_put_135 : decode cX11_put 135 = .ok (.getfield 7, 3) := by decide +kernel
theorem dX11_put_138 : decode cX11_put 138 = .ok (.iload 8, 2) := by decide +kernel
theorem dX11_put_140 : decode cX11_put 140 = .ok (.iconst 0, 1) := by decide +kernel
theorem dX11_put_141 : decode cX11_put 141 = .ok (.iadd, 1) := by decide +kernel
theorem dX11_put_142 : decode cX11_put 142 = .ok (.iload_n 1, 1) := by decide +kernel
theorem dX11_put_143 : decode cX11_put 143 = .ok (.iastore, 1) := by decide +kernel
theorem dX11_put_144 : decode cX11_put 144 = .ok (.aload_n 0, 1) := by decide +kernel
theorem dX11_put_145 : decode cX11_put 145 = .ok (.getfield 7, 3) := by decide +kernel
theorem dX11_put_148 : decode cX11_put 148 = .ok (.iload 8, 2) := by decide +kernel
theorem dX11_put_150 : decode cX11_put 150 = .ok (.iconst 1, 1) := by decide +kernel
theorem dX11_put_151 : decode cX11_put 151 = .ok (.iadd, 1) := by decide +kernel
theorem dX11_put_152 : decode cX11_put 152 = .ok (.iload_n 2, 1) := by decide +kernel
theorem dX11_put_153 : decode cX11_put 153 = .ok (.iastore, 1) := by decide +kernel
theorem dX11_put_154 : decode cX11_put 154 = .ok (.aload_n 0, 1) := by decide +kernel
theorem dX11_put_155 : decode cX11_put 155 = .ok (.getfield 7, 3) := by decide +kernel
theorem dX11_put_158 : decode cX11_put 158 = .ok (.iload 8, 2) := by decide +kernel
theorem dX11_put_160 : decode cX11_put 160 = .ok (.iconst 2, 1) := by decide +kernel
theorem dX11_put_161 : decode cX11_put 161 = .ok (.iadd, 1) := by decide +kernel
theorem dX11_put_162 : decode cX11_put 162 = .ok (.iload_n 3, 1) := by decide +kernel
theorem dX11_put_163 : decode cX11_put 163 = .ok (.iastore, 1) := by decide +kernel
theorem dX11_put_164 : decode cX11_put 164 = .ok (.aload_n 0, 1) := by decide +kernel
theorem dX11_put_165 : decode cX11_put 165 = .ok (.getfield 7, 3) := by decide +kernel
theorem dX11_put_168 : decode cX11_put 168 = .ok (.iload 8, 2) := by decide +kernel
theorem dX11_put_170 : decode cX11_put 170 = .ok (.iconst 3, 1) := by decide +kernel
theorem dX11_put_171 : decode cX11_put 171 = .ok (.iadd, 1) := by decide +kernel
theorem dX11_put_172 : decode cX11_put 172 = .ok (.iload 4, 2) := by decide +kernel
theorem dX11_put_174 : decode cX11_put 174 = .ok (.iastore, 1) := by decide +kernel
theorem dX11_put_175 : decode cX11_put 175 = .ok (.aload_n 0, 1) := by decide +kernel
theorem dX11_put_176 : decode cX11_put 176 = .ok (.getfield 7, 3) := by decide +kernel
theorem dX11_put_179 : decode cX11_put 179 = .ok (.iload 8, 2) := by decide +kernel
theorem dX11_put_181 : decode cX11_put 181 = .ok (.iconst 4, 1) := by decide +kernel
theorem dX11_put_182 : decode cX11_put 182 = .ok (.iadd, 1) := by decide +kernel
theorem dX11_put_183 : decode cX11_put 183 = .ok (.iload 5, 2) := by decide +kernel
theorem dX11_put_185 : decode cX11_put 185 = .ok (.iastore, 1) := by decide +kernel
theorem dX11_put_186 : decode cX11_put 186 = .ok (.aload_n 0, 1) := by decide +kernel
theorem dX11_put_187 : decode cX11_put 187 = .ok (.getfield 7, 3) := by decide +kernel
theorem dX11_put_190 : decode cX11_put 190 = .ok (.iload 8, 2) := by decide +kernel
theorem dX11_put_192 : decode cX11_put 192 = .ok (.iconst 5, 1) := by decide +kernel
theorem dX11_put_193 : decode cX11_put 193 = .ok (.iadd, 1) := by decide +kernel
theorem dX11_put_194 : decode cX11_put 194 = .ok (.iload 6, 2) := by decide +kernel
theorem dX11_put_196 : decode cX11_put 196 = .ok (.iastore, 1) := by decide +kernel
theorem dX11_put_197 : decode cX11_put 197 = .ok (.aload_n 0, 1) := by decide +kernel
theorem dX11_put_198 : decode cX11_put 198 = .ok (.getfield 7, 3) := by decide +kernel
theorem dX11_put_201 : decode cX11_put 201 = .ok (.iload 8, 2) := by decide +kernel
theorem dX11_put_203 : decode cX11_put 203 = .ok (.bipush 6, 2) := by decide +kernel
theorem dX11_put_205 : decode cX11_put 205 = .ok (.iadd, 1) := by decide +kernel
theorem dX11_put_206 : decode cX11_put 206 = .ok (.iload 7, 2) := by decide +kernel
theorem dX11_put_208 : decode cX11_put 208 = .ok (.iastore, 1) := by decide +kernel
theorem dX11_put_209 : decode cX11_put 209 = .ok (.aload_n 0, 1) := by decide +kernel
theorem dX11_put_210 : decode cX11_put 210 = .ok (.getfield 7, 3) := by decide +kernel
theorem dX11_put_213 : decode cX11_put 213 = .ok (.iload 8, 2) := by decide +kernel
theorem dX11_put_215 : decode cX11_put 215 = .ok (.bipush 7, 2) := by decide +kernel
theorem dX11_put_217 : decode cX11_put 217 = .ok (.iadd, 1) := by decide +kernel
theorem dX11_put_218 : decode cX11_put 218 = .ok (.iconst 1, 1) := by decide +kernel
theorem dX11_put_219 : decode cX11_put 219 = .ok (.iastore, 1) := by decide +kernel
theorem dX11_put_220 : decode cX11_put 220 = .ok (.aload_n 0, 1) := by decide +kernel
theorem dX11_put_221 : decode cX11_put 221 = .ok (.getfield 7, 3) := by decide +kernel
theorem dX11_put_224 : decode cX11_put 224 = .ok (.bipush 34, 2) := by decide +kernel
theorem dX11_put_226 : decode cX11_put 226 = .ok (.dup2, 1) := by decide +kernel
theorem dX11_put_227 : decode cX11_put 227 = .ok (.iaload, 1) := by decide +kernel
theorem dX11_put_228 : decode cX11_put 228 = .ok (.iconst 1, 1) := by decide +kernel
theorem dX11_put_229 : decode cX11_put 229 = .ok (.iadd, 1) := by decide +kernel
theorem dX11_put_230 : decode cX11_put 230 = .ok (.iastore, 1) := by decide +kernel
theorem dX11_put_231 : decode cX11_put 231 = .ok (.aload_n 0, 1) := by decide +kernel
theorem dX11_put_232 : decode cX11_put 232 = .ok (.getfield 7, 3) := by decide +kernel
theorem dX11_put_235 : decode cX11_put 235 = .ok (.bipush 34, 2) := by decide +kernel
theorem dX11_put_237 : decode cX11_put 237 = .ok (.iaload, 1) := by decide +kernel
theorem dX11_put_238 : decode cX11_put 238 = .ok (.iconst 1, 1) := by decide +kernel
theorem dX11_put_239 : decode cX11_put 239 = .ok (.isub, 1) := by decide +kernel
theorem dX11_put_240 : decode cX11_put 240 = .ok (.ireturn, 1) := by decide +kernel
theorem dX11_drop_0 : decode cX11_drop 0 = .ok (.aload_n 0, 1) := by decide +kernel
theorem dX11_drop_1 : decode cX11_drop 1 = .ok (.aload_n 0, 1) := by decide +kernel
theorem dX11_drop_2 : decode cX11_drop 2 = .ok (.iload_n 1, 1) := by decide +kernel
theorem dX11_drop_3 : decode cX11_drop 3 = .ok (.invokevirtual 341, 3) := by decide +kernel
theorem dX11_drop_6 : decode cX11_drop 6 = .ok (.ifCond .eq 7, 3) := by decide +kernel
theorem dX11_drop_9 : decode cX11_drop 9 = .ok (.iconst 0, 1) := by decide +kernel
theorem dX11_drop_10 : decode cX11_drop 10 = .ok (.goto 4, 3) := by decide +kernel
theorem dX11_drop_13 : decode cX11_drop 13 = .ok (.iconst 1, 1) := by decide +kernel
theorem dX11_drop_14 : decode cX11_drop 14 = .ok (.putfield 104, 3) := by decide +kernel
theorem dX11_drop_17 : decode cX11_drop 17 = .ok (.aload_n 0, 1) := by decide +kernel
theorem dX11_drop_18 : decode cX11_drop 18 = .ok (.getfield 104, 3) := by decide +kernel
theorem dX11_drop_21 : decode cX11_drop 21 = .ok (.ifCond .le 4, 3) := by decide +kernel
theorem dX11_drop_24 : decode cX11_drop 24 = .ok (.return_, 1) := by decide +kernel
theorem dX11_drop_25 : decode cX11_drop 25 = .ok (.aload_n 0, 1) := by decide +kernel
theorem dX11_drop_26 : decode cX11_drop 26 = .ok (.invokevirtual 378, 3) := by decide +kernel
theorem dX11_drop_29 : decode cX11_drop 29 = .ok (.aload_n 0, 1) := by decide +kernel
theorem dX11_drop_30 : decode cX11_drop 30 = .ok (.getfield 7, 3) := by decide +kernel
theorem dX11_drop_33 : decode cX11_drop 33 = .ok (.bipush 35, 2) := by decide +kernel
theorem dX11_drop_35 : decode cX11_drop 35 = .ok (.bipush 8, 2) := by decide +kernel
theorem dX11_drop_37 : decode cX11_drop 37 = .ok (.iload_n 1, 1) := by decide +kernel
theorem dX11_drop_38 : decode cX11_drop 38 = .ok (.imul, 1) := by decide +kernel
theorem dX11_drop_39 : decode cX11_drop 39 = .ok (.iadd, 1) := by decide +kernel
theorem dX11_drop_40 : decode cX11_drop 40 = .ok (.bipush 7, 2) := by decide +kernel
theorem dX11_drop_42 : decode cX11_drop 42 = .ok (.iadd, 1) := by decide +kernel
theorem dX11_drop_43 : decode cX11_drop 43 = .ok (.iconst 0, 1) := by decide +kernel
theorem dX11_drop_44 : decode cX11_drop 44 = .ok (.iastore, 1) := by decide +kernel
theorem dX11_drop_45 : decode cX11_drop 45 = .ok (.return_, 1) := by decide +kernel
theorem dX11_price_0 : decode cX11_price 0 = .ok (.aload_n 0, 1) := by decide +kernel
theorem dX11_price_1 : decode cX11_price 1 = .ok (.aload_n 0, 1) := by decide +kernel
theorem dX11_price_2 : decode cX11_price 2 = .ok (.iload_n 1, 1) := by decide +kernel
theorem dX11_price_3 : decode cX11_price 3 = .ok (.invokevirtual 341, 3) := by decide +kernel
theorem dX11_price_6 : decode cX11_price 6 = .ok (.ifCond .ne 7, 3) := by decide +kernel
theorem dX11_price_9 : decode cX11_price 9 = .ok (.iconst 1, 1) := by decide +kernel
theorem dX11_price_10 : decode cX11_price 10 = .ok (.goto 20, 3) := by decide +kernel
theorem dX11_price_13 : decode cX11_price 13 = .ok (.iload_n 2, 1) := by decide +kernel
theorem dX11_price_14 : decode cX11_price 14 = .ok (.i2l, 1) := by decide +kernel
theorem dX11_price_15 : decode cX11_price 15 = .ok (.lconst 1, 1) := by decide +kernel
theorem dX11_price_16 : decode cX11_price 16 = .ok (.ldc2_w 376, 3) := by decide +kernel
theorem dX11_price_19 : decode cX11_price 19 = .ok (.invokestatic 301, 3) := by decide +kernel
theorem dX11_price_22 : decode cX11_price 22 = .ok (.ifCond .eq 7, 3) := by decide +kernel
theorem dX11_price_25 : decode cX11_price 25 = .ok (.iconst 0, 1) := by decide +kernel
theorem dX11_price_26 : decode cX11_price 26 = .ok (.goto 4, 3) := by decide +kernel
theorem dX11_price_29 : decode cX11_price 29 = .ok (.iconst 2, 1) := by decide +kernel
theorem dX11_price_30 : decode cX11_price 30 = .ok (.putfield 104, 3) := by decide +kernel
theorem dX11_price_33 : decode cX11_price 33 = .ok (.aload_n 0, 1) := by decide +kernel
theorem dX11_price_34 : decode cX11_price 34 = .ok (.getfield 104, 3) := by decide +kernel
theorem dX11_price_37 : decode cX11_price 37 = .ok (.ifCond .le 5, 3) := by decide +kernel
theorem dX11_price_40 : decode cX11_price 40 = .ok (.iconst 0, 1) := by decide +kernel
theorem dX11_price_41 : decode cX11_price 41 = .ok (.ireturn, 1) := by decide +kernel
theorem dX11_price_42 : decode cX11_price 42 = .ok (.aload_n 0, 1) := by decide +kernel
theorem dX11_price_43 : decode cX11_price 43 = .ok (.invokevirtual 378, 3) := by decide +kernel
theorem dX11_price_46 : decode cX11_price 46 = .ok (.aload_n 0, 1) := by decide +kernel
theorem dX11_price_47 : decode cX11_price 47 = .ok (.iload_n 1, 1) := by decide +kernel
theorem dX11_price_48 : decode cX11_price 48 = .ok (.bipush 6, 2) := by decide +kernel
theorem dX11_price_50 : decode cX11_price 50 = .ok (.invokevirtual 305, 3) := by decide +kernel
theorem dX11_price_53 : decode cX11_price 53 = .ok (.istore_n 3, 1) := by decide +kernel
theorem dX11_price_54 : decode cX11_price 54 = .ok (.aload_n 0, 1) := by decide +kernel
theorem dX11_price_55 : decode cX11_price 55 = .ok (.getfield 7, 3) := by decide +kernel
theorem dX11_price_58 : decode cX11_price 58 = .ok (.bipush 35, 2) := by decide +kernel
theorem dX11_price_60 : decode cX11_price 60 = .ok (.bipush 8, 2) := by decide +kernel
theorem dX11_price_62 : decode cX11_price 62 = .ok (.iload_n 1, 1) := by decide +kernel
theorem dX11_price_63 : decode cX11_price 63 = .ok (.imul, 1) := by decide +kernel
theorem dX11_price_64 : decode cX11_price 64 = .ok (.iadd, 1) := by decide +kernel
theorem dX11_price_65 : decode cX11_price 65 = .ok (.bipush 6, 2) := by decide +kernel
theorem dX11_price_67 : decode cX11_price 67 = .ok (.iadd, 1) := by decide +kernel
theorem dX11_price_68 : decode cX11_price 68 = .ok (.iload_n 2, 1) := by decide +kernel
theorem dX11_price_69 : decode cX11_price 69 = .ok (.iastore, 1) := by decide +kernel
theorem dX11_price_70 : decode cX11_price 70 = .ok (.iload_n 3, 1) := by decide +kernel
theorem dX11_price_71 : decode cX11_price 71 = .ok (.ireturn, 1) := by decide +kernel
