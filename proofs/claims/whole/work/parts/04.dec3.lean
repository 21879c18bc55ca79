theorem dX11_in_0 : decode cX11_in 0 = .ok (.iload_n 0, 1) := by decide +kernel
theorem dX11_in_1 : decode cX11_in 1 = .ok (.iload_n 1, 1) := by decide +kernel
theorem dX11_in_2 : decode cX11_in 2 = .ok (.if_icmp .lt 12, 3) := by decide +kernel
theorem dX11_in_5 : decode cX11_in 5 = .ok (.iload_n 0, 1) := by decide +kernel
theorem dX11_in_6 : decode cX11_in 6 = .ok (.iload_n 2, 1) := by decide +kernel
theorem dX11_in_7 : decode cX11_in 7 = .ok (.if_icmp .gt 7, 3) := by decide +kernel
theorem dX11_in_10 : decode cX11_in 10 = .ok (.iconst 1, 1) := by decide +kernel
theorem dX11_in_11 : decode cX11_in 11 = .ok (.goto 4, 3) := by decide +kernel
theorem dX11_in_14 : decode cX11_in 14 = .ok (.iconst 0, 1) := by decide +kernel
theorem dX11_in_15 : decode cX11_in 15 = .ok (.ireturn, 1) := by decide +kernel
theorem dX11_has_0 : decode cX11_has 0 = .ok (.iload_n 0, 1) := by decide +kernel
theorem dX11_has_1 : decode cX11_has 1 = .ok (.iload_n 1, 1) := by decide +kernel
theorem dX11_has_2 : decode cX11_has 2 = .ok (.ishr, 1) := by decide +kernel
theorem dX11_has_3 : decode cX11_has 3 = .ok (.iconst 1, 1) := by decide +kernel
theorem dX11_has_4 : decode cX11_has 4 = .ok (.iand, 1) := by decide +kernel
theorem dX11_has_5 : decode cX11_has 5 = .ok (.iconst 1, 1) := by decide +kernel
theorem dX11_has_6 : decode cX11_has 6 = .ok (.if_icmp .ne 7, 3) := by decide +kernel
theorem dX11_has_9 : decode cX11_has 9 = .ok (.iconst 1, 1) := by decide +kernel
theorem dX11_has_10 : decode cX11_has 10 = .ok (.goto 4, 3) := by decide +kernel
theorem dX11_has_13 : decode cX11_has 13 = .ok (.iconst 0, 1) := by decide +kernel
theorem dX11_has_14 : decode cX11_has 14 = .ok (.ireturn, 1) := by decide +kernel
theorem dX11_init_0 : decode cX11_init 0 = .ok (.aload_n 0, 1) := by decide +kernel
theorem dX11_init_1 : decode cX11_init 1 = .ok (.invokespecial 3, 3) := by decide +kernel
theorem dX11_init_4 : decode cX11_init 4 = .ok (.aload_n 0, 1) := by decide +kernel
theorem dX11_init_5 : decode cX11_init 5 = .ok (.sipush 240, 3) := by decide +kernel
theorem dX11_init_8 : decode cX11_init 8 = .ok (.newarray .int, 2) := by decide +kernel
theorem dX11_init_10 : decode cX11_init 10 = .ok (.putfield 9, 3) := by decide +kernel
theorem dX11_init_13 : decode cX11_init 13 = .ok (.aload_n 0, 1) := by decide +kernel
theorem dX11_init_14 : decode cX11_init 14 = .ok (.sipush 2600, 3) := by decide +kernel
theorem dX11_init_17 : decode cX11_init 17 = .ok (.newarray .int, 2) := by decide +kernel
theorem dX11_init_19 : decode cX11_init 19 = .ok (.putfield 13, 3) := by decide +kernel
theorem dX11_init_22 : decode cX11_init 22 = .ok (.aload_n 0, 1) := by decide +kernel
theorem dX11_init_23 : decode cX11_init 23 = .ok (.sipush 2600, 3) := by decide +kernel
theorem dX11_init_26 : decode cX11_init 26 = .ok (.newarray .int, 2) := by decide +kernel
theorem dX11_init_28 : decode cX11_init 28 = .ok (.putfield 16, 3) := by decide +kernel
theorem dX11_init_31 : decode cX11_init 31 = .ok (.aload_n 0, 1) := by decide +kernel
theorem dX11_init_32 : decode cX11_init 32 = .ok (.iconst 5, 1) := by decide +kernel
theorem dX11_init_33 : decode cX11_init 33 = .ok (.newarray .int, 2) := by decide +kernel
theorem dX11_init_35 : decode cX11_init 35 = .ok (.putfield 19, 3) := by decide +kernel
theorem dX11_init_38 : decode cX11_init 38 = .ok (.aload_n 0, 1) := by decide +kernel
theorem dX11_init_39 : decode cX11_init 39 = .ok (.iconst 5, 1) := by decide +kernel
theorem dX11_init_40 : decode cX11_init 40 = .ok (.newarray .int, 2) := by decide +kernel
theorem dX11_init_42 : decode cX11_init 42 = .ok (.putfield 22, 3) := by decide +kernel
theorem dX11_init_45 : decode cX11_init 45 = .ok (.aload_n 0, 1) := by decide +kernel
theorem dX11_init_46 : decode cX11_init 46 = .ok (.sipush 700, 3) := by decide +kernel
theorem dX11_init_49 : decode cX11_init 49 = .ok (.newarray .int, 2) := by decide +kernel
theorem dX11_init_51 : decode cX11_init 51 = .ok (.putfield 25, 3) := by decide +kernel
theorem dX11_init_54 : decode cX11_init 54 = .ok (.aload_n 0, 1) := by decide +kernel
theorem dX11_init_55 : decode cX11_init 55 = .ok (.sipush 700, 3) := by decide +kernel
theorem dX11_init_58 : decode cX11_init 58 = .ok (.newarray .int, 2) := by decide +kernel
theorem dX11_init_60 : decode cX11_init 60 = .ok (.putfield 28, 3) := by decide +kernel
theorem dX11_init_63 : decode cX11_init 63 = .ok (.aload_n 0, 1) := by decide +kernel
theorem dX11_init_64 : decode cX11_init 64 = .ok (.sipush 700, 3) := by decide +kernel
theorem dX11_init_67 : decode cX11_init 67 = .ok (.newarray .int, 2) := by decide +kernel
theorem dX11_init_69 : decode cX11_init 69 = .ok (.putfield 31, 3) := by decide +kernel
theorem dX11_init_72 : decode cX11_init 72 = .ok (.aload_n 0, 1) := by decide +kernel
theorem dX11_init_73 : decode cX11_init 73 = .ok (.bipush 6, 2) := by decide +kernel
theorem dX11_init_75 : decode cX11_init 75 = .ok (.newarray .int, 2) := by decide +kernel
theorem dX11_init_77 : decode cX11_init 77 = .ok (.putfield 34, 3) := by decide +kernel
theorem dX11_init_80 : decode cX11_init 80 = .ok (.aload_n 0, 1) := by decide +kernel
theorem dX11_init_81 : decode cX11_init 81 = .ok (.bipush 80, 2) := by decide +kernel
theorem dX11_init_83 : decode cX11_init 83 = .ok (.newarray .int, 2) := by decide +kernel
theorem dX11_init_85 : decode cX11_init 85 = .ok (.putfield 37, 3) := by decide +kernel
theorem dX11_init_88 : decode cX11_init 88 = .ok (.aload_n 0, 1) := by decide +kernel
theorem dX11_init_89 : decode cX11_init 89 = .ok (.iconst 4, 1) := by decide +kernel
theorem dX11_init_90 : decode cX11_init 90 = .ok (.newarray .int, 2) := by decide +kernel
theorem dX11_init_92 : decode cX11_init 92 = .ok (.putfield 40, 3) := by decide +kernel
theorem dX11_init_95 : decode cX11_init 95 = .ok (.aload_n 0, 1) := by decide +kernel
theorem dX11_init_96 : decode cX11_init 96 = .ok (.bipush 40, 2) := by decide +kernel
theorem dX11_init_98 : decode cX11_init 98 = .ok (.newarray .int, 2) := by decide +kernel
theorem dX11_init_100 : decode cX11_init 100 = .ok (.putfield 43, 3) := by decide +kernel
theorem dX11_init_103 : decode cX11_init 103 = .ok (.aload_n 0, 1) := by decide +kernel
theorem dX11_init_104 : decode cX11_init 104 = .ok (.bipush 15, 2) := by decide +kernel
theorem dX11_init_106 : decode cX11_init 106 = .ok (.newarray .int, 2) := by decide +kernel
theorem dX11_init_108 : decode cX11_init 108 = .ok (.putfield 46, 3) := by decide +kernel
theorem dX11_init_111 : decode cX11_init 111 = .ok (.aload_n 0, 1) := by decide +kernel
theorem dX11_init_112 : decode cX11_init 112 = .ok (.iconst 4, 1) := by decide +kernel
theorem dX11_init_113 : decode cX11_init 113 = .ok (.newarray .int, 2) := by decide +kernel
theorem dX11_init_115 : decode cX11_init 115 = .ok (.putfield 49, 3) := by decide +kernel
theorem dX11_init_118 : decode cX11_init 118 = .ok (.aload_n 0, 1) := by decide +kernel
theorem dX11_init_119 : decode cX11_init 119 = .ok (.bipush 40, 2) := by decide +kernel
theorem dX11_init_121 : decode cX11_init 121 = .ok (.newarray .int, 2) := by decide +kernel
theorem dX11_init_123 : decode cX11_init 123 = .ok (.putfield 52, 3) := by decide +kernel
theorem dX11_init_126 : decode cX11_init 126 = .ok (.aload_n 0, 1) := by decide +kernel
theorem dX11_init_127 : decode cX11_init 127 = .ok (.bipush 15, 2) := by decide +kernel
theorem dX11_init_129 : decode cX11_init 129 = .ok (.newarray .int, 2) := by decide +kernel
theorem dX11_init_131 : decode cX11_init 131 = .ok (.putfield 55, 3) := by decide +kernel
theorem dX11_init_134 : decode cX11_init 134 = .ok (.aload_n 0, 1) := by decide +kernel
theorem dX11_init_135 : decode cX11_init 135 = .ok (.sipush 284, 3) := by decide +kernel
theorem dX11_init_138 : decode cX11_init 138 = .ok (.newarray .int, 2) := by decide +kernel
theorem dX11_init_140 : decode cX11_init 140 = .ok (.putfield 58, 3) := by decide +kernel
theorem dX11_init_143 : decode cX11_init 143 = .ok (.aload_n 0, 1) := by decide +kernel
theorem dX11_init_144 : decode cX11_init 144 = .ok (.iconst 5, 1) := by decide +kernel
theorem dX11_init_145 : decode cX11_init 145 = .ok (.newarray .int, 2) := by decide +kernel
theorem dX11_init_147 : decode cX11_init 147 = .ok (.putfield 61, 3) := by decide +kernel
theorem dX11_init_150 : decode cX11_init 150 = .ok (.aload_n 0, 1) := by decide +kernel
theorem dX11_init_151 : decode cX11_init 151 = .ok (.iconst (-1), 1) := by decide +kernel
theorem dX11_init_152 : decode cX11_init 152 = .ok (.putfield 64, 3) := by decide +kernel
theorem dX11_init_155 : decode cX11_init 155 = .ok (.aload_n 0, 1) := by decide +kernel
theorem dX11_init_156 : decode cX11_init 156 = .ok (.bipush 8, 2) := by decide +kernel
theorem dX11_init_158 : decode cX11_init 158 = .ok (.newarray .int, 2) := by decide +kernel
theorem dX11_init_160 : decode cX11_init 160 = .ok (.putfield 68, 3) := by decide +kernel
theorem dX11_init_163 : decode cX11_init 163 = .ok (.aload_n 0, 1) := by decide +kernel
theorem dX11_init_164 : decode cX11_init 164 = .ok (.sipush 11360, 3) := by decide +kernel
theorem dX11_init_167 : decode cX11_init 167 = .ok (.newarray .int, 2) := by decide +kernel
theorem dX11_init_169 : decode cX11_init 169 = .ok (.putfield 71, 3) := by decide +kernel
theorem dX11_init_172 : decode cX11_init 172 = .ok (.aload_n 0, 1) := by decide +kernel
theorem dX11_init_173 : decode cX11_init 173 = .ok (.bipush 43, 2) := by decide +kernel
theorem dX11_init_175 : decode cX11_init 175 = .ok (.newarray .int, 2) := by decide +kernel
theorem dX11_init_177 : decode cX11_init 177 = .ok (.putfield 74, 3) := by decide +kernel
theorem dX11_init_180 : decode cX11_init 180 = .ok (.aload_n 0, 1) := by decide +kernel
theorem dX11_init_181 : decode cX11_init 181 = .ok (.iconst 3, 1) := by decide +kernel
theorem dX11_init_182 : decode cX11_init 182 = .ok (.newarray .int, 2) := by decide +kernel
theorem dX11_init_184 : decode cX11_init 184 = .ok (.putfield 77, 3) := by decide +kernel
theorem dX11_init_187 : decode cX11_init 187 = .ok (.aload_n 0, 1) := by decide +kernel
theorem dX11_init_188 : decode cX11_init 188 = .ok (.bipush 19, 2) := by decide +kernel
theorem dX11_init_190 : decode cX11_init 190 = .ok (.newarray .int, 2) := by decide +kernel
theorem dX11_init_192 : decode cX11_init 192 = .ok (.putfield 80, 3) := by decide +kernel
theorem dX11_init_195 : decode cX11_init 195 = .ok (.aload_n 0, 1) := by decide +kernel
theorem dX11_init_196 : decode cX11_init 196 = .ok (.bipush 19, 2) := by decide +kernel
theorem dX11_init_198 : decode cX11_init 198 = .ok (.newarray .int, 2) := by decide +kernel
theorem dX11_init_200 : decode cX11_init 200 = .ok (.putfield 83, 3) := by decide +kernel
theorem dX11_init_203 : decode cX11_init 203 = .ok (.aload_n 0, 1) := by decide +kernel
theorem dX11_init_204 : decode cX11_init 204 = .ok (.bipush 10, 2) := by decide +kernel
theorem dX11_init_206 : decode cX11_init 206 = .ok (.newarray .int, 2) := by decide +kernel
theorem dX11_init_208 : decode cX11_init 208 = .ok (.putfield 86, 3) := by decide +kernel
theorem dX11_init_211 : decode cX11_init 211 = .ok (.aload_n 0, 1) := by decide +kernel
theorem dX11_init_212 : decode cX11_init 212 = .ok (.bipush 10, 2) := by decide +kernel
theorem dX11_init_214 : decode cX11_init 214 = .ok (.newarray .int, 2) := by decide +kernel
theorem dX11_init_216 : decode cX11_init 216 = .ok (.putfield 89, 3) := by decide +kernel
theorem dX11_init_219 : decode cX11_init 219 = .ok (.aload_n 0, 1) := by decide +kernel
theorem dX11_init_220 : decode cX11_init 220 = .ok (.bipush 10, 2) := by decide +kernel
theorem dX11_init_222 : decode cX11_init 222 = .ok (.newarray .boolean, 2) := by decide +kernel
theorem dX11_init_224 : decode cX11_init 224 = .ok (.putfield 92, 3) := by decide +kernel
theorem dX11_init_227 : decode cX11_init 227 = .ok (.aload_n 0, 1) := by decide +kernel
theorem dX11_init_228 : decode cX11_init 228 = .ok (.sipush 410, 3) := by decide +kernel
theorem dX11_init_231 : decode cX11_init 231 = .ok (.newarray .int, 2) := by decide +kernel
theorem dX11_init_233 : decode cX11_init 233 = .ok (.putfield 96, 3) := by decide +kernel
theorem dX11_init_236 : decode cX11_init 236 = .ok (.aload_n 0, 1) := by decide +kernel
theorem dX11_init_237 : decode cX11_init 237 = .ok (.bipush 31, 2) := by decide +kernel
theorem dX11_init_239 : decode cX11_init 239 = .ok (.newarray .long, 2) := by decide +kernel
theorem dX11_init_241 : decode cX11_init 241 = .ok (.putfield 99, 3) := by decide +kernel
theorem dX11_init_244 : decode cX11_init 244 = .ok (.aload_n 0, 1) := by decide +kernel
theorem dX11_init_245 : decode cX11_init 245 = .ok (.sipush 284, 3) := by decide +kernel
theorem dX11_init_248 : decode cX11_init 248 = .ok (.newarray .int, 2) := by decide +kernel
theorem dX11_init_250 : decode cX11_init 250 = .ok (.putfield 103, 3) := by decide +kernel
theorem dX11_init_253 : decode cX11_init 253 = .ok (.return_, 1) := by decide +kernel
theorem dX11_thrown_0 : decode cX11_thrown 0 = .ok (.aload_n 0, 1) := by decide +kernel
theorem dX11_thrown_1 : decode cX11_thrown 1 = .ok (.getfield 106, 3) := by decide +kernel
theorem dX11_thrown_4 : decode cX11_thrown 4 = .ok (.ireturn, 1) := by decide +kernel
theorem dX11_byteOf_0 : decode cX11_byteOf 0 = .ok (.iload 5, 2) := by decide +kernel
theorem dX11_byteOf_2 : decode cX11_byteOf 2 = .ok (.iconst 4, 1) := by decide +kernel
theorem dX11_byteOf_3 : decode cX11_byteOf 3 = .ok (.if_icmp .ge 7, 3) := by decide +kernel
theorem dX11_byteOf_6 : decode cX11_byteOf 6 = .ok (.iload_n 0, 1) := by decide +kernel
theorem dX11_byteOf_7 : decode cX11_byteOf 7 = .ok (.goto 38, 3) := by decide +kernel
theorem dX11_byteOf_10 : decode cX11_byteOf 10 = .ok (.iload 5, 2) := by decide +kernel
theorem dX11_byteOf_12 : decode cX11_byteOf 12 = .ok (.bipush 8, 2) := by decide +kernel
theorem dX11_byteOf_14 : decode cX11_byteOf 14 = .ok (.if_icmp .ge 7, 3) := by decide +kernel
theorem dX11_byteOf_17 : decode cX11_byteOf 17 = .ok (.iload_n 1, 1) := by decide +kernel
theorem dX11_byteOf_18 : decode cX11_byteOf 18 = .ok (.goto 27, 3) := by decide +kernel
theorem dX11_byteOf_21 : decode cX11_byteOf 21 = .ok (.iload 5, 2) := by decide +kernel
theorem dX11_byteOf_23 : decode cX11_byteOf 23 = .ok (.bipush 12, 2) := by decide +kernel
theorem dX11_byteOf_25 : decode cX11_byteOf 25 = .ok (.if_icmp .ge 7, 3) := by decide +kernel
theorem dX11_byteOf_28 : decode cX11_byteOf 28 = .ok (.iload_n 2, 1) := by decide +kernel
theorem dX11_byteOf_29 : decode cX11_byteOf 29 = .ok (.goto 16, 3) := by decide +kernel
theorem dX11_byteOf_32 : decode cX11_byteOf 32 = .ok (.iload 5, 2) := by decide +kernel
theorem dX11_byteOf_34 : decode cX11_byteOf 34 = .ok (.bipush 16, 2) := by decide +kernel
theorem dX11_byteOf_36 : decode cX11_byteOf 36 = .ok (.if_icmp .ge 7, 3) := by decide +kernel
theorem dX11_byteOf_39 : decode cX11_byteOf 39 = .ok (.iload_n 3, 1) := by decide +kernel
theorem dX11_byteOf_40 : decode cX11_byteOf 40 = .ok (.goto 5, 3) := by decide +kernel
theorem dX11_byteOf_43 : decode cX11_byteOf 43 = .ok (.iload 4, 2) := by decide +kernel
theorem dX11_byteOf_45 : decode cX11_byteOf 45 = .ok (.istore 6, 2) := by decide +kernel
theorem dX11_byteOf_47 : decode cX11_byteOf 47 = .ok (.iload 6, 2) := by decide +kernel
theorem dX11_byteOf_49 : decode cX11_byteOf 49 = .ok (.bipush 24, 2) := by decide +kernel
theorem dX11_byteOf_51 : decode cX11_byteOf 51 = .ok (.bipush 8, 2) := by decide +kernel
theorem dX11_byteOf_53 : decode cX11_byteOf 53 = .ok (.iload 5, 2) := by decide +kernel
theorem dX11_byteOf_55 : decode cX11_byteOf 55 = .ok (.iconst 4, 1) := by decide +kernel
theorem dX11_byteOf_56 : decode cX11_byteOf 56 = .ok (.irem, 1) := by decide +kernel
theorem dX11_byteOf_57 : decode cX11_byteOf 57 = .ok (.imul, 1) := by decide +kernel
theorem dX11_byteOf_58 : decode cX11_byteOf 58 = .ok (.isub, 1) := by decide +kernel
theorem dX11_byteOf_59 : decode cX11_byteOf 59 = .ok (.ishr, 1) := by decide +kernel
theorem dX11_byteOf_60 : decode cX11_byteOf 60 = .ok (.sipush 255, 3) := by decide +kernel
theorem dX11_byteOf_63 : decode cX11_byteOf 63 = .ok (.iand, 1) := by decide +kernel
theorem dX11_byteOf_64 : decode cX11_byteOf 64 = .ok (.ireturn, 1) := by decide +kernel
theorem dX11_feed_0 : decode cX11_feed 0 = .ok (.iconst 0, 1) := by decide +kernel
theorem dX11_feed_1 : decode cX11_feed 1 = .ok (.istore 6, 2) := by decide +kernel
theorem dX11_feed_3 : decode cX11_feed 3 = .ok (.iconst 0, 1) := by decide +kernel
theorem dX11_feed_4 : decode cX11_feed 4 = .ok (.istore 7, 2) := by decide +kernel
theorem dX11_feed_6 : decode cX11_feed 6 = .ok (.iload 7, 2) := by decide +kernel
theorem dX11_feed_8 : decode cX11_feed 8 = .ok (.bipush 20, 2) := by decide +kernel
theorem dX11_feed_10 : decode cX11_feed 10 = .ok (.if_icmp .ge 34, 3) := by decide +kernel
theorem dX11_feed_13 : decode cX11_feed 13 = .ok (.iload 6, 2) := by decide +kernel
theorem dX11_feed_15 : decode cX11_feed 15 = .ok (.iload_n 1, 1) := by decide +kernel
theorem dX11_feed_16 : decode cX11_feed 16 = .ok (.iload_n 2, 1) := by decide +kernel
theorem dX11_feed_17 : decode cX11_feed 17 = .ok (.iload_n 3, 1) := by decide +kernel
theorem dX11_feed_18 : decode cX11_feed 18 = .ok (.iload 4, 2) := by decide +kernel
theorem dX11_feed_20 : decode cX11_feed 20 = .ok (.iload 5, 2) := by decide +kernel
theorem dX11_feed_22 : decode cX11_feed 22 = .ok (.iload 7, 2) := by decide +kernel
theorem dX11_feed_24 : decode cX11_feed 24 = .ok (.invokestatic 109, 3) := by decide +kernel
theorem dX11_feed_27 : decode cX11_feed 27 = .ok (.ifCond .eq 7, 3) := by decide +kernel
theorem dX11_feed_30 : decode cX11_feed 30 = .ok (.iconst 1, 1) := by decide +kernel
theorem dX11_feed_31 : decode cX11_feed 31 = .ok (.goto 4, 3) := by decide +kernel
theorem dX11_feed_34 : decode cX11_feed 34 = .ok (.iconst 0, 1) := by decide +kernel
theorem dX11_feed_35 : decode cX11_feed 35 = .ok (.iadd, 1) := by decide +kernel
theorem dX11_feed_36 : decode cX11_feed 36 = .ok (.istore 6, 2) := by decide +kernel
theorem dX11_feed_38 : decode cX11_feed 38 = .ok (.iinc 7 1, 3) := by decide +kernel
theorem dX11_feed_41 : decode cX11_feed 41 = .ok (.goto (-35), 3) := by decide +kernel
theorem dX11_feed_44 : decode cX11_feed 44 = .ok (.aload_n 0, 1) := by decide +kernel
theorem dX11_feed_45 : decode cX11_feed 45 = .ok (.getfield 113, 3) := by decide +kernel
theorem dX11_feed_48 : decode cX11_feed 48 = .ok (.iload 6, 2) := by decide +kernel
theorem dX11_feed_50 : decode cX11_feed 50 = .ok (.iadd, 1) := by decide +kernel
theorem dX11_feed_51 : decode cX11_feed 51 = .ok (.sipush 240, 3) := by decide +kernel
theorem dX11_feed_54 : decode cX11_feed 54 = .ok (.if_icmp .le 5, 3) := by decide +kernel
theorem dX11_feed_57 : decode cX11_feed 57 = .ok (.iconst (-1), 1) := by decide +kernel
theorem dX11_feed_58 : decode cX11_feed 58 = .ok (.ireturn, 1) := by decide +kernel
theorem dX11_feed_59 : decode cX11_feed 59 = .ok (.iconst 0, 1) := by decide +kernel
theorem dX11_feed_60 : decode cX11_feed 60 = .ok (.istore 7, 2) := by decide +kernel
theorem dX11_feed_62 : decode cX11_feed 62 = .ok (.iload 7, 2) := by decide +kernel
theorem dX11_feed_64 : decode cX11_feed 64 = .ok (.bipush 20, 2) := by decide +kernel
theorem dX11_feed_66 : decode cX11_feed 66 = .ok (.if_icmp .ge 49, 3) := by decide +kernel
theorem dX11_feed_69 : decode cX11_feed 69 = .ok (.iload_n 1, 1) := by decide +kernel
theorem dX11_feed_70 : decode cX11_feed 70 = .ok (.iload_n 2, 1) := by decide +kernel
theorem dX11_feed_71 : decode cX11_feed 71 = .ok (.iload_n 3, 1) := by decide +kernel
theorem dX11_feed_72 : decode cX11_feed 72 = .ok (.iload 4, 2) := by decide +kernel
theorem dX11_feed_74 : decode cX11_feed 74 = .ok (.iload 5, 2) := by decide +kernel
theorem dX11_feed_76 : decode cX11_feed 76 = .ok (.iload 7, 2) := by decide +kernel
theorem dX11_feed_78 : decode cX11_feed 78 = .ok (.invokestatic 109, 3) := by decide +kernel
theorem dX11_feed_81 : decode cX11_feed 81 = .ok (.istore 8, 2) := by decide +kernel
theorem dX11_feed_83 : decode cX11_feed 83 = .ok (.iload 8, 2) := by decide +kernel
theorem dX11_feed_85 : decode cX11_feed 85 = .ok (.ifCond .eq 24, 3) := by decide +kernel
theorem dX11_feed_88 : decode cX11_feed 88 = .ok (.aload_n 0, 1) := by decide +kernel
theorem dX11_feed_89 : decode cX11_feed 89 = .ok (.getfield 9, 3) := by decide +kernel
theorem dX11_feed_92 : decode cX11_feed 92 = .ok (.aload_n 0, 1) := by decide +kernel
theorem dX11_feed_93 : decode cX11_feed 93 = .ok (.getfield 113, 3) := by decide +kernel
theorem dX11_feed_96 : decode cX11_feed 96 = .ok (.iload 8, 2) := by decide +kernel
theorem dX11_feed_98 : decode cX11_feed 98 = .ok (.iastore, 1) := by decide +kernel
theorem dX11_feed_99 : decode cX11_feed 99 = .ok (.aload_n 0, 1) := by decide +kernel
theorem dX11_feed_100 : decode cX11_feed 100 = .ok (.dup, 1) := by decide +kernel
theorem dX11_feed_101 : decode cX11_feed 101 = .ok (.getfield 113, 3) := by decide +kernel
theorem dX11_feed_104 : decode cX11_feed 104 = .ok (.iconst 1, 1) := by decide +kernel
theorem dX11_feed_105 : decode cX11_feed 105 = .ok (.iadd, 1) := by decide +kernel
theorem dX11_feed_106 : decode cX11_feed 106 = .ok (.putfield 113, 3) := by decide +kernel
theorem dX11_feed_109 : decode cX11_feed 109 = .ok (.iinc 7 1, 3) := by decide +kernel
theorem dX11_feed_112 : decode cX11_feed 112 = .ok (.goto (-50), 3) := by decide +kernel
theorem dX11_feed_115 : decode cX11_feed 115 = .ok (.aload_n 0, 1) := by decide +kernel
theorem dX11_feed_116 : decode cX11_feed 116 = .ok (.getfield 113, 3) := by decide +kernel
theorem dX11_feed_119 : decode cX11_feed 119 = .ok (.ireturn, 1) := by decide +kernel
theorem dX11_end_0 : decode cX11_end 0 = .ok (.iload_n 1, 1) := by decide +kernel
theorem dX11_end_1 : decode cX11_end 1 = .ok (.ifCond .lt 11, 3) := by decide +kernel
theorem dX11_end_4 : decode cX11_end 4 = .ok (.iload_n 1, 1) := by decide +kernel
theorem dX11_end_5 : decode cX11_end 5 = .ok (.aload_n 0, 1) := by decide +kernel
theorem dX11_end_6 : decode cX11_end 6 = .ok (.getfield 113, 3) := by decide +kernel
theorem dX11_end_9 : decode cX11_end 9 = .ok (.if_icmp .le 5, 3) := by decide +kernel
theorem dX11_end_12 : decode cX11_end 12 = .ok (.iconst 0, 1) := by decide +kernel
theorem dX11_end_13 : decode cX11_end 13 = .ok (.ireturn, 1) := by decide +kernel
theorem dX11_end_14 : decode cX11_end 14 = .ok (.aload_n 0, 1) := by decide +kernel
theorem dX11_end_15 : decode cX11_end 15 = .ok (.iload_n 1, 1) := by decide +kernel
theorem dX11_end_16 : decode cX11_end 16 = .ok (.putfield 113, 3) := by decide +kernel
theorem dX11_end_19 : decode cX11_end 19 = .ok (.iconst 1, 1) := by decide +kernel
theorem dX11_end_20 : decode cX11_end 20 = .ok (.ireturn, 1) := by decide +kernel
theorem dX11_here_0 : decode cX11_here 0 = .ok (.aload_n 0, 1) := by decide +kernel
theorem dX11_here_1 : decode cX11_here 1 = .ok (.getfield 116, 3) := by decide +kernel
theorem dX11_here_4 : decode cX11_here 4 = .ok (.aload_n 0, 1) := by decide +kernel
theorem dX11_here_5 : decode cX11_here 5 = .ok (.getfield 113, 3) := by decide +kernel
theorem dX11_here_8 : decode cX11_here 8 = .ok (.if_icmp .ge 15, 3) := by decide +kernel
theorem dX11_here_11 : decode cX11_here 11 = .ok (.aload_n 0, 1) := by decide +kernel
theorem dX11_here_12 : decode cX11_here 12 = .ok (.getfield 9, 3) := by decide +kernel
theorem dX11_here_15 : decode cX11_here 15 = .ok (.aload_n 0, 1) := by decide +kernel
theorem dX11_here_16 : decode cX11_here 16 = .ok (.getfield 116, 3) := by decide +kernel
theorem dX11_here_19 : decode cX11_here 19 = .ok (.iaload, 1) := by decide +kernel
theorem dX11_here_20 : decode cX11_here 20 = .ok (.goto 4, 3) := by decide +kernel
theorem dX11_here_23 : decode cX11_here 23 = .ok (.iconst (-1), 1) := by decide +kernel
theorem dX11_here_24 : decode cX11_here 24 = .ok (.ireturn, 1) := by decide +kernel
theorem dX11_look_0 : decode cX11_look 0 = .ok (.aload_n 0, 1) := by decide +kernel
theorem dX11_look_1 : decode cX11_look 1 = .ok (.invokevirtual 119, 3) := by decide +kernel
theorem dX11_look_4 : decode cX11_look 4 = .ok (.bipush 32, 2) := by decide +kernel
theorem dX11_look_6 : decode cX11_look 6 = .ok (.if_icmp .ne 16, 3) := by decide +kernel
theorem dX11_look_9 : decode cX11_look 9 = .ok (.aload_n 0, 1) := by decide +kernel
theorem dX11_look_10 : decode cX11_look 10 = .ok (.dup, 1) := by decide +kernel
theorem dX11_look_11 : decode cX11_look 11 = .ok (.getfield 116, 3) := by decide +kernel
theorem dX11_look_14 : decode cX11_look 14 = .ok (.iconst 1, 1) := by decide +kernel
theorem dX11_look_15 : decode cX11_look 15 = .ok (.iadd, 1) := by decide +kernel
theorem dX11_look_16 : decode cX11_look 16 = .ok (.putfield 116, 3) := by decide +kernel
theorem dX11_look_19 : decode cX11_look 19 = .ok (.goto (-19), 3) := by decide +kernel
theorem dX11_look_22 : decode cX11_look 22 = .ok (.aload_n 0, 1) := by decide +kernel
theorem dX11_look_23 : decode cX11_look 23 = .ok (.invokevirtual 119, 3) := by decide +kernel
theorem dX11_look_26 : decode cX11_look 26 = .ok (.ireturn, 1) := by decide +kernel
theorem dX11_bad_0 : decode cX11_bad 0 = .ok (.aload_n 0, 1) := by decide +kernel
theorem dX11_bad_1 : decode cX11_bad 1 = .ok (.aload_n 0, 1) := by decide +kernel
theorem dX11_bad_2 : decode cX11_bad 2 = .ok (.getfield 123, 3) := by decide +kernel
theorem dX11_bad_5 : decode cX11_bad 5 = .ok (.iconst (-1), 1) := by decide +kernel
theorem dX11_bad_6 : decode cX11_bad 6 = .ok (.if_icmp .ne 10, 3) := by decide +kernel
theorem dX11_bad_9 : decode cX11_bad 9 = .ok (.aload_n 0, 1) := by decide +kernel
theorem dX11_bad_10 : decode cX11_bad 10 = .ok (.getfield 116, 3) := by decide +kernel
theorem dX11_bad_13 : decode cX11_bad 13 = .ok (.goto 7, 3) := by decide +kernel
theorem dX11_bad_16 : decode cX11_bad 16 = .ok (.aload_n 0, 1) := by decide +kernel
theorem dX11_bad_17 : decode cX11_bad 17 = .ok (.getfield 123, 3) := by decide +kernel
theorem dX11_bad_20 : decode cX11_bad 20 = .ok (.putfield 123, 3) := by decide +kernel
theorem dX11_bad_23 : decode cX11_bad 23 = .ok (.return_, 1) := by decide +kernel
theorem dX11_isDigit_0 : decode cX11_isDigit 0 = .ok (.iload_n 0, 1) := by decide +kernel
theorem dX11_isDigit_1 : decode cX11_isDigit 1 = .ok (.bipush 48, 2) := by decide +kernel
theorem dX11_isDigit_3 : decode cX11_isDigit 3 = .ok (.if_icmp .lt 13, 3) := by decide +kernel
theorem dX11_isDigit_6 : decode cX11_isDigit 6 = .ok (.iload_n 0, 1) := by decide +kernel
theorem dX11_isDigit_7 : decode cX11_isDigit 7 = .ok (.bipush 57, 2) := by decide +kernel
theorem dX11_isDigit_9 : decode cX11_isDigit 9 = .ok (.if_icmp .gt 7, 3) := by decide +kernel
theorem dX11_isDigit_12 : decode cX11_isDigit 12 = .ok (.iconst 1, 1) := by decide +kernel
theorem dX11_isDigit_13 : decode cX11_isDigit 13 = .ok (.goto 4, 3) := by decide +kernel
theorem dX11_isDigit_16 : decode cX11_isDigit 16 = .ok (.iconst 0, 1) := by decide +kernel
theorem dX11_isDigit_17 : decode cX11_isDigit 17 = .ok (.ireturn, 1) := by decide +kernel
theorem dX11_put_0 : decode cX11_put 0 = .ok (.aload_n 0, 1) := by decide +kernel
theorem dX11_put_1 : decode cX11_put 1 = .ok (.getfield 13, 3) := by decide +kernel
theorem dX11_put_4 : decode cX11_put 4 = .ok (.sipush 520, 3) := by decide +kernel
theorem dX11_put_7 : decode cX11_put 7 = .ok (.aload_n 0, 1) := by decide +kernel
theorem dX11_put_8 : decode cX11_put 8 = .ok (.getfield 126, 3) := by decide +kernel
theorem dX11_put_11 : decode cX11_put 11 = .ok (.imul, 1) := by decide +kernel
theorem dX11_put_12 : decode cX11_put 12 = .ok (.aload_n 0, 1) := by decide +kernel
theorem dX11_put_13 : decode cX11_put 13 = .ok (.getfield 19, 3) := by decide +kernel
theorem dX11_put_16 : decode cX11_put 16 = .ok (.aload_n 0, 1) := by decide +kernel
theorem dX11_put_17 : decode cX11_put 17 = .ok (.getfield 126, 3) := by decide +kernel
theorem dX11_put_20 : decode cX11_put 20 = .ok (.iaload, 1) := by decide +kernel
theorem dX11_put_21 : decode cX11_put 21 = .ok (.iadd, 1) := by decide +kernel
theorem dX11_put_22 : decode cX11_put 22 = .ok (.iload_n 1, 1) := by decide +kernel
theorem dX11_put_23 : decode cX11_put 23 = .ok (.iastore, 1) := by decide +kernel
theorem dX11_put_24 : decode cX11_put 24 = .ok (.aload_n 0, 1) := by decide +kernel
theorem dX11_put_25 : decode cX11_put 25 = .ok (.getfield 16, 3) := by decide +kernel
theorem dX11_put_28 : decode cX11_put 28 = .ok (.sipush 520, 3) := by decide +kernel
theorem dX11_put_31 : decode cX11_put 31 = .ok (.aload_n 0, 1) := by decide +kernel
theorem dX11_put_32 : decode cX11_put 32 = .ok (.getfield 126, 3) := by decide +kernel
theorem dX11_put_35 : decode cX11_put 35 = .ok (.imul, 1) := by decide +kernel
theorem dX11_put_36 : decode cX11_put 36 = .ok (.aload_n 0, 1) := by decide +kernel
theorem dX11_put_37 : decode cX11_put 37 = .ok (.getfield 19, 3) := by decide +kernel
theorem dX11_put_40 : decode cX11_put 40 = .ok (.aload_n 0, 1) := by decide +kernel
theorem dX11_put_41 : decode cX11_put 41 = .ok (.getfield 126, 3) := by decide +kernel
theorem dX11_put_44 : decode cX11_put 44 = .ok (.iaload, 1) := by decide +kernel
theorem dX11_put_45 : decode cX11_put 45 = .ok (.iadd, 1) := by decide +kernel
theorem dX11_put_46 : decode cX11_put 46 = .ok (.iload_n 2, 1) := by decide +kernel
theorem dX11_put_47 : decode cX11_put 47 = .ok (.iastore, 1) := by decide +kernel
theorem dX11_put_48 : decode cX11_put 48 = .ok (.aload_n 0, 1) := by decide +kernel
theorem dX11_put_49 : decode cX11_put 49 = .ok (.getfield 19, 3) := by decide +kernel
theorem dX11_put_52 : decode cX11_put 52 = .ok (.aload_n 0, 1) := by decide +kernel
theorem dX11_put_53 : decode cX11_put 53 = .ok (.getfield 126, 3) := by decide +kernel
theorem dX11_put_56 : decode cX11_put 56 = .ok (.dup2, 1) := by decide +kernel
theorem dX11_put_57 : decode cX11_put 57 = .ok (.iaload, 1) := by decide +kernel
theorem dX11_put_58 : decode cX11_put 58 = .ok (.iconst 1, 1) := by decide +kernel
theorem dX11_put_59 : decode cX11_put 59 = .ok (.iadd, 1) := by decide +kernel
theorem dX11_put_60 : decode cX11_put 60 = .ok (.iastore, 1) := by decide +kernel
theorem dX11_put_61 : decode cX11_put 61 = .ok (.return_, 1) := by decide +kernel
theorem dX11_letterOf_0 : decode cX11_letterOf 0 = .ok (.iload_n 0, 1) := by decide +kernel
theorem dX11_letterOf_1 : decode cX11_letterOf 1 = .ok (.bipush 109, 2) := by decide +kernel
theorem dX11_letterOf_3 : decode cX11_letterOf 3 = .ok (.if_icmp .ne 7, 3) := by decide +kernel
theorem dX11_letterOf_6 : decode cX11_letterOf 6 = .ok (.iconst 0, 1) := by decide +kernel
theorem dX11_letterOf_7 : decode cX11_letterOf 7 = .ok (.goto 54, 3) := by decide +kernel
theorem dX11_letterOf_10 : decode cX11_letterOf 10 = .ok (.iload_n 0, 1) := by decide +kernel
theorem dX11_letterOf_11 : decode cX11_letterOf 11 = .ok (.bipush 102, 2) := by decide +kernel
theorem dX11_letterOf_13 : decode cX11_letterOf 13 = .ok (.if_icmp .ne 7, 3) := by decide +kernel
theorem dX11_letterOf_16 : decode cX11_letterOf 16 = .ok (.iconst 1, 1) := by decide +kernel
theorem dX11_letterOf_17 : decode cX11_letterOf 17 = .ok (.goto 44, 3) := by decide +kernel
theorem dX11_letterOf_20 : decode cX11_letterOf 20 = .ok (.iload_n 0, 1) := by decide +kernel
theorem dX11_letterOf_21 : decode cX11_letterOf 21 = .ok (.bipush 103, 2) := by decide +kernel
theorem dX11_letterOf_23 : decode cX11_letterOf 23 = .ok (.if_icmp .ne 7, 3) := by decide +kernel
theorem dX11_letterOf_26 : decode cX11_letterOf 26 = .ok (.iconst 2, 1) := by decide +kernel
theorem dX11_letterOf_27 : decode cX11_letterOf 27 = .ok (.goto 34, 3) := by decide +kernel
theorem dX11_letterOf_30 : decode cX11_letterOf 30 = .ok (.iload_n 0, 1) := by decide +kernel
theorem dX11_letterOf_31 : decode cX11_letterOf 31 = .ok (.bipush 108, 2) := by decide +kernel
theorem dX11_letterOf_33 : decode cX11_letterOf 33 = .ok (.if_icmp .ne 7, 3) := by decide +kernel
theorem dX11_letterOf_36 : decode cX11_letterOf 36 = .ok (.iconst 3, 1) := by decide +kernel
theorem dX11_letterOf_37 : decode cX11_letterOf 37 = .ok (.goto 24, 3) := by decide +kernel
theorem dX11_letterOf_40 : decode cX11_letterOf 40 = .ok (.iload_n 0, 1) := by decide +kernel
theorem dX11_letterOf_41 : decode cX11_letterOf 41 = .ok (.bipush 100, 2) := by decide +kernel
theorem dX11_letterOf_43 : decode cX11_letterOf 43 = .ok (.if_icmp .ne 7, 3) := by decide +kernel
theorem dX11_letterOf_46 : decode cX11_letterOf 46 = .ok (.iconst 4, 1) := by decide +kernel
theorem dX11_letterOf_47 : decode cX11_letterOf 47 = .ok (.goto 14, 3) := by decide +kernel
theorem dX11_letterOf_50 : decode cX11_letterOf 50 = .ok (.iload_n 0, 1) := by decide +kernel
theorem dX11_letterOf_51 : decode cX11_letterOf 51 = .ok (.bipush 107, 2) := by decide +kernel
theorem dX11_letterOf_53 : decode cX11_letterOf 53 = .ok (.if_icmp .ne 7, 3) := by decide +kernel
theorem dX11_letterOf_56 : decode cX11_letterOf 56 = .ok (.iconst 5, 1) := by decide +kernel
theorem dX11_letterOf_57 : decode cX11_letterOf 57 = .ok (.goto 4, 3) := by decide +kernel
theorem dX11_letterOf_60 : decode cX11_letterOf 60 = .ok (.iconst (-1), 1) := by decide +kernel
theorem dX11_letterOf_61 : decode cX11_letterOf 61 = .ok (.ireturn, 1) := by decide +kernel
theorem dX11_opens_0 : decode cX11_opens 0 = .ok (.aload_n 0, 1) := by decide +kernel
theorem dX11_opens_1 : decode cX11_opens 1 = .ok (.getfield 129, 3) := by decide +kernel
theorem dX11_opens_4 : decode cX11_opens 4 = .ok (.bipush 6, 2) := by decide +kernel
theorem dX11_opens_6 : decode cX11_opens 6 = .ok (.if_icmp .ne 7, 3) := by decide +kernel
theorem dX11_opens_9 : decode cX11_opens 9 = .ok (.aload_n 0, 1) := by decide +kernel
theorem dX11_opens_10 : decode cX11_opens 10 = .ok (.invokevirtual 132, 3) := by decide +kernel
theorem dX11_opens_13 : decode cX11_opens 13 = .ok (.aload_n 0, 1) := by decide +kernel
theorem dX11_opens_14 : decode cX11_opens 14 = .ok (.dup, 1) := by decide +kernel
theorem dX11_opens_15 : decode cX11_opens 15 = .ok (.getfield 129, 3) := by decide +kernel
theorem dX11_opens_18 : decode cX11_opens 18 = .ok (.iconst 1, 1) := by decide +kernel
theorem dX11_opens_19 : decode cX11_opens 19 = .ok (.iadd, 1) := by decide +kernel
theorem dX11_opens_20 : decode cX11_opens 20 = .ok (.putfield 129, 3) := by decide +kernel
theorem dX11_opens_23 : decode cX11_opens 23 = .ok (.aload_n 0, 1) := by decide +kernel
theorem dX11_opens_24 : decode cX11_opens 24 = .ok (.dup, 1) := by decide +kernel
theorem dX11_opens_25 : decode cX11_opens 25 = .ok (.getfield 116, 3) := by decide +kernel
theorem dX11_opens_28 : decode cX11_opens 28 = .ok (.iconst 1, 1) := by decide +kernel
theorem dX11_opens_29 : decode cX11_opens 29 = .ok (.iadd, 1) := by decide +kernel
theorem dX11_opens_30 : decode cX11_opens 30 = .ok (.putfield 116, 3) := by decide +kernel
theorem dX11_opens_33 : decode cX11_opens 33 = .ok (.return_, 1) := by decide +kernel
theorem dX11_closes_0 : decode cX11_closes 0 = .ok (.aload_n 0, 1) := by decide +kernel
theorem dX11_closes_1 : decode cX11_closes 1 = .ok (.getfield 123, 3) := by decide +kernel
theorem dX11_closes_4 : decode cX11_closes 4 = .ok (.iconst (-1), 1) := by decide +kernel
theorem dX11_closes_5 : decode cX11_closes 5 = .ok (.if_icmp .ne 15, 3) := by decide +kernel
theorem dX11_closes_8 : decode cX11_closes 8 = .ok (.aload_n 0, 1) := by decide +kernel
theorem dX11_closes_9 : decode cX11_closes 9 = .ok (.invokevirtual 135, 3) := by decide +kernel
theorem dX11_closes_12 : decode cX11_closes 12 = .ok (.iload_n 1, 1) := by decide +kernel
theorem dX11_closes_13 : decode cX11_closes 13 = .ok (.if_icmp .eq 7, 3) := by decide +kernel
theorem dX11_closes_16 : decode cX11_closes 16 = .ok (.aload_n 0, 1) := by decide +kernel
theorem dX11_closes_17 : decode cX11_closes 17 = .ok (.invokevirtual 132, 3) := by decide +kernel
theorem dX11_closes_20 : decode cX11_closes 20 = .ok (.aload_n 0, 1) := by decide +kernel
theorem dX11_closes_21 : decode cX11_closes 21 = .ok (.dup, 1) := by decide +kernel
theorem dX11_closes_22 : decode cX11_closes 22 = .ok (.getfield 116, 3) := by decide +kernel
theorem dX11_closes_25 : decode cX11_closes 25 = .ok (.iconst 1, 1) := by decide +kernel
theorem dX11_closes_26 : decode cX11_closes 26 = .ok (.iadd, 1) := by decide +kernel
theorem dX11_closes_27 : decode cX11_closes 27 = .ok (.putfield 116, 3) := by decide +kernel
theorem dX11_closes_30 : decode cX11_closes 30 = .ok (.aload_n 0, 1) := by decide +kernel
theorem dX11_closes_31 : decode cX11_closes 31 = .ok (.dup, 1) := by decide +kernel
theorem dX11_closes_32 : decode cX11_closes 32 = .ok (.getfield 129, 3) := by decide +kernel
theorem dX11_closes_35 : decode cX11_closes 35 = .ok (.iconst 1, 1) := by decide +kernel
theorem dX11_closes_36 : decode cX11_closes 36 = .ok (.isub, 1) := by decide +kernel
theorem dX11_closes_37 : decode cX11_closes 37 = .ok (.putfield 129, 3) := by decide +kernel
theorem dX11_closes_40 : decode cX11_closes 40 = .ok (.return_, 1) := by decide +kernel
theorem dX11_plainNumber_0 : decode cX11_plainNumber 0 = .ok (.iconst 0, 1) := by decide +kernel
theorem dX11_plainNumber_1 : decode cX11_plainNumber 1 = .ok (.istore_n 1, 1) := by decide +kernel
theorem dX11_plainNumber_2 : decode cX11_plainNumber 2 = .ok (.iconst 0, 1) := by decide +kernel
theorem dX11_plainNumber_3 : decode cX11_plainNumber 3 = .ok (.istore_n 2, 1) := by decide +kernel
theorem dX11_plainNumber_4 : decode cX11_plainNumber 4 = .ok (.iload_n 2, 1) := by decide +kernel
theorem dX11_plainNumber_5 : decode cX11_plainNumber 5 = .ok (.iconst 4, 1) := by decide +kernel
theorem dX11_plainNumber_6 : decode cX11_plainNumber 6 = .ok (.if_icmp .ge 42, 3) := by decide +kernel
theorem dX11_plainNumber_9 : decode cX11_plainNumber 9 = .ok (.aload_n 0, 1) := by decide +kernel
theorem dX11_plainNumber_10 : decode cX11_plainNumber 10 = .ok (.invokevirtual 119, 3) := by decide +kernel
theorem dX11_plainNumber_13 : decode cX11_plainNumber 13 = .ok (.invokestatic 138, 3) := by decide +kernel
theorem dX11_plainNumber_16 : decode cX11_plainNumber 16 = .ok (.ifCond .eq 32, 3) := by decide +kernel
theorem dX11_plainNumber_19 : decode cX11_plainNumber 19 = .ok (.bipush 10, 2) := by decide +kernel
theorem dX11_plainNumber_21 : decode cX11_plainNumber 21 = .ok (.iload_n 1, 1) := by decide +kernel
theorem dX11_plainNumber_22 : decode cX11_plainNumber 22 = .ok (.imul, 1) := by decide +kernel
theorem dX11_plainNumber_23 : decode cX11_plainNumber 23 = .ok (.aload_n 0, 1) := by decide +kernel
theorem dX11_plainNumber_24 : decode cX11_plainNumber 24 = .ok (.invokevirtual 119, 3) := by decide +kernel
theorem dX11_plainNumber_27 : decode cX11_plainNumber 27 = .ok (.iadd, 1) := by decide +kernel
theorem dX11_plainNumber_28 : decode cX11_plainNumber 28 = .ok (.bipush 48, 2) := by decide +kernel
theorem dX11_plainNumber_30 : decode cX11_plainNumber 30 = .ok (.isub, 1) := by decide +kernel
theorem dX11_plainNumber_31 : decode cX11_plainNumber 31 = .ok (.istore_n 1, 1) := by decide +kernel
theorem dX11_plainNumber_32 : decode cX11_plainNumber 32 = .ok (.aload_n 0, 1) := by decide +kernel
theorem dX11_plainNumber_33 : decode cX11_plainNumber 33 = .ok (.dup, 1) := by decide +kernel
theorem dX11_plainNumber_34 : decode cX11_plainNumber 34 = .ok (.getfield 116, 3) := by decide +kernel
theorem dX11_plainNumber_37 : decode cX11_plainNumber 37 = .ok (.iconst 1, 1) := by decide +kernel
theorem dX11_plainNumber_38 : decode cX11_plainNumber 38 = .ok (.iadd, 1) := by decide +kernel
theorem dX11_plainNumber_39 : decode cX11_plainNumber 39 = .ok (.putfield 116, 3) := by decide +kernel
theorem dX11_plainNumber_42 : decode cX11_plainNumber 42 = .ok (.iinc 2 1, 3) := by decide +kernel
theorem dX11_plainNumber_45 : decode cX11_plainNumber 45 = .ok (.goto (-41), 3) := by decide +kernel
theorem dX11_plainNumber_48 : decode cX11_plainNumber 48 = .ok (.aload_n 0, 1) := by decide +kernel
theorem dX11_plainNumber_49 : decode cX11_plainNumber 49 = .ok (.invokevirtual 119, 3) := by decide +kernel
theorem dX11_plainNumber_52 : decode cX11_plainNumber 52 = .ok (.invokestatic 138, 3) := by decide +kernel
theorem dX11_plainNumber_55 : decode cX11_plainNumber 55 = .ok (.ifCond .eq 7, 3) := by decide +kernel
theorem dX11_plainNumber_58 : decode cX11_plainNumber 58 = .ok (.aload_n 0, 1) := by decide +kernel
theorem dX11_plainNumber_59 : decode cX11_plainNumber 59 = .ok (.invokevirtual 132, 3) := by decide +kernel
theorem dX11_plainNumber_62 : decode cX11_plainNumber 62 = .ok (.iload_n 1, 1) := by decide +kernel
theorem dX11_plainNumber_63 : decode cX11_plainNumber 63 = .ok (.ireturn, 1) := by decide +kernel
theorem dX11_atom_0 : decode cX11_atom 0 = .ok (.aload_n 0, 1) := by decide +kernel
theorem dX11_atom_1 : decode cX11_atom 1 = .ok (.invokevirtual 135, 3) := by decide +kernel
theorem dX11_atom_4 : decode cX11_atom 4 = .ok (.istore_n 1, 1) := by decide +kernel
theorem dX11_atom_5 : decode cX11_atom 5 = .ok (.iload_n 1, 1) := by decide +kernel
theorem dX11_atom_6 : decode cX11_atom 6 = .ok (.invokestatic 138, 3) := by decide +kernel
theorem dX11_atom_9 : decode cX11_atom 9 = .ok (.ifCond .eq 15, 3) := by decide +kernel
theorem dX11_atom_12 : decode cX11_atom 12 = .ok (.aload_n 0, 1) := by decide +kernel
theorem dX11_atom_13 : decode cX11_atom 13 = .ok (.iconst 0, 1) := by decide +kernel
theorem dX11_atom_14 : decode cX11_atom 14 = .ok (.aload_n 0, 1) := by decide +kernel
theorem dX11_atom_15 : decode cX11_atom 15 = .ok (.invokevirtual 142, 3) := by decide +kernel
theorem dX11_atom_18 : decode cX11_atom 18 = .ok (.invokevirtual 145, 3) := by decide +kernel
theorem dX11_atom_21 : decode cX11_atom 21 = .ok (.goto 68, 3) := by decide +kernel
theorem dX11_atom_24 : decode cX11_atom 24 = .ok (.iload_n 1, 1) := by decide +kernel
theorem dX11_atom_25 : decode cX11_atom 25 = .ok (.invokestatic 149, 3) := by decide +kernel
theorem dX11_atom_28 : decode cX11_atom 28 = .ok (.iconst (-1), 1) := by decide +kernel
theorem dX11_atom_29 : decode cX11_atom 29 = .ok (.if_icmp .eq 25, 3) := by decide +kernel
theorem dX11_atom_32 : decode cX11_atom 32 = .ok (.aload_n 0, 1) := by decide +kernel
theorem dX11_atom_33 : decode cX11_atom 33 = .ok (.dup, 1) := by decide +kernel
theorem dX11_atom_34 : decode cX11_atom 34 = .ok (.getfield 116, 3) := by decide +kernel
theorem dX11_atom_37 : decode cX11_atom 37 = .ok (.iconst 1, 1) := by decide +kernel
theorem dX11_atom_38 : decode cX11_atom 38 = .ok (.iadd, 1) := by decide +kernel
theorem dX11_atom_39 : decode cX11_atom 39 = .ok (.putfield 116, 3) := by decide +kernel
theorem dX11_atom_42 : decode cX11_atom 42 = .ok (.aload_n 0, 1) := by decide +kernel
theorem dX11_atom_43 : decode cX11_atom 43 = .ok (.iconst 1, 1) := by decide +kernel
theorem dX11_atom_44 : decode cX11_atom 44 = .ok (.iload_n 1, 1) := by decide +kernel
theorem dX11_atom_45 : decode cX11_atom 45 = .ok (.invokestatic 149, 3) := by decide +kernel
theorem dX11_atom_48 : decode cX11_atom 48 = .ok (.invokevirtual 145, 3) := by decide +kernel
theorem dX11_atom_51 : decode cX11_atom 51 = .ok (.goto 38, 3) := by decide +kernel
theorem dX11_atom_54 : decode cX11_atom 54 = .ok (.iload_n 1, 1) := by decide +kernel
theorem dX11_atom_55 : decode cX11_atom 55 = .ok (.bipush 91, 2) := by decide +kernel
theorem dX11_atom_57 : decode cX11_atom 57 = .ok (.if_icmp .ne 28, 3) := by decide +kernel
theorem dX11_atom_60 : decode cX11_atom 60 = .ok (.aload_n 0, 1) := by decide +kernel
theorem dX11_atom_61 : decode cX11_atom 61 = .ok (.invokevirtual 153, 3) := by decide +kernel
theorem dX11_atom_64 : decode cX11_atom 64 = .ok (.aload_n 0, 1) := by decide +kernel
theorem dX11_atom_65 : decode cX11_atom 65 = .ok (.getfield 123, 3) := by decide +kernel
theorem dX11_atom_68 : decode cX11_atom 68 = .ok (.iconst (-1), 1) := by decide +kernel
theorem dX11_atom_69 : decode cX11_atom 69 = .ok (.if_icmp .ne 20, 3) := by decide +kernel
theorem dX11_atom_72 : decode cX11_atom 72 = .ok (.aload_n 0, 1) := by decide +kernel
theorem dX11_atom_73 : decode cX11_atom 73 = .ok (.invokevirtual 156, 3) := by decide +kernel
theorem dX11_atom_76 : decode cX11_atom 76 = .ok (.aload_n 0, 1) := by decide +kernel
theorem dX11_atom_77 : decode cX11_atom 77 = .ok (.bipush 93, 2) := by decide +kernel
theorem dX11_atom_79 : decode cX11_atom 79 = .ok (.invokevirtual 159, 3) := by decide +kernel
theorem dX11_atom_82 : decode cX11_atom 82 = .ok (.goto 7, 3) := by decide +kernel
theorem dX11_atom_85 : decode cX11_atom 85 = .ok (.aload_n 0, 1) := by decide +kernel
theorem dX11_atom_86 : decode cX11_atom 86 = .ok (.invokevirtual 132, 3) := by decide +kernel
theorem dX11_atom_89 : decode cX11_atom 89 = .ok (.return_, 1) := by decide +kernel
theorem dX11_term_0 : decode cX11_term 0 = .ok (.aload_n 0, 1) := by decide +kernel
theorem dX11_term_1 : decode cX11_term 1 = .ok (.invokevirtual 163, 3) := by decide +kernel
theorem dX11_term_4 : decode cX11_term 4 = .ok (.aload_n 0, 1) := by decide +kernel
theorem dX11_term_5 : decode cX11_term 5 = .ok (.getfield 123, 3) := by decide +kernel
theorem dX11_term_8 : decode cX11_term 8 = .ok (.iconst (-1), 1) := by decide +kernel
theorem dX11_term_9 : decode cX11_term 9 = .ok (.if_icmp .ne 10, 3) := by decide +kernel
theorem dX11_term_12 : decode cX11_term 12 = .ok (.aload_n 0, 1) := by decide +kernel
theorem dX11_term_13 : decode cX11_term 13 = .ok (.invokevirtual 135, 3) := by decide +kernel
theorem dX11_term_16 : decode cX11_term 16 = .ok (.goto 4, 3) := by decide +kernel
theorem dX11_term_19 : decode cX11_term 19 = .ok (.iconst (-1), 1) := by decide +kernel
theorem dX11_term_20 : decode cX11_term 20 = .ok (.istore_n 1, 1) := by decide +kernel
theorem dX11_term_21 : decode cX11_term 21 = .ok (.iload_n 1, 1) := by decide +kernel
theorem dX11_term_22 : decode cX11_term 22 = .ok (.bipush 42, 2) := by decide +kernel
theorem dX11_term_24 : decode cX11_term 24 = .ok (.if_icmp .eq 9, 3) := by decide +kernel
theorem dX11_term_27 : decode cX11_term 27 = .ok (.iload_n 1, 1) := by decide +kernel
theorem dX11_term_28 : decode cX11_term 28 = .ok (.bipush 47, 2) := by decide +kernel
theorem dX11_term_30 : decode cX11_term 30 = .ok (.if_icmp .ne 53, 3) := by decide +kernel
theorem dX11_term_33 : decode cX11_term 33 = .ok (.aload_n 0, 1) := by decide +kernel
theorem dX11_term_34 : decode cX11_term 34 = .ok (.dup, 1) := by decide +kernel
theorem dX11_term_35 : decode cX11_term 35 = .ok (.getfield 116, 3) := by decide +kernel
theorem dX11_term_38 : decode cX11_term 38 = .ok (.iconst 1, 1) := by decide +kernel
theorem dX11_term_39 : decode cX11_term 39 = .ok (.iadd, 1) := by decide +kernel
theorem dX11_term_40 : decode cX11_term 40 = .ok (.putfield 116, 3) := by decide +kernel
theorem dX11_term_43 : decode cX11_term 43 = .ok (.aload_n 0, 1) := by decide +kernel
theorem dX11_term_44 : decode cX11_term 44 = .ok (.invokevirtual 163, 3) := by decide +kernel
theorem dX11_term_47 : decode cX11_term 47 = .ok (.aload_n 0, 1) := by decide +kernel
theorem dX11_term_48 : decode cX11_term 48 = .ok (.iload_n 1, 1) := by decide +kernel
theorem dX11_term_49 : decode cX11_term 49 = .ok (.bipush 42, 2) := by decide +kernel
theorem dX11_term_51 : decode cX11_term 51 = .ok (.if_icmp .ne 7, 3) := by decide +kernel
theorem dX11_term_54 : decode cX11_term 54 = .ok (.iconst 4, 1) := by decide +kernel
theorem dX11_term_55 : decode cX11_term 55 = .ok (.goto 4, 3) := by decide +kernel
theorem dX11_term_58 : decode cX11_term 58 = .ok (.iconst 5, 1) := by decide +kernel
theorem dX11_term_59 : decode cX11_term 59 = .ok (.iconst 0, 1) := by decide +kernel
theorem dX11_term_60 : decode cX11_term 60 = .ok (.invokevirtual 145, 3) := by decide +kernel
theorem dX11_term_63 : decode cX11_term 63 = .ok (.aload_n 0, 1) := by decide +kernel
theorem dX11_term_64 : decode cX11_term 64 = .ok (.getfield 123, 3) := by decide +kernel
theorem dX11_term_67 : decode cX11_term 67 = .ok (.iconst (-1), 1) := by decide +kernel
theorem dX11_term_68 : decode cX11_term 68 = .ok (.if_icmp .ne 10, 3) := by decide +kernel
theorem dX11_term_71 : decode cX11_term 71 = .ok (.aload_n 0, 1) := by decide +kernel
theorem dX11_term_72 : decode cX11_term 72 = .ok (.invokevirtual 135, 3) := by decide +kernel
theorem dX11_term_75 : decode cX11_term 75 = .ok (.goto 4, 3) := by decide +kernel
theorem dX11_term_78 : decode cX11_term 78 = .ok (.iconst (-1), 1) := by decide +kernel
theorem dX11_term_79 : decode cX11_term 79 = .ok (.istore_n 1, 1) := by decide +kernel
theorem dX11_term_80 : decode cX11_term 80 = .ok (.goto (-59), 3) := by decide +kernel
theorem dX11_term_83 : decode cX11_term 83 = .ok (.return_, 1) := by decide +kernel
theorem dX11_sum_0 : decode cX11_sum 0 = .ok (.aload_n 0, 1) := by decide +kernel
theorem dX11_sum_1 : decode cX11_sum 1 = .ok (.invokevirtual 166, 3) := by decide +kernel
theorem dX11_sum_4 : decode cX11_sum 4 = .ok (.aload_n 0, 1) := by decide +kernel
theorem dX11_sum_5 : decode cX11_sum 5 = .ok (.getfield 123, 3) := by decide +kernel
theorem dX11_sum_8 : decode cX11_sum 8 = .ok (.iconst (-1), 1) := by decide +kernel
theorem dX11_sum_9 : decode cX11_sum 9 = .ok (.if_icmp .ne 10, 3) := by decide +kernel
theorem dX11_sum_12 : decode cX11_sum 12 = .ok (.aload_n 0, 1) := by decide +kernel
theorem dX11_sum_13 : decode cX11_sum 13 = .ok (.invokevirtual 135, 3) := by decide +kernel
theorem dX11_sum_16 : decode cX11_sum 16 = .ok (.goto 4, 3) := by decide +kernel
theorem dX11_sum_19 : decode cX11_sum 19 = .ok (.iconst (-1), 1) := by decide +kernel
theorem dX11_sum_20 : decode cX11_sum 20 = .ok (.istore_n 1, 1) := by decide +kernel
theorem dX11_sum_21 : decode cX11_sum 21 = .ok (.iload_n 1, 1) := by decide +kernel
theorem dX11_sum_22 : decode cX11_sum 22 = .ok (.bipush 43, 2) := by decide +kernel
theorem dX11_sum_24 : decode cX11_sum 24 = .ok (.if_icmp .eq 9, 3) := by decide +kernel
theorem dX11_sum_27 : decode cX11_sum 27 = .ok (.iload_n 1, 1) := by decide +kernel
theorem dX11_sum_28 : decode cX11_sum 28 = .ok (.bipush 45, 2) := by decide +kernel
theorem dX11_sum_30 : decode cX11_sum 30 = .ok (.if_icmp .ne 53, 3) := by decide +kernel
theorem dX11_sum_33 : decode cX11_sum 33 = .ok (.aload_n 0, 1) := by decide +kernel
theorem dX11_sum_34 : decode cX11_sum 34 = .ok (.dup, 1) := by decide +kernel
theorem dX11_sum_35 : decode cX11_sum 35 = .ok (.getfield 116, 3) := by decide +kernel
theorem dX11_sum_38 : decode cX11_sum 38 = .ok (.iconst 1, 1) := by decide +kernel
theorem dX11_sum_39 : decode cX11_sum 39 = .ok (.iadd, 1) := by decide +kernel
theorem dX11_sum_40 : decode cX11_sum 40 = .ok (.putfield 116, 3) := by decide +kernel
theorem dX11_sum_43 : decode cX11_sum 43 = .ok (.aload_n 0, 1) := by decide +kernel
theorem dX11_sum_44 : decode cX11_sum 44 = .ok (.invokevirtual 166, 3) := by decide +kernel
theorem dX11_sum_47 : decode cX11_sum 47 = .ok (.aload_n 0, 1) := by decide +kernel
theorem dX11_sum_48 : decode cX11_sum 48 = .ok (.iload_n 1, 1) := by decide +kernel
theorem dX11_sum_49 : decode cX11_sum 49 = .ok (.bipush 43, 2) := by decide +kernel
theorem dX11_sum_51 : decode cX11_sum 51 = .ok (.if_icmp .ne 7, 3) := by decide +kernel
theorem dX11_sum_54 : decode cX11_sum 54 = .ok (.iconst 2, 1) := by decide +kernel
theorem dX11_sum_55 : decode cX11_sum 55 = .ok (.goto 4, 3) := by decide +kernel
theorem dX11_sum_58 : decode cX11_sum 58 = .ok (.iconst 3, 1) := by decide +kernel
theorem dX11_sum_59 : decode cX11_sum 59 = .ok (.iconst 0, 1) := by decide +kernel
theorem dX11_sum_60 : decode cX11_sum 60 = .ok (.invokevirtual 145, 3) := by decide +kernel
theorem dX11_sum_63 : decode cX11_sum 63 = .ok (.aload_n 0, 1) := by decide +kernel
theorem dX11_sum_64 : decode cX11_sum 64 = .ok (.getfield 123, 3) := by decide +kernel
theorem dX11_sum_67 : decode cX11_sum 67 = .ok (.iconst (-1), 1) := by decide +kernel
theorem dX11_sum_68 : decode cX11_sum 68 = .ok (.if_icmp .ne 10, 3) := by decide +kernel
theorem dX11_sum_71 : decode cX11_sum 71 = .ok (.aload_n 0, 1) := by decide +kernel
theorem dX11_sum_72 : decode cX11_sum 72 = .ok (.invokevirtual 135, 3) := by decide +kernel
theorem dX11_sum_75 : decode cX11_sum 75 = .ok (.goto 4, 3) := by decide +kernel
theorem dX11_sum_78 : decode cX11_sum 78 = .ok (.iconst (-1), 1) := by decide +kernel
theorem dX11_sum_79 : decode cX11_sum 79 = .ok (.istore_n 1, 1) := by decide +kernel
theorem dX11_sum_80 : decode cX11_sum 80 = .ok (.goto (-59), 3) := by decide +kernel
theorem dX11_sum_83 : decode cX11_sum 83 = .ok (.return_, 1) := by decide +kernel
theorem dX11_isSign_0 : decode cX11_isSign 0 = .ok (.iload_n 0, 1) := by decide +kernel
theorem dX11_isSign_1 : decode cX11_isSign 1 = .ok (.bipush 61, 2) := by decide +kernel
theorem dX11_isSign_3 : decode cX11_isSign 3 = .ok (.if_icmp .eq 15, 3) := by decide +kernel
theorem dX11_isSign_6 : decode cX11_isSign 6 = .ok (.iload_n 0, 1) := by decide +kernel
theorem dX11_isSign_7 : decode cX11_isSign 7 = .ok (.bipush 60, 2) := by decide +kernel
theorem dX11_isSign_9 : decode cX11_isSign 9 = .ok (.if_icmp .eq 9, 3) := by decide +kernel
theorem dX11_isSign_12 : decode cX11_isSign 12 = .ok (.iload_n 0, 1) := by decide +kernel
theorem dX11_isSign_13 : decode cX11_isSign 13 = .ok (.bipush 62, 2) := by decide +kernel
theorem dX11_isSign_15 : decode cX11_isSign 15 = .ok (.if_icmp .ne 7, 3) := by decide +kernel
theorem dX11_isSign_18 : decode cX11_isSign 18 = .ok (.iconst 1, 1) := by decide +kernel
theorem dX11_isSign_19 : decode cX11_isSign 19 = .ok (.goto 4, 3) := by decide +kernel
theorem dX11_isSign_22 : decode cX11_isSign 22 = .ok (.iconst 0, 1) := by decide +kernel
theorem dX11_isSign_23 : decode cX11_isSign 23 = .ok (.ireturn, 1) := by decide +kernel
theorem dX11_compare_0 : decode cX11_compare 0 = .ok (.aload_n 0, 1) := by decide +kernel
theorem dX11_compare_1 : decode cX11_compare 1 = .ok (.getfield 123, 3) := by decide +kernel
theorem dX11_compare_4 : decode cX11_compare 4 = .ok (.iconst (-1), 1) := by decide +kernel
theorem dX11_compare_5 : decode cX11_compare 5 = .ok (.if_icmp .ne 10, 3) := by decide +kernel
theorem dX11_compare_8 : decode cX11_compare 8 = .ok (.aload_n 0, 1) := by decide +kernel
theorem dX11_compare_9 : decode cX11_compare 9 = .ok (.invokevirtual 135, 3) := by decide +kernel
theorem dX11_compare_12 : decode cX11_compare 12 = .ok (.goto 4, 3) := by decide +kernel
theorem dX11_compare_15 : decode cX11_compare 15 = .ok (.iconst (-1), 1) := by decide +kernel
theorem dX11_compare_16 : decode cX11_compare 16 = .ok (.istore_n 1, 1) := by decide +kernel
theorem dX11_compare_17 : decode cX11_compare 17 = .ok (.iload_n 1, 1) := by decide +kernel
theorem dX11_compare_18 : decode cX11_compare 18 = .ok (.invokestatic 169, 3) := by decide +kernel
theorem dX11_compare_21 : decode cX11_compare 21 = .ok (.ifCond .ne 8, 3) := by decide +kernel
theorem dX11_compare_24 : decode cX11_compare 24 = .ok (.aload_n 0, 1) := by decide +kernel
theorem dX11_compare_25 : decode cX11_compare 25 = .ok (.invokevirtual 132, 3) := by decide +kernel
theorem dX11_compare_28 : decode cX11_compare 28 = .ok (.return_, 1) := by decide +kernel
theorem dX11_compare_29 : decode cX11_compare 29 = .ok (.aload_n 0, 1) := by decide +kernel
theorem dX11_compare_30 : decode cX11_compare 30 = .ok (.dup, 1) := by decide +kernel
theorem dX11_compare_31 : decode cX11_compare 31 = .ok (.getfield 116, 3) := by decide +kernel
theorem dX11_compare_34 : decode cX11_compare 34 = .ok (.iconst 1, 1) := by decide +kernel
theorem dX11_compare_35 : decode cX11_compare 35 = .ok (.iadd, 1) := by decide +kernel
theorem dX11_compare_36 : decode cX11_compare 36 = .ok (.putfield 116, 3) := by decide +kernel
theorem dX11_compare_39 : decode cX11_compare 39 = .ok (.aload_n 0, 1) := by decide +kernel
theorem dX11_compare_40 : decode cX11_compare 40 = .ok (.invokevirtual 156, 3) := by decide +kernel
theorem dX11_compare_43 : decode cX11_compare 43 = .ok (.aload_n 0, 1) := by decide +kernel
theorem dX11_compare_44 : decode cX11_compare 44 = .ok (.iload_n 1, 1) := by decide +kernel
theorem dX11_compare_45 : decode cX11_compare 45 = .ok (.bipush 61, 2) := by decide +kernel
theorem dX11_compare_47 : decode cX11_compare 47 = .ok (.if_icmp .ne 8, 3) := by decide +kernel
theorem dX11_compare_50 : decode cX11_compare 50 = .ok (.bipush 6, 2) := by decide +kernel
theorem dX11_compare_52 : decode cX11_compare 52 = .ok (.goto 16, 3) := by decide +kernel
theorem dX11_compare_55 : decode cX11_compare 55 = .ok (.iload_n 1, 1) := by decide +kernel
theorem dX11_compare_56 : decode cX11_compare 56 = .ok (.bipush 60, 2) := by decide +kernel
theorem dX11_compare_58 : decode cX11_compare 58 = .ok (.if_icmp .ne 8, 3) := by decide +kernel
theorem dX11_compare_61 : decode cX11_compare 61 = .ok (.bipush 7, 2) := by decide +kernel
theorem dX11_compare_63 : decode cX11_compare 63 = .ok (.goto 5, 3) := by decide +kernel
theorem dX11_compare_66 : decode cX11_compare 66 = .ok (.bipush 8, 2) := by decide +kernel
theorem dX11_compare_68 : decode cX11_compare 68 = .ok (.iconst 0, 1) := by decide +kernel
theorem dX11_compare_69 : decode cX11_compare 69 = .ok (.invokevirtual 145, 3) := by decide +kernel
theorem dX11_compare_72 : decode cX11_compare 72 = .ok (.return_, 1) := by decide +kernel
theorem dX11_unit_0 : decode cX11_unit 0 = .ok (.aload_n 0, 1) := by decide +kernel
theorem dX11_unit_1 : decode cX11_unit 1 = .ok (.invokevirtual 135, 3) := by decide +kernel
theorem dX11_unit_4 : decode cX11_unit 4 = .ok (.istore_n 1, 1) := by decide +kernel
theorem dX11_unit_5 : decode cX11_unit 5 = .ok (.iload_n 1, 1) := by decide +kernel
theorem dX11_unit_6 : decode cX11_unit 6 = .ok (.bipush 33, 2) := by decide +kernel
theorem dX11_unit_8 : decode cX11_unit 8 = .ok (.if_icmp .ne 39, 3) := by decide +kernel
theorem dX11_unit_11 : decode cX11_unit 11 = .ok (.aload_n 0, 1) := by decide +kernel
theorem dX11_unit_12 : decode cX11_unit 12 = .ok (.invokevirtual 153, 3) := by decide +kernel
theorem dX11_unit_15 : decode cX11_unit 15 = .ok (.aload_n 0, 1) := by decide +kernel
theorem dX11_unit_16 : decode cX11_unit 16 = .ok (.getfield 123, 3) := by decide +kernel
theorem dX11_unit_19 : decode cX11_unit 19 = .ok (.iconst (-1), 1) := by decide +kernel
theorem dX11_unit_20 : decode cX11_unit 20 = .ok (.if_icmp .ne 74, 3) := by decide +kernel
theorem dX11_unit_23 : decode cX11_unit 23 = .ok (.aload_n 0, 1) := by decide +kernel
theorem dX11_unit_24 : decode cX11_unit 24 = .ok (.invokevirtual 172, 3) := by decide +kernel
theorem dX11_unit_27 : decode cX11_unit 27 = .ok (.aload_n 0, 1) := by decide +kernel
theorem dX11_unit_28 : decode cX11_unit 28 = .ok (.bipush 9, 2) := by decide +kernel
theorem dX11_unit_30 : decode cX11_unit 30 = .ok (.iconst 0, 1) := by decide +kernel
theorem dX11_unit_31 : decode cX11_unit 31 = .ok (.invokevirtual 145, 3) := by decide +kernel
theorem dX11_unit_34 : decode cX11_unit 34 = .ok (.aload_n 0, 1) := by decide +kernel
theorem dX11_unit_35 : decode cX11_unit 35 = .ok (.dup, 1) := by decide +kernel
theorem dX11_unit_36 : decode cX11_unit 36 = .ok (.getfield 129, 3) := by decide +kernel
theorem dX11_unit_39 : decode cX11_unit 39 = .ok (.iconst 1, 1) := by decide +kernel
theorem dX11_unit_40 : decode cX11_unit 40 = .ok (.isub, 1) := by decide +kernel
theorem dX11_unit_41 : decode cX11_unit 41 = .ok (.putfield 129, 3) := by decide +kernel
theorem dX11_unit_44 : decode cX11_unit 44 = .ok (.goto 50, 3) := by decide +kernel
theorem dX11_unit_47 : decode cX11_unit 47 = .ok (.iload_n 1, 1) := by decide +kernel
theorem dX11_unit_48 : decode cX11_unit 48 = .ok (.bipush 40, 2) := by decide +kernel
theorem dX11_unit_50 : decode cX11_unit 50 = .ok (.if_icmp .ne 28, 3) := by decide +kernel
theorem dX11_unit_53 : decode cX11_unit 53 = .ok (.aload_n 0, 1) := by decide +kernel
theorem dX11_unit_54 : decode cX11_unit 54 = .ok (.invokevirtual 153, 3) := by decide +kernel
theorem dX11_unit_57 : decode cX11_unit 57 = .ok (.aload_n 0, 1) := by decide +kernel
theorem dX11_unit_58 : decode cX11_unit 58 = .ok (.getfield 123, 3) := by decide +kernel
theorem dX11_unit_61 : decode cX11_unit 61 = .ok (.iconst (-1), 1) := by decide +kernel
theorem dX11_unit_62 : decode cX11_unit 62 = .ok (.if_icmp .ne 32, 3) := by decide +kernel
theorem dX11_unit_65 : decode cX11_unit 65 = .ok (.aload_n 0, 1) := by decide +kernel
theorem dX11_unit_66 : decode cX11_unit 66 = .ok (.invokevirtual 175, 3) := by decide +kernel
theorem dX11_unit_69 : decode cX11_unit 69 = .ok (.aload_n 0, 1) := by decide +kernel
theorem dX11_unit_70 : decode cX11_unit 70 = .ok (.bipush 41, 2) := by decide +kernel
theorem dX11_unit_72 : decode cX11_unit 72 = .ok (.invokevirtual 159, 3) := by decide +kernel
theorem dX11_unit_75 : decode cX11_unit 75 = .ok (.goto 19, 3) := by decide +kernel
theorem dX11_unit_78 : decode cX11_unit 78 = .ok (.aload_n 0, 1) := by decide +kernel
theorem dX11_unit_79 : decode cX11_unit 79 = .ok (.invokevirtual 156, 3) := by decide +kernel
theorem dX11_unit_82 : decode cX11_unit 82 = .ok (.aload_n 0, 1) := by decide +kernel
theorem dX11_unit_83 : decode cX11_unit 83 = .ok (.getfield 123, 3) := by decide +kernel
theorem dX11_unit_86 : decode cX11_unit 86 = .ok (.iconst (-1), 1) := by decide +kernel
theorem dX11_unit_87 : decode cX11_unit 87 = .ok (.if_icmp .ne 7, 3) := by decide +kernel
theorem dX11_unit_90 : decode cX11_unit 90 = .ok (.aload_n 0, 1) := by decide +kernel
theorem dX11_unit_91 : decode cX11_unit 91 = .ok (.invokevirtual 178, 3) := by decide +kernel
theorem dX11_unit_94 : decode cX11_unit 94 = .ok (.return_, 1) := by decide +kernel
theorem dX11_goOnAnd_0 : decode cX11_goOnAnd 0 = .ok (.aload_n 0, 1) := by decide +kernel
theorem dX11_goOnAnd_1 : decode cX11_goOnAnd 1 = .ok (.getfield 123, 3) := by decide +kernel
theorem dX11_goOnAnd_4 : decode cX11_goOnAnd 4 = .ok (.iconst (-1), 1) := by decide +kernel
theorem dX11_goOnAnd_5 : decode cX11_goOnAnd 5 = .ok (.if_icmp .ne 36, 3) := by decide +kernel
theorem dX11_goOnAnd_8 : decode cX11_goOnAnd 8 = .ok (.aload_n 0, 1) := by decide +kernel
theorem dX11_goOnAnd_9 : decode cX11_goOnAnd 9 = .ok (.invokevirtual 135, 3) := by decide +kernel
theorem dX11_goOnAnd_12 : decode cX11_goOnAnd 12 = .ok (.bipush 38, 2) := by decide +kernel
theorem dX11_goOnAnd_14 : decode cX11_goOnAnd 14 = .ok (.if_icmp .ne 27, 3) := by decide +kernel
theorem dX11_goOnAnd_17 : decode cX11_goOnAnd 17 = .ok (.aload_n 0, 1) := by decide +kernel
theorem dX11_goOnAnd_18 : decode cX11_goOnAnd 18 = .ok (.dup, 1) := by decide +kernel
theorem dX11_goOnAnd_19 : decode cX11_goOnAnd 19 = .ok (.getfield 116, 3) := by decide +kernel
theorem dX11_goOnAnd_22 : decode cX11_goOnAnd 22 = .ok (.iconst 1, 1) := by decide +kernel
theorem dX11_goOnAnd_23 : decode cX11_goOnAnd 23 = .ok (.iadd, 1) := by decide +kernel
theorem dX11_goOnAnd_24 : decode cX11_goOnAnd 24 = .ok (.putfield 116, 3) := by decide +kernel
theorem dX11_goOnAnd_27 : decode cX11_goOnAnd 27 = .ok (.aload_n 0, 1) := by decide +kernel
theorem dX11_goOnAnd_28 : decode cX11_goOnAnd 28 = .ok (.invokevirtual 172, 3) := by decide +kernel
theorem dX11_goOnAnd_31 : decode cX11_goOnAnd 31 = .ok (.aload_n 0, 1) := by decide +kernel
theorem dX11_goOnAnd_32 : decode cX11_goOnAnd 32 = .ok (.bipush 10, 2) := by decide +kernel
theorem dX11_goOnAnd_34 : decode cX11_goOnAnd 34 = .ok (.iconst 0, 1) := by decide +kernel
theorem dX11_goOnAnd_35 : decode cX11_goOnAnd 35 = .ok (.invokevirtual 145, 3) := by decide +kernel
theorem dX11_goOnAnd_38 : decode cX11_goOnAnd 38 = .ok (.goto (-38), 3) := by decide +kernel
theorem dX11_goOnAnd_41 : decode cX11_goOnAnd 41 = .ok (.return_, 1) := by decide +kernel
theorem dX11_goOnOr_0 : decode cX11_goOnOr 0 = .ok (.aload_n 0, 1) := by decide +kernel
theorem dX11_goOnOr_1 : decode cX11_goOnOr 1 = .ok (.getfield 123, 3) := by decide +kernel
theorem dX11_goOnOr_4 : decode cX11_goOnOr 4 = .ok (.iconst (-1), 1) := by decide +kernel
theorem dX11_goOnOr_5 : decode cX11_goOnOr 5 = .ok (.if_icmp .ne 40, 3) := by decide +kernel
theorem dX11_goOnOr_8 : decode cX11_goOnOr 8 = .ok (.aload_n 0, 1) := by decide +kernel
theorem dX11_goOnOr_9 : decode cX11_goOnOr 9 = .ok (.invokevirtual 135, 3) := by decide +kernel
theorem dX11_goOnOr_12 : decode cX11_goOnOr 12 = .ok (.bipush 124, 2) := by decide +kernel
theorem dX11_goOnOr_14 : decode cX11_goOnOr 14 = .ok (.if_icmp .ne 31, 3) := by decide +kernel
theorem dX11_goOnOr_17 : decode cX11_goOnOr 17 = .ok (.aload_n 0, 1) := by decide +kernel
theorem dX11_goOnOr_18 : decode cX11_goOnOr 18 = .ok (.dup, 1) := by decide +kernel
theorem dX11_goOnOr_19 : decode cX11_goOnOr 19 = .ok (.getfield 116, 3) := by decide +kernel
theorem dX11_goOnOr_22 : decode cX11_goOnOr 22 = .ok (.iconst 1, 1) := by decide +kernel
theorem dX11_goOnOr_23 : decode cX11_goOnOr 23 = .ok (.iadd, 1) := by decide +kernel
theorem dX11_goOnOr_24 : decode cX11_goOnOr 24 = .ok (.putfield 116, 3) := by decide +kernel
theorem dX11_goOnOr_27 : decode cX11_goOnOr 27 = .ok (.aload_n 0, 1) := by decide +kernel
theorem dX11_goOnOr_28 : decode cX11_goOnOr 28 = .ok (.invokevirtual 172, 3) := by decide +kernel
theorem dX11_goOnOr_31 : decode cX11_goOnOr 31 = .ok (.aload_n 0, 1) := by decide +kernel
theorem dX11_goOnOr_32 : decode cX11_goOnOr 32 = .ok (.invokevirtual 181, 3) := by decide +kernel
theorem dX11_goOnOr_35 : decode cX11_goOnOr 35 = .ok (.aload_n 0, 1) := by decide +kernel
theorem dX11_goOnOr_36 : decode cX11_goOnOr 36 = .ok (.bipush 11, 2) := by decide +kernel
theorem dX11_goOnOr_38 : decode cX11_goOnOr 38 = .ok (.iconst 0, 1) := by decide +kernel
theorem dX11_goOnOr_39 : decode cX11_goOnOr 39 = .ok (.invokevirtual 145, 3) := by decide +kernel
theorem dX11_goOnOr_42 : decode cX11_goOnOr 42 = .ok (.goto (-42), 3) := by decide +kernel
theorem dX11_goOnOr_45 : decode cX11_goOnOr 45 = .ok (.return_, 1) := by decide +kernel
theorem dX11_condition_0 : decode cX11_condition 0 = .ok (.aload_n 0, 1) := by decide +kernel
theorem dX11_condition_1 : decode cX11_condition 1 = .ok (.invokevirtual 172, 3) := by decide +kernel
theorem dX11_condition_4 : decode cX11_condition 4 = .ok (.aload_n 0, 1) := by decide +kernel
theorem dX11_condition_5 : decode cX11_condition 5 = .ok (.invokevirtual 181, 3) := by decide +kernel
theorem dX11_condition_8 : decode cX11_condition 8 = .ok (.aload_n 0, 1) := by decide +kernel
theorem dX11_condition_9 : decode cX11_condition 9 = .ok (.invokevirtual 184, 3) := by decide +kernel
theorem dX11_condition_12 : decode cX11_condition 12 = .ok (.return_, 1) := by decide +kernel
theorem dX11_clause_0 : decode cX11_clause 0 = .ok (.sipush 140, 3) := by decide +kernel
theorem dX11_clause_3 : decode cX11_clause 3 = .ok (.aload_n 0, 1) := by decide +kernel
theorem dX11_clause_4 : decode cX11_clause 4 = .ok (.getfield 126, 3) := by decide +kernel
theorem dX11_clause_7 : decode cX11_clause 7 = .ok (.imul, 1) := by decide +kernel
theorem dX11_clause_8 : decode cX11_clause 8 = .ok (.aload_n 0, 1) := by decide +kernel
theorem dX11_clause_9 : decode cX11_clause 9 = .ok (.getfield 22, 3) := by decide +kernel
theorem dX11_clause_12 : decode cX11_clause 12 = .ok (.aload_n 0, 1) := by decide +kernel
theorem dX11_clause_13 : decode cX11_clause 13 = .ok (.getfield 126, 3) := by decide +kernel
theorem dX11_clause_16 : decode cX11_clause 16 = .ok (.iaload, 1) := by decide +kernel
theorem dX11_clause_17 : decode cX11_clause 17 = .ok (.iadd, 1) := by decide +kernel
theorem dX11_clause_18 : decode cX11_clause 18 = .ok (.istore_n 1, 1) := by decide +kernel
theorem dX11_clause_19 : decode cX11_clause 19 = .ok (.aload_n 0, 1) := by decide +kernel
theorem dX11_clause_20 : decode cX11_clause 20 = .ok (.getfield 123, 3) := by decide +kernel
theorem dX11_clause_23 : decode cX11_clause 23 = .ok (.iconst (-1), 1) := by decide +kernel
theorem dX11_clause_24 : decode cX11_clause 24 = .ok (.if_icmp .ne 16, 3) := by decide +kernel
theorem dX11_clause_27 : decode cX11_clause 27 = .ok (.aload_n 0, 1) := by decide +kernel
theorem dX11_clause_28 : decode cX11_clause 28 = .ok (.invokevirtual 135, 3) := by decide +kernel
theorem dX11_clause_31 : decode cX11_clause 31 = .ok (.bipush 121, 2) := by decide +kernel
theorem dX11_clause_33 : decode cX11_clause 33 = .ok (.if_icmp .eq 7, 3) := by decide +kernel
theorem dX11_clause_36 : decode cX11_clause 36 = .ok (.aload_n 0, 1) := by decide +kernel
theorem dX11_clause_37 : decode cX11_clause 37 = .ok (.invokevirtual 132, 3) := by decide +kernel
theorem dX11_clause_40 : decode cX11_clause 40 = .ok (.aload_n 0, 1) := by decide +kernel
theorem dX11_clause_41 : decode cX11_clause 41 = .ok (.dup, 1) := by decide +kernel
theorem dX11_clause_42 : decode cX11_clause 42 = .ok (.getfield 116, 3) := by decide +kernel
theorem dX11_clause_45 : decode cX11_clause 45 = .ok (.iconst 1, 1) := by decide +kernel
theorem dX11_clause_46 : decode cX11_clause 46 = .ok (.iadd, 1) := by decide +kernel
theorem dX11_clause_47 : decode cX11_clause 47 = .ok (.putfield 116, 3) := by decide +kernel
theorem dX11_clause_50 : decode cX11_clause 50 = .ok (.aload_n 0, 1) := by decide +kernel
theorem dX11_clause_51 : decode cX11_clause 51 = .ok (.getfield 123, 3) := by decide +kernel
theorem dX11_clause_54 : decode cX11_clause 54 = .ok (.iconst (-1), 1) := by decide +kernel
theorem dX11_clause_55 : decode cX11_clause 55 = .ok (.if_icmp .ne 16, 3) := by decide +kernel
theorem dX11_clause_58 : decode cX11_clause 58 = .ok (.aload_n 0, 1) := by decide +kernel
theorem dX11_clause_59 : decode cX11_clause 59 = .ok (.invokevirtual 135, 3) := by decide +kernel
theorem dX11_clause_62 : decode cX11_clause 62 = .ok (.bipush 58, 2) := by decide +kernel
theorem dX11_clause_64 : decode cX11_clause 64 = .ok (.if_icmp .eq 7, 3) := by decide +kernel
theorem dX11_clause_67 : decode cX11_clause 67 = .ok (.aload_n 0, 1) := by decide +kernel
theorem dX11_clause_68 : decode cX11_clause 68 = .ok (.invokevirtual 132, 3) := by decide +kernel
theorem dX11_clause_71 : decode cX11_clause 71 = .ok (.aload_n 0, 1) := by decide +kernel
theorem dX11_clause_72 : decode cX11_clause 72 = .ok (.dup, 1) := by decide +kernel
theorem dX11_clause_73 : decode cX11_clause 73 = .ok (.getfield 116, 3) := by decide +kernel
theorem dX11_clause_76 : decode cX11_clause 76 = .ok (.iconst 1, 1) := by decide +kernel
theorem dX11_clause_77 : decode cX11_clause 77 = .ok (.iadd, 1) := by decide +kernel
theorem dX11_clause_78 : decode cX11_clause 78 = .ok (.putfield 116, 3) := by decide +kernel
theorem dX11_clause_81 : decode cX11_clause 81 = .ok (.aload_n 0, 1) := by decide +kernel
theorem dX11_clause_82 : decode cX11_clause 82 = .ok (.getfield 123, 3) := by decide +kernel
theorem dX11_clause_85 : decode cX11_clause 85 = .ok (.iconst (-1), 1) := by decide +kernel
theorem dX11_clause_86 : decode cX11_clause 86 = .ok (.if_icmp .eq 4, 3) := by decide +kernel
theorem dX11_clause_89 : decode cX11_clause 89 = .ok (.return_, 1) := by decide +kernel
theorem dX11_clause_90 : decode cX11_clause 90 = .ok (.aload_n 0, 1) := by decide +kernel
theorem dX11_clause_91 : decode cX11_clause 91 = .ok (.getfield 25, 3) := by decide +kernel
theorem dX11_clause_94 : decode cX11_clause 94 = .ok (.iload_n 1, 1) := by decide +kernel
theorem dX11_clause_95 : decode cX11_clause 95 = .ok (.aload_n 0, 1) := by decide +kernel
theorem dX11_clause_96 : decode cX11_clause 96 = .ok (.getfield 19, 3) := by decide +kernel
theorem dX11_clause_99 : decode cX11_clause 99 = .ok (.aload_n 0, 1) := by decide +kernel
theorem dX11_clause_100 : decode cX11_clause 100 = .ok (.getfield 126, 3) := by decide +kernel
theorem dX11_clause_103 : decode cX11_clause 103 = .ok (.iaload, 1) := by decide +kernel
theorem dX11_clause_104 : decode cX11_clause 104 = .ok (.iastore, 1) := by decide +kernel
theorem dX11_clause_105 : decode cX11_clause 105 = .ok (.aload_n 0, 1) := by decide +kernel
theorem dX11_clause_106 : decode cX11_clause 106 = .ok (.invokevirtual 135, 3) := by decide +kernel
theorem dX11_clause_109 : decode cX11_clause 109 = .ok (.bipush 33, 2) := by decide +kernel
theorem dX11_clause_111 : decode cX11_clause 111 = .ok (.if_icmp .eq 12, 3) := by decide +kernel
theorem dX11_clause_114 : decode cX11_clause 114 = .ok (.aload_n 0, 1) := by decide +kernel
theorem dX11_clause_115 : decode cX11_clause 115 = .ok (.invokevirtual 135, 3) := by decide +kernel
theorem dX11_clause_118 : decode cX11_clause 118 = .ok (.bipush 40, 2) := by decide +kernel
theorem dX11_clause_120 : decode cX11_clause 120 = .ok (.if_icmp .ne 7, 3) := by decide +kernel
theorem dX11_clause_123 : decode cX11_clause 123 = .ok (.iconst 1, 1) := by decide +kernel
theorem dX11_clause_124 : decode cX11_clause 124 = .ok (.goto 4, 3) := by decide +kernel
theorem dX11_clause_127 : decode cX11_clause 127 = .ok (.iconst 0, 1) := by decide +kernel
theorem dX11_clause_128 : decode cX11_clause 128 = .ok (.istore_n 2, 1) := by decide +kernel
theorem dX11_clause_129 : decode cX11_clause 129 = .ok (.iload_n 2, 1) := by decide +kernel
theorem dX11_clause_130 : decode cX11_clause 130 = .ok (.ifCond .eq 10, 3) := by decide +kernel
theorem dX11_clause_133 : decode cX11_clause 133 = .ok (.aload_n 0, 1) := by decide +kernel
theorem dX11_clause_134 : decode cX11_clause 134 = .ok (.invokevirtual 175, 3) := by decide +kernel
theorem dX11_clause_137 : decode cX11_clause 137 = .ok (.goto 47, 3) := by decide +kernel
theorem dX11_clause_140 : decode cX11_clause 140 = .ok (.aload_n 0, 1) := by decide +kernel
theorem dX11_clause_141 : decode cX11_clause 141 = .ok (.invokevirtual 156, 3) := by decide +kernel
theorem dX11_clause_144 : decode cX11_clause 144 = .ok (.aload_n 0, 1) := by decide +kernel
theorem dX11_clause_145 : decode cX11_clause 145 = .ok (.getfield 123, 3) := by decide +kernel
theorem dX11_clause_148 : decode cX11_clause 148 = .ok (.iconst (-1), 1) := by decide +kernel
theorem dX11_clause_149 : decode cX11_clause 149 = .ok (.if_icmp .ne 17, 3) := by decide +kernel
theorem dX11_clause_152 : decode cX11_clause 152 = .ok (.aload_n 0, 1) := by decide +kernel
theorem dX11_clause_153 : decode cX11_clause 153 = .ok (.invokevirtual 135, 3) := by decide +kernel
theorem dX11_clause_156 : decode cX11_clause 156 = .ok (.invokestatic 169, 3) := by decide +kernel
theorem dX11_clause_159 : decode cX11_clause 159 = .ok (.ifCond .eq 7, 3) := by decide +kernel
theorem dX11_clause_162 : decode cX11_clause 162 = .ok (.iconst 1, 1) := by decide +kernel
theorem dX11_clause_163 : decode cX11_clause 163 = .ok (.goto 4, 3) := by decide +kernel
theorem dX11_clause_166 : decode cX11_clause 166 = .ok (.iconst 0, 1) := by decide +kernel
theorem dX11_clause_167 : decode cX11_clause 167 = .ok (.istore_n 2, 1) := by decide +kernel
theorem dX11_clause_168 : decode cX11_clause 168 = .ok (.iload_n 2, 1) := by decide +kernel
theorem dX11_clause_169 : decode cX11_clause 169 = .ok (.ifCond .eq 15, 3) := by decide +kernel
theorem dX11_clause_172 : decode cX11_clause 172 = .ok (.aload_n 0, 1) := by decide +kernel
theorem dX11_clause_173 : decode cX11_clause 173 = .ok (.invokevirtual 178, 3) := by decide +kernel
theorem dX11_clause_176 : decode cX11_clause 176 = .ok (.aload_n 0, 1) := by decide +kernel
theorem dX11_clause_177 : decode cX11_clause 177 = .ok (.invokevirtual 181, 3) := by decide +kernel
theorem dX11_clause_180 : decode cX11_clause 180 = .ok (.aload_n 0, 1) := by decide +kernel
theorem dX11_clause_181 : decode cX11_clause 181 = .ok (.invokevirtual 184, 3) := by decide +kernel
theorem dX11_clause_184 : decode cX11_clause 184 = .ok (.aload_n 0, 1) := by decide +kernel
theorem dX11_clause_185 : decode cX11_clause 185 = .ok (.getfield 28, 3) := by decide +kernel
theorem dX11_clause_188 : decode cX11_clause 188 = .ok (.iload_n 1, 1) := by decide +kernel
theorem dX11_clause_189 : decode cX11_clause 189 = .ok (.aload_n 0, 1) := by decide +kernel
theorem dX11_clause_190 : decode cX11_clause 190 = .ok (.getfield 25, 3) := by decide +kernel
theorem dX11_clause_193 : decode cX11_clause 193 = .ok (.iload_n 1, 1) := by decide +kernel
theorem dX11_clause_194 : decode cX11_clause 194 = .ok (.iaload, 1) := by decide +kernel
theorem dX11_clause_195 : decode cX11_clause 195 = .ok (.iastore, 1) := by decide +kernel
theorem dX11_clause_196 : decode cX11_clause 196 = .ok (.iload_n 2, 1) := by decide +kernel
theorem dX11_clause_197 : decode cX11_clause 197 = .ok (.ifCond .eq 54, 3) := by decide +kernel
theorem dX11_clause_200 : decode cX11_clause 200 = .ok (.aload_n 0, 1) := by decide +kernel
theorem dX11_clause_201 : decode cX11_clause 201 = .ok (.getfield 123, 3) := by decide +kernel
theorem dX11_clause_204 : decode cX11_clause 204 = .ok (.iconst (-1), 1) := by decide +kernel
theorem dX11_clause_205 : decode cX11_clause 205 = .ok (.if_icmp .ne 46, 3) := by decide +kernel
theorem dX11_clause_208 : decode cX11_clause 208 = .ok (.aload_n 0, 1) := by decide +kernel
theorem dX11_clause_209 : decode cX11_clause 209 = .ok (.invokevirtual 135, 3) := by decide +kernel
theorem dX11_clause_212 : decode cX11_clause 212 = .ok (.bipush 63, 2) := by decide +kernel
theorem dX11_clause_214 : decode cX11_clause 214 = .ok (.if_icmp .eq 8, 3) := by decide +kernel
theorem dX11_clause_217 : decode cX11_clause 217 = .ok (.aload_n 0, 1) := by decide +kernel
theorem dX11_clause_218 : decode cX11_clause 218 = .ok (.invokevirtual 132, 3) := by decide +kernel
theorem dX11_clause_221 : decode cX11_clause 221 = .ok (.return_, 1) := by decide +kernel
theorem dX11_clause_222 : decode cX11_clause 222 = .ok (.aload_n 0, 1) := by decide +kernel
theorem dX11_clause_223 : decode cX11_clause 223 = .ok (.dup, 1) := by decide +kernel
theorem dX11_clause_224 : decode cX11_clause 224 = .ok (.getfield 116, 3) := by decide +kernel
theorem dX11_clause_227 : decode cX11_clause 227 = .ok (.iconst 1, 1) := by decide +kernel
theorem dX11_clause_228 : decode cX11_clause 228 = .ok (.iadd, 1) := by decide +kernel
theorem dX11_clause_229 : decode cX11_clause 229 = .ok (.putfield 116, 3) := by decide +kernel
theorem dX11_clause_232 : decode cX11_clause 232 = .ok (.aload_n 0, 1) := by decide +kernel
theorem dX11_clause_233 : decode cX11_clause 233 = .ok (.getfield 28, 3) := by decide +kernel
theorem dX11_clause_236 : decode cX11_clause 236 = .ok (.iload_n 1, 1) := by decide +kernel
theorem dX11_clause_237 : decode cX11_clause 237 = .ok (.aload_n 0, 1) := by decide +kernel
theorem dX11_clause_238 : decode cX11_clause 238 = .ok (.getfield 19, 3) := by decide +kernel
theorem dX11_clause_241 : decode cX11_clause 241 = .ok (.aload_n 0, 1) := by decide +kernel
theorem dX11_clause_242 : decode cX11_clause 242 = .ok (.getfield 126, 3) := by decide +kernel
theorem dX11_clause_245 : decode cX11_clause 245 = .ok (.iaload, 1) := by decide +kernel
theorem dX11_clause_246 : decode cX11_clause 246 = .ok (.iastore, 1) := by decide +kernel
theorem dX11_clause_247 : decode cX11_clause 247 = .ok (.aload_n 0, 1) := by decide +kernel
theorem dX11_clause_248 : decode cX11_clause 248 = .ok (.invokevirtual 156, 3) := by decide +kernel
theorem dX11_clause_251 : decode cX11_clause 251 = .ok (.aload_n 0, 1) := by decide +kernel
theorem dX11_clause_252 : decode cX11_clause 252 = .ok (.getfield 31, 3) := by decide +kernel
theorem dX11_clause_255 : decode cX11_clause 255 = .ok (.iload_n 1, 1) := by decide +kernel
theorem dX11_clause_256 : decode cX11_clause 256 = .ok (.aload_n 0, 1) := by decide +kernel
theorem dX11_clause_257 : decode cX11_clause 257 = .ok (.getfield 19, 3) := by decide +kernel
theorem dX11_clause_260 : decode cX11_clause 260 = .ok (.aload_n 0, 1) := by decide +kernel
theorem dX11_clause_261 : decode cX11_clause 261 = .ok (.getfield 126, 3) := by decide +kernel
theorem dX11_clause_264 : decode cX11_clause 264 = .ok (.iaload, 1) := by decide +kernel
theorem dX11_clause_265 : decode cX11_clause 265 = .ok (.iastore, 1) := by decide +kernel
theorem dX11_clause_266 : decode cX11_clause 266 = .ok (.aload_n 0, 1) := by decide +kernel
theorem dX11_clause_267 : decode cX11_clause 267 = .ok (.getfield 22, 3) := by decide +kernel
theorem dX11_clause_270 : decode cX11_clause 270 = .ok (.aload_n 0, 1) := by decide +kernel
theorem dX11_clause_271 : decode cX11_clause 271 = .ok (.getfield 126, 3) := by decide +kernel
theorem dX11_clause_274 : decode cX11_clause 274 = .ok (.dup2, 1) := by decide +kernel
theorem dX11_clause_275 : decode cX11_clause 275 = .ok (.iaload, 1) := by decide +kernel
theorem dX11_clause_276 : decode cX11_clause 276 = .ok (.iconst 1, 1) := by decide +kernel
theorem dX11_clause_277 : decode cX11_clause 277 = .ok (.iadd, 1) := by decide +kernel
theorem dX11_clause_278 : decode cX11_clause 278 = .ok (.iastore, 1) := by decide +kernel
theorem dX11_clause_279 : decode cX11_clause 279 = .ok (.return_, 1) := by decide +kernel
theorem dX11_open_0 : decode cX11_open 0 = .ok (.aload_n 0, 1) := by decide +kernel
theorem dX11_open_1 : decode cX11_open 1 = .ok (.iload_n 1, 1) := by decide +kernel
theorem dX11_open_2 : decode cX11_open 2 = .ok (.putfield 126, 3) := by decide +kernel
theorem dX11_open_5 : decode cX11_open 5 = .ok (.aload_n 0, 1) := by decide +kernel
theorem dX11_open_6 : decode cX11_open 6 = .ok (.iconst 0, 1) := by decide +kernel
theorem dX11_open_7 : decode cX11_open 7 = .ok (.putfield 116, 3) := by decide +kernel
theorem dX11_open_10 : decode cX11_open 10 = .ok (.aload_n 0, 1) := by decide +kernel
theorem dX11_open_11 : decode cX11_open 11 = .ok (.iconst (-1), 1) := by decide +kernel
theorem dX11_open_12 : decode cX11_open 12 = .ok (.putfield 123, 3) := by decide +kernel
theorem dX11_open_15 : decode cX11_open 15 = .ok (.aload_n 0, 1) := by decide +kernel
theorem dX11_open_16 : decode cX11_open 16 = .ok (.iconst 0, 1) := by decide +kernel
theorem dX11_open_17 : decode cX11_open 17 = .ok (.putfield 129, 3) := by decide +kernel
theorem dX11_open_20 : decode cX11_open 20 = .ok (.aload_n 0, 1) := by decide +kernel
theorem dX11_open_21 : decode cX11_open 21 = .ok (.getfield 19, 3) := by decide +kernel
theorem dX11_open_24 : decode cX11_open 24 = .ok (.iload_n 1, 1) := by decide +kernel
theorem dX11_open_25 : decode cX11_open 25 = .ok (.iconst 0, 1) := by decide +kernel
theorem dX11_open_26 : decode cX11_open 26 = .ok (.iastore, 1) := by decide +kernel
theorem dX11_open_27 : decode cX11_open 27 = .ok (.aload_n 0, 1) := by decide +kernel
theorem dX11_open_28 : decode cX11_open 28 = .ok (.getfield 22, 3) := by decide +kernel
theorem dX11_open_31 : decode cX11_open 31 = .ok (.iload_n 1, 1) := by decide +kernel
theorem dX11_open_32 : decode cX11_open 32 = .ok (.iconst 0, 1) := by decide +kernel
theorem dX11_open_33 : decode cX11_open 33 = .ok (.iastore, 1) := by decide +kernel
theorem dX11_open_34 : decode cX11_open 34 = .ok (.return_, 1) := by decide +kernel
theorem dX11_atEnd_0 : decode cX11_atEnd 0 = .ok (.aload_n 0, 1) := by decide +kernel
theorem dX11_atEnd_1 : decode cX11_atEnd 1 = .ok (.getfield 123, 3) := by decide +kernel
theorem dX11_atEnd_4 : decode cX11_atEnd 4 = .ok (.iconst (-1), 1) := by decide +kernel
theorem dX11_atEnd_5 : decode cX11_atEnd 5 = .ok (.if_icmp .ne 15, 3) := by decide +kernel
theorem dX11_atEnd_8 : decode cX11_atEnd 8 = .ok (.aload_n 0, 1) := by decide +kernel
theorem dX11_atEnd_9 : decode cX11_atEnd 9 = .ok (.invokevirtual 135, 3) := by decide +kernel
theorem dX11_atEnd_12 : decode cX11_atEnd 12 = .ok (.iconst (-1), 1) := by decide +kernel
theorem dX11_atEnd_13 : decode cX11_atEnd 13 = .ok (.if_icmp .eq 7, 3) := by decide +kernel
theorem dX11_atEnd_16 : decode cX11_atEnd 16 = .ok (.aload_n 0, 1) := by decide +kernel
theorem dX11_atEnd_17 : decode cX11_atEnd 17 = .ok (.invokevirtual 132, 3) := by decide +kernel
theorem dX11_atEnd_20 : decode cX11_atEnd 20 = .ok (.aload_n 0, 1) := by decide +kernel
theorem dX11_atEnd_21 : decode cX11_atEnd 21 = .ok (.getfield 123, 3) := by decide +kernel
theorem dX11_atEnd_24 : decode cX11_atEnd 24 = .ok (.ireturn, 1) := by decide +kernel
theorem dX11_readLaw_0 : decode cX11_readLaw 0 = .ok (.aload_n 0, 1) := by decide +kernel
theorem dX11_readLaw_1 : decode cX11_readLaw 1 = .ok (.iload_n 1, 1) := by decide +kernel
theorem dX11_readLaw_2 : decode cX11_readLaw 2 = .ok (.invokevirtual 187, 3) := by decide +kernel
theorem dX11_readLaw_5 : decode cX11_readLaw 5 = .ok (.aload_n 0, 1) := by decide +kernel
theorem dX11_readLaw_6 : decode cX11_readLaw 6 = .ok (.invokevirtual 190, 3) := by decide +kernel
theorem dX11_readLaw_9 : decode cX11_readLaw 9 = .ok (.aload_n 0, 1) := by decide +kernel
theorem dX11_readLaw_10 : decode cX11_readLaw 10 = .ok (.getfield 123, 3) := by decide +kernel
theorem dX11_readLaw_13 : decode cX11_readLaw 13 = .ok (.iconst (-1), 1) := by decide +kernel
theorem dX11_readLaw_14 : decode cX11_readLaw 14 = .ok (.if_icmp .ne 29, 3) := by decide +kernel
theorem dX11_readLaw_17 : decode cX11_readLaw 17 = .ok (.aload_n 0, 1) := by decide +kernel
theorem dX11_readLaw_18 : decode cX11_readLaw 18 = .ok (.invokevirtual 135, 3) := by decide +kernel
theorem dX11_readLaw_21 : decode cX11_readLaw 21 = .ok (.bipush 59, 2) := by decide +kernel
theorem dX11_readLaw_23 : decode cX11_readLaw 23 = .ok (.if_icmp .ne 20, 3) := by decide +kernel
theorem dX11_readLaw_26 : decode cX11_readLaw 26 = .ok (.aload_n 0, 1) := by decide +kernel
theorem dX11_readLaw_27 : decode cX11_readLaw 27 = .ok (.dup, 1) := by decide +kernel
theorem dX11_readLaw_28 : decode cX11_readLaw 28 = .ok (.getfield 116, 3) := by decide +kernel
theorem dX11_readLaw_31 : decode cX11_readLaw 31 = .ok (.iconst 1, 1) := by decide +kernel
theorem dX11_readLaw_32 : decode cX11_readLaw 32 = .ok (.iadd, 1) := by decide +kernel
theorem dX11_readLaw_33 : decode cX11_readLaw 33 = .ok (.putfield 116, 3) := by decide +kernel
theorem dX11_readLaw_36 : decode cX11_readLaw 36 = .ok (.aload_n 0, 1) := by decide +kernel
theorem dX11_readLaw_37 : decode cX11_readLaw 37 = .ok (.invokevirtual 190, 3) := by decide +kernel
theorem dX11_readLaw_40 : decode cX11_readLaw 40 = .ok (.goto (-31), 3) := by decide +kernel
theorem dX11_readLaw_43 : decode cX11_readLaw 43 = .ok (.aload_n 0, 1) := by decide +kernel
theorem dX11_readLaw_44 : decode cX11_readLaw 44 = .ok (.invokevirtual 193, 3) := by decide +kernel
theorem dX11_readLaw_47 : decode cX11_readLaw 47 = .ok (.ireturn, 1) := by decide +kernel
theorem dX11_bounded_0 : decode cX11_bounded 0 = .ok (.ldc2_w 196, 3) := by decide +kernel
theorem dX11_bounded_3 : decode cX11_bounded 3 = .ok (.ldc2_w 198, 3) := by decide +kernel
theorem dX11_bounded_6 : decode cX11_bounded 6 = .ok (.lload_n 0, 1) := by decide +kernel
theorem dX11_bounded_7 : decode cX11_bounded 7 = .ok (.invokestatic 200, 3) := by decide +kernel
theorem dX11_bounded_10 : decode cX11_bounded 10 = .ok (.invokestatic 206, 3) := by decide +kernel
theorem dX11_bounded_13 : decode cX11_bounded 13 = .ok (.l2i, 1) := by decide +kernel
theorem dX11_bounded_14 : decode cX11_bounded 14 = .ok (.ireturn, 1) := by decide +kernel
theorem dX11_worked_0 : decode cX11_worked 0 = .ok (.iload_n 0, 1) := by decide +kernel
theorem dX11_worked_1 : decode cX11_worked 1 = .ok (.tableswitch 143 2 10 #[51, 58, 65, 72, 89, 101, 113, 143, 125], 51) := by decide +kernel
theorem dX11_worked_52 : decode cX11_worked 52 = .ok (.lload_n 1, 1) := by decide +kernel
theorem dX11_worked_53 : decode cX11_worked 53 = .ok (.lload_n 3, 1) := by decide +kernel
theorem dX11_worked_54 : decode cX11_worked 54 = .ok (.ladd, 1) := by decide +kernel
theorem dX11_worked_55 : decode cX11_worked 55 = .ok (.invokestatic 209, 3) := by decide +kernel
theorem dX11_worked_58 : decode cX11_worked 58 = .ok (.ireturn, 1) := by decide +kernel
theorem dX11_worked_59 : decode cX11_worked 59 = .ok (.lload_n 1, 1) := by decide +kernel
theorem dX11_worked_60 : decode cX11_worked 60 = .ok (.lload_n 3, 1) := by decide +kernel
theorem dX11_worked_61 : decode cX11_worked 61 = .ok (.lsub, 1) := by decide +kernel
theorem dX11_worked_62 : decode cX11_worked 62 = .ok (.invokestatic 209, 3) := by decide +kernel
theorem dX11_worked_65 : decode cX11_worked 65 = .ok (.ireturn, 1) := by decide +kernel
theorem dX11_worked_66 : decode cX11_worked 66 = .ok (.lload_n 1, 1) := by decide +kernel
theorem dX11_worked_67 : decode cX11_worked 67 = .ok (.lload_n 3, 1) := by decide +kernel
theorem dX11_worked_68 : decode cX11_worked 68 = .ok (.lmul, 1) := by decide +kernel
theorem dX11_worked_69 : decode cX11_worked 69 = .ok (.invokestatic 209, 3) := by decide +kernel
theorem dX11_worked_72 : decode cX11_worked 72 = .ok (.ireturn, 1) := by decide +kernel
theorem dX11_worked_73 : decode cX11_worked 73 = .ok (.lload_n 3, 1) := by decide +kernel
theorem dX11_worked_74 : decode cX11_worked 74 = .ok (.lconst 0, 1) := by decide +kernel
theorem dX11_worked_75 : decode cX11_worked 75 = .ok (.lcmp, 1) := by decide +kernel
theorem dX11_worked_76 : decode cX11_worked 76 = .ok (.ifCond .ne 7, 3) := by decide +kernel
theorem dX11_worked_79 : decode cX11_worked 79 = .ok (.iconst 0, 1) := by decide +kernel
theorem dX11_worked_80 : decode cX11_worked 80 = .ok (.goto 9, 3) := by decide +kernel
theorem dX11_worked_83 : decode cX11_worked 83 = .ok (.lload_n 1, 1) := by decide +kernel
theorem dX11_worked_84 : decode cX11_worked 84 = .ok (.lload_n 3, 1) := by decide +kernel
theorem dX11_worked_85 : decode cX11_worked 85 = .ok (.ldiv, 1) := by decide +kernel
theorem dX11_worked_86 : decode cX11_worked 86 = .ok (.invokestatic 209, 3) := by decide +kernel
theorem dX11_worked_89 : decode cX11_worked 89 = .ok (.ireturn, 1) := by decide +kernel
theorem dX11_worked_90 : decode cX11_worked 90 = .ok (.lload_n 1, 1) := by decide +kernel
theorem dX11_worked_91 : decode cX11_worked 91 = .ok (.lload_n 3, 1) := by decide +kernel
theorem dX11_worked_92 : decode cX11_worked 92 = .ok (.lcmp, 1) := by decide +kernel
theorem dX11_worked_93 : decode cX11_worked 93 = .ok (.ifCond .ne 7, 3) := by decide +kernel
theorem dX11_worked_96 : decode cX11_worked 96 = .ok (.iconst 1, 1) := by decide +kernel
theorem dX11_worked_97 : decode cX11_worked 97 = .ok (.goto 4, 3) := by decide +kernel
theorem dX11_worked_100 : decode cX11_worked 100 = .ok (.iconst 0, 1) := by decide +kernel
theorem dX11_worked_101 : decode cX11_worked 101 = .ok (.ireturn, 1) := by decide +kernel
theorem dX11_worked_102 : decode cX11_worked 102 = .ok (.lload_n 1, 1) := by decide +kernel
theorem dX11_worked_103 : decode cX11_worked 103 = .ok (.lload_n 3, 1) := by decide +kernel
theorem dX11_worked_104 : decode cX11_worked 104 = .ok (.lcmp, 1) := by decide +kernel
theorem dX11_worked_105 : decode cX11_worked 105 = .ok (.ifCond .ge 7, 3) := by decide +kernel
theorem dX11_worked_108 : decode cX11_worked 108 = .ok (.iconst 1, 1) := by decide +kernel
theorem dX11_worked_109 : decode cX11_worked 109 = .ok (.goto 4, 3) := by decide +kernel
theorem dX11_worked_112 : decode cX11_worked 112 = .ok (.iconst 0, 1) := by decide +kernel
theorem dX11_worked_113 : decode cX11_worked 113 = .ok (.ireturn, 1) := by decide +kernel
theorem dX11_worked_114 : decode cX11_worked 114 = .ok (.lload_n 1, 1) := by decide +kernel
theorem dX11_worked_115 : decode cX11_worked 115 = .ok (.lload_n 3, 1) := by decide +kernel
theorem dX11_worked_116 : decode cX11_worked 116 = .ok (.lcmp, 1) := by decide +kernel
theorem dX11_worked_117 : decode cX11_worked 117 = .ok (.ifCond .le 7, 3) := by decide +kernel
theorem dX11_worked_120 : decode cX11_worked 120 = .ok (.iconst 1, 1) := by decide +kernel
theorem dX11_worked_121 : decode cX11_worked 121 = .ok (.goto 4, 3) := by decide +kernel
theorem dX11_worked_124 : decode cX11_worked 124 = .ok (.iconst 0, 1) := by decide +kernel
theorem dX11_worked_125 : decode cX11_worked 125 = .ok (.ireturn, 1) := by decide +kernel
theorem dX11_worked_126 : decode cX11_worked 126 = .ok (.lload_n 1, 1) := by decide +kernel
theorem dX11_worked_127 : decode cX11_worked 127 = .ok (.lconst 0, 1) := by decide +kernel
theorem dX11_worked_128 : decode cX11_worked 128 = .ok (.lcmp, 1) := by decide +kernel
theorem dX11_worked_129 : decode cX11_worked 129 = .ok (.ifCond .eq 13, 3) := by decide +kernel
theorem dX11_worked_132 : decode cX11_worked 132 = .ok (.lload_n 3, 1) := by decide +kernel
theorem dX11_worked_133 : decode cX11_worked 133 = .ok (.lconst 0, 1) := by decide +kernel
theorem dX11_worked_134 : decode cX11_worked 134 = .ok (.lcmp, 1) := by decide +kernel
theorem dX11_worked_135 : decode cX11_worked 135 = .ok (.ifCond .eq 7, 3) := by decide +kernel
theorem dX11_worked_138 : decode cX11_worked 138 = .ok (.iconst 1, 1) := by decide +kernel
theorem dX11_worked_139 : decode cX11_worked 139 = .ok (.goto 4, 3) := by decide +kernel
theorem dX11_worked_142 : decode cX11_worked 142 = .ok (.iconst 0, 1) := by decide +kernel
theorem dX11_worked_143 : decode cX11_worked 143 = .ok (.ireturn, 1) := by decide +kernel
theorem dX11_worked_144 : decode cX11_worked 144 = .ok (.lload_n 1, 1) := by decide +kernel
theorem dX11_worked_145 : decode cX11_worked 145 = .ok (.lconst 0, 1) := by decide +kernel
theorem dX11_worked_146 : decode cX11_worked 146 = .ok (.lcmp, 1) := by decide +kernel
theorem dX11_worked_147 : decode cX11_worked 147 = .ok (.ifCond .ne 9, 3) := by decide +kernel
theorem dX11_worked_150 : decode cX11_worked 150 = .ok (.lload_n 3, 1) := by decide +kernel
theorem dX11_worked_151 : decode cX11_worked 151 = .ok (.lconst 0, 1) := by decide +kernel
theorem dX11_worked_152 : decode cX11_worked 152 = .ok (.lcmp, 1) := by decide +kernel
theorem dX11_worked_153 : decode cX11_worked 153 = .ok (.ifCond .eq 7, 3) := by decide +kernel
theorem dX11_worked_156 : decode cX11_worked 156 = .ok (.iconst 1, 1) := by decide +kernel
theorem dX11_worked_157 : decode cX11_worked 157 = .ok (.goto 4, 3) := by decide +kernel
theorem dX11_worked_160 : decode cX11_worked 160 = .ok (.iconst 0, 1) := by decide +kernel
theorem dX11_worked_161 : decode cX11_worked 161 = .ok (.ireturn, 1) := by decide +kernel
theorem dX11_workOut_0 : decode cX11_workOut 0 = .ok (.iconst 0, 1) := by decide +kernel
theorem dX11_workOut_1 : decode cX11_workOut 1 = .ok (.istore 4, 2) := by decide +kernel
theorem dX11_workOut_3 : decode cX11_workOut 3 = .ok (.sipush 520, 3) := by decide +kernel
theorem dX11_workOut_6 : decode cX11_workOut 6 = .ok (.iload_n 1, 1) := by decide +kernel
theorem dX11_workOut_7 : decode cX11_workOut 7 = .ok (.imul, 1) := by decide +kernel
theorem dX11_workOut_8 : decode cX11_workOut 8 = .ok (.iload_n 2, 1) := by decide +kernel
theorem dX11_workOut_9 : decode cX11_workOut 9 = .ok (.iadd, 1) := by decide +kernel
theorem dX11_workOut_10 : decode cX11_workOut 10 = .ok (.istore 5, 2) := by decide +kernel
theorem dX11_workOut_12 : decode cX11_workOut 12 = .ok (.iload 5, 2) := by decide +kernel
theorem dX11_workOut_14 : decode cX11_workOut 14 = .ok (.sipush 520, 3) := by decide +kernel
theorem dX11_workOut_17 : decode cX11_workOut 17 = .ok (.iload_n 1, 1) := by decide +kernel
theorem dX11_workOut_18 : decode cX11_workOut 18 = .ok (.imul, 1) := by decide +kernel
theorem dX11_workOut_19 : decode cX11_workOut 19 = .ok (.iload_n 3, 1) := by decide +kernel
theorem dX11_workOut_20 : decode cX11_workOut 20 = .ok (.iadd, 1) := by decide +kernel
theorem dX11_workOut_21 : decode cX11_workOut 21 = .ok (.if_icmp .ge 150, 3) := by decide +kernel
theorem dX11_workOut_24 : decode cX11_workOut 24 = .ok (.aload_n 0, 1) := by decide +kernel
theorem dX11_workOut_25 : decode cX11_workOut 25 = .ok (.getfield 13, 3) := by decide +kernel
theorem dX11_workOut_28 : decode cX11_workOut 28 = .ok (.iload 5, 2) := by decide +kernel
theorem dX11_workOut_30 : decode cX11_workOut 30 = .ok (.iaload, 1) := by decide +kernel
theorem dX11_workOut_31 : decode cX11_workOut 31 = .ok (.ifCond .eq 14, 3) := by decide +kernel
theorem dX11_workOut_34 : decode cX11_workOut 34 = .ok (.aload_n 0, 1) := by decide +kernel
theorem dX11_workOut_35 : decode cX11_workOut 35 = .ok (.getfield 13, 3) := by decide +kernel
theorem dX11_workOut_38 : decode cX11_workOut 38 = .ok (.iload 5, 2) := by decide +kernel
theorem dX11_workOut_40 : decode cX11_workOut 40 = .ok (.iaload, 1) := by decide +kernel
theorem dX11_workOut_41 : decode cX11_workOut 41 = .ok (.iconst 1, 1) := by decide +kernel
theorem dX11_workOut_42 : decode cX11_workOut 42 = .ok (.if_icmp .ne 48, 3) := by decide +kernel
theorem dX11_workOut_45 : decode cX11_workOut 45 = .ok (.aload_n 0, 1) := by decide +kernel
theorem dX11_workOut_46 : decode cX11_workOut 46 = .ok (.getfield 37, 3) := by decide +kernel
theorem dX11_workOut_49 : decode cX11_workOut 49 = .ok (.iload 4, 2) := by decide +kernel
theorem dX11_workOut_51 : decode cX11_workOut 51 = .ok (.aload_n 0, 1) := by decide +kernel
theorem dX11_workOut_52 : decode cX11_workOut 52 = .ok (.getfield 13, 3) := by decide +kernel
theorem dX11_workOut_55 : decode cX11_workOut 55 = .ok (.iload 5, 2) := by decide +kernel
theorem dX11_workOut_57 : decode cX11_workOut 57 = .ok (.iaload, 1) := by decide +kernel
theorem dX11_workOut_58 : decode cX11_workOut 58 = .ok (.ifCond .ne 13, 3) := by decide +kernel
theorem dX11_workOut_61 : decode cX11_workOut 61 = .ok (.aload_n 0, 1) := by decide +kernel
theorem dX11_workOut_62 : decode cX11_workOut 62 = .ok (.getfield 16, 3) := by decide +kernel
theorem dX11_workOut_65 : decode cX11_workOut 65 = .ok (.iload 5, 2) := by decide +kernel
theorem dX11_workOut_67 : decode cX11_workOut 67 = .ok (.iaload, 1) := by decide +kernel
theorem dX11_workOut_68 : decode cX11_workOut 68 = .ok (.goto 15, 3) := by decide +kernel
theorem dX11_workOut_71 : decode cX11_workOut 71 = .ok (.aload_n 0, 1) := by decide +kernel
theorem dX11_workOut_72 : decode cX11_workOut 72 = .ok (.getfield 34, 3) := by decide +kernel
theorem dX11_workOut_75 : decode cX11_workOut 75 = .ok (.aload_n 0, 1) := by decide +kernel
theorem dX11_workOut_76 : decode cX11_workOut 76 = .ok (.getfield 16, 3) := by decide +kernel
theorem dX11_workOut_79 : decode cX11_workOut 79 = .ok (.iload 5, 2) := by decide +kernel
theorem dX11_workOut_81 : decode cX11_workOut 81 = .ok (.iaload, 1) := by decide +kernel
theorem dX11_workOut_82 : decode cX11_workOut 82 = .ok (.iaload, 1) := by decide +kernel
theorem dX11_workOut_83 : decode cX11_workOut 83 = .ok (.iastore, 1) := by decide +kernel
theorem dX11_workOut_84 : decode cX11_workOut 84 = .ok (.iinc 4 1, 3) := by decide +kernel
theorem dX11_workOut_87 : decode cX11_workOut 87 = .ok (.goto 78, 3) := by decide +kernel
theorem dX11_workOut_90 : decode cX11_workOut 90 = .ok (.aload_n 0, 1) := by decide +kernel
theorem dX11_workOut_91 : decode cX11_workOut 91 = .ok (.getfield 13, 3) := by decide +kernel
theorem dX11_workOut_94 : decode cX11_workOut 94 = .ok (.iload 5, 2) := by decide +kernel
theorem dX11_workOut_96 : decode cX11_workOut 96 = .ok (.iaload, 1) := by decide +kernel
theorem dX11_workOut_97 : decode cX11_workOut 97 = .ok (.bipush 9, 2) := by decide +kernel
theorem dX11_workOut_99 : decode cX11_workOut 99 = .ok (.if_icmp .ne 26, 3) := by decide +kernel
theorem dX11_workOut_102 : decode cX11_workOut 102 = .ok (.aload_n 0, 1) := by decide +kernel
theorem dX11_workOut_103 : decode cX11_workOut 103 = .ok (.getfield 37, 3) := by decide +kernel
theorem dX11_workOut_106 : decode cX11_workOut 106 = .ok (.iload 4, 2) := by decide +kernel
theorem dX11_workOut_108 : decode cX11_workOut 108 = .ok (.iconst 1, 1) := by decide +kernel
theorem dX11_workOut_109 : decode cX11_workOut 109 = .ok (.isub, 1) := by decide +kernel
theorem dX11_workOut_110 : decode cX11_workOut 110 = .ok (.iconst 1, 1) := by decide +kernel
theorem dX11_workOut_111 : decode cX11_workOut 111 = .ok (.aload_n 0, 1) := by decide +kernel
theorem dX11_workOut_112 : decode cX11_workOut 112 = .ok (.getfield 37, 3) := by decide +kernel
theorem dX11_workOut_115 : decode cX11_workOut 115 = .ok (.iload 4, 2) := by decide +kernel
theorem dX11_workOut_117 : decode cX11_workOut 117 = .ok (.iconst 1, 1) := by decide +kernel
theorem dX11_workOut_118 : decode cX11_workOut 118 = .ok (.isub, 1) := by decide +kernel
theorem dX11_workOut_119 : decode cX11_workOut 119 = .ok (.iaload, 1) := by decide +kernel
theorem dX11_workOut_120 : decode cX11_workOut 120 = .ok (.isub, 1) := by decide +kernel
theorem dX11_workOut_121 : decode cX11_workOut 121 = .ok (.iastore, 1) := by decide +kernel
theorem dX11_workOut_122 : decode cX11_workOut 122 = .ok (.goto 43, 3) := by decide +kernel
theorem dX11_workOut_125 : decode cX11_workOut 125 = .ok (.iinc 4 (-1), 3) := by decide +kernel
theorem dX11_workOut_128 : decode cX11_workOut 128 = .ok (.aload_n 0, 1) := by decide +kernel
theorem dX11_workOut_129 : decode cX11_workOut 129 = .ok (.getfield 37, 3) := by decide +kernel
theorem dX11_workOut_132 : decode cX11_workOut 132 = .ok (.iload 4, 2) := by decide +kernel
theorem dX11_workOut_134 : decode cX11_workOut 134 = .ok (.iconst 1, 1) := by decide +kernel
theorem dX11_workOut_135 : decode cX11_workOut 135 = .ok (.isub, 1) := by decide +kernel
theorem dX11_workOut_136 : decode cX11_workOut 136 = .ok (.aload_n 0, 1) := by decide +kernel
theorem dX11_workOut_137 : decode cX11_workOut 137 = .ok (.getfield 13, 3) := by decide +kernel
theorem dX11_workOut_140 : decode cX11_workOut 140 = .ok (.iload 5, 2) := by decide +kernel
theorem dX11_workOut_142 : decode cX11_workOut 142 = .ok (.iaload, 1) := by decide +kernel
theorem dX11_workOut_143 : decode cX11_workOut 143 = .ok (.aload_n 0, 1) := by decide +kernel
theorem dX11_workOut_144 : decode cX11_workOut 144 = .ok (.getfield 37, 3) := by decide +kernel
theorem dX11_workOut_147 : decode cX11_workOut 147 = .ok (.iload 4, 2) := by decide +kernel
theorem dX11_workOut_149 : decode cX11_workOut 149 = .ok (.iconst 1, 1) := by decide +kernel
theorem dX11_workOut_150 : decode cX11_workOut 150 = .ok (.isub, 1) := by decide +kernel
theorem dX11_workOut_151 : decode cX11_workOut 151 = .ok (.iaload, 1) := by decide +kernel
theorem dX11_workOut_152 : decode cX11_workOut 152 = .ok (.i2l, 1) := by decide +kernel
theorem dX11_workOut_153 : decode cX11_workOut 153 = .ok (.aload_n 0, 1) := by decide +kernel
theorem dX11_workOut_154 : decode cX11_workOut 154 = .ok (.getfield 37, 3) := by decide +kernel
theorem dX11_workOut_157 : decode cX11_workOut 157 = .ok (.iload 4, 2) := by decide +kernel
theorem dX11_workOut_159 : decode cX11_workOut 159 = .ok (.iaload, 1) := by decide +kernel
theorem dX11_workOut_160 : decode cX11_workOut 160 = .ok (.i2l, 1) := by decide +kernel
theorem dX11_workOut_161 : decode cX11_workOut 161 = .ok (.invokestatic 213, 3) := by decide +kernel
theorem dX11_workOut_164 : decode cX11_workOut 164 = .ok (.iastore, 1) := by decide +kernel
theorem dX11_workOut_165 : decode cX11_workOut 165 = .ok (.iinc 5 1, 3) := by decide +kernel
theorem dX11_workOut_168 : decode cX11_workOut 168 = .ok (.goto (-156), 3) := by decide +kernel
theorem dX11_workOut_171 : decode cX11_workOut 171 = .ok (.aload_n 0, 1) := by decide +kernel
theorem dX11_workOut_172 : decode cX11_workOut 172 = .ok (.getfield 37, 3) := by decide +kernel
theorem dX11_workOut_175 : decode cX11_workOut 175 = .ok (.iconst 0, 1) := by decide +kernel
theorem dX11_workOut_176 : decode cX11_workOut 176 = .ok (.iaload, 1) := by decide +kernel
theorem dX11_workOut_177 : decode cX11_workOut 177 = .ok (.ireturn, 1) := by decide +kernel
theorem dX11_worthOf_0 : decode cX11_worthOf 0 = .ok (.sipush 140, 3) := by decide +kernel
theorem dX11_worthOf_3 : decode cX11_worthOf 3 = .ok (.iload_n 1, 1) := by decide +kernel
theorem dX11_worthOf_4 : decode cX11_worthOf 4 = .ok (.imul, 1) := by decide +kernel
theorem dX11_worthOf_5 : decode cX11_worthOf 5 = .ok (.istore_n 2, 1) := by decide +kernel
theorem dX11_worthOf_6 : decode cX11_worthOf 6 = .ok (.iload_n 2, 1) := by decide +kernel
theorem dX11_worthOf_7 : decode cX11_worthOf 7 = .ok (.sipush 140, 3) := by decide +kernel
theorem dX11_worthOf_10 : decode cX11_worthOf 10 = .ok (.iload_n 1, 1) := by decide +kernel
theorem dX11_worthOf_11 : decode cX11_worthOf 11 = .ok (.imul, 1) := by decide +kernel
theorem dX11_worthOf_12 : decode cX11_worthOf 12 = .ok (.aload_n 0, 1) := by decide +kernel
theorem dX11_worthOf_13 : decode cX11_worthOf 13 = .ok (.getfield 22, 3) := by decide +kernel
theorem dX11_worthOf_16 : decode cX11_worthOf 16 = .ok (.iload_n 1, 1) := by decide +kernel
theorem dX11_worthOf_17 : decode cX11_worthOf 17 = .ok (.iaload, 1) := by decide +kernel
theorem dX11_worthOf_18 : decode cX11_worthOf 18 = .ok (.iadd, 1) := by decide +kernel
theorem dX11_worthOf_19 : decode cX11_worthOf 19 = .ok (.if_icmp .ge 62, 3) := by decide +kernel
theorem dX11_worthOf_22 : decode cX11_worthOf 22 = .ok (.aload_n 0, 1) := by decide +kernel
theorem dX11_worthOf_23 : decode cX11_worthOf 23 = .ok (.getfield 25, 3) := by decide +kernel
theorem dX11_worthOf_26 : decode cX11_worthOf 26 = .ok (.iload_n 2, 1) := by decide +kernel
theorem dX11_worthOf_27 : decode cX11_worthOf 27 = .ok (.iaload, 1) := by decide +kernel
theorem dX11_worthOf_28 : decode cX11_worthOf 28 = .ok (.aload_n 0, 1) := by decide +kernel
theorem dX11_worthOf_29 : decode cX11_worthOf 29 = .ok (.getfield 28, 3) := by decide +kernel
theorem dX11_worthOf_32 : decode cX11_worthOf 32 = .ok (.iload_n 2, 1) := by decide +kernel
theorem dX11_worthOf_33 : decode cX11_worthOf 33 = .ok (.iaload, 1) := by decide +kernel
theorem dX11_worthOf_34 : decode cX11_worthOf 34 = .ok (.if_icmp .eq 23, 3) := by decide +kernel
theorem dX11_worthOf_37 : decode cX11_worthOf 37 = .ok (.aload_n 0, 1) := by decide +kernel
theorem dX11_worthOf_38 : decode cX11_worthOf 38 = .ok (.iload_n 1, 1) := by decide +kernel
theorem dX11_worthOf_39 : decode cX11_worthOf 39 = .ok (.aload_n 0, 1) := by decide +kernel
theorem dX11_worthOf_40 : decode cX11_worthOf 40 = .ok (.getfield 25, 3) := by decide +kernel
theorem dX11_worthOf_43 : decode cX11_worthOf 43 = .ok (.iload_n 2, 1) := by decide +kernel
theorem dX11_worthOf_44 : decode cX11_worthOf 44 = .ok (.iaload, 1) := by decide +kernel
theorem dX11_worthOf_45 : decode cX11_worthOf 45 = .ok (.aload_n 0, 1) := by decide +kernel
theorem dX11_worthOf_46 : decode cX11_worthOf 46 = .ok (.getfield 28, 3) := by decide +kernel
theorem dX11_worthOf_49 : decode cX11_worthOf 49 = .ok (.iload_n 2, 1) := by decide +kernel
theorem dX11_worthOf_50 : decode cX11_worthOf 50 = .ok (.iaload, 1) := by decide +kernel
theorem dX11_worthOf_51 : decode cX11_worthOf 51 = .ok (.invokevirtual 217, 3) := by decide +kernel
theorem dX11_worthOf_54 : decode cX11_worthOf 54 = .ok (.ifCond .eq 21, 3) := by decide +kernel
theorem dX11_worthOf_57 : decode cX11_worthOf 57 = .ok (.aload_n 0, 1) := by decide +kernel
theorem dX11_worthOf_58 : decode cX11_worthOf 58 = .ok (.iload_n 1, 1) := by decide +kernel
theorem dX11_worthOf_59 : decode cX11_worthOf 59 = .ok (.aload_n 0, 1) := by decide +kernel
theorem dX11_worthOf_60 : decode cX11_worthOf 60 = .ok (.getfield 28, 3) := by decide +kernel
theorem dX11_worthOf_63 : decode cX11_worthOf 63 = .ok (.iload_n 2, 1) := by decide +kernel
theorem dX11_worthOf_64 : decode cX11_worthOf 64 = .ok (.iaload, 1) := by decide +kernel
theorem dX11_worthOf_65 : decode cX11_worthOf 65 = .ok (.aload_n 0, 1) := by decide +kernel
theorem dX11_worthOf_66 : decode cX11_worthOf 66 = .ok (.getfield 31, 3) := by decide +kernel
theorem dX11_worthOf_69 : decode cX11_worthOf 69 = .ok (.iload_n 2, 1) := by decide +kernel
theorem dX11_worthOf_70 : decode cX11_worthOf 70 = .ok (.iaload, 1) := by decide +kernel
theorem dX11_worthOf_71 : decode cX11_worthOf 71 = .ok (.invokevirtual 217, 3) := by decide +kernel
theorem dX11_worthOf_74 : decode cX11_worthOf 74 = .ok (.ireturn, 1) := by decide +kernel
theorem dX11_worthOf_75 : decode cX11_worthOf 75 = .ok (.iinc 2 1, 3) := by decide +kernel
theorem dX11_worthOf_78 : decode cX11_worthOf 78 = .ok (.goto (-72), 3) := by decide +kernel
theorem dX11_worthOf_81 : decode cX11_worthOf 81 = .ok (.iconst 0, 1) := by decide +kernel
theorem dX11_worthOf_82 : decode cX11_worthOf 82 = .ok (.ireturn, 1) := by decide +kernel
theorem dX11_number_0 : decode cX11_number 0 = .ok (.aload_n 0, 1) := by decide +kernel
theorem dX11_number_1 : decode cX11_number 1 = .ok (.invokevirtual 135, 3) := by decide +kernel
theorem dX11_number_4 : decode cX11_number 4 = .ok (.invokestatic 138, 3) := by decide +kernel
theorem dX11_number_7 : decode cX11_number 7 = .ok (.ifCond .ne 9, 3) := by decide +kernel
theorem dX11_number_10 : decode cX11_number 10 = .ok (.aload_n 0, 1) := by decide +kernel
theorem dX11_number_11 : decode cX11_number 11 = .ok (.invokevirtual 132, 3) := by decide +kernel
theorem dX11_number_14 : decode cX11_number 14 = .ok (.iload_n 1, 1) := by decide +kernel
theorem dX11_number_15 : decode cX11_number 15 = .ok (.ireturn, 1) := by decide +kernel
theorem dX11_number_16 : decode cX11_number 16 = .ok (.aload_n 0, 1) := by decide +kernel
theorem dX11_number_17 : decode cX11_number 17 = .ok (.invokevirtual 119, 3) := by decide +kernel
theorem dX11_number_20 : decode cX11_number 20 = .ok (.bipush 48, 2) := by decide +kernel
theorem dX11_number_22 : decode cX11_number 22 = .ok (.isub, 1) := by decide +kernel
theorem dX11_number_23 : decode cX11_number 23 = .ok (.istore_n 3, 1) := by decide +kernel
theorem dX11_number_24 : decode cX11_number 24 = .ok (.aload_n 0, 1) := by decide +kernel
theorem dX11_number_25 : decode cX11_number 25 = .ok (.dup, 1) := by decide +kernel
theorem dX11_number_26 : decode cX11_number 26 = .ok (.getfield 116, 3) := by decide +kernel
theorem dX11_number_29 : decode cX11_number 29 = .ok (.iconst 1, 1) := by decide +kernel
theorem dX11_number_30 : decode cX11_number 30 = .ok (.iadd, 1) := by decide +kernel
theorem dX11_number_31 : decode cX11_number 31 = .ok (.putfield 116, 3) := by decide +kernel
theorem dX11_number_34 : decode cX11_number 34 = .ok (.aload_n 0, 1) := by decide +kernel
theorem dX11_number_35 : decode cX11_number 35 = .ok (.invokevirtual 119, 3) := by decide +kernel
theorem dX11_number_38 : decode cX11_number 38 = .ok (.invokestatic 138, 3) := by decide +kernel
theorem dX11_number_41 : decode cX11_number 41 = .ok (.ifCond .eq 26, 3) := by decide +kernel
theorem dX11_number_44 : decode cX11_number 44 = .ok (.bipush 10, 2) := by decide +kernel
theorem dX11_number_46 : decode cX11_number 46 = .ok (.iload_n 3, 1) := by decide +kernel
theorem dX11_number_47 : decode cX11_number 47 = .ok (.imul, 1) := by decide +kernel
theorem dX11_number_48 : decode cX11_number 48 = .ok (.aload_n 0, 1) := by decide +kernel
theorem dX11_number_49 : decode cX11_number 49 = .ok (.invokevirtual 119, 3) := by decide +kernel
theorem dX11_number_52 : decode cX11_number 52 = .ok (.iadd, 1) := by decide +kernel
theorem dX11_number_53 : decode cX11_number 53 = .ok (.bipush 48, 2) := by decide +kernel
theorem dX11_number_55 : decode cX11_number 55 = .ok (.isub, 1) := by decide +kernel
theorem dX11_number_56 : decode cX11_number 56 = .ok (.istore_n 3, 1) := by decide +kernel
theorem dX11_number_57 : decode cX11_number 57 = .ok (.aload_n 0, 1) := by decide +kernel
theorem dX11_number_58 : decode cX11_number 58 = .ok (.dup, 1) := by decide +kernel
theorem dX11_number_59 : decode cX11_number 59 = .ok (.getfield 116, 3) := by decide +kernel
theorem dX11_number_62 : decode cX11_number 62 = .ok (.iconst 1, 1) := by decide +kernel
theorem dX11_number_63 : decode cX11_number 63 = .ok (.iadd, 1) := by decide +kernel
theorem dX11_number_64 : decode cX11_number 64 = .ok (.putfield 116, 3) := by decide +kernel
theorem dX11_number_67 : decode cX11_number 67 = .ok (.aload_n 0, 1) := by decide +kernel
theorem dX11_number_68 : decode cX11_number 68 = .ok (.invokevirtual 119, 3) := by decide +kernel
theorem dX11_number_71 : decode cX11_number 71 = .ok (.invokestatic 138, 3) := by decide +kernel
theorem dX11_number_74 : decode cX11_number 74 = .ok (.ifCond .eq 10, 3) := by decide +kernel
theorem dX11_number_77 : decode cX11_number 77 = .ok (.aload_n 0, 1) := by decide +kernel
theorem dX11_number_78 : decode cX11_number 78 = .ok (.invokevirtual 132, 3) := by decide +kernel
theorem dX11_number_81 : decode cX11_number 81 = .ok (.goto 26, 3) := by decide +kernel
theorem dX11_number_84 : decode cX11_number 84 = .ok (.iload_n 3, 1) := by decide +kernel
theorem dX11_number_85 : decode cX11_number 85 = .ok (.iload_n 1, 1) := by decide +kernel
theorem dX11_number_86 : decode cX11_number 86 = .ok (.iload_n 2, 1) := by decide +kernel
theorem dX11_number_87 : decode cX11_number 87 = .ok (.invokestatic 221, 3) := by decide +kernel
theorem dX11_number_90 : decode cX11_number 90 = .ok (.ifCond .ne 17, 3) := by decide +kernel
theorem dX11_number_93 : decode cX11_number 93 = .ok (.aload_n 0, 1) := by decide +kernel
theorem dX11_number_94 : decode cX11_number 94 = .ok (.dup, 1) := by decide +kernel
theorem dX11_number_95 : decode cX11_number 95 = .ok (.getfield 116, 3) := by decide +kernel
theorem dX11_number_98 : decode cX11_number 98 = .ok (.iconst 1, 1) := by decide +kernel
theorem dX11_number_99 : decode cX11_number 99 = .ok (.isub, 1) := by decide +kernel
theorem dX11_number_100 : decode cX11_number 100 = .ok (.putfield 116, 3) := by decide +kernel
theorem dX11_number_103 : decode cX11_number 103 = .ok (.aload_n 0, 1) := by decide +kernel
theorem dX11_number_104 : decode cX11_number 104 = .ok (.invokevirtual 132, 3) := by decide +kernel
theorem dX11_number_107 : decode cX11_number 107 = .ok (.iload_n 3, 1) := by decide +kernel
theorem dX11_number_108 : decode cX11_number 108 = .ok (.ireturn, 1) := by decide +kernel
theorem dX11_itemOf_0 : decode cX11_itemOf 0 = .ok (.iload_n 0, 1) := by decide +kernel
theorem dX11_itemOf_1 : decode cX11_itemOf 1 = .ok (.lookupswitch 121 #[(109, 69), (115, 27)], 27) := by decide +kernel
theorem dX11_itemOf_28 : decode cX11_itemOf 28 = .ok (.iload_n 1, 1) := by decide +kernel
theorem dX11_itemOf_29 : decode cX11_itemOf 29 = .ok (.bipush 109, 2) := by decide +kernel
theorem dX11_itemOf_31 : decode cX11_itemOf 31 = .ok (.if_icmp .ne 7, 3) := by decide +kernel
theorem dX11_itemOf_34 : decode cX11_itemOf 34 = .ok (.iconst 0, 1) := by decide +kernel
theorem dX11_itemOf_35 : decode cX11_itemOf 35 = .ok (.goto 34, 3) := by decide +kernel
theorem dX11_itemOf_38 : decode cX11_itemOf 38 = .ok (.iload_n 1, 1) := by decide +kernel
theorem dX11_itemOf_39 : decode cX11_itemOf 39 = .ok (.bipush 102, 2) := by decide +kernel
theorem dX11_itemOf_41 : decode cX11_itemOf 41 = .ok (.if_icmp .ne 7, 3) := by decide +kernel
theorem dX11_itemOf_44 : decode cX11_itemOf 44 = .ok (.iconst 1, 1) := by decide +kernel
theorem dX11_itemOf_45 : decode cX11_itemOf 45 = .ok (.goto 24, 3) := by decide +kernel
theorem dX11_itemOf_48 : decode cX11_itemOf 48 = .ok (.iload_n 1, 1) := by decide +kernel
theorem dX11_itemOf_49 : decode cX11_itemOf 49 = .ok (.bipush 104, 2) := by decide +kernel
theorem dX11_itemOf_51 : decode cX11_itemOf 51 = .ok (.if_icmp .ne 7, 3) := by decide +kernel
theorem dX11_itemOf_54 : decode cX11_itemOf 54 = .ok (.iconst 2, 1) := by decide +kernel
theorem dX11_itemOf_55 : decode cX11_itemOf 55 = .ok (.goto 14, 3) := by decide +kernel
theorem dX11_itemOf_58 : decode cX11_itemOf 58 = .ok (.iload_n 1, 1) := by decide +kernel
theorem dX11_itemOf_59 : decode cX11_itemOf 59 = .ok (.bipush 112, 2) := by decide +kernel
theorem dX11_itemOf_61 : decode cX11_itemOf 61 = .ok (.if_icmp .ne 7, 3) := by decide +kernel
theorem dX11_itemOf_64 : decode cX11_itemOf 64 = .ok (.iconst 3, 1) := by decide +kernel
theorem dX11_itemOf_65 : decode cX11_itemOf 65 = .ok (.goto 4, 3) := by decide +kernel
theorem dX11_itemOf_68 : decode cX11_itemOf 68 = .ok (.iconst (-1), 1) := by decide +kernel
theorem dX11_itemOf_69 : decode cX11_itemOf 69 = .ok (.ireturn, 1) := by decide +kernel
theorem dX11_itemOf_70 : decode cX11_itemOf 70 = .ok (.iload_n 1, 1) := by decide +kernel
theorem dX11_itemOf_71 : decode cX11_itemOf 71 = .ok (.bipush 108, 2) := by decide +kernel
theorem dX11_itemOf_73 : decode cX11_itemOf 73 = .ok (.if_icmp .ne 7, 3) := by decide +kernel
theorem dX11_itemOf_76 : decode cX11_itemOf 76 = .ok (.iconst 0, 1) := by decide +kernel
theorem dX11_itemOf_77 : decode cX11_itemOf 77 = .ok (.goto 44, 3) := by decide +kernel
theorem dX11_itemOf_80 : decode cX11_itemOf 80 = .ok (.iload_n 1, 1) := by decide +kernel
theorem dX11_itemOf_81 : decode cX11_itemOf 81 = .ok (.bipush 103, 2) := by decide +kernel
theorem dX11_itemOf_83 : decode cX11_itemOf 83 = .ok (.if_icmp .ne 7, 3) := by decide +kernel
theorem dX11_itemOf_86 : decode cX11_itemOf 86 = .ok (.iconst 1, 1) := by decide +kernel
theorem dX11_itemOf_87 : decode cX11_itemOf 87 = .ok (.goto 34, 3) := by decide +kernel
theorem dX11_itemOf_90 : decode cX11_itemOf 90 = .ok (.iload_n 1, 1) := by decide +kernel
theorem dX11_itemOf_91 : decode cX11_itemOf 91 = .ok (.bipush 115, 2) := by decide +kernel
theorem dX11_itemOf_93 : decode cX11_itemOf 93 = .ok (.if_icmp .ne 7, 3) := by decide +kernel
theorem dX11_itemOf_96 : decode cX11_itemOf 96 = .ok (.iconst 2, 1) := by decide +kernel
theorem dX11_itemOf_97 : decode cX11_itemOf 97 = .ok (.goto 24, 3) := by decide +kernel
theorem dX11_itemOf_100 : decode cX11_itemOf 100 = .ok (.iload_n 1, 1) := by decide +kernel
theorem dX11_itemOf_101 : decode cX11_itemOf 101 = .ok (.bipush 114, 2) := by decide +kernel
theorem dX11_itemOf_103 : decode cX11_itemOf 103 = .ok (.if_icmp .ne 7, 3) := by decide +kernel
theorem dX11_itemOf_106 : decode cX11_itemOf 106 = .ok (.iconst 3, 1) := by decide +kernel
theorem dX11_itemOf_107 : decode cX11_itemOf 107 = .ok (.goto 14, 3) := by decide +kernel
theorem dX11_itemOf_110 : decode cX11_itemOf 110 = .ok (.iload_n 1, 1) := by decide +kernel
theorem dX11_itemOf_111 : decode cX11_itemOf 111 = .ok (.bipush 112, 2) := by decide +kernel
theorem dX11_itemOf_113 : decode cX11_itemOf 113 = .ok (.if_icmp .ne 7, 3) := by decide +kernel
theorem dX11_itemOf_116 : decode cX11_itemOf 116 = .ok (.iconst 4, 1) := by decide +kernel
theorem dX11_itemOf_117 : decode cX11_itemOf 117 = .ok (.goto 4, 3) := by decide +kernel
theorem dX11_itemOf_120 : decode cX11_itemOf 120 = .ok (.iconst (-1), 1) := by decide +kernel
theorem dX11_itemOf_121 : decode cX11_itemOf 121 = .ok (.ireturn, 1) := by decide +kernel
theorem dX11_itemOf_122 : decode cX11_itemOf 122 = .ok (.iload_n 1, 1) := by decide +kernel
theorem dX11_itemOf_123 : decode cX11_itemOf 123 = .ok (.bipush 115, 2) := by decide +kernel
theorem dX11_itemOf_125 : decode cX11_itemOf 125 = .ok (.if_icmp .ne 7, 3) := by decide +kernel
theorem dX11_itemOf_128 : decode cX11_itemOf 128 = .ok (.iconst 0, 1) := by decide +kernel
theorem dX11_itemOf_129 : decode cX11_itemOf 129 = .ok (.goto 24, 3) := by decide +kernel
theorem dX11_itemOf_132 : decode cX11_itemOf 132 = .ok (.iload_n 1, 1) := by decide +kernel
theorem dX11_itemOf_133 : decode cX11_itemOf 133 = .ok (.bipush 114, 2) := by decide +kernel
theorem dX11_itemOf_135 : decode cX11_itemOf 135 = .ok (.if_icmp .ne 7, 3) := by decide +kernel
theorem dX11_itemOf_138 : decode cX11_itemOf 138 = .ok (.iconst 1, 1) := by decide +kernel
theorem dX11_itemOf_139 : decode cX11_itemOf 139 = .ok (.goto 14, 3) := by decide +kernel
theorem dX11_itemOf_142 : decode cX11_itemOf 142 = .ok (.iload_n 1, 1) := by decide +kernel
theorem dX11_itemOf_143 : decode cX11_itemOf 143 = .ok (.bipush 118, 2) := by decide +kernel
theorem dX11_itemOf_145 : decode cX11_itemOf 145 = .ok (.if_icmp .ne 7, 3) := by decide +kernel
theorem dX11_itemOf_148 : decode cX11_itemOf 148 = .ok (.iconst 2, 1) := by decide +kernel
theorem dX11_itemOf_149 : decode cX11_itemOf 149 = .ok (.goto 4, 3) := by decide +kernel
theorem dX11_itemOf_152 : decode cX11_itemOf 152 = .ok (.iconst (-1), 1) := by decide +kernel
theorem dX11_itemOf_153 : decode cX11_itemOf 153 = .ok (.ireturn, 1) := by decide +kernel
theorem dX11_lowest_0 : decode cX11_lowest 0 = .ok (.iload_n 0, 1) := by decide +kernel
theorem dX11_lowest_1 : decode cX11_lowest 1 = .ok (.bipush 115, 2) := by decide +kernel
theorem dX11_lowest_3 : decode cX11_lowest 3 = .ok (.if_icmp .ne 7, 3) := by decide +kernel
theorem dX11_lowest_6 : decode cX11_lowest 6 = .ok (.iload_n 1, 1) := by decide +kernel
theorem dX11_lowest_7 : decode cX11_lowest 7 = .ok (.ifCond .eq 18, 3) := by decide +kernel
theorem dX11_lowest_10 : decode cX11_lowest 10 = .ok (.iload_n 0, 1) := by decide +kernel
theorem dX11_lowest_11 : decode cX11_lowest 11 = .ok (.bipush 109, 2) := by decide +kernel
theorem dX11_lowest_13 : decode cX11_lowest 13 = .ok (.if_icmp .ne 16, 3) := by decide +kernel
theorem dX11_lowest_16 : decode cX11_lowest 16 = .ok (.iload_n 1, 1) := by decide +kernel
theorem dX11_lowest_17 : decode cX11_lowest 17 = .ok (.ifCond .eq 8, 3) := by decide +kernel
theorem dX11_lowest_20 : decode cX11_lowest 20 = .ok (.iload_n 1, 1) := by decide +kernel
theorem dX11_lowest_21 : decode cX11_lowest 21 = .ok (.iconst 4, 1) := by decide +kernel
theorem dX11_lowest_22 : decode cX11_lowest 22 = .ok (.if_icmp .ne 7, 3) := by decide +kernel
theorem dX11_lowest_25 : decode cX11_lowest 25 = .ok (.iconst 1, 1) := by decide +kernel
theorem dX11_lowest_26 : decode cX11_lowest 26 = .ok (.goto 4, 3) := by decide +kernel
theorem dX11_lowest_29 : decode cX11_lowest 29 = .ok (.iconst 0, 1) := by decide +kernel
theorem dX11_lowest_30 : decode cX11_lowest 30 = .ok (.ireturn, 1) := by decide +kernel
theorem dX11_highest_0 : decode cX11_highest 0 = .ok (.iload_n 0, 1) := by decide +kernel
theorem dX11_highest_1 : decode cX11_highest 1 = .ok (.lookupswitch 52 #[(109, 49), (115, 27)], 27) := by decide +kernel
theorem dX11_highest_28 : decode cX11_highest 28 = .ok (.iload_n 1, 1) := by decide +kernel
theorem dX11_highest_29 : decode cX11_highest 29 = .ok (.ifCond .ne 8, 3) := by decide +kernel
theorem dX11_highest_32 : decode cX11_highest 32 = .ok (.bipush 30, 2) := by decide +kernel
theorem dX11_highest_34 : decode cX11_highest 34 = .ok (.goto 15, 3) := by decide +kernel
theorem dX11_highest_37 : decode cX11_highest 37 = .ok (.iload_n 1, 1) := by decide +kernel
theorem dX11_highest_38 : decode cX11_highest 38 = .ok (.iconst 2, 1) := by decide +kernel
theorem dX11_highest_39 : decode cX11_highest 39 = .ok (.if_icmp .ne 8, 3) := by decide +kernel
theorem dX11_highest_42 : decode cX11_highest 42 = .ok (.bipush 9, 2) := by decide +kernel
theorem dX11_highest_44 : decode cX11_highest 44 = .ok (.goto 5, 3) := by decide +kernel
theorem dX11_highest_47 : decode cX11_highest 47 = .ok (.bipush 99, 2) := by decide +kernel
theorem dX11_highest_49 : decode cX11_highest 49 = .ok (.ireturn, 1) := by decide +kernel
theorem dX11_highest_50 : decode cX11_highest 50 = .ok (.bipush 9, 2) := by decide +kernel
theorem dX11_highest_52 : decode cX11_highest 52 = .ok (.ireturn, 1) := by decide +kernel
theorem dX11_highest_53 : decode cX11_highest 53 = .ok (.bipush 99, 2) := by decide +kernel
theorem dX11_highest_55 : decode cX11_highest 55 = .ok (.ireturn, 1) := by decide +kernel
theorem dX11_usual_0 : decode cX11_usual 0 = .ok (.iload_n 0, 1) := by decide +kernel
theorem dX11_usual_1 : decode cX11_usual 1 = .ok (.lookupswitch 78 #[(109, 58), (115, 27)], 27) := by decide +kernel
theorem dX11_usual_28 : decode cX11_usual 28 = .ok (.iload_n 1, 1) := by decide +kernel
theorem dX11_usual_29 : decode cX11_usual 29 = .ok (.ifCond .ne 8, 3) := by decide +kernel
theorem dX11_usual_32 : decode cX11_usual 32 = .ok (.bipush 12, 2) := by decide +kernel
theorem dX11_usual_34 : decode cX11_usual 34 = .ok (.goto 24, 3) := by decide +kernel
theorem dX11_usual_37 : decode cX11_usual 37 = .ok (.iload_n 1, 1) := by decide +kernel
theorem dX11_usual_38 : decode cX11_usual 38 = .ok (.iconst 1, 1) := by decide +kernel
theorem dX11_usual_39 : decode cX11_usual 39 = .ok (.if_icmp .ne 8, 3) := by decide +kernel
theorem dX11_usual_42 : decode cX11_usual 42 = .ok (.bipush 30, 2) := by decide +kernel
theorem dX11_usual_44 : decode cX11_usual 44 = .ok (.goto 14, 3) := by decide +kernel
theorem dX11_usual_47 : decode cX11_usual 47 = .ok (.iload_n 1, 1) := by decide +kernel
theorem dX11_usual_48 : decode cX11_usual 48 = .ok (.iconst 2, 1) := by decide +kernel
theorem dX11_usual_49 : decode cX11_usual 49 = .ok (.if_icmp .ne 7, 3) := by decide +kernel
theorem dX11_usual_52 : decode cX11_usual 52 = .ok (.iconst 2, 1) := by decide +kernel
theorem dX11_usual_53 : decode cX11_usual 53 = .ok (.goto 5, 3) := by decide +kernel
theorem dX11_usual_56 : decode cX11_usual 56 = .ok (.bipush 10, 2) := by decide +kernel
theorem dX11_usual_58 : decode cX11_usual 58 = .ok (.ireturn, 1) := by decide +kernel
theorem dX11_usual_59 : decode cX11_usual 59 = .ok (.iload_n 1, 1) := by decide +kernel
theorem dX11_usual_60 : decode cX11_usual 60 = .ok (.iconst 1, 1) := by decide +kernel
theorem dX11_usual_61 : decode cX11_usual 61 = .ok (.if_icmp .ne 7, 3) := by decide +kernel
theorem dX11_usual_64 : decode cX11_usual 64 = .ok (.iconst 0, 1) := by decide +kernel
theorem dX11_usual_65 : decode cX11_usual 65 = .ok (.goto 13, 3) := by decide +kernel
theorem dX11_usual_68 : decode cX11_usual 68 = .ok (.iload_n 1, 1) := by decide +kernel
theorem dX11_usual_69 : decode cX11_usual 69 = .ok (.iconst 4, 1) := by decide +kernel
theorem dX11_usual_70 : decode cX11_usual 70 = .ok (.if_icmp .ne 7, 3) := by decide +kernel
theorem dX11_usual_73 : decode cX11_usual 73 = .ok (.iconst 4, 1) := by decide +kernel
theorem dX11_usual_74 : decode cX11_usual 74 = .ok (.goto 4, 3) := by decide +kernel
theorem dX11_usual_77 : decode cX11_usual 77 = .ok (.iconst 3, 1) := by decide +kernel
theorem dX11_usual_78 : decode cX11_usual 78 = .ok (.ireturn, 1) := by decide +kernel
theorem dX11_usual_79 : decode cX11_usual 79 = .ok (.bipush 10, 2) := by decide +kernel
theorem dX11_usual_81 : decode cX11_usual 81 = .ok (.ireturn, 1) := by decide +kernel
theorem dX11_items_0 : decode cX11_items 0 = .ok (.iconst 0, 1) := by decide +kernel
theorem dX11_items_1 : decode cX11_items 1 = .ok (.istore 5, 2) := by decide +kernel
theorem dX11_items_3 : decode cX11_items 3 = .ok (.iload 5, 2) := by decide +kernel
theorem dX11_items_5 : decode cX11_items 5 = .ok (.iload 4, 2) := by decide +kernel
theorem dX11_items_7 : decode cX11_items 7 = .ok (.if_icmp .ge 21, 3) := by decide +kernel
theorem dX11_items_10 : decode cX11_items 10 = .ok (.aload_n 2, 1) := by decide +kernel
theorem dX11_items_11 : decode cX11_items 11 = .ok (.iload_n 3, 1) := by decide +kernel
theorem dX11_items_12 : decode cX11_items 12 = .ok (.iload 5, 2) := by decide +kernel
theorem dX11_items_14 : decode cX11_items 14 = .ok (.iadd, 1) := by decide +kernel
theorem dX11_items_15 : decode cX11_items 15 = .ok (.iload_n 1, 1) := by decide +kernel
theorem dX11_items_16 : decode cX11_items 16 = .ok (.iload 5, 2) := by decide +kernel
theorem dX11_items_18 : decode cX11_items 18 = .ok (.invokestatic 225, 3) := by decide +kernel
theorem dX11_items_21 : decode cX11_items 21 = .ok (.iastore, 1) := by decide +kernel
theorem dX11_items_22 : decode cX11_items 22 = .ok (.iinc 5 1, 3) := by decide +kernel
theorem dX11_items_25 : decode cX11_items 25 = .ok (.goto (-22), 3) := by decide +kernel
theorem dX11_items_28 : decode cX11_items 28 = .ok (.iconst 0, 1) := by decide +kernel
theorem dX11_items_29 : decode cX11_items 29 = .ok (.istore 5, 2) := by decide +kernel
theorem dX11_items_31 : decode cX11_items 31 = .ok (.iload_n 1, 1) := by decide +kernel
theorem dX11_items_32 : decode cX11_items 32 = .ok (.aload_n 0, 1) := by decide +kernel
theorem dX11_items_33 : decode cX11_items 33 = .ok (.invokevirtual 135, 3) := by decide +kernel
theorem dX11_items_36 : decode cX11_items 36 = .ok (.invokestatic 229, 3) := by decide +kernel
theorem dX11_items_39 : decode cX11_items 39 = .ok (.istore 6, 2) := by decide +kernel
theorem dX11_items_41 : decode cX11_items 41 = .ok (.aload_n 0, 1) := by decide +kernel
theorem dX11_items_42 : decode cX11_items 42 = .ok (.getfield 123, 3) := by decide +kernel
theorem dX11_items_45 : decode cX11_items 45 = .ok (.iconst (-1), 1) := by decide +kernel
theorem dX11_items_46 : decode cX11_items 46 = .ok (.if_icmp .ne 85, 3) := by decide +kernel
theorem dX11_items_49 : decode cX11_items 49 = .ok (.iload 6, 2) := by decide +kernel
theorem dX11_items_51 : decode cX11_items 51 = .ok (.iconst (-1), 1) := by decide +kernel
theorem dX11_items_52 : decode cX11_items 52 = .ok (.if_icmp .eq 79, 3) := by decide +kernel
theorem dX11_items_55 : decode cX11_items 55 = .ok (.iload 5, 2) := by decide +kernel
theorem dX11_items_57 : decode cX11_items 57 = .ok (.iload 6, 2) := by decide +kernel
theorem dX11_items_59 : decode cX11_items 59 = .ok (.invokestatic 232, 3) := by decide +kernel
theorem dX11_items_62 : decode cX11_items 62 = .ok (.ifCond .ne 69, 3) := by decide +kernel
theorem dX11_items_65 : decode cX11_items 65 = .ok (.iload 5, 2) := by decide +kernel
theorem dX11_items_67 : decode cX11_items 67 = .ok (.iconst 1, 1) := by decide +kernel
theorem dX11_items_68 : decode cX11_items 68 = .ok (.iload 6, 2) := by decide +kernel
theorem dX11_items_70 : decode cX11_items 70 = .ok (.ishl, 1) := by decide +kernel
theorem dX11_items_71 : decode cX11_items 71 = .ok (.ior, 1) := by decide +kernel
theorem dX11_items_72 : decode cX11_items 72 = .ok (.istore 5, 2) := by decide +kernel
theorem dX11_items_74 : decode cX11_items 74 = .ok (.aload_n 0, 1) := by decide +kernel
theorem dX11_items_75 : decode cX11_items 75 = .ok (.dup, 1) := by decide +kernel
theorem dX11_items_76 : decode cX11_items 76 = .ok (.getfield 116, 3) := by decide +kernel
theorem dX11_items_79 : decode cX11_items 79 = .ok (.iconst 1, 1) := by decide +kernel
theorem dX11_items_80 : decode cX11_items 80 = .ok (.iadd, 1) := by decide +kernel
theorem dX11_items_81 : decode cX11_items 81 = .ok (.putfield 116, 3) := by decide +kernel
theorem dX11_items_84 : decode cX11_items 84 = .ok (.aload_n 2, 1) := by decide +kernel
theorem dX11_items_85 : decode cX11_items 85 = .ok (.iload_n 3, 1) := by decide +kernel
theorem dX11_items_86 : decode cX11_items 86 = .ok (.iload 6, 2) := by decide +kernel
theorem dX11_items_88 : decode cX11_items 88 = .ok (.iadd, 1) := by decide +kernel
theorem dX11_items_89 : decode cX11_items 89 = .ok (.aload_n 0, 1) := by decide +kernel
theorem dX11_items_90 : decode cX11_items 90 = .ok (.iload_n 1, 1) := by decide +kernel
theorem dX11_items_91 : decode cX11_items 91 = .ok (.iload 6, 2) := by decide +kernel
theorem dX11_items_93 : decode cX11_items 93 = .ok (.invokestatic 236, 3) := by decide +kernel
theorem dX11_items_96 : decode cX11_items 96 = .ok (.iload_n 1, 1) := by decide +kernel
theorem dX11_items_97 : decode cX11_items 97 = .ok (.iload 6, 2) := by decide +kernel
theorem dX11_items_99 : decode cX11_items 99 = .ok (.invokestatic 239, 3) := by decide +kernel
theorem dX11_items_102 : decode cX11_items 102 = .ok (.invokevirtual 242, 3) := by decide +kernel
theorem dX11_items_105 : decode cX11_items 105 = .ok (.iastore, 1) := by decide +kernel
theorem dX11_items_106 : decode cX11_items 106 = .ok (.aload_n 0, 1) := by decide +kernel
theorem dX11_items_107 : decode cX11_items 107 = .ok (.getfield 123, 3) := by decide +kernel
theorem dX11_items_110 : decode cX11_items 110 = .ok (.iconst (-1), 1) := by decide +kernel
theorem dX11_items_111 : decode cX11_items 111 = .ok (.if_icmp .ne 14, 3) := by decide +kernel
theorem dX11_items_114 : decode cX11_items 114 = .ok (.iload_n 1, 1) := by decide +kernel
theorem dX11_items_115 : decode cX11_items 115 = .ok (.aload_n 0, 1) := by decide +kernel
theorem dX11_items_116 : decode cX11_items 116 = .ok (.invokevirtual 135, 3) := by decide +kernel
theorem dX11_items_119 : decode cX11_items 119 = .ok (.invokestatic 229, 3) := by decide +kernel
theorem dX11_items_122 : decode cX11_items 122 = .ok (.goto 4, 3) := by decide +kernel
theorem dX11_items_125 : decode cX11_items 125 = .ok (.iconst (-1), 1) := by decide +kernel
theorem dX11_items_126 : decode cX11_items 126 = .ok (.istore 6, 2) := by decide +kernel
theorem dX11_items_128 : decode cX11_items 128 = .ok (.goto (-87), 3) := by decide +kernel
theorem dX11_items_131 : decode cX11_items 131 = .ok (.return_, 1) := by decide +kernel
theorem dX11_readPlain_0 : decode cX11_readPlain 0 = .ok (.aload_n 0, 1) := by decide +kernel
theorem dX11_readPlain_1 : decode cX11_readPlain 1 = .ok (.iconst 0, 1) := by decide +kernel
theorem dX11_readPlain_2 : decode cX11_readPlain 2 = .ok (.putfield 116, 3) := by decide +kernel
theorem dX11_readPlain_5 : decode cX11_readPlain 5 = .ok (.aload_n 0, 1) := by decide +kernel
theorem dX11_readPlain_6 : decode cX11_readPlain 6 = .ok (.iconst (-1), 1) := by decide +kernel
theorem dX11_readPlain_7 : decode cX11_readPlain 7 = .ok (.putfield 123, 3) := by decide +kernel
theorem dX11_readPlain_10 : decode cX11_readPlain 10 = .ok (.aload_n 0, 1) := by decide +kernel
theorem dX11_readPlain_11 : decode cX11_readPlain 11 = .ok (.iconst 0, 1) := by decide +kernel
theorem dX11_readPlain_12 : decode cX11_readPlain 12 = .ok (.putfield 245, 3) := by decide +kernel
theorem dX11_readPlain_15 : decode cX11_readPlain 15 = .ok (.aload_n 0, 1) := by decide +kernel
theorem dX11_readPlain_16 : decode cX11_readPlain 16 = .ok (.iconst 0, 1) := by decide +kernel
theorem dX11_readPlain_17 : decode cX11_readPlain 17 = .ok (.putfield 248, 3) := by decide +kernel
theorem dX11_readPlain_20 : decode cX11_readPlain 20 = .ok (.iconst 0, 1) := by decide +kernel
theorem dX11_readPlain_21 : decode cX11_readPlain 21 = .ok (.istore_n 1, 1) := by decide +kernel
theorem dX11_readPlain_22 : decode cX11_readPlain 22 = .ok (.iconst 0, 1) := by decide +kernel
theorem dX11_readPlain_23 : decode cX11_readPlain 23 = .ok (.istore_n 2, 1) := by decide +kernel
theorem dX11_readPlain_24 : decode cX11_readPlain 24 = .ok (.iload_n 2, 1) := by decide +kernel
theorem dX11_readPlain_25 : decode cX11_readPlain 25 = .ok (.iconst 4, 1) := by decide +kernel
theorem dX11_readPlain_26 : decode cX11_readPlain 26 = .ok (.if_icmp .ge 21, 3) := by decide +kernel
theorem dX11_readPlain_29 : decode cX11_readPlain 29 = .ok (.aload_n 0, 1) := by decide +kernel
theorem dX11_readPlain_30 : decode cX11_readPlain 30 = .ok (.getfield 40, 3) := by decide +kernel
theorem dX11_readPlain_33 : decode cX11_readPlain 33 = .ok (.iload_n 2, 1) := by decide +kernel
theorem dX11_readPlain_34 : decode cX11_readPlain 34 = .ok (.bipush 115, 2) := by decide +kernel
theorem dX11_readPlain_36 : decode cX11_readPlain 36 = .ok (.iload_n 2, 1) := by decide +kernel
theorem dX11_readPlain_37 : decode cX11_readPlain 37 = .ok (.invokestatic 225, 3) := by decide +kernel
theorem dX11_readPlain_40 : decode cX11_readPlain 40 = .ok (.iastore, 1) := by decide +kernel
theorem dX11_readPlain_41 : decode cX11_readPlain 41 = .ok (.iinc 2 1, 3) := by decide +kernel
theorem dX11_readPlain_44 : decode cX11_readPlain 44 = .ok (.goto (-20), 3) := by decide +kernel
theorem dX11_readPlain_47 : decode cX11_readPlain 47 = .ok (.iconst 1, 1) := by decide +kernel
theorem dX11_readPlain_48 : decode cX11_readPlain 48 = .ok (.istore_n 2, 1) := by decide +kernel
theorem dX11_readPlain_49 : decode cX11_readPlain 49 = .ok (.iload_n 2, 1) := by decide +kernel
theorem dX11_readPlain_50 : decode cX11_readPlain 50 = .ok (.ifCond .eq 207, 3) := by decide +kernel
theorem dX11_readPlain_53 : decode cX11_readPlain 53 = .ok (.aload_n 0, 1) := by decide +kernel
theorem dX11_readPlain_54 : decode cX11_readPlain 54 = .ok (.getfield 123, 3) := by decide +kernel
theorem dX11_readPlain_57 : decode cX11_readPlain 57 = .ok (.iconst (-1), 1) := by decide +kernel
theorem dX11_readPlain_58 : decode cX11_readPlain 58 = .ok (.if_icmp .ne 199, 3) := by decide +kernel
theorem dX11_readPlain_61 : decode cX11_readPlain 61 = .ok (.aload_n 0, 1) := by decide +kernel
theorem dX11_readPlain_62 : decode cX11_readPlain 62 = .ok (.invokevirtual 135, 3) := by decide +kernel
theorem dX11_readPlain_65 : decode cX11_readPlain 65 = .ok (.istore_n 3, 1) := by decide +kernel
theorem dX11_readPlain_66 : decode cX11_readPlain 66 = .ok (.iload_n 3, 1) := by decide +kernel
theorem dX11_readPlain_67 : decode cX11_readPlain 67 = .ok (.bipush 115, 2) := by decide +kernel
theorem dX11_readPlain_69 : decode cX11_readPlain 69 = .ok (.if_icmp .ne 33, 3) := by decide +kernel
theorem dX11_readPlain_72 : decode cX11_readPlain 72 = .ok (.iload_n 1, 1) := by decide +kernel
theorem dX11_readPlain_73 : decode cX11_readPlain 73 = .ok (.ifCond .ne 29, 3) := by decide +kernel
theorem dX11_readPlain_76 : decode cX11_readPlain 76 = .ok (.iconst 1, 1) := by decide +kernel
theorem dX11_readPlain_77 : decode cX11_readPlain 77 = .ok (.istore_n 1, 1) := by decide +kernel
theorem dX11_readPlain_78 : decode cX11_readPlain 78 = .ok (.aload_n 0, 1) := by decide +kernel
theorem dX11_readPlain_79 : decode cX11_readPlain 79 = .ok (.dup, 1) := by decide +kernel
theorem dX11_readPlain_80 : decode cX11_readPlain 80 = .ok (.getfield 116, 3) := by decide +kernel
theorem dX11_readPlain_83 : decode cX11_readPlain 83 = .ok (.iconst 1, 1) := by decide +kernel
theorem dX11_readPlain_84 : decode cX11_readPlain 84 = .ok (.iadd, 1) := by decide +kernel
theorem dX11_readPlain_85 : decode cX11_readPlain 85 = .ok (.putfield 116, 3) := by decide +kernel
theorem dX11_readPlain_88 : decode cX11_readPlain 88 = .ok (.aload_n 0, 1) := by decide +kernel
theorem dX11_readPlain_89 : decode cX11_readPlain 89 = .ok (.iload_n 3, 1) := by decide +kernel
theorem dX11_readPlain_90 : decode cX11_readPlain 90 = .ok (.aload_n 0, 1) := by decide +kernel
theorem dX11_readPlain_91 : decode cX11_readPlain 91 = .ok (.getfield 40, 3) := by decide +kernel
theorem dX11_readPlain_94 : decode cX11_readPlain 94 = .ok (.iconst 0, 1) := by decide +kernel
theorem dX11_readPlain_95 : decode cX11_readPlain 95 = .ok (.iconst 4, 1) := by decide +kernel
theorem dX11_readPlain_96 : decode cX11_readPlain 96 = .ok (.invokevirtual 251, 3) := by decide +kernel
theorem dX11_readPlain_99 : decode cX11_readPlain 99 = .ok (.goto 114, 3) := by decide +kernel
theorem dX11_readPlain_102 : decode cX11_readPlain 102 = .ok (.iload_n 3, 1) := by decide +kernel
theorem dX11_readPlain_103 : decode cX11_readPlain 103 = .ok (.bipush 109, 2) := by decide +kernel
theorem dX11_readPlain_105 : decode cX11_readPlain 105 = .ok (.if_icmp .ne 51, 3) := by decide +kernel
theorem dX11_readPlain_108 : decode cX11_readPlain 108 = .ok (.aload_n 0, 1) := by decide +kernel
theorem dX11_readPlain_109 : decode cX11_readPlain 109 = .ok (.getfield 245, 3) := by decide +kernel
theorem dX11_readPlain_112 : decode cX11_readPlain 112 = .ok (.bipush 8, 2) := by decide +kernel
theorem dX11_readPlain_114 : decode cX11_readPlain 114 = .ok (.if_icmp .ge 42, 3) := by decide +kernel
theorem dX11_readPlain_117 : decode cX11_readPlain 117 = .ok (.aload_n 0, 1) := by decide +kernel
theorem dX11_readPlain_118 : decode cX11_readPlain 118 = .ok (.dup, 1) := by decide +kernel
theorem dX11_readPlain_119 : decode cX11_readPlain 119 = .ok (.getfield 116, 3) := by decide +kernel
theorem dX11_readPlain_122 : decode cX11_readPlain 122 = .ok (.iconst 1, 1) := by decide +kernel
theorem dX11_readPlain_123 : decode cX11_readPlain 123 = .ok (.iadd, 1) := by decide +kernel
theorem dX11_readPlain_124 : decode cX11_readPlain 124 = .ok (.putfield 116, 3) := by decide +kernel
theorem dX11_readPlain_127 : decode cX11_readPlain 127 = .ok (.aload_n 0, 1) := by decide +kernel
theorem dX11_readPlain_128 : decode cX11_readPlain 128 = .ok (.iload_n 3, 1) := by decide +kernel
theorem dX11_readPlain_129 : decode cX11_readPlain 129 = .ok (.aload_n 0, 1) := by decide +kernel
theorem dX11_readPlain_130 : decode cX11_readPlain 130 = .ok (.getfield 43, 3) := by decide +kernel
theorem dX11_readPlain_133 : decode cX11_readPlain 133 = .ok (.iconst 5, 1) := by decide +kernel
theorem dX11_readPlain_134 : decode cX11_readPlain 134 = .ok (.aload_n 0, 1) := by decide +kernel
theorem dX11_readPlain_135 : decode cX11_readPlain 135 = .ok (.getfield 245, 3) := by decide +kernel
theorem dX11_readPlain_138 : decode cX11_readPlain 138 = .ok (.imul, 1) := by decide +kernel
theorem dX11_readPlain_139 : decode cX11_readPlain 139 = .ok (.iconst 5, 1) := by decide +kernel
theorem dX11_readPlain_140 : decode cX11_readPlain 140 = .ok (.invokevirtual 251, 3) := by decide +kernel
theorem dX11_readPlain_143 : decode cX11_readPlain 143 = .ok (.aload_n 0, 1) := by decide +kernel
theorem dX11_readPlain_144 : decode cX11_readPlain 144 = .ok (.dup, 1) := by decide +kernel
theorem dX11_readPlain_145 : decode cX11_readPlain 145 = .ok (.getfield 245, 3) := by decide +kernel
theorem dX11_readPlain_148 : decode cX11_readPlain 148 = .ok (.iconst 1, 1) := by decide +kernel
theorem dX11_readPlain_149 : decode cX11_readPlain 149 = .ok (.iadd, 1) := by decide +kernel
theorem dX11_readPlain_150 : decode cX11_readPlain 150 = .ok (.putfield 245, 3) := by decide +kernel
theorem dX11_readPlain_153 : decode cX11_readPlain 153 = .ok (.goto 60, 3) := by decide +kernel
theorem dX11_readPlain_156 : decode cX11_readPlain 156 = .ok (.iload_n 3, 1) := by decide +kernel
theorem dX11_readPlain_157 : decode cX11_readPlain 157 = .ok (.bipush 99, 2) := by decide +kernel
theorem dX11_readPlain_159 : decode cX11_readPlain 159 = .ok (.if_icmp .ne 50, 3) := by decide +kernel
theorem dX11_readPlain_162 : decode cX11_readPlain 162 = .ok (.aload_n 0, 1) := by decide +kernel
theorem dX11_readPlain_163 : decode cX11_readPlain 163 = .ok (.getfield 248, 3) := by decide +kernel
theorem dX11_readPlain_166 : decode cX11_readPlain 166 = .ok (.iconst 5, 1) := by decide +kernel
theorem dX11_readPlain_167 : decode cX11_readPlain 167 = .ok (.if_icmp .ge 42, 3) := by decide +kernel
theorem dX11_readPlain_170 : decode cX11_readPlain 170 = .ok (.aload_n 0, 1) := by decide +kernel
theorem dX11_readPlain_171 : decode cX11_readPlain 171 = .ok (.dup, 1) := by decide +kernel
theorem dX11_readPlain_172 : decode cX11_readPlain 172 = .ok (.getfield 116, 3) := by decide +kernel
theorem dX11_readPlain_175 : decode cX11_readPlain 175 = .ok (.iconst 1, 1) := by decide +kernel
theorem dX11_readPlain_176 : decode cX11_readPlain 176 = .ok (.iadd, 1) := by decide +kernel
theorem dX11_readPlain_177 : decode cX11_readPlain 177 = .ok (.putfield 116, 3) := by decide +kernel
theorem dX11_readPlain_180 : decode cX11_readPlain 180 = .ok (.aload_n 0, 1) := by decide +kernel
theorem dX11_readPlain_181 : decode cX11_readPlain 181 = .ok (.iload_n 3, 1) := by decide +kernel
theorem dX11_readPlain_182 : decode cX11_readPlain 182 = .ok (.aload_n 0, 1) := by decide +kernel
theorem dX11_readPlain_183 : decode cX11_readPlain 183 = .ok (.getfield 46, 3) := by decide +kernel
theorem dX11_readPlain_186 : decode cX11_readPlain 186 = .ok (.iconst 3, 1) := by decide +kernel
theorem dX11_readPlain_187 : decode cX11_readPlain 187 = .ok (.aload_n 0, 1) := by decide +kernel
theorem dX11_readPlain_188 : decode cX11_readPlain 188 = .ok (.getfield 248, 3) := by decide +kernel
theorem dX11_readPlain_191 : decode cX11_readPlain 191 = .ok (.imul, 1) := by decide +kernel
theorem dX11_readPlain_192 : decode cX11_readPlain 192 = .ok (.iconst 3, 1) := by decide +kernel
theorem dX11_readPlain_193 : decode cX11_readPlain 193 = .ok (.invokevirtual 251, 3) := by decide +kernel
theorem dX11_readPlain_196 : decode cX11_readPlain 196 = .ok (.aload_n 0, 1) := by decide +kernel
theorem dX11_readPlain_197 : decode cX11_readPlain 197 = .ok (.dup, 1) := by decide +kernel
theorem dX11_readPlain_198 : decode cX11_readPlain 198 = .ok (.getfield 248, 3) := by decide +kernel
theorem dX11_readPlain_201 : decode cX11_readPlain 201 = .ok (.iconst 1, 1) := by decide +kernel
theorem dX11_readPlain_202 : decode cX11_readPlain 202 = .ok (.iadd, 1) := by decide +kernel
theorem dX11_readPlain_203 : decode cX11_readPlain 203 = .ok (.putfield 248, 3) := by decide +kernel
theorem dX11_readPlain_206 : decode cX11_readPlain 206 = .ok (.goto 7, 3) := by decide +kernel
theorem dX11_readPlain_209 : decode cX11_readPlain 209 = .ok (.aload_n 0, 1) := by decide +kernel
theorem dX11_readPlain_210 : decode cX11_readPlain 210 = .ok (.invokevirtual 132, 3) := by decide +kernel
theorem dX11_readPlain_213 : decode cX11_readPlain 213 = .ok (.aload_n 0, 1) := by decide +kernel
theorem dX11_readPlain_214 : decode cX11_readPlain 214 = .ok (.getfield 123, 3) := by decide +kernel
theorem dX11_readPlain_217 : decode cX11_readPlain 217 = .ok (.iconst (-1), 1) := by decide +kernel
theorem dX11_readPlain_218 : decode cX11_readPlain 218 = .ok (.if_icmp .ne 16, 3) := by decide +kernel
theorem dX11_readPlain_221 : decode cX11_readPlain 221 = .ok (.aload_n 0, 1) := by decide +kernel
theorem dX11_readPlain_222 : decode cX11_readPlain 222 = .ok (.invokevirtual 135, 3) := by decide +kernel
theorem dX11_readPlain_225 : decode cX11_readPlain 225 = .ok (.bipush 59, 2) := by decide +kernel
theorem dX11_readPlain_227 : decode cX11_readPlain 227 = .ok (.if_icmp .ne 7, 3) := by decide +kernel
theorem dX11_readPlain_230 : decode cX11_readPlain 230 = .ok (.iconst 1, 1) := by decide +kernel
theorem dX11_readPlain_231 : decode cX11_readPlain 231 = .ok (.goto 4, 3) := by decide +kernel
theorem dX11_readPlain_234 : decode cX11_readPlain 234 = .ok (.iconst 0, 1) := by decide +kernel
theorem dX11_readPlain_235 : decode cX11_readPlain 235 = .ok (.istore_n 2, 1) := by decide +kernel
theorem dX11_readPlain_236 : decode cX11_readPlain 236 = .ok (.aload_n 0, 1) := by decide +kernel
theorem dX11_readPlain_237 : decode cX11_readPlain 237 = .ok (.dup, 1) := by decide +kernel
theorem dX11_readPlain_238 : decode cX11_readPlain 238 = .ok (.getfield 116, 3) := by decide +kernel
theorem dX11_readPlain_241 : decode cX11_readPlain 241 = .ok (.iload_n 2, 1) := by decide +kernel
theorem dX11_readPlain_242 : decode cX11_readPlain 242 = .ok (.ifCond .eq 7, 3) := by decide +kernel
theorem dX11_readPlain_245 : decode cX11_readPlain 245 = .ok (.iconst 1, 1) := by decide +kernel
theorem dX11_readPlain_246 : decode cX11_readPlain 246 = .ok (.goto 4, 3) := by decide +kernel
theorem dX11_readPlain_249 : decode cX11_readPlain 249 = .ok (.iconst 0, 1) := by decide +kernel
theorem dX11_readPlain_250 : decode cX11_readPlain 250 = .ok (.iadd, 1) := by decide +kernel
theorem dX11_readPlain_251 : decode cX11_readPlain 251 = .ok (.putfield 116, 3) := by decide +kernel
theorem dX11_readPlain_254 : decode cX11_readPlain 254 = .ok (.goto (-205), 3) := by decide +kernel
theorem dX11_readPlain_257 : decode cX11_readPlain 257 = .ok (.aload_n 0, 1) := by decide +kernel
theorem dX11_readPlain_258 : decode cX11_readPlain 258 = .ok (.getfield 123, 3) := by decide +kernel
theorem dX11_readPlain_261 : decode cX11_readPlain 261 = .ok (.iconst (-1), 1) := by decide +kernel
theorem dX11_readPlain_262 : decode cX11_readPlain 262 = .ok (.if_icmp .ne 30, 3) := by decide +kernel
theorem dX11_readPlain_265 : decode cX11_readPlain 265 = .ok (.aload_n 0, 1) := by decide +kernel
theorem dX11_readPlain_266 : decode cX11_readPlain 266 = .ok (.invokevirtual 135, 3) := by decide +kernel
theorem dX11_readPlain_269 : decode cX11_readPlain 269 = .ok (.iconst (-1), 1) := by decide +kernel
theorem dX11_readPlain_270 : decode cX11_readPlain 270 = .ok (.if_icmp .ne 18, 3) := by decide +kernel
theorem dX11_readPlain_273 : decode cX11_readPlain 273 = .ok (.aload_n 0, 1) := by decide +kernel
theorem dX11_readPlain_274 : decode cX11_readPlain 274 = .ok (.getfield 245, 3) := by decide +kernel
theorem dX11_readPlain_277 : decode cX11_readPlain 277 = .ok (.iconst 2, 1) := by decide +kernel
theorem dX11_readPlain_278 : decode cX11_readPlain 278 = .ok (.if_icmp .lt 10, 3) := by decide +kernel
theorem dX11_readPlain_281 : decode cX11_readPlain 281 = .ok (.aload_n 0, 1) := by decide +kernel
theorem dX11_readPlain_282 : decode cX11_readPlain 282 = .ok (.getfield 248, 3) := by decide +kernel
theorem dX11_readPlain_285 : decode cX11_readPlain 285 = .ok (.ifCond .ne 7, 3) := by decide +kernel
theorem dX11_readPlain_288 : decode cX11_readPlain 288 = .ok (.aload_n 0, 1) := by decide +kernel
theorem dX11_readPlain_289 : decode cX11_readPlain 289 = .ok (.invokevirtual 132, 3) := by decide +kernel
theorem dX11_readPlain_292 : decode cX11_readPlain 292 = .ok (.aload_n 0, 1) := by decide +kernel
theorem dX11_readPlain_293 : decode cX11_readPlain 293 = .ok (.getfield 123, 3) := by decide +kernel
theorem dX11_readPlain_296 : decode cX11_readPlain 296 = .ok (.ireturn, 1) := by decide +kernel
theorem dX11_fault_0 : decode cX11_fault 0 = .ok (.iload_n 1, 1) := by decide +kernel
theorem dX11_fault_1 : decode cX11_fault 1 = .ok (.ifCond .ne 10, 3) := by decide +kernel
theorem dX11_fault_4 : decode cX11_fault 4 = .ok (.aload_n 0, 1) := by decide +kernel
theorem dX11_fault_5 : decode cX11_fault 5 = .ok (.invokevirtual 255, 3) := by decide +kernel
theorem dX11_fault_8 : decode cX11_fault 8 = .ok (.goto 18, 3) := by decide +kernel
theorem dX11_fault_11 : decode cX11_fault 11 = .ok (.iload_n 1, 1) := by decide +kernel
theorem dX11_fault_12 : decode cX11_fault 12 = .ok (.iconst 1, 1) := by decide +kernel
theorem dX11_fault_13 : decode cX11_fault 13 = .ok (.if_icmp .ne 11, 3) := by decide +kernel
theorem dX11_fault_16 : decode cX11_fault 16 = .ok (.aload_n 0, 1) := by decide +kernel
theorem dX11_fault_17 : decode cX11_fault 17 = .ok (.iconst 4, 1) := by decide +kernel
theorem dX11_fault_18 : decode cX11_fault 18 = .ok (.invokevirtual 258, 3) := by decide +kernel
theorem dX11_fault_21 : decode cX11_fault 21 = .ok (.goto 5, 3) := by decide +kernel
theorem dX11_fault_24 : decode cX11_fault 24 = .ok (.bipush (-2), 2) := by decide +kernel
theorem dX11_fault_26 : decode cX11_fault 26 = .ok (.ireturn, 1) := by decide +kernel
theorem dX11_begin_0 : decode cX11_begin 0 = .ok (.iconst 0, 1) := by decide +kernel
theorem dX11_begin_1 : decode cX11_begin 1 = .ok (.istore_n 1, 1) := by decide +kernel
theorem dX11_begin_2 : decode cX11_begin 2 = .ok (.iload_n 1, 1) := by decide +kernel
theorem dX11_begin_3 : decode cX11_begin 3 = .ok (.bipush 43, 2) := by decide +kernel
theorem dX11_begin_5 : decode cX11_begin 5 = .ok (.if_icmp .ge 16, 3) := by decide +kernel
theorem dX11_begin_8 : decode cX11_begin 8 = .ok (.aload_n 0, 1) := by decide +kernel
theorem dX11_begin_9 : decode cX11_begin 9 = .ok (.getfield 58, 3) := by decide +kernel
theorem dX11_begin_12 : decode cX11_begin 12 = .ok (.iload_n 1, 1) := by decide +kernel
theorem dX11_begin_13 : decode cX11_begin 13 = .ok (.iconst 0, 1) := by decide +kernel
theorem dX11_begin_14 : decode cX11_begin 14 = .ok (.iastore, 1) := by decide +kernel
theorem dX11_begin_15 : decode cX11_begin 15 = .ok (.iinc 1 1, 3) := by decide +kernel
theorem dX11_begin_18 : decode cX11_begin 18 = .ok (.goto (-16), 3) := by decide +kernel
theorem dX11_begin_21 : decode cX11_begin 21 = .ok (.iconst 0, 1) := by decide +kernel
theorem dX11_begin_22 : decode cX11_begin 22 = .ok (.istore_n 1, 1) := by decide +kernel
theorem dX11_begin_23 : decode cX11_begin 23 = .ok (.iload_n 1, 1) := by decide +kernel
theorem dX11_begin_24 : decode cX11_begin 24 = .ok (.aload_n 0, 1) := by decide +kernel
theorem dX11_begin_25 : decode cX11_begin 25 = .ok (.getfield 261, 3) := by decide +kernel
theorem dX11_begin_28 : decode cX11_begin 28 = .ok (.if_icmp .ge 53, 3) := by decide +kernel
theorem dX11_begin_31 : decode cX11_begin 31 = .ok (.aload_n 0, 1) := by decide +kernel
theorem dX11_begin_32 : decode cX11_begin 32 = .ok (.getfield 58, 3) := by decide +kernel
theorem dX11_begin_35 : decode cX11_begin 35 = .ok (.iconst 0, 1) := by decide +kernel
theorem dX11_begin_36 : decode cX11_begin 36 = .ok (.iload_n 1, 1) := by decide +kernel
theorem dX11_begin_37 : decode cX11_begin 37 = .ok (.iadd, 1) := by decide +kernel
theorem dX11_begin_38 : decode cX11_begin 38 = .ok (.aload_n 0, 1) := by decide +kernel
theorem dX11_begin_39 : decode cX11_begin 39 = .ok (.iload_n 1, 1) := by decide +kernel
theorem dX11_begin_40 : decode cX11_begin 40 = .ok (.iconst 1, 1) := by decide +kernel
theorem dX11_begin_41 : decode cX11_begin 41 = .ok (.invokevirtual 264, 3) := by decide +kernel
theorem dX11_begin_44 : decode cX11_begin 44 = .ok (.iastore, 1) := by decide +kernel
theorem dX11_begin_45 : decode cX11_begin 45 = .ok (.aload_n 0, 1) := by decide +kernel
theorem dX11_begin_46 : decode cX11_begin 46 = .ok (.getfield 58, 3) := by decide +kernel
theorem dX11_begin_49 : decode cX11_begin 49 = .ok (.bipush 8, 2) := by decide +kernel
theorem dX11_begin_51 : decode cX11_begin 51 = .ok (.iload_n 1, 1) := by decide +kernel
theorem dX11_begin_52 : decode cX11_begin 52 = .ok (.iadd, 1) := by decide +kernel
theorem dX11_begin_53 : decode cX11_begin 53 = .ok (.aload_n 0, 1) := by decide +kernel
theorem dX11_begin_54 : decode cX11_begin 54 = .ok (.iload_n 1, 1) := by decide +kernel
theorem dX11_begin_55 : decode cX11_begin 55 = .ok (.iconst 2, 1) := by decide +kernel
theorem dX11_begin_56 : decode cX11_begin 56 = .ok (.invokevirtual 264, 3) := by decide +kernel
theorem dX11_begin_59 : decode cX11_begin 59 = .ok (.iastore, 1) := by decide +kernel
theorem dX11_begin_60 : decode cX11_begin 60 = .ok (.aload_n 0, 1) := by decide +kernel
theorem dX11_begin_61 : decode cX11_begin 61 = .ok (.getfield 58, 3) := by decide +kernel
theorem dX11_begin_64 : decode cX11_begin 64 = .ok (.bipush 16, 2) := by decide +kernel
theorem dX11_begin_66 : decode cX11_begin 66 = .ok (.iload_n 1, 1) := by decide +kernel
theorem dX11_begin_67 : decode cX11_begin 67 = .ok (.iadd, 1) := by decide +kernel
theorem dX11_begin_68 : decode cX11_begin 68 = .ok (.aload_n 0, 1) := by decide +kernel
theorem dX11_begin_69 : decode cX11_begin 69 = .ok (.iload_n 1, 1) := by decide +kernel
theorem dX11_begin_70 : decode cX11_begin 70 = .ok (.iconst 3, 1) := by decide +kernel
theorem dX11_begin_71 : decode cX11_begin 71 = .ok (.invokevirtual 264, 3) := by decide +kernel
theorem dX11_begin_74 : decode cX11_begin 74 = .ok (.iastore, 1) := by decide +kernel
theorem dX11_begin_75 : decode cX11_begin 75 = .ok (.iinc 1 1, 3) := by decide +kernel
theorem dX11_begin_78 : decode cX11_begin 78 = .ok (.goto (-55), 3) := by decide +kernel
theorem dX11_begin_81 : decode cX11_begin 81 = .ok (.aload_n 0, 1) := by decide +kernel
theorem dX11_begin_82 : decode cX11_begin 82 = .ok (.getfield 58, 3) := by decide +kernel
theorem dX11_begin_85 : decode cX11_begin 85 = .ok (.bipush 35, 2) := by decide +kernel
theorem dX11_begin_87 : decode cX11_begin 87 = .ok (.aload_n 0, 1) := by decide +kernel
theorem dX11_begin_88 : decode cX11_begin 88 = .ok (.getfield 49, 3) := by decide +kernel
theorem dX11_begin_91 : decode cX11_begin 91 = .ok (.iconst 0, 1) := by decide +kernel
theorem dX11_begin_92 : decode cX11_begin 92 = .ok (.iaload, 1) := by decide +kernel
theorem dX11_begin_93 : decode cX11_begin 93 = .ok (.iastore, 1) := by decide +kernel
theorem dX11_begin_94 : decode cX11_begin 94 = .ok (.aload_n 0, 1) := by decide +kernel
theorem dX11_begin_95 : decode cX11_begin 95 = .ok (.getfield 58, 3) := by decide +kernel
theorem dX11_begin_98 : decode cX11_begin 98 = .ok (.bipush 36, 2) := by decide +kernel
theorem dX11_begin_100 : decode cX11_begin 100 = .ok (.aload_n 0, 1) := by decide +kernel
theorem dX11_begin_101 : decode cX11_begin 101 = .ok (.getfield 49, 3) := by decide +kernel
theorem dX11_begin_104 : decode cX11_begin 104 = .ok (.iconst 1, 1) := by decide +kernel
theorem dX11_begin_105 : decode cX11_begin 105 = .ok (.iaload, 1) := by decide +kernel
theorem dX11_begin_106 : decode cX11_begin 106 = .ok (.iastore, 1) := by decide +kernel
theorem dX11_begin_107 : decode cX11_begin 107 = .ok (.aload_n 0, 1) := by decide +kernel
theorem dX11_begin_108 : decode cX11_begin 108 = .ok (.getfield 58, 3) := by decide +kernel
theorem dX11_begin_111 : decode cX11_begin 111 = .ok (.bipush 37, 2) := by decide +kernel
theorem dX11_begin_113 : decode cX11_begin 113 = .ok (.aload_n 0, 1) := by decide +kernel
theorem dX11_begin_114 : decode cX11_begin 114 = .ok (.getfield 49, 3) := by decide +kernel
theorem dX11_begin_117 : decode cX11_begin 117 = .ok (.iconst 3, 1) := by decide +kernel
theorem dX11_begin_118 : decode cX11_begin 118 = .ok (.iaload, 1) := by decide +kernel
theorem dX11_begin_119 : decode cX11_begin 119 = .ok (.iastore, 1) := by decide +kernel
theorem dX11_begin_120 : decode cX11_begin 120 = .ok (.return_, 1) := by decide +kernel
theorem dX11_takePlain_0 : decode cX11_takePlain 0 = .ok (.aload_n 0, 1) := by decide +kernel
theorem dX11_takePlain_1 : decode cX11_takePlain 1 = .ok (.aload_n 0, 1) := by decide +kernel
theorem dX11_takePlain_2 : decode cX11_takePlain 2 = .ok (.getfield 245, 3) := by decide +kernel
theorem dX11_takePlain_5 : decode cX11_takePlain 5 = .ok (.putfield 261, 3) := by decide +kernel
theorem dX11_takePlain_8 : decode cX11_takePlain 8 = .ok (.aload_n 0, 1) := by decide +kernel
theorem dX11_takePlain_9 : decode cX11_takePlain 9 = .ok (.aload_n 0, 1) := by decide +kernel
theorem dX11_takePlain_10 : decode cX11_takePlain 10 = .ok (.getfield 248, 3) := by decide +kernel
theorem dX11_takePlain_13 : decode cX11_takePlain 13 = .ok (.putfield 267, 3) := by decide +kernel
theorem dX11_takePlain_16 : decode cX11_takePlain 16 = .ok (.iconst 0, 1) := by decide +kernel
theorem dX11_takePlain_17 : decode cX11_takePlain 17 = .ok (.istore_n 1, 1) := by decide +kernel
theorem dX11_takePlain_18 : decode cX11_takePlain 18 = .ok (.iload_n 1, 1) := by decide +kernel
theorem dX11_takePlain_19 : decode cX11_takePlain 19 = .ok (.iconst 4, 1) := by decide +kernel
theorem dX11_takePlain_20 : decode cX11_takePlain 20 = .ok (.if_icmp .ge 21, 3) := by decide +kernel
theorem dX11_takePlain_23 : decode cX11_takePlain 23 = .ok (.aload_n 0, 1) := by decide +kernel
theorem dX11_takePlain_24 : decode cX11_takePlain 24 = .ok (.getfield 49, 3) := by decide +kernel
theorem dX11_takePlain_27 : decode cX11_takePlain 27 = .ok (.iload_n 1, 1) := by decide +kernel
theorem dX11_takePlain_28 : decode cX11_takePlain 28 = .ok (.aload_n 0, 1) := by decide +kernel
theorem dX11_takePlain_29 : decode cX11_takePlain 29 = .ok (.getfield 40, 3) := by decide +kernel
theorem dX11_takePlain_32 : decode cX11_takePlain 32 = .ok (.iload_n 1, 1) := by decide +kernel
theorem dX11_takePlain_33 : decode cX11_takePlain 33 = .ok (.iaload, 1) := by decide +kernel
theorem dX11_takePlain_34 : decode cX11_takePlain 34 = .ok (.iastore, 1) := by decide +kernel
theorem dX11_takePlain_35 : decode cX11_takePlain 35 = .ok (.iinc 1 1, 3) := by decide +kernel
theorem dX11_takePlain_38 : decode cX11_takePlain 38 = .ok (.goto (-20), 3) := by decide +kernel
theorem dX11_takePlain_41 : decode cX11_takePlain 41 = .ok (.iconst 0, 1) := by decide +kernel
theorem dX11_takePlain_42 : decode cX11_takePlain 42 = .ok (.istore_n 1, 1) := by decide +kernel
theorem dX11_takePlain_43 : decode cX11_takePlain 43 = .ok (.iload_n 1, 1) := by decide +kernel
theorem dX11_takePlain_44 : decode cX11_takePlain 44 = .ok (.bipush 40, 2) := by decide +kernel
theorem dX11_takePlain_46 : decode cX11_takePlain 46 = .ok (.if_icmp .ge 21, 3) := by decide +kernel
theorem dX11_takePlain_49 : decode cX11_takePlain 49 = .ok (.aload_n 0, 1) := by decide +kernel
theorem dX11_takePlain_50 : decode cX11_takePlain 50 = .ok (.getfield 52, 3) := by decide +kernel
theorem dX11_takePlain_53 : decode cX11_takePlain 53 = .ok (.iload_n 1, 1) := by decide +kernel
theorem dX11_takePlain_54 : decode cX11_takePlain 54 = .ok (.aload_n 0, 1) := by decide +kernel
theorem dX11_takePlain_55 : decode cX11_takePlain 55 = .ok (.getfield 43, 3) := by decide +kernel
theorem dX11_takePlain_58 : decode cX11_takePlain 58 = .ok (.iload_n 1, 1) := by decide +kernel
theorem dX11_takePlain_59 : decode cX11_takePlain 59 = .ok (.iaload, 1) := by decide +kernel
theorem dX11_takePlain_60 : decode cX11_takePlain 60 = .ok (.iastore, 1) := by decide +kernel
theorem dX11_takePlain_61 : decode cX11_takePlain 61 = .ok (.iinc 1 1, 3) := by decide +kernel
theorem dX11_takePlain_64 : decode cX11_takePlain 64 = .ok (.goto (-21), 3) := by decide +kernel
theorem dX11_takePlain_67 : decode cX11_takePlain 67 = .ok (.iconst 0, 1) := by decide +kernel
theorem dX11_takePlain_68 : decode cX11_takePlain 68 = .ok (.istore_n 1, 1) := by decide +kernel
theorem dX11_takePlain_69 : decode cX11_takePlain 69 = .ok (.iload_n 1, 1) := by decide +kernel
theorem dX11_takePlain_70 : decode cX11_takePlain 70 = .ok (.bipush 15, 2) := by decide +kernel
theorem dX11_takePlain_72 : decode cX11_takePlain 72 = .ok (.if_icmp .ge 21, 3) := by decide +kernel
theorem dX11_takePlain_75 : decode cX11_takePlain 75 = .ok (.aload_n 0, 1) := by decide +kernel
theorem dX11_takePlain_76 : decode cX11_takePlain 76 = .ok (.getfield 55, 3) := by decide +kernel
theorem dX11_takePlain_79 : decode cX11_takePlain 79 = .ok (.iload_n 1, 1) := by decide +kernel
theorem dX11_takePlain_80 : decode cX11_takePlain 80 = .ok (.aload_n 0, 1) := by decide +kernel
theorem dX11_takePlain_81 : decode cX11_takePlain 81 = .ok (.getfield 46, 3) := by decide +kernel
theorem dX11_takePlain_84 : decode cX11_takePlain 84 = .ok (.iload_n 1, 1) := by decide +kernel
theorem dX11_takePlain_85 : decode cX11_takePlain 85 = .ok (.iaload, 1) := by decide +kernel
theorem dX11_takePlain_86 : decode cX11_takePlain 86 = .ok (.iastore, 1) := by decide +kernel
theorem dX11_takePlain_87 : decode cX11_takePlain 87 = .ok (.iinc 1 1, 3) := by decide +kernel
theorem dX11_takePlain_90 : decode cX11_takePlain 90 = .ok (.goto (-21), 3) := by decide +kernel
theorem dX11_takePlain_93 : decode cX11_takePlain 93 = .ok (.aload_n 0, 1) := by decide +kernel
theorem dX11_takePlain_94 : decode cX11_takePlain 94 = .ok (.invokevirtual 270, 3) := by decide +kernel
theorem dX11_takePlain_97 : decode cX11_takePlain 97 = .ok (.aload_n 0, 1) := by decide +kernel
theorem dX11_takePlain_98 : decode cX11_takePlain 98 = .ok (.getfield 58, 3) := by decide +kernel
theorem dX11_takePlain_101 : decode cX11_takePlain 101 = .ok (.bipush 43, 2) := by decide +kernel
theorem dX11_takePlain_103 : decode cX11_takePlain 103 = .ok (.iconst 0, 1) := by decide +kernel
theorem dX11_takePlain_104 : decode cX11_takePlain 104 = .ok (.iastore, 1) := by decide +kernel
theorem dX11_takePlain_105 : decode cX11_takePlain 105 = .ok (.aload_n 0, 1) := by decide +kernel
theorem dX11_takePlain_106 : decode cX11_takePlain 106 = .ok (.iconst 0, 1) := by decide +kernel
theorem dX11_takePlain_107 : decode cX11_takePlain 107 = .ok (.putfield 273, 3) := by decide +kernel
theorem dX11_takePlain_110 : decode cX11_takePlain 110 = .ok (.aload_n 0, 1) := by decide +kernel
theorem dX11_takePlain_111 : decode cX11_takePlain 111 = .ok (.iconst 0, 1) := by decide +kernel
theorem dX11_takePlain_112 : decode cX11_takePlain 112 = .ok (.putfield 276, 3) := by decide +kernel
theorem dX11_takePlain_115 : decode cX11_takePlain 115 = .ok (.aload_n 0, 1) := by decide +kernel
theorem dX11_takePlain_116 : decode cX11_takePlain 116 = .ok (.iconst 0, 1) := by decide +kernel
theorem dX11_takePlain_117 : decode cX11_takePlain 117 = .ok (.putfield 279, 3) := by decide +kernel
theorem dX11_takePlain_120 : decode cX11_takePlain 120 = .ok (.aload_n 0, 1) := by decide +kernel
theorem dX11_takePlain_121 : decode cX11_takePlain 121 = .ok (.getfield 261, 3) := by decide +kernel
theorem dX11_takePlain_124 : decode cX11_takePlain 124 = .ok (.ireturn, 1) := by decide +kernel
theorem dX11_text_0 : decode cX11_text 0 = .ok (.iload_n 1, 1) := by decide +kernel
theorem dX11_text_1 : decode cX11_text 1 = .ok (.ifCond .ne 21, 3) := by decide +kernel
theorem dX11_text_4 : decode cX11_text 4 = .ok (.aload_n 0, 1) := by decide +kernel
theorem dX11_text_5 : decode cX11_text 5 = .ok (.invokevirtual 255, 3) := by decide +kernel
theorem dX11_text_8 : decode cX11_text 8 = .ok (.iconst (-1), 1) := by decide +kernel
theorem dX11_text_9 : decode cX11_text 9 = .ok (.if_icmp .ne 13, 3) := by decide +kernel
theorem dX11_text_12 : decode cX11_text 12 = .ok (.aload_n 0, 1) := by decide +kernel
theorem dX11_text_13 : decode cX11_text 13 = .ok (.iconst 0, 1) := by decide +kernel
theorem dX11_text_14 : decode cX11_text 14 = .ok (.putfield 113, 3) := by decide +kernel
theorem dX11_text_17 : decode cX11_text 17 = .ok (.aload_n 0, 1) := by decide +kernel
theorem dX11_text_18 : decode cX11_text 18 = .ok (.invokevirtual 283, 3) := by decide +kernel
theorem dX11_text_21 : decode cX11_text 21 = .ok (.ireturn, 1) := by decide +kernel
theorem dX11_text_22 : decode cX11_text 22 = .ok (.iload_n 1, 1) := by decide +kernel
theorem dX11_text_23 : decode cX11_text 23 = .ok (.iconst 1, 1) := by decide +kernel
theorem dX11_text_24 : decode cX11_text 24 = .ok (.if_icmp .ne 45, 3) := by decide +kernel
theorem dX11_text_27 : decode cX11_text 27 = .ok (.aload_n 0, 1) := by decide +kernel
theorem dX11_text_28 : decode cX11_text 28 = .ok (.getfield 286, 3) := by decide +kernel
theorem dX11_text_31 : decode cX11_text 31 = .ok (.iconst 4, 1) := by decide +kernel
theorem dX11_text_32 : decode cX11_text 32 = .ok (.if_icmp .ge 37, 3) := by decide +kernel
theorem dX11_text_35 : decode cX11_text 35 = .ok (.aload_n 0, 1) := by decide +kernel
theorem dX11_text_36 : decode cX11_text 36 = .ok (.aload_n 0, 1) := by decide +kernel
theorem dX11_text_37 : decode cX11_text 37 = .ok (.getfield 286, 3) := by decide +kernel
theorem dX11_text_40 : decode cX11_text 40 = .ok (.invokevirtual 258, 3) := by decide +kernel
theorem dX11_text_43 : decode cX11_text 43 = .ok (.iconst (-1), 1) := by decide +kernel
theorem dX11_text_44 : decode cX11_text 44 = .ok (.if_icmp .ne 25, 3) := by decide +kernel
theorem dX11_text_47 : decode cX11_text 47 = .ok (.aload_n 0, 1) := by decide +kernel
theorem dX11_text_48 : decode cX11_text 48 = .ok (.iconst 0, 1) := by decide +kernel
theorem dX11_text_49 : decode cX11_text 49 = .ok (.putfield 113, 3) := by decide +kernel
theorem dX11_text_52 : decode cX11_text 52 = .ok (.aload_n 0, 1) := by decide +kernel
theorem dX11_text_53 : decode cX11_text 53 = .ok (.dup, 1) := by decide +kernel
theorem dX11_text_54 : decode cX11_text 54 = .ok (.getfield 286, 3) := by decide +kernel
theorem dX11_text_57 : decode cX11_text 57 = .ok (.iconst 1, 1) := by decide +kernel
theorem dX11_text_58 : decode cX11_text 58 = .ok (.iadd, 1) := by decide +kernel
theorem dX11_text_59 : decode cX11_text 59 = .ok (.putfield 286, 3) := by decide +kernel
theorem dX11_text_62 : decode cX11_text 62 = .ok (.aload_n 0, 1) := by decide +kernel
theorem dX11_text_63 : decode cX11_text 63 = .ok (.getfield 286, 3) := by decide +kernel
theorem dX11_text_66 : decode cX11_text 66 = .ok (.iconst 1, 1) := by decide +kernel
theorem dX11_text_67 : decode cX11_text 67 = .ok (.isub, 1) := by decide +kernel
theorem dX11_text_68 : decode cX11_text 68 = .ok (.ireturn, 1) := by decide +kernel
theorem dX11_text_69 : decode cX11_text 69 = .ok (.iconst (-1), 1) := by decide +kernel
theorem dX11_text_70 : decode cX11_text 70 = .ok (.ireturn, 1) := by decide +kernel
theorem dX11_of_0 : decode cX11_of 0 = .ok (.aload_n 0, 1) := by decide +kernel
theorem dX11_of_1 : decode cX11_of 1 = .ok (.getfield 52, 3) := by decide +kernel
theorem dX11_of_4 : decode cX11_of 4 = .ok (.iconst 5, 1) := by decide +kernel
theorem dX11_of_5 : decode cX11_of 5 = .ok (.iload_n 1, 1) := by decide +kernel
theorem dX11_of_6 : decode cX11_of 6 = .ok (.imul, 1) := by decide +kernel
theorem dX11_of_7 : decode cX11_of 7 = .ok (.iload_n 2, 1) := by decide +kernel
theorem dX11_of_8 : decode cX11_of 8 = .ok (.iadd, 1) := by decide +kernel
theorem dX11_of_9 : decode cX11_of 9 = .ok (.iaload, 1) := by decide +kernel
theorem dX11_of_10 : decode cX11_of 10 = .ok (.ireturn, 1) := by decide +kernel
theorem dX11_ofCrop_0 : decode cX11_ofCrop 0 = .ok (.aload_n 0, 1) := by decide +kernel
theorem dX11_ofCrop_1 : decode cX11_ofCrop 1 = .ok (.getfield 55, 3) := by decide +kernel
theorem dX11_ofCrop_4 : decode cX11_ofCrop 4 = .ok (.iconst 3, 1) := by decide +kernel
theorem dX11_ofCrop_5 : decode cX11_ofCrop 5 = .ok (.iload_n 1, 1) := by decide +kernel
theorem dX11_ofCrop_6 : decode cX11_ofCrop 6 = .ok (.imul, 1) := by decide +kernel
theorem dX11_ofCrop_7 : decode cX11_ofCrop 7 = .ok (.iload_n 2, 1) := by decide +kernel
theorem dX11_ofCrop_8 : decode cX11_ofCrop 8 = .ok (.iadd, 1) := by decide +kernel
theorem dX11_ofCrop_9 : decode cX11_ofCrop 9 = .ok (.iaload, 1) := by decide +kernel
theorem dX11_ofCrop_10 : decode cX11_ofCrop 10 = .ok (.ireturn, 1) := by decide +kernel
theorem dX11_isMonth_0 : decode cX11_isMonth 0 = .ok (.iload_n 1, 1) := by decide +kernel
theorem dX11_isMonth_1 : decode cX11_isMonth 1 = .ok (.iconst 0, 1) := by decide +kernel
theorem dX11_isMonth_2 : decode cX11_isMonth 2 = .ok (.aload_n 0, 1) := by decide +kernel
theorem dX11_isMonth_3 : decode cX11_isMonth 3 = .ok (.getfield 261, 3) := by decide +kernel
theorem dX11_isMonth_6 : decode cX11_isMonth 6 = .ok (.iconst 1, 1) := by decide +kernel
theorem dX11_isMonth_7 : decode cX11_isMonth 7 = .ok (.isub, 1) := by decide +kernel
theorem dX11_isMonth_8 : decode cX11_isMonth 8 = .ok (.invokestatic 221, 3) := by decide +kernel
theorem dX11_isMonth_11 : decode cX11_isMonth 11 = .ok (.ireturn, 1) := by decide +kernel
theorem dX11_isCrop_0 : decode cX11_isCrop 0 = .ok (.iload_n 1, 1) := by decide +kernel
theorem dX11_isCrop_1 : decode cX11_isCrop 1 = .ok (.iconst 0, 1) := by decide +kernel
theorem dX11_isCrop_2 : decode cX11_isCrop 2 = .ok (.aload_n 0, 1) := by decide +kernel
theorem dX11_isCrop_3 : decode cX11_isCrop 3 = .ok (.getfield 267, 3) := by decide +kernel
theorem dX11_isCrop_6 : decode cX11_isCrop 6 = .ok (.iconst 1, 1) := by decide +kernel
theorem dX11_isCrop_7 : decode cX11_isCrop 7 = .ok (.isub, 1) := by decide +kernel
theorem dX11_isCrop_8 : decode cX11_isCrop 8 = .ok (.invokestatic 221, 3) := by decide +kernel
theorem dX11_isCrop_11 : decode cX11_isCrop 11 = .ok (.ireturn, 1) := by decide +kernel
theorem dX11_isRipe_0 : decode cX11_isRipe 0 = .ok (.aload_n 0, 1) := by decide +kernel
theorem dX11_isRipe_1 : decode cX11_isRipe 1 = .ok (.getfield 58, 3) := by decide +kernel
theorem dX11_isRipe_4 : decode cX11_isRipe 4 = .ok (.bipush 34, 2) := by decide +kernel
theorem dX11_isRipe_6 : decode cX11_isRipe 6 = .ok (.iaload, 1) := by decide +kernel
theorem dX11_isRipe_7 : decode cX11_isRipe 7 = .ok (.iload_n 1, 1) := by decide +kernel
theorem dX11_isRipe_8 : decode cX11_isRipe 8 = .ok (.invokestatic 232, 3) := by decide +kernel
theorem dX11_isRipe_11 : decode cX11_isRipe 11 = .ok (.ireturn, 1) := by decide +kernel
theorem dX11_pullNow_0 : decode cX11_pullNow 0 = .ok (.aload_n 0, 1) := by decide +kernel
theorem dX11_pullNow_1 : decode cX11_pullNow 1 = .ok (.getfield 58, 3) := by decide +kernel
theorem dX11_pullNow_4 : decode cX11_pullNow 4 = .ok (.bipush 35, 2) := by decide +kernel
theorem dX11_pullNow_6 : decode cX11_pullNow 6 = .ok (.iaload, 1) := by decide +kernel
theorem dX11_pullNow_7 : decode cX11_pullNow 7 = .ok (.ifCond .ne 5, 3) := by decide +kernel
theorem dX11_pullNow_10 : decode cX11_pullNow 10 = .ok (.iconst 0, 1) := by decide +kernel
theorem dX11_pullNow_11 : decode cX11_pullNow 11 = .ok (.ireturn, 1) := by decide +kernel
theorem dX11_pullNow_12 : decode cX11_pullNow 12 = .ok (.aload_n 0, 1) := by decide +kernel
theorem dX11_pullNow_13 : decode cX11_pullNow 13 = .ok (.getfield 58, 3) := by decide +kernel
theorem dX11_pullNow_16 : decode cX11_pullNow 16 = .ok (.bipush 39, 2) := by decide +kernel
theorem dX11_pullNow_18 : decode cX11_pullNow 18 = .ok (.iaload, 1) := by decide +kernel
theorem dX11_pullNow_19 : decode cX11_pullNow 19 = .ok (.istore_n 1, 1) := by decide +kernel
theorem dX11_pullNow_20 : decode cX11_pullNow 20 = .ok (.aload_n 0, 1) := by decide +kernel
theorem dX11_pullNow_21 : decode cX11_pullNow 21 = .ok (.getfield 58, 3) := by decide +kernel
theorem dX11_pullNow_24 : decode cX11_pullNow 24 = .ok (.bipush 35, 2) := by decide +kernel
theorem dX11_pullNow_26 : decode cX11_pullNow 26 = .ok (.iaload, 1) := by decide +kernel
theorem dX11_pullNow_27 : decode cX11_pullNow 27 = .ok (.iconst 2, 1) := by decide +kernel
theorem dX11_pullNow_28 : decode cX11_pullNow 28 = .ok (.aload_n 0, 1) := by decide +kernel
theorem dX11_pullNow_29 : decode cX11_pullNow 29 = .ok (.getfield 58, 3) := by decide +kernel
theorem dX11_pullNow_32 : decode cX11_pullNow 32 = .ok (.iconst 0, 1) := by decide +kernel
theorem dX11_pullNow_33 : decode cX11_pullNow 33 = .ok (.iload_n 1, 1) := by decide +kernel
theorem dX11_pullNow_34 : decode cX11_pullNow 34 = .ok (.iadd, 1) := by decide +kernel
theorem dX11_pullNow_35 : decode cX11_pullNow 35 = .ok (.iaload, 1) := by decide +kernel
theorem dX11_pullNow_36 : decode cX11_pullNow 36 = .ok (.imul, 1) := by decide +kernel
theorem dX11_pullNow_37 : decode cX11_pullNow 37 = .ok (.iadd, 1) := by decide +kernel
theorem dX11_pullNow_38 : decode cX11_pullNow 38 = .ok (.bipush 6, 2) := by decide +kernel
theorem dX11_pullNow_40 : decode cX11_pullNow 40 = .ok (.idiv, 1) := by decide +kernel
theorem dX11_pullNow_41 : decode cX11_pullNow 41 = .ok (.istore_n 2, 1) := by decide +kernel
theorem dX11_pullNow_42 : decode cX11_pullNow 42 = .ok (.aload_n 0, 1) := by decide +kernel
theorem dX11_pullNow_43 : decode cX11_pullNow 43 = .ok (.getfield 64, 3) := by decide +kernel
theorem dX11_pullNow_46 : decode cX11_pullNow 46 = .ok (.iconst (-1), 1) := by decide +kernel
theorem dX11_pullNow_47 : decode cX11_pullNow 47 = .ok (.if_icmp .eq 84, 3) := by decide +kernel
theorem dX11_pullNow_50 : decode cX11_pullNow 50 = .ok (.aload_n 0, 1) := by decide +kernel
theorem dX11_pullNow_51 : decode cX11_pullNow 51 = .ok (.getfield 34, 3) := by decide +kernel
theorem dX11_pullNow_54 : decode cX11_pullNow 54 = .ok (.iconst 0, 1) := by decide +kernel
theorem dX11_pullNow_55 : decode cX11_pullNow 55 = .ok (.aload_n 0, 1) := by decide +kernel
theorem dX11_pullNow_56 : decode cX11_pullNow 56 = .ok (.getfield 58, 3) := by decide +kernel
theorem dX11_pullNow_59 : decode cX11_pullNow 59 = .ok (.bipush 35, 2) := by decide +kernel
theorem dX11_pullNow_61 : decode cX11_pullNow 61 = .ok (.iaload, 1) := by decide +kernel
theorem dX11_pullNow_62 : decode cX11_pullNow 62 = .ok (.iastore, 1) := by decide +kernel
theorem dX11_pullNow_63 : decode cX11_pullNow 63 = .ok (.aload_n 0, 1) := by decide +kernel
theorem dX11_pullNow_64 : decode cX11_pullNow 64 = .ok (.getfield 34, 3) := by decide +kernel
theorem dX11_pullNow_67 : decode cX11_pullNow 67 = .ok (.iconst 1, 1) := by decide +kernel
theorem dX11_pullNow_68 : decode cX11_pullNow 68 = .ok (.aload_n 0, 1) := by decide +kernel
theorem dX11_pullNow_69 : decode cX11_pullNow 69 = .ok (.getfield 58, 3) := by decide +kernel
theorem dX11_pullNow_72 : decode cX11_pullNow 72 = .ok (.bipush 36, 2) := by decide +kernel
theorem dX11_pullNow_74 : decode cX11_pullNow 74 = .ok (.iaload, 1) := by decide +kernel
theorem dX11_pullNow_75 : decode cX11_pullNow 75 = .ok (.iastore, 1) := by decide +kernel
theorem dX11_pullNow_76 : decode cX11_pullNow 76 = .ok (.aload_n 0, 1) := by decide +kernel
theorem dX11_pullNow_77 : decode cX11_pullNow 77 = .ok (.getfield 34, 3) := by decide +kernel
theorem dX11_pullNow_80 : decode cX11_pullNow 80 = .ok (.iconst 2, 1) := by decide +kernel
theorem dX11_pullNow_81 : decode cX11_pullNow 81 = .ok (.aload_n 0, 1) := by decide +kernel
theorem dX11_pullNow_82 : decode cX11_pullNow 82 = .ok (.getfield 58, 3) := by decide +kernel
theorem dX11_pullNow_85 : decode cX11_pullNow 85 = .ok (.iconst 0, 1) := by decide +kernel
theorem dX11_pullNow_86 : decode cX11_pullNow 86 = .ok (.iload_n 1, 1) := by decide +kernel
theorem dX11_pullNow_87 : decode cX11_pullNow 87 = .ok (.iadd, 1) := by decide +kernel
theorem dX11_pullNow_88 : decode cX11_pullNow 88 = .ok (.iaload, 1) := by decide +kernel
theorem dX11_pullNow_89 : decode cX11_pullNow 89 = .ok (.iastore, 1) := by decide +kernel
theorem dX11_pullNow_90 : decode cX11_pullNow 90 = .ok (.aload_n 0, 1) := by decide +kernel
theorem dX11_pullNow_91 : decode cX11_pullNow 91 = .ok (.getfield 34, 3) := by decide +kernel
theorem dX11_pullNow_94 : decode cX11_pullNow 94 = .ok (.iconst 3, 1) := by decide +kernel
theorem dX11_pullNow_95 : decode cX11_pullNow 95 = .ok (.aload_n 0, 1) := by decide +kernel
theorem dX11_pullNow_96 : decode cX11_pullNow 96 = .ok (.iload_n 1, 1) := by decide +kernel
theorem dX11_pullNow_97 : decode cX11_pullNow 97 = .ok (.iconst 0, 1) := by decide +kernel
theorem dX11_pullNow_98 : decode cX11_pullNow 98 = .ok (.invokevirtual 264, 3) := by decide +kernel
theorem dX11_pullNow_101 : decode cX11_pullNow 101 = .ok (.iastore, 1) := by decide +kernel
theorem dX11_pullNow_102 : decode cX11_pullNow 102 = .ok (.aload_n 0, 1) := by decide +kernel
theorem dX11_pullNow_103 : decode cX11_pullNow 103 = .ok (.getfield 34, 3) := by decide +kernel
theorem dX11_pullNow_106 : decode cX11_pullNow 106 = .ok (.iconst 4, 1) := by decide +kernel
theorem dX11_pullNow_107 : decode cX11_pullNow 107 = .ok (.aload_n 0, 1) := by decide +kernel
theorem dX11_pullNow_108 : decode cX11_pullNow 108 = .ok (.getfield 58, 3) := by decide +kernel
theorem dX11_pullNow_111 : decode cX11_pullNow 111 = .ok (.bipush 40, 2) := by decide +kernel
theorem dX11_pullNow_113 : decode cX11_pullNow 113 = .ok (.iaload, 1) := by decide +kernel
theorem dX11_pullNow_114 : decode cX11_pullNow 114 = .ok (.iastore, 1) := by decide +kernel
theorem dX11_pullNow_115 : decode cX11_pullNow 115 = .ok (.aload_n 0, 1) := by decide +kernel
theorem dX11_pullNow_116 : decode cX11_pullNow 116 = .ok (.getfield 34, 3) := by decide +kernel
theorem dX11_pullNow_119 : decode cX11_pullNow 119 = .ok (.iconst 5, 1) := by decide +kernel
theorem dX11_pullNow_120 : decode cX11_pullNow 120 = .ok (.iload_n 1, 1) := by decide +kernel
theorem dX11_pullNow_121 : decode cX11_pullNow 121 = .ok (.iastore, 1) := by decide +kernel
theorem dX11_pullNow_122 : decode cX11_pullNow 122 = .ok (.aload_n 0, 1) := by decide +kernel
theorem dX11_pullNow_123 : decode cX11_pullNow 123 = .ok (.aload_n 0, 1) := by decide +kernel
theorem dX11_pullNow_124 : decode cX11_pullNow 124 = .ok (.getfield 64, 3) := by decide +kernel
theorem dX11_pullNow_127 : decode cX11_pullNow 127 = .ok (.invokevirtual 289, 3) := by decide +kernel
theorem dX11_pullNow_130 : decode cX11_pullNow 130 = .ok (.istore_n 2, 1) := by decide +kernel
theorem dX11_pullNow_131 : decode cX11_pullNow 131 = .ok (.iconst 0, 1) := by decide +kernel
theorem dX11_pullNow_132 : decode cX11_pullNow 132 = .ok (.bipush 9, 2) := by decide +kernel
theorem dX11_pullNow_134 : decode cX11_pullNow 134 = .ok (.iload_n 2, 1) := by decide +kernel
theorem dX11_pullNow_135 : decode cX11_pullNow 135 = .ok (.invokestatic 292, 3) := by decide +kernel
theorem dX11_pullNow_138 : decode cX11_pullNow 138 = .ok (.invokestatic 294, 3) := by decide +kernel
theorem dX11_pullNow_141 : decode cX11_pullNow 141 = .ok (.ireturn, 1) := by decide +kernel
theorem dX11_dayOn_0 : decode cX11_dayOn 0 = .ok (.aload_n 0, 1) := by decide +kernel
theorem dX11_dayOn_1 : decode cX11_dayOn 1 = .ok (.getfield 58, 3) := by decide +kernel
theorem dX11_dayOn_4 : decode cX11_dayOn 4 = .ok (.bipush 40, 2) := by decide +kernel
theorem dX11_dayOn_6 : decode cX11_dayOn 6 = .ok (.dup2, 1) := by decide +kernel
theorem dX11_dayOn_7 : decode cX11_dayOn 7 = .ok (.iaload, 1) := by decide +kernel
theorem dX11_dayOn_8 : decode cX11_dayOn 8 = .ok (.aload_n 0, 1) := by decide +kernel
theorem dX11_dayOn_9 : decode cX11_dayOn 9 = .ok (.getfield 58, 3) := by decide +kernel
theorem dX11_dayOn_12 : decode cX11_dayOn 12 = .ok (.bipush 38, 2) := by decide +kernel
theorem dX11_dayOn_14 : decode cX11_dayOn 14 = .ok (.iaload, 1) := by decide +kernel
theorem dX11_dayOn_15 : decode cX11_dayOn 15 = .ok (.ifCond .ne 7, 3) := by decide +kernel
theorem dX11_dayOn_18 : decode cX11_dayOn 18 = .ok (.iconst 1, 1) := by decide +kernel
theorem dX11_dayOn_19 : decode cX11_dayOn 19 = .ok (.goto 4, 3) := by decide +kernel
theorem dX11_dayOn_22 : decode cX11_dayOn 22 = .ok (.iconst (-1), 1) := by decide +kernel
theorem dX11_dayOn_23 : decode cX11_dayOn 23 = .ok (.iadd, 1) := by decide +kernel
theorem dX11_dayOn_24 : decode cX11_dayOn 24 = .ok (.iastore, 1) := by decide +kernel
theorem dX11_dayOn_25 : decode cX11_dayOn 25 = .ok (.aload_n 0, 1) := by decide +kernel
theorem dX11_dayOn_26 : decode cX11_dayOn 26 = .ok (.getfield 58, 3) := by decide +kernel
theorem dX11_dayOn_29 : decode cX11_dayOn 29 = .ok (.bipush 40, 2) := by decide +kernel
theorem dX11_dayOn_31 : decode cX11_dayOn 31 = .ok (.iaload, 1) := by decide +kernel
theorem dX11_dayOn_32 : decode cX11_dayOn 32 = .ok (.aload_n 0, 1) := by decide +kernel
theorem dX11_dayOn_33 : decode cX11_dayOn 33 = .ok (.aload_n 0, 1) := by decide +kernel
theorem dX11_dayOn_34 : decode cX11_dayOn 34 = .ok (.getfield 58, 3) := by decide +kernel
theorem dX11_dayOn_37 : decode cX11_dayOn 37 = .ok (.bipush 39, 2) := by decide +kernel
theorem dX11_dayOn_39 : decode cX11_dayOn 39 = .ok (.iaload, 1) := by decide +kernel
theorem dX11_dayOn_40 : decode cX11_dayOn 40 = .ok (.iconst 0, 1) := by decide +kernel
theorem dX11_dayOn_41 : decode cX11_dayOn 41 = .ok (.invokevirtual 264, 3) := by decide +kernel
theorem dX11_dayOn_44 : decode cX11_dayOn 44 = .ok (.if_icmp .ne 32, 3) := by decide +kernel
theorem dX11_dayOn_47 : decode cX11_dayOn 47 = .ok (.aload_n 0, 1) := by decide +kernel
theorem dX11_dayOn_48 : decode cX11_dayOn 48 = .ok (.getfield 58, 3) := by decide +kernel
theorem dX11_dayOn_51 : decode cX11_dayOn 51 = .ok (.bipush 39, 2) := by decide +kernel
theorem dX11_dayOn_53 : decode cX11_dayOn 53 = .ok (.aload_n 0, 1) := by decide +kernel
theorem dX11_dayOn_54 : decode cX11_dayOn 54 = .ok (.getfield 58, 3) := by decide +kernel
theorem dX11_dayOn_57 : decode cX11_dayOn 57 = .ok (.bipush 39, 2) := by decide +kernel
theorem dX11_dayOn_59 : decode cX11_dayOn 59 = .ok (.iaload, 1) := by decide +kernel
theorem dX11_dayOn_60 : decode cX11_dayOn 60 = .ok (.iconst 1, 1) := by decide +kernel
theorem dX11_dayOn_61 : decode cX11_dayOn 61 = .ok (.iadd, 1) := by decide +kernel
theorem dX11_dayOn_62 : decode cX11_dayOn 62 = .ok (.aload_n 0, 1) := by decide +kernel
theorem dX11_dayOn_63 : decode cX11_dayOn 63 = .ok (.getfield 261, 3) := by decide +kernel
theorem dX11_dayOn_66 : decode cX11_dayOn 66 = .ok (.irem, 1) := by decide +kernel
theorem dX11_dayOn_67 : decode cX11_dayOn 67 = .ok (.iastore, 1) := by decide +kernel
theorem dX11_dayOn_68 : decode cX11_dayOn 68 = .ok (.aload_n 0, 1) := by decide +kernel
theorem dX11_dayOn_69 : decode cX11_dayOn 69 = .ok (.getfield 58, 3) := by decide +kernel
theorem dX11_dayOn_72 : decode cX11_dayOn 72 = .ok (.bipush 40, 2) := by decide +kernel
theorem dX11_dayOn_74 : decode cX11_dayOn 74 = .ok (.iconst 0, 1) := by decide +kernel
theorem dX11_dayOn_75 : decode cX11_dayOn 75 = .ok (.iastore, 1) := by decide +kernel
theorem dX11_dayOn_76 : decode cX11_dayOn 76 = .ok (.aload_n 0, 1) := by decide +kernel
theorem dX11_dayOn_77 : decode cX11_dayOn 77 = .ok (.getfield 58, 3) := by decide +kernel
theorem dX11_dayOn_80 : decode cX11_dayOn 80 = .ok (.bipush 40, 2) := by decide +kernel
theorem dX11_dayOn_82 : decode cX11_dayOn 82 = .ok (.iaload, 1) := by decide +kernel
theorem dX11_dayOn_83 : decode cX11_dayOn 83 = .ok (.ifCond .ge 50, 3) := by decide +kernel
theorem dX11_dayOn_86 : decode cX11_dayOn 86 = .ok (.aload_n 0, 1) := by decide +kernel
theorem dX11_dayOn_87 : decode cX11_dayOn 87 = .ok (.getfield 58, 3) := by decide +kernel
theorem dX11_dayOn_90 : decode cX11_dayOn 90 = .ok (.bipush 39, 2) := by decide +kernel
theorem dX11_dayOn_92 : decode cX11_dayOn 92 = .ok (.aload_n 0, 1) := by decide +kernel
theorem dX11_dayOn_93 : decode cX11_dayOn 93 = .ok (.getfield 58, 3) := by decide +kernel
theorem dX11_dayOn_96 : decode cX11_dayOn 96 = .ok (.bipush 39, 2) := by decide +kernel
theorem dX11_dayOn_98 : decode cX11_dayOn 98 = .ok (.iaload, 1) := by decide +kernel
theorem dX11_dayOn_99 : decode cX11_dayOn 99 = .ok (.aload_n 0, 1) := by decide +kernel
theorem dX11_dayOn_100 : decode cX11_dayOn 100 = .ok (.getfield 261, 3) := by decide +kernel
theorem dX11_dayOn_103 : decode cX11_dayOn 103 = .ok (.iadd, 1) := by decide +kernel
theorem dX11_dayOn_104 : decode cX11_dayOn 104 = .ok (.iconst 1, 1) := by decide +kernel
theorem dX11_dayOn_105 : decode cX11_dayOn 105 = .ok (.isub, 1) := by decide +kernel
theorem dX11_dayOn_106 : decode cX11_dayOn 106 = .ok (.aload_n 0, 1) := by decide +kernel
theorem dX11_dayOn_107 : decode cX11_dayOn 107 = .ok (.getfield 261, 3) := by decide +kernel
theorem dX11_dayOn_110 : decode cX11_dayOn 110 = .ok (.irem, 1) := by decide +kernel
theorem dX11_dayOn_111 : decode cX11_dayOn 111 = .ok (.iastore, 1) := by decide +kernel
theorem dX11_dayOn_112 : decode cX11_dayOn 112 = .ok (.aload_n 0, 1) := by decide +kernel
theorem dX11_dayOn_113 : decode cX11_dayOn 113 = .ok (.getfield 58, 3) := by decide +kernel
theorem dX11_dayOn_116 : decode cX11_dayOn 116 = .ok (.bipush 40, 2) := by decide +kernel
theorem dX11_dayOn_118 : decode cX11_dayOn 118 = .ok (.aload_n 0, 1) := by decide +kernel
theorem dX11_dayOn_119 : decode cX11_dayOn 119 = .ok (.aload_n 0, 1) := by decide +kernel
theorem dX11_dayOn_120 : decode cX11_dayOn 120 = .ok (.getfield 58, 3) := by decide +kernel
theorem dX11_dayOn_123 : decode cX11_dayOn 123 = .ok (.bipush 39, 2) := by decide +kernel
theorem dX11_dayOn_125 : decode cX11_dayOn 125 = .ok (.iaload, 1) := by decide +kernel
theorem dX11_dayOn_126 : decode cX11_dayOn 126 = .ok (.iconst 0, 1) := by decide +kernel
theorem dX11_dayOn_127 : decode cX11_dayOn 127 = .ok (.invokevirtual 264, 3) := by decide +kernel
theorem dX11_dayOn_130 : decode cX11_dayOn 130 = .ok (.iconst 1, 1) := by decide +kernel
theorem dX11_dayOn_131 : decode cX11_dayOn 131 = .ok (.isub, 1) := by decide +kernel
theorem dX11_dayOn_132 : decode cX11_dayOn 132 = .ok (.iastore, 1) := by decide +kernel
theorem dX11_dayOn_133 : decode cX11_dayOn 133 = .ok (.aload_n 0, 1) := by decide +kernel
theorem dX11_dayOn_134 : decode cX11_dayOn 134 = .ok (.getfield 58, 3) := by decide +kernel
theorem dX11_dayOn_137 : decode cX11_dayOn 137 = .ok (.bipush 41, 2) := by decide +kernel
theorem dX11_dayOn_139 : decode cX11_dayOn 139 = .ok (.aload_n 0, 1) := by decide +kernel
theorem dX11_dayOn_140 : decode cX11_dayOn 140 = .ok (.getfield 58, 3) := by decide +kernel
theorem dX11_dayOn_143 : decode cX11_dayOn 143 = .ok (.bipush 41, 2) := by decide +kernel
theorem dX11_dayOn_145 : decode cX11_dayOn 145 = .ok (.iaload, 1) := by decide +kernel
theorem dX11_dayOn_146 : decode cX11_dayOn 146 = .ok (.iconst 1, 1) := by decide +kernel
theorem dX11_dayOn_147 : decode cX11_dayOn 147 = .ok (.iadd, 1) := by decide +kernel
theorem dX11_dayOn_148 : decode cX11_dayOn 148 = .ok (.sipush 2520, 3) := by decide +kernel
theorem dX11_dayOn_151 : decode cX11_dayOn 151 = .ok (.irem, 1) := by decide +kernel
theorem dX11_dayOn_152 : decode cX11_dayOn 152 = .ok (.iastore, 1) := by decide +kernel
theorem dX11_dayOn_153 : decode cX11_dayOn 153 = .ok (.aload_n 0, 1) := by decide +kernel
theorem dX11_dayOn_154 : decode cX11_dayOn 154 = .ok (.getfield 68, 3) := by decide +kernel
theorem dX11_dayOn_157 : decode cX11_dayOn 157 = .ok (.aload_n 0, 1) := by decide +kernel
theorem dX11_dayOn_158 : decode cX11_dayOn 158 = .ok (.getfield 58, 3) := by decide +kernel
theorem dX11_dayOn_161 : decode cX11_dayOn 161 = .ok (.bipush 39, 2) := by decide +kernel
theorem dX11_dayOn_163 : decode cX11_dayOn 163 = .ok (.iaload, 1) := by decide +kernel
theorem dX11_dayOn_164 : decode cX11_dayOn 164 = .ok (.dup2, 1) := by decide +kernel
theorem dX11_dayOn_165 : decode cX11_dayOn 165 = .ok (.iaload, 1) := by decide +kernel
theorem dX11_dayOn_166 : decode cX11_dayOn 166 = .ok (.iconst 1, 1) := by decide +kernel
theorem dX11_dayOn_167 : decode cX11_dayOn 167 = .ok (.iadd, 1) := by decide +kernel
theorem dX11_dayOn_168 : decode cX11_dayOn 168 = .ok (.iastore, 1) := by decide +kernel
theorem dX11_dayOn_169 : decode cX11_dayOn 169 = .ok (.return_, 1) := by decide +kernel
theorem dX11_grow_0 : decode cX11_grow 0 = .ok (.aload_n 0, 1) := by decide +kernel
theorem dX11_grow_1 : decode cX11_grow 1 = .ok (.getfield 58, 3) := by decide +kernel
theorem dX11_grow_4 : decode cX11_grow 4 = .ok (.bipush 24, 2) := by decide +kernel
theorem dX11_grow_6 : decode cX11_grow 6 = .ok (.iload_n 1, 1) := by decide +kernel
theorem dX11_grow_7 : decode cX11_grow 7 = .ok (.iadd, 1) := by decide +kernel
theorem dX11_grow_8 : decode cX11_grow 8 = .ok (.sipush 999, 3) := by decide +kernel
theorem dX11_grow_11 : decode cX11_grow 11 = .ok (.aload_n 0, 1) := by decide +kernel
theorem dX11_grow_12 : decode cX11_grow 12 = .ok (.getfield 58, 3) := by decide +kernel
theorem dX11_grow_15 : decode cX11_grow 15 = .ok (.bipush 24, 2) := by decide +kernel
theorem dX11_grow_17 : decode cX11_grow 17 = .ok (.iload_n 1, 1) := by decide +kernel
theorem dX11_grow_18 : decode cX11_grow 18 = .ok (.iadd, 1) := by decide +kernel
theorem dX11_grow_19 : decode cX11_grow 19 = .ok (.iaload, 1) := by decide +kernel
theorem dX11_grow_20 : decode cX11_grow 20 = .ok (.aload_n 0, 1) := by decide +kernel
theorem dX11_grow_21 : decode cX11_grow 21 = .ok (.getfield 58, 3) := by decide +kernel
theorem dX11_grow_24 : decode cX11_grow 24 = .ok (.bipush 8, 2) := by decide +kernel
theorem dX11_grow_26 : decode cX11_grow 26 = .ok (.aload_n 0, 1) := by decide +kernel
theorem dX11_grow_27 : decode cX11_grow 27 = .ok (.getfield 58, 3) := by decide +kernel
theorem dX11_grow_30 : decode cX11_grow 30 = .ok (.bipush 39, 2) := by decide +kernel
theorem dX11_grow_32 : decode cX11_grow 32 = .ok (.iaload, 1) := by decide +kernel
theorem dX11_grow_33 : decode cX11_grow 33 = .ok (.iadd, 1) := by decide +kernel
theorem dX11_grow_34 : decode cX11_grow 34 = .ok (.iaload, 1) := by decide +kernel
theorem dX11_grow_35 : decode cX11_grow 35 = .ok (.iadd, 1) := by decide +kernel
theorem dX11_grow_36 : decode cX11_grow 36 = .ok (.invokestatic 292, 3) := by decide +kernel
theorem dX11_grow_39 : decode cX11_grow 39 = .ok (.iastore, 1) := by decide +kernel
theorem dX11_grow_40 : decode cX11_grow 40 = .ok (.aload_n 0, 1) := by decide +kernel
theorem dX11_grow_41 : decode cX11_grow 41 = .ok (.getfield 58, 3) := by decide +kernel
theorem dX11_grow_44 : decode cX11_grow 44 = .ok (.bipush 29, 2) := by decide +kernel
theorem dX11_grow_46 : decode cX11_grow 46 = .ok (.iload_n 1, 1) := by decide +kernel
theorem dX11_grow_47 : decode cX11_grow 47 = .ok (.iadd, 1) := by decide +kernel
theorem dX11_grow_48 : decode cX11_grow 48 = .ok (.sipush 999, 3) := by decide +kernel
theorem dX11_grow_51 : decode cX11_grow 51 = .ok (.aload_n 0, 1) := by decide +kernel
theorem dX11_grow_52 : decode cX11_grow 52 = .ok (.getfield 58, 3) := by decide +kernel
theorem dX11_grow_55 : decode cX11_grow 55 = .ok (.bipush 29, 2) := by decide +kernel
theorem dX11_grow_57 : decode cX11_grow 57 = .ok (.iload_n 1, 1) := by decide +kernel
theorem dX11_grow_58 : decode cX11_grow 58 = .ok (.iadd, 1) := by decide +kernel
theorem dX11_grow_59 : decode cX11_grow 59 = .ok (.iaload, 1) := by decide +kernel
theorem dX11_grow_60 : decode cX11_grow 60 = .ok (.aload_n 0, 1) := by decide +kernel
theorem dX11_grow_61 : decode cX11_grow 61 = .ok (.getfield 58, 3) := by decide +kernel
theorem dX11_grow_64 : decode cX11_grow 64 = .ok (.bipush 16, 2) := by decide +kernel
theorem dX11_grow_66 : decode cX11_grow 66 = .ok (.aload_n 0, 1) := by decide +kernel
theorem dX11_grow_67 : decode cX11_grow 67 = .ok (.getfield 58, 3) := by decide +kernel
theorem dX11_grow_70 : decode cX11_grow 70 = .ok (.bipush 39, 2) := by decide +kernel
theorem dX11_grow_72 : decode cX11_grow 72 = .ok (.iaload, 1) := by decide +kernel
theorem dX11_grow_73 : decode cX11_grow 73 = .ok (.iadd, 1) := by decide +kernel
theorem dX11_grow_74 : decode cX11_grow 74 = .ok (.iaload, 1) := by decide +kernel
theorem dX11_grow_75 : decode cX11_grow 75 = .ok (.iadd, 1) := by decide +kernel
theorem dX11_grow_76 : decode cX11_grow 76 = .ok (.invokestatic 292, 3) := by decide +kernel
theorem dX11_grow_79 : decode cX11_grow 79 = .ok (.iastore, 1) := by decide +kernel
theorem dX11_grow_80 : decode cX11_grow 80 = .ok (.aload_n 0, 1) := by decide +kernel
theorem dX11_grow_81 : decode cX11_grow 81 = .ok (.getfield 58, 3) := by decide +kernel
theorem dX11_grow_84 : decode cX11_grow 84 = .ok (.bipush 24, 2) := by decide +kernel
theorem dX11_grow_86 : decode cX11_grow 86 = .ok (.iload_n 1, 1) := by decide +kernel
theorem dX11_grow_87 : decode cX11_grow 87 = .ok (.iadd, 1) := by decide +kernel
theorem dX11_grow_88 : decode cX11_grow 88 = .ok (.iaload, 1) := by decide +kernel
theorem dX11_grow_89 : decode cX11_grow 89 = .ok (.aload_n 0, 1) := by decide +kernel
theorem dX11_grow_90 : decode cX11_grow 90 = .ok (.iload_n 1, 1) := by decide +kernel
theorem dX11_grow_91 : decode cX11_grow 91 = .ok (.iconst 0, 1) := by decide +kernel
theorem dX11_grow_92 : decode cX11_grow 92 = .ok (.invokevirtual 296, 3) := by decide +kernel
theorem dX11_grow_95 : decode cX11_grow 95 = .ok (.if_icmp .lt 76, 3) := by decide +kernel
theorem dX11_grow_98 : decode cX11_grow 98 = .ok (.aload_n 0, 1) := by decide +kernel
theorem dX11_grow_99 : decode cX11_grow 99 = .ok (.getfield 58, 3) := by decide +kernel
theorem dX11_grow_102 : decode cX11_grow 102 = .ok (.bipush 29, 2) := by decide +kernel
theorem dX11_grow_104 : decode cX11_grow 104 = .ok (.iload_n 1, 1) := by decide +kernel
theorem dX11_grow_105 : decode cX11_grow 105 = .ok (.iadd, 1) := by decide +kernel
theorem dX11_grow_106 : decode cX11_grow 106 = .ok (.iaload, 1) := by decide +kernel
theorem dX11_grow_107 : decode cX11_grow 107 = .ok (.aload_n 0, 1) := by decide +kernel
theorem dX11_grow_108 : decode cX11_grow 108 = .ok (.iload_n 1, 1) := by decide +kernel
theorem dX11_grow_109 : decode cX11_grow 109 = .ok (.iconst 1, 1) := by decide +kernel
theorem dX11_grow_110 : decode cX11_grow 110 = .ok (.invokevirtual 296, 3) := by decide +kernel
theorem dX11_grow_113 : decode cX11_grow 113 = .ok (.if_icmp .lt 58, 3) := by decide +kernel
theorem dX11_grow_116 : decode cX11_grow 116 = .ok (.aload_n 0, 1) := by decide +kernel
theorem dX11_grow_117 : decode cX11_grow 117 = .ok (.getfield 58, 3) := by decide +kernel
theorem dX11_grow_120 : decode cX11_grow 120 = .ok (.bipush 34, 2) := by decide +kernel
theorem dX11_grow_122 : decode cX11_grow 122 = .ok (.dup2, 1) := by decide +kernel
theorem dX11_grow_123 : decode cX11_grow 123 = .ok (.iaload, 1) := by decide +kernel
theorem dX11_grow_124 : decode cX11_grow 124 = .ok (.iconst 1, 1) := by decide +kernel
theorem dX11_grow_125 : decode cX11_grow 125 = .ok (.iload_n 1, 1) := by decide +kernel
theorem dX11_grow_126 : decode cX11_grow 126 = .ok (.ishl, 1) := by decide +kernel
theorem dX11_grow_127 : decode cX11_grow 127 = .ok (.ior, 1) := by decide +kernel
theorem dX11_grow_128 : decode cX11_grow 128 = .ok (.iastore, 1) := by decide +kernel
theorem dX11_grow_129 : decode cX11_grow 129 = .ok (.aload_n 0, 1) := by decide +kernel
theorem dX11_grow_130 : decode cX11_grow 130 = .ok (.getfield 58, 3) := by decide +kernel
theorem dX11_grow_133 : decode cX11_grow 133 = .ok (.bipush 37, 2) := by decide +kernel
theorem dX11_grow_135 : decode cX11_grow 135 = .ok (.sipush 999, 3) := by decide +kernel
theorem dX11_grow_138 : decode cX11_grow 138 = .ok (.aload_n 0, 1) := by decide +kernel
theorem dX11_grow_139 : decode cX11_grow 139 = .ok (.getfield 58, 3) := by decide +kernel
theorem dX11_grow_142 : decode cX11_grow 142 = .ok (.bipush 37, 2) := by decide +kernel
theorem dX11_grow_144 : decode cX11_grow 144 = .ok (.iaload, 1) := by decide +kernel
theorem dX11_grow_145 : decode cX11_grow 145 = .ok (.aload_n 0, 1) := by decide +kernel
theorem dX11_grow_146 : decode cX11_grow 146 = .ok (.iload_n 1, 1) := by decide +kernel
theorem dX11_grow_147 : decode cX11_grow 147 = .ok (.iconst 2, 1) := by decide +kernel
theorem dX11_grow_148 : decode cX11_grow 148 = .ok (.invokevirtual 296, 3) := by decide +kernel
theorem dX11_grow_151 : decode cX11_grow 151 = .ok (.iadd, 1) := by decide +kernel
theorem dX11_grow_152 : decode cX11_grow 152 = .ok (.invokestatic 292, 3) := by decide +kernel
theorem dX11_grow_155 : decode cX11_grow 155 = .ok (.iastore, 1) := by decide +kernel
theorem dX11_grow_156 : decode cX11_grow 156 = .ok (.aload_n 0, 1) := by decide +kernel
theorem dX11_grow_157 : decode cX11_grow 157 = .ok (.dup, 1) := by decide +kernel
theorem dX11_grow_158 : decode cX11_grow 158 = .ok (.getfield 299, 3) := by decide +kernel
theorem dX11_grow_161 : decode cX11_grow 161 = .ok (.aload_n 0, 1) := by decide +kernel
theorem dX11_grow_162 : decode cX11_grow 162 = .ok (.iload_n 1, 1) := by decide +kernel
theorem dX11_grow_163 : decode cX11_grow 163 = .ok (.iconst 2, 1) := by decide +kernel
theorem dX11_grow_164 : decode cX11_grow 164 = .ok (.invokevirtual 296, 3) := by decide +kernel
theorem dX11_grow_167 : decode cX11_grow 167 = .ok (.iadd, 1) := by decide +kernel
theorem dX11_grow_168 : decode cX11_grow 168 = .ok (.putfield 299, 3) := by decide +kernel
theorem dX11_grow_171 : decode cX11_grow 171 = .ok (.return_, 1) := by decide +kernel
theorem dX11_live_0 : decode cX11_live 0 = .ok (.aload_n 0, 1) := by decide +kernel
theorem dX11_live_1 : decode cX11_live 1 = .ok (.invokevirtual 302, 3) := by decide +kernel
theorem dX11_live_4 : decode cX11_live 4 = .ok (.istore_n 1, 1) := by decide +kernel
theorem dX11_live_5 : decode cX11_live 5 = .ok (.iconst 0, 1) := by decide +kernel
theorem dX11_live_6 : decode cX11_live 6 = .ok (.istore_n 2, 1) := by decide +kernel
theorem dX11_live_7 : decode cX11_live 7 = .ok (.iload_n 2, 1) := by decide +kernel
theorem dX11_live_8 : decode cX11_live 8 = .ok (.iload_n 1, 1) := by decide +kernel
theorem dX11_live_9 : decode cX11_live 9 = .ok (.if_icmp .ge 42, 3) := by decide +kernel
theorem dX11_live_12 : decode cX11_live 12 = .ok (.aload_n 0, 1) := by decide +kernel
theorem dX11_live_13 : decode cX11_live 13 = .ok (.invokevirtual 305, 3) := by decide +kernel
theorem dX11_live_16 : decode cX11_live 16 = .ok (.iconst 0, 1) := by decide +kernel
theorem dX11_live_17 : decode cX11_live 17 = .ok (.istore_n 3, 1) := by decide +kernel
theorem dX11_live_18 : decode cX11_live 18 = .ok (.iload_n 3, 1) := by decide +kernel
theorem dX11_live_19 : decode cX11_live 19 = .ok (.aload_n 0, 1) := by decide +kernel
theorem dX11_live_20 : decode cX11_live 20 = .ok (.getfield 267, 3) := by decide +kernel
theorem dX11_live_23 : decode cX11_live 23 = .ok (.if_icmp .ge 22, 3) := by decide +kernel
theorem dX11_live_26 : decode cX11_live 26 = .ok (.aload_n 0, 1) := by decide +kernel
theorem dX11_live_27 : decode cX11_live 27 = .ok (.iload_n 3, 1) := by decide +kernel
theorem dX11_live_28 : decode cX11_live 28 = .ok (.invokevirtual 308, 3) := by decide +kernel
theorem dX11_live_31 : decode cX11_live 31 = .ok (.ifCond .ne 8, 3) := by decide +kernel
theorem dX11_live_34 : decode cX11_live 34 = .ok (.aload_n 0, 1) := by decide +kernel
theorem dX11_live_35 : decode cX11_live 35 = .ok (.iload_n 3, 1) := by decide +kernel
theorem dX11_live_36 : decode cX11_live 36 = .ok (.invokevirtual 311, 3) := by decide +kernel
theorem dX11_live_39 : decode cX11_live 39 = .ok (.iinc 3 1, 3) := by decide +kernel
theorem dX11_live_42 : decode cX11_live 42 = .ok (.goto (-24), 3) := by decide +kernel
theorem dX11_live_45 : decode cX11_live 45 = .ok (.iinc 2 1, 3) := by decide +kernel
theorem dX11_live_48 : decode cX11_live 48 = .ok (.goto (-41), 3) := by decide +kernel
theorem dX11_live_51 : decode cX11_live 51 = .ok (.aload_n 0, 1) := by decide +kernel
theorem dX11_live_52 : decode cX11_live 52 = .ok (.getfield 58, 3) := by decide +kernel
theorem dX11_live_55 : decode cX11_live 55 = .ok (.bipush 35, 2) := by decide +kernel
theorem dX11_live_57 : decode cX11_live 57 = .ok (.iaload, 1) := by decide +kernel
theorem dX11_live_58 : decode cX11_live 58 = .ok (.ifCond .le 73, 3) := by decide +kernel
theorem dX11_live_61 : decode cX11_live 61 = .ok (.aload_n 0, 1) := by decide +kernel
theorem dX11_live_62 : decode cX11_live 62 = .ok (.getfield 58, 3) := by decide +kernel
theorem dX11_live_65 : decode cX11_live 65 = .ok (.bipush 36, 2) := by decide +kernel
theorem dX11_live_67 : decode cX11_live 67 = .ok (.iaload, 1) := by decide +kernel
theorem dX11_live_68 : decode cX11_live 68 = .ok (.aload_n 0, 1) := by decide +kernel
theorem dX11_live_69 : decode cX11_live 69 = .ok (.getfield 49, 3) := by decide +kernel
theorem dX11_live_72 : decode cX11_live 72 = .ok (.iconst 2, 1) := by decide +kernel
theorem dX11_live_73 : decode cX11_live 73 = .ok (.iaload, 1) := by decide +kernel
theorem dX11_live_74 : decode cX11_live 74 = .ok (.if_icmp .lt 7, 3) := by decide +kernel
theorem dX11_live_77 : decode cX11_live 77 = .ok (.iconst 1, 1) := by decide +kernel
theorem dX11_live_78 : decode cX11_live 78 = .ok (.goto 4, 3) := by decide +kernel
theorem dX11_live_81 : decode cX11_live 81 = .ok (.iconst 0, 1) := by decide +kernel
theorem dX11_live_82 : decode cX11_live 82 = .ok (.istore_n 2, 1) := by decide +kernel
theorem dX11_live_83 : decode cX11_live 83 = .ok (.aload_n 0, 1) := by decide +kernel
theorem dX11_live_84 : decode cX11_live 84 = .ok (.getfield 58, 3) := by decide +kernel
theorem dX11_live_87 : decode cX11_live 87 = .ok (.bipush 36, 2) := by decide +kernel
theorem dX11_live_89 : decode cX11_live 89 = .ok (.iload_n 2, 1) := by decide +kernel
theorem dX11_live_90 : decode cX11_live 90 = .ok (.ifCond .eq 20, 3) := by decide +kernel
theorem dX11_live_93 : decode cX11_live 93 = .ok (.aload_n 0, 1) := by decide +kernel
theorem dX11_live_94 : decode cX11_live 94 = .ok (.getfield 58, 3) := by decide +kernel
theorem dX11_live_97 : decode cX11_live 97 = .ok (.bipush 36, 2) := by decide +kernel
theorem dX11_live_99 : decode cX11_live 99 = .ok (.iaload, 1) := by decide +kernel
theorem dX11_live_100 : decode cX11_live 100 = .ok (.aload_n 0, 1) := by decide +kernel
theorem dX11_live_101 : decode cX11_live 101 = .ok (.getfield 49, 3) := by decide +kernel
theorem dX11_live_104 : decode cX11_live 104 = .ok (.iconst 2, 1) := by decide +kernel
theorem dX11_live_105 : decode cX11_live 105 = .ok (.iaload, 1) := by decide +kernel
theorem dX11_live_106 : decode cX11_live 106 = .ok (.isub, 1) := by decide +kernel
theorem dX11_live_107 : decode cX11_live 107 = .ok (.goto 4, 3) := by decide +kernel
theorem dX11_live_110 : decode cX11_live 110 = .ok (.iconst 0, 1) := by decide +kernel
theorem dX11_live_111 : decode cX11_live 111 = .ok (.iastore, 1) := by decide +kernel
theorem dX11_live_112 : decode cX11_live 112 = .ok (.aload_n 0, 1) := by decide +kernel
theorem dX11_live_113 : decode cX11_live 113 = .ok (.getfield 58, 3) := by decide +kernel
theorem dX11_live_116 : decode cX11_live 116 = .ok (.bipush 35, 2) := by decide +kernel
theorem dX11_live_118 : decode cX11_live 118 = .ok (.dup2, 1) := by decide +kernel
theorem dX11_live_119 : decode cX11_live 119 = .ok (.iaload, 1) := by decide +kernel
theorem dX11_live_120 : decode cX11_live 120 = .ok (.iload_n 2, 1) := by decide +kernel
theorem dX11_live_121 : decode cX11_live 121 = .ok (.ifCond .eq 7, 3) := by decide +kernel
theorem dX11_live_124 : decode cX11_live 124 = .ok (.iconst 0, 1) := by decide +kernel
theorem dX11_live_125 : decode cX11_live 125 = .ok (.goto 4, 3) := by decide +kernel
theorem dX11_live_128 : decode cX11_live 128 = .ok (.iconst 1, 1) := by decide +kernel
theorem dX11_live_129 : decode cX11_live 129 = .ok (.isub, 1) := by decide +kernel
theorem dX11_live_130 : decode cX11_live 130 = .ok (.iastore, 1) := by decide +kernel
theorem dX11_live_131 : decode cX11_live 131 = .ok (.aload_n 0, 1) := by decide +kernel
theorem dX11_live_132 : decode cX11_live 132 = .ok (.getfield 58, 3) := by decide +kernel
theorem dX11_live_135 : decode cX11_live 135 = .ok (.bipush 42, 2) := by decide +kernel
theorem dX11_live_137 : decode cX11_live 137 = .ok (.dup2, 1) := by decide +kernel
theorem dX11_live_138 : decode cX11_live 138 = .ok (.iaload, 1) := by decide +kernel
theorem dX11_live_139 : decode cX11_live 139 = .ok (.iconst 1, 1) := by decide +kernel
theorem dX11_live_140 : decode cX11_live 140 = .ok (.iadd, 1) := by decide +kernel
theorem dX11_live_141 : decode cX11_live 141 = .ok (.iastore, 1) := by decide +kernel
theorem dX11_live_142 : decode cX11_live 142 = .ok (.iload_n 1, 1) := by decide +kernel
theorem dX11_live_143 : decode cX11_live 143 = .ok (.ireturn, 1) := by decide +kernel
theorem dX11_liveMany_0 : decode cX11_liveMany 0 = .ok (.iconst 0, 1) := by decide +kernel
theorem dX11_liveMany_1 : decode cX11_liveMany 1 = .ok (.istore_n 2, 1) := by decide +kernel
theorem dX11_liveMany_2 : decode cX11_liveMany 2 = .ok (.iload_n 2, 1) := by decide +kernel
theorem dX11_liveMany_3 : decode cX11_liveMany 3 = .ok (.iload_n 1, 1) := by decide +kernel
theorem dX11_liveMany_4 : decode cX11_liveMany 4 = .ok (.if_icmp .ge 14, 3) := by decide +kernel
theorem dX11_liveMany_7 : decode cX11_liveMany 7 = .ok (.aload_n 0, 1) := by decide +kernel
theorem dX11_liveMany_8 : decode cX11_liveMany 8 = .ok (.invokevirtual 314, 3) := by decide +kernel
theorem dX11_liveMany_11 : decode cX11_liveMany 11 = .ok (.pop, 1) := by decide +kernel
theorem dX11_liveMany_12 : decode cX11_liveMany 12 = .ok (.iinc 2 1, 3) := by decide +kernel
theorem dX11_liveMany_15 : decode cX11_liveMany 15 = .ok (.goto (-13), 3) := by decide +kernel
theorem dX11_liveMany_18 : decode cX11_liveMany 18 = .ok (.return_, 1) := by decide +kernel
theorem dX11_passTurn_0 : decode cX11_passTurn 0 = .ok (.aload_n 0, 1) := by decide +kernel
theorem dX11_passTurn_1 : decode cX11_passTurn 1 = .ok (.getfield 58, 3) := by decide +kernel
theorem dX11_passTurn_4 : decode cX11_passTurn 4 = .ok (.bipush 34, 2) := by decide +kernel
theorem dX11_passTurn_6 : decode cX11_passTurn 6 = .ok (.iaload, 1) := by decide +kernel
theorem dX11_passTurn_7 : decode cX11_passTurn 7 = .ok (.istore_n 1, 1) := by decide +kernel
theorem dX11_passTurn_8 : decode cX11_passTurn 8 = .ok (.aload_n 0, 1) := by decide +kernel
theorem dX11_passTurn_9 : decode cX11_passTurn 9 = .ok (.invokevirtual 314, 3) := by decide +kernel
theorem dX11_passTurn_12 : decode cX11_passTurn 12 = .ok (.istore_n 2, 1) := by decide +kernel
theorem dX11_passTurn_13 : decode cX11_passTurn 13 = .ok (.aload_n 0, 1) := by decide +kernel
theorem dX11_passTurn_14 : decode cX11_passTurn 14 = .ok (.getfield 58, 3) := by decide +kernel
theorem dX11_passTurn_17 : decode cX11_passTurn 17 = .ok (.bipush 43, 2) := by decide +kernel
theorem dX11_passTurn_19 : decode cX11_passTurn 19 = .ok (.iaload, 1) := by decide +kernel
theorem dX11_passTurn_20 : decode cX11_passTurn 20 = .ok (.bipush 60, 2) := by decide +kernel
theorem dX11_passTurn_22 : decode cX11_passTurn 22 = .ok (.if_icmp .ne 49, 3) := by decide +kernel
theorem dX11_passTurn_25 : decode cX11_passTurn 25 = .ok (.iconst 4, 1) := by decide +kernel
theorem dX11_passTurn_26 : decode cX11_passTurn 26 = .ok (.istore_n 3, 1) := by decide +kernel
theorem dX11_passTurn_27 : decode cX11_passTurn 27 = .ok (.iload_n 3, 1) := by decide +kernel
theorem dX11_passTurn_28 : decode cX11_passTurn 28 = .ok (.sipush 240, 3) := by decide +kernel
theorem dX11_passTurn_31 : decode cX11_passTurn 31 = .ok (.if_icmp .ge 29, 3) := by decide +kernel
theorem dX11_passTurn_34 : decode cX11_passTurn 34 = .ok (.aload_n 0, 1) := by decide +kernel
theorem dX11_passTurn_35 : decode cX11_passTurn 35 = .ok (.getfield 58, 3) := by decide +kernel
theorem dX11_passTurn_38 : decode cX11_passTurn 38 = .ok (.bipush 44, 2) := by decide +kernel
theorem dX11_passTurn_40 : decode cX11_passTurn 40 = .ok (.iload_n 3, 1) := by decide +kernel
theorem dX11_passTurn_41 : decode cX11_passTurn 41 = .ok (.iadd, 1) := by decide +kernel
theorem dX11_passTurn_42 : decode cX11_passTurn 42 = .ok (.iconst 4, 1) := by decide +kernel
theorem dX11_passTurn_43 : decode cX11_passTurn 43 = .ok (.isub, 1) := by decide +kernel
theorem dX11_passTurn_44 : decode cX11_passTurn 44 = .ok (.aload_n 0, 1) := by decide +kernel
theorem dX11_passTurn_45 : decode cX11_passTurn 45 = .ok (.getfield 58, 3) := by decide +kernel
theorem dX11_passTurn_48 : decode cX11_passTurn 48 = .ok (.bipush 44, 2) := by decide +kernel
theorem dX11_passTurn_50 : decode cX11_passTurn 50 = .ok (.iload_n 3, 1) := by decide +kernel
theorem dX11_passTurn_51 : decode cX11_passTurn 51 = .ok (.iadd, 1) := by decide +kernel
theorem dX11_passTurn_52 : decode cX11_passTurn 52 = .ok (.iaload, 1) := by decide +kernel
theorem dX11_passTurn_53 : decode cX11_passTurn 53 = .ok (.iastore, 1) := by decide +kernel
theorem dX11_passTurn_54 : decode cX11_passTurn 54 = .ok (.iinc 3 1, 3) := by decide +kernel
theorem dX11_passTurn_57 : decode cX11_passTurn 57 = .ok (.goto (-30), 3) := by decide +kernel
theorem dX11_passTurn_60 : decode cX11_passTurn 60 = .ok (.aload_n 0, 1) := by decide +kernel
theorem dX11_passTurn_61 : decode cX11_passTurn 61 = .ok (.getfield 58, 3) := by decide +kernel
theorem dX11_passTurn_64 : decode cX11_passTurn 64 = .ok (.bipush 43, 2) := by decide +kernel
theorem dX11_passTurn_66 : decode cX11_passTurn 66 = .ok (.dup2, 1) := by decide +kernel
theorem dX11_passTurn_67 : decode cX11_passTurn 67 = .ok (.iaload, 1) := by decide +kernel
theorem dX11_passTurn_68 : decode cX11_passTurn 68 = .ok (.iconst 1, 1) := by decide +kernel
theorem dX11_passTurn_69 : decode cX11_passTurn 69 = .ok (.isub, 1) := by decide +kernel
theorem dX11_passTurn_70 : decode cX11_passTurn 70 = .ok (.iastore, 1) := by decide +kernel
theorem dX11_passTurn_71 : decode cX11_passTurn 71 = .ok (.bipush 44, 2) := by decide +kernel
theorem dX11_passTurn_73 : decode cX11_passTurn 73 = .ok (.iconst 4, 1) := by decide +kernel
theorem dX11_passTurn_74 : decode cX11_passTurn 74 = .ok (.aload_n 0, 1) := by decide +kernel
theorem dX11_passTurn_75 : decode cX11_passTurn 75 = .ok (.getfield 58, 3) := by decide +kernel
theorem dX11_passTurn_78 : decode cX11_passTurn 78 = .ok (.bipush 43, 2) := by decide +kernel
theorem dX11_passTurn_80 : decode cX11_passTurn 80 = .ok (.iaload, 1) := by decide +kernel
theorem dX11_passTurn_81 : decode cX11_passTurn 81 = .ok (.imul, 1) := by decide +kernel
theorem dX11_passTurn_82 : decode cX11_passTurn 82 = .ok (.iadd, 1) := by decide +kernel
theorem dX11_passTurn_83 : decode cX11_passTurn 83 = .ok (.istore_n 3, 1) := by decide +kernel
theorem dX11_passTurn_84 : decode cX11_passTurn 84 = .ok (.aload_n 0, 1) := by decide +kernel
theorem dX11_passTurn_85 : decode cX11_passTurn 85 = .ok (.getfield 58, 3) := by decide +kernel
theorem dX11_passTurn_88 : decode cX11_passTurn 88 = .ok (.iload_n 3, 1) := by decide +kernel
theorem dX11_passTurn_89 : decode cX11_passTurn 89 = .ok (.aload_n 0, 1) := by decide +kernel
theorem dX11_passTurn_90 : decode cX11_passTurn 90 = .ok (.getfield 58, 3) := by decide +kernel
theorem dX11_passTurn_93 : decode cX11_passTurn 93 = .ok (.bipush 39, 2) := by decide +kernel
theorem dX11_passTurn_95 : decode cX11_passTurn 95 = .ok (.iaload, 1) := by decide +kernel
theorem dX11_passTurn_96 : decode cX11_passTurn 96 = .ok (.iastore, 1) := by decide +kernel
theorem dX11_passTurn_97 : decode cX11_passTurn 97 = .ok (.aload_n 0, 1) := by decide +kernel
theorem dX11_passTurn_98 : decode cX11_passTurn 98 = .ok (.getfield 58, 3) := by decide +kernel
theorem dX11_passTurn_101 : decode cX11_passTurn 101 = .ok (.iload_n 3, 1) := by decide +kernel
theorem dX11_passTurn_102 : decode cX11_passTurn 102 = .ok (.iconst 1, 1) := by decide +kernel
theorem dX11_passTurn_103 : decode cX11_passTurn 103 = .ok (.iadd, 1) := by decide +kernel
theorem dX11_passTurn_104 : decode cX11_passTurn 104 = .ok (.aload_n 0, 1) := by decide +kernel
theorem dX11_passTurn_105 : decode cX11_passTurn 105 = .ok (.getfield 58, 3) := by decide +kernel
theorem dX11_passTurn_108 : decode cX11_passTurn 108 = .ok (.bipush 40, 2) := by decide +kernel
theorem dX11_passTurn_110 : decode cX11_passTurn 110 = .ok (.iaload, 1) := by decide +kernel
theorem dX11_passTurn_111 : decode cX11_passTurn 111 = .ok (.iastore, 1) := by decide +kernel
theorem dX11_passTurn_112 : decode cX11_passTurn 112 = .ok (.aload_n 0, 1) := by decide +kernel
theorem dX11_passTurn_113 : decode cX11_passTurn 113 = .ok (.getfield 58, 3) := by decide +kernel
theorem dX11_passTurn_116 : decode cX11_passTurn 116 = .ok (.iload_n 3, 1) := by decide +kernel
theorem dX11_passTurn_117 : decode cX11_passTurn 117 = .ok (.iconst 2, 1) := by decide +kernel
theorem dX11_passTurn_118 : decode cX11_passTurn 118 = .ok (.iadd, 1) := by decide +kernel
theorem dX11_passTurn_119 : decode cX11_passTurn 119 = .ok (.iload_n 2, 1) := by decide +kernel
theorem dX11_passTurn_120 : decode cX11_passTurn 120 = .ok (.iastore, 1) := by decide +kernel
theorem dX11_passTurn_121 : decode cX11_passTurn 121 = .ok (.aload_n 0, 1) := by decide +kernel
theorem dX11_passTurn_122 : decode cX11_passTurn 122 = .ok (.getfield 58, 3) := by decide +kernel
theorem dX11_passTurn_125 : decode cX11_passTurn 125 = .ok (.iload_n 3, 1) := by decide +kernel
theorem dX11_passTurn_126 : decode cX11_passTurn 126 = .ok (.iconst 3, 1) := by decide +kernel
theorem dX11_passTurn_127 : decode cX11_passTurn 127 = .ok (.iadd, 1) := by decide +kernel
theorem dX11_passTurn_128 : decode cX11_passTurn 128 = .ok (.aload_n 0, 1) := by decide +kernel
theorem dX11_passTurn_129 : decode cX11_passTurn 129 = .ok (.getfield 58, 3) := by decide +kernel
theorem dX11_passTurn_132 : decode cX11_passTurn 132 = .ok (.bipush 34, 2) := by decide +kernel
theorem dX11_passTurn_134 : decode cX11_passTurn 134 = .ok (.iaload, 1) := by decide +kernel
theorem dX11_passTurn_135 : decode cX11_passTurn 135 = .ok (.iload_n 1, 1) := by decide +kernel
theorem dX11_passTurn_136 : decode cX11_passTurn 136 = .ok (.iconst (-1), 1) := by decide +kernel
theorem dX11_passTurn_137 : decode cX11_passTurn 137 = .ok (.ixor, 1) := by decide +kernel
theorem dX11_passTurn_138 : decode cX11_passTurn 138 = .ok (.iand, 1) := by decide +kernel
theorem dX11_passTurn_139 : decode cX11_passTurn 139 = .ok (.iastore, 1) := by decide +kernel
theorem dX11_passTurn_140 : decode cX11_passTurn 140 = .ok (.aload_n 0, 1) := by decide +kernel
theorem dX11_passTurn_141 : decode cX11_passTurn 141 = .ok (.getfield 58, 3) := by decide +kernel
theorem dX11_passTurn_144 : decode cX11_passTurn 144 = .ok (.bipush 43, 2) := by decide +kernel
theorem dX11_passTurn_146 : decode cX11_passTurn 146 = .ok (.dup2, 1) := by decide +kernel
theorem dX11_passTurn_147 : decode cX11_passTurn 147 = .ok (.iaload, 1) := by decide +kernel
theorem dX11_passTurn_148 : decode cX11_passTurn 148 = .ok (.iconst 1, 1) := by decide +kernel
theorem dX11_passTurn_149 : decode cX11_passTurn 149 = .ok (.iadd, 1) := by decide +kernel
theorem dX11_passTurn_150 : decode cX11_passTurn 150 = .ok (.iastore, 1) := by decide +kernel
theorem dX11_passTurn_151 : decode cX11_passTurn 151 = .ok (.return_, 1) := by decide +kernel
theorem dX11_rule_0 : decode cX11_rule 0 = .ok (.aload_n 0, 1) := by decide +kernel
theorem dX11_rule_1 : decode cX11_rule 1 = .ok (.getfield 261, 3) := by decide +kernel
theorem dX11_rule_4 : decode cX11_rule 4 = .ok (.ifCond .eq 12, 3) := by decide +kernel
theorem dX11_rule_7 : decode cX11_rule 7 = .ok (.iload_n 1, 1) := by decide +kernel
theorem dX11_rule_8 : decode cX11_rule 8 = .ok (.iconst 0, 1) := by decide +kernel
theorem dX11_rule_9 : decode cX11_rule 9 = .ok (.iconst 3, 1) := by decide +kernel
theorem dX11_rule_10 : decode cX11_rule 10 = .ok (.invokestatic 221, 3) := by decide +kernel
theorem dX11_rule_13 : decode cX11_rule 13 = .ok (.ifCond .ne 5, 3) := by decide +kernel
theorem dX11_rule_16 : decode cX11_rule 16 = .ok (.iconst (-1), 1) := by decide +kernel
theorem dX11_rule_17 : decode cX11_rule 17 = .ok (.ireturn, 1) := by decide +kernel
theorem dX11_rule_18 : decode cX11_rule 18 = .ok (.iload_n 1, 1) := by decide +kernel
theorem dX11_rule_19 : decode cX11_rule 19 = .ok (.ifCond .ne 13, 3) := by decide +kernel
theorem dX11_rule_22 : decode cX11_rule 22 = .ok (.aload_n 0, 1) := by decide +kernel
theorem dX11_rule_23 : decode cX11_rule 23 = .ok (.getfield 58, 3) := by decide +kernel
theorem dX11_rule_26 : decode cX11_rule 26 = .ok (.bipush 35, 2) := by decide +kernel
theorem dX11_rule_28 : decode cX11_rule 28 = .ok (.iaload, 1) := by decide +kernel
theorem dX11_rule_29 : decode cX11_rule 29 = .ok (.goto 39, 3) := by decide +kernel
theorem dX11_rule_32 : decode cX11_rule 32 = .ok (.iload_n 1, 1) := by decide +kernel
theorem dX11_rule_33 : decode cX11_rule 33 = .ok (.iconst 1, 1) := by decide +kernel
theorem dX11_rule_34 : decode cX11_rule 34 = .ok (.if_icmp .ne 13, 3) := by decide +kernel
theorem dX11_rule_37 : decode cX11_rule 37 = .ok (.aload_n 0, 1) := by decide +kernel
theorem dX11_rule_38 : decode cX11_rule 38 = .ok (.getfield 58, 3) := by decide +kernel
theorem dX11_rule_41 : decode cX11_rule 41 = .ok (.bipush 36, 2) := by decide +kernel
theorem dX11_rule_43 : decode cX11_rule 43 = .ok (.iaload, 1) := by decide +kernel
theorem dX11_rule_44 : decode cX11_rule 44 = .ok (.goto 24, 3) := by decide +kernel
theorem dX11_rule_47 : decode cX11_rule 47 = .ok (.iload_n 1, 1) := by decide +kernel
theorem dX11_rule_48 : decode cX11_rule 48 = .ok (.iconst 2, 1) := by decide +kernel
theorem dX11_rule_49 : decode cX11_rule 49 = .ok (.if_icmp .ne 12, 3) := by decide +kernel
theorem dX11_rule_52 : decode cX11_rule 52 = .ok (.aload_n 0, 1) := by decide +kernel
theorem dX11_rule_53 : decode cX11_rule 53 = .ok (.getfield 49, 3) := by decide +kernel
theorem dX11_rule_56 : decode cX11_rule 56 = .ok (.iconst 2, 1) := by decide +kernel
theorem dX11_rule_57 : decode cX11_rule 57 = .ok (.iaload, 1) := by decide +kernel
theorem dX11_rule_58 : decode cX11_rule 58 = .ok (.goto 10, 3) := by decide +kernel
theorem dX11_rule_61 : decode cX11_rule 61 = .ok (.aload_n 0, 1) := by decide +kernel
theorem dX11_rule_62 : decode cX11_rule 62 = .ok (.getfield 58, 3) := by decide +kernel
theorem dX11_rule_65 : decode cX11_rule 65 = .ok (.bipush 37, 2) := by decide +kernel
theorem dX11_rule_67 : decode cX11_rule 67 = .ok (.iaload, 1) := by decide +kernel
theorem dX11_rule_68 : decode cX11_rule 68 = .ok (.ireturn, 1) := by decide +kernel
theorem dX11_month_0 : decode cX11_month 0 = .ok (.aload_n 0, 1) := by decide +kernel
theorem dX11_month_1 : decode cX11_month 1 = .ok (.iload_n 1, 1) := by decide +kernel
theorem dX11_month_2 : decode cX11_month 2 = .ok (.invokevirtual 317, 3) := by decide +kernel
theorem dX11_month_5 : decode cX11_month 5 = .ok (.ifCond .eq 12, 3) := by decide +kernel
theorem dX11_month_8 : decode cX11_month 8 = .ok (.iload_n 2, 1) := by decide +kernel
theorem dX11_month_9 : decode cX11_month 9 = .ok (.iconst 0, 1) := by decide +kernel
theorem dX11_month_10 : decode cX11_month 10 = .ok (.iconst 4, 1) := by decide +kernel
theorem dX11_month_11 : decode cX11_month 11 = .ok (.invokestatic 221, 3) := by decide +kernel
theorem dX11_month_14 : decode cX11_month 14 = .ok (.ifCond .ne 5, 3) := by decide +kernel
theorem dX11_month_17 : decode cX11_month 17 = .ok (.iconst (-1), 1) := by decide +kernel
theorem dX11_month_18 : decode cX11_month 18 = .ok (.ireturn, 1) := by decide +kernel
theorem dX11_month_19 : decode cX11_month 19 = .ok (.iload_n 2, 1) := by decide +kernel
theorem dX11_month_20 : decode cX11_month 20 = .ok (.iconst 1, 1) := by decide +kernel
theorem dX11_month_21 : decode cX11_month 21 = .ok (.if_icmp .ne 14, 3) := by decide +kernel
theorem dX11_month_24 : decode cX11_month 24 = .ok (.aload_n 0, 1) := by decide +kernel
theorem dX11_month_25 : decode cX11_month 25 = .ok (.getfield 58, 3) := by decide +kernel
theorem dX11_month_28 : decode cX11_month 28 = .ok (.iconst 0, 1) := by decide +kernel
theorem dX11_month_29 : decode cX11_month 29 = .ok (.iload_n 1, 1) := by decide +kernel
theorem dX11_month_30 : decode cX11_month 30 = .ok (.iadd, 1) := by decide +kernel
theorem dX11_month_31 : decode cX11_month 31 = .ok (.iaload, 1) := by decide +kernel
theorem dX11_month_32 : decode cX11_month 32 = .ok (.goto 43, 3) := by decide +kernel
theorem dX11_month_35 : decode cX11_month 35 = .ok (.iload_n 2, 1) := by decide +kernel
theorem dX11_month_36 : decode cX11_month 36 = .ok (.iconst 2, 1) := by decide +kernel
theorem dX11_month_37 : decode cX11_month 37 = .ok (.if_icmp .ne 15, 3) := by decide +kernel
theorem dX11_month_40 : decode cX11_month 40 = .ok (.aload_n 0, 1) := by decide +kernel
theorem dX11_month_41 : decode cX11_month 41 = .ok (.getfield 58, 3) := by decide +kernel
theorem dX11_month_44 : decode cX11_month 44 = .ok (.bipush 8, 2) := by decide +kernel
theorem dX11_month_46 : decode cX11_month 46 = .ok (.iload_n 1, 1) := by decide +kernel
theorem dX11_month_47 : decode cX11_month 47 = .ok (.iadd, 1) := by decide +kernel
theorem dX11_month_48 : decode cX11_month 48 = .ok (.iaload, 1) := by decide +kernel
theorem dX11_month_49 : decode cX11_month 49 = .ok (.goto 26, 3) := by decide +kernel
theorem dX11_month_52 : decode cX11_month 52 = .ok (.iload_n 2, 1) := by decide +kernel
theorem dX11_month_53 : decode cX11_month 53 = .ok (.iconst 3, 1) := by decide +kernel
theorem dX11_month_54 : decode cX11_month 54 = .ok (.if_icmp .ne 15, 3) := by decide +kernel
theorem dX11_month_57 : decode cX11_month 57 = .ok (.aload_n 0, 1) := by decide +kernel
theorem dX11_month_58 : decode cX11_month 58 = .ok (.getfield 58, 3) := by decide +kernel
theorem dX11_month_61 : decode cX11_month 61 = .ok (.bipush 16, 2) := by decide +kernel
theorem dX11_month_63 : decode cX11_month 63 = .ok (.iload_n 1, 1) := by decide +kernel
theorem dX11_month_64 : decode cX11_month 64 = .ok (.iadd, 1) := by decide +kernel
theorem dX11_month_65 : decode cX11_month 65 = .ok (.iaload, 1) := by decide +kernel
theorem dX11_month_66 : decode cX11_month 66 = .ok (.goto 9, 3) := by decide +kernel
theorem dX11_month_69 : decode cX11_month 69 = .ok (.aload_n 0, 1) := by decide +kernel
theorem dX11_month_70 : decode cX11_month 70 = .ok (.iload_n 1, 1) := by decide +kernel
theorem dX11_month_71 : decode cX11_month 71 = .ok (.iload_n 2, 1) := by decide +kernel
theorem dX11_month_72 : decode cX11_month 72 = .ok (.invokevirtual 264, 3) := by decide +kernel
theorem dX11_month_75 : decode cX11_month 75 = .ok (.ireturn, 1) := by decide +kernel
theorem dX11_crop_0 : decode cX11_crop 0 = .ok (.aload_n 0, 1) := by decide +kernel
theorem dX11_crop_1 : decode cX11_crop 1 = .ok (.aload_n 0, 1) := by decide +kernel
theorem dX11_crop_2 : decode cX11_crop 2 = .ok (.iload_n 1, 1) := by decide +kernel
theorem dX11_crop_3 : decode cX11_crop 3 = .ok (.invokevirtual 320, 3) := by decide +kernel
theorem dX11_crop_6 : decode cX11_crop 6 = .ok (.ifCond .eq 16, 3) := by decide +kernel
theorem dX11_crop_9 : decode cX11_crop 9 = .ok (.iload_n 2, 1) := by decide +kernel
theorem dX11_crop_10 : decode cX11_crop 10 = .ok (.iconst 0, 1) := by decide +kernel
theorem dX11_crop_11 : decode cX11_crop 11 = .ok (.iconst 5, 1) := by decide +kernel
theorem dX11_crop_12 : decode cX11_crop 12 = .ok (.invokestatic 221, 3) := by decide +kernel
theorem dX11_crop_15 : decode cX11_crop 15 = .ok (.ifCond .eq 7, 3) := by decide +kernel
theorem dX11_crop_18 : decode cX11_crop 18 = .ok (.iconst 0, 1) := by decide +kernel
theorem dX11_crop_19 : decode cX11_crop 19 = .ok (.goto 4, 3) := by decide +kernel
theorem dX11_crop_22 : decode cX11_crop 22 = .ok (.iconst 1, 1) := by decide +kernel
theorem dX11_crop_23 : decode cX11_crop 23 = .ok (.putfield 106, 3) := by decide +kernel
theorem dX11_crop_26 : decode cX11_crop 26 = .ok (.aload_n 0, 1) := by decide +kernel
theorem dX11_crop_27 : decode cX11_crop 27 = .ok (.getfield 106, 3) := by decide +kernel
theorem dX11_crop_30 : decode cX11_crop 30 = .ok (.iconst 1, 1) := by decide +kernel
theorem dX11_crop_31 : decode cX11_crop 31 = .ok (.if_icmp .ne 5, 3) := by decide +kernel
theorem dX11_crop_34 : decode cX11_crop 34 = .ok (.iconst 0, 1) := by decide +kernel
theorem dX11_crop_35 : decode cX11_crop 35 = .ok (.ireturn, 1) := by decide +kernel
theorem dX11_crop_36 : decode cX11_crop 36 = .ok (.iload_n 2, 1) := by decide +kernel
theorem dX11_crop_37 : decode cX11_crop 37 = .ok (.iconst 3, 1) := by decide +kernel
theorem dX11_crop_38 : decode cX11_crop 38 = .ok (.if_icmp .ge 12, 3) := by decide +kernel
theorem dX11_crop_41 : decode cX11_crop 41 = .ok (.aload_n 0, 1) := by decide +kernel
theorem dX11_crop_42 : decode cX11_crop 42 = .ok (.iload_n 1, 1) := by decide +kernel
theorem dX11_crop_43 : decode cX11_crop 43 = .ok (.iload_n 2, 1) := by decide +kernel
theorem dX11_crop_44 : decode cX11_crop 44 = .ok (.invokevirtual 296, 3) := by decide +kernel
theorem dX11_crop_47 : decode cX11_crop 47 = .ok (.goto 50, 3) := by decide +kernel
theorem dX11_crop_50 : decode cX11_crop 50 = .ok (.iload_n 2, 1) := by decide +kernel
theorem dX11_crop_51 : decode cX11_crop 51 = .ok (.iconst 3, 1) := by decide +kernel
theorem dX11_crop_52 : decode cX11_crop 52 = .ok (.if_icmp .ne 15, 3) := by decide +kernel
theorem dX11_crop_55 : decode cX11_crop 55 = .ok (.aload_n 0, 1) := by decide +kernel
theorem dX11_crop_56 : decode cX11_crop 56 = .ok (.getfield 58, 3) := by decide +kernel
theorem dX11_crop_59 : decode cX11_crop 59 = .ok (.bipush 24, 2) := by decide +kernel
theorem dX11_crop_61 : decode cX11_crop 61 = .ok (.iload_n 1, 1) := by decide +kernel
theorem dX11_crop_62 : decode cX11_crop 62 = .ok (.iadd, 1) := by decide +kernel
theorem dX11_crop_63 : decode cX11_crop 63 = .ok (.iaload, 1) := by decide +kernel
theorem dX11_crop_64 : decode cX11_crop 64 = .ok (.goto 33, 3) := by decide +kernel
theorem dX11_crop_67 : decode cX11_crop 67 = .ok (.iload_n 2, 1) := by decide +kernel
theorem dX11_crop_68 : decode cX11_crop 68 = .ok (.iconst 4, 1) := by decide +kernel
theorem dX11_crop_69 : decode cX11_crop 69 = .ok (.if_icmp .ne 15, 3) := by decide +kernel
theorem dX11_crop_72 : decode cX11_crop 72 = .ok (.aload_n 0, 1) := by decide +kernel
theorem dX11_crop_73 : decode cX11_crop 73 = .ok (.getfield 58, 3) := by decide +kernel
theorem dX11_crop_76 : decode cX11_crop 76 = .ok (.bipush 29, 2) := by decide +kernel
theorem dX11_crop_78 : decode cX11_crop 78 = .ok (.iload_n 1, 1) := by decide +kernel
theorem dX11_crop_79 : decode cX11_crop 79 = .ok (.iadd, 1) := by decide +kernel
theorem dX11_crop_80 : decode cX11_crop 80 = .ok (.iaload, 1) := by decide +kernel
theorem dX11_crop_81 : decode cX11_crop 81 = .ok (.goto 16, 3) := by decide +kernel
theorem dX11_crop_84 : decode cX11_crop 84 = .ok (.aload_n 0, 1) := by decide +kernel
theorem dX11_crop_85 : decode cX11_crop 85 = .ok (.iload_n 1, 1) := by decide +kernel
theorem dX11_crop_86 : decode cX11_crop 86 = .ok (.invokevirtual 308, 3) := by decide +kernel
theorem dX11_crop_89 : decode cX11_crop 89 = .ok (.ifCond .eq 7, 3) := by decide +kernel
theorem dX11_crop_92 : decode cX11_crop 92 = .ok (.iconst 1, 1) := by decide +kernel
theorem dX11_crop_93 : decode cX11_crop 93 = .ok (.goto 4, 3) := by decide +kernel
theorem dX11_crop_96 : decode cX11_crop 96 = .ok (.iconst 0, 1) := by decide +kernel
theorem dX11_crop_97 : decode cX11_crop 97 = .ok (.ireturn, 1) := by decide +kernel
theorem dX11_law_0 : decode cX11_law 0 = .ok (.iload_n 1, 1) := by decide +kernel
theorem dX11_law_1 : decode cX11_law 1 = .ok (.iconst (-1), 1) := by decide +kernel
theorem dX11_law_2 : decode cX11_law 2 = .ok (.aload_n 0, 1) := by decide +kernel
theorem dX11_law_3 : decode cX11_law 3 = .ok (.getfield 286, 3) := by decide +kernel
theorem dX11_law_6 : decode cX11_law 6 = .ok (.iconst 1, 1) := by decide +kernel
theorem dX11_law_7 : decode cX11_law 7 = .ok (.isub, 1) := by decide +kernel
theorem dX11_law_8 : decode cX11_law 8 = .ok (.invokestatic 221, 3) := by decide +kernel
theorem dX11_law_11 : decode cX11_law 11 = .ok (.ifCond .ne 5, 3) := by decide +kernel
theorem dX11_law_14 : decode cX11_law 14 = .ok (.iconst 0, 1) := by decide +kernel
theorem dX11_law_15 : decode cX11_law 15 = .ok (.ireturn, 1) := by decide +kernel
theorem dX11_law_16 : decode cX11_law 16 = .ok (.aload_n 0, 1) := by decide +kernel
theorem dX11_law_17 : decode cX11_law 17 = .ok (.iload_n 1, 1) := by decide +kernel
theorem dX11_law_18 : decode cX11_law 18 = .ok (.putfield 64, 3) := by decide +kernel
theorem dX11_law_21 : decode cX11_law 21 = .ok (.iconst 1, 1) := by decide +kernel
theorem dX11_law_22 : decode cX11_law 22 = .ok (.ireturn, 1) := by decide +kernel
theorem dX11_pull_0 : decode cX11_pull 0 = .ok (.aload_n 0, 1) := by decide +kernel
theorem dX11_pull_1 : decode cX11_pull 1 = .ok (.getfield 261, 3) := by decide +kernel
theorem dX11_pull_4 : decode cX11_pull 4 = .ok (.ifCond .ne 7, 3) := by decide +kernel
theorem dX11_pull_7 : decode cX11_pull 7 = .ok (.iconst (-1), 1) := by decide +kernel
theorem dX11_pull_8 : decode cX11_pull 8 = .ok (.goto 7, 3) := by decide +kernel
theorem dX11_pull_11 : decode cX11_pull 11 = .ok (.aload_n 0, 1) := by decide +kernel
theorem dX11_pull_12 : decode cX11_pull 12 = .ok (.invokevirtual 302, 3) := by decide +kernel
theorem dX11_pull_15 : decode cX11_pull 15 = .ok (.ireturn, 1) := by decide +kernel
theorem dX11_keep_0 : decode cX11_keep 0 = .ok (.aload_n 0, 1) := by decide +kernel
theorem dX11_keep_1 : decode cX11_keep 1 = .ok (.getfield 276, 3) := by decide +kernel
theorem dX11_keep_4 : decode cX11_keep 4 = .ok (.bipush 40, 2) := by decide +kernel
theorem dX11_keep_6 : decode cX11_keep 6 = .ok (.if_icmp .ne 46, 3) := by decide +kernel
theorem dX11_keep_9 : decode cX11_keep 9 = .ok (.sipush 284, 3) := by decide +kernel
theorem dX11_keep_12 : decode cX11_keep 12 = .ok (.istore_n 1, 1) := by decide +kernel
theorem dX11_keep_13 : decode cX11_keep 13 = .ok (.iload_n 1, 1) := by decide +kernel
theorem dX11_keep_14 : decode cX11_keep 14 = .ok (.sipush 11360, 3) := by decide +kernel
theorem dX11_keep_17 : decode cX11_keep 17 = .ok (.if_icmp .ge 25, 3) := by decide +kernel
theorem dX11_keep_20 : decode cX11_keep 20 = .ok (.aload_n 0, 1) := by decide +kernel
theorem dX11_keep_21 : decode cX11_keep 21 = .ok (.getfield 71, 3) := by decide +kernel
theorem dX11_keep_24 : decode cX11_keep 24 = .ok (.iload_n 1, 1) := by decide +kernel
theorem dX11_keep_25 : decode cX11_keep 25 = .ok (.sipush 284, 3) := by decide +kernel
theorem dX11_keep_28 : decode cX11_keep 28 = .ok (.isub, 1) := by decide +kernel
theorem dX11_keep_29 : decode cX11_keep 29 = .ok (.aload_n 0, 1) := by decide +kernel
theorem dX11_keep_30 : decode cX11_keep 30 = .ok (.getfield 71, 3) := by decide +kernel
theorem dX11_keep_33 : decode cX11_keep 33 = .ok (.iload_n 1, 1) := by decide +kernel
theorem dX11_keep_34 : decode cX11_keep 34 = .ok (.iaload, 1) := by decide +kernel
theorem dX11_keep_35 : decode cX11_keep 35 = .ok (.iastore, 1) := by decide +kernel
theorem dX11_keep_36 : decode cX11_keep 36 = .ok (.iinc 1 1, 3) := by decide +kernel
theorem dX11_keep_39 : decode cX11_keep 39 = .ok (.goto (-26), 3) := by decide +kernel
theorem dX11_keep_42 : decode cX11_keep 42 = .ok (.aload_n 0, 1) := by decide +kernel
theorem dX11_keep_43 : decode cX11_keep 43 = .ok (.dup, 1) := by decide +kernel
theorem dX11_keep_44 : decode cX11_keep 44 = .ok (.getfield 276, 3) := by decide +kernel
theorem dX11_keep_47 : decode cX11_keep 47 = .ok (.iconst 1, 1) := by decide +kernel
theorem dX11_keep_48 : decode cX11_keep 48 = .ok (.isub, 1) := by decide +kernel
theorem dX11_keep_49 : decode cX11_keep 49 = .ok (.putfield 276, 3) := by decide +kernel
theorem dX11_keep_52 : decode cX11_keep 52 = .ok (.iconst 0, 1) := by decide +kernel
theorem dX11_keep_53 : decode cX11_keep 53 = .ok (.istore_n 1, 1) := by decide +kernel
theorem dX11_keep_54 : decode cX11_keep 54 = .ok (.iload_n 1, 1) := by decide +kernel
theorem dX11_keep_55 : decode cX11_keep 55 = .ok (.sipush 284, 3) := by decide +kernel
theorem dX11_keep_58 : decode cX11_keep 58 = .ok (.if_icmp .ge 30, 3) := by decide +kernel
theorem dX11_keep_61 : decode cX11_keep 61 = .ok (.aload_n 0, 1) := by decide +kernel
theorem dX11_keep_62 : decode cX11_keep 62 = .ok (.getfield 71, 3) := by decide +kernel
theorem dX11_keep_65 : decode cX11_keep 65 = .ok (.sipush 284, 3) := by decide +kernel
theorem dX11_keep_68 : decode cX11_keep 68 = .ok (.aload_n 0, 1) := by decide +kernel
theorem dX11_keep_69 : decode cX11_keep 69 = .ok (.getfield 276, 3) := by decide +kernel
theorem dX11_keep_72 : decode cX11_keep 72 = .ok (.imul, 1) := by decide +kernel
theorem dX11_keep_73 : decode cX11_keep 73 = .ok (.iload_n 1, 1) := by decide +kernel
theorem dX11_keep_74 : decode cX11_keep 74 = .ok (.iadd, 1) := by decide +kernel
theorem dX11_keep_75 : decode cX11_keep 75 = .ok (.aload_n 0, 1) := by decide +kernel
theorem dX11_keep_76 : decode cX11_keep 76 = .ok (.getfield 58, 3) := by decide +kernel
theorem dX11_keep_79 : decode cX11_keep 79 = .ok (.iload_n 1, 1) := by decide +kernel
theorem dX11_keep_80 : decode cX11_keep 80 = .ok (.iaload, 1) := by decide +kernel
theorem dX11_keep_81 : decode cX11_keep 81 = .ok (.iastore, 1) := by decide +kernel
theorem dX11_keep_82 : decode cX11_keep 82 = .ok (.iinc 1 1, 3) := by decide +kernel
theorem dX11_keep_85 : decode cX11_keep 85 = .ok (.goto (-31), 3) := by decide +kernel
theorem dX11_keep_88 : decode cX11_keep 88 = .ok (.aload_n 0, 1) := by decide +kernel
theorem dX11_keep_89 : decode cX11_keep 89 = .ok (.dup, 1) := by decide +kernel
theorem dX11_keep_90 : decode cX11_keep 90 = .ok (.getfield 276, 3) := by decide +kernel
theorem dX11_keep_93 : decode cX11_keep 93 = .ok (.iconst 1, 1) := by decide +kernel
theorem dX11_keep_94 : decode cX11_keep 94 = .ok (.iadd, 1) := by decide +kernel
theorem dX11_keep_95 : decode cX11_keep 95 = .ok (.putfield 276, 3) := by decide +kernel
theorem dX11_keep_98 : decode cX11_keep 98 = .ok (.return_, 1) := by decide +kernel
theorem dX11_isRefused_0 : decode cX11_isRefused 0 = .ok (.iload_n 1, 1) := by decide +kernel
theorem dX11_isRefused_1 : decode cX11_isRefused 1 = .ok (.iconst (-1), 1) := by decide +kernel
theorem dX11_isRefused_2 : decode cX11_isRefused 2 = .ok (.if_icmp .eq 13, 3) := by decide +kernel
theorem dX11_isRefused_5 : decode cX11_isRefused 5 = .ok (.aload_n 0, 1) := by decide +kernel
theorem dX11_isRefused_6 : decode cX11_isRefused 6 = .ok (.getfield 61, 3) := by decide +kernel
theorem dX11_isRefused_9 : decode cX11_isRefused 9 = .ok (.iload_n 1, 1) := by decide +kernel
theorem dX11_isRefused_10 : decode cX11_isRefused 10 = .ok (.dup2, 1) := by decide +kernel
theorem dX11_isRefused_11 : decode cX11_isRefused 11 = .ok (.iaload, 1) := by decide +kernel
theorem dX11_isRefused_12 : decode cX11_isRefused 12 = .ok (.iconst 1, 1) := by decide +kernel
theorem dX11_isRefused_13 : decode cX11_isRefused 13 = .ok (.iadd, 1) := by decide +kernel
theorem dX11_isRefused_14 : decode cX11_isRefused 14 = .ok (.iastore, 1) := by decide +kernel
theorem dX11_isRefused_15 : decode cX11_isRefused 15 = .ok (.iload_n 1, 1) := by decide +kernel
theorem dX11_isRefused_16 : decode cX11_isRefused 16 = .ok (.iconst (-1), 1) := by decide +kernel
theorem dX11_isRefused_17 : decode cX11_isRefused 17 = .ok (.if_icmp .eq 7, 3) := by decide +kernel
theorem dX11_isRefused_20 : decode cX11_isRefused 20 = .ok (.iconst 1, 1) := by decide +kernel
theorem dX11_isRefused_21 : decode cX11_isRefused 21 = .ok (.goto 4, 3) := by decide +kernel
theorem dX11_isRefused_24 : decode cX11_isRefused 24 = .ok (.iconst 0, 1) := by decide +kernel
theorem dX11_isRefused_25 : decode cX11_isRefused 25 = .ok (.ireturn, 1) := by decide +kernel
theorem dX11_areTurns_0 : decode cX11_areTurns 0 = .ok (.iload_n 1, 1) := by decide +kernel
theorem dX11_areTurns_1 : decode cX11_areTurns 1 = .ok (.iconst 1, 1) := by decide +kernel
theorem dX11_areTurns_2 : decode cX11_areTurns 2 = .ok (.bipush 60, 2) := by decide +kernel
theorem dX11_areTurns_4 : decode cX11_areTurns 4 = .ok (.invokestatic 221, 3) := by decide +kernel
theorem dX11_areTurns_7 : decode cX11_areTurns 7 = .ok (.ifCond .eq 22, 3) := by decide +kernel
theorem dX11_areTurns_10 : decode cX11_areTurns 10 = .ok (.aload_n 0, 1) := by decide +kernel
theorem dX11_areTurns_11 : decode cX11_areTurns 11 = .ok (.getfield 58, 3) := by decide +kernel
theorem dX11_areTurns_14 : decode cX11_areTurns 14 = .ok (.bipush 42, 2) := by decide +kernel
theorem dX11_areTurns_16 : decode cX11_areTurns 16 = .ok (.iaload, 1) := by decide +kernel
theorem dX11_areTurns_17 : decode cX11_areTurns 17 = .ok (.iload_n 1, 1) := by decide +kernel
theorem dX11_areTurns_18 : decode cX11_areTurns 18 = .ok (.iadd, 1) := by decide +kernel
theorem dX11_areTurns_19 : decode cX11_areTurns 19 = .ok (.sipush 9999, 3) := by decide +kernel
theorem dX11_areTurns_22 : decode cX11_areTurns 22 = .ok (.if_icmp .gt 7, 3) := by decide +kernel
theorem dX11_areTurns_25 : decode cX11_areTurns 25 = .ok (.iconst 1, 1) := by decide +kernel
theorem dX11_areTurns_26 : decode cX11_areTurns 26 = .ok (.goto 4, 3) := by decide +kernel
theorem dX11_areTurns_29 : decode cX11_areTurns 29 = .ok (.iconst 0, 1) := by decide +kernel
theorem dX11_areTurns_30 : decode cX11_areTurns 30 = .ok (.ireturn, 1) := by decide +kernel
theorem dX11_turn_0 : decode cX11_turn 0 = .ok (.aload_n 0, 1) := by decide +kernel
theorem dX11_turn_1 : decode cX11_turn 1 = .ok (.aload_n 0, 1) := by decide +kernel
theorem dX11_turn_2 : decode cX11_turn 2 = .ok (.getfield 261, 3) := by decide +kernel
theorem dX11_turn_5 : decode cX11_turn 5 = .ok (.ifCond .ne 7, 3) := by decide +kernel
theorem dX11_turn_8 : decode cX11_turn 8 = .ok (.iconst 0, 1) := by decide +kernel
theorem dX11_turn_9 : decode cX11_turn 9 = .ok (.goto 30, 3) := by decide +kernel
theorem dX11_turn_12 : decode cX11_turn 12 = .ok (.iload_n 1, 1) := by decide +kernel
theorem dX11_turn_13 : decode cX11_turn 13 = .ok (.iconst 1, 1) := by decide +kernel
theorem dX11_turn_14 : decode cX11_turn 14 = .ok (.bipush 60, 2) := by decide +kernel
theorem dX11_turn_16 : decode cX11_turn 16 = .ok (.invokestatic 221, 3) := by decide +kernel
theorem dX11_turn_19 : decode cX11_turn 19 = .ok (.ifCond .ne 7, 3) := by decide +kernel
theorem dX11_turn_22 : decode cX11_turn 22 = .ok (.iconst 1, 1) := by decide +kernel
theorem dX11_turn_23 : decode cX11_turn 23 = .ok (.goto 16, 3) := by decide +kernel
theorem dX11_turn_26 : decode cX11_turn 26 = .ok (.aload_n 0, 1) := by decide +kernel
theorem dX11_turn_27 : decode cX11_turn 27 = .ok (.iload_n 1, 1) := by decide +kernel
theorem dX11_turn_28 : decode cX11_turn 28 = .ok (.invokevirtual 323, 3) := by decide +kernel
theorem dX11_turn_31 : decode cX11_turn 31 = .ok (.ifCond .ne 7, 3) := by decide +kernel
theorem dX11_turn_34 : decode cX11_turn 34 = .ok (.iconst 4, 1) := by decide +kernel
theorem dX11_turn_35 : decode cX11_turn 35 = .ok (.goto 4, 3) := by decide +kernel
theorem dX11_turn_38 : decode cX11_turn 38 = .ok (.iconst (-1), 1) := by decide +kernel
theorem dX11_turn_39 : decode cX11_turn 39 = .ok (.invokevirtual 326, 3) := by decide +kernel
theorem dX11_turn_42 : decode cX11_turn 42 = .ok (.ifCond .eq 5, 3) := by decide +kernel
theorem dX11_turn_45 : decode cX11_turn 45 = .ok (.iconst (-1), 1) := by decide +kernel
theorem dX11_turn_46 : decode cX11_turn 46 = .ok (.ireturn, 1) := by decide +kernel
theorem dX11_turn_47 : decode cX11_turn 47 = .ok (.iconst 0, 1) := by decide +kernel
theorem dX11_turn_48 : decode cX11_turn 48 = .ok (.istore_n 2, 1) := by decide +kernel
theorem dX11_turn_49 : decode cX11_turn 49 = .ok (.iload_n 2, 1) := by decide +kernel
theorem dX11_turn_50 : decode cX11_turn 50 = .ok (.iload_n 1, 1) := by decide +kernel
theorem dX11_turn_51 : decode cX11_turn 51 = .ok (.if_icmp .ge 17, 3) := by decide +kernel
theorem dX11_turn_54 : decode cX11_turn 54 = .ok (.aload_n 0, 1) := by decide +kernel
theorem dX11_turn_55 : decode cX11_turn 55 = .ok (.invokevirtual 329, 3) := by decide +kernel
theorem dX11_turn_58 : decode cX11_turn 58 = .ok (.aload_n 0, 1) := by decide +kernel
theorem dX11_turn_59 : decode cX11_turn 59 = .ok (.invokevirtual 332, 3) := by decide +kernel
theorem dX11_turn_62 : decode cX11_turn 62 = .ok (.iinc 2 1, 3) := by decide +kernel
theorem dX11_turn_65 : decode cX11_turn 65 = .ok (.goto (-16), 3) := by decide +kernel
theorem dX11_turn_68 : decode cX11_turn 68 = .ok (.aload_n 0, 1) := by decide +kernel
theorem dX11_turn_69 : decode cX11_turn 69 = .ok (.getfield 58, 3) := by decide +kernel
theorem dX11_turn_72 : decode cX11_turn 72 = .ok (.bipush 39, 2) := by decide +kernel
theorem dX11_turn_74 : decode cX11_turn 74 = .ok (.iaload, 1) := by decide +kernel
theorem dX11_turn_75 : decode cX11_turn 75 = .ok (.ireturn, 1) := by decide +kernel
theorem dX11_hay_0 : decode cX11_hay 0 = .ok (.aload_n 0, 1) := by decide +kernel
theorem dX11_hay_1 : decode cX11_hay 1 = .ok (.aload_n 0, 1) := by decide +kernel
theorem dX11_hay_2 : decode cX11_hay 2 = .ok (.getfield 261, 3) := by decide +kernel
theorem dX11_hay_5 : decode cX11_hay 5 = .ok (.ifCond .ne 7, 3) := by decide +kernel
theorem dX11_hay_8 : decode cX11_hay 8 = .ok (.iconst 0, 1) := by decide +kernel
theorem dX11_hay_9 : decode cX11_hay 9 = .ok (.goto 47, 3) := by decide +kernel
theorem dX11_hay_12 : decode cX11_hay 12 = .ok (.iload_n 1, 1) := by decide +kernel
theorem dX11_hay_13 : decode cX11_hay 13 = .ok (.iconst 1, 1) := by decide +kernel
theorem dX11_hay_14 : decode cX11_hay 14 = .ok (.bipush 99, 2) := by decide +kernel
theorem dX11_hay_16 : decode cX11_hay 16 = .ok (.invokestatic 221, 3) := by decide +kernel
theorem dX11_hay_19 : decode cX11_hay 19 = .ok (.ifCond .eq 17, 3) := by decide +kernel
theorem dX11_hay_22 : decode cX11_hay 22 = .ok (.aload_n 0, 1) := by decide +kernel
theorem dX11_hay_23 : decode cX11_hay 23 = .ok (.getfield 58, 3) := by decide +kernel
theorem dX11_hay_26 : decode cX11_hay 26 = .ok (.bipush 36, 2) := by decide +kernel
theorem dX11_hay_28 : decode cX11_hay 28 = .ok (.iaload, 1) := by decide +kernel
theorem dX11_hay_29 : decode cX11_hay 29 = .ok (.iload_n 1, 1) := by decide +kernel
theorem dX11_hay_30 : decode cX11_hay 30 = .ok (.iadd, 1) := by decide +kernel
theorem dX11_hay_31 : decode cX11_hay 31 = .ok (.bipush 99, 2) := by decide +kernel
theorem dX11_hay_33 : decode cX11_hay 33 = .ok (.if_icmp .le 7, 3) := by decide +kernel
theorem dX11_hay_36 : decode cX11_hay 36 = .ok (.iconst 1, 1) := by decide +kernel
theorem dX11_hay_37 : decode cX11_hay 37 = .ok (.goto 19, 3) := by decide +kernel
theorem dX11_hay_40 : decode cX11_hay 40 = .ok (.aload_n 0, 1) := by decide +kernel
theorem dX11_hay_41 : decode cX11_hay 41 = .ok (.getfield 58, 3) := by decide +kernel
theorem dX11_hay_44 : decode cX11_hay 44 = .ok (.bipush 37, 2) := by decide +kernel
theorem dX11_hay_46 : decode cX11_hay 46 = .ok (.iaload, 1) := by decide +kernel
theorem dX11_hay_47 : decode cX11_hay 47 = .ok (.iload_n 1, 1) := by decide +kernel
theorem dX11_hay_48 : decode cX11_hay 48 = .ok (.if_icmp .ge 7, 3) := by decide +kernel
theorem dX11_hay_51 : decode cX11_hay 51 = .ok (.iconst 2, 1) := by decide +kernel
theorem dX11_hay_52 : decode cX11_hay 52 = .ok (.goto 4, 3) := by decide +kernel
theorem dX11_hay_55 : decode cX11_hay 55 = .ok (.iconst (-1), 1) := by decide +kernel
theorem dX11_hay_56 : decode cX11_hay 56 = .ok (.invokevirtual 326, 3) := by decide +kernel
theorem dX11_hay_59 : decode cX11_hay 59 = .ok (.ifCond .eq 5, 3) := by decide +kernel
theorem dX11_hay_62 : decode cX11_hay 62 = .ok (.iconst (-1), 1) := by decide +kernel
theorem dX11_hay_63 : decode cX11_hay 63 = .ok (.ireturn, 1) := by decide +kernel
theorem dX11_hay_64 : decode cX11_hay 64 = .ok (.aload_n 0, 1) := by decide +kernel
theorem dX11_hay_65 : decode cX11_hay 65 = .ok (.invokevirtual 329, 3) := by decide +kernel
theorem dX11_hay_68 : decode cX11_hay 68 = .ok (.aload_n 0, 1) := by decide +kernel
theorem dX11_hay_69 : decode cX11_hay 69 = .ok (.getfield 58, 3) := by decide +kernel
theorem dX11_hay_72 : decode cX11_hay 72 = .ok (.bipush 36, 2) := by decide +kernel
theorem dX11_hay_74 : decode cX11_hay 74 = .ok (.dup2, 1) := by decide +kernel
theorem dX11_hay_75 : decode cX11_hay 75 = .ok (.iaload, 1) := by decide +kernel
theorem dX11_hay_76 : decode cX11_hay 76 = .ok (.iload_n 1, 1) := by decide +kernel
theorem dX11_hay_77 : decode cX11_hay 77 = .ok (.iadd, 1) := by decide +kernel
theorem dX11_hay_78 : decode cX11_hay 78 = .ok (.iastore, 1) := by decide +kernel
theorem dX11_hay_79 : decode cX11_hay 79 = .ok (.aload_n 0, 1) := by decide +kernel
theorem dX11_hay_80 : decode cX11_hay 80 = .ok (.getfield 58, 3) := by decide +kernel
theorem dX11_hay_83 : decode cX11_hay 83 = .ok (.bipush 37, 2) := by decide +kernel
theorem dX11_hay_85 : decode cX11_hay 85 = .ok (.dup2, 1) := by decide +kernel
theorem dX11_hay_86 : decode cX11_hay 86 = .ok (.iaload, 1) := by decide +kernel
theorem dX11_hay_87 : decode cX11_hay 87 = .ok (.iload_n 1, 1) := by decide +kernel
theorem dX11_hay_88 : decode cX11_hay 88 = .ok (.isub, 1) := by decide +kernel
theorem dX11_hay_89 : decode cX11_hay 89 = .ok (.iastore, 1) := by decide +kernel
theorem dX11_hay_90 : decode cX11_hay 90 = .ok (.aload_n 0, 1) := by decide +kernel
theorem dX11_hay_91 : decode cX11_hay 91 = .ok (.getfield 58, 3) := by decide +kernel
theorem dX11_hay_94 : decode cX11_hay 94 = .ok (.bipush 36, 2) := by decide +kernel
theorem dX11_hay_96 : decode cX11_hay 96 = .ok (.iaload, 1) := by decide +kernel
theorem dX11_hay_97 : decode cX11_hay 97 = .ok (.ireturn, 1) := by decide +kernel
theorem dX11_grease_0 : decode cX11_grease 0 = .ok (.aload_n 0, 1) := by decide +kernel
theorem dX11_grease_1 : decode cX11_grease 1 = .ok (.aload_n 0, 1) := by decide +kernel
theorem dX11_grease_2 : decode cX11_grease 2 = .ok (.iload_n 1, 1) := by decide +kernel
theorem dX11_grease_3 : decode cX11_grease 3 = .ok (.invokevirtual 317, 3) := by decide +kernel
theorem dX11_grease_6 : decode cX11_grease 6 = .ok (.ifCond .ne 7, 3) := by decide +kernel
theorem dX11_grease_9 : decode cX11_grease 9 = .ok (.iconst 0, 1) := by decide +kernel
theorem dX11_grease_10 : decode cX11_grease 10 = .ok (.goto 36, 3) := by decide +kernel
theorem dX11_grease_13 : decode cX11_grease 13 = .ok (.aload_n 0, 1) := by decide +kernel
theorem dX11_grease_14 : decode cX11_grease 14 = .ok (.getfield 58, 3) := by decide +kernel
theorem dX11_grease_17 : decode cX11_grease 17 = .ok (.iconst 0, 1) := by decide +kernel
theorem dX11_grease_18 : decode cX11_grease 18 = .ok (.iload_n 1, 1) := by decide +kernel
theorem dX11_grease_19 : decode cX11_grease 19 = .ok (.iadd, 1) := by decide +kernel
theorem dX11_grease_20 : decode cX11_grease 20 = .ok (.iaload, 1) := by decide +kernel
theorem dX11_grease_21 : decode cX11_grease 21 = .ok (.bipush 9, 2) := by decide +kernel
theorem dX11_grease_23 : decode cX11_grease 23 = .ok (.if_icmp .ne 7, 3) := by decide +kernel
theorem dX11_grease_26 : decode cX11_grease 26 = .ok (.iconst 1, 1) := by decide +kernel
theorem dX11_grease_27 : decode cX11_grease 27 = .ok (.goto 19, 3) := by decide +kernel
theorem dX11_grease_30 : decode cX11_grease 30 = .ok (.aload_n 0, 1) := by decide +kernel
theorem dX11_grease_31 : decode cX11_grease 31 = .ok (.getfield 58, 3) := by decide +kernel
theorem dX11_grease_34 : decode cX11_grease 34 = .ok (.bipush 37, 2) := by decide +kernel
theorem dX11_grease_36 : decode cX11_grease 36 = .ok (.iaload, 1) := by decide +kernel
theorem dX11_grease_37 : decode cX11_grease 37 = .ok (.iconst 1, 1) := by decide +kernel
theorem dX11_grease_38 : decode cX11_grease 38 = .ok (.if_icmp .ge 7, 3) := by decide +kernel
theorem dX11_grease_41 : decode cX11_grease 41 = .ok (.iconst 2, 1) := by decide +kernel
theorem dX11_grease_42 : decode cX11_grease 42 = .ok (.goto 4, 3) := by decide +kernel
theorem dX11_grease_45 : decode cX11_grease 45 = .ok (.iconst (-1), 1) := by decide +kernel
theorem dX11_grease_46 : decode cX11_grease 46 = .ok (.invokevirtual 326, 3) := by decide +kernel
theorem dX11_grease_49 : decode cX11_grease 49 = .ok (.ifCond .eq 5, 3) := by decide +kernel
theorem dX11_grease_52 : decode cX11_grease 52 = .ok (.iconst (-1), 1) := by decide +kernel
theorem dX11_grease_53 : decode cX11_grease 53 = .ok (.ireturn, 1) := by decide +kernel
theorem dX11_grease_54 : decode cX11_grease 54 = .ok (.aload_n 0, 1) := by decide +kernel
theorem dX11_grease_55 : decode cX11_grease 55 = .ok (.invokevirtual 329, 3) := by decide +kernel
theorem dX11_grease_58 : decode cX11_grease 58 = .ok (.aload_n 0, 1) := by decide +kernel
theorem dX11_grease_59 : decode cX11_grease 59 = .ok (.getfield 58, 3) := by decide +kernel
theorem dX11_grease_62 : decode cX11_grease 62 = .ok (.iconst 0, 1) := by decide +kernel
theorem dX11_grease_63 : decode cX11_grease 63 = .ok (.iload_n 1, 1) := by decide +kernel
theorem dX11_grease_64 : decode cX11_grease 64 = .ok (.iadd, 1) := by decide +kernel
theorem dX11_grease_65 : decode cX11_grease 65 = .ok (.dup2, 1) := by decide +kernel
theorem dX11_grease_66 : decode cX11_grease 66 = .ok (.iaload, 1) := by decide +kernel
theorem dX11_grease_67 : decode cX11_grease 67 = .ok (.iconst 1, 1) := by decide +kernel
theorem dX11_grease_68 : decode cX11_grease 68 = .ok (.iadd, 1) := by decide +kernel
theorem dX11_grease_69 : decode cX11_grease 69 = .ok (.iastore, 1) := by decide +kernel
theorem dX11_grease_70 : decode cX11_grease 70 = .ok (.aload_n 0, 1) := by decide +kernel
theorem dX11_grease_71 : decode cX11_grease 71 = .ok (.getfield 58, 3) := by decide +kernel
theorem dX11_grease_74 : decode cX11_grease 74 = .ok (.bipush 37, 2) := by decide +kernel
theorem dX11_grease_76 : decode cX11_grease 76 = .ok (.dup2, 1) := by decide +kernel
theorem dX11_grease_77 : decode cX11_grease 77 = .ok (.iaload, 1) := by decide +kernel
theorem dX11_grease_78 : decode cX11_grease 78 = .ok (.iconst 1, 1) := by decide +kernel
theorem dX11_grease_79 : decode cX11_grease 79 = .ok (.isub, 1) := by decide +kernel
theorem dX11_grease_80 : decode cX11_grease 80 = .ok (.iastore, 1) := by decide +kernel
theorem dX11_grease_81 : decode cX11_grease 81 = .ok (.aload_n 0, 1) := by decide +kernel
theorem dX11_grease_82 : decode cX11_grease 82 = .ok (.getfield 58, 3) := by decide +kernel
theorem dX11_grease_85 : decode cX11_grease 85 = .ok (.iconst 0, 1) := by decide +kernel
theorem dX11_grease_86 : decode cX11_grease 86 = .ok (.iload_n 1, 1) := by decide +kernel
theorem dX11_grease_87 : decode cX11_grease 87 = .ok (.iadd, 1) := by decide +kernel
theorem dX11_grease_88 : decode cX11_grease 88 = .ok (.iaload, 1) := by decide +kernel
theorem dX11_grease_89 : decode cX11_grease 89 = .ok (.ireturn, 1) := by decide +kernel
theorem dX11_chipNow_0 : decode cX11_chipNow 0 = .ok (.aload_n 0, 1) := by decide +kernel
theorem dX11_chipNow_1 : decode cX11_chipNow 1 = .ok (.getfield 58, 3) := by decide +kernel
theorem dX11_chipNow_4 : decode cX11_chipNow 4 = .ok (.bipush 8, 2) := by decide +kernel
theorem dX11_chipNow_6 : decode cX11_chipNow 6 = .ok (.iload_n 1, 1) := by decide +kernel
theorem dX11_chipNow_7 : decode cX11_chipNow 7 = .ok (.iadd, 1) := by decide +kernel
theorem dX11_chipNow_8 : decode cX11_chipNow 8 = .ok (.dup2, 1) := by decide +kernel
theorem dX11_chipNow_9 : decode cX11_chipNow 9 = .ok (.iaload, 1) := by decide +kernel
theorem dX11_chipNow_10 : decode cX11_chipNow 10 = .ok (.iconst 1, 1) := by decide +kernel
theorem dX11_chipNow_11 : decode cX11_chipNow 11 = .ok (.isub, 1) := by decide +kernel
theorem dX11_chipNow_12 : decode cX11_chipNow 12 = .ok (.iastore, 1) := by decide +kernel
theorem dX11_chipNow_13 : decode cX11_chipNow 13 = .ok (.aload_n 0, 1) := by decide +kernel
theorem dX11_chipNow_14 : decode cX11_chipNow 14 = .ok (.getfield 58, 3) := by decide +kernel
theorem dX11_chipNow_17 : decode cX11_chipNow 17 = .ok (.bipush 16, 2) := by decide +kernel
theorem dX11_chipNow_19 : decode cX11_chipNow 19 = .ok (.iload_n 1, 1) := by decide +kernel
theorem dX11_chipNow_20 : decode cX11_chipNow 20 = .ok (.iadd, 1) := by decide +kernel
theorem dX11_chipNow_21 : decode cX11_chipNow 21 = .ok (.bipush 9, 2) := by decide +kernel
theorem dX11_chipNow_23 : decode cX11_chipNow 23 = .ok (.aload_n 0, 1) := by decide +kernel
theorem dX11_chipNow_24 : decode cX11_chipNow 24 = .ok (.getfield 58, 3) := by decide +kernel
theorem dX11_chipNow_27 : decode cX11_chipNow 27 = .ok (.bipush 16, 2) := by decide +kernel
theorem dX11_chipNow_29 : decode cX11_chipNow 29 = .ok (.iload_n 1, 1) := by decide +kernel
theorem dX11_chipNow_30 : decode cX11_chipNow 30 = .ok (.iadd, 1) := by decide +kernel
theorem dX11_chipNow_31 : decode cX11_chipNow 31 = .ok (.iaload, 1) := by decide +kernel
theorem dX11_chipNow_32 : decode cX11_chipNow 32 = .ok (.iconst 1, 1) := by decide +kernel
theorem dX11_chipNow_33 : decode cX11_chipNow 33 = .ok (.iadd, 1) := by decide +kernel
theorem dX11_chipNow_34 : decode cX11_chipNow 34 = .ok (.invokestatic 292, 3) := by decide +kernel
theorem dX11_chipNow_37 : decode cX11_chipNow 37 = .ok (.iastore, 1) := by decide +kernel
theorem dX11_chipNow_38 : decode cX11_chipNow 38 = .ok (.return_, 1) := by decide +kernel
theorem dX11_chip_0 : decode cX11_chip 0 = .ok (.aload_n 0, 1) := by decide +kernel
theorem dX11_chip_1 : decode cX11_chip 1 = .ok (.aload_n 0, 1) := by decide +kernel
theorem dX11_chip_2 : decode cX11_chip 2 = .ok (.iload_n 1, 1) := by decide +kernel
theorem dX11_chip_3 : decode cX11_chip 3 = .ok (.invokevirtual 317, 3) := by decide +kernel
theorem dX11_chip_6 : decode cX11_chip 6 = .ok (.ifCond .ne 7, 3) := by decide +kernel
theorem dX11_chip_9 : decode cX11_chip 9 = .ok (.iconst 0, 1) := by decide +kernel
theorem dX11_chip_10 : decode cX11_chip 10 = .ok (.goto 20, 3) := by decide +kernel
theorem dX11_chip_13 : decode cX11_chip 13 = .ok (.aload_n 0, 1) := by decide +kernel
theorem dX11_chip_14 : decode cX11_chip 14 = .ok (.getfield 58, 3) := by decide +kernel
theorem dX11_chip_17 : decode cX11_chip 17 = .ok (.bipush 8, 2) := by decide +kernel
theorem dX11_chip_19 : decode cX11_chip 19 = .ok (.iload_n 1, 1) := by decide +kernel
theorem dX11_chip_20 : decode cX11_chip 20 = .ok (.iadd, 1) := by decide +kernel
theorem dX11_chip_21 : decode cX11_chip 21 = .ok (.iaload, 1) := by decide +kernel
theorem dX11_chip_22 : decode cX11_chip 22 = .ok (.ifCond .ne 7, 3) := by decide +kernel
theorem dX11_chip_25 : decode cX11_chip 25 = .ok (.iconst 3, 1) := by decide +kernel
theorem dX11_chip_26 : decode cX11_chip 26 = .ok (.goto 4, 3) := by decide +kernel
theorem dX11_chip_29 : decode cX11_chip 29 = .ok (.iconst (-1), 1) := by decide +kernel
theorem dX11_chip_30 : decode cX11_chip 30 = .ok (.invokevirtual 326, 3) := by decide +kernel
theorem dX11_chip_33 : decode cX11_chip 33 = .ok (.ifCond .eq 5, 3) := by decide +kernel
theorem dX11_chip_36 : decode cX11_chip 36 = .ok (.iconst (-1), 1) := by decide +kernel
theorem dX11_chip_37 : decode cX11_chip 37 = .ok (.ireturn, 1) := by decide +kernel
theorem dX11_chip_38 : decode cX11_chip 38 = .ok (.aload_n 0, 1) := by decide +kernel
theorem dX11_chip_39 : decode cX11_chip 39 = .ok (.invokevirtual 329, 3) := by decide +kernel
theorem dX11_chip_42 : decode cX11_chip 42 = .ok (.aload_n 0, 1) := by decide +kernel
theorem dX11_chip_43 : decode cX11_chip 43 = .ok (.iload_n 1, 1) := by decide +kernel
theorem dX11_chip_44 : decode cX11_chip 44 = .ok (.invokevirtual 335, 3) := by decide +kernel
theorem dX11_chip_47 : decode cX11_chip 47 = .ok (.aload_n 0, 1) := by decide +kernel
theorem dX11_chip_48 : decode cX11_chip 48 = .ok (.getfield 58, 3) := by decide +kernel
theorem dX11_chip_51 : decode cX11_chip 51 = .ok (.bipush 8, 2) := by decide +kernel
theorem dX11_chip_53 : decode cX11_chip 53 = .ok (.iload_n 1, 1) := by decide +kernel
theorem dX11_chip_54 : decode cX11_chip 54 = .ok (.iadd, 1) := by decide +kernel
theorem dX11_chip_55 : decode cX11_chip 55 = .ok (.iaload, 1) := by decide +kernel
theorem dX11_chip_56 : decode cX11_chip 56 = .ok (.ireturn, 1) := by decide +kernel
theorem dX11_reverse_0 : decode cX11_reverse 0 = .ok (.aload_n 0, 1) := by decide +kernel
theorem dX11_reverse_1 : decode cX11_reverse 1 = .ok (.aload_n 0, 1) := by decide +kernel
theorem dX11_reverse_2 : decode cX11_reverse 2 = .ok (.getfield 261, 3) := by decide +kernel
theorem dX11_reverse_5 : decode cX11_reverse 5 = .ok (.ifCond .ne 7, 3) := by decide +kernel
theorem dX11_reverse_8 : decode cX11_reverse 8 = .ok (.iconst 0, 1) := by decide +kernel
theorem dX11_reverse_9 : decode cX11_reverse 9 = .ok (.goto 4, 3) := by decide +kernel
theorem dX11_reverse_12 : decode cX11_reverse 12 = .ok (.iconst (-1), 1) := by decide +kernel
theorem dX11_reverse_13 : decode cX11_reverse 13 = .ok (.invokevirtual 326, 3) := by decide +kernel
theorem dX11_reverse_16 : decode cX11_reverse 16 = .ok (.ifCond .eq 5, 3) := by decide +kernel
theorem dX11_reverse_19 : decode cX11_reverse 19 = .ok (.iconst (-1), 1) := by decide +kernel
theorem dX11_reverse_20 : decode cX11_reverse 20 = .ok (.ireturn, 1) := by decide +kernel
theorem dX11_reverse_21 : decode cX11_reverse 21 = .ok (.aload_n 0, 1) := by decide +kernel
theorem dX11_reverse_22 : decode cX11_reverse 22 = .ok (.invokevirtual 329, 3) := by decide +kernel
theorem dX11_reverse_25 : decode cX11_reverse 25 = .ok (.aload_n 0, 1) := by decide +kernel
theorem dX11_reverse_26 : decode cX11_reverse 26 = .ok (.getfield 58, 3) := by decide +kernel
theorem dX11_reverse_29 : decode cX11_reverse 29 = .ok (.bipush 38, 2) := by decide +kernel
theorem dX11_reverse_31 : decode cX11_reverse 31 = .ok (.iconst 1, 1) := by decide +kernel
theorem dX11_reverse_32 : decode cX11_reverse 32 = .ok (.aload_n 0, 1) := by decide +kernel
theorem dX11_reverse_33 : decode cX11_reverse 33 = .ok (.getfield 58, 3) := by decide +kernel
theorem dX11_reverse_36 : decode cX11_reverse 36 = .ok (.bipush 38, 2) := by decide +kernel
theorem dX11_reverse_38 : decode cX11_reverse 38 = .ok (.iaload, 1) := by decide +kernel
theorem dX11_reverse_39 : decode cX11_reverse 39 = .ok (.isub, 1) := by decide +kernel
theorem dX11_reverse_40 : decode cX11_reverse 40 = .ok (.iastore, 1) := by decide +kernel
theorem dX11_reverse_41 : decode cX11_reverse 41 = .ok (.aload_n 0, 1) := by decide +kernel
theorem dX11_reverse_42 : decode cX11_reverse 42 = .ok (.getfield 58, 3) := by decide +kernel
theorem dX11_reverse_45 : decode cX11_reverse 45 = .ok (.bipush 38, 2) := by decide +kernel
theorem dX11_reverse_47 : decode cX11_reverse 47 = .ok (.iaload, 1) := by decide +kernel
theorem dX11_reverse_48 : decode cX11_reverse 48 = .ok (.ireturn, 1) := by decide +kernel
theorem dX11_buy_0 : decode cX11_buy 0 = .ok (.aload_n 0, 1) := by decide +kernel
theorem dX11_buy_1 : decode cX11_buy 1 = .ok (.aload_n 0, 1) := by decide +kernel
theorem dX11_buy_2 : decode cX11_buy 2 = .ok (.getfield 261, 3) := by decide +kernel
theorem dX11_buy_5 : decode cX11_buy 5 = .ok (.ifCond .ne 7, 3) := by decide +kernel
theorem dX11_buy_8 : decode cX11_buy 8 = .ok (.iconst 0, 1) := by decide +kernel
theorem dX11_buy_9 : decode cX11_buy 9 = .ok (.goto 20, 3) := by decide +kernel
theorem dX11_buy_12 : decode cX11_buy 12 = .ok (.aload_n 0, 1) := by decide +kernel
theorem dX11_buy_13 : decode cX11_buy 13 = .ok (.getfield 58, 3) := by decide +kernel
theorem dX11_buy_16 : decode cX11_buy 16 = .ok (.bipush 37, 2) := by decide +kernel
theorem dX11_buy_18 : decode cX11_buy 18 = .ok (.iaload, 1) := by decide +kernel
theorem dX11_buy_19 : decode cX11_buy 19 = .ok (.bipush 20, 2) := by decide +kernel
theorem dX11_buy_21 : decode cX11_buy 21 = .ok (.if_icmp .ge 7, 3) := by decide +kernel
theorem dX11_buy_24 : decode cX11_buy 24 = .ok (.iconst 2, 1) := by decide +kernel
theorem dX11_buy_25 : decode cX11_buy 25 = .ok (.goto 4, 3) := by decide +kernel
theorem dX11_buy_28 : decode cX11_buy 28 = .ok (.iconst (-1), 1) := by decide +kernel
theorem dX11_buy_29 : decode cX11_buy 29 = .ok (.invokevirtual 326, 3) := by decide +kernel
theorem dX11_buy_32 : decode cX11_buy 32 = .ok (.ifCond .eq 5, 3) := by decide +kernel
theorem dX11_buy_35 : decode cX11_buy 35 = .ok (.iconst (-1), 1) := by decide +kernel
theorem dX11_buy_36 : decode cX11_buy 36 = .ok (.ireturn, 1) := by decide +kernel
theorem dX11_buy_37 : decode cX11_buy 37 = .ok (.aload_n 0, 1) := by decide +kernel
theorem dX11_buy_38 : decode cX11_buy 38 = .ok (.invokevirtual 329, 3) := by decide +kernel
theorem dX11_buy_41 : decode cX11_buy 41 = .ok (.aload_n 0, 1) := by decide +kernel
theorem dX11_buy_42 : decode cX11_buy 42 = .ok (.getfield 58, 3) := by decide +kernel
theorem dX11_buy_45 : decode cX11_buy 45 = .ok (.bipush 35, 2) := by decide +kernel
theorem dX11_buy_47 : decode cX11_buy 47 = .ok (.aload_n 0, 1) := by decide +kernel
theorem dX11_buy_48 : decode cX11_buy 48 = .ok (.getfield 49, 3) := by decide +kernel
theorem dX11_buy_51 : decode cX11_buy 51 = .ok (.iconst 0, 1) := by decide +kernel
theorem dX11_buy_52 : decode cX11_buy 52 = .ok (.iaload, 1) := by decide +kernel
theorem dX11_buy_53 : decode cX11_buy 53 = .ok (.iastore, 1) := by decide +kernel
theorem dX11_buy_54 : decode cX11_buy 54 = .ok (.aload_n 0, 1) := by decide +kernel
theorem dX11_buy_55 : decode cX11_buy 55 = .ok (.getfield 58, 3) := by decide +kernel
theorem dX11_buy_58 : decode cX11_buy 58 = .ok (.bipush 37, 2) := by decide +kernel
theorem dX11_buy_60 : decode cX11_buy 60 = .ok (.dup2, 1) := by decide +kernel
theorem dX11_buy_61 : decode cX11_buy 61 = .ok (.iaload, 1) := by decide +kernel
theorem dX11_buy_62 : decode cX11_buy 62 = .ok (.bipush 20, 2) := by decide +kernel
theorem dX11_buy_64 : decode cX11_buy 64 = .ok (.isub, 1) := by decide +kernel
theorem dX11_buy_65 : decode cX11_buy 65 = .ok (.iastore, 1) := by decide +kernel
theorem dX11_buy_66 : decode cX11_buy 66 = .ok (.aload_n 0, 1) := by decide +kernel
theorem dX11_buy_67 : decode cX11_buy 67 = .ok (.getfield 58, 3) := by decide +kernel
theorem dX11_buy_70 : decode cX11_buy 70 = .ok (.bipush 37, 2) := by decide +kernel
theorem dX11_buy_72 : decode cX11_buy 72 = .ok (.iaload, 1) := by decide +kernel
theorem dX11_buy_73 : decode cX11_buy 73 = .ok (.ireturn, 1) := by decide +kernel
theorem dX11_sow_0 : decode cX11_sow 0 = .ok (.aload_n 0, 1) := by decide +kernel
theorem dX11_sow_1 : decode cX11_sow 1 = .ok (.aload_n 0, 1) := by decide +kernel
theorem dX11_sow_2 : decode cX11_sow 2 = .ok (.iload_n 1, 1) := by decide +kernel
theorem dX11_sow_3 : decode cX11_sow 3 = .ok (.invokevirtual 320, 3) := by decide +kernel
theorem dX11_sow_6 : decode cX11_sow 6 = .ok (.ifCond .ne 7, 3) := by decide +kernel
theorem dX11_sow_9 : decode cX11_sow 9 = .ok (.iconst 0, 1) := by decide +kernel
theorem dX11_sow_10 : decode cX11_sow 10 = .ok (.goto 31, 3) := by decide +kernel
theorem dX11_sow_13 : decode cX11_sow 13 = .ok (.aload_n 0, 1) := by decide +kernel
theorem dX11_sow_14 : decode cX11_sow 14 = .ok (.getfield 58, 3) := by decide +kernel
theorem dX11_sow_17 : decode cX11_sow 17 = .ok (.bipush 37, 2) := by decide +kernel
theorem dX11_sow_19 : decode cX11_sow 19 = .ok (.iaload, 1) := by decide +kernel
theorem dX11_sow_20 : decode cX11_sow 20 = .ok (.iconst 2, 1) := by decide +kernel
theorem dX11_sow_21 : decode cX11_sow 21 = .ok (.if_icmp .ge 7, 3) := by decide +kernel
theorem dX11_sow_24 : decode cX11_sow 24 = .ok (.iconst 2, 1) := by decide +kernel
theorem dX11_sow_25 : decode cX11_sow 25 = .ok (.goto 16, 3) := by decide +kernel
theorem dX11_sow_28 : decode cX11_sow 28 = .ok (.aload_n 0, 1) := by decide +kernel
theorem dX11_sow_29 : decode cX11_sow 29 = .ok (.iload_n 1, 1) := by decide +kernel
theorem dX11_sow_30 : decode cX11_sow 30 = .ok (.invokevirtual 308, 3) := by decide +kernel
theorem dX11_sow_33 : decode cX11_sow 33 = .ok (.ifCond .ne 7, 3) := by decide +kernel
theorem dX11_sow_36 : decode cX11_sow 36 = .ok (.iconst 3, 1) := by decide +kernel
theorem dX11_sow_37 : decode cX11_sow 37 = .ok (.goto 4, 3) := by decide +kernel
theorem dX11_sow_40 : decode cX11_sow 40 = .ok (.iconst (-1), 1) := by decide +kernel
theorem dX11_sow_41 : decode cX11_sow 41 = .ok (.invokevirtual 326, 3) := by decide +kernel
theorem dX11_sow_44 : decode cX11_sow 44 = .ok (.ifCond .eq 5, 3) := by decide +kernel
theorem dX11_sow_47 : decode cX11_sow 47 = .ok (.iconst (-1), 1) := by decide +kernel
theorem dX11_sow_48 : decode cX11_sow 48 = .ok (.ireturn, 1) := by decide +kernel
theorem dX11_sow_49 : decode cX11_sow 49 = .ok (.aload_n 0, 1) := by decide +kernel
theorem dX11_sow_50 : decode cX11_sow 50 = .ok (.invokevirtual 329, 3) := by decide +kernel
theorem dX11_sow_53 : decode cX11_sow 53 = .ok (.aload_n 0, 1) := by decide +kernel
theorem dX11_sow_54 : decode cX11_sow 54 = .ok (.getfield 58, 3) := by decide +kernel
theorem dX11_sow_57 : decode cX11_sow 57 = .ok (.bipush 24, 2) := by decide +kernel
theorem dX11_sow_59 : decode cX11_sow 59 = .ok (.iload_n 1, 1) := by decide +kernel
theorem dX11_sow_60 : decode cX11_sow 60 = .ok (.iadd, 1) := by decide +kernel
theorem dX11_sow_61 : decode cX11_sow 61 = .ok (.iconst 0, 1) := by decide +kernel
theorem dX11_sow_62 : decode cX11_sow 62 = .ok (.iastore, 1) := by decide +kernel
theorem dX11_sow_63 : decode cX11_sow 63 = .ok (.aload_n 0, 1) := by decide +kernel
theorem dX11_sow_64 : decode cX11_sow 64 = .ok (.getfield 58, 3) := by decide +kernel
theorem dX11_sow_67 : decode cX11_sow 67 = .ok (.bipush 29, 2) := by decide +kernel
theorem dX11_sow_69 : decode cX11_sow 69 = .ok (.iload_n 1, 1) := by decide +kernel
theorem dX11_sow_70 : decode cX11_sow 70 = .ok (.iadd, 1) := by decide +kernel
theorem dX11_sow_71 : decode cX11_sow 71 = .ok (.iconst 0, 1) := by decide +kernel
theorem dX11_sow_72 : decode cX11_sow 72 = .ok (.iastore, 1) := by decide +kernel
theorem dX11_sow_73 : decode cX11_sow 73 = .ok (.aload_n 0, 1) := by decide +kernel
theorem dX11_sow_74 : decode cX11_sow 74 = .ok (.getfield 58, 3) := by decide +kernel
theorem dX11_sow_77 : decode cX11_sow 77 = .ok (.bipush 34, 2) := by decide +kernel
theorem dX11_sow_79 : decode cX11_sow 79 = .ok (.dup2, 1) := by decide +kernel
theorem dX11_sow_80 : decode cX11_sow 80 = .ok (.iaload, 1) := by decide +kernel
theorem dX11_sow_81 : decode cX11_sow 81 = .ok (.iconst 1, 1) := by decide +kernel
theorem dX11_sow_82 : decode cX11_sow 82 = .ok (.iload_n 1, 1) := by decide +kernel
theorem dX11_sow_83 : decode cX11_sow 83 = .ok (.ishl, 1) := by decide +kernel
theorem dX11_sow_84 : decode cX11_sow 84 = .ok (.iconst (-1), 1) := by decide +kernel
theorem dX11_sow_85 : decode cX11_sow 85 = .ok (.ixor, 1) := by decide +kernel
theorem dX11_sow_86 : decode cX11_sow 86 = .ok (.iand, 1) := by decide +kernel
theorem dX11_sow_87 : decode cX11_sow 87 = .ok (.iastore, 1) := by decide +kernel
theorem dX11_sow_88 : decode cX11_sow 88 = .ok (.aload_n 0, 1) := by decide +kernel
theorem dX11_sow_89 : decode cX11_sow 89 = .ok (.getfield 58, 3) := by decide +kernel
theorem dX11_sow_92 : decode cX11_sow 92 = .ok (.bipush 37, 2) := by decide +kernel
theorem dX11_sow_94 : decode cX11_sow 94 = .ok (.dup2, 1) := by decide +kernel
theorem dX11_sow_95 : decode cX11_sow 95 = .ok (.iaload, 1) := by decide +kernel
theorem dX11_sow_96 : decode cX11_sow 96 = .ok (.iconst 2, 1) := by decide +kernel
theorem dX11_sow_97 : decode cX11_sow 97 = .ok (.isub, 1) := by decide +kernel
theorem dX11_sow_98 : decode cX11_sow 98 = .ok (.iastore, 1) := by decide +kernel
theorem dX11_sow_99 : decode cX11_sow 99 = .ok (.aload_n 0, 1) := by decide +kernel
theorem dX11_sow_100 : decode cX11_sow 100 = .ok (.getfield 58, 3) := by decide +kernel
theorem dX11_sow_103 : decode cX11_sow 103 = .ok (.bipush 37, 2) := by decide +kernel
theorem dX11_sow_105 : decode cX11_sow 105 = .ok (.iaload, 1) := by decide +kernel
theorem dX11_sow_106 : decode cX11_sow 106 = .ok (.ireturn, 1) := by decide +kernel
theorem dX11_set_0 : decode cX11_set 0 = .ok (.iload_n 1, 1) := by decide +kernel
theorem dX11_set_1 : decode cX11_set 1 = .ok (.iconst 0, 1) := by decide +kernel
theorem dX11_set_2 : decode cX11_set 2 = .ok (.iconst 1, 1) := by decide +kernel
theorem dX11_set_3 : decode cX11_set 3 = .ok (.invokestatic 221, 3) := by decide +kernel
theorem dX11_set_6 : decode cX11_set 6 = .ok (.ifCond .eq 32, 3) := by decide +kernel
theorem dX11_set_9 : decode cX11_set 9 = .ok (.iload_n 2, 1) := by decide +kernel
theorem dX11_set_10 : decode cX11_set 10 = .ok (.iconst 0, 1) := by decide +kernel
theorem dX11_set_11 : decode cX11_set 11 = .ok (.bipush 9, 2) := by decide +kernel
theorem dX11_set_13 : decode cX11_set 13 = .ok (.invokestatic 221, 3) := by decide +kernel
theorem dX11_set_16 : decode cX11_set 16 = .ok (.ifCond .eq 22, 3) := by decide +kernel
theorem dX11_set_19 : decode cX11_set 19 = .ok (.iload_n 1, 1) := by decide +kernel
theorem dX11_set_20 : decode cX11_set 20 = .ok (.ifCond .ne 10, 3) := by decide +kernel
theorem dX11_set_23 : decode cX11_set 23 = .ok (.aload_n 0, 1) := by decide +kernel
theorem dX11_set_24 : decode cX11_set 24 = .ok (.getfield 338, 3) := by decide +kernel
theorem dX11_set_27 : decode cX11_set 27 = .ok (.goto 7, 3) := by decide +kernel
theorem dX11_set_30 : decode cX11_set 30 = .ok (.aload_n 0, 1) := by decide +kernel
theorem dX11_set_31 : decode cX11_set 31 = .ok (.getfield 341, 3) := by decide +kernel
theorem dX11_set_34 : decode cX11_set 34 = .ok (.iload_n 2, 1) := by decide +kernel
theorem dX11_set_35 : decode cX11_set 35 = .ok (.if_icmp .ne 5, 3) := by decide +kernel
theorem dX11_set_38 : decode cX11_set 38 = .ok (.iconst 0, 1) := by decide +kernel
theorem dX11_set_39 : decode cX11_set 39 = .ok (.ireturn, 1) := by decide +kernel
theorem dX11_set_40 : decode cX11_set 40 = .ok (.aload_n 0, 1) := by decide +kernel
theorem dX11_set_41 : decode cX11_set 41 = .ok (.iload_n 1, 1) := by decide +kernel
theorem dX11_set_42 : decode cX11_set 42 = .ok (.ifCond .ne 7, 3) := by decide +kernel
theorem dX11_set_45 : decode cX11_set 45 = .ok (.iload_n 2, 1) := by decide +kernel
theorem dX11_set_46 : decode cX11_set 46 = .ok (.goto 7, 3) := by decide +kernel
theorem dX11_set_49 : decode cX11_set 49 = .ok (.aload_n 0, 1) := by decide +kernel
theorem dX11_set_50 : decode cX11_set 50 = .ok (.getfield 338, 3) := by decide +kernel
theorem dX11_set_53 : decode cX11_set 53 = .ok (.putfield 338, 3) := by decide +kernel
theorem dX11_set_56 : decode cX11_set 56 = .ok (.aload_n 0, 1) := by decide +kernel
theorem dX11_set_57 : decode cX11_set 57 = .ok (.iload_n 1, 1) := by decide +kernel
theorem dX11_set_58 : decode cX11_set 58 = .ok (.iconst 1, 1) := by decide +kernel
theorem dX11_set_59 : decode cX11_set 59 = .ok (.if_icmp .ne 7, 3) := by decide +kernel
theorem dX11_set_62 : decode cX11_set 62 = .ok (.iload_n 2, 1) := by decide +kernel
theorem dX11_set_63 : decode cX11_set 63 = .ok (.goto 7, 3) := by decide +kernel
theorem dX11_set_66 : decode cX11_set 66 = .ok (.aload_n 0, 1) := by decide +kernel
theorem dX11_set_67 : decode cX11_set 67 = .ok (.getfield 341, 3) := by decide +kernel
theorem dX11_set_70 : decode cX11_set 70 = .ok (.putfield 341, 3) := by decide +kernel
theorem dX11_set_73 : decode cX11_set 73 = .ok (.iconst 1, 1) := by decide +kernel
theorem dX11_set_74 : decode cX11_set 74 = .ok (.ireturn, 1) := by decide +kernel
theorem dX11_draw_0 : decode cX11_draw 0 = .ok (.aload_n 0, 1) := by decide +kernel
theorem dX11_draw_1 : decode cX11_draw 1 = .ok (.aload_n 0, 1) := by decide +kernel
theorem dX11_draw_2 : decode cX11_draw 2 = .ok (.getfield 344, 3) := by decide +kernel
theorem dX11_draw_5 : decode cX11_draw 5 = .ok (.ldc2_w 348, 3) := by decide +kernel
theorem dX11_draw_8 : decode cX11_draw 8 = .ok (.lmul, 1) := by decide +kernel
theorem dX11_draw_9 : decode cX11_draw 9 = .ok (.ldc2_w 350, 3) := by decide +kernel
theorem dX11_draw_12 : decode cX11_draw 12 = .ok (.ladd, 1) := by decide +kernel
theorem dX11_draw_13 : decode cX11_draw 13 = .ok (.putfield 344, 3) := by decide +kernel
theorem dX11_draw_16 : decode cX11_draw 16 = .ok (.aload_n 0, 1) := by decide +kernel
theorem dX11_draw_17 : decode cX11_draw 17 = .ok (.getfield 344, 3) := by decide +kernel
theorem dX11_draw_20 : decode cX11_draw 20 = .ok (.bipush 33, 2) := by decide +kernel
theorem dX11_draw_22 : decode cX11_draw 22 = .ok (.lushr, 1) := by decide +kernel
theorem dX11_draw_23 : decode cX11_draw 23 = .ok (.iload_n 1, 1) := by decide +kernel
theorem dX11_draw_24 : decode cX11_draw 24 = .ok (.i2l, 1) := by decide +kernel
theorem dX11_draw_25 : decode cX11_draw 25 = .ok (.lrem, 1) := by decide +kernel
theorem dX11_draw_26 : decode cX11_draw 26 = .ok (.l2i, 1) := by decide +kernel
theorem dX11_draw_27 : decode cX11_draw 27 = .ok (.ireturn, 1) := by decide +kernel
theorem dX11_drawTurn_0 : decode cX11_drawTurn 0 = .ok (.aload_n 0, 1) := by decide +kernel
theorem dX11_drawTurn_1 : decode cX11_drawTurn 1 = .ok (.bipush 10, 2) := by decide +kernel
theorem dX11_drawTurn_3 : decode cX11_drawTurn 3 = .ok (.invokevirtual 352, 3) := by decide +kernel
theorem dX11_drawTurn_6 : decode cX11_drawTurn 6 = .ok (.aload_n 0, 1) := by decide +kernel
theorem dX11_drawTurn_7 : decode cX11_drawTurn 7 = .ok (.getfield 338, 3) := by decide +kernel
theorem dX11_drawTurn_10 : decode cX11_drawTurn 10 = .ok (.if_icmp .ge 29, 3) := by decide +kernel
theorem dX11_drawTurn_13 : decode cX11_drawTurn 13 = .ok (.aload_n 0, 1) := by decide +kernel
theorem dX11_drawTurn_14 : decode cX11_drawTurn 14 = .ok (.aload_n 0, 1) := by decide +kernel
theorem dX11_drawTurn_15 : decode cX11_drawTurn 15 = .ok (.getfield 261, 3) := by decide +kernel
theorem dX11_drawTurn_18 : decode cX11_drawTurn 18 = .ok (.invokevirtual 352, 3) := by decide +kernel
theorem dX11_drawTurn_21 : decode cX11_drawTurn 21 = .ok (.istore_n 1, 1) := by decide +kernel
theorem dX11_drawTurn_22 : decode cX11_drawTurn 22 = .ok (.aload_n 0, 1) := by decide +kernel
theorem dX11_drawTurn_23 : decode cX11_drawTurn 23 = .ok (.getfield 58, 3) := by decide +kernel
theorem dX11_drawTurn_26 : decode cX11_drawTurn 26 = .ok (.bipush 8, 2) := by decide +kernel
theorem dX11_drawTurn_28 : decode cX11_drawTurn 28 = .ok (.iload_n 1, 1) := by decide +kernel
theorem dX11_drawTurn_29 : decode cX11_drawTurn 29 = .ok (.iadd, 1) := by decide +kernel
theorem dX11_drawTurn_30 : decode cX11_drawTurn 30 = .ok (.iaload, 1) := by decide +kernel
theorem dX11_drawTurn_31 : decode cX11_drawTurn 31 = .ok (.ifCond .le 8, 3) := by decide +kernel
theorem dX11_drawTurn_34 : decode cX11_drawTurn 34 = .ok (.aload_n 0, 1) := by decide +kernel
theorem dX11_drawTurn_35 : decode cX11_drawTurn 35 = .ok (.iload_n 1, 1) := by decide +kernel
theorem dX11_drawTurn_36 : decode cX11_drawTurn 36 = .ok (.invokevirtual 335, 3) := by decide +kernel
theorem dX11_drawTurn_39 : decode cX11_drawTurn 39 = .ok (.aload_n 0, 1) := by decide +kernel
theorem dX11_drawTurn_40 : decode cX11_drawTurn 40 = .ok (.bipush 10, 2) := by decide +kernel
theorem dX11_drawTurn_42 : decode cX11_drawTurn 42 = .ok (.invokevirtual 352, 3) := by decide +kernel
theorem dX11_drawTurn_45 : decode cX11_drawTurn 45 = .ok (.aload_n 0, 1) := by decide +kernel
theorem dX11_drawTurn_46 : decode cX11_drawTurn 46 = .ok (.getfield 341, 3) := by decide +kernel
theorem dX11_drawTurn_49 : decode cX11_drawTurn 49 = .ok (.if_icmp .ge 14, 3) := by decide +kernel
theorem dX11_drawTurn_52 : decode cX11_drawTurn 52 = .ok (.aload_n 0, 1) := by decide +kernel
theorem dX11_drawTurn_53 : decode cX11_drawTurn 53 = .ok (.getfield 58, 3) := by decide +kernel
theorem dX11_drawTurn_56 : decode cX11_drawTurn 56 = .ok (.bipush 36, 2) := by decide +kernel
theorem dX11_drawTurn_58 : decode cX11_drawTurn 58 = .ok (.dup2, 1) := by decide +kernel
theorem dX11_drawTurn_59 : decode cX11_drawTurn 59 = .ok (.iaload, 1) := by decide +kernel
theorem dX11_drawTurn_60 : decode cX11_drawTurn 60 = .ok (.iconst 2, 1) := by decide +kernel
theorem dX11_drawTurn_61 : decode cX11_drawTurn 61 = .ok (.idiv, 1) := by decide +kernel
theorem dX11_drawTurn_62 : decode cX11_drawTurn 62 = .ok (.iastore, 1) := by decide +kernel
theorem dX11_drawTurn_63 : decode cX11_drawTurn 63 = .ok (.return_, 1) := by decide +kernel
theorem dX11_decades_0 : decode cX11_decades 0 = .ok (.aload_n 0, 1) := by decide +kernel
theorem dX11_decades_1 : decode cX11_decades 1 = .ok (.getfield 261, 3) := by decide +kernel
theorem dX11_decades_4 : decode cX11_decades 4 = .ok (.ifCond .eq 11, 3) := by decide +kernel
theorem dX11_decades_7 : decode cX11_decades 7 = .ok (.aload_n 0, 1) := by decide +kernel
theorem dX11_decades_8 : decode cX11_decades 8 = .ok (.iload_n 1, 1) := by decide +kernel
theorem dX11_decades_9 : decode cX11_decades 9 = .ok (.invokevirtual 323, 3) := by decide +kernel
theorem dX11_decades_12 : decode cX11_decades 12 = .ok (.ifCond .ne 5, 3) := by decide +kernel
theorem dX11_decades_15 : decode cX11_decades 15 = .ok (.iconst (-1), 1) := by decide +kernel
theorem dX11_decades_16 : decode cX11_decades 16 = .ok (.ireturn, 1) := by decide +kernel
theorem dX11_decades_17 : decode cX11_decades 17 = .ok (.aload_n 0, 1) := by decide +kernel
theorem dX11_decades_18 : decode cX11_decades 18 = .ok (.lload_n 2, 1) := by decide +kernel
theorem dX11_decades_19 : decode cX11_decades 19 = .ok (.putfield 344, 3) := by decide +kernel
theorem dX11_decades_22 : decode cX11_decades 22 = .ok (.iconst 0, 1) := by decide +kernel
theorem dX11_decades_23 : decode cX11_decades 23 = .ok (.istore 4, 2) := by decide +kernel
theorem dX11_decades_25 : decode cX11_decades 25 = .ok (.iload 4, 2) := by decide +kernel
theorem dX11_decades_27 : decode cX11_decades 27 = .ok (.iload_n 1, 1) := by decide +kernel
theorem dX11_decades_28 : decode cX11_decades 28 = .ok (.if_icmp .ge 21, 3) := by decide +kernel
theorem dX11_decades_31 : decode cX11_decades 31 = .ok (.aload_n 0, 1) := by decide +kernel
theorem dX11_decades_32 : decode cX11_decades 32 = .ok (.invokevirtual 329, 3) := by decide +kernel
theorem dX11_decades_35 : decode cX11_decades 35 = .ok (.aload_n 0, 1) := by decide +kernel
theorem dX11_decades_36 : decode cX11_decades 36 = .ok (.invokevirtual 355, 3) := by decide +kernel
theorem dX11_decades_39 : decode cX11_decades 39 = .ok (.aload_n 0, 1) := by decide +kernel
theorem dX11_decades_40 : decode cX11_decades 40 = .ok (.invokevirtual 332, 3) := by decide +kernel
theorem dX11_decades_43 : decode cX11_decades 43 = .ok (.iinc 4 1, 3) := by decide +kernel
theorem dX11_decades_46 : decode cX11_decades 46 = .ok (.goto (-21), 3) := by decide +kernel
theorem dX11_decades_49 : decode cX11_decades 49 = .ok (.aload_n 0, 1) := by decide +kernel
theorem dX11_decades_50 : decode cX11_decades 50 = .ok (.getfield 58, 3) := by decide +kernel
theorem dX11_decades_53 : decode cX11_decades 53 = .ok (.bipush 39, 2) := by decide +kernel
theorem dX11_decades_55 : decode cX11_decades 55 = .ok (.iaload, 1) := by decide +kernel
theorem dX11_decades_56 : decode cX11_decades 56 = .ok (.ireturn, 1) := by decide +kernel
theorem dX11_status_0 : decode cX11_status 0 = .ok (.iload_n 1, 1) := by decide +kernel
theorem dX11_status_1 : decode cX11_status 1 = .ok (.iconst 0, 1) := by decide +kernel
theorem dX11_status_2 : decode cX11_status 2 = .ok (.iconst 4, 1) := by decide +kernel
theorem dX11_status_3 : decode cX11_status 3 = .ok (.invokestatic 221, 3) := by decide +kernel
theorem dX11_status_6 : decode cX11_status 6 = .ok (.ifCond .eq 12, 3) := by decide +kernel
theorem dX11_status_9 : decode cX11_status 9 = .ok (.aload_n 0, 1) := by decide +kernel
theorem dX11_status_10 : decode cX11_status 10 = .ok (.getfield 61, 3) := by decide +kernel
theorem dX11_status_13 : decode cX11_status 13 = .ok (.iload_n 1, 1) := by decide +kernel
theorem dX11_status_14 : decode cX11_status 14 = .ok (.iaload, 1) := by decide +kernel
theorem dX11_status_15 : decode cX11_status 15 = .ok (.goto 4, 3) := by decide +kernel
theorem dX11_status_18 : decode cX11_status 18 = .ok (.iconst (-1), 1) := by decide +kernel
theorem dX11_status_19 : decode cX11_status 19 = .ok (.ireturn, 1) := by decide +kernel
theorem dX11_undo_0 : decode cX11_undo 0 = .ok (.aload_n 0, 1) := by decide +kernel
theorem dX11_undo_1 : decode cX11_undo 1 = .ok (.getfield 276, 3) := by decide +kernel
theorem dX11_undo_4 : decode cX11_undo 4 = .ok (.ifCond .ne 5, 3) := by decide +kernel
theorem dX11_undo_7 : decode cX11_undo 7 = .ok (.iconst (-1), 1) := by decide +kernel
theorem dX11_undo_8 : decode cX11_undo 8 = .ok (.ireturn, 1) := by decide +kernel
theorem dX11_undo_9 : decode cX11_undo 9 = .ok (.aload_n 0, 1) := by decide +kernel
theorem dX11_undo_10 : decode cX11_undo 10 = .ok (.dup, 1) := by decide +kernel
theorem dX11_undo_11 : decode cX11_undo 11 = .ok (.getfield 276, 3) := by decide +kernel
theorem dX11_undo_14 : decode cX11_undo 14 = .ok (.iconst 1, 1) := by decide +kernel
theorem dX11_undo_15 : decode cX11_undo 15 = .ok (.isub, 1) := by decide +kernel
theorem dX11_undo_16 : decode cX11_undo 16 = .ok (.putfield 276, 3) := by decide +kernel
theorem dX11_undo_19 : decode cX11_undo 19 = .ok (.iconst 0, 1) := by decide +kernel
theorem dX11_undo_20 : decode cX11_undo 20 = .ok (.istore_n 1, 1) := by decide +kernel
theorem dX11_undo_21 : decode cX11_undo 21 = .ok (.iload_n 1, 1) := by decide +kernel
theorem dX11_undo_22 : decode cX11_undo 22 = .ok (.sipush 284, 3) := by decide +kernel
theorem dX11_undo_25 : decode cX11_undo 25 = .ok (.if_icmp .ge 30, 3) := by decide +kernel
theorem dX11_undo_28 : decode cX11_undo 28 = .ok (.aload_n 0, 1) := by decide +kernel
theorem dX11_undo_29 : decode cX11_undo 29 = .ok (.getfield 58, 3) := by decide +kernel
theorem dX11_undo_32 : decode cX11_undo 32 = .ok (.iload_n 1, 1) := by decide +kernel
theorem dX11_undo_33 : decode cX11_undo 33 = .ok (.aload_n 0, 1) := by decide +kernel
theorem dX11_undo_34 : decode cX11_undo 34 = .ok (.getfield 71, 3) := by decide +kernel
theorem dX11_undo_37 : decode cX11_undo 37 = .ok (.sipush 284, 3) := by decide +kernel
theorem dX11_undo_40 : decode cX11_undo 40 = .ok (.aload_n 0, 1) := by decide +kernel
theorem dX11_undo_41 : decode cX11_undo 41 = .ok (.getfield 276, 3) := by decide +kernel
theorem dX11_undo_44 : decode cX11_undo 44 = .ok (.imul, 1) := by decide +kernel
theorem dX11_undo_45 : decode cX11_undo 45 = .ok (.iload_n 1, 1) := by decide +kernel
theorem dX11_undo_46 : decode cX11_undo 46 = .ok (.iadd, 1) := by decide +kernel
theorem dX11_undo_47 : decode cX11_undo 47 = .ok (.iaload, 1) := by decide +kernel
theorem dX11_undo_48 : decode cX11_undo 48 = .ok (.iastore, 1) := by decide +kernel
theorem dX11_undo_49 : decode cX11_undo 49 = .ok (.iinc 1 1, 3) := by decide +kernel
theorem dX11_undo_52 : decode cX11_undo 52 = .ok (.goto (-31), 3) := by decide +kernel
theorem dX11_undo_55 : decode cX11_undo 55 = .ok (.aload_n 0, 1) := by decide +kernel
theorem dX11_undo_56 : decode cX11_undo 56 = .ok (.getfield 276, 3) := by decide +kernel
theorem dX11_undo_59 : decode cX11_undo 59 = .ok (.ireturn, 1) := by decide +kernel
theorem dX11_log_0 : decode cX11_log 0 = .ok (.iload_n 1, 1) := by decide +kernel
theorem dX11_log_1 : decode cX11_log 1 = .ok (.iconst 0, 1) := by decide +kernel
theorem dX11_log_2 : decode cX11_log 2 = .ok (.aload_n 0, 1) := by decide +kernel
theorem dX11_log_3 : decode cX11_log 3 = .ok (.getfield 58, 3) := by decide +kernel
theorem dX11_log_6 : decode cX11_log 6 = .ok (.bipush 43, 2) := by decide +kernel
theorem dX11_log_8 : decode cX11_log 8 = .ok (.iaload, 1) := by decide +kernel
theorem dX11_log_9 : decode cX11_log 9 = .ok (.iconst 1, 1) := by decide +kernel
theorem dX11_log_10 : decode cX11_log 10 = .ok (.isub, 1) := by decide +kernel
theorem dX11_log_11 : decode cX11_log 11 = .ok (.invokestatic 221, 3) := by decide +kernel
theorem dX11_log_14 : decode cX11_log 14 = .ok (.ifCond .eq 38, 3) := by decide +kernel
theorem dX11_log_17 : decode cX11_log 17 = .ok (.iload_n 2, 1) := by decide +kernel
theorem dX11_log_18 : decode cX11_log 18 = .ok (.iconst 0, 1) := by decide +kernel
theorem dX11_log_19 : decode cX11_log 19 = .ok (.iconst 3, 1) := by decide +kernel
theorem dX11_log_20 : decode cX11_log 20 = .ok (.invokestatic 221, 3) := by decide +kernel
theorem dX11_log_23 : decode cX11_log 23 = .ok (.ifCond .eq 29, 3) := by decide +kernel
theorem dX11_log_26 : decode cX11_log 26 = .ok (.aload_n 0, 1) := by decide +kernel
theorem dX11_log_27 : decode cX11_log 27 = .ok (.getfield 58, 3) := by decide +kernel
theorem dX11_log_30 : decode cX11_log 30 = .ok (.bipush 44, 2) := by decide +kernel
theorem dX11_log_32 : decode cX11_log 32 = .ok (.iconst 4, 1) := by decide +kernel
theorem dX11_log_33 : decode cX11_log 33 = .ok (.aload_n 0, 1) := by decide +kernel
theorem dX11_log_34 : decode cX11_log 34 = .ok (.getfield 58, 3) := by decide +kernel
theorem dX11_log_37 : decode cX11_log 37 = .ok (.bipush 43, 2) := by decide +kernel
theorem dX11_log_39 : decode cX11_log 39 = .ok (.iaload, 1) := by decide +kernel
theorem dX11_log_40 : decode cX11_log 40 = .ok (.iconst 1, 1) := by decide +kernel
theorem dX11_log_41 : decode cX11_log 41 = .ok (.isub, 1) := by decide +kernel
theorem dX11_log_42 : decode cX11_log 42 = .ok (.iload_n 1, 1) := by decide +kernel
theorem dX11_log_43 : decode cX11_log 43 = .ok (.isub, 1) := by decide +kernel
theorem dX11_log_44 : decode cX11_log 44 = .ok (.imul, 1) := by decide +kernel
theorem dX11_log_45 : decode cX11_log 45 = .ok (.iadd, 1) := by decide +kernel
theorem dX11_log_46 : decode cX11_log 46 = .ok (.iload_n 2, 1) := by decide +kernel
theorem dX11_log_47 : decode cX11_log 47 = .ok (.iadd, 1) := by decide +kernel
theorem dX11_log_48 : decode cX11_log 48 = .ok (.iaload, 1) := by decide +kernel
theorem dX11_log_49 : decode cX11_log 49 = .ok (.goto 4, 3) := by decide +kernel
theorem dX11_log_52 : decode cX11_log 52 = .ok (.iconst (-1), 1) := by decide +kernel
theorem dX11_log_53 : decode cX11_log 53 = .ok (.ireturn, 1) := by decide +kernel
theorem dX11_putAside_0 : decode cX11_putAside 0 = .ok (.iconst 0, 1) := by decide +kernel
theorem dX11_putAside_1 : decode cX11_putAside 1 = .ok (.istore_n 1, 1) := by decide +kernel
theorem dX11_putAside_2 : decode cX11_putAside 2 = .ok (.iload_n 1, 1) := by decide +kernel
theorem dX11_putAside_3 : decode cX11_putAside 3 = .ok (.bipush 43, 2) := by decide +kernel
theorem dX11_putAside_5 : decode cX11_putAside 5 = .ok (.if_icmp .ge 21, 3) := by decide +kernel
theorem dX11_putAside_8 : decode cX11_putAside 8 = .ok (.aload_n 0, 1) := by decide +kernel
theorem dX11_putAside_9 : decode cX11_putAside 9 = .ok (.getfield 74, 3) := by decide +kernel
theorem dX11_putAside_12 : decode cX11_putAside 12 = .ok (.iload_n 1, 1) := by decide +kernel
theorem dX11_putAside_13 : decode cX11_putAside 13 = .ok (.aload_n 0, 1) := by decide +kernel
theorem dX11_putAside_14 : decode cX11_putAside 14 = .ok (.getfield 58, 3) := by decide +kernel
theorem dX11_putAside_17 : decode cX11_putAside 17 = .ok (.iload_n 1, 1) := by decide +kernel
theorem dX11_putAside_18 : decode cX11_putAside 18 = .ok (.iaload, 1) := by decide +kernel
theorem dX11_putAside_19 : decode cX11_putAside 19 = .ok (.iastore, 1) := by decide +kernel
theorem dX11_putAside_20 : decode cX11_putAside 20 = .ok (.iinc 1 1, 3) := by decide +kernel
theorem dX11_putAside_23 : decode cX11_putAside 23 = .ok (.goto (-21), 3) := by decide +kernel
theorem dX11_putAside_26 : decode cX11_putAside 26 = .ok (.iconst 0, 1) := by decide +kernel
theorem dX11_putAside_27 : decode cX11_putAside 27 = .ok (.istore_n 1, 1) := by decide +kernel
theorem dX11_putAside_28 : decode cX11_putAside 28 = .ok (.iload_n 1, 1) := by decide +kernel
theorem dX11_putAside_29 : decode cX11_putAside 29 = .ok (.bipush 8, 2) := by decide +kernel
theorem dX11_putAside_31 : decode cX11_putAside 31 = .ok (.if_icmp .ge 16, 3) := by decide +kernel
theorem dX11_putAside_34 : decode cX11_putAside 34 = .ok (.aload_n 0, 1) := by decide +kernel
theorem dX11_putAside_35 : decode cX11_putAside 35 = .ok (.getfield 68, 3) := by decide +kernel
theorem dX11_putAside_38 : decode cX11_putAside 38 = .ok (.iload_n 1, 1) := by decide +kernel
theorem dX11_putAside_39 : decode cX11_putAside 39 = .ok (.iconst 0, 1) := by decide +kernel
theorem dX11_putAside_40 : decode cX11_putAside 40 = .ok (.iastore, 1) := by decide +kernel
theorem dX11_putAside_41 : decode cX11_putAside 41 = .ok (.iinc 1 1, 3) := by decide +kernel
theorem dX11_putAside_44 : decode cX11_putAside 44 = .ok (.goto (-16), 3) := by decide +kernel
theorem dX11_putAside_47 : decode cX11_putAside 47 = .ok (.aload_n 0, 1) := by decide +kernel
theorem dX11_putAside_48 : decode cX11_putAside 48 = .ok (.iconst 0, 1) := by decide +kernel
theorem dX11_putAside_49 : decode cX11_putAside 49 = .ok (.putfield 299, 3) := by decide +kernel
theorem dX11_putAside_52 : decode cX11_putAside 52 = .ok (.return_, 1) := by decide +kernel
theorem dX11_takeBack_0 : decode cX11_takeBack 0 = .ok (.iconst 0, 1) := by decide +kernel
theorem dX11_takeBack_1 : decode cX11_takeBack 1 = .ok (.istore_n 1, 1) := by decide +kernel
theorem dX11_takeBack_2 : decode cX11_takeBack 2 = .ok (.iload_n 1, 1) := by decide +kernel
theorem dX11_takeBack_3 : decode cX11_takeBack 3 = .ok (.bipush 43, 2) := by decide +kernel
theorem dX11_takeBack_5 : decode cX11_takeBack 5 = .ok (.if_icmp .ge 21, 3) := by decide +kernel
theorem dX11_takeBack_8 : decode cX11_takeBack 8 = .ok (.aload_n 0, 1) := by decide +kernel
theorem dX11_takeBack_9 : decode cX11_takeBack 9 = .ok (.getfield 58, 3) := by decide +kernel
theorem dX11_takeBack_12 : decode cX11_takeBack 12 = .ok (.iload_n 1, 1) := by decide +kernel
theorem dX11_takeBack_13 : decode cX11_takeBack 13 = .ok (.aload_n 0, 1) := by decide +kernel
theorem dX11_takeBack_14 : decode cX11_takeBack 14 = .ok (.getfield 74, 3) := by decide +kernel
theorem dX11_takeBack_17 : decode cX11_takeBack 17 = .ok (.iload_n 1, 1) := by decide +kernel
theorem dX11_takeBack_18 : decode cX11_takeBack 18 = .ok (.iaload, 1) := by decide +kernel
theorem dX11_takeBack_19 : decode cX11_takeBack 19 = .ok (.iastore, 1) := by decide +kernel
theorem dX11_takeBack_20 : decode cX11_takeBack 20 = .ok (.iinc 1 1, 3) := by decide +kernel
theorem dX11_takeBack_23 : decode cX11_takeBack 23 = .ok (.goto (-21), 3) := by decide +kernel
theorem dX11_takeBack_26 : decode cX11_takeBack 26 = .ok (.return_, 1) := by decide +kernel
theorem dX11_ahead_0 : decode cX11_ahead 0 = .ok (.aload_n 0, 1) := by decide +kernel
theorem dX11_ahead_1 : decode cX11_ahead 1 = .ok (.getfield 261, 3) := by decide +kernel
theorem dX11_ahead_4 : decode cX11_ahead 4 = .ok (.ifCond .eq 22, 3) := by decide +kernel
theorem dX11_ahead_7 : decode cX11_ahead 7 = .ok (.iload_n 1, 1) := by decide +kernel
theorem dX11_ahead_8 : decode cX11_ahead 8 = .ok (.iconst 0, 1) := by decide +kernel
theorem dX11_ahead_9 : decode cX11_ahead 9 = .ok (.bipush 60, 2) := by decide +kernel
theorem dX11_ahead_11 : decode cX11_ahead 11 = .ok (.invokestatic 221, 3) := by decide +kernel
theorem dX11_ahead_14 : decode cX11_ahead 14 = .ok (.ifCond .eq 12, 3) := by decide +kernel
theorem dX11_ahead_17 : decode cX11_ahead 17 = .ok (.iload_n 3, 1) := by decide +kernel
theorem dX11_ahead_18 : decode cX11_ahead 18 = .ok (.iconst 0, 1) := by decide +kernel
theorem dX11_ahead_19 : decode cX11_ahead 19 = .ok (.iconst 1, 1) := by decide +kernel
theorem dX11_ahead_20 : decode cX11_ahead 20 = .ok (.invokestatic 221, 3) := by decide +kernel
theorem dX11_ahead_23 : decode cX11_ahead 23 = .ok (.ifCond .ne 5, 3) := by decide +kernel
theorem dX11_ahead_26 : decode cX11_ahead 26 = .ok (.iconst (-1), 1) := by decide +kernel
theorem dX11_ahead_27 : decode cX11_ahead 27 = .ok (.ireturn, 1) := by decide +kernel
theorem dX11_ahead_28 : decode cX11_ahead 28 = .ok (.aload_n 0, 1) := by decide +kernel
theorem dX11_ahead_29 : decode cX11_ahead 29 = .ok (.invokevirtual 358, 3) := by decide +kernel
theorem dX11_ahead_32 : decode cX11_ahead 32 = .ok (.aload_n 0, 1) := by decide +kernel
theorem dX11_ahead_33 : decode cX11_ahead 33 = .ok (.getfield 58, 3) := by decide +kernel
theorem dX11_ahead_36 : decode cX11_ahead 36 = .ok (.bipush 38, 2) := by decide +kernel
theorem dX11_ahead_38 : decode cX11_ahead 38 = .ok (.iload_n 2, 1) := by decide +kernel
theorem dX11_ahead_39 : decode cX11_ahead 39 = .ok (.ifCond .eq 15, 3) := by decide +kernel
theorem dX11_ahead_42 : decode cX11_ahead 42 = .ok (.iconst 1, 1) := by decide +kernel
theorem dX11_ahead_43 : decode cX11_ahead 43 = .ok (.aload_n 0, 1) := by decide +kernel
theorem dX11_ahead_44 : decode cX11_ahead 44 = .ok (.getfield 58, 3) := by decide +kernel
theorem dX11_ahead_47 : decode cX11_ahead 47 = .ok (.bipush 38, 2) := by decide +kernel
theorem dX11_ahead_49 : decode cX11_ahead 49 = .ok (.iaload, 1) := by decide +kernel
theorem dX11_ahead_50 : decode cX11_ahead 50 = .ok (.isub, 1) := by decide +kernel
theorem dX11_ahead_51 : decode cX11_ahead 51 = .ok (.goto 10, 3) := by decide +kernel
theorem dX11_ahead_54 : decode cX11_ahead 54 = .ok (.aload_n 0, 1) := by decide +kernel
theorem dX11_ahead_55 : decode cX11_ahead 55 = .ok (.getfield 58, 3) := by decide +kernel
theorem dX11_ahead_58 : decode cX11_ahead 58 = .ok (.bipush 38, 2) := by decide +kernel
theorem dX11_ahead_60 : decode cX11_ahead 60 = .ok (.iaload, 1) := by decide +kernel
theorem dX11_ahead_61 : decode cX11_ahead 61 = .ok (.iastore, 1) := by decide +kernel
theorem dX11_ahead_62 : decode cX11_ahead 62 = .ok (.aload_n 0, 1) := by decide +kernel
theorem dX11_ahead_63 : decode cX11_ahead 63 = .ok (.iload_n 1, 1) := by decide +kernel
theorem dX11_ahead_64 : decode cX11_ahead 64 = .ok (.invokevirtual 361, 3) := by decide +kernel
theorem dX11_ahead_67 : decode cX11_ahead 67 = .ok (.iload_n 3, 1) := by decide +kernel
theorem dX11_ahead_68 : decode cX11_ahead 68 = .ok (.ifCond .ne 13, 3) := by decide +kernel
theorem dX11_ahead_71 : decode cX11_ahead 71 = .ok (.aload_n 0, 1) := by decide +kernel
theorem dX11_ahead_72 : decode cX11_ahead 72 = .ok (.getfield 58, 3) := by decide +kernel
theorem dX11_ahead_75 : decode cX11_ahead 75 = .ok (.bipush 39, 2) := by decide +kernel
theorem dX11_ahead_77 : decode cX11_ahead 77 = .ok (.iaload, 1) := by decide +kernel
theorem dX11_ahead_78 : decode cX11_ahead 78 = .ok (.goto 10, 3) := by decide +kernel
theorem dX11_ahead_81 : decode cX11_ahead 81 = .ok (.aload_n 0, 1) := by decide +kernel
theorem dX11_ahead_82 : decode cX11_ahead 82 = .ok (.getfield 58, 3) := by decide +kernel
theorem dX11_ahead_85 : decode cX11_ahead 85 = .ok (.bipush 40, 2) := by decide +kernel
theorem dX11_ahead_87 : decode cX11_ahead 87 = .ok (.iaload, 1) := by decide +kernel
theorem dX11_ahead_88 : decode cX11_ahead 88 = .ok (.istore 4, 2) := by decide +kernel
theorem dX11_ahead_90 : decode cX11_ahead 90 = .ok (.aload_n 0, 1) := by decide +kernel
theorem dX11_ahead_91 : decode cX11_ahead 91 = .ok (.invokevirtual 364, 3) := by decide +kernel
theorem dX11_ahead_94 : decode cX11_ahead 94 = .ok (.iload 4, 2) := by decide +kernel
theorem dX11_ahead_96 : decode cX11_ahead 96 = .ok (.ireturn, 1) := by decide +kernel
theorem dX11_soonest_0 : decode cX11_soonest 0 = .ok (.aload_n 0, 1) := by decide +kernel
theorem dX11_soonest_1 : decode cX11_soonest 1 = .ok (.iload_n 1, 1) := by decide +kernel
theorem dX11_soonest_2 : decode cX11_soonest 2 = .ok (.invokevirtual 317, 3) := by decide +kernel
theorem dX11_soonest_5 : decode cX11_soonest 5 = .ok (.ifCond .ne 5, 3) := by decide +kernel
theorem dX11_soonest_8 : decode cX11_soonest 8 = .ok (.iconst (-1), 1) := by decide +kernel
theorem dX11_soonest_9 : decode cX11_soonest 9 = .ok (.ireturn, 1) := by decide +kernel
theorem dX11_soonest_10 : decode cX11_soonest 10 = .ok (.aload_n 0, 1) := by decide +kernel
theorem dX11_soonest_11 : decode cX11_soonest 11 = .ok (.invokevirtual 358, 3) := by decide +kernel
theorem dX11_soonest_14 : decode cX11_soonest 14 = .ok (.iconst 0, 1) := by decide +kernel
theorem dX11_soonest_15 : decode cX11_soonest 15 = .ok (.istore_n 2, 1) := by decide +kernel
theorem dX11_soonest_16 : decode cX11_soonest 16 = .ok (.iload_n 2, 1) := by decide +kernel
theorem dX11_soonest_17 : decode cX11_soonest 17 = .ok (.sipush 200, 3) := by decide +kernel
theorem dX11_soonest_20 : decode cX11_soonest 20 = .ok (.if_icmp .ge 25, 3) := by decide +kernel
theorem dX11_soonest_23 : decode cX11_soonest 23 = .ok (.aload_n 0, 1) := by decide +kernel
theorem dX11_soonest_24 : decode cX11_soonest 24 = .ok (.getfield 58, 3) := by decide +kernel
theorem dX11_soonest_27 : decode cX11_soonest 27 = .ok (.bipush 39, 2) := by decide +kernel
theorem dX11_soonest_29 : decode cX11_soonest 29 = .ok (.iaload, 1) := by decide +kernel
theorem dX11_soonest_30 : decode cX11_soonest 30 = .ok (.iload_n 1, 1) := by decide +kernel
theorem dX11_soonest_31 : decode cX11_soonest 31 = .ok (.if_icmp .eq 14, 3) := by decide +kernel
theorem dX11_soonest_34 : decode cX11_soonest 34 = .ok (.aload_n 0, 1) := by decide +kernel
theorem dX11_soonest_35 : decode cX11_soonest 35 = .ok (.invokevirtual 314, 3) := by decide +kernel
theorem dX11_soonest_38 : decode cX11_soonest 38 = .ok (.pop, 1) := by decide +kernel
theorem dX11_soonest_39 : decode cX11_soonest 39 = .ok (.iinc 2 1, 3) := by decide +kernel
theorem dX11_soonest_42 : decode cX11_soonest 42 = .ok (.goto (-26), 3) := by decide +kernel
theorem dX11_soonest_45 : decode cX11_soonest 45 = .ok (.aload_n 0, 1) := by decide +kernel
theorem dX11_soonest_46 : decode cX11_soonest 46 = .ok (.getfield 58, 3) := by decide +kernel
theorem dX11_soonest_49 : decode cX11_soonest 49 = .ok (.bipush 39, 2) := by decide +kernel
theorem dX11_soonest_51 : decode cX11_soonest 51 = .ok (.iaload, 1) := by decide +kernel
theorem dX11_soonest_52 : decode cX11_soonest 52 = .ok (.iload_n 1, 1) := by decide +kernel
theorem dX11_soonest_53 : decode cX11_soonest 53 = .ok (.if_icmp .ne 7, 3) := by decide +kernel
theorem dX11_soonest_56 : decode cX11_soonest 56 = .ok (.iconst 1, 1) := by decide +kernel
theorem dX11_soonest_57 : decode cX11_soonest 57 = .ok (.goto 4, 3) := by decide +kernel
theorem dX11_soonest_60 : decode cX11_soonest 60 = .ok (.iconst 0, 1) := by decide +kernel
theorem dX11_soonest_61 : decode cX11_soonest 61 = .ok (.istore_n 3, 1) := by decide +kernel
theorem dX11_soonest_62 : decode cX11_soonest 62 = .ok (.aload_n 0, 1) := by decide +kernel
theorem dX11_soonest_63 : decode cX11_soonest 63 = .ok (.invokevirtual 364, 3) := by decide +kernel
theorem dX11_soonest_66 : decode cX11_soonest 66 = .ok (.iload_n 3, 1) := by decide +kernel
theorem dX11_soonest_67 : decode cX11_soonest 67 = .ok (.ifCond .eq 7, 3) := by decide +kernel
theorem dX11_soonest_70 : decode cX11_soonest 70 = .ok (.iload_n 2, 1) := by decide +kernel
theorem dX11_soonest_71 : decode cX11_soonest 71 = .ok (.goto 4, 3) := by decide +kernel
theorem dX11_soonest_74 : decode cX11_soonest 74 = .ok (.iconst (-1), 1) := by decide +kernel
theorem dX11_soonest_75 : decode cX11_soonest 75 = .ok (.ireturn, 1) := by decide +kernel
theorem dX11_least_0 : decode cX11_least 0 = .ok (.aload_n 0, 1) := by decide +kernel
theorem dX11_least_1 : decode cX11_least 1 = .ok (.getfield 261, 3) := by decide +kernel
theorem dX11_least_4 : decode cX11_least 4 = .ok (.ifCond .eq 13, 3) := by decide +kernel
theorem dX11_least_7 : decode cX11_least 7 = .ok (.iload_n 1, 1) := by decide +kernel
theorem dX11_least_8 : decode cX11_least 8 = .ok (.iconst 1, 1) := by decide +kernel
theorem dX11_least_9 : decode cX11_least 9 = .ok (.bipush 60, 2) := by decide +kernel
theorem dX11_least_11 : decode cX11_least 11 = .ok (.invokestatic 221, 3) := by decide +kernel
theorem dX11_least_14 : decode cX11_least 14 = .ok (.ifCond .ne 5, 3) := by decide +kernel
theorem dX11_least_17 : decode cX11_least 17 = .ok (.iconst (-1), 1) := by decide +kernel
theorem dX11_least_18 : decode cX11_least 18 = .ok (.ireturn, 1) := by decide +kernel
theorem dX11_least_19 : decode cX11_least 19 = .ok (.iconst 0, 1) := by decide +kernel
theorem dX11_least_20 : decode cX11_least 20 = .ok (.istore_n 2, 1) := by decide +kernel
theorem dX11_least_21 : decode cX11_least 21 = .ok (.iload_n 2, 1) := by decide +kernel
theorem dX11_least_22 : decode cX11_least 22 = .ok (.bipush 99, 2) := by decide +kernel
theorem dX11_least_24 : decode cX11_least 24 = .ok (.if_icmp .gt 63, 3) := by decide +kernel
theorem dX11_least_27 : decode cX11_least 27 = .ok (.aload_n 0, 1) := by decide +kernel
theorem dX11_least_28 : decode cX11_least 28 = .ok (.invokevirtual 358, 3) := by decide +kernel
theorem dX11_least_31 : decode cX11_least 31 = .ok (.aload_n 0, 1) := by decide +kernel
theorem dX11_least_32 : decode cX11_least 32 = .ok (.getfield 58, 3) := by decide +kernel
theorem dX11_least_35 : decode cX11_least 35 = .ok (.bipush 36, 2) := by decide +kernel
theorem dX11_least_37 : decode cX11_least 37 = .ok (.dup2, 1) := by decide +kernel
theorem dX11_least_38 : decode cX11_least 38 = .ok (.iaload, 1) := by decide +kernel
theorem dX11_least_39 : decode cX11_least 39 = .ok (.iload_n 2, 1) := by decide +kernel
theorem dX11_least_40 : decode cX11_least 40 = .ok (.iadd, 1) := by decide +kernel
theorem dX11_least_41 : decode cX11_least 41 = .ok (.iastore, 1) := by decide +kernel
theorem dX11_least_42 : decode cX11_least 42 = .ok (.aload_n 0, 1) := by decide +kernel
theorem dX11_least_43 : decode cX11_least 43 = .ok (.iload_n 1, 1) := by decide +kernel
theorem dX11_least_44 : decode cX11_least 44 = .ok (.invokevirtual 361, 3) := by decide +kernel
theorem dX11_least_47 : decode cX11_least 47 = .ok (.aload_n 0, 1) := by decide +kernel
theorem dX11_least_48 : decode cX11_least 48 = .ok (.getfield 58, 3) := by decide +kernel
theorem dX11_least_51 : decode cX11_least 51 = .ok (.bipush 34, 2) := by decide +kernel
theorem dX11_least_53 : decode cX11_least 53 = .ok (.iaload, 1) := by decide +kernel
theorem dX11_least_54 : decode cX11_least 54 = .ok (.iconst 1, 1) := by decide +kernel
theorem dX11_least_55 : decode cX11_least 55 = .ok (.aload_n 0, 1) := by decide +kernel
theorem dX11_least_56 : decode cX11_least 56 = .ok (.getfield 267, 3) := by decide +kernel
theorem dX11_least_59 : decode cX11_least 59 = .ok (.ishl, 1) := by decide +kernel
theorem dX11_least_60 : decode cX11_least 60 = .ok (.iconst 1, 1) := by decide +kernel
theorem dX11_least_61 : decode cX11_least 61 = .ok (.isub, 1) := by decide +kernel
theorem dX11_least_62 : decode cX11_least 62 = .ok (.if_icmp .ne 7, 3) := by decide +kernel
theorem dX11_least_65 : decode cX11_least 65 = .ok (.iconst 1, 1) := by decide +kernel
theorem dX11_least_66 : decode cX11_least 66 = .ok (.goto 4, 3) := by decide +kernel
theorem dX11_least_69 : decode cX11_least 69 = .ok (.iconst 0, 1) := by decide +kernel
theorem dX11_least_70 : decode cX11_least 70 = .ok (.istore_n 3, 1) := by decide +kernel
theorem dX11_least_71 : decode cX11_least 71 = .ok (.aload_n 0, 1) := by decide +kernel
theorem dX11_least_72 : decode cX11_least 72 = .ok (.invokevirtual 364, 3) := by decide +kernel
theorem dX11_least_75 : decode cX11_least 75 = .ok (.iload_n 3, 1) := by decide +kernel
theorem dX11_least_76 : decode cX11_least 76 = .ok (.ifCond .eq 5, 3) := by decide +kernel
theorem dX11_least_79 : decode cX11_least 79 = .ok (.iload_n 2, 1) := by decide +kernel
theorem dX11_least_80 : decode cX11_least 80 = .ok (.ireturn, 1) := by decide +kernel
theorem dX11_least_81 : decode cX11_least 81 = .ok (.iinc 2 1, 3) := by decide +kernel
theorem dX11_least_84 : decode cX11_least 84 = .ok (.goto (-63), 3) := by decide +kernel
theorem dX11_least_87 : decode cX11_least 87 = .ok (.iconst (-1), 1) := by decide +kernel
theorem dX11_least_88 : decode cX11_least 88 = .ok (.ireturn, 1) := by decide +kernel
theorem dX11_ripens_0 : decode cX11_ripens 0 = .ok (.aload_n 0, 1) := by decide +kernel
theorem dX11_ripens_1 : decode cX11_ripens 1 = .ok (.iload_n 1, 1) := by decide +kernel
theorem dX11_ripens_2 : decode cX11_ripens 2 = .ok (.invokevirtual 320, 3) := by decide +kernel
theorem dX11_ripens_5 : decode cX11_ripens 5 = .ok (.ifCond .ne 5, 3) := by decide +kernel
theorem dX11_ripens_8 : decode cX11_ripens 8 = .ok (.iconst (-1), 1) := by decide +kernel
theorem dX11_ripens_9 : decode cX11_ripens 9 = .ok (.ireturn, 1) := by decide +kernel
theorem dX11_ripens_10 : decode cX11_ripens 10 = .ok (.aload_n 0, 1) := by decide +kernel
theorem dX11_ripens_11 : decode cX11_ripens 11 = .ok (.invokevirtual 358, 3) := by decide +kernel
theorem dX11_ripens_14 : decode cX11_ripens 14 = .ok (.iconst 0, 1) := by decide +kernel
theorem dX11_ripens_15 : decode cX11_ripens 15 = .ok (.istore_n 2, 1) := by decide +kernel
theorem dX11_ripens_16 : decode cX11_ripens 16 = .ok (.iload_n 2, 1) := by decide +kernel
theorem dX11_ripens_17 : decode cX11_ripens 17 = .ok (.sipush 200, 3) := by decide +kernel
theorem dX11_ripens_20 : decode cX11_ripens 20 = .ok (.if_icmp .ge 22, 3) := by decide +kernel
theorem dX11_ripens_23 : decode cX11_ripens 23 = .ok (.aload_n 0, 1) := by decide +kernel
theorem dX11_ripens_24 : decode cX11_ripens 24 = .ok (.iload_n 1, 1) := by decide +kernel
theorem dX11_ripens_25 : decode cX11_ripens 25 = .ok (.invokevirtual 308, 3) := by decide +kernel
theorem dX11_ripens_28 : decode cX11_ripens 28 = .ok (.ifCond .ne 14, 3) := by decide +kernel
theorem dX11_ripens_31 : decode cX11_ripens 31 = .ok (.aload_n 0, 1) := by decide +kernel
theorem dX11_ripens_32 : decode cX11_ripens 32 = .ok (.invokevirtual 314, 3) := by decide +kernel
theorem dX11_ripens_35 : decode cX11_ripens 35 = .ok (.pop, 1) := by decide +kernel
theorem dX11_ripens_36 : decode cX11_ripens 36 = .ok (.iinc 2 1, 3) := by decide +kernel
theorem dX11_ripens_39 : decode cX11_ripens 39 = .ok (.goto (-23), 3) := by decide +kernel
theorem dX11_ripens_42 : decode cX11_ripens 42 = .ok (.aload_n 0, 1) := by decide +kernel
theorem dX11_ripens_43 : decode cX11_ripens 43 = .ok (.iload_n 1, 1) := by decide +kernel
theorem dX11_ripens_44 : decode cX11_ripens 44 = .ok (.invokevirtual 308, 3) := by decide +kernel
theorem dX11_ripens_47 : decode cX11_ripens 47 = .ok (.istore_n 3, 1) := by decide +kernel
theorem dX11_ripens_48 : decode cX11_ripens 48 = .ok (.aload_n 0, 1) := by decide +kernel
theorem dX11_ripens_49 : decode cX11_ripens 49 = .ok (.invokevirtual 364, 3) := by decide +kernel
theorem dX11_ripens_52 : decode cX11_ripens 52 = .ok (.iload_n 3, 1) := by decide +kernel
theorem dX11_ripens_53 : decode cX11_ripens 53 = .ok (.ifCond .eq 7, 3) := by decide +kernel
theorem dX11_ripens_56 : decode cX11_ripens 56 = .ok (.iload_n 2, 1) := by decide +kernel
theorem dX11_ripens_57 : decode cX11_ripens 57 = .ok (.goto 4, 3) := by decide +kernel
theorem dX11_ripens_60 : decode cX11_ripens 60 = .ok (.iconst (-1), 1) := by decide +kernel
theorem dX11_ripens_61 : decode cX11_ripens 61 = .ok (.ireturn, 1) := by decide +kernel
theorem dX11_tryOil_0 : decode cX11_tryOil 0 = .ok (.iload_n 1, 1) := by decide +kernel
theorem dX11_tryOil_1 : decode cX11_tryOil 1 = .ok (.iload_n 2, 1) := by decide +kernel
theorem dX11_tryOil_2 : decode cX11_tryOil 2 = .ok (.if_icmp .ne 103, 3) := by decide +kernel
theorem dX11_tryOil_5 : decode cX11_tryOil 5 = .ok (.aload_n 0, 1) := by decide +kernel
theorem dX11_tryOil_6 : decode cX11_tryOil 6 = .ok (.invokevirtual 358, 3) := by decide +kernel
theorem dX11_tryOil_9 : decode cX11_tryOil 9 = .ok (.iconst 0, 1) := by decide +kernel
theorem dX11_tryOil_10 : decode cX11_tryOil 10 = .ok (.istore 6, 2) := by decide +kernel
theorem dX11_tryOil_12 : decode cX11_tryOil 12 = .ok (.iload 6, 2) := by decide +kernel
theorem dX11_tryOil_14 : decode cX11_tryOil 14 = .ok (.iload_n 2, 1) := by decide +kernel
theorem dX11_tryOil_15 : decode cX11_tryOil 15 = .ok (.if_icmp .ge 44, 3) := by decide +kernel
theorem dX11_tryOil_18 : decode cX11_tryOil 18 = .ok (.aload_n 0, 1) := by decide +kernel
theorem dX11_tryOil_19 : decode cX11_tryOil 19 = .ok (.getfield 58, 3) := by decide +kernel
theorem dX11_tryOil_22 : decode cX11_tryOil 22 = .ok (.iconst 0, 1) := by decide +kernel
theorem dX11_tryOil_23 : decode cX11_tryOil 23 = .ok (.aload_n 0, 1) := by decide +kernel
theorem dX11_tryOil_24 : decode cX11_tryOil 24 = .ok (.getfield 77, 3) := by decide +kernel
theorem dX11_tryOil_27 : decode cX11_tryOil 27 = .ok (.iload 6, 2) := by decide +kernel
theorem dX11_tryOil_29 : decode cX11_tryOil 29 = .ok (.iaload, 1) := by decide +kernel
theorem dX11_tryOil_30 : decode cX11_tryOil 30 = .ok (.iadd, 1) := by decide +kernel
theorem dX11_tryOil_31 : decode cX11_tryOil 31 = .ok (.bipush 9, 2) := by decide +kernel
theorem dX11_tryOil_33 : decode cX11_tryOil 33 = .ok (.aload_n 0, 1) := by decide +kernel
theorem dX11_tryOil_34 : decode cX11_tryOil 34 = .ok (.getfield 58, 3) := by decide +kernel
theorem dX11_tryOil_37 : decode cX11_tryOil 37 = .ok (.iconst 0, 1) := by decide +kernel
theorem dX11_tryOil_38 : decode cX11_tryOil 38 = .ok (.aload_n 0, 1) := by decide +kernel
theorem dX11_tryOil_39 : decode cX11_tryOil 39 = .ok (.getfield 77, 3) := by decide +kernel
theorem dX11_tryOil_42 : decode cX11_tryOil 42 = .ok (.iload 6, 2) := by decide +kernel
theorem dX11_tryOil_44 : decode cX11_tryOil 44 = .ok (.iaload, 1) := by decide +kernel
theorem dX11_tryOil_45 : decode cX11_tryOil 45 = .ok (.iadd, 1) := by decide +kernel
theorem dX11_tryOil_46 : decode cX11_tryOil 46 = .ok (.iaload, 1) := by decide +kernel
theorem dX11_tryOil_47 : decode cX11_tryOil 47 = .ok (.iconst 1, 1) := by decide +kernel
theorem dX11_tryOil_48 : decode cX11_tryOil 48 = .ok (.iadd, 1) := by decide +kernel
theorem dX11_tryOil_49 : decode cX11_tryOil 49 = .ok (.invokestatic 292, 3) := by decide +kernel
theorem dX11_tryOil_52 : decode cX11_tryOil 52 = .ok (.iastore, 1) := by decide +kernel
theorem dX11_tryOil_53 : decode cX11_tryOil 53 = .ok (.iinc 6 1, 3) := by decide +kernel
theorem dX11_tryOil_56 : decode cX11_tryOil 56 = .ok (.goto (-44), 3) := by decide +kernel
theorem dX11_tryOil_59 : decode cX11_tryOil 59 = .ok (.aload_n 0, 1) := by decide +kernel
theorem dX11_tryOil_60 : decode cX11_tryOil 60 = .ok (.iload 5, 2) := by decide +kernel
theorem dX11_tryOil_62 : decode cX11_tryOil 62 = .ok (.invokevirtual 361, 3) := by decide +kernel
theorem dX11_tryOil_65 : decode cX11_tryOil 65 = .ok (.aload_n 0, 1) := by decide +kernel
theorem dX11_tryOil_66 : decode cX11_tryOil 66 = .ok (.getfield 299, 3) := by decide +kernel
theorem dX11_tryOil_69 : decode cX11_tryOil 69 = .ok (.istore 6, 2) := by decide +kernel
theorem dX11_tryOil_71 : decode cX11_tryOil 71 = .ok (.aload_n 0, 1) := by decide +kernel
theorem dX11_tryOil_72 : decode cX11_tryOil 72 = .ok (.invokevirtual 364, 3) := by decide +kernel
theorem dX11_tryOil_75 : decode cX11_tryOil 75 = .ok (.aload_n 0, 1) := by decide +kernel
theorem dX11_tryOil_76 : decode cX11_tryOil 76 = .ok (.getfield 367, 3) := by decide +kernel
theorem dX11_tryOil_79 : decode cX11_tryOil 79 = .ok (.iconst (-1), 1) := by decide +kernel
theorem dX11_tryOil_80 : decode cX11_tryOil 80 = .ok (.if_icmp .eq 12, 3) := by decide +kernel
theorem dX11_tryOil_83 : decode cX11_tryOil 83 = .ok (.iload 6, 2) := by decide +kernel
theorem dX11_tryOil_85 : decode cX11_tryOil 85 = .ok (.aload_n 0, 1) := by decide +kernel
theorem dX11_tryOil_86 : decode cX11_tryOil 86 = .ok (.getfield 370, 3) := by decide +kernel
theorem dX11_tryOil_89 : decode cX11_tryOil 89 = .ok (.if_icmp .le 15, 3) := by decide +kernel
theorem dX11_tryOil_92 : decode cX11_tryOil 92 = .ok (.aload_n 0, 1) := by decide +kernel
theorem dX11_tryOil_93 : decode cX11_tryOil 93 = .ok (.iload 4, 2) := by decide +kernel
theorem dX11_tryOil_95 : decode cX11_tryOil 95 = .ok (.putfield 367, 3) := by decide +kernel
theorem dX11_tryOil_98 : decode cX11_tryOil 98 = .ok (.aload_n 0, 1) := by decide +kernel
theorem dX11_tryOil_99 : decode cX11_tryOil 99 = .ok (.iload 6, 2) := by decide +kernel
theorem dX11_tryOil_101 : decode cX11_tryOil 101 = .ok (.putfield 370, 3) := by decide +kernel
theorem dX11_tryOil_104 : decode cX11_tryOil 104 = .ok (.return_, 1) := by decide +kernel
theorem dX11_tryOil_105 : decode cX11_tryOil 105 = .ok (.iload_n 3, 1) := by decide +kernel
theorem dX11_tryOil_106 : decode cX11_tryOil 106 = .ok (.istore 6, 2) := by decide +kernel
theorem dX11_tryOil_108 : decode cX11_tryOil 108 = .ok (.iload 6, 2) := by decide +kernel
theorem dX11_tryOil_110 : decode cX11_tryOil 110 = .ok (.aload_n 0, 1) := by decide +kernel
theorem dX11_tryOil_111 : decode cX11_tryOil 111 = .ok (.getfield 261, 3) := by decide +kernel
theorem dX11_tryOil_114 : decode cX11_tryOil 114 = .ok (.if_icmp .ge 37, 3) := by decide +kernel
theorem dX11_tryOil_117 : decode cX11_tryOil 117 = .ok (.aload_n 0, 1) := by decide +kernel
theorem dX11_tryOil_118 : decode cX11_tryOil 118 = .ok (.getfield 77, 3) := by decide +kernel
theorem dX11_tryOil_121 : decode cX11_tryOil 121 = .ok (.iload_n 1, 1) := by decide +kernel
theorem dX11_tryOil_122 : decode cX11_tryOil 122 = .ok (.iload 6, 2) := by decide +kernel
theorem dX11_tryOil_124 : decode cX11_tryOil 124 = .ok (.iastore, 1) := by decide +kernel
theorem dX11_tryOil_125 : decode cX11_tryOil 125 = .ok (.aload_n 0, 1) := by decide +kernel
theorem dX11_tryOil_126 : decode cX11_tryOil 126 = .ok (.iload_n 1, 1) := by decide +kernel
theorem dX11_tryOil_127 : decode cX11_tryOil 127 = .ok (.iconst 1, 1) := by decide +kernel
theorem dX11_tryOil_128 : decode cX11_tryOil 128 = .ok (.iadd, 1) := by decide +kernel
theorem dX11_tryOil_129 : decode cX11_tryOil 129 = .ok (.iload_n 2, 1) := by decide +kernel
theorem dX11_tryOil_130 : decode cX11_tryOil 130 = .ok (.iload 6, 2) := by decide +kernel
theorem dX11_tryOil_132 : decode cX11_tryOil 132 = .ok (.bipush 10, 2) := by decide +kernel
theorem dX11_tryOil_134 : decode cX11_tryOil 134 = .ok (.iload 4, 2) := by decide +kernel
theorem dX11_tryOil_136 : decode cX11_tryOil 136 = .ok (.imul, 1) := by decide +kernel
theorem dX11_tryOil_137 : decode cX11_tryOil 137 = .ok (.iload 6, 2) := by decide +kernel
theorem dX11_tryOil_139 : decode cX11_tryOil 139 = .ok (.iadd, 1) := by decide +kernel
theorem dX11_tryOil_140 : decode cX11_tryOil 140 = .ok (.iload 5, 2) := by decide +kernel
theorem dX11_tryOil_142 : decode cX11_tryOil 142 = .ok (.invokevirtual 373, 3) := by decide +kernel
theorem dX11_tryOil_145 : decode cX11_tryOil 145 = .ok (.iinc 6 1, 3) := by decide +kernel
theorem dX11_tryOil_148 : decode cX11_tryOil 148 = .ok (.goto (-40), 3) := by decide +kernel
theorem dX11_tryOil_151 : decode cX11_tryOil 151 = .ok (.return_, 1) := by decide +kernel
theorem dX11_oil_0 : decode cX11_oil 0 = .ok (.aload_n 0, 1) := by decide +kernel
theorem dX11_oil_1 : decode cX11_oil 1 = .ok (.getfield 261, 3) := by decide +kernel
theorem dX11_oil_4 : decode cX11_oil 4 = .ok (.ifCond .eq 31, 3) := by decide +kernel
theorem dX11_oil_7 : decode cX11_oil 7 = .ok (.iload_n 1, 1) := by decide +kernel
theorem dX11_oil_8 : decode cX11_oil 8 = .ok (.iconst 1, 1) := by decide +kernel
theorem dX11_oil_9 : decode cX11_oil 9 = .ok (.iconst 3, 1) := by decide +kernel
theorem dX11_oil_10 : decode cX11_oil 10 = .ok (.invokestatic 221, 3) := by decide +kernel
theorem dX11_oil_13 : decode cX11_oil 13 = .ok (.ifCond .eq 22, 3) := by decide +kernel
theorem dX11_oil_16 : decode cX11_oil 16 = .ok (.iload_n 2, 1) := by decide +kernel
theorem dX11_oil_17 : decode cX11_oil 17 = .ok (.iconst 1, 1) := by decide +kernel
theorem dX11_oil_18 : decode cX11_oil 18 = .ok (.bipush 40, 2) := by decide +kernel
theorem dX11_oil_20 : decode cX11_oil 20 = .ok (.invokestatic 221, 3) := by decide +kernel
theorem dX11_oil_23 : decode cX11_oil 23 = .ok (.ifCond .eq 12, 3) := by decide +kernel
theorem dX11_oil_26 : decode cX11_oil 26 = .ok (.iload_n 3, 1) := by decide +kernel
theorem dX11_oil_27 : decode cX11_oil 27 = .ok (.iconst 0, 1) := by decide +kernel
theorem dX11_oil_28 : decode cX11_oil 28 = .ok (.iconst 1, 1) := by decide +kernel
theorem dX11_oil_29 : decode cX11_oil 29 = .ok (.invokestatic 221, 3) := by decide +kernel
theorem dX11_oil_32 : decode cX11_oil 32 = .ok (.ifCond .ne 5, 3) := by decide +kernel
theorem dX11_oil_35 : decode cX11_oil 35 = .ok (.iconst (-1), 1) := by decide +kernel
theorem dX11_oil_36 : decode cX11_oil 36 = .ok (.ireturn, 1) := by decide +kernel
theorem dX11_oil_37 : decode cX11_oil 37 = .ok (.aload_n 0, 1) := by decide +kernel
theorem dX11_oil_38 : decode cX11_oil 38 = .ok (.iconst (-1), 1) := by decide +kernel
theorem dX11_oil_39 : decode cX11_oil 39 = .ok (.putfield 367, 3) := by decide +kernel
theorem dX11_oil_42 : decode cX11_oil 42 = .ok (.aload_n 0, 1) := by decide +kernel
theorem dX11_oil_43 : decode cX11_oil 43 = .ok (.iconst 0, 1) := by decide +kernel
theorem dX11_oil_44 : decode cX11_oil 44 = .ok (.putfield 370, 3) := by decide +kernel
theorem dX11_oil_47 : decode cX11_oil 47 = .ok (.aload_n 0, 1) := by decide +kernel
theorem dX11_oil_48 : decode cX11_oil 48 = .ok (.iconst 0, 1) := by decide +kernel
theorem dX11_oil_49 : decode cX11_oil 49 = .ok (.iload_n 1, 1) := by decide +kernel
theorem dX11_oil_50 : decode cX11_oil 50 = .ok (.iconst 0, 1) := by decide +kernel
theorem dX11_oil_51 : decode cX11_oil 51 = .ok (.iconst 0, 1) := by decide +kernel
theorem dX11_oil_52 : decode cX11_oil 52 = .ok (.iload_n 2, 1) := by decide +kernel
theorem dX11_oil_53 : decode cX11_oil 53 = .ok (.invokevirtual 373, 3) := by decide +kernel
theorem dX11_oil_56 : decode cX11_oil 56 = .ok (.iload_n 3, 1) := by decide +kernel
theorem dX11_oil_57 : decode cX11_oil 57 = .ok (.ifCond .ne 10, 3) := by decide +kernel
theorem dX11_oil_60 : decode cX11_oil 60 = .ok (.aload_n 0, 1) := by decide +kernel
theorem dX11_oil_61 : decode cX11_oil 61 = .ok (.getfield 367, 3) := by decide +kernel
theorem dX11_oil_64 : decode cX11_oil 64 = .ok (.goto 7, 3) := by decide +kernel
theorem dX11_oil_67 : decode cX11_oil 67 = .ok (.aload_n 0, 1) := by decide +kernel
theorem dX11_oil_68 : decode cX11_oil 68 = .ok (.getfield 370, 3) := by decide +kernel
theorem dX11_oil_71 : decode cX11_oil 71 = .ok (.ireturn, 1) := by decide +kernel
theorem dX11_layDays_0 : decode cX11_layDays 0 = .ok (.iconst 0, 1) := by decide +kernel
theorem dX11_layDays_1 : decode cX11_layDays 1 = .ok (.istore 4, 2) := by decide +kernel
theorem dX11_layDays_3 : decode cX11_layDays 3 = .ok (.iload 4, 2) := by decide +kernel
theorem dX11_layDays_5 : decode cX11_layDays 5 = .ok (.bipush 19, 2) := by decide +kernel
theorem dX11_layDays_7 : decode cX11_layDays 7 = .ok (.if_icmp .ge 60, 3) := by decide +kernel
theorem dX11_layDays_10 : decode cX11_layDays 10 = .ok (.aload_n 0, 1) := by decide +kernel
theorem dX11_layDays_11 : decode cX11_layDays 11 = .ok (.invokevirtual 358, 3) := by decide +kernel
theorem dX11_layDays_14 : decode cX11_layDays 14 = .ok (.aload_n 0, 1) := by decide +kernel
theorem dX11_layDays_15 : decode cX11_layDays 15 = .ok (.getfield 58, 3) := by decide +kernel
theorem dX11_layDays_18 : decode cX11_layDays 18 = .ok (.bipush 36, 2) := by decide +kernel
theorem dX11_layDays_20 : decode cX11_layDays 20 = .ok (.dup2, 1) := by decide +kernel
theorem dX11_layDays_21 : decode cX11_layDays 21 = .ok (.iaload, 1) := by decide +kernel
theorem dX11_layDays_22 : decode cX11_layDays 22 = .ok (.iload 4, 2) := by decide +kernel
theorem dX11_layDays_24 : decode cX11_layDays 24 = .ok (.iadd, 1) := by decide +kernel
theorem dX11_layDays_25 : decode cX11_layDays 25 = .ok (.iastore, 1) := by decide +kernel
theorem dX11_layDays_26 : decode cX11_layDays 26 = .ok (.aload_n 0, 1) := by decide +kernel
theorem dX11_layDays_27 : decode cX11_layDays 27 = .ok (.iload_n 3, 1) := by decide +kernel
theorem dX11_layDays_28 : decode cX11_layDays 28 = .ok (.invokevirtual 361, 3) := by decide +kernel
theorem dX11_layDays_31 : decode cX11_layDays 31 = .ok (.aload_n 0, 1) := by decide +kernel
theorem dX11_layDays_32 : decode cX11_layDays 32 = .ok (.getfield 80, 3) := by decide +kernel
theorem dX11_layDays_35 : decode cX11_layDays 35 = .ok (.iload 4, 2) := by decide +kernel
theorem dX11_layDays_37 : decode cX11_layDays 37 = .ok (.aload_n 0, 1) := by decide +kernel
theorem dX11_layDays_38 : decode cX11_layDays 38 = .ok (.getfield 68, 3) := by decide +kernel
theorem dX11_layDays_41 : decode cX11_layDays 41 = .ok (.iload_n 1, 1) := by decide +kernel
theorem dX11_layDays_42 : decode cX11_layDays 42 = .ok (.iaload, 1) := by decide +kernel
theorem dX11_layDays_43 : decode cX11_layDays 43 = .ok (.iastore, 1) := by decide +kernel
theorem dX11_layDays_44 : decode cX11_layDays 44 = .ok (.aload_n 0, 1) := by decide +kernel
theorem dX11_layDays_45 : decode cX11_layDays 45 = .ok (.getfield 83, 3) := by decide +kernel
theorem dX11_layDays_48 : decode cX11_layDays 48 = .ok (.iload 4, 2) := by decide +kernel
theorem dX11_layDays_50 : decode cX11_layDays 50 = .ok (.aload_n 0, 1) := by decide +kernel
theorem dX11_layDays_51 : decode cX11_layDays 51 = .ok (.getfield 68, 3) := by decide +kernel
theorem dX11_layDays_54 : decode cX11_layDays 54 = .ok (.iload_n 2, 1) := by decide +kernel
theorem dX11_layDays_55 : decode cX11_layDays 55 = .ok (.iaload, 1) := by decide +kernel
theorem dX11_layDays_56 : decode cX11_layDays 56 = .ok (.iastore, 1) := by decide +kernel
theorem dX11_layDays_57 : decode cX11_layDays 57 = .ok (.aload_n 0, 1) := by decide +kernel
theorem dX11_layDays_58 : decode cX11_layDays 58 = .ok (.invokevirtual 364, 3) := by decide +kernel
theorem dX11_layDays_61 : decode cX11_layDays 61 = .ok (.iinc 4 1, 3) := by decide +kernel
theorem dX11_layDays_64 : decode cX11_layDays 64 = .ok (.goto (-61), 3) := by decide +kernel
theorem dX11_layDays_67 : decode cX11_layDays 67 = .ok (.return_, 1) := by decide +kernel
theorem dX11_isGame_0 : decode cX11_isGame 0 = .ok (.aload_n 0, 1) := by decide +kernel
theorem dX11_isGame_1 : decode cX11_isGame 1 = .ok (.iload_n 1, 1) := by decide +kernel
theorem dX11_isGame_2 : decode cX11_isGame 2 = .ok (.invokevirtual 317, 3) := by decide +kernel
theorem dX11_isGame_5 : decode cX11_isGame 5 = .ok (.ifCond .eq 30, 3) := by decide +kernel
theorem dX11_isGame_8 : decode cX11_isGame 8 = .ok (.aload_n 0, 1) := by decide +kernel
theorem dX11_isGame_9 : decode cX11_isGame 9 = .ok (.iload_n 2, 1) := by decide +kernel
theorem dX11_isGame_10 : decode cX11_isGame 10 = .ok (.invokevirtual 317, 3) := by decide +kernel
theorem dX11_isGame_13 : decode cX11_isGame 13 = .ok (.ifCond .eq 22, 3) := by decide +kernel
theorem dX11_isGame_16 : decode cX11_isGame 16 = .ok (.iload_n 1, 1) := by decide +kernel
theorem dX11_isGame_17 : decode cX11_isGame 17 = .ok (.iload_n 2, 1) := by decide +kernel
theorem dX11_isGame_18 : decode cX11_isGame 18 = .ok (.if_icmp .eq 17, 3) := by decide +kernel
theorem dX11_isGame_21 : decode cX11_isGame 21 = .ok (.iload_n 3, 1) := by decide +kernel
theorem dX11_isGame_22 : decode cX11_isGame 22 = .ok (.iconst 1, 1) := by decide +kernel
theorem dX11_isGame_23 : decode cX11_isGame 23 = .ok (.bipush 40, 2) := by decide +kernel
theorem dX11_isGame_25 : decode cX11_isGame 25 = .ok (.invokestatic 221, 3) := by decide +kernel
theorem dX11_isGame_28 : decode cX11_isGame 28 = .ok (.ifCond .eq 7, 3) := by decide +kernel
theorem dX11_isGame_31 : decode cX11_isGame 31 = .ok (.iconst 1, 1) := by decide +kernel
theorem dX11_isGame_32 : decode cX11_isGame 32 = .ok (.goto 4, 3) := by decide +kernel
theorem dX11_isGame_35 : decode cX11_isGame 35 = .ok (.iconst 0, 1) := by decide +kernel
theorem dX11_isGame_36 : decode cX11_isGame 36 = .ok (.ireturn, 1) := by decide +kernel
theorem dX11_game_0 : decode cX11_game 0 = .ok (.aload_n 0, 1) := by decide +kernel
theorem dX11_game_1 : decode cX11_game 1 = .ok (.iload_n 1, 1) := by decide +kernel
theorem dX11_game_2 : decode cX11_game 2 = .ok (.iload_n 2, 1) := by decide +kernel
theorem dX11_game_3 : decode cX11_game 3 = .ok (.iload_n 3, 1) := by decide +kernel
theorem dX11_game_4 : decode cX11_game 4 = .ok (.invokevirtual 377, 3) := by decide +kernel
theorem dX11_game_7 : decode cX11_game 7 = .ok (.ifCond .eq 35, 3) := by decide +kernel
theorem dX11_game_10 : decode cX11_game 10 = .ok (.iload 4, 2) := by decide +kernel
theorem dX11_game_12 : decode cX11_game 12 = .ok (.iconst 0, 1) := by decide +kernel
theorem dX11_game_13 : decode cX11_game 13 = .ok (.bipush 9, 2) := by decide +kernel
theorem dX11_game_15 : decode cX11_game 15 = .ok (.invokestatic 221, 3) := by decide +kernel
theorem dX11_game_18 : decode cX11_game 18 = .ok (.ifCond .eq 24, 3) := by decide +kernel
theorem dX11_game_21 : decode cX11_game 21 = .ok (.iload 5, 2) := by decide +kernel
theorem dX11_game_23 : decode cX11_game 23 = .ok (.iconst 0, 1) := by decide +kernel
theorem dX11_game_24 : decode cX11_game 24 = .ok (.bipush 9, 2) := by decide +kernel
theorem dX11_game_26 : decode cX11_game 26 = .ok (.invokestatic 221, 3) := by decide +kernel
theorem dX11_game_29 : decode cX11_game 29 = .ok (.ifCond .eq 13, 3) := by decide +kernel
theorem dX11_game_32 : decode cX11_game 32 = .ok (.iload 6, 2) := by decide +kernel
theorem dX11_game_34 : decode cX11_game 34 = .ok (.iconst 0, 1) := by decide +kernel
theorem dX11_game_35 : decode cX11_game 35 = .ok (.iconst 1, 1) := by decide +kernel
theorem dX11_game_36 : decode cX11_game 36 = .ok (.invokestatic 221, 3) := by decide +kernel
theorem dX11_game_39 : decode cX11_game 39 = .ok (.ifCond .ne 7, 3) := by decide +kernel
theorem dX11_game_42 : decode cX11_game 42 = .ok (.ldc_w 380, 3) := by decide +kernel
theorem dX11_game_45 : decode cX11_game 45 = .ok (.ireturn, 1) := by decide +kernel
theorem dX11_game_46 : decode cX11_game 46 = .ok (.aload_n 0, 1) := by decide +kernel
theorem dX11_game_47 : decode cX11_game 47 = .ok (.iload_n 1, 1) := by decide +kernel
theorem dX11_game_48 : decode cX11_game 48 = .ok (.iload_n 2, 1) := by decide +kernel
theorem dX11_game_49 : decode cX11_game 49 = .ok (.iload_n 3, 1) := by decide +kernel
theorem dX11_game_50 : decode cX11_game 50 = .ok (.invokevirtual 381, 3) := by decide +kernel
theorem dX11_game_53 : decode cX11_game 53 = .ok (.iload 6, 2) := by decide +kernel
theorem dX11_game_55 : decode cX11_game 55 = .ok (.ifCond .ne 21, 3) := by decide +kernel
theorem dX11_game_58 : decode cX11_game 58 = .ok (.iconst 2, 1) := by decide +kernel
theorem dX11_game_59 : decode cX11_game 59 = .ok (.aload_n 0, 1) := by decide +kernel
theorem dX11_game_60 : decode cX11_game 60 = .ok (.getfield 80, 3) := by decide +kernel
theorem dX11_game_63 : decode cX11_game 63 = .ok (.iload 4, 2) := by decide +kernel
theorem dX11_game_65 : decode cX11_game 65 = .ok (.iload 5, 2) := by decide +kernel
theorem dX11_game_67 : decode cX11_game 67 = .ok (.iadd, 1) := by decide +kernel
theorem dX11_game_68 : decode cX11_game 68 = .ok (.iaload, 1) := by decide +kernel
theorem dX11_game_69 : decode cX11_game 69 = .ok (.imul, 1) := by decide +kernel
theorem dX11_game_70 : decode cX11_game 70 = .ok (.iload 4, 2) := by decide +kernel
theorem dX11_game_72 : decode cX11_game 72 = .ok (.isub, 1) := by decide +kernel
theorem dX11_game_73 : decode cX11_game 73 = .ok (.goto 18, 3) := by decide +kernel
theorem dX11_game_76 : decode cX11_game 76 = .ok (.iconst 2, 1) := by decide +kernel
theorem dX11_game_77 : decode cX11_game 77 = .ok (.aload_n 0, 1) := by decide +kernel
theorem dX11_game_78 : decode cX11_game 78 = .ok (.getfield 83, 3) := by decide +kernel
theorem dX11_game_81 : decode cX11_game 81 = .ok (.iload 4, 2) := by decide +kernel
theorem dX11_game_83 : decode cX11_game 83 = .ok (.iload 5, 2) := by decide +kernel
theorem dX11_game_85 : decode cX11_game 85 = .ok (.iadd, 1) := by decide +kernel
theorem dX11_game_86 : decode cX11_game 86 = .ok (.iaload, 1) := by decide +kernel
theorem dX11_game_87 : decode cX11_game 87 = .ok (.imul, 1) := by decide +kernel
theorem dX11_game_88 : decode cX11_game 88 = .ok (.iload 5, 2) := by decide +kernel
theorem dX11_game_90 : decode cX11_game 90 = .ok (.isub, 1) := by decide +kernel
theorem dX11_game_91 : decode cX11_game 91 = .ok (.ireturn, 1) := by decide +kernel
theorem dX11_isRest_0 : decode cX11_isRest 0 = .ok (.iconst 0, 1) := by decide +kernel
theorem dX11_isRest_1 : decode cX11_isRest 1 = .ok (.istore_n 3, 1) := by decide +kernel
theorem dX11_isRest_2 : decode cX11_isRest 2 = .ok (.iload_n 3, 1) := by decide +kernel
theorem dX11_isRest_3 : decode cX11_isRest 3 = .ok (.bipush 9, 2) := by decide +kernel
theorem dX11_isRest_5 : decode cX11_isRest 5 = .ok (.if_icmp .gt 65, 3) := by decide +kernel
theorem dX11_isRest_8 : decode cX11_isRest 8 = .ok (.iconst 2, 1) := by decide +kernel
theorem dX11_isRest_9 : decode cX11_isRest 9 = .ok (.aload_n 0, 1) := by decide +kernel
theorem dX11_isRest_10 : decode cX11_isRest 10 = .ok (.getfield 80, 3) := by decide +kernel
theorem dX11_isRest_13 : decode cX11_isRest 13 = .ok (.iload_n 3, 1) := by decide +kernel
theorem dX11_isRest_14 : decode cX11_isRest 14 = .ok (.iload_n 2, 1) := by decide +kernel
theorem dX11_isRest_15 : decode cX11_isRest 15 = .ok (.iadd, 1) := by decide +kernel
theorem dX11_isRest_16 : decode cX11_isRest 16 = .ok (.iaload, 1) := by decide +kernel
theorem dX11_isRest_17 : decode cX11_isRest 17 = .ok (.imul, 1) := by decide +kernel
theorem dX11_isRest_18 : decode cX11_isRest 18 = .ok (.iload_n 3, 1) := by decide +kernel
theorem dX11_isRest_19 : decode cX11_isRest 19 = .ok (.isub, 1) := by decide +kernel
theorem dX11_isRest_20 : decode cX11_isRest 20 = .ok (.iconst 2, 1) := by decide +kernel
theorem dX11_isRest_21 : decode cX11_isRest 21 = .ok (.aload_n 0, 1) := by decide +kernel
theorem dX11_isRest_22 : decode cX11_isRest 22 = .ok (.getfield 80, 3) := by decide +kernel
theorem dX11_isRest_25 : decode cX11_isRest 25 = .ok (.iload_n 1, 1) := by decide +kernel
theorem dX11_isRest_26 : decode cX11_isRest 26 = .ok (.iload_n 2, 1) := by decide +kernel
theorem dX11_isRest_27 : decode cX11_isRest 27 = .ok (.iadd, 1) := by decide +kernel
theorem dX11_isRest_28 : decode cX11_isRest 28 = .ok (.iaload, 1) := by decide +kernel
theorem dX11_isRest_29 : decode cX11_isRest 29 = .ok (.imul, 1) := by decide +kernel
theorem dX11_isRest_30 : decode cX11_isRest 30 = .ok (.iload_n 1, 1) := by decide +kernel
theorem dX11_isRest_31 : decode cX11_isRest 31 = .ok (.isub, 1) := by decide +kernel
theorem dX11_isRest_32 : decode cX11_isRest 32 = .ok (.if_icmp .gt 30, 3) := by decide +kernel
theorem dX11_isRest_35 : decode cX11_isRest 35 = .ok (.iconst 2, 1) := by decide +kernel
theorem dX11_isRest_36 : decode cX11_isRest 36 = .ok (.aload_n 0, 1) := by decide +kernel
theorem dX11_isRest_37 : decode cX11_isRest 37 = .ok (.getfield 83, 3) := by decide +kernel
theorem dX11_isRest_40 : decode cX11_isRest 40 = .ok (.iload_n 1, 1) := by decide +kernel
theorem dX11_isRest_41 : decode cX11_isRest 41 = .ok (.iload_n 3, 1) := by decide +kernel
theorem dX11_isRest_42 : decode cX11_isRest 42 = .ok (.iadd, 1) := by decide +kernel
theorem dX11_isRest_43 : decode cX11_isRest 43 = .ok (.iaload, 1) := by decide +kernel
theorem dX11_isRest_44 : decode cX11_isRest 44 = .ok (.imul, 1) := by decide +kernel
theorem dX11_isRest_45 : decode cX11_isRest 45 = .ok (.iload_n 3, 1) := by decide +kernel
theorem dX11_isRest_46 : decode cX11_isRest 46 = .ok (.isub, 1) := by decide +kernel
theorem dX11_isRest_47 : decode cX11_isRest 47 = .ok (.iconst 2, 1) := by decide +kernel
theorem dX11_isRest_48 : decode cX11_isRest 48 = .ok (.aload_n 0, 1) := by decide +kernel
theorem dX11_isRest_49 : decode cX11_isRest 49 = .ok (.getfield 83, 3) := by decide +kernel
theorem dX11_isRest_52 : decode cX11_isRest 52 = .ok (.iload_n 1, 1) := by decide +kernel
theorem dX11_isRest_53 : decode cX11_isRest 53 = .ok (.iload_n 2, 1) := by decide +kernel
theorem dX11_isRest_54 : decode cX11_isRest 54 = .ok (.iadd, 1) := by decide +kernel
theorem dX11_isRest_55 : decode cX11_isRest 55 = .ok (.iaload, 1) := by decide +kernel
theorem dX11_isRest_56 : decode cX11_isRest 56 = .ok (.imul, 1) := by decide +kernel
theorem dX11_isRest_57 : decode cX11_isRest 57 = .ok (.iload_n 2, 1) := by decide +kernel
theorem dX11_isRest_58 : decode cX11_isRest 58 = .ok (.isub, 1) := by decide +kernel
theorem dX11_isRest_59 : decode cX11_isRest 59 = .ok (.if_icmp .le 5, 3) := by decide +kernel
theorem dX11_isRest_62 : decode cX11_isRest 62 = .ok (.iconst 0, 1) := by decide +kernel
theorem dX11_isRest_63 : decode cX11_isRest 63 = .ok (.ireturn, 1) := by decide +kernel
theorem dX11_isRest_64 : decode cX11_isRest 64 = .ok (.iinc 3 1, 3) := by decide +kernel
theorem dX11_isRest_67 : decode cX11_isRest 67 = .ok (.goto (-65), 3) := by decide +kernel
theorem dX11_isRest_70 : decode cX11_isRest 70 = .ok (.iconst 1, 1) := by decide +kernel
theorem dX11_isRest_71 : decode cX11_isRest 71 = .ok (.ireturn, 1) := by decide +kernel
theorem dX11_rests_0 : decode cX11_rests 0 = .ok (.aload_n 0, 1) := by decide +kernel
theorem dX11_rests_1 : decode cX11_rests 1 = .ok (.iload_n 1, 1) := by decide +kernel
theorem dX11_rests_2 : decode cX11_rests 2 = .ok (.iload_n 2, 1) := by decide +kernel
theorem dX11_rests_3 : decode cX11_rests 3 = .ok (.iload_n 3, 1) := by decide +kernel
theorem dX11_rests_4 : decode cX11_rests 4 = .ok (.invokevirtual 377, 3) := by decide +kernel
theorem dX11_rests_7 : decode cX11_rests 7 = .ok (.ifCond .eq 9, 3) := by decide +kernel
theorem dX11_rests_10 : decode cX11_rests 10 = .ok (.iload 4, 2) := by decide +kernel
theorem dX11_rests_12 : decode cX11_rests 12 = .ok (.iconst (-1), 1) := by decide +kernel
theorem dX11_rests_13 : decode cX11_rests 13 = .ok (.if_icmp .ge 5, 3) := by decide +kernel
theorem dX11_rests_16 : decode cX11_rests 16 = .ok (.iconst (-1), 1) := by decide +kernel
theorem dX11_rests_17 : decode cX11_rests 17 = .ok (.ireturn, 1) := by decide +kernel
theorem dX11_rests_18 : decode cX11_rests 18 = .ok (.aload_n 0, 1) := by decide +kernel
theorem dX11_rests_19 : decode cX11_rests 19 = .ok (.iload_n 1, 1) := by decide +kernel
theorem dX11_rests_20 : decode cX11_rests 20 = .ok (.iload_n 2, 1) := by decide +kernel
theorem dX11_rests_21 : decode cX11_rests 21 = .ok (.iload_n 3, 1) := by decide +kernel
theorem dX11_rests_22 : decode cX11_rests 22 = .ok (.invokevirtual 381, 3) := by decide +kernel
theorem dX11_rests_25 : decode cX11_rests 25 = .ok (.iconst 0, 1) := by decide +kernel
theorem dX11_rests_26 : decode cX11_rests 26 = .ok (.istore 5, 2) := by decide +kernel
theorem dX11_rests_28 : decode cX11_rests 28 = .ok (.iconst 0, 1) := by decide +kernel
theorem dX11_rests_29 : decode cX11_rests 29 = .ok (.istore 6, 2) := by decide +kernel
theorem dX11_rests_31 : decode cX11_rests 31 = .ok (.iload 6, 2) := by decide +kernel
theorem dX11_rests_33 : decode cX11_rests 33 = .ok (.bipush 100, 2) := by decide +kernel
theorem dX11_rests_35 : decode cX11_rests 35 = .ok (.if_icmp .ge 39, 3) := by decide +kernel
theorem dX11_rests_38 : decode cX11_rests 38 = .ok (.aload_n 0, 1) := by decide +kernel
theorem dX11_rests_39 : decode cX11_rests 39 = .ok (.iload 6, 2) := by decide +kernel
theorem dX11_rests_41 : decode cX11_rests 41 = .ok (.bipush 10, 2) := by decide +kernel
theorem dX11_rests_43 : decode cX11_rests 43 = .ok (.idiv, 1) := by decide +kernel
theorem dX11_rests_44 : decode cX11_rests 44 = .ok (.iload 6, 2) := by decide +kernel
theorem dX11_rests_46 : decode cX11_rests 46 = .ok (.bipush 10, 2) := by decide +kernel
theorem dX11_rests_48 : decode cX11_rests 48 = .ok (.irem, 1) := by decide +kernel
theorem dX11_rests_49 : decode cX11_rests 49 = .ok (.invokevirtual 385, 3) := by decide +kernel
theorem dX11_rests_52 : decode cX11_rests 52 = .ok (.ifCond .eq 16, 3) := by decide +kernel
theorem dX11_rests_55 : decode cX11_rests 55 = .ok (.iload 5, 2) := by decide +kernel
theorem dX11_rests_57 : decode cX11_rests 57 = .ok (.iload 4, 2) := by decide +kernel
theorem dX11_rests_59 : decode cX11_rests 59 = .ok (.if_icmp .ne 6, 3) := by decide +kernel
theorem dX11_rests_62 : decode cX11_rests 62 = .ok (.iload 6, 2) := by decide +kernel
theorem dX11_rests_64 : decode cX11_rests 64 = .ok (.ireturn, 1) := by decide +kernel
theorem dX11_rests_65 : decode cX11_rests 65 = .ok (.iinc 5 1, 3) := by decide +kernel
theorem dX11_rests_68 : decode cX11_rests 68 = .ok (.iinc 6 1, 3) := by decide +kernel
theorem dX11_rests_71 : decode cX11_rests 71 = .ok (.goto (-40), 3) := by decide +kernel
theorem dX11_rests_74 : decode cX11_rests 74 = .ok (.iload 4, 2) := by decide +kernel
theorem dX11_rests_76 : decode cX11_rests 76 = .ok (.iconst (-1), 1) := by decide +kernel
theorem dX11_rests_77 : decode cX11_rests 77 = .ok (.if_icmp .ne 8, 3) := by decide +kernel
theorem dX11_rests_80 : decode cX11_rests 80 = .ok (.iload 5, 2) := by decide +kernel
theorem dX11_rests_82 : decode cX11_rests 82 = .ok (.goto 4, 3) := by decide +kernel
theorem dX11_rests_85 : decode cX11_rests 85 = .ok (.iconst (-1), 1) := by decide +kernel
theorem dX11_rests_86 : decode cX11_rests 86 = .ok (.ireturn, 1) := by decide +kernel
theorem dX11_layAhead_0 : decode cX11_layAhead 0 = .ok (.aload_n 0, 1) := by decide +kernel
theorem dX11_layAhead_1 : decode cX11_layAhead 1 = .ok (.invokevirtual 358, 3) := by decide +kernel
theorem dX11_layAhead_4 : decode cX11_layAhead 4 = .ok (.aload_n 0, 1) := by decide +kernel
theorem dX11_layAhead_5 : decode cX11_layAhead 5 = .ok (.iload_n 1, 1) := by decide +kernel
theorem dX11_layAhead_6 : decode cX11_layAhead 6 = .ok (.invokevirtual 361, 3) := by decide +kernel
theorem dX11_layAhead_9 : decode cX11_layAhead 9 = .ok (.aload_n 0, 1) := by decide +kernel
theorem dX11_layAhead_10 : decode cX11_layAhead 10 = .ok (.invokevirtual 364, 3) := by decide +kernel
theorem dX11_layAhead_13 : decode cX11_layAhead 13 = .ok (.iconst 0, 1) := by decide +kernel
theorem dX11_layAhead_14 : decode cX11_layAhead 14 = .ok (.istore_n 2, 1) := by decide +kernel
theorem dX11_layAhead_15 : decode cX11_layAhead 15 = .ok (.iconst 0, 1) := by decide +kernel
theorem dX11_layAhead_16 : decode cX11_layAhead 16 = .ok (.istore_n 3, 1) := by decide +kernel
theorem dX11_layAhead_17 : decode cX11_layAhead 17 = .ok (.iload_n 3, 1) := by decide +kernel
theorem dX11_layAhead_18 : decode cX11_layAhead 18 = .ok (.aload_n 0, 1) := by decide +kernel
theorem dX11_layAhead_19 : decode cX11_layAhead 19 = .ok (.getfield 261, 3) := by decide +kernel
theorem dX11_layAhead_22 : decode cX11_layAhead 22 = .ok (.if_icmp .ge 18, 3) := by decide +kernel
theorem dX11_layAhead_25 : decode cX11_layAhead 25 = .ok (.iload_n 2, 1) := by decide +kernel
theorem dX11_layAhead_26 : decode cX11_layAhead 26 = .ok (.aload_n 0, 1) := by decide +kernel
theorem dX11_layAhead_27 : decode cX11_layAhead 27 = .ok (.getfield 68, 3) := by decide +kernel
theorem dX11_layAhead_30 : decode cX11_layAhead 30 = .ok (.iload_n 3, 1) := by decide +kernel
theorem dX11_layAhead_31 : decode cX11_layAhead 31 = .ok (.iaload, 1) := by decide +kernel
theorem dX11_layAhead_32 : decode cX11_layAhead 32 = .ok (.iadd, 1) := by decide +kernel
theorem dX11_layAhead_33 : decode cX11_layAhead 33 = .ok (.istore_n 2, 1) := by decide +kernel
theorem dX11_layAhead_34 : decode cX11_layAhead 34 = .ok (.iinc 3 1, 3) := by decide +kernel
theorem dX11_layAhead_37 : decode cX11_layAhead 37 = .ok (.goto (-20), 3) := by decide +kernel
theorem dX11_layAhead_40 : decode cX11_layAhead 40 = .ok (.iload_n 2, 1) := by decide +kernel
theorem dX11_layAhead_41 : decode cX11_layAhead 41 = .ok (.ireturn, 1) := by decide +kernel
theorem dX11_shares_0 : decode cX11_shares 0 = .ok (.aload_n 0, 1) := by decide +kernel
theorem dX11_shares_1 : decode cX11_shares 1 = .ok (.iload_n 1, 1) := by decide +kernel
theorem dX11_shares_2 : decode cX11_shares 2 = .ok (.invokevirtual 317, 3) := by decide +kernel
theorem dX11_shares_5 : decode cX11_shares 5 = .ok (.ifCond .eq 24, 3) := by decide +kernel
theorem dX11_shares_8 : decode cX11_shares 8 = .ok (.iload_n 2, 1) := by decide +kernel
theorem dX11_shares_9 : decode cX11_shares 9 = .ok (.iconst 1, 1) := by decide +kernel
theorem dX11_shares_10 : decode cX11_shares 10 = .ok (.bipush 60, 2) := by decide +kernel
theorem dX11_shares_12 : decode cX11_shares 12 = .ok (.invokestatic 221, 3) := by decide +kernel
theorem dX11_shares_15 : decode cX11_shares 15 = .ok (.ifCond .eq 14, 3) := by decide +kernel
theorem dX11_shares_18 : decode cX11_shares 18 = .ok (.iload_n 3, 1) := by decide +kernel
theorem dX11_shares_19 : decode cX11_shares 19 = .ok (.iconst 0, 1) := by decide +kernel
theorem dX11_shares_20 : decode cX11_shares 20 = .ok (.sipush 999, 3) := by decide +kernel
theorem dX11_shares_23 : decode cX11_shares 23 = .ok (.invokestatic 221, 3) := by decide +kernel
theorem dX11_shares_26 : decode cX11_shares 26 = .ok (.ifCond .ne 5, 3) := by decide +kernel
theorem dX11_shares_29 : decode cX11_shares 29 = .ok (.iconst (-1), 1) := by decide +kernel
theorem dX11_shares_30 : decode cX11_shares 30 = .ok (.ireturn, 1) := by decide +kernel
theorem dX11_shares_31 : decode cX11_shares 31 = .ok (.aload_n 0, 1) := by decide +kernel
theorem dX11_shares_32 : decode cX11_shares 32 = .ok (.iload_n 2, 1) := by decide +kernel
theorem dX11_shares_33 : decode cX11_shares 33 = .ok (.invokevirtual 388, 3) := by decide +kernel
theorem dX11_shares_36 : decode cX11_shares 36 = .ok (.istore 4, 2) := by decide +kernel
theorem dX11_shares_38 : decode cX11_shares 38 = .ok (.iload 4, 2) := by decide +kernel
theorem dX11_shares_40 : decode cX11_shares 40 = .ok (.ifCond .ne 7, 3) := by decide +kernel
theorem dX11_shares_43 : decode cX11_shares 43 = .ok (.iconst 0, 1) := by decide +kernel
theorem dX11_shares_44 : decode cX11_shares 44 = .ok (.goto 14, 3) := by decide +kernel
theorem dX11_shares_47 : decode cX11_shares 47 = .ok (.iload_n 3, 1) := by decide +kernel
theorem dX11_shares_48 : decode cX11_shares 48 = .ok (.aload_n 0, 1) := by decide +kernel
theorem dX11_shares_49 : decode cX11_shares 49 = .ok (.getfield 68, 3) := by decide +kernel
theorem dX11_shares_52 : decode cX11_shares 52 = .ok (.iload_n 1, 1) := by decide +kernel
theorem dX11_shares_53 : decode cX11_shares 53 = .ok (.iaload, 1) := by decide +kernel
theorem dX11_shares_54 : decode cX11_shares 54 = .ok (.imul, 1) := by decide +kernel
theorem dX11_shares_55 : decode cX11_shares 55 = .ok (.iload 4, 2) := by decide +kernel
theorem dX11_shares_57 : decode cX11_shares 57 = .ok (.idiv, 1) := by decide +kernel
theorem dX11_shares_58 : decode cX11_shares 58 = .ok (.ireturn, 1) := by decide +kernel
theorem dX11_never_0 : decode cX11_never 0 = .ok (.aload_n 0, 1) := by decide +kernel
theorem dX11_never_1 : decode cX11_never 1 = .ok (.getfield 261, 3) := by decide +kernel
theorem dX11_never_4 : decode cX11_never 4 = .ok (.ifCond .eq 13, 3) := by decide +kernel
theorem dX11_never_7 : decode cX11_never 7 = .ok (.iload_n 1, 1) := by decide +kernel
theorem dX11_never_8 : decode cX11_never 8 = .ok (.iconst 1, 1) := by decide +kernel
theorem dX11_never_9 : decode cX11_never 9 = .ok (.bipush 60, 2) := by decide +kernel
theorem dX11_never_11 : decode cX11_never 11 = .ok (.invokestatic 221, 3) := by decide +kernel
theorem dX11_never_14 : decode cX11_never 14 = .ok (.ifCond .ne 5, 3) := by decide +kernel
theorem dX11_never_17 : decode cX11_never 17 = .ok (.iconst (-1), 1) := by decide +kernel
theorem dX11_never_18 : decode cX11_never 18 = .ok (.ireturn, 1) := by decide +kernel
theorem dX11_never_19 : decode cX11_never 19 = .ok (.aload_n 0, 1) := by decide +kernel
theorem dX11_never_20 : decode cX11_never 20 = .ok (.iload_n 1, 1) := by decide +kernel
theorem dX11_never_21 : decode cX11_never 21 = .ok (.invokevirtual 388, 3) := by decide +kernel
theorem dX11_never_24 : decode cX11_never 24 = .ok (.pop, 1) := by decide +kernel
theorem dX11_never_25 : decode cX11_never 25 = .ok (.iconst 0, 1) := by decide +kernel
theorem dX11_never_26 : decode cX11_never 26 = .ok (.istore_n 2, 1) := by decide +kernel
theorem dX11_never_27 : decode cX11_never 27 = .ok (.iconst 0, 1) := by decide +kernel
theorem dX11_never_28 : decode cX11_never 28 = .ok (.istore_n 3, 1) := by decide +kernel
theorem dX11_never_29 : decode cX11_never 29 = .ok (.iload_n 3, 1) := by decide +kernel
theorem dX11_never_30 : decode cX11_never 30 = .ok (.aload_n 0, 1) := by decide +kernel
theorem dX11_never_31 : decode cX11_never 31 = .ok (.getfield 261, 3) := by decide +kernel
theorem dX11_never_34 : decode cX11_never 34 = .ok (.if_icmp .ge 28, 3) := by decide +kernel
theorem dX11_never_37 : decode cX11_never 37 = .ok (.iload_n 2, 1) := by decide +kernel
theorem dX11_never_38 : decode cX11_never 38 = .ok (.aload_n 0, 1) := by decide +kernel
theorem dX11_never_39 : decode cX11_never 39 = .ok (.getfield 68, 3) := by decide +kernel
theorem dX11_never_42 : decode cX11_never 42 = .ok (.iload_n 3, 1) := by decide +kernel
theorem dX11_never_43 : decode cX11_never 43 = .ok (.iaload, 1) := by decide +kernel
theorem dX11_never_44 : decode cX11_never 44 = .ok (.ifCond .ne 9, 3) := by decide +kernel
theorem dX11_never_47 : decode cX11_never 47 = .ok (.iconst 1, 1) := by decide +kernel
theorem dX11_never_48 : decode cX11_never 48 = .ok (.iload_n 3, 1) := by decide +kernel
theorem dX11_never_49 : decode cX11_never 49 = .ok (.ishl, 1) := by decide +kernel
theorem dX11_never_50 : decode cX11_never 50 = .ok (.goto 4, 3) := by decide +kernel
theorem dX11_never_53 : decode cX11_never 53 = .ok (.iconst 0, 1) := by decide +kernel
theorem dX11_never_54 : decode cX11_never 54 = .ok (.ior, 1) := by decide +kernel
theorem dX11_never_55 : decode cX11_never 55 = .ok (.istore_n 2, 1) := by decide +kernel
theorem dX11_never_56 : decode cX11_never 56 = .ok (.iinc 3 1, 3) := by decide +kernel
theorem dX11_never_59 : decode cX11_never 59 = .ok (.goto (-30), 3) := by decide +kernel
theorem dX11_never_62 : decode cX11_never 62 = .ok (.iload_n 2, 1) := by decide +kernel
theorem dX11_never_63 : decode cX11_never 63 = .ok (.ireturn, 1) := by decide +kernel
theorem dX11_ride_0 : decode cX11_ride 0 = .ok (.aload_n 0, 1) := by decide +kernel
theorem dX11_ride_1 : decode cX11_ride 1 = .ok (.iload_n 1, 1) := by decide +kernel
theorem dX11_ride_2 : decode cX11_ride 2 = .ok (.invokevirtual 317, 3) := by decide +kernel
theorem dX11_ride_5 : decode cX11_ride 5 = .ok (.ifCond .eq 16, 3) := by decide +kernel
theorem dX11_ride_8 : decode cX11_ride 8 = .ok (.aload_n 0, 1) := by decide +kernel
theorem dX11_ride_9 : decode cX11_ride 9 = .ok (.iload_n 2, 1) := by decide +kernel
theorem dX11_ride_10 : decode cX11_ride 10 = .ok (.invokevirtual 317, 3) := by decide +kernel
theorem dX11_ride_13 : decode cX11_ride 13 = .ok (.ifCond .eq 8, 3) := by decide +kernel
theorem dX11_ride_16 : decode cX11_ride 16 = .ok (.iload_n 1, 1) := by decide +kernel
theorem dX11_ride_17 : decode cX11_ride 17 = .ok (.iload_n 2, 1) := by decide +kernel
theorem dX11_ride_18 : decode cX11_ride 18 = .ok (.if_icmp .ne 5, 3) := by decide +kernel
theorem dX11_ride_21 : decode cX11_ride 21 = .ok (.iconst (-1), 1) := by decide +kernel
theorem dX11_ride_22 : decode cX11_ride 22 = .ok (.ireturn, 1) := by decide +kernel
theorem dX11_ride_23 : decode cX11_ride 23 = .ok (.aload_n 0, 1) := by decide +kernel
theorem dX11_ride_24 : decode cX11_ride 24 = .ok (.invokevirtual 358, 3) := by decide +kernel
theorem dX11_ride_27 : decode cX11_ride 27 = .ok (.iconst 0, 1) := by decide +kernel
theorem dX11_ride_28 : decode cX11_ride 28 = .ok (.istore_n 3, 1) := by decide +kernel
theorem dX11_ride_29 : decode cX11_ride 29 = .ok (.iload_n 3, 1) := by decide +kernel
theorem dX11_ride_30 : decode cX11_ride 30 = .ok (.sipush 200, 3) := by decide +kernel
theorem dX11_ride_33 : decode cX11_ride 33 = .ok (.if_icmp .ge 25, 3) := by decide +kernel
theorem dX11_ride_36 : decode cX11_ride 36 = .ok (.aload_n 0, 1) := by decide +kernel
theorem dX11_ride_37 : decode cX11_ride 37 = .ok (.getfield 58, 3) := by decide +kernel
theorem dX11_ride_40 : decode cX11_ride 40 = .ok (.bipush 39, 2) := by decide +kernel
theorem dX11_ride_42 : decode cX11_ride 42 = .ok (.iaload, 1) := by decide +kernel
theorem dX11_ride_43 : decode cX11_ride 43 = .ok (.iload_n 1, 1) := by decide +kernel
theorem dX11_ride_44 : decode cX11_ride 44 = .ok (.if_icmp .eq 14, 3) := by decide +kernel
theorem dX11_ride_47 : decode cX11_ride 47 = .ok (.aload_n 0, 1) := by decide +kernel
theorem dX11_ride_48 : decode cX11_ride 48 = .ok (.invokevirtual 314, 3) := by decide +kernel
theorem dX11_ride_51 : decode cX11_ride 51 = .ok (.pop, 1) := by decide +kernel
theorem dX11_ride_52 : decode cX11_ride 52 = .ok (.iinc 3 1, 3) := by decide +kernel
theorem dX11_ride_55 : decode cX11_ride 55 = .ok (.goto (-26), 3) := by decide +kernel
theorem dX11_ride_58 : decode cX11_ride 58 = .ok (.aload_n 0, 1) := by decide +kernel
theorem dX11_ride_59 : decode cX11_ride 59 = .ok (.getfield 58, 3) := by decide +kernel
theorem dX11_ride_62 : decode cX11_ride 62 = .ok (.bipush 39, 2) := by decide +kernel
theorem dX11_ride_64 : decode cX11_ride 64 = .ok (.iaload, 1) := by decide +kernel
theorem dX11_ride_65 : decode cX11_ride 65 = .ok (.iload_n 1, 1) := by decide +kernel
theorem dX11_ride_66 : decode cX11_ride 66 = .ok (.if_icmp .ne 7, 3) := by decide +kernel
theorem dX11_ride_69 : decode cX11_ride 69 = .ok (.iconst 0, 1) := by decide +kernel
theorem dX11_ride_70 : decode cX11_ride 70 = .ok (.goto 4, 3) := by decide +kernel
theorem dX11_ride_73 : decode cX11_ride 73 = .ok (.iconst (-1), 1) := by decide +kernel
theorem dX11_ride_74 : decode cX11_ride 74 = .ok (.istore_n 3, 1) := by decide +kernel
theorem dX11_ride_75 : decode cX11_ride 75 = .ok (.iload_n 3, 1) := by decide +kernel
theorem dX11_ride_76 : decode cX11_ride 76 = .ok (.iconst (-1), 1) := by decide +kernel
theorem dX11_ride_77 : decode cX11_ride 77 = .ok (.if_icmp .eq 32, 3) := by decide +kernel
theorem dX11_ride_80 : decode cX11_ride 80 = .ok (.iload_n 3, 1) := by decide +kernel
theorem dX11_ride_81 : decode cX11_ride 81 = .ok (.sipush 200, 3) := by decide +kernel
theorem dX11_ride_84 : decode cX11_ride 84 = .ok (.if_icmp .ge 25, 3) := by decide +kernel
theorem dX11_ride_87 : decode cX11_ride 87 = .ok (.aload_n 0, 1) := by decide +kernel
theorem dX11_ride_88 : decode cX11_ride 88 = .ok (.getfield 58, 3) := by decide +kernel
theorem dX11_ride_91 : decode cX11_ride 91 = .ok (.bipush 39, 2) := by decide +kernel
theorem dX11_ride_93 : decode cX11_ride 93 = .ok (.iaload, 1) := by decide +kernel
theorem dX11_ride_94 : decode cX11_ride 94 = .ok (.iload_n 2, 1) := by decide +kernel
theorem dX11_ride_95 : decode cX11_ride 95 = .ok (.if_icmp .eq 14, 3) := by decide +kernel
theorem dX11_ride_98 : decode cX11_ride 98 = .ok (.aload_n 0, 1) := by decide +kernel
theorem dX11_ride_99 : decode cX11_ride 99 = .ok (.invokevirtual 314, 3) := by decide +kernel
theorem dX11_ride_102 : decode cX11_ride 102 = .ok (.pop, 1) := by decide +kernel
theorem dX11_ride_103 : decode cX11_ride 103 = .ok (.iinc 3 1, 3) := by decide +kernel
theorem dX11_ride_106 : decode cX11_ride 106 = .ok (.goto (-31), 3) := by decide +kernel
theorem dX11_ride_109 : decode cX11_ride 109 = .ok (.aload_n 0, 1) := by decide +kernel
theorem dX11_ride_110 : decode cX11_ride 110 = .ok (.getfield 58, 3) := by decide +kernel
theorem dX11_ride_113 : decode cX11_ride 113 = .ok (.bipush 39, 2) := by decide +kernel
theorem dX11_ride_115 : decode cX11_ride 115 = .ok (.iaload, 1) := by decide +kernel
theorem dX11_ride_116 : decode cX11_ride 116 = .ok (.iload_n 2, 1) := by decide +kernel
theorem dX11_ride_117 : decode cX11_ride 117 = .ok (.if_icmp .ne 7, 3) := by decide +kernel
theorem dX11_ride_120 : decode cX11_ride 120 = .ok (.iconst 1, 1) := by decide +kernel
theorem dX11_ride_121 : decode cX11_ride 121 = .ok (.goto 4, 3) := by decide +kernel
theorem dX11_ride_124 : decode cX11_ride 124 = .ok (.iconst 0, 1) := by decide +kernel
theorem dX11_ride_125 : decode cX11_ride 125 = .ok (.istore 4, 2) := by decide +kernel
theorem dX11_ride_127 : decode cX11_ride 127 = .ok (.aload_n 0, 1) := by decide +kernel
theorem dX11_ride_128 : decode cX11_ride 128 = .ok (.invokevirtual 364, 3) := by decide +kernel
theorem dX11_ride_131 : decode cX11_ride 131 = .ok (.iload 4, 2) := by decide +kernel
theorem dX11_ride_133 : decode cX11_ride 133 = .ok (.ifCond .eq 7, 3) := by decide +kernel
theorem dX11_ride_136 : decode cX11_ride 136 = .ok (.iload_n 3, 1) := by decide +kernel
theorem dX11_ride_137 : decode cX11_ride 137 = .ok (.goto 4, 3) := by decide +kernel
theorem dX11_ride_140 : decode cX11_ride 140 = .ok (.iconst (-1), 1) := by decide +kernel
theorem dX11_ride_141 : decode cX11_ride 141 = .ok (.ireturn, 1) := by decide +kernel
theorem dX11_level_0 : decode cX11_level 0 = .ok (.aload_n 0, 1) := by decide +kernel
theorem dX11_level_1 : decode cX11_level 1 = .ok (.iload_n 1, 1) := by decide +kernel
theorem dX11_level_2 : decode cX11_level 2 = .ok (.invokevirtual 317, 3) := by decide +kernel
theorem dX11_level_5 : decode cX11_level 5 = .ok (.ifCond .eq 11, 3) := by decide +kernel
theorem dX11_level_8 : decode cX11_level 8 = .ok (.aload_n 0, 1) := by decide +kernel
theorem dX11_level_9 : decode cX11_level 9 = .ok (.iload_n 2, 1) := by decide +kernel
theorem dX11_level_10 : decode cX11_level 10 = .ok (.invokevirtual 317, 3) := by decide +kernel
theorem dX11_level_13 : decode cX11_level 13 = .ok (.ifCond .ne 5, 3) := by decide +kernel
theorem dX11_level_16 : decode cX11_level 16 = .ok (.iconst (-1), 1) := by decide +kernel
theorem dX11_level_17 : decode cX11_level 17 = .ok (.ireturn, 1) := by decide +kernel
theorem dX11_level_18 : decode cX11_level 18 = .ok (.iconst 0, 1) := by decide +kernel
theorem dX11_level_19 : decode cX11_level 19 = .ok (.istore_n 3, 1) := by decide +kernel
theorem dX11_level_20 : decode cX11_level 20 = .ok (.iload_n 3, 1) := by decide +kernel
theorem dX11_level_21 : decode cX11_level 21 = .ok (.bipush 99, 2) := by decide +kernel
theorem dX11_level_23 : decode cX11_level 23 = .ok (.if_icmp .gt 49, 3) := by decide +kernel
theorem dX11_level_26 : decode cX11_level 26 = .ok (.aload_n 0, 1) := by decide +kernel
theorem dX11_level_27 : decode cX11_level 27 = .ok (.getfield 58, 3) := by decide +kernel
theorem dX11_level_30 : decode cX11_level 30 = .ok (.bipush 41, 2) := by decide +kernel
theorem dX11_level_32 : decode cX11_level 32 = .ok (.iaload, 1) := by decide +kernel
theorem dX11_level_33 : decode cX11_level 33 = .ok (.iload_n 3, 1) := by decide +kernel
theorem dX11_level_34 : decode cX11_level 34 = .ok (.iadd, 1) := by decide +kernel
theorem dX11_level_35 : decode cX11_level 35 = .ok (.aload_n 0, 1) := by decide +kernel
theorem dX11_level_36 : decode cX11_level 36 = .ok (.iload_n 1, 1) := by decide +kernel
theorem dX11_level_37 : decode cX11_level 37 = .ok (.iconst 4, 1) := by decide +kernel
theorem dX11_level_38 : decode cX11_level 38 = .ok (.invokevirtual 264, 3) := by decide +kernel
theorem dX11_level_41 : decode cX11_level 41 = .ok (.irem, 1) := by decide +kernel
theorem dX11_level_42 : decode cX11_level 42 = .ok (.ifCond .ne 24, 3) := by decide +kernel
theorem dX11_level_45 : decode cX11_level 45 = .ok (.aload_n 0, 1) := by decide +kernel
theorem dX11_level_46 : decode cX11_level 46 = .ok (.getfield 58, 3) := by decide +kernel
theorem dX11_level_49 : decode cX11_level 49 = .ok (.bipush 41, 2) := by decide +kernel
theorem dX11_level_51 : decode cX11_level 51 = .ok (.iaload, 1) := by decide +kernel
theorem dX11_level_52 : decode cX11_level 52 = .ok (.iload_n 3, 1) := by decide +kernel
theorem dX11_level_53 : decode cX11_level 53 = .ok (.iadd, 1) := by decide +kernel
theorem dX11_level_54 : decode cX11_level 54 = .ok (.aload_n 0, 1) := by decide +kernel
theorem dX11_level_55 : decode cX11_level 55 = .ok (.iload_n 2, 1) := by decide +kernel
theorem dX11_level_56 : decode cX11_level 56 = .ok (.iconst 4, 1) := by decide +kernel
theorem dX11_level_57 : decode cX11_level 57 = .ok (.invokevirtual 264, 3) := by decide +kernel
theorem dX11_level_60 : decode cX11_level 60 = .ok (.irem, 1) := by decide +kernel
theorem dX11_level_61 : decode cX11_level 61 = .ok (.ifCond .ne 5, 3) := by decide +kernel
theorem dX11_level_64 : decode cX11_level 64 = .ok (.iload_n 3, 1) := by decide +kernel
theorem dX11_level_65 : decode cX11_level 65 = .ok (.ireturn, 1) := by decide +kernel
theorem dX11_level_66 : decode cX11_level 66 = .ok (.iinc 3 1, 3) := by decide +kernel
theorem dX11_level_69 : decode cX11_level 69 = .ok (.goto (-49), 3) := by decide +kernel
theorem dX11_level_72 : decode cX11_level 72 = .ok (.iconst (-1), 1) := by decide +kernel
theorem dX11_level_73 : decode cX11_level 73 = .ok (.ireturn, 1) := by decide +kernel
theorem dX11_year_0 : decode cX11_year 0 = .ok (.iconst 0, 1) := by decide +kernel
theorem dX11_year_1 : decode cX11_year 1 = .ok (.istore_n 1, 1) := by decide +kernel
theorem dX11_year_2 : decode cX11_year 2 = .ok (.iconst 0, 1) := by decide +kernel
theorem dX11_year_3 : decode cX11_year 3 = .ok (.istore_n 2, 1) := by decide +kernel
theorem dX11_year_4 : decode cX11_year 4 = .ok (.iload_n 2, 1) := by decide +kernel
theorem dX11_year_5 : decode cX11_year 5 = .ok (.aload_n 0, 1) := by decide +kernel
theorem dX11_year_6 : decode cX11_year 6 = .ok (.getfield 261, 3) := by decide +kernel
theorem dX11_year_9 : decode cX11_year 9 = .ok (.if_icmp .ge 18, 3) := by decide +kernel
theorem dX11_year_12 : decode cX11_year 12 = .ok (.iload_n 1, 1) := by decide +kernel
theorem dX11_year_13 : decode cX11_year 13 = .ok (.aload_n 0, 1) := by decide +kernel
theorem dX11_year_14 : decode cX11_year 14 = .ok (.iload_n 2, 1) := by decide +kernel
theorem dX11_year_15 : decode cX11_year 15 = .ok (.iconst 0, 1) := by decide +kernel
theorem dX11_year_16 : decode cX11_year 16 = .ok (.invokevirtual 264, 3) := by decide +kernel
theorem dX11_year_19 : decode cX11_year 19 = .ok (.iadd, 1) := by decide +kernel
theorem dX11_year_20 : decode cX11_year 20 = .ok (.istore_n 1, 1) := by decide +kernel
theorem dX11_year_21 : decode cX11_year 21 = .ok (.iinc 2 1, 3) := by decide +kernel
theorem dX11_year_24 : decode cX11_year 24 = .ok (.goto (-20), 3) := by decide +kernel
theorem dX11_year_27 : decode cX11_year 27 = .ok (.aload_n 0, 1) := by decide +kernel
theorem dX11_year_28 : decode cX11_year 28 = .ok (.getfield 261, 3) := by decide +kernel
theorem dX11_year_31 : decode cX11_year 31 = .ok (.ifCond .ne 7, 3) := by decide +kernel
theorem dX11_year_34 : decode cX11_year 34 = .ok (.iconst (-1), 1) := by decide +kernel
theorem dX11_year_35 : decode cX11_year 35 = .ok (.goto 4, 3) := by decide +kernel
theorem dX11_year_38 : decode cX11_year 38 = .ok (.iload_n 1, 1) := by decide +kernel
theorem dX11_year_39 : decode cX11_year 39 = .ok (.ireturn, 1) := by decide +kernel
theorem dX11_seen_0 : decode cX11_seen 0 = .ok (.aload_n 0, 1) := by decide +kernel
theorem dX11_seen_1 : decode cX11_seen 1 = .ok (.iload_n 2, 1) := by decide +kernel
theorem dX11_seen_2 : decode cX11_seen 2 = .ok (.invokevirtual 317, 3) := by decide +kernel
theorem dX11_seen_5 : decode cX11_seen 5 = .ok (.ifCond .eq 22, 3) := by decide +kernel
theorem dX11_seen_8 : decode cX11_seen 8 = .ok (.iload_n 1, 1) := by decide +kernel
theorem dX11_seen_9 : decode cX11_seen 9 = .ok (.iconst 1, 1) := by decide +kernel
theorem dX11_seen_10 : decode cX11_seen 10 = .ok (.bipush 40, 2) := by decide +kernel
theorem dX11_seen_12 : decode cX11_seen 12 = .ok (.invokestatic 221, 3) := by decide +kernel
theorem dX11_seen_15 : decode cX11_seen 15 = .ok (.ifCond .eq 12, 3) := by decide +kernel
theorem dX11_seen_18 : decode cX11_seen 18 = .ok (.aload_n 0, 1) := by decide +kernel
theorem dX11_seen_19 : decode cX11_seen 19 = .ok (.getfield 273, 3) := by decide +kernel
theorem dX11_seen_22 : decode cX11_seen 22 = .ok (.bipush 10, 2) := by decide +kernel
theorem dX11_seen_24 : decode cX11_seen 24 = .ok (.if_icmp .ne 5, 3) := by decide +kernel
theorem dX11_seen_27 : decode cX11_seen 27 = .ok (.iconst (-1), 1) := by decide +kernel
theorem dX11_seen_28 : decode cX11_seen 28 = .ok (.ireturn, 1) := by decide +kernel
theorem dX11_seen_29 : decode cX11_seen 29 = .ok (.aload_n 0, 1) := by decide +kernel
theorem dX11_seen_30 : decode cX11_seen 30 = .ok (.getfield 86, 3) := by decide +kernel
theorem dX11_seen_33 : decode cX11_seen 33 = .ok (.aload_n 0, 1) := by decide +kernel
theorem dX11_seen_34 : decode cX11_seen 34 = .ok (.getfield 273, 3) := by decide +kernel
theorem dX11_seen_37 : decode cX11_seen 37 = .ok (.iload_n 1, 1) := by decide +kernel
theorem dX11_seen_38 : decode cX11_seen 38 = .ok (.iastore, 1) := by decide +kernel
theorem dX11_seen_39 : decode cX11_seen 39 = .ok (.aload_n 0, 1) := by decide +kernel
theorem dX11_seen_40 : decode cX11_seen 40 = .ok (.getfield 89, 3) := by decide +kernel
theorem dX11_seen_43 : decode cX11_seen 43 = .ok (.aload_n 0, 1) := by decide +kernel
theorem dX11_seen_44 : decode cX11_seen 44 = .ok (.getfield 273, 3) := by decide +kernel
theorem dX11_seen_47 : decode cX11_seen 47 = .ok (.iload_n 2, 1) := by decide +kernel
theorem dX11_seen_48 : decode cX11_seen 48 = .ok (.iastore, 1) := by decide +kernel
theorem dX11_seen_49 : decode cX11_seen 49 = .ok (.aload_n 0, 1) := by decide +kernel
theorem dX11_seen_50 : decode cX11_seen 50 = .ok (.getfield 92, 3) := by decide +kernel
theorem dX11_seen_53 : decode cX11_seen 53 = .ok (.aload_n 0, 1) := by decide +kernel
theorem dX11_seen_54 : decode cX11_seen 54 = .ok (.getfield 273, 3) := by decide +kernel
theorem dX11_seen_57 : decode cX11_seen 57 = .ok (.iload_n 3, 1) := by decide +kernel
theorem dX11_seen_58 : decode cX11_seen 58 = .ok (.bastore, 1) := by decide +kernel
theorem dX11_seen_59 : decode cX11_seen 59 = .ok (.aload_n 0, 1) := by decide +kernel
theorem dX11_seen_60 : decode cX11_seen 60 = .ok (.dup, 1) := by decide +kernel
theorem dX11_seen_61 : decode cX11_seen 61 = .ok (.getfield 273, 3) := by decide +kernel
theorem dX11_seen_64 : decode cX11_seen 64 = .ok (.iconst 1, 1) := by decide +kernel
theorem dX11_seen_65 : decode cX11_seen 65 = .ok (.iadd, 1) := by decide +kernel
theorem dX11_seen_66 : decode cX11_seen 66 = .ok (.putfield 273, 3) := by decide +kernel
theorem dX11_seen_69 : decode cX11_seen 69 = .ok (.aload_n 0, 1) := by decide +kernel
theorem dX11_seen_70 : decode cX11_seen 70 = .ok (.getfield 273, 3) := by decide +kernel
theorem dX11_seen_73 : decode cX11_seen 73 = .ok (.ireturn, 1) := by decide +kernel
theorem dX11_isWho_0 : decode cX11_isWho 0 = .ok (.iload_n 1, 1) := by decide +kernel
theorem dX11_isWho_1 : decode cX11_isWho 1 = .ok (.bipush 9, 2) := by decide +kernel
theorem dX11_isWho_3 : decode cX11_isWho 3 = .ok (.if_icmp .eq 11, 3) := by decide +kernel
theorem dX11_isWho_6 : decode cX11_isWho 6 = .ok (.aload_n 0, 1) := by decide +kernel
theorem dX11_isWho_7 : decode cX11_isWho 7 = .ok (.iload_n 1, 1) := by decide +kernel
theorem dX11_isWho_8 : decode cX11_isWho 8 = .ok (.invokevirtual 317, 3) := by decide +kernel
theorem dX11_isWho_11 : decode cX11_isWho 11 = .ok (.ifCond .eq 7, 3) := by decide +kernel
theorem dX11_isWho_14 : decode cX11_isWho 14 = .ok (.iconst 1, 1) := by decide +kernel
theorem dX11_isWho_15 : decode cX11_isWho 15 = .ok (.goto 4, 3) := by decide +kernel
theorem dX11_isWho_18 : decode cX11_isWho 18 = .ok (.iconst 0, 1) := by decide +kernel
theorem dX11_isWho_19 : decode cX11_isWho 19 = .ok (.ireturn, 1) := by decide +kernel
theorem dX11_layPaths_0 : decode cX11_layPaths 0 = .ok (.aload_n 0, 1) := by decide +kernel
theorem dX11_layPaths_1 : decode cX11_layPaths 1 = .ok (.invokevirtual 358, 3) := by decide +kernel
theorem dX11_layPaths_4 : decode cX11_layPaths 4 = .ok (.iconst 0, 1) := by decide +kernel
theorem dX11_layPaths_5 : decode cX11_layPaths 5 = .ok (.istore_n 2, 1) := by decide +kernel
theorem dX11_layPaths_6 : decode cX11_layPaths 6 = .ok (.iload_n 2, 1) := by decide +kernel
theorem dX11_layPaths_7 : decode cX11_layPaths 7 = .ok (.bipush 9, 2) := by decide +kernel
theorem dX11_layPaths_9 : decode cX11_layPaths 9 = .ok (.if_icmp .gt 87, 3) := by decide +kernel
theorem dX11_layPaths_12 : decode cX11_layPaths 12 = .ok (.aload_n 0, 1) := by decide +kernel
theorem dX11_layPaths_13 : decode cX11_layPaths 13 = .ok (.iload_n 2, 1) := by decide +kernel
theorem dX11_layPaths_14 : decode cX11_layPaths 14 = .ok (.invokevirtual 391, 3) := by decide +kernel
theorem dX11_layPaths_17 : decode cX11_layPaths 17 = .ok (.ifCond .eq 73, 3) := by decide +kernel
theorem dX11_layPaths_20 : decode cX11_layPaths 20 = .ok (.aload_n 0, 1) := by decide +kernel
theorem dX11_layPaths_21 : decode cX11_layPaths 21 = .ok (.invokevirtual 270, 3) := by decide +kernel
theorem dX11_layPaths_24 : decode cX11_layPaths 24 = .ok (.iload_n 2, 1) := by decide +kernel
theorem dX11_layPaths_25 : decode cX11_layPaths 25 = .ok (.bipush 9, 2) := by decide +kernel
theorem dX11_layPaths_27 : decode cX11_layPaths 27 = .ok (.if_icmp .eq 26, 3) := by decide +kernel
theorem dX11_layPaths_30 : decode cX11_layPaths 30 = .ok (.aload_n 0, 1) := by decide +kernel
theorem dX11_layPaths_31 : decode cX11_layPaths 31 = .ok (.getfield 58, 3) := by decide +kernel
theorem dX11_layPaths_34 : decode cX11_layPaths 34 = .ok (.iconst 0, 1) := by decide +kernel
theorem dX11_layPaths_35 : decode cX11_layPaths 35 = .ok (.iload_n 2, 1) := by decide +kernel
theorem dX11_layPaths_36 : decode cX11_layPaths 36 = .ok (.iadd, 1) := by decide +kernel
theorem dX11_layPaths_37 : decode cX11_layPaths 37 = .ok (.bipush 9, 2) := by decide +kernel
theorem dX11_layPaths_39 : decode cX11_layPaths 39 = .ok (.aload_n 0, 1) := by decide +kernel
theorem dX11_layPaths_40 : decode cX11_layPaths 40 = .ok (.getfield 58, 3) := by decide +kernel
theorem dX11_layPaths_43 : decode cX11_layPaths 43 = .ok (.iconst 0, 1) := by decide +kernel
theorem dX11_layPaths_44 : decode cX11_layPaths 44 = .ok (.iload_n 2, 1) := by decide +kernel
theorem dX11_layPaths_45 : decode cX11_layPaths 45 = .ok (.iadd, 1) := by decide +kernel
theorem dX11_layPaths_46 : decode cX11_layPaths 46 = .ok (.iaload, 1) := by decide +kernel
theorem dX11_layPaths_47 : decode cX11_layPaths 47 = .ok (.iload_n 1, 1) := by decide +kernel
theorem dX11_layPaths_48 : decode cX11_layPaths 48 = .ok (.iadd, 1) := by decide +kernel
theorem dX11_layPaths_49 : decode cX11_layPaths 49 = .ok (.invokestatic 292, 3) := by decide +kernel
theorem dX11_layPaths_52 : decode cX11_layPaths 52 = .ok (.iastore, 1) := by decide +kernel
theorem dX11_layPaths_53 : decode cX11_layPaths 53 = .ok (.iconst 1, 1) := by decide +kernel
theorem dX11_layPaths_54 : decode cX11_layPaths 54 = .ok (.istore_n 3, 1) := by decide +kernel
theorem dX11_layPaths_55 : decode cX11_layPaths 55 = .ok (.iload_n 3, 1) := by decide +kernel
theorem dX11_layPaths_56 : decode cX11_layPaths 56 = .ok (.bipush 40, 2) := by decide +kernel
theorem dX11_layPaths_58 : decode cX11_layPaths 58 = .ok (.if_icmp .gt 32, 3) := by decide +kernel
theorem dX11_layPaths_61 : decode cX11_layPaths 61 = .ok (.aload_n 0, 1) := by decide +kernel
theorem dX11_layPaths_62 : decode cX11_layPaths 62 = .ok (.invokevirtual 314, 3) := by decide +kernel
theorem dX11_layPaths_65 : decode cX11_layPaths 65 = .ok (.pop, 1) := by decide +kernel
theorem dX11_layPaths_66 : decode cX11_layPaths 66 = .ok (.aload_n 0, 1) := by decide +kernel
theorem dX11_layPaths_67 : decode cX11_layPaths 67 = .ok (.getfield 96, 3) := by decide +kernel
theorem dX11_layPaths_70 : decode cX11_layPaths 70 = .ok (.bipush 41, 2) := by decide +kernel
theorem dX11_layPaths_72 : decode cX11_layPaths 72 = .ok (.iload_n 2, 1) := by decide +kernel
theorem dX11_layPaths_73 : decode cX11_layPaths 73 = .ok (.imul, 1) := by decide +kernel
theorem dX11_layPaths_74 : decode cX11_layPaths 74 = .ok (.iload_n 3, 1) := by decide +kernel
theorem dX11_layPaths_75 : decode cX11_layPaths 75 = .ok (.iadd, 1) := by decide +kernel
theorem dX11_layPaths_76 : decode cX11_layPaths 76 = .ok (.aload_n 0, 1) := by decide +kernel
theorem dX11_layPaths_77 : decode cX11_layPaths 77 = .ok (.getfield 58, 3) := by decide +kernel
theorem dX11_layPaths_80 : decode cX11_layPaths 80 = .ok (.bipush 39, 2) := by decide +kernel
theorem dX11_layPaths_82 : decode cX11_layPaths 82 = .ok (.iaload, 1) := by decide +kernel
theorem dX11_layPaths_83 : decode cX11_layPaths 83 = .ok (.iastore, 1) := by decide +kernel
theorem dX11_layPaths_84 : decode cX11_layPaths 84 = .ok (.iinc 3 1, 3) := by decide +kernel
theorem dX11_layPaths_87 : decode cX11_layPaths 87 = .ok (.goto (-32), 3) := by decide +kernel
theorem dX11_layPaths_90 : decode cX11_layPaths 90 = .ok (.iinc 2 1, 3) := by decide +kernel
theorem dX11_layPaths_93 : decode cX11_layPaths 93 = .ok (.goto (-87), 3) := by decide +kernel
theorem dX11_layPaths_96 : decode cX11_layPaths 96 = .ok (.aload_n 0, 1) := by decide +kernel
theorem dX11_layPaths_97 : decode cX11_layPaths 97 = .ok (.invokevirtual 364, 3) := by decide +kernel
theorem dX11_layPaths_100 : decode cX11_layPaths 100 = .ok (.return_, 1) := by decide +kernel
theorem dX11_isSo_0 : decode cX11_isSo 0 = .ok (.aload_n 0, 1) := by decide +kernel
theorem dX11_isSo_1 : decode cX11_isSo 1 = .ok (.iload_n 1, 1) := by decide +kernel
theorem dX11_isSo_2 : decode cX11_isSo 2 = .ok (.invokevirtual 391, 3) := by decide +kernel
theorem dX11_isSo_5 : decode cX11_isSo 5 = .ok (.istore_n 2, 1) := by decide +kernel
theorem dX11_isSo_6 : decode cX11_isSo 6 = .ok (.iconst 0, 1) := by decide +kernel
theorem dX11_isSo_7 : decode cX11_isSo 7 = .ok (.istore_n 3, 1) := by decide +kernel
theorem dX11_isSo_8 : decode cX11_isSo 8 = .ok (.iload_n 3, 1) := by decide +kernel
theorem dX11_isSo_9 : decode cX11_isSo 9 = .ok (.aload_n 0, 1) := by decide +kernel
theorem dX11_isSo_10 : decode cX11_isSo 10 = .ok (.getfield 273, 3) := by decide +kernel
theorem dX11_isSo_13 : decode cX11_isSo 13 = .ok (.if_icmp .ge 58, 3) := by decide +kernel
theorem dX11_isSo_16 : decode cX11_isSo 16 = .ok (.iload_n 2, 1) := by decide +kernel
theorem dX11_isSo_17 : decode cX11_isSo 17 = .ok (.ifCond .eq 54, 3) := by decide +kernel
theorem dX11_isSo_20 : decode cX11_isSo 20 = .ok (.aload_n 0, 1) := by decide +kernel
theorem dX11_isSo_21 : decode cX11_isSo 21 = .ok (.getfield 96, 3) := by decide +kernel
theorem dX11_isSo_24 : decode cX11_isSo 24 = .ok (.bipush 41, 2) := by decide +kernel
theorem dX11_isSo_26 : decode cX11_isSo 26 = .ok (.iload_n 1, 1) := by decide +kernel
theorem dX11_isSo_27 : decode cX11_isSo 27 = .ok (.imul, 1) := by decide +kernel
theorem dX11_isSo_28 : decode cX11_isSo 28 = .ok (.aload_n 0, 1) := by decide +kernel
theorem dX11_isSo_29 : decode cX11_isSo 29 = .ok (.getfield 86, 3) := by decide +kernel
theorem dX11_isSo_32 : decode cX11_isSo 32 = .ok (.iload_n 3, 1) := by decide +kernel
theorem dX11_isSo_33 : decode cX11_isSo 33 = .ok (.iaload, 1) := by decide +kernel
theorem dX11_isSo_34 : decode cX11_isSo 34 = .ok (.iadd, 1) := by decide +kernel
theorem dX11_isSo_35 : decode cX11_isSo 35 = .ok (.iaload, 1) := by decide +kernel
theorem dX11_isSo_36 : decode cX11_isSo 36 = .ok (.aload_n 0, 1) := by decide +kernel
theorem dX11_isSo_37 : decode cX11_isSo 37 = .ok (.getfield 89, 3) := by decide +kernel
theorem dX11_isSo_40 : decode cX11_isSo 40 = .ok (.iload_n 3, 1) := by decide +kernel
theorem dX11_isSo_41 : decode cX11_isSo 41 = .ok (.iaload, 1) := by decide +kernel
theorem dX11_isSo_42 : decode cX11_isSo 42 = .ok (.if_icmp .ne 7, 3) := by decide +kernel
theorem dX11_isSo_45 : decode cX11_isSo 45 = .ok (.iconst 1, 1) := by decide +kernel
theorem dX11_isSo_46 : decode cX11_isSo 46 = .ok (.goto 4, 3) := by decide +kernel
theorem dX11_isSo_49 : decode cX11_isSo 49 = .ok (.iconst 0, 1) := by decide +kernel
theorem dX11_isSo_50 : decode cX11_isSo 50 = .ok (.aload_n 0, 1) := by decide +kernel
theorem dX11_isSo_51 : decode cX11_isSo 51 = .ok (.getfield 92, 3) := by decide +kernel
theorem dX11_isSo_54 : decode cX11_isSo 54 = .ok (.iload_n 3, 1) := by decide +kernel
theorem dX11_isSo_55 : decode cX11_isSo 55 = .ok (.baload, 1) := by decide +kernel
theorem dX11_isSo_56 : decode cX11_isSo 56 = .ok (.if_icmp .ne 7, 3) := by decide +kernel
theorem dX11_isSo_59 : decode cX11_isSo 59 = .ok (.iconst 1, 1) := by decide +kernel
theorem dX11_isSo_60 : decode cX11_isSo 60 = .ok (.goto 4, 3) := by decide +kernel
theorem dX11_isSo_63 : decode cX11_isSo 63 = .ok (.iconst 0, 1) := by decide +kernel
theorem dX11_isSo_64 : decode cX11_isSo 64 = .ok (.istore_n 2, 1) := by decide +kernel
theorem dX11_isSo_65 : decode cX11_isSo 65 = .ok (.iinc 3 1, 3) := by decide +kernel
theorem dX11_isSo_68 : decode cX11_isSo 68 = .ok (.goto (-60), 3) := by decide +kernel
theorem dX11_isSo_71 : decode cX11_isSo 71 = .ok (.iload_n 2, 1) := by decide +kernel
theorem dX11_isSo_72 : decode cX11_isSo 72 = .ok (.ireturn, 1) := by decide +kernel
theorem dX11_isMore_0 : decode cX11_isMore 0 = .ok (.aload_n 0, 1) := by decide +kernel
theorem dX11_isMore_1 : decode cX11_isMore 1 = .ok (.getfield 261, 3) := by decide +kernel
theorem dX11_isMore_4 : decode cX11_isMore 4 = .ok (.ifCond .le 16, 3) := by decide +kernel
theorem dX11_isMore_7 : decode cX11_isMore 7 = .ok (.iload_n 1, 1) := by decide +kernel
theorem dX11_isMore_8 : decode cX11_isMore 8 = .ok (.iconst 1, 1) := by decide +kernel
theorem dX11_isMore_9 : decode cX11_isMore 9 = .ok (.iconst 5, 1) := by decide +kernel
theorem dX11_isMore_10 : decode cX11_isMore 10 = .ok (.invokestatic 221, 3) := by decide +kernel
theorem dX11_isMore_13 : decode cX11_isMore 13 = .ok (.ifCond .eq 7, 3) := by decide +kernel
theorem dX11_isMore_16 : decode cX11_isMore 16 = .ok (.iconst 1, 1) := by decide +kernel
theorem dX11_isMore_17 : decode cX11_isMore 17 = .ok (.goto 4, 3) := by decide +kernel
theorem dX11_isMore_20 : decode cX11_isMore 20 = .ok (.iconst 0, 1) := by decide +kernel
theorem dX11_isMore_21 : decode cX11_isMore 21 = .ok (.ireturn, 1) := by decide +kernel
theorem dX11_who_0 : decode cX11_who 0 = .ok (.aload_n 0, 1) := by decide +kernel
theorem dX11_who_1 : decode cX11_who 1 = .ok (.iload_n 1, 1) := by decide +kernel
theorem dX11_who_2 : decode cX11_who 2 = .ok (.invokevirtual 394, 3) := by decide +kernel
theorem dX11_who_5 : decode cX11_who 5 = .ok (.ifCond .eq 8, 3) := by decide +kernel
theorem dX11_who_8 : decode cX11_who 8 = .ok (.iload_n 2, 1) := by decide +kernel
theorem dX11_who_9 : decode cX11_who 9 = .ok (.iconst (-1), 1) := by decide +kernel
theorem dX11_who_10 : decode cX11_who 10 = .ok (.if_icmp .ge 5, 3) := by decide +kernel
theorem dX11_who_13 : decode cX11_who 13 = .ok (.iconst (-1), 1) := by decide +kernel
theorem dX11_who_14 : decode cX11_who 14 = .ok (.ireturn, 1) := by decide +kernel
theorem dX11_who_15 : decode cX11_who 15 = .ok (.aload_n 0, 1) := by decide +kernel
theorem dX11_who_16 : decode cX11_who 16 = .ok (.iload_n 1, 1) := by decide +kernel
theorem dX11_who_17 : decode cX11_who 17 = .ok (.invokevirtual 397, 3) := by decide +kernel
theorem dX11_who_20 : decode cX11_who 20 = .ok (.iconst 0, 1) := by decide +kernel
theorem dX11_who_21 : decode cX11_who 21 = .ok (.istore_n 3, 1) := by decide +kernel
theorem dX11_who_22 : decode cX11_who 22 = .ok (.iconst 0, 1) := by decide +kernel
theorem dX11_who_23 : decode cX11_who 23 = .ok (.istore 4, 2) := by decide +kernel
theorem dX11_who_25 : decode cX11_who 25 = .ok (.iload 4, 2) := by decide +kernel
theorem dX11_who_27 : decode cX11_who 27 = .ok (.bipush 9, 2) := by decide +kernel
theorem dX11_who_29 : decode cX11_who 29 = .ok (.if_icmp .gt 29, 3) := by decide +kernel
theorem dX11_who_32 : decode cX11_who 32 = .ok (.aload_n 0, 1) := by decide +kernel
theorem dX11_who_33 : decode cX11_who 33 = .ok (.iload 4, 2) := by decide +kernel
theorem dX11_who_35 : decode cX11_who 35 = .ok (.invokevirtual 400, 3) := by decide +kernel
theorem dX11_who_38 : decode cX11_who 38 = .ok (.ifCond .eq 14, 3) := by decide +kernel
theorem dX11_who_41 : decode cX11_who 41 = .ok (.iload_n 3, 1) := by decide +kernel
theorem dX11_who_42 : decode cX11_who 42 = .ok (.iload_n 2, 1) := by decide +kernel
theorem dX11_who_43 : decode cX11_who 43 = .ok (.if_icmp .ne 6, 3) := by decide +kernel
theorem dX11_who_46 : decode cX11_who 46 = .ok (.iload 4, 2) := by decide +kernel
theorem dX11_who_48 : decode cX11_who 48 = .ok (.ireturn, 1) := by decide +kernel
theorem dX11_who_49 : decode cX11_who 49 = .ok (.iinc 3 1, 3) := by decide +kernel
theorem dX11_who_52 : decode cX11_who 52 = .ok (.iinc 4 1, 3) := by decide +kernel
theorem dX11_who_55 : decode cX11_who 55 = .ok (.goto (-30), 3) := by decide +kernel
theorem dX11_who_58 : decode cX11_who 58 = .ok (.iload_n 2, 1) := by decide +kernel
theorem dX11_who_59 : decode cX11_who 59 = .ok (.iconst (-1), 1) := by decide +kernel
theorem dX11_who_60 : decode cX11_who 60 = .ok (.if_icmp .ne 7, 3) := by decide +kernel
theorem dX11_who_63 : decode cX11_who 63 = .ok (.iload_n 3, 1) := by decide +kernel
theorem dX11_who_64 : decode cX11_who 64 = .ok (.goto 4, 3) := by decide +kernel
theorem dX11_who_67 : decode cX11_who 67 = .ok (.iconst (-1), 1) := by decide +kernel
theorem dX11_who_68 : decode cX11_who 68 = .ok (.ireturn, 1) := by decide +kernel
theorem dX11_mostTell_0 : decode cX11_mostTell 0 = .ok (.iconst 0, 1) := by decide +kernel
theorem dX11_mostTell_1 : decode cX11_mostTell 1 = .ok (.istore_n 2, 1) := by decide +kernel
theorem dX11_mostTell_2 : decode cX11_mostTell 2 = .ok (.iconst 0, 1) := by decide +kernel
theorem dX11_mostTell_3 : decode cX11_mostTell 3 = .ok (.istore_n 3, 1) := by decide +kernel
theorem dX11_mostTell_4 : decode cX11_mostTell 4 = .ok (.iload_n 3, 1) := by decide +kernel
theorem dX11_mostTell_5 : decode cX11_mostTell 5 = .ok (.aload_n 0, 1) := by decide +kernel
theorem dX11_mostTell_6 : decode cX11_mostTell 6 = .ok (.getfield 261, 3) := by decide +kernel
theorem dX11_mostTell_9 : decode cX11_mostTell 9 = .ok (.if_icmp .ge 70, 3) := by decide +kernel
theorem dX11_mostTell_12 : decode cX11_mostTell 12 = .ok (.iconst 0, 1) := by decide +kernel
theorem dX11_mostTell_13 : decode cX11_mostTell 13 = .ok (.istore 4, 2) := by decide +kernel
theorem dX11_mostTell_15 : decode cX11_mostTell 15 = .ok (.iconst 0, 1) := by decide +kernel
theorem dX11_mostTell_16 : decode cX11_mostTell 16 = .ok (.istore 5, 2) := by decide +kernel
theorem dX11_mostTell_18 : decode cX11_mostTell 18 = .ok (.iload 5, 2) := by decide +kernel
theorem dX11_mostTell_20 : decode cX11_mostTell 20 = .ok (.bipush 9, 2) := by decide +kernel
theorem dX11_mostTell_22 : decode cX11_mostTell 22 = .ok (.if_icmp .gt 44, 3) := by decide +kernel
theorem dX11_mostTell_25 : decode cX11_mostTell 25 = .ok (.iload 4, 2) := by decide +kernel
theorem dX11_mostTell_27 : decode cX11_mostTell 27 = .ok (.aload_n 0, 1) := by decide +kernel
theorem dX11_mostTell_28 : decode cX11_mostTell 28 = .ok (.iload 5, 2) := by decide +kernel
theorem dX11_mostTell_30 : decode cX11_mostTell 30 = .ok (.invokevirtual 400, 3) := by decide +kernel
theorem dX11_mostTell_33 : decode cX11_mostTell 33 = .ok (.ifCond .eq 23, 3) := by decide +kernel
theorem dX11_mostTell_36 : decode cX11_mostTell 36 = .ok (.aload_n 0, 1) := by decide +kernel
theorem dX11_mostTell_37 : decode cX11_mostTell 37 = .ok (.getfield 96, 3) := by decide +kernel
theorem dX11_mostTell_40 : decode cX11_mostTell 40 = .ok (.bipush 41, 2) := by decide +kernel
theorem dX11_mostTell_42 : decode cX11_mostTell 42 = .ok (.iload 5, 2) := by decide +kernel
theorem dX11_mostTell_44 : decode cX11_mostTell 44 = .ok (.imul, 1) := by decide +kernel
theorem dX11_mostTell_45 : decode cX11_mostTell 45 = .ok (.iload_n 1, 1) := by decide +kernel
theorem dX11_mostTell_46 : decode cX11_mostTell 46 = .ok (.iadd, 1) := by decide +kernel
theorem dX11_mostTell_47 : decode cX11_mostTell 47 = .ok (.iaload, 1) := by decide +kernel
theorem dX11_mostTell_48 : decode cX11_mostTell 48 = .ok (.iload_n 3, 1) := by decide +kernel
theorem dX11_mostTell_49 : decode cX11_mostTell 49 = .ok (.if_icmp .ne 7, 3) := by decide +kernel
theorem dX11_mostTell_52 : decode cX11_mostTell 52 = .ok (.iconst 1, 1) := by decide +kernel
theorem dX11_mostTell_53 : decode cX11_mostTell 53 = .ok (.goto 4, 3) := by decide +kernel
theorem dX11_mostTell_56 : decode cX11_mostTell 56 = .ok (.iconst 0, 1) := by decide +kernel
theorem dX11_mostTell_57 : decode cX11_mostTell 57 = .ok (.iadd, 1) := by decide +kernel
theorem dX11_mostTell_58 : decode cX11_mostTell 58 = .ok (.istore 4, 2) := by decide +kernel
theorem dX11_mostTell_60 : decode cX11_mostTell 60 = .ok (.iinc 5 1, 3) := by decide +kernel
theorem dX11_mostTell_63 : decode cX11_mostTell 63 = .ok (.goto (-45), 3) := by decide +kernel
theorem dX11_mostTell_66 : decode cX11_mostTell 66 = .ok (.iload_n 2, 1) := by decide +kernel
theorem dX11_mostTell_67 : decode cX11_mostTell 67 = .ok (.iload 4, 2) := by decide +kernel
theorem dX11_mostTell_69 : decode cX11_mostTell 69 = .ok (.invokestatic 294, 3) := by decide +kernel
theorem dX11_mostTell_72 : decode cX11_mostTell 72 = .ok (.istore_n 2, 1) := by decide +kernel
theorem dX11_mostTell_73 : decode cX11_mostTell 73 = .ok (.iinc 3 1, 3) := by decide +kernel
theorem dX11_mostTell_76 : decode cX11_mostTell 76 = .ok (.goto (-72), 3) := by decide +kernel
theorem dX11_mostTell_79 : decode cX11_mostTell 79 = .ok (.iload_n 2, 1) := by decide +kernel
theorem dX11_mostTell_80 : decode cX11_mostTell 80 = .ok (.ireturn, 1) := by decide +kernel
theorem dX11_best_0 : decode cX11_best 0 = .ok (.aload_n 0, 1) := by decide +kernel
theorem dX11_best_1 : decode cX11_best 1 = .ok (.iload_n 1, 1) := by decide +kernel
theorem dX11_best_2 : decode cX11_best 2 = .ok (.invokevirtual 394, 3) := by decide +kernel
theorem dX11_best_5 : decode cX11_best 5 = .ok (.ifCond .eq 13, 3) := by decide +kernel
theorem dX11_best_8 : decode cX11_best 8 = .ok (.aload_n 0, 1) := by decide +kernel
theorem dX11_best_9 : decode cX11_best 9 = .ok (.iload_n 1, 1) := by decide +kernel
theorem dX11_best_10 : decode cX11_best 10 = .ok (.iconst 0, 1) := by decide +kernel
theorem dX11_best_11 : decode cX11_best 11 = .ok (.invokevirtual 403, 3) := by decide +kernel
theorem dX11_best_14 : decode cX11_best 14 = .ok (.iconst (-1), 1) := by decide +kernel
theorem dX11_best_15 : decode cX11_best 15 = .ok (.if_icmp .ne 5, 3) := by decide +kernel
theorem dX11_best_18 : decode cX11_best 18 = .ok (.iconst (-1), 1) := by decide +kernel
theorem dX11_best_19 : decode cX11_best 19 = .ok (.ireturn, 1) := by decide +kernel
theorem dX11_best_20 : decode cX11_best 20 = .ok (.iconst 1, 1) := by decide +kernel
theorem dX11_best_21 : decode cX11_best 21 = .ok (.istore_n 2, 1) := by decide +kernel
theorem dX11_best_22 : decode cX11_best 22 = .ok (.aload_n 0, 1) := by decide +kernel
theorem dX11_best_23 : decode cX11_best 23 = .ok (.iconst 1, 1) := by decide +kernel
theorem dX11_best_24 : decode cX11_best 24 = .ok (.invokevirtual 406, 3) := by decide +kernel
theorem dX11_best_27 : decode cX11_best 27 = .ok (.istore_n 3, 1) := by decide +kernel
theorem dX11_best_28 : decode cX11_best 28 = .ok (.iconst 2, 1) := by decide +kernel
theorem dX11_best_29 : decode cX11_best 29 = .ok (.istore 4, 2) := by decide +kernel
theorem dX11_best_31 : decode cX11_best 31 = .ok (.iload 4, 2) := by decide +kernel
theorem dX11_best_33 : decode cX11_best 33 = .ok (.bipush 40, 2) := by decide +kernel
theorem dX11_best_35 : decode cX11_best 35 = .ok (.if_icmp .gt 29, 3) := by decide +kernel
theorem dX11_best_38 : decode cX11_best 38 = .ok (.aload_n 0, 1) := by decide +kernel
theorem dX11_best_39 : decode cX11_best 39 = .ok (.iload 4, 2) := by decide +kernel
theorem dX11_best_41 : decode cX11_best 41 = .ok (.invokevirtual 406, 3) := by decide +kernel
theorem dX11_best_44 : decode cX11_best 44 = .ok (.istore 5, 2) := by decide +kernel
theorem dX11_best_46 : decode cX11_best 46 = .ok (.iload 5, 2) := by decide +kernel
theorem dX11_best_48 : decode cX11_best 48 = .ok (.iload_n 3, 1) := by decide +kernel
theorem dX11_best_49 : decode cX11_best 49 = .ok (.if_icmp .ge 9, 3) := by decide +kernel
theorem dX11_best_52 : decode cX11_best 52 = .ok (.iload 4, 2) := by decide +kernel
theorem dX11_best_54 : decode cX11_best 54 = .ok (.istore_n 2, 1) := by decide +kernel
theorem dX11_best_55 : decode cX11_best 55 = .ok (.iload 5, 2) := by decide +kernel
theorem dX11_best_57 : decode cX11_best 57 = .ok (.istore_n 3, 1) := by decide +kernel
theorem dX11_best_58 : decode cX11_best 58 = .ok (.iinc 4 1, 3) := by decide +kernel
theorem dX11_best_61 : decode cX11_best 61 = .ok (.goto (-30), 3) := by decide +kernel
theorem dX11_best_64 : decode cX11_best 64 = .ok (.iload_n 2, 1) := by decide +kernel
theorem dX11_best_65 : decode cX11_best 65 = .ok (.ireturn, 1) := by decide +kernel
theorem dX11_oddsOf_0 : decode cX11_oddsOf 0 = .ok (.iconst 0, 1) := by decide +kernel
theorem dX11_oddsOf_1 : decode cX11_oddsOf 1 = .ok (.istore_n 3, 1) := by decide +kernel
theorem dX11_oddsOf_2 : decode cX11_oddsOf 2 = .ok (.iload_n 3, 1) := by decide +kernel
theorem dX11_oddsOf_3 : decode cX11_oddsOf 3 = .ok (.bipush 30, 2) := by decide +kernel
theorem dX11_oddsOf_5 : decode cX11_oddsOf 5 = .ok (.if_icmp .gt 33, 3) := by decide +kernel
theorem dX11_oddsOf_8 : decode cX11_oddsOf 8 = .ok (.aload_n 0, 1) := by decide +kernel
theorem dX11_oddsOf_9 : decode cX11_oddsOf 9 = .ok (.getfield 99, 3) := by decide +kernel
theorem dX11_oddsOf_12 : decode cX11_oddsOf 12 = .ok (.iload_n 3, 1) := by decide +kernel
theorem dX11_oddsOf_13 : decode cX11_oddsOf 13 = .ok (.iload_n 3, 1) := by decide +kernel
theorem dX11_oddsOf_14 : decode cX11_oddsOf 14 = .ok (.aload_n 0, 1) := by decide +kernel
theorem dX11_oddsOf_15 : decode cX11_oddsOf 15 = .ok (.getfield 58, 3) := by decide +kernel
theorem dX11_oddsOf_18 : decode cX11_oddsOf 18 = .ok (.bipush 35, 2) := by decide +kernel
theorem dX11_oddsOf_20 : decode cX11_oddsOf 20 = .ok (.iaload, 1) := by decide +kernel
theorem dX11_oddsOf_21 : decode cX11_oddsOf 21 = .ok (.if_icmp .ne 9, 3) := by decide +kernel
theorem dX11_oddsOf_24 : decode cX11_oddsOf 24 = .ok (.ldc2_w 409, 3) := by decide +kernel
theorem dX11_oddsOf_27 : decode cX11_oddsOf 27 = .ok (.goto 4, 3) := by decide +kernel
theorem dX11_oddsOf_30 : decode cX11_oddsOf 30 = .ok (.lconst 0, 1) := by decide +kernel
theorem dX11_oddsOf_31 : decode cX11_oddsOf 31 = .ok (.lastore, 1) := by decide +kernel
theorem dX11_oddsOf_32 : decode cX11_oddsOf 32 = .ok (.iinc 3 1, 3) := by decide +kernel
theorem dX11_oddsOf_35 : decode cX11_oddsOf 35 = .ok (.goto (-33), 3) := by decide +kernel
theorem dX11_oddsOf_38 : decode cX11_oddsOf 38 = .ok (.iconst 0, 1) := by decide +kernel
theorem dX11_oddsOf_39 : decode cX11_oddsOf 39 = .ok (.istore_n 3, 1) := by decide +kernel
theorem dX11_oddsOf_40 : decode cX11_oddsOf 40 = .ok (.iload_n 3, 1) := by decide +kernel
theorem dX11_oddsOf_41 : decode cX11_oddsOf 41 = .ok (.iload_n 1, 1) := by decide +kernel
theorem dX11_oddsOf_42 : decode cX11_oddsOf 42 = .ok (.if_icmp .ge 67, 3) := by decide +kernel
theorem dX11_oddsOf_45 : decode cX11_oddsOf 45 = .ok (.iconst 1, 1) := by decide +kernel
theorem dX11_oddsOf_46 : decode cX11_oddsOf 46 = .ok (.istore 4, 2) := by decide +kernel
theorem dX11_oddsOf_48 : decode cX11_oddsOf 48 = .ok (.iload 4, 2) := by decide +kernel
theorem dX11_oddsOf_50 : decode cX11_oddsOf 50 = .ok (.bipush 30, 2) := by decide +kernel
theorem dX11_oddsOf_52 : decode cX11_oddsOf 52 = .ok (.if_icmp .gt 51, 3) := by decide +kernel
theorem dX11_oddsOf_55 : decode cX11_oddsOf 55 = .ok (.aload_n 0, 1) := by decide +kernel
theorem dX11_oddsOf_56 : decode cX11_oddsOf 56 = .ok (.getfield 99, 3) := by decide +kernel
theorem dX11_oddsOf_59 : decode cX11_oddsOf 59 = .ok (.iload 4, 2) := by decide +kernel
theorem dX11_oddsOf_61 : decode cX11_oddsOf 61 = .ok (.laload, 1) := by decide +kernel
theorem dX11_oddsOf_62 : decode cX11_oddsOf 62 = .ok (.iload_n 2, 1) := by decide +kernel
theorem dX11_oddsOf_63 : decode cX11_oddsOf 63 = .ok (.i2l, 1) := by decide +kernel
theorem dX11_oddsOf_64 : decode cX11_oddsOf 64 = .ok (.lmul, 1) := by decide +kernel
theorem dX11_oddsOf_65 : decode cX11_oddsOf 65 = .ok (.ldc2_w 411, 3) := by decide +kernel
theorem dX11_oddsOf_68 : decode cX11_oddsOf 68 = .ok (.ldiv, 1) := by decide +kernel
theorem dX11_oddsOf_69 : decode cX11_oddsOf 69 = .ok (.lstore 5, 2) := by decide +kernel
theorem dX11_oddsOf_71 : decode cX11_oddsOf 71 = .ok (.aload_n 0, 1) := by decide +kernel
theorem dX11_oddsOf_72 : decode cX11_oddsOf 72 = .ok (.getfield 99, 3) := by decide +kernel
theorem dX11_oddsOf_75 : decode cX11_oddsOf 75 = .ok (.iload 4, 2) := by decide +kernel
theorem dX11_oddsOf_77 : decode cX11_oddsOf 77 = .ok (.iconst 1, 1) := by decide +kernel
theorem dX11_oddsOf_78 : decode cX11_oddsOf 78 = .ok (.isub, 1) := by decide +kernel
theorem dX11_oddsOf_79 : decode cX11_oddsOf 79 = .ok (.dup2, 1) := by decide +kernel
theorem dX11_oddsOf_80 : decode cX11_oddsOf 80 = .ok (.laload, 1) := by decide +kernel
theorem dX11_oddsOf_81 : decode cX11_oddsOf 81 = .ok (.lload 5, 2) := by decide +kernel
theorem dX11_oddsOf_83 : decode cX11_oddsOf 83 = .ok (.ladd, 1) := by decide +kernel
theorem dX11_oddsOf_84 : decode cX11_oddsOf 84 = .ok (.lastore, 1) := by decide +kernel
theorem dX11_oddsOf_85 : decode cX11_oddsOf 85 = .ok (.aload_n 0, 1) := by decide +kernel
theorem dX11_oddsOf_86 : decode cX11_oddsOf 86 = .ok (.getfield 99, 3) := by decide +kernel
theorem dX11_oddsOf_89 : decode cX11_oddsOf 89 = .ok (.iload 4, 2) := by decide +kernel
theorem dX11_oddsOf_91 : decode cX11_oddsOf 91 = .ok (.dup2, 1) := by decide +kernel
theorem dX11_oddsOf_92 : decode cX11_oddsOf 92 = .ok (.laload, 1) := by decide +kernel
theorem dX11_oddsOf_93 : decode cX11_oddsOf 93 = .ok (.lload 5, 2) := by decide +kernel
theorem dX11_oddsOf_95 : decode cX11_oddsOf 95 = .ok (.lsub, 1) := by decide +kernel
theorem dX11_oddsOf_96 : decode cX11_oddsOf 96 = .ok (.lastore, 1) := by decide +kernel
theorem dX11_oddsOf_97 : decode cX11_oddsOf 97 = .ok (.iinc 4 1, 3) := by decide +kernel
theorem dX11_oddsOf_100 : decode cX11_oddsOf 100 = .ok (.goto (-52), 3) := by decide +kernel
theorem dX11_oddsOf_103 : decode cX11_oddsOf 103 = .ok (.iinc 3 1, 3) := by decide +kernel
theorem dX11_oddsOf_106 : decode cX11_oddsOf 106 = .ok (.goto (-66), 3) := by decide +kernel
theorem dX11_oddsOf_109 : decode cX11_oddsOf 109 = .ok (.lconst 0, 1) := by decide +kernel
theorem dX11_oddsOf_110 : decode cX11_oddsOf 110 = .ok (.lstore_n 3, 1) := by decide +kernel
theorem dX11_oddsOf_111 : decode cX11_oddsOf 111 = .ok (.iconst 1, 1) := by decide +kernel
theorem dX11_oddsOf_112 : decode cX11_oddsOf 112 = .ok (.istore 5, 2) := by decide +kernel
theorem dX11_oddsOf_114 : decode cX11_oddsOf 114 = .ok (.iload 5, 2) := by decide +kernel
theorem dX11_oddsOf_116 : decode cX11_oddsOf 116 = .ok (.bipush 30, 2) := by decide +kernel
theorem dX11_oddsOf_118 : decode cX11_oddsOf 118 = .ok (.if_icmp .gt 19, 3) := by decide +kernel
theorem dX11_oddsOf_121 : decode cX11_oddsOf 121 = .ok (.lload_n 3, 1) := by decide +kernel
theorem dX11_oddsOf_122 : decode cX11_oddsOf 122 = .ok (.aload_n 0, 1) := by decide +kernel
theorem dX11_oddsOf_123 : decode cX11_oddsOf 123 = .ok (.getfield 99, 3) := by decide +kernel
theorem dX11_oddsOf_126 : decode cX11_oddsOf 126 = .ok (.iload 5, 2) := by decide +kernel
theorem dX11_oddsOf_128 : decode cX11_oddsOf 128 = .ok (.laload, 1) := by decide +kernel
theorem dX11_oddsOf_129 : decode cX11_oddsOf 129 = .ok (.ladd, 1) := by decide +kernel
theorem dX11_oddsOf_130 : decode cX11_oddsOf 130 = .ok (.lstore_n 3, 1) := by decide +kernel
theorem dX11_oddsOf_131 : decode cX11_oddsOf 131 = .ok (.iinc 5 1, 3) := by decide +kernel
theorem dX11_oddsOf_134 : decode cX11_oddsOf 134 = .ok (.goto (-20), 3) := by decide +kernel
theorem dX11_oddsOf_137 : decode cX11_oddsOf 137 = .ok (.lload_n 3, 1) := by decide +kernel
theorem dX11_oddsOf_138 : decode cX11_oddsOf 138 = .ok (.l2i, 1) := by decide +kernel
theorem dX11_oddsOf_139 : decode cX11_oddsOf 139 = .ok (.ireturn, 1) := by decide +kernel
theorem dX11_isOdds_0 : decode cX11_isOdds 0 = .ok (.aload_n 0, 1) := by decide +kernel
theorem dX11_isOdds_1 : decode cX11_isOdds 1 = .ok (.getfield 261, 3) := by decide +kernel
theorem dX11_isOdds_4 : decode cX11_isOdds 4 = .ok (.ifCond .le 27, 3) := by decide +kernel
theorem dX11_isOdds_7 : decode cX11_isOdds 7 = .ok (.iload_n 1, 1) := by decide +kernel
theorem dX11_isOdds_8 : decode cX11_isOdds 8 = .ok (.iconst 0, 1) := by decide +kernel
theorem dX11_isOdds_9 : decode cX11_isOdds 9 = .ok (.bipush 30, 2) := by decide +kernel
theorem dX11_isOdds_11 : decode cX11_isOdds 11 = .ok (.invokestatic 221, 3) := by decide +kernel
theorem dX11_isOdds_14 : decode cX11_isOdds 14 = .ok (.ifCond .eq 17, 3) := by decide +kernel
theorem dX11_isOdds_17 : decode cX11_isOdds 17 = .ok (.iload_n 2, 1) := by decide +kernel
theorem dX11_isOdds_18 : decode cX11_isOdds 18 = .ok (.iconst 0, 1) := by decide +kernel
theorem dX11_isOdds_19 : decode cX11_isOdds 19 = .ok (.bipush 100, 2) := by decide +kernel
theorem dX11_isOdds_21 : decode cX11_isOdds 21 = .ok (.invokestatic 221, 3) := by decide +kernel
theorem dX11_isOdds_24 : decode cX11_isOdds 24 = .ok (.ifCond .eq 7, 3) := by decide +kernel
theorem dX11_isOdds_27 : decode cX11_isOdds 27 = .ok (.iconst 1, 1) := by decide +kernel
theorem dX11_isOdds_28 : decode cX11_isOdds 28 = .ok (.goto 4, 3) := by decide +kernel
theorem dX11_isOdds_31 : decode cX11_isOdds 31 = .ok (.iconst 0, 1) := by decide +kernel
theorem dX11_isOdds_32 : decode cX11_isOdds 32 = .ok (.ireturn, 1) := by decide +kernel
theorem dX11_odds_0 : decode cX11_odds 0 = .ok (.aload_n 0, 1) := by decide +kernel
theorem dX11_odds_1 : decode cX11_odds 1 = .ok (.iload_n 1, 1) := by decide +kernel
theorem dX11_odds_2 : decode cX11_odds 2 = .ok (.iload_n 2, 1) := by decide +kernel
theorem dX11_odds_3 : decode cX11_odds 3 = .ok (.invokevirtual 413, 3) := by decide +kernel
theorem dX11_odds_6 : decode cX11_odds 6 = .ok (.ifCond .eq 12, 3) := by decide +kernel
theorem dX11_odds_9 : decode cX11_odds 9 = .ok (.aload_n 0, 1) := by decide +kernel
theorem dX11_odds_10 : decode cX11_odds 10 = .ok (.iload_n 1, 1) := by decide +kernel
theorem dX11_odds_11 : decode cX11_odds 11 = .ok (.iload_n 2, 1) := by decide +kernel
theorem dX11_odds_12 : decode cX11_odds 12 = .ok (.invokevirtual 416, 3) := by decide +kernel
theorem dX11_odds_15 : decode cX11_odds 15 = .ok (.goto 4, 3) := by decide +kernel
theorem dX11_odds_18 : decode cX11_odds 18 = .ok (.iconst (-1), 1) := by decide +kernel
theorem dX11_odds_19 : decode cX11_odds 19 = .ok (.ireturn, 1) := by decide +kernel
theorem dX11_price_0 : decode cX11_price 0 = .ok (.aload_n 0, 1) := by decide +kernel
theorem dX11_price_1 : decode cX11_price 1 = .ok (.iload_n 1, 1) := by decide +kernel
theorem dX11_price_2 : decode cX11_price 2 = .ok (.iload_n 2, 1) := by decide +kernel
theorem dX11_price_3 : decode cX11_price 3 = .ok (.invokevirtual 413, 3) := by decide +kernel
theorem dX11_price_6 : decode cX11_price 6 = .ok (.ifCond .eq 42, 3) := by decide +kernel
theorem dX11_price_9 : decode cX11_price 9 = .ok (.iload_n 3, 1) := by decide +kernel
theorem dX11_price_10 : decode cX11_price 10 = .ok (.iconst 1, 1) := by decide +kernel
theorem dX11_price_11 : decode cX11_price 11 = .ok (.sipush 999, 3) := by decide +kernel
theorem dX11_price_14 : decode cX11_price 14 = .ok (.invokestatic 221, 3) := by decide +kernel
theorem dX11_price_17 : decode cX11_price 17 = .ok (.ifCond .eq 31, 3) := by decide +kernel
theorem dX11_price_20 : decode cX11_price 20 = .ok (.ldc_w 419, 3) := by decide +kernel
theorem dX11_price_23 : decode cX11_price 23 = .ok (.aload_n 0, 1) := by decide +kernel
theorem dX11_price_24 : decode cX11_price 24 = .ok (.iload_n 1, 1) := by decide +kernel
theorem dX11_price_25 : decode cX11_price 25 = .ok (.iload_n 2, 1) := by decide +kernel
theorem dX11_price_26 : decode cX11_price 26 = .ok (.invokevirtual 416, 3) := by decide +kernel
theorem dX11_price_29 : decode cX11_price 29 = .ok (.isub, 1) := by decide +kernel
theorem dX11_price_30 : decode cX11_price 30 = .ok (.i2l, 1) := by decide +kernel
theorem dX11_price_31 : decode cX11_price 31 = .ok (.iload_n 3, 1) := by decide +kernel
theorem dX11_price_32 : decode cX11_price 32 = .ok (.i2l, 1) := by decide +kernel
theorem dX11_price_33 : decode cX11_price 33 = .ok (.lmul, 1) := by decide +kernel
theorem dX11_price_34 : decode cX11_price 34 = .ok (.ldc2_w 409, 3) := by decide +kernel
theorem dX11_price_37 : decode cX11_price 37 = .ok (.ladd, 1) := by decide +kernel
theorem dX11_price_38 : decode cX11_price 38 = .ok (.lconst 1, 1) := by decide +kernel
theorem dX11_price_39 : decode cX11_price 39 = .ok (.lsub, 1) := by decide +kernel
theorem dX11_price_40 : decode cX11_price 40 = .ok (.ldc2_w 409, 3) := by decide +kernel
theorem dX11_price_43 : decode cX11_price 43 = .ok (.ldiv, 1) := by decide +kernel
theorem dX11_price_44 : decode cX11_price 44 = .ok (.l2i, 1) := by decide +kernel
theorem dX11_price_45 : decode cX11_price 45 = .ok (.goto 4, 3) := by decide +kernel
theorem dX11_price_48 : decode cX11_price 48 = .ok (.iconst (-1), 1) := by decide +kernel
theorem dX11_price_49 : decode cX11_price 49 = .ok (.ireturn, 1) := by decide +kernel
theorem dX11_lacks_0 : decode cX11_lacks 0 = .ok (.iconst 0, 1) := by decide +kernel
theorem dX11_lacks_1 : decode cX11_lacks 1 = .ok (.aload_n 0, 1) := by decide +kernel
theorem dX11_lacks_2 : decode cX11_lacks 2 = .ok (.iload_n 1, 1) := by decide +kernel
theorem dX11_lacks_3 : decode cX11_lacks 3 = .ok (.iconst 0, 1) := by decide +kernel
theorem dX11_lacks_4 : decode cX11_lacks 4 = .ok (.invokevirtual 296, 3) := by decide +kernel
theorem dX11_lacks_7 : decode cX11_lacks 7 = .ok (.aload_n 0, 1) := by decide +kernel
theorem dX11_lacks_8 : decode cX11_lacks 8 = .ok (.getfield 58, 3) := by decide +kernel
theorem dX11_lacks_11 : decode cX11_lacks 11 = .ok (.bipush 24, 2) := by decide +kernel
theorem dX11_lacks_13 : decode cX11_lacks 13 = .ok (.iload_n 1, 1) := by decide +kernel
theorem dX11_lacks_14 : decode cX11_lacks 14 = .ok (.iadd, 1) := by decide +kernel
theorem dX11_lacks_15 : decode cX11_lacks 15 = .ok (.iaload, 1) := by decide +kernel
theorem dX11_lacks_16 : decode cX11_lacks 16 = .ok (.isub, 1) := by decide +kernel
theorem dX11_lacks_17 : decode cX11_lacks 17 = .ok (.invokestatic 294, 3) := by decide +kernel
theorem dX11_lacks_20 : decode cX11_lacks 20 = .ok (.iconst 0, 1) := by decide +kernel
theorem dX11_lacks_21 : decode cX11_lacks 21 = .ok (.aload_n 0, 1) := by decide +kernel
theorem dX11_lacks_22 : decode cX11_lacks 22 = .ok (.iload_n 1, 1) := by decide +kernel
theorem dX11_lacks_23 : decode cX11_lacks 23 = .ok (.iconst 1, 1) := by decide +kernel
theorem dX11_lacks_24 : decode cX11_lacks 24 = .ok (.invokevirtual 296, 3) := by decide +kernel
theorem dX11_lacks_27 : decode cX11_lacks 27 = .ok (.aload_n 0, 1) := by decide +kernel
theorem dX11_lacks_28 : decode cX11_lacks 28 = .ok (.getfield 58, 3) := by decide +kernel
theorem dX11_lacks_31 : decode cX11_lacks 31 = .ok (.bipush 29, 2) := by decide +kernel
theorem dX11_lacks_33 : decode cX11_lacks 33 = .ok (.iload_n 1, 1) := by decide +kernel
theorem dX11_lacks_34 : decode cX11_lacks 34 = .ok (.iadd, 1) := by decide +kernel
theorem dX11_lacks_35 : decode cX11_lacks 35 = .ok (.iaload, 1) := by decide +kernel
theorem dX11_lacks_36 : decode cX11_lacks 36 = .ok (.isub, 1) := by decide +kernel
theorem dX11_lacks_37 : decode cX11_lacks 37 = .ok (.invokestatic 294, 3) := by decide +kernel
theorem dX11_lacks_40 : decode cX11_lacks 40 = .ok (.iadd, 1) := by decide +kernel
theorem dX11_lacks_41 : decode cX11_lacks 41 = .ok (.ireturn, 1) := by decide +kernel
theorem dX11_most_0 : decode cX11_most 0 = .ok (.aload_n 0, 1) := by decide +kernel
theorem dX11_most_1 : decode cX11_most 1 = .ok (.getfield 261, 3) := by decide +kernel
theorem dX11_most_4 : decode cX11_most 4 = .ok (.ifCond .eq 12, 3) := by decide +kernel
theorem dX11_most_7 : decode cX11_most 7 = .ok (.iload_n 1, 1) := by decide +kernel
theorem dX11_most_8 : decode cX11_most 8 = .ok (.iconst 0, 1) := by decide +kernel
theorem dX11_most_9 : decode cX11_most 9 = .ok (.iconst 2, 1) := by decide +kernel
theorem dX11_most_10 : decode cX11_most 10 = .ok (.invokestatic 221, 3) := by decide +kernel
theorem dX11_most_13 : decode cX11_most 13 = .ok (.ifCond .ne 5, 3) := by decide +kernel
theorem dX11_most_16 : decode cX11_most 16 = .ok (.iconst (-1), 1) := by decide +kernel
theorem dX11_most_17 : decode cX11_most 17 = .ok (.ireturn, 1) := by decide +kernel
theorem dX11_most_18 : decode cX11_most 18 = .ok (.iconst (-1), 1) := by decide +kernel
theorem dX11_most_19 : decode cX11_most 19 = .ok (.istore_n 2, 1) := by decide +kernel
theorem dX11_most_20 : decode cX11_most 20 = .ok (.iconst 0, 1) := by decide +kernel
theorem dX11_most_21 : decode cX11_most 21 = .ok (.istore_n 3, 1) := by decide +kernel
theorem dX11_most_22 : decode cX11_most 22 = .ok (.iload_n 3, 1) := by decide +kernel
theorem dX11_most_23 : decode cX11_most 23 = .ok (.aload_n 0, 1) := by decide +kernel
theorem dX11_most_24 : decode cX11_most 24 = .ok (.getfield 267, 3) := by decide +kernel
theorem dX11_most_27 : decode cX11_most 27 = .ok (.if_icmp .ge 46, 3) := by decide +kernel
theorem dX11_most_30 : decode cX11_most 30 = .ok (.iload_n 1, 1) := by decide +kernel
theorem dX11_most_31 : decode cX11_most 31 = .ok (.iconst 2, 1) := by decide +kernel
theorem dX11_most_32 : decode cX11_most 32 = .ok (.if_icmp .ne 41, 3) := by decide +kernel
theorem dX11_most_35 : decode cX11_most 35 = .ok (.aload_n 0, 1) := by decide +kernel
theorem dX11_most_36 : decode cX11_most 36 = .ok (.iload_n 3, 1) := by decide +kernel
theorem dX11_most_37 : decode cX11_most 37 = .ok (.invokevirtual 308, 3) := by decide +kernel
theorem dX11_most_40 : decode cX11_most 40 = .ok (.ifCond .ne 25, 3) := by decide +kernel
theorem dX11_most_43 : decode cX11_most 43 = .ok (.iload_n 2, 1) := by decide +kernel
theorem dX11_most_44 : decode cX11_most 44 = .ok (.iconst (-1), 1) := by decide +kernel
theorem dX11_most_45 : decode cX11_most 45 = .ok (.if_icmp .eq 16, 3) := by decide +kernel
theorem dX11_most_48 : decode cX11_most 48 = .ok (.aload_n 0, 1) := by decide +kernel
theorem dX11_most_49 : decode cX11_most 49 = .ok (.iload_n 3, 1) := by decide +kernel
theorem dX11_most_50 : decode cX11_most 50 = .ok (.invokevirtual 420, 3) := by decide +kernel
theorem dX11_most_53 : decode cX11_most 53 = .ok (.aload_n 0, 1) := by decide +kernel
theorem dX11_most_54 : decode cX11_most 54 = .ok (.iload_n 2, 1) := by decide +kernel
theorem dX11_most_55 : decode cX11_most 55 = .ok (.invokevirtual 420, 3) := by decide +kernel
theorem dX11_most_58 : decode cX11_most 58 = .ok (.if_icmp .le 7, 3) := by decide +kernel
theorem dX11_most_61 : decode cX11_most 61 = .ok (.iload_n 3, 1) := by decide +kernel
theorem dX11_most_62 : decode cX11_most 62 = .ok (.goto 4, 3) := by decide +kernel
theorem dX11_most_65 : decode cX11_most 65 = .ok (.iload_n 2, 1) := by decide +kernel
theorem dX11_most_66 : decode cX11_most 66 = .ok (.istore_n 2, 1) := by decide +kernel
theorem dX11_most_67 : decode cX11_most 67 = .ok (.iinc 3 1, 3) := by decide +kernel
theorem dX11_most_70 : decode cX11_most 70 = .ok (.goto (-48), 3) := by decide +kernel
theorem dX11_most_73 : decode cX11_most 73 = .ok (.iconst 0, 1) := by decide +kernel
theorem dX11_most_74 : decode cX11_most 74 = .ok (.istore_n 3, 1) := by decide +kernel
theorem dX11_most_75 : decode cX11_most 75 = .ok (.iload_n 3, 1) := by decide +kernel
theorem dX11_most_76 : decode cX11_most 76 = .ok (.aload_n 0, 1) := by decide +kernel
theorem dX11_most_77 : decode cX11_most 77 = .ok (.getfield 261, 3) := by decide +kernel
theorem dX11_most_80 : decode cX11_most 80 = .ok (.if_icmp .ge 117, 3) := by decide +kernel
theorem dX11_most_83 : decode cX11_most 83 = .ok (.iload_n 1, 1) := by decide +kernel
theorem dX11_most_84 : decode cX11_most 84 = .ok (.iconst 2, 1) := by decide +kernel
theorem dX11_most_85 : decode cX11_most 85 = .ok (.if_icmp .ge 112, 3) := by decide +kernel
theorem dX11_most_88 : decode cX11_most 88 = .ok (.iload_n 1, 1) := by decide +kernel
theorem dX11_most_89 : decode cX11_most 89 = .ok (.ifCond .ne 25, 3) := by decide +kernel
theorem dX11_most_92 : decode cX11_most 92 = .ok (.aload_n 0, 1) := by decide +kernel
theorem dX11_most_93 : decode cX11_most 93 = .ok (.getfield 58, 3) := by decide +kernel
theorem dX11_most_96 : decode cX11_most 96 = .ok (.bipush 8, 2) := by decide +kernel
theorem dX11_most_98 : decode cX11_most 98 = .ok (.iload_n 3, 1) := by decide +kernel
theorem dX11_most_99 : decode cX11_most 99 = .ok (.iadd, 1) := by decide +kernel
theorem dX11_most_100 : decode cX11_most 100 = .ok (.iaload, 1) := by decide +kernel
theorem dX11_most_101 : decode cX11_most 101 = .ok (.aload_n 0, 1) := by decide +kernel
theorem dX11_most_102 : decode cX11_most 102 = .ok (.getfield 58, 3) := by decide +kernel
theorem dX11_most_105 : decode cX11_most 105 = .ok (.bipush 16, 2) := by decide +kernel
theorem dX11_most_107 : decode cX11_most 107 = .ok (.iload_n 3, 1) := by decide +kernel
theorem dX11_most_108 : decode cX11_most 108 = .ok (.iadd, 1) := by decide +kernel
theorem dX11_most_109 : decode cX11_most 109 = .ok (.iaload, 1) := by decide +kernel
theorem dX11_most_110 : decode cX11_most 110 = .ok (.iadd, 1) := by decide +kernel
theorem dX11_most_111 : decode cX11_most 111 = .ok (.goto 13, 3) := by decide +kernel
theorem dX11_most_114 : decode cX11_most 114 = .ok (.aload_n 0, 1) := by decide +kernel
theorem dX11_most_115 : decode cX11_most 115 = .ok (.getfield 58, 3) := by decide +kernel
theorem dX11_most_118 : decode cX11_most 118 = .ok (.bipush 16, 2) := by decide +kernel
theorem dX11_most_120 : decode cX11_most 120 = .ok (.iload_n 3, 1) := by decide +kernel
theorem dX11_most_121 : decode cX11_most 121 = .ok (.iadd, 1) := by decide +kernel
theorem dX11_most_122 : decode cX11_most 122 = .ok (.iaload, 1) := by decide +kernel
theorem dX11_most_123 : decode cX11_most 123 = .ok (.ineg, 1) := by decide +kernel
theorem dX11_most_124 : decode cX11_most 124 = .ok (.istore 4, 2) := by decide +kernel
theorem dX11_most_126 : decode cX11_most 126 = .ok (.iload_n 2, 1) := by decide +kernel
theorem dX11_most_127 : decode cX11_most 127 = .ok (.iconst (-1), 1) := by decide +kernel
theorem dX11_most_128 : decode cX11_most 128 = .ok (.if_icmp .ne 7, 3) := by decide +kernel
theorem dX11_most_131 : decode cX11_most 131 = .ok (.iconst 0, 1) := by decide +kernel
theorem dX11_most_132 : decode cX11_most 132 = .ok (.goto 39, 3) := by decide +kernel
theorem dX11_most_135 : decode cX11_most 135 = .ok (.iload_n 1, 1) := by decide +kernel
theorem dX11_most_136 : decode cX11_most 136 = .ok (.ifCond .ne 25, 3) := by decide +kernel
theorem dX11_most_139 : decode cX11_most 139 = .ok (.aload_n 0, 1) := by decide +kernel
theorem dX11_most_140 : decode cX11_most 140 = .ok (.getfield 58, 3) := by decide +kernel
theorem dX11_most_143 : decode cX11_most 143 = .ok (.bipush 8, 2) := by decide +kernel
theorem dX11_most_145 : decode cX11_most 145 = .ok (.iload_n 2, 1) := by decide +kernel
theorem dX11_most_146 : decode cX11_most 146 = .ok (.iadd, 1) := by decide +kernel
theorem dX11_most_147 : decode cX11_most 147 = .ok (.iaload, 1) := by decide +kernel
theorem dX11_most_148 : decode cX11_most 148 = .ok (.aload_n 0, 1) := by decide +kernel
theorem dX11_most_149 : decode cX11_most 149 = .ok (.getfield 58, 3) := by decide +kernel
theorem dX11_most_152 : decode cX11_most 152 = .ok (.bipush 16, 2) := by decide +kernel
theorem dX11_most_154 : decode cX11_most 154 = .ok (.iload_n 2, 1) := by decide +kernel
theorem dX11_most_155 : decode cX11_most 155 = .ok (.iadd, 1) := by decide +kernel
theorem dX11_most_156 : decode cX11_most 156 = .ok (.iaload, 1) := by decide +kernel
theorem dX11_most_157 : decode cX11_most 157 = .ok (.iadd, 1) := by decide +kernel
theorem dX11_most_158 : decode cX11_most 158 = .ok (.goto 13, 3) := by decide +kernel
theorem dX11_most_161 : decode cX11_most 161 = .ok (.aload_n 0, 1) := by decide +kernel
theorem dX11_most_162 : decode cX11_most 162 = .ok (.getfield 58, 3) := by decide +kernel
theorem dX11_most_165 : decode cX11_most 165 = .ok (.bipush 16, 2) := by decide +kernel
theorem dX11_most_167 : decode cX11_most 167 = .ok (.iload_n 2, 1) := by decide +kernel
theorem dX11_most_168 : decode cX11_most 168 = .ok (.iadd, 1) := by decide +kernel
theorem dX11_most_169 : decode cX11_most 169 = .ok (.iaload, 1) := by decide +kernel
theorem dX11_most_170 : decode cX11_most 170 = .ok (.ineg, 1) := by decide +kernel
theorem dX11_most_171 : decode cX11_most 171 = .ok (.istore 5, 2) := by decide +kernel
theorem dX11_most_173 : decode cX11_most 173 = .ok (.iload_n 2, 1) := by decide +kernel
theorem dX11_most_174 : decode cX11_most 174 = .ok (.iconst (-1), 1) := by decide +kernel
theorem dX11_most_175 : decode cX11_most 175 = .ok (.if_icmp .eq 10, 3) := by decide +kernel
theorem dX11_most_178 : decode cX11_most 178 = .ok (.iload 4, 2) := by decide +kernel
theorem dX11_most_180 : decode cX11_most 180 = .ok (.iload 5, 2) := by decide +kernel
theorem dX11_most_182 : decode cX11_most 182 = .ok (.if_icmp .le 7, 3) := by decide +kernel
theorem dX11_most_185 : decode cX11_most 185 = .ok (.iload_n 3, 1) := by decide +kernel
theorem dX11_most_186 : decode cX11_most 186 = .ok (.goto 4, 3) := by decide +kernel
theorem dX11_most_189 : decode cX11_most 189 = .ok (.iload_n 2, 1) := by decide +kernel
theorem dX11_most_190 : decode cX11_most 190 = .ok (.istore_n 2, 1) := by decide +kernel
theorem dX11_most_191 : decode cX11_most 191 = .ok (.iinc 3 1, 3) := by decide +kernel
theorem dX11_most_194 : decode cX11_most 194 = .ok (.goto (-119), 3) := by decide +kernel
theorem dX11_most_197 : decode cX11_most 197 = .ok (.iload_n 2, 1) := by decide +kernel
theorem dX11_most_198 : decode cX11_most 198 = .ok (.ireturn, 1) := by decide +kernel
theorem dX11_worths_0 : decode cX11_worths 0 = .ok (.aload_n 0, 1) := by decide +kernel
theorem dX11_worths_1 : decode cX11_worths 1 = .ok (.getfield 261, 3) := by decide +kernel
theorem dX11_worths_4 : decode cX11_worths 4 = .ok (.ifCond .ne 5, 3) := by decide +kernel
theorem dX11_worths_7 : decode cX11_worths 7 = .ok (.iconst (-1), 1) := by decide +kernel
theorem dX11_worths_8 : decode cX11_worths 8 = .ok (.ireturn, 1) := by decide +kernel
theorem dX11_worths_9 : decode cX11_worths 9 = .ok (.iconst 0, 1) := by decide +kernel
theorem dX11_worths_10 : decode cX11_worths 10 = .ok (.istore_n 1, 1) := by decide +kernel
theorem dX11_worths_11 : decode cX11_worths 11 = .ok (.iconst 0, 1) := by decide +kernel
theorem dX11_worths_12 : decode cX11_worths 12 = .ok (.istore_n 2, 1) := by decide +kernel
theorem dX11_worths_13 : decode cX11_worths 13 = .ok (.iload_n 2, 1) := by decide +kernel
theorem dX11_worths_14 : decode cX11_worths 14 = .ok (.aload_n 0, 1) := by decide +kernel
theorem dX11_worths_15 : decode cX11_worths 15 = .ok (.getfield 267, 3) := by decide +kernel
theorem dX11_worths_18 : decode cX11_worths 18 = .ok (.if_icmp .ge 30, 3) := by decide +kernel
theorem dX11_worths_21 : decode cX11_worths 21 = .ok (.iload_n 1, 1) := by decide +kernel
theorem dX11_worths_22 : decode cX11_worths 22 = .ok (.aload_n 0, 1) := by decide +kernel
theorem dX11_worths_23 : decode cX11_worths 23 = .ok (.iload_n 2, 1) := by decide +kernel
theorem dX11_worths_24 : decode cX11_worths 24 = .ok (.invokevirtual 308, 3) := by decide +kernel
theorem dX11_worths_27 : decode cX11_worths 27 = .ok (.ifCond .eq 7, 3) := by decide +kernel
theorem dX11_worths_30 : decode cX11_worths 30 = .ok (.iconst 0, 1) := by decide +kernel
theorem dX11_worths_31 : decode cX11_worths 31 = .ok (.goto 9, 3) := by decide +kernel
theorem dX11_worths_34 : decode cX11_worths 34 = .ok (.aload_n 0, 1) := by decide +kernel
theorem dX11_worths_35 : decode cX11_worths 35 = .ok (.iload_n 2, 1) := by decide +kernel
theorem dX11_worths_36 : decode cX11_worths 36 = .ok (.iconst 2, 1) := by decide +kernel
theorem dX11_worths_37 : decode cX11_worths 37 = .ok (.invokevirtual 296, 3) := by decide +kernel
theorem dX11_worths_40 : decode cX11_worths 40 = .ok (.iadd, 1) := by decide +kernel
theorem dX11_worths_41 : decode cX11_worths 41 = .ok (.istore_n 1, 1) := by decide +kernel
theorem dX11_worths_42 : decode cX11_worths 42 = .ok (.iinc 2 1, 3) := by decide +kernel
theorem dX11_worths_45 : decode cX11_worths 45 = .ok (.goto (-32), 3) := by decide +kernel
theorem dX11_worths_48 : decode cX11_worths 48 = .ok (.iload_n 1, 1) := by decide +kernel
theorem dX11_worths_49 : decode cX11_worths 49 = .ok (.ireturn, 1) := by decide +kernel
theorem dX11_lasts_0 : decode cX11_lasts 0 = .ok (.aload_n 0, 1) := by decide +kernel
theorem dX11_lasts_1 : decode cX11_lasts 1 = .ok (.getfield 261, 3) := by decide +kernel
theorem dX11_lasts_4 : decode cX11_lasts 4 = .ok (.ifCond .ne 5, 3) := by decide +kernel
theorem dX11_lasts_7 : decode cX11_lasts 7 = .ok (.iconst (-1), 1) := by decide +kernel
theorem dX11_lasts_8 : decode cX11_lasts 8 = .ok (.ireturn, 1) := by decide +kernel
theorem dX11_lasts_9 : decode cX11_lasts 9 = .ok (.aload_n 0, 1) := by decide +kernel
theorem dX11_lasts_10 : decode cX11_lasts 10 = .ok (.invokevirtual 358, 3) := by decide +kernel
theorem dX11_lasts_13 : decode cX11_lasts 13 = .ok (.iconst 0, 1) := by decide +kernel
theorem dX11_lasts_14 : decode cX11_lasts 14 = .ok (.istore_n 1, 1) := by decide +kernel
theorem dX11_lasts_15 : decode cX11_lasts 15 = .ok (.iload_n 1, 1) := by decide +kernel
theorem dX11_lasts_16 : decode cX11_lasts 16 = .ok (.sipush 200, 3) := by decide +kernel
theorem dX11_lasts_19 : decode cX11_lasts 19 = .ok (.if_icmp .ge 24, 3) := by decide +kernel
theorem dX11_lasts_22 : decode cX11_lasts 22 = .ok (.aload_n 0, 1) := by decide +kernel
theorem dX11_lasts_23 : decode cX11_lasts 23 = .ok (.getfield 58, 3) := by decide +kernel
theorem dX11_lasts_26 : decode cX11_lasts 26 = .ok (.bipush 35, 2) := by decide +kernel
theorem dX11_lasts_28 : decode cX11_lasts 28 = .ok (.iaload, 1) := by decide +kernel
theorem dX11_lasts_29 : decode cX11_lasts 29 = .ok (.ifCond .le 14, 3) := by decide +kernel
theorem dX11_lasts_32 : decode cX11_lasts 32 = .ok (.aload_n 0, 1) := by decide +kernel
theorem dX11_lasts_33 : decode cX11_lasts 33 = .ok (.invokevirtual 314, 3) := by decide +kernel
theorem dX11_lasts_36 : decode cX11_lasts 36 = .ok (.pop, 1) := by decide +kernel
theorem dX11_lasts_37 : decode cX11_lasts 37 = .ok (.iinc 1 1, 3) := by decide +kernel
theorem dX11_lasts_40 : decode cX11_lasts 40 = .ok (.goto (-25), 3) := by decide +kernel
theorem dX11_lasts_43 : decode cX11_lasts 43 = .ok (.aload_n 0, 1) := by decide +kernel
theorem dX11_lasts_44 : decode cX11_lasts 44 = .ok (.getfield 58, 3) := by decide +kernel
theorem dX11_lasts_47 : decode cX11_lasts 47 = .ok (.bipush 35, 2) := by decide +kernel
theorem dX11_lasts_49 : decode cX11_lasts 49 = .ok (.iaload, 1) := by decide +kernel
theorem dX11_lasts_50 : decode cX11_lasts 50 = .ok (.ifCond .ne 7, 3) := by decide +kernel
theorem dX11_lasts_53 : decode cX11_lasts 53 = .ok (.iconst 1, 1) := by decide +kernel
theorem dX11_lasts_54 : decode cX11_lasts 54 = .ok (.goto 4, 3) := by decide +kernel
theorem dX11_lasts_57 : decode cX11_lasts 57 = .ok (.iconst 0, 1) := by decide +kernel
theorem dX11_lasts_58 : decode cX11_lasts 58 = .ok (.istore_n 2, 1) := by decide +kernel
theorem dX11_lasts_59 : decode cX11_lasts 59 = .ok (.aload_n 0, 1) := by decide +kernel
theorem dX11_lasts_60 : decode cX11_lasts 60 = .ok (.invokevirtual 364, 3) := by decide +kernel
theorem dX11_lasts_63 : decode cX11_lasts 63 = .ok (.iload_n 2, 1) := by decide +kernel
theorem dX11_lasts_64 : decode cX11_lasts 64 = .ok (.ifCond .eq 7, 3) := by decide +kernel
theorem dX11_lasts_67 : decode cX11_lasts 67 = .ok (.iload_n 1, 1) := by decide +kernel
theorem dX11_lasts_68 : decode cX11_lasts 68 = .ok (.goto 4, 3) := by decide +kernel
theorem dX11_lasts_71 : decode cX11_lasts 71 = .ok (.iconst (-1), 1) := by decide +kernel
theorem dX11_lasts_72 : decode cX11_lasts 72 = .ok (.ireturn, 1) := by decide +kernel
theorem dX11_image_0 : decode cX11_image 0 = .ok (.aload_n 0, 1) := by decide +kernel
theorem dX11_image_1 : decode cX11_image 1 = .ok (.getfield 261, 3) := by decide +kernel
theorem dX11_image_4 : decode cX11_image 4 = .ok (.ifCond .ne 5, 3) := by decide +kernel
theorem dX11_image_7 : decode cX11_image 7 = .ok (.iconst (-1), 1) := by decide +kernel
theorem dX11_image_8 : decode cX11_image 8 = .ok (.ireturn, 1) := by decide +kernel
theorem dX11_image_9 : decode cX11_image 9 = .ok (.iconst 0, 1) := by decide +kernel
theorem dX11_image_10 : decode cX11_image 10 = .ok (.istore_n 1, 1) := by decide +kernel
theorem dX11_image_11 : decode cX11_image 11 = .ok (.iload_n 1, 1) := by decide +kernel
theorem dX11_image_12 : decode cX11_image 12 = .ok (.sipush 284, 3) := by decide +kernel
theorem dX11_image_15 : decode cX11_image 15 = .ok (.if_icmp .ge 21, 3) := by decide +kernel
theorem dX11_image_18 : decode cX11_image 18 = .ok (.aload_n 0, 1) := by decide +kernel
theorem dX11_image_19 : decode cX11_image 19 = .ok (.getfield 103, 3) := by decide +kernel
theorem dX11_image_22 : decode cX11_image 22 = .ok (.iload_n 1, 1) := by decide +kernel
theorem dX11_image_23 : decode cX11_image 23 = .ok (.aload_n 0, 1) := by decide +kernel
theorem dX11_image_24 : decode cX11_image 24 = .ok (.getfield 58, 3) := by decide +kernel
theorem dX11_image_27 : decode cX11_image 27 = .ok (.iload_n 1, 1) := by decide +kernel
theorem dX11_image_28 : decode cX11_image 28 = .ok (.iaload, 1) := by decide +kernel
theorem dX11_image_29 : decode cX11_image 29 = .ok (.iastore, 1) := by decide +kernel
theorem dX11_image_30 : decode cX11_image 30 = .ok (.iinc 1 1, 3) := by decide +kernel
theorem dX11_image_33 : decode cX11_image 33 = .ok (.goto (-22), 3) := by decide +kernel
theorem dX11_image_36 : decode cX11_image 36 = .ok (.aload_n 0, 1) := by decide +kernel
theorem dX11_image_37 : decode cX11_image 37 = .ok (.iconst 1, 1) := by decide +kernel
theorem dX11_image_38 : decode cX11_image 38 = .ok (.putfield 279, 3) := by decide +kernel
theorem dX11_image_41 : decode cX11_image 41 = .ok (.aload_n 0, 1) := by decide +kernel
theorem dX11_image_42 : decode cX11_image 42 = .ok (.getfield 58, 3) := by decide +kernel
theorem dX11_image_45 : decode cX11_image 45 = .ok (.bipush 42, 2) := by decide +kernel
theorem dX11_image_47 : decode cX11_image 47 = .ok (.iaload, 1) := by decide +kernel
theorem dX11_image_48 : decode cX11_image 48 = .ok (.ireturn, 1) := by decide +kernel
theorem dX11_back_0 : decode cX11_back 0 = .ok (.aload_n 0, 1) := by decide +kernel
theorem dX11_back_1 : decode cX11_back 1 = .ok (.getfield 279, 3) := by decide +kernel
theorem dX11_back_4 : decode cX11_back 4 = .ok (.ifCond .ne 5, 3) := by decide +kernel
theorem dX11_back_7 : decode cX11_back 7 = .ok (.iconst (-1), 1) := by decide +kernel
theorem dX11_back_8 : decode cX11_back 8 = .ok (.ireturn, 1) := by decide +kernel
theorem dX11_back_9 : decode cX11_back 9 = .ok (.iconst 0, 1) := by decide +kernel
theorem dX11_back_10 : decode cX11_back 10 = .ok (.istore_n 1, 1) := by decide +kernel
theorem dX11_back_11 : decode cX11_back 11 = .ok (.iload_n 1, 1) := by decide +kernel
theorem dX11_back_12 : decode cX11_back 12 = .ok (.sipush 284, 3) := by decide +kernel
theorem dX11_back_15 : decode cX11_back 15 = .ok (.if_icmp .ge 21, 3) := by decide +kernel
theorem dX11_back_18 : decode cX11_back 18 = .ok (.aload_n 0, 1) := by decide +kernel
theorem dX11_back_19 : decode cX11_back 19 = .ok (.getfield 58, 3) := by decide +kernel
theorem dX11_back_22 : decode cX11_back 22 = .ok (.iload_n 1, 1) := by decide +kernel
theorem dX11_back_23 : decode cX11_back 23 = .ok (.aload_n 0, 1) := by decide +kernel
theorem dX11_back_24 : decode cX11_back 24 = .ok (.getfield 103, 3) := by decide +kernel
theorem dX11_back_27 : decode cX11_back 27 = .ok (.iload_n 1, 1) := by decide +kernel
theorem dX11_back_28 : decode cX11_back 28 = .ok (.iaload, 1) := by decide +kernel
theorem dX11_back_29 : decode cX11_back 29 = .ok (.iastore, 1) := by decide +kernel
theorem dX11_back_30 : decode cX11_back 30 = .ok (.iinc 1 1, 3) := by decide +kernel
theorem dX11_back_33 : decode cX11_back 33 = .ok (.goto (-22), 3) := by decide +kernel
theorem dX11_back_36 : decode cX11_back 36 = .ok (.aload_n 0, 1) := by decide +kernel
theorem dX11_back_37 : decode cX11_back 37 = .ok (.iconst 0, 1) := by decide +kernel
theorem dX11_back_38 : decode cX11_back 38 = .ok (.putfield 276, 3) := by decide +kernel
theorem dX11_back_41 : decode cX11_back 41 = .ok (.aload_n 0, 1) := by decide +kernel
theorem dX11_back_42 : decode cX11_back 42 = .ok (.getfield 58, 3) := by decide +kernel
theorem dX11_back_45 : decode cX11_back 45 = .ok (.bipush 42, 2) := by decide +kernel
theorem dX11_back_47 : decode cX11_back 47 = .ok (.iaload, 1) := by decide +kernel
theorem dX11_back_48 : decode cX11_back 48 = .ok (.ireturn, 1) := by decide +kernel
theorem dX11_count_0 : decode cX11_count 0 = .ok (.iload_n 1, 1) := by decide +kernel
theorem dX11_count_1 : decode cX11_count 1 = .ok (.tableswitch 180 0 15 #[79, 84, 89, 94, 99, 104, 112, 120, 128, 136, 144, 152, 157, 162, 167, 175], 79) := by decide +kernel
theorem dX11_count_80 : decode cX11_count 80 = .ok (.aload_n 0, 1) := by decide +kernel
theorem dX11_count_81 : decode cX11_count 81 = .ok (.getfield 261, 3) := by decide +kernel
theorem dX11_count_84 : decode cX11_count 84 = .ok (.ireturn, 1) := by decide +kernel
theorem dX11_count_85 : decode cX11_count 85 = .ok (.aload_n 0, 1) := by decide +kernel
theorem dX11_count_86 : decode cX11_count 86 = .ok (.getfield 267, 3) := by decide +kernel
theorem dX11_count_89 : decode cX11_count 89 = .ok (.ireturn, 1) := by decide +kernel
theorem dX11_count_90 : decode cX11_count 90 = .ok (.aload_n 0, 1) := by decide +kernel
theorem dX11_count_91 : decode cX11_count 91 = .ok (.getfield 286, 3) := by decide +kernel
theorem dX11_count_94 : decode cX11_count 94 = .ok (.ireturn, 1) := by decide +kernel
theorem dX11_count_95 : decode cX11_count 95 = .ok (.aload_n 0, 1) := by decide +kernel
theorem dX11_count_96 : decode cX11_count 96 = .ok (.getfield 113, 3) := by decide +kernel
theorem dX11_count_99 : decode cX11_count 99 = .ok (.ireturn, 1) := by decide +kernel
theorem dX11_count_100 : decode cX11_count 100 = .ok (.aload_n 0, 1) := by decide +kernel
theorem dX11_count_101 : decode cX11_count 101 = .ok (.getfield 64, 3) := by decide +kernel
theorem dX11_count_104 : decode cX11_count 104 = .ok (.ireturn, 1) := by decide +kernel
theorem dX11_count_105 : decode cX11_count 105 = .ok (.aload_n 0, 1) := by decide +kernel
theorem dX11_count_106 : decode cX11_count 106 = .ok (.getfield 58, 3) := by decide +kernel
theorem dX11_count_109 : decode cX11_count 109 = .ok (.bipush 42, 2) := by decide +kernel
theorem dX11_count_111 : decode cX11_count 111 = .ok (.iaload, 1) := by decide +kernel
theorem dX11_count_112 : decode cX11_count 112 = .ok (.ireturn, 1) := by decide +kernel
theorem dX11_count_113 : decode cX11_count 113 = .ok (.aload_n 0, 1) := by decide +kernel
theorem dX11_count_114 : decode cX11_count 114 = .ok (.getfield 58, 3) := by decide +kernel
theorem dX11_count_117 : decode cX11_count 117 = .ok (.bipush 39, 2) := by decide +kernel
theorem dX11_count_119 : decode cX11_count 119 = .ok (.iaload, 1) := by decide +kernel
theorem dX11_count_120 : decode cX11_count 120 = .ok (.ireturn, 1) := by decide +kernel
theorem dX11_count_121 : decode cX11_count 121 = .ok (.aload_n 0, 1) := by decide +kernel
theorem dX11_count_122 : decode cX11_count 122 = .ok (.getfield 58, 3) := by decide +kernel
theorem dX11_count_125 : decode cX11_count 125 = .ok (.bipush 40, 2) := by decide +kernel
theorem dX11_count_127 : decode cX11_count 127 = .ok (.iaload, 1) := by decide +kernel
theorem dX11_count_128 : decode cX11_count 128 = .ok (.ireturn, 1) := by decide +kernel
theorem dX11_count_129 : decode cX11_count 129 = .ok (.aload_n 0, 1) := by decide +kernel
theorem dX11_count_130 : decode cX11_count 130 = .ok (.getfield 58, 3) := by decide +kernel
theorem dX11_count_133 : decode cX11_count 133 = .ok (.bipush 38, 2) := by decide +kernel
theorem dX11_count_135 : decode cX11_count 135 = .ok (.iaload, 1) := by decide +kernel
theorem dX11_count_136 : decode cX11_count 136 = .ok (.ireturn, 1) := by decide +kernel
theorem dX11_count_137 : decode cX11_count 137 = .ok (.aload_n 0, 1) := by decide +kernel
theorem dX11_count_138 : decode cX11_count 138 = .ok (.getfield 58, 3) := by decide +kernel
theorem dX11_count_141 : decode cX11_count 141 = .ok (.bipush 34, 2) := by decide +kernel
theorem dX11_count_143 : decode cX11_count 143 = .ok (.iaload, 1) := by decide +kernel
theorem dX11_count_144 : decode cX11_count 144 = .ok (.ireturn, 1) := by decide +kernel
theorem dX11_count_145 : decode cX11_count 145 = .ok (.aload_n 0, 1) := by decide +kernel
theorem dX11_count_146 : decode cX11_count 146 = .ok (.getfield 58, 3) := by decide +kernel
theorem dX11_count_149 : decode cX11_count 149 = .ok (.bipush 41, 2) := by decide +kernel
theorem dX11_count_151 : decode cX11_count 151 = .ok (.iaload, 1) := by decide +kernel
theorem dX11_count_152 : decode cX11_count 152 = .ok (.ireturn, 1) := by decide +kernel
theorem dX11_count_153 : decode cX11_count 153 = .ok (.aload_n 0, 1) := by decide +kernel
theorem dX11_count_154 : decode cX11_count 154 = .ok (.getfield 338, 3) := by decide +kernel
theorem dX11_count_157 : decode cX11_count 157 = .ok (.ireturn, 1) := by decide +kernel
theorem dX11_count_158 : decode cX11_count 158 = .ok (.aload_n 0, 1) := by decide +kernel
theorem dX11_count_159 : decode cX11_count 159 = .ok (.getfield 341, 3) := by decide +kernel
theorem dX11_count_162 : decode cX11_count 162 = .ok (.ireturn, 1) := by decide +kernel
theorem dX11_count_163 : decode cX11_count 163 = .ok (.aload_n 0, 1) := by decide +kernel
theorem dX11_count_164 : decode cX11_count 164 = .ok (.getfield 273, 3) := by decide +kernel
theorem dX11_count_167 : decode cX11_count 167 = .ok (.ireturn, 1) := by decide +kernel
theorem dX11_count_168 : decode cX11_count 168 = .ok (.aload_n 0, 1) := by decide +kernel
theorem dX11_count_169 : decode cX11_count 169 = .ok (.getfield 58, 3) := by decide +kernel
theorem dX11_count_172 : decode cX11_count 172 = .ok (.bipush 43, 2) := by decide +kernel
theorem dX11_count_174 : decode cX11_count 174 = .ok (.iaload, 1) := by decide +kernel
theorem dX11_count_175 : decode cX11_count 175 = .ok (.ireturn, 1) := by decide +kernel
theorem dX11_count_176 : decode cX11_count 176 = .ok (.aload_n 0, 1) := by decide +kernel
theorem dX11_count_177 : decode cX11_count 177 = .ok (.getfield 276, 3) := by decide +kernel
theorem dX11_count_180 : decode cX11_count 180 = .ok (.ireturn, 1) := by decide +kernel
theorem dX11_count_181 : decode cX11_count 181 = .ok (.ldc_w 380, 3) := by decide +kernel
theorem dX11_count_184 : decode cX11_count 184 = .ok (.ireturn, 1) := by decide +kernel
