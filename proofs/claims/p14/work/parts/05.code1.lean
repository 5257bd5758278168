theorem dX9_toldBy_8 : decode cX9_toldBy 8 = .ok (.getfield 25, 3) := by decide +kernel
theorem dX9_toldBy_11 : decode cX9_toldBy 11 = .ok (.iload_n 1, 1) := by decide +kernel
theorem dX9_toldBy_12 : decode cX9_toldBy 12 = .ok (.invokevirtual 40, 3) := by decide +kernel
theorem dX9_toldBy_15 : decode cX9_toldBy 15 = .ok (.iadd, 1) := by decide +kernel
theorem dX9_toldBy_16 : decode cX9_toldBy 16 = .ok (.ldc 102, 2) := by decide +kernel
theorem dX9_toldBy_18 : decode cX9_toldBy 18 = .ok (.iand, 1) := by decide +kernel
theorem dX9_toldBy_19 : decode cX9_toldBy 19 = .ok (.ireturn, 1) := by decide +kernel
theorem dX10_init_0 : decode cX10_init 0 = .ok (.aload_n 0, 1) := by decide +kernel
theorem dX10_init_1 : decode cX10_init 1 = .ok (.invokespecial 3, 3) := by decide +kernel
theorem dX10_init_4 : decode cX10_init 4 = .ok (.aload_n 0, 1) := by decide +kernel
theorem dX10_init_5 : decode cX10_init 5 = .ok (.aload_n 1, 1) := by decide +kernel
theorem dX10_init_6 : decode cX10_init 6 = .ok (.putfield 9, 3) := by decide +kernel
theorem dX10_init_9 : decode cX10_init 9 = .ok (.aload_n 0, 1) := by decide +kernel
theorem dX10_init_10 : decode cX10_init 10 = .ok (.aload_n 2, 1) := by decide +kernel
theorem dX10_init_11 : decode cX10_init 11 = .ok (.putfield 15, 3) := by decide +kernel
theorem dX10_init_14 : decode cX10_init 14 = .ok (.return_, 1) := by decide +kernel
theorem dX10_withSign_0 : decode cX10_withSign 0 = .ok (.aload_n 0, 1) := by decide +kernel
theorem dX10_withSign_1 : decode cX10_withSign 1 = .ok (.getfield 15, 3) := by decide +kernel
theorem dX10_withSign_4 : decode cX10_withSign 4 = .ok (.getfield 19, 3) := by decide +kernel
theorem dX10_withSign_7 : decode cX10_withSign 7 = .ok (.tableswitch 59 16 18 #[25, 37, 50], 25) := by decide +kernel
theorem dX10_withSign_32 : decode cX10_withSign 32 = .ok (.aload_n 0, 1) := by decide +kernel
theorem dX10_withSign_33 : decode cX10_withSign 33 = .ok (.iload_n 1, 1) := by decide +kernel
theorem dX10_withSign_34 : decode cX10_withSign 34 = .ok (.i2l, 1) := by decide +kernel
theorem dX10_withSign_35 : decode cX10_withSign 35 = .ok (.invokestatic 25, 3) := by decide +kernel
theorem dX10_withSign_38 : decode cX10_withSign 38 = .ok (.invokevirtual 31, 3) := by decide +kernel
theorem dX10_withSign_41 : decode cX10_withSign 41 = .ok (.goto 32, 3) := by decide +kernel
theorem dX10_withSign_44 : decode cX10_withSign 44 = .ok (.aload_n 0, 1) := by decide +kernel
theorem dX10_withSign_45 : decode cX10_withSign 45 = .ok (.iload_n 1, 1) := by decide +kernel
theorem dX10_withSign_46 : decode cX10_withSign 46 = .ok (.i2l, 1) := by decide +kernel
theorem dX10_withSign_47 : decode cX10_withSign 47 = .ok (.invokestatic 25, 3) := by decide +kernel
theorem dX10_withSign_50 : decode cX10_withSign 50 = .ok (.lneg, 1) := by decide +kernel
theorem dX10_withSign_51 : decode cX10_withSign 51 = .ok (.invokevirtual 31, 3) := by decide +kernel
theorem dX10_withSign_54 : decode cX10_withSign 54 = .ok (.goto 19, 3) := by decide +kernel
theorem dX10_withSign_57 : decode cX10_withSign 57 = .ok (.aload_n 0, 1) := by decide +kernel
theorem dX10_withSign_58 : decode cX10_withSign 58 = .ok (.iload_n 1, 1) := by decide +kernel
theorem dX10_withSign_59 : decode cX10_withSign 59 = .ok (.i2l, 1) := by decide +kernel
theorem dX10_withSign_60 : decode cX10_withSign 60 = .ok (.invokevirtual 31, 3) := by decide +kernel
theorem dX10_withSign_63 : decode cX10_withSign 63 = .ok (.goto 10, 3) := by decide +kernel
theorem dX10_withSign_66 : decode cX10_withSign 66 = .ok (.aload_n 0, 1) := by decide +kernel
theorem dX10_withSign_67 : decode cX10_withSign 67 = .ok (.iload_n 1, 1) := by decide +kernel
theorem dX10_withSign_68 : decode cX10_withSign 68 = .ok (.i2l, 1) := by decide +kernel
theorem dX10_withSign_69 : decode cX10_withSign 69 = .ok (.lneg, 1) := by decide +kernel
theorem dX10_withSign_70 : decode cX10_withSign 70 = .ok (.invokevirtual 31, 3) := by decide +kernel
theorem dX10_withSign_73 : decode cX10_withSign 73 = .ok (.return_, 1) := by decide +kernel
theorem dX10_combineWord_0 : decode cX10_combineWord 0 = .ok (.aload_n 0, 1) := by decide +kernel
theorem dX10_combineWord_1 : decode cX10_combineWord 1 = .ok (.iconst 4, 1) := by decide +kernel
theorem dX10_combineWord_2 : decode cX10_combineWord 2 = .ok (.iconst 0, 1) := by decide +kernel
theorem dX10_combineWord_3 : decode cX10_combineWord 3 = .ok (.invokevirtual 35, 3) := by decide +kernel
theorem dX10_combineWord_6 : decode cX10_combineWord 6 = .ok (.aload_n 0, 1) := by decide +kernel
theorem dX10_combineWord_7 : decode cX10_combineWord 7 = .ok (.getfield 9, 3) := by decide +kernel
theorem dX10_combineWord_10 : decode cX10_combineWord 10 = .ok (.invokevirtual 39, 3) := by decide +kernel
theorem dX10_combineWord_13 : decode cX10_combineWord 13 = .ok (.ifCond .eq 24, 3) := by decide +kernel
theorem dX10_combineWord_16 : decode cX10_combineWord 16 = .ok (.aload_n 0, 1) := by decide +kernel
theorem dX10_combineWord_17 : decode cX10_combineWord 17 = .ok (.aload_n 0, 1) := by decide +kernel
theorem dX10_combineWord_18 : decode cX10_combineWord 18 = .ok (.getfield 9, 3) := by decide +kernel
theorem dX10_combineWord_21 : decode cX10_combineWord 21 = .ok (.getfield 45, 3) := by decide +kernel
theorem dX10_combineWord_24 : decode cX10_combineWord 24 = .ok (.aload_n 0, 1) := by decide +kernel
theorem dX10_combineWord_25 : decode cX10_combineWord 25 = .ok (.getfield 15, 3) := by decide +kernel
theorem dX10_combineWord_28 : decode cX10_combineWord 28 = .ok (.getfield 49, 3) := by decide +kernel
theorem dX10_combineWord_31 : decode cX10_combineWord 31 = .ok (.invokevirtual 52, 3) := by decide +kernel
theorem dX10_combineWord_34 : decode cX10_combineWord 34 = .ok (.invokevirtual 58, 3) := by decide +kernel
theorem dX10_combineWord_37 : decode cX10_combineWord 37 = .ok (.return_, 1) := by decide +kernel
theorem dX10_combineHalf_0 : decode cX10_combineHalf 0 = .ok (.aload_n 0, 1) := by decide +kernel
theorem dX10_combineHalf_1 : decode cX10_combineHalf 1 = .ok (.iconst 2, 1) := by decide +kernel
theorem dX10_combineHalf_2 : decode cX10_combineHalf 2 = .ok (.iconst 0, 1) := by decide +kernel
theorem dX10_combineHalf_3 : decode cX10_combineHalf 3 = .ok (.invokevirtual 35, 3) := by decide +kernel
theorem dX10_combineHalf_6 : decode cX10_combineHalf 6 = .ok (.aload_n 0, 1) := by decide +kernel
theorem dX10_combineHalf_7 : decode cX10_combineHalf 7 = .ok (.getfield 9, 3) := by decide +kernel
theorem dX10_combineHalf_10 : decode cX10_combineHalf 10 = .ok (.invokevirtual 39, 3) := by decide +kernel
theorem dX10_combineHalf_13 : decode cX10_combineHalf 13 = .ok (.ifCond .eq 24, 3) := by decide +kernel
theorem dX10_combineHalf_16 : decode cX10_combineHalf 16 = .ok (.aload_n 0, 1) := by decide +kernel
theorem dX10_combineHalf_17 : decode cX10_combineHalf 17 = .ok (.aload_n 0, 1) := by decide +kernel
theorem dX10_combineHalf_18 : decode cX10_combineHalf 18 = .ok (.getfield 9, 3) := by decide +kernel
theorem dX10_combineHalf_21 : decode cX10_combineHalf 21 = .ok (.getfield 45, 3) := by decide +kernel
theorem dX10_combineHalf_24 : decode cX10_combineHalf 24 = .ok (.aload_n 0, 1) := by decide +kernel
theorem dX10_combineHalf_25 : decode cX10_combineHalf 25 = .ok (.getfield 15, 3) := by decide +kernel
theorem dX10_combineHalf_28 : decode cX10_combineHalf 28 = .ok (.getfield 49, 3) := by decide +kernel
theorem dX10_combineHalf_31 : decode cX10_combineHalf 31 = .ok (.invokevirtual 62, 3) := by decide +kernel
theorem dX10_combineHalf_34 : decode cX10_combineHalf 34 = .ok (.invokevirtual 58, 3) := by decide +kernel
theorem dX10_combineHalf_37 : decode cX10_combineHalf 37 = .ok (.return_, 1) := by decide +kernel
theorem dX10_combine_0 : decode cX10_combine 0 = .ok (.aload_n 0, 1) := by decide +kernel
theorem dX10_combine_1 : decode cX10_combine 1 = .ok (.getfield 9, 3) := by decide +kernel
theorem dX10_combine_4 : decode cX10_combine 4 = .ok (.aload_n 0, 1) := by decide +kernel
theorem dX10_combine_5 : decode cX10_combine 5 = .ok (.getfield 15, 3) := by decide +kernel
theorem dX10_combine_8 : decode cX10_combine 8 = .ok (.getfield 65, 3) := by decide +kernel
theorem dX10_combine_11 : decode cX10_combine 11 = .ok (.invokevirtual 68, 3) := by decide +kernel
theorem dX10_combine_14 : decode cX10_combine 14 = .ok (.istore_n 2, 1) := by decide +kernel
theorem dX10_combine_15 : decode cX10_combine 15 = .ok (.aload_n 0, 1) := by decide +kernel
theorem dX10_combine_16 : decode cX10_combine 16 = .ok (.getfield 15, 3) := by decide +kernel
theorem dX10_combine_19 : decode cX10_combine 19 = .ok (.getfield 19, 3) := by decide +kernel
theorem dX10_combine_22 : decode cX10_combine 22 = .ok (.bipush 15, 2) := by decide +kernel
theorem dX10_combine_24 : decode cX10_combine 24 = .ok (.iand, 1) := by decide +kernel
theorem dX10_combine_25 : decode cX10_combine 25 = .ok (.tableswitch 203 4 14 #[59, 69, 91, 101, 111, 129, 143, 155, 167, 175, 183], 59) := by decide +kernel
theorem dX10_combine_84 : decode cX10_combine 84 = .ok (.aload_n 0, 1) := by decide +kernel
theorem dX10_combine_85 : decode cX10_combine 85 = .ok (.iload_n 2, 1) := by decide +kernel
theorem dX10_combine_86 : decode cX10_combine 86 = .ok (.iload_n 1, 1) := by decide +kernel
theorem dX10_combine_87 : decode cX10_combine 87 = .ok (.iand, 1) := by decide +kernel
theorem dX10_combine_88 : decode cX10_combine 88 = .ok (.invokevirtual 71, 3) := by decide +kernel
theorem dX10_combine_91 : decode cX10_combine 91 = .ok (.goto 158, 3) := by decide +kernel
theorem dX10_combine_94 : decode cX10_combine 94 = .ok (.aload_n 0, 1) := by decide +kernel
theorem dX10_combine_95 : decode cX10_combine 95 = .ok (.getfield 9, 3) := by decide +kernel
theorem dX10_combine_98 : decode cX10_combine 98 = .ok (.iload_n 2, 1) := by decide +kernel
theorem dX10_combine_99 : decode cX10_combine 99 = .ok (.i2l, 1) := by decide +kernel
theorem dX10_combine_100 : decode cX10_combine 100 = .ok (.ldc2_w 74, 3) := by decide +kernel
theorem dX10_combine_103 : decode cX10_combine 103 = .ok (.land, 1) := by decide +kernel
theorem dX10_combine_104 : decode cX10_combine 104 = .ok (.iload_n 1, 1) := by decide +kernel
theorem dX10_combine_105 : decode cX10_combine 105 = .ok (.i2l, 1) := by decide +kernel
theorem dX10_combine_106 : decode cX10_combine 106 = .ok (.ldc2_w 74, 3) := by decide +kernel
theorem dX10_combine_109 : decode cX10_combine 109 = .ok (.land, 1) := by decide +kernel
theorem dX10_combine_110 : decode cX10_combine 110 = .ok (.invokevirtual 76, 3) := by decide +kernel
theorem dX10_combine_113 : decode cX10_combine 113 = .ok (.goto 136, 3) := by decide +kernel
theorem dX10_combine_116 : decode cX10_combine 116 = .ok (.aload_n 0, 1) := by decide +kernel
theorem dX10_combine_117 : decode cX10_combine 117 = .ok (.iload_n 2, 1) := by decide +kernel
theorem dX10_combine_118 : decode cX10_combine 118 = .ok (.iload_n 1, 1) := by decide +kernel
theorem dX10_combine_119 : decode cX10_combine 119 = .ok (.ior, 1) := by decide +kernel
theorem dX10_combine_120 : decode cX10_combine 120 = .ok (.invokevirtual 71, 3) := by decide +kernel
theorem dX10_combine_123 : decode cX10_combine 123 = .ok (.goto 126, 3) := by decide +kernel
theorem dX10_combine_126 : decode cX10_combine 126 = .ok (.aload_n 0, 1) := by decide +kernel
theorem dX10_combine_127 : decode cX10_combine 127 = .ok (.iload_n 2, 1) := by decide +kernel
theorem dX10_combine_128 : decode cX10_combine 128 = .ok (.iload_n 1, 1) := by decide +kernel
theorem dX10_combine_129 : decode cX10_combine 129 = .ok (.ixor, 1) := by decide +kernel
theorem dX10_combine_130 : decode cX10_combine 130 = .ok (.invokevirtual 71, 3) := by decide +kernel
theorem dX10_combine_133 : decode cX10_combine 133 = .ok (.goto 116, 3) := by decide +kernel
theorem dX10_combine_136 : decode cX10_combine 136 = .ok (.aload_n 0, 1) := by decide +kernel
theorem dX10_combine_137 : decode cX10_combine 137 = .ok (.getfield 9, 3) := by decide +kernel
theorem dX10_combine_140 : decode cX10_combine 140 = .ok (.aload_n 0, 1) := by decide +kernel
theorem dX10_combine_141 : decode cX10_combine 141 = .ok (.getfield 15, 3) := by decide +kernel
theorem dX10_combine_144 : decode cX10_combine 144 = .ok (.getfield 65, 3) := by decide +kernel
theorem dX10_combine_147 : decode cX10_combine 147 = .ok (.iload_n 1, 1) := by decide +kernel
theorem dX10_combine_148 : decode cX10_combine 148 = .ok (.invokevirtual 80, 3) := by decide +kernel
theorem dX10_combine_151 : decode cX10_combine 151 = .ok (.goto 98, 3) := by decide +kernel
theorem dX10_combine_154 : decode cX10_combine 154 = .ok (.aload_n 0, 1) := by decide +kernel
theorem dX10_combine_155 : decode cX10_combine 155 = .ok (.getfield 9, 3) := by decide +kernel
theorem dX10_combine_158 : decode cX10_combine 158 = .ok (.iload_n 2, 1) := by decide +kernel
theorem dX10_combine_159 : decode cX10_combine 159 = .ok (.i2l, 1) := by decide +kernel
theorem dX10_combine_160 : decode cX10_combine 160 = .ok (.iload_n 1, 1) := by decide +kernel
theorem dX10_combine_161 : decode cX10_combine 161 = .ok (.i2l, 1) := by decide +kernel
theorem dX10_combine_162 : decode cX10_combine 162 = .ok (.invokevirtual 76, 3) := by decide +kernel
theorem dX10_combine_165 : decode cX10_combine 165 = .ok (.goto 84, 3) := by decide +kernel
theorem dX10_combine_168 : decode cX10_combine 168 = .ok (.aload_n 0, 1) := by decide +kernel
theorem dX10_combine_169 : decode cX10_combine 169 = .ok (.iload_n 2, 1) := by decide +kernel
theorem dX10_combine_170 : decode cX10_combine 170 = .ok (.i2l, 1) := by decide +kernel
theorem dX10_combine_171 : decode cX10_combine 171 = .ok (.iload_n 1, 1) := by decide +kernel
theorem dX10_combine_172 : decode cX10_combine 172 = .ok (.i2l, 1) := by decide +kernel
theorem dX10_combine_173 : decode cX10_combine 173 = .ok (.ladd, 1) := by decide +kernel
theorem dX10_combine_174 : decode cX10_combine 174 = .ok (.invokevirtual 31, 3) := by decide +kernel
theorem dX10_combine_177 : decode cX10_combine 177 = .ok (.goto 72, 3) := by decide +kernel
theorem dX10_combine_180 : decode cX10_combine 180 = .ok (.aload_n 0, 1) := by decide +kernel
theorem dX10_combine_181 : decode cX10_combine 181 = .ok (.iload_n 2, 1) := by decide +kernel
theorem dX10_combine_182 : decode cX10_combine 182 = .ok (.i2l, 1) := by decide +kernel
theorem dX10_combine_183 : decode cX10_combine 183 = .ok (.iload_n 1, 1) := by decide +kernel
theorem dX10_combine_184 : decode cX10_combine 184 = .ok (.i2l, 1) := by decide +kernel
theorem dX10_combine_185 : decode cX10_combine 185 = .ok (.lsub, 1) := by decide +kernel
theorem dX10_combine_186 : decode cX10_combine 186 = .ok (.invokevirtual 31, 3) := by decide +kernel
theorem dX10_combine_189 : decode cX10_combine 189 = .ok (.goto 60, 3) := by decide +kernel
theorem dX10_combine_192 : decode cX10_combine 192 = .ok (.aload_n 0, 1) := by decide +kernel
theorem dX10_combine_193 : decode cX10_combine 193 = .ok (.iload_n 1, 1) := by decide +kernel
theorem dX10_combine_194 : decode cX10_combine 194 = .ok (.invokevirtual 84, 3) := by decide +kernel
theorem dX10_combine_197 : decode cX10_combine 197 = .ok (.goto 52, 3) := by decide +kernel
theorem dX10_combine_200 : decode cX10_combine 200 = .ok (.aload_n 0, 1) := by decide +kernel
theorem dX10_combine_201 : decode cX10_combine 201 = .ok (.iload_n 1, 1) := by decide +kernel
theorem dX10_combine_202 : decode cX10_combine 202 = .ok (.invokevirtual 87, 3) := by decide +kernel
theorem dX10_combine_205 : decode cX10_combine 205 = .ok (.goto 44, 3) := by decide +kernel
theorem dX10_combine_208 : decode cX10_combine 208 = .ok (.aload_n 0, 1) := by decide +kernel
theorem dX10_combine_209 : decode cX10_combine 209 = .ok (.iload_n 2, 1) := by decide +kernel
theorem dX10_combine_210 : decode cX10_combine 210 = .ok (.i2l, 1) := by decide +kernel
theorem dX10_combine_211 : decode cX10_combine 211 = .ok (.ldc2_w 74, 3) := by decide +kernel
theorem dX10_combine_214 : decode cX10_combine 214 = .ok (.land, 1) := by decide +kernel
theorem dX10_combine_215 : decode cX10_combine 215 = .ok (.iload_n 1, 1) := by decide +kernel
theorem dX10_combine_216 : decode cX10_combine 216 = .ok (.i2l, 1) := by decide +kernel
theorem dX10_combine_217 : decode cX10_combine 217 = .ok (.ldc2_w 74, 3) := by decide +kernel
theorem dX10_combine_220 : decode cX10_combine 220 = .ok (.land, 1) := by decide +kernel
theorem dX10_combine_221 : decode cX10_combine 221 = .ok (.ladd, 1) := by decide +kernel
theorem dX10_combine_222 : decode cX10_combine 222 = .ok (.invokevirtual 90, 3) := by decide +kernel
theorem dX10_combine_225 : decode cX10_combine 225 = .ok (.goto 24, 3) := by decide +kernel
theorem dX10_combine_228 : decode cX10_combine 228 = .ok (.aload_n 0, 1) := by decide +kernel
theorem dX10_combine_229 : decode cX10_combine 229 = .ok (.iload_n 2, 1) := by decide +kernel
theorem dX10_combine_230 : decode cX10_combine 230 = .ok (.i2l, 1) := by decide +kernel
theorem dX10_combine_231 : decode cX10_combine 231 = .ok (.ldc2_w 74, 3) := by decide +kernel
theorem dX10_combine_234 : decode cX10_combine 234 = .ok (.land, 1) := by decide +kernel
theorem dX10_combine_235 : decode cX10_combine 235 = .ok (.iload_n 1, 1) := by decide +kernel
theorem dX10_combine_236 : decode cX10_combine 236 = .ok (.iconst (-1), 1) := by decide +kernel
theorem dX10_combine_237 : decode cX10_combine 237 = .ok (.ixor, 1) := by decide +kernel
theorem dX10_combine_238 : decode cX10_combine 238 = .ok (.i2l, 1) := by decide +kernel
theorem dX10_combine_239 : decode cX10_combine 239 = .ok (.ldc2_w 74, 3) := by decide +kernel
theorem dX10_combine_242 : decode cX10_combine 242 = .ok (.land, 1) := by decide +kernel
theorem dX10_combine_243 : decode cX10_combine 243 = .ok (.ladd, 1) := by decide +kernel
theorem dX10_combine_244 : decode cX10_combine 244 = .ok (.lconst 1, 1) := by decide +kernel
theorem dX10_combine_245 : decode cX10_combine 245 = .ok (.ladd, 1) := by decide +kernel
theorem dX10_combine_246 : decode cX10_combine 246 = .ok (.invokevirtual 90, 3) := by decide +kernel
theorem dX10_combine_249 : decode cX10_combine 249 = .ok (.return_, 1) := by decide +kernel
theorem dX10_bits_0 : decode cX10_bits 0 = .ok (.aload_n 0, 1) := by decide +kernel
theorem dX10_bits_1 : decode cX10_bits 1 = .ok (.getfield 9, 3) := by decide +kernel
theorem dX10_bits_4 : decode cX10_bits 4 = .ok (.aload_n 0, 1) := by decide +kernel
theorem dX10_bits_5 : decode cX10_bits 5 = .ok (.getfield 15, 3) := by decide +kernel
theorem dX10_bits_8 : decode cX10_bits 8 = .ok (.getfield 65, 3) := by decide +kernel
theorem dX10_bits_11 : decode cX10_bits 11 = .ok (.iload_n 1, 1) := by decide +kernel
theorem dX10_bits_12 : decode cX10_bits 12 = .ok (.invokevirtual 80, 3) := by decide +kernel
theorem dX10_bits_15 : decode cX10_bits 15 = .ok (.aload_n 0, 1) := by decide +kernel
theorem dX10_bits_16 : decode cX10_bits 16 = .ok (.getfield 9, 3) := by decide +kernel
theorem dX10_bits_19 : decode cX10_bits 19 = .ok (.iload_n 1, 1) := by decide +kernel
theorem dX10_bits_20 : decode cX10_bits 20 = .ok (.invokevirtual 93, 3) := by decide +kernel
theorem dX10_bits_23 : decode cX10_bits 23 = .ok (.return_, 1) := by decide +kernel
theorem dX10_signed_0 : decode cX10_signed 0 = .ok (.aload_n 0, 1) := by decide +kernel
theorem dX10_signed_1 : decode cX10_signed 1 = .ok (.getfield 9, 3) := by decide +kernel
theorem dX10_signed_4 : decode cX10_signed 4 = .ok (.aload_n 0, 1) := by decide +kernel
theorem dX10_signed_5 : decode cX10_signed 5 = .ok (.getfield 15, 3) := by decide +kernel
theorem dX10_signed_8 : decode cX10_signed 8 = .ok (.getfield 65, 3) := by decide +kernel
theorem dX10_signed_11 : decode cX10_signed 11 = .ok (.lload_n 1, 1) := by decide +kernel
theorem dX10_signed_12 : decode cX10_signed 12 = .ok (.l2i, 1) := by decide +kernel
theorem dX10_signed_13 : decode cX10_signed 13 = .ok (.invokevirtual 80, 3) := by decide +kernel
theorem dX10_signed_16 : decode cX10_signed 16 = .ok (.lload_n 1, 1) := by decide +kernel
theorem dX10_signed_17 : decode cX10_signed 17 = .ok (.lload_n 1, 1) := by decide +kernel
theorem dX10_signed_18 : decode cX10_signed 18 = .ok (.l2i, 1) := by decide +kernel
theorem dX10_signed_19 : decode cX10_signed 19 = .ok (.i2l, 1) := by decide +kernel
theorem dX10_signed_20 : decode cX10_signed 20 = .ok (.lcmp, 1) := by decide +kernel
theorem dX10_signed_21 : decode cX10_signed 21 = .ok (.ifCond .ne 14, 3) := by decide +kernel
theorem dX10_signed_24 : decode cX10_signed 24 = .ok (.aload_n 0, 1) := by decide +kernel
theorem dX10_signed_25 : decode cX10_signed 25 = .ok (.getfield 9, 3) := by decide +kernel
theorem dX10_signed_28 : decode cX10_signed 28 = .ok (.lload_n 1, 1) := by decide +kernel
theorem dX10_signed_29 : decode cX10_signed 29 = .ok (.invokevirtual 96, 3) := by decide +kernel
theorem dX10_signed_32 : decode cX10_signed 32 = .ok (.goto 14, 3) := by decide +kernel
theorem dX10_signed_35 : decode cX10_signed 35 = .ok (.aload_n 0, 1) := by decide +kernel
theorem dX10_signed_36 : decode cX10_signed 36 = .ok (.getfield 9, 3) := by decide +kernel
theorem dX10_signed_39 : decode cX10_signed 39 = .ok (.bipush 36, 2) := by decide +kernel
theorem dX10_signed_41 : decode cX10_signed 41 = .ok (.bipush 8, 2) := by decide +kernel
theorem dX10_signed_43 : decode cX10_signed 43 = .ok (.invokevirtual 101, 3) := by decide +kernel
theorem dX10_signed_46 : decode cX10_signed 46 = .ok (.return_, 1) := by decide +kernel
theorem dX10_unsigned_0 : decode cX10_unsigned 0 = .ok (.aload_n 0, 1) := by decide +kernel
theorem dX10_unsigned_1 : decode cX10_unsigned 1 = .ok (.getfield 9, 3) := by decide +kernel
theorem dX10_unsigned_4 : decode cX10_unsigned 4 = .ok (.aload_n 0, 1) := by decide +kernel
theorem dX10_unsigned_5 : decode cX10_unsigned 5 = .ok (.getfield 15, 3) := by decide +kernel
theorem dX10_unsigned_8 : decode cX10_unsigned 8 = .ok (.getfield 65, 3) := by decide +kernel
theorem dX10_unsigned_11 : decode cX10_unsigned 11 = .ok (.lload_n 1, 1) := by decide +kernel
theorem dX10_unsigned_12 : decode cX10_unsigned 12 = .ok (.l2i, 1) := by decide +kernel
theorem dX10_unsigned_13 : decode cX10_unsigned 13 = .ok (.invokevirtual 80, 3) := by decide +kernel
theorem dX10_unsigned_16 : decode cX10_unsigned 16 = .ok (.lload_n 1, 1) := by decide +kernel
theorem dX10_unsigned_17 : decode cX10_unsigned 17 = .ok (.ldc2_w 74, 3) := by decide +kernel
theorem dX10_unsigned_20 : decode cX10_unsigned 20 = .ok (.lcmp, 1) := by decide +kernel
theorem dX10_unsigned_21 : decode cX10_unsigned 21 = .ok (.ifCond .le 7, 3) := by decide +kernel
theorem dX10_unsigned_24 : decode cX10_unsigned 24 = .ok (.iconst 2, 1) := by decide +kernel
theorem dX10_unsigned_25 : decode cX10_unsigned 25 = .ok (.goto 4, 3) := by decide +kernel
theorem dX10_unsigned_28 : decode cX10_unsigned 28 = .ok (.iconst 0, 1) := by decide +kernel
theorem dX10_unsigned_29 : decode cX10_unsigned 29 = .ok (.istore_n 3, 1) := by decide +kernel
theorem dX10_unsigned_30 : decode cX10_unsigned 30 = .ok (.aload_n 0, 1) := by decide +kernel
theorem dX10_unsigned_31 : decode cX10_unsigned 31 = .ok (.getfield 9, 3) := by decide +kernel
theorem dX10_unsigned_34 : decode cX10_unsigned 34 = .ok (.getfield 104, 3) := by decide +kernel
theorem dX10_unsigned_37 : decode cX10_unsigned 37 = .ok (.lload_n 1, 1) := by decide +kernel
theorem dX10_unsigned_38 : decode cX10_unsigned 38 = .ok (.l2i, 1) := by decide +kernel
theorem dX10_unsigned_39 : decode cX10_unsigned 39 = .ok (.ifCond .ne 7, 3) := by decide +kernel
theorem dX10_unsigned_42 : decode cX10_unsigned 42 = .ok (.iload_n 3, 1) := by decide +kernel
theorem dX10_unsigned_43 : decode cX10_unsigned 43 = .ok (.goto 6, 3) := by decide +kernel
theorem dX10_unsigned_46 : decode cX10_unsigned 46 = .ok (.iload_n 3, 1) := by decide +kernel
theorem dX10_unsigned_47 : decode cX10_unsigned 47 = .ok (.iconst 1, 1) := by decide +kernel
theorem dX10_unsigned_48 : decode cX10_unsigned 48 = .ok (.iadd, 1) := by decide +kernel
theorem dX10_unsigned_49 : decode cX10_unsigned 49 = .ok (.invokevirtual 108, 3) := by decide +kernel
theorem dX10_unsigned_52 : decode cX10_unsigned 52 = .ok (.return_, 1) := by decide +kernel
theorem dX10_multiply_0 : decode cX10_multiply 0 = .ok (.aload_n 0, 1) := by decide +kernel
theorem dX10_multiply_1 : decode cX10_multiply 1 = .ok (.getfield 9, 3) := by decide +kernel
theorem dX10_multiply_4 : decode cX10_multiply 4 = .ok (.aload_n 0, 1) := by decide +kernel
theorem dX10_multiply_5 : decode cX10_multiply 5 = .ok (.getfield 15, 3) := by decide +kernel
theorem dX10_multiply_8 : decode cX10_multiply 8 = .ok (.getfield 65, 3) := by decide +kernel
theorem dX10_multiply_11 : decode cX10_multiply 11 = .ok (.invokevirtual 111, 3) := by decide +kernel
theorem dX10_multiply_14 : decode cX10_multiply 14 = .ok (.aload_n 0, 1) := by decide +kernel
theorem dX10_multiply_15 : decode cX10_multiply 15 = .ok (.getfield 9, 3) := by decide +kernel
theorem dX10_multiply_18 : decode cX10_multiply 18 = .ok (.invokevirtual 39, 3) := by decide +kernel
theorem dX10_multiply_21 : decode cX10_multiply 21 = .ok (.ifCond .eq 37, 3) := by decide +kernel
theorem dX10_multiply_24 : decode cX10_multiply 24 = .ok (.aload_n 0, 1) := by decide +kernel
theorem dX10_multiply_25 : decode cX10_multiply 25 = .ok (.getfield 9, 3) := by decide +kernel
theorem dX10_multiply_28 : decode cX10_multiply 28 = .ok (.aload_n 0, 1) := by decide +kernel
theorem dX10_multiply_29 : decode cX10_multiply 29 = .ok (.getfield 15, 3) := by decide +kernel
theorem dX10_multiply_32 : decode cX10_multiply 32 = .ok (.getfield 65, 3) := by decide +kernel
theorem dX10_multiply_35 : decode cX10_multiply 35 = .ok (.aload_n 0, 1) := by decide +kernel
theorem dX10_multiply_36 : decode cX10_multiply 36 = .ok (.getfield 9, 3) := by decide +kernel
theorem dX10_multiply_39 : decode cX10_multiply 39 = .ok (.aload_n 0, 1) := by decide +kernel
theorem dX10_multiply_40 : decode cX10_multiply 40 = .ok (.getfield 15, 3) := by decide +kernel
theorem dX10_multiply_43 : decode cX10_multiply 43 = .ok (.getfield 65, 3) := by decide +kernel
theorem dX10_multiply_46 : decode cX10_multiply 46 = .ok (.iconst 1, 1) := by decide +kernel
theorem dX10_multiply_47 : decode cX10_multiply 47 = .ok (.iadd, 1) := by decide +kernel
theorem dX10_multiply_48 : decode cX10_multiply 48 = .ok (.invokevirtual 68, 3) := by decide +kernel
theorem dX10_multiply_51 : decode cX10_multiply 51 = .ok (.i2l, 1) := by decide +kernel
theorem dX10_multiply_52 : decode cX10_multiply 52 = .ok (.iload_n 1, 1) := by decide +kernel
theorem dX10_multiply_53 : decode cX10_multiply 53 = .ok (.i2l, 1) := by decide +kernel
theorem dX10_multiply_54 : decode cX10_multiply 54 = .ok (.lmul, 1) := by decide +kernel
theorem dX10_multiply_55 : decode cX10_multiply 55 = .ok (.invokevirtual 114, 3) := by decide +kernel
theorem dX10_multiply_58 : decode cX10_multiply 58 = .ok (.return_, 1) := by decide +kernel
theorem dX10_multiplyHalf_0 : decode cX10_multiplyHalf 0 = .ok (.aload_n 0, 1) := by decide +kernel
theorem dX10_multiplyHalf_1 : decode cX10_multiplyHalf 1 = .ok (.iconst 2, 1) := by decide +kernel
theorem dX10_multiplyHalf_2 : decode cX10_multiplyHalf 2 = .ok (.iconst 0, 1) := by decide +kernel
theorem dX10_multiplyHalf_3 : decode cX10_multiplyHalf 3 = .ok (.invokevirtual 35, 3) := by decide +kernel
theorem dX10_multiplyHalf_6 : decode cX10_multiplyHalf 6 = .ok (.aload_n 0, 1) := by decide +kernel
theorem dX10_multiplyHalf_7 : decode cX10_multiplyHalf 7 = .ok (.getfield 9, 3) := by decide +kernel
theorem dX10_multiplyHalf_10 : decode cX10_multiplyHalf 10 = .ok (.invokevirtual 39, 3) := by decide +kernel
theorem dX10_multiplyHalf_13 : decode cX10_multiplyHalf 13 = .ok (.ifCond .eq 51, 3) := by decide +kernel
theorem dX10_multiplyHalf_16 : decode cX10_multiplyHalf 16 = .ok (.aload_n 0, 1) := by decide +kernel
theorem dX10_multiplyHalf_17 : decode cX10_multiplyHalf 17 = .ok (.getfield 9, 3) := by decide +kernel
theorem dX10_multiplyHalf_20 : decode cX10_multiplyHalf 20 = .ok (.getfield 45, 3) := by decide +kernel
theorem dX10_multiplyHalf_23 : decode cX10_multiplyHalf 23 = .ok (.aload_n 0, 1) := by decide +kernel
theorem dX10_multiplyHalf_24 : decode cX10_multiplyHalf 24 = .ok (.getfield 15, 3) := by decide +kernel
theorem dX10_multiplyHalf_27 : decode cX10_multiplyHalf 27 = .ok (.getfield 49, 3) := by decide +kernel
theorem dX10_multiplyHalf_30 : decode cX10_multiplyHalf 30 = .ok (.invokevirtual 62, 3) := by decide +kernel
theorem dX10_multiplyHalf_33 : decode cX10_multiplyHalf 33 = .ok (.istore_n 1, 1) := by decide +kernel
theorem dX10_multiplyHalf_34 : decode cX10_multiplyHalf 34 = .ok (.aload_n 0, 1) := by decide +kernel
theorem dX10_multiplyHalf_35 : decode cX10_multiplyHalf 35 = .ok (.getfield 9, 3) := by decide +kernel
theorem dX10_multiplyHalf_38 : decode cX10_multiplyHalf 38 = .ok (.aload_n 0, 1) := by decide +kernel
theorem dX10_multiplyHalf_39 : decode cX10_multiplyHalf 39 = .ok (.getfield 15, 3) := by decide +kernel
theorem dX10_multiplyHalf_42 : decode cX10_multiplyHalf 42 = .ok (.getfield 65, 3) := by decide +kernel
theorem dX10_multiplyHalf_45 : decode cX10_multiplyHalf 45 = .ok (.aload_n 0, 1) := by decide +kernel
theorem dX10_multiplyHalf_46 : decode cX10_multiplyHalf 46 = .ok (.getfield 9, 3) := by decide +kernel
theorem dX10_multiplyHalf_49 : decode cX10_multiplyHalf 49 = .ok (.aload_n 0, 1) := by decide +kernel
theorem dX10_multiplyHalf_50 : decode cX10_multiplyHalf 50 = .ok (.getfield 15, 3) := by decide +kernel
theorem dX10_multiplyHalf_53 : decode cX10_multiplyHalf 53 = .ok (.getfield 65, 3) := by decide +kernel
theorem dX10_multiplyHalf_56 : decode cX10_multiplyHalf 56 = .ok (.invokevirtual 68, 3) := by decide +kernel
theorem dX10_multiplyHalf_59 : decode cX10_multiplyHalf 59 = .ok (.iload_n 1, 1) := by decide +kernel
theorem dX10_multiplyHalf_60 : decode cX10_multiplyHalf 60 = .ok (.imul, 1) := by decide +kernel
theorem dX10_multiplyHalf_61 : decode cX10_multiplyHalf 61 = .ok (.invokevirtual 80, 3) := by decide +kernel
theorem dX10_multiplyHalf_64 : decode cX10_multiplyHalf 64 = .ok (.return_, 1) := by decide +kernel
theorem dX10_divide_0 : decode cX10_divide 0 = .ok (.aload_n 0, 1) := by decide +kernel
theorem dX10_divide_1 : decode cX10_divide 1 = .ok (.getfield 9, 3) := by decide +kernel
theorem dX10_divide_4 : decode cX10_divide 4 = .ok (.aload_n 0, 1) := by decide +kernel
theorem dX10_divide_5 : decode cX10_divide 5 = .ok (.getfield 15, 3) := by decide +kernel
theorem dX10_divide_8 : decode cX10_divide 8 = .ok (.getfield 65, 3) := by decide +kernel
theorem dX10_divide_11 : decode cX10_divide 11 = .ok (.invokevirtual 111, 3) := by decide +kernel
theorem dX10_divide_14 : decode cX10_divide 14 = .ok (.aload_n 0, 1) := by decide +kernel
theorem dX10_divide_15 : decode cX10_divide 15 = .ok (.getfield 9, 3) := by decide +kernel
theorem dX10_divide_18 : decode cX10_divide 18 = .ok (.aload_n 0, 1) := by decide +kernel
theorem dX10_divide_19 : decode cX10_divide 19 = .ok (.getfield 15, 3) := by decide +kernel
theorem dX10_divide_22 : decode cX10_divide 22 = .ok (.getfield 65, 3) := by decide +kernel
theorem dX10_divide_25 : decode cX10_divide 25 = .ok (.invokevirtual 118, 3) := by decide +kernel
theorem dX10_divide_28 : decode cX10_divide 28 = .ok (.lstore_n 2, 1) := by decide +kernel
theorem dX10_divide_29 : decode cX10_divide 29 = .ok (.iload_n 1, 1) := by decide +kernel
theorem dX10_divide_30 : decode cX10_divide 30 = .ok (.ifCond .ne 9, 3) := by decide +kernel
theorem dX10_divide_33 : decode cX10_divide 33 = .ok (.ldc2_w 124, 3) := by decide +kernel
theorem dX10_divide_36 : decode cX10_divide 36 = .ok (.goto 7, 3) := by decide +kernel
theorem dX10_divide_39 : decode cX10_divide 39 = .ok (.lload_n 2, 1) := by decide +kernel
theorem dX10_divide_40 : decode cX10_divide 40 = .ok (.iload_n 1, 1) := by decide +kernel
theorem dX10_divide_41 : decode cX10_divide 41 = .ok (.i2l, 1) := by decide +kernel
theorem dX10_divide_42 : decode cX10_divide 42 = .ok (.ldiv, 1) := by decide +kernel
theorem dX10_divide_43 : decode cX10_divide 43 = .ok (.lstore 4, 2) := by decide +kernel
theorem dX10_divide_45 : decode cX10_divide 45 = .ok (.lload 4, 2) := by decide +kernel
theorem dX10_divide_47 : decode cX10_divide 47 = .ok (.lload 4, 2) := by decide +kernel
theorem dX10_divide_49 : decode cX10_divide 49 = .ok (.l2i, 1) := by decide +kernel
theorem dX10_divide_50 : decode cX10_divide 50 = .ok (.i2l, 1) := by decide +kernel
theorem dX10_divide_51 : decode cX10_divide 51 = .ok (.lcmp, 1) := by decide +kernel
theorem dX10_divide_52 : decode cX10_divide 52 = .ok (.ifCond .eq 12, 3) := by decide +kernel
theorem dX10_divide_55 : decode cX10_divide 55 = .ok (.aload_n 0, 1) := by decide +kernel
theorem dX10_divide_56 : decode cX10_divide 56 = .ok (.getfield 9, 3) := by decide +kernel
theorem dX10_divide_59 : decode cX10_divide 59 = .ok (.bipush 9, 2) := by decide +kernel
theorem dX10_divide_61 : decode cX10_divide 61 = .ok (.invokevirtual 126, 3) := by decide +kernel
theorem dX10_divide_64 : decode cX10_divide 64 = .ok (.aload_n 0, 1) := by decide +kernel
theorem dX10_divide_65 : decode cX10_divide 65 = .ok (.getfield 9, 3) := by decide +kernel
theorem dX10_divide_68 : decode cX10_divide 68 = .ok (.invokevirtual 39, 3) := by decide +kernel
theorem dX10_divide_71 : decode cX10_divide 71 = .ok (.ifCond .eq 44, 3) := by decide +kernel
theorem dX10_divide_74 : decode cX10_divide 74 = .ok (.aload_n 0, 1) := by decide +kernel
theorem dX10_divide_75 : decode cX10_divide 75 = .ok (.getfield 9, 3) := by decide +kernel
theorem dX10_divide_78 : decode cX10_divide 78 = .ok (.aload_n 0, 1) := by decide +kernel
theorem dX10_divide_79 : decode cX10_divide 79 = .ok (.getfield 15, 3) := by decide +kernel
theorem dX10_divide_82 : decode cX10_divide 82 = .ok (.getfield 65, 3) := by decide +kernel
theorem dX10_divide_85 : decode cX10_divide 85 = .ok (.lload_n 2, 1) := by decide +kernel
theorem dX10_divide_86 : decode cX10_divide 86 = .ok (.lload 4, 2) := by decide +kernel
theorem dX10_divide_88 : decode cX10_divide 88 = .ok (.iload_n 1, 1) := by decide +kernel
theorem dX10_divide_89 : decode cX10_divide 89 = .ok (.i2l, 1) := by decide +kernel
theorem dX10_divide_90 : decode cX10_divide 90 = .ok (.lmul, 1) := by decide +kernel
theorem dX10_divide_91 : decode cX10_divide 91 = .ok (.lsub, 1) := by decide +kernel
theorem dX10_divide_92 : decode cX10_divide 92 = .ok (.l2i, 1) := by decide +kernel
theorem dX10_divide_93 : decode cX10_divide 93 = .ok (.invokevirtual 80, 3) := by decide +kernel
theorem dX10_divide_96 : decode cX10_divide 96 = .ok (.aload_n 0, 1) := by decide +kernel
theorem dX10_divide_97 : decode cX10_divide 97 = .ok (.getfield 9, 3) := by decide +kernel
theorem dX10_divide_100 : decode cX10_divide 100 = .ok (.aload_n 0, 1) := by decide +kernel
theorem dX10_divide_101 : decode cX10_divide 101 = .ok (.getfield 15, 3) := by decide +kernel
theorem dX10_divide_104 : decode cX10_divide 104 = .ok (.getfield 65, 3) := by decide +kernel
theorem dX10_divide_107 : decode cX10_divide 107 = .ok (.iconst 1, 1) := by decide +kernel
theorem dX10_divide_108 : decode cX10_divide 108 = .ok (.iadd, 1) := by decide +kernel
theorem dX10_divide_109 : decode cX10_divide 109 = .ok (.lload 4, 2) := by decide +kernel
theorem dX10_divide_111 : decode cX10_divide 111 = .ok (.l2i, 1) := by decide +kernel
theorem dX10_divide_112 : decode cX10_divide 112 = .ok (.invokevirtual 80, 3) := by decide +kernel
theorem dX10_divide_115 : decode cX10_divide 115 = .ok (.return_, 1) := by decide +kernel
theorem dX10_store_0 : decode cX10_store 0 = .ok (.aload_n 0, 1) := by decide +kernel
theorem dX10_store_1 : decode cX10_store 1 = .ok (.iload_n 1, 1) := by decide +kernel
theorem dX10_store_2 : decode cX10_store 2 = .ok (.iconst 1, 1) := by decide +kernel
theorem dX10_store_3 : decode cX10_store 3 = .ok (.invokevirtual 35, 3) := by decide +kernel
theorem dX10_store_6 : decode cX10_store 6 = .ok (.aload_n 0, 1) := by decide +kernel
theorem dX10_store_7 : decode cX10_store 7 = .ok (.getfield 9, 3) := by decide +kernel
theorem dX10_store_10 : decode cX10_store 10 = .ok (.invokevirtual 39, 3) := by decide +kernel
theorem dX10_store_13 : decode cX10_store 13 = .ok (.ifCond .eq 36, 3) := by decide +kernel
theorem dX10_store_16 : decode cX10_store 16 = .ok (.aload_n 0, 1) := by decide +kernel
theorem dX10_store_17 : decode cX10_store 17 = .ok (.getfield 9, 3) := by decide +kernel
theorem dX10_store_20 : decode cX10_store 20 = .ok (.getfield 45, 3) := by decide +kernel
theorem dX10_store_23 : decode cX10_store 23 = .ok (.aload_n 0, 1) := by decide +kernel
theorem dX10_store_24 : decode cX10_store 24 = .ok (.getfield 15, 3) := by decide +kernel
theorem dX10_store_27 : decode cX10_store 27 = .ok (.getfield 49, 3) := by decide +kernel
theorem dX10_store_30 : decode cX10_store 30 = .ok (.aload_n 0, 1) := by decide +kernel
theorem dX10_store_31 : decode cX10_store 31 = .ok (.getfield 9, 3) := by decide +kernel
theorem dX10_store_34 : decode cX10_store 34 = .ok (.aload_n 0, 1) := by decide +kernel
theorem dX10_store_35 : decode cX10_store 35 = .ok (.getfield 15, 3) := by decide +kernel
theorem dX10_store_38 : decode cX10_store 38 = .ok (.getfield 65, 3) := by decide +kernel
theorem dX10_store_41 : decode cX10_store 41 = .ok (.invokevirtual 68, 3) := by decide +kernel
theorem dX10_store_44 : decode cX10_store 44 = .ok (.i2l, 1) := by decide +kernel
theorem dX10_store_45 : decode cX10_store 45 = .ok (.iload_n 1, 1) := by decide +kernel
theorem dX10_store_46 : decode cX10_store 46 = .ok (.invokevirtual 129, 3) := by decide +kernel
theorem dX10_store_49 : decode cX10_store 49 = .ok (.return_, 1) := by decide +kernel
theorem dX10_insertByte_0 : decode cX10_insertByte 0 = .ok (.aload_n 0, 1) := by decide +kernel
theorem dX10_insertByte_1 : decode cX10_insertByte 1 = .ok (.iconst 1, 1) := by decide +kernel
theorem dX10_insertByte_2 : decode cX10_insertByte 2 = .ok (.iconst 0, 1) := by decide +kernel
theorem dX10_insertByte_3 : decode cX10_insertByte 3 = .ok (.invokevirtual 35, 3) := by decide +kernel
theorem dX10_insertByte_6 : decode cX10_insertByte 6 = .ok (.aload_n 0, 1) := by decide +kernel
theorem dX10_insertByte_7 : decode cX10_insertByte 7 = .ok (.getfield 9, 3) := by decide +kernel
theorem dX10_insertByte_10 : decode cX10_insertByte 10 = .ok (.invokevirtual 39, 3) := by decide +kernel
theorem dX10_insertByte_13 : decode cX10_insertByte 13 = .ok (.ifCond .eq 34, 3) := by decide +kernel
theorem dX10_insertByte_16 : decode cX10_insertByte 16 = .ok (.aload_n 0, 1) := by decide +kernel
theorem dX10_insertByte_17 : decode cX10_insertByte 17 = .ok (.getfield 9, 3) := by decide +kernel
theorem dX10_insertByte_20 : decode cX10_insertByte 20 = .ok (.aload_n 0, 1) := by decide +kernel
theorem dX10_insertByte_21 : decode cX10_insertByte 21 = .ok (.getfield 15, 3) := by decide +kernel
theorem dX10_insertByte_24 : decode cX10_insertByte 24 = .ok (.getfield 65, 3) := by decide +kernel
theorem dX10_insertByte_27 : decode cX10_insertByte 27 = .ok (.aload_n 0, 1) := by decide +kernel
theorem dX10_insertByte_28 : decode cX10_insertByte 28 = .ok (.getfield 9, 3) := by decide +kernel
theorem dX10_insertByte_31 : decode cX10_insertByte 31 = .ok (.getfield 45, 3) := by decide +kernel
theorem dX10_insertByte_34 : decode cX10_insertByte 34 = .ok (.aload_n 0, 1) := by decide +kernel
theorem dX10_insertByte_35 : decode cX10_insertByte 35 = .ok (.getfield 15, 3) := by decide +kernel
theorem dX10_insertByte_38 : decode cX10_insertByte 38 = .ok (.getfield 49, 3) := by decide +kernel
theorem dX10_insertByte_41 : decode cX10_insertByte 41 = .ok (.invokevirtual 133, 3) := by decide +kernel
theorem dX10_insertByte_44 : decode cX10_insertByte 44 = .ok (.invokevirtual 136, 3) := by decide +kernel
theorem dX10_insertByte_47 : decode cX10_insertByte 47 = .ok (.return_, 1) := by decide +kernel
theorem dX10_demandOperand_0 : decode cX10_demandOperand 0 = .ok (.aload_n 0, 1) := by decide +kernel
theorem dX10_demandOperand_1 : decode cX10_demandOperand 1 = .ok (.getfield 9, 3) := by decide +kernel
theorem dX10_demandOperand_4 : decode cX10_demandOperand 4 = .ok (.aload_n 0, 1) := by decide +kernel
theorem dX10_demandOperand_5 : decode cX10_demandOperand 5 = .ok (.getfield 15, 3) := by decide +kernel
theorem dX10_demandOperand_8 : decode cX10_demandOperand 8 = .ok (.getfield 49, 3) := by decide +kernel
theorem dX10_demandOperand_11 : decode cX10_demandOperand 11 = .ok (.iload_n 1, 1) := by decide +kernel
theorem dX10_demandOperand_12 : decode cX10_demandOperand 12 = .ok (.iload_n 2, 1) := by decide +kernel
theorem dX10_demandOperand_13 : decode cX10_demandOperand 13 = .ok (.invokevirtual 139, 3) := by decide +kernel
theorem dX10_demandOperand_16 : decode cX10_demandOperand 16 = .ok (.aload_n 0, 1) := by decide +kernel
theorem dX10_demandOperand_17 : decode cX10_demandOperand 17 = .ok (.getfield 9, 3) := by decide +kernel
theorem dX10_demandOperand_20 : decode cX10_demandOperand 20 = .ok (.aload_n 0, 1) := by decide +kernel
theorem dX10_demandOperand_21 : decode cX10_demandOperand 21 = .ok (.getfield 15, 3) := by decide +kernel
theorem dX10_demandOperand_24 : decode cX10_demandOperand 24 = .ok (.getfield 49, 3) := by decide +kernel
theorem dX10_demandOperand_27 : decode cX10_demandOperand 27 = .ok (.iload_n 1, 1) := by decide +kernel
theorem dX10_demandOperand_28 : decode cX10_demandOperand 28 = .ok (.invokevirtual 143, 3) := by decide +kernel
theorem dX10_demandOperand_31 : decode cX10_demandOperand 31 = .ok (.return_, 1) := by decide +kernel
theorem dX10_loadMany_0 : decode cX10_loadMany 0 = .ok (.aload_n 0, 1) := by decide +kernel
theorem dX10_loadMany_1 : decode cX10_loadMany 1 = .ok (.iconst 0, 1) := by decide +kernel
theorem dX10_loadMany_2 : decode cX10_loadMany 2 = .ok (.invokevirtual 146, 3) := by decide +kernel
theorem dX10_loadMany_5 : decode cX10_loadMany 5 = .ok (.istore_n 1, 1) := by decide +kernel
theorem dX10_loadMany_6 : decode cX10_loadMany 6 = .ok (.iconst 0, 1) := by decide +kernel
theorem dX10_loadMany_7 : decode cX10_loadMany 7 = .ok (.istore_n 2, 1) := by decide +kernel
theorem dX10_loadMany_8 : decode cX10_loadMany 8 = .ok (.iload_n 2, 1) := by decide +kernel
theorem dX10_loadMany_9 : decode cX10_loadMany 9 = .ok (.iload_n 1, 1) := by decide +kernel
theorem dX10_loadMany_10 : decode cX10_loadMany 10 = .ok (.if_icmp .ge 56, 3) := by decide +kernel
theorem dX10_loadMany_13 : decode cX10_loadMany 13 = .ok (.aload_n 0, 1) := by decide +kernel
theorem dX10_loadMany_14 : decode cX10_loadMany 14 = .ok (.getfield 9, 3) := by decide +kernel
theorem dX10_loadMany_17 : decode cX10_loadMany 17 = .ok (.invokevirtual 39, 3) := by decide +kernel
theorem dX10_loadMany_20 : decode cX10_loadMany 20 = .ok (.ifCond .eq 46, 3) := by decide +kernel
theorem dX10_loadMany_23 : decode cX10_loadMany 23 = .ok (.aload_n 0, 1) := by decide +kernel
theorem dX10_loadMany_24 : decode cX10_loadMany 24 = .ok (.getfield 9, 3) := by decide +kernel
theorem dX10_loadMany_27 : decode cX10_loadMany 27 = .ok (.aload_n 0, 1) := by decide +kernel
theorem dX10_loadMany_28 : decode cX10_loadMany 28 = .ok (.getfield 15, 3) := by decide +kernel
theorem dX10_loadMany_31 : decode cX10_loadMany 31 = .ok (.getfield 65, 3) := by decide +kernel
theorem dX10_loadMany_34 : decode cX10_loadMany 34 = .ok (.iload_n 2, 1) := by decide +kernel
theorem dX10_loadMany_35 : decode cX10_loadMany 35 = .ok (.iadd, 1) := by decide +kernel
theorem dX10_loadMany_36 : decode cX10_loadMany 36 = .ok (.aload_n 0, 1) := by decide +kernel
theorem dX10_loadMany_37 : decode cX10_loadMany 37 = .ok (.getfield 9, 3) := by decide +kernel
theorem dX10_loadMany_40 : decode cX10_loadMany 40 = .ok (.getfield 45, 3) := by decide +kernel
theorem dX10_loadMany_43 : decode cX10_loadMany 43 = .ok (.aload_n 0, 1) := by decide +kernel
theorem dX10_loadMany_44 : decode cX10_loadMany 44 = .ok (.getfield 15, 3) := by decide +kernel
theorem dX10_loadMany_47 : decode cX10_loadMany 47 = .ok (.getfield 49, 3) := by decide +kernel
theorem dX10_loadMany_50 : decode cX10_loadMany 50 = .ok (.iconst 4, 1) := by decide +kernel
theorem dX10_loadMany_51 : decode cX10_loadMany 51 = .ok (.iload_n 2, 1) := by decide +kernel
theorem dX10_loadMany_52 : decode cX10_loadMany 52 = .ok (.imul, 1) := by decide +kernel
theorem dX10_loadMany_53 : decode cX10_loadMany 53 = .ok (.iadd, 1) := by decide +kernel
theorem dX10_loadMany_54 : decode cX10_loadMany 54 = .ok (.invokevirtual 52, 3) := by decide +kernel
theorem dX10_loadMany_57 : decode cX10_loadMany 57 = .ok (.invokevirtual 80, 3) := by decide +kernel
theorem dX10_loadMany_60 : decode cX10_loadMany 60 = .ok (.iinc 2 1, 3) := by decide +kernel
theorem dX10_loadMany_63 : decode cX10_loadMany 63 = .ok (.goto (-55), 3) := by decide +kernel
theorem dX10_loadMany_66 : decode cX10_loadMany 66 = .ok (.return_, 1) := by decide +kernel
theorem dX10_storeMany_0 : decode cX10_storeMany 0 = .ok (.aload_n 0, 1) := by decide +kernel
theorem dX10_storeMany_1 : decode cX10_storeMany 1 = .ok (.iconst 1, 1) := by decide +kernel
theorem dX10_storeMany_2 : decode cX10_storeMany 2 = .ok (.invokevirtual 146, 3) := by decide +kernel
theorem dX10_storeMany_5 : decode cX10_storeMany 5 = .ok (.istore_n 1, 1) := by decide +kernel
theorem dX10_storeMany_6 : decode cX10_storeMany 6 = .ok (.iconst 0, 1) := by decide +kernel
theorem dX10_storeMany_7 : decode cX10_storeMany 7 = .ok (.istore_n 2, 1) := by decide +kernel
theorem dX10_storeMany_8 : decode cX10_storeMany 8 = .ok (.iload_n 2, 1) := by decide +kernel
theorem dX10_storeMany_9 : decode cX10_storeMany 9 = .ok (.iload_n 1, 1) := by decide +kernel
theorem dX10_storeMany_10 : decode cX10_storeMany 10 = .ok (.if_icmp .ge 58, 3) := by decide +kernel
theorem dX10_storeMany_13 : decode cX10_storeMany 13 = .ok (.aload_n 0, 1) := by decide +kernel
theorem dX10_storeMany_14 : decode cX10_storeMany 14 = .ok (.getfield 9, 3) := by decide +kernel
theorem dX10_storeMany_17 : decode cX10_storeMany 17 = .ok (.invokevirtual 39, 3) := by decide +kernel
theorem dX10_storeMany_20 : decode cX10_storeMany 20 = .ok (.ifCond .eq 48, 3) := by decide +kernel
theorem dX10_storeMany_23 : decode cX10_storeMany 23 = .ok (.aload_n 0, 1) := by decide +kernel
theorem dX10_storeMany_24 : decode cX10_storeMany 24 = .ok (.getfield 9, 3) := by decide +kernel
theorem dX10_storeMany_27 : decode cX10_storeMany 27 = .ok (.getfield 45, 3) := by decide +kernel
theorem dX10_storeMany_30 : decode cX10_storeMany 30 = .ok (.aload_n 0, 1) := by decide +kernel
theorem dX10_storeMany_31 : decode cX10_storeMany 31 = .ok (.getfield 15, 3) := by decide +kernel
theorem dX10_storeMany_34 : decode cX10_storeMany 34 = .ok (.getfield 49, 3) := by decide +kernel
theorem dX10_storeMany_37 : decode cX10_storeMany 37 = .ok (.iconst 4, 1) := by decide +kernel
theorem dX10_storeMany_38 : decode cX10_storeMany 38 = .ok (.iload_n 2, 1) := by decide +kernel
theorem dX10_storeMany_39 : decode cX10_storeMany 39 = .ok (.imul, 1) := by decide +kernel
theorem dX10_storeMany_40 : decode cX10_storeMany 40 = .ok (.iadd, 1) := by decide +kernel
theorem dX10_storeMany_41 : decode cX10_storeMany 41 = .ok (.aload_n 0, 1) := by decide +kernel
theorem dX10_storeMany_42 : decode cX10_storeMany 42 = .ok (.getfield 9, 3) := by decide +kernel
theorem dX10_storeMany_45 : decode cX10_storeMany 45 = .ok (.aload_n 0, 1) := by decide +kernel
theorem dX10_storeMany_46 : decode cX10_storeMany 46 = .ok (.getfield 15, 3) := by decide +kernel
theorem dX10_storeMany_49 : decode cX10_storeMany 49 = .ok (.getfield 65, 3) := by decide +kernel
theorem dX10_storeMany_52 : decode cX10_storeMany 52 = .ok (.iload_n 2, 1) := by decide +kernel
theorem dX10_storeMany_53 : decode cX10_storeMany 53 = .ok (.iadd, 1) := by decide +kernel
theorem dX10_storeMany_54 : decode cX10_storeMany 54 = .ok (.invokevirtual 68, 3) := by decide +kernel
theorem dX10_storeMany_57 : decode cX10_storeMany 57 = .ok (.i2l, 1) := by decide +kernel
theorem dX10_storeMany_58 : decode cX10_storeMany 58 = .ok (.iconst 4, 1) := by decide +kernel
theorem dX10_storeMany_59 : decode cX10_storeMany 59 = .ok (.invokevirtual 129, 3) := by decide +kernel
theorem dX10_storeMany_62 : decode cX10_storeMany 62 = .ok (.iinc 2 1, 3) := by decide +kernel
theorem dX10_storeMany_65 : decode cX10_storeMany 65 = .ok (.goto (-57), 3) := by decide +kernel
theorem dX10_storeMany_68 : decode cX10_storeMany 68 = .ok (.return_, 1) := by decide +kernel
theorem dX10_demandMany_0 : decode cX10_demandMany 0 = .ok (.aload_n 0, 1) := by decide +kernel
theorem dX10_demandMany_1 : decode cX10_demandMany 1 = .ok (.getfield 15, 3) := by decide +kernel
theorem dX10_demandMany_4 : decode cX10_demandMany 4 = .ok (.getfield 150, 3) := by decide +kernel
theorem dX10_demandMany_7 : decode cX10_demandMany 7 = .ok (.aload_n 0, 1) := by decide +kernel
theorem dX10_demandMany_8 : decode cX10_demandMany 8 = .ok (.getfield 15, 3) := by decide +kernel
theorem dX10_demandMany_11 : decode cX10_demandMany 11 = .ok (.getfield 65, 3) := by decide +kernel
theorem dX10_demandMany_14 : decode cX10_demandMany 14 = .ok (.isub, 1) := by decide +kernel
theorem dX10_demandMany_15 : decode cX10_demandMany 15 = .ok (.bipush 15, 2) := by decide +kernel
theorem dX10_demandMany_17 : decode cX10_demandMany 17 = .ok (.iand, 1) := by decide +kernel
theorem dX10_demandMany_18 : decode cX10_demandMany 18 = .ok (.iconst 1, 1) := by decide +kernel
theorem dX10_demandMany_19 : decode cX10_demandMany 19 = .ok (.iadd, 1) := by decide +kernel
theorem dX10_demandMany_20 : decode cX10_demandMany 20 = .ok (.istore_n 2, 1) := by decide +kernel
theorem dX10_demandMany_21 : decode cX10_demandMany 21 = .ok (.aload_n 0, 1) := by decide +kernel
theorem dX10_demandMany_22 : decode cX10_demandMany 22 = .ok (.getfield 9, 3) := by decide +kernel
theorem dX10_demandMany_25 : decode cX10_demandMany 25 = .ok (.aload_n 0, 1) := by decide +kernel
theorem dX10_demandMany_26 : decode cX10_demandMany 26 = .ok (.getfield 15, 3) := by decide +kernel
theorem dX10_demandMany_29 : decode cX10_demandMany 29 = .ok (.getfield 49, 3) := by decide +kernel
theorem dX10_demandMany_32 : decode cX10_demandMany 32 = .ok (.iconst 4, 1) := by decide +kernel
theorem dX10_demandMany_33 : decode cX10_demandMany 33 = .ok (.iload_n 2, 1) := by decide +kernel
theorem dX10_demandMany_34 : decode cX10_demandMany 34 = .ok (.imul, 1) := by decide +kernel
theorem dX10_demandMany_35 : decode cX10_demandMany 35 = .ok (.iload_n 1, 1) := by decide +kernel
theorem dX10_demandMany_36 : decode cX10_demandMany 36 = .ok (.invokevirtual 139, 3) := by decide +kernel
theorem dX10_demandMany_39 : decode cX10_demandMany 39 = .ok (.aload_n 0, 1) := by decide +kernel
theorem dX10_demandMany_40 : decode cX10_demandMany 40 = .ok (.getfield 9, 3) := by decide +kernel
theorem dX10_demandMany_43 : decode cX10_demandMany 43 = .ok (.aload_n 0, 1) := by decide +kernel
theorem dX10_demandMany_44 : decode cX10_demandMany 44 = .ok (.getfield 15, 3) := by decide +kernel
theorem dX10_demandMany_47 : decode cX10_demandMany 47 = .ok (.getfield 49, 3) := by decide +kernel
theorem dX10_demandMany_50 : decode cX10_demandMany 50 = .ok (.iconst 4, 1) := by decide +kernel
theorem dX10_demandMany_51 : decode cX10_demandMany 51 = .ok (.invokevirtual 143, 3) := by decide +kernel
theorem dX10_demandMany_54 : decode cX10_demandMany 54 = .ok (.iload_n 2, 1) := by decide +kernel
theorem dX10_demandMany_55 : decode cX10_demandMany 55 = .ok (.ireturn, 1) := by decide +kernel
theorem dX11_init_0 : decode cX11_init 0 = .ok (.aload_n 0, 1) := by decide +kernel
theorem dX11_init_1 : decode cX11_init 1 = .ok (.invokespecial 1, 3) := by decide +kernel
theorem dX11_init_4 : decode cX11_init 4 = .ok (.aload_n 0, 1) := by decide +kernel
theorem dX11_init_5 : decode cX11_init 5 = .ok (.new 7, 3) := by decide +kernel
theorem dX11_init_8 : decode cX11_init 8 = .ok (.dup, 1) := by decide +kernel
theorem dX11_init_9 : decode cX11_init 9 = .ok (.invokespecial 9, 3) := by decide +kernel
theorem dX11_init_12 : decode cX11_init 12 = .ok (.putfield 10, 3) := by decide +kernel
theorem dX11_init_15 : decode cX11_init 15 = .ok (.aload_n 0, 1) := by decide +kernel
theorem dX11_init_16 : decode cX11_init 16 = .ok (.new 16, 3) := by decide +kernel
theorem dX11_init_19 : decode cX11_init 19 = .ok (.dup, 1) := by decide +kernel
theorem dX11_init_20 : decode cX11_init 20 = .ok (.aload_n 0, 1) := by decide +kernel
theorem dX11_init_21 : decode cX11_init 21 = .ok (.getfield 10, 3) := by decide +kernel
theorem dX11_init_24 : decode cX11_init 24 = .ok (.invokespecial 18, 3) := by decide +kernel
theorem dX11_init_27 : decode cX11_init 27 = .ok (.putfield 21, 3) := by decide +kernel
theorem dX11_init_30 : decode cX11_init 30 = .ok (.aload_n 0, 1) := by decide +kernel
theorem dX11_init_31 : decode cX11_init 31 = .ok (.new 25, 3) := by decide +kernel
theorem dX11_init_34 : decode cX11_init 34 = .ok (.dup, 1) := by decide +kernel
theorem dX11_init_35 : decode cX11_init 35 = .ok (.aload_n 0, 1) := by decide +kernel
theorem dX11_init_36 : decode cX11_init 36 = .ok (.getfield 10, 3) := by decide +kernel
theorem dX11_init_39 : decode cX11_init 39 = .ok (.aload_n 0, 1) := by decide +kernel
theorem dX11_init_40 : decode cX11_init 40 = .ok (.getfield 21, 3) := by decide +kernel
theorem dX11_init_43 : decode cX11_init 43 = .ok (.invokespecial 27, 3) := by decide +kernel
theorem dX11_init_46 : decode cX11_init 46 = .ok (.putfield 30, 3) := by decide +kernel
theorem dX11_init_49 : decode cX11_init 49 = .ok (.aload_n 0, 1) := by decide +kernel
theorem dX11_init_50 : decode cX11_init 50 = .ok (.new 34, 3) := by decide +kernel
theorem dX11_init_53 : decode cX11_init 53 = .ok (.dup, 1) := by decide +kernel
theorem dX11_init_54 : decode cX11_init 54 = .ok (.aload_n 0, 1) := by decide +kernel
theorem dX11_init_55 : decode cX11_init 55 = .ok (.getfield 10, 3) := by decide +kernel
theorem dX11_init_58 : decode cX11_init 58 = .ok (.aload_n 0, 1) := by decide +kernel
theorem dX11_init_59 : decode cX11_init 59 = .ok (.getfield 21, 3) := by decide +kernel
theorem dX11_init_62 : decode cX11_init 62 = .ok (.invokespecial 36, 3) := by decide +kernel
theorem dX11_init_65 : decode cX11_init 65 = .ok (.putfield 37, 3) := by decide +kernel
theorem dX11_init_68 : decode cX11_init 68 = .ok (.aload_n 0, 1) := by decide +kernel
theorem dX11_init_69 : decode cX11_init 69 = .ok (.new 41, 3) := by decide +kernel
theorem dX11_init_72 : decode cX11_init 72 = .ok (.dup, 1) := by decide +kernel
theorem dX11_init_73 : decode cX11_init 73 = .ok (.aload_n 0, 1) := by decide +kernel
theorem dX11_init_74 : decode cX11_init 74 = .ok (.getfield 10, 3) := by decide +kernel
theorem dX11_init_77 : decode cX11_init 77 = .ok (.aload_n 0, 1) := by decide +kernel
theorem dX11_init_78 : decode cX11_init 78 = .ok (.getfield 21, 3) := by decide +kernel
theorem dX11_init_81 : decode cX11_init 81 = .ok (.invokespecial 43, 3) := by decide +kernel
theorem dX11_init_84 : decode cX11_init 84 = .ok (.putfield 44, 3) := by decide +kernel
theorem dX11_init_87 : decode cX11_init 87 = .ok (.aload_n 0, 1) := by decide +kernel
theorem dX11_init_88 : decode cX11_init 88 = .ok (.new 48, 3) := by decide +kernel
theorem dX11_init_91 : decode cX11_init 91 = .ok (.dup, 1) := by decide +kernel
theorem dX11_init_92 : decode cX11_init 92 = .ok (.aload_n 0, 1) := by decide +kernel
theorem dX11_init_93 : decode cX11_init 93 = .ok (.getfield 10, 3) := by decide +kernel
theorem dX11_init_96 : decode cX11_init 96 = .ok (.aload_n 0, 1) := by decide +kernel
theorem dX11_init_97 : decode cX11_init 97 = .ok (.getfield 21, 3) := by decide +kernel
theorem dX11_init_100 : decode cX11_init 100 = .ok (.invokespecial 50, 3) := by decide +kernel
theorem dX11_init_103 : decode cX11_init 103 = .ok (.putfield 51, 3) := by decide +kernel
theorem dX11_init_106 : decode cX11_init 106 = .ok (.aload_n 0, 1) := by decide +kernel
theorem dX11_init_107 : decode cX11_init 107 = .ok (.new 55, 3) := by decide +kernel
theorem dX11_init_110 : decode cX11_init 110 = .ok (.dup, 1) := by decide +kernel
theorem dX11_init_111 : decode cX11_init 111 = .ok (.aload_n 0, 1) := by decide +kernel
theorem dX11_init_112 : decode cX11_init 112 = .ok (.getfield 10, 3) := by decide +kernel
theorem dX11_init_115 : decode cX11_init 115 = .ok (.aload_n 0, 1) := by decide +kernel
theorem dX11_init_116 : decode cX11_init 116 = .ok (.getfield 21, 3) := by decide +kernel
theorem dX11_init_119 : decode cX11_init 119 = .ok (.invokespecial 57, 3) := by decide +kernel
theorem dX11_init_122 : decode cX11_init 122 = .ok (.putfield 58, 3) := by decide +kernel
theorem dX11_init_125 : decode cX11_init 125 = .ok (.aload_n 0, 1) := by decide +kernel
theorem dX11_init_126 : decode cX11_init 126 = .ok (.new 62, 3) := by decide +kernel
theorem dX11_init_129 : decode cX11_init 129 = .ok (.dup, 1) := by decide +kernel
theorem dX11_init_130 : decode cX11_init 130 = .ok (.aload_n 0, 1) := by decide +kernel
theorem dX11_init_131 : decode cX11_init 131 = .ok (.getfield 10, 3) := by decide +kernel
theorem dX11_init_134 : decode cX11_init 134 = .ok (.aload_n 0, 1) := by decide +kernel
theorem dX11_init_135 : decode cX11_init 135 = .ok (.getfield 21, 3) := by decide +kernel
theorem dX11_init_138 : decode cX11_init 138 = .ok (.invokespecial 64, 3) := by decide +kernel
theorem dX11_init_141 : decode cX11_init 141 = .ok (.putfield 65, 3) := by decide +kernel
theorem dX11_init_144 : decode cX11_init 144 = .ok (.aload_n 0, 1) := by decide +kernel
theorem dX11_init_145 : decode cX11_init 145 = .ok (.iconst 3, 1) := by decide +kernel
theorem dX11_init_146 : decode cX11_init 146 = .ok (.newarray .int, 2) := by decide +kernel
theorem dX11_init_148 : decode cX11_init 148 = .ok (.putfield 69, 3) := by decide +kernel
theorem dX11_init_151 : decode cX11_init 151 = .ok (.return_, 1) := by decide +kernel
theorem dX11_register_0 : decode cX11_register 0 = .ok (.iload_n 1, 1) := by decide +kernel
theorem dX11_register_1 : decode cX11_register 1 = .ok (.ifCond .lt 9, 3) := by decide +kernel
theorem dX11_register_4 : decode cX11_register 4 = .ok (.iload_n 1, 1) := by decide +kernel
theorem dX11_register_5 : decode cX11_register 5 = .ok (.bipush 15, 2) := by decide +kernel
theorem dX11_register_7 : decode cX11_register 7 = .ok (.if_icmp .le 11, 3) := by decide +kernel
theorem dX11_register_10 : decode cX11_register 10 = .ok (.new 73, 3) := by decide +kernel
theorem dX11_register_13 : decode cX11_register 13 = .ok (.dup, 1) := by decide +kernel
theorem dX11_register_14 : decode cX11_register 14 = .ok (.invokespecial 75, 3) := by decide +kernel
theorem dX11_register_17 : decode cX11_register 17 = .ok (.athrow, 1) := by decide +kernel
theorem dX11_register_18 : decode cX11_register 18 = .ok (.aload_n 0, 1) := by decide +kernel
theorem dX11_register_19 : decode cX11_register 19 = .ok (.getfield 10, 3) := by decide +kernel
theorem dX11_register_22 : decode cX11_register 22 = .ok (.iload_n 1, 1) := by decide +kernel
theorem dX11_register_23 : decode cX11_register 23 = .ok (.invokevirtual 76, 3) := by decide +kernel
theorem dX11_register_26 : decode cX11_register 26 = .ok (.ireturn, 1) := by decide +kernel
theorem dX11_put_0 : decode cX11_put 0 = .ok (.iload_n 1, 1) := by decide +kernel
theorem dX11_put_1 : decode cX11_put 1 = .ok (.ifCond .lt 9, 3) := by decide +kernel
theorem dX11_put_4 : decode cX11_put 4 = .ok (.iload_n 1, 1) := by decide +kernel
theorem dX11_put_5 : decode cX11_put 5 = .ok (.bipush 15, 2) := by decide +kernel
theorem dX11_put_7 : decode cX11_put 7 = .ok (.if_icmp .le 11, 3) := by decide +kernel
theorem dX11_put_10 : decode cX11_put 10 = .ok (.new 73, 3) := by decide +kernel
theorem dX11_put_13 : decode cX11_put 13 = .ok (.dup, 1) := by decide +kernel
theorem dX11_put_14 : decode cX11_put 14 = .ok (.invokespecial 75, 3) := by decide +kernel
theorem dX11_put_17 : decode cX11_put 17 = .ok (.athrow, 1) := by decide +kernel
theorem dX11_put_18 : decode cX11_put 18 = .ok (.aload_n 0, 1) := by decide +kernel
theorem dX11_put_19 : decode cX11_put 19 = .ok (.getfield 10, 3) := by decide +kernel
theorem dX11_put_22 : decode cX11_put 22 = .ok (.iload_n 1, 1) := by decide +kernel
theorem dX11_put_23 : decode cX11_put 23 = .ok (.iload_n 2, 1) := by decide +kernel
theorem dX11_put_24 : decode cX11_put 24 = .ok (.invokevirtual 80, 3) := by decide +kernel
theorem dX11_put_27 : decode cX11_put 27 = .ok (.return_, 1) := by decide +kernel
theorem dX11_status_0 : decode cX11_status 0 = .ok (.aload_n 0, 1) := by decide +kernel
theorem dX11_status_1 : decode cX11_status 1 = .ok (.getfield 10, 3) := by decide +kernel
theorem dX11_status_4 : decode cX11_status 4 = .ok (.getfield 84, 3) := by decide +kernel
theorem dX11_status_7 : decode cX11_status 7 = .ok (.getfield 88, 3) := by decide +kernel
theorem dX11_status_10 : decode cX11_status 10 = .ok (.lreturn, 1) := by decide +kernel
theorem dX11_load_0 : decode cX11_load 0 = .ok (.aload_n 0, 1) := by decide +kernel
theorem dX11_load_1 : decode cX11_load 1 = .ok (.getfield 10, 3) := by decide +kernel
theorem dX11_load_4 : decode cX11_load 4 = .ok (.getfield 84, 3) := by decide +kernel
theorem dX11_load_7 : decode cX11_load 7 = .ok (.lload_n 1, 1) := by decide +kernel
theorem dX11_load_8 : decode cX11_load 8 = .ok (.invokevirtual 94, 3) := by decide +kernel
theorem dX11_load_11 : decode cX11_load 11 = .ok (.return_, 1) := by decide +kernel
theorem dX11_write_0 : decode cX11_write 0 = .ok (.iload_n 1, 1) := by decide +kernel
theorem dX11_write_1 : decode cX11_write 1 = .ok (.iload 4, 2) := by decide +kernel
theorem dX11_write_3 : decode cX11_write 3 = .ok (.invokestatic 98, 3) := by decide +kernel
theorem dX11_write_6 : decode cX11_write 6 = .ok (.ifCond .ne 11, 3) := by decide +kernel
theorem dX11_write_9 : decode cX11_write 9 = .ok (.new 102, 3) := by decide +kernel
theorem dX11_write_12 : decode cX11_write 12 = .ok (.dup, 1) := by decide +kernel
theorem dX11_write_13 : decode cX11_write 13 = .ok (.invokespecial 104, 3) := by decide +kernel
theorem dX11_write_16 : decode cX11_write 16 = .ok (.athrow, 1) := by decide +kernel
theorem dX11_write_17 : decode cX11_write 17 = .ok (.aload_n 0, 1) := by decide +kernel
theorem dX11_write_18 : decode cX11_write 18 = .ok (.getfield 10, 3) := by decide +kernel
theorem dX11_write_21 : decode cX11_write 21 = .ok (.getfield 105, 3) := by decide +kernel
theorem dX11_write_24 : decode cX11_write 24 = .ok (.iload_n 1, 1) := by decide +kernel
theorem dX11_write_25 : decode cX11_write 25 = .ok (.lload_n 2, 1) := by decide +kernel
theorem dX11_write_26 : decode cX11_write 26 = .ok (.iload 4, 2) := by decide +kernel
theorem dX11_write_28 : decode cX11_write 28 = .ok (.invokevirtual 109, 3) := by decide +kernel
theorem dX11_write_31 : decode cX11_write 31 = .ok (.return_, 1) := by decide +kernel
theorem dX11_read_0 : decode cX11_read 0 = .ok (.iload_n 1, 1) := by decide +kernel
theorem dX11_read_1 : decode cX11_read 1 = .ok (.iload_n 2, 1) := by decide +kernel
theorem dX11_read_2 : decode cX11_read 2 = .ok (.invokestatic 98, 3) := by decide +kernel
theorem dX11_read_5 : decode cX11_read 5 = .ok (.ifCond .ne 11, 3) := by decide +kernel
theorem dX11_read_8 : decode cX11_read 8 = .ok (.new 102, 3) := by decide +kernel
theorem dX11_read_11 : decode cX11_read 11 = .ok (.dup, 1) := by decide +kernel
theorem dX11_read_12 : decode cX11_read 12 = .ok (.invokespecial 104, 3) := by decide +kernel
theorem dX11_read_15 : decode cX11_read 15 = .ok (.athrow, 1) := by decide +kernel
theorem dX11_read_16 : decode cX11_read 16 = .ok (.aload_n 0, 1) := by decide +kernel
theorem dX11_read_17 : decode cX11_read 17 = .ok (.getfield 10, 3) := by decide +kernel
theorem dX11_read_20 : decode cX11_read 20 = .ok (.getfield 105, 3) := by decide +kernel
theorem dX11_read_23 : decode cX11_read 23 = .ok (.iload_n 1, 1) := by decide +kernel
theorem dX11_read_24 : decode cX11_read 24 = .ok (.iload_n 2, 1) := by decide +kernel
theorem dX11_read_25 : decode cX11_read 25 = .ok (.invokevirtual 115, 3) := by decide +kernel
theorem dX11_read_28 : decode cX11_read 28 = .ok (.lreturn, 1) := by decide +kernel
theorem dX11_key_0 : decode cX11_key 0 = .ok (.iload_n 1, 1) := by decide +kernel
theorem dX11_key_1 : decode cX11_key 1 = .ok (.ifCond .lt 18, 3) := by decide +kernel
theorem dX11_key_4 : decode cX11_key 4 = .ok (.iload_n 1, 1) := by decide +kernel
theorem dX11_key_5 : decode cX11_key 5 = .ok (.iconst 3, 1) := by decide +kernel
theorem dX11_key_6 : decode cX11_key 6 = .ok (.if_icmp .gt 13, 3) := by decide +kernel
theorem dX11_key_9 : decode cX11_key 9 = .ok (.iload_n 2, 1) := by decide +kernel
theorem dX11_key_10 : decode cX11_key 10 = .ok (.ifCond .lt 9, 3) := by decide +kernel
theorem dX11_key_13 : decode cX11_key 13 = .ok (.iload_n 2, 1) := by decide +kernel
theorem dX11_key_14 : decode cX11_key 14 = .ok (.bipush 31, 2) := by decide +kernel
theorem dX11_key_16 : decode cX11_key 16 = .ok (.if_icmp .le 11, 3) := by decide +kernel
theorem dX11_key_19 : decode cX11_key 19 = .ok (.new 102, 3) := by decide +kernel
theorem dX11_key_22 : decode cX11_key 22 = .ok (.dup, 1) := by decide +kernel
theorem dX11_key_23 : decode cX11_key 23 = .ok (.invokespecial 104, 3) := by decide +kernel
theorem dX11_key_26 : decode cX11_key 26 = .ok (.athrow, 1) := by decide +kernel
theorem dX11_key_27 : decode cX11_key 27 = .ok (.aload_n 0, 1) := by decide +kernel
theorem dX11_key_28 : decode cX11_key 28 = .ok (.getfield 10, 3) := by decide +kernel
theorem dX11_key_31 : decode cX11_key 31 = .ok (.getfield 105, 3) := by decide +kernel
theorem dX11_key_34 : decode cX11_key 34 = .ok (.iload_n 1, 1) := by decide +kernel
theorem dX11_key_35 : decode cX11_key 35 = .ok (.invokevirtual 119, 3) := by decide +kernel
theorem dX11_key_38 : decode cX11_key 38 = .ok (.istore_n 3, 1) := by decide +kernel
theorem dX11_key_39 : decode cX11_key 39 = .ok (.aload_n 0, 1) := by decide +kernel
theorem dX11_key_40 : decode cX11_key 40 = .ok (.getfield 10, 3) := by decide +kernel
theorem dX11_key_43 : decode cX11_key 43 = .ok (.getfield 105, 3) := by decide +kernel
theorem dX11_key_46 : decode cX11_key 46 = .ok (.iload_n 1, 1) := by decide +kernel
theorem dX11_key_47 : decode cX11_key 47 = .ok (.iload_n 2, 1) := by decide +kernel
theorem dX11_key_48 : decode cX11_key 48 = .ok (.invokevirtual 122, 3) := by decide +kernel
theorem dX11_key_51 : decode cX11_key 51 = .ok (.iload_n 3, 1) := by decide +kernel
theorem dX11_key_52 : decode cX11_key 52 = .ok (.ireturn, 1) := by decide +kernel
theorem dX11_want_0 : decode cX11_want 0 = .ok (.iload_n 1, 1) := by decide +kernel
theorem dX11_want_1 : decode cX11_want 1 = .ok (.ifCond .lt 10, 3) := by decide +kernel
theorem dX11_want_4 : decode cX11_want 4 = .ok (.iload_n 1, 1) := by decide +kernel
theorem dX11_want_5 : decode cX11_want 5 = .ok (.sipush 255, 3) := by decide +kernel
theorem dX11_want_8 : decode cX11_want 8 = .ok (.if_icmp .le 11, 3) := by decide +kernel
theorem dX11_want_11 : decode cX11_want 11 = .ok (.new 102, 3) := by decide +kernel
theorem dX11_want_14 : decode cX11_want 14 = .ok (.dup, 1) := by decide +kernel
theorem dX11_want_15 : decode cX11_want 15 = .ok (.invokespecial 104, 3) := by decide +kernel
theorem dX11_want_18 : decode cX11_want 18 = .ok (.athrow, 1) := by decide +kernel
theorem dX11_want_19 : decode cX11_want 19 = .ok (.aload_n 0, 1) := by decide +kernel
theorem dX11_want_20 : decode cX11_want 20 = .ok (.dup, 1) := by decide +kernel
theorem dX11_want_21 : decode cX11_want 21 = .ok (.getfield 125, 3) := by decide +kernel
theorem dX11_want_24 : decode cX11_want 24 = .ok (.iload_n 1, 1) := by decide +kernel
theorem dX11_want_25 : decode cX11_want 25 = .ok (.ior, 1) := by decide +kernel
theorem dX11_want_26 : decode cX11_want 26 = .ok (.putfield 125, 3) := by decide +kernel
theorem dX11_want_29 : decode cX11_want 29 = .ok (.return_, 1) := by decide +kernel
theorem dX11_tick_0 : decode cX11_tick 0 = .ok (.iload_n 1, 1) := by decide +kernel
theorem dX11_tick_1 : decode cX11_tick 1 = .ok (.ifCond .lt 9, 3) := by decide +kernel
theorem dX11_tick_4 : decode cX11_tick 4 = .ok (.iload_n 1, 1) := by decide +kernel
theorem dX11_tick_5 : decode cX11_tick 5 = .ok (.ldc 129, 2) := by decide +kernel
theorem dX11_tick_7 : decode cX11_tick 7 = .ok (.if_icmp .le 11, 3) := by decide +kernel
theorem dX11_tick_10 : decode cX11_tick 10 = .ok (.new 102, 3) := by decide +kernel
theorem dX11_tick_13 : decode cX11_tick 13 = .ok (.dup, 1) := by decide +kernel
theorem dX11_tick_14 : decode cX11_tick 14 = .ok (.invokespecial 104, 3) := by decide +kernel
theorem dX11_tick_17 : decode cX11_tick 17 = .ok (.athrow, 1) := by decide +kernel
theorem dX11_tick_18 : decode cX11_tick 18 = .ok (.aload_n 0, 1) := by decide +kernel
theorem dX11_tick_19 : decode cX11_tick 19 = .ok (.getfield 10, 3) := by decide +kernel
theorem dX11_tick_22 : decode cX11_tick 22 = .ok (.getfield 105, 3) := by decide +kernel
theorem dX11_tick_25 : decode cX11_tick 25 = .ok (.bipush 80, 2) := by decide +kernel
theorem dX11_tick_27 : decode cX11_tick 27 = .ok (.invokevirtual 130, 3) := by decide +kernel
theorem dX11_tick_30 : decode cX11_tick 30 = .ok (.istore_n 2, 1) := by decide +kernel
theorem dX11_tick_31 : decode cX11_tick 31 = .ok (.iload_n 2, 1) := by decide +kernel
theorem dX11_tick_32 : decode cX11_tick 32 = .ok (.iload_n 1, 1) := by decide +kernel
theorem dX11_tick_33 : decode cX11_tick 33 = .ok (.isub, 1) := by decide +kernel
theorem dX11_tick_34 : decode cX11_tick 34 = .ok (.istore_n 3, 1) := by decide +kernel
theorem dX11_tick_35 : decode cX11_tick 35 = .ok (.aload_n 0, 1) := by decide +kernel
theorem dX11_tick_36 : decode cX11_tick 36 = .ok (.getfield 10, 3) := by decide +kernel
theorem dX11_tick_39 : decode cX11_tick 39 = .ok (.getfield 105, 3) := by decide +kernel
theorem dX11_tick_42 : decode cX11_tick 42 = .ok (.bipush 80, 2) := by decide +kernel
theorem dX11_tick_44 : decode cX11_tick 44 = .ok (.iload_n 3, 1) := by decide +kernel
theorem dX11_tick_45 : decode cX11_tick 45 = .ok (.i2l, 1) := by decide +kernel
theorem dX11_tick_46 : decode cX11_tick 46 = .ok (.iconst 4, 1) := by decide +kernel
theorem dX11_tick_47 : decode cX11_tick 47 = .ok (.invokevirtual 109, 3) := by decide +kernel
theorem dX11_tick_50 : decode cX11_tick 50 = .ok (.iload_n 2, 1) := by decide +kernel
theorem dX11_tick_51 : decode cX11_tick 51 = .ok (.ifCond .lt 19, 3) := by decide +kernel
theorem dX11_tick_54 : decode cX11_tick 54 = .ok (.iload_n 3, 1) := by decide +kernel
theorem dX11_tick_55 : decode cX11_tick 55 = .ok (.ifCond .ge 15, 3) := by decide +kernel
theorem dX11_tick_58 : decode cX11_tick 58 = .ok (.aload_n 0, 1) := by decide +kernel
theorem dX11_tick_59 : decode cX11_tick 59 = .ok (.dup, 1) := by decide +kernel
theorem dX11_tick_60 : decode cX11_tick 60 = .ok (.getfield 125, 3) := by decide +kernel
theorem dX11_tick_63 : decode cX11_tick 63 = .ok (.sipush 128, 3) := by decide +kernel
theorem dX11_tick_66 : decode cX11_tick 66 = .ok (.ior, 1) := by decide +kernel
theorem dX11_tick_67 : decode cX11_tick 67 = .ok (.putfield 125, 3) := by decide +kernel
theorem dX11_tick_70 : decode cX11_tick 70 = .ok (.iload_n 3, 1) := by decide +kernel
theorem dX11_tick_71 : decode cX11_tick 71 = .ok (.ireturn, 1) := by decide +kernel
theorem dX11_step_0 : decode cX11_step 0 = .ok (.iload_n 1, 1) := by decide +kernel
theorem dX11_step_1 : decode cX11_step 1 = .ok (.ifCond .lt 10, 3) := by decide +kernel
theorem dX11_step_4 : decode cX11_step 4 = .ok (.iload_n 1, 1) := by decide +kernel
theorem dX11_step_5 : decode cX11_step 5 = .ok (.sipush 3000, 3) := by decide +kernel
theorem dX11_step_8 : decode cX11_step 8 = .ok (.if_icmp .le 11, 3) := by decide +kernel
theorem dX11_step_11 : decode cX11_step 11 = .ok (.new 102, 3) := by decide +kernel
theorem dX11_step_14 : decode cX11_step 14 = .ok (.dup, 1) := by decide +kernel
theorem dX11_step_15 : decode cX11_step 15 = .ok (.invokespecial 104, 3) := by decide +kernel
theorem dX11_step_18 : decode cX11_step 18 = .ok (.athrow, 1) := by decide +kernel
theorem dX11_step_19 : decode cX11_step 19 = .ok (.iconst 0, 1) := by decide +kernel
theorem dX11_step_20 : decode cX11_step 20 = .ok (.istore_n 2, 1) := by decide +kernel
theorem dX11_step_21 : decode cX11_step 21 = .ok (.iload_n 2, 1) := by decide +kernel
theorem dX11_step_22 : decode cX11_step 22 = .ok (.iload_n 1, 1) := by decide +kernel
theorem dX11_step_23 : decode cX11_step 23 = .ok (.if_icmp .ge 20, 3) := by decide +kernel
theorem dX11_step_26 : decode cX11_step 26 = .ok (.aload_n 0, 1) := by decide +kernel
theorem dX11_step_27 : decode cX11_step 27 = .ok (.invokevirtual 132, 3) := by decide +kernel
theorem dX11_step_30 : decode cX11_step 30 = .ok (.ifCond .ne 13, 3) := by decide +kernel
theorem dX11_step_33 : decode cX11_step 33 = .ok (.aload_n 0, 1) := by decide +kernel
theorem dX11_step_34 : decode cX11_step 34 = .ok (.invokevirtual 136, 3) := by decide +kernel
theorem dX11_step_37 : decode cX11_step 37 = .ok (.iinc 2 1, 3) := by decide +kernel
theorem dX11_step_40 : decode cX11_step 40 = .ok (.goto (-19), 3) := by decide +kernel
theorem dX11_step_43 : decode cX11_step 43 = .ok (.iload_n 2, 1) := by decide +kernel
theorem dX11_step_44 : decode cX11_step 44 = .ok (.ireturn, 1) := by decide +kernel
theorem dX11_waits_0 : decode cX11_waits 0 = .ok (.aload_n 0, 1) := by decide +kernel
theorem dX11_waits_1 : decode cX11_waits 1 = .ok (.getfield 10, 3) := by decide +kernel
theorem dX11_waits_4 : decode cX11_waits 4 = .ok (.getfield 84, 3) := by decide +kernel
theorem dX11_waits_7 : decode cX11_waits 7 = .ok (.bipush 14, 2) := by decide +kernel
theorem dX11_waits_9 : decode cX11_waits 9 = .ok (.invokevirtual 139, 3) := by decide +kernel
theorem dX11_waits_12 : decode cX11_waits 12 = .ok (.ifCond .eq 14, 3) := by decide +kernel
theorem dX11_waits_15 : decode cX11_waits 15 = .ok (.aload_n 0, 1) := by decide +kernel
theorem dX11_waits_16 : decode cX11_waits 16 = .ok (.invokevirtual 143, 3) := by decide +kernel
theorem dX11_waits_19 : decode cX11_waits 19 = .ok (.ifCond .ne 7, 3) := by decide +kernel
theorem dX11_waits_22 : decode cX11_waits 22 = .ok (.iconst 1, 1) := by decide +kernel
theorem dX11_waits_23 : decode cX11_waits 23 = .ok (.goto 4, 3) := by decide +kernel
theorem dX11_waits_26 : decode cX11_waits 26 = .ok (.iconst 0, 1) := by decide +kernel
theorem dX11_waits_27 : decode cX11_waits 27 = .ok (.ireturn, 1) := by decide +kernel
theorem dX11_told_0 : decode cX11_told 0 = .ok (.iload_n 1, 1) := by decide +kernel
theorem dX11_told_1 : decode cX11_told 1 = .ok (.ifCond .lt 8, 3) := by decide +kernel
theorem dX11_told_4 : decode cX11_told 4 = .ok (.iload_n 1, 1) := by decide +kernel
theorem dX11_told_5 : decode cX11_told 5 = .ok (.iconst 2, 1) := by decide +kernel
theorem dX11_told_6 : decode cX11_told 6 = .ok (.if_icmp .le 11, 3) := by decide +kernel
theorem dX11_told_9 : decode cX11_told 9 = .ok (.new 102, 3) := by decide +kernel
theorem dX11_told_12 : decode cX11_told 12 = .ok (.dup, 1) := by decide +kernel
theorem dX11_told_13 : decode cX11_told 13 = .ok (.invokespecial 104, 3) := by decide +kernel
theorem dX11_told_16 : decode cX11_told 16 = .ok (.athrow, 1) := by decide +kernel
theorem dX11_told_17 : decode cX11_told 17 = .ok (.aload_n 0, 1) := by decide +kernel
theorem dX11_told_18 : decode cX11_told 18 = .ok (.getfield 69, 3) := by decide +kernel
theorem dX11_told_21 : decode cX11_told 21 = .ok (.iload_n 1, 1) := by decide +kernel
theorem dX11_told_22 : decode cX11_told 22 = .ok (.iaload, 1) := by decide +kernel
theorem dX11_told_23 : decode cX11_told 23 = .ok (.ireturn, 1) := by decide +kernel
theorem dX11_sum_0 : decode cX11_sum 0 = .ok (.iconst 0, 1) := by decide +kernel
theorem dX11_sum_1 : decode cX11_sum 1 = .ok (.istore_n 1, 1) := by decide +kernel
theorem dX11_sum_2 : decode cX11_sum 2 = .ok (.iconst 0, 1) := by decide +kernel
theorem dX11_sum_3 : decode cX11_sum 3 = .ok (.istore_n 2, 1) := by decide +kernel
theorem dX11_sum_4 : decode cX11_sum 4 = .ok (.iload_n 2, 1) := by decide +kernel
theorem dX11_sum_5 : decode cX11_sum 5 = .ok (.sipush 8192, 3) := by decide +kernel
theorem dX11_sum_8 : decode cX11_sum 8 = .ok (.if_icmp .ge 27, 3) := by decide +kernel
theorem dX11_sum_11 : decode cX11_sum 11 = .ok (.iload_n 1, 1) := by decide +kernel
theorem dX11_sum_12 : decode cX11_sum 12 = .ok (.aload_n 0, 1) := by decide +kernel
theorem dX11_sum_13 : decode cX11_sum 13 = .ok (.getfield 10, 3) := by decide +kernel
theorem dX11_sum_16 : decode cX11_sum 16 = .ok (.getfield 105, 3) := by decide +kernel
theorem dX11_sum_19 : decode cX11_sum 19 = .ok (.iload_n 2, 1) := by decide +kernel
theorem dX11_sum_20 : decode cX11_sum 20 = .ok (.invokevirtual 146, 3) := by decide +kernel
theorem dX11_sum_23 : decode cX11_sum 23 = .ok (.iload_n 2, 1) := by decide +kernel
theorem dX11_sum_24 : decode cX11_sum 24 = .ok (.iconst 1, 1) := by decide +kernel
theorem dX11_sum_25 : decode cX11_sum 25 = .ok (.iadd, 1) := by decide +kernel
theorem dX11_sum_26 : decode cX11_sum 26 = .ok (.imul, 1) := by decide +kernel
theorem dX11_sum_27 : decode cX11_sum 27 = .ok (.iadd, 1) := by decide +kernel
theorem dX11_sum_28 : decode cX11_sum 28 = .ok (.istore_n 1, 1) := by decide +kernel
theorem dX11_sum_29 : decode cX11_sum 29 = .ok (.iinc 2 1, 3) := by decide +kernel
theorem dX11_sum_32 : decode cX11_sum 32 = .ok (.goto (-28), 3) := by decide +kernel
theorem dX11_sum_35 : decode cX11_sum 35 = .ok (.iload_n 1, 1) := by decide +kernel
theorem dX11_sum_36 : decode cX11_sum 36 = .ok (.ireturn, 1) := by decide +kernel
theorem dX11_areBytes_0 : decode cX11_areBytes 0 = .ok (.iload_n 1, 1) := by decide +kernel
theorem dX11_areBytes_1 : decode cX11_areBytes 1 = .ok (.iconst 1, 1) := by decide +kernel
theorem dX11_areBytes_2 : decode cX11_areBytes 2 = .ok (.if_icmp .lt 26, 3) := by decide +kernel
theorem dX11_areBytes_5 : decode cX11_areBytes 5 = .ok (.iload_n 1, 1) := by decide +kernel
theorem dX11_areBytes_6 : decode cX11_areBytes 6 = .ok (.bipush 8, 2) := by decide +kernel
theorem dX11_areBytes_8 : decode cX11_areBytes 8 = .ok (.if_icmp .gt 20, 3) := by decide +kernel
theorem dX11_areBytes_11 : decode cX11_areBytes 11 = .ok (.iload_n 0, 1) := by decide +kernel
theorem dX11_areBytes_12 : decode cX11_areBytes 12 = .ok (.ifCond .lt 16, 3) := by decide +kernel
theorem dX11_areBytes_15 : decode cX11_areBytes 15 = .ok (.iload_n 0, 1) := by decide +kernel
theorem dX11_areBytes_16 : decode cX11_areBytes 16 = .ok (.sipush 8192, 3) := by decide +kernel
theorem dX11_areBytes_19 : decode cX11_areBytes 19 = .ok (.iload_n 1, 1) := by decide +kernel
theorem dX11_areBytes_20 : decode cX11_areBytes 20 = .ok (.isub, 1) := by decide +kernel
theorem dX11_areBytes_21 : decode cX11_areBytes 21 = .ok (.if_icmp .gt 7, 3) := by decide +kernel
theorem dX11_areBytes_24 : decode cX11_areBytes 24 = .ok (.iconst 1, 1) := by decide +kernel
theorem dX11_areBytes_25 : decode cX11_areBytes 25 = .ok (.goto 4, 3) := by decide +kernel
theorem dX11_areBytes_28 : decode cX11_areBytes 28 = .ok (.iconst 0, 1) := by decide +kernel
theorem dX11_areBytes_29 : decode cX11_areBytes 29 = .ok (.ireturn, 1) := by decide +kernel
theorem dX11_externalComes_0 : decode cX11_externalComes 0 = .ok (.aload_n 0, 1) := by decide +kernel
theorem dX11_externalComes_1 : decode cX11_externalComes 1 = .ok (.getfield 125, 3) := by decide +kernel
theorem dX11_externalComes_4 : decode cX11_externalComes 4 = .ok (.ifCond .eq 22, 3) := by decide +kernel
theorem dX11_externalComes_7 : decode cX11_externalComes 7 = .ok (.aload_n 0, 1) := by decide +kernel
theorem dX11_externalComes_8 : decode cX11_externalComes 8 = .ok (.getfield 10, 3) := by decide +kernel
theorem dX11_externalComes_11 : decode cX11_externalComes 11 = .ok (.getfield 84, 3) := by decide +kernel
theorem dX11_externalComes_14 : decode cX11_externalComes 14 = .ok (.bipush 7, 2) := by decide +kernel
theorem dX11_externalComes_16 : decode cX11_externalComes 16 = .ok (.invokevirtual 139, 3) := by decide +kernel
theorem dX11_externalComes_19 : decode cX11_externalComes 19 = .ok (.ifCond .eq 7, 3) := by decide +kernel
theorem dX11_externalComes_22 : decode cX11_externalComes 22 = .ok (.iconst 1, 1) := by decide +kernel
theorem dX11_externalComes_23 : decode cX11_externalComes 23 = .ok (.goto 4, 3) := by decide +kernel
theorem dX11_externalComes_26 : decode cX11_externalComes 26 = .ok (.iconst 0, 1) := by decide +kernel
theorem dX11_externalComes_27 : decode cX11_externalComes 27 = .ok (.ireturn, 1) := by decide +kernel
theorem dX11_goOn_0 : decode cX11_goOn 0 = .ok (.aload_n 0, 1) := by decide +kernel
theorem dX11_goOn_1 : decode cX11_goOn 1 = .ok (.invokevirtual 143, 3) := by decide +kernel
theorem dX11_goOn_4 : decode cX11_goOn 4 = .ok (.ifCond .eq 29, 3) := by decide +kernel
theorem dX11_goOn_7 : decode cX11_goOn 7 = .ok (.aload_n 0, 1) := by decide +kernel
theorem dX11_goOn_8 : decode cX11_goOn 8 = .ok (.getfield 10, 3) := by decide +kernel
theorem dX11_goOn_11 : decode cX11_goOn 11 = .ok (.getfield 84, 3) := by decide +kernel
theorem dX11_goOn_14 : decode cX11_goOn 14 = .ok (.iconst 0, 1) := by decide +kernel
theorem dX11_goOn_15 : decode cX11_goOn 15 = .ok (.invokevirtual 149, 3) := by decide +kernel
theorem dX11_goOn_18 : decode cX11_goOn 18 = .ok (.aload_n 0, 1) := by decide +kernel
theorem dX11_goOn_19 : decode cX11_goOn 19 = .ok (.iconst 2, 1) := by decide +kernel
theorem dX11_goOn_20 : decode cX11_goOn 20 = .ok (.aload_n 0, 1) := by decide +kernel
theorem dX11_goOn_21 : decode cX11_goOn 21 = .ok (.getfield 125, 3) := by decide +kernel
theorem dX11_goOn_24 : decode cX11_goOn 24 = .ok (.invokevirtual 153, 3) := by decide +kernel
theorem dX11_goOn_27 : decode cX11_goOn 27 = .ok (.aload_n 0, 1) := by decide +kernel
theorem dX11_goOn_28 : decode cX11_goOn 28 = .ok (.iconst 0, 1) := by decide +kernel
theorem dX11_goOn_29 : decode cX11_goOn 29 = .ok (.putfield 125, 3) := by decide +kernel
theorem dX11_goOn_32 : decode cX11_goOn 32 = .ok (.return_, 1) := by decide +kernel
theorem dX11_goOn_33 : decode cX11_goOn 33 = .ok (.aload_n 0, 1) := by decide +kernel
theorem dX11_goOn_34 : decode cX11_goOn 34 = .ok (.getfield 10, 3) := by decide +kernel
theorem dX11_goOn_37 : decode cX11_goOn 37 = .ok (.iconst 0, 1) := by decide +kernel
theorem dX11_goOn_38 : decode cX11_goOn 38 = .ok (.putfield 156, 3) := by decide +kernel
theorem dX11_goOn_41 : decode cX11_goOn 41 = .ok (.aload_n 0, 1) := by decide +kernel
theorem dX11_goOn_42 : decode cX11_goOn 42 = .ok (.invokevirtual 159, 3) := by decide +kernel
theorem dX11_goOn_45 : decode cX11_goOn 45 = .ok (.aload_n 0, 1) := by decide +kernel
theorem dX11_goOn_46 : decode cX11_goOn 46 = .ok (.getfield 10, 3) := by decide +kernel
theorem dX11_goOn_49 : decode cX11_goOn 49 = .ok (.invokevirtual 162, 3) := by decide +kernel
theorem dX11_goOn_52 : decode cX11_goOn 52 = .ok (.ifCond .eq 19, 3) := by decide +kernel
theorem dX11_goOn_55 : decode cX11_goOn 55 = .ok (.aload_n 0, 1) := by decide +kernel
theorem dX11_goOn_56 : decode cX11_goOn 56 = .ok (.getfield 21, 3) := by decide +kernel
theorem dX11_goOn_59 : decode cX11_goOn 59 = .ok (.getfield 165, 3) := by decide +kernel
theorem dX11_goOn_62 : decode cX11_goOn 62 = .ok (.bipush 68, 2) := by decide +kernel
theorem dX11_goOn_64 : decode cX11_goOn 64 = .ok (.if_icmp .ne 7, 3) := by decide +kernel
theorem dX11_goOn_67 : decode cX11_goOn 67 = .ok (.aload_n 0, 1) := by decide +kernel
theorem dX11_goOn_68 : decode cX11_goOn 68 = .ok (.invokevirtual 168, 3) := by decide +kernel
theorem dX11_goOn_71 : decode cX11_goOn 71 = .ok (.aload_n 0, 1) := by decide +kernel
theorem dX11_goOn_72 : decode cX11_goOn 72 = .ok (.getfield 10, 3) := by decide +kernel
theorem dX11_goOn_75 : decode cX11_goOn 75 = .ok (.invokevirtual 162, 3) := by decide +kernel
theorem dX11_goOn_78 : decode cX11_goOn 78 = .ok (.ifCond .eq 23, 3) := by decide +kernel
theorem dX11_goOn_81 : decode cX11_goOn 81 = .ok (.aload_n 0, 1) := by decide +kernel
theorem dX11_goOn_82 : decode cX11_goOn 82 = .ok (.getfield 21, 3) := by decide +kernel
theorem dX11_goOn_85 : decode cX11_goOn 85 = .ok (.getfield 165, 3) := by decide +kernel
theorem dX11_goOn_88 : decode cX11_goOn 88 = .ok (.sipush 128, 3) := by decide +kernel
theorem dX11_goOn_91 : decode cX11_goOn 91 = .ok (.if_icmp .ge 10, 3) := by decide +kernel
theorem dX11_goOn_94 : decode cX11_goOn 94 = .ok (.aload_n 0, 1) := by decide +kernel
theorem dX11_goOn_95 : decode cX11_goOn 95 = .ok (.invokevirtual 171, 3) := by decide +kernel
theorem dX11_goOn_98 : decode cX11_goOn 98 = .ok (.goto 17, 3) := by decide +kernel
theorem dX11_goOn_101 : decode cX11_goOn 101 = .ok (.aload_n 0, 1) := by decide +kernel
theorem dX11_goOn_102 : decode cX11_goOn 102 = .ok (.getfield 10, 3) := by decide +kernel
theorem dX11_goOn_105 : decode cX11_goOn 105 = .ok (.invokevirtual 162, 3) := by decide +kernel
theorem dX11_goOn_108 : decode cX11_goOn 108 = .ok (.ifCond .eq 7, 3) := by decide +kernel
theorem dX11_goOn_111 : decode cX11_goOn 111 = .ok (.aload_n 0, 1) := by decide +kernel
theorem dX11_goOn_112 : decode cX11_goOn 112 = .ok (.invokevirtual 174, 3) := by decide +kernel
theorem dX11_goOn_115 : decode cX11_goOn 115 = .ok (.aload_n 0, 1) := by decide +kernel
theorem dX11_goOn_116 : decode cX11_goOn 116 = .ok (.getfield 10, 3) := by decide +kernel
theorem dX11_goOn_119 : decode cX11_goOn 119 = .ok (.invokevirtual 162, 3) := by decide +kernel
theorem dX11_goOn_122 : decode cX11_goOn 122 = .ok (.ifCond .ne 15, 3) := by decide +kernel
theorem dX11_goOn_125 : decode cX11_goOn 125 = .ok (.aload_n 0, 1) := by decide +kernel
theorem dX11_goOn_126 : decode cX11_goOn 126 = .ok (.iconst 0, 1) := by decide +kernel
theorem dX11_goOn_127 : decode cX11_goOn 127 = .ok (.aload_n 0, 1) := by decide +kernel
theorem dX11_goOn_128 : decode cX11_goOn 128 = .ok (.getfield 10, 3) := by decide +kernel
theorem dX11_goOn_131 : decode cX11_goOn 131 = .ok (.getfield 156, 3) := by decide +kernel
theorem dX11_goOn_134 : decode cX11_goOn 134 = .ok (.invokevirtual 153, 3) := by decide +kernel
theorem dX11_goOn_137 : decode cX11_goOn 137 = .ok (.return_, 1) := by decide +kernel
theorem dX11_interrupt_0 : decode cX11_interrupt 0 = .ok (.aload_n 0, 1) := by decide +kernel
theorem dX11_interrupt_1 : decode cX11_interrupt 1 = .ok (.getfield 10, 3) := by decide +kernel
theorem dX11_interrupt_4 : decode cX11_interrupt 4 = .ok (.getfield 84, 3) := by decide +kernel
theorem dX11_interrupt_7 : decode cX11_interrupt 7 = .ok (.iload_n 2, 1) := by decide +kernel
theorem dX11_interrupt_8 : decode cX11_interrupt 8 = .ok (.invokevirtual 177, 3) := by decide +kernel
theorem dX11_interrupt_11 : decode cX11_interrupt 11 = .ok (.aload_n 0, 1) := by decide +kernel
theorem dX11_interrupt_12 : decode cX11_interrupt 12 = .ok (.getfield 10, 3) := by decide +kernel
theorem dX11_interrupt_15 : decode cX11_interrupt 15 = .ok (.getfield 105, 3) := by decide +kernel
theorem dX11_interrupt_18 : decode cX11_interrupt 18 = .ok (.getstatic 180, 3) := by decide +kernel
theorem dX11_interrupt_21 : decode cX11_interrupt 21 = .ok (.iload_n 1, 1) := by decide +kernel
theorem dX11_interrupt_22 : decode cX11_interrupt 22 = .ok (.iaload, 1) := by decide +kernel
theorem dX11_interrupt_23 : decode cX11_interrupt 23 = .ok (.aload_n 0, 1) := by decide +kernel
theorem dX11_interrupt_24 : decode cX11_interrupt 24 = .ok (.getfield 10, 3) := by decide +kernel
theorem dX11_interrupt_27 : decode cX11_interrupt 27 = .ok (.getfield 84, 3) := by decide +kernel
theorem dX11_interrupt_30 : decode cX11_interrupt 30 = .ok (.getfield 88, 3) := by decide +kernel
theorem dX11_interrupt_33 : decode cX11_interrupt 33 = .ok (.bipush 8, 2) := by decide +kernel
theorem dX11_interrupt_35 : decode cX11_interrupt 35 = .ok (.invokevirtual 109, 3) := by decide +kernel
theorem dX11_interrupt_38 : decode cX11_interrupt 38 = .ok (.aload_n 0, 1) := by decide +kernel
theorem dX11_interrupt_39 : decode cX11_interrupt 39 = .ok (.getfield 10, 3) := by decide +kernel
theorem dX11_interrupt_42 : decode cX11_interrupt 42 = .ok (.getfield 84, 3) := by decide +kernel
theorem dX11_interrupt_45 : decode cX11_interrupt 45 = .ok (.aload_n 0, 1) := by decide +kernel
theorem dX11_interrupt_46 : decode cX11_interrupt 46 = .ok (.getfield 10, 3) := by decide +kernel
theorem dX11_interrupt_49 : decode cX11_interrupt 49 = .ok (.getfield 105, 3) := by decide +kernel
theorem dX11_interrupt_52 : decode cX11_interrupt 52 = .ok (.getstatic 183, 3) := by decide +kernel
theorem dX11_interrupt_55 : decode cX11_interrupt 55 = .ok (.iload_n 1, 1) := by decide +kernel
theorem dX11_interrupt_56 : decode cX11_interrupt 56 = .ok (.iaload, 1) := by decide +kernel
theorem dX11_interrupt_57 : decode cX11_interrupt 57 = .ok (.bipush 8, 2) := by decide +kernel
theorem dX11_interrupt_59 : decode cX11_interrupt 59 = .ok (.invokevirtual 115, 3) := by decide +kernel
theorem dX11_interrupt_62 : decode cX11_interrupt 62 = .ok (.invokevirtual 94, 3) := by decide +kernel
theorem dX11_interrupt_65 : decode cX11_interrupt 65 = .ok (.aload_n 0, 1) := by decide +kernel
theorem dX11_interrupt_66 : decode cX11_interrupt 66 = .ok (.getfield 69, 3) := by decide +kernel
theorem dX11_interrupt_69 : decode cX11_interrupt 69 = .ok (.iload_n 1, 1) := by decide +kernel
theorem dX11_interrupt_70 : decode cX11_interrupt 70 = .ok (.dup2, 1) := by decide +kernel
theorem dX11_interrupt_71 : decode cX11_interrupt 71 = .ok (.iaload, 1) := by decide +kernel
theorem dX11_interrupt_72 : decode cX11_interrupt 72 = .ok (.iconst 1, 1) := by decide +kernel
theorem dX11_interrupt_73 : decode cX11_interrupt 73 = .ok (.iadd, 1) := by decide +kernel
theorem dX11_interrupt_74 : decode cX11_interrupt 74 = .ok (.iastore, 1) := by decide +kernel
theorem dX11_interrupt_75 : decode cX11_interrupt 75 = .ok (.return_, 1) := by decide +kernel
theorem dX11_takeInstruction_0 : decode cX11_takeInstruction 0 = .ok (.aload_n 0, 1) := by decide +kernel
theorem dX11_takeInstruction_1 : decode cX11_takeInstruction 1 = .ok (.getfield 10, 3) := by decide +kernel
theorem dX11_takeInstruction_4 : decode cX11_takeInstruction 4 = .ok (.getfield 84, 3) := by decide +kernel
theorem dX11_takeInstruction_7 : decode cX11_takeInstruction 7 = .ok (.invokevirtual 186, 3) := by decide +kernel
theorem dX11_takeInstruction_10 : decode cX11_takeInstruction 10 = .ok (.istore_n 1, 1) := by decide +kernel
theorem dX11_takeInstruction_11 : decode cX11_takeInstruction 11 = .ok (.aload_n 0, 1) := by decide +kernel
theorem dX11_takeInstruction_12 : decode cX11_takeInstruction 12 = .ok (.getfield 10, 3) := by decide +kernel
theorem dX11_takeInstruction_15 : decode cX11_takeInstruction 15 = .ok (.getfield 84, 3) := by decide +kernel
theorem dX11_takeInstruction_18 : decode cX11_takeInstruction 18 = .ok (.iconst 0, 1) := by decide +kernel
theorem dX11_takeInstruction_19 : decode cX11_takeInstruction 19 = .ok (.invokevirtual 149, 3) := by decide +kernel
theorem dX11_takeInstruction_22 : decode cX11_takeInstruction 22 = .ok (.aload_n 0, 1) := by decide +kernel
theorem dX11_takeInstruction_23 : decode cX11_takeInstruction 23 = .ok (.getfield 21, 3) := by decide +kernel
theorem dX11_takeInstruction_26 : decode cX11_takeInstruction 26 = .ok (.iload_n 1, 1) := by decide +kernel
theorem dX11_takeInstruction_27 : decode cX11_takeInstruction 27 = .ok (.invokevirtual 190, 3) := by decide +kernel
theorem dX11_takeInstruction_30 : decode cX11_takeInstruction 30 = .ok (.aload_n 0, 1) := by decide +kernel
theorem dX11_takeInstruction_31 : decode cX11_takeInstruction 31 = .ok (.getfield 10, 3) := by decide +kernel
theorem dX11_takeInstruction_34 : decode cX11_takeInstruction 34 = .ok (.invokevirtual 162, 3) := by decide +kernel
theorem dX11_takeInstruction_37 : decode cX11_takeInstruction 37 = .ok (.ifCond .ne 4, 3) := by decide +kernel
theorem dX11_takeInstruction_40 : decode cX11_takeInstruction 40 = .ok (.return_, 1) := by decide +kernel
theorem dX11_takeInstruction_41 : decode cX11_takeInstruction 41 = .ok (.aload_n 0, 1) := by decide +kernel
theorem dX11_takeInstruction_42 : decode cX11_takeInstruction 42 = .ok (.getfield 21, 3) := by decide +kernel
theorem dX11_takeInstruction_45 : decode cX11_takeInstruction 45 = .ok (.iload_n 1, 1) := by decide +kernel
theorem dX11_takeInstruction_46 : decode cX11_takeInstruction 46 = .ok (.invokevirtual 193, 3) := by decide +kernel
theorem dX11_takeInstruction_49 : decode cX11_takeInstruction 49 = .ok (.istore_n 2, 1) := by decide +kernel
theorem dX11_takeInstruction_50 : decode cX11_takeInstruction 50 = .ok (.aload_n 0, 1) := by decide +kernel
theorem dX11_takeInstruction_51 : decode cX11_takeInstruction 51 = .ok (.getfield 10, 3) := by decide +kernel
theorem dX11_takeInstruction_54 : decode cX11_takeInstruction 54 = .ok (.getfield 84, 3) := by decide +kernel
theorem dX11_takeInstruction_57 : decode cX11_takeInstruction 57 = .ok (.iload_n 2, 1) := by decide +kernel
theorem dX11_takeInstruction_58 : decode cX11_takeInstruction 58 = .ok (.invokevirtual 149, 3) := by decide +kernel
theorem dX11_takeInstruction_61 : decode cX11_takeInstruction 61 = .ok (.aload_n 0, 1) := by decide +kernel
theorem dX11_takeInstruction_62 : decode cX11_takeInstruction 62 = .ok (.getfield 10, 3) := by decide +kernel
theorem dX11_takeInstruction_65 : decode cX11_takeInstruction 65 = .ok (.getfield 84, 3) := by decide +kernel
theorem dX11_takeInstruction_68 : decode cX11_takeInstruction 68 = .ok (.iload_n 1, 1) := by decide +kernel
theorem dX11_takeInstruction_69 : decode cX11_takeInstruction 69 = .ok (.iconst 2, 1) := by decide +kernel
theorem dX11_takeInstruction_70 : decode cX11_takeInstruction 70 = .ok (.iload_n 2, 1) := by decide +kernel
theorem dX11_takeInstruction_71 : decode cX11_takeInstruction 71 = .ok (.imul, 1) := by decide +kernel
theorem dX11_takeInstruction_72 : decode cX11_takeInstruction 72 = .ok (.iadd, 1) := by decide +kernel
theorem dX11_takeInstruction_73 : decode cX11_takeInstruction 73 = .ok (.invokevirtual 196, 3) := by decide +kernel
theorem dX11_takeInstruction_76 : decode cX11_takeInstruction 76 = .ok (.aload_n 0, 1) := by decide +kernel
theorem dX11_takeInstruction_77 : decode cX11_takeInstruction 77 = .ok (.getfield 21, 3) := by decide +kernel
theorem dX11_takeInstruction_80 : decode cX11_takeInstruction 80 = .ok (.iload_n 1, 1) := by decide +kernel
theorem dX11_takeInstruction_81 : decode cX11_takeInstruction 81 = .ok (.iconst 0, 1) := by decide +kernel
theorem dX11_takeInstruction_82 : decode cX11_takeInstruction 82 = .ok (.invokevirtual 199, 3) := by decide +kernel
theorem dX11_takeInstruction_85 : decode cX11_takeInstruction 85 = .ok (.return_, 1) := by decide +kernel
theorem dX11_takeExecuted_0 : decode cX11_takeExecuted 0 = .ok (.aload_n 0, 1) := by decide +kernel
theorem dX11_takeExecuted_1 : decode cX11_takeExecuted 1 = .ok (.getfield 21, 3) := by decide +kernel
theorem dX11_takeExecuted_4 : decode cX11_takeExecuted 4 = .ok (.getfield 202, 3) := by decide +kernel
theorem dX11_takeExecuted_7 : decode cX11_takeExecuted 7 = .ok (.istore_n 1, 1) := by decide +kernel
theorem dX11_takeExecuted_8 : decode cX11_takeExecuted 8 = .ok (.aload_n 0, 1) := by decide +kernel
theorem dX11_takeExecuted_9 : decode cX11_takeExecuted 9 = .ok (.getfield 21, 3) := by decide +kernel
theorem dX11_takeExecuted_12 : decode cX11_takeExecuted 12 = .ok (.getfield 205, 3) := by decide +kernel
theorem dX11_takeExecuted_15 : decode cX11_takeExecuted 15 = .ok (.ifCond .ne 7, 3) := by decide +kernel
theorem dX11_takeExecuted_18 : decode cX11_takeExecuted 18 = .ok (.iconst 0, 1) := by decide +kernel
theorem dX11_takeExecuted_19 : decode cX11_takeExecuted 19 = .ok (.goto 21, 3) := by decide +kernel
theorem dX11_takeExecuted_22 : decode cX11_takeExecuted 22 = .ok (.aload_n 0, 1) := by decide +kernel
theorem dX11_takeExecuted_23 : decode cX11_takeExecuted 23 = .ok (.getfield 10, 3) := by decide +kernel
theorem dX11_takeExecuted_26 : decode cX11_takeExecuted 26 = .ok (.aload_n 0, 1) := by decide +kernel
theorem dX11_takeExecuted_27 : decode cX11_takeExecuted 27 = .ok (.getfield 21, 3) := by decide +kernel
theorem dX11_takeExecuted_30 : decode cX11_takeExecuted 30 = .ok (.getfield 205, 3) := by decide +kernel
theorem dX11_takeExecuted_33 : decode cX11_takeExecuted 33 = .ok (.invokevirtual 76, 3) := by decide +kernel
theorem dX11_takeExecuted_36 : decode cX11_takeExecuted 36 = .ok (.sipush 255, 3) := by decide +kernel
theorem dX11_takeExecuted_39 : decode cX11_takeExecuted 39 = .ok (.iand, 1) := by decide +kernel
theorem dX11_takeExecuted_40 : decode cX11_takeExecuted 40 = .ok (.istore_n 2, 1) := by decide +kernel
theorem dX11_takeExecuted_41 : decode cX11_takeExecuted 41 = .ok (.aload_n 0, 1) := by decide +kernel
theorem dX11_takeExecuted_42 : decode cX11_takeExecuted 42 = .ok (.getfield 21, 3) := by decide +kernel
theorem dX11_takeExecuted_45 : decode cX11_takeExecuted 45 = .ok (.iload_n 1, 1) := by decide +kernel
theorem dX11_takeExecuted_46 : decode cX11_takeExecuted 46 = .ok (.invokevirtual 190, 3) := by decide +kernel
theorem dX11_takeExecuted_49 : decode cX11_takeExecuted 49 = .ok (.aload_n 0, 1) := by decide +kernel
theorem dX11_takeExecuted_50 : decode cX11_takeExecuted 50 = .ok (.getfield 10, 3) := by decide +kernel
theorem dX11_takeExecuted_53 : decode cX11_takeExecuted 53 = .ok (.invokevirtual 162, 3) := by decide +kernel
theorem dX11_takeExecuted_56 : decode cX11_takeExecuted 56 = .ok (.ifCond .ne 4, 3) := by decide +kernel
theorem dX11_takeExecuted_59 : decode cX11_takeExecuted 59 = .ok (.return_, 1) := by decide +kernel
theorem dX11_takeExecuted_60 : decode cX11_takeExecuted 60 = .ok (.aload_n 0, 1) := by decide +kernel
theorem dX11_takeExecuted_61 : decode cX11_takeExecuted 61 = .ok (.getfield 21, 3) := by decide +kernel
theorem dX11_takeExecuted_64 : decode cX11_takeExecuted 64 = .ok (.iload_n 1, 1) := by decide +kernel
theorem dX11_takeExecuted_65 : decode cX11_takeExecuted 65 = .ok (.iload_n 2, 1) := by decide +kernel
theorem dX11_takeExecuted_66 : decode cX11_takeExecuted 66 = .ok (.invokevirtual 199, 3) := by decide +kernel
theorem dX11_takeExecuted_69 : decode cX11_takeExecuted 69 = .ok (.aload_n 0, 1) := by decide +kernel
theorem dX11_takeExecuted_70 : decode cX11_takeExecuted 70 = .ok (.getfield 10, 3) := by decide +kernel
theorem dX11_takeExecuted_73 : decode cX11_takeExecuted 73 = .ok (.invokevirtual 162, 3) := by decide +kernel
theorem dX11_takeExecuted_76 : decode cX11_takeExecuted 76 = .ok (.ifCond .eq 23, 3) := by decide +kernel
theorem dX11_takeExecuted_79 : decode cX11_takeExecuted 79 = .ok (.aload_n 0, 1) := by decide +kernel
theorem dX11_takeExecuted_80 : decode cX11_takeExecuted 80 = .ok (.getfield 21, 3) := by decide +kernel
theorem dX11_takeExecuted_83 : decode cX11_takeExecuted 83 = .ok (.getfield 165, 3) := by decide +kernel
theorem dX11_takeExecuted_86 : decode cX11_takeExecuted 86 = .ok (.bipush 68, 2) := by decide +kernel
theorem dX11_takeExecuted_88 : decode cX11_takeExecuted 88 = .ok (.if_icmp .ne 11, 3) := by decide +kernel
theorem dX11_takeExecuted_91 : decode cX11_takeExecuted 91 = .ok (.aload_n 0, 1) := by decide +kernel
theorem dX11_takeExecuted_92 : decode cX11_takeExecuted 92 = .ok (.getfield 10, 3) := by decide +kernel
theorem dX11_takeExecuted_95 : decode cX11_takeExecuted 95 = .ok (.iconst 3, 1) := by decide +kernel
theorem dX11_takeExecuted_96 : decode cX11_takeExecuted 96 = .ok (.invokevirtual 208, 3) := by decide +kernel
theorem dX11_takeExecuted_99 : decode cX11_takeExecuted 99 = .ok (.return_, 1) := by decide +kernel
theorem dX11_performLower_0 : decode cX11_performLower 0 = .ok (.aload_n 0, 1) := by decide +kernel
theorem dX11_performLower_1 : decode cX11_performLower 1 = .ok (.getfield 21, 3) := by decide +kernel
theorem dX11_performLower_4 : decode cX11_performLower 4 = .ok (.getfield 211, 3) := by decide +kernel
theorem dX11_performLower_7 : decode cX11_performLower 7 = .ok (.istore_n 1, 1) := by decide +kernel
theorem dX11_performLower_8 : decode cX11_performLower 8 = .ok (.aload_n 0, 1) := by decide +kernel
theorem dX11_performLower_9 : decode cX11_performLower 9 = .ok (.getfield 21, 3) := by decide +kernel
theorem dX11_performLower_12 : decode cX11_performLower 12 = .ok (.getfield 165, 3) := by decide +kernel
theorem dX11_performLower_15 : decode cX11_performLower 15 = .ok (.tableswitch 714 4 95 #[381, 391, 418, 445, 472, 482, 492, 714, 714, 714, 714, 714, 507, 507, 507, 507, 525, 525, 525, 525, 525, 525, 525, 525, 525, 525, 525, 525, 714, 714, 714, 714, 714, 714, 714, 714, 714, 714, 714, 714, 714, 714, 714, 714, 714, 714, 714, 714, 714, 714, 714, 714, 714, 714, 714, 714, 714, 714, 714, 714, 543, 554, 578, 589, 714, 599, 617, 635, 653, 653, 653, 653, 663, 714, 673, 683, 693, 714, 714, 714, 704, 704, 704, 704, 704, 704, 704, 704, 704, 704, 704, 704], 381) := by decide +kernel
theorem dX11_performLower_396 : decode cX11_performLower 396 = .ok (.aload_n 0, 1) := by decide +kernel
theorem dX11_performLower_397 : decode cX11_performLower 397 = .ok (.getfield 44, 3) := by decide +kernel
theorem dX11_performLower_400 : decode cX11_performLower 400 = .ok (.invokevirtual 214, 3) := by decide +kernel
theorem dX11_performLower_403 : decode cX11_performLower 403 = .ok (.goto 334, 3) := by decide +kernel
theorem dX11_performLower_406 : decode cX11_performLower 406 = .ok (.aload_n 0, 1) := by decide +kernel
theorem dX11_performLower_407 : decode cX11_performLower 407 = .ok (.getfield 44, 3) := by decide +kernel
theorem dX11_performLower_410 : decode cX11_performLower 410 = .ok (.iload_n 1, 1) := by decide +kernel
theorem dX11_performLower_411 : decode cX11_performLower 411 = .ok (.ifCond .eq 7, 3) := by decide +kernel
theorem dX11_performLower_414 : decode cX11_performLower 414 = .ok (.iconst 1, 1) := by decide +kernel
theorem dX11_performLower_415 : decode cX11_performLower 415 = .ok (.goto 4, 3) := by decide +kernel
theorem dX11_performLower_418 : decode cX11_performLower 418 = .ok (.iconst 0, 1) := by decide +kernel
theorem dX11_performLower_419 : decode cX11_performLower 419 = .ok (.aload_n 0, 1) := by decide +kernel
theorem dX11_performLower_420 : decode cX11_performLower 420 = .ok (.getfield 10, 3) := by decide +kernel
theorem dX11_performLower_423 : decode cX11_performLower 423 = .ok (.iload_n 1, 1) := by decide +kernel
theorem dX11_performLower_424 : decode cX11_performLower 424 = .ok (.invokevirtual 76, 3) := by decide +kernel
theorem dX11_performLower_427 : decode cX11_performLower 427 = .ok (.invokevirtual 217, 3) := by decide +kernel
theorem dX11_performLower_430 : decode cX11_performLower 430 = .ok (.goto 307, 3) := by decide +kernel
theorem dX11_performLower_433 : decode cX11_performLower 433 = .ok (.aload_n 0, 1) := by decide +kernel
theorem dX11_performLower_434 : decode cX11_performLower 434 = .ok (.getfield 44, 3) := by decide +kernel
theorem dX11_performLower_437 : decode cX11_performLower 437 = .ok (.iload_n 1, 1) := by decide +kernel
theorem dX11_performLower_438 : decode cX11_performLower 438 = .ok (.ifCond .eq 7, 3) := by decide +kernel
theorem dX11_performLower_441 : decode cX11_performLower 441 = .ok (.iconst 1, 1) := by decide +kernel
theorem dX11_performLower_442 : decode cX11_performLower 442 = .ok (.goto 4, 3) := by decide +kernel
theorem dX11_performLower_445 : decode cX11_performLower 445 = .ok (.iconst 0, 1) := by decide +kernel
theorem dX11_performLower_446 : decode cX11_performLower 446 = .ok (.aload_n 0, 1) := by decide +kernel
theorem dX11_performLower_447 : decode cX11_performLower 447 = .ok (.getfield 10, 3) := by decide +kernel
theorem dX11_performLower_450 : decode cX11_performLower 450 = .ok (.iload_n 1, 1) := by decide +kernel
theorem dX11_performLower_451 : decode cX11_performLower 451 = .ok (.invokevirtual 76, 3) := by decide +kernel
theorem dX11_performLower_454 : decode cX11_performLower 454 = .ok (.invokevirtual 221, 3) := by decide +kernel
theorem dX11_performLower_457 : decode cX11_performLower 457 = .ok (.goto 280, 3) := by decide +kernel
theorem dX11_performLower_460 : decode cX11_performLower 460 = .ok (.aload_n 0, 1) := by decide +kernel
theorem dX11_performLower_461 : decode cX11_performLower 461 = .ok (.getfield 44, 3) := by decide +kernel
theorem dX11_performLower_464 : decode cX11_performLower 464 = .ok (.iload_n 1, 1) := by decide +kernel
theorem dX11_performLower_465 : decode cX11_performLower 465 = .ok (.ifCond .eq 7, 3) := by decide +kernel
theorem dX11_performLower_468 : decode cX11_performLower 468 = .ok (.iconst 1, 1) := by decide +kernel
theorem dX11_performLower_469 : decode cX11_performLower 469 = .ok (.goto 4, 3) := by decide +kernel
theorem dX11_performLower_472 : decode cX11_performLower 472 = .ok (.iconst 0, 1) := by decide +kernel
theorem dX11_performLower_473 : decode cX11_performLower 473 = .ok (.aload_n 0, 1) := by decide +kernel
theorem dX11_performLower_474 : decode cX11_performLower 474 = .ok (.getfield 10, 3) := by decide +kernel
theorem dX11_performLower_477 : decode cX11_performLower 477 = .ok (.iload_n 1, 1) := by decide +kernel
theorem dX11_performLower_478 : decode cX11_performLower 478 = .ok (.invokevirtual 76, 3) := by decide +kernel
theorem dX11_performLower_481 : decode cX11_performLower 481 = .ok (.invokevirtual 224, 3) := by decide +kernel
theorem dX11_performLower_484 : decode cX11_performLower 484 = .ok (.goto 253, 3) := by decide +kernel
theorem dX11_performLower_487 : decode cX11_performLower 487 = .ok (.aload_n 0, 1) := by decide +kernel
theorem dX11_performLower_488 : decode cX11_performLower 488 = .ok (.getfield 44, 3) := by decide +kernel
theorem dX11_performLower_491 : decode cX11_performLower 491 = .ok (.invokevirtual 227, 3) := by decide +kernel
theorem dX11_performLower_494 : decode cX11_performLower 494 = .ok (.goto 243, 3) := by decide +kernel
theorem dX11_performLower_497 : decode cX11_performLower 497 = .ok (.aload_n 0, 1) := by decide +kernel
theorem dX11_performLower_498 : decode cX11_performLower 498 = .ok (.getfield 44, 3) := by decide +kernel
theorem dX11_performLower_501 : decode cX11_performLower 501 = .ok (.invokevirtual 230, 3) := by decide +kernel
theorem dX11_performLower_504 : decode cX11_performLower 504 = .ok (.goto 233, 3) := by decide +kernel
theorem dX11_performLower_507 : decode cX11_performLower 507 = .ok (.aload_n 0, 1) := by decide +kernel
theorem dX11_performLower_508 : decode cX11_performLower 508 = .ok (.iconst 1, 1) := by decide +kernel
theorem dX11_performLower_509 : decode cX11_performLower 509 = .ok (.aload_n 0, 1) := by decide +kernel
theorem dX11_performLower_510 : decode cX11_performLower 510 = .ok (.getfield 21, 3) := by decide +kernel
theorem dX11_performLower_513 : decode cX11_performLower 513 = .ok (.getfield 233, 3) := by decide +kernel
theorem dX11_performLower_516 : decode cX11_performLower 516 = .ok (.invokevirtual 153, 3) := by decide +kernel
theorem dX11_performLower_519 : decode cX11_performLower 519 = .ok (.goto 218, 3) := by decide +kernel
theorem dX11_performLower_522 : decode cX11_performLower 522 = .ok (.aload_n 0, 1) := by decide +kernel
theorem dX11_performLower_523 : decode cX11_performLower 523 = .ok (.getfield 30, 3) := by decide +kernel
theorem dX11_performLower_526 : decode cX11_performLower 526 = .ok (.aload_n 0, 1) := by decide +kernel
theorem dX11_performLower_527 : decode cX11_performLower 527 = .ok (.getfield 10, 3) := by decide +kernel
theorem dX11_performLower_530 : decode cX11_performLower 530 = .ok (.iload_n 1, 1) := by decide +kernel
theorem dX11_performLower_531 : decode cX11_performLower 531 = .ok (.invokevirtual 76, 3) := by decide +kernel
theorem dX11_performLower_534 : decode cX11_performLower 534 = .ok (.invokevirtual 236, 3) := by decide +kernel
theorem dX11_performLower_537 : decode cX11_performLower 537 = .ok (.goto 200, 3) := by decide +kernel
theorem dX11_performLower_540 : decode cX11_performLower 540 = .ok (.aload_n 0, 1) := by decide +kernel
theorem dX11_performLower_541 : decode cX11_performLower 541 = .ok (.getfield 30, 3) := by decide +kernel
theorem dX11_performLower_544 : decode cX11_performLower 544 = .ok (.aload_n 0, 1) := by decide +kernel
theorem dX11_performLower_545 : decode cX11_performLower 545 = .ok (.getfield 10, 3) := by decide +kernel
theorem dX11_performLower_548 : decode cX11_performLower 548 = .ok (.iload_n 1, 1) := by decide +kernel
theorem dX11_performLower_549 : decode cX11_performLower 549 = .ok (.invokevirtual 76, 3) := by decide +kernel
theorem dX11_performLower_552 : decode cX11_performLower 552 = .ok (.invokevirtual 239, 3) := by decide +kernel
theorem dX11_performLower_555 : decode cX11_performLower 555 = .ok (.goto 182, 3) := by decide +kernel
theorem dX11_performLower_558 : decode cX11_performLower 558 = .ok (.aload_n 0, 1) := by decide +kernel
theorem dX11_performLower_559 : decode cX11_performLower 559 = .ok (.getfield 30, 3) := by decide +kernel
theorem dX11_performLower_562 : decode cX11_performLower 562 = .ok (.iconst 2, 1) := by decide +kernel
theorem dX11_performLower_563 : decode cX11_performLower 563 = .ok (.invokevirtual 242, 3) := by decide +kernel
theorem dX11_performLower_566 : decode cX11_performLower 566 = .ok (.goto 171, 3) := by decide +kernel
theorem dX11_performLower_569 : decode cX11_performLower 569 = .ok (.aload_n 0, 1) := by decide +kernel
theorem dX11_performLower_570 : decode cX11_performLower 570 = .ok (.getfield 10, 3) := by decide +kernel
theorem dX11_performLower_573 : decode cX11_performLower 573 = .ok (.aload_n 0, 1) := by decide +kernel
theorem dX11_performLower_574 : decode cX11_performLower 574 = .ok (.getfield 21, 3) := by decide +kernel
theorem dX11_performLower_577 : decode cX11_performLower 577 = .ok (.getfield 205, 3) := by decide +kernel
theorem dX11_performLower_580 : decode cX11_performLower 580 = .ok (.aload_n 0, 1) := by decide +kernel
theorem dX11_performLower_581 : decode cX11_performLower 581 = .ok (.getfield 21, 3) := by decide +kernel
theorem dX11_performLower_584 : decode cX11_performLower 584 = .ok (.getfield 202, 3) := by decide +kernel
theorem dX11_performLower_587 : decode cX11_performLower 587 = .ok (.invokevirtual 80, 3) := by decide +kernel
theorem dX11_performLower_590 : decode cX11_performLower 590 = .ok (.goto 147, 3) := by decide +kernel
theorem dX11_performLower_593 : decode cX11_performLower 593 = .ok (.aload_n 0, 1) := by decide +kernel
theorem dX11_performLower_594 : decode cX11_performLower 594 = .ok (.getfield 30, 3) := by decide +kernel
theorem dX11_performLower_597 : decode cX11_performLower 597 = .ok (.iconst 1, 1) := by decide +kernel
theorem dX11_performLower_598 : decode cX11_performLower 598 = .ok (.invokevirtual 242, 3) := by decide +kernel
theorem dX11_performLower_601 : decode cX11_performLower 601 = .ok (.goto 136, 3) := by decide +kernel
theorem dX11_performLower_604 : decode cX11_performLower 604 = .ok (.aload_n 0, 1) := by decide +kernel
theorem dX11_performLower_605 : decode cX11_performLower 605 = .ok (.getfield 30, 3) := by decide +kernel
theorem dX11_performLower_608 : decode cX11_performLower 608 = .ok (.invokevirtual 245, 3) := by decide +kernel
theorem dX11_performLower_611 : decode cX11_performLower 611 = .ok (.goto 126, 3) := by decide +kernel
theorem dX11_performLower_614 : decode cX11_performLower 614 = .ok (.aload_n 0, 1) := by decide +kernel
theorem dX11_performLower_615 : decode cX11_performLower 615 = .ok (.getfield 44, 3) := by decide +kernel
theorem dX11_performLower_618 : decode cX11_performLower 618 = .ok (.iconst 1, 1) := by decide +kernel
theorem dX11_performLower_619 : decode cX11_performLower 619 = .ok (.aload_n 0, 1) := by decide +kernel
theorem dX11_performLower_620 : decode cX11_performLower 620 = .ok (.getfield 21, 3) := by decide +kernel
theorem dX11_performLower_623 : decode cX11_performLower 623 = .ok (.getfield 202, 3) := by decide +kernel
theorem dX11_performLower_626 : decode cX11_performLower 626 = .ok (.invokevirtual 217, 3) := by decide +kernel
theorem dX11_performLower_629 : decode cX11_performLower 629 = .ok (.goto 108, 3) := by decide +kernel
theorem dX11_performLower_632 : decode cX11_performLower 632 = .ok (.aload_n 0, 1) := by decide +kernel
theorem dX11_performLower_633 : decode cX11_performLower 633 = .ok (.getfield 44, 3) := by decide +kernel
theorem dX11_performLower_636 : decode cX11_performLower 636 = .ok (.iconst 1, 1) := by decide +kernel
theorem dX11_performLower_637 : decode cX11_performLower 637 = .ok (.aload_n 0, 1) := by decide +kernel
theorem dX11_performLower_638 : decode cX11_performLower 638 = .ok (.getfield 21, 3) := by decide +kernel
theorem dX11_performLower_641 : decode cX11_performLower 641 = .ok (.getfield 202, 3) := by decide +kernel
theorem dX11_performLower_644 : decode cX11_performLower 644 = .ok (.invokevirtual 221, 3) := by decide +kernel
theorem dX11_performLower_647 : decode cX11_performLower 647 = .ok (.goto 90, 3) := by decide +kernel
theorem dX11_performLower_650 : decode cX11_performLower 650 = .ok (.aload_n 0, 1) := by decide +kernel
theorem dX11_performLower_651 : decode cX11_performLower 651 = .ok (.getfield 44, 3) := by decide +kernel
theorem dX11_performLower_654 : decode cX11_performLower 654 = .ok (.iconst 1, 1) := by decide +kernel
theorem dX11_performLower_655 : decode cX11_performLower 655 = .ok (.aload_n 0, 1) := by decide +kernel
theorem dX11_performLower_656 : decode cX11_performLower 656 = .ok (.getfield 21, 3) := by decide +kernel
theorem dX11_performLower_659 : decode cX11_performLower 659 = .ok (.getfield 202, 3) := by decide +kernel
theorem dX11_performLower_662 : decode cX11_performLower 662 = .ok (.invokevirtual 224, 3) := by decide +kernel
theorem dX11_performLower_665 : decode cX11_performLower 665 = .ok (.goto 72, 3) := by decide +kernel
theorem dX11_performLower_668 : decode cX11_performLower 668 = .ok (.aload_n 0, 1) := by decide +kernel
theorem dX11_performLower_669 : decode cX11_performLower 669 = .ok (.getfield 30, 3) := by decide +kernel
theorem dX11_performLower_672 : decode cX11_performLower 672 = .ok (.invokevirtual 248, 3) := by decide +kernel
theorem dX11_performLower_675 : decode cX11_performLower 675 = .ok (.goto 62, 3) := by decide +kernel
theorem dX11_performLower_678 : decode cX11_performLower 678 = .ok (.aload_n 0, 1) := by decide +kernel
theorem dX11_performLower_679 : decode cX11_performLower 679 = .ok (.getfield 30, 3) := by decide +kernel
theorem dX11_performLower_682 : decode cX11_performLower 682 = .ok (.invokevirtual 251, 3) := by decide +kernel
theorem dX11_performLower_685 : decode cX11_performLower 685 = .ok (.goto 52, 3) := by decide +kernel
theorem dX11_performLower_688 : decode cX11_performLower 688 = .ok (.aload_n 0, 1) := by decide +kernel
theorem dX11_performLower_689 : decode cX11_performLower 689 = .ok (.getfield 58, 3) := by decide +kernel
theorem dX11_performLower_692 : decode cX11_performLower 692 = .ok (.invokevirtual 254, 3) := by decide +kernel
theorem dX11_performLower_695 : decode cX11_performLower 695 = .ok (.goto 42, 3) := by decide +kernel
theorem dX11_performLower_698 : decode cX11_performLower 698 = .ok (.aload_n 0, 1) := by decide +kernel
theorem dX11_performLower_699 : decode cX11_performLower 699 = .ok (.getfield 58, 3) := by decide +kernel
theorem dX11_performLower_702 : decode cX11_performLower 702 = .ok (.invokevirtual 257, 3) := by decide +kernel
theorem dX11_performLower_705 : decode cX11_performLower 705 = .ok (.goto 32, 3) := by decide +kernel
theorem dX11_performLower_708 : decode cX11_performLower 708 = .ok (.aload_n 0, 1) := by decide +kernel
theorem dX11_performLower_709 : decode cX11_performLower 709 = .ok (.getfield 30, 3) := by decide +kernel
theorem dX11_performLower_712 : decode cX11_performLower 712 = .ok (.iconst 4, 1) := by decide +kernel
theorem dX11_performLower_713 : decode cX11_performLower 713 = .ok (.invokevirtual 242, 3) := by decide +kernel
theorem dX11_performLower_716 : decode cX11_performLower 716 = .ok (.goto 21, 3) := by decide +kernel
theorem dX11_performLower_719 : decode cX11_performLower 719 = .ok (.aload_n 0, 1) := by decide +kernel
theorem dX11_performLower_720 : decode cX11_performLower 720 = .ok (.getfield 30, 3) := by decide +kernel
theorem dX11_performLower_723 : decode cX11_performLower 723 = .ok (.invokevirtual 260, 3) := by decide +kernel
theorem dX11_performLower_726 : decode cX11_performLower 726 = .ok (.goto 11, 3) := by decide +kernel
theorem dX11_performLower_729 : decode cX11_performLower 729 = .ok (.aload_n 0, 1) := by decide +kernel
theorem dX11_performLower_730 : decode cX11_performLower 730 = .ok (.getfield 10, 3) := by decide +kernel
theorem dX11_performLower_733 : decode cX11_performLower 733 = .ok (.iconst 1, 1) := by decide +kernel
theorem dX11_performLower_734 : decode cX11_performLower 734 = .ok (.invokevirtual 208, 3) := by decide +kernel
theorem dX11_performLower_737 : decode cX11_performLower 737 = .ok (.return_, 1) := by decide +kernel
theorem dX11_performUpper_0 : decode cX11_performUpper 0 = .ok (.aload_n 0, 1) := by decide +kernel
theorem dX11_performUpper_1 : decode cX11_performUpper 1 = .ok (.getfield 21, 3) := by decide +kernel
theorem dX11_performUpper_4 : decode cX11_performUpper 4 = .ok (.getfield 165, 3) := by decide +kernel
theorem dX11_performUpper_7 : decode cX11_performUpper 7 = .ok (.tableswitch 711 128 253 #[517, 711, 527, 711, 711, 711, 537, 548, 559, 559, 559, 559, 569, 569, 569, 569, 579, 589, 599, 599, 599, 589, 599, 599, 609, 711, 711, 711, 711, 711, 711, 711, 711, 711, 711, 711, 711, 711, 711, 711, 711, 711, 711, 711, 711, 711, 711, 711, 711, 711, 711, 711, 711, 711, 711, 711, 711, 711, 711, 711, 711, 711, 711, 711, 711, 711, 711, 711, 711, 711, 711, 711, 711, 711, 711, 711, 711, 711, 711, 711, 711, 619, 619, 619, 619, 629, 619, 619, 711, 711, 711, 711, 639, 649, 659, 670, 711, 711, 711, 711, 711, 711, 711, 711, 711, 711, 711, 711, 711, 711, 711, 711, 711, 681, 681, 681, 711, 711, 711, 711, 691, 691, 691, 691, 701, 701], 517) := by decide +kernel
theorem dX11_performUpper_524 : decode cX11_performUpper 524 = .ok (.aload_n 0, 1) := by decide +kernel
theorem dX11_performUpper_525 : decode cX11_performUpper 525 = .ok (.getfield 44, 3) := by decide +kernel
theorem dX11_performUpper_528 : decode cX11_performUpper 528 = .ok (.invokevirtual 263, 3) := by decide +kernel
theorem dX11_performUpper_531 : decode cX11_performUpper 531 = .ok (.goto 195, 3) := by decide +kernel
theorem dX11_performUpper_534 : decode cX11_performUpper 534 = .ok (.aload_n 0, 1) := by decide +kernel
theorem dX11_performUpper_535 : decode cX11_performUpper 535 = .ok (.getfield 44, 3) := by decide +kernel
theorem dX11_performUpper_538 : decode cX11_performUpper 538 = .ok (.invokevirtual 266, 3) := by decide +kernel
theorem dX11_performUpper_541 : decode cX11_performUpper 541 = .ok (.goto 185, 3) := by decide +kernel
theorem dX11_performUpper_544 : decode cX11_performUpper 544 = .ok (.aload_n 0, 1) := by decide +kernel
theorem dX11_performUpper_545 : decode cX11_performUpper 545 = .ok (.getfield 44, 3) := by decide +kernel
theorem dX11_performUpper_548 : decode cX11_performUpper 548 = .ok (.iconst 1, 1) := by decide +kernel
theorem dX11_performUpper_549 : decode cX11_performUpper 549 = .ok (.invokevirtual 269, 3) := by decide +kernel
theorem dX11_performUpper_552 : decode cX11_performUpper 552 = .ok (.goto 174, 3) := by decide +kernel
theorem dX11_performUpper_555 : decode cX11_performUpper 555 = .ok (.aload_n 0, 1) := by decide +kernel
theorem dX11_performUpper_556 : decode cX11_performUpper 556 = .ok (.getfield 44, 3) := by decide +kernel
theorem dX11_performUpper_559 : decode cX11_performUpper 559 = .ok (.iconst 0, 1) := by decide +kernel
theorem dX11_performUpper_560 : decode cX11_performUpper 560 = .ok (.invokevirtual 269, 3) := by decide +kernel
theorem dX11_performUpper_563 : decode cX11_performUpper 563 = .ok (.goto 163, 3) := by decide +kernel
theorem dX11_performUpper_566 : decode cX11_performUpper 566 = .ok (.aload_n 0, 1) := by decide +kernel
theorem dX11_performUpper_567 : decode cX11_performUpper 567 = .ok (.getfield 37, 3) := by decide +kernel
theorem dX11_performUpper_570 : decode cX11_performUpper 570 = .ok (.invokevirtual 273, 3) := by decide +kernel
theorem dX11_performUpper_573 : decode cX11_performUpper 573 = .ok (.goto 153, 3) := by decide +kernel
theorem dX11_performUpper_576 : decode cX11_performUpper 576 = .ok (.aload_n 0, 1) := by decide +kernel
theorem dX11_performUpper_577 : decode cX11_performUpper 577 = .ok (.getfield 37, 3) := by decide +kernel
theorem dX11_performUpper_580 : decode cX11_performUpper 580 = .ok (.invokevirtual 276, 3) := by decide +kernel
theorem dX11_performUpper_583 : decode cX11_performUpper 583 = .ok (.goto 143, 3) := by decide +kernel
theorem dX11_performUpper_586 : decode cX11_performUpper 586 = .ok (.aload_n 0, 1) := by decide +kernel
theorem dX11_performUpper_587 : decode cX11_performUpper 587 = .ok (.getfield 30, 3) := by decide +kernel
theorem dX11_performUpper_590 : decode cX11_performUpper 590 = .ok (.invokevirtual 279, 3) := by decide +kernel
theorem dX11_performUpper_593 : decode cX11_performUpper 593 = .ok (.goto 133, 3) := by decide +kernel
theorem dX11_performUpper_596 : decode cX11_performUpper 596 = .ok (.aload_n 0, 1) := by decide +kernel
theorem dX11_performUpper_597 : decode cX11_performUpper 597 = .ok (.getfield 51, 3) := by decide +kernel
theorem dX11_performUpper_600 : decode cX11_performUpper 600 = .ok (.invokevirtual 282, 3) := by decide +kernel
theorem dX11_performUpper_603 : decode cX11_performUpper 603 = .ok (.goto 123, 3) := by decide +kernel
theorem dX11_performUpper_606 : decode cX11_performUpper 606 = .ok (.aload_n 0, 1) := by decide +kernel
theorem dX11_performUpper_607 : decode cX11_performUpper 607 = .ok (.getfield 51, 3) := by decide +kernel
theorem dX11_performUpper_610 : decode cX11_performUpper 610 = .ok (.invokevirtual 285, 3) := by decide +kernel
theorem dX11_performUpper_613 : decode cX11_performUpper 613 = .ok (.goto 113, 3) := by decide +kernel
theorem dX11_performUpper_616 : decode cX11_performUpper 616 = .ok (.aload_n 0, 1) := by decide +kernel
theorem dX11_performUpper_617 : decode cX11_performUpper 617 = .ok (.getfield 30, 3) := by decide +kernel
theorem dX11_performUpper_620 : decode cX11_performUpper 620 = .ok (.invokevirtual 288, 3) := by decide +kernel
theorem dX11_performUpper_623 : decode cX11_performUpper 623 = .ok (.goto 103, 3) := by decide +kernel
theorem dX11_performUpper_626 : decode cX11_performUpper 626 = .ok (.aload_n 0, 1) := by decide +kernel
theorem dX11_performUpper_627 : decode cX11_performUpper 627 = .ok (.getfield 51, 3) := by decide +kernel
theorem dX11_performUpper_630 : decode cX11_performUpper 630 = .ok (.invokevirtual 291, 3) := by decide +kernel
theorem dX11_performUpper_633 : decode cX11_performUpper 633 = .ok (.goto 93, 3) := by decide +kernel
theorem dX11_performUpper_636 : decode cX11_performUpper 636 = .ok (.aload_n 0, 1) := by decide +kernel
theorem dX11_performUpper_637 : decode cX11_performUpper 637 = .ok (.getfield 51, 3) := by decide +kernel
theorem dX11_performUpper_640 : decode cX11_performUpper 640 = .ok (.invokevirtual 294, 3) := by decide +kernel
theorem dX11_performUpper_643 : decode cX11_performUpper 643 = .ok (.goto 83, 3) := by decide +kernel
theorem dX11_performUpper_646 : decode cX11_performUpper 646 = .ok (.aload_n 0, 1) := by decide +kernel
theorem dX11_performUpper_647 : decode cX11_performUpper 647 = .ok (.getfield 51, 3) := by decide +kernel
theorem dX11_performUpper_650 : decode cX11_performUpper 650 = .ok (.invokevirtual 297, 3) := by decide +kernel
theorem dX11_performUpper_653 : decode cX11_performUpper 653 = .ok (.goto 73, 3) := by decide +kernel
theorem dX11_performUpper_656 : decode cX11_performUpper 656 = .ok (.aload_n 0, 1) := by decide +kernel
theorem dX11_performUpper_657 : decode cX11_performUpper 657 = .ok (.getfield 51, 3) := by decide +kernel
theorem dX11_performUpper_660 : decode cX11_performUpper 660 = .ok (.invokevirtual 300, 3) := by decide +kernel
theorem dX11_performUpper_663 : decode cX11_performUpper 663 = .ok (.goto 63, 3) := by decide +kernel
theorem dX11_performUpper_666 : decode cX11_performUpper 666 = .ok (.aload_n 0, 1) := by decide +kernel
theorem dX11_performUpper_667 : decode cX11_performUpper 667 = .ok (.getfield 65, 3) := by decide +kernel
theorem dX11_performUpper_670 : decode cX11_performUpper 670 = .ok (.iconst 0, 1) := by decide +kernel
theorem dX11_performUpper_671 : decode cX11_performUpper 671 = .ok (.invokevirtual 303, 3) := by decide +kernel
theorem dX11_performUpper_674 : decode cX11_performUpper 674 = .ok (.goto 52, 3) := by decide +kernel
theorem dX11_performUpper_677 : decode cX11_performUpper 677 = .ok (.aload_n 0, 1) := by decide +kernel
theorem dX11_performUpper_678 : decode cX11_performUpper 678 = .ok (.getfield 65, 3) := by decide +kernel
theorem dX11_performUpper_681 : decode cX11_performUpper 681 = .ok (.iconst 1, 1) := by decide +kernel
theorem dX11_performUpper_682 : decode cX11_performUpper 682 = .ok (.invokevirtual 303, 3) := by decide +kernel
theorem dX11_performUpper_685 : decode cX11_performUpper 685 = .ok (.goto 41, 3) := by decide +kernel
theorem dX11_performUpper_688 : decode cX11_performUpper 688 = .ok (.aload_n 0, 1) := by decide +kernel
theorem dX11_performUpper_689 : decode cX11_performUpper 689 = .ok (.getfield 58, 3) := by decide +kernel
theorem dX11_performUpper_692 : decode cX11_performUpper 692 = .ok (.invokevirtual 306, 3) := by decide +kernel
theorem dX11_performUpper_695 : decode cX11_performUpper 695 = .ok (.goto 31, 3) := by decide +kernel
theorem dX11_performUpper_698 : decode cX11_performUpper 698 = .ok (.aload_n 0, 1) := by decide +kernel
theorem dX11_performUpper_699 : decode cX11_performUpper 699 = .ok (.getfield 58, 3) := by decide +kernel
theorem dX11_performUpper_702 : decode cX11_performUpper 702 = .ok (.invokevirtual 309, 3) := by decide +kernel
theorem dX11_performUpper_705 : decode cX11_performUpper 705 = .ok (.goto 21, 3) := by decide +kernel
theorem dX11_performUpper_708 : decode cX11_performUpper 708 = .ok (.aload_n 0, 1) := by decide +kernel
theorem dX11_performUpper_709 : decode cX11_performUpper 709 = .ok (.getfield 58, 3) := by decide +kernel
theorem dX11_performUpper_712 : decode cX11_performUpper 712 = .ok (.invokevirtual 311, 3) := by decide +kernel
theorem dX11_performUpper_715 : decode cX11_performUpper 715 = .ok (.goto 11, 3) := by decide +kernel
theorem dX11_performUpper_718 : decode cX11_performUpper 718 = .ok (.aload_n 0, 1) := by decide +kernel
theorem dX11_performUpper_719 : decode cX11_performUpper 719 = .ok (.getfield 10, 3) := by decide +kernel
theorem dX11_performUpper_722 : decode cX11_performUpper 722 = .ok (.iconst 1, 1) := by decide +kernel
theorem dX11_performUpper_723 : decode cX11_performUpper 723 = .ok (.invokevirtual 208, 3) := by decide +kernel
theorem dX11_performUpper_726 : decode cX11_performUpper 726 = .ok (.return_, 1) := by decide +kernel
theorem dX12_init_0 : decode cX12_init 0 = .ok (.aload_n 0, 1) := by decide +kernel
theorem dX12_init_1 : decode cX12_init 1 = .ok (.invokespecial 1, 3) := by decide +kernel
theorem dX12_init_4 : decode cX12_init 4 = .ok (.aload_n 0, 1) := by decide +kernel
theorem dX12_init_5 : decode cX12_init 5 = .ok (.sipush 8192, 3) := by decide +kernel
theorem dX12_init_8 : decode cX12_init 8 = .ok (.newarray .int, 2) := by decide +kernel
theorem dX12_init_10 : decode cX12_init 10 = .ok (.putfield 7, 3) := by decide +kernel
theorem dX12_init_13 : decode cX12_init 13 = .ok (.aload_n 0, 1) := by decide +kernel
theorem dX12_init_14 : decode cX12_init 14 = .ok (.iconst 4, 1) := by decide +kernel
theorem dX12_init_15 : decode cX12_init 15 = .ok (.newarray .int, 2) := by decide +kernel
theorem dX12_init_17 : decode cX12_init 17 = .ok (.putfield 13, 3) := by decide +kernel
theorem dX12_init_20 : decode cX12_init 20 = .ok (.aload_n 0, 1) := by decide +kernel
theorem dX12_init_21 : decode cX12_init 21 = .ok (.bipush 16, 2) := by decide +kernel
theorem dX12_init_23 : decode cX12_init 23 = .ok (.newarray .int, 2) := by decide +kernel
theorem dX12_init_25 : decode cX12_init 25 = .ok (.putfield 16, 3) := by decide +kernel
theorem dX12_init_28 : decode cX12_init 28 = .ok (.aload_n 0, 1) := by decide +kernel
theorem dX12_init_29 : decode cX12_init 29 = .ok (.iconst 3, 1) := by decide +kernel
theorem dX12_init_30 : decode cX12_init 30 = .ok (.newarray .int, 2) := by decide +kernel
theorem dX12_init_32 : decode cX12_init 32 = .ok (.putfield 19, 3) := by decide +kernel
theorem dX12_init_35 : decode cX12_init 35 = .ok (.aload_n 0, 1) := by decide +kernel
theorem dX12_init_36 : decode cX12_init 36 = .ok (.bipush 6, 2) := by decide +kernel
theorem dX12_init_38 : decode cX12_init 38 = .ok (.newarray .int, 2) := by decide +kernel
theorem dX12_init_40 : decode cX12_init 40 = .ok (.putfield 22, 3) := by decide +kernel
theorem dX12_init_43 : decode cX12_init 43 = .ok (.aload_n 0, 1) := by decide +kernel
theorem dX12_init_44 : decode cX12_init 44 = .ok (.bipush 80, 2) := by decide +kernel
theorem dX12_init_46 : decode cX12_init 46 = .ok (.newarray .int, 2) := by decide +kernel
theorem dX12_init_48 : decode cX12_init 48 = .ok (.putfield 25, 3) := by decide +kernel
theorem dX12_init_51 : decode cX12_init 51 = .ok (.aload_n 0, 1) := by decide +kernel
theorem dX12_init_52 : decode cX12_init 52 = .ok (.bipush 80, 2) := by decide +kernel
theorem dX12_init_54 : decode cX12_init 54 = .ok (.newarray .int, 2) := by decide +kernel
theorem dX12_init_56 : decode cX12_init 56 = .ok (.putfield 28, 3) := by decide +kernel
theorem dX12_init_59 : decode cX12_init 59 = .ok (.aload_n 0, 1) := by decide +kernel
theorem dX12_init_60 : decode cX12_init 60 = .ok (.bipush 80, 2) := by decide +kernel
theorem dX12_init_62 : decode cX12_init 62 = .ok (.newarray .int, 2) := by decide +kernel
theorem dX12_init_64 : decode cX12_init 64 = .ok (.putfield 31, 3) := by decide +kernel
theorem dX12_init_67 : decode cX12_init 67 = .ok (.aload_n 0, 1) := by decide +kernel
theorem dX12_init_68 : decode cX12_init 68 = .ok (.bipush 80, 2) := by decide +kernel
theorem dX12_init_70 : decode cX12_init 70 = .ok (.newarray .int, 2) := by decide +kernel
theorem dX12_init_72 : decode cX12_init 72 = .ok (.putfield 34, 3) := by decide +kernel
theorem dX12_init_75 : decode cX12_init 75 = .ok (.aload_n 0, 1) := by decide +kernel
theorem dX12_init_76 : decode cX12_init 76 = .ok (.sipush 512, 3) := by decide +kernel
theorem dX12_init_79 : decode cX12_init 79 = .ok (.newarray .int, 2) := by decide +kernel
theorem dX12_init_81 : decode cX12_init 81 = .ok (.putfield 37, 3) := by decide +kernel
theorem dX12_init_84 : decode cX12_init 84 = .ok (.return_, 1) := by decide +kernel
theorem dX12_register_0 : decode cX12_register 0 = .ok (.aload_n 0, 1) := by decide +kernel
theorem dX12_register_1 : decode cX12_register 1 = .ok (.iload_n 1, 1) := by decide +kernel
theorem dX12_register_2 : decode cX12_register 2 = .ok (.ifCond .lt 9, 3) := by decide +kernel
theorem dX12_register_5 : decode cX12_register 5 = .ok (.iload_n 1, 1) := by decide +kernel
theorem dX12_register_6 : decode cX12_register 6 = .ok (.bipush 15, 2) := by decide +kernel
theorem dX12_register_8 : decode cX12_register 8 = .ok (.if_icmp .le 7, 3) := by decide +kernel
theorem dX12_register_11 : decode cX12_register 11 = .ok (.iconst 1, 1) := by decide +kernel
theorem dX12_register_12 : decode cX12_register 12 = .ok (.goto 4, 3) := by decide +kernel
theorem dX12_register_15 : decode cX12_register 15 = .ok (.iconst 0, 1) := by decide +kernel
theorem dX12_register_16 : decode cX12_register 16 = .ok (.putfield 40, 3) := by decide +kernel
theorem dX12_register_19 : decode cX12_register 19 = .ok (.aload_n 0, 1) := by decide +kernel
theorem dX12_register_20 : decode cX12_register 20 = .ok (.getfield 40, 3) := by decide +kernel
theorem dX12_register_23 : decode cX12_register 23 = .ok (.ifCond .le 7, 3) := by decide +kernel
theorem dX12_register_26 : decode cX12_register 26 = .ok (.iconst 0, 1) := by decide +kernel
theorem dX12_register_27 : decode cX12_register 27 = .ok (.goto 9, 3) := by decide +kernel
theorem dX12_register_30 : decode cX12_register 30 = .ok (.aload_n 0, 1) := by decide +kernel
theorem dX12_register_31 : decode cX12_register 31 = .ok (.getfield 16, 3) := by decide +kernel
theorem dX12_register_34 : decode cX12_register 34 = .ok (.iload_n 1, 1) := by decide +kernel
theorem dX12_register_35 : decode cX12_register 35 = .ok (.iaload, 1) := by decide +kernel
theorem dX12_register_36 : decode cX12_register 36 = .ok (.ireturn, 1) := by decide +kernel
theorem dX12_put_0 : decode cX12_put 0 = .ok (.aload_n 0, 1) := by decide +kernel
theorem dX12_put_1 : decode cX12_put 1 = .ok (.iload_n 1, 1) := by decide +kernel
theorem dX12_put_2 : decode cX12_put 2 = .ok (.ifCond .lt 9, 3) := by decide +kernel
theorem dX12_put_5 : decode cX12_put 5 = .ok (.iload_n 1, 1) := by decide +kernel
theorem dX12_put_6 : decode cX12_put 6 = .ok (.bipush 15, 2) := by decide +kernel
theorem dX12_put_8 : decode cX12_put 8 = .ok (.if_icmp .le 7, 3) := by decide +kernel
theorem dX12_put_11 : decode cX12_put 11 = .ok (.iconst 1, 1) := by decide +kernel
theorem dX12_put_12 : decode cX12_put 12 = .ok (.goto 4, 3) := by decide +kernel
theorem dX12_put_15 : decode cX12_put 15 = .ok (.iconst 0, 1) := by decide +kernel
theorem dX12_put_16 : decode cX12_put 16 = .ok (.putfield 40, 3) := by decide +kernel
theorem dX12_put_19 : decode cX12_put 19 = .ok (.aload_n 0, 1) := by decide +kernel
theorem dX12_put_20 : decode cX12_put 20 = .ok (.getfield 40, 3) := by decide +kernel
theorem dX12_put_23 : decode cX12_put 23 = .ok (.ifCond .ne 10, 3) := by decide +kernel
theorem dX12_put_26 : decode cX12_put 26 = .ok (.aload_n 0, 1) := by decide +kernel
theorem dX12_put_27 : decode cX12_put 27 = .ok (.getfield 16, 3) := by decide +kernel
theorem dX12_put_30 : decode cX12_put 30 = .ok (.iload_n 1, 1) := by decide +kernel
theorem dX12_put_31 : decode cX12_put 31 = .ok (.iload_n 2, 1) := by decide +kernel
theorem dX12_put_32 : decode cX12_put 32 = .ok (.iastore, 1) := by decide +kernel
theorem dX12_put_33 : decode cX12_put 33 = .ok (.return_, 1) := by decide +kernel
theorem dX12_low_0 : decode cX12_low 0 = .ok (.aload_n 0, 1) := by decide +kernel
theorem dX12_low_1 : decode cX12_low 1 = .ok (.getfield 44, 3) := by decide +kernel
theorem dX12_low_4 : decode cX12_low 4 = .ok (.bipush 30, 2) := by decide +kernel
theorem dX12_low_6 : decode cX12_low 6 = .ok (.ishl, 1) := by decide +kernel
theorem dX12_low_7 : decode cX12_low 7 = .ok (.aload_n 0, 1) := by decide +kernel
theorem dX12_low_8 : decode cX12_low 8 = .ok (.getfield 47, 3) := by decide +kernel
theorem dX12_low_11 : decode cX12_low 11 = .ok (.bipush 28, 2) := by decide +kernel
theorem dX12_low_13 : decode cX12_low 13 = .ok (.ishl, 1) := by decide +kernel
theorem dX12_low_14 : decode cX12_low 14 = .ok (.ior, 1) := by decide +kernel
theorem dX12_low_15 : decode cX12_low 15 = .ok (.aload_n 0, 1) := by decide +kernel
theorem dX12_low_16 : decode cX12_low 16 = .ok (.getfield 50, 3) := by decide +kernel
theorem dX12_low_19 : decode cX12_low 19 = .ok (.bipush 24, 2) := by decide +kernel
theorem dX12_low_21 : decode cX12_low 21 = .ok (.ishl, 1) := by decide +kernel
theorem dX12_low_22 : decode cX12_low 22 = .ok (.ior, 1) := by decide +kernel
theorem dX12_low_23 : decode cX12_low 23 = .ok (.aload_n 0, 1) := by decide +kernel
theorem dX12_low_24 : decode cX12_low 24 = .ok (.getfield 53, 3) := by decide +kernel
theorem dX12_low_27 : decode cX12_low 27 = .ok (.ior, 1) := by decide +kernel
theorem dX12_low_28 : decode cX12_low 28 = .ok (.ireturn, 1) := by decide +kernel
theorem dX12_whole_0 : decode cX12_whole 0 = .ok (.aload_n 0, 1) := by decide +kernel
theorem dX12_whole_1 : decode cX12_whole 1 = .ok (.getfield 56, 3) := by decide +kernel
theorem dX12_whole_4 : decode cX12_whole 4 = .ok (.bipush 24, 2) := by decide +kernel
theorem dX12_whole_6 : decode cX12_whole 6 = .ok (.ishl, 1) := by decide +kernel
theorem dX12_whole_7 : decode cX12_whole 7 = .ok (.aload_n 0, 1) := by decide +kernel
theorem dX12_whole_8 : decode cX12_whole 8 = .ok (.getfield 59, 3) := by decide +kernel
theorem dX12_whole_11 : decode cX12_whole 11 = .ok (.bipush 20, 2) := by decide +kernel
theorem dX12_whole_13 : decode cX12_whole 13 = .ok (.ishl, 1) := by decide +kernel
theorem dX12_whole_14 : decode cX12_whole 14 = .ok (.ior, 1) := by decide +kernel
theorem dX12_whole_15 : decode cX12_whole 15 = .ok (.aload_n 0, 1) := by decide +kernel
theorem dX12_whole_16 : decode cX12_whole 16 = .ok (.getfield 62, 3) := by decide +kernel
theorem dX12_whole_19 : decode cX12_whole 19 = .ok (.ifCond .eq 8, 3) := by decide +kernel
theorem dX12_whole_22 : decode cX12_whole 22 = .ok (.ldc 66, 2) := by decide +kernel
theorem dX12_whole_24 : decode cX12_whole 24 = .ok (.goto 4, 3) := by decide +kernel
theorem dX12_whole_27 : decode cX12_whole 27 = .ok (.iconst 0, 1) := by decide +kernel
theorem dX12_whole_28 : decode cX12_whole 28 = .ok (.ior, 1) := by decide +kernel
theorem dX12_whole_29 : decode cX12_whole 29 = .ok (.aload_n 0, 1) := by decide +kernel
theorem dX12_whole_30 : decode cX12_whole 30 = .ok (.getfield 67, 3) := by decide +kernel
theorem dX12_whole_33 : decode cX12_whole 33 = .ok (.ifCond .eq 8, 3) := by decide +kernel
theorem dX12_whole_36 : decode cX12_whole 36 = .ok (.ldc 70, 2) := by decide +kernel
theorem dX12_whole_38 : decode cX12_whole 38 = .ok (.goto 4, 3) := by decide +kernel
theorem dX12_whole_41 : decode cX12_whole 41 = .ok (.iconst 0, 1) := by decide +kernel
theorem dX12_whole_42 : decode cX12_whole 42 = .ok (.ior, 1) := by decide +kernel
theorem dX12_whole_43 : decode cX12_whole 43 = .ok (.aload_n 0, 1) := by decide +kernel
theorem dX12_whole_44 : decode cX12_whole 44 = .ok (.getfield 71, 3) := by decide +kernel
theorem dX12_whole_47 : decode cX12_whole 47 = .ok (.ior, 1) := by decide +kernel
theorem dX12_whole_48 : decode cX12_whole 48 = .ok (.istore_n 1, 1) := by decide +kernel
theorem dX12_whole_49 : decode cX12_whole 49 = .ok (.iload_n 1, 1) := by decide +kernel
theorem dX12_whole_50 : decode cX12_whole 50 = .ok (.i2l, 1) := by decide +kernel
theorem dX12_whole_51 : decode cX12_whole 51 = .ok (.bipush 32, 2) := by decide +kernel
theorem dX12_whole_53 : decode cX12_whole 53 = .ok (.lshl, 1) := by decide +kernel
theorem dX12_whole_54 : decode cX12_whole 54 = .ok (.aload_n 0, 1) := by decide +kernel
theorem dX12_whole_55 : decode cX12_whole 55 = .ok (.invokevirtual 74, 3) := by decide +kernel
theorem dX12_whole_58 : decode cX12_whole 58 = .ok (.i2l, 1) := by decide +kernel
theorem dX12_whole_59 : decode cX12_whole 59 = .ok (.ldc2_w 78, 3) := by decide +kernel
theorem dX12_whole_62 : decode cX12_whole 62 = .ok (.land, 1) := by decide +kernel
theorem dX12_whole_63 : decode cX12_whole 63 = .ok (.lor, 1) := by decide +kernel
theorem dX12_whole_64 : decode cX12_whole 64 = .ok (.lreturn, 1) := by decide +kernel
theorem dX12_become_0 : decode cX12_become 0 = .ok (.lload_n 1, 1) := by decide +kernel
theorem dX12_become_1 : decode cX12_become 1 = .ok (.bipush 32, 2) := by decide +kernel
theorem dX12_become_3 : decode cX12_become 3 = .ok (.lushr, 1) := by decide +kernel
theorem dX12_become_4 : decode cX12_become 4 = .ok (.l2i, 1) := by decide +kernel
theorem dX12_become_5 : decode cX12_become 5 = .ok (.istore_n 3, 1) := by decide +kernel
theorem dX12_become_6 : decode cX12_become 6 = .ok (.lload_n 1, 1) := by decide +kernel
theorem dX12_become_7 : decode cX12_become 7 = .ok (.l2i, 1) := by decide +kernel
theorem dX12_become_8 : decode cX12_become 8 = .ok (.istore 4, 2) := by decide +kernel
theorem dX12_become_10 : decode cX12_become 10 = .ok (.aload_n 0, 1) := by decide +kernel
theorem dX12_become_11 : decode cX12_become 11 = .ok (.iload_n 3, 1) := by decide +kernel
theorem dX12_become_12 : decode cX12_become 12 = .ok (.bipush 24, 2) := by decide +kernel
theorem dX12_become_14 : decode cX12_become 14 = .ok (.iushr, 1) := by decide +kernel
theorem dX12_become_15 : decode cX12_become 15 = .ok (.putfield 56, 3) := by decide +kernel
theorem dX12_become_18 : decode cX12_become 18 = .ok (.aload_n 0, 1) := by decide +kernel
theorem dX12_become_19 : decode cX12_become 19 = .ok (.iload_n 3, 1) := by decide +kernel
theorem dX12_become_20 : decode cX12_become 20 = .ok (.bipush 20, 2) := by decide +kernel
theorem dX12_become_22 : decode cX12_become 22 = .ok (.ishr, 1) := by decide +kernel
theorem dX12_become_23 : decode cX12_become 23 = .ok (.bipush 15, 2) := by decide +kernel
theorem dX12_become_25 : decode cX12_become 25 = .ok (.iand, 1) := by decide +kernel
theorem dX12_become_26 : decode cX12_become 26 = .ok (.putfield 59, 3) := by decide +kernel
theorem dX12_become_29 : decode cX12_become 29 = .ok (.aload_n 0, 1) := by decide +kernel
theorem dX12_become_30 : decode cX12_become 30 = .ok (.iload_n 3, 1) := by decide +kernel
theorem dX12_become_31 : decode cX12_become 31 = .ok (.ldc 66, 2) := by decide +kernel
theorem dX12_become_33 : decode cX12_become 33 = .ok (.iand, 1) := by decide +kernel
theorem dX12_become_34 : decode cX12_become 34 = .ok (.ifCond .eq 7, 3) := by decide +kernel
theorem dX12_become_37 : decode cX12_become 37 = .ok (.iconst 1, 1) := by decide +kernel
theorem dX12_become_38 : decode cX12_become 38 = .ok (.goto 4, 3) := by decide +kernel
theorem dX12_become_41 : decode cX12_become 41 = .ok (.iconst 0, 1) := by decide +kernel
theorem dX12_become_42 : decode cX12_become 42 = .ok (.putfield 62, 3) := by decide +kernel
theorem dX12_become_45 : decode cX12_become 45 = .ok (.aload_n 0, 1) := by decide +kernel
theorem dX12_become_46 : decode cX12_become 46 = .ok (.iload_n 3, 1) := by decide +kernel
theorem dX12_become_47 : decode cX12_become 47 = .ok (.ldc 70, 2) := by decide +kernel
theorem dX12_become_49 : decode cX12_become 49 = .ok (.iand, 1) := by decide +kernel
theorem dX12_become_50 : decode cX12_become 50 = .ok (.ifCond .eq 7, 3) := by decide +kernel
theorem dX12_become_53 : decode cX12_become 53 = .ok (.iconst 1, 1) := by decide +kernel
theorem dX12_become_54 : decode cX12_become 54 = .ok (.goto 4, 3) := by decide +kernel
theorem dX12_become_57 : decode cX12_become 57 = .ok (.iconst 0, 1) := by decide +kernel
theorem dX12_become_58 : decode cX12_become 58 = .ok (.putfield 67, 3) := by decide +kernel
theorem dX12_become_61 : decode cX12_become 61 = .ok (.aload_n 0, 1) := by decide +kernel
theorem dX12_become_62 : decode cX12_become 62 = .ok (.iload_n 3, 1) := by decide +kernel
theorem dX12_become_63 : decode cX12_become 63 = .ok (.ldc 80, 2) := by decide +kernel
theorem dX12_become_65 : decode cX12_become 65 = .ok (.iand, 1) := by decide +kernel
theorem dX12_become_66 : decode cX12_become 66 = .ok (.putfield 71, 3) := by decide +kernel
theorem dX12_become_69 : decode cX12_become 69 = .ok (.aload_n 0, 1) := by decide +kernel
theorem dX12_become_70 : decode cX12_become 70 = .ok (.iload 4, 2) := by decide +kernel
theorem dX12_become_72 : decode cX12_become 72 = .ok (.bipush 30, 2) := by decide +kernel
theorem dX12_become_74 : decode cX12_become 74 = .ok (.iushr, 1) := by decide +kernel
theorem dX12_become_75 : decode cX12_become 75 = .ok (.putfield 44, 3) := by decide +kernel
theorem dX12_become_78 : decode cX12_become 78 = .ok (.aload_n 0, 1) := by decide +kernel
theorem dX12_become_79 : decode cX12_become 79 = .ok (.iload 4, 2) := by decide +kernel
theorem dX12_become_81 : decode cX12_become 81 = .ok (.bipush 28, 2) := by decide +kernel
theorem dX12_become_83 : decode cX12_become 83 = .ok (.ishr, 1) := by decide +kernel
theorem dX12_become_84 : decode cX12_become 84 = .ok (.iconst 3, 1) := by decide +kernel
theorem dX12_become_85 : decode cX12_become 85 = .ok (.iand, 1) := by decide +kernel
theorem dX12_become_86 : decode cX12_become 86 = .ok (.putfield 47, 3) := by decide +kernel
theorem dX12_become_89 : decode cX12_become 89 = .ok (.aload_n 0, 1) := by decide +kernel
theorem dX12_become_90 : decode cX12_become 90 = .ok (.iload 4, 2) := by decide +kernel
theorem dX12_become_92 : decode cX12_become 92 = .ok (.bipush 24, 2) := by decide +kernel
theorem dX12_become_94 : decode cX12_become 94 = .ok (.ishr, 1) := by decide +kernel
theorem dX12_become_95 : decode cX12_become 95 = .ok (.bipush 15, 2) := by decide +kernel
theorem dX12_become_97 : decode cX12_become 97 = .ok (.iand, 1) := by decide +kernel
theorem dX12_become_98 : decode cX12_become 98 = .ok (.putfield 50, 3) := by decide +kernel
theorem dX12_become_101 : decode cX12_become 101 = .ok (.aload_n 0, 1) := by decide +kernel
theorem dX12_become_102 : decode cX12_become 102 = .ok (.iload 4, 2) := by decide +kernel
theorem dX12_become_104 : decode cX12_become 104 = .ok (.ldc 81, 2) := by decide +kernel
theorem dX12_become_106 : decode cX12_become 106 = .ok (.iand, 1) := by decide +kernel
theorem dX12_become_107 : decode cX12_become 107 = .ok (.putfield 53, 3) := by decide +kernel
theorem dX12_become_110 : decode cX12_become 110 = .ok (.return_, 1) := by decide +kernel
theorem dX12_status_0 : decode cX12_status 0 = .ok (.aload_n 0, 1) := by decide +kernel
theorem dX12_status_1 : decode cX12_status 1 = .ok (.iconst 0, 1) := by decide +kernel
theorem dX12_status_2 : decode cX12_status 2 = .ok (.putfield 40, 3) := by decide +kernel
theorem dX12_status_5 : decode cX12_status 5 = .ok (.aload_n 0, 1) := by decide +kernel
theorem dX12_status_6 : decode cX12_status 6 = .ok (.invokevirtual 82, 3) := by decide +kernel
theorem dX12_status_9 : decode cX12_status 9 = .ok (.lreturn, 1) := by decide +kernel
theorem dX12_load_0 : decode cX12_load 0 = .ok (.aload_n 0, 1) := by decide +kernel
theorem dX12_load_1 : decode cX12_load 1 = .ok (.iconst 0, 1) := by decide +kernel
theorem dX12_load_2 : decode cX12_load 2 = .ok (.putfield 40, 3) := by decide +kernel
theorem dX12_load_5 : decode cX12_load 5 = .ok (.aload_n 0, 1) := by decide +kernel
theorem dX12_load_6 : decode cX12_load 6 = .ok (.lload_n 1, 1) := by decide +kernel
theorem dX12_load_7 : decode cX12_load 7 = .ok (.invokevirtual 86, 3) := by decide +kernel
theorem dX12_load_10 : decode cX12_load 10 = .ok (.return_, 1) := by decide +kernel
theorem dX12_fetch_0 : decode cX12_fetch 0 = .ok (.lconst 0, 1) := by decide +kernel
theorem dX12_fetch_1 : decode cX12_fetch 1 = .ok (.lstore_n 3, 1) := by decide +kernel
theorem dX12_fetch_2 : decode cX12_fetch 2 = .ok (.iconst 0, 1) := by decide +kernel
theorem dX12_fetch_3 : decode cX12_fetch 3 = .ok (.istore 5, 2) := by decide +kernel
theorem dX12_fetch_5 : decode cX12_fetch 5 = .ok (.iload 5, 2) := by decide +kernel
theorem dX12_fetch_7 : decode cX12_fetch 7 = .ok (.iload_n 2, 1) := by decide +kernel
theorem dX12_fetch_8 : decode cX12_fetch 8 = .ok (.if_icmp .ge 25, 3) := by decide +kernel
theorem dX12_fetch_11 : decode cX12_fetch 11 = .ok (.lload_n 3, 1) := by decide +kernel
theorem dX12_fetch_12 : decode cX12_fetch 12 = .ok (.bipush 8, 2) := by decide +kernel
theorem dX12_fetch_14 : decode cX12_fetch 14 = .ok (.lshl, 1) := by decide +kernel
theorem dX12_fetch_15 : decode cX12_fetch 15 = .ok (.aload_n 0, 1) := by decide +kernel
theorem dX12_fetch_16 : decode cX12_fetch 16 = .ok (.getfield 7, 3) := by decide +kernel
theorem dX12_fetch_19 : decode cX12_fetch 19 = .ok (.iload_n 1, 1) := by decide +kernel
theorem dX12_fetch_20 : decode cX12_fetch 20 = .ok (.iload 5, 2) := by decide +kernel
theorem dX12_fetch_22 : decode cX12_fetch 22 = .ok (.iadd, 1) := by decide +kernel
theorem dX12_fetch_23 : decode cX12_fetch 23 = .ok (.iaload, 1) := by decide +kernel
theorem dX12_fetch_24 : decode cX12_fetch 24 = .ok (.i2l, 1) := by decide +kernel
theorem dX12_fetch_25 : decode cX12_fetch 25 = .ok (.lor, 1) := by decide +kernel
theorem dX12_fetch_26 : decode cX12_fetch 26 = .ok (.lstore_n 3, 1) := by decide +kernel
theorem dX12_fetch_27 : decode cX12_fetch 27 = .ok (.iinc 5 1, 3) := by decide +kernel
theorem dX12_fetch_30 : decode cX12_fetch 30 = .ok (.goto (-25), 3) := by decide +kernel
theorem dX12_fetch_33 : decode cX12_fetch 33 = .ok (.lload_n 3, 1) := by decide +kernel
theorem dX12_fetch_34 : decode cX12_fetch 34 = .ok (.lreturn, 1) := by decide +kernel
theorem dX12_store_0 : decode cX12_store 0 = .ok (.iconst 0, 1) := by decide +kernel
theorem dX12_store_1 : decode cX12_store 1 = .ok (.istore 5, 2) := by decide +kernel
theorem dX12_store_3 : decode cX12_store 3 = .ok (.iload 5, 2) := by decide +kernel
theorem dX12_store_5 : decode cX12_store 5 = .ok (.iload 4, 2) := by decide +kernel
theorem dX12_store_7 : decode cX12_store 7 = .ok (.if_icmp .ge 35, 3) := by decide +kernel
theorem dX12_store_10 : decode cX12_store 10 = .ok (.aload_n 0, 1) := by decide +kernel
theorem dX12_store_11 : decode cX12_store 11 = .ok (.getfield 7, 3) := by decide +kernel
theorem dX12_store_14 : decode cX12_store 14 = .ok (.iload_n 1, 1) := by decide +kernel
theorem dX12_store_15 : decode cX12_store 15 = .ok (.iload 5, 2) := by decide +kernel
theorem dX12_store_17 : decode cX12_store 17 = .ok (.iadd, 1) := by decide +kernel
theorem dX12_store_18 : decode cX12_store 18 = .ok (.lload_n 2, 1) := by decide +kernel
theorem dX12_store_19 : decode cX12_store 19 = .ok (.bipush 8, 2) := by decide +kernel
theorem dX12_store_21 : decode cX12_store 21 = .ok (.iload 4, 2) := by decide +kernel
theorem dX12_store_23 : decode cX12_store 23 = .ok (.iconst 1, 1) := by decide +kernel
theorem dX12_store_24 : decode cX12_store 24 = .ok (.isub, 1) := by decide +kernel
theorem dX12_store_25 : decode cX12_store 25 = .ok (.iload 5, 2) := by decide +kernel
theorem dX12_store_27 : decode cX12_store 27 = .ok (.isub, 1) := by decide +kernel
theorem dX12_store_28 : decode cX12_store 28 = .ok (.imul, 1) := by decide +kernel
theorem dX12_store_29 : decode cX12_store 29 = .ok (.lshr, 1) := by decide +kernel
theorem dX12_store_30 : decode cX12_store 30 = .ok (.ldc2_w 90, 3) := by decide +kernel
theorem dX12_store_33 : decode cX12_store 33 = .ok (.land, 1) := by decide +kernel
theorem dX12_store_34 : decode cX12_store 34 = .ok (.l2i, 1) := by decide +kernel
theorem dX12_store_35 : decode cX12_store 35 = .ok (.iastore, 1) := by decide +kernel
theorem dX12_store_36 : decode cX12_store 36 = .ok (.iinc 5 1, 3) := by decide +kernel
theorem dX12_store_39 : decode cX12_store 39 = .ok (.goto (-36), 3) := by decide +kernel
theorem dX12_store_42 : decode cX12_store 42 = .ok (.return_, 1) := by decide +kernel
theorem dX12_noBytes_0 : decode cX12_noBytes 0 = .ok (.iload_n 1, 1) := by decide +kernel
theorem dX12_noBytes_1 : decode cX12_noBytes 1 = .ok (.iconst 1, 1) := by decide +kernel
theorem dX12_noBytes_2 : decode cX12_noBytes 2 = .ok (.if_icmp .lt 22, 3) := by decide +kernel
theorem dX12_noBytes_5 : decode cX12_noBytes 5 = .ok (.iload_n 1, 1) := by decide +kernel
theorem dX12_noBytes_6 : decode cX12_noBytes 6 = .ok (.bipush 8, 2) := by decide +kernel
theorem dX12_noBytes_8 : decode cX12_noBytes 8 = .ok (.if_icmp .gt 16, 3) := by decide +kernel
theorem dX12_noBytes_11 : decode cX12_noBytes 11 = .ok (.iload_n 0, 1) := by decide +kernel
theorem dX12_noBytes_12 : decode cX12_noBytes 12 = .ok (.ifCond .lt 12, 3) := by decide +kernel
theorem dX12_noBytes_15 : decode cX12_noBytes 15 = .ok (.iload_n 0, 1) := by decide +kernel
theorem dX12_noBytes_16 : decode cX12_noBytes 16 = .ok (.sipush 8192, 3) := by decide +kernel
theorem dX12_noBytes_19 : decode cX12_noBytes 19 = .ok (.iload_n 1, 1) := by decide +kernel
theorem dX12_noBytes_20 : decode cX12_noBytes 20 = .ok (.isub, 1) := by decide +kernel
theorem dX12_noBytes_21 : decode cX12_noBytes 21 = .ok (.if_icmp .le 7, 3) := by decide +kernel
theorem dX12_noBytes_24 : decode cX12_noBytes 24 = .ok (.iconst 1, 1) := by decide +kernel
theorem dX12_noBytes_25 : decode cX12_noBytes 25 = .ok (.goto 4, 3) := by decide +kernel
theorem dX12_noBytes_28 : decode cX12_noBytes 28 = .ok (.iconst 0, 1) := by decide +kernel
theorem dX12_noBytes_29 : decode cX12_noBytes 29 = .ok (.ireturn, 1) := by decide +kernel
theorem dX12_write_0 : decode cX12_write 0 = .ok (.aload_n 0, 1) := by decide +kernel
theorem dX12_write_1 : decode cX12_write 1 = .ok (.iload_n 1, 1) := by decide +kernel
theorem dX12_write_2 : decode cX12_write 2 = .ok (.iload 4, 2) := by decide +kernel
theorem dX12_write_4 : decode cX12_write 4 = .ok (.invokestatic 92, 3) := by decide +kernel
theorem dX12_write_7 : decode cX12_write 7 = .ok (.ifCond .eq 7, 3) := by decide +kernel
theorem dX12_write_10 : decode cX12_write 10 = .ok (.iconst 1, 1) := by decide +kernel
theorem dX12_write_11 : decode cX12_write 11 = .ok (.goto 4, 3) := by decide +kernel
theorem dX12_write_14 : decode cX12_write 14 = .ok (.iconst 0, 1) := by decide +kernel
theorem dX12_write_15 : decode cX12_write 15 = .ok (.putfield 40, 3) := by decide +kernel
theorem dX12_write_18 : decode cX12_write 18 = .ok (.aload_n 0, 1) := by decide +kernel
theorem dX12_write_19 : decode cX12_write 19 = .ok (.getfield 40, 3) := by decide +kernel
theorem dX12_write_22 : decode cX12_write 22 = .ok (.ifCond .ne 11, 3) := by decide +kernel
theorem dX12_write_25 : decode cX12_write 25 = .ok (.aload_n 0, 1) := by decide +kernel
theorem dX12_write_26 : decode cX12_write 26 = .ok (.iload_n 1, 1) := by decide +kernel
theorem dX12_write_27 : decode cX12_write 27 = .ok (.lload_n 2, 1) := by decide +kernel
theorem dX12_write_28 : decode cX12_write 28 = .ok (.iload 4, 2) := by decide +kernel
theorem dX12_write_30 : decode cX12_write 30 = .ok (.invokevirtual 96, 3) := by decide +kernel
theorem dX12_write_33 : decode cX12_write 33 = .ok (.return_, 1) := by decide +kernel
theorem dX12_read_0 : decode cX12_read 0 = .ok (.aload_n 0, 1) := by decide +kernel
theorem dX12_read_1 : decode cX12_read 1 = .ok (.iload_n 1, 1) := by decide +kernel
theorem dX12_read_2 : decode cX12_read 2 = .ok (.iload_n 2, 1) := by decide +kernel
theorem dX12_read_3 : decode cX12_read 3 = .ok (.invokestatic 92, 3) := by decide +kernel
theorem dX12_read_6 : decode cX12_read 6 = .ok (.ifCond .eq 7, 3) := by decide +kernel
theorem dX12_read_9 : decode cX12_read 9 = .ok (.iconst 1, 1) := by decide +kernel
theorem dX12_read_10 : decode cX12_read 10 = .ok (.goto 4, 3) := by decide +kernel
theorem dX12_read_13 : decode cX12_read 13 = .ok (.iconst 0, 1) := by decide +kernel
theorem dX12_read_14 : decode cX12_read 14 = .ok (.putfield 40, 3) := by decide +kernel
theorem dX12_read_17 : decode cX12_read 17 = .ok (.aload_n 0, 1) := by decide +kernel
theorem dX12_read_18 : decode cX12_read 18 = .ok (.getfield 40, 3) := by decide +kernel
theorem dX12_read_21 : decode cX12_read 21 = .ok (.ifCond .le 7, 3) := by decide +kernel
theorem dX12_read_24 : decode cX12_read 24 = .ok (.lconst 0, 1) := by decide +kernel
theorem dX12_read_25 : decode cX12_read 25 = .ok (.goto 9, 3) := by decide +kernel
theorem dX12_read_28 : decode cX12_read 28 = .ok (.aload_n 0, 1) := by decide +kernel
theorem dX12_read_29 : decode cX12_read 29 = .ok (.iload_n 1, 1) := by decide +kernel
theorem dX12_read_30 : decode cX12_read 30 = .ok (.iload_n 2, 1) := by decide +kernel
theorem dX12_read_31 : decode cX12_read 31 = .ok (.invokevirtual 100, 3) := by decide +kernel
theorem dX12_read_34 : decode cX12_read 34 = .ok (.lreturn, 1) := by decide +kernel
theorem dX12_key_0 : decode cX12_key 0 = .ok (.aload_n 0, 1) := by decide +kernel
theorem dX12_key_1 : decode cX12_key 1 = .ok (.iload_n 1, 1) := by decide +kernel
theorem dX12_key_2 : decode cX12_key 2 = .ok (.ifCond .lt 18, 3) := by decide +kernel
theorem dX12_key_5 : decode cX12_key 5 = .ok (.iload_n 1, 1) := by decide +kernel
theorem dX12_key_6 : decode cX12_key 6 = .ok (.iconst 3, 1) := by decide +kernel
theorem dX12_key_7 : decode cX12_key 7 = .ok (.if_icmp .gt 13, 3) := by decide +kernel
theorem dX12_key_10 : decode cX12_key 10 = .ok (.iload_n 2, 1) := by decide +kernel
theorem dX12_key_11 : decode cX12_key 11 = .ok (.ifCond .lt 9, 3) := by decide +kernel
theorem dX12_key_14 : decode cX12_key 14 = .ok (.iload_n 2, 1) := by decide +kernel
theorem dX12_key_15 : decode cX12_key 15 = .ok (.bipush 31, 2) := by decide +kernel
theorem dX12_key_17 : decode cX12_key 17 = .ok (.if_icmp .le 7, 3) := by decide +kernel
theorem dX12_key_20 : decode cX12_key 20 = .ok (.iconst 1, 1) := by decide +kernel
theorem dX12_key_21 : decode cX12_key 21 = .ok (.goto 4, 3) := by decide +kernel
theorem dX12_key_24 : decode cX12_key 24 = .ok (.iconst 0, 1) := by decide +kernel
theorem dX12_key_25 : decode cX12_key 25 = .ok (.putfield 40, 3) := by decide +kernel
theorem dX12_key_28 : decode cX12_key 28 = .ok (.aload_n 0, 1) := by decide +kernel
theorem dX12_key_29 : decode cX12_key 29 = .ok (.getfield 40, 3) := by decide +kernel
theorem dX12_key_32 : decode cX12_key 32 = .ok (.ifCond .le 5, 3) := by decide +kernel
theorem dX12_key_35 : decode cX12_key 35 = .ok (.iconst 0, 1) := by decide +kernel
theorem dX12_key_36 : decode cX12_key 36 = .ok (.ireturn, 1) := by decide +kernel
theorem dX12_key_37 : decode cX12_key 37 = .ok (.aload_n 0, 1) := by decide +kernel
theorem dX12_key_38 : decode cX12_key 38 = .ok (.getfield 13, 3) := by decide +kernel
theorem dX12_key_41 : decode cX12_key 41 = .ok (.iload_n 1, 1) := by decide +kernel
theorem dX12_key_42 : decode cX12_key 42 = .ok (.iaload, 1) := by decide +kernel
theorem dX12_key_43 : decode cX12_key 43 = .ok (.istore_n 3, 1) := by decide +kernel
theorem dX12_key_44 : decode cX12_key 44 = .ok (.aload_n 0, 1) := by decide +kernel
theorem dX12_key_45 : decode cX12_key 45 = .ok (.getfield 13, 3) := by decide +kernel
theorem dX12_key_48 : decode cX12_key 48 = .ok (.iload_n 1, 1) := by decide +kernel
theorem dX12_key_49 : decode cX12_key 49 = .ok (.iload_n 2, 1) := by decide +kernel
theorem dX12_key_50 : decode cX12_key 50 = .ok (.iastore, 1) := by decide +kernel
theorem dX12_key_51 : decode cX12_key 51 = .ok (.iload_n 3, 1) := by decide +kernel
theorem dX12_key_52 : decode cX12_key 52 = .ok (.ireturn, 1) := by decide +kernel
theorem dX12_sum_0 : decode cX12_sum 0 = .ok (.aload_n 0, 1) := by decide +kernel
theorem dX12_sum_1 : decode cX12_sum 1 = .ok (.iconst 0, 1) := by decide +kernel
theorem dX12_sum_2 : decode cX12_sum 2 = .ok (.putfield 40, 3) := by decide +kernel
theorem dX12_sum_5 : decode cX12_sum 5 = .ok (.iconst 0, 1) := by decide +kernel
theorem dX12_sum_6 : decode cX12_sum 6 = .ok (.istore_n 1, 1) := by decide +kernel
theorem dX12_sum_7 : decode cX12_sum 7 = .ok (.iconst 0, 1) := by decide +kernel
theorem dX12_sum_8 : decode cX12_sum 8 = .ok (.istore_n 2, 1) := by decide +kernel
theorem dX12_sum_9 : decode cX12_sum 9 = .ok (.iload_n 2, 1) := by decide +kernel
theorem dX12_sum_10 : decode cX12_sum 10 = .ok (.sipush 8192, 3) := by decide +kernel
theorem dX12_sum_13 : decode cX12_sum 13 = .ok (.if_icmp .ge 22, 3) := by decide +kernel
theorem dX12_sum_16 : decode cX12_sum 16 = .ok (.iload_n 1, 1) := by decide +kernel
theorem dX12_sum_17 : decode cX12_sum 17 = .ok (.aload_n 0, 1) := by decide +kernel
theorem dX12_sum_18 : decode cX12_sum 18 = .ok (.getfield 7, 3) := by decide +kernel
theorem dX12_sum_21 : decode cX12_sum 21 = .ok (.iload_n 2, 1) := by decide +kernel
theorem dX12_sum_22 : decode cX12_sum 22 = .ok (.iaload, 1) := by decide +kernel
theorem dX12_sum_23 : decode cX12_sum 23 = .ok (.iload_n 2, 1) := by decide +kernel
theorem dX12_sum_24 : decode cX12_sum 24 = .ok (.iconst 1, 1) := by decide +kernel
theorem dX12_sum_25 : decode cX12_sum 25 = .ok (.iadd, 1) := by decide +kernel
theorem dX12_sum_26 : decode cX12_sum 26 = .ok (.imul, 1) := by decide +kernel
theorem dX12_sum_27 : decode cX12_sum 27 = .ok (.iadd, 1) := by decide +kernel
theorem dX12_sum_28 : decode cX12_sum 28 = .ok (.istore_n 1, 1) := by decide +kernel
theorem dX12_sum_29 : decode cX12_sum 29 = .ok (.iinc 2 1, 3) := by decide +kernel
theorem dX12_sum_32 : decode cX12_sum 32 = .ok (.goto (-23), 3) := by decide +kernel
theorem dX12_sum_35 : decode cX12_sum 35 = .ok (.iload_n 1, 1) := by decide +kernel
theorem dX12_sum_36 : decode cX12_sum 36 = .ok (.ireturn, 1) := by decide +kernel
theorem dX12_meet_0 : decode cX12_meet 0 = .ok (.aload_n 0, 1) := by decide +kernel
theorem dX12_meet_1 : decode cX12_meet 1 = .ok (.aload_n 0, 1) := by decide +kernel
theorem dX12_meet_2 : decode cX12_meet 2 = .ok (.getfield 104, 3) := by decide +kernel
theorem dX12_meet_5 : decode cX12_meet 5 = .ok (.ifCond .eq 11, 3) := by decide +kernel
theorem dX12_meet_8 : decode cX12_meet 8 = .ok (.iload_n 1, 1) := by decide +kernel
theorem dX12_meet_9 : decode cX12_meet 9 = .ok (.aload_n 0, 1) := by decide +kernel
theorem dX12_meet_10 : decode cX12_meet 10 = .ok (.getfield 104, 3) := by decide +kernel
theorem dX12_meet_13 : decode cX12_meet 13 = .ok (.if_icmp .ge 7, 3) := by decide +kernel
theorem dX12_meet_16 : decode cX12_meet 16 = .ok (.iload_n 1, 1) := by decide +kernel
theorem dX12_meet_17 : decode cX12_meet 17 = .ok (.goto 7, 3) := by decide +kernel
theorem dX12_meet_20 : decode cX12_meet 20 = .ok (.aload_n 0, 1) := by decide +kernel
theorem dX12_meet_21 : decode cX12_meet 21 = .ok (.getfield 104, 3) := by decide +kernel
theorem dX12_meet_24 : decode cX12_meet 24 = .ok (.putfield 104, 3) := by decide +kernel
theorem dX12_meet_27 : decode cX12_meet 27 = .ok (.return_, 1) := by decide +kernel
theorem dX12_look_0 : decode cX12_look 0 = .ok (.iconst 0, 1) := by decide +kernel
theorem dX12_look_1 : decode cX12_look 1 = .ok (.istore 4, 2) := by decide +kernel
theorem dX12_look_3 : decode cX12_look 3 = .ok (.iload 4, 2) := by decide +kernel
theorem dX12_look_5 : decode cX12_look 5 = .ok (.iload_n 2, 1) := by decide +kernel
theorem dX12_look_6 : decode cX12_look 6 = .ok (.if_icmp .ge 93, 3) := by decide +kernel
theorem dX12_look_9 : decode cX12_look 9 = .ok (.iload_n 1, 1) := by decide +kernel
theorem dX12_look_10 : decode cX12_look 10 = .ok (.iload 4, 2) := by decide +kernel
theorem dX12_look_12 : decode cX12_look 12 = .ok (.iadd, 1) := by decide +kernel
theorem dX12_look_13 : decode cX12_look 13 = .ok (.ldc 81, 2) := by decide +kernel
theorem dX12_look_15 : decode cX12_look 15 = .ok (.iand, 1) := by decide +kernel
theorem dX12_look_16 : decode cX12_look 16 = .ok (.istore 5, 2) := by decide +kernel
theorem dX12_look_18 : decode cX12_look 18 = .ok (.iload 5, 2) := by decide +kernel
theorem dX12_look_20 : decode cX12_look 20 = .ok (.sipush 8192, 3) := by decide +kernel
theorem dX12_look_23 : decode cX12_look 23 = .ok (.if_icmp .lt 11, 3) := by decide +kernel
theorem dX12_look_26 : decode cX12_look 26 = .ok (.aload_n 0, 1) := by decide +kernel
theorem dX12_look_27 : decode cX12_look 27 = .ok (.iconst 5, 1) := by decide +kernel
theorem dX12_look_28 : decode cX12_look 28 = .ok (.invokevirtual 107, 3) := by decide +kernel
theorem dX12_look_31 : decode cX12_look 31 = .ok (.goto 62, 3) := by decide +kernel
theorem dX12_look_34 : decode cX12_look 34 = .ok (.aload_n 0, 1) := by decide +kernel
theorem dX12_look_35 : decode cX12_look 35 = .ok (.getfield 13, 3) := by decide +kernel
theorem dX12_look_38 : decode cX12_look 38 = .ok (.iload 5, 2) := by decide +kernel
theorem dX12_look_40 : decode cX12_look 40 = .ok (.bipush 11, 2) := by decide +kernel
theorem dX12_look_42 : decode cX12_look 42 = .ok (.ishr, 1) := by decide +kernel
theorem dX12_look_43 : decode cX12_look 43 = .ok (.iaload, 1) := by decide +kernel
theorem dX12_look_44 : decode cX12_look 44 = .ok (.istore 6, 2) := by decide +kernel
theorem dX12_look_46 : decode cX12_look 46 = .ok (.aload_n 0, 1) := by decide +kernel
theorem dX12_look_47 : decode cX12_look 47 = .ok (.getfield 59, 3) := by decide +kernel
theorem dX12_look_50 : decode cX12_look 50 = .ok (.ifCond .eq 18, 3) := by decide +kernel
theorem dX12_look_53 : decode cX12_look 53 = .ok (.iload 6, 2) := by decide +kernel
theorem dX12_look_55 : decode cX12_look 55 = .ok (.iconst 1, 1) := by decide +kernel
theorem dX12_look_56 : decode cX12_look 56 = .ok (.ishr, 1) := by decide +kernel
theorem dX12_look_57 : decode cX12_look 57 = .ok (.aload_n 0, 1) := by decide +kernel
theorem dX12_look_58 : decode cX12_look 58 = .ok (.getfield 59, 3) := by decide +kernel
theorem dX12_look_61 : decode cX12_look 61 = .ok (.if_icmp .eq 7, 3) := by decide +kernel
theorem dX12_look_64 : decode cX12_look 64 = .ok (.iconst 1, 1) := by decide +kernel
theorem dX12_look_65 : decode cX12_look 65 = .ok (.goto 4, 3) := by decide +kernel
theorem dX12_look_68 : decode cX12_look 68 = .ok (.iconst 0, 1) := by decide +kernel
theorem dX12_look_69 : decode cX12_look 69 = .ok (.istore 7, 2) := by decide +kernel
theorem dX12_look_71 : decode cX12_look 71 = .ok (.iload 7, 2) := by decide +kernel
theorem dX12_look_73 : decode cX12_look 73 = .ok (.ifCond .eq 20, 3) := by decide +kernel
theorem dX12_look_76 : decode cX12_look 76 = .ok (.iload_n 3, 1) := by decide +kernel
theorem dX12_look_77 : decode cX12_look 77 = .ok (.ifCond .ne 11, 3) := by decide +kernel
theorem dX12_look_80 : decode cX12_look 80 = .ok (.iload 6, 2) := by decide +kernel
theorem dX12_look_82 : decode cX12_look 82 = .ok (.iconst 1, 1) := by decide +kernel
theorem dX12_look_83 : decode cX12_look 83 = .ok (.iand, 1) := by decide +kernel
theorem dX12_look_84 : decode cX12_look 84 = .ok (.iconst 1, 1) := by decide +kernel
theorem dX12_look_85 : decode cX12_look 85 = .ok (.if_icmp .ne 8, 3) := by decide +kernel
theorem dX12_look_88 : decode cX12_look 88 = .ok (.aload_n 0, 1) := by decide +kernel
theorem dX12_look_89 : decode cX12_look 89 = .ok (.iconst 4, 1) := by decide +kernel
theorem dX12_look_90 : decode cX12_look 90 = .ok (.invokevirtual 107, 3) := by decide +kernel
theorem dX12_look_93 : decode cX12_look 93 = .ok (.iinc 4 1, 3) := by decide +kernel
theorem dX12_look_96 : decode cX12_look 96 = .ok (.goto (-93), 3) := by decide +kernel
theorem dX12_look_99 : decode cX12_look 99 = .ok (.return_, 1) := by decide +kernel
theorem dX12_even_0 : decode cX12_even 0 = .ok (.iload_n 1, 1) := by decide +kernel
theorem dX12_even_1 : decode cX12_even 1 = .ok (.iload_n 2, 1) := by decide +kernel
theorem dX12_even_2 : decode cX12_even 2 = .ok (.irem, 1) := by decide +kernel
theorem dX12_even_3 : decode cX12_even 3 = .ok (.ifCond .eq 9, 3) := by decide +kernel
theorem dX12_even_6 : decode cX12_even 6 = .ok (.aload_n 0, 1) := by decide +kernel
theorem dX12_even_7 : decode cX12_even 7 = .ok (.bipush 6, 2) := by decide +kernel
theorem dX12_even_9 : decode cX12_even 9 = .ok (.invokevirtual 107, 3) := by decide +kernel
theorem dX12_even_12 : decode cX12_even 12 = .ok (.return_, 1) := by decide +kernel
theorem dX12_supervisor_0 : decode cX12_supervisor 0 = .ok (.aload_n 0, 1) := by decide +kernel
theorem dX12_supervisor_1 : decode cX12_supervisor 1 = .ok (.getfield 67, 3) := by decide +kernel
theorem dX12_supervisor_4 : decode cX12_supervisor 4 = .ok (.ifCond .eq 8, 3) := by decide +kernel
theorem dX12_supervisor_7 : decode cX12_supervisor 7 = .ok (.aload_n 0, 1) := by decide +kernel
theorem dX12_supervisor_8 : decode cX12_supervisor 8 = .ok (.iconst 2, 1) := by decide +kernel
theorem dX12_supervisor_9 : decode cX12_supervisor 9 = .ok (.invokevirtual 107, 3) := by decide +kernel
theorem dX12_supervisor_12 : decode cX12_supervisor 12 = .ok (.return_, 1) := by decide +kernel
theorem dX12_interrupt_0 : decode cX12_interrupt 0 = .ok (.aload_n 0, 1) := by decide +kernel
theorem dX12_interrupt_1 : decode cX12_interrupt 1 = .ok (.iload_n 3, 1) := by decide +kernel
theorem dX12_interrupt_2 : decode cX12_interrupt 2 = .ok (.putfield 71, 3) := by decide +kernel
theorem dX12_interrupt_5 : decode cX12_interrupt 5 = .ok (.aload_n 0, 1) := by decide +kernel
theorem dX12_interrupt_6 : decode cX12_interrupt 6 = .ok (.iload 4, 2) := by decide +kernel
theorem dX12_interrupt_8 : decode cX12_interrupt 8 = .ok (.putfield 44, 3) := by decide +kernel
theorem dX12_interrupt_11 : decode cX12_interrupt 11 = .ok (.aload_n 0, 1) := by decide +kernel
theorem dX12_interrupt_12 : decode cX12_interrupt 12 = .ok (.iload_n 1, 1) := by decide +kernel
theorem dX12_interrupt_13 : decode cX12_interrupt 13 = .ok (.aload_n 0, 1) := by decide +kernel
theorem dX12_interrupt_14 : decode cX12_interrupt 14 = .ok (.invokevirtual 82, 3) := by decide +kernel
theorem dX12_interrupt_17 : decode cX12_interrupt 17 = .ok (.bipush 8, 2) := by decide +kernel
theorem dX12_interrupt_19 : decode cX12_interrupt 19 = .ok (.invokevirtual 96, 3) := by decide +kernel
theorem dX12_interrupt_22 : decode cX12_interrupt 22 = .ok (.aload_n 0, 1) := by decide +kernel
theorem dX12_interrupt_23 : decode cX12_interrupt 23 = .ok (.aload_n 0, 1) := by decide +kernel
theorem dX12_interrupt_24 : decode cX12_interrupt 24 = .ok (.iload_n 2, 1) := by decide +kernel
theorem dX12_interrupt_25 : decode cX12_interrupt 25 = .ok (.bipush 8, 2) := by decide +kernel
theorem dX12_interrupt_27 : decode cX12_interrupt 27 = .ok (.invokevirtual 100, 3) := by decide +kernel
theorem dX12_interrupt_30 : decode cX12_interrupt 30 = .ok (.invokevirtual 86, 3) := by decide +kernel
theorem dX12_interrupt_33 : decode cX12_interrupt 33 = .ok (.return_, 1) := by decide +kernel
theorem dX12_byNumber_0 : decode cX12_byNumber 0 = .ok (.iload_n 0, 1) := by decide +kernel
theorem dX12_byNumber_1 : decode cX12_byNumber 1 = .ok (.ifCond .ne 7, 3) := by decide +kernel
theorem dX12_byNumber_4 : decode cX12_byNumber 4 = .ok (.iconst 0, 1) := by decide +kernel
theorem dX12_byNumber_5 : decode cX12_byNumber 5 = .ok (.goto 12, 3) := by decide +kernel
theorem dX12_byNumber_8 : decode cX12_byNumber 8 = .ok (.iload_n 0, 1) := by decide +kernel
theorem dX12_byNumber_9 : decode cX12_byNumber 9 = .ok (.ifCond .ge 7, 3) := by decide +kernel
theorem dX12_byNumber_12 : decode cX12_byNumber 12 = .ok (.iconst 1, 1) := by decide +kernel
theorem dX12_byNumber_13 : decode cX12_byNumber 13 = .ok (.goto 4, 3) := by decide +kernel
theorem dX12_byNumber_16 : decode cX12_byNumber 16 = .ok (.iconst 2, 1) := by decide +kernel
theorem dX12_byNumber_17 : decode cX12_byNumber 17 = .ok (.ireturn, 1) := by decide +kernel
theorem dX12_byOrder_0 : decode cX12_byOrder 0 = .ok (.lload_n 0, 1) := by decide +kernel
theorem dX12_byOrder_1 : decode cX12_byOrder 1 = .ok (.lload_n 2, 1) := by decide +kernel
theorem dX12_byOrder_2 : decode cX12_byOrder 2 = .ok (.lcmp, 1) := by decide +kernel
theorem dX12_byOrder_3 : decode cX12_byOrder 3 = .ok (.ifCond .ne 7, 3) := by decide +kernel
theorem dX12_byOrder_6 : decode cX12_byOrder 6 = .ok (.iconst 0, 1) := by decide +kernel
theorem dX12_byOrder_7 : decode cX12_byOrder 7 = .ok (.goto 14, 3) := by decide +kernel
theorem dX12_byOrder_10 : decode cX12_byOrder 10 = .ok (.lload_n 0, 1) := by decide +kernel
theorem dX12_byOrder_11 : decode cX12_byOrder 11 = .ok (.lload_n 2, 1) := by decide +kernel
theorem dX12_byOrder_12 : decode cX12_byOrder 12 = .ok (.lcmp, 1) := by decide +kernel
theorem dX12_byOrder_13 : decode cX12_byOrder 13 = .ok (.ifCond .ge 7, 3) := by decide +kernel
theorem dX12_byOrder_16 : decode cX12_byOrder 16 = .ok (.iconst 1, 1) := by decide +kernel
theorem dX12_byOrder_17 : decode cX12_byOrder 17 = .ok (.goto 4, 3) := by decide +kernel
theorem dX12_byOrder_20 : decode cX12_byOrder 20 = .ok (.iconst 2, 1) := by decide +kernel
theorem dX12_byOrder_21 : decode cX12_byOrder 21 = .ok (.ireturn, 1) := by decide +kernel
theorem dX12_plain_0 : decode cX12_plain 0 = .ok (.iload_n 0, 1) := by decide +kernel
theorem dX12_plain_1 : decode cX12_plain 1 = .ok (.i2l, 1) := by decide +kernel
theorem dX12_plain_2 : decode cX12_plain 2 = .ok (.ldc2_w 78, 3) := by decide +kernel
theorem dX12_plain_5 : decode cX12_plain 5 = .ok (.land, 1) := by decide +kernel
theorem dX12_plain_6 : decode cX12_plain 6 = .ok (.lreturn, 1) := by decide +kernel
theorem dX12_fixed_0 : decode cX12_fixed 0 = .ok (.aload_n 0, 1) := by decide +kernel
theorem dX12_fixed_1 : decode cX12_fixed 1 = .ok (.getfield 16, 3) := by decide +kernel
theorem dX12_fixed_4 : decode cX12_fixed 4 = .ok (.iload_n 1, 1) := by decide +kernel
theorem dX12_fixed_5 : decode cX12_fixed 5 = .ok (.iload_n 2, 1) := by decide +kernel
theorem dX12_fixed_6 : decode cX12_fixed 6 = .ok (.iastore, 1) := by decide +kernel
theorem dX12_fixed_7 : decode cX12_fixed 7 = .ok (.aload_n 0, 1) := by decide +kernel
theorem dX12_fixed_8 : decode cX12_fixed 8 = .ok (.iload_n 3, 1) := by decide +kernel
theorem dX12_fixed_9 : decode cX12_fixed 9 = .ok (.ifCond .eq 7, 3) := by decide +kernel
theorem dX12_fixed_12 : decode cX12_fixed 12 = .ok (.iconst 3, 1) := by decide +kernel
theorem dX12_fixed_13 : decode cX12_fixed 13 = .ok (.goto 7, 3) := by decide +kernel
theorem dX12_fixed_16 : decode cX12_fixed 16 = .ok (.iload_n 2, 1) := by decide +kernel
theorem dX12_fixed_17 : decode cX12_fixed 17 = .ok (.invokestatic 111, 3) := by decide +kernel
theorem dX12_fixed_20 : decode cX12_fixed 20 = .ok (.putfield 47, 3) := by decide +kernel
theorem dX12_fixed_23 : decode cX12_fixed 23 = .ok (.iload_n 3, 1) := by decide +kernel
theorem dX12_fixed_24 : decode cX12_fixed 24 = .ok (.ifCond .eq 19, 3) := by decide +kernel
theorem dX12_fixed_27 : decode cX12_fixed 27 = .ok (.aload_n 0, 1) := by decide +kernel
theorem dX12_fixed_28 : decode cX12_fixed 28 = .ok (.getfield 50, 3) := by decide +kernel
theorem dX12_fixed_31 : decode cX12_fixed 31 = .ok (.bipush 8, 2) := by decide +kernel
theorem dX12_fixed_33 : decode cX12_fixed 33 = .ok (.iand, 1) := by decide +kernel
theorem dX12_fixed_34 : decode cX12_fixed 34 = .ok (.ifCond .eq 9, 3) := by decide +kernel
theorem dX12_fixed_37 : decode cX12_fixed 37 = .ok (.aload_n 0, 1) := by decide +kernel
theorem dX12_fixed_38 : decode cX12_fixed 38 = .ok (.bipush 8, 2) := by decide +kernel
theorem dX12_fixed_40 : decode cX12_fixed 40 = .ok (.putfield 115, 3) := by decide +kernel
theorem dX12_fixed_43 : decode cX12_fixed 43 = .ok (.return_, 1) := by decide +kernel
theorem dX12_based_0 : decode cX12_based 0 = .ok (.aload_n 0, 1) := by decide +kernel
theorem dX12_based_1 : decode cX12_based 1 = .ok (.getfield 22, 3) := by decide +kernel
theorem dX12_based_4 : decode cX12_based 4 = .ok (.iload_n 1, 1) := by decide +kernel
theorem dX12_based_5 : decode cX12_based 5 = .ok (.iaload, 1) := by decide +kernel
theorem dX12_based_6 : decode cX12_based 6 = .ok (.iconst 4, 1) := by decide +kernel
theorem dX12_based_7 : decode cX12_based 7 = .ok (.ishr, 1) := by decide +kernel
theorem dX12_based_8 : decode cX12_based 8 = .ok (.istore_n 2, 1) := by decide +kernel
theorem dX12_based_9 : decode cX12_based 9 = .ok (.aload_n 0, 1) := by decide +kernel
theorem dX12_based_10 : decode cX12_based 10 = .ok (.getfield 22, 3) := by decide +kernel
theorem dX12_based_13 : decode cX12_based 13 = .ok (.iload_n 1, 1) := by decide +kernel
theorem dX12_based_14 : decode cX12_based 14 = .ok (.iaload, 1) := by decide +kernel
theorem dX12_based_15 : decode cX12_based 15 = .ok (.bipush 15, 2) := by decide +kernel
theorem dX12_based_17 : decode cX12_based 17 = .ok (.iand, 1) := by decide +kernel
theorem dX12_based_18 : decode cX12_based 18 = .ok (.bipush 8, 2) := by decide +kernel
theorem dX12_based_20 : decode cX12_based 20 = .ok (.ishl, 1) := by decide +kernel
theorem dX12_based_21 : decode cX12_based 21 = .ok (.aload_n 0, 1) := by decide +kernel
theorem dX12_based_22 : decode cX12_based 22 = .ok (.getfield 22, 3) := by decide +kernel
theorem dX12_based_25 : decode cX12_based 25 = .ok (.iload_n 1, 1) := by decide +kernel
theorem dX12_based_26 : decode cX12_based 26 = .ok (.iconst 1, 1) := by decide +kernel
theorem dX12_based_27 : decode cX12_based 27 = .ok (.iadd, 1) := by decide +kernel
theorem dX12_based_28 : decode cX12_based 28 = .ok (.iaload, 1) := by decide +kernel
theorem dX12_based_29 : decode cX12_based 29 = .ok (.ior, 1) := by decide +kernel
theorem dX12_based_30 : decode cX12_based 30 = .ok (.istore_n 3, 1) := by decide +kernel
theorem dX12_based_31 : decode cX12_based 31 = .ok (.iload_n 2, 1) := by decide +kernel
theorem dX12_based_32 : decode cX12_based 32 = .ok (.ifCond .ne 7, 3) := by decide +kernel
theorem dX12_based_35 : decode cX12_based 35 = .ok (.iload_n 3, 1) := by decide +kernel
theorem dX12_based_36 : decode cX12_based 36 = .ok (.goto 11, 3) := by decide +kernel
theorem dX12_based_39 : decode cX12_based 39 = .ok (.aload_n 0, 1) := by decide +kernel
theorem dX12_based_40 : decode cX12_based 40 = .ok (.getfield 16, 3) := by decide +kernel
theorem dX12_based_43 : decode cX12_based 43 = .ok (.iload_n 2, 1) := by decide +kernel
theorem dX12_based_44 : decode cX12_based 44 = .ok (.iaload, 1) := by decide +kernel
theorem dX12_based_45 : decode cX12_based 45 = .ok (.iload_n 3, 1) := by decide +kernel
theorem dX12_based_46 : decode cX12_based 46 = .ok (.iadd, 1) := by decide +kernel
theorem dX12_based_47 : decode cX12_based 47 = .ok (.ldc 81, 2) := by decide +kernel
theorem dX12_based_49 : decode cX12_based 49 = .ok (.iand, 1) := by decide +kernel
theorem dX12_based_50 : decode cX12_based 50 = .ok (.ireturn, 1) := by decide +kernel
theorem dX12_indexed_0 : decode cX12_indexed 0 = .ok (.aload_n 0, 1) := by decide +kernel
theorem dX12_indexed_1 : decode cX12_indexed 1 = .ok (.getfield 22, 3) := by decide +kernel
theorem dX12_indexed_4 : decode cX12_indexed 4 = .ok (.iconst 1, 1) := by decide +kernel
theorem dX12_indexed_5 : decode cX12_indexed 5 = .ok (.iaload, 1) := by decide +kernel
theorem dX12_indexed_6 : decode cX12_indexed 6 = .ok (.bipush 15, 2) := by decide +kernel
theorem dX12_indexed_8 : decode cX12_indexed 8 = .ok (.iand, 1) := by decide +kernel
theorem dX12_indexed_9 : decode cX12_indexed 9 = .ok (.istore_n 1, 1) := by decide +kernel
theorem dX12_indexed_10 : decode cX12_indexed 10 = .ok (.iload_n 1, 1) := by decide +kernel
theorem dX12_indexed_11 : decode cX12_indexed 11 = .ok (.ifCond .ne 11, 3) := by decide +kernel
theorem dX12_indexed_14 : decode cX12_indexed 14 = .ok (.aload_n 0, 1) := by decide +kernel
theorem dX12_indexed_15 : decode cX12_indexed 15 = .ok (.iconst 2, 1) := by decide +kernel
theorem dX12_indexed_16 : decode cX12_indexed 16 = .ok (.invokevirtual 118, 3) := by decide +kernel
theorem dX12_indexed_19 : decode cX12_indexed 19 = .ok (.goto 15, 3) := by decide +kernel
theorem dX12_indexed_22 : decode cX12_indexed 22 = .ok (.aload_n 0, 1) := by decide +kernel
theorem dX12_indexed_23 : decode cX12_indexed 23 = .ok (.iconst 2, 1) := by decide +kernel
theorem dX12_indexed_24 : decode cX12_indexed 24 = .ok (.invokevirtual 118, 3) := by decide +kernel
theorem dX12_indexed_27 : decode cX12_indexed 27 = .ok (.aload_n 0, 1) := by decide +kernel
theorem dX12_indexed_28 : decode cX12_indexed 28 = .ok (.getfield 16, 3) := by decide +kernel
theorem dX12_indexed_31 : decode cX12_indexed 31 = .ok (.iload_n 1, 1) := by decide +kernel
theorem dX12_indexed_32 : decode cX12_indexed 32 = .ok (.iaload, 1) := by decide +kernel
theorem dX12_indexed_33 : decode cX12_indexed 33 = .ok (.iadd, 1) := by decide +kernel
theorem dX12_indexed_34 : decode cX12_indexed 34 = .ok (.ldc 81, 2) := by decide +kernel
theorem dX12_indexed_36 : decode cX12_indexed 36 = .ok (.iand, 1) := by decide +kernel
theorem dX12_indexed_37 : decode cX12_indexed 37 = .ok (.ireturn, 1) := by decide +kernel
theorem dX12_operand_0 : decode cX12_operand 0 = .ok (.aload_n 0, 1) := by decide +kernel
theorem dX12_operand_1 : decode cX12_operand 1 = .ok (.iload_n 1, 1) := by decide +kernel
theorem dX12_operand_2 : decode cX12_operand 2 = .ok (.iload_n 2, 1) := by decide +kernel
theorem dX12_operand_3 : decode cX12_operand 3 = .ok (.iconst 0, 1) := by decide +kernel
theorem dX12_operand_4 : decode cX12_operand 4 = .ok (.invokevirtual 121, 3) := by decide +kernel
theorem dX12_operand_7 : decode cX12_operand 7 = .ok (.aload_n 0, 1) := by decide +kernel
theorem dX12_operand_8 : decode cX12_operand 8 = .ok (.iload_n 1, 1) := by decide +kernel
theorem dX12_operand_9 : decode cX12_operand 9 = .ok (.iload_n 2, 1) := by decide +kernel
theorem dX12_operand_10 : decode cX12_operand 10 = .ok (.invokevirtual 125, 3) := by decide +kernel
theorem dX12_operand_13 : decode cX12_operand 13 = .ok (.aload_n 0, 1) := by decide +kernel
theorem dX12_operand_14 : decode cX12_operand 14 = .ok (.getfield 104, 3) := by decide +kernel
theorem dX12_operand_17 : decode cX12_operand 17 = .ok (.ifCond .le 5, 3) := by decide +kernel
theorem dX12_operand_20 : decode cX12_operand 20 = .ok (.iconst 0, 1) := by decide +kernel
theorem dX12_operand_21 : decode cX12_operand 21 = .ok (.ireturn, 1) := by decide +kernel
theorem dX12_operand_22 : decode cX12_operand 22 = .ok (.aload_n 0, 1) := by decide +kernel
theorem dX12_operand_23 : decode cX12_operand 23 = .ok (.iload_n 1, 1) := by decide +kernel
theorem dX12_operand_24 : decode cX12_operand 24 = .ok (.iload_n 2, 1) := by decide +kernel
theorem dX12_operand_25 : decode cX12_operand 25 = .ok (.invokevirtual 100, 3) := by decide +kernel
theorem dX12_operand_28 : decode cX12_operand 28 = .ok (.l2i, 1) := by decide +kernel
theorem dX12_operand_29 : decode cX12_operand 29 = .ok (.istore_n 3, 1) := by decide +kernel
theorem dX12_operand_30 : decode cX12_operand 30 = .ok (.iload_n 2, 1) := by decide +kernel
theorem dX12_operand_31 : decode cX12_operand 31 = .ok (.iconst 2, 1) := by decide +kernel
theorem dX12_operand_32 : decode cX12_operand 32 = .ok (.if_icmp .ne 8, 3) := by decide +kernel
theorem dX12_operand_35 : decode cX12_operand 35 = .ok (.iload_n 3, 1) := by decide +kernel
theorem dX12_operand_36 : decode cX12_operand 36 = .ok (.i2s, 1) := by decide +kernel
theorem dX12_operand_37 : decode cX12_operand 37 = .ok (.goto 4, 3) := by decide +kernel
theorem dX12_operand_40 : decode cX12_operand 40 = .ok (.iload_n 3, 1) := by decide +kernel
theorem dX12_operand_41 : decode cX12_operand 41 = .ok (.ireturn, 1) := by decide +kernel
theorem dX12_product_0 : decode cX12_product 0 = .ok (.iload_n 1, 1) := by decide +kernel
theorem dX12_product_1 : decode cX12_product 1 = .ok (.iconst 2, 1) := by decide +kernel
theorem dX12_product_2 : decode cX12_product 2 = .ok (.irem, 1) := by decide +kernel
theorem dX12_product_3 : decode cX12_product 3 = .ok (.iconst 1, 1) := by decide +kernel
theorem dX12_product_4 : decode cX12_product 4 = .ok (.if_icmp .ne 9, 3) := by decide +kernel
theorem dX12_product_7 : decode cX12_product 7 = .ok (.aload_n 0, 1) := by decide +kernel
theorem dX12_product_8 : decode cX12_product 8 = .ok (.bipush 6, 2) := by decide +kernel
theorem dX12_product_10 : decode cX12_product 10 = .ok (.invokevirtual 107, 3) := by decide +kernel
theorem dX12_product_13 : decode cX12_product 13 = .ok (.aload_n 0, 1) := by decide +kernel
theorem dX12_product_14 : decode cX12_product 14 = .ok (.getfield 104, 3) := by decide +kernel
theorem dX12_product_17 : decode cX12_product 17 = .ok (.ifCond .ne 37, 3) := by decide +kernel
theorem dX12_product_20 : decode cX12_product 20 = .ok (.aload_n 0, 1) := by decide +kernel
theorem dX12_product_21 : decode cX12_product 21 = .ok (.getfield 16, 3) := by decide +kernel
theorem dX12_product_24 : decode cX12_product 24 = .ok (.iload_n 1, 1) := by decide +kernel
theorem dX12_product_25 : decode cX12_product 25 = .ok (.iconst 1, 1) := by decide +kernel
theorem dX12_product_26 : decode cX12_product 26 = .ok (.iadd, 1) := by decide +kernel
theorem dX12_product_27 : decode cX12_product 27 = .ok (.iaload, 1) := by decide +kernel
theorem dX12_product_28 : decode cX12_product 28 = .ok (.i2l, 1) := by decide +kernel
theorem dX12_product_29 : decode cX12_product 29 = .ok (.iload_n 2, 1) := by decide +kernel
theorem dX12_product_30 : decode cX12_product 30 = .ok (.i2l, 1) := by decide +kernel
theorem dX12_product_31 : decode cX12_product 31 = .ok (.lmul, 1) := by decide +kernel
theorem dX12_product_32 : decode cX12_product 32 = .ok (.lstore_n 3, 1) := by decide +kernel
theorem dX12_product_33 : decode cX12_product 33 = .ok (.aload_n 0, 1) := by decide +kernel
theorem dX12_product_34 : decode cX12_product 34 = .ok (.getfield 16, 3) := by decide +kernel
theorem dX12_product_37 : decode cX12_product 37 = .ok (.iload_n 1, 1) := by decide +kernel
theorem dX12_product_38 : decode cX12_product 38 = .ok (.lload_n 3, 1) := by decide +kernel
theorem dX12_product_39 : decode cX12_product 39 = .ok (.bipush 32, 2) := by decide +kernel
theorem dX12_product_41 : decode cX12_product 41 = .ok (.lshr, 1) := by decide +kernel
theorem dX12_product_42 : decode cX12_product 42 = .ok (.l2i, 1) := by decide +kernel
theorem dX12_product_43 : decode cX12_product 43 = .ok (.iastore, 1) := by decide +kernel
theorem dX12_product_44 : decode cX12_product 44 = .ok (.aload_n 0, 1) := by decide +kernel
theorem dX12_product_45 : decode cX12_product 45 = .ok (.getfield 16, 3) := by decide +kernel
theorem dX12_product_48 : decode cX12_product 48 = .ok (.iload_n 1, 1) := by decide +kernel
theorem dX12_product_49 : decode cX12_product 49 = .ok (.iconst 1, 1) := by decide +kernel
theorem dX12_product_50 : decode cX12_product 50 = .ok (.iadd, 1) := by decide +kernel
theorem dX12_product_51 : decode cX12_product 51 = .ok (.lload_n 3, 1) := by decide +kernel
theorem dX12_product_52 : decode cX12_product 52 = .ok (.l2i, 1) := by decide +kernel
theorem dX12_product_53 : decode cX12_product 53 = .ok (.iastore, 1) := by decide +kernel
theorem dX12_product_54 : decode cX12_product 54 = .ok (.return_, 1) := by decide +kernel
theorem dX12_pair_0 : decode cX12_pair 0 = .ok (.aload_n 0, 1) := by decide +kernel
theorem dX12_pair_1 : decode cX12_pair 1 = .ok (.getfield 16, 3) := by decide +kernel
theorem dX12_pair_4 : decode cX12_pair 4 = .ok (.iload_n 1, 1) := by decide +kernel
theorem dX12_pair_5 : decode cX12_pair 5 = .ok (.iaload, 1) := by decide +kernel
theorem dX12_pair_6 : decode cX12_pair 6 = .ok (.i2l, 1) := by decide +kernel
theorem dX12_pair_7 : decode cX12_pair 7 = .ok (.bipush 32, 2) := by decide +kernel
theorem dX12_pair_9 : decode cX12_pair 9 = .ok (.lshl, 1) := by decide +kernel
theorem dX12_pair_10 : decode cX12_pair 10 = .ok (.aload_n 0, 1) := by decide +kernel
theorem dX12_pair_11 : decode cX12_pair 11 = .ok (.getfield 16, 3) := by decide +kernel
theorem dX12_pair_14 : decode cX12_pair 14 = .ok (.iload_n 1, 1) := by decide +kernel
theorem dX12_pair_15 : decode cX12_pair 15 = .ok (.iconst 1, 1) := by decide +kernel
theorem dX12_pair_16 : decode cX12_pair 16 = .ok (.iadd, 1) := by decide +kernel
theorem dX12_pair_17 : decode cX12_pair 17 = .ok (.iaload, 1) := by decide +kernel
theorem dX12_pair_18 : decode cX12_pair 18 = .ok (.invokestatic 129, 3) := by decide +kernel
theorem dX12_pair_21 : decode cX12_pair 21 = .ok (.lor, 1) := by decide +kernel
theorem dX12_pair_22 : decode cX12_pair 22 = .ok (.lreturn, 1) := by decide +kernel
theorem dX12_quotient_0 : decode cX12_quotient 0 = .ok (.iload_n 1, 1) := by decide +kernel
theorem dX12_quotient_1 : decode cX12_quotient 1 = .ok (.iconst 2, 1) := by decide +kernel
theorem dX12_quotient_2 : decode cX12_quotient 2 = .ok (.irem, 1) := by decide +kernel
theorem dX12_quotient_3 : decode cX12_quotient 3 = .ok (.iconst 1, 1) := by decide +kernel
theorem dX12_quotient_4 : decode cX12_quotient 4 = .ok (.if_icmp .ne 9, 3) := by decide +kernel
theorem dX12_quotient_7 : decode cX12_quotient 7 = .ok (.aload_n 0, 1) := by decide +kernel
theorem dX12_quotient_8 : decode cX12_quotient 8 = .ok (.bipush 6, 2) := by decide +kernel
theorem dX12_quotient_10 : decode cX12_quotient 10 = .ok (.invokevirtual 107, 3) := by decide +kernel
theorem dX12_quotient_13 : decode cX12_quotient 13 = .ok (.aload_n 0, 1) := by decide +kernel
theorem dX12_quotient_14 : decode cX12_quotient 14 = .ok (.getfield 104, 3) := by decide +kernel
theorem dX12_quotient_17 : decode cX12_quotient 17 = .ok (.ifCond .le 4, 3) := by decide +kernel
theorem dX12_quotient_20 : decode cX12_quotient 20 = .ok (.return_, 1) := by decide +kernel
theorem dX12_quotient_21 : decode cX12_quotient 21 = .ok (.aload_n 0, 1) := by decide +kernel
theorem dX12_quotient_22 : decode cX12_quotient 22 = .ok (.iload_n 1, 1) := by decide +kernel
theorem dX12_quotient_23 : decode cX12_quotient 23 = .ok (.invokevirtual 133, 3) := by decide +kernel
theorem dX12_quotient_26 : decode cX12_quotient 26 = .ok (.lstore_n 3, 1) := by decide +kernel
theorem dX12_quotient_27 : decode cX12_quotient 27 = .ok (.lload_n 3, 1) := by decide +kernel
theorem dX12_quotient_28 : decode cX12_quotient 28 = .ok (.ldc2_w 138, 3) := by decide +kernel
theorem dX12_quotient_31 : decode cX12_quotient 31 = .ok (.lcmp, 1) := by decide +kernel
theorem dX12_quotient_32 : decode cX12_quotient 32 = .ok (.ifCond .ne 12, 3) := by decide +kernel
theorem dX12_quotient_35 : decode cX12_quotient 35 = .ok (.iload_n 2, 1) := by decide +kernel
theorem dX12_quotient_36 : decode cX12_quotient 36 = .ok (.iconst (-1), 1) := by decide +kernel
theorem dX12_quotient_37 : decode cX12_quotient 37 = .ok (.if_icmp .ne 7, 3) := by decide +kernel
theorem dX12_quotient_40 : decode cX12_quotient 40 = .ok (.iconst 1, 1) := by decide +kernel
theorem dX12_quotient_41 : decode cX12_quotient 41 = .ok (.goto 4, 3) := by decide +kernel
theorem dX12_quotient_44 : decode cX12_quotient 44 = .ok (.iconst 0, 1) := by decide +kernel
theorem dX12_quotient_45 : decode cX12_quotient 45 = .ok (.istore 5, 2) := by decide +kernel
theorem dX12_quotient_47 : decode cX12_quotient 47 = .ok (.iload_n 2, 1) := by decide +kernel
theorem dX12_quotient_48 : decode cX12_quotient 48 = .ok (.ifCond .eq 8, 3) := by decide +kernel
theorem dX12_quotient_51 : decode cX12_quotient 51 = .ok (.iload 5, 2) := by decide +kernel
theorem dX12_quotient_53 : decode cX12_quotient 53 = .ok (.ifCond .eq 7, 3) := by decide +kernel
theorem dX12_quotient_56 : decode cX12_quotient 56 = .ok (.lconst 0, 1) := by decide +kernel
theorem dX12_quotient_57 : decode cX12_quotient 57 = .ok (.goto 7, 3) := by decide +kernel
theorem dX12_quotient_60 : decode cX12_quotient 60 = .ok (.lload_n 3, 1) := by decide +kernel
theorem dX12_quotient_61 : decode cX12_quotient 61 = .ok (.iload_n 2, 1) := by decide +kernel
theorem dX12_quotient_62 : decode cX12_quotient 62 = .ok (.i2l, 1) := by decide +kernel
theorem dX12_quotient_63 : decode cX12_quotient 63 = .ok (.ldiv, 1) := by decide +kernel
theorem dX12_quotient_64 : decode cX12_quotient 64 = .ok (.lstore 6, 2) := by decide +kernel
theorem dX12_quotient_66 : decode cX12_quotient 66 = .ok (.iload_n 2, 1) := by decide +kernel
theorem dX12_quotient_67 : decode cX12_quotient 67 = .ok (.ifCond .eq 26, 3) := by decide +kernel
theorem dX12_quotient_70 : decode cX12_quotient 70 = .ok (.iload 5, 2) := by decide +kernel
theorem dX12_quotient_72 : decode cX12_quotient 72 = .ok (.ifCond .ne 21, 3) := by decide +kernel
theorem dX12_quotient_75 : decode cX12_quotient 75 = .ok (.lload 6, 2) := by decide +kernel
theorem dX12_quotient_77 : decode cX12_quotient 77 = .ok (.ldc2_w 140, 3) := by decide +kernel
theorem dX12_quotient_80 : decode cX12_quotient 80 = .ok (.lcmp, 1) := by decide +kernel
theorem dX12_quotient_81 : decode cX12_quotient 81 = .ok (.ifCond .gt 12, 3) := by decide +kernel
theorem dX12_quotient_84 : decode cX12_quotient 84 = .ok (.lload 6, 2) := by decide +kernel
theorem dX12_quotient_86 : decode cX12_quotient 86 = .ok (.ldc2_w 142, 3) := by decide +kernel
theorem dX12_quotient_89 : decode cX12_quotient 89 = .ok (.lcmp, 1) := by decide +kernel
theorem dX12_quotient_90 : decode cX12_quotient 90 = .ok (.ifCond .ge 10, 3) := by decide +kernel
theorem dX12_quotient_93 : decode cX12_quotient 93 = .ok (.aload_n 0, 1) := by decide +kernel
theorem dX12_quotient_94 : decode cX12_quotient 94 = .ok (.bipush 9, 2) := by decide +kernel
theorem dX12_quotient_96 : decode cX12_quotient 96 = .ok (.invokevirtual 107, 3) := by decide +kernel
theorem dX12_quotient_99 : decode cX12_quotient 99 = .ok (.return_, 1) := by decide +kernel
theorem dX12_quotient_100 : decode cX12_quotient 100 = .ok (.aload_n 0, 1) := by decide +kernel
theorem dX12_quotient_101 : decode cX12_quotient 101 = .ok (.getfield 16, 3) := by decide +kernel
theorem dX12_quotient_104 : decode cX12_quotient 104 = .ok (.iload_n 1, 1) := by decide +kernel
theorem dX12_quotient_105 : decode cX12_quotient 105 = .ok (.lload_n 3, 1) := by decide +kernel
theorem dX12_quotient_106 : decode cX12_quotient 106 = .ok (.iload_n 2, 1) := by decide +kernel
theorem dX12_quotient_107 : decode cX12_quotient 107 = .ok (.i2l, 1) := by decide +kernel
theorem dX12_quotient_108 : decode cX12_quotient 108 = .ok (.lrem, 1) := by decide +kernel
theorem dX12_quotient_109 : decode cX12_quotient 109 = .ok (.l2i, 1) := by decide +kernel
theorem dX12_quotient_110 : decode cX12_quotient 110 = .ok (.iastore, 1) := by decide +kernel
theorem dX12_quotient_111 : decode cX12_quotient 111 = .ok (.aload_n 0, 1) := by decide +kernel
theorem dX12_quotient_112 : decode cX12_quotient 112 = .ok (.getfield 16, 3) := by decide +kernel
theorem dX12_quotient_115 : decode cX12_quotient 115 = .ok (.iload_n 1, 1) := by decide +kernel
theorem dX12_quotient_116 : decode cX12_quotient 116 = .ok (.iconst 1, 1) := by decide +kernel
theorem dX12_quotient_117 : decode cX12_quotient 117 = .ok (.iadd, 1) := by decide +kernel
theorem dX12_quotient_118 : decode cX12_quotient 118 = .ok (.lload 6, 2) := by decide +kernel
theorem dX12_quotient_120 : decode cX12_quotient 120 = .ok (.l2i, 1) := by decide +kernel
theorem dX12_quotient_121 : decode cX12_quotient 121 = .ok (.iastore, 1) := by decide +kernel
theorem dX12_quotient_122 : decode cX12_quotient 122 = .ok (.return_, 1) := by decide +kernel
theorem dX12_reckon_0 : decode cX12_reckon 0 = .ok (.aload_n 0, 1) := by decide +kernel
theorem dX12_reckon_1 : decode cX12_reckon 1 = .ok (.getfield 16, 3) := by decide +kernel
theorem dX12_reckon_4 : decode cX12_reckon 4 = .ok (.iload_n 2, 1) := by decide +kernel
theorem dX12_reckon_5 : decode cX12_reckon 5 = .ok (.iaload, 1) := by decide +kernel
theorem dX12_reckon_6 : decode cX12_reckon 6 = .ok (.istore 4, 2) := by decide +kernel
theorem dX12_reckon_8 : decode cX12_reckon 8 = .ok (.iload_n 1, 1) := by decide +kernel
theorem dX12_reckon_9 : decode cX12_reckon 9 = .ok (.tableswitch 369 0 13 #[71, 100, 119, 129, 150, 181, 200, 231, 262, 272, 287, 319, 351, 360], 71) := by decide +kernel
theorem dX12_reckon_80 : decode cX12_reckon 80 = .ok (.aload_n 0, 1) := by decide +kernel
theorem dX12_reckon_81 : decode cX12_reckon 81 = .ok (.iload_n 2, 1) := by decide +kernel
theorem dX12_reckon_82 : decode cX12_reckon 82 = .ok (.iload_n 3, 1) := by decide +kernel
theorem dX12_reckon_83 : decode cX12_reckon 83 = .ok (.ifCond .ge 8, 3) := by decide +kernel
theorem dX12_reckon_86 : decode cX12_reckon 86 = .ok (.iload_n 3, 1) := by decide +kernel
theorem dX12_reckon_87 : decode cX12_reckon 87 = .ok (.ineg, 1) := by decide +kernel
theorem dX12_reckon_88 : decode cX12_reckon 88 = .ok (.goto 4, 3) := by decide +kernel
theorem dX12_reckon_91 : decode cX12_reckon 91 = .ok (.iload_n 3, 1) := by decide +kernel
theorem dX12_reckon_92 : decode cX12_reckon 92 = .ok (.iload_n 3, 1) := by decide +kernel
theorem dX12_reckon_93 : decode cX12_reckon 93 = .ok (.ldc 146, 2) := by decide +kernel
theorem dX12_reckon_95 : decode cX12_reckon 95 = .ok (.if_icmp .ne 7, 3) := by decide +kernel
theorem dX12_reckon_98 : decode cX12_reckon 98 = .ok (.iconst 1, 1) := by decide +kernel
theorem dX12_reckon_99 : decode cX12_reckon 99 = .ok (.goto 4, 3) := by decide +kernel
theorem dX12_reckon_102 : decode cX12_reckon 102 = .ok (.iconst 0, 1) := by decide +kernel
theorem dX12_reckon_103 : decode cX12_reckon 103 = .ok (.invokevirtual 147, 3) := by decide +kernel
theorem dX12_reckon_106 : decode cX12_reckon 106 = .ok (.goto 352, 3) := by decide +kernel
theorem dX12_reckon_109 : decode cX12_reckon 109 = .ok (.aload_n 0, 1) := by decide +kernel
theorem dX12_reckon_110 : decode cX12_reckon 110 = .ok (.iload_n 2, 1) := by decide +kernel
theorem dX12_reckon_111 : decode cX12_reckon 111 = .ok (.iload_n 3, 1) := by decide +kernel
theorem dX12_reckon_112 : decode cX12_reckon 112 = .ok (.ifCond .ge 7, 3) := by decide +kernel
theorem dX12_reckon_115 : decode cX12_reckon 115 = .ok (.iload_n 3, 1) := by decide +kernel
theorem dX12_reckon_116 : decode cX12_reckon 116 = .ok (.goto 5, 3) := by decide +kernel
theorem dX12_reckon_119 : decode cX12_reckon 119 = .ok (.iload_n 3, 1) := by decide +kernel
theorem dX12_reckon_120 : decode cX12_reckon 120 = .ok (.ineg, 1) := by decide +kernel
theorem dX12_reckon_121 : decode cX12_reckon 121 = .ok (.iconst 0, 1) := by decide +kernel
theorem dX12_reckon_122 : decode cX12_reckon 122 = .ok (.invokevirtual 147, 3) := by decide +kernel
theorem dX12_reckon_125 : decode cX12_reckon 125 = .ok (.goto 333, 3) := by decide +kernel
theorem dX12_reckon_128 : decode cX12_reckon 128 = .ok (.aload_n 0, 1) := by decide +kernel
theorem dX12_reckon_129 : decode cX12_reckon 129 = .ok (.iload_n 2, 1) := by decide +kernel
theorem dX12_reckon_130 : decode cX12_reckon 130 = .ok (.iload_n 3, 1) := by decide +kernel
theorem dX12_reckon_131 : decode cX12_reckon 131 = .ok (.iconst 0, 1) := by decide +kernel
theorem dX12_reckon_132 : decode cX12_reckon 132 = .ok (.invokevirtual 147, 3) := by decide +kernel
theorem dX12_reckon_135 : decode cX12_reckon 135 = .ok (.goto 323, 3) := by decide +kernel
theorem dX12_reckon_138 : decode cX12_reckon 138 = .ok (.aload_n 0, 1) := by decide +kernel
theorem dX12_reckon_139 : decode cX12_reckon 139 = .ok (.iload_n 2, 1) := by decide +kernel
theorem dX12_reckon_140 : decode cX12_reckon 140 = .ok (.iload_n 3, 1) := by decide +kernel
theorem dX12_reckon_141 : decode cX12_reckon 141 = .ok (.ineg, 1) := by decide +kernel
theorem dX12_reckon_142 : decode cX12_reckon 142 = .ok (.iload_n 3, 1) := by decide +kernel
theorem dX12_reckon_143 : decode cX12_reckon 143 = .ok (.ldc 146, 2) := by decide +kernel
theorem dX12_reckon_145 : decode cX12_reckon 145 = .ok (.if_icmp .ne 7, 3) := by decide +kernel
theorem dX12_reckon_148 : decode cX12_reckon 148 = .ok (.iconst 1, 1) := by decide +kernel
theorem dX12_reckon_149 : decode cX12_reckon 149 = .ok (.goto 4, 3) := by decide +kernel
theorem dX12_reckon_152 : decode cX12_reckon 152 = .ok (.iconst 0, 1) := by decide +kernel
theorem dX12_reckon_153 : decode cX12_reckon 153 = .ok (.invokevirtual 147, 3) := by decide +kernel
theorem dX12_reckon_156 : decode cX12_reckon 156 = .ok (.goto 302, 3) := by decide +kernel
theorem dX12_reckon_159 : decode cX12_reckon 159 = .ok (.aload_n 0, 1) := by decide +kernel
theorem dX12_reckon_160 : decode cX12_reckon 160 = .ok (.getfield 16, 3) := by decide +kernel
theorem dX12_reckon_163 : decode cX12_reckon 163 = .ok (.iload_n 2, 1) := by decide +kernel
theorem dX12_reckon_164 : decode cX12_reckon 164 = .ok (.iload 4, 2) := by decide +kernel
theorem dX12_reckon_166 : decode cX12_reckon 166 = .ok (.iload_n 3, 1) := by decide +kernel
theorem dX12_reckon_167 : decode cX12_reckon 167 = .ok (.iand, 1) := by decide +kernel
theorem dX12_reckon_168 : decode cX12_reckon 168 = .ok (.iastore, 1) := by decide +kernel
theorem dX12_reckon_169 : decode cX12_reckon 169 = .ok (.aload_n 0, 1) := by decide +kernel
theorem dX12_reckon_170 : decode cX12_reckon 170 = .ok (.aload_n 0, 1) := by decide +kernel
theorem dX12_reckon_171 : decode cX12_reckon 171 = .ok (.getfield 16, 3) := by decide +kernel
theorem dX12_reckon_174 : decode cX12_reckon 174 = .ok (.iload_n 2, 1) := by decide +kernel
theorem dX12_reckon_175 : decode cX12_reckon 175 = .ok (.iaload, 1) := by decide +kernel
theorem dX12_reckon_176 : decode cX12_reckon 176 = .ok (.ifCond .ne 7, 3) := by decide +kernel
theorem dX12_reckon_179 : decode cX12_reckon 179 = .ok (.iconst 0, 1) := by decide +kernel
theorem dX12_reckon_180 : decode cX12_reckon 180 = .ok (.goto 4, 3) := by decide +kernel
theorem dX12_reckon_183 : decode cX12_reckon 183 = .ok (.iconst 1, 1) := by decide +kernel
theorem dX12_reckon_184 : decode cX12_reckon 184 = .ok (.putfield 47, 3) := by decide +kernel
theorem dX12_reckon_187 : decode cX12_reckon 187 = .ok (.goto 271, 3) := by decide +kernel
theorem dX12_reckon_190 : decode cX12_reckon 190 = .ok (.aload_n 0, 1) := by decide +kernel
theorem dX12_reckon_191 : decode cX12_reckon 191 = .ok (.iload 4, 2) := by decide +kernel
theorem dX12_reckon_193 : decode cX12_reckon 193 = .ok (.invokestatic 129, 3) := by decide +kernel
theorem dX12_reckon_196 : decode cX12_reckon 196 = .ok (.iload_n 3, 1) := by decide +kernel
theorem dX12_reckon_197 : decode cX12_reckon 197 = .ok (.invokestatic 129, 3) := by decide +kernel
theorem dX12_reckon_200 : decode cX12_reckon 200 = .ok (.invokestatic 150, 3) := by decide +kernel
theorem dX12_reckon_203 : decode cX12_reckon 203 = .ok (.putfield 47, 3) := by decide +kernel
theorem dX12_reckon_206 : decode cX12_reckon 206 = .ok (.goto 252, 3) := by decide +kernel
theorem dX12_reckon_209 : decode cX12_reckon 209 = .ok (.aload_n 0, 1) := by decide +kernel
theorem dX12_reckon_210 : decode cX12_reckon 210 = .ok (.getfield 16, 3) := by decide +kernel
theorem dX12_reckon_213 : decode cX12_reckon 213 = .ok (.iload_n 2, 1) := by decide +kernel
theorem dX12_reckon_214 : decode cX12_reckon 214 = .ok (.iload 4, 2) := by decide +kernel
theorem dX12_reckon_216 : decode cX12_reckon 216 = .ok (.iload_n 3, 1) := by decide +kernel
theorem dX12_reckon_217 : decode cX12_reckon 217 = .ok (.ior, 1) := by decide +kernel
theorem dX12_reckon_218 : decode cX12_reckon 218 = .ok (.iastore, 1) := by decide +kernel
theorem dX12_reckon_219 : decode cX12_reckon 219 = .ok (.aload_n 0, 1) := by decide +kernel
theorem dX12_reckon_220 : decode cX12_reckon 220 = .ok (.aload_n 0, 1) := by decide +kernel
theorem dX12_reckon_221 : decode cX12_reckon 221 = .ok (.getfield 16, 3) := by decide +kernel
theorem dX12_reckon_224 : decode cX12_reckon 224 = .ok (.iload_n 2, 1) := by decide +kernel
theorem dX12_reckon_225 : decode cX12_reckon 225 = .ok (.iaload, 1) := by decide +kernel
theorem dX12_reckon_226 : decode cX12_reckon 226 = .ok (.ifCond .ne 7, 3) := by decide +kernel
theorem dX12_reckon_229 : decode cX12_reckon 229 = .ok (.iconst 0, 1) := by decide +kernel
theorem dX12_reckon_230 : decode cX12_reckon 230 = .ok (.goto 4, 3) := by decide +kernel
theorem dX12_reckon_233 : decode cX12_reckon 233 = .ok (.iconst 1, 1) := by decide +kernel
theorem dX12_reckon_234 : decode cX12_reckon 234 = .ok (.putfield 47, 3) := by decide +kernel
theorem dX12_reckon_237 : decode cX12_reckon 237 = .ok (.goto 221, 3) := by decide +kernel
theorem dX12_reckon_240 : decode cX12_reckon 240 = .ok (.aload_n 0, 1) := by decide +kernel
theorem dX12_reckon_241 : decode cX12_reckon 241 = .ok (.getfield 16, 3) := by decide +kernel
theorem dX12_reckon_244 : decode cX12_reckon 244 = .ok (.iload_n 2, 1) := by decide +kernel
theorem dX12_reckon_245 : decode cX12_reckon 245 = .ok (.iload 4, 2) := by decide +kernel
theorem dX12_reckon_247 : decode cX12_reckon 247 = .ok (.iload_n 3, 1) := by decide +kernel
theorem dX12_reckon_248 : decode cX12_reckon 248 = .ok (.ixor, 1) := by decide +kernel
theorem dX12_reckon_249 : decode cX12_reckon 249 = .ok (.iastore, 1) := by decide +kernel
theorem dX12_reckon_250 : decode cX12_reckon 250 = .ok (.aload_n 0, 1) := by decide +kernel
theorem dX12_reckon_251 : decode cX12_reckon 251 = .ok (.aload_n 0, 1) := by decide +kernel
theorem dX12_reckon_252 : decode cX12_reckon 252 = .ok (.getfield 16, 3) := by decide +kernel
theorem dX12_reckon_255 : decode cX12_reckon 255 = .ok (.iload_n 2, 1) := by decide +kernel
theorem dX12_reckon_256 : decode cX12_reckon 256 = .ok (.iaload, 1) := by decide +kernel
theorem dX12_reckon_257 : decode cX12_reckon 257 = .ok (.ifCond .ne 7, 3) := by decide +kernel
theorem dX12_reckon_260 : decode cX12_reckon 260 = .ok (.iconst 0, 1) := by decide +kernel
theorem dX12_reckon_261 : decode cX12_reckon 261 = .ok (.goto 4, 3) := by decide +kernel
theorem dX12_reckon_264 : decode cX12_reckon 264 = .ok (.iconst 1, 1) := by decide +kernel
theorem dX12_reckon_265 : decode cX12_reckon 265 = .ok (.putfield 47, 3) := by decide +kernel
theorem dX12_reckon_268 : decode cX12_reckon 268 = .ok (.goto 190, 3) := by decide +kernel
theorem dX12_reckon_271 : decode cX12_reckon 271 = .ok (.aload_n 0, 1) := by decide +kernel
theorem dX12_reckon_272 : decode cX12_reckon 272 = .ok (.getfield 16, 3) := by decide +kernel
theorem dX12_reckon_275 : decode cX12_reckon 275 = .ok (.iload_n 2, 1) := by decide +kernel
theorem dX12_reckon_276 : decode cX12_reckon 276 = .ok (.iload_n 3, 1) := by decide +kernel
theorem dX12_reckon_277 : decode cX12_reckon 277 = .ok (.iastore, 1) := by decide +kernel
theorem dX12_reckon_278 : decode cX12_reckon 278 = .ok (.goto 180, 3) := by decide +kernel
theorem dX12_reckon_281 : decode cX12_reckon 281 = .ok (.aload_n 0, 1) := by decide +kernel
theorem dX12_reckon_282 : decode cX12_reckon 282 = .ok (.iload 4, 2) := by decide +kernel
theorem dX12_reckon_284 : decode cX12_reckon 284 = .ok (.i2l, 1) := by decide +kernel
theorem dX12_reckon_285 : decode cX12_reckon 285 = .ok (.iload_n 3, 1) := by decide +kernel
theorem dX12_reckon_286 : decode cX12_reckon 286 = .ok (.i2l, 1) := by decide +kernel
theorem dX12_reckon_287 : decode cX12_reckon 287 = .ok (.invokestatic 150, 3) := by decide +kernel
theorem dX12_reckon_290 : decode cX12_reckon 290 = .ok (.putfield 47, 3) := by decide +kernel
theorem dX12_reckon_293 : decode cX12_reckon 293 = .ok (.goto 165, 3) := by decide +kernel
theorem dX12_reckon_296 : decode cX12_reckon 296 = .ok (.aload_n 0, 1) := by decide +kernel
theorem dX12_reckon_297 : decode cX12_reckon 297 = .ok (.iload_n 2, 1) := by decide +kernel
theorem dX12_reckon_298 : decode cX12_reckon 298 = .ok (.iload 4, 2) := by decide +kernel
theorem dX12_reckon_300 : decode cX12_reckon 300 = .ok (.iload_n 3, 1) := by decide +kernel
theorem dX12_reckon_301 : decode cX12_reckon 301 = .ok (.iadd, 1) := by decide +kernel
theorem dX12_reckon_302 : decode cX12_reckon 302 = .ok (.iload 4, 2) := by decide +kernel
theorem dX12_reckon_304 : decode cX12_reckon 304 = .ok (.i2l, 1) := by decide +kernel
theorem dX12_reckon_305 : decode cX12_reckon 305 = .ok (.iload_n 3, 1) := by decide +kernel
theorem dX12_reckon_306 : decode cX12_reckon 306 = .ok (.i2l, 1) := by decide +kernel
theorem dX12_reckon_307 : decode cX12_reckon 307 = .ok (.ladd, 1) := by decide +kernel
theorem dX12_reckon_308 : decode cX12_reckon 308 = .ok (.iload 4, 2) := by decide +kernel
theorem dX12_reckon_310 : decode cX12_reckon 310 = .ok (.iload_n 3, 1) := by decide +kernel
theorem dX12_reckon_311 : decode cX12_reckon 311 = .ok (.iadd, 1) := by decide +kernel
theorem dX12_reckon_312 : decode cX12_reckon 312 = .ok (.i2l, 1) := by decide +kernel
theorem dX12_reckon_313 : decode cX12_reckon 313 = .ok (.lcmp, 1) := by decide +kernel
theorem dX12_reckon_314 : decode cX12_reckon 314 = .ok (.ifCond .eq 7, 3) := by decide +kernel
theorem dX12_reckon_317 : decode cX12_reckon 317 = .ok (.iconst 1, 1) := by decide +kernel
theorem dX12_reckon_318 : decode cX12_reckon 318 = .ok (.goto 4, 3) := by decide +kernel
theorem dX12_reckon_321 : decode cX12_reckon 321 = .ok (.iconst 0, 1) := by decide +kernel
theorem dX12_reckon_322 : decode cX12_reckon 322 = .ok (.invokevirtual 147, 3) := by decide +kernel
theorem dX12_reckon_325 : decode cX12_reckon 325 = .ok (.goto 133, 3) := by decide +kernel
theorem dX12_reckon_328 : decode cX12_reckon 328 = .ok (.aload_n 0, 1) := by decide +kernel
theorem dX12_reckon_329 : decode cX12_reckon 329 = .ok (.iload_n 2, 1) := by decide +kernel
theorem dX12_reckon_330 : decode cX12_reckon 330 = .ok (.iload 4, 2) := by decide +kernel
theorem dX12_reckon_332 : decode cX12_reckon 332 = .ok (.iload_n 3, 1) := by decide +kernel
theorem dX12_reckon_333 : decode cX12_reckon 333 = .ok (.isub, 1) := by decide +kernel
theorem dX12_reckon_334 : decode cX12_reckon 334 = .ok (.iload 4, 2) := by decide +kernel
theorem dX12_reckon_336 : decode cX12_reckon 336 = .ok (.i2l, 1) := by decide +kernel
theorem dX12_reckon_337 : decode cX12_reckon 337 = .ok (.iload_n 3, 1) := by decide +kernel
theorem dX12_reckon_338 : decode cX12_reckon 338 = .ok (.i2l, 1) := by decide +kernel
theorem dX12_reckon_339 : decode cX12_reckon 339 = .ok (.lsub, 1) := by decide +kernel
theorem dX12_reckon_340 : decode cX12_reckon 340 = .ok (.iload 4, 2) := by decide +kernel
theorem dX12_reckon_342 : decode cX12_reckon 342 = .ok (.iload_n 3, 1) := by decide +kernel
theorem dX12_reckon_343 : decode cX12_reckon 343 = .ok (.isub, 1) := by decide +kernel
theorem dX12_reckon_344 : decode cX12_reckon 344 = .ok (.i2l, 1) := by decide +kernel
theorem dX12_reckon_345 : decode cX12_reckon 345 = .ok (.lcmp, 1) := by decide +kernel
theorem dX12_reckon_346 : decode cX12_reckon 346 = .ok (.ifCond .eq 7, 3) := by decide +kernel
theorem dX12_reckon_349 : decode cX12_reckon 349 = .ok (.iconst 1, 1) := by decide +kernel
theorem dX12_reckon_350 : decode cX12_reckon 350 = .ok (.goto 4, 3) := by decide +kernel
theorem dX12_reckon_353 : decode cX12_reckon 353 = .ok (.iconst 0, 1) := by decide +kernel
theorem dX12_reckon_354 : decode cX12_reckon 354 = .ok (.invokevirtual 147, 3) := by decide +kernel
theorem dX12_reckon_357 : decode cX12_reckon 357 = .ok (.goto 101, 3) := by decide +kernel
theorem dX12_reckon_360 : decode cX12_reckon 360 = .ok (.aload_n 0, 1) := by decide +kernel
theorem dX12_reckon_361 : decode cX12_reckon 361 = .ok (.iload_n 2, 1) := by decide +kernel
theorem dX12_reckon_362 : decode cX12_reckon 362 = .ok (.iload_n 3, 1) := by decide +kernel
theorem dX12_reckon_363 : decode cX12_reckon 363 = .ok (.invokevirtual 154, 3) := by decide +kernel
theorem dX12_reckon_366 : decode cX12_reckon 366 = .ok (.goto 92, 3) := by decide +kernel
theorem dX12_reckon_369 : decode cX12_reckon 369 = .ok (.aload_n 0, 1) := by decide +kernel
theorem dX12_reckon_370 : decode cX12_reckon 370 = .ok (.iload_n 2, 1) := by decide +kernel
theorem dX12_reckon_371 : decode cX12_reckon 371 = .ok (.iload_n 3, 1) := by decide +kernel
theorem dX12_reckon_372 : decode cX12_reckon 372 = .ok (.invokevirtual 157, 3) := by decide +kernel
theorem dX12_reckon_375 : decode cX12_reckon 375 = .ok (.goto 83, 3) := by decide +kernel
theorem dX12_reckon_378 : decode cX12_reckon 378 = .ok (.iload_n 1, 1) := by decide +kernel
theorem dX12_reckon_379 : decode cX12_reckon 379 = .ok (.bipush 14, 2) := by decide +kernel
theorem dX12_reckon_381 : decode cX12_reckon 381 = .ok (.if_icmp .ne 16, 3) := by decide +kernel
theorem dX12_reckon_384 : decode cX12_reckon 384 = .ok (.iload 4, 2) := by decide +kernel
theorem dX12_reckon_386 : decode cX12_reckon 386 = .ok (.invokestatic 129, 3) := by decide +kernel
theorem dX12_reckon_389 : decode cX12_reckon 389 = .ok (.iload_n 3, 1) := by decide +kernel
theorem dX12_reckon_390 : decode cX12_reckon 390 = .ok (.invokestatic 129, 3) := by decide +kernel
theorem dX12_reckon_393 : decode cX12_reckon 393 = .ok (.ladd, 1) := by decide +kernel
theorem dX12_reckon_394 : decode cX12_reckon 394 = .ok (.goto 17, 3) := by decide +kernel
theorem dX12_reckon_397 : decode cX12_reckon 397 = .ok (.iload 4, 2) := by decide +kernel
theorem dX12_reckon_399 : decode cX12_reckon 399 = .ok (.invokestatic 129, 3) := by decide +kernel
theorem dX12_reckon_402 : decode cX12_reckon 402 = .ok (.iload_n 3, 1) := by decide +kernel
theorem dX12_reckon_403 : decode cX12_reckon 403 = .ok (.iconst (-1), 1) := by decide +kernel
theorem dX12_reckon_404 : decode cX12_reckon 404 = .ok (.ixor, 1) := by decide +kernel
theorem dX12_reckon_405 : decode cX12_reckon 405 = .ok (.invokestatic 129, 3) := by decide +kernel
theorem dX12_reckon_408 : decode cX12_reckon 408 = .ok (.ladd, 1) := by decide +kernel
theorem dX12_reckon_409 : decode cX12_reckon 409 = .ok (.lconst 1, 1) := by decide +kernel
theorem dX12_reckon_410 : decode cX12_reckon 410 = .ok (.ladd, 1) := by decide +kernel
theorem dX12_reckon_411 : decode cX12_reckon 411 = .ok (.lstore 5, 2) := by decide +kernel
theorem dX12_reckon_413 : decode cX12_reckon 413 = .ok (.aload_n 0, 1) := by decide +kernel
theorem dX12_reckon_414 : decode cX12_reckon 414 = .ok (.getfield 16, 3) := by decide +kernel
theorem dX12_reckon_417 : decode cX12_reckon 417 = .ok (.iload_n 2, 1) := by decide +kernel
theorem dX12_reckon_418 : decode cX12_reckon 418 = .ok (.lload 5, 2) := by decide +kernel
theorem dX12_reckon_420 : decode cX12_reckon 420 = .ok (.l2i, 1) := by decide +kernel
theorem dX12_reckon_421 : decode cX12_reckon 421 = .ok (.iastore, 1) := by decide +kernel
theorem dX12_reckon_422 : decode cX12_reckon 422 = .ok (.aload_n 0, 1) := by decide +kernel
theorem dX12_reckon_423 : decode cX12_reckon 423 = .ok (.aload_n 0, 1) := by decide +kernel
theorem dX12_reckon_424 : decode cX12_reckon 424 = .ok (.getfield 16, 3) := by decide +kernel
theorem dX12_reckon_427 : decode cX12_reckon 427 = .ok (.iload_n 2, 1) := by decide +kernel
theorem dX12_reckon_428 : decode cX12_reckon 428 = .ok (.iaload, 1) := by decide +kernel
theorem dX12_reckon_429 : decode cX12_reckon 429 = .ok (.ifCond .ne 7, 3) := by decide +kernel
theorem dX12_reckon_432 : decode cX12_reckon 432 = .ok (.iconst 0, 1) := by decide +kernel
theorem dX12_reckon_433 : decode cX12_reckon 433 = .ok (.goto 4, 3) := by decide +kernel
theorem dX12_reckon_436 : decode cX12_reckon 436 = .ok (.iconst 1, 1) := by decide +kernel
theorem dX12_reckon_437 : decode cX12_reckon 437 = .ok (.lload 5, 2) := by decide +kernel
theorem dX12_reckon_439 : decode cX12_reckon 439 = .ok (.ldc2_w 78, 3) := by decide +kernel
theorem dX12_reckon_442 : decode cX12_reckon 442 = .ok (.lcmp, 1) := by decide +kernel
theorem dX12_reckon_443 : decode cX12_reckon 443 = .ok (.ifCond .le 7, 3) := by decide +kernel
theorem dX12_reckon_446 : decode cX12_reckon 446 = .ok (.iconst 2, 1) := by decide +kernel
theorem dX12_reckon_447 : decode cX12_reckon 447 = .ok (.goto 4, 3) := by decide +kernel
theorem dX12_reckon_450 : decode cX12_reckon 450 = .ok (.iconst 0, 1) := by decide +kernel
theorem dX12_reckon_451 : decode cX12_reckon 451 = .ok (.iadd, 1) := by decide +kernel
theorem dX12_reckon_452 : decode cX12_reckon 452 = .ok (.putfield 47, 3) := by decide +kernel
theorem dX12_reckon_455 : decode cX12_reckon 455 = .ok (.goto 3, 3) := by decide +kernel
theorem dX12_reckon_458 : decode cX12_reckon 458 = .ok (.return_, 1) := by decide +kernel
theorem dX12_takeDecimal_0 : decode cX12_takeDecimal 0 = .ok (.iconst 0, 1) := by decide +kernel
theorem dX12_takeDecimal_1 : decode cX12_takeDecimal 1 = .ok (.istore 4, 2) := by decide +kernel
theorem dX12_takeDecimal_3 : decode cX12_takeDecimal 3 = .ok (.iload 4, 2) := by decide +kernel
theorem dX12_takeDecimal_5 : decode cX12_takeDecimal 5 = .ok (.bipush 80, 2) := by decide +kernel
theorem dX12_takeDecimal_7 : decode cX12_takeDecimal 7 = .ok (.if_icmp .ge 32, 3) := by decide +kernel
theorem dX12_takeDecimal_10 : decode cX12_takeDecimal 10 = .ok (.iload_n 3, 1) := by decide +kernel
theorem dX12_takeDecimal_11 : decode cX12_takeDecimal 11 = .ok (.ifCond .eq 14, 3) := by decide +kernel
theorem dX12_takeDecimal_14 : decode cX12_takeDecimal 14 = .ok (.aload_n 0, 1) := by decide +kernel
theorem dX12_takeDecimal_15 : decode cX12_takeDecimal 15 = .ok (.getfield 25, 3) := by decide +kernel
theorem dX12_takeDecimal_18 : decode cX12_takeDecimal 18 = .ok (.iload 4, 2) := by decide +kernel
theorem dX12_takeDecimal_20 : decode cX12_takeDecimal 20 = .ok (.iconst 0, 1) := by decide +kernel
theorem dX12_takeDecimal_21 : decode cX12_takeDecimal 21 = .ok (.iastore, 1) := by decide +kernel
theorem dX12_takeDecimal_22 : decode cX12_takeDecimal 22 = .ok (.goto 11, 3) := by decide +kernel
theorem dX12_takeDecimal_25 : decode cX12_takeDecimal 25 = .ok (.aload_n 0, 1) := by decide +kernel
theorem dX12_takeDecimal_26 : decode cX12_takeDecimal 26 = .ok (.getfield 28, 3) := by decide +kernel
theorem dX12_takeDecimal_29 : decode cX12_takeDecimal 29 = .ok (.iload 4, 2) := by decide +kernel
theorem dX12_takeDecimal_31 : decode cX12_takeDecimal 31 = .ok (.iconst 0, 1) := by decide +kernel
theorem dX12_takeDecimal_32 : decode cX12_takeDecimal 32 = .ok (.iastore, 1) := by decide +kernel
theorem dX12_takeDecimal_33 : decode cX12_takeDecimal 33 = .ok (.iinc 4 1, 3) := by decide +kernel
theorem dX12_takeDecimal_36 : decode cX12_takeDecimal 36 = .ok (.goto (-33), 3) := by decide +kernel
theorem dX12_takeDecimal_39 : decode cX12_takeDecimal 39 = .ok (.aload_n 0, 1) := by decide +kernel
theorem dX12_takeDecimal_40 : decode cX12_takeDecimal 40 = .ok (.getfield 104, 3) := by decide +kernel
theorem dX12_takeDecimal_43 : decode cX12_takeDecimal 43 = .ok (.ifCond .le 4, 3) := by decide +kernel
theorem dX12_takeDecimal_46 : decode cX12_takeDecimal 46 = .ok (.return_, 1) := by decide +kernel
theorem dX12_takeDecimal_47 : decode cX12_takeDecimal 47 = .ok (.aload_n 0, 1) := by decide +kernel
theorem dX12_takeDecimal_48 : decode cX12_takeDecimal 48 = .ok (.getfield 7, 3) := by decide +kernel
theorem dX12_takeDecimal_51 : decode cX12_takeDecimal 51 = .ok (.iload_n 1, 1) := by decide +kernel
theorem dX12_takeDecimal_52 : decode cX12_takeDecimal 52 = .ok (.iload_n 2, 1) := by decide +kernel
theorem dX12_takeDecimal_53 : decode cX12_takeDecimal 53 = .ok (.iadd, 1) := by decide +kernel
theorem dX12_takeDecimal_54 : decode cX12_takeDecimal 54 = .ok (.iconst 1, 1) := by decide +kernel
theorem dX12_takeDecimal_55 : decode cX12_takeDecimal 55 = .ok (.isub, 1) := by decide +kernel
theorem dX12_takeDecimal_56 : decode cX12_takeDecimal 56 = .ok (.iaload, 1) := by decide +kernel
theorem dX12_takeDecimal_57 : decode cX12_takeDecimal 57 = .ok (.bipush 15, 2) := by decide +kernel
theorem dX12_takeDecimal_59 : decode cX12_takeDecimal 59 = .ok (.iand, 1) := by decide +kernel
theorem dX12_takeDecimal_60 : decode cX12_takeDecimal 60 = .ok (.istore 4, 2) := by decide +kernel
theorem dX12_takeDecimal_62 : decode cX12_takeDecimal 62 = .ok (.iload 4, 2) := by decide +kernel
theorem dX12_takeDecimal_64 : decode cX12_takeDecimal 64 = .ok (.bipush 10, 2) := by decide +kernel
theorem dX12_takeDecimal_66 : decode cX12_takeDecimal 66 = .ok (.if_icmp .ge 9, 3) := by decide +kernel
theorem dX12_takeDecimal_69 : decode cX12_takeDecimal 69 = .ok (.aload_n 0, 1) := by decide +kernel
theorem dX12_takeDecimal_70 : decode cX12_takeDecimal 70 = .ok (.bipush 7, 2) := by decide +kernel
theorem dX12_takeDecimal_72 : decode cX12_takeDecimal 72 = .ok (.invokevirtual 107, 3) := by decide +kernel
theorem dX12_takeDecimal_75 : decode cX12_takeDecimal 75 = .ok (.iconst 0, 1) := by decide +kernel
theorem dX12_takeDecimal_76 : decode cX12_takeDecimal 76 = .ok (.istore 5, 2) := by decide +kernel
theorem dX12_takeDecimal_78 : decode cX12_takeDecimal 78 = .ok (.iload 5, 2) := by decide +kernel
theorem dX12_takeDecimal_80 : decode cX12_takeDecimal 80 = .ok (.iconst 2, 1) := by decide +kernel
theorem dX12_takeDecimal_81 : decode cX12_takeDecimal 81 = .ok (.iload_n 2, 1) := by decide +kernel
theorem dX12_takeDecimal_82 : decode cX12_takeDecimal 82 = .ok (.imul, 1) := by decide +kernel
theorem dX12_takeDecimal_83 : decode cX12_takeDecimal 83 = .ok (.iconst 1, 1) := by decide +kernel
theorem dX12_takeDecimal_84 : decode cX12_takeDecimal 84 = .ok (.isub, 1) := by decide +kernel
theorem dX12_takeDecimal_85 : decode cX12_takeDecimal 85 = .ok (.if_icmp .ge 87, 3) := by decide +kernel
theorem dX12_takeDecimal_88 : decode cX12_takeDecimal 88 = .ok (.aload_n 0, 1) := by decide +kernel
theorem dX12_takeDecimal_89 : decode cX12_takeDecimal 89 = .ok (.getfield 7, 3) := by decide +kernel
theorem dX12_takeDecimal_92 : decode cX12_takeDecimal 92 = .ok (.iload_n 1, 1) := by decide +kernel
theorem dX12_takeDecimal_93 : decode cX12_takeDecimal 93 = .ok (.iload_n 2, 1) := by decide +kernel
theorem dX12_takeDecimal_94 : decode cX12_takeDecimal 94 = .ok (.iadd, 1) := by decide +kernel
theorem dX12_takeDecimal_95 : decode cX12_takeDecimal 95 = .ok (.iconst 1, 1) := by decide +kernel
theorem dX12_takeDecimal_96 : decode cX12_takeDecimal 96 = .ok (.isub, 1) := by decide +kernel
theorem dX12_takeDecimal_97 : decode cX12_takeDecimal 97 = .ok (.iload 5, 2) := by decide +kernel
theorem dX12_takeDecimal_99 : decode cX12_takeDecimal 99 = .ok (.iconst 1, 1) := by decide +kernel
theorem dX12_takeDecimal_100 : decode cX12_takeDecimal 100 = .ok (.iadd, 1) := by decide +kernel
theorem dX12_takeDecimal_101 : decode cX12_takeDecimal 101 = .ok (.iconst 2, 1) := by decide +kernel
theorem dX12_takeDecimal_102 : decode cX12_takeDecimal 102 = .ok (.idiv, 1) := by decide +kernel
theorem dX12_takeDecimal_103 : decode cX12_takeDecimal 103 = .ok (.isub, 1) := by decide +kernel
theorem dX12_takeDecimal_104 : decode cX12_takeDecimal 104 = .ok (.iaload, 1) := by decide +kernel
theorem dX12_takeDecimal_105 : decode cX12_takeDecimal 105 = .ok (.istore 6, 2) := by decide +kernel
theorem dX12_takeDecimal_107 : decode cX12_takeDecimal 107 = .ok (.iload 5, 2) := by decide +kernel
theorem dX12_takeDecimal_109 : decode cX12_takeDecimal 109 = .ok (.iconst 2, 1) := by decide +kernel
theorem dX12_takeDecimal_110 : decode cX12_takeDecimal 110 = .ok (.irem, 1) := by decide +kernel
theorem dX12_takeDecimal_111 : decode cX12_takeDecimal 111 = .ok (.ifCond .ne 10, 3) := by decide +kernel
theorem dX12_takeDecimal_114 : decode cX12_takeDecimal 114 = .ok (.iload 6, 2) := by decide +kernel
theorem dX12_takeDecimal_116 : decode cX12_takeDecimal 116 = .ok (.iconst 4, 1) := by decide +kernel
theorem dX12_takeDecimal_117 : decode cX12_takeDecimal 117 = .ok (.ishr, 1) := by decide +kernel
theorem dX12_takeDecimal_118 : decode cX12_takeDecimal 118 = .ok (.goto 8, 3) := by decide +kernel
theorem dX12_takeDecimal_121 : decode cX12_takeDecimal 121 = .ok (.iload 6, 2) := by decide +kernel
theorem dX12_takeDecimal_123 : decode cX12_takeDecimal 123 = .ok (.bipush 15, 2) := by decide +kernel
theorem dX12_takeDecimal_125 : decode cX12_takeDecimal 125 = .ok (.iand, 1) := by decide +kernel
theorem dX12_takeDecimal_126 : decode cX12_takeDecimal 126 = .ok (.istore 7, 2) := by decide +kernel
theorem dX12_takeDecimal_128 : decode cX12_takeDecimal 128 = .ok (.iload 7, 2) := by decide +kernel
theorem dX12_takeDecimal_130 : decode cX12_takeDecimal 130 = .ok (.bipush 9, 2) := by decide +kernel
theorem dX12_takeDecimal_132 : decode cX12_takeDecimal 132 = .ok (.if_icmp .le 9, 3) := by decide +kernel
theorem dX12_takeDecimal_135 : decode cX12_takeDecimal 135 = .ok (.aload_n 0, 1) := by decide +kernel
theorem dX12_takeDecimal_136 : decode cX12_takeDecimal 136 = .ok (.bipush 7, 2) := by decide +kernel
theorem dX12_takeDecimal_138 : decode cX12_takeDecimal 138 = .ok (.invokevirtual 107, 3) := by decide +kernel
theorem dX12_takeDecimal_141 : decode cX12_takeDecimal 141 = .ok (.iload_n 3, 1) := by decide +kernel
theorem dX12_takeDecimal_142 : decode cX12_takeDecimal 142 = .ok (.ifCond .eq 15, 3) := by decide +kernel
theorem dX12_takeDecimal_145 : decode cX12_takeDecimal 145 = .ok (.aload_n 0, 1) := by decide +kernel
theorem dX12_takeDecimal_146 : decode cX12_takeDecimal 146 = .ok (.getfield 25, 3) := by decide +kernel
theorem dX12_takeDecimal_149 : decode cX12_takeDecimal 149 = .ok (.iload 5, 2) := by decide +kernel
theorem dX12_takeDecimal_151 : decode cX12_takeDecimal 151 = .ok (.iload 7, 2) := by decide +kernel
theorem dX12_takeDecimal_153 : decode cX12_takeDecimal 153 = .ok (.iastore, 1) := by decide +kernel
theorem dX12_takeDecimal_154 : decode cX12_takeDecimal 154 = .ok (.goto 12, 3) := by decide +kernel
theorem dX12_takeDecimal_157 : decode cX12_takeDecimal 157 = .ok (.aload_n 0, 1) := by decide +kernel
theorem dX12_takeDecimal_158 : decode cX12_takeDecimal 158 = .ok (.getfield 28, 3) := by decide +kernel
theorem dX12_takeDecimal_161 : decode cX12_takeDecimal 161 = .ok (.iload 5, 2) := by decide +kernel
theorem dX12_takeDecimal_163 : decode cX12_takeDecimal 163 = .ok (.iload 7, 2) := by decide +kernel
theorem dX12_takeDecimal_165 : decode cX12_takeDecimal 165 = .ok (.iastore, 1) := by decide +kernel
theorem dX12_takeDecimal_166 : decode cX12_takeDecimal 166 = .ok (.iinc 5 1, 3) := by decide +kernel
theorem dX12_takeDecimal_169 : decode cX12_takeDecimal 169 = .ok (.goto (-91), 3) := by decide +kernel
theorem dX12_takeDecimal_172 : decode cX12_takeDecimal 172 = .ok (.iload_n 3, 1) := by decide +kernel
theorem dX12_takeDecimal_173 : decode cX12_takeDecimal 173 = .ok (.ifCond .eq 29, 3) := by decide +kernel
theorem dX12_takeDecimal_176 : decode cX12_takeDecimal 176 = .ok (.aload_n 0, 1) := by decide +kernel
theorem dX12_takeDecimal_177 : decode cX12_takeDecimal 177 = .ok (.iload 4, 2) := by decide +kernel
theorem dX12_takeDecimal_179 : decode cX12_takeDecimal 179 = .ok (.bipush 11, 2) := by decide +kernel
theorem dX12_takeDecimal_181 : decode cX12_takeDecimal 181 = .ok (.if_icmp .eq 10, 3) := by decide +kernel
theorem dX12_takeDecimal_184 : decode cX12_takeDecimal 184 = .ok (.iload 4, 2) := by decide +kernel
theorem dX12_takeDecimal_186 : decode cX12_takeDecimal 186 = .ok (.bipush 13, 2) := by decide +kernel
theorem dX12_takeDecimal_188 : decode cX12_takeDecimal 188 = .ok (.if_icmp .ne 7, 3) := by decide +kernel
theorem dX12_takeDecimal_191 : decode cX12_takeDecimal 191 = .ok (.iconst 1, 1) := by decide +kernel
theorem dX12_takeDecimal_192 : decode cX12_takeDecimal 192 = .ok (.goto 4, 3) := by decide +kernel
theorem dX12_takeDecimal_195 : decode cX12_takeDecimal 195 = .ok (.iconst 0, 1) := by decide +kernel
theorem dX12_takeDecimal_196 : decode cX12_takeDecimal 196 = .ok (.putfield 160, 3) := by decide +kernel
theorem dX12_takeDecimal_199 : decode cX12_takeDecimal 199 = .ok (.goto 26, 3) := by decide +kernel
theorem dX12_takeDecimal_202 : decode cX12_takeDecimal 202 = .ok (.aload_n 0, 1) := by decide +kernel
theorem dX12_takeDecimal_203 : decode cX12_takeDecimal 203 = .ok (.iload 4, 2) := by decide +kernel
theorem dX12_takeDecimal_205 : decode cX12_takeDecimal 205 = .ok (.bipush 11, 2) := by decide +kernel
theorem dX12_takeDecimal_207 : decode cX12_takeDecimal 207 = .ok (.if_icmp .eq 10, 3) := by decide +kernel
theorem dX12_takeDecimal_210 : decode cX12_takeDecimal 210 = .ok (.iload 4, 2) := by decide +kernel
theorem dX12_takeDecimal_212 : decode cX12_takeDecimal 212 = .ok (.bipush 13, 2) := by decide +kernel
theorem dX12_takeDecimal_214 : decode cX12_takeDecimal 214 = .ok (.if_icmp .ne 7, 3) := by decide +kernel
theorem dX12_takeDecimal_217 : decode cX12_takeDecimal 217 = .ok (.iconst 1, 1) := by decide +kernel
theorem dX12_takeDecimal_218 : decode cX12_takeDecimal 218 = .ok (.goto 4, 3) := by decide +kernel
theorem dX12_takeDecimal_221 : decode cX12_takeDecimal 221 = .ok (.iconst 0, 1) := by decide +kernel
theorem dX12_takeDecimal_222 : decode cX12_takeDecimal 222 = .ok (.putfield 163, 3) := by decide +kernel
theorem dX12_takeDecimal_225 : decode cX12_takeDecimal 225 = .ok (.return_, 1) := by decide +kernel
theorem dX12_order_0 : decode cX12_order 0 = .ok (.bipush 79, 2) := by decide +kernel
theorem dX12_order_2 : decode cX12_order 2 = .ok (.istore_n 2, 1) := by decide +kernel
theorem dX12_order_3 : decode cX12_order 3 = .ok (.iload_n 2, 1) := by decide +kernel
theorem dX12_order_4 : decode cX12_order 4 = .ok (.ifCond .lt 33, 3) := by decide +kernel
theorem dX12_order_7 : decode cX12_order 7 = .ok (.aload_n 0, 1) := by decide +kernel
theorem dX12_order_8 : decode cX12_order 8 = .ok (.iload_n 2, 1) := by decide +kernel
theorem dX12_order_9 : decode cX12_order 9 = .ok (.iaload, 1) := by decide +kernel
theorem dX12_order_10 : decode cX12_order 10 = .ok (.aload_n 1, 1) := by decide +kernel
theorem dX12_order_11 : decode cX12_order 11 = .ok (.iload_n 2, 1) := by decide +kernel
theorem dX12_order_12 : decode cX12_order 12 = .ok (.iaload, 1) := by decide +kernel
theorem dX12_order_13 : decode cX12_order 13 = .ok (.if_icmp .eq 18, 3) := by decide +kernel
theorem dX12_order_16 : decode cX12_order 16 = .ok (.aload_n 0, 1) := by decide +kernel
theorem dX12_order_17 : decode cX12_order 17 = .ok (.iload_n 2, 1) := by decide +kernel
theorem dX12_order_18 : decode cX12_order 18 = .ok (.iaload, 1) := by decide +kernel
theorem dX12_order_19 : decode cX12_order 19 = .ok (.aload_n 1, 1) := by decide +kernel
theorem dX12_order_20 : decode cX12_order 20 = .ok (.iload_n 2, 1) := by decide +kernel
theorem dX12_order_21 : decode cX12_order 21 = .ok (.iaload, 1) := by decide +kernel
theorem dX12_order_22 : decode cX12_order 22 = .ok (.if_icmp .ge 7, 3) := by decide +kernel
theorem dX12_order_25 : decode cX12_order 25 = .ok (.iconst (-1), 1) := by decide +kernel
theorem dX12_order_26 : decode cX12_order 26 = .ok (.goto 4, 3) := by decide +kernel
theorem dX12_order_29 : decode cX12_order 29 = .ok (.iconst 1, 1) := by decide +kernel
theorem dX12_order_30 : decode cX12_order 30 = .ok (.ireturn, 1) := by decide +kernel
theorem dX12_order_31 : decode cX12_order 31 = .ok (.iinc 2 (-1), 3) := by decide +kernel
theorem dX12_order_34 : decode cX12_order 34 = .ok (.goto (-31), 3) := by decide +kernel
theorem dX12_order_37 : decode cX12_order 37 = .ok (.iconst 0, 1) := by decide +kernel
theorem dX12_order_38 : decode cX12_order 38 = .ok (.ireturn, 1) := by decide +kernel
theorem dX12_isZero_0 : decode cX12_isZero 0 = .ok (.iconst 0, 1) := by decide +kernel
theorem dX12_isZero_1 : decode cX12_isZero 1 = .ok (.istore_n 1, 1) := by decide +kernel
theorem dX12_isZero_2 : decode cX12_isZero 2 = .ok (.iload_n 1, 1) := by decide +kernel
theorem dX12_isZero_3 : decode cX12_isZero 3 = .ok (.bipush 80, 2) := by decide +kernel
theorem dX12_isZero_5 : decode cX12_isZero 5 = .ok (.if_icmp .ge 17, 3) := by decide +kernel
theorem dX12_isZero_8 : decode cX12_isZero 8 = .ok (.aload_n 0, 1) := by decide +kernel
theorem dX12_isZero_9 : decode cX12_isZero 9 = .ok (.iload_n 1, 1) := by decide +kernel
theorem dX12_isZero_10 : decode cX12_isZero 10 = .ok (.iaload, 1) := by decide +kernel
theorem dX12_isZero_11 : decode cX12_isZero 11 = .ok (.ifCond .eq 5, 3) := by decide +kernel
theorem dX12_isZero_14 : decode cX12_isZero 14 = .ok (.iconst 0, 1) := by decide +kernel
theorem dX12_isZero_15 : decode cX12_isZero 15 = .ok (.ireturn, 1) := by decide +kernel
theorem dX12_isZero_16 : decode cX12_isZero 16 = .ok (.iinc 1 1, 3) := by decide +kernel
theorem dX12_isZero_19 : decode cX12_isZero 19 = .ok (.goto (-17), 3) := by decide +kernel
theorem dX12_isZero_22 : decode cX12_isZero 22 = .ok (.iconst 1, 1) := by decide +kernel
theorem dX12_isZero_23 : decode cX12_isZero 23 = .ok (.ireturn, 1) := by decide +kernel
theorem dX12_addDigits_0 : decode cX12_addDigits 0 = .ok (.iconst 0, 1) := by decide +kernel
theorem dX12_addDigits_1 : decode cX12_addDigits 1 = .ok (.istore 4, 2) := by decide +kernel
theorem dX12_addDigits_3 : decode cX12_addDigits 3 = .ok (.iconst 0, 1) := by decide +kernel
theorem dX12_addDigits_4 : decode cX12_addDigits 4 = .ok (.istore 5, 2) := by decide +kernel
theorem dX12_addDigits_6 : decode cX12_addDigits 6 = .ok (.iload 5, 2) := by decide +kernel
theorem dX12_addDigits_8 : decode cX12_addDigits 8 = .ok (.bipush 80, 2) := by decide +kernel
theorem dX12_addDigits_10 : decode cX12_addDigits 10 = .ok (.if_icmp .ge 63, 3) := by decide +kernel
theorem dX12_addDigits_13 : decode cX12_addDigits 13 = .ok (.aload_n 1, 1) := by decide +kernel
theorem dX12_addDigits_14 : decode cX12_addDigits 14 = .ok (.iload 5, 2) := by decide +kernel
theorem dX12_addDigits_16 : decode cX12_addDigits 16 = .ok (.iaload, 1) := by decide +kernel
theorem dX12_addDigits_17 : decode cX12_addDigits 17 = .ok (.iload_n 3, 1) := by decide +kernel
theorem dX12_addDigits_18 : decode cX12_addDigits 18 = .ok (.aload_n 2, 1) := by decide +kernel
theorem dX12_addDigits_19 : decode cX12_addDigits 19 = .ok (.iload 5, 2) := by decide +kernel
theorem dX12_addDigits_21 : decode cX12_addDigits 21 = .ok (.iaload, 1) := by decide +kernel
theorem dX12_addDigits_22 : decode cX12_addDigits 22 = .ok (.imul, 1) := by decide +kernel
theorem dX12_addDigits_23 : decode cX12_addDigits 23 = .ok (.iadd, 1) := by decide +kernel
theorem dX12_addDigits_24 : decode cX12_addDigits 24 = .ok (.iload 4, 2) := by decide +kernel
theorem dX12_addDigits_26 : decode cX12_addDigits 26 = .ok (.iadd, 1) := by decide +kernel
theorem dX12_addDigits_27 : decode cX12_addDigits 27 = .ok (.istore 6, 2) := by decide +kernel
theorem dX12_addDigits_29 : decode cX12_addDigits 29 = .ok (.iload 6, 2) := by decide +kernel
theorem dX12_addDigits_31 : decode cX12_addDigits 31 = .ok (.bipush 9, 2) := by decide +kernel
theorem dX12_addDigits_33 : decode cX12_addDigits 33 = .ok (.if_icmp .le 7, 3) := by decide +kernel
theorem dX12_addDigits_36 : decode cX12_addDigits 36 = .ok (.iconst 1, 1) := by decide +kernel
theorem dX12_addDigits_37 : decode cX12_addDigits 37 = .ok (.goto 13, 3) := by decide +kernel
theorem dX12_addDigits_40 : decode cX12_addDigits 40 = .ok (.iload 6, 2) := by decide +kernel
theorem dX12_addDigits_42 : decode cX12_addDigits 42 = .ok (.ifCond .ge 7, 3) := by decide +kernel
theorem dX12_addDigits_45 : decode cX12_addDigits 45 = .ok (.iconst (-1), 1) := by decide +kernel
theorem dX12_addDigits_46 : decode cX12_addDigits 46 = .ok (.goto 4, 3) := by decide +kernel
theorem dX12_addDigits_49 : decode cX12_addDigits 49 = .ok (.iconst 0, 1) := by decide +kernel
theorem dX12_addDigits_50 : decode cX12_addDigits 50 = .ok (.istore 4, 2) := by decide +kernel
theorem dX12_addDigits_52 : decode cX12_addDigits 52 = .ok (.aload_n 0, 1) := by decide +kernel
theorem dX12_addDigits_53 : decode cX12_addDigits 53 = .ok (.getfield 31, 3) := by decide +kernel
theorem dX12_addDigits_56 : decode cX12_addDigits 56 = .ok (.iload 5, 2) := by decide +kernel
theorem dX12_addDigits_58 : decode cX12_addDigits 58 = .ok (.iload 6, 2) := by decide +kernel
theorem dX12_addDigits_60 : decode cX12_addDigits 60 = .ok (.bipush 10, 2) := by decide +kernel
theorem dX12_addDigits_62 : decode cX12_addDigits 62 = .ok (.iload 4, 2) := by decide +kernel
theorem dX12_addDigits_64 : decode cX12_addDigits 64 = .ok (.imul, 1) := by decide +kernel
theorem dX12_addDigits_65 : decode cX12_addDigits 65 = .ok (.isub, 1) := by decide +kernel
theorem dX12_addDigits_66 : decode cX12_addDigits 66 = .ok (.iastore, 1) := by decide +kernel
theorem dX12_addDigits_67 : decode cX12_addDigits 67 = .ok (.iinc 5 1, 3) := by decide +kernel
theorem dX12_addDigits_70 : decode cX12_addDigits 70 = .ok (.goto (-64), 3) := by decide +kernel
theorem dX12_addDigits_73 : decode cX12_addDigits 73 = .ok (.return_, 1) := by decide +kernel
theorem dX12_putDecimal_0 : decode cX12_putDecimal 0 = .ok (.iconst 0, 1) := by decide +kernel
theorem dX12_putDecimal_1 : decode cX12_putDecimal 1 = .ok (.istore 5, 2) := by decide +kernel
theorem dX12_putDecimal_3 : decode cX12_putDecimal 3 = .ok (.iconst 1, 1) := by decide +kernel
theorem dX12_putDecimal_4 : decode cX12_putDecimal 4 = .ok (.istore 6, 2) := by decide +kernel
theorem dX12_putDecimal_6 : decode cX12_putDecimal 6 = .ok (.iconst 0, 1) := by decide +kernel
theorem dX12_putDecimal_7 : decode cX12_putDecimal 7 = .ok (.istore 7, 2) := by decide +kernel
theorem dX12_putDecimal_9 : decode cX12_putDecimal 9 = .ok (.iload 7, 2) := by decide +kernel
theorem dX12_putDecimal_11 : decode cX12_putDecimal 11 = .ok (.bipush 80, 2) := by decide +kernel
theorem dX12_putDecimal_13 : decode cX12_putDecimal 13 = .ok (.if_icmp .ge 63, 3) := by decide +kernel
theorem dX12_putDecimal_16 : decode cX12_putDecimal 16 = .ok (.iload 5, 2) := by decide +kernel
theorem dX12_putDecimal_18 : decode cX12_putDecimal 18 = .ok (.ifCond .ne 23, 3) := by decide +kernel
theorem dX12_putDecimal_21 : decode cX12_putDecimal 21 = .ok (.iload 7, 2) := by decide +kernel
theorem dX12_putDecimal_23 : decode cX12_putDecimal 23 = .ok (.iconst 2, 1) := by decide +kernel
theorem dX12_putDecimal_24 : decode cX12_putDecimal 24 = .ok (.iload_n 2, 1) := by decide +kernel
theorem dX12_putDecimal_25 : decode cX12_putDecimal 25 = .ok (.imul, 1) := by decide +kernel
theorem dX12_putDecimal_26 : decode cX12_putDecimal 26 = .ok (.iconst 1, 1) := by decide +kernel
theorem dX12_putDecimal_27 : decode cX12_putDecimal 27 = .ok (.isub, 1) := by decide +kernel
theorem dX12_putDecimal_28 : decode cX12_putDecimal 28 = .ok (.if_icmp .lt 17, 3) := by decide +kernel
theorem dX12_putDecimal_31 : decode cX12_putDecimal 31 = .ok (.aload_n 0, 1) := by decide +kernel
theorem dX12_putDecimal_32 : decode cX12_putDecimal 32 = .ok (.getfield 31, 3) := by decide +kernel
theorem dX12_putDecimal_35 : decode cX12_putDecimal 35 = .ok (.iload 7, 2) := by decide +kernel
theorem dX12_putDecimal_37 : decode cX12_putDecimal 37 = .ok (.iaload, 1) := by decide +kernel
theorem dX12_putDecimal_38 : decode cX12_putDecimal 38 = .ok (.ifCond .eq 7, 3) := by decide +kernel
theorem dX12_putDecimal_41 : decode cX12_putDecimal 41 = .ok (.iconst 1, 1) := by decide +kernel
theorem dX12_putDecimal_42 : decode cX12_putDecimal 42 = .ok (.goto 4, 3) := by decide +kernel
theorem dX12_putDecimal_45 : decode cX12_putDecimal 45 = .ok (.iconst 0, 1) := by decide +kernel
theorem dX12_putDecimal_46 : decode cX12_putDecimal 46 = .ok (.istore 5, 2) := by decide +kernel
theorem dX12_putDecimal_48 : decode cX12_putDecimal 48 = .ok (.iload 6, 2) := by decide +kernel
theorem dX12_putDecimal_50 : decode cX12_putDecimal 50 = .ok (.ifCond .eq 17, 3) := by decide +kernel
theorem dX12_putDecimal_53 : decode cX12_putDecimal 53 = .ok (.aload_n 0, 1) := by decide +kernel
theorem dX12_putDecimal_54 : decode cX12_putDecimal 54 = .ok (.getfield 31, 3) := by decide +kernel
theorem dX12_putDecimal_57 : decode cX12_putDecimal 57 = .ok (.iload 7, 2) := by decide +kernel
theorem dX12_putDecimal_59 : decode cX12_putDecimal 59 = .ok (.iaload, 1) := by decide +kernel
theorem dX12_putDecimal_60 : decode cX12_putDecimal 60 = .ok (.ifCond .ne 7, 3) := by decide +kernel
theorem dX12_putDecimal_63 : decode cX12_putDecimal 63 = .ok (.iconst 1, 1) := by decide +kernel
theorem dX12_putDecimal_64 : decode cX12_putDecimal 64 = .ok (.goto 4, 3) := by decide +kernel
theorem dX12_putDecimal_67 : decode cX12_putDecimal 67 = .ok (.iconst 0, 1) := by decide +kernel
theorem dX12_putDecimal_68 : decode cX12_putDecimal 68 = .ok (.istore 6, 2) := by decide +kernel
theorem dX12_putDecimal_70 : decode cX12_putDecimal 70 = .ok (.iinc 7 1, 3) := by decide +kernel
theorem dX12_putDecimal_73 : decode cX12_putDecimal 73 = .ok (.goto (-64), 3) := by decide +kernel
theorem dX12_putDecimal_76 : decode cX12_putDecimal 76 = .ok (.iload_n 3, 1) := by decide +kernel
theorem dX12_putDecimal_77 : decode cX12_putDecimal 77 = .ok (.ifCond .eq 17, 3) := by decide +kernel
theorem dX12_putDecimal_80 : decode cX12_putDecimal 80 = .ok (.iload 6, 2) := by decide +kernel
theorem dX12_putDecimal_82 : decode cX12_putDecimal 82 = .ok (.ifCond .eq 8, 3) := by decide +kernel
theorem dX12_putDecimal_85 : decode cX12_putDecimal 85 = .ok (.iload 4, 2) := by decide +kernel
theorem dX12_putDecimal_87 : decode cX12_putDecimal 87 = .ok (.ifCond .eq 7, 3) := by decide +kernel
theorem dX12_putDecimal_90 : decode cX12_putDecimal 90 = .ok (.iconst 1, 1) := by decide +kernel
theorem dX12_putDecimal_91 : decode cX12_putDecimal 91 = .ok (.goto 4, 3) := by decide +kernel
theorem dX12_putDecimal_94 : decode cX12_putDecimal 94 = .ok (.iconst 0, 1) := by decide +kernel
theorem dX12_putDecimal_95 : decode cX12_putDecimal 95 = .ok (.istore 7, 2) := by decide +kernel
theorem dX12_putDecimal_97 : decode cX12_putDecimal 97 = .ok (.iconst 0, 1) := by decide +kernel
theorem dX12_putDecimal_98 : decode cX12_putDecimal 98 = .ok (.istore 8, 2) := by decide +kernel
theorem dX12_putDecimal_100 : decode cX12_putDecimal 100 = .ok (.iload 8, 2) := by decide +kernel
theorem dX12_putDecimal_102 : decode cX12_putDecimal 102 = .ok (.iload_n 2, 1) := by decide +kernel
theorem dX12_putDecimal_103 : decode cX12_putDecimal 103 = .ok (.if_icmp .ge 73, 3) := by decide +kernel
theorem dX12_putDecimal_106 : decode cX12_putDecimal 106 = .ok (.aload_n 0, 1) := by decide +kernel
theorem dX12_putDecimal_107 : decode cX12_putDecimal 107 = .ok (.getfield 31, 3) := by decide +kernel
theorem dX12_putDecimal_110 : decode cX12_putDecimal 110 = .ok (.iconst 2, 1) := by decide +kernel
theorem dX12_putDecimal_111 : decode cX12_putDecimal 111 = .ok (.iload 8, 2) := by decide +kernel
theorem dX12_putDecimal_113 : decode cX12_putDecimal 113 = .ok (.imul, 1) := by decide +kernel
theorem dX12_putDecimal_114 : decode cX12_putDecimal 114 = .ok (.iaload, 1) := by decide +kernel
theorem dX12_putDecimal_115 : decode cX12_putDecimal 115 = .ok (.istore 9, 2) := by decide +kernel
theorem dX12_putDecimal_117 : decode cX12_putDecimal 117 = .ok (.iload 8, 2) := by decide +kernel
theorem dX12_putDecimal_119 : decode cX12_putDecimal 119 = .ok (.ifCond .ne 18, 3) := by decide +kernel
theorem dX12_putDecimal_122 : decode cX12_putDecimal 122 = .ok (.iload 7, 2) := by decide +kernel
theorem dX12_putDecimal_124 : decode cX12_putDecimal 124 = .ok (.ifCond .eq 8, 3) := by decide +kernel
theorem dX12_putDecimal_127 : decode cX12_putDecimal 127 = .ok (.bipush 13, 2) := by decide +kernel
theorem dX12_putDecimal_129 : decode cX12_putDecimal 129 = .ok (.goto 19, 3) := by decide +kernel
theorem dX12_putDecimal_132 : decode cX12_putDecimal 132 = .ok (.bipush 12, 2) := by decide +kernel
theorem dX12_putDecimal_134 : decode cX12_putDecimal 134 = .ok (.goto 14, 3) := by decide +kernel
theorem dX12_putDecimal_137 : decode cX12_putDecimal 137 = .ok (.aload_n 0, 1) := by decide +kernel
theorem dX12_putDecimal_138 : decode cX12_putDecimal 138 = .ok (.getfield 31, 3) := by decide +kernel
theorem dX12_putDecimal_141 : decode cX12_putDecimal 141 = .ok (.iconst 2, 1) := by decide +kernel
theorem dX12_putDecimal_142 : decode cX12_putDecimal 142 = .ok (.iload 8, 2) := by decide +kernel
theorem dX12_putDecimal_144 : decode cX12_putDecimal 144 = .ok (.imul, 1) := by decide +kernel
theorem dX12_putDecimal_145 : decode cX12_putDecimal 145 = .ok (.iconst 1, 1) := by decide +kernel
theorem dX12_putDecimal_146 : decode cX12_putDecimal 146 = .ok (.isub, 1) := by decide +kernel
theorem dX12_putDecimal_147 : decode cX12_putDecimal 147 = .ok (.iaload, 1) := by decide +kernel
theorem dX12_putDecimal_148 : decode cX12_putDecimal 148 = .ok (.istore 10, 2) := by decide +kernel
theorem dX12_putDecimal_150 : decode cX12_putDecimal 150 = .ok (.aload_n 0, 1) := by decide +kernel
theorem dX12_putDecimal_151 : decode cX12_putDecimal 151 = .ok (.getfield 7, 3) := by decide +kernel
theorem dX12_putDecimal_154 : decode cX12_putDecimal 154 = .ok (.iload_n 1, 1) := by decide +kernel
theorem dX12_putDecimal_155 : decode cX12_putDecimal 155 = .ok (.iload_n 2, 1) := by decide +kernel
theorem dX12_putDecimal_156 : decode cX12_putDecimal 156 = .ok (.iadd, 1) := by decide +kernel
theorem dX12_putDecimal_157 : decode cX12_putDecimal 157 = .ok (.iconst 1, 1) := by decide +kernel
theorem dX12_putDecimal_158 : decode cX12_putDecimal 158 = .ok (.isub, 1) := by decide +kernel
theorem dX12_putDecimal_159 : decode cX12_putDecimal 159 = .ok (.iload 8, 2) := by decide +kernel
theorem dX12_putDecimal_161 : decode cX12_putDecimal 161 = .ok (.isub, 1) := by decide +kernel
theorem dX12_putDecimal_162 : decode cX12_putDecimal 162 = .ok (.iload 9, 2) := by decide +kernel
theorem dX12_putDecimal_164 : decode cX12_putDecimal 164 = .ok (.iconst 4, 1) := by decide +kernel
theorem dX12_putDecimal_165 : decode cX12_putDecimal 165 = .ok (.ishl, 1) := by decide +kernel
theorem dX12_putDecimal_166 : decode cX12_putDecimal 166 = .ok (.iload 10, 2) := by decide +kernel
theorem dX12_putDecimal_168 : decode cX12_putDecimal 168 = .ok (.ior, 1) := by decide +kernel
theorem dX12_putDecimal_169 : decode cX12_putDecimal 169 = .ok (.iastore, 1) := by decide +kernel
theorem dX12_putDecimal_170 : decode cX12_putDecimal 170 = .ok (.iinc 8 1, 3) := by decide +kernel
theorem dX12_putDecimal_173 : decode cX12_putDecimal 173 = .ok (.goto (-73), 3) := by decide +kernel
theorem dX12_putDecimal_176 : decode cX12_putDecimal 176 = .ok (.iload 5, 2) := by decide +kernel
theorem dX12_putDecimal_178 : decode cX12_putDecimal 178 = .ok (.ireturn, 1) := by decide +kernel
theorem dX12_afterDecimal_0 : decode cX12_afterDecimal 0 = .ok (.aload_n 0, 1) := by decide +kernel
theorem dX12_afterDecimal_1 : decode cX12_afterDecimal 1 = .ok (.getfield 31, 3) := by decide +kernel
theorem dX12_afterDecimal_4 : decode cX12_afterDecimal 4 = .ok (.invokestatic 166, 3) := by decide +kernel
theorem dX12_afterDecimal_7 : decode cX12_afterDecimal 7 = .ok (.istore 4, 2) := by decide +kernel
theorem dX12_afterDecimal_9 : decode cX12_afterDecimal 9 = .ok (.aload_n 0, 1) := by decide +kernel
theorem dX12_afterDecimal_10 : decode cX12_afterDecimal 10 = .ok (.iload_n 1, 1) := by decide +kernel
theorem dX12_afterDecimal_11 : decode cX12_afterDecimal 11 = .ok (.iload_n 2, 1) := by decide +kernel
theorem dX12_afterDecimal_12 : decode cX12_afterDecimal 12 = .ok (.iload_n 3, 1) := by decide +kernel
theorem dX12_afterDecimal_13 : decode cX12_afterDecimal 13 = .ok (.iconst 0, 1) := by decide +kernel
theorem dX12_afterDecimal_14 : decode cX12_afterDecimal 14 = .ok (.invokevirtual 170, 3) := by decide +kernel
theorem dX12_afterDecimal_17 : decode cX12_afterDecimal 17 = .ok (.istore 5, 2) := by decide +kernel
theorem dX12_afterDecimal_19 : decode cX12_afterDecimal 19 = .ok (.aload_n 0, 1) := by decide +kernel
theorem dX12_afterDecimal_20 : decode cX12_afterDecimal 20 = .ok (.iload 5, 2) := by decide +kernel
theorem dX12_afterDecimal_22 : decode cX12_afterDecimal 22 = .ok (.ifCond .eq 7, 3) := by decide +kernel
theorem dX12_afterDecimal_25 : decode cX12_afterDecimal 25 = .ok (.iconst 3, 1) := by decide +kernel
theorem dX12_afterDecimal_26 : decode cX12_afterDecimal 26 = .ok (.goto 21, 3) := by decide +kernel
theorem dX12_afterDecimal_29 : decode cX12_afterDecimal 29 = .ok (.iload 4, 2) := by decide +kernel
theorem dX12_afterDecimal_31 : decode cX12_afterDecimal 31 = .ok (.ifCond .eq 7, 3) := by decide +kernel
theorem dX12_afterDecimal_34 : decode cX12_afterDecimal 34 = .ok (.iconst 0, 1) := by decide +kernel
theorem dX12_afterDecimal_35 : decode cX12_afterDecimal 35 = .ok (.goto 12, 3) := by decide +kernel
theorem dX12_afterDecimal_38 : decode cX12_afterDecimal 38 = .ok (.iload_n 3, 1) := by decide +kernel
theorem dX12_afterDecimal_39 : decode cX12_afterDecimal 39 = .ok (.ifCond .eq 7, 3) := by decide +kernel
theorem dX12_afterDecimal_42 : decode cX12_afterDecimal 42 = .ok (.iconst 1, 1) := by decide +kernel
theorem dX12_afterDecimal_43 : decode cX12_afterDecimal 43 = .ok (.goto 4, 3) := by decide +kernel
theorem dX12_afterDecimal_46 : decode cX12_afterDecimal 46 = .ok (.iconst 2, 1) := by decide +kernel
theorem dX12_afterDecimal_47 : decode cX12_afterDecimal 47 = .ok (.putfield 47, 3) := by decide +kernel
theorem dX12_afterDecimal_50 : decode cX12_afterDecimal 50 = .ok (.iload 5, 2) := by decide +kernel
theorem dX12_afterDecimal_52 : decode cX12_afterDecimal 52 = .ok (.ifCond .eq 18, 3) := by decide +kernel
theorem dX12_afterDecimal_55 : decode cX12_afterDecimal 55 = .ok (.aload_n 0, 1) := by decide +kernel
theorem dX12_afterDecimal_56 : decode cX12_afterDecimal 56 = .ok (.getfield 50, 3) := by decide +kernel
theorem dX12_afterDecimal_59 : decode cX12_afterDecimal 59 = .ok (.iconst 4, 1) := by decide +kernel
theorem dX12_afterDecimal_60 : decode cX12_afterDecimal 60 = .ok (.iand, 1) := by decide +kernel
theorem dX12_afterDecimal_61 : decode cX12_afterDecimal 61 = .ok (.ifCond .eq 9, 3) := by decide +kernel
theorem dX12_afterDecimal_64 : decode cX12_afterDecimal 64 = .ok (.aload_n 0, 1) := by decide +kernel
theorem dX12_afterDecimal_65 : decode cX12_afterDecimal 65 = .ok (.bipush 10, 2) := by decide +kernel
theorem dX12_afterDecimal_67 : decode cX12_afterDecimal 67 = .ok (.putfield 115, 3) := by decide +kernel
theorem dX12_afterDecimal_70 : decode cX12_afterDecimal 70 = .ok (.return_, 1) := by decide +kernel
theorem dX12_sumOfDecimals_0 : decode cX12_sumOfDecimals 0 = .ok (.iload_n 1, 1) := by decide +kernel
theorem dX12_sumOfDecimals_1 : decode cX12_sumOfDecimals 1 = .ok (.aload_n 0, 1) := by decide +kernel
theorem dX12_sumOfDecimals_2 : decode cX12_sumOfDecimals 2 = .ok (.getfield 163, 3) := by decide +kernel
theorem dX12_sumOfDecimals_5 : decode cX12_sumOfDecimals 5 = .ok (.if_icmp .eq 7, 3) := by decide +kernel
theorem dX12_sumOfDecimals_8 : decode cX12_sumOfDecimals 8 = .ok (.iconst 1, 1) := by decide +kernel
theorem dX12_sumOfDecimals_9 : decode cX12_sumOfDecimals 9 = .ok (.goto 4, 3) := by decide +kernel
theorem dX12_sumOfDecimals_12 : decode cX12_sumOfDecimals 12 = .ok (.iconst 0, 1) := by decide +kernel
theorem dX12_sumOfDecimals_13 : decode cX12_sumOfDecimals 13 = .ok (.istore 5, 2) := by decide +kernel
theorem dX12_sumOfDecimals_15 : decode cX12_sumOfDecimals 15 = .ok (.aload_n 0, 1) := by decide +kernel
theorem dX12_sumOfDecimals_16 : decode cX12_sumOfDecimals 16 = .ok (.getfield 160, 3) := by decide +kernel
theorem dX12_sumOfDecimals_19 : decode cX12_sumOfDecimals 19 = .ok (.istore 6, 2) := by decide +kernel
theorem dX12_sumOfDecimals_21 : decode cX12_sumOfDecimals 21 = .ok (.iload 5, 2) := by decide +kernel
theorem dX12_sumOfDecimals_23 : decode cX12_sumOfDecimals 23 = .ok (.aload_n 0, 1) := by decide +kernel
theorem dX12_sumOfDecimals_24 : decode cX12_sumOfDecimals 24 = .ok (.getfield 160, 3) := by decide +kernel
theorem dX12_sumOfDecimals_27 : decode cX12_sumOfDecimals 27 = .ok (.if_icmp .ne 19, 3) := by decide +kernel
theorem dX12_sumOfDecimals_30 : decode cX12_sumOfDecimals 30 = .ok (.aload_n 0, 1) := by decide +kernel
theorem dX12_sumOfDecimals_31 : decode cX12_sumOfDecimals 31 = .ok (.aload_n 0, 1) := by decide +kernel
theorem dX12_sumOfDecimals_32 : decode cX12_sumOfDecimals 32 = .ok (.getfield 25, 3) := by decide +kernel
theorem dX12_sumOfDecimals_35 : decode cX12_sumOfDecimals 35 = .ok (.aload_n 0, 1) := by decide +kernel
theorem dX12_sumOfDecimals_36 : decode cX12_sumOfDecimals 36 = .ok (.getfield 28, 3) := by decide +kernel
theorem dX12_sumOfDecimals_39 : decode cX12_sumOfDecimals 39 = .ok (.iconst 1, 1) := by decide +kernel
theorem dX12_sumOfDecimals_40 : decode cX12_sumOfDecimals 40 = .ok (.invokevirtual 174, 3) := by decide +kernel
theorem dX12_sumOfDecimals_43 : decode cX12_sumOfDecimals 43 = .ok (.goto 50, 3) := by decide +kernel
theorem dX12_sumOfDecimals_46 : decode cX12_sumOfDecimals 46 = .ok (.aload_n 0, 1) := by decide +kernel
theorem dX12_sumOfDecimals_47 : decode cX12_sumOfDecimals 47 = .ok (.getfield 25, 3) := by decide +kernel
theorem dX12_sumOfDecimals_50 : decode cX12_sumOfDecimals 50 = .ok (.aload_n 0, 1) := by decide +kernel
theorem dX12_sumOfDecimals_51 : decode cX12_sumOfDecimals 51 = .ok (.getfield 28, 3) := by decide +kernel
theorem dX12_sumOfDecimals_54 : decode cX12_sumOfDecimals 54 = .ok (.invokestatic 178, 3) := by decide +kernel
theorem dX12_sumOfDecimals_57 : decode cX12_sumOfDecimals 57 = .ok (.ifCond .lt 19, 3) := by decide +kernel
theorem dX12_sumOfDecimals_60 : decode cX12_sumOfDecimals 60 = .ok (.aload_n 0, 1) := by decide +kernel
theorem dX12_sumOfDecimals_61 : decode cX12_sumOfDecimals 61 = .ok (.aload_n 0, 1) := by decide +kernel
theorem dX12_sumOfDecimals_62 : decode cX12_sumOfDecimals 62 = .ok (.getfield 25, 3) := by decide +kernel
theorem dX12_sumOfDecimals_65 : decode cX12_sumOfDecimals 65 = .ok (.aload_n 0, 1) := by decide +kernel
theorem dX12_sumOfDecimals_66 : decode cX12_sumOfDecimals 66 = .ok (.getfield 28, 3) := by decide +kernel
theorem dX12_sumOfDecimals_69 : decode cX12_sumOfDecimals 69 = .ok (.iconst (-1), 1) := by decide +kernel
theorem dX12_sumOfDecimals_70 : decode cX12_sumOfDecimals 70 = .ok (.invokevirtual 174, 3) := by decide +kernel
theorem dX12_sumOfDecimals_73 : decode cX12_sumOfDecimals 73 = .ok (.goto 20, 3) := by decide +kernel
theorem dX12_sumOfDecimals_76 : decode cX12_sumOfDecimals 76 = .ok (.aload_n 0, 1) := by decide +kernel
theorem dX12_sumOfDecimals_77 : decode cX12_sumOfDecimals 77 = .ok (.aload_n 0, 1) := by decide +kernel
theorem dX12_sumOfDecimals_78 : decode cX12_sumOfDecimals 78 = .ok (.getfield 28, 3) := by decide +kernel
theorem dX12_sumOfDecimals_81 : decode cX12_sumOfDecimals 81 = .ok (.aload_n 0, 1) := by decide +kernel
theorem dX12_sumOfDecimals_82 : decode cX12_sumOfDecimals 82 = .ok (.getfield 25, 3) := by decide +kernel
theorem dX12_sumOfDecimals_85 : decode cX12_sumOfDecimals 85 = .ok (.iconst (-1), 1) := by decide +kernel
theorem dX12_sumOfDecimals_86 : decode cX12_sumOfDecimals 86 = .ok (.invokevirtual 174, 3) := by decide +kernel
theorem dX12_sumOfDecimals_89 : decode cX12_sumOfDecimals 89 = .ok (.iload 5, 2) := by decide +kernel
theorem dX12_sumOfDecimals_91 : decode cX12_sumOfDecimals 91 = .ok (.istore 6, 2) := by decide +kernel
theorem dX12_sumOfDecimals_93 : decode cX12_sumOfDecimals 93 = .ok (.iload_n 2, 1) := by decide +kernel
theorem dX12_sumOfDecimals_94 : decode cX12_sumOfDecimals 94 = .ok (.ifCond .eq 34, 3) := by decide +kernel
theorem dX12_sumOfDecimals_97 : decode cX12_sumOfDecimals 97 = .ok (.aload_n 0, 1) := by decide +kernel
theorem dX12_sumOfDecimals_98 : decode cX12_sumOfDecimals 98 = .ok (.aload_n 0, 1) := by decide +kernel
theorem dX12_sumOfDecimals_99 : decode cX12_sumOfDecimals 99 = .ok (.getfield 31, 3) := by decide +kernel
theorem dX12_sumOfDecimals_102 : decode cX12_sumOfDecimals 102 = .ok (.invokestatic 166, 3) := by decide +kernel
theorem dX12_sumOfDecimals_105 : decode cX12_sumOfDecimals 105 = .ok (.ifCond .eq 7, 3) := by decide +kernel
theorem dX12_sumOfDecimals_108 : decode cX12_sumOfDecimals 108 = .ok (.iconst 0, 1) := by decide +kernel
theorem dX12_sumOfDecimals_109 : decode cX12_sumOfDecimals 109 = .ok (.goto 13, 3) := by decide +kernel
theorem dX12_sumOfDecimals_112 : decode cX12_sumOfDecimals 112 = .ok (.iload 6, 2) := by decide +kernel
theorem dX12_sumOfDecimals_114 : decode cX12_sumOfDecimals 114 = .ok (.ifCond .eq 7, 3) := by decide +kernel
theorem dX12_sumOfDecimals_117 : decode cX12_sumOfDecimals 117 = .ok (.iconst 1, 1) := by decide +kernel
theorem dX12_sumOfDecimals_118 : decode cX12_sumOfDecimals 118 = .ok (.goto 4, 3) := by decide +kernel
theorem dX12_sumOfDecimals_121 : decode cX12_sumOfDecimals 121 = .ok (.iconst 2, 1) := by decide +kernel
theorem dX12_sumOfDecimals_122 : decode cX12_sumOfDecimals 122 = .ok (.putfield 47, 3) := by decide +kernel
theorem dX12_sumOfDecimals_125 : decode cX12_sumOfDecimals 125 = .ok (.goto 12, 3) := by decide +kernel
theorem dX12_sumOfDecimals_128 : decode cX12_sumOfDecimals 128 = .ok (.aload_n 0, 1) := by decide +kernel
theorem dX12_sumOfDecimals_129 : decode cX12_sumOfDecimals 129 = .ok (.iload_n 3, 1) := by decide +kernel
theorem dX12_sumOfDecimals_130 : decode cX12_sumOfDecimals 130 = .ok (.iload 4, 2) := by decide +kernel
theorem dX12_sumOfDecimals_132 : decode cX12_sumOfDecimals 132 = .ok (.iload 6, 2) := by decide +kernel
theorem dX12_sumOfDecimals_134 : decode cX12_sumOfDecimals 134 = .ok (.invokevirtual 182, 3) := by decide +kernel
theorem dX12_sumOfDecimals_137 : decode cX12_sumOfDecimals 137 = .ok (.return_, 1) := by decide +kernel
theorem dX12_productOfDecimals_0 : decode cX12_productOfDecimals 0 = .ok (.iconst 0, 1) := by decide +kernel
theorem dX12_productOfDecimals_1 : decode cX12_productOfDecimals 1 = .ok (.istore 4, 2) := by decide +kernel
theorem dX12_productOfDecimals_3 : decode cX12_productOfDecimals 3 = .ok (.iload 4, 2) := by decide +kernel
theorem dX12_productOfDecimals_5 : decode cX12_productOfDecimals 5 = .ok (.bipush 80, 2) := by decide +kernel
theorem dX12_productOfDecimals_7 : decode cX12_productOfDecimals 7 = .ok (.if_icmp .ge 17, 3) := by decide +kernel
theorem dX12_productOfDecimals_10 : decode cX12_productOfDecimals 10 = .ok (.aload_n 0, 1) := by decide +kernel
theorem dX12_productOfDecimals_11 : decode cX12_productOfDecimals 11 = .ok (.getfield 31, 3) := by decide +kernel
theorem dX12_productOfDecimals_14 : decode cX12_productOfDecimals 14 = .ok (.iload 4, 2) := by decide +kernel
theorem dX12_productOfDecimals_16 : decode cX12_productOfDecimals 16 = .ok (.iconst 0, 1) := by decide +kernel
theorem dX12_productOfDecimals_17 : decode cX12_productOfDecimals 17 = .ok (.iastore, 1) := by decide +kernel
theorem dX12_productOfDecimals_18 : decode cX12_productOfDecimals 18 = .ok (.iinc 4 1, 3) := by decide +kernel
theorem dX12_productOfDecimals_21 : decode cX12_productOfDecimals 21 = .ok (.goto (-18), 3) := by decide +kernel
theorem dX12_productOfDecimals_24 : decode cX12_productOfDecimals 24 = .ok (.iconst 0, 1) := by decide +kernel
theorem dX12_productOfDecimals_25 : decode cX12_productOfDecimals 25 = .ok (.istore 4, 2) := by decide +kernel
theorem dX12_productOfDecimals_27 : decode cX12_productOfDecimals 27 = .ok (.iload 4, 2) := by decide +kernel
theorem dX12_productOfDecimals_29 : decode cX12_productOfDecimals 29 = .ok (.bipush 32, 2) := by decide +kernel
theorem dX12_productOfDecimals_31 : decode cX12_productOfDecimals 31 = .ok (.if_icmp .ge 81, 3) := by decide +kernel
theorem dX12_productOfDecimals_34 : decode cX12_productOfDecimals 34 = .ok (.iconst 0, 1) := by decide +kernel
theorem dX12_productOfDecimals_35 : decode cX12_productOfDecimals 35 = .ok (.istore 5, 2) := by decide +kernel
theorem dX12_productOfDecimals_37 : decode cX12_productOfDecimals 37 = .ok (.iconst 0, 1) := by decide +kernel
theorem dX12_productOfDecimals_38 : decode cX12_productOfDecimals 38 = .ok (.istore 6, 2) := by decide +kernel
theorem dX12_productOfDecimals_40 : decode cX12_productOfDecimals 40 = .ok (.iload 6, 2) := by decide +kernel
theorem dX12_productOfDecimals_42 : decode cX12_productOfDecimals 42 = .ok (.bipush 40, 2) := by decide +kernel
theorem dX12_productOfDecimals_44 : decode cX12_productOfDecimals 44 = .ok (.if_icmp .ge 62, 3) := by decide +kernel
theorem dX12_productOfDecimals_47 : decode cX12_productOfDecimals 47 = .ok (.aload_n 0, 1) := by decide +kernel
theorem dX12_productOfDecimals_48 : decode cX12_productOfDecimals 48 = .ok (.getfield 31, 3) := by decide +kernel
theorem dX12_productOfDecimals_51 : decode cX12_productOfDecimals 51 = .ok (.iload 4, 2) := by decide +kernel
theorem dX12_productOfDecimals_53 : decode cX12_productOfDecimals 53 = .ok (.iload 6, 2) := by decide +kernel
theorem dX12_productOfDecimals_55 : decode cX12_productOfDecimals 55 = .ok (.iadd, 1) := by decide +kernel
theorem dX12_productOfDecimals_56 : decode cX12_productOfDecimals 56 = .ok (.iaload, 1) := by decide +kernel
theorem dX12_productOfDecimals_57 : decode cX12_productOfDecimals 57 = .ok (.aload_n 0, 1) := by decide +kernel
theorem dX12_productOfDecimals_58 : decode cX12_productOfDecimals 58 = .ok (.getfield 25, 3) := by decide +kernel
theorem dX12_productOfDecimals_61 : decode cX12_productOfDecimals 61 = .ok (.iload 4, 2) := by decide +kernel
theorem dX12_productOfDecimals_63 : decode cX12_productOfDecimals 63 = .ok (.iaload, 1) := by decide +kernel
theorem dX12_productOfDecimals_64 : decode cX12_productOfDecimals 64 = .ok (.aload_n 0, 1) := by decide +kernel
theorem dX12_productOfDecimals_65 : decode cX12_productOfDecimals 65 = .ok (.getfield 28, 3) := by decide +kernel
theorem dX12_productOfDecimals_68 : decode cX12_productOfDecimals 68 = .ok (.iload 6, 2) := by decide +kernel
theorem dX12_productOfDecimals_70 : decode cX12_productOfDecimals 70 = .ok (.iaload, 1) := by decide +kernel
theorem dX12_productOfDecimals_71 : decode cX12_productOfDecimals 71 = .ok (.imul, 1) := by decide +kernel
theorem dX12_productOfDecimals_72 : decode cX12_productOfDecimals 72 = .ok (.iadd, 1) := by decide +kernel
theorem dX12_productOfDecimals_73 : decode cX12_productOfDecimals 73 = .ok (.iload 5, 2) := by decide +kernel
theorem dX12_productOfDecimals_75 : decode cX12_productOfDecimals 75 = .ok (.iadd, 1) := by decide +kernel
theorem dX12_productOfDecimals_76 : decode cX12_productOfDecimals 76 = .ok (.istore 7, 2) := by decide +kernel
theorem dX12_productOfDecimals_78 : decode cX12_productOfDecimals 78 = .ok (.aload_n 0, 1) := by decide +kernel
theorem dX12_productOfDecimals_79 : decode cX12_productOfDecimals 79 = .ok (.getfield 31, 3) := by decide +kernel
theorem dX12_productOfDecimals_82 : decode cX12_productOfDecimals 82 = .ok (.iload 4, 2) := by decide +kernel
theorem dX12_productOfDecimals_84 : decode cX12_productOfDecimals 84 = .ok (.iload 6, 2) := by decide +kernel
theorem dX12_productOfDecimals_86 : decode cX12_productOfDecimals 86 = .ok (.iadd, 1) := by decide +kernel
theorem dX12_productOfDecimals_87 : decode cX12_productOfDecimals 87 = .ok (.iload 7, 2) := by decide +kernel
theorem dX12_productOfDecimals_89 : decode cX12_productOfDecimals 89 = .ok (.bipush 10, 2) := by decide +kernel
theorem dX12_productOfDecimals_91 : decode cX12_productOfDecimals 91 = .ok (.irem, 1) := by decide +kernel
theorem dX12_productOfDecimals_92 : decode cX12_productOfDecimals 92 = .ok (.iastore, 1) := by decide +kernel
theorem dX12_productOfDecimals_93 : decode cX12_productOfDecimals 93 = .ok (.iload 7, 2) := by decide +kernel
theorem dX12_productOfDecimals_95 : decode cX12_productOfDecimals 95 = .ok (.bipush 10, 2) := by decide +kernel
theorem dX12_productOfDecimals_97 : decode cX12_productOfDecimals 97 = .ok (.idiv, 1) := by decide +kernel
theorem dX12_productOfDecimals_98 : decode cX12_productOfDecimals 98 = .ok (.istore 5, 2) := by decide +kernel
theorem dX12_productOfDecimals_100 : decode cX12_productOfDecimals 100 = .ok (.iinc 6 1, 3) := by decide +kernel
theorem dX12_productOfDecimals_103 : decode cX12_productOfDecimals 103 = .ok (.goto (-63), 3) := by decide +kernel
theorem dX12_productOfDecimals_106 : decode cX12_productOfDecimals 106 = .ok (.iinc 4 1, 3) := by decide +kernel
theorem dX12_productOfDecimals_109 : decode cX12_productOfDecimals 109 = .ok (.goto (-82), 3) := by decide +kernel
theorem dX12_productOfDecimals_112 : decode cX12_productOfDecimals 112 = .ok (.aload_n 0, 1) := by decide +kernel
theorem dX12_productOfDecimals_113 : decode cX12_productOfDecimals 113 = .ok (.iload_n 1, 1) := by decide +kernel
theorem dX12_productOfDecimals_114 : decode cX12_productOfDecimals 114 = .ok (.iload_n 2, 1) := by decide +kernel
theorem dX12_productOfDecimals_115 : decode cX12_productOfDecimals 115 = .ok (.iconst 1, 1) := by decide +kernel
theorem dX12_productOfDecimals_116 : decode cX12_productOfDecimals 116 = .ok (.iadd, 1) := by decide +kernel
theorem dX12_productOfDecimals_117 : decode cX12_productOfDecimals 117 = .ok (.aload_n 0, 1) := by decide +kernel
theorem dX12_productOfDecimals_118 : decode cX12_productOfDecimals 118 = .ok (.getfield 160, 3) := by decide +kernel
theorem dX12_productOfDecimals_121 : decode cX12_productOfDecimals 121 = .ok (.aload_n 0, 1) := by decide +kernel
theorem dX12_productOfDecimals_122 : decode cX12_productOfDecimals 122 = .ok (.getfield 163, 3) := by decide +kernel
theorem dX12_productOfDecimals_125 : decode cX12_productOfDecimals 125 = .ok (.if_icmp .eq 7, 3) := by decide +kernel
theorem dX12_productOfDecimals_128 : decode cX12_productOfDecimals 128 = .ok (.iconst 1, 1) := by decide +kernel
theorem dX12_productOfDecimals_129 : decode cX12_productOfDecimals 129 = .ok (.goto 4, 3) := by decide +kernel
theorem dX12_productOfDecimals_132 : decode cX12_productOfDecimals 132 = .ok (.iconst 0, 1) := by decide +kernel
theorem dX12_productOfDecimals_133 : decode cX12_productOfDecimals 133 = .ok (.iconst 1, 1) := by decide +kernel
theorem dX12_productOfDecimals_134 : decode cX12_productOfDecimals 134 = .ok (.invokevirtual 170, 3) := by decide +kernel
theorem dX12_productOfDecimals_137 : decode cX12_productOfDecimals 137 = .ok (.istore 4, 2) := by decide +kernel
theorem dX12_productOfDecimals_139 : decode cX12_productOfDecimals 139 = .ok (.return_, 1) := by decide +kernel
theorem dX12_quotientOfDecimals_0 : decode cX12_quotientOfDecimals 0 = .ok (.aload_n 0, 1) := by decide +kernel
theorem dX12_quotientOfDecimals_1 : decode cX12_quotientOfDecimals 1 = .ok (.getfield 28, 3) := by decide +kernel
theorem dX12_quotientOfDecimals_4 : decode cX12_quotientOfDecimals 4 = .ok (.invokestatic 166, 3) := by decide +kernel
theorem dX12_quotientOfDecimals_7 : decode cX12_quotientOfDecimals 7 = .ok (.ifCond .eq 10, 3) := by decide +kernel
theorem dX12_quotientOfDecimals_10 : decode cX12_quotientOfDecimals 10 = .ok (.aload_n 0, 1) := by decide +kernel
theorem dX12_quotientOfDecimals_11 : decode cX12_quotientOfDecimals 11 = .ok (.bipush 11, 2) := by decide +kernel
theorem dX12_quotientOfDecimals_13 : decode cX12_quotientOfDecimals 13 = .ok (.invokevirtual 107, 3) := by decide +kernel
theorem dX12_quotientOfDecimals_16 : decode cX12_quotientOfDecimals 16 = .ok (.return_, 1) := by decide +kernel
theorem dX12_quotientOfDecimals_17 : decode cX12_quotientOfDecimals 17 = .ok (.iconst 0, 1) := by decide +kernel
theorem dX12_quotientOfDecimals_18 : decode cX12_quotientOfDecimals 18 = .ok (.istore 4, 2) := by decide +kernel
theorem dX12_quotientOfDecimals_20 : decode cX12_quotientOfDecimals 20 = .ok (.iload 4, 2) := by decide +kernel
theorem dX12_quotientOfDecimals_22 : decode cX12_quotientOfDecimals 22 = .ok (.bipush 80, 2) := by decide +kernel
theorem dX12_quotientOfDecimals_24 : decode cX12_quotientOfDecimals 24 = .ok (.if_icmp .ge 25, 3) := by decide +kernel
theorem dX12_quotientOfDecimals_27 : decode cX12_quotientOfDecimals 27 = .ok (.aload_n 0, 1) := by decide +kernel
theorem dX12_quotientOfDecimals_28 : decode cX12_quotientOfDecimals 28 = .ok (.getfield 34, 3) := by decide +kernel
theorem dX12_quotientOfDecimals_31 : decode cX12_quotientOfDecimals 31 = .ok (.iload 4, 2) := by decide +kernel
theorem dX12_quotientOfDecimals_33 : decode cX12_quotientOfDecimals 33 = .ok (.iconst 0, 1) := by decide +kernel
theorem dX12_quotientOfDecimals_34 : decode cX12_quotientOfDecimals 34 = .ok (.iastore, 1) := by decide +kernel
theorem dX12_quotientOfDecimals_35 : decode cX12_quotientOfDecimals 35 = .ok (.aload_n 0, 1) := by decide +kernel
theorem dX12_quotientOfDecimals_36 : decode cX12_quotientOfDecimals 36 = .ok (.getfield 37, 3) := by decide +kernel
theorem dX12_quotientOfDecimals_39 : decode cX12_quotientOfDecimals 39 = .ok (.iload 4, 2) := by decide +kernel
theorem dX12_quotientOfDecimals_41 : decode cX12_quotientOfDecimals 41 = .ok (.iconst 0, 1) := by decide +kernel
theorem dX12_quotientOfDecimals_42 : decode cX12_quotientOfDecimals 42 = .ok (.iastore, 1) := by decide +kernel
theorem dX12_quotientOfDecimals_43 : decode cX12_quotientOfDecimals 43 = .ok (.iinc 4 1, 3) := by decide +kernel
theorem dX12_quotientOfDecimals_46 : decode cX12_quotientOfDecimals 46 = .ok (.goto (-26), 3) := by decide +kernel
theorem dX12_quotientOfDecimals_49 : decode cX12_quotientOfDecimals 49 = .ok (.bipush 40, 2) := by decide +kernel
theorem dX12_quotientOfDecimals_51 : decode cX12_quotientOfDecimals 51 = .ok (.istore 4, 2) := by decide +kernel
theorem dX12_quotientOfDecimals_53 : decode cX12_quotientOfDecimals 53 = .ok (.iload 4, 2) := by decide +kernel
theorem dX12_quotientOfDecimals_55 : decode cX12_quotientOfDecimals 55 = .ok (.ifCond .lt 124, 3) := by decide +kernel
theorem dX12_quotientOfDecimals_58 : decode cX12_quotientOfDecimals 58 = .ok (.bipush 79, 2) := by decide +kernel
theorem dX12_quotientOfDecimals_60 : decode cX12_quotientOfDecimals 60 = .ok (.istore 5, 2) := by decide +kernel
theorem dX12_quotientOfDecimals_62 : decode cX12_quotientOfDecimals 62 = .ok (.iload 5, 2) := by decide +kernel
theorem dX12_quotientOfDecimals_64 : decode cX12_quotientOfDecimals 64 = .ok (.ifCond .le 25, 3) := by decide +kernel
theorem dX12_quotientOfDecimals_67 : decode cX12_quotientOfDecimals 67 = .ok (.aload_n 0, 1) := by decide +kernel
theorem dX12_quotientOfDecimals_68 : decode cX12_quotientOfDecimals 68 = .ok (.getfield 34, 3) := by decide +kernel
theorem dX12_quotientOfDecimals_71 : decode cX12_quotientOfDecimals 71 = .ok (.iload 5, 2) := by decide +kernel
theorem dX12_quotientOfDecimals_73 : decode cX12_quotientOfDecimals 73 = .ok (.aload_n 0, 1) := by decide +kernel
theorem dX12_quotientOfDecimals_74 : decode cX12_quotientOfDecimals 74 = .ok (.getfield 34, 3) := by decide +kernel
theorem dX12_quotientOfDecimals_77 : decode cX12_quotientOfDecimals 77 = .ok (.iload 5, 2) := by decide +kernel
theorem dX12_quotientOfDecimals_79 : decode cX12_quotientOfDecimals 79 = .ok (.iconst 1, 1) := by decide +kernel
theorem dX12_quotientOfDecimals_80 : decode cX12_quotientOfDecimals 80 = .ok (.isub, 1) := by decide +kernel
theorem dX12_quotientOfDecimals_81 : decode cX12_quotientOfDecimals 81 = .ok (.iaload, 1) := by decide +kernel
theorem dX12_quotientOfDecimals_82 : decode cX12_quotientOfDecimals 82 = .ok (.iastore, 1) := by decide +kernel
theorem dX12_quotientOfDecimals_83 : decode cX12_quotientOfDecimals 83 = .ok (.iinc 5 (-1), 3) := by decide +kernel
theorem dX12_quotientOfDecimals_86 : decode cX12_quotientOfDecimals 86 = .ok (.goto (-24), 3) := by decide +kernel
theorem dX12_quotientOfDecimals_89 : decode cX12_quotientOfDecimals 89 = .ok (.aload_n 0, 1) := by decide +kernel
theorem dX12_quotientOfDecimals_90 : decode cX12_quotientOfDecimals 90 = .ok (.getfield 34, 3) := by decide +kernel
theorem dX12_quotientOfDecimals_93 : decode cX12_quotientOfDecimals 93 = .ok (.iconst 0, 1) := by decide +kernel
theorem dX12_quotientOfDecimals_94 : decode cX12_quotientOfDecimals 94 = .ok (.aload_n 0, 1) := by decide +kernel
theorem dX12_quotientOfDecimals_95 : decode cX12_quotientOfDecimals 95 = .ok (.getfield 25, 3) := by decide +kernel
theorem dX12_quotientOfDecimals_98 : decode cX12_quotientOfDecimals 98 = .ok (.iload 4, 2) := by decide +kernel
theorem dX12_quotientOfDecimals_100 : decode cX12_quotientOfDecimals 100 = .ok (.iaload, 1) := by decide +kernel
theorem dX12_quotientOfDecimals_101 : decode cX12_quotientOfDecimals 101 = .ok (.iastore, 1) := by decide +kernel
theorem dX12_quotientOfDecimals_102 : decode cX12_quotientOfDecimals 102 = .ok (.aload_n 0, 1) := by decide +kernel
theorem dX12_quotientOfDecimals_103 : decode cX12_quotientOfDecimals 103 = .ok (.getfield 34, 3) := by decide +kernel
theorem dX12_quotientOfDecimals_106 : decode cX12_quotientOfDecimals 106 = .ok (.aload_n 0, 1) := by decide +kernel
theorem dX12_quotientOfDecimals_107 : decode cX12_quotientOfDecimals 107 = .ok (.getfield 28, 3) := by decide +kernel
theorem dX12_quotientOfDecimals_110 : decode cX12_quotientOfDecimals 110 = .ok (.invokestatic 178, 3) := by decide +kernel
theorem dX12_quotientOfDecimals_113 : decode cX12_quotientOfDecimals 113 = .ok (.ifCond .lt 60, 3) := by decide +kernel
theorem dX12_quotientOfDecimals_116 : decode cX12_quotientOfDecimals 116 = .ok (.aload_n 0, 1) := by decide +kernel
theorem dX12_quotientOfDecimals_117 : decode cX12_quotientOfDecimals 117 = .ok (.aload_n 0, 1) := by decide +kernel
theorem dX12_quotientOfDecimals_118 : decode cX12_quotientOfDecimals 118 = .ok (.getfield 34, 3) := by decide +kernel
theorem dX12_quotientOfDecimals_121 : decode cX12_quotientOfDecimals 121 = .ok (.aload_n 0, 1) := by decide +kernel
theorem dX12_quotientOfDecimals_122 : decode cX12_quotientOfDecimals 122 = .ok (.getfield 28, 3) := by decide +kernel
theorem dX12_quotientOfDecimals_125 : decode cX12_quotientOfDecimals 125 = .ok (.iconst (-1), 1) := by decide +kernel
theorem dX12_quotientOfDecimals_126 : decode cX12_quotientOfDecimals 126 = .ok (.invokevirtual 174, 3) := by decide +kernel
theorem dX12_quotientOfDecimals_129 : decode cX12_quotientOfDecimals 129 = .ok (.iconst 0, 1) := by decide +kernel
theorem dX12_quotientOfDecimals_130 : decode cX12_quotientOfDecimals 130 = .ok (.istore 5, 2) := by decide +kernel
theorem dX12_quotientOfDecimals_132 : decode cX12_quotientOfDecimals 132 = .ok (.iload 5, 2) := by decide +kernel
theorem dX12_quotientOfDecimals_134 : decode cX12_quotientOfDecimals 134 = .ok (.bipush 80, 2) := by decide +kernel
theorem dX12_quotientOfDecimals_136 : decode cX12_quotientOfDecimals 136 = .ok (.if_icmp .ge 23, 3) := by decide +kernel
theorem dX12_quotientOfDecimals_139 : decode cX12_quotientOfDecimals 139 = .ok (.aload_n 0, 1) := by decide +kernel
theorem dX12_quotientOfDecimals_140 : decode cX12_quotientOfDecimals 140 = .ok (.getfield 34, 3) := by decide +kernel
theorem dX12_quotientOfDecimals_143 : decode cX12_quotientOfDecimals 143 = .ok (.iload 5, 2) := by decide +kernel
theorem dX12_quotientOfDecimals_145 : decode cX12_quotientOfDecimals 145 = .ok (.aload_n 0, 1) := by decide +kernel
theorem dX12_quotientOfDecimals_146 : decode cX12_quotientOfDecimals 146 = .ok (.getfield 31, 3) := by decide +kernel
theorem dX12_quotientOfDecimals_149 : decode cX12_quotientOfDecimals 149 = .ok (.iload 5, 2) := by decide +kernel
theorem dX12_quotientOfDecimals_151 : decode cX12_quotientOfDecimals 151 = .ok (.iaload, 1) := by decide +kernel
theorem dX12_quotientOfDecimals_152 : decode cX12_quotientOfDecimals 152 = .ok (.iastore, 1) := by decide +kernel
theorem dX12_quotientOfDecimals_153 : decode cX12_quotientOfDecimals 153 = .ok (.iinc 5 1, 3) := by decide +kernel
theorem dX12_quotientOfDecimals_156 : decode cX12_quotientOfDecimals 156 = .ok (.goto (-24), 3) := by decide +kernel
theorem dX12_quotientOfDecimals_159 : decode cX12_quotientOfDecimals 159 = .ok (.aload_n 0, 1) := by decide +kernel
theorem dX12_quotientOfDecimals_160 : decode cX12_quotientOfDecimals 160 = .ok (.getfield 37, 3) := by decide +kernel
theorem dX12_quotientOfDecimals_163 : decode cX12_quotientOfDecimals 163 = .ok (.iload 4, 2) := by decide +kernel
theorem dX12_quotientOfDecimals_165 : decode cX12_quotientOfDecimals 165 = .ok (.dup2, 1) := by decide +kernel
theorem dX12_quotientOfDecimals_166 : decode cX12_quotientOfDecimals 166 = .ok (.iaload, 1) := by decide +kernel
theorem dX12_quotientOfDecimals_167 : decode cX12_quotientOfDecimals 167 = .ok (.iconst 1, 1) := by decide +kernel
theorem dX12_quotientOfDecimals_168 : decode cX12_quotientOfDecimals 168 = .ok (.iadd, 1) := by decide +kernel
theorem dX12_quotientOfDecimals_169 : decode cX12_quotientOfDecimals 169 = .ok (.iastore, 1) := by decide +kernel
theorem dX12_quotientOfDecimals_170 : decode cX12_quotientOfDecimals 170 = .ok (.goto (-68), 3) := by decide +kernel
theorem dX12_quotientOfDecimals_173 : decode cX12_quotientOfDecimals 173 = .ok (.iinc 4 (-1), 3) := by decide +kernel
theorem dX12_quotientOfDecimals_176 : decode cX12_quotientOfDecimals 176 = .ok (.goto (-123), 3) := by decide +kernel
theorem dX12_quotientOfDecimals_179 : decode cX12_quotientOfDecimals 179 = .ok (.iconst 2, 1) := by decide +kernel
theorem dX12_quotientOfDecimals_180 : decode cX12_quotientOfDecimals 180 = .ok (.iload_n 2, 1) := by decide +kernel
theorem dX12_quotientOfDecimals_181 : decode cX12_quotientOfDecimals 181 = .ok (.iload_n 3, 1) := by decide +kernel
theorem dX12_quotientOfDecimals_182 : decode cX12_quotientOfDecimals 182 = .ok (.isub, 1) := by decide +kernel
theorem dX12_quotientOfDecimals_183 : decode cX12_quotientOfDecimals 183 = .ok (.imul, 1) := by decide +kernel
theorem dX12_quotientOfDecimals_184 : decode cX12_quotientOfDecimals 184 = .ok (.iconst 1, 1) := by decide +kernel
theorem dX12_quotientOfDecimals_185 : decode cX12_quotientOfDecimals 185 = .ok (.isub, 1) := by decide +kernel
theorem dX12_quotientOfDecimals_186 : decode cX12_quotientOfDecimals 186 = .ok (.istore 4, 2) := by decide +kernel
theorem dX12_quotientOfDecimals_188 : decode cX12_quotientOfDecimals 188 = .ok (.iload 4, 2) := by decide +kernel
theorem dX12_quotientOfDecimals_190 : decode cX12_quotientOfDecimals 190 = .ok (.istore 5, 2) := by decide +kernel
theorem dX12_quotientOfDecimals_192 : decode cX12_quotientOfDecimals 192 = .ok (.iload 5, 2) := by decide +kernel
theorem dX12_quotientOfDecimals_194 : decode cX12_quotientOfDecimals 194 = .ok (.bipush 80, 2) := by decide +kernel
theorem dX12_quotientOfDecimals_196 : decode cX12_quotientOfDecimals 196 = .ok (.if_icmp .ge 25, 3) := by decide +kernel
theorem dX12_quotientOfDecimals_199 : decode cX12_quotientOfDecimals 199 = .ok (.aload_n 0, 1) := by decide +kernel
theorem dX12_quotientOfDecimals_200 : decode cX12_quotientOfDecimals 200 = .ok (.getfield 37, 3) := by decide +kernel
theorem dX12_quotientOfDecimals_203 : decode cX12_quotientOfDecimals 203 = .ok (.iload 5, 2) := by decide +kernel
theorem dX12_quotientOfDecimals_205 : decode cX12_quotientOfDecimals 205 = .ok (.iaload, 1) := by decide +kernel
theorem dX12_quotientOfDecimals_206 : decode cX12_quotientOfDecimals 206 = .ok (.ifCond .eq 9, 3) := by decide +kernel
theorem dX12_quotientOfDecimals_209 : decode cX12_quotientOfDecimals 209 = .ok (.aload_n 0, 1) := by decide +kernel
theorem dX12_quotientOfDecimals_210 : decode cX12_quotientOfDecimals 210 = .ok (.bipush 11, 2) := by decide +kernel
theorem dX12_quotientOfDecimals_212 : decode cX12_quotientOfDecimals 212 = .ok (.invokevirtual 107, 3) := by decide +kernel
theorem dX12_quotientOfDecimals_215 : decode cX12_quotientOfDecimals 215 = .ok (.iinc 5 1, 3) := by decide +kernel
theorem dX12_quotientOfDecimals_218 : decode cX12_quotientOfDecimals 218 = .ok (.goto (-26), 3) := by decide +kernel
theorem dX12_quotientOfDecimals_221 : decode cX12_quotientOfDecimals 221 = .ok (.aload_n 0, 1) := by decide +kernel
theorem dX12_quotientOfDecimals_222 : decode cX12_quotientOfDecimals 222 = .ok (.getfield 104, 3) := by decide +kernel
theorem dX12_quotientOfDecimals_225 : decode cX12_quotientOfDecimals 225 = .ok (.ifCond .le 4, 3) := by decide +kernel
theorem dX12_quotientOfDecimals_228 : decode cX12_quotientOfDecimals 228 = .ok (.return_, 1) := by decide +kernel
theorem dX12_quotientOfDecimals_229 : decode cX12_quotientOfDecimals 229 = .ok (.iconst 0, 1) := by decide +kernel
theorem dX12_quotientOfDecimals_230 : decode cX12_quotientOfDecimals 230 = .ok (.istore 5, 2) := by decide +kernel
theorem dX12_quotientOfDecimals_232 : decode cX12_quotientOfDecimals 232 = .ok (.iload 5, 2) := by decide +kernel
theorem dX12_quotientOfDecimals_234 : decode cX12_quotientOfDecimals 234 = .ok (.bipush 80, 2) := by decide +kernel
theorem dX12_quotientOfDecimals_236 : decode cX12_quotientOfDecimals 236 = .ok (.if_icmp .ge 23, 3) := by decide +kernel
theorem dX12_quotientOfDecimals_239 : decode cX12_quotientOfDecimals 239 = .ok (.aload_n 0, 1) := by decide +kernel
theorem dX12_quotientOfDecimals_240 : decode cX12_quotientOfDecimals 240 = .ok (.getfield 31, 3) := by decide +kernel
theorem dX12_quotientOfDecimals_243 : decode cX12_quotientOfDecimals 243 = .ok (.iload 5, 2) := by decide +kernel
theorem dX12_quotientOfDecimals_245 : decode cX12_quotientOfDecimals 245 = .ok (.aload_n 0, 1) := by decide +kernel
theorem dX12_quotientOfDecimals_246 : decode cX12_quotientOfDecimals 246 = .ok (.getfield 37, 3) := by decide +kernel
theorem dX12_quotientOfDecimals_249 : decode cX12_quotientOfDecimals 249 = .ok (.iload 5, 2) := by decide +kernel
theorem dX12_quotientOfDecimals_251 : decode cX12_quotientOfDecimals 251 = .ok (.iaload, 1) := by decide +kernel
theorem dX12_quotientOfDecimals_252 : decode cX12_quotientOfDecimals 252 = .ok (.iastore, 1) := by decide +kernel
theorem dX12_quotientOfDecimals_253 : decode cX12_quotientOfDecimals 253 = .ok (.iinc 5 1, 3) := by decide +kernel
theorem dX12_quotientOfDecimals_256 : decode cX12_quotientOfDecimals 256 = .ok (.goto (-24), 3) := by decide +kernel
theorem dX12_quotientOfDecimals_259 : decode cX12_quotientOfDecimals 259 = .ok (.aload_n 0, 1) := by decide +kernel
theorem dX12_quotientOfDecimals_260 : decode cX12_quotientOfDecimals 260 = .ok (.iload_n 1, 1) := by decide +kernel
theorem dX12_quotientOfDecimals_261 : decode cX12_quotientOfDecimals 261 = .ok (.iload_n 2, 1) := by decide +kernel
theorem dX12_quotientOfDecimals_262 : decode cX12_quotientOfDecimals 262 = .ok (.iload_n 3, 1) := by decide +kernel
theorem dX12_quotientOfDecimals_263 : decode cX12_quotientOfDecimals 263 = .ok (.isub, 1) := by decide +kernel
theorem dX12_quotientOfDecimals_264 : decode cX12_quotientOfDecimals 264 = .ok (.aload_n 0, 1) := by decide +kernel
theorem dX12_quotientOfDecimals_265 : decode cX12_quotientOfDecimals 265 = .ok (.getfield 160, 3) := by decide +kernel
theorem dX12_quotientOfDecimals_268 : decode cX12_quotientOfDecimals 268 = .ok (.aload_n 0, 1) := by decide +kernel
theorem dX12_quotientOfDecimals_269 : decode cX12_quotientOfDecimals 269 = .ok (.getfield 163, 3) := by decide +kernel
theorem dX12_quotientOfDecimals_272 : decode cX12_quotientOfDecimals 272 = .ok (.if_icmp .eq 7, 3) := by decide +kernel
theorem dX12_quotientOfDecimals_275 : decode cX12_quotientOfDecimals 275 = .ok (.iconst 1, 1) := by decide +kernel
theorem dX12_quotientOfDecimals_276 : decode cX12_quotientOfDecimals 276 = .ok (.goto 4, 3) := by decide +kernel
theorem dX12_quotientOfDecimals_279 : decode cX12_quotientOfDecimals 279 = .ok (.iconst 0, 1) := by decide +kernel
theorem dX12_quotientOfDecimals_280 : decode cX12_quotientOfDecimals 280 = .ok (.iconst 1, 1) := by decide +kernel
theorem dX12_quotientOfDecimals_281 : decode cX12_quotientOfDecimals 281 = .ok (.invokevirtual 170, 3) := by decide +kernel
theorem dX12_quotientOfDecimals_284 : decode cX12_quotientOfDecimals 284 = .ok (.istore 5, 2) := by decide +kernel
theorem dX12_quotientOfDecimals_286 : decode cX12_quotientOfDecimals 286 = .ok (.iconst 0, 1) := by decide +kernel
theorem dX12_quotientOfDecimals_287 : decode cX12_quotientOfDecimals 287 = .ok (.istore 6, 2) := by decide +kernel
theorem dX12_quotientOfDecimals_289 : decode cX12_quotientOfDecimals 289 = .ok (.iload 6, 2) := by decide +kernel
theorem dX12_quotientOfDecimals_291 : decode cX12_quotientOfDecimals 291 = .ok (.bipush 80, 2) := by decide +kernel
theorem dX12_quotientOfDecimals_293 : decode cX12_quotientOfDecimals 293 = .ok (.if_icmp .ge 23, 3) := by decide +kernel
theorem dX12_quotientOfDecimals_296 : decode cX12_quotientOfDecimals 296 = .ok (.aload_n 0, 1) := by decide +kernel
theorem dX12_quotientOfDecimals_297 : decode cX12_quotientOfDecimals 297 = .ok (.getfield 31, 3) := by decide +kernel
theorem dX12_quotientOfDecimals_300 : decode cX12_quotientOfDecimals 300 = .ok (.iload 6, 2) := by decide +kernel
theorem dX12_quotientOfDecimals_302 : decode cX12_quotientOfDecimals 302 = .ok (.aload_n 0, 1) := by decide +kernel
theorem dX12_quotientOfDecimals_303 : decode cX12_quotientOfDecimals 303 = .ok (.getfield 34, 3) := by decide +kernel
theorem dX12_quotientOfDecimals_306 : decode cX12_quotientOfDecimals 306 = .ok (.iload 6, 2) := by decide +kernel
theorem dX12_quotientOfDecimals_308 : decode cX12_quotientOfDecimals 308 = .ok (.iaload, 1) := by decide +kernel
theorem dX12_quotientOfDecimals_309 : decode cX12_quotientOfDecimals 309 = .ok (.iastore, 1) := by decide +kernel
theorem dX12_quotientOfDecimals_310 : decode cX12_quotientOfDecimals 310 = .ok (.iinc 6 1, 3) := by decide +kernel
theorem dX12_quotientOfDecimals_313 : decode cX12_quotientOfDecimals 313 = .ok (.goto (-24), 3) := by decide +kernel
theorem dX12_quotientOfDecimals_316 : decode cX12_quotientOfDecimals 316 = .ok (.aload_n 0, 1) := by decide +kernel
theorem dX12_quotientOfDecimals_317 : decode cX12_quotientOfDecimals 317 = .ok (.iload_n 1, 1) := by decide +kernel
theorem dX12_quotientOfDecimals_318 : decode cX12_quotientOfDecimals 318 = .ok (.iload_n 2, 1) := by decide +kernel
theorem dX12_quotientOfDecimals_319 : decode cX12_quotientOfDecimals 319 = .ok (.iadd, 1) := by decide +kernel
theorem dX12_quotientOfDecimals_320 : decode cX12_quotientOfDecimals 320 = .ok (.iload_n 3, 1) := by decide +kernel
theorem dX12_quotientOfDecimals_321 : decode cX12_quotientOfDecimals 321 = .ok (.isub, 1) := by decide +kernel
theorem dX12_quotientOfDecimals_322 : decode cX12_quotientOfDecimals 322 = .ok (.iload_n 3, 1) := by decide +kernel
theorem dX12_quotientOfDecimals_323 : decode cX12_quotientOfDecimals 323 = .ok (.iconst 1, 1) := by decide +kernel
theorem dX12_quotientOfDecimals_324 : decode cX12_quotientOfDecimals 324 = .ok (.iadd, 1) := by decide +kernel
theorem dX12_quotientOfDecimals_325 : decode cX12_quotientOfDecimals 325 = .ok (.aload_n 0, 1) := by decide +kernel
theorem dX12_quotientOfDecimals_326 : decode cX12_quotientOfDecimals 326 = .ok (.getfield 160, 3) := by decide +kernel
theorem dX12_quotientOfDecimals_329 : decode cX12_quotientOfDecimals 329 = .ok (.iconst 1, 1) := by decide +kernel
theorem dX12_quotientOfDecimals_330 : decode cX12_quotientOfDecimals 330 = .ok (.invokevirtual 170, 3) := by decide +kernel
theorem dX12_quotientOfDecimals_333 : decode cX12_quotientOfDecimals 333 = .ok (.istore 5, 2) := by decide +kernel
theorem dX12_quotientOfDecimals_335 : decode cX12_quotientOfDecimals 335 = .ok (.return_, 1) := by decide +kernel
theorem dX12_branchTo_0 : decode cX12_branchTo 0 = .ok (.aload_n 0, 1) := by decide +kernel
theorem dX12_branchTo_1 : decode cX12_branchTo 1 = .ok (.iload_n 1, 1) := by decide +kernel
theorem dX12_branchTo_2 : decode cX12_branchTo 2 = .ok (.ldc 81, 2) := by decide +kernel
theorem dX12_branchTo_4 : decode cX12_branchTo 4 = .ok (.iand, 1) := by decide +kernel
theorem dX12_branchTo_5 : decode cX12_branchTo 5 = .ok (.putfield 53, 3) := by decide +kernel
theorem dX12_branchTo_8 : decode cX12_branchTo 8 = .ok (.return_, 1) := by decide +kernel
theorem dX12_keyOfBlock_0 : decode cX12_keyOfBlock 0 = .ok (.aload_n 0, 1) := by decide +kernel
theorem dX12_keyOfBlock_1 : decode cX12_keyOfBlock 1 = .ok (.invokevirtual 185, 3) := by decide +kernel
theorem dX12_keyOfBlock_4 : decode cX12_keyOfBlock 4 = .ok (.aload_n 0, 1) := by decide +kernel
theorem dX12_keyOfBlock_5 : decode cX12_keyOfBlock 5 = .ok (.getfield 16, 3) := by decide +kernel
theorem dX12_keyOfBlock_8 : decode cX12_keyOfBlock 8 = .ok (.iload_n 2, 1) := by decide +kernel
theorem dX12_keyOfBlock_9 : decode cX12_keyOfBlock 9 = .ok (.iaload, 1) := by decide +kernel
theorem dX12_keyOfBlock_10 : decode cX12_keyOfBlock 10 = .ok (.ldc 81, 2) := by decide +kernel
theorem dX12_keyOfBlock_12 : decode cX12_keyOfBlock 12 = .ok (.iand, 1) := by decide +kernel
theorem dX12_keyOfBlock_13 : decode cX12_keyOfBlock 13 = .ok (.istore 4, 2) := by decide +kernel
theorem dX12_keyOfBlock_15 : decode cX12_keyOfBlock 15 = .ok (.iload 4, 2) := by decide +kernel
theorem dX12_keyOfBlock_17 : decode cX12_keyOfBlock 17 = .ok (.sipush 8192, 3) := by decide +kernel
theorem dX12_keyOfBlock_20 : decode cX12_keyOfBlock 20 = .ok (.if_icmp .lt 8, 3) := by decide +kernel
theorem dX12_keyOfBlock_23 : decode cX12_keyOfBlock 23 = .ok (.aload_n 0, 1) := by decide +kernel
theorem dX12_keyOfBlock_24 : decode cX12_keyOfBlock 24 = .ok (.iconst 5, 1) := by decide +kernel
theorem dX12_keyOfBlock_25 : decode cX12_keyOfBlock 25 = .ok (.invokevirtual 107, 3) := by decide +kernel
theorem dX12_keyOfBlock_28 : decode cX12_keyOfBlock 28 = .ok (.aload_n 0, 1) := by decide +kernel
theorem dX12_keyOfBlock_29 : decode cX12_keyOfBlock 29 = .ok (.getfield 16, 3) := by decide +kernel
theorem dX12_keyOfBlock_32 : decode cX12_keyOfBlock 32 = .ok (.iload_n 2, 1) := by decide +kernel
theorem dX12_keyOfBlock_33 : decode cX12_keyOfBlock 33 = .ok (.iaload, 1) := by decide +kernel
theorem dX12_keyOfBlock_34 : decode cX12_keyOfBlock 34 = .ok (.bipush 15, 2) := by decide +kernel
theorem dX12_keyOfBlock_36 : decode cX12_keyOfBlock 36 = .ok (.iand, 1) := by decide +kernel
theorem dX12_keyOfBlock_37 : decode cX12_keyOfBlock 37 = .ok (.ifCond .eq 9, 3) := by decide +kernel
theorem dX12_keyOfBlock_40 : decode cX12_keyOfBlock 40 = .ok (.aload_n 0, 1) := by decide +kernel
theorem dX12_keyOfBlock_41 : decode cX12_keyOfBlock 41 = .ok (.bipush 6, 2) := by decide +kernel
theorem dX12_keyOfBlock_43 : decode cX12_keyOfBlock 43 = .ok (.invokevirtual 107, 3) := by decide +kernel
theorem dX12_keyOfBlock_46 : decode cX12_keyOfBlock 46 = .ok (.aload_n 0, 1) := by decide +kernel
theorem dX12_keyOfBlock_47 : decode cX12_keyOfBlock 47 = .ok (.getfield 104, 3) := by decide +kernel
theorem dX12_keyOfBlock_50 : decode cX12_keyOfBlock 50 = .ok (.ifCond .le 4, 3) := by decide +kernel
theorem dX12_keyOfBlock_53 : decode cX12_keyOfBlock 53 = .ok (.return_, 1) := by decide +kernel
theorem dX12_keyOfBlock_54 : decode cX12_keyOfBlock 54 = .ok (.iload_n 3, 1) := by decide +kernel
theorem dX12_keyOfBlock_55 : decode cX12_keyOfBlock 55 = .ok (.ifCond .eq 27, 3) := by decide +kernel
theorem dX12_keyOfBlock_58 : decode cX12_keyOfBlock 58 = .ok (.aload_n 0, 1) := by decide +kernel
theorem dX12_keyOfBlock_59 : decode cX12_keyOfBlock 59 = .ok (.getfield 13, 3) := by decide +kernel
theorem dX12_keyOfBlock_62 : decode cX12_keyOfBlock 62 = .ok (.iload 4, 2) := by decide +kernel
theorem dX12_keyOfBlock_64 : decode cX12_keyOfBlock 64 = .ok (.bipush 11, 2) := by decide +kernel
theorem dX12_keyOfBlock_66 : decode cX12_keyOfBlock 66 = .ok (.ishr, 1) := by decide +kernel
theorem dX12_keyOfBlock_67 : decode cX12_keyOfBlock 67 = .ok (.aload_n 0, 1) := by decide +kernel
theorem dX12_keyOfBlock_68 : decode cX12_keyOfBlock 68 = .ok (.getfield 16, 3) := by decide +kernel
theorem dX12_keyOfBlock_71 : decode cX12_keyOfBlock 71 = .ok (.iload_n 1, 1) := by decide +kernel
theorem dX12_keyOfBlock_72 : decode cX12_keyOfBlock 72 = .ok (.iaload, 1) := by decide +kernel
theorem dX12_keyOfBlock_73 : decode cX12_keyOfBlock 73 = .ok (.iconst 3, 1) := by decide +kernel
