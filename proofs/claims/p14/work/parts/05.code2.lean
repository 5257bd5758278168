theorem dX12_keyOfBlock_74 : decode cX12_keyOfBlock 74 = .ok (.ishr, 1) := by decide +kernel
theorem dX12_keyOfBlock_75 : decode cX12_keyOfBlock 75 = .ok (.bipush 31, 2) := by decide +kernel
theorem dX12_keyOfBlock_77 : decode cX12_keyOfBlock 77 = .ok (.iand, 1) := by decide +kernel
theorem dX12_keyOfBlock_78 : decode cX12_keyOfBlock 78 = .ok (.iastore, 1) := by decide +kernel
theorem dX12_keyOfBlock_79 : decode cX12_keyOfBlock 79 = .ok (.goto 32, 3) := by decide +kernel
theorem dX12_keyOfBlock_82 : decode cX12_keyOfBlock 82 = .ok (.aload_n 0, 1) := by decide +kernel
theorem dX12_keyOfBlock_83 : decode cX12_keyOfBlock 83 = .ok (.getfield 16, 3) := by decide +kernel
theorem dX12_keyOfBlock_86 : decode cX12_keyOfBlock 86 = .ok (.iload_n 1, 1) := by decide +kernel
theorem dX12_keyOfBlock_87 : decode cX12_keyOfBlock 87 = .ok (.aload_n 0, 1) := by decide +kernel
theorem dX12_keyOfBlock_88 : decode cX12_keyOfBlock 88 = .ok (.getfield 16, 3) := by decide +kernel
theorem dX12_keyOfBlock_91 : decode cX12_keyOfBlock 91 = .ok (.iload_n 1, 1) := by decide +kernel
theorem dX12_keyOfBlock_92 : decode cX12_keyOfBlock 92 = .ok (.iaload, 1) := by decide +kernel
theorem dX12_keyOfBlock_93 : decode cX12_keyOfBlock 93 = .ok (.sipush (-256), 3) := by decide +kernel
theorem dX12_keyOfBlock_96 : decode cX12_keyOfBlock 96 = .ok (.iand, 1) := by decide +kernel
theorem dX12_keyOfBlock_97 : decode cX12_keyOfBlock 97 = .ok (.aload_n 0, 1) := by decide +kernel
theorem dX12_keyOfBlock_98 : decode cX12_keyOfBlock 98 = .ok (.getfield 13, 3) := by decide +kernel
theorem dX12_keyOfBlock_101 : decode cX12_keyOfBlock 101 = .ok (.iload 4, 2) := by decide +kernel
theorem dX12_keyOfBlock_103 : decode cX12_keyOfBlock 103 = .ok (.bipush 11, 2) := by decide +kernel
theorem dX12_keyOfBlock_105 : decode cX12_keyOfBlock 105 = .ok (.ishr, 1) := by decide +kernel
theorem dX12_keyOfBlock_106 : decode cX12_keyOfBlock 106 = .ok (.iaload, 1) := by decide +kernel
theorem dX12_keyOfBlock_107 : decode cX12_keyOfBlock 107 = .ok (.iconst 3, 1) := by decide +kernel
theorem dX12_keyOfBlock_108 : decode cX12_keyOfBlock 108 = .ok (.ishl, 1) := by decide +kernel
theorem dX12_keyOfBlock_109 : decode cX12_keyOfBlock 109 = .ok (.ior, 1) := by decide +kernel
theorem dX12_keyOfBlock_110 : decode cX12_keyOfBlock 110 = .ok (.iastore, 1) := by decide +kernel
theorem dX12_keyOfBlock_111 : decode cX12_keyOfBlock 111 = .ok (.return_, 1) := by decide +kernel
theorem dX12_registers_0 : decode cX12_registers 0 = .ok (.aload_n 0, 1) := by decide +kernel
theorem dX12_registers_1 : decode cX12_registers 1 = .ok (.getfield 22, 3) := by decide +kernel
theorem dX12_registers_4 : decode cX12_registers 4 = .ok (.iconst 1, 1) := by decide +kernel
theorem dX12_registers_5 : decode cX12_registers 5 = .ok (.iaload, 1) := by decide +kernel
theorem dX12_registers_6 : decode cX12_registers 6 = .ok (.iconst 4, 1) := by decide +kernel
theorem dX12_registers_7 : decode cX12_registers 7 = .ok (.ishr, 1) := by decide +kernel
theorem dX12_registers_8 : decode cX12_registers 8 = .ok (.istore_n 2, 1) := by decide +kernel
theorem dX12_registers_9 : decode cX12_registers 9 = .ok (.aload_n 0, 1) := by decide +kernel
theorem dX12_registers_10 : decode cX12_registers 10 = .ok (.getfield 22, 3) := by decide +kernel
theorem dX12_registers_13 : decode cX12_registers 13 = .ok (.iconst 1, 1) := by decide +kernel
theorem dX12_registers_14 : decode cX12_registers 14 = .ok (.iaload, 1) := by decide +kernel
theorem dX12_registers_15 : decode cX12_registers 15 = .ok (.bipush 15, 2) := by decide +kernel
theorem dX12_registers_17 : decode cX12_registers 17 = .ok (.iand, 1) := by decide +kernel
theorem dX12_registers_18 : decode cX12_registers 18 = .ok (.istore_n 3, 1) := by decide +kernel
theorem dX12_registers_19 : decode cX12_registers 19 = .ok (.aload_n 0, 1) := by decide +kernel
theorem dX12_registers_20 : decode cX12_registers 20 = .ok (.getfield 16, 3) := by decide +kernel
theorem dX12_registers_23 : decode cX12_registers 23 = .ok (.iload_n 3, 1) := by decide +kernel
theorem dX12_registers_24 : decode cX12_registers 24 = .ok (.iaload, 1) := by decide +kernel
theorem dX12_registers_25 : decode cX12_registers 25 = .ok (.istore 4, 2) := by decide +kernel
theorem dX12_registers_27 : decode cX12_registers 27 = .ok (.iload_n 1, 1) := by decide +kernel
theorem dX12_registers_28 : decode cX12_registers 28 = .ok (.tableswitch 188 4 10 #[44, 78, 101, 133, 160, 170, 180], 44) := by decide +kernel
theorem dX12_registers_72 : decode cX12_registers 72 = .ok (.aload_n 0, 1) := by decide +kernel
theorem dX12_registers_73 : decode cX12_registers 73 = .ok (.aload_n 0, 1) := by decide +kernel
theorem dX12_registers_74 : decode cX12_registers 74 = .ok (.getfield 16, 3) := by decide +kernel
theorem dX12_registers_77 : decode cX12_registers 77 = .ok (.iload_n 2, 1) := by decide +kernel
theorem dX12_registers_78 : decode cX12_registers 78 = .ok (.iaload, 1) := by decide +kernel
theorem dX12_registers_79 : decode cX12_registers 79 = .ok (.bipush 28, 2) := by decide +kernel
theorem dX12_registers_81 : decode cX12_registers 81 = .ok (.ishr, 1) := by decide +kernel
theorem dX12_registers_82 : decode cX12_registers 82 = .ok (.iconst 3, 1) := by decide +kernel
theorem dX12_registers_83 : decode cX12_registers 83 = .ok (.iand, 1) := by decide +kernel
theorem dX12_registers_84 : decode cX12_registers 84 = .ok (.putfield 47, 3) := by decide +kernel
theorem dX12_registers_87 : decode cX12_registers 87 = .ok (.aload_n 0, 1) := by decide +kernel
theorem dX12_registers_88 : decode cX12_registers 88 = .ok (.aload_n 0, 1) := by decide +kernel
theorem dX12_registers_89 : decode cX12_registers 89 = .ok (.getfield 16, 3) := by decide +kernel
theorem dX12_registers_92 : decode cX12_registers 92 = .ok (.iload_n 2, 1) := by decide +kernel
theorem dX12_registers_93 : decode cX12_registers 93 = .ok (.iaload, 1) := by decide +kernel
theorem dX12_registers_94 : decode cX12_registers 94 = .ok (.bipush 24, 2) := by decide +kernel
theorem dX12_registers_96 : decode cX12_registers 96 = .ok (.ishr, 1) := by decide +kernel
theorem dX12_registers_97 : decode cX12_registers 97 = .ok (.bipush 15, 2) := by decide +kernel
theorem dX12_registers_99 : decode cX12_registers 99 = .ok (.iand, 1) := by decide +kernel
theorem dX12_registers_100 : decode cX12_registers 100 = .ok (.putfield 50, 3) := by decide +kernel
theorem dX12_registers_103 : decode cX12_registers 103 = .ok (.goto 142, 3) := by decide +kernel
theorem dX12_registers_106 : decode cX12_registers 106 = .ok (.aload_n 0, 1) := by decide +kernel
theorem dX12_registers_107 : decode cX12_registers 107 = .ok (.getfield 16, 3) := by decide +kernel
theorem dX12_registers_110 : decode cX12_registers 110 = .ok (.iload_n 2, 1) := by decide +kernel
theorem dX12_registers_111 : decode cX12_registers 111 = .ok (.aload_n 0, 1) := by decide +kernel
theorem dX12_registers_112 : decode cX12_registers 112 = .ok (.invokevirtual 74, 3) := by decide +kernel
theorem dX12_registers_115 : decode cX12_registers 115 = .ok (.iastore, 1) := by decide +kernel
theorem dX12_registers_116 : decode cX12_registers 116 = .ok (.iload_n 3, 1) := by decide +kernel
theorem dX12_registers_117 : decode cX12_registers 117 = .ok (.ifCond .eq 128, 3) := by decide +kernel
theorem dX12_registers_120 : decode cX12_registers 120 = .ok (.aload_n 0, 1) := by decide +kernel
theorem dX12_registers_121 : decode cX12_registers 121 = .ok (.iload 4, 2) := by decide +kernel
theorem dX12_registers_123 : decode cX12_registers 123 = .ok (.invokevirtual 188, 3) := by decide +kernel
theorem dX12_registers_126 : decode cX12_registers 126 = .ok (.goto 119, 3) := by decide +kernel
theorem dX12_registers_129 : decode cX12_registers 129 = .ok (.aload_n 0, 1) := by decide +kernel
theorem dX12_registers_130 : decode cX12_registers 130 = .ok (.getfield 16, 3) := by decide +kernel
theorem dX12_registers_133 : decode cX12_registers 133 = .ok (.iload_n 2, 1) := by decide +kernel
theorem dX12_registers_134 : decode cX12_registers 134 = .ok (.dup2, 1) := by decide +kernel
theorem dX12_registers_135 : decode cX12_registers 135 = .ok (.iaload, 1) := by decide +kernel
theorem dX12_registers_136 : decode cX12_registers 136 = .ok (.iconst 1, 1) := by decide +kernel
theorem dX12_registers_137 : decode cX12_registers 137 = .ok (.isub, 1) := by decide +kernel
theorem dX12_registers_138 : decode cX12_registers 138 = .ok (.iastore, 1) := by decide +kernel
theorem dX12_registers_139 : decode cX12_registers 139 = .ok (.iload_n 3, 1) := by decide +kernel
theorem dX12_registers_140 : decode cX12_registers 140 = .ok (.ifCond .eq 105, 3) := by decide +kernel
theorem dX12_registers_143 : decode cX12_registers 143 = .ok (.aload_n 0, 1) := by decide +kernel
theorem dX12_registers_144 : decode cX12_registers 144 = .ok (.getfield 16, 3) := by decide +kernel
theorem dX12_registers_147 : decode cX12_registers 147 = .ok (.iload_n 2, 1) := by decide +kernel
theorem dX12_registers_148 : decode cX12_registers 148 = .ok (.iaload, 1) := by decide +kernel
theorem dX12_registers_149 : decode cX12_registers 149 = .ok (.ifCond .eq 96, 3) := by decide +kernel
theorem dX12_registers_152 : decode cX12_registers 152 = .ok (.aload_n 0, 1) := by decide +kernel
theorem dX12_registers_153 : decode cX12_registers 153 = .ok (.iload 4, 2) := by decide +kernel
theorem dX12_registers_155 : decode cX12_registers 155 = .ok (.invokevirtual 188, 3) := by decide +kernel
theorem dX12_registers_158 : decode cX12_registers 158 = .ok (.goto 87, 3) := by decide +kernel
theorem dX12_registers_161 : decode cX12_registers 161 = .ok (.iload_n 3, 1) := by decide +kernel
theorem dX12_registers_162 : decode cX12_registers 162 = .ok (.ifCond .eq 83, 3) := by decide +kernel
theorem dX12_registers_165 : decode cX12_registers 165 = .ok (.iload_n 2, 1) := by decide +kernel
theorem dX12_registers_166 : decode cX12_registers 166 = .ok (.iconst 3, 1) := by decide +kernel
theorem dX12_registers_167 : decode cX12_registers 167 = .ok (.aload_n 0, 1) := by decide +kernel
theorem dX12_registers_168 : decode cX12_registers 168 = .ok (.getfield 47, 3) := by decide +kernel
theorem dX12_registers_171 : decode cX12_registers 171 = .ok (.isub, 1) := by decide +kernel
theorem dX12_registers_172 : decode cX12_registers 172 = .ok (.ishr, 1) := by decide +kernel
theorem dX12_registers_173 : decode cX12_registers 173 = .ok (.iconst 1, 1) := by decide +kernel
theorem dX12_registers_174 : decode cX12_registers 174 = .ok (.iand, 1) := by decide +kernel
theorem dX12_registers_175 : decode cX12_registers 175 = .ok (.iconst 1, 1) := by decide +kernel
theorem dX12_registers_176 : decode cX12_registers 176 = .ok (.if_icmp .ne 69, 3) := by decide +kernel
theorem dX12_registers_179 : decode cX12_registers 179 = .ok (.aload_n 0, 1) := by decide +kernel
theorem dX12_registers_180 : decode cX12_registers 180 = .ok (.iload 4, 2) := by decide +kernel
theorem dX12_registers_182 : decode cX12_registers 182 = .ok (.invokevirtual 188, 3) := by decide +kernel
theorem dX12_registers_185 : decode cX12_registers 185 = .ok (.goto 60, 3) := by decide +kernel
theorem dX12_registers_188 : decode cX12_registers 188 = .ok (.aload_n 0, 1) := by decide +kernel
theorem dX12_registers_189 : decode cX12_registers 189 = .ok (.iload_n 2, 1) := by decide +kernel
theorem dX12_registers_190 : decode cX12_registers 190 = .ok (.iload_n 3, 1) := by decide +kernel
theorem dX12_registers_191 : decode cX12_registers 191 = .ok (.iconst 1, 1) := by decide +kernel
theorem dX12_registers_192 : decode cX12_registers 192 = .ok (.invokevirtual 191, 3) := by decide +kernel
theorem dX12_registers_195 : decode cX12_registers 195 = .ok (.goto 50, 3) := by decide +kernel
theorem dX12_registers_198 : decode cX12_registers 198 = .ok (.aload_n 0, 1) := by decide +kernel
theorem dX12_registers_199 : decode cX12_registers 199 = .ok (.iload_n 2, 1) := by decide +kernel
theorem dX12_registers_200 : decode cX12_registers 200 = .ok (.iload_n 3, 1) := by decide +kernel
theorem dX12_registers_201 : decode cX12_registers 201 = .ok (.iconst 0, 1) := by decide +kernel
theorem dX12_registers_202 : decode cX12_registers 202 = .ok (.invokevirtual 191, 3) := by decide +kernel
theorem dX12_registers_205 : decode cX12_registers 205 = .ok (.goto 40, 3) := by decide +kernel
theorem dX12_registers_208 : decode cX12_registers 208 = .ok (.aload_n 0, 1) := by decide +kernel
theorem dX12_registers_209 : decode cX12_registers 209 = .ok (.iconst 1, 1) := by decide +kernel
theorem dX12_registers_210 : decode cX12_registers 210 = .ok (.putfield 194, 3) := by decide +kernel
theorem dX12_registers_213 : decode cX12_registers 213 = .ok (.goto 32, 3) := by decide +kernel
theorem dX12_registers_216 : decode cX12_registers 216 = .ok (.iload_n 1, 1) := by decide +kernel
theorem dX12_registers_217 : decode cX12_registers 217 = .ok (.bipush 16, 2) := by decide +kernel
theorem dX12_registers_219 : decode cX12_registers 219 = .ok (.if_icmp .ge 11, 3) := by decide +kernel
theorem dX12_registers_222 : decode cX12_registers 222 = .ok (.aload_n 0, 1) := by decide +kernel
theorem dX12_registers_223 : decode cX12_registers 223 = .ok (.iconst 1, 1) := by decide +kernel
theorem dX12_registers_224 : decode cX12_registers 224 = .ok (.invokevirtual 107, 3) := by decide +kernel
theorem dX12_registers_227 : decode cX12_registers 227 = .ok (.goto 18, 3) := by decide +kernel
theorem dX12_registers_230 : decode cX12_registers 230 = .ok (.aload_n 0, 1) := by decide +kernel
theorem dX12_registers_231 : decode cX12_registers 231 = .ok (.iload_n 1, 1) := by decide +kernel
theorem dX12_registers_232 : decode cX12_registers 232 = .ok (.bipush 16, 2) := by decide +kernel
theorem dX12_registers_234 : decode cX12_registers 234 = .ok (.isub, 1) := by decide +kernel
theorem dX12_registers_235 : decode cX12_registers 235 = .ok (.iload_n 2, 1) := by decide +kernel
theorem dX12_registers_236 : decode cX12_registers 236 = .ok (.aload_n 0, 1) := by decide +kernel
theorem dX12_registers_237 : decode cX12_registers 237 = .ok (.getfield 16, 3) := by decide +kernel
theorem dX12_registers_240 : decode cX12_registers 240 = .ok (.iload_n 3, 1) := by decide +kernel
theorem dX12_registers_241 : decode cX12_registers 241 = .ok (.iaload, 1) := by decide +kernel
theorem dX12_registers_242 : decode cX12_registers 242 = .ok (.invokevirtual 197, 3) := by decide +kernel
theorem dX12_registers_245 : decode cX12_registers 245 = .ok (.return_, 1) := by decide +kernel
theorem dX12_toMemory_0 : decode cX12_toMemory 0 = .ok (.aload_n 0, 1) := by decide +kernel
theorem dX12_toMemory_1 : decode cX12_toMemory 1 = .ok (.iload_n 1, 1) := by decide +kernel
theorem dX12_toMemory_2 : decode cX12_toMemory 2 = .ok (.iload_n 3, 1) := by decide +kernel
theorem dX12_toMemory_3 : decode cX12_toMemory 3 = .ok (.iconst 1, 1) := by decide +kernel
theorem dX12_toMemory_4 : decode cX12_toMemory 4 = .ok (.invokevirtual 121, 3) := by decide +kernel
theorem dX12_toMemory_7 : decode cX12_toMemory 7 = .ok (.aload_n 0, 1) := by decide +kernel
theorem dX12_toMemory_8 : decode cX12_toMemory 8 = .ok (.iload_n 1, 1) := by decide +kernel
theorem dX12_toMemory_9 : decode cX12_toMemory 9 = .ok (.iload_n 3, 1) := by decide +kernel
theorem dX12_toMemory_10 : decode cX12_toMemory 10 = .ok (.invokevirtual 125, 3) := by decide +kernel
theorem dX12_toMemory_13 : decode cX12_toMemory 13 = .ok (.aload_n 0, 1) := by decide +kernel
theorem dX12_toMemory_14 : decode cX12_toMemory 14 = .ok (.getfield 104, 3) := by decide +kernel
theorem dX12_toMemory_17 : decode cX12_toMemory 17 = .ok (.ifCond .ne 11, 3) := by decide +kernel
theorem dX12_toMemory_20 : decode cX12_toMemory 20 = .ok (.aload_n 0, 1) := by decide +kernel
theorem dX12_toMemory_21 : decode cX12_toMemory 21 = .ok (.iload_n 1, 1) := by decide +kernel
theorem dX12_toMemory_22 : decode cX12_toMemory 22 = .ok (.iload_n 2, 1) := by decide +kernel
theorem dX12_toMemory_23 : decode cX12_toMemory 23 = .ok (.i2l, 1) := by decide +kernel
theorem dX12_toMemory_24 : decode cX12_toMemory 24 = .ok (.iload_n 3, 1) := by decide +kernel
theorem dX12_toMemory_25 : decode cX12_toMemory 25 = .ok (.invokevirtual 96, 3) := by decide +kernel
theorem dX12_toMemory_28 : decode cX12_toMemory 28 = .ok (.return_, 1) := by decide +kernel
theorem dX12_toDecimal_0 : decode cX12_toDecimal 0 = .ok (.aload_n 0, 1) := by decide +kernel
theorem dX12_toDecimal_1 : decode cX12_toDecimal 1 = .ok (.iload_n 1, 1) := by decide +kernel
theorem dX12_toDecimal_2 : decode cX12_toDecimal 2 = .ok (.bipush 8, 2) := by decide +kernel
theorem dX12_toDecimal_4 : decode cX12_toDecimal 4 = .ok (.iconst 1, 1) := by decide +kernel
theorem dX12_toDecimal_5 : decode cX12_toDecimal 5 = .ok (.invokevirtual 121, 3) := by decide +kernel
theorem dX12_toDecimal_8 : decode cX12_toDecimal 8 = .ok (.aload_n 0, 1) := by decide +kernel
theorem dX12_toDecimal_9 : decode cX12_toDecimal 9 = .ok (.iload_n 1, 1) := by decide +kernel
theorem dX12_toDecimal_10 : decode cX12_toDecimal 10 = .ok (.bipush 8, 2) := by decide +kernel
theorem dX12_toDecimal_12 : decode cX12_toDecimal 12 = .ok (.invokevirtual 125, 3) := by decide +kernel
theorem dX12_toDecimal_15 : decode cX12_toDecimal 15 = .ok (.aload_n 0, 1) := by decide +kernel
theorem dX12_toDecimal_16 : decode cX12_toDecimal 16 = .ok (.getfield 104, 3) := by decide +kernel
theorem dX12_toDecimal_19 : decode cX12_toDecimal 19 = .ok (.ifCond .le 4, 3) := by decide +kernel
theorem dX12_toDecimal_22 : decode cX12_toDecimal 22 = .ok (.return_, 1) := by decide +kernel
theorem dX12_toDecimal_23 : decode cX12_toDecimal 23 = .ok (.iload_n 2, 1) := by decide +kernel
theorem dX12_toDecimal_24 : decode cX12_toDecimal 24 = .ok (.i2l, 1) := by decide +kernel
theorem dX12_toDecimal_25 : decode cX12_toDecimal 25 = .ok (.invokestatic 201, 3) := by decide +kernel
theorem dX12_toDecimal_28 : decode cX12_toDecimal 28 = .ok (.lstore_n 3, 1) := by decide +kernel
theorem dX12_toDecimal_29 : decode cX12_toDecimal 29 = .ok (.iconst 0, 1) := by decide +kernel
theorem dX12_toDecimal_30 : decode cX12_toDecimal 30 = .ok (.istore 5, 2) := by decide +kernel
theorem dX12_toDecimal_32 : decode cX12_toDecimal 32 = .ok (.iload 5, 2) := by decide +kernel
theorem dX12_toDecimal_34 : decode cX12_toDecimal 34 = .ok (.bipush 80, 2) := by decide +kernel
theorem dX12_toDecimal_36 : decode cX12_toDecimal 36 = .ok (.if_icmp .ge 28, 3) := by decide +kernel
theorem dX12_toDecimal_39 : decode cX12_toDecimal 39 = .ok (.aload_n 0, 1) := by decide +kernel
theorem dX12_toDecimal_40 : decode cX12_toDecimal 40 = .ok (.getfield 31, 3) := by decide +kernel
theorem dX12_toDecimal_43 : decode cX12_toDecimal 43 = .ok (.iload 5, 2) := by decide +kernel
theorem dX12_toDecimal_45 : decode cX12_toDecimal 45 = .ok (.lload_n 3, 1) := by decide +kernel
theorem dX12_toDecimal_46 : decode cX12_toDecimal 46 = .ok (.ldc2_w 207, 3) := by decide +kernel
theorem dX12_toDecimal_49 : decode cX12_toDecimal 49 = .ok (.lrem, 1) := by decide +kernel
theorem dX12_toDecimal_50 : decode cX12_toDecimal 50 = .ok (.l2i, 1) := by decide +kernel
theorem dX12_toDecimal_51 : decode cX12_toDecimal 51 = .ok (.iastore, 1) := by decide +kernel
theorem dX12_toDecimal_52 : decode cX12_toDecimal 52 = .ok (.lload_n 3, 1) := by decide +kernel
theorem dX12_toDecimal_53 : decode cX12_toDecimal 53 = .ok (.ldc2_w 207, 3) := by decide +kernel
theorem dX12_toDecimal_56 : decode cX12_toDecimal 56 = .ok (.ldiv, 1) := by decide +kernel
theorem dX12_toDecimal_57 : decode cX12_toDecimal 57 = .ok (.lstore_n 3, 1) := by decide +kernel
theorem dX12_toDecimal_58 : decode cX12_toDecimal 58 = .ok (.iinc 5 1, 3) := by decide +kernel
theorem dX12_toDecimal_61 : decode cX12_toDecimal 61 = .ok (.goto (-29), 3) := by decide +kernel
theorem dX12_toDecimal_64 : decode cX12_toDecimal 64 = .ok (.aload_n 0, 1) := by decide +kernel
theorem dX12_toDecimal_65 : decode cX12_toDecimal 65 = .ok (.iload_n 1, 1) := by decide +kernel
theorem dX12_toDecimal_66 : decode cX12_toDecimal 66 = .ok (.bipush 8, 2) := by decide +kernel
theorem dX12_toDecimal_68 : decode cX12_toDecimal 68 = .ok (.iload_n 2, 1) := by decide +kernel
theorem dX12_toDecimal_69 : decode cX12_toDecimal 69 = .ok (.ifCond .ge 7, 3) := by decide +kernel
theorem dX12_toDecimal_72 : decode cX12_toDecimal 72 = .ok (.iconst 1, 1) := by decide +kernel
theorem dX12_toDecimal_73 : decode cX12_toDecimal 73 = .ok (.goto 4, 3) := by decide +kernel
theorem dX12_toDecimal_76 : decode cX12_toDecimal 76 = .ok (.iconst 0, 1) := by decide +kernel
theorem dX12_toDecimal_77 : decode cX12_toDecimal 77 = .ok (.iconst 0, 1) := by decide +kernel
theorem dX12_toDecimal_78 : decode cX12_toDecimal 78 = .ok (.invokevirtual 170, 3) := by decide +kernel
theorem dX12_toDecimal_81 : decode cX12_toDecimal 81 = .ok (.istore 5, 2) := by decide +kernel
theorem dX12_toDecimal_83 : decode cX12_toDecimal 83 = .ok (.return_, 1) := by decide +kernel
theorem dX12_fromDecimal_0 : decode cX12_fromDecimal 0 = .ok (.aload_n 0, 1) := by decide +kernel
theorem dX12_fromDecimal_1 : decode cX12_fromDecimal 1 = .ok (.iload_n 2, 1) := by decide +kernel
theorem dX12_fromDecimal_2 : decode cX12_fromDecimal 2 = .ok (.bipush 8, 2) := by decide +kernel
theorem dX12_fromDecimal_4 : decode cX12_fromDecimal 4 = .ok (.iconst 0, 1) := by decide +kernel
theorem dX12_fromDecimal_5 : decode cX12_fromDecimal 5 = .ok (.invokevirtual 121, 3) := by decide +kernel
theorem dX12_fromDecimal_8 : decode cX12_fromDecimal 8 = .ok (.aload_n 0, 1) := by decide +kernel
theorem dX12_fromDecimal_9 : decode cX12_fromDecimal 9 = .ok (.iload_n 2, 1) := by decide +kernel
theorem dX12_fromDecimal_10 : decode cX12_fromDecimal 10 = .ok (.bipush 8, 2) := by decide +kernel
theorem dX12_fromDecimal_12 : decode cX12_fromDecimal 12 = .ok (.invokevirtual 125, 3) := by decide +kernel
theorem dX12_fromDecimal_15 : decode cX12_fromDecimal 15 = .ok (.aload_n 0, 1) := by decide +kernel
theorem dX12_fromDecimal_16 : decode cX12_fromDecimal 16 = .ok (.iload_n 2, 1) := by decide +kernel
theorem dX12_fromDecimal_17 : decode cX12_fromDecimal 17 = .ok (.bipush 8, 2) := by decide +kernel
theorem dX12_fromDecimal_19 : decode cX12_fromDecimal 19 = .ok (.iconst 1, 1) := by decide +kernel
theorem dX12_fromDecimal_20 : decode cX12_fromDecimal 20 = .ok (.invokevirtual 209, 3) := by decide +kernel
theorem dX12_fromDecimal_23 : decode cX12_fromDecimal 23 = .ok (.aload_n 0, 1) := by decide +kernel
theorem dX12_fromDecimal_24 : decode cX12_fromDecimal 24 = .ok (.getfield 104, 3) := by decide +kernel
theorem dX12_fromDecimal_27 : decode cX12_fromDecimal 27 = .ok (.ifCond .le 4, 3) := by decide +kernel
theorem dX12_fromDecimal_30 : decode cX12_fromDecimal 30 = .ok (.return_, 1) := by decide +kernel
theorem dX12_fromDecimal_31 : decode cX12_fromDecimal 31 = .ok (.lconst 0, 1) := by decide +kernel
theorem dX12_fromDecimal_32 : decode cX12_fromDecimal 32 = .ok (.lstore_n 3, 1) := by decide +kernel
theorem dX12_fromDecimal_33 : decode cX12_fromDecimal 33 = .ok (.bipush 14, 2) := by decide +kernel
theorem dX12_fromDecimal_35 : decode cX12_fromDecimal 35 = .ok (.istore 5, 2) := by decide +kernel
theorem dX12_fromDecimal_37 : decode cX12_fromDecimal 37 = .ok (.iload 5, 2) := by decide +kernel
theorem dX12_fromDecimal_39 : decode cX12_fromDecimal 39 = .ok (.ifCond .lt 24, 3) := by decide +kernel
theorem dX12_fromDecimal_42 : decode cX12_fromDecimal 42 = .ok (.lload_n 3, 1) := by decide +kernel
theorem dX12_fromDecimal_43 : decode cX12_fromDecimal 43 = .ok (.ldc2_w 207, 3) := by decide +kernel
theorem dX12_fromDecimal_46 : decode cX12_fromDecimal 46 = .ok (.lmul, 1) := by decide +kernel
theorem dX12_fromDecimal_47 : decode cX12_fromDecimal 47 = .ok (.aload_n 0, 1) := by decide +kernel
theorem dX12_fromDecimal_48 : decode cX12_fromDecimal 48 = .ok (.getfield 25, 3) := by decide +kernel
theorem dX12_fromDecimal_51 : decode cX12_fromDecimal 51 = .ok (.iload 5, 2) := by decide +kernel
theorem dX12_fromDecimal_53 : decode cX12_fromDecimal 53 = .ok (.iaload, 1) := by decide +kernel
theorem dX12_fromDecimal_54 : decode cX12_fromDecimal 54 = .ok (.i2l, 1) := by decide +kernel
theorem dX12_fromDecimal_55 : decode cX12_fromDecimal 55 = .ok (.ladd, 1) := by decide +kernel
theorem dX12_fromDecimal_56 : decode cX12_fromDecimal 56 = .ok (.lstore_n 3, 1) := by decide +kernel
theorem dX12_fromDecimal_57 : decode cX12_fromDecimal 57 = .ok (.iinc 5 (-1), 3) := by decide +kernel
theorem dX12_fromDecimal_60 : decode cX12_fromDecimal 60 = .ok (.goto (-23), 3) := by decide +kernel
theorem dX12_fromDecimal_63 : decode cX12_fromDecimal 63 = .ok (.aload_n 0, 1) := by decide +kernel
theorem dX12_fromDecimal_64 : decode cX12_fromDecimal 64 = .ok (.getfield 160, 3) := by decide +kernel
theorem dX12_fromDecimal_67 : decode cX12_fromDecimal 67 = .ok (.ifCond .eq 8, 3) := by decide +kernel
theorem dX12_fromDecimal_70 : decode cX12_fromDecimal 70 = .ok (.lload_n 3, 1) := by decide +kernel
theorem dX12_fromDecimal_71 : decode cX12_fromDecimal 71 = .ok (.lneg, 1) := by decide +kernel
theorem dX12_fromDecimal_72 : decode cX12_fromDecimal 72 = .ok (.goto 4, 3) := by decide +kernel
theorem dX12_fromDecimal_75 : decode cX12_fromDecimal 75 = .ok (.lload_n 3, 1) := by decide +kernel
theorem dX12_fromDecimal_76 : decode cX12_fromDecimal 76 = .ok (.lstore_n 3, 1) := by decide +kernel
theorem dX12_fromDecimal_77 : decode cX12_fromDecimal 77 = .ok (.lload_n 3, 1) := by decide +kernel
theorem dX12_fromDecimal_78 : decode cX12_fromDecimal 78 = .ok (.ldc2_w 140, 3) := by decide +kernel
theorem dX12_fromDecimal_81 : decode cX12_fromDecimal 81 = .ok (.lcmp, 1) := by decide +kernel
theorem dX12_fromDecimal_82 : decode cX12_fromDecimal 82 = .ok (.ifCond .gt 11, 3) := by decide +kernel
theorem dX12_fromDecimal_85 : decode cX12_fromDecimal 85 = .ok (.lload_n 3, 1) := by decide +kernel
theorem dX12_fromDecimal_86 : decode cX12_fromDecimal 86 = .ok (.ldc2_w 142, 3) := by decide +kernel
theorem dX12_fromDecimal_89 : decode cX12_fromDecimal 89 = .ok (.lcmp, 1) := by decide +kernel
theorem dX12_fromDecimal_90 : decode cX12_fromDecimal 90 = .ok (.ifCond .ge 12, 3) := by decide +kernel
theorem dX12_fromDecimal_93 : decode cX12_fromDecimal 93 = .ok (.aload_n 0, 1) := by decide +kernel
theorem dX12_fromDecimal_94 : decode cX12_fromDecimal 94 = .ok (.bipush 9, 2) := by decide +kernel
theorem dX12_fromDecimal_96 : decode cX12_fromDecimal 96 = .ok (.invokevirtual 107, 3) := by decide +kernel
theorem dX12_fromDecimal_99 : decode cX12_fromDecimal 99 = .ok (.goto 11, 3) := by decide +kernel
theorem dX12_fromDecimal_102 : decode cX12_fromDecimal 102 = .ok (.aload_n 0, 1) := by decide +kernel
theorem dX12_fromDecimal_103 : decode cX12_fromDecimal 103 = .ok (.getfield 16, 3) := by decide +kernel
theorem dX12_fromDecimal_106 : decode cX12_fromDecimal 106 = .ok (.iload_n 1, 1) := by decide +kernel
theorem dX12_fromDecimal_107 : decode cX12_fromDecimal 107 = .ok (.lload_n 3, 1) := by decide +kernel
theorem dX12_fromDecimal_108 : decode cX12_fromDecimal 108 = .ok (.l2i, 1) := by decide +kernel
theorem dX12_fromDecimal_109 : decode cX12_fromDecimal 109 = .ok (.iastore, 1) := by decide +kernel
theorem dX12_fromDecimal_110 : decode cX12_fromDecimal 110 = .ok (.return_, 1) := by decide +kernel
theorem dX12_indexedOnes_0 : decode cX12_indexedOnes 0 = .ok (.aload_n 0, 1) := by decide +kernel
theorem dX12_indexedOnes_1 : decode cX12_indexedOnes 1 = .ok (.getfield 22, 3) := by decide +kernel
theorem dX12_indexedOnes_4 : decode cX12_indexedOnes 4 = .ok (.iconst 1, 1) := by decide +kernel
theorem dX12_indexedOnes_5 : decode cX12_indexedOnes 5 = .ok (.iaload, 1) := by decide +kernel
theorem dX12_indexedOnes_6 : decode cX12_indexedOnes 6 = .ok (.iconst 4, 1) := by decide +kernel
theorem dX12_indexedOnes_7 : decode cX12_indexedOnes 7 = .ok (.ishr, 1) := by decide +kernel
theorem dX12_indexedOnes_8 : decode cX12_indexedOnes 8 = .ok (.istore_n 2, 1) := by decide +kernel
theorem dX12_indexedOnes_9 : decode cX12_indexedOnes 9 = .ok (.aload_n 0, 1) := by decide +kernel
theorem dX12_indexedOnes_10 : decode cX12_indexedOnes 10 = .ok (.invokevirtual 212, 3) := by decide +kernel
theorem dX12_indexedOnes_13 : decode cX12_indexedOnes 13 = .ok (.istore_n 3, 1) := by decide +kernel
theorem dX12_indexedOnes_14 : decode cX12_indexedOnes 14 = .ok (.iload_n 1, 1) := by decide +kernel
theorem dX12_indexedOnes_15 : decode cX12_indexedOnes 15 = .ok (.tableswitch 283 64 80 #[81, 96, 106, 121, 283, 170, 188, 215, 283, 283, 283, 283, 283, 275, 237, 251, 260], 81) := by decide +kernel
theorem dX12_indexedOnes_96 : decode cX12_indexedOnes 96 = .ok (.aload_n 0, 1) := by decide +kernel
theorem dX12_indexedOnes_97 : decode cX12_indexedOnes 97 = .ok (.iload_n 3, 1) := by decide +kernel
theorem dX12_indexedOnes_98 : decode cX12_indexedOnes 98 = .ok (.aload_n 0, 1) := by decide +kernel
theorem dX12_indexedOnes_99 : decode cX12_indexedOnes 99 = .ok (.getfield 16, 3) := by decide +kernel
theorem dX12_indexedOnes_102 : decode cX12_indexedOnes 102 = .ok (.iload_n 2, 1) := by decide +kernel
theorem dX12_indexedOnes_103 : decode cX12_indexedOnes 103 = .ok (.iaload, 1) := by decide +kernel
theorem dX12_indexedOnes_104 : decode cX12_indexedOnes 104 = .ok (.iconst 2, 1) := by decide +kernel
theorem dX12_indexedOnes_105 : decode cX12_indexedOnes 105 = .ok (.invokevirtual 215, 3) := by decide +kernel
theorem dX12_indexedOnes_108 : decode cX12_indexedOnes 108 = .ok (.goto 217, 3) := by decide +kernel
theorem dX12_indexedOnes_111 : decode cX12_indexedOnes 111 = .ok (.aload_n 0, 1) := by decide +kernel
theorem dX12_indexedOnes_112 : decode cX12_indexedOnes 112 = .ok (.getfield 16, 3) := by decide +kernel
theorem dX12_indexedOnes_115 : decode cX12_indexedOnes 115 = .ok (.iload_n 2, 1) := by decide +kernel
theorem dX12_indexedOnes_116 : decode cX12_indexedOnes 116 = .ok (.iload_n 3, 1) := by decide +kernel
theorem dX12_indexedOnes_117 : decode cX12_indexedOnes 117 = .ok (.iastore, 1) := by decide +kernel
theorem dX12_indexedOnes_118 : decode cX12_indexedOnes 118 = .ok (.goto 207, 3) := by decide +kernel
theorem dX12_indexedOnes_121 : decode cX12_indexedOnes 121 = .ok (.aload_n 0, 1) := by decide +kernel
theorem dX12_indexedOnes_122 : decode cX12_indexedOnes 122 = .ok (.iload_n 3, 1) := by decide +kernel
theorem dX12_indexedOnes_123 : decode cX12_indexedOnes 123 = .ok (.aload_n 0, 1) := by decide +kernel
theorem dX12_indexedOnes_124 : decode cX12_indexedOnes 124 = .ok (.getfield 16, 3) := by decide +kernel
theorem dX12_indexedOnes_127 : decode cX12_indexedOnes 127 = .ok (.iload_n 2, 1) := by decide +kernel
theorem dX12_indexedOnes_128 : decode cX12_indexedOnes 128 = .ok (.iaload, 1) := by decide +kernel
theorem dX12_indexedOnes_129 : decode cX12_indexedOnes 129 = .ok (.iconst 1, 1) := by decide +kernel
theorem dX12_indexedOnes_130 : decode cX12_indexedOnes 130 = .ok (.invokevirtual 215, 3) := by decide +kernel
theorem dX12_indexedOnes_133 : decode cX12_indexedOnes 133 = .ok (.goto 192, 3) := by decide +kernel
theorem dX12_indexedOnes_136 : decode cX12_indexedOnes 136 = .ok (.aload_n 0, 1) := by decide +kernel
theorem dX12_indexedOnes_137 : decode cX12_indexedOnes 137 = .ok (.iload_n 3, 1) := by decide +kernel
theorem dX12_indexedOnes_138 : decode cX12_indexedOnes 138 = .ok (.iconst 1, 1) := by decide +kernel
theorem dX12_indexedOnes_139 : decode cX12_indexedOnes 139 = .ok (.iconst 0, 1) := by decide +kernel
theorem dX12_indexedOnes_140 : decode cX12_indexedOnes 140 = .ok (.invokevirtual 121, 3) := by decide +kernel
theorem dX12_indexedOnes_143 : decode cX12_indexedOnes 143 = .ok (.aload_n 0, 1) := by decide +kernel
theorem dX12_indexedOnes_144 : decode cX12_indexedOnes 144 = .ok (.getfield 16, 3) := by decide +kernel
theorem dX12_indexedOnes_147 : decode cX12_indexedOnes 147 = .ok (.iload_n 2, 1) := by decide +kernel
theorem dX12_indexedOnes_148 : decode cX12_indexedOnes 148 = .ok (.aload_n 0, 1) := by decide +kernel
theorem dX12_indexedOnes_149 : decode cX12_indexedOnes 149 = .ok (.getfield 104, 3) := by decide +kernel
theorem dX12_indexedOnes_152 : decode cX12_indexedOnes 152 = .ok (.ifCond .le 12, 3) := by decide +kernel
theorem dX12_indexedOnes_155 : decode cX12_indexedOnes 155 = .ok (.aload_n 0, 1) := by decide +kernel
theorem dX12_indexedOnes_156 : decode cX12_indexedOnes 156 = .ok (.getfield 16, 3) := by decide +kernel
theorem dX12_indexedOnes_159 : decode cX12_indexedOnes 159 = .ok (.iload_n 2, 1) := by decide +kernel
theorem dX12_indexedOnes_160 : decode cX12_indexedOnes 160 = .ok (.iaload, 1) := by decide +kernel
theorem dX12_indexedOnes_161 : decode cX12_indexedOnes 161 = .ok (.goto 20, 3) := by decide +kernel
theorem dX12_indexedOnes_164 : decode cX12_indexedOnes 164 = .ok (.aload_n 0, 1) := by decide +kernel
theorem dX12_indexedOnes_165 : decode cX12_indexedOnes 165 = .ok (.getfield 16, 3) := by decide +kernel
theorem dX12_indexedOnes_168 : decode cX12_indexedOnes 168 = .ok (.iload_n 2, 1) := by decide +kernel
theorem dX12_indexedOnes_169 : decode cX12_indexedOnes 169 = .ok (.iaload, 1) := by decide +kernel
theorem dX12_indexedOnes_170 : decode cX12_indexedOnes 170 = .ok (.sipush (-256), 3) := by decide +kernel
theorem dX12_indexedOnes_173 : decode cX12_indexedOnes 173 = .ok (.iand, 1) := by decide +kernel
theorem dX12_indexedOnes_174 : decode cX12_indexedOnes 174 = .ok (.aload_n 0, 1) := by decide +kernel
theorem dX12_indexedOnes_175 : decode cX12_indexedOnes 175 = .ok (.getfield 7, 3) := by decide +kernel
theorem dX12_indexedOnes_178 : decode cX12_indexedOnes 178 = .ok (.iload_n 3, 1) := by decide +kernel
theorem dX12_indexedOnes_179 : decode cX12_indexedOnes 179 = .ok (.iaload, 1) := by decide +kernel
theorem dX12_indexedOnes_180 : decode cX12_indexedOnes 180 = .ok (.ior, 1) := by decide +kernel
theorem dX12_indexedOnes_181 : decode cX12_indexedOnes 181 = .ok (.iastore, 1) := by decide +kernel
theorem dX12_indexedOnes_182 : decode cX12_indexedOnes 182 = .ok (.goto 143, 3) := by decide +kernel
theorem dX12_indexedOnes_185 : decode cX12_indexedOnes 185 = .ok (.aload_n 0, 1) := by decide +kernel
theorem dX12_indexedOnes_186 : decode cX12_indexedOnes 186 = .ok (.getfield 16, 3) := by decide +kernel
theorem dX12_indexedOnes_189 : decode cX12_indexedOnes 189 = .ok (.iload_n 2, 1) := by decide +kernel
theorem dX12_indexedOnes_190 : decode cX12_indexedOnes 190 = .ok (.aload_n 0, 1) := by decide +kernel
theorem dX12_indexedOnes_191 : decode cX12_indexedOnes 191 = .ok (.invokevirtual 74, 3) := by decide +kernel
theorem dX12_indexedOnes_194 : decode cX12_indexedOnes 194 = .ok (.iastore, 1) := by decide +kernel
theorem dX12_indexedOnes_195 : decode cX12_indexedOnes 195 = .ok (.aload_n 0, 1) := by decide +kernel
theorem dX12_indexedOnes_196 : decode cX12_indexedOnes 196 = .ok (.iload_n 3, 1) := by decide +kernel
theorem dX12_indexedOnes_197 : decode cX12_indexedOnes 197 = .ok (.invokevirtual 188, 3) := by decide +kernel
theorem dX12_indexedOnes_200 : decode cX12_indexedOnes 200 = .ok (.goto 125, 3) := by decide +kernel
theorem dX12_indexedOnes_203 : decode cX12_indexedOnes 203 = .ok (.aload_n 0, 1) := by decide +kernel
theorem dX12_indexedOnes_204 : decode cX12_indexedOnes 204 = .ok (.getfield 16, 3) := by decide +kernel
theorem dX12_indexedOnes_207 : decode cX12_indexedOnes 207 = .ok (.iload_n 2, 1) := by decide +kernel
theorem dX12_indexedOnes_208 : decode cX12_indexedOnes 208 = .ok (.dup2, 1) := by decide +kernel
theorem dX12_indexedOnes_209 : decode cX12_indexedOnes 209 = .ok (.iaload, 1) := by decide +kernel
theorem dX12_indexedOnes_210 : decode cX12_indexedOnes 210 = .ok (.iconst 1, 1) := by decide +kernel
theorem dX12_indexedOnes_211 : decode cX12_indexedOnes 211 = .ok (.isub, 1) := by decide +kernel
theorem dX12_indexedOnes_212 : decode cX12_indexedOnes 212 = .ok (.iastore, 1) := by decide +kernel
theorem dX12_indexedOnes_213 : decode cX12_indexedOnes 213 = .ok (.aload_n 0, 1) := by decide +kernel
theorem dX12_indexedOnes_214 : decode cX12_indexedOnes 214 = .ok (.getfield 16, 3) := by decide +kernel
theorem dX12_indexedOnes_217 : decode cX12_indexedOnes 217 = .ok (.iload_n 2, 1) := by decide +kernel
theorem dX12_indexedOnes_218 : decode cX12_indexedOnes 218 = .ok (.iaload, 1) := by decide +kernel
theorem dX12_indexedOnes_219 : decode cX12_indexedOnes 219 = .ok (.ifCond .eq 106, 3) := by decide +kernel
theorem dX12_indexedOnes_222 : decode cX12_indexedOnes 222 = .ok (.aload_n 0, 1) := by decide +kernel
theorem dX12_indexedOnes_223 : decode cX12_indexedOnes 223 = .ok (.iload_n 3, 1) := by decide +kernel
theorem dX12_indexedOnes_224 : decode cX12_indexedOnes 224 = .ok (.invokevirtual 188, 3) := by decide +kernel
theorem dX12_indexedOnes_227 : decode cX12_indexedOnes 227 = .ok (.goto 98, 3) := by decide +kernel
theorem dX12_indexedOnes_230 : decode cX12_indexedOnes 230 = .ok (.iload_n 2, 1) := by decide +kernel
theorem dX12_indexedOnes_231 : decode cX12_indexedOnes 231 = .ok (.iconst 3, 1) := by decide +kernel
theorem dX12_indexedOnes_232 : decode cX12_indexedOnes 232 = .ok (.aload_n 0, 1) := by decide +kernel
theorem dX12_indexedOnes_233 : decode cX12_indexedOnes 233 = .ok (.getfield 47, 3) := by decide +kernel
theorem dX12_indexedOnes_236 : decode cX12_indexedOnes 236 = .ok (.isub, 1) := by decide +kernel
theorem dX12_indexedOnes_237 : decode cX12_indexedOnes 237 = .ok (.ishr, 1) := by decide +kernel
theorem dX12_indexedOnes_238 : decode cX12_indexedOnes 238 = .ok (.iconst 1, 1) := by decide +kernel
theorem dX12_indexedOnes_239 : decode cX12_indexedOnes 239 = .ok (.iand, 1) := by decide +kernel
theorem dX12_indexedOnes_240 : decode cX12_indexedOnes 240 = .ok (.iconst 1, 1) := by decide +kernel
theorem dX12_indexedOnes_241 : decode cX12_indexedOnes 241 = .ok (.if_icmp .ne 84, 3) := by decide +kernel
theorem dX12_indexedOnes_244 : decode cX12_indexedOnes 244 = .ok (.aload_n 0, 1) := by decide +kernel
theorem dX12_indexedOnes_245 : decode cX12_indexedOnes 245 = .ok (.iload_n 3, 1) := by decide +kernel
theorem dX12_indexedOnes_246 : decode cX12_indexedOnes 246 = .ok (.invokevirtual 188, 3) := by decide +kernel
theorem dX12_indexedOnes_249 : decode cX12_indexedOnes 249 = .ok (.goto 76, 3) := by decide +kernel
theorem dX12_indexedOnes_252 : decode cX12_indexedOnes 252 = .ok (.aload_n 0, 1) := by decide +kernel
theorem dX12_indexedOnes_253 : decode cX12_indexedOnes 253 = .ok (.iload_n 3, 1) := by decide +kernel
theorem dX12_indexedOnes_254 : decode cX12_indexedOnes 254 = .ok (.aload_n 0, 1) := by decide +kernel
theorem dX12_indexedOnes_255 : decode cX12_indexedOnes 255 = .ok (.getfield 16, 3) := by decide +kernel
theorem dX12_indexedOnes_258 : decode cX12_indexedOnes 258 = .ok (.iload_n 2, 1) := by decide +kernel
theorem dX12_indexedOnes_259 : decode cX12_indexedOnes 259 = .ok (.iaload, 1) := by decide +kernel
theorem dX12_indexedOnes_260 : decode cX12_indexedOnes 260 = .ok (.invokevirtual 218, 3) := by decide +kernel
theorem dX12_indexedOnes_263 : decode cX12_indexedOnes 263 = .ok (.goto 62, 3) := by decide +kernel
theorem dX12_indexedOnes_266 : decode cX12_indexedOnes 266 = .ok (.aload_n 0, 1) := by decide +kernel
theorem dX12_indexedOnes_267 : decode cX12_indexedOnes 267 = .ok (.iload_n 2, 1) := by decide +kernel
theorem dX12_indexedOnes_268 : decode cX12_indexedOnes 268 = .ok (.iload_n 3, 1) := by decide +kernel
theorem dX12_indexedOnes_269 : decode cX12_indexedOnes 269 = .ok (.invokevirtual 221, 3) := by decide +kernel
theorem dX12_indexedOnes_272 : decode cX12_indexedOnes 272 = .ok (.goto 53, 3) := by decide +kernel
theorem dX12_indexedOnes_275 : decode cX12_indexedOnes 275 = .ok (.aload_n 0, 1) := by decide +kernel
theorem dX12_indexedOnes_276 : decode cX12_indexedOnes 276 = .ok (.iload_n 3, 1) := by decide +kernel
theorem dX12_indexedOnes_277 : decode cX12_indexedOnes 277 = .ok (.aload_n 0, 1) := by decide +kernel
theorem dX12_indexedOnes_278 : decode cX12_indexedOnes 278 = .ok (.getfield 16, 3) := by decide +kernel
theorem dX12_indexedOnes_281 : decode cX12_indexedOnes 281 = .ok (.iload_n 2, 1) := by decide +kernel
theorem dX12_indexedOnes_282 : decode cX12_indexedOnes 282 = .ok (.iaload, 1) := by decide +kernel
theorem dX12_indexedOnes_283 : decode cX12_indexedOnes 283 = .ok (.iconst 4, 1) := by decide +kernel
theorem dX12_indexedOnes_284 : decode cX12_indexedOnes 284 = .ok (.invokevirtual 215, 3) := by decide +kernel
theorem dX12_indexedOnes_287 : decode cX12_indexedOnes 287 = .ok (.goto 38, 3) := by decide +kernel
theorem dX12_indexedOnes_290 : decode cX12_indexedOnes 290 = .ok (.aload_n 0, 1) := by decide +kernel
theorem dX12_indexedOnes_291 : decode cX12_indexedOnes 291 = .ok (.iconst 1, 1) := by decide +kernel
theorem dX12_indexedOnes_292 : decode cX12_indexedOnes 292 = .ok (.invokevirtual 107, 3) := by decide +kernel
theorem dX12_indexedOnes_295 : decode cX12_indexedOnes 295 = .ok (.goto 30, 3) := by decide +kernel
theorem dX12_indexedOnes_298 : decode cX12_indexedOnes 298 = .ok (.iload_n 1, 1) := by decide +kernel
theorem dX12_indexedOnes_299 : decode cX12_indexedOnes 299 = .ok (.bipush 80, 2) := by decide +kernel
theorem dX12_indexedOnes_301 : decode cX12_indexedOnes 301 = .ok (.if_icmp .le 17, 3) := by decide +kernel
theorem dX12_indexedOnes_304 : decode cX12_indexedOnes 304 = .ok (.iload_n 1, 1) := by decide +kernel
theorem dX12_indexedOnes_305 : decode cX12_indexedOnes 305 = .ok (.bipush 84, 2) := by decide +kernel
theorem dX12_indexedOnes_307 : decode cX12_indexedOnes 307 = .ok (.if_icmp .ge 11, 3) := by decide +kernel
theorem dX12_indexedOnes_310 : decode cX12_indexedOnes 310 = .ok (.aload_n 0, 1) := by decide +kernel
theorem dX12_indexedOnes_311 : decode cX12_indexedOnes 311 = .ok (.iconst 1, 1) := by decide +kernel
theorem dX12_indexedOnes_312 : decode cX12_indexedOnes 312 = .ok (.invokevirtual 107, 3) := by decide +kernel
theorem dX12_indexedOnes_315 : decode cX12_indexedOnes 315 = .ok (.goto 10, 3) := by decide +kernel
theorem dX12_indexedOnes_318 : decode cX12_indexedOnes 318 = .ok (.aload_n 0, 1) := by decide +kernel
theorem dX12_indexedOnes_319 : decode cX12_indexedOnes 319 = .ok (.iload_n 1, 1) := by decide +kernel
theorem dX12_indexedOnes_320 : decode cX12_indexedOnes 320 = .ok (.iload_n 2, 1) := by decide +kernel
theorem dX12_indexedOnes_321 : decode cX12_indexedOnes 321 = .ok (.iload_n 3, 1) := by decide +kernel
theorem dX12_indexedOnes_322 : decode cX12_indexedOnes 322 = .ok (.invokevirtual 224, 3) := by decide +kernel
theorem dX12_indexedOnes_325 : decode cX12_indexedOnes 325 = .ok (.return_, 1) := by decide +kernel
theorem dX12_withMemory_0 : decode cX12_withMemory 0 = .ok (.iload_n 1, 1) := by decide +kernel
theorem dX12_withMemory_1 : decode cX12_withMemory 1 = .ok (.bipush 80, 2) := by decide +kernel
theorem dX12_withMemory_3 : decode cX12_withMemory 3 = .ok (.if_icmp .ge 7, 3) := by decide +kernel
theorem dX12_withMemory_6 : decode cX12_withMemory 6 = .ok (.iconst 1, 1) := by decide +kernel
theorem dX12_withMemory_7 : decode cX12_withMemory 7 = .ok (.goto 4, 3) := by decide +kernel
theorem dX12_withMemory_10 : decode cX12_withMemory 10 = .ok (.iconst 0, 1) := by decide +kernel
theorem dX12_withMemory_11 : decode cX12_withMemory 11 = .ok (.istore 4, 2) := by decide +kernel
theorem dX12_withMemory_13 : decode cX12_withMemory 13 = .ok (.iload 4, 2) := by decide +kernel
theorem dX12_withMemory_15 : decode cX12_withMemory 15 = .ok (.ifCond .eq 10, 3) := by decide +kernel
theorem dX12_withMemory_18 : decode cX12_withMemory 18 = .ok (.iload_n 1, 1) := by decide +kernel
theorem dX12_withMemory_19 : decode cX12_withMemory 19 = .ok (.bipush 64, 2) := by decide +kernel
theorem dX12_withMemory_21 : decode cX12_withMemory 21 = .ok (.isub, 1) := by decide +kernel
theorem dX12_withMemory_22 : decode cX12_withMemory 22 = .ok (.goto 7, 3) := by decide +kernel
theorem dX12_withMemory_25 : decode cX12_withMemory 25 = .ok (.iload_n 1, 1) := by decide +kernel
theorem dX12_withMemory_26 : decode cX12_withMemory 26 = .ok (.bipush 80, 2) := by decide +kernel
theorem dX12_withMemory_28 : decode cX12_withMemory 28 = .ok (.isub, 1) := by decide +kernel
theorem dX12_withMemory_29 : decode cX12_withMemory 29 = .ok (.istore 5, 2) := by decide +kernel
theorem dX12_withMemory_31 : decode cX12_withMemory 31 = .ok (.iload 4, 2) := by decide +kernel
theorem dX12_withMemory_33 : decode cX12_withMemory 33 = .ok (.ifCond .ne 30, 3) := by decide +kernel
theorem dX12_withMemory_36 : decode cX12_withMemory 36 = .ok (.iload 5, 2) := by decide +kernel
theorem dX12_withMemory_38 : decode cX12_withMemory 38 = .ok (.bipush 12, 2) := by decide +kernel
theorem dX12_withMemory_40 : decode cX12_withMemory 40 = .ok (.if_icmp .eq 10, 3) := by decide +kernel
theorem dX12_withMemory_43 : decode cX12_withMemory 43 = .ok (.iload 5, 2) := by decide +kernel
theorem dX12_withMemory_45 : decode cX12_withMemory 45 = .ok (.bipush 13, 2) := by decide +kernel
theorem dX12_withMemory_47 : decode cX12_withMemory 47 = .ok (.if_icmp .ne 16, 3) := by decide +kernel
theorem dX12_withMemory_50 : decode cX12_withMemory 50 = .ok (.iload_n 2, 1) := by decide +kernel
theorem dX12_withMemory_51 : decode cX12_withMemory 51 = .ok (.iconst 2, 1) := by decide +kernel
theorem dX12_withMemory_52 : decode cX12_withMemory 52 = .ok (.irem, 1) := by decide +kernel
theorem dX12_withMemory_53 : decode cX12_withMemory 53 = .ok (.iconst 1, 1) := by decide +kernel
theorem dX12_withMemory_54 : decode cX12_withMemory 54 = .ok (.if_icmp .ne 9, 3) := by decide +kernel
theorem dX12_withMemory_57 : decode cX12_withMemory 57 = .ok (.aload_n 0, 1) := by decide +kernel
theorem dX12_withMemory_58 : decode cX12_withMemory 58 = .ok (.bipush 6, 2) := by decide +kernel
theorem dX12_withMemory_60 : decode cX12_withMemory 60 = .ok (.invokevirtual 107, 3) := by decide +kernel
theorem dX12_withMemory_63 : decode cX12_withMemory 63 = .ok (.aload_n 0, 1) := by decide +kernel
theorem dX12_withMemory_64 : decode cX12_withMemory 64 = .ok (.iload_n 3, 1) := by decide +kernel
theorem dX12_withMemory_65 : decode cX12_withMemory 65 = .ok (.iload 4, 2) := by decide +kernel
theorem dX12_withMemory_67 : decode cX12_withMemory 67 = .ok (.ifCond .eq 7, 3) := by decide +kernel
theorem dX12_withMemory_70 : decode cX12_withMemory 70 = .ok (.iconst 2, 1) := by decide +kernel
theorem dX12_withMemory_71 : decode cX12_withMemory 71 = .ok (.goto 4, 3) := by decide +kernel
theorem dX12_withMemory_74 : decode cX12_withMemory 74 = .ok (.iconst 4, 1) := by decide +kernel
theorem dX12_withMemory_75 : decode cX12_withMemory 75 = .ok (.invokevirtual 227, 3) := by decide +kernel
theorem dX12_withMemory_78 : decode cX12_withMemory 78 = .ok (.istore 6, 2) := by decide +kernel
theorem dX12_withMemory_80 : decode cX12_withMemory 80 = .ok (.aload_n 0, 1) := by decide +kernel
theorem dX12_withMemory_81 : decode cX12_withMemory 81 = .ok (.getfield 104, 3) := by decide +kernel
theorem dX12_withMemory_84 : decode cX12_withMemory 84 = .ok (.ifCond .le 4, 3) := by decide +kernel
theorem dX12_withMemory_87 : decode cX12_withMemory 87 = .ok (.return_, 1) := by decide +kernel
theorem dX12_withMemory_88 : decode cX12_withMemory 88 = .ok (.iload 4, 2) := by decide +kernel
theorem dX12_withMemory_90 : decode cX12_withMemory 90 = .ok (.ifCond .eq 28, 3) := by decide +kernel
theorem dX12_withMemory_93 : decode cX12_withMemory 93 = .ok (.iload 5, 2) := by decide +kernel
theorem dX12_withMemory_95 : decode cX12_withMemory 95 = .ok (.bipush 12, 2) := by decide +kernel
theorem dX12_withMemory_97 : decode cX12_withMemory 97 = .ok (.if_icmp .ne 21, 3) := by decide +kernel
theorem dX12_withMemory_100 : decode cX12_withMemory 100 = .ok (.aload_n 0, 1) := by decide +kernel
theorem dX12_withMemory_101 : decode cX12_withMemory 101 = .ok (.getfield 16, 3) := by decide +kernel
theorem dX12_withMemory_104 : decode cX12_withMemory 104 = .ok (.iload_n 2, 1) := by decide +kernel
theorem dX12_withMemory_105 : decode cX12_withMemory 105 = .ok (.aload_n 0, 1) := by decide +kernel
theorem dX12_withMemory_106 : decode cX12_withMemory 106 = .ok (.getfield 16, 3) := by decide +kernel
theorem dX12_withMemory_109 : decode cX12_withMemory 109 = .ok (.iload_n 2, 1) := by decide +kernel
theorem dX12_withMemory_110 : decode cX12_withMemory 110 = .ok (.iaload, 1) := by decide +kernel
theorem dX12_withMemory_111 : decode cX12_withMemory 111 = .ok (.iload 6, 2) := by decide +kernel
theorem dX12_withMemory_113 : decode cX12_withMemory 113 = .ok (.imul, 1) := by decide +kernel
theorem dX12_withMemory_114 : decode cX12_withMemory 114 = .ok (.iastore, 1) := by decide +kernel
theorem dX12_withMemory_115 : decode cX12_withMemory 115 = .ok (.goto 12, 3) := by decide +kernel
theorem dX12_withMemory_118 : decode cX12_withMemory 118 = .ok (.aload_n 0, 1) := by decide +kernel
theorem dX12_withMemory_119 : decode cX12_withMemory 119 = .ok (.iload 5, 2) := by decide +kernel
theorem dX12_withMemory_121 : decode cX12_withMemory 121 = .ok (.iload_n 2, 1) := by decide +kernel
theorem dX12_withMemory_122 : decode cX12_withMemory 122 = .ok (.iload 6, 2) := by decide +kernel
theorem dX12_withMemory_124 : decode cX12_withMemory 124 = .ok (.invokevirtual 197, 3) := by decide +kernel
theorem dX12_withMemory_127 : decode cX12_withMemory 127 = .ok (.return_, 1) := by decide +kernel
theorem dX12_shift_0 : decode cX12_shift 0 = .ok (.iload_n 1, 1) := by decide +kernel
theorem dX12_shift_1 : decode cX12_shift 1 = .ok (.sipush 140, 3) := by decide +kernel
theorem dX12_shift_4 : decode cX12_shift 4 = .ok (.if_icmp .lt 7, 3) := by decide +kernel
theorem dX12_shift_7 : decode cX12_shift 7 = .ok (.iconst 1, 1) := by decide +kernel
theorem dX12_shift_8 : decode cX12_shift 8 = .ok (.goto 4, 3) := by decide +kernel
theorem dX12_shift_11 : decode cX12_shift 11 = .ok (.iconst 0, 1) := by decide +kernel
theorem dX12_shift_12 : decode cX12_shift 12 = .ok (.istore 4, 2) := by decide +kernel
theorem dX12_shift_14 : decode cX12_shift 14 = .ok (.iload 4, 2) := by decide +kernel
theorem dX12_shift_16 : decode cX12_shift 16 = .ok (.ifCond .eq 16, 3) := by decide +kernel
theorem dX12_shift_19 : decode cX12_shift 19 = .ok (.iload_n 2, 1) := by decide +kernel
theorem dX12_shift_20 : decode cX12_shift 20 = .ok (.iconst 2, 1) := by decide +kernel
theorem dX12_shift_21 : decode cX12_shift 21 = .ok (.irem, 1) := by decide +kernel
theorem dX12_shift_22 : decode cX12_shift 22 = .ok (.iconst 1, 1) := by decide +kernel
theorem dX12_shift_23 : decode cX12_shift 23 = .ok (.if_icmp .ne 9, 3) := by decide +kernel
theorem dX12_shift_26 : decode cX12_shift 26 = .ok (.aload_n 0, 1) := by decide +kernel
theorem dX12_shift_27 : decode cX12_shift 27 = .ok (.bipush 6, 2) := by decide +kernel
theorem dX12_shift_29 : decode cX12_shift 29 = .ok (.invokevirtual 107, 3) := by decide +kernel
theorem dX12_shift_32 : decode cX12_shift 32 = .ok (.aload_n 0, 1) := by decide +kernel
theorem dX12_shift_33 : decode cX12_shift 33 = .ok (.getfield 104, 3) := by decide +kernel
theorem dX12_shift_36 : decode cX12_shift 36 = .ok (.ifCond .le 4, 3) := by decide +kernel
theorem dX12_shift_39 : decode cX12_shift 39 = .ok (.return_, 1) := by decide +kernel
theorem dX12_shift_40 : decode cX12_shift 40 = .ok (.iload_n 1, 1) := by decide +kernel
theorem dX12_shift_41 : decode cX12_shift 41 = .ok (.iconst 3, 1) := by decide +kernel
theorem dX12_shift_42 : decode cX12_shift 42 = .ok (.iand, 1) := by decide +kernel
theorem dX12_shift_43 : decode cX12_shift 43 = .ok (.istore 5, 2) := by decide +kernel
theorem dX12_shift_45 : decode cX12_shift 45 = .ok (.iload 5, 2) := by decide +kernel
theorem dX12_shift_47 : decode cX12_shift 47 = .ok (.iconst 1, 1) := by decide +kernel
theorem dX12_shift_48 : decode cX12_shift 48 = .ok (.iand, 1) := by decide +kernel
theorem dX12_shift_49 : decode cX12_shift 49 = .ok (.iconst 1, 1) := by decide +kernel
theorem dX12_shift_50 : decode cX12_shift 50 = .ok (.if_icmp .ne 7, 3) := by decide +kernel
theorem dX12_shift_53 : decode cX12_shift 53 = .ok (.iconst 1, 1) := by decide +kernel
theorem dX12_shift_54 : decode cX12_shift 54 = .ok (.goto 4, 3) := by decide +kernel
theorem dX12_shift_57 : decode cX12_shift 57 = .ok (.iconst 0, 1) := by decide +kernel
theorem dX12_shift_58 : decode cX12_shift 58 = .ok (.istore 6, 2) := by decide +kernel
theorem dX12_shift_60 : decode cX12_shift 60 = .ok (.iload 5, 2) := by decide +kernel
theorem dX12_shift_62 : decode cX12_shift 62 = .ok (.iconst 1, 1) := by decide +kernel
theorem dX12_shift_63 : decode cX12_shift 63 = .ok (.if_icmp .le 7, 3) := by decide +kernel
theorem dX12_shift_66 : decode cX12_shift 66 = .ok (.iconst 1, 1) := by decide +kernel
theorem dX12_shift_67 : decode cX12_shift 67 = .ok (.goto 4, 3) := by decide +kernel
theorem dX12_shift_70 : decode cX12_shift 70 = .ok (.iconst 0, 1) := by decide +kernel
theorem dX12_shift_71 : decode cX12_shift 71 = .ok (.istore 7, 2) := by decide +kernel
theorem dX12_shift_73 : decode cX12_shift 73 = .ok (.iload 4, 2) := by decide +kernel
theorem dX12_shift_75 : decode cX12_shift 75 = .ok (.ifCond .eq 8, 3) := by decide +kernel
theorem dX12_shift_78 : decode cX12_shift 78 = .ok (.bipush 64, 2) := by decide +kernel
theorem dX12_shift_80 : decode cX12_shift 80 = .ok (.goto 5, 3) := by decide +kernel
theorem dX12_shift_83 : decode cX12_shift 83 = .ok (.bipush 32, 2) := by decide +kernel
theorem dX12_shift_85 : decode cX12_shift 85 = .ok (.istore 8, 2) := by decide +kernel
theorem dX12_shift_87 : decode cX12_shift 87 = .ok (.iload 4, 2) := by decide +kernel
theorem dX12_shift_89 : decode cX12_shift 89 = .ok (.ifCond .eq 11, 3) := by decide +kernel
theorem dX12_shift_92 : decode cX12_shift 92 = .ok (.aload_n 0, 1) := by decide +kernel
theorem dX12_shift_93 : decode cX12_shift 93 = .ok (.iload_n 2, 1) := by decide +kernel
theorem dX12_shift_94 : decode cX12_shift 94 = .ok (.invokevirtual 133, 3) := by decide +kernel
theorem dX12_shift_97 : decode cX12_shift 97 = .ok (.goto 12, 3) := by decide +kernel
theorem dX12_shift_100 : decode cX12_shift 100 = .ok (.aload_n 0, 1) := by decide +kernel
theorem dX12_shift_101 : decode cX12_shift 101 = .ok (.getfield 16, 3) := by decide +kernel
theorem dX12_shift_104 : decode cX12_shift 104 = .ok (.iload_n 2, 1) := by decide +kernel
theorem dX12_shift_105 : decode cX12_shift 105 = .ok (.iaload, 1) := by decide +kernel
theorem dX12_shift_106 : decode cX12_shift 106 = .ok (.invokestatic 129, 3) := by decide +kernel
theorem dX12_shift_109 : decode cX12_shift 109 = .ok (.lstore 9, 2) := by decide +kernel
theorem dX12_shift_111 : decode cX12_shift 111 = .ok (.lconst 1, 1) := by decide +kernel
theorem dX12_shift_112 : decode cX12_shift 112 = .ok (.iload 8, 2) := by decide +kernel
theorem dX12_shift_114 : decode cX12_shift 114 = .ok (.iconst 1, 1) := by decide +kernel
theorem dX12_shift_115 : decode cX12_shift 115 = .ok (.isub, 1) := by decide +kernel
theorem dX12_shift_116 : decode cX12_shift 116 = .ok (.lshl, 1) := by decide +kernel
theorem dX12_shift_117 : decode cX12_shift 117 = .ok (.lstore 11, 2) := by decide +kernel
theorem dX12_shift_119 : decode cX12_shift 119 = .ok (.lload 9, 2) := by decide +kernel
theorem dX12_shift_121 : decode cX12_shift 121 = .ok (.lload 11, 2) := by decide +kernel
theorem dX12_shift_123 : decode cX12_shift 123 = .ok (.land, 1) := by decide +kernel
theorem dX12_shift_124 : decode cX12_shift 124 = .ok (.lconst 0, 1) := by decide +kernel
theorem dX12_shift_125 : decode cX12_shift 125 = .ok (.lcmp, 1) := by decide +kernel
theorem dX12_shift_126 : decode cX12_shift 126 = .ok (.ifCond .eq 7, 3) := by decide +kernel
theorem dX12_shift_129 : decode cX12_shift 129 = .ok (.iconst 1, 1) := by decide +kernel
theorem dX12_shift_130 : decode cX12_shift 130 = .ok (.goto 4, 3) := by decide +kernel
theorem dX12_shift_133 : decode cX12_shift 133 = .ok (.iconst 0, 1) := by decide +kernel
theorem dX12_shift_134 : decode cX12_shift 134 = .ok (.istore 13, 2) := by decide +kernel
theorem dX12_shift_136 : decode cX12_shift 136 = .ok (.iconst 0, 1) := by decide +kernel
theorem dX12_shift_137 : decode cX12_shift 137 = .ok (.istore 14, 2) := by decide +kernel
theorem dX12_shift_139 : decode cX12_shift 139 = .ok (.iconst 0, 1) := by decide +kernel
theorem dX12_shift_140 : decode cX12_shift 140 = .ok (.istore 15, 2) := by decide +kernel
theorem dX12_shift_142 : decode cX12_shift 142 = .ok (.iload 15, 2) := by decide +kernel
theorem dX12_shift_144 : decode cX12_shift 144 = .ok (.iload_n 3, 1) := by decide +kernel
theorem dX12_shift_145 : decode cX12_shift 145 = .ok (.if_icmp .ge 136, 3) := by decide +kernel
theorem dX12_shift_148 : decode cX12_shift 148 = .ok (.iload 6, 2) := by decide +kernel
theorem dX12_shift_150 : decode cX12_shift 150 = .ok (.ifCond .eq 72, 3) := by decide +kernel
theorem dX12_shift_153 : decode cX12_shift 153 = .ok (.iload 7, 2) := by decide +kernel
theorem dX12_shift_155 : decode cX12_shift 155 = .ok (.ifCond .eq 67, 3) := by decide +kernel
theorem dX12_shift_158 : decode cX12_shift 158 = .ok (.lload 9, 2) := by decide +kernel
theorem dX12_shift_160 : decode cX12_shift 160 = .ok (.lload 11, 2) := by decide +kernel
theorem dX12_shift_162 : decode cX12_shift 162 = .ok (.iconst 1, 1) := by decide +kernel
theorem dX12_shift_163 : decode cX12_shift 163 = .ok (.lushr, 1) := by decide +kernel
theorem dX12_shift_164 : decode cX12_shift 164 = .ok (.land, 1) := by decide +kernel
theorem dX12_shift_165 : decode cX12_shift 165 = .ok (.lconst 0, 1) := by decide +kernel
theorem dX12_shift_166 : decode cX12_shift 166 = .ok (.lcmp, 1) := by decide +kernel
theorem dX12_shift_167 : decode cX12_shift 167 = .ok (.ifCond .eq 7, 3) := by decide +kernel
theorem dX12_shift_170 : decode cX12_shift 170 = .ok (.iconst 1, 1) := by decide +kernel
theorem dX12_shift_171 : decode cX12_shift 171 = .ok (.goto 4, 3) := by decide +kernel
theorem dX12_shift_174 : decode cX12_shift 174 = .ok (.iconst 0, 1) := by decide +kernel
theorem dX12_shift_175 : decode cX12_shift 175 = .ok (.istore 16, 2) := by decide +kernel
theorem dX12_shift_177 : decode cX12_shift 177 = .ok (.iload 14, 2) := by decide +kernel
theorem dX12_shift_179 : decode cX12_shift 179 = .ok (.ifCond .ne 10, 3) := by decide +kernel
theorem dX12_shift_182 : decode cX12_shift 182 = .ok (.iload 16, 2) := by decide +kernel
theorem dX12_shift_184 : decode cX12_shift 184 = .ok (.iload 13, 2) := by decide +kernel
theorem dX12_shift_186 : decode cX12_shift 186 = .ok (.if_icmp .eq 7, 3) := by decide +kernel
theorem dX12_shift_189 : decode cX12_shift 189 = .ok (.iconst 1, 1) := by decide +kernel
theorem dX12_shift_190 : decode cX12_shift 190 = .ok (.goto 4, 3) := by decide +kernel
theorem dX12_shift_193 : decode cX12_shift 193 = .ok (.iconst 0, 1) := by decide +kernel
theorem dX12_shift_194 : decode cX12_shift 194 = .ok (.istore 14, 2) := by decide +kernel
theorem dX12_shift_196 : decode cX12_shift 196 = .ok (.lload 9, 2) := by decide +kernel
theorem dX12_shift_198 : decode cX12_shift 198 = .ok (.iconst 1, 1) := by decide +kernel
theorem dX12_shift_199 : decode cX12_shift 199 = .ok (.lshl, 1) := by decide +kernel
theorem dX12_shift_200 : decode cX12_shift 200 = .ok (.lload 11, 2) := by decide +kernel
theorem dX12_shift_202 : decode cX12_shift 202 = .ok (.lconst 1, 1) := by decide +kernel
theorem dX12_shift_203 : decode cX12_shift 203 = .ok (.lsub, 1) := by decide +kernel
theorem dX12_shift_204 : decode cX12_shift 204 = .ok (.land, 1) := by decide +kernel
theorem dX12_shift_205 : decode cX12_shift 205 = .ok (.iload 13, 2) := by decide +kernel
theorem dX12_shift_207 : decode cX12_shift 207 = .ok (.ifCond .eq 8, 3) := by decide +kernel
theorem dX12_shift_210 : decode cX12_shift 210 = .ok (.lload 11, 2) := by decide +kernel
theorem dX12_shift_212 : decode cX12_shift 212 = .ok (.goto 4, 3) := by decide +kernel
theorem dX12_shift_215 : decode cX12_shift 215 = .ok (.lconst 0, 1) := by decide +kernel
theorem dX12_shift_216 : decode cX12_shift 216 = .ok (.lor, 1) := by decide +kernel
theorem dX12_shift_217 : decode cX12_shift 217 = .ok (.lstore 9, 2) := by decide +kernel
theorem dX12_shift_219 : decode cX12_shift 219 = .ok (.goto 56, 3) := by decide +kernel
theorem dX12_shift_222 : decode cX12_shift 222 = .ok (.iload 6, 2) := by decide +kernel
theorem dX12_shift_224 : decode cX12_shift 224 = .ok (.ifCond .eq 28, 3) := by decide +kernel
theorem dX12_shift_227 : decode cX12_shift 227 = .ok (.iload 4, 2) := by decide +kernel
theorem dX12_shift_229 : decode cX12_shift 229 = .ok (.ifCond .eq 10, 3) := by decide +kernel
theorem dX12_shift_232 : decode cX12_shift 232 = .ok (.lload 9, 2) := by decide +kernel
theorem dX12_shift_234 : decode cX12_shift 234 = .ok (.iconst 1, 1) := by decide +kernel
theorem dX12_shift_235 : decode cX12_shift 235 = .ok (.lshl, 1) := by decide +kernel
theorem dX12_shift_236 : decode cX12_shift 236 = .ok (.goto 11, 3) := by decide +kernel
theorem dX12_shift_239 : decode cX12_shift 239 = .ok (.lload 9, 2) := by decide +kernel
theorem dX12_shift_241 : decode cX12_shift 241 = .ok (.iconst 1, 1) := by decide +kernel
theorem dX12_shift_242 : decode cX12_shift 242 = .ok (.lshl, 1) := by decide +kernel
theorem dX12_shift_243 : decode cX12_shift 243 = .ok (.ldc2_w 78, 3) := by decide +kernel
theorem dX12_shift_246 : decode cX12_shift 246 = .ok (.land, 1) := by decide +kernel
theorem dX12_shift_247 : decode cX12_shift 247 = .ok (.lstore 9, 2) := by decide +kernel
theorem dX12_shift_249 : decode cX12_shift 249 = .ok (.goto 26, 3) := by decide +kernel
theorem dX12_shift_252 : decode cX12_shift 252 = .ok (.lload 9, 2) := by decide +kernel
theorem dX12_shift_254 : decode cX12_shift 254 = .ok (.iconst 1, 1) := by decide +kernel
theorem dX12_shift_255 : decode cX12_shift 255 = .ok (.lushr, 1) := by decide +kernel
theorem dX12_shift_256 : decode cX12_shift 256 = .ok (.iload 7, 2) := by decide +kernel
theorem dX12_shift_258 : decode cX12_shift 258 = .ok (.ifCond .eq 13, 3) := by decide +kernel
theorem dX12_shift_261 : decode cX12_shift 261 = .ok (.iload 13, 2) := by decide +kernel
theorem dX12_shift_263 : decode cX12_shift 263 = .ok (.ifCond .eq 8, 3) := by decide +kernel
theorem dX12_shift_266 : decode cX12_shift 266 = .ok (.lload 11, 2) := by decide +kernel
theorem dX12_shift_268 : decode cX12_shift 268 = .ok (.goto 4, 3) := by decide +kernel
theorem dX12_shift_271 : decode cX12_shift 271 = .ok (.lconst 0, 1) := by decide +kernel
theorem dX12_shift_272 : decode cX12_shift 272 = .ok (.lor, 1) := by decide +kernel
theorem dX12_shift_273 : decode cX12_shift 273 = .ok (.lstore 9, 2) := by decide +kernel
theorem dX12_shift_275 : decode cX12_shift 275 = .ok (.iinc 15 1, 3) := by decide +kernel
theorem dX12_shift_278 : decode cX12_shift 278 = .ok (.goto (-136), 3) := by decide +kernel
theorem dX12_shift_281 : decode cX12_shift 281 = .ok (.iload 4, 2) := by decide +kernel
theorem dX12_shift_283 : decode cX12_shift 283 = .ok (.ifCond .eq 29, 3) := by decide +kernel
theorem dX12_shift_286 : decode cX12_shift 286 = .ok (.aload_n 0, 1) := by decide +kernel
theorem dX12_shift_287 : decode cX12_shift 287 = .ok (.getfield 16, 3) := by decide +kernel
theorem dX12_shift_290 : decode cX12_shift 290 = .ok (.iload_n 2, 1) := by decide +kernel
theorem dX12_shift_291 : decode cX12_shift 291 = .ok (.lload 9, 2) := by decide +kernel
theorem dX12_shift_293 : decode cX12_shift 293 = .ok (.bipush 32, 2) := by decide +kernel
theorem dX12_shift_295 : decode cX12_shift 295 = .ok (.lshr, 1) := by decide +kernel
theorem dX12_shift_296 : decode cX12_shift 296 = .ok (.l2i, 1) := by decide +kernel
theorem dX12_shift_297 : decode cX12_shift 297 = .ok (.iastore, 1) := by decide +kernel
theorem dX12_shift_298 : decode cX12_shift 298 = .ok (.aload_n 0, 1) := by decide +kernel
theorem dX12_shift_299 : decode cX12_shift 299 = .ok (.getfield 16, 3) := by decide +kernel
theorem dX12_shift_302 : decode cX12_shift 302 = .ok (.iload_n 2, 1) := by decide +kernel
theorem dX12_shift_303 : decode cX12_shift 303 = .ok (.iconst 1, 1) := by decide +kernel
theorem dX12_shift_304 : decode cX12_shift 304 = .ok (.iadd, 1) := by decide +kernel
theorem dX12_shift_305 : decode cX12_shift 305 = .ok (.lload 9, 2) := by decide +kernel
theorem dX12_shift_307 : decode cX12_shift 307 = .ok (.l2i, 1) := by decide +kernel
theorem dX12_shift_308 : decode cX12_shift 308 = .ok (.iastore, 1) := by decide +kernel
theorem dX12_shift_309 : decode cX12_shift 309 = .ok (.goto 12, 3) := by decide +kernel
theorem dX12_shift_312 : decode cX12_shift 312 = .ok (.aload_n 0, 1) := by decide +kernel
theorem dX12_shift_313 : decode cX12_shift 313 = .ok (.getfield 16, 3) := by decide +kernel
theorem dX12_shift_316 : decode cX12_shift 316 = .ok (.iload_n 2, 1) := by decide +kernel
theorem dX12_shift_317 : decode cX12_shift 317 = .ok (.lload 9, 2) := by decide +kernel
theorem dX12_shift_319 : decode cX12_shift 319 = .ok (.l2i, 1) := by decide +kernel
theorem dX12_shift_320 : decode cX12_shift 320 = .ok (.iastore, 1) := by decide +kernel
theorem dX12_shift_321 : decode cX12_shift 321 = .ok (.iload 7, 2) := by decide +kernel
theorem dX12_shift_323 : decode cX12_shift 323 = .ok (.ifCond .eq 76, 3) := by decide +kernel
theorem dX12_shift_326 : decode cX12_shift 326 = .ok (.iload 4, 2) := by decide +kernel
theorem dX12_shift_328 : decode cX12_shift 328 = .ok (.ifCond .eq 8, 3) := by decide +kernel
theorem dX12_shift_331 : decode cX12_shift 331 = .ok (.lload 9, 2) := by decide +kernel
theorem dX12_shift_333 : decode cX12_shift 333 = .ok (.goto 7, 3) := by decide +kernel
theorem dX12_shift_336 : decode cX12_shift 336 = .ok (.lload 9, 2) := by decide +kernel
theorem dX12_shift_338 : decode cX12_shift 338 = .ok (.l2i, 1) := by decide +kernel
theorem dX12_shift_339 : decode cX12_shift 339 = .ok (.i2l, 1) := by decide +kernel
theorem dX12_shift_340 : decode cX12_shift 340 = .ok (.lstore 15, 2) := by decide +kernel
theorem dX12_shift_342 : decode cX12_shift 342 = .ok (.aload_n 0, 1) := by decide +kernel
theorem dX12_shift_343 : decode cX12_shift 343 = .ok (.iload 14, 2) := by decide +kernel
theorem dX12_shift_345 : decode cX12_shift 345 = .ok (.ifCond .eq 7, 3) := by decide +kernel
theorem dX12_shift_348 : decode cX12_shift 348 = .ok (.iconst 3, 1) := by decide +kernel
theorem dX12_shift_349 : decode cX12_shift 349 = .ok (.goto 26, 3) := by decide +kernel
theorem dX12_shift_352 : decode cX12_shift 352 = .ok (.lload 15, 2) := by decide +kernel
theorem dX12_shift_354 : decode cX12_shift 354 = .ok (.lconst 0, 1) := by decide +kernel
theorem dX12_shift_355 : decode cX12_shift 355 = .ok (.lcmp, 1) := by decide +kernel
theorem dX12_shift_356 : decode cX12_shift 356 = .ok (.ifCond .ne 7, 3) := by decide +kernel
theorem dX12_shift_359 : decode cX12_shift 359 = .ok (.iconst 0, 1) := by decide +kernel
theorem dX12_shift_360 : decode cX12_shift 360 = .ok (.goto 15, 3) := by decide +kernel
theorem dX12_shift_363 : decode cX12_shift 363 = .ok (.lload 15, 2) := by decide +kernel
theorem dX12_shift_365 : decode cX12_shift 365 = .ok (.lconst 0, 1) := by decide +kernel
theorem dX12_shift_366 : decode cX12_shift 366 = .ok (.lcmp, 1) := by decide +kernel
theorem dX12_shift_367 : decode cX12_shift 367 = .ok (.ifCond .ge 7, 3) := by decide +kernel
theorem dX12_shift_370 : decode cX12_shift 370 = .ok (.iconst 1, 1) := by decide +kernel
theorem dX12_shift_371 : decode cX12_shift 371 = .ok (.goto 4, 3) := by decide +kernel
theorem dX12_shift_374 : decode cX12_shift 374 = .ok (.iconst 2, 1) := by decide +kernel
theorem dX12_shift_375 : decode cX12_shift 375 = .ok (.putfield 47, 3) := by decide +kernel
theorem dX12_shift_378 : decode cX12_shift 378 = .ok (.iload 14, 2) := by decide +kernel
theorem dX12_shift_380 : decode cX12_shift 380 = .ok (.ifCond .eq 19, 3) := by decide +kernel
theorem dX12_shift_383 : decode cX12_shift 383 = .ok (.aload_n 0, 1) := by decide +kernel
theorem dX12_shift_384 : decode cX12_shift 384 = .ok (.getfield 50, 3) := by decide +kernel
theorem dX12_shift_387 : decode cX12_shift 387 = .ok (.bipush 8, 2) := by decide +kernel
theorem dX12_shift_389 : decode cX12_shift 389 = .ok (.iand, 1) := by decide +kernel
theorem dX12_shift_390 : decode cX12_shift 390 = .ok (.ifCond .eq 9, 3) := by decide +kernel
theorem dX12_shift_393 : decode cX12_shift 393 = .ok (.aload_n 0, 1) := by decide +kernel
theorem dX12_shift_394 : decode cX12_shift 394 = .ok (.bipush 8, 2) := by decide +kernel
theorem dX12_shift_396 : decode cX12_shift 396 = .ok (.putfield 115, 3) := by decide +kernel
theorem dX12_shift_399 : decode cX12_shift 399 = .ok (.return_, 1) := by decide +kernel
theorem dX12_loop_0 : decode cX12_loop 0 = .ok (.aload_n 0, 1) := by decide +kernel
theorem dX12_loop_1 : decode cX12_loop 1 = .ok (.getfield 16, 3) := by decide +kernel
theorem dX12_loop_4 : decode cX12_loop 4 = .ok (.iload_n 3, 1) := by decide +kernel
theorem dX12_loop_5 : decode cX12_loop 5 = .ok (.iaload, 1) := by decide +kernel
theorem dX12_loop_6 : decode cX12_loop 6 = .ok (.istore 5, 2) := by decide +kernel
theorem dX12_loop_8 : decode cX12_loop 8 = .ok (.iload_n 3, 1) := by decide +kernel
theorem dX12_loop_9 : decode cX12_loop 9 = .ok (.iconst 2, 1) := by decide +kernel
theorem dX12_loop_10 : decode cX12_loop 10 = .ok (.irem, 1) := by decide +kernel
theorem dX12_loop_11 : decode cX12_loop 11 = .ok (.iconst 1, 1) := by decide +kernel
theorem dX12_loop_12 : decode cX12_loop 12 = .ok (.if_icmp .ne 8, 3) := by decide +kernel
theorem dX12_loop_15 : decode cX12_loop 15 = .ok (.iload 5, 2) := by decide +kernel
theorem dX12_loop_17 : decode cX12_loop 17 = .ok (.goto 11, 3) := by decide +kernel
theorem dX12_loop_20 : decode cX12_loop 20 = .ok (.aload_n 0, 1) := by decide +kernel
theorem dX12_loop_21 : decode cX12_loop 21 = .ok (.getfield 16, 3) := by decide +kernel
theorem dX12_loop_24 : decode cX12_loop 24 = .ok (.iload_n 3, 1) := by decide +kernel
theorem dX12_loop_25 : decode cX12_loop 25 = .ok (.iconst 1, 1) := by decide +kernel
theorem dX12_loop_26 : decode cX12_loop 26 = .ok (.iadd, 1) := by decide +kernel
theorem dX12_loop_27 : decode cX12_loop 27 = .ok (.iaload, 1) := by decide +kernel
theorem dX12_loop_28 : decode cX12_loop 28 = .ok (.istore 6, 2) := by decide +kernel
theorem dX12_loop_30 : decode cX12_loop 30 = .ok (.aload_n 0, 1) := by decide +kernel
theorem dX12_loop_31 : decode cX12_loop 31 = .ok (.getfield 16, 3) := by decide +kernel
theorem dX12_loop_34 : decode cX12_loop 34 = .ok (.iload_n 2, 1) := by decide +kernel
theorem dX12_loop_35 : decode cX12_loop 35 = .ok (.aload_n 0, 1) := by decide +kernel
theorem dX12_loop_36 : decode cX12_loop 36 = .ok (.getfield 16, 3) := by decide +kernel
theorem dX12_loop_39 : decode cX12_loop 39 = .ok (.iload_n 2, 1) := by decide +kernel
theorem dX12_loop_40 : decode cX12_loop 40 = .ok (.iaload, 1) := by decide +kernel
theorem dX12_loop_41 : decode cX12_loop 41 = .ok (.iload 5, 2) := by decide +kernel
theorem dX12_loop_43 : decode cX12_loop 43 = .ok (.iadd, 1) := by decide +kernel
theorem dX12_loop_44 : decode cX12_loop 44 = .ok (.iastore, 1) := by decide +kernel
theorem dX12_loop_45 : decode cX12_loop 45 = .ok (.iload_n 1, 1) := by decide +kernel
theorem dX12_loop_46 : decode cX12_loop 46 = .ok (.sipush 134, 3) := by decide +kernel
theorem dX12_loop_49 : decode cX12_loop 49 = .ok (.if_icmp .ne 7, 3) := by decide +kernel
theorem dX12_loop_52 : decode cX12_loop 52 = .ok (.iconst 1, 1) := by decide +kernel
theorem dX12_loop_53 : decode cX12_loop 53 = .ok (.goto 4, 3) := by decide +kernel
theorem dX12_loop_56 : decode cX12_loop 56 = .ok (.iconst 0, 1) := by decide +kernel
theorem dX12_loop_57 : decode cX12_loop 57 = .ok (.aload_n 0, 1) := by decide +kernel
theorem dX12_loop_58 : decode cX12_loop 58 = .ok (.getfield 16, 3) := by decide +kernel
theorem dX12_loop_61 : decode cX12_loop 61 = .ok (.iload_n 2, 1) := by decide +kernel
theorem dX12_loop_62 : decode cX12_loop 62 = .ok (.iaload, 1) := by decide +kernel
theorem dX12_loop_63 : decode cX12_loop 63 = .ok (.iload 6, 2) := by decide +kernel
theorem dX12_loop_65 : decode cX12_loop 65 = .ok (.if_icmp .le 7, 3) := by decide +kernel
theorem dX12_loop_68 : decode cX12_loop 68 = .ok (.iconst 1, 1) := by decide +kernel
theorem dX12_loop_69 : decode cX12_loop 69 = .ok (.goto 4, 3) := by decide +kernel
theorem dX12_loop_72 : decode cX12_loop 72 = .ok (.iconst 0, 1) := by decide +kernel
theorem dX12_loop_73 : decode cX12_loop 73 = .ok (.if_icmp .ne 9, 3) := by decide +kernel
theorem dX12_loop_76 : decode cX12_loop 76 = .ok (.aload_n 0, 1) := by decide +kernel
theorem dX12_loop_77 : decode cX12_loop 77 = .ok (.iload 4, 2) := by decide +kernel
theorem dX12_loop_79 : decode cX12_loop 79 = .ok (.invokevirtual 188, 3) := by decide +kernel
theorem dX12_loop_82 : decode cX12_loop 82 = .ok (.return_, 1) := by decide +kernel
theorem dX12_many_0 : decode cX12_many 0 = .ok (.iload_n 2, 1) := by decide +kernel
theorem dX12_many_1 : decode cX12_many 1 = .ok (.iload_n 1, 1) := by decide +kernel
theorem dX12_many_2 : decode cX12_many 2 = .ok (.isub, 1) := by decide +kernel
theorem dX12_many_3 : decode cX12_many 3 = .ok (.bipush 15, 2) := by decide +kernel
theorem dX12_many_5 : decode cX12_many 5 = .ok (.iand, 1) := by decide +kernel
theorem dX12_many_6 : decode cX12_many 6 = .ok (.iconst 1, 1) := by decide +kernel
theorem dX12_many_7 : decode cX12_many 7 = .ok (.iadd, 1) := by decide +kernel
theorem dX12_many_8 : decode cX12_many 8 = .ok (.istore 5, 2) := by decide +kernel
theorem dX12_many_10 : decode cX12_many 10 = .ok (.aload_n 0, 1) := by decide +kernel
theorem dX12_many_11 : decode cX12_many 11 = .ok (.iload_n 3, 1) := by decide +kernel
theorem dX12_many_12 : decode cX12_many 12 = .ok (.iconst 4, 1) := by decide +kernel
theorem dX12_many_13 : decode cX12_many 13 = .ok (.iload 5, 2) := by decide +kernel
theorem dX12_many_15 : decode cX12_many 15 = .ok (.imul, 1) := by decide +kernel
theorem dX12_many_16 : decode cX12_many 16 = .ok (.iload 4, 2) := by decide +kernel
theorem dX12_many_18 : decode cX12_many 18 = .ok (.invokevirtual 121, 3) := by decide +kernel
theorem dX12_many_21 : decode cX12_many 21 = .ok (.aload_n 0, 1) := by decide +kernel
theorem dX12_many_22 : decode cX12_many 22 = .ok (.iload_n 3, 1) := by decide +kernel
theorem dX12_many_23 : decode cX12_many 23 = .ok (.iconst 4, 1) := by decide +kernel
theorem dX12_many_24 : decode cX12_many 24 = .ok (.invokevirtual 125, 3) := by decide +kernel
theorem dX12_many_27 : decode cX12_many 27 = .ok (.iconst 0, 1) := by decide +kernel
theorem dX12_many_28 : decode cX12_many 28 = .ok (.istore 6, 2) := by decide +kernel
theorem dX12_many_30 : decode cX12_many 30 = .ok (.iload 6, 2) := by decide +kernel
theorem dX12_many_32 : decode cX12_many 32 = .ok (.iload 5, 2) := by decide +kernel
theorem dX12_many_34 : decode cX12_many 34 = .ok (.if_icmp .ge 72, 3) := by decide +kernel
theorem dX12_many_37 : decode cX12_many 37 = .ok (.aload_n 0, 1) := by decide +kernel
theorem dX12_many_38 : decode cX12_many 38 = .ok (.getfield 104, 3) := by decide +kernel
theorem dX12_many_41 : decode cX12_many 41 = .ok (.ifCond .ne 65, 3) := by decide +kernel
theorem dX12_many_44 : decode cX12_many 44 = .ok (.iload 4, 2) := by decide +kernel
theorem dX12_many_46 : decode cX12_many 46 = .ok (.ifCond .eq 30, 3) := by decide +kernel
theorem dX12_many_49 : decode cX12_many 49 = .ok (.aload_n 0, 1) := by decide +kernel
theorem dX12_many_50 : decode cX12_many 50 = .ok (.iload_n 3, 1) := by decide +kernel
theorem dX12_many_51 : decode cX12_many 51 = .ok (.iconst 4, 1) := by decide +kernel
theorem dX12_many_52 : decode cX12_many 52 = .ok (.iload 6, 2) := by decide +kernel
theorem dX12_many_54 : decode cX12_many 54 = .ok (.imul, 1) := by decide +kernel
theorem dX12_many_55 : decode cX12_many 55 = .ok (.iadd, 1) := by decide +kernel
theorem dX12_many_56 : decode cX12_many 56 = .ok (.aload_n 0, 1) := by decide +kernel
theorem dX12_many_57 : decode cX12_many 57 = .ok (.getfield 16, 3) := by decide +kernel
theorem dX12_many_60 : decode cX12_many 60 = .ok (.iload_n 1, 1) := by decide +kernel
theorem dX12_many_61 : decode cX12_many 61 = .ok (.iload 6, 2) := by decide +kernel
theorem dX12_many_63 : decode cX12_many 63 = .ok (.iadd, 1) := by decide +kernel
theorem dX12_many_64 : decode cX12_many 64 = .ok (.bipush 15, 2) := by decide +kernel
theorem dX12_many_66 : decode cX12_many 66 = .ok (.iand, 1) := by decide +kernel
theorem dX12_many_67 : decode cX12_many 67 = .ok (.iaload, 1) := by decide +kernel
theorem dX12_many_68 : decode cX12_many 68 = .ok (.i2l, 1) := by decide +kernel
theorem dX12_many_69 : decode cX12_many 69 = .ok (.iconst 4, 1) := by decide +kernel
theorem dX12_many_70 : decode cX12_many 70 = .ok (.invokevirtual 96, 3) := by decide +kernel
theorem dX12_many_73 : decode cX12_many 73 = .ok (.goto 27, 3) := by decide +kernel
theorem dX12_many_76 : decode cX12_many 76 = .ok (.aload_n 0, 1) := by decide +kernel
theorem dX12_many_77 : decode cX12_many 77 = .ok (.getfield 16, 3) := by decide +kernel
theorem dX12_many_80 : decode cX12_many 80 = .ok (.iload_n 1, 1) := by decide +kernel
theorem dX12_many_81 : decode cX12_many 81 = .ok (.iload 6, 2) := by decide +kernel
theorem dX12_many_83 : decode cX12_many 83 = .ok (.iadd, 1) := by decide +kernel
theorem dX12_many_84 : decode cX12_many 84 = .ok (.bipush 15, 2) := by decide +kernel
theorem dX12_many_86 : decode cX12_many 86 = .ok (.iand, 1) := by decide +kernel
theorem dX12_many_87 : decode cX12_many 87 = .ok (.aload_n 0, 1) := by decide +kernel
theorem dX12_many_88 : decode cX12_many 88 = .ok (.iload_n 3, 1) := by decide +kernel
theorem dX12_many_89 : decode cX12_many 89 = .ok (.iconst 4, 1) := by decide +kernel
theorem dX12_many_90 : decode cX12_many 90 = .ok (.iload 6, 2) := by decide +kernel
theorem dX12_many_92 : decode cX12_many 92 = .ok (.imul, 1) := by decide +kernel
theorem dX12_many_93 : decode cX12_many 93 = .ok (.iadd, 1) := by decide +kernel
theorem dX12_many_94 : decode cX12_many 94 = .ok (.iconst 4, 1) := by decide +kernel
theorem dX12_many_95 : decode cX12_many 95 = .ok (.invokevirtual 100, 3) := by decide +kernel
theorem dX12_many_98 : decode cX12_many 98 = .ok (.l2i, 1) := by decide +kernel
theorem dX12_many_99 : decode cX12_many 99 = .ok (.iastore, 1) := by decide +kernel
theorem dX12_many_100 : decode cX12_many 100 = .ok (.iinc 6 1, 3) := by decide +kernel
theorem dX12_many_103 : decode cX12_many 103 = .ok (.goto (-73), 3) := by decide +kernel
theorem dX12_many_106 : decode cX12_many 106 = .ok (.return_, 1) := by decide +kernel
theorem dX12_withByte_0 : decode cX12_withByte 0 = .ok (.iload_n 1, 1) := by decide +kernel
theorem dX12_withByte_1 : decode cX12_withByte 1 = .ok (.sipush 145, 3) := by decide +kernel
theorem dX12_withByte_4 : decode cX12_withByte 4 = .ok (.if_icmp .eq 14, 3) := by decide +kernel
theorem dX12_withByte_7 : decode cX12_withByte 7 = .ok (.iload_n 1, 1) := by decide +kernel
theorem dX12_withByte_8 : decode cX12_withByte 8 = .ok (.sipush 149, 3) := by decide +kernel
theorem dX12_withByte_11 : decode cX12_withByte 11 = .ok (.if_icmp .eq 7, 3) := by decide +kernel
theorem dX12_withByte_14 : decode cX12_withByte 14 = .ok (.iconst 1, 1) := by decide +kernel
theorem dX12_withByte_15 : decode cX12_withByte 15 = .ok (.goto 4, 3) := by decide +kernel
theorem dX12_withByte_18 : decode cX12_withByte 18 = .ok (.iconst 0, 1) := by decide +kernel
theorem dX12_withByte_19 : decode cX12_withByte 19 = .ok (.istore 4, 2) := by decide +kernel
theorem dX12_withByte_21 : decode cX12_withByte 21 = .ok (.aload_n 0, 1) := by decide +kernel
theorem dX12_withByte_22 : decode cX12_withByte 22 = .ok (.iload_n 3, 1) := by decide +kernel
theorem dX12_withByte_23 : decode cX12_withByte 23 = .ok (.iconst 1, 1) := by decide +kernel
theorem dX12_withByte_24 : decode cX12_withByte 24 = .ok (.iload 4, 2) := by decide +kernel
theorem dX12_withByte_26 : decode cX12_withByte 26 = .ok (.invokevirtual 121, 3) := by decide +kernel
theorem dX12_withByte_29 : decode cX12_withByte 29 = .ok (.aload_n 0, 1) := by decide +kernel
theorem dX12_withByte_30 : decode cX12_withByte 30 = .ok (.getfield 104, 3) := by decide +kernel
theorem dX12_withByte_33 : decode cX12_withByte 33 = .ok (.ifCond .le 4, 3) := by decide +kernel
theorem dX12_withByte_36 : decode cX12_withByte 36 = .ok (.return_, 1) := by decide +kernel
theorem dX12_withByte_37 : decode cX12_withByte 37 = .ok (.aload_n 0, 1) := by decide +kernel
theorem dX12_withByte_38 : decode cX12_withByte 38 = .ok (.getfield 7, 3) := by decide +kernel
theorem dX12_withByte_41 : decode cX12_withByte 41 = .ok (.iload_n 3, 1) := by decide +kernel
theorem dX12_withByte_42 : decode cX12_withByte 42 = .ok (.iaload, 1) := by decide +kernel
theorem dX12_withByte_43 : decode cX12_withByte 43 = .ok (.istore 5, 2) := by decide +kernel
theorem dX12_withByte_45 : decode cX12_withByte 45 = .ok (.iload_n 1, 1) := by decide +kernel
theorem dX12_withByte_46 : decode cX12_withByte 46 = .ok (.tableswitch 113 145 149 #[34, 67, 77, 113, 98], 34) := by decide +kernel
theorem dX12_withByte_80 : decode cX12_withByte 80 = .ok (.iload 5, 2) := by decide +kernel
theorem dX12_withByte_82 : decode cX12_withByte 82 = .ok (.iload_n 2, 1) := by decide +kernel
theorem dX12_withByte_83 : decode cX12_withByte 83 = .ok (.iand, 1) := by decide +kernel
theorem dX12_withByte_84 : decode cX12_withByte 84 = .ok (.istore 6, 2) := by decide +kernel
theorem dX12_withByte_86 : decode cX12_withByte 86 = .ok (.aload_n 0, 1) := by decide +kernel
theorem dX12_withByte_87 : decode cX12_withByte 87 = .ok (.iload 6, 2) := by decide +kernel
theorem dX12_withByte_89 : decode cX12_withByte 89 = .ok (.ifCond .ne 7, 3) := by decide +kernel
theorem dX12_withByte_92 : decode cX12_withByte 92 = .ok (.iconst 0, 1) := by decide +kernel
theorem dX12_withByte_93 : decode cX12_withByte 93 = .ok (.goto 14, 3) := by decide +kernel
theorem dX12_withByte_96 : decode cX12_withByte 96 = .ok (.iload 6, 2) := by decide +kernel
theorem dX12_withByte_98 : decode cX12_withByte 98 = .ok (.iload_n 2, 1) := by decide +kernel
theorem dX12_withByte_99 : decode cX12_withByte 99 = .ok (.if_icmp .ne 7, 3) := by decide +kernel
theorem dX12_withByte_102 : decode cX12_withByte 102 = .ok (.iconst 3, 1) := by decide +kernel
theorem dX12_withByte_103 : decode cX12_withByte 103 = .ok (.goto 4, 3) := by decide +kernel
theorem dX12_withByte_106 : decode cX12_withByte 106 = .ok (.iconst 1, 1) := by decide +kernel
theorem dX12_withByte_107 : decode cX12_withByte 107 = .ok (.putfield 47, 3) := by decide +kernel
theorem dX12_withByte_110 : decode cX12_withByte 110 = .ok (.goto 105, 3) := by decide +kernel
theorem dX12_withByte_113 : decode cX12_withByte 113 = .ok (.aload_n 0, 1) := by decide +kernel
theorem dX12_withByte_114 : decode cX12_withByte 114 = .ok (.getfield 7, 3) := by decide +kernel
theorem dX12_withByte_117 : decode cX12_withByte 117 = .ok (.iload_n 3, 1) := by decide +kernel
theorem dX12_withByte_118 : decode cX12_withByte 118 = .ok (.iload_n 2, 1) := by decide +kernel
theorem dX12_withByte_119 : decode cX12_withByte 119 = .ok (.iastore, 1) := by decide +kernel
theorem dX12_withByte_120 : decode cX12_withByte 120 = .ok (.goto 95, 3) := by decide +kernel
theorem dX12_withByte_123 : decode cX12_withByte 123 = .ok (.aload_n 0, 1) := by decide +kernel
theorem dX12_withByte_124 : decode cX12_withByte 124 = .ok (.iload 5, 2) := by decide +kernel
theorem dX12_withByte_126 : decode cX12_withByte 126 = .ok (.bipush 7, 2) := by decide +kernel
theorem dX12_withByte_128 : decode cX12_withByte 128 = .ok (.ishr, 1) := by decide +kernel
theorem dX12_withByte_129 : decode cX12_withByte 129 = .ok (.putfield 47, 3) := by decide +kernel
theorem dX12_withByte_132 : decode cX12_withByte 132 = .ok (.aload_n 0, 1) := by decide +kernel
theorem dX12_withByte_133 : decode cX12_withByte 133 = .ok (.getfield 7, 3) := by decide +kernel
theorem dX12_withByte_136 : decode cX12_withByte 136 = .ok (.iload_n 3, 1) := by decide +kernel
theorem dX12_withByte_137 : decode cX12_withByte 137 = .ok (.sipush 255, 3) := by decide +kernel
theorem dX12_withByte_140 : decode cX12_withByte 140 = .ok (.iastore, 1) := by decide +kernel
theorem dX12_withByte_141 : decode cX12_withByte 141 = .ok (.goto 74, 3) := by decide +kernel
theorem dX12_withByte_144 : decode cX12_withByte 144 = .ok (.aload_n 0, 1) := by decide +kernel
theorem dX12_withByte_145 : decode cX12_withByte 145 = .ok (.iload 5, 2) := by decide +kernel
theorem dX12_withByte_147 : decode cX12_withByte 147 = .ok (.i2l, 1) := by decide +kernel
theorem dX12_withByte_148 : decode cX12_withByte 148 = .ok (.iload_n 2, 1) := by decide +kernel
theorem dX12_withByte_149 : decode cX12_withByte 149 = .ok (.i2l, 1) := by decide +kernel
theorem dX12_withByte_150 : decode cX12_withByte 150 = .ok (.invokestatic 150, 3) := by decide +kernel
theorem dX12_withByte_153 : decode cX12_withByte 153 = .ok (.putfield 47, 3) := by decide +kernel
theorem dX12_withByte_156 : decode cX12_withByte 156 = .ok (.goto 59, 3) := by decide +kernel
theorem dX12_withByte_159 : decode cX12_withByte 159 = .ok (.aload_n 0, 1) := by decide +kernel
theorem dX12_withByte_160 : decode cX12_withByte 160 = .ok (.getfield 7, 3) := by decide +kernel
theorem dX12_withByte_163 : decode cX12_withByte 163 = .ok (.iload_n 3, 1) := by decide +kernel
theorem dX12_withByte_164 : decode cX12_withByte 164 = .ok (.iload_n 1, 1) := by decide +kernel
theorem dX12_withByte_165 : decode cX12_withByte 165 = .ok (.sipush 148, 3) := by decide +kernel
theorem dX12_withByte_168 : decode cX12_withByte 168 = .ok (.if_icmp .ne 10, 3) := by decide +kernel
theorem dX12_withByte_171 : decode cX12_withByte 171 = .ok (.iload 5, 2) := by decide +kernel
theorem dX12_withByte_173 : decode cX12_withByte 173 = .ok (.iload_n 2, 1) := by decide +kernel
theorem dX12_withByte_174 : decode cX12_withByte 174 = .ok (.iand, 1) := by decide +kernel
theorem dX12_withByte_175 : decode cX12_withByte 175 = .ok (.goto 21, 3) := by decide +kernel
theorem dX12_withByte_178 : decode cX12_withByte 178 = .ok (.iload_n 1, 1) := by decide +kernel
theorem dX12_withByte_179 : decode cX12_withByte 179 = .ok (.sipush 150, 3) := by decide +kernel
theorem dX12_withByte_182 : decode cX12_withByte 182 = .ok (.if_icmp .ne 10, 3) := by decide +kernel
theorem dX12_withByte_185 : decode cX12_withByte 185 = .ok (.iload 5, 2) := by decide +kernel
theorem dX12_withByte_187 : decode cX12_withByte 187 = .ok (.iload_n 2, 1) := by decide +kernel
theorem dX12_withByte_188 : decode cX12_withByte 188 = .ok (.ior, 1) := by decide +kernel
theorem dX12_withByte_189 : decode cX12_withByte 189 = .ok (.goto 7, 3) := by decide +kernel
theorem dX12_withByte_192 : decode cX12_withByte 192 = .ok (.iload 5, 2) := by decide +kernel
theorem dX12_withByte_194 : decode cX12_withByte 194 = .ok (.iload_n 2, 1) := by decide +kernel
theorem dX12_withByte_195 : decode cX12_withByte 195 = .ok (.ixor, 1) := by decide +kernel
theorem dX12_withByte_196 : decode cX12_withByte 196 = .ok (.iastore, 1) := by decide +kernel
theorem dX12_withByte_197 : decode cX12_withByte 197 = .ok (.aload_n 0, 1) := by decide +kernel
theorem dX12_withByte_198 : decode cX12_withByte 198 = .ok (.aload_n 0, 1) := by decide +kernel
theorem dX12_withByte_199 : decode cX12_withByte 199 = .ok (.getfield 7, 3) := by decide +kernel
theorem dX12_withByte_202 : decode cX12_withByte 202 = .ok (.iload_n 3, 1) := by decide +kernel
theorem dX12_withByte_203 : decode cX12_withByte 203 = .ok (.iaload, 1) := by decide +kernel
theorem dX12_withByte_204 : decode cX12_withByte 204 = .ok (.ifCond .ne 7, 3) := by decide +kernel
theorem dX12_withByte_207 : decode cX12_withByte 207 = .ok (.iconst 0, 1) := by decide +kernel
theorem dX12_withByte_208 : decode cX12_withByte 208 = .ok (.goto 4, 3) := by decide +kernel
theorem dX12_withByte_211 : decode cX12_withByte 211 = .ok (.iconst 1, 1) := by decide +kernel
theorem dX12_withByte_212 : decode cX12_withByte 212 = .ok (.putfield 47, 3) := by decide +kernel
theorem dX12_withByte_215 : decode cX12_withByte 215 = .ok (.return_, 1) := by decide +kernel
theorem dX12_stored_0 : decode cX12_stored 0 = .ok (.aload_n 0, 1) := by decide +kernel
theorem dX12_stored_1 : decode cX12_stored 1 = .ok (.getfield 22, 3) := by decide +kernel
theorem dX12_stored_4 : decode cX12_stored 4 = .ok (.iconst 1, 1) := by decide +kernel
theorem dX12_stored_5 : decode cX12_stored 5 = .ok (.iaload, 1) := by decide +kernel
theorem dX12_stored_6 : decode cX12_stored 6 = .ok (.iconst 4, 1) := by decide +kernel
theorem dX12_stored_7 : decode cX12_stored 7 = .ok (.ishr, 1) := by decide +kernel
theorem dX12_stored_8 : decode cX12_stored 8 = .ok (.istore_n 2, 1) := by decide +kernel
theorem dX12_stored_9 : decode cX12_stored 9 = .ok (.aload_n 0, 1) := by decide +kernel
theorem dX12_stored_10 : decode cX12_stored 10 = .ok (.getfield 22, 3) := by decide +kernel
theorem dX12_stored_13 : decode cX12_stored 13 = .ok (.iconst 1, 1) := by decide +kernel
theorem dX12_stored_14 : decode cX12_stored 14 = .ok (.iaload, 1) := by decide +kernel
theorem dX12_stored_15 : decode cX12_stored 15 = .ok (.bipush 15, 2) := by decide +kernel
theorem dX12_stored_17 : decode cX12_stored 17 = .ok (.iand, 1) := by decide +kernel
theorem dX12_stored_18 : decode cX12_stored 18 = .ok (.istore_n 3, 1) := by decide +kernel
theorem dX12_stored_19 : decode cX12_stored 19 = .ok (.aload_n 0, 1) := by decide +kernel
theorem dX12_stored_20 : decode cX12_stored 20 = .ok (.iconst 2, 1) := by decide +kernel
theorem dX12_stored_21 : decode cX12_stored 21 = .ok (.invokevirtual 118, 3) := by decide +kernel
theorem dX12_stored_24 : decode cX12_stored 24 = .ok (.istore 4, 2) := by decide +kernel
theorem dX12_stored_26 : decode cX12_stored 26 = .ok (.iload_n 1, 1) := by decide +kernel
theorem dX12_stored_27 : decode cX12_stored 27 = .ok (.sipush 136, 3) := by decide +kernel
theorem dX12_stored_30 : decode cX12_stored 30 = .ok (.if_icmp .lt 24, 3) := by decide +kernel
theorem dX12_stored_33 : decode cX12_stored 33 = .ok (.iload_n 1, 1) := by decide +kernel
theorem dX12_stored_34 : decode cX12_stored 34 = .ok (.sipush 144, 3) := by decide +kernel
theorem dX12_stored_37 : decode cX12_stored 37 = .ok (.if_icmp .ge 17, 3) := by decide +kernel
theorem dX12_stored_40 : decode cX12_stored 40 = .ok (.aload_n 0, 1) := by decide +kernel
theorem dX12_stored_41 : decode cX12_stored 41 = .ok (.iload_n 1, 1) := by decide +kernel
theorem dX12_stored_42 : decode cX12_stored 42 = .ok (.iload_n 2, 1) := by decide +kernel
theorem dX12_stored_43 : decode cX12_stored 43 = .ok (.iload 4, 2) := by decide +kernel
theorem dX12_stored_45 : decode cX12_stored 45 = .ok (.bipush 63, 2) := by decide +kernel
theorem dX12_stored_47 : decode cX12_stored 47 = .ok (.iand, 1) := by decide +kernel
theorem dX12_stored_48 : decode cX12_stored 48 = .ok (.invokevirtual 231, 3) := by decide +kernel
theorem dX12_stored_51 : decode cX12_stored 51 = .ok (.goto 198, 3) := by decide +kernel
theorem dX12_stored_54 : decode cX12_stored 54 = .ok (.iload_n 1, 1) := by decide +kernel
theorem dX12_stored_55 : decode cX12_stored 55 = .ok (.sipush 134, 3) := by decide +kernel
theorem dX12_stored_58 : decode cX12_stored 58 = .ok (.if_icmp .eq 10, 3) := by decide +kernel
theorem dX12_stored_61 : decode cX12_stored 61 = .ok (.iload_n 1, 1) := by decide +kernel
theorem dX12_stored_62 : decode cX12_stored 62 = .ok (.sipush 135, 3) := by decide +kernel
theorem dX12_stored_65 : decode cX12_stored 65 = .ok (.if_icmp .ne 15, 3) := by decide +kernel
theorem dX12_stored_68 : decode cX12_stored 68 = .ok (.aload_n 0, 1) := by decide +kernel
theorem dX12_stored_69 : decode cX12_stored 69 = .ok (.iload_n 1, 1) := by decide +kernel
theorem dX12_stored_70 : decode cX12_stored 70 = .ok (.iload_n 2, 1) := by decide +kernel
theorem dX12_stored_71 : decode cX12_stored 71 = .ok (.iload_n 3, 1) := by decide +kernel
theorem dX12_stored_72 : decode cX12_stored 72 = .ok (.iload 4, 2) := by decide +kernel
theorem dX12_stored_74 : decode cX12_stored 74 = .ok (.invokevirtual 234, 3) := by decide +kernel
theorem dX12_stored_77 : decode cX12_stored 77 = .ok (.goto 172, 3) := by decide +kernel
theorem dX12_stored_80 : decode cX12_stored 80 = .ok (.iload_n 1, 1) := by decide +kernel
theorem dX12_stored_81 : decode cX12_stored 81 = .ok (.sipush 144, 3) := by decide +kernel
theorem dX12_stored_84 : decode cX12_stored 84 = .ok (.if_icmp .eq 10, 3) := by decide +kernel
theorem dX12_stored_87 : decode cX12_stored 87 = .ok (.iload_n 1, 1) := by decide +kernel
theorem dX12_stored_88 : decode cX12_stored 88 = .ok (.sipush 152, 3) := by decide +kernel
theorem dX12_stored_91 : decode cX12_stored 91 = .ok (.if_icmp .ne 26, 3) := by decide +kernel
theorem dX12_stored_94 : decode cX12_stored 94 = .ok (.aload_n 0, 1) := by decide +kernel
theorem dX12_stored_95 : decode cX12_stored 95 = .ok (.iload_n 2, 1) := by decide +kernel
theorem dX12_stored_96 : decode cX12_stored 96 = .ok (.iload_n 3, 1) := by decide +kernel
theorem dX12_stored_97 : decode cX12_stored 97 = .ok (.iload 4, 2) := by decide +kernel
theorem dX12_stored_99 : decode cX12_stored 99 = .ok (.iload_n 1, 1) := by decide +kernel
theorem dX12_stored_100 : decode cX12_stored 100 = .ok (.sipush 144, 3) := by decide +kernel
theorem dX12_stored_103 : decode cX12_stored 103 = .ok (.if_icmp .ne 7, 3) := by decide +kernel
theorem dX12_stored_106 : decode cX12_stored 106 = .ok (.iconst 1, 1) := by decide +kernel
theorem dX12_stored_107 : decode cX12_stored 107 = .ok (.goto 4, 3) := by decide +kernel
theorem dX12_stored_110 : decode cX12_stored 110 = .ok (.iconst 0, 1) := by decide +kernel
theorem dX12_stored_111 : decode cX12_stored 111 = .ok (.invokevirtual 238, 3) := by decide +kernel
theorem dX12_stored_114 : decode cX12_stored 114 = .ok (.goto 135, 3) := by decide +kernel
theorem dX12_stored_117 : decode cX12_stored 117 = .ok (.iload_n 1, 1) := by decide +kernel
theorem dX12_stored_118 : decode cX12_stored 118 = .ok (.sipush 145, 3) := by decide +kernel
theorem dX12_stored_121 : decode cX12_stored 121 = .ok (.if_icmp .lt 26, 3) := by decide +kernel
theorem dX12_stored_124 : decode cX12_stored 124 = .ok (.iload_n 1, 1) := by decide +kernel
theorem dX12_stored_125 : decode cX12_stored 125 = .ok (.sipush 151, 3) := by decide +kernel
theorem dX12_stored_128 : decode cX12_stored 128 = .ok (.if_icmp .gt 19, 3) := by decide +kernel
theorem dX12_stored_131 : decode cX12_stored 131 = .ok (.aload_n 0, 1) := by decide +kernel
theorem dX12_stored_132 : decode cX12_stored 132 = .ok (.iload_n 1, 1) := by decide +kernel
theorem dX12_stored_133 : decode cX12_stored 133 = .ok (.aload_n 0, 1) := by decide +kernel
theorem dX12_stored_134 : decode cX12_stored 134 = .ok (.getfield 22, 3) := by decide +kernel
theorem dX12_stored_137 : decode cX12_stored 137 = .ok (.iconst 1, 1) := by decide +kernel
theorem dX12_stored_138 : decode cX12_stored 138 = .ok (.iaload, 1) := by decide +kernel
theorem dX12_stored_139 : decode cX12_stored 139 = .ok (.iload 4, 2) := by decide +kernel
theorem dX12_stored_141 : decode cX12_stored 141 = .ok (.invokevirtual 242, 3) := by decide +kernel
theorem dX12_stored_144 : decode cX12_stored 144 = .ok (.goto 105, 3) := by decide +kernel
theorem dX12_stored_147 : decode cX12_stored 147 = .ok (.iload_n 1, 1) := by decide +kernel
theorem dX12_stored_148 : decode cX12_stored 148 = .ok (.sipush 128, 3) := by decide +kernel
theorem dX12_stored_151 : decode cX12_stored 151 = .ok (.if_icmp .ne 43, 3) := by decide +kernel
theorem dX12_stored_154 : decode cX12_stored 154 = .ok (.aload_n 0, 1) := by decide +kernel
theorem dX12_stored_155 : decode cX12_stored 155 = .ok (.invokevirtual 185, 3) := by decide +kernel
theorem dX12_stored_158 : decode cX12_stored 158 = .ok (.aload_n 0, 1) := by decide +kernel
theorem dX12_stored_159 : decode cX12_stored 159 = .ok (.iload 4, 2) := by decide +kernel
theorem dX12_stored_161 : decode cX12_stored 161 = .ok (.iconst 1, 1) := by decide +kernel
theorem dX12_stored_162 : decode cX12_stored 162 = .ok (.iconst 0, 1) := by decide +kernel
theorem dX12_stored_163 : decode cX12_stored 163 = .ok (.invokevirtual 121, 3) := by decide +kernel
theorem dX12_stored_166 : decode cX12_stored 166 = .ok (.aload_n 0, 1) := by decide +kernel
theorem dX12_stored_167 : decode cX12_stored 167 = .ok (.aload_n 0, 1) := by decide +kernel
theorem dX12_stored_168 : decode cX12_stored 168 = .ok (.getfield 104, 3) := by decide +kernel
theorem dX12_stored_171 : decode cX12_stored 171 = .ok (.ifCond .le 10, 3) := by decide +kernel
theorem dX12_stored_174 : decode cX12_stored 174 = .ok (.aload_n 0, 1) := by decide +kernel
theorem dX12_stored_175 : decode cX12_stored 175 = .ok (.getfield 56, 3) := by decide +kernel
theorem dX12_stored_178 : decode cX12_stored 178 = .ok (.goto 10, 3) := by decide +kernel
theorem dX12_stored_181 : decode cX12_stored 181 = .ok (.aload_n 0, 1) := by decide +kernel
theorem dX12_stored_182 : decode cX12_stored 182 = .ok (.getfield 7, 3) := by decide +kernel
theorem dX12_stored_185 : decode cX12_stored 185 = .ok (.iload 4, 2) := by decide +kernel
theorem dX12_stored_187 : decode cX12_stored 187 = .ok (.iaload, 1) := by decide +kernel
theorem dX12_stored_188 : decode cX12_stored 188 = .ok (.putfield 56, 3) := by decide +kernel
theorem dX12_stored_191 : decode cX12_stored 191 = .ok (.goto 58, 3) := by decide +kernel
theorem dX12_stored_194 : decode cX12_stored 194 = .ok (.iload_n 1, 1) := by decide +kernel
theorem dX12_stored_195 : decode cX12_stored 195 = .ok (.sipush 130, 3) := by decide +kernel
theorem dX12_stored_198 : decode cX12_stored 198 = .ok (.if_icmp .ne 46, 3) := by decide +kernel
theorem dX12_stored_201 : decode cX12_stored 201 = .ok (.aload_n 0, 1) := by decide +kernel
theorem dX12_stored_202 : decode cX12_stored 202 = .ok (.invokevirtual 185, 3) := by decide +kernel
theorem dX12_stored_205 : decode cX12_stored 205 = .ok (.aload_n 0, 1) := by decide +kernel
theorem dX12_stored_206 : decode cX12_stored 206 = .ok (.iload 4, 2) := by decide +kernel
theorem dX12_stored_208 : decode cX12_stored 208 = .ok (.bipush 8, 2) := by decide +kernel
theorem dX12_stored_210 : decode cX12_stored 210 = .ok (.iconst 0, 1) := by decide +kernel
theorem dX12_stored_211 : decode cX12_stored 211 = .ok (.invokevirtual 121, 3) := by decide +kernel
theorem dX12_stored_214 : decode cX12_stored 214 = .ok (.aload_n 0, 1) := by decide +kernel
theorem dX12_stored_215 : decode cX12_stored 215 = .ok (.iload 4, 2) := by decide +kernel
theorem dX12_stored_217 : decode cX12_stored 217 = .ok (.bipush 8, 2) := by decide +kernel
theorem dX12_stored_219 : decode cX12_stored 219 = .ok (.invokevirtual 125, 3) := by decide +kernel
theorem dX12_stored_222 : decode cX12_stored 222 = .ok (.aload_n 0, 1) := by decide +kernel
theorem dX12_stored_223 : decode cX12_stored 223 = .ok (.getfield 104, 3) := by decide +kernel
theorem dX12_stored_226 : decode cX12_stored 226 = .ok (.ifCond .ne 23, 3) := by decide +kernel
theorem dX12_stored_229 : decode cX12_stored 229 = .ok (.aload_n 0, 1) := by decide +kernel
theorem dX12_stored_230 : decode cX12_stored 230 = .ok (.aload_n 0, 1) := by decide +kernel
theorem dX12_stored_231 : decode cX12_stored 231 = .ok (.iload 4, 2) := by decide +kernel
theorem dX12_stored_233 : decode cX12_stored 233 = .ok (.bipush 8, 2) := by decide +kernel
theorem dX12_stored_235 : decode cX12_stored 235 = .ok (.invokevirtual 100, 3) := by decide +kernel
theorem dX12_stored_238 : decode cX12_stored 238 = .ok (.invokevirtual 86, 3) := by decide +kernel
theorem dX12_stored_241 : decode cX12_stored 241 = .ok (.goto 8, 3) := by decide +kernel
theorem dX12_stored_244 : decode cX12_stored 244 = .ok (.aload_n 0, 1) := by decide +kernel
theorem dX12_stored_245 : decode cX12_stored 245 = .ok (.iconst 1, 1) := by decide +kernel
theorem dX12_stored_246 : decode cX12_stored 246 = .ok (.invokevirtual 107, 3) := by decide +kernel
theorem dX12_stored_249 : decode cX12_stored 249 = .ok (.return_, 1) := by decide +kernel
theorem dX12_mixed_0 : decode cX12_mixed 0 = .ok (.iload_n 0, 1) := by decide +kernel
theorem dX12_mixed_1 : decode cX12_mixed 1 = .ok (.tableswitch 71 209 214 #[39, 50, 52, 63, 71, 67], 39) := by decide +kernel
theorem dX12_mixed_40 : decode cX12_mixed 40 = .ok (.iload_n 1, 1) := by decide +kernel
theorem dX12_mixed_41 : decode cX12_mixed 41 = .ok (.sipush 240, 3) := by decide +kernel
theorem dX12_mixed_44 : decode cX12_mixed 44 = .ok (.iand, 1) := by decide +kernel
theorem dX12_mixed_45 : decode cX12_mixed 45 = .ok (.iload_n 2, 1) := by decide +kernel
theorem dX12_mixed_46 : decode cX12_mixed 46 = .ok (.bipush 15, 2) := by decide +kernel
theorem dX12_mixed_48 : decode cX12_mixed 48 = .ok (.iand, 1) := by decide +kernel
theorem dX12_mixed_49 : decode cX12_mixed 49 = .ok (.ior, 1) := by decide +kernel
theorem dX12_mixed_50 : decode cX12_mixed 50 = .ok (.ireturn, 1) := by decide +kernel
theorem dX12_mixed_51 : decode cX12_mixed 51 = .ok (.iload_n 2, 1) := by decide +kernel
theorem dX12_mixed_52 : decode cX12_mixed 52 = .ok (.ireturn, 1) := by decide +kernel
theorem dX12_mixed_53 : decode cX12_mixed 53 = .ok (.iload_n 1, 1) := by decide +kernel
theorem dX12_mixed_54 : decode cX12_mixed 54 = .ok (.bipush 15, 2) := by decide +kernel
theorem dX12_mixed_56 : decode cX12_mixed 56 = .ok (.iand, 1) := by decide +kernel
theorem dX12_mixed_57 : decode cX12_mixed 57 = .ok (.iload_n 2, 1) := by decide +kernel
theorem dX12_mixed_58 : decode cX12_mixed 58 = .ok (.sipush 240, 3) := by decide +kernel
theorem dX12_mixed_61 : decode cX12_mixed 61 = .ok (.iand, 1) := by decide +kernel
theorem dX12_mixed_62 : decode cX12_mixed 62 = .ok (.ior, 1) := by decide +kernel
theorem dX12_mixed_63 : decode cX12_mixed 63 = .ok (.ireturn, 1) := by decide +kernel
theorem dX12_mixed_64 : decode cX12_mixed 64 = .ok (.iload_n 1, 1) := by decide +kernel
theorem dX12_mixed_65 : decode cX12_mixed 65 = .ok (.iload_n 2, 1) := by decide +kernel
theorem dX12_mixed_66 : decode cX12_mixed 66 = .ok (.iand, 1) := by decide +kernel
theorem dX12_mixed_67 : decode cX12_mixed 67 = .ok (.ireturn, 1) := by decide +kernel
theorem dX12_mixed_68 : decode cX12_mixed 68 = .ok (.iload_n 1, 1) := by decide +kernel
theorem dX12_mixed_69 : decode cX12_mixed 69 = .ok (.iload_n 2, 1) := by decide +kernel
theorem dX12_mixed_70 : decode cX12_mixed 70 = .ok (.ior, 1) := by decide +kernel
theorem dX12_mixed_71 : decode cX12_mixed 71 = .ok (.ireturn, 1) := by decide +kernel
theorem dX12_mixed_72 : decode cX12_mixed 72 = .ok (.iload_n 1, 1) := by decide +kernel
theorem dX12_mixed_73 : decode cX12_mixed 73 = .ok (.iload_n 2, 1) := by decide +kernel
theorem dX12_mixed_74 : decode cX12_mixed 74 = .ok (.ixor, 1) := by decide +kernel
theorem dX12_mixed_75 : decode cX12_mixed 75 = .ok (.ireturn, 1) := by decide +kernel
theorem dX12_rows_0 : decode cX12_rows 0 = .ok (.aload_n 0, 1) := by decide +kernel
theorem dX12_rows_1 : decode cX12_rows 1 = .ok (.iload_n 3, 1) := by decide +kernel
theorem dX12_rows_2 : decode cX12_rows 2 = .ok (.iload_n 2, 1) := by decide +kernel
theorem dX12_rows_3 : decode cX12_rows 3 = .ok (.iload_n 1, 1) := by decide +kernel
theorem dX12_rows_4 : decode cX12_rows 4 = .ok (.sipush 213, 3) := by decide +kernel
theorem dX12_rows_7 : decode cX12_rows 7 = .ok (.if_icmp .eq 7, 3) := by decide +kernel
theorem dX12_rows_10 : decode cX12_rows 10 = .ok (.iconst 1, 1) := by decide +kernel
theorem dX12_rows_11 : decode cX12_rows 11 = .ok (.goto 4, 3) := by decide +kernel
theorem dX12_rows_14 : decode cX12_rows 14 = .ok (.iconst 0, 1) := by decide +kernel
theorem dX12_rows_15 : decode cX12_rows 15 = .ok (.invokevirtual 121, 3) := by decide +kernel
theorem dX12_rows_18 : decode cX12_rows 18 = .ok (.aload_n 0, 1) := by decide +kernel
theorem dX12_rows_19 : decode cX12_rows 19 = .ok (.iload 4, 2) := by decide +kernel
theorem dX12_rows_21 : decode cX12_rows 21 = .ok (.iload_n 2, 1) := by decide +kernel
theorem dX12_rows_22 : decode cX12_rows 22 = .ok (.iconst 0, 1) := by decide +kernel
theorem dX12_rows_23 : decode cX12_rows 23 = .ok (.invokevirtual 121, 3) := by decide +kernel
theorem dX12_rows_26 : decode cX12_rows 26 = .ok (.aload_n 0, 1) := by decide +kernel
theorem dX12_rows_27 : decode cX12_rows 27 = .ok (.getfield 104, 3) := by decide +kernel
theorem dX12_rows_30 : decode cX12_rows 30 = .ok (.ifCond .le 4, 3) := by decide +kernel
theorem dX12_rows_33 : decode cX12_rows 33 = .ok (.return_, 1) := by decide +kernel
theorem dX12_rows_34 : decode cX12_rows 34 = .ok (.iload_n 1, 1) := by decide +kernel
theorem dX12_rows_35 : decode cX12_rows 35 = .ok (.sipush 213, 3) := by decide +kernel
theorem dX12_rows_38 : decode cX12_rows 38 = .ok (.if_icmp .ne 59, 3) := by decide +kernel
theorem dX12_rows_41 : decode cX12_rows 41 = .ok (.aload_n 0, 1) := by decide +kernel
theorem dX12_rows_42 : decode cX12_rows 42 = .ok (.iconst 0, 1) := by decide +kernel
theorem dX12_rows_43 : decode cX12_rows 43 = .ok (.putfield 47, 3) := by decide +kernel
theorem dX12_rows_46 : decode cX12_rows 46 = .ok (.iconst 0, 1) := by decide +kernel
theorem dX12_rows_47 : decode cX12_rows 47 = .ok (.istore 5, 2) := by decide +kernel
theorem dX12_rows_49 : decode cX12_rows 49 = .ok (.iload 5, 2) := by decide +kernel
theorem dX12_rows_51 : decode cX12_rows 51 = .ok (.iload_n 2, 1) := by decide +kernel
theorem dX12_rows_52 : decode cX12_rows 52 = .ok (.if_icmp .ge 44, 3) := by decide +kernel
theorem dX12_rows_55 : decode cX12_rows 55 = .ok (.aload_n 0, 1) := by decide +kernel
theorem dX12_rows_56 : decode cX12_rows 56 = .ok (.getfield 47, 3) := by decide +kernel
theorem dX12_rows_59 : decode cX12_rows 59 = .ok (.ifCond .ne 37, 3) := by decide +kernel
theorem dX12_rows_62 : decode cX12_rows 62 = .ok (.aload_n 0, 1) := by decide +kernel
theorem dX12_rows_63 : decode cX12_rows 63 = .ok (.aload_n 0, 1) := by decide +kernel
theorem dX12_rows_64 : decode cX12_rows 64 = .ok (.getfield 7, 3) := by decide +kernel
theorem dX12_rows_67 : decode cX12_rows 67 = .ok (.iload_n 3, 1) := by decide +kernel
theorem dX12_rows_68 : decode cX12_rows 68 = .ok (.iload 5, 2) := by decide +kernel
theorem dX12_rows_70 : decode cX12_rows 70 = .ok (.iadd, 1) := by decide +kernel
theorem dX12_rows_71 : decode cX12_rows 71 = .ok (.iaload, 1) := by decide +kernel
theorem dX12_rows_72 : decode cX12_rows 72 = .ok (.i2l, 1) := by decide +kernel
theorem dX12_rows_73 : decode cX12_rows 73 = .ok (.aload_n 0, 1) := by decide +kernel
theorem dX12_rows_74 : decode cX12_rows 74 = .ok (.getfield 7, 3) := by decide +kernel
theorem dX12_rows_77 : decode cX12_rows 77 = .ok (.iload 4, 2) := by decide +kernel
theorem dX12_rows_79 : decode cX12_rows 79 = .ok (.iload 5, 2) := by decide +kernel
theorem dX12_rows_81 : decode cX12_rows 81 = .ok (.iadd, 1) := by decide +kernel
theorem dX12_rows_82 : decode cX12_rows 82 = .ok (.iaload, 1) := by decide +kernel
theorem dX12_rows_83 : decode cX12_rows 83 = .ok (.i2l, 1) := by decide +kernel
theorem dX12_rows_84 : decode cX12_rows 84 = .ok (.invokestatic 150, 3) := by decide +kernel
theorem dX12_rows_87 : decode cX12_rows 87 = .ok (.putfield 47, 3) := by decide +kernel
theorem dX12_rows_90 : decode cX12_rows 90 = .ok (.iinc 5 1, 3) := by decide +kernel
theorem dX12_rows_93 : decode cX12_rows 93 = .ok (.goto (-44), 3) := by decide +kernel
theorem dX12_rows_96 : decode cX12_rows 96 = .ok (.return_, 1) := by decide +kernel
theorem dX12_rows_97 : decode cX12_rows 97 = .ok (.iconst 0, 1) := by decide +kernel
theorem dX12_rows_98 : decode cX12_rows 98 = .ok (.istore 5, 2) := by decide +kernel
theorem dX12_rows_100 : decode cX12_rows 100 = .ok (.iconst 0, 1) := by decide +kernel
theorem dX12_rows_101 : decode cX12_rows 101 = .ok (.istore 6, 2) := by decide +kernel
theorem dX12_rows_103 : decode cX12_rows 103 = .ok (.iload 6, 2) := by decide +kernel
theorem dX12_rows_105 : decode cX12_rows 105 = .ok (.iload_n 2, 1) := by decide +kernel
theorem dX12_rows_106 : decode cX12_rows 106 = .ok (.if_icmp .ge 65, 3) := by decide +kernel
theorem dX12_rows_109 : decode cX12_rows 109 = .ok (.aload_n 0, 1) := by decide +kernel
theorem dX12_rows_110 : decode cX12_rows 110 = .ok (.getfield 7, 3) := by decide +kernel
theorem dX12_rows_113 : decode cX12_rows 113 = .ok (.iload_n 3, 1) := by decide +kernel
theorem dX12_rows_114 : decode cX12_rows 114 = .ok (.iload 6, 2) := by decide +kernel
theorem dX12_rows_116 : decode cX12_rows 116 = .ok (.iadd, 1) := by decide +kernel
theorem dX12_rows_117 : decode cX12_rows 117 = .ok (.iload_n 1, 1) := by decide +kernel
theorem dX12_rows_118 : decode cX12_rows 118 = .ok (.aload_n 0, 1) := by decide +kernel
theorem dX12_rows_119 : decode cX12_rows 119 = .ok (.getfield 7, 3) := by decide +kernel
theorem dX12_rows_122 : decode cX12_rows 122 = .ok (.iload_n 3, 1) := by decide +kernel
theorem dX12_rows_123 : decode cX12_rows 123 = .ok (.iload 6, 2) := by decide +kernel
theorem dX12_rows_125 : decode cX12_rows 125 = .ok (.iadd, 1) := by decide +kernel
theorem dX12_rows_126 : decode cX12_rows 126 = .ok (.iaload, 1) := by decide +kernel
theorem dX12_rows_127 : decode cX12_rows 127 = .ok (.aload_n 0, 1) := by decide +kernel
theorem dX12_rows_128 : decode cX12_rows 128 = .ok (.getfield 7, 3) := by decide +kernel
theorem dX12_rows_131 : decode cX12_rows 131 = .ok (.iload 4, 2) := by decide +kernel
theorem dX12_rows_133 : decode cX12_rows 133 = .ok (.iload 6, 2) := by decide +kernel
theorem dX12_rows_135 : decode cX12_rows 135 = .ok (.iadd, 1) := by decide +kernel
theorem dX12_rows_136 : decode cX12_rows 136 = .ok (.iaload, 1) := by decide +kernel
theorem dX12_rows_137 : decode cX12_rows 137 = .ok (.invokestatic 245, 3) := by decide +kernel
theorem dX12_rows_140 : decode cX12_rows 140 = .ok (.iastore, 1) := by decide +kernel
theorem dX12_rows_141 : decode cX12_rows 141 = .ok (.iload 5, 2) := by decide +kernel
theorem dX12_rows_143 : decode cX12_rows 143 = .ok (.ifCond .ne 15, 3) := by decide +kernel
theorem dX12_rows_146 : decode cX12_rows 146 = .ok (.aload_n 0, 1) := by decide +kernel
theorem dX12_rows_147 : decode cX12_rows 147 = .ok (.getfield 7, 3) := by decide +kernel
theorem dX12_rows_150 : decode cX12_rows 150 = .ok (.iload_n 3, 1) := by decide +kernel
theorem dX12_rows_151 : decode cX12_rows 151 = .ok (.iload 6, 2) := by decide +kernel
theorem dX12_rows_153 : decode cX12_rows 153 = .ok (.iadd, 1) := by decide +kernel
theorem dX12_rows_154 : decode cX12_rows 154 = .ok (.iaload, 1) := by decide +kernel
theorem dX12_rows_155 : decode cX12_rows 155 = .ok (.ifCond .eq 7, 3) := by decide +kernel
theorem dX12_rows_158 : decode cX12_rows 158 = .ok (.iconst 1, 1) := by decide +kernel
theorem dX12_rows_159 : decode cX12_rows 159 = .ok (.goto 4, 3) := by decide +kernel
theorem dX12_rows_162 : decode cX12_rows 162 = .ok (.iconst 0, 1) := by decide +kernel
theorem dX12_rows_163 : decode cX12_rows 163 = .ok (.istore 5, 2) := by decide +kernel
theorem dX12_rows_165 : decode cX12_rows 165 = .ok (.iinc 6 1, 3) := by decide +kernel
theorem dX12_rows_168 : decode cX12_rows 168 = .ok (.goto (-65), 3) := by decide +kernel
theorem dX12_rows_171 : decode cX12_rows 171 = .ok (.iload_n 1, 1) := by decide +kernel
theorem dX12_rows_172 : decode cX12_rows 172 = .ok (.sipush 212, 3) := by decide +kernel
theorem dX12_rows_175 : decode cX12_rows 175 = .ok (.if_icmp .eq 17, 3) := by decide +kernel
theorem dX12_rows_178 : decode cX12_rows 178 = .ok (.iload_n 1, 1) := by decide +kernel
theorem dX12_rows_179 : decode cX12_rows 179 = .ok (.sipush 214, 3) := by decide +kernel
theorem dX12_rows_182 : decode cX12_rows 182 = .ok (.if_icmp .eq 10, 3) := by decide +kernel
theorem dX12_rows_185 : decode cX12_rows 185 = .ok (.iload_n 1, 1) := by decide +kernel
theorem dX12_rows_186 : decode cX12_rows 186 = .ok (.sipush 215, 3) := by decide +kernel
theorem dX12_rows_189 : decode cX12_rows 189 = .ok (.if_icmp .ne 17, 3) := by decide +kernel
theorem dX12_rows_192 : decode cX12_rows 192 = .ok (.aload_n 0, 1) := by decide +kernel
theorem dX12_rows_193 : decode cX12_rows 193 = .ok (.iload 5, 2) := by decide +kernel
theorem dX12_rows_195 : decode cX12_rows 195 = .ok (.ifCond .eq 7, 3) := by decide +kernel
theorem dX12_rows_198 : decode cX12_rows 198 = .ok (.iconst 1, 1) := by decide +kernel
theorem dX12_rows_199 : decode cX12_rows 199 = .ok (.goto 4, 3) := by decide +kernel
theorem dX12_rows_202 : decode cX12_rows 202 = .ok (.iconst 0, 1) := by decide +kernel
theorem dX12_rows_203 : decode cX12_rows 203 = .ok (.putfield 47, 3) := by decide +kernel
theorem dX12_rows_206 : decode cX12_rows 206 = .ok (.return_, 1) := by decide +kernel
theorem dX12_translate_0 : decode cX12_translate 0 = .ok (.aload_n 0, 1) := by decide +kernel
theorem dX12_translate_1 : decode cX12_translate 1 = .ok (.iload_n 3, 1) := by decide +kernel
theorem dX12_translate_2 : decode cX12_translate 2 = .ok (.iload_n 2, 1) := by decide +kernel
theorem dX12_translate_3 : decode cX12_translate 3 = .ok (.iload_n 1, 1) := by decide +kernel
theorem dX12_translate_4 : decode cX12_translate 4 = .ok (.ifCond .ne 7, 3) := by decide +kernel
theorem dX12_translate_7 : decode cX12_translate 7 = .ok (.iconst 1, 1) := by decide +kernel
theorem dX12_translate_8 : decode cX12_translate 8 = .ok (.goto 4, 3) := by decide +kernel
theorem dX12_translate_11 : decode cX12_translate 11 = .ok (.iconst 0, 1) := by decide +kernel
theorem dX12_translate_12 : decode cX12_translate 12 = .ok (.invokevirtual 121, 3) := by decide +kernel
theorem dX12_translate_15 : decode cX12_translate 15 = .ok (.iconst 0, 1) := by decide +kernel
theorem dX12_translate_16 : decode cX12_translate 16 = .ok (.istore 5, 2) := by decide +kernel
theorem dX12_translate_18 : decode cX12_translate 18 = .ok (.iload 5, 2) := by decide +kernel
theorem dX12_translate_20 : decode cX12_translate 20 = .ok (.iload_n 2, 1) := by decide +kernel
theorem dX12_translate_21 : decode cX12_translate 21 = .ok (.if_icmp .ge 40, 3) := by decide +kernel
theorem dX12_translate_24 : decode cX12_translate 24 = .ok (.iload_n 3, 1) := by decide +kernel
theorem dX12_translate_25 : decode cX12_translate 25 = .ok (.iload 5, 2) := by decide +kernel
theorem dX12_translate_27 : decode cX12_translate 27 = .ok (.iadd, 1) := by decide +kernel
theorem dX12_translate_28 : decode cX12_translate 28 = .ok (.sipush 8192, 3) := by decide +kernel
theorem dX12_translate_31 : decode cX12_translate 31 = .ok (.if_icmp .ge 24, 3) := by decide +kernel
theorem dX12_translate_34 : decode cX12_translate 34 = .ok (.aload_n 0, 1) := by decide +kernel
theorem dX12_translate_35 : decode cX12_translate 35 = .ok (.iload 4, 2) := by decide +kernel
theorem dX12_translate_37 : decode cX12_translate 37 = .ok (.aload_n 0, 1) := by decide +kernel
theorem dX12_translate_38 : decode cX12_translate 38 = .ok (.getfield 7, 3) := by decide +kernel
theorem dX12_translate_41 : decode cX12_translate 41 = .ok (.iload_n 3, 1) := by decide +kernel
theorem dX12_translate_42 : decode cX12_translate 42 = .ok (.iload 5, 2) := by decide +kernel
theorem dX12_translate_44 : decode cX12_translate 44 = .ok (.iadd, 1) := by decide +kernel
theorem dX12_translate_45 : decode cX12_translate 45 = .ok (.iaload, 1) := by decide +kernel
theorem dX12_translate_46 : decode cX12_translate 46 = .ok (.iadd, 1) := by decide +kernel
theorem dX12_translate_47 : decode cX12_translate 47 = .ok (.ldc 81, 2) := by decide +kernel
theorem dX12_translate_49 : decode cX12_translate 49 = .ok (.iand, 1) := by decide +kernel
theorem dX12_translate_50 : decode cX12_translate 50 = .ok (.iconst 1, 1) := by decide +kernel
theorem dX12_translate_51 : decode cX12_translate 51 = .ok (.iconst 0, 1) := by decide +kernel
theorem dX12_translate_52 : decode cX12_translate 52 = .ok (.invokevirtual 121, 3) := by decide +kernel
theorem dX12_translate_55 : decode cX12_translate 55 = .ok (.iinc 5 1, 3) := by decide +kernel
theorem dX12_translate_58 : decode cX12_translate 58 = .ok (.goto (-40), 3) := by decide +kernel
theorem dX12_translate_61 : decode cX12_translate 61 = .ok (.aload_n 0, 1) := by decide +kernel
theorem dX12_translate_62 : decode cX12_translate 62 = .ok (.getfield 104, 3) := by decide +kernel
theorem dX12_translate_65 : decode cX12_translate 65 = .ok (.ifCond .le 4, 3) := by decide +kernel
theorem dX12_translate_68 : decode cX12_translate 68 = .ok (.return_, 1) := by decide +kernel
theorem dX12_translate_69 : decode cX12_translate 69 = .ok (.iload_n 1, 1) := by decide +kernel
theorem dX12_translate_70 : decode cX12_translate 70 = .ok (.ifCond .eq 8, 3) := by decide +kernel
theorem dX12_translate_73 : decode cX12_translate 73 = .ok (.aload_n 0, 1) := by decide +kernel
theorem dX12_translate_74 : decode cX12_translate 74 = .ok (.iconst 0, 1) := by decide +kernel
theorem dX12_translate_75 : decode cX12_translate 75 = .ok (.putfield 47, 3) := by decide +kernel
theorem dX12_translate_78 : decode cX12_translate 78 = .ok (.iconst 0, 1) := by decide +kernel
theorem dX12_translate_79 : decode cX12_translate 79 = .ok (.istore 5, 2) := by decide +kernel
theorem dX12_translate_81 : decode cX12_translate 81 = .ok (.iload 5, 2) := by decide +kernel
theorem dX12_translate_83 : decode cX12_translate 83 = .ok (.iload_n 2, 1) := by decide +kernel
theorem dX12_translate_84 : decode cX12_translate 84 = .ok (.if_icmp .ge 111, 3) := by decide +kernel
theorem dX12_translate_87 : decode cX12_translate 87 = .ok (.aload_n 0, 1) := by decide +kernel
theorem dX12_translate_88 : decode cX12_translate 88 = .ok (.getfield 7, 3) := by decide +kernel
theorem dX12_translate_91 : decode cX12_translate 91 = .ok (.iload 4, 2) := by decide +kernel
theorem dX12_translate_93 : decode cX12_translate 93 = .ok (.aload_n 0, 1) := by decide +kernel
theorem dX12_translate_94 : decode cX12_translate 94 = .ok (.getfield 7, 3) := by decide +kernel
theorem dX12_translate_97 : decode cX12_translate 97 = .ok (.iload_n 3, 1) := by decide +kernel
theorem dX12_translate_98 : decode cX12_translate 98 = .ok (.iload 5, 2) := by decide +kernel
theorem dX12_translate_100 : decode cX12_translate 100 = .ok (.iadd, 1) := by decide +kernel
theorem dX12_translate_101 : decode cX12_translate 101 = .ok (.iaload, 1) := by decide +kernel
theorem dX12_translate_102 : decode cX12_translate 102 = .ok (.iadd, 1) := by decide +kernel
theorem dX12_translate_103 : decode cX12_translate 103 = .ok (.ldc 81, 2) := by decide +kernel
theorem dX12_translate_105 : decode cX12_translate 105 = .ok (.iand, 1) := by decide +kernel
theorem dX12_translate_106 : decode cX12_translate 106 = .ok (.iaload, 1) := by decide +kernel
theorem dX12_translate_107 : decode cX12_translate 107 = .ok (.istore 6, 2) := by decide +kernel
theorem dX12_translate_109 : decode cX12_translate 109 = .ok (.iload_n 1, 1) := by decide +kernel
theorem dX12_translate_110 : decode cX12_translate 110 = .ok (.ifCond .ne 17, 3) := by decide +kernel
theorem dX12_translate_113 : decode cX12_translate 113 = .ok (.aload_n 0, 1) := by decide +kernel
theorem dX12_translate_114 : decode cX12_translate 114 = .ok (.getfield 7, 3) := by decide +kernel
theorem dX12_translate_117 : decode cX12_translate 117 = .ok (.iload_n 3, 1) := by decide +kernel
theorem dX12_translate_118 : decode cX12_translate 118 = .ok (.iload 5, 2) := by decide +kernel
theorem dX12_translate_120 : decode cX12_translate 120 = .ok (.iadd, 1) := by decide +kernel
theorem dX12_translate_121 : decode cX12_translate 121 = .ok (.iload 6, 2) := by decide +kernel
theorem dX12_translate_123 : decode cX12_translate 123 = .ok (.iastore, 1) := by decide +kernel
theorem dX12_translate_124 : decode cX12_translate 124 = .ok (.goto 65, 3) := by decide +kernel
theorem dX12_translate_127 : decode cX12_translate 127 = .ok (.iload 6, 2) := by decide +kernel
theorem dX12_translate_129 : decode cX12_translate 129 = .ok (.ifCond .eq 60, 3) := by decide +kernel
theorem dX12_translate_132 : decode cX12_translate 132 = .ok (.aload_n 0, 1) := by decide +kernel
theorem dX12_translate_133 : decode cX12_translate 133 = .ok (.getfield 16, 3) := by decide +kernel
theorem dX12_translate_136 : decode cX12_translate 136 = .ok (.iconst 1, 1) := by decide +kernel
theorem dX12_translate_137 : decode cX12_translate 137 = .ok (.aload_n 0, 1) := by decide +kernel
theorem dX12_translate_138 : decode cX12_translate 138 = .ok (.getfield 16, 3) := by decide +kernel
theorem dX12_translate_141 : decode cX12_translate 141 = .ok (.iconst 1, 1) := by decide +kernel
theorem dX12_translate_142 : decode cX12_translate 142 = .ok (.iaload, 1) := by decide +kernel
theorem dX12_translate_143 : decode cX12_translate 143 = .ok (.ldc 249, 2) := by decide +kernel
theorem dX12_translate_145 : decode cX12_translate 145 = .ok (.iand, 1) := by decide +kernel
theorem dX12_translate_146 : decode cX12_translate 146 = .ok (.iload_n 3, 1) := by decide +kernel
theorem dX12_translate_147 : decode cX12_translate 147 = .ok (.iload 5, 2) := by decide +kernel
theorem dX12_translate_149 : decode cX12_translate 149 = .ok (.iadd, 1) := by decide +kernel
theorem dX12_translate_150 : decode cX12_translate 150 = .ok (.ior, 1) := by decide +kernel
theorem dX12_translate_151 : decode cX12_translate 151 = .ok (.iastore, 1) := by decide +kernel
theorem dX12_translate_152 : decode cX12_translate 152 = .ok (.aload_n 0, 1) := by decide +kernel
theorem dX12_translate_153 : decode cX12_translate 153 = .ok (.getfield 16, 3) := by decide +kernel
theorem dX12_translate_156 : decode cX12_translate 156 = .ok (.iconst 2, 1) := by decide +kernel
theorem dX12_translate_157 : decode cX12_translate 157 = .ok (.aload_n 0, 1) := by decide +kernel
theorem dX12_translate_158 : decode cX12_translate 158 = .ok (.getfield 16, 3) := by decide +kernel
theorem dX12_translate_161 : decode cX12_translate 161 = .ok (.iconst 2, 1) := by decide +kernel
theorem dX12_translate_162 : decode cX12_translate 162 = .ok (.iaload, 1) := by decide +kernel
theorem dX12_translate_163 : decode cX12_translate 163 = .ok (.sipush (-256), 3) := by decide +kernel
theorem dX12_translate_166 : decode cX12_translate 166 = .ok (.iand, 1) := by decide +kernel
theorem dX12_translate_167 : decode cX12_translate 167 = .ok (.iload 6, 2) := by decide +kernel
theorem dX12_translate_169 : decode cX12_translate 169 = .ok (.ior, 1) := by decide +kernel
theorem dX12_translate_170 : decode cX12_translate 170 = .ok (.iastore, 1) := by decide +kernel
theorem dX12_translate_171 : decode cX12_translate 171 = .ok (.aload_n 0, 1) := by decide +kernel
theorem dX12_translate_172 : decode cX12_translate 172 = .ok (.iload 5, 2) := by decide +kernel
theorem dX12_translate_174 : decode cX12_translate 174 = .ok (.iload_n 2, 1) := by decide +kernel
theorem dX12_translate_175 : decode cX12_translate 175 = .ok (.iconst 1, 1) := by decide +kernel
theorem dX12_translate_176 : decode cX12_translate 176 = .ok (.isub, 1) := by decide +kernel
theorem dX12_translate_177 : decode cX12_translate 177 = .ok (.if_icmp .ne 7, 3) := by decide +kernel
theorem dX12_translate_180 : decode cX12_translate 180 = .ok (.iconst 2, 1) := by decide +kernel
theorem dX12_translate_181 : decode cX12_translate 181 = .ok (.goto 4, 3) := by decide +kernel
theorem dX12_translate_184 : decode cX12_translate 184 = .ok (.iconst 1, 1) := by decide +kernel
theorem dX12_translate_185 : decode cX12_translate 185 = .ok (.putfield 47, 3) := by decide +kernel
theorem dX12_translate_188 : decode cX12_translate 188 = .ok (.return_, 1) := by decide +kernel
theorem dX12_translate_189 : decode cX12_translate 189 = .ok (.iinc 5 1, 3) := by decide +kernel
theorem dX12_translate_192 : decode cX12_translate 192 = .ok (.goto (-111), 3) := by decide +kernel
theorem dX12_translate_195 : decode cX12_translate 195 = .ok (.return_, 1) := by decide +kernel
theorem dX12_half_0 : decode cX12_half 0 = .ok (.iload_n 1, 1) := by decide +kernel
theorem dX12_half_1 : decode cX12_half 1 = .ok (.iconst 2, 1) := by decide +kernel
theorem dX12_half_2 : decode cX12_half 2 = .ok (.idiv, 1) := by decide +kernel
theorem dX12_half_3 : decode cX12_half 3 = .ok (.iload_n 2, 1) := by decide +kernel
theorem dX12_half_4 : decode cX12_half 4 = .ok (.if_icmp .ge 18, 3) := by decide +kernel
theorem dX12_half_7 : decode cX12_half 7 = .ok (.aload_n 0, 1) := by decide +kernel
theorem dX12_half_8 : decode cX12_half 8 = .ok (.getfield 37, 3) := by decide +kernel
theorem dX12_half_11 : decode cX12_half 11 = .ok (.iload_n 2, 1) := by decide +kernel
theorem dX12_half_12 : decode cX12_half 12 = .ok (.iconst 1, 1) := by decide +kernel
theorem dX12_half_13 : decode cX12_half 13 = .ok (.isub, 1) := by decide +kernel
theorem dX12_half_14 : decode cX12_half 14 = .ok (.iload_n 1, 1) := by decide +kernel
theorem dX12_half_15 : decode cX12_half 15 = .ok (.iconst 2, 1) := by decide +kernel
theorem dX12_half_16 : decode cX12_half 16 = .ok (.idiv, 1) := by decide +kernel
theorem dX12_half_17 : decode cX12_half 17 = .ok (.isub, 1) := by decide +kernel
theorem dX12_half_18 : decode cX12_half 18 = .ok (.iaload, 1) := by decide +kernel
theorem dX12_half_19 : decode cX12_half 19 = .ok (.goto 4, 3) := by decide +kernel
theorem dX12_half_22 : decode cX12_half 22 = .ok (.iconst 0, 1) := by decide +kernel
theorem dX12_half_23 : decode cX12_half 23 = .ok (.istore_n 3, 1) := by decide +kernel
theorem dX12_half_24 : decode cX12_half 24 = .ok (.iload_n 1, 1) := by decide +kernel
theorem dX12_half_25 : decode cX12_half 25 = .ok (.iconst 2, 1) := by decide +kernel
theorem dX12_half_26 : decode cX12_half 26 = .ok (.irem, 1) := by decide +kernel
theorem dX12_half_27 : decode cX12_half 27 = .ok (.ifCond .ne 10, 3) := by decide +kernel
theorem dX12_half_30 : decode cX12_half 30 = .ok (.iload_n 3, 1) := by decide +kernel
theorem dX12_half_31 : decode cX12_half 31 = .ok (.bipush 15, 2) := by decide +kernel
theorem dX12_half_33 : decode cX12_half 33 = .ok (.iand, 1) := by decide +kernel
theorem dX12_half_34 : decode cX12_half 34 = .ok (.goto 6, 3) := by decide +kernel
theorem dX12_half_37 : decode cX12_half 37 = .ok (.iload_n 3, 1) := by decide +kernel
theorem dX12_half_38 : decode cX12_half 38 = .ok (.iconst 4, 1) := by decide +kernel
theorem dX12_half_39 : decode cX12_half 39 = .ok (.ishr, 1) := by decide +kernel
theorem dX12_half_40 : decode cX12_half 40 = .ok (.ireturn, 1) := by decide +kernel
theorem dX12_halves_0 : decode cX12_halves 0 = .ok (.aload_n 0, 1) := by decide +kernel
theorem dX12_halves_1 : decode cX12_halves 1 = .ok (.iload 4, 2) := by decide +kernel
theorem dX12_halves_3 : decode cX12_halves 3 = .ok (.iload_n 2, 1) := by decide +kernel
theorem dX12_halves_4 : decode cX12_halves 4 = .ok (.iconst 1, 1) := by decide +kernel
theorem dX12_halves_5 : decode cX12_halves 5 = .ok (.invokevirtual 121, 3) := by decide +kernel
theorem dX12_halves_8 : decode cX12_halves 8 = .ok (.aload_n 0, 1) := by decide +kernel
theorem dX12_halves_9 : decode cX12_halves 9 = .ok (.iload 5, 2) := by decide +kernel
theorem dX12_halves_11 : decode cX12_halves 11 = .ok (.iload_n 3, 1) := by decide +kernel
theorem dX12_halves_12 : decode cX12_halves 12 = .ok (.iconst 0, 1) := by decide +kernel
theorem dX12_halves_13 : decode cX12_halves 13 = .ok (.invokevirtual 121, 3) := by decide +kernel
theorem dX12_halves_16 : decode cX12_halves 16 = .ok (.aload_n 0, 1) := by decide +kernel
theorem dX12_halves_17 : decode cX12_halves 17 = .ok (.getfield 104, 3) := by decide +kernel
theorem dX12_halves_20 : decode cX12_halves 20 = .ok (.ifCond .le 4, 3) := by decide +kernel
theorem dX12_halves_23 : decode cX12_halves 23 = .ok (.return_, 1) := by decide +kernel
theorem dX12_halves_24 : decode cX12_halves 24 = .ok (.iconst 0, 1) := by decide +kernel
theorem dX12_halves_25 : decode cX12_halves 25 = .ok (.istore 6, 2) := by decide +kernel
theorem dX12_halves_27 : decode cX12_halves 27 = .ok (.iload 6, 2) := by decide +kernel
theorem dX12_halves_29 : decode cX12_halves 29 = .ok (.iload_n 3, 1) := by decide +kernel
theorem dX12_halves_30 : decode cX12_halves 30 = .ok (.if_icmp .ge 26, 3) := by decide +kernel
theorem dX12_halves_33 : decode cX12_halves 33 = .ok (.aload_n 0, 1) := by decide +kernel
theorem dX12_halves_34 : decode cX12_halves 34 = .ok (.getfield 37, 3) := by decide +kernel
theorem dX12_halves_37 : decode cX12_halves 37 = .ok (.iload 6, 2) := by decide +kernel
theorem dX12_halves_39 : decode cX12_halves 39 = .ok (.aload_n 0, 1) := by decide +kernel
theorem dX12_halves_40 : decode cX12_halves 40 = .ok (.getfield 7, 3) := by decide +kernel
theorem dX12_halves_43 : decode cX12_halves 43 = .ok (.iload 5, 2) := by decide +kernel
theorem dX12_halves_45 : decode cX12_halves 45 = .ok (.iload 6, 2) := by decide +kernel
theorem dX12_halves_47 : decode cX12_halves 47 = .ok (.iadd, 1) := by decide +kernel
theorem dX12_halves_48 : decode cX12_halves 48 = .ok (.iaload, 1) := by decide +kernel
theorem dX12_halves_49 : decode cX12_halves 49 = .ok (.iastore, 1) := by decide +kernel
theorem dX12_halves_50 : decode cX12_halves 50 = .ok (.iinc 6 1, 3) := by decide +kernel
theorem dX12_halves_53 : decode cX12_halves 53 = .ok (.goto (-26), 3) := by decide +kernel
theorem dX12_halves_56 : decode cX12_halves 56 = .ok (.aload_n 0, 1) := by decide +kernel
theorem dX12_halves_57 : decode cX12_halves 57 = .ok (.getfield 7, 3) := by decide +kernel
theorem dX12_halves_60 : decode cX12_halves 60 = .ok (.iload 4, 2) := by decide +kernel
theorem dX12_halves_62 : decode cX12_halves 62 = .ok (.iload_n 2, 1) := by decide +kernel
theorem dX12_halves_63 : decode cX12_halves 63 = .ok (.iadd, 1) := by decide +kernel
theorem dX12_halves_64 : decode cX12_halves 64 = .ok (.iconst 1, 1) := by decide +kernel
theorem dX12_halves_65 : decode cX12_halves 65 = .ok (.isub, 1) := by decide +kernel
theorem dX12_halves_66 : decode cX12_halves 66 = .ok (.iaload, 1) := by decide +kernel
theorem dX12_halves_67 : decode cX12_halves 67 = .ok (.istore 6, 2) := by decide +kernel
theorem dX12_halves_69 : decode cX12_halves 69 = .ok (.iconst 0, 1) := by decide +kernel
theorem dX12_halves_70 : decode cX12_halves 70 = .ok (.istore 7, 2) := by decide +kernel
theorem dX12_halves_72 : decode cX12_halves 72 = .ok (.iload 7, 2) := by decide +kernel
theorem dX12_halves_74 : decode cX12_halves 74 = .ok (.iload_n 2, 1) := by decide +kernel
theorem dX12_halves_75 : decode cX12_halves 75 = .ok (.if_icmp .ge 160, 3) := by decide +kernel
theorem dX12_halves_78 : decode cX12_halves 78 = .ok (.iconst 0, 1) := by decide +kernel
theorem dX12_halves_79 : decode cX12_halves 79 = .ok (.istore 8, 2) := by decide +kernel
theorem dX12_halves_81 : decode cX12_halves 81 = .ok (.iload_n 1, 1) := by decide +kernel
theorem dX12_halves_82 : decode cX12_halves 82 = .ok (.sipush 241, 3) := by decide +kernel
theorem dX12_halves_85 : decode cX12_halves 85 = .ok (.if_icmp .ne 53, 3) := by decide +kernel
theorem dX12_halves_88 : decode cX12_halves 88 = .ok (.iload 7, 2) := by decide +kernel
theorem dX12_halves_90 : decode cX12_halves 90 = .ok (.ifCond .ne 20, 3) := by decide +kernel
theorem dX12_halves_93 : decode cX12_halves 93 = .ok (.aload_n 0, 1) := by decide +kernel
theorem dX12_halves_94 : decode cX12_halves 94 = .ok (.iconst 0, 1) := by decide +kernel
theorem dX12_halves_95 : decode cX12_halves 95 = .ok (.iload_n 3, 1) := by decide +kernel
theorem dX12_halves_96 : decode cX12_halves 96 = .ok (.invokevirtual 250, 3) := by decide +kernel
theorem dX12_halves_99 : decode cX12_halves 99 = .ok (.iconst 4, 1) := by decide +kernel
theorem dX12_halves_100 : decode cX12_halves 100 = .ok (.ishl, 1) := by decide +kernel
theorem dX12_halves_101 : decode cX12_halves 101 = .ok (.iload 6, 2) := by decide +kernel
theorem dX12_halves_103 : decode cX12_halves 103 = .ok (.bipush 15, 2) := by decide +kernel
theorem dX12_halves_105 : decode cX12_halves 105 = .ok (.iand, 1) := by decide +kernel
theorem dX12_halves_106 : decode cX12_halves 106 = .ok (.ior, 1) := by decide +kernel
theorem dX12_halves_107 : decode cX12_halves 107 = .ok (.goto 26, 3) := by decide +kernel
theorem dX12_halves_110 : decode cX12_halves 110 = .ok (.aload_n 0, 1) := by decide +kernel
theorem dX12_halves_111 : decode cX12_halves 111 = .ok (.iconst 2, 1) := by decide +kernel
theorem dX12_halves_112 : decode cX12_halves 112 = .ok (.iload 7, 2) := by decide +kernel
theorem dX12_halves_114 : decode cX12_halves 114 = .ok (.imul, 1) := by decide +kernel
theorem dX12_halves_115 : decode cX12_halves 115 = .ok (.iload_n 3, 1) := by decide +kernel
theorem dX12_halves_116 : decode cX12_halves 116 = .ok (.invokevirtual 250, 3) := by decide +kernel
theorem dX12_halves_119 : decode cX12_halves 119 = .ok (.iconst 4, 1) := by decide +kernel
theorem dX12_halves_120 : decode cX12_halves 120 = .ok (.ishl, 1) := by decide +kernel
theorem dX12_halves_121 : decode cX12_halves 121 = .ok (.aload_n 0, 1) := by decide +kernel
theorem dX12_halves_122 : decode cX12_halves 122 = .ok (.iconst 2, 1) := by decide +kernel
theorem dX12_halves_123 : decode cX12_halves 123 = .ok (.iload 7, 2) := by decide +kernel
theorem dX12_halves_125 : decode cX12_halves 125 = .ok (.imul, 1) := by decide +kernel
theorem dX12_halves_126 : decode cX12_halves 126 = .ok (.iconst 1, 1) := by decide +kernel
theorem dX12_halves_127 : decode cX12_halves 127 = .ok (.isub, 1) := by decide +kernel
theorem dX12_halves_128 : decode cX12_halves 128 = .ok (.iload_n 3, 1) := by decide +kernel
theorem dX12_halves_129 : decode cX12_halves 129 = .ok (.invokevirtual 250, 3) := by decide +kernel
theorem dX12_halves_132 : decode cX12_halves 132 = .ok (.ior, 1) := by decide +kernel
theorem dX12_halves_133 : decode cX12_halves 133 = .ok (.istore 8, 2) := by decide +kernel
theorem dX12_halves_135 : decode cX12_halves 135 = .ok (.goto 78, 3) := by decide +kernel
theorem dX12_halves_138 : decode cX12_halves 138 = .ok (.iload 7, 2) := by decide +kernel
theorem dX12_halves_140 : decode cX12_halves 140 = .ok (.ifCond .ne 23, 3) := by decide +kernel
theorem dX12_halves_143 : decode cX12_halves 143 = .ok (.aload_n 0, 1) := by decide +kernel
theorem dX12_halves_144 : decode cX12_halves 144 = .ok (.iconst 0, 1) := by decide +kernel
theorem dX12_halves_145 : decode cX12_halves 145 = .ok (.iload_n 3, 1) := by decide +kernel
theorem dX12_halves_146 : decode cX12_halves 146 = .ok (.invokevirtual 250, 3) := by decide +kernel
theorem dX12_halves_149 : decode cX12_halves 149 = .ok (.iconst 4, 1) := by decide +kernel
theorem dX12_halves_150 : decode cX12_halves 150 = .ok (.ishl, 1) := by decide +kernel
theorem dX12_halves_151 : decode cX12_halves 151 = .ok (.aload_n 0, 1) := by decide +kernel
theorem dX12_halves_152 : decode cX12_halves 152 = .ok (.iconst 1, 1) := by decide +kernel
theorem dX12_halves_153 : decode cX12_halves 153 = .ok (.iload_n 3, 1) := by decide +kernel
theorem dX12_halves_154 : decode cX12_halves 154 = .ok (.invokevirtual 250, 3) := by decide +kernel
theorem dX12_halves_157 : decode cX12_halves 157 = .ok (.ior, 1) := by decide +kernel
theorem dX12_halves_158 : decode cX12_halves 158 = .ok (.istore 8, 2) := by decide +kernel
theorem dX12_halves_160 : decode cX12_halves 160 = .ok (.goto 53, 3) := by decide +kernel
theorem dX12_halves_163 : decode cX12_halves 163 = .ok (.iload_n 1, 1) := by decide +kernel
theorem dX12_halves_164 : decode cX12_halves 164 = .ok (.sipush 242, 3) := by decide +kernel
theorem dX12_halves_167 : decode cX12_halves 167 = .ok (.if_icmp .ne 31, 3) := by decide +kernel
theorem dX12_halves_170 : decode cX12_halves 170 = .ok (.aload_n 0, 1) := by decide +kernel
theorem dX12_halves_171 : decode cX12_halves 171 = .ok (.iconst 4, 1) := by decide +kernel
theorem dX12_halves_172 : decode cX12_halves 172 = .ok (.iload 7, 2) := by decide +kernel
theorem dX12_halves_174 : decode cX12_halves 174 = .ok (.imul, 1) := by decide +kernel
theorem dX12_halves_175 : decode cX12_halves 175 = .ok (.iload_n 3, 1) := by decide +kernel
theorem dX12_halves_176 : decode cX12_halves 176 = .ok (.invokevirtual 250, 3) := by decide +kernel
theorem dX12_halves_179 : decode cX12_halves 179 = .ok (.iconst 4, 1) := by decide +kernel
theorem dX12_halves_180 : decode cX12_halves 180 = .ok (.ishl, 1) := by decide +kernel
theorem dX12_halves_181 : decode cX12_halves 181 = .ok (.aload_n 0, 1) := by decide +kernel
theorem dX12_halves_182 : decode cX12_halves 182 = .ok (.iconst 4, 1) := by decide +kernel
theorem dX12_halves_183 : decode cX12_halves 183 = .ok (.iload 7, 2) := by decide +kernel
theorem dX12_halves_185 : decode cX12_halves 185 = .ok (.imul, 1) := by decide +kernel
theorem dX12_halves_186 : decode cX12_halves 186 = .ok (.iconst 2, 1) := by decide +kernel
theorem dX12_halves_187 : decode cX12_halves 187 = .ok (.isub, 1) := by decide +kernel
theorem dX12_halves_188 : decode cX12_halves 188 = .ok (.iload_n 3, 1) := by decide +kernel
theorem dX12_halves_189 : decode cX12_halves 189 = .ok (.invokevirtual 250, 3) := by decide +kernel
theorem dX12_halves_192 : decode cX12_halves 192 = .ok (.ior, 1) := by decide +kernel
theorem dX12_halves_193 : decode cX12_halves 193 = .ok (.istore 8, 2) := by decide +kernel
theorem dX12_halves_195 : decode cX12_halves 195 = .ok (.goto 18, 3) := by decide +kernel
theorem dX12_halves_198 : decode cX12_halves 198 = .ok (.sipush 240, 3) := by decide +kernel
theorem dX12_halves_201 : decode cX12_halves 201 = .ok (.aload_n 0, 1) := by decide +kernel
theorem dX12_halves_202 : decode cX12_halves 202 = .ok (.iload 7, 2) := by decide +kernel
theorem dX12_halves_204 : decode cX12_halves 204 = .ok (.iconst 1, 1) := by decide +kernel
theorem dX12_halves_205 : decode cX12_halves 205 = .ok (.iadd, 1) := by decide +kernel
theorem dX12_halves_206 : decode cX12_halves 206 = .ok (.iload_n 3, 1) := by decide +kernel
theorem dX12_halves_207 : decode cX12_halves 207 = .ok (.invokevirtual 250, 3) := by decide +kernel
theorem dX12_halves_210 : decode cX12_halves 210 = .ok (.ior, 1) := by decide +kernel
theorem dX12_halves_211 : decode cX12_halves 211 = .ok (.istore 8, 2) := by decide +kernel
theorem dX12_halves_213 : decode cX12_halves 213 = .ok (.aload_n 0, 1) := by decide +kernel
theorem dX12_halves_214 : decode cX12_halves 214 = .ok (.getfield 7, 3) := by decide +kernel
theorem dX12_halves_217 : decode cX12_halves 217 = .ok (.iload 4, 2) := by decide +kernel
theorem dX12_halves_219 : decode cX12_halves 219 = .ok (.iload_n 2, 1) := by decide +kernel
theorem dX12_halves_220 : decode cX12_halves 220 = .ok (.iadd, 1) := by decide +kernel
theorem dX12_halves_221 : decode cX12_halves 221 = .ok (.iconst 1, 1) := by decide +kernel
theorem dX12_halves_222 : decode cX12_halves 222 = .ok (.isub, 1) := by decide +kernel
theorem dX12_halves_223 : decode cX12_halves 223 = .ok (.iload 7, 2) := by decide +kernel
theorem dX12_halves_225 : decode cX12_halves 225 = .ok (.isub, 1) := by decide +kernel
theorem dX12_halves_226 : decode cX12_halves 226 = .ok (.iload 8, 2) := by decide +kernel
theorem dX12_halves_228 : decode cX12_halves 228 = .ok (.iastore, 1) := by decide +kernel
theorem dX12_halves_229 : decode cX12_halves 229 = .ok (.iinc 7 1, 3) := by decide +kernel
theorem dX12_halves_232 : decode cX12_halves 232 = .ok (.goto (-160), 3) := by decide +kernel
theorem dX12_halves_235 : decode cX12_halves 235 = .ok (.return_, 1) := by decide +kernel
theorem dX12_decimals_0 : decode cX12_decimals 0 = .ok (.iload_n 1, 1) := by decide +kernel
theorem dX12_decimals_1 : decode cX12_decimals 1 = .ok (.sipush 252, 3) := by decide +kernel
theorem dX12_decimals_4 : decode cX12_decimals 4 = .ok (.if_icmp .eq 10, 3) := by decide +kernel
theorem dX12_decimals_7 : decode cX12_decimals 7 = .ok (.iload_n 1, 1) := by decide +kernel
theorem dX12_decimals_8 : decode cX12_decimals 8 = .ok (.sipush 253, 3) := by decide +kernel
theorem dX12_decimals_11 : decode cX12_decimals 11 = .ok (.if_icmp .ne 7, 3) := by decide +kernel
theorem dX12_decimals_14 : decode cX12_decimals 14 = .ok (.iconst 1, 1) := by decide +kernel
theorem dX12_decimals_15 : decode cX12_decimals 15 = .ok (.goto 4, 3) := by decide +kernel
theorem dX12_decimals_18 : decode cX12_decimals 18 = .ok (.iconst 0, 1) := by decide +kernel
theorem dX12_decimals_19 : decode cX12_decimals 19 = .ok (.istore 6, 2) := by decide +kernel
theorem dX12_decimals_21 : decode cX12_decimals 21 = .ok (.aload_n 0, 1) := by decide +kernel
theorem dX12_decimals_22 : decode cX12_decimals 22 = .ok (.iload 4, 2) := by decide +kernel
theorem dX12_decimals_24 : decode cX12_decimals 24 = .ok (.iload_n 2, 1) := by decide +kernel
theorem dX12_decimals_25 : decode cX12_decimals 25 = .ok (.iconst 1, 1) := by decide +kernel
theorem dX12_decimals_26 : decode cX12_decimals 26 = .ok (.iadd, 1) := by decide +kernel
theorem dX12_decimals_27 : decode cX12_decimals 27 = .ok (.iload_n 1, 1) := by decide +kernel
theorem dX12_decimals_28 : decode cX12_decimals 28 = .ok (.sipush 249, 3) := by decide +kernel
theorem dX12_decimals_31 : decode cX12_decimals 31 = .ok (.if_icmp .eq 7, 3) := by decide +kernel
theorem dX12_decimals_34 : decode cX12_decimals 34 = .ok (.iconst 1, 1) := by decide +kernel
theorem dX12_decimals_35 : decode cX12_decimals 35 = .ok (.goto 4, 3) := by decide +kernel
theorem dX12_decimals_38 : decode cX12_decimals 38 = .ok (.iconst 0, 1) := by decide +kernel
theorem dX12_decimals_39 : decode cX12_decimals 39 = .ok (.invokevirtual 121, 3) := by decide +kernel
theorem dX12_decimals_42 : decode cX12_decimals 42 = .ok (.aload_n 0, 1) := by decide +kernel
theorem dX12_decimals_43 : decode cX12_decimals 43 = .ok (.iload 5, 2) := by decide +kernel
theorem dX12_decimals_45 : decode cX12_decimals 45 = .ok (.iload_n 3, 1) := by decide +kernel
theorem dX12_decimals_46 : decode cX12_decimals 46 = .ok (.iconst 1, 1) := by decide +kernel
theorem dX12_decimals_47 : decode cX12_decimals 47 = .ok (.iadd, 1) := by decide +kernel
theorem dX12_decimals_48 : decode cX12_decimals 48 = .ok (.iconst 0, 1) := by decide +kernel
theorem dX12_decimals_49 : decode cX12_decimals 49 = .ok (.invokevirtual 121, 3) := by decide +kernel
theorem dX12_decimals_52 : decode cX12_decimals 52 = .ok (.iload 6, 2) := by decide +kernel
theorem dX12_decimals_54 : decode cX12_decimals 54 = .ok (.ifCond .eq 20, 3) := by decide +kernel
theorem dX12_decimals_57 : decode cX12_decimals 57 = .ok (.iload_n 3, 1) := by decide +kernel
theorem dX12_decimals_58 : decode cX12_decimals 58 = .ok (.bipush 7, 2) := by decide +kernel
theorem dX12_decimals_60 : decode cX12_decimals 60 = .ok (.if_icmp .gt 8, 3) := by decide +kernel
theorem dX12_decimals_63 : decode cX12_decimals 63 = .ok (.iload_n 3, 1) := by decide +kernel
theorem dX12_decimals_64 : decode cX12_decimals 64 = .ok (.iload_n 2, 1) := by decide +kernel
theorem dX12_decimals_65 : decode cX12_decimals 65 = .ok (.if_icmp .lt 9, 3) := by decide +kernel
theorem dX12_decimals_68 : decode cX12_decimals 68 = .ok (.aload_n 0, 1) := by decide +kernel
theorem dX12_decimals_69 : decode cX12_decimals 69 = .ok (.bipush 6, 2) := by decide +kernel
theorem dX12_decimals_71 : decode cX12_decimals 71 = .ok (.invokevirtual 107, 3) := by decide +kernel
theorem dX12_decimals_74 : decode cX12_decimals 74 = .ok (.aload_n 0, 1) := by decide +kernel
theorem dX12_decimals_75 : decode cX12_decimals 75 = .ok (.getfield 104, 3) := by decide +kernel
theorem dX12_decimals_78 : decode cX12_decimals 78 = .ok (.ifCond .le 4, 3) := by decide +kernel
theorem dX12_decimals_81 : decode cX12_decimals 81 = .ok (.return_, 1) := by decide +kernel
theorem dX12_decimals_82 : decode cX12_decimals 82 = .ok (.aload_n 0, 1) := by decide +kernel
theorem dX12_decimals_83 : decode cX12_decimals 83 = .ok (.iload 5, 2) := by decide +kernel
theorem dX12_decimals_85 : decode cX12_decimals 85 = .ok (.iload_n 3, 1) := by decide +kernel
theorem dX12_decimals_86 : decode cX12_decimals 86 = .ok (.iconst 1, 1) := by decide +kernel
theorem dX12_decimals_87 : decode cX12_decimals 87 = .ok (.iadd, 1) := by decide +kernel
theorem dX12_decimals_88 : decode cX12_decimals 88 = .ok (.iconst 0, 1) := by decide +kernel
theorem dX12_decimals_89 : decode cX12_decimals 89 = .ok (.invokevirtual 209, 3) := by decide +kernel
theorem dX12_decimals_92 : decode cX12_decimals 92 = .ok (.iload_n 1, 1) := by decide +kernel
theorem dX12_decimals_93 : decode cX12_decimals 93 = .ok (.sipush 248, 3) := by decide +kernel
theorem dX12_decimals_96 : decode cX12_decimals 96 = .ok (.if_icmp .eq 56, 3) := by decide +kernel
theorem dX12_decimals_99 : decode cX12_decimals 99 = .ok (.aload_n 0, 1) := by decide +kernel
theorem dX12_decimals_100 : decode cX12_decimals 100 = .ok (.getfield 104, 3) := by decide +kernel
theorem dX12_decimals_103 : decode cX12_decimals 103 = .ok (.ifCond .le 7, 3) := by decide +kernel
theorem dX12_decimals_106 : decode cX12_decimals 106 = .ok (.iconst 1, 1) := by decide +kernel
theorem dX12_decimals_107 : decode cX12_decimals 107 = .ok (.goto 4, 3) := by decide +kernel
theorem dX12_decimals_110 : decode cX12_decimals 110 = .ok (.iconst 0, 1) := by decide +kernel
theorem dX12_decimals_111 : decode cX12_decimals 111 = .ok (.istore 7, 2) := by decide +kernel
theorem dX12_decimals_113 : decode cX12_decimals 113 = .ok (.aload_n 0, 1) := by decide +kernel
theorem dX12_decimals_114 : decode cX12_decimals 114 = .ok (.getfield 104, 3) := by decide +kernel
theorem dX12_decimals_117 : decode cX12_decimals 117 = .ok (.istore 8, 2) := by decide +kernel
theorem dX12_decimals_119 : decode cX12_decimals 119 = .ok (.aload_n 0, 1) := by decide +kernel
theorem dX12_decimals_120 : decode cX12_decimals 120 = .ok (.iconst 0, 1) := by decide +kernel
theorem dX12_decimals_121 : decode cX12_decimals 121 = .ok (.putfield 104, 3) := by decide +kernel
theorem dX12_decimals_124 : decode cX12_decimals 124 = .ok (.aload_n 0, 1) := by decide +kernel
theorem dX12_decimals_125 : decode cX12_decimals 125 = .ok (.iload 4, 2) := by decide +kernel
theorem dX12_decimals_127 : decode cX12_decimals 127 = .ok (.iload_n 2, 1) := by decide +kernel
theorem dX12_decimals_128 : decode cX12_decimals 128 = .ok (.iconst 1, 1) := by decide +kernel
theorem dX12_decimals_129 : decode cX12_decimals 129 = .ok (.iadd, 1) := by decide +kernel
theorem dX12_decimals_130 : decode cX12_decimals 130 = .ok (.iconst 1, 1) := by decide +kernel
theorem dX12_decimals_131 : decode cX12_decimals 131 = .ok (.invokevirtual 209, 3) := by decide +kernel
theorem dX12_decimals_134 : decode cX12_decimals 134 = .ok (.aload_n 0, 1) := by decide +kernel
theorem dX12_decimals_135 : decode cX12_decimals 135 = .ok (.iload 7, 2) := by decide +kernel
theorem dX12_decimals_137 : decode cX12_decimals 137 = .ok (.ifCond .eq 8, 3) := by decide +kernel
theorem dX12_decimals_140 : decode cX12_decimals 140 = .ok (.iload 8, 2) := by decide +kernel
theorem dX12_decimals_142 : decode cX12_decimals 142 = .ok (.goto 7, 3) := by decide +kernel
theorem dX12_decimals_145 : decode cX12_decimals 145 = .ok (.aload_n 0, 1) := by decide +kernel
theorem dX12_decimals_146 : decode cX12_decimals 146 = .ok (.getfield 104, 3) := by decide +kernel
theorem dX12_decimals_149 : decode cX12_decimals 149 = .ok (.putfield 104, 3) := by decide +kernel
theorem dX12_decimals_152 : decode cX12_decimals 152 = .ok (.iconst 0, 1) := by decide +kernel
theorem dX12_decimals_153 : decode cX12_decimals 153 = .ok (.istore 7, 2) := by decide +kernel
theorem dX12_decimals_155 : decode cX12_decimals 155 = .ok (.iload 7, 2) := by decide +kernel
theorem dX12_decimals_157 : decode cX12_decimals 157 = .ok (.iload_n 3, 1) := by decide +kernel
theorem dX12_decimals_158 : decode cX12_decimals 158 = .ok (.if_icmp .gt 35, 3) := by decide +kernel
theorem dX12_decimals_161 : decode cX12_decimals 161 = .ok (.iload_n 1, 1) := by decide +kernel
theorem dX12_decimals_162 : decode cX12_decimals 162 = .ok (.sipush 252, 3) := by decide +kernel
theorem dX12_decimals_165 : decode cX12_decimals 165 = .ok (.if_icmp .ne 28, 3) := by decide +kernel
theorem dX12_decimals_168 : decode cX12_decimals 168 = .ok (.aload_n 0, 1) := by decide +kernel
theorem dX12_decimals_169 : decode cX12_decimals 169 = .ok (.getfield 7, 3) := by decide +kernel
theorem dX12_decimals_172 : decode cX12_decimals 172 = .ok (.iload 4, 2) := by decide +kernel
theorem dX12_decimals_174 : decode cX12_decimals 174 = .ok (.iload 7, 2) := by decide +kernel
theorem dX12_decimals_176 : decode cX12_decimals 176 = .ok (.iadd, 1) := by decide +kernel
theorem dX12_decimals_177 : decode cX12_decimals 177 = .ok (.iaload, 1) := by decide +kernel
theorem dX12_decimals_178 : decode cX12_decimals 178 = .ok (.ifCond .eq 9, 3) := by decide +kernel
theorem dX12_decimals_181 : decode cX12_decimals 181 = .ok (.aload_n 0, 1) := by decide +kernel
theorem dX12_decimals_182 : decode cX12_decimals 182 = .ok (.bipush 7, 2) := by decide +kernel
theorem dX12_decimals_184 : decode cX12_decimals 184 = .ok (.invokevirtual 107, 3) := by decide +kernel
theorem dX12_decimals_187 : decode cX12_decimals 187 = .ok (.iinc 7 1, 3) := by decide +kernel
theorem dX12_decimals_190 : decode cX12_decimals 190 = .ok (.goto (-35), 3) := by decide +kernel
theorem dX12_decimals_193 : decode cX12_decimals 193 = .ok (.aload_n 0, 1) := by decide +kernel
theorem dX12_decimals_194 : decode cX12_decimals 194 = .ok (.getfield 104, 3) := by decide +kernel
theorem dX12_decimals_197 : decode cX12_decimals 197 = .ok (.ifCond .le 4, 3) := by decide +kernel
theorem dX12_decimals_200 : decode cX12_decimals 200 = .ok (.return_, 1) := by decide +kernel
theorem dX12_decimals_201 : decode cX12_decimals 201 = .ok (.iload_n 1, 1) := by decide +kernel
theorem dX12_decimals_202 : decode cX12_decimals 202 = .ok (.sipush 248, 3) := by decide +kernel
theorem dX12_decimals_205 : decode cX12_decimals 205 = .ok (.if_icmp .ne 49, 3) := by decide +kernel
theorem dX12_decimals_208 : decode cX12_decimals 208 = .ok (.iconst 0, 1) := by decide +kernel
theorem dX12_decimals_209 : decode cX12_decimals 209 = .ok (.istore 7, 2) := by decide +kernel
theorem dX12_decimals_211 : decode cX12_decimals 211 = .ok (.iload 7, 2) := by decide +kernel
theorem dX12_decimals_213 : decode cX12_decimals 213 = .ok (.bipush 80, 2) := by decide +kernel
theorem dX12_decimals_215 : decode cX12_decimals 215 = .ok (.if_icmp .ge 23, 3) := by decide +kernel
theorem dX12_decimals_218 : decode cX12_decimals 218 = .ok (.aload_n 0, 1) := by decide +kernel
theorem dX12_decimals_219 : decode cX12_decimals 219 = .ok (.getfield 31, 3) := by decide +kernel
theorem dX12_decimals_222 : decode cX12_decimals 222 = .ok (.iload 7, 2) := by decide +kernel
theorem dX12_decimals_224 : decode cX12_decimals 224 = .ok (.aload_n 0, 1) := by decide +kernel
theorem dX12_decimals_225 : decode cX12_decimals 225 = .ok (.getfield 28, 3) := by decide +kernel
theorem dX12_decimals_228 : decode cX12_decimals 228 = .ok (.iload 7, 2) := by decide +kernel
theorem dX12_decimals_230 : decode cX12_decimals 230 = .ok (.iaload, 1) := by decide +kernel
theorem dX12_decimals_231 : decode cX12_decimals 231 = .ok (.iastore, 1) := by decide +kernel
theorem dX12_decimals_232 : decode cX12_decimals 232 = .ok (.iinc 7 1, 3) := by decide +kernel
theorem dX12_decimals_235 : decode cX12_decimals 235 = .ok (.goto (-24), 3) := by decide +kernel
theorem dX12_decimals_238 : decode cX12_decimals 238 = .ok (.aload_n 0, 1) := by decide +kernel
theorem dX12_decimals_239 : decode cX12_decimals 239 = .ok (.iload 4, 2) := by decide +kernel
theorem dX12_decimals_241 : decode cX12_decimals 241 = .ok (.iload_n 2, 1) := by decide +kernel
theorem dX12_decimals_242 : decode cX12_decimals 242 = .ok (.iconst 1, 1) := by decide +kernel
theorem dX12_decimals_243 : decode cX12_decimals 243 = .ok (.iadd, 1) := by decide +kernel
theorem dX12_decimals_244 : decode cX12_decimals 244 = .ok (.aload_n 0, 1) := by decide +kernel
theorem dX12_decimals_245 : decode cX12_decimals 245 = .ok (.getfield 163, 3) := by decide +kernel
theorem dX12_decimals_248 : decode cX12_decimals 248 = .ok (.invokevirtual 182, 3) := by decide +kernel
theorem dX12_decimals_251 : decode cX12_decimals 251 = .ok (.goto 79, 3) := by decide +kernel
theorem dX12_decimals_254 : decode cX12_decimals 254 = .ok (.iload_n 1, 1) := by decide +kernel
theorem dX12_decimals_255 : decode cX12_decimals 255 = .ok (.sipush 252, 3) := by decide +kernel
theorem dX12_decimals_258 : decode cX12_decimals 258 = .ok (.if_icmp .ne 14, 3) := by decide +kernel
theorem dX12_decimals_261 : decode cX12_decimals 261 = .ok (.aload_n 0, 1) := by decide +kernel
theorem dX12_decimals_262 : decode cX12_decimals 262 = .ok (.iload 4, 2) := by decide +kernel
theorem dX12_decimals_264 : decode cX12_decimals 264 = .ok (.iload_n 2, 1) := by decide +kernel
theorem dX12_decimals_265 : decode cX12_decimals 265 = .ok (.iload_n 3, 1) := by decide +kernel
theorem dX12_decimals_266 : decode cX12_decimals 266 = .ok (.invokevirtual 253, 3) := by decide +kernel
theorem dX12_decimals_269 : decode cX12_decimals 269 = .ok (.goto 61, 3) := by decide +kernel
theorem dX12_decimals_272 : decode cX12_decimals 272 = .ok (.iload_n 1, 1) := by decide +kernel
theorem dX12_decimals_273 : decode cX12_decimals 273 = .ok (.sipush 253, 3) := by decide +kernel
theorem dX12_decimals_276 : decode cX12_decimals 276 = .ok (.if_icmp .ne 14, 3) := by decide +kernel
theorem dX12_decimals_279 : decode cX12_decimals 279 = .ok (.aload_n 0, 1) := by decide +kernel
theorem dX12_decimals_280 : decode cX12_decimals 280 = .ok (.iload 4, 2) := by decide +kernel
theorem dX12_decimals_282 : decode cX12_decimals 282 = .ok (.iload_n 2, 1) := by decide +kernel
theorem dX12_decimals_283 : decode cX12_decimals 283 = .ok (.iload_n 3, 1) := by decide +kernel
theorem dX12_decimals_284 : decode cX12_decimals 284 = .ok (.invokevirtual 256, 3) := by decide +kernel
theorem dX12_decimals_287 : decode cX12_decimals 287 = .ok (.goto 43, 3) := by decide +kernel
theorem dX12_decimals_290 : decode cX12_decimals 290 = .ok (.aload_n 0, 1) := by decide +kernel
theorem dX12_decimals_291 : decode cX12_decimals 291 = .ok (.iload_n 1, 1) := by decide +kernel
theorem dX12_decimals_292 : decode cX12_decimals 292 = .ok (.sipush 251, 3) := by decide +kernel
theorem dX12_decimals_295 : decode cX12_decimals 295 = .ok (.if_icmp .eq 10, 3) := by decide +kernel
theorem dX12_decimals_298 : decode cX12_decimals 298 = .ok (.iload_n 1, 1) := by decide +kernel
theorem dX12_decimals_299 : decode cX12_decimals 299 = .ok (.sipush 249, 3) := by decide +kernel
theorem dX12_decimals_302 : decode cX12_decimals 302 = .ok (.if_icmp .ne 7, 3) := by decide +kernel
theorem dX12_decimals_305 : decode cX12_decimals 305 = .ok (.iconst 1, 1) := by decide +kernel
theorem dX12_decimals_306 : decode cX12_decimals 306 = .ok (.goto 4, 3) := by decide +kernel
theorem dX12_decimals_309 : decode cX12_decimals 309 = .ok (.iconst 0, 1) := by decide +kernel
theorem dX12_decimals_310 : decode cX12_decimals 310 = .ok (.iload_n 1, 1) := by decide +kernel
theorem dX12_decimals_311 : decode cX12_decimals 311 = .ok (.sipush 249, 3) := by decide +kernel
theorem dX12_decimals_314 : decode cX12_decimals 314 = .ok (.if_icmp .ne 7, 3) := by decide +kernel
theorem dX12_decimals_317 : decode cX12_decimals 317 = .ok (.iconst 1, 1) := by decide +kernel
theorem dX12_decimals_318 : decode cX12_decimals 318 = .ok (.goto 4, 3) := by decide +kernel
theorem dX12_decimals_321 : decode cX12_decimals 321 = .ok (.iconst 0, 1) := by decide +kernel
theorem dX12_decimals_322 : decode cX12_decimals 322 = .ok (.iload 4, 2) := by decide +kernel
theorem dX12_decimals_324 : decode cX12_decimals 324 = .ok (.iload_n 2, 1) := by decide +kernel
theorem dX12_decimals_325 : decode cX12_decimals 325 = .ok (.iconst 1, 1) := by decide +kernel
theorem dX12_decimals_326 : decode cX12_decimals 326 = .ok (.iadd, 1) := by decide +kernel
theorem dX12_decimals_327 : decode cX12_decimals 327 = .ok (.invokevirtual 259, 3) := by decide +kernel
theorem dX12_decimals_330 : decode cX12_decimals 330 = .ok (.return_, 1) := by decide +kernel
theorem dX12_edit_0 : decode cX12_edit 0 = .ok (.aload_n 0, 1) := by decide +kernel
theorem dX12_edit_1 : decode cX12_edit 1 = .ok (.iload_n 3, 1) := by decide +kernel
theorem dX12_edit_2 : decode cX12_edit 2 = .ok (.iload_n 2, 1) := by decide +kernel
theorem dX12_edit_3 : decode cX12_edit 3 = .ok (.iconst 1, 1) := by decide +kernel
theorem dX12_edit_4 : decode cX12_edit 4 = .ok (.invokevirtual 121, 3) := by decide +kernel
theorem dX12_edit_7 : decode cX12_edit 7 = .ok (.aload_n 0, 1) := by decide +kernel
theorem dX12_edit_8 : decode cX12_edit 8 = .ok (.getfield 104, 3) := by decide +kernel
theorem dX12_edit_11 : decode cX12_edit 11 = .ok (.ifCond .le 4, 3) := by decide +kernel
theorem dX12_edit_14 : decode cX12_edit 14 = .ok (.return_, 1) := by decide +kernel
theorem dX12_edit_15 : decode cX12_edit 15 = .ok (.iconst 0, 1) := by decide +kernel
theorem dX12_edit_16 : decode cX12_edit 16 = .ok (.istore 5, 2) := by decide +kernel
theorem dX12_edit_18 : decode cX12_edit 18 = .ok (.iload 5, 2) := by decide +kernel
theorem dX12_edit_20 : decode cX12_edit 20 = .ok (.iload_n 2, 1) := by decide +kernel
theorem dX12_edit_21 : decode cX12_edit 21 = .ok (.if_icmp .ge 25, 3) := by decide +kernel
theorem dX12_edit_24 : decode cX12_edit 24 = .ok (.aload_n 0, 1) := by decide +kernel
theorem dX12_edit_25 : decode cX12_edit 25 = .ok (.getfield 37, 3) := by decide +kernel
theorem dX12_edit_28 : decode cX12_edit 28 = .ok (.iload 5, 2) := by decide +kernel
theorem dX12_edit_30 : decode cX12_edit 30 = .ok (.aload_n 0, 1) := by decide +kernel
theorem dX12_edit_31 : decode cX12_edit 31 = .ok (.getfield 7, 3) := by decide +kernel
theorem dX12_edit_34 : decode cX12_edit 34 = .ok (.iload_n 3, 1) := by decide +kernel
theorem dX12_edit_35 : decode cX12_edit 35 = .ok (.iload 5, 2) := by decide +kernel
theorem dX12_edit_37 : decode cX12_edit 37 = .ok (.iadd, 1) := by decide +kernel
theorem dX12_edit_38 : decode cX12_edit 38 = .ok (.iaload, 1) := by decide +kernel
theorem dX12_edit_39 : decode cX12_edit 39 = .ok (.iastore, 1) := by decide +kernel
theorem dX12_edit_40 : decode cX12_edit 40 = .ok (.iinc 5 1, 3) := by decide +kernel
theorem dX12_edit_43 : decode cX12_edit 43 = .ok (.goto (-25), 3) := by decide +kernel
theorem dX12_edit_46 : decode cX12_edit 46 = .ok (.aload_n 0, 1) := by decide +kernel
theorem dX12_edit_47 : decode cX12_edit 47 = .ok (.getfield 7, 3) := by decide +kernel
theorem dX12_edit_50 : decode cX12_edit 50 = .ok (.iload_n 3, 1) := by decide +kernel
theorem dX12_edit_51 : decode cX12_edit 51 = .ok (.iaload, 1) := by decide +kernel
theorem dX12_edit_52 : decode cX12_edit 52 = .ok (.istore 5, 2) := by decide +kernel
theorem dX12_edit_54 : decode cX12_edit 54 = .ok (.iconst 0, 1) := by decide +kernel
theorem dX12_edit_55 : decode cX12_edit 55 = .ok (.istore 6, 2) := by decide +kernel
theorem dX12_edit_57 : decode cX12_edit 57 = .ok (.iconst (-1), 1) := by decide +kernel
theorem dX12_edit_58 : decode cX12_edit 58 = .ok (.istore 7, 2) := by decide +kernel
theorem dX12_edit_60 : decode cX12_edit 60 = .ok (.iload 4, 2) := by decide +kernel
theorem dX12_edit_62 : decode cX12_edit 62 = .ok (.istore 8, 2) := by decide +kernel
theorem dX12_edit_64 : decode cX12_edit 64 = .ok (.aload_n 0, 1) := by decide +kernel
theorem dX12_edit_65 : decode cX12_edit 65 = .ok (.getfield 16, 3) := by decide +kernel
theorem dX12_edit_68 : decode cX12_edit 68 = .ok (.iconst 1, 1) := by decide +kernel
theorem dX12_edit_69 : decode cX12_edit 69 = .ok (.iaload, 1) := by decide +kernel
theorem dX12_edit_70 : decode cX12_edit 70 = .ok (.istore 9, 2) := by decide +kernel
theorem dX12_edit_72 : decode cX12_edit 72 = .ok (.iconst 0, 1) := by decide +kernel
theorem dX12_edit_73 : decode cX12_edit 73 = .ok (.istore 10, 2) := by decide +kernel
theorem dX12_edit_75 : decode cX12_edit 75 = .ok (.iconst 0, 1) := by decide +kernel
theorem dX12_edit_76 : decode cX12_edit 76 = .ok (.istore 11, 2) := by decide +kernel
theorem dX12_edit_78 : decode cX12_edit 78 = .ok (.iload 11, 2) := by decide +kernel
theorem dX12_edit_80 : decode cX12_edit 80 = .ok (.iload_n 2, 1) := by decide +kernel
theorem dX12_edit_81 : decode cX12_edit 81 = .ok (.if_icmp .ge 373, 3) := by decide +kernel
theorem dX12_edit_84 : decode cX12_edit 84 = .ok (.aload_n 0, 1) := by decide +kernel
theorem dX12_edit_85 : decode cX12_edit 85 = .ok (.getfield 104, 3) := by decide +kernel
theorem dX12_edit_88 : decode cX12_edit 88 = .ok (.ifCond .ne 366, 3) := by decide +kernel
theorem dX12_edit_91 : decode cX12_edit 91 = .ok (.aload_n 0, 1) := by decide +kernel
theorem dX12_edit_92 : decode cX12_edit 92 = .ok (.getfield 7, 3) := by decide +kernel
theorem dX12_edit_95 : decode cX12_edit 95 = .ok (.iload_n 3, 1) := by decide +kernel
theorem dX12_edit_96 : decode cX12_edit 96 = .ok (.iload 11, 2) := by decide +kernel
theorem dX12_edit_98 : decode cX12_edit 98 = .ok (.iadd, 1) := by decide +kernel
theorem dX12_edit_99 : decode cX12_edit 99 = .ok (.iaload, 1) := by decide +kernel
theorem dX12_edit_100 : decode cX12_edit 100 = .ok (.istore 12, 2) := by decide +kernel
theorem dX12_edit_102 : decode cX12_edit 102 = .ok (.iload 12, 2) := by decide +kernel
theorem dX12_edit_104 : decode cX12_edit 104 = .ok (.bipush 32, 2) := by decide +kernel
theorem dX12_edit_106 : decode cX12_edit 106 = .ok (.if_icmp .eq 10, 3) := by decide +kernel
theorem dX12_edit_109 : decode cX12_edit 109 = .ok (.iload 12, 2) := by decide +kernel
theorem dX12_edit_111 : decode cX12_edit 111 = .ok (.bipush 33, 2) := by decide +kernel
theorem dX12_edit_113 : decode cX12_edit 113 = .ok (.if_icmp .ne 282, 3) := by decide +kernel
theorem dX12_edit_116 : decode cX12_edit 116 = .ok (.iload 7, 2) := by decide +kernel
theorem dX12_edit_118 : decode cX12_edit 118 = .ok (.istore 13, 2) := by decide +kernel
theorem dX12_edit_120 : decode cX12_edit 120 = .ok (.iconst 0, 1) := by decide +kernel
theorem dX12_edit_121 : decode cX12_edit 121 = .ok (.istore 14, 2) := by decide +kernel
theorem dX12_edit_123 : decode cX12_edit 123 = .ok (.iconst 0, 1) := by decide +kernel
theorem dX12_edit_124 : decode cX12_edit 124 = .ok (.istore 15, 2) := by decide +kernel
theorem dX12_edit_126 : decode cX12_edit 126 = .ok (.iload 7, 2) := by decide +kernel
theorem dX12_edit_128 : decode cX12_edit 128 = .ok (.ifCond .ge 159, 3) := by decide +kernel
theorem dX12_edit_131 : decode cX12_edit 131 = .ok (.aload_n 0, 1) := by decide +kernel
theorem dX12_edit_132 : decode cX12_edit 132 = .ok (.iload 8, 2) := by decide +kernel
theorem dX12_edit_134 : decode cX12_edit 134 = .ok (.ldc 81, 2) := by decide +kernel
theorem dX12_edit_136 : decode cX12_edit 136 = .ok (.iand, 1) := by decide +kernel
theorem dX12_edit_137 : decode cX12_edit 137 = .ok (.iconst 1, 1) := by decide +kernel
theorem dX12_edit_138 : decode cX12_edit 138 = .ok (.iconst 0, 1) := by decide +kernel
theorem dX12_edit_139 : decode cX12_edit 139 = .ok (.invokevirtual 121, 3) := by decide +kernel
theorem dX12_edit_142 : decode cX12_edit 142 = .ok (.iload 8, 2) := by decide +kernel
theorem dX12_edit_144 : decode cX12_edit 144 = .ok (.ldc 81, 2) := by decide +kernel
theorem dX12_edit_146 : decode cX12_edit 146 = .ok (.iand, 1) := by decide +kernel
theorem dX12_edit_147 : decode cX12_edit 147 = .ok (.istore 16, 2) := by decide +kernel
theorem dX12_edit_149 : decode cX12_edit 149 = .ok (.aload_n 0, 1) := by decide +kernel
theorem dX12_edit_150 : decode cX12_edit 150 = .ok (.getfield 104, 3) := by decide +kernel
theorem dX12_edit_153 : decode cX12_edit 153 = .ok (.ifCond .le 7, 3) := by decide +kernel
theorem dX12_edit_156 : decode cX12_edit 156 = .ok (.iconst 0, 1) := by decide +kernel
theorem dX12_edit_157 : decode cX12_edit 157 = .ok (.goto 36, 3) := by decide +kernel
theorem dX12_edit_160 : decode cX12_edit 160 = .ok (.iload 16, 2) := by decide +kernel
theorem dX12_edit_162 : decode cX12_edit 162 = .ok (.iload_n 3, 1) := by decide +kernel
theorem dX12_edit_163 : decode cX12_edit 163 = .ok (.if_icmp .lt 23, 3) := by decide +kernel
theorem dX12_edit_166 : decode cX12_edit 166 = .ok (.iload 16, 2) := by decide +kernel
theorem dX12_edit_168 : decode cX12_edit 168 = .ok (.iload_n 3, 1) := by decide +kernel
theorem dX12_edit_169 : decode cX12_edit 169 = .ok (.iload_n 2, 1) := by decide +kernel
theorem dX12_edit_170 : decode cX12_edit 170 = .ok (.iadd, 1) := by decide +kernel
theorem dX12_edit_171 : decode cX12_edit 171 = .ok (.if_icmp .ge 15, 3) := by decide +kernel
theorem dX12_edit_174 : decode cX12_edit 174 = .ok (.aload_n 0, 1) := by decide +kernel
theorem dX12_edit_175 : decode cX12_edit 175 = .ok (.getfield 37, 3) := by decide +kernel
theorem dX12_edit_178 : decode cX12_edit 178 = .ok (.iload 16, 2) := by decide +kernel
theorem dX12_edit_180 : decode cX12_edit 180 = .ok (.iload_n 3, 1) := by decide +kernel
theorem dX12_edit_181 : decode cX12_edit 181 = .ok (.isub, 1) := by decide +kernel
theorem dX12_edit_182 : decode cX12_edit 182 = .ok (.iaload, 1) := by decide +kernel
theorem dX12_edit_183 : decode cX12_edit 183 = .ok (.goto 10, 3) := by decide +kernel
theorem dX12_edit_186 : decode cX12_edit 186 = .ok (.aload_n 0, 1) := by decide +kernel
theorem dX12_edit_187 : decode cX12_edit 187 = .ok (.getfield 7, 3) := by decide +kernel
theorem dX12_edit_190 : decode cX12_edit 190 = .ok (.iload 16, 2) := by decide +kernel
theorem dX12_edit_192 : decode cX12_edit 192 = .ok (.iaload, 1) := by decide +kernel
theorem dX12_edit_193 : decode cX12_edit 193 = .ok (.istore 17, 2) := by decide +kernel
theorem dX12_edit_195 : decode cX12_edit 195 = .ok (.iinc 8 1, 3) := by decide +kernel
theorem dX12_edit_198 : decode cX12_edit 198 = .ok (.iload 17, 2) := by decide +kernel
theorem dX12_edit_200 : decode cX12_edit 200 = .ok (.iconst 4, 1) := by decide +kernel
theorem dX12_edit_201 : decode cX12_edit 201 = .ok (.ishr, 1) := by decide +kernel
theorem dX12_edit_202 : decode cX12_edit 202 = .ok (.istore 13, 2) := by decide +kernel
theorem dX12_edit_204 : decode cX12_edit 204 = .ok (.iload 17, 2) := by decide +kernel
theorem dX12_edit_206 : decode cX12_edit 206 = .ok (.bipush 15, 2) := by decide +kernel
theorem dX12_edit_208 : decode cX12_edit 208 = .ok (.iand, 1) := by decide +kernel
theorem dX12_edit_209 : decode cX12_edit 209 = .ok (.istore 7, 2) := by decide +kernel
theorem dX12_edit_211 : decode cX12_edit 211 = .ok (.aload_n 0, 1) := by decide +kernel
theorem dX12_edit_212 : decode cX12_edit 212 = .ok (.getfield 104, 3) := by decide +kernel
theorem dX12_edit_215 : decode cX12_edit 215 = .ok (.ifCond .ne 16, 3) := by decide +kernel
theorem dX12_edit_218 : decode cX12_edit 218 = .ok (.iload 13, 2) := by decide +kernel
theorem dX12_edit_220 : decode cX12_edit 220 = .ok (.bipush 9, 2) := by decide +kernel
theorem dX12_edit_222 : decode cX12_edit 222 = .ok (.if_icmp .le 9, 3) := by decide +kernel
theorem dX12_edit_225 : decode cX12_edit 225 = .ok (.aload_n 0, 1) := by decide +kernel
theorem dX12_edit_226 : decode cX12_edit 226 = .ok (.bipush 7, 2) := by decide +kernel
theorem dX12_edit_228 : decode cX12_edit 228 = .ok (.invokevirtual 107, 3) := by decide +kernel
theorem dX12_edit_231 : decode cX12_edit 231 = .ok (.iload 7, 2) := by decide +kernel
theorem dX12_edit_233 : decode cX12_edit 233 = .ok (.bipush 9, 2) := by decide +kernel
theorem dX12_edit_235 : decode cX12_edit 235 = .ok (.if_icmp .le 7, 3) := by decide +kernel
theorem dX12_edit_238 : decode cX12_edit 238 = .ok (.iconst 1, 1) := by decide +kernel
theorem dX12_edit_239 : decode cX12_edit 239 = .ok (.goto 4, 3) := by decide +kernel
theorem dX12_edit_242 : decode cX12_edit 242 = .ok (.iconst 0, 1) := by decide +kernel
theorem dX12_edit_243 : decode cX12_edit 243 = .ok (.istore 14, 2) := by decide +kernel
theorem dX12_edit_245 : decode cX12_edit 245 = .ok (.iload 14, 2) := by decide +kernel
theorem dX12_edit_247 : decode cX12_edit 247 = .ok (.ifCond .eq 21, 3) := by decide +kernel
theorem dX12_edit_250 : decode cX12_edit 250 = .ok (.iload 7, 2) := by decide +kernel
theorem dX12_edit_252 : decode cX12_edit 252 = .ok (.bipush 11, 2) := by decide +kernel
theorem dX12_edit_254 : decode cX12_edit 254 = .ok (.if_icmp .eq 14, 3) := by decide +kernel
theorem dX12_edit_257 : decode cX12_edit 257 = .ok (.iload 7, 2) := by decide +kernel
theorem dX12_edit_259 : decode cX12_edit 259 = .ok (.bipush 13, 2) := by decide +kernel
theorem dX12_edit_261 : decode cX12_edit 261 = .ok (.if_icmp .eq 7, 3) := by decide +kernel
theorem dX12_edit_264 : decode cX12_edit 264 = .ok (.iconst 1, 1) := by decide +kernel
theorem dX12_edit_265 : decode cX12_edit 265 = .ok (.goto 4, 3) := by decide +kernel
theorem dX12_edit_268 : decode cX12_edit 268 = .ok (.iconst 0, 1) := by decide +kernel
theorem dX12_edit_269 : decode cX12_edit 269 = .ok (.istore 15, 2) := by decide +kernel
theorem dX12_edit_271 : decode cX12_edit 271 = .ok (.iload 14, 2) := by decide +kernel
theorem dX12_edit_273 : decode cX12_edit 273 = .ok (.ifCond .eq 7, 3) := by decide +kernel
theorem dX12_edit_276 : decode cX12_edit 276 = .ok (.iconst (-1), 1) := by decide +kernel
theorem dX12_edit_277 : decode cX12_edit 277 = .ok (.goto 5, 3) := by decide +kernel
theorem dX12_edit_280 : decode cX12_edit 280 = .ok (.iload 7, 2) := by decide +kernel
theorem dX12_edit_282 : decode cX12_edit 282 = .ok (.istore 7, 2) := by decide +kernel
theorem dX12_edit_284 : decode cX12_edit 284 = .ok (.goto 6, 3) := by decide +kernel
theorem dX12_edit_287 : decode cX12_edit 287 = .ok (.iconst (-1), 1) := by decide +kernel
theorem dX12_edit_288 : decode cX12_edit 288 = .ok (.istore 7, 2) := by decide +kernel
theorem dX12_edit_290 : decode cX12_edit 290 = .ok (.iload_n 1, 1) := by decide +kernel
theorem dX12_edit_291 : decode cX12_edit 291 = .ok (.ifCond .eq 25, 3) := by decide +kernel
theorem dX12_edit_294 : decode cX12_edit 294 = .ok (.iload 13, 2) := by decide +kernel
theorem dX12_edit_296 : decode cX12_edit 296 = .ok (.ifCond .eq 20, 3) := by decide +kernel
theorem dX12_edit_299 : decode cX12_edit 299 = .ok (.iload 6, 2) := by decide +kernel
theorem dX12_edit_301 : decode cX12_edit 301 = .ok (.ifCond .ne 15, 3) := by decide +kernel
theorem dX12_edit_304 : decode cX12_edit 304 = .ok (.iload 9, 2) := by decide +kernel
theorem dX12_edit_306 : decode cX12_edit 306 = .ok (.ldc 249, 2) := by decide +kernel
theorem dX12_edit_308 : decode cX12_edit 308 = .ok (.iand, 1) := by decide +kernel
theorem dX12_edit_309 : decode cX12_edit 309 = .ok (.iload_n 3, 1) := by decide +kernel
theorem dX12_edit_310 : decode cX12_edit 310 = .ok (.iload 11, 2) := by decide +kernel
theorem dX12_edit_312 : decode cX12_edit 312 = .ok (.iadd, 1) := by decide +kernel
theorem dX12_edit_313 : decode cX12_edit 313 = .ok (.ior, 1) := by decide +kernel
theorem dX12_edit_314 : decode cX12_edit 314 = .ok (.istore 9, 2) := by decide +kernel
theorem dX12_edit_316 : decode cX12_edit 316 = .ok (.aload_n 0, 1) := by decide +kernel
theorem dX12_edit_317 : decode cX12_edit 317 = .ok (.getfield 7, 3) := by decide +kernel
theorem dX12_edit_320 : decode cX12_edit 320 = .ok (.iload_n 3, 1) := by decide +kernel
theorem dX12_edit_321 : decode cX12_edit 321 = .ok (.iload 11, 2) := by decide +kernel
theorem dX12_edit_323 : decode cX12_edit 323 = .ok (.iadd, 1) := by decide +kernel
theorem dX12_edit_324 : decode cX12_edit 324 = .ok (.iload 13, 2) := by decide +kernel
theorem dX12_edit_326 : decode cX12_edit 326 = .ok (.ifCond .ne 8, 3) := by decide +kernel
theorem dX12_edit_329 : decode cX12_edit 329 = .ok (.iload 6, 2) := by decide +kernel
theorem dX12_edit_331 : decode cX12_edit 331 = .ok (.ifCond .eq 12, 3) := by decide +kernel
theorem dX12_edit_334 : decode cX12_edit 334 = .ok (.sipush 240, 3) := by decide +kernel
theorem dX12_edit_337 : decode cX12_edit 337 = .ok (.iload 13, 2) := by decide +kernel
theorem dX12_edit_339 : decode cX12_edit 339 = .ok (.ior, 1) := by decide +kernel
theorem dX12_edit_340 : decode cX12_edit 340 = .ok (.goto 5, 3) := by decide +kernel
theorem dX12_edit_343 : decode cX12_edit 343 = .ok (.iload 5, 2) := by decide +kernel
theorem dX12_edit_345 : decode cX12_edit 345 = .ok (.iastore, 1) := by decide +kernel
theorem dX12_edit_346 : decode cX12_edit 346 = .ok (.iload 10, 2) := by decide +kernel
theorem dX12_edit_348 : decode cX12_edit 348 = .ok (.ifCond .ne 8, 3) := by decide +kernel
theorem dX12_edit_351 : decode cX12_edit 351 = .ok (.iload 13, 2) := by decide +kernel
theorem dX12_edit_353 : decode cX12_edit 353 = .ok (.ifCond .eq 7, 3) := by decide +kernel
theorem dX12_edit_356 : decode cX12_edit 356 = .ok (.iconst 1, 1) := by decide +kernel
theorem dX12_edit_357 : decode cX12_edit 357 = .ok (.goto 4, 3) := by decide +kernel
theorem dX12_edit_360 : decode cX12_edit 360 = .ok (.iconst 0, 1) := by decide +kernel
theorem dX12_edit_361 : decode cX12_edit 361 = .ok (.istore 10, 2) := by decide +kernel
theorem dX12_edit_363 : decode cX12_edit 363 = .ok (.iload 6, 2) := by decide +kernel
theorem dX12_edit_365 : decode cX12_edit 365 = .ok (.ifCond .ne 15, 3) := by decide +kernel
theorem dX12_edit_368 : decode cX12_edit 368 = .ok (.iload 12, 2) := by decide +kernel
theorem dX12_edit_370 : decode cX12_edit 370 = .ok (.bipush 33, 2) := by decide +kernel
theorem dX12_edit_372 : decode cX12_edit 372 = .ok (.if_icmp .eq 8, 3) := by decide +kernel
theorem dX12_edit_375 : decode cX12_edit 375 = .ok (.iload 13, 2) := by decide +kernel
theorem dX12_edit_377 : decode cX12_edit 377 = .ok (.ifCond .eq 12, 3) := by decide +kernel
theorem dX12_edit_380 : decode cX12_edit 380 = .ok (.iload 15, 2) := by decide +kernel
theorem dX12_edit_382 : decode cX12_edit 382 = .ok (.ifCond .ne 7, 3) := by decide +kernel
theorem dX12_edit_385 : decode cX12_edit 385 = .ok (.iconst 1, 1) := by decide +kernel
theorem dX12_edit_386 : decode cX12_edit 386 = .ok (.goto 4, 3) := by decide +kernel
theorem dX12_edit_389 : decode cX12_edit 389 = .ok (.iconst 0, 1) := by decide +kernel
theorem dX12_edit_390 : decode cX12_edit 390 = .ok (.istore 6, 2) := by decide +kernel
theorem dX12_edit_392 : decode cX12_edit 392 = .ok (.goto 56, 3) := by decide +kernel
theorem dX12_edit_395 : decode cX12_edit 395 = .ok (.iload 12, 2) := by decide +kernel
theorem dX12_edit_397 : decode cX12_edit 397 = .ok (.bipush 34, 2) := by decide +kernel
theorem dX12_edit_399 : decode cX12_edit 399 = .ok (.if_icmp .ne 23, 3) := by decide +kernel
theorem dX12_edit_402 : decode cX12_edit 402 = .ok (.aload_n 0, 1) := by decide +kernel
theorem dX12_edit_403 : decode cX12_edit 403 = .ok (.getfield 7, 3) := by decide +kernel
theorem dX12_edit_406 : decode cX12_edit 406 = .ok (.iload_n 3, 1) := by decide +kernel
theorem dX12_edit_407 : decode cX12_edit 407 = .ok (.iload 11, 2) := by decide +kernel
theorem dX12_edit_409 : decode cX12_edit 409 = .ok (.iadd, 1) := by decide +kernel
theorem dX12_edit_410 : decode cX12_edit 410 = .ok (.iload 5, 2) := by decide +kernel
theorem dX12_edit_412 : decode cX12_edit 412 = .ok (.iastore, 1) := by decide +kernel
theorem dX12_edit_413 : decode cX12_edit 413 = .ok (.iconst 0, 1) := by decide +kernel
theorem dX12_edit_414 : decode cX12_edit 414 = .ok (.istore 6, 2) := by decide +kernel
theorem dX12_edit_416 : decode cX12_edit 416 = .ok (.iconst 0, 1) := by decide +kernel
theorem dX12_edit_417 : decode cX12_edit 417 = .ok (.istore 10, 2) := by decide +kernel
theorem dX12_edit_419 : decode cX12_edit 419 = .ok (.goto 29, 3) := by decide +kernel
theorem dX12_edit_422 : decode cX12_edit 422 = .ok (.aload_n 0, 1) := by decide +kernel
theorem dX12_edit_423 : decode cX12_edit 423 = .ok (.getfield 7, 3) := by decide +kernel
theorem dX12_edit_426 : decode cX12_edit 426 = .ok (.iload_n 3, 1) := by decide +kernel
theorem dX12_edit_427 : decode cX12_edit 427 = .ok (.iload 11, 2) := by decide +kernel
theorem dX12_edit_429 : decode cX12_edit 429 = .ok (.iadd, 1) := by decide +kernel
theorem dX12_edit_430 : decode cX12_edit 430 = .ok (.iload 6, 2) := by decide +kernel
theorem dX12_edit_432 : decode cX12_edit 432 = .ok (.ifCond .ne 8, 3) := by decide +kernel
theorem dX12_edit_435 : decode cX12_edit 435 = .ok (.iload 11, 2) := by decide +kernel
theorem dX12_edit_437 : decode cX12_edit 437 = .ok (.ifCond .ne 8, 3) := by decide +kernel
theorem dX12_edit_440 : decode cX12_edit 440 = .ok (.iload 12, 2) := by decide +kernel
theorem dX12_edit_442 : decode cX12_edit 442 = .ok (.goto 5, 3) := by decide +kernel
theorem dX12_edit_445 : decode cX12_edit 445 = .ok (.iload 5, 2) := by decide +kernel
theorem dX12_edit_447 : decode cX12_edit 447 = .ok (.iastore, 1) := by decide +kernel
theorem dX12_edit_448 : decode cX12_edit 448 = .ok (.iinc 11 1, 3) := by decide +kernel
theorem dX12_edit_451 : decode cX12_edit 451 = .ok (.goto (-373), 3) := by decide +kernel
theorem dX12_edit_454 : decode cX12_edit 454 = .ok (.aload_n 0, 1) := by decide +kernel
theorem dX12_edit_455 : decode cX12_edit 455 = .ok (.getfield 104, 3) := by decide +kernel
theorem dX12_edit_458 : decode cX12_edit 458 = .ok (.ifCond .le 35, 3) := by decide +kernel
theorem dX12_edit_461 : decode cX12_edit 461 = .ok (.iconst 0, 1) := by decide +kernel
theorem dX12_edit_462 : decode cX12_edit 462 = .ok (.istore 11, 2) := by decide +kernel
theorem dX12_edit_464 : decode cX12_edit 464 = .ok (.iload 11, 2) := by decide +kernel
theorem dX12_edit_466 : decode cX12_edit 466 = .ok (.iload_n 2, 1) := by decide +kernel
theorem dX12_edit_467 : decode cX12_edit 467 = .ok (.if_icmp .ge 25, 3) := by decide +kernel
theorem dX12_edit_470 : decode cX12_edit 470 = .ok (.aload_n 0, 1) := by decide +kernel
theorem dX12_edit_471 : decode cX12_edit 471 = .ok (.getfield 7, 3) := by decide +kernel
theorem dX12_edit_474 : decode cX12_edit 474 = .ok (.iload_n 3, 1) := by decide +kernel
theorem dX12_edit_475 : decode cX12_edit 475 = .ok (.iload 11, 2) := by decide +kernel
theorem dX12_edit_477 : decode cX12_edit 477 = .ok (.iadd, 1) := by decide +kernel
theorem dX12_edit_478 : decode cX12_edit 478 = .ok (.aload_n 0, 1) := by decide +kernel
theorem dX12_edit_479 : decode cX12_edit 479 = .ok (.getfield 37, 3) := by decide +kernel
theorem dX12_edit_482 : decode cX12_edit 482 = .ok (.iload 11, 2) := by decide +kernel
theorem dX12_edit_484 : decode cX12_edit 484 = .ok (.iaload, 1) := by decide +kernel
theorem dX12_edit_485 : decode cX12_edit 485 = .ok (.iastore, 1) := by decide +kernel
theorem dX12_edit_486 : decode cX12_edit 486 = .ok (.iinc 11 1, 3) := by decide +kernel
theorem dX12_edit_489 : decode cX12_edit 489 = .ok (.goto (-25), 3) := by decide +kernel
theorem dX12_edit_492 : decode cX12_edit 492 = .ok (.return_, 1) := by decide +kernel
theorem dX12_edit_493 : decode cX12_edit 493 = .ok (.aload_n 0, 1) := by decide +kernel
theorem dX12_edit_494 : decode cX12_edit 494 = .ok (.getfield 16, 3) := by decide +kernel
theorem dX12_edit_497 : decode cX12_edit 497 = .ok (.iconst 1, 1) := by decide +kernel
theorem dX12_edit_498 : decode cX12_edit 498 = .ok (.iload 9, 2) := by decide +kernel
theorem dX12_edit_500 : decode cX12_edit 500 = .ok (.iastore, 1) := by decide +kernel
theorem dX12_edit_501 : decode cX12_edit 501 = .ok (.aload_n 0, 1) := by decide +kernel
theorem dX12_edit_502 : decode cX12_edit 502 = .ok (.iload 10, 2) := by decide +kernel
theorem dX12_edit_504 : decode cX12_edit 504 = .ok (.ifCond .ne 7, 3) := by decide +kernel
theorem dX12_edit_507 : decode cX12_edit 507 = .ok (.iconst 0, 1) := by decide +kernel
theorem dX12_edit_508 : decode cX12_edit 508 = .ok (.goto 13, 3) := by decide +kernel
theorem dX12_edit_511 : decode cX12_edit 511 = .ok (.iload 6, 2) := by decide +kernel
theorem dX12_edit_513 : decode cX12_edit 513 = .ok (.ifCond .eq 7, 3) := by decide +kernel
theorem dX12_edit_516 : decode cX12_edit 516 = .ok (.iconst 1, 1) := by decide +kernel
theorem dX12_edit_517 : decode cX12_edit 517 = .ok (.goto 4, 3) := by decide +kernel
theorem dX12_edit_520 : decode cX12_edit 520 = .ok (.iconst 2, 1) := by decide +kernel
theorem dX12_edit_521 : decode cX12_edit 521 = .ok (.putfield 47, 3) := by decide +kernel
theorem dX12_edit_524 : decode cX12_edit 524 = .ok (.return_, 1) := by decide +kernel
theorem dX12_rowsOfBytes_0 : decode cX12_rowsOfBytes 0 = .ok (.aload_n 0, 1) := by decide +kernel
theorem dX12_rowsOfBytes_1 : decode cX12_rowsOfBytes 1 = .ok (.getfield 22, 3) := by decide +kernel
theorem dX12_rowsOfBytes_4 : decode cX12_rowsOfBytes 4 = .ok (.iconst 1, 1) := by decide +kernel
theorem dX12_rowsOfBytes_5 : decode cX12_rowsOfBytes 5 = .ok (.iaload, 1) := by decide +kernel
theorem dX12_rowsOfBytes_6 : decode cX12_rowsOfBytes 6 = .ok (.istore_n 2, 1) := by decide +kernel
theorem dX12_rowsOfBytes_7 : decode cX12_rowsOfBytes 7 = .ok (.aload_n 0, 1) := by decide +kernel
theorem dX12_rowsOfBytes_8 : decode cX12_rowsOfBytes 8 = .ok (.iconst 2, 1) := by decide +kernel
theorem dX12_rowsOfBytes_9 : decode cX12_rowsOfBytes 9 = .ok (.invokevirtual 118, 3) := by decide +kernel
theorem dX12_rowsOfBytes_12 : decode cX12_rowsOfBytes 12 = .ok (.istore_n 3, 1) := by decide +kernel
theorem dX12_rowsOfBytes_13 : decode cX12_rowsOfBytes 13 = .ok (.aload_n 0, 1) := by decide +kernel
theorem dX12_rowsOfBytes_14 : decode cX12_rowsOfBytes 14 = .ok (.iconst 4, 1) := by decide +kernel
theorem dX12_rowsOfBytes_15 : decode cX12_rowsOfBytes 15 = .ok (.invokevirtual 118, 3) := by decide +kernel
theorem dX12_rowsOfBytes_18 : decode cX12_rowsOfBytes 18 = .ok (.istore 4, 2) := by decide +kernel
theorem dX12_rowsOfBytes_20 : decode cX12_rowsOfBytes 20 = .ok (.iload_n 1, 1) := by decide +kernel
theorem dX12_rowsOfBytes_21 : decode cX12_rowsOfBytes 21 = .ok (.sipush 209, 3) := by decide +kernel
theorem dX12_rowsOfBytes_24 : decode cX12_rowsOfBytes 24 = .ok (.if_icmp .lt 24, 3) := by decide +kernel
theorem dX12_rowsOfBytes_27 : decode cX12_rowsOfBytes 27 = .ok (.iload_n 1, 1) := by decide +kernel
theorem dX12_rowsOfBytes_28 : decode cX12_rowsOfBytes 28 = .ok (.sipush 215, 3) := by decide +kernel
theorem dX12_rowsOfBytes_31 : decode cX12_rowsOfBytes 31 = .ok (.if_icmp .gt 17, 3) := by decide +kernel
theorem dX12_rowsOfBytes_34 : decode cX12_rowsOfBytes 34 = .ok (.aload_n 0, 1) := by decide +kernel
theorem dX12_rowsOfBytes_35 : decode cX12_rowsOfBytes 35 = .ok (.iload_n 1, 1) := by decide +kernel
theorem dX12_rowsOfBytes_36 : decode cX12_rowsOfBytes 36 = .ok (.iload_n 2, 1) := by decide +kernel
theorem dX12_rowsOfBytes_37 : decode cX12_rowsOfBytes 37 = .ok (.iconst 1, 1) := by decide +kernel
theorem dX12_rowsOfBytes_38 : decode cX12_rowsOfBytes 38 = .ok (.iadd, 1) := by decide +kernel
theorem dX12_rowsOfBytes_39 : decode cX12_rowsOfBytes 39 = .ok (.iload_n 3, 1) := by decide +kernel
theorem dX12_rowsOfBytes_40 : decode cX12_rowsOfBytes 40 = .ok (.iload 4, 2) := by decide +kernel
theorem dX12_rowsOfBytes_42 : decode cX12_rowsOfBytes 42 = .ok (.invokevirtual 263, 3) := by decide +kernel
theorem dX12_rowsOfBytes_45 : decode cX12_rowsOfBytes 45 = .ok (.goto 154, 3) := by decide +kernel
theorem dX12_rowsOfBytes_48 : decode cX12_rowsOfBytes 48 = .ok (.iload_n 1, 1) := by decide +kernel
theorem dX12_rowsOfBytes_49 : decode cX12_rowsOfBytes 49 = .ok (.sipush 220, 3) := by decide +kernel
theorem dX12_rowsOfBytes_52 : decode cX12_rowsOfBytes 52 = .ok (.if_icmp .eq 10, 3) := by decide +kernel
theorem dX12_rowsOfBytes_55 : decode cX12_rowsOfBytes 55 = .ok (.iload_n 1, 1) := by decide +kernel
theorem dX12_rowsOfBytes_56 : decode cX12_rowsOfBytes 56 = .ok (.sipush 221, 3) := by decide +kernel
theorem dX12_rowsOfBytes_59 : decode cX12_rowsOfBytes 59 = .ok (.if_icmp .ne 28, 3) := by decide +kernel
theorem dX12_rowsOfBytes_62 : decode cX12_rowsOfBytes 62 = .ok (.aload_n 0, 1) := by decide +kernel
theorem dX12_rowsOfBytes_63 : decode cX12_rowsOfBytes 63 = .ok (.iload_n 1, 1) := by decide +kernel
theorem dX12_rowsOfBytes_64 : decode cX12_rowsOfBytes 64 = .ok (.sipush 221, 3) := by decide +kernel
theorem dX12_rowsOfBytes_67 : decode cX12_rowsOfBytes 67 = .ok (.if_icmp .ne 7, 3) := by decide +kernel
theorem dX12_rowsOfBytes_70 : decode cX12_rowsOfBytes 70 = .ok (.iconst 1, 1) := by decide +kernel
theorem dX12_rowsOfBytes_71 : decode cX12_rowsOfBytes 71 = .ok (.goto 4, 3) := by decide +kernel
theorem dX12_rowsOfBytes_74 : decode cX12_rowsOfBytes 74 = .ok (.iconst 0, 1) := by decide +kernel
theorem dX12_rowsOfBytes_75 : decode cX12_rowsOfBytes 75 = .ok (.iload_n 2, 1) := by decide +kernel
theorem dX12_rowsOfBytes_76 : decode cX12_rowsOfBytes 76 = .ok (.iconst 1, 1) := by decide +kernel
theorem dX12_rowsOfBytes_77 : decode cX12_rowsOfBytes 77 = .ok (.iadd, 1) := by decide +kernel
theorem dX12_rowsOfBytes_78 : decode cX12_rowsOfBytes 78 = .ok (.iload_n 3, 1) := by decide +kernel
theorem dX12_rowsOfBytes_79 : decode cX12_rowsOfBytes 79 = .ok (.iload 4, 2) := by decide +kernel
theorem dX12_rowsOfBytes_81 : decode cX12_rowsOfBytes 81 = .ok (.invokevirtual 266, 3) := by decide +kernel
theorem dX12_rowsOfBytes_84 : decode cX12_rowsOfBytes 84 = .ok (.goto 115, 3) := by decide +kernel
theorem dX12_rowsOfBytes_87 : decode cX12_rowsOfBytes 87 = .ok (.iload_n 1, 1) := by decide +kernel
theorem dX12_rowsOfBytes_88 : decode cX12_rowsOfBytes 88 = .ok (.sipush 222, 3) := by decide +kernel
theorem dX12_rowsOfBytes_91 : decode cX12_rowsOfBytes 91 = .ok (.if_icmp .eq 10, 3) := by decide +kernel
theorem dX12_rowsOfBytes_94 : decode cX12_rowsOfBytes 94 = .ok (.iload_n 1, 1) := by decide +kernel
theorem dX12_rowsOfBytes_95 : decode cX12_rowsOfBytes 95 = .ok (.sipush 223, 3) := by decide +kernel
theorem dX12_rowsOfBytes_98 : decode cX12_rowsOfBytes 98 = .ok (.if_icmp .ne 28, 3) := by decide +kernel
theorem dX12_rowsOfBytes_101 : decode cX12_rowsOfBytes 101 = .ok (.aload_n 0, 1) := by decide +kernel
theorem dX12_rowsOfBytes_102 : decode cX12_rowsOfBytes 102 = .ok (.iload_n 1, 1) := by decide +kernel
theorem dX12_rowsOfBytes_103 : decode cX12_rowsOfBytes 103 = .ok (.sipush 223, 3) := by decide +kernel
theorem dX12_rowsOfBytes_106 : decode cX12_rowsOfBytes 106 = .ok (.if_icmp .ne 7, 3) := by decide +kernel
theorem dX12_rowsOfBytes_109 : decode cX12_rowsOfBytes 109 = .ok (.iconst 1, 1) := by decide +kernel
theorem dX12_rowsOfBytes_110 : decode cX12_rowsOfBytes 110 = .ok (.goto 4, 3) := by decide +kernel
theorem dX12_rowsOfBytes_113 : decode cX12_rowsOfBytes 113 = .ok (.iconst 0, 1) := by decide +kernel
theorem dX12_rowsOfBytes_114 : decode cX12_rowsOfBytes 114 = .ok (.iload_n 2, 1) := by decide +kernel
theorem dX12_rowsOfBytes_115 : decode cX12_rowsOfBytes 115 = .ok (.iconst 1, 1) := by decide +kernel
theorem dX12_rowsOfBytes_116 : decode cX12_rowsOfBytes 116 = .ok (.iadd, 1) := by decide +kernel
theorem dX12_rowsOfBytes_117 : decode cX12_rowsOfBytes 117 = .ok (.iload_n 3, 1) := by decide +kernel
theorem dX12_rowsOfBytes_118 : decode cX12_rowsOfBytes 118 = .ok (.iload 4, 2) := by decide +kernel
theorem dX12_rowsOfBytes_120 : decode cX12_rowsOfBytes 120 = .ok (.invokevirtual 270, 3) := by decide +kernel
theorem dX12_rowsOfBytes_123 : decode cX12_rowsOfBytes 123 = .ok (.goto 76, 3) := by decide +kernel
theorem dX12_rowsOfBytes_126 : decode cX12_rowsOfBytes 126 = .ok (.iload_n 1, 1) := by decide +kernel
theorem dX12_rowsOfBytes_127 : decode cX12_rowsOfBytes 127 = .ok (.sipush 241, 3) := by decide +kernel
theorem dX12_rowsOfBytes_130 : decode cX12_rowsOfBytes 130 = .ok (.if_icmp .lt 32, 3) := by decide +kernel
theorem dX12_rowsOfBytes_133 : decode cX12_rowsOfBytes 133 = .ok (.iload_n 1, 1) := by decide +kernel
theorem dX12_rowsOfBytes_134 : decode cX12_rowsOfBytes 134 = .ok (.sipush 243, 3) := by decide +kernel
theorem dX12_rowsOfBytes_137 : decode cX12_rowsOfBytes 137 = .ok (.if_icmp .gt 25, 3) := by decide +kernel
theorem dX12_rowsOfBytes_140 : decode cX12_rowsOfBytes 140 = .ok (.aload_n 0, 1) := by decide +kernel
theorem dX12_rowsOfBytes_141 : decode cX12_rowsOfBytes 141 = .ok (.iload_n 1, 1) := by decide +kernel
theorem dX12_rowsOfBytes_142 : decode cX12_rowsOfBytes 142 = .ok (.iload_n 2, 1) := by decide +kernel
theorem dX12_rowsOfBytes_143 : decode cX12_rowsOfBytes 143 = .ok (.iconst 4, 1) := by decide +kernel
theorem dX12_rowsOfBytes_144 : decode cX12_rowsOfBytes 144 = .ok (.ishr, 1) := by decide +kernel
theorem dX12_rowsOfBytes_145 : decode cX12_rowsOfBytes 145 = .ok (.iconst 1, 1) := by decide +kernel
theorem dX12_rowsOfBytes_146 : decode cX12_rowsOfBytes 146 = .ok (.iadd, 1) := by decide +kernel
theorem dX12_rowsOfBytes_147 : decode cX12_rowsOfBytes 147 = .ok (.iload_n 2, 1) := by decide +kernel
theorem dX12_rowsOfBytes_148 : decode cX12_rowsOfBytes 148 = .ok (.bipush 15, 2) := by decide +kernel
theorem dX12_rowsOfBytes_150 : decode cX12_rowsOfBytes 150 = .ok (.iand, 1) := by decide +kernel
theorem dX12_rowsOfBytes_151 : decode cX12_rowsOfBytes 151 = .ok (.iconst 1, 1) := by decide +kernel
theorem dX12_rowsOfBytes_152 : decode cX12_rowsOfBytes 152 = .ok (.iadd, 1) := by decide +kernel
theorem dX12_rowsOfBytes_153 : decode cX12_rowsOfBytes 153 = .ok (.iload_n 3, 1) := by decide +kernel
theorem dX12_rowsOfBytes_154 : decode cX12_rowsOfBytes 154 = .ok (.iload 4, 2) := by decide +kernel
theorem dX12_rowsOfBytes_156 : decode cX12_rowsOfBytes 156 = .ok (.invokevirtual 273, 3) := by decide +kernel
theorem dX12_rowsOfBytes_159 : decode cX12_rowsOfBytes 159 = .ok (.goto 40, 3) := by decide +kernel
theorem dX12_rowsOfBytes_162 : decode cX12_rowsOfBytes 162 = .ok (.iload_n 1, 1) := by decide +kernel
theorem dX12_rowsOfBytes_163 : decode cX12_rowsOfBytes 163 = .ok (.sipush 248, 3) := by decide +kernel
theorem dX12_rowsOfBytes_166 : decode cX12_rowsOfBytes 166 = .ok (.if_icmp .lt 28, 3) := by decide +kernel
theorem dX12_rowsOfBytes_169 : decode cX12_rowsOfBytes 169 = .ok (.iload_n 1, 1) := by decide +kernel
theorem dX12_rowsOfBytes_170 : decode cX12_rowsOfBytes 170 = .ok (.sipush 253, 3) := by decide +kernel
theorem dX12_rowsOfBytes_173 : decode cX12_rowsOfBytes 173 = .ok (.if_icmp .gt 21, 3) := by decide +kernel
theorem dX12_rowsOfBytes_176 : decode cX12_rowsOfBytes 176 = .ok (.aload_n 0, 1) := by decide +kernel
theorem dX12_rowsOfBytes_177 : decode cX12_rowsOfBytes 177 = .ok (.iload_n 1, 1) := by decide +kernel
theorem dX12_rowsOfBytes_178 : decode cX12_rowsOfBytes 178 = .ok (.iload_n 2, 1) := by decide +kernel
theorem dX12_rowsOfBytes_179 : decode cX12_rowsOfBytes 179 = .ok (.iconst 4, 1) := by decide +kernel
theorem dX12_rowsOfBytes_180 : decode cX12_rowsOfBytes 180 = .ok (.ishr, 1) := by decide +kernel
theorem dX12_rowsOfBytes_181 : decode cX12_rowsOfBytes 181 = .ok (.iload_n 2, 1) := by decide +kernel
theorem dX12_rowsOfBytes_182 : decode cX12_rowsOfBytes 182 = .ok (.bipush 15, 2) := by decide +kernel
theorem dX12_rowsOfBytes_184 : decode cX12_rowsOfBytes 184 = .ok (.iand, 1) := by decide +kernel
theorem dX12_rowsOfBytes_185 : decode cX12_rowsOfBytes 185 = .ok (.iload_n 3, 1) := by decide +kernel
theorem dX12_rowsOfBytes_186 : decode cX12_rowsOfBytes 186 = .ok (.iload 4, 2) := by decide +kernel
theorem dX12_rowsOfBytes_188 : decode cX12_rowsOfBytes 188 = .ok (.invokevirtual 277, 3) := by decide +kernel
theorem dX12_rowsOfBytes_191 : decode cX12_rowsOfBytes 191 = .ok (.goto 8, 3) := by decide +kernel
theorem dX12_rowsOfBytes_194 : decode cX12_rowsOfBytes 194 = .ok (.aload_n 0, 1) := by decide +kernel
theorem dX12_rowsOfBytes_195 : decode cX12_rowsOfBytes 195 = .ok (.iconst 1, 1) := by decide +kernel
theorem dX12_rowsOfBytes_196 : decode cX12_rowsOfBytes 196 = .ok (.invokevirtual 107, 3) := by decide +kernel
theorem dX12_rowsOfBytes_199 : decode cX12_rowsOfBytes 199 = .ok (.return_, 1) := by decide +kernel
theorem dX12_act_0 : decode cX12_act 0 = .ok (.aload_n 0, 1) := by decide +kernel
theorem dX12_act_1 : decode cX12_act 1 = .ok (.getfield 22, 3) := by decide +kernel
theorem dX12_act_4 : decode cX12_act 4 = .ok (.iconst 0, 1) := by decide +kernel
theorem dX12_act_5 : decode cX12_act 5 = .ok (.iaload, 1) := by decide +kernel
theorem dX12_act_6 : decode cX12_act 6 = .ok (.istore_n 1, 1) := by decide +kernel
theorem dX12_act_7 : decode cX12_act 7 = .ok (.iload_n 1, 1) := by decide +kernel
theorem dX12_act_8 : decode cX12_act 8 = .ok (.bipush 64, 2) := by decide +kernel
theorem dX12_act_10 : decode cX12_act 10 = .ok (.if_icmp .ge 21, 3) := by decide +kernel
theorem dX12_act_13 : decode cX12_act 13 = .ok (.aload_n 0, 1) := by decide +kernel
theorem dX12_act_14 : decode cX12_act 14 = .ok (.iload_n 1, 1) := by decide +kernel
theorem dX12_act_15 : decode cX12_act 15 = .ok (.bipush 32, 2) := by decide +kernel
theorem dX12_act_17 : decode cX12_act 17 = .ok (.if_icmp .ge 7, 3) := by decide +kernel
theorem dX12_act_20 : decode cX12_act 20 = .ok (.iload_n 1, 1) := by decide +kernel
theorem dX12_act_21 : decode cX12_act 21 = .ok (.goto 4, 3) := by decide +kernel
theorem dX12_act_24 : decode cX12_act 24 = .ok (.iconst 0, 1) := by decide +kernel
theorem dX12_act_25 : decode cX12_act 25 = .ok (.invokevirtual 280, 3) := by decide +kernel
theorem dX12_act_28 : decode cX12_act 28 = .ok (.goto 52, 3) := by decide +kernel
theorem dX12_act_31 : decode cX12_act 31 = .ok (.iload_n 1, 1) := by decide +kernel
theorem dX12_act_32 : decode cX12_act 32 = .ok (.bipush 96, 2) := by decide +kernel
theorem dX12_act_34 : decode cX12_act 34 = .ok (.if_icmp .ge 11, 3) := by decide +kernel
theorem dX12_act_37 : decode cX12_act 37 = .ok (.aload_n 0, 1) := by decide +kernel
theorem dX12_act_38 : decode cX12_act 38 = .ok (.iload_n 1, 1) := by decide +kernel
theorem dX12_act_39 : decode cX12_act 39 = .ok (.invokevirtual 283, 3) := by decide +kernel
theorem dX12_act_42 : decode cX12_act 42 = .ok (.goto 38, 3) := by decide +kernel
theorem dX12_act_45 : decode cX12_act 45 = .ok (.iload_n 1, 1) := by decide +kernel
theorem dX12_act_46 : decode cX12_act 46 = .ok (.sipush 192, 3) := by decide +kernel
theorem dX12_act_49 : decode cX12_act 49 = .ok (.if_icmp .ge 26, 3) := by decide +kernel
theorem dX12_act_52 : decode cX12_act 52 = .ok (.iload_n 1, 1) := by decide +kernel
theorem dX12_act_53 : decode cX12_act 53 = .ok (.sipush 128, 3) := by decide +kernel
theorem dX12_act_56 : decode cX12_act 56 = .ok (.if_icmp .ge 11, 3) := by decide +kernel
theorem dX12_act_59 : decode cX12_act 59 = .ok (.aload_n 0, 1) := by decide +kernel
theorem dX12_act_60 : decode cX12_act 60 = .ok (.iconst 1, 1) := by decide +kernel
theorem dX12_act_61 : decode cX12_act 61 = .ok (.invokevirtual 107, 3) := by decide +kernel
theorem dX12_act_64 : decode cX12_act 64 = .ok (.goto 16, 3) := by decide +kernel
theorem dX12_act_67 : decode cX12_act 67 = .ok (.aload_n 0, 1) := by decide +kernel
theorem dX12_act_68 : decode cX12_act 68 = .ok (.iload_n 1, 1) := by decide +kernel
theorem dX12_act_69 : decode cX12_act 69 = .ok (.invokevirtual 286, 3) := by decide +kernel
theorem dX12_act_72 : decode cX12_act 72 = .ok (.goto 8, 3) := by decide +kernel
theorem dX12_act_75 : decode cX12_act 75 = .ok (.aload_n 0, 1) := by decide +kernel
theorem dX12_act_76 : decode cX12_act 76 = .ok (.iload_n 1, 1) := by decide +kernel
theorem dX12_act_77 : decode cX12_act 77 = .ok (.invokevirtual 289, 3) := by decide +kernel
theorem dX12_act_80 : decode cX12_act 80 = .ok (.return_, 1) := by decide +kernel
theorem dX12_halvesOf_0 : decode cX12_halvesOf 0 = .ok (.iload_n 0, 1) := by decide +kernel
theorem dX12_halvesOf_1 : decode cX12_halvesOf 1 = .ok (.bipush 64, 2) := by decide +kernel
theorem dX12_halvesOf_3 : decode cX12_halvesOf 3 = .ok (.if_icmp .ge 7, 3) := by decide +kernel
theorem dX12_halvesOf_6 : decode cX12_halvesOf 6 = .ok (.iconst 1, 1) := by decide +kernel
theorem dX12_halvesOf_7 : decode cX12_halvesOf 7 = .ok (.goto 15, 3) := by decide +kernel
theorem dX12_halvesOf_10 : decode cX12_halvesOf 10 = .ok (.iload_n 0, 1) := by decide +kernel
theorem dX12_halvesOf_11 : decode cX12_halvesOf 11 = .ok (.sipush 192, 3) := by decide +kernel
theorem dX12_halvesOf_14 : decode cX12_halvesOf 14 = .ok (.if_icmp .ge 7, 3) := by decide +kernel
theorem dX12_halvesOf_17 : decode cX12_halvesOf 17 = .ok (.iconst 2, 1) := by decide +kernel
theorem dX12_halvesOf_18 : decode cX12_halvesOf 18 = .ok (.goto 4, 3) := by decide +kernel
theorem dX12_halvesOf_21 : decode cX12_halvesOf 21 = .ok (.iconst 3, 1) := by decide +kernel
theorem dX12_halvesOf_22 : decode cX12_halvesOf 22 = .ok (.ireturn, 1) := by decide +kernel
theorem dX12_taken_0 : decode cX12_taken 0 = .ok (.iconst 0, 1) := by decide +kernel
theorem dX12_taken_1 : decode cX12_taken 1 = .ok (.istore_n 2, 1) := by decide +kernel
theorem dX12_taken_2 : decode cX12_taken 2 = .ok (.iload_n 2, 1) := by decide +kernel
theorem dX12_taken_3 : decode cX12_taken 3 = .ok (.bipush 6, 2) := by decide +kernel
theorem dX12_taken_5 : decode cX12_taken 5 = .ok (.if_icmp .ge 16, 3) := by decide +kernel
theorem dX12_taken_8 : decode cX12_taken 8 = .ok (.aload_n 0, 1) := by decide +kernel
theorem dX12_taken_9 : decode cX12_taken 9 = .ok (.getfield 22, 3) := by decide +kernel
theorem dX12_taken_12 : decode cX12_taken 12 = .ok (.iload_n 2, 1) := by decide +kernel
theorem dX12_taken_13 : decode cX12_taken 13 = .ok (.iconst 0, 1) := by decide +kernel
theorem dX12_taken_14 : decode cX12_taken 14 = .ok (.iastore, 1) := by decide +kernel
theorem dX12_taken_15 : decode cX12_taken 15 = .ok (.iinc 2 1, 3) := by decide +kernel
theorem dX12_taken_18 : decode cX12_taken 18 = .ok (.goto (-16), 3) := by decide +kernel
theorem dX12_taken_21 : decode cX12_taken 21 = .ok (.aload_n 0, 1) := by decide +kernel
theorem dX12_taken_22 : decode cX12_taken 22 = .ok (.iload_n 1, 1) := by decide +kernel
theorem dX12_taken_23 : decode cX12_taken 23 = .ok (.iconst 2, 1) := by decide +kernel
theorem dX12_taken_24 : decode cX12_taken 24 = .ok (.iconst 0, 1) := by decide +kernel
theorem dX12_taken_25 : decode cX12_taken 25 = .ok (.invokevirtual 121, 3) := by decide +kernel
theorem dX12_taken_28 : decode cX12_taken 28 = .ok (.aload_n 0, 1) := by decide +kernel
theorem dX12_taken_29 : decode cX12_taken 29 = .ok (.iload_n 1, 1) := by decide +kernel
theorem dX12_taken_30 : decode cX12_taken 30 = .ok (.iconst 2, 1) := by decide +kernel
theorem dX12_taken_31 : decode cX12_taken 31 = .ok (.invokevirtual 125, 3) := by decide +kernel
theorem dX12_taken_34 : decode cX12_taken 34 = .ok (.aload_n 0, 1) := by decide +kernel
theorem dX12_taken_35 : decode cX12_taken 35 = .ok (.getfield 104, 3) := by decide +kernel
theorem dX12_taken_38 : decode cX12_taken 38 = .ok (.ifCond .le 5, 3) := by decide +kernel
theorem dX12_taken_41 : decode cX12_taken 41 = .ok (.iconst 0, 1) := by decide +kernel
theorem dX12_taken_42 : decode cX12_taken 42 = .ok (.ireturn, 1) := by decide +kernel
theorem dX12_taken_43 : decode cX12_taken 43 = .ok (.aload_n 0, 1) := by decide +kernel
theorem dX12_taken_44 : decode cX12_taken 44 = .ok (.getfield 7, 3) := by decide +kernel
theorem dX12_taken_47 : decode cX12_taken 47 = .ok (.iload_n 1, 1) := by decide +kernel
theorem dX12_taken_48 : decode cX12_taken 48 = .ok (.iaload, 1) := by decide +kernel
theorem dX12_taken_49 : decode cX12_taken 49 = .ok (.invokestatic 292, 3) := by decide +kernel
theorem dX12_taken_52 : decode cX12_taken 52 = .ok (.istore_n 2, 1) := by decide +kernel
theorem dX12_taken_53 : decode cX12_taken 53 = .ok (.aload_n 0, 1) := by decide +kernel
theorem dX12_taken_54 : decode cX12_taken 54 = .ok (.iload_n 1, 1) := by decide +kernel
theorem dX12_taken_55 : decode cX12_taken 55 = .ok (.iconst 2, 1) := by decide +kernel
theorem dX12_taken_56 : decode cX12_taken 56 = .ok (.iload_n 2, 1) := by decide +kernel
theorem dX12_taken_57 : decode cX12_taken 57 = .ok (.imul, 1) := by decide +kernel
theorem dX12_taken_58 : decode cX12_taken 58 = .ok (.iconst 0, 1) := by decide +kernel
theorem dX12_taken_59 : decode cX12_taken 59 = .ok (.invokevirtual 121, 3) := by decide +kernel
theorem dX12_taken_62 : decode cX12_taken 62 = .ok (.iconst 0, 1) := by decide +kernel
theorem dX12_taken_63 : decode cX12_taken 63 = .ok (.istore_n 3, 1) := by decide +kernel
theorem dX12_taken_64 : decode cX12_taken 64 = .ok (.iload_n 3, 1) := by decide +kernel
theorem dX12_taken_65 : decode cX12_taken 65 = .ok (.iconst 2, 1) := by decide +kernel
theorem dX12_taken_66 : decode cX12_taken 66 = .ok (.iload_n 2, 1) := by decide +kernel
theorem dX12_taken_67 : decode cX12_taken 67 = .ok (.imul, 1) := by decide +kernel
theorem dX12_taken_68 : decode cX12_taken 68 = .ok (.if_icmp .ge 30, 3) := by decide +kernel
theorem dX12_taken_71 : decode cX12_taken 71 = .ok (.aload_n 0, 1) := by decide +kernel
theorem dX12_taken_72 : decode cX12_taken 72 = .ok (.getfield 104, 3) := by decide +kernel
theorem dX12_taken_75 : decode cX12_taken 75 = .ok (.ifCond .ne 23, 3) := by decide +kernel
theorem dX12_taken_78 : decode cX12_taken 78 = .ok (.aload_n 0, 1) := by decide +kernel
theorem dX12_taken_79 : decode cX12_taken 79 = .ok (.getfield 22, 3) := by decide +kernel
theorem dX12_taken_82 : decode cX12_taken 82 = .ok (.iload_n 3, 1) := by decide +kernel
theorem dX12_taken_83 : decode cX12_taken 83 = .ok (.aload_n 0, 1) := by decide +kernel
theorem dX12_taken_84 : decode cX12_taken 84 = .ok (.getfield 7, 3) := by decide +kernel
theorem dX12_taken_87 : decode cX12_taken 87 = .ok (.iload_n 1, 1) := by decide +kernel
theorem dX12_taken_88 : decode cX12_taken 88 = .ok (.iload_n 3, 1) := by decide +kernel
theorem dX12_taken_89 : decode cX12_taken 89 = .ok (.iadd, 1) := by decide +kernel
theorem dX12_taken_90 : decode cX12_taken 90 = .ok (.iaload, 1) := by decide +kernel
theorem dX12_taken_91 : decode cX12_taken 91 = .ok (.iastore, 1) := by decide +kernel
theorem dX12_taken_92 : decode cX12_taken 92 = .ok (.iinc 3 1, 3) := by decide +kernel
theorem dX12_taken_95 : decode cX12_taken 95 = .ok (.goto (-31), 3) := by decide +kernel
theorem dX12_taken_98 : decode cX12_taken 98 = .ok (.aload_n 0, 1) := by decide +kernel
theorem dX12_taken_99 : decode cX12_taken 99 = .ok (.getfield 104, 3) := by decide +kernel
theorem dX12_taken_102 : decode cX12_taken 102 = .ok (.ifCond .ne 7, 3) := by decide +kernel
theorem dX12_taken_105 : decode cX12_taken 105 = .ok (.iconst 1, 1) := by decide +kernel
theorem dX12_taken_106 : decode cX12_taken 106 = .ok (.goto 4, 3) := by decide +kernel
theorem dX12_taken_109 : decode cX12_taken 109 = .ok (.iconst 0, 1) := by decide +kernel
theorem dX12_taken_110 : decode cX12_taken 110 = .ok (.ireturn, 1) := by decide +kernel
theorem dX12_instruction_0 : decode cX12_instruction 0 = .ok (.aload_n 0, 1) := by decide +kernel
theorem dX12_instruction_1 : decode cX12_instruction 1 = .ok (.iconst 0, 1) := by decide +kernel
theorem dX12_instruction_2 : decode cX12_instruction 2 = .ok (.putfield 104, 3) := by decide +kernel
theorem dX12_instruction_5 : decode cX12_instruction 5 = .ok (.aload_n 0, 1) := by decide +kernel
theorem dX12_instruction_6 : decode cX12_instruction 6 = .ok (.iconst 0, 1) := by decide +kernel
theorem dX12_instruction_7 : decode cX12_instruction 7 = .ok (.putfield 115, 3) := by decide +kernel
theorem dX12_instruction_10 : decode cX12_instruction 10 = .ok (.aload_n 0, 1) := by decide +kernel
theorem dX12_instruction_11 : decode cX12_instruction 11 = .ok (.iconst 0, 1) := by decide +kernel
theorem dX12_instruction_12 : decode cX12_instruction 12 = .ok (.putfield 194, 3) := by decide +kernel
theorem dX12_instruction_15 : decode cX12_instruction 15 = .ok (.aload_n 0, 1) := by decide +kernel
theorem dX12_instruction_16 : decode cX12_instruction 16 = .ok (.getfield 53, 3) := by decide +kernel
theorem dX12_instruction_19 : decode cX12_instruction 19 = .ok (.istore_n 1, 1) := by decide +kernel
theorem dX12_instruction_20 : decode cX12_instruction 20 = .ok (.aload_n 0, 1) := by decide +kernel
theorem dX12_instruction_21 : decode cX12_instruction 21 = .ok (.iload_n 1, 1) := by decide +kernel
theorem dX12_instruction_22 : decode cX12_instruction 22 = .ok (.iconst 2, 1) := by decide +kernel
theorem dX12_instruction_23 : decode cX12_instruction 23 = .ok (.iconst 0, 1) := by decide +kernel
theorem dX12_instruction_24 : decode cX12_instruction 24 = .ok (.invokevirtual 121, 3) := by decide +kernel
theorem dX12_instruction_27 : decode cX12_instruction 27 = .ok (.aload_n 0, 1) := by decide +kernel
theorem dX12_instruction_28 : decode cX12_instruction 28 = .ok (.iload_n 1, 1) := by decide +kernel
theorem dX12_instruction_29 : decode cX12_instruction 29 = .ok (.iconst 2, 1) := by decide +kernel
theorem dX12_instruction_30 : decode cX12_instruction 30 = .ok (.invokevirtual 125, 3) := by decide +kernel
theorem dX12_instruction_33 : decode cX12_instruction 33 = .ok (.aload_n 0, 1) := by decide +kernel
theorem dX12_instruction_34 : decode cX12_instruction 34 = .ok (.getfield 104, 3) := by decide +kernel
theorem dX12_instruction_37 : decode cX12_instruction 37 = .ok (.ifCond .le 27, 3) := by decide +kernel
theorem dX12_instruction_40 : decode cX12_instruction 40 = .ok (.aload_n 0, 1) := by decide +kernel
theorem dX12_instruction_41 : decode cX12_instruction 41 = .ok (.getfield 19, 3) := by decide +kernel
theorem dX12_instruction_44 : decode cX12_instruction 44 = .ok (.iconst 0, 1) := by decide +kernel
theorem dX12_instruction_45 : decode cX12_instruction 45 = .ok (.dup2, 1) := by decide +kernel
theorem dX12_instruction_46 : decode cX12_instruction 46 = .ok (.iaload, 1) := by decide +kernel
theorem dX12_instruction_47 : decode cX12_instruction 47 = .ok (.iconst 1, 1) := by decide +kernel
theorem dX12_instruction_48 : decode cX12_instruction 48 = .ok (.iadd, 1) := by decide +kernel
theorem dX12_instruction_49 : decode cX12_instruction 49 = .ok (.iastore, 1) := by decide +kernel
theorem dX12_instruction_50 : decode cX12_instruction 50 = .ok (.aload_n 0, 1) := by decide +kernel
theorem dX12_instruction_51 : decode cX12_instruction 51 = .ok (.bipush 40, 2) := by decide +kernel
theorem dX12_instruction_53 : decode cX12_instruction 53 = .ok (.bipush 104, 2) := by decide +kernel
theorem dX12_instruction_55 : decode cX12_instruction 55 = .ok (.aload_n 0, 1) := by decide +kernel
theorem dX12_instruction_56 : decode cX12_instruction 56 = .ok (.getfield 104, 3) := by decide +kernel
theorem dX12_instruction_59 : decode cX12_instruction 59 = .ok (.iconst 0, 1) := by decide +kernel
theorem dX12_instruction_60 : decode cX12_instruction 60 = .ok (.invokevirtual 295, 3) := by decide +kernel
theorem dX12_instruction_63 : decode cX12_instruction 63 = .ok (.return_, 1) := by decide +kernel
theorem dX12_instruction_64 : decode cX12_instruction 64 = .ok (.aload_n 0, 1) := by decide +kernel
theorem dX12_instruction_65 : decode cX12_instruction 65 = .ok (.getfield 7, 3) := by decide +kernel
theorem dX12_instruction_68 : decode cX12_instruction 68 = .ok (.iload_n 1, 1) := by decide +kernel
theorem dX12_instruction_69 : decode cX12_instruction 69 = .ok (.iaload, 1) := by decide +kernel
theorem dX12_instruction_70 : decode cX12_instruction 70 = .ok (.invokestatic 292, 3) := by decide +kernel
theorem dX12_instruction_73 : decode cX12_instruction 73 = .ok (.istore_n 2, 1) := by decide +kernel
theorem dX12_instruction_74 : decode cX12_instruction 74 = .ok (.aload_n 0, 1) := by decide +kernel
theorem dX12_instruction_75 : decode cX12_instruction 75 = .ok (.iload_n 2, 1) := by decide +kernel
theorem dX12_instruction_76 : decode cX12_instruction 76 = .ok (.putfield 44, 3) := by decide +kernel
theorem dX12_instruction_79 : decode cX12_instruction 79 = .ok (.aload_n 0, 1) := by decide +kernel
theorem dX12_instruction_80 : decode cX12_instruction 80 = .ok (.iload_n 1, 1) := by decide +kernel
theorem dX12_instruction_81 : decode cX12_instruction 81 = .ok (.iconst 2, 1) := by decide +kernel
theorem dX12_instruction_82 : decode cX12_instruction 82 = .ok (.iload_n 2, 1) := by decide +kernel
theorem dX12_instruction_83 : decode cX12_instruction 83 = .ok (.imul, 1) := by decide +kernel
theorem dX12_instruction_84 : decode cX12_instruction 84 = .ok (.iadd, 1) := by decide +kernel
theorem dX12_instruction_85 : decode cX12_instruction 85 = .ok (.ldc 81, 2) := by decide +kernel
theorem dX12_instruction_87 : decode cX12_instruction 87 = .ok (.iand, 1) := by decide +kernel
theorem dX12_instruction_88 : decode cX12_instruction 88 = .ok (.putfield 53, 3) := by decide +kernel
theorem dX12_instruction_91 : decode cX12_instruction 91 = .ok (.aload_n 0, 1) := by decide +kernel
theorem dX12_instruction_92 : decode cX12_instruction 92 = .ok (.iload_n 1, 1) := by decide +kernel
theorem dX12_instruction_93 : decode cX12_instruction 93 = .ok (.invokevirtual 298, 3) := by decide +kernel
theorem dX12_instruction_96 : decode cX12_instruction 96 = .ok (.ifCond .eq 103, 3) := by decide +kernel
theorem dX12_instruction_99 : decode cX12_instruction 99 = .ok (.aload_n 0, 1) := by decide +kernel
theorem dX12_instruction_100 : decode cX12_instruction 100 = .ok (.getfield 22, 3) := by decide +kernel
theorem dX12_instruction_103 : decode cX12_instruction 103 = .ok (.iconst 0, 1) := by decide +kernel
theorem dX12_instruction_104 : decode cX12_instruction 104 = .ok (.iaload, 1) := by decide +kernel
theorem dX12_instruction_105 : decode cX12_instruction 105 = .ok (.bipush 68, 2) := by decide +kernel
theorem dX12_instruction_107 : decode cX12_instruction 107 = .ok (.if_icmp .ne 88, 3) := by decide +kernel
theorem dX12_instruction_110 : decode cX12_instruction 110 = .ok (.aload_n 0, 1) := by decide +kernel
theorem dX12_instruction_111 : decode cX12_instruction 111 = .ok (.getfield 22, 3) := by decide +kernel
theorem dX12_instruction_114 : decode cX12_instruction 114 = .ok (.iconst 1, 1) := by decide +kernel
theorem dX12_instruction_115 : decode cX12_instruction 115 = .ok (.iaload, 1) := by decide +kernel
theorem dX12_instruction_116 : decode cX12_instruction 116 = .ok (.iconst 4, 1) := by decide +kernel
theorem dX12_instruction_117 : decode cX12_instruction 117 = .ok (.ishr, 1) := by decide +kernel
theorem dX12_instruction_118 : decode cX12_instruction 118 = .ok (.istore_n 3, 1) := by decide +kernel
theorem dX12_instruction_119 : decode cX12_instruction 119 = .ok (.aload_n 0, 1) := by decide +kernel
theorem dX12_instruction_120 : decode cX12_instruction 120 = .ok (.invokevirtual 212, 3) := by decide +kernel
theorem dX12_instruction_123 : decode cX12_instruction 123 = .ok (.istore 4, 2) := by decide +kernel
theorem dX12_instruction_125 : decode cX12_instruction 125 = .ok (.iload_n 3, 1) := by decide +kernel
theorem dX12_instruction_126 : decode cX12_instruction 126 = .ok (.ifCond .ne 7, 3) := by decide +kernel
theorem dX12_instruction_129 : decode cX12_instruction 129 = .ok (.iconst 0, 1) := by decide +kernel
theorem dX12_instruction_130 : decode cX12_instruction 130 = .ok (.goto 13, 3) := by decide +kernel
theorem dX12_instruction_133 : decode cX12_instruction 133 = .ok (.aload_n 0, 1) := by decide +kernel
theorem dX12_instruction_134 : decode cX12_instruction 134 = .ok (.getfield 16, 3) := by decide +kernel
theorem dX12_instruction_137 : decode cX12_instruction 137 = .ok (.iload_n 3, 1) := by decide +kernel
theorem dX12_instruction_138 : decode cX12_instruction 138 = .ok (.iaload, 1) := by decide +kernel
theorem dX12_instruction_139 : decode cX12_instruction 139 = .ok (.sipush 255, 3) := by decide +kernel
theorem dX12_instruction_142 : decode cX12_instruction 142 = .ok (.iand, 1) := by decide +kernel
theorem dX12_instruction_143 : decode cX12_instruction 143 = .ok (.istore 5, 2) := by decide +kernel
theorem dX12_instruction_145 : decode cX12_instruction 145 = .ok (.aload_n 0, 1) := by decide +kernel
theorem dX12_instruction_146 : decode cX12_instruction 146 = .ok (.iload 4, 2) := by decide +kernel
theorem dX12_instruction_148 : decode cX12_instruction 148 = .ok (.invokevirtual 298, 3) := by decide +kernel
theorem dX12_instruction_151 : decode cX12_instruction 151 = .ok (.ifCond .eq 41, 3) := by decide +kernel
theorem dX12_instruction_154 : decode cX12_instruction 154 = .ok (.aload_n 0, 1) := by decide +kernel
theorem dX12_instruction_155 : decode cX12_instruction 155 = .ok (.getfield 22, 3) := by decide +kernel
theorem dX12_instruction_158 : decode cX12_instruction 158 = .ok (.iconst 1, 1) := by decide +kernel
theorem dX12_instruction_159 : decode cX12_instruction 159 = .ok (.aload_n 0, 1) := by decide +kernel
theorem dX12_instruction_160 : decode cX12_instruction 160 = .ok (.getfield 22, 3) := by decide +kernel
theorem dX12_instruction_163 : decode cX12_instruction 163 = .ok (.iconst 1, 1) := by decide +kernel
theorem dX12_instruction_164 : decode cX12_instruction 164 = .ok (.iaload, 1) := by decide +kernel
theorem dX12_instruction_165 : decode cX12_instruction 165 = .ok (.iload 5, 2) := by decide +kernel
theorem dX12_instruction_167 : decode cX12_instruction 167 = .ok (.ior, 1) := by decide +kernel
theorem dX12_instruction_168 : decode cX12_instruction 168 = .ok (.iastore, 1) := by decide +kernel
theorem dX12_instruction_169 : decode cX12_instruction 169 = .ok (.aload_n 0, 1) := by decide +kernel
theorem dX12_instruction_170 : decode cX12_instruction 170 = .ok (.getfield 22, 3) := by decide +kernel
theorem dX12_instruction_173 : decode cX12_instruction 173 = .ok (.iconst 0, 1) := by decide +kernel
theorem dX12_instruction_174 : decode cX12_instruction 174 = .ok (.iaload, 1) := by decide +kernel
theorem dX12_instruction_175 : decode cX12_instruction 175 = .ok (.bipush 68, 2) := by decide +kernel
theorem dX12_instruction_177 : decode cX12_instruction 177 = .ok (.if_icmp .ne 11, 3) := by decide +kernel
theorem dX12_instruction_180 : decode cX12_instruction 180 = .ok (.aload_n 0, 1) := by decide +kernel
theorem dX12_instruction_181 : decode cX12_instruction 181 = .ok (.iconst 3, 1) := by decide +kernel
theorem dX12_instruction_182 : decode cX12_instruction 182 = .ok (.invokevirtual 107, 3) := by decide +kernel
theorem dX12_instruction_185 : decode cX12_instruction 185 = .ok (.goto 7, 3) := by decide +kernel
theorem dX12_instruction_188 : decode cX12_instruction 188 = .ok (.aload_n 0, 1) := by decide +kernel
theorem dX12_instruction_189 : decode cX12_instruction 189 = .ok (.invokevirtual 302, 3) := by decide +kernel
theorem dX12_instruction_192 : decode cX12_instruction 192 = .ok (.goto 7, 3) := by decide +kernel
theorem dX12_instruction_195 : decode cX12_instruction 195 = .ok (.aload_n 0, 1) := by decide +kernel
theorem dX12_instruction_196 : decode cX12_instruction 196 = .ok (.invokevirtual 302, 3) := by decide +kernel
theorem dX12_instruction_199 : decode cX12_instruction 199 = .ok (.aload_n 0, 1) := by decide +kernel
theorem dX12_instruction_200 : decode cX12_instruction 200 = .ok (.getfield 104, 3) := by decide +kernel
theorem dX12_instruction_203 : decode cX12_instruction 203 = .ok (.ifCond .gt 10, 3) := by decide +kernel
theorem dX12_instruction_206 : decode cX12_instruction 206 = .ok (.aload_n 0, 1) := by decide +kernel
theorem dX12_instruction_207 : decode cX12_instruction 207 = .ok (.getfield 115, 3) := by decide +kernel
theorem dX12_instruction_210 : decode cX12_instruction 210 = .ok (.ifCond .le 46, 3) := by decide +kernel
theorem dX12_instruction_213 : decode cX12_instruction 213 = .ok (.aload_n 0, 1) := by decide +kernel
theorem dX12_instruction_214 : decode cX12_instruction 214 = .ok (.getfield 19, 3) := by decide +kernel
theorem dX12_instruction_217 : decode cX12_instruction 217 = .ok (.iconst 0, 1) := by decide +kernel
theorem dX12_instruction_218 : decode cX12_instruction 218 = .ok (.dup2, 1) := by decide +kernel
theorem dX12_instruction_219 : decode cX12_instruction 219 = .ok (.iaload, 1) := by decide +kernel
theorem dX12_instruction_220 : decode cX12_instruction 220 = .ok (.iconst 1, 1) := by decide +kernel
theorem dX12_instruction_221 : decode cX12_instruction 221 = .ok (.iadd, 1) := by decide +kernel
theorem dX12_instruction_222 : decode cX12_instruction 222 = .ok (.iastore, 1) := by decide +kernel
theorem dX12_instruction_223 : decode cX12_instruction 223 = .ok (.aload_n 0, 1) := by decide +kernel
theorem dX12_instruction_224 : decode cX12_instruction 224 = .ok (.bipush 40, 2) := by decide +kernel
theorem dX12_instruction_226 : decode cX12_instruction 226 = .ok (.bipush 104, 2) := by decide +kernel
theorem dX12_instruction_228 : decode cX12_instruction 228 = .ok (.aload_n 0, 1) := by decide +kernel
theorem dX12_instruction_229 : decode cX12_instruction 229 = .ok (.getfield 104, 3) := by decide +kernel
theorem dX12_instruction_232 : decode cX12_instruction 232 = .ok (.ifCond .le 10, 3) := by decide +kernel
theorem dX12_instruction_235 : decode cX12_instruction 235 = .ok (.aload_n 0, 1) := by decide +kernel
theorem dX12_instruction_236 : decode cX12_instruction 236 = .ok (.getfield 104, 3) := by decide +kernel
theorem dX12_instruction_239 : decode cX12_instruction 239 = .ok (.goto 7, 3) := by decide +kernel
theorem dX12_instruction_242 : decode cX12_instruction 242 = .ok (.aload_n 0, 1) := by decide +kernel
theorem dX12_instruction_243 : decode cX12_instruction 243 = .ok (.getfield 115, 3) := by decide +kernel
theorem dX12_instruction_246 : decode cX12_instruction 246 = .ok (.aload_n 0, 1) := by decide +kernel
theorem dX12_instruction_247 : decode cX12_instruction 247 = .ok (.getfield 44, 3) := by decide +kernel
theorem dX12_instruction_250 : decode cX12_instruction 250 = .ok (.invokevirtual 295, 3) := by decide +kernel
theorem dX12_instruction_253 : decode cX12_instruction 253 = .ok (.goto 38, 3) := by decide +kernel
theorem dX12_instruction_256 : decode cX12_instruction 256 = .ok (.aload_n 0, 1) := by decide +kernel
theorem dX12_instruction_257 : decode cX12_instruction 257 = .ok (.getfield 194, 3) := by decide +kernel
theorem dX12_instruction_260 : decode cX12_instruction 260 = .ok (.ifCond .eq 31, 3) := by decide +kernel
theorem dX12_instruction_263 : decode cX12_instruction 263 = .ok (.aload_n 0, 1) := by decide +kernel
theorem dX12_instruction_264 : decode cX12_instruction 264 = .ok (.getfield 19, 3) := by decide +kernel
theorem dX12_instruction_267 : decode cX12_instruction 267 = .ok (.iconst 1, 1) := by decide +kernel
theorem dX12_instruction_268 : decode cX12_instruction 268 = .ok (.dup2, 1) := by decide +kernel
theorem dX12_instruction_269 : decode cX12_instruction 269 = .ok (.iaload, 1) := by decide +kernel
theorem dX12_instruction_270 : decode cX12_instruction 270 = .ok (.iconst 1, 1) := by decide +kernel
theorem dX12_instruction_271 : decode cX12_instruction 271 = .ok (.iadd, 1) := by decide +kernel
theorem dX12_instruction_272 : decode cX12_instruction 272 = .ok (.iastore, 1) := by decide +kernel
theorem dX12_instruction_273 : decode cX12_instruction 273 = .ok (.aload_n 0, 1) := by decide +kernel
theorem dX12_instruction_274 : decode cX12_instruction 274 = .ok (.bipush 32, 2) := by decide +kernel
theorem dX12_instruction_276 : decode cX12_instruction 276 = .ok (.bipush 96, 2) := by decide +kernel
theorem dX12_instruction_278 : decode cX12_instruction 278 = .ok (.aload_n 0, 1) := by decide +kernel
theorem dX12_instruction_279 : decode cX12_instruction 279 = .ok (.getfield 22, 3) := by decide +kernel
theorem dX12_instruction_282 : decode cX12_instruction 282 = .ok (.iconst 1, 1) := by decide +kernel
theorem dX12_instruction_283 : decode cX12_instruction 283 = .ok (.iaload, 1) := by decide +kernel
theorem dX12_instruction_284 : decode cX12_instruction 284 = .ok (.aload_n 0, 1) := by decide +kernel
theorem dX12_instruction_285 : decode cX12_instruction 285 = .ok (.getfield 44, 3) := by decide +kernel
theorem dX12_instruction_288 : decode cX12_instruction 288 = .ok (.invokevirtual 295, 3) := by decide +kernel
theorem dX12_instruction_291 : decode cX12_instruction 291 = .ok (.return_, 1) := by decide +kernel
theorem dX12_want_0 : decode cX12_want 0 = .ok (.aload_n 0, 1) := by decide +kernel
theorem dX12_want_1 : decode cX12_want 1 = .ok (.iload_n 1, 1) := by decide +kernel
theorem dX12_want_2 : decode cX12_want 2 = .ok (.ifCond .lt 10, 3) := by decide +kernel
theorem dX12_want_5 : decode cX12_want 5 = .ok (.iload_n 1, 1) := by decide +kernel
theorem dX12_want_6 : decode cX12_want 6 = .ok (.sipush 255, 3) := by decide +kernel
theorem dX12_want_9 : decode cX12_want 9 = .ok (.if_icmp .le 7, 3) := by decide +kernel
theorem dX12_want_12 : decode cX12_want 12 = .ok (.iconst 1, 1) := by decide +kernel
theorem dX12_want_13 : decode cX12_want 13 = .ok (.goto 4, 3) := by decide +kernel
theorem dX12_want_16 : decode cX12_want 16 = .ok (.iconst 0, 1) := by decide +kernel
theorem dX12_want_17 : decode cX12_want 17 = .ok (.putfield 40, 3) := by decide +kernel
theorem dX12_want_20 : decode cX12_want 20 = .ok (.aload_n 0, 1) := by decide +kernel
theorem dX12_want_21 : decode cX12_want 21 = .ok (.getfield 40, 3) := by decide +kernel
theorem dX12_want_24 : decode cX12_want 24 = .ok (.ifCond .ne 13, 3) := by decide +kernel
theorem dX12_want_27 : decode cX12_want 27 = .ok (.aload_n 0, 1) := by decide +kernel
theorem dX12_want_28 : decode cX12_want 28 = .ok (.aload_n 0, 1) := by decide +kernel
theorem dX12_want_29 : decode cX12_want 29 = .ok (.getfield 305, 3) := by decide +kernel
theorem dX12_want_32 : decode cX12_want 32 = .ok (.iload_n 1, 1) := by decide +kernel
theorem dX12_want_33 : decode cX12_want 33 = .ok (.ior, 1) := by decide +kernel
theorem dX12_want_34 : decode cX12_want 34 = .ok (.putfield 305, 3) := by decide +kernel
theorem dX12_want_37 : decode cX12_want 37 = .ok (.return_, 1) := by decide +kernel
theorem dX12_tick_0 : decode cX12_tick 0 = .ok (.aload_n 0, 1) := by decide +kernel
theorem dX12_tick_1 : decode cX12_tick 1 = .ok (.iload_n 1, 1) := by decide +kernel
theorem dX12_tick_2 : decode cX12_tick 2 = .ok (.ifCond .lt 10, 3) := by decide +kernel
theorem dX12_tick_5 : decode cX12_tick 5 = .ok (.iload_n 1, 1) := by decide +kernel
theorem dX12_tick_6 : decode cX12_tick 6 = .ok (.ldc_w 308, 3) := by decide +kernel
theorem dX12_tick_9 : decode cX12_tick 9 = .ok (.if_icmp .le 7, 3) := by decide +kernel
theorem dX12_tick_12 : decode cX12_tick 12 = .ok (.iconst 1, 1) := by decide +kernel
theorem dX12_tick_13 : decode cX12_tick 13 = .ok (.goto 4, 3) := by decide +kernel
theorem dX12_tick_16 : decode cX12_tick 16 = .ok (.iconst 0, 1) := by decide +kernel
theorem dX12_tick_17 : decode cX12_tick 17 = .ok (.putfield 40, 3) := by decide +kernel
theorem dX12_tick_20 : decode cX12_tick 20 = .ok (.aload_n 0, 1) := by decide +kernel
theorem dX12_tick_21 : decode cX12_tick 21 = .ok (.getfield 40, 3) := by decide +kernel
theorem dX12_tick_24 : decode cX12_tick 24 = .ok (.ifCond .le 5, 3) := by decide +kernel
theorem dX12_tick_27 : decode cX12_tick 27 = .ok (.iconst 0, 1) := by decide +kernel
theorem dX12_tick_28 : decode cX12_tick 28 = .ok (.ireturn, 1) := by decide +kernel
theorem dX12_tick_29 : decode cX12_tick 29 = .ok (.aload_n 0, 1) := by decide +kernel
theorem dX12_tick_30 : decode cX12_tick 30 = .ok (.bipush 80, 2) := by decide +kernel
theorem dX12_tick_32 : decode cX12_tick 32 = .ok (.iconst 4, 1) := by decide +kernel
theorem dX12_tick_33 : decode cX12_tick 33 = .ok (.invokevirtual 100, 3) := by decide +kernel
theorem dX12_tick_36 : decode cX12_tick 36 = .ok (.l2i, 1) := by decide +kernel
theorem dX12_tick_37 : decode cX12_tick 37 = .ok (.istore_n 2, 1) := by decide +kernel
theorem dX12_tick_38 : decode cX12_tick 38 = .ok (.iload_n 2, 1) := by decide +kernel
theorem dX12_tick_39 : decode cX12_tick 39 = .ok (.iload_n 1, 1) := by decide +kernel
theorem dX12_tick_40 : decode cX12_tick 40 = .ok (.isub, 1) := by decide +kernel
theorem dX12_tick_41 : decode cX12_tick 41 = .ok (.istore_n 3, 1) := by decide +kernel
theorem dX12_tick_42 : decode cX12_tick 42 = .ok (.aload_n 0, 1) := by decide +kernel
theorem dX12_tick_43 : decode cX12_tick 43 = .ok (.bipush 80, 2) := by decide +kernel
theorem dX12_tick_45 : decode cX12_tick 45 = .ok (.iload_n 3, 1) := by decide +kernel
theorem dX12_tick_46 : decode cX12_tick 46 = .ok (.i2l, 1) := by decide +kernel
theorem dX12_tick_47 : decode cX12_tick 47 = .ok (.iconst 4, 1) := by decide +kernel
theorem dX12_tick_48 : decode cX12_tick 48 = .ok (.invokevirtual 96, 3) := by decide +kernel
theorem dX12_tick_51 : decode cX12_tick 51 = .ok (.iload_n 2, 1) := by decide +kernel
theorem dX12_tick_52 : decode cX12_tick 52 = .ok (.ifCond .lt 19, 3) := by decide +kernel
theorem dX12_tick_55 : decode cX12_tick 55 = .ok (.iload_n 3, 1) := by decide +kernel
theorem dX12_tick_56 : decode cX12_tick 56 = .ok (.ifCond .ge 15, 3) := by decide +kernel
theorem dX12_tick_59 : decode cX12_tick 59 = .ok (.aload_n 0, 1) := by decide +kernel
theorem dX12_tick_60 : decode cX12_tick 60 = .ok (.aload_n 0, 1) := by decide +kernel
theorem dX12_tick_61 : decode cX12_tick 61 = .ok (.getfield 305, 3) := by decide +kernel
theorem dX12_tick_64 : decode cX12_tick 64 = .ok (.sipush 128, 3) := by decide +kernel
theorem dX12_tick_67 : decode cX12_tick 67 = .ok (.ior, 1) := by decide +kernel
theorem dX12_tick_68 : decode cX12_tick 68 = .ok (.putfield 305, 3) := by decide +kernel
theorem dX12_tick_71 : decode cX12_tick 71 = .ok (.iload_n 3, 1) := by decide +kernel
theorem dX12_tick_72 : decode cX12_tick 72 = .ok (.ireturn, 1) := by decide +kernel
theorem dX12_comes_0 : decode cX12_comes 0 = .ok (.aload_n 0, 1) := by decide +kernel
theorem dX12_comes_1 : decode cX12_comes 1 = .ok (.getfield 305, 3) := by decide +kernel
theorem dX12_comes_4 : decode cX12_comes 4 = .ok (.ifCond .eq 17, 3) := by decide +kernel
theorem dX12_comes_7 : decode cX12_comes 7 = .ok (.aload_n 0, 1) := by decide +kernel
theorem dX12_comes_8 : decode cX12_comes 8 = .ok (.getfield 56, 3) := by decide +kernel
theorem dX12_comes_11 : decode cX12_comes 11 = .ok (.iconst 1, 1) := by decide +kernel
theorem dX12_comes_12 : decode cX12_comes 12 = .ok (.iand, 1) := by decide +kernel
theorem dX12_comes_13 : decode cX12_comes 13 = .ok (.iconst 1, 1) := by decide +kernel
theorem dX12_comes_14 : decode cX12_comes 14 = .ok (.if_icmp .ne 7, 3) := by decide +kernel
theorem dX12_comes_17 : decode cX12_comes 17 = .ok (.iconst 1, 1) := by decide +kernel
theorem dX12_comes_18 : decode cX12_comes 18 = .ok (.goto 4, 3) := by decide +kernel
theorem dX12_comes_21 : decode cX12_comes 21 = .ok (.iconst 0, 1) := by decide +kernel
theorem dX12_comes_22 : decode cX12_comes 22 = .ok (.ireturn, 1) := by decide +kernel
theorem dX12_step_0 : decode cX12_step 0 = .ok (.aload_n 0, 1) := by decide +kernel
theorem dX12_step_1 : decode cX12_step 1 = .ok (.iload_n 1, 1) := by decide +kernel
theorem dX12_step_2 : decode cX12_step 2 = .ok (.ifCond .lt 10, 3) := by decide +kernel
theorem dX12_step_5 : decode cX12_step 5 = .ok (.iload_n 1, 1) := by decide +kernel
theorem dX12_step_6 : decode cX12_step 6 = .ok (.sipush 3000, 3) := by decide +kernel
theorem dX12_step_9 : decode cX12_step 9 = .ok (.if_icmp .le 7, 3) := by decide +kernel
theorem dX12_step_12 : decode cX12_step 12 = .ok (.iconst 1, 1) := by decide +kernel
theorem dX12_step_13 : decode cX12_step 13 = .ok (.goto 4, 3) := by decide +kernel
theorem dX12_step_16 : decode cX12_step 16 = .ok (.iconst 0, 1) := by decide +kernel
theorem dX12_step_17 : decode cX12_step 17 = .ok (.putfield 40, 3) := by decide +kernel
theorem dX12_step_20 : decode cX12_step 20 = .ok (.iconst 0, 1) := by decide +kernel
theorem dX12_step_21 : decode cX12_step 21 = .ok (.istore_n 2, 1) := by decide +kernel
theorem dX12_step_22 : decode cX12_step 22 = .ok (.aload_n 0, 1) := by decide +kernel
theorem dX12_step_23 : decode cX12_step 23 = .ok (.getfield 40, 3) := by decide +kernel
theorem dX12_step_26 : decode cX12_step 26 = .ok (.ifCond .ne 67, 3) := by decide +kernel
theorem dX12_step_29 : decode cX12_step 29 = .ok (.iload_n 2, 1) := by decide +kernel
theorem dX12_step_30 : decode cX12_step 30 = .ok (.iload_n 1, 1) := by decide +kernel
theorem dX12_step_31 : decode cX12_step 31 = .ok (.if_icmp .ge 62, 3) := by decide +kernel
theorem dX12_step_34 : decode cX12_step 34 = .ok (.aload_n 0, 1) := by decide +kernel
theorem dX12_step_35 : decode cX12_step 35 = .ok (.invokevirtual 309, 3) := by decide +kernel
theorem dX12_step_38 : decode cX12_step 38 = .ok (.ifCond .eq 36, 3) := by decide +kernel
theorem dX12_step_41 : decode cX12_step 41 = .ok (.aload_n 0, 1) := by decide +kernel
theorem dX12_step_42 : decode cX12_step 42 = .ok (.getfield 305, 3) := by decide +kernel
theorem dX12_step_45 : decode cX12_step 45 = .ok (.istore_n 3, 1) := by decide +kernel
theorem dX12_step_46 : decode cX12_step 46 = .ok (.aload_n 0, 1) := by decide +kernel
theorem dX12_step_47 : decode cX12_step 47 = .ok (.iconst 0, 1) := by decide +kernel
theorem dX12_step_48 : decode cX12_step 48 = .ok (.putfield 305, 3) := by decide +kernel
theorem dX12_step_51 : decode cX12_step 51 = .ok (.aload_n 0, 1) := by decide +kernel
theorem dX12_step_52 : decode cX12_step 52 = .ok (.getfield 19, 3) := by decide +kernel
theorem dX12_step_55 : decode cX12_step 55 = .ok (.iconst 2, 1) := by decide +kernel
theorem dX12_step_56 : decode cX12_step 56 = .ok (.dup2, 1) := by decide +kernel
theorem dX12_step_57 : decode cX12_step 57 = .ok (.iaload, 1) := by decide +kernel
theorem dX12_step_58 : decode cX12_step 58 = .ok (.iconst 1, 1) := by decide +kernel
theorem dX12_step_59 : decode cX12_step 59 = .ok (.iadd, 1) := by decide +kernel
theorem dX12_step_60 : decode cX12_step 60 = .ok (.iastore, 1) := by decide +kernel
theorem dX12_step_61 : decode cX12_step 61 = .ok (.aload_n 0, 1) := by decide +kernel
theorem dX12_step_62 : decode cX12_step 62 = .ok (.bipush 24, 2) := by decide +kernel
theorem dX12_step_64 : decode cX12_step 64 = .ok (.bipush 88, 2) := by decide +kernel
theorem dX12_step_66 : decode cX12_step 66 = .ok (.iload_n 3, 1) := by decide +kernel
theorem dX12_step_67 : decode cX12_step 67 = .ok (.iconst 0, 1) := by decide +kernel
theorem dX12_step_68 : decode cX12_step 68 = .ok (.invokevirtual 295, 3) := by decide +kernel
theorem dX12_step_71 : decode cX12_step 71 = .ok (.goto 16, 3) := by decide +kernel
theorem dX12_step_74 : decode cX12_step 74 = .ok (.aload_n 0, 1) := by decide +kernel
theorem dX12_step_75 : decode cX12_step 75 = .ok (.getfield 62, 3) := by decide +kernel
theorem dX12_step_78 : decode cX12_step 78 = .ok (.ifCond .eq 5, 3) := by decide +kernel
theorem dX12_step_81 : decode cX12_step 81 = .ok (.iload_n 2, 1) := by decide +kernel
theorem dX12_step_82 : decode cX12_step 82 = .ok (.ireturn, 1) := by decide +kernel
theorem dX12_step_83 : decode cX12_step 83 = .ok (.aload_n 0, 1) := by decide +kernel
theorem dX12_step_84 : decode cX12_step 84 = .ok (.invokevirtual 313, 3) := by decide +kernel
theorem dX12_step_87 : decode cX12_step 87 = .ok (.iinc 2 1, 3) := by decide +kernel
theorem dX12_step_90 : decode cX12_step 90 = .ok (.goto (-68), 3) := by decide +kernel
theorem dX12_step_93 : decode cX12_step 93 = .ok (.iload_n 2, 1) := by decide +kernel
theorem dX12_step_94 : decode cX12_step 94 = .ok (.ireturn, 1) := by decide +kernel
theorem dX12_waits_0 : decode cX12_waits 0 = .ok (.aload_n 0, 1) := by decide +kernel
theorem dX12_waits_1 : decode cX12_waits 1 = .ok (.iconst 0, 1) := by decide +kernel
theorem dX12_waits_2 : decode cX12_waits 2 = .ok (.putfield 40, 3) := by decide +kernel
theorem dX12_waits_5 : decode cX12_waits 5 = .ok (.aload_n 0, 1) := by decide +kernel
theorem dX12_waits_6 : decode cX12_waits 6 = .ok (.getfield 62, 3) := by decide +kernel
theorem dX12_waits_9 : decode cX12_waits 9 = .ok (.ifCond .eq 14, 3) := by decide +kernel
theorem dX12_waits_12 : decode cX12_waits 12 = .ok (.aload_n 0, 1) := by decide +kernel
theorem dX12_waits_13 : decode cX12_waits 13 = .ok (.invokevirtual 309, 3) := by decide +kernel
theorem dX12_waits_16 : decode cX12_waits 16 = .ok (.ifCond .ne 7, 3) := by decide +kernel
theorem dX12_waits_19 : decode cX12_waits 19 = .ok (.iconst 1, 1) := by decide +kernel
theorem dX12_waits_20 : decode cX12_waits 20 = .ok (.goto 4, 3) := by decide +kernel
theorem dX12_waits_23 : decode cX12_waits 23 = .ok (.iconst 0, 1) := by decide +kernel
theorem dX12_waits_24 : decode cX12_waits 24 = .ok (.ireturn, 1) := by decide +kernel
theorem dX12_told_0 : decode cX12_told 0 = .ok (.aload_n 0, 1) := by decide +kernel
theorem dX12_told_1 : decode cX12_told 1 = .ok (.iload_n 1, 1) := by decide +kernel
theorem dX12_told_2 : decode cX12_told 2 = .ok (.ifCond .lt 8, 3) := by decide +kernel
theorem dX12_told_5 : decode cX12_told 5 = .ok (.iload_n 1, 1) := by decide +kernel
theorem dX12_told_6 : decode cX12_told 6 = .ok (.iconst 2, 1) := by decide +kernel
theorem dX12_told_7 : decode cX12_told 7 = .ok (.if_icmp .le 7, 3) := by decide +kernel
theorem dX12_told_10 : decode cX12_told 10 = .ok (.iconst 1, 1) := by decide +kernel
theorem dX12_told_11 : decode cX12_told 11 = .ok (.goto 4, 3) := by decide +kernel
theorem dX12_told_14 : decode cX12_told 14 = .ok (.iconst 0, 1) := by decide +kernel
theorem dX12_told_15 : decode cX12_told 15 = .ok (.putfield 40, 3) := by decide +kernel
theorem dX12_told_18 : decode cX12_told 18 = .ok (.aload_n 0, 1) := by decide +kernel
theorem dX12_told_19 : decode cX12_told 19 = .ok (.getfield 40, 3) := by decide +kernel
theorem dX12_told_22 : decode cX12_told 22 = .ok (.ifCond .le 7, 3) := by decide +kernel
theorem dX12_told_25 : decode cX12_told 25 = .ok (.iconst 0, 1) := by decide +kernel
theorem dX12_told_26 : decode cX12_told 26 = .ok (.goto 9, 3) := by decide +kernel
theorem dX12_told_29 : decode cX12_told 29 = .ok (.aload_n 0, 1) := by decide +kernel
theorem dX12_told_30 : decode cX12_told 30 = .ok (.getfield 19, 3) := by decide +kernel
theorem dX12_told_33 : decode cX12_told 33 = .ok (.iload_n 1, 1) := by decide +kernel
theorem dX12_told_34 : decode cX12_told 34 = .ok (.iaload, 1) := by decide +kernel
theorem dX12_told_35 : decode cX12_told 35 = .ok (.ireturn, 1) := by decide +kernel
theorem dJ9_floorDiv_7cf53_0 : decode cJ9_floorDiv_7cf53 0 = .ok (.iload_n 0, 1) := by decide +kernel
theorem dJ9_floorDiv_7cf53_1 : decode cJ9_floorDiv_7cf53 1 = .ok (.iload_n 1, 1) := by decide +kernel
theorem dJ9_floorDiv_7cf53_2 : decode cJ9_floorDiv_7cf53 2 = .ok (.idiv, 1) := by decide +kernel
theorem dJ9_floorDiv_7cf53_3 : decode cJ9_floorDiv_7cf53 3 = .ok (.istore_n 2, 1) := by decide +kernel
theorem dJ9_floorDiv_7cf53_4 : decode cJ9_floorDiv_7cf53 4 = .ok (.iload_n 0, 1) := by decide +kernel
theorem dJ9_floorDiv_7cf53_5 : decode cJ9_floorDiv_7cf53 5 = .ok (.iload_n 1, 1) := by decide +kernel
theorem dJ9_floorDiv_7cf53_6 : decode cJ9_floorDiv_7cf53 6 = .ok (.ixor, 1) := by decide +kernel
theorem dJ9_floorDiv_7cf53_7 : decode cJ9_floorDiv_7cf53 7 = .ok (.ifCond .ge 14, 3) := by decide +kernel
theorem dJ9_floorDiv_7cf53_10 : decode cJ9_floorDiv_7cf53 10 = .ok (.iload_n 2, 1) := by decide +kernel
theorem dJ9_floorDiv_7cf53_11 : decode cJ9_floorDiv_7cf53 11 = .ok (.iload_n 1, 1) := by decide +kernel
theorem dJ9_floorDiv_7cf53_12 : decode cJ9_floorDiv_7cf53 12 = .ok (.imul, 1) := by decide +kernel
theorem dJ9_floorDiv_7cf53_13 : decode cJ9_floorDiv_7cf53 13 = .ok (.iload_n 0, 1) := by decide +kernel
theorem dJ9_floorDiv_7cf53_14 : decode cJ9_floorDiv_7cf53 14 = .ok (.if_icmp .eq 7, 3) := by decide +kernel
theorem dJ9_floorDiv_7cf53_17 : decode cJ9_floorDiv_7cf53 17 = .ok (.iload_n 2, 1) := by decide +kernel
theorem dJ9_floorDiv_7cf53_18 : decode cJ9_floorDiv_7cf53 18 = .ok (.iconst 1, 1) := by decide +kernel
theorem dJ9_floorDiv_7cf53_19 : decode cJ9_floorDiv_7cf53 19 = .ok (.isub, 1) := by decide +kernel
theorem dJ9_floorDiv_7cf53_20 : decode cJ9_floorDiv_7cf53 20 = .ok (.ireturn, 1) := by decide +kernel
theorem dJ9_floorDiv_7cf53_21 : decode cJ9_floorDiv_7cf53 21 = .ok (.iload_n 2, 1) := by decide +kernel
theorem dJ9_floorDiv_7cf53_22 : decode cJ9_floorDiv_7cf53 22 = .ok (.ireturn, 1) := by decide +kernel
theorem dJ9_floorMod_7cf53_0 : decode cJ9_floorMod_7cf53 0 = .ok (.iload_n 0, 1) := by decide +kernel
theorem dJ9_floorMod_7cf53_1 : decode cJ9_floorMod_7cf53 1 = .ok (.iload_n 1, 1) := by decide +kernel
theorem dJ9_floorMod_7cf53_2 : decode cJ9_floorMod_7cf53 2 = .ok (.irem, 1) := by decide +kernel
theorem dJ9_floorMod_7cf53_3 : decode cJ9_floorMod_7cf53 3 = .ok (.istore_n 2, 1) := by decide +kernel
theorem dJ9_floorMod_7cf53_4 : decode cJ9_floorMod_7cf53 4 = .ok (.iload_n 0, 1) := by decide +kernel
theorem dJ9_floorMod_7cf53_5 : decode cJ9_floorMod_7cf53 5 = .ok (.iload_n 1, 1) := by decide +kernel
theorem dJ9_floorMod_7cf53_6 : decode cJ9_floorMod_7cf53 6 = .ok (.ixor, 1) := by decide +kernel
theorem dJ9_floorMod_7cf53_7 : decode cJ9_floorMod_7cf53 7 = .ok (.ifCond .ge 11, 3) := by decide +kernel
theorem dJ9_floorMod_7cf53_10 : decode cJ9_floorMod_7cf53 10 = .ok (.iload_n 2, 1) := by decide +kernel
theorem dJ9_floorMod_7cf53_11 : decode cJ9_floorMod_7cf53 11 = .ok (.ifCond .eq 7, 3) := by decide +kernel
theorem dJ9_floorMod_7cf53_14 : decode cJ9_floorMod_7cf53 14 = .ok (.iload_n 2, 1) := by decide +kernel
theorem dJ9_floorMod_7cf53_15 : decode cJ9_floorMod_7cf53 15 = .ok (.iload_n 1, 1) := by decide +kernel
theorem dJ9_floorMod_7cf53_16 : decode cJ9_floorMod_7cf53 16 = .ok (.iadd, 1) := by decide +kernel
theorem dJ9_floorMod_7cf53_17 : decode cJ9_floorMod_7cf53 17 = .ok (.ireturn, 1) := by decide +kernel
theorem dJ9_floorMod_7cf53_18 : decode cJ9_floorMod_7cf53 18 = .ok (.iload_n 2, 1) := by decide +kernel
theorem dJ9_floorMod_7cf53_19 : decode cJ9_floorMod_7cf53 19 = .ok (.ireturn, 1) := by decide +kernel
theorem dJ9_abs_067f4_0 : decode cJ9_abs_067f4 0 = .ok (.lload_n 0, 1) := by decide +kernel
theorem dJ9_abs_067f4_1 : decode cJ9_abs_067f4 1 = .ok (.lconst 0, 1) := by decide +kernel
theorem dJ9_abs_067f4_2 : decode cJ9_abs_067f4 2 = .ok (.lcmp, 1) := by decide +kernel
theorem dJ9_abs_067f4_3 : decode cJ9_abs_067f4 3 = .ok (.ifCond .ge 8, 3) := by decide +kernel
theorem dJ9_abs_067f4_6 : decode cJ9_abs_067f4 6 = .ok (.lload_n 0, 1) := by decide +kernel
theorem dJ9_abs_067f4_7 : decode cJ9_abs_067f4 7 = .ok (.lneg, 1) := by decide +kernel
theorem dJ9_abs_067f4_8 : decode cJ9_abs_067f4 8 = .ok (.goto 4, 3) := by decide +kernel
theorem dJ9_abs_067f4_11 : decode cJ9_abs_067f4 11 = .ok (.lload_n 0, 1) := by decide +kernel
theorem dJ9_abs_067f4_12 : decode cJ9_abs_067f4 12 = .ok (.lreturn, 1) := by decide +kernel
theorem dJ9_max_7cf53_0 : decode cJ9_max_7cf53 0 = .ok (.iload_n 0, 1) := by decide +kernel
theorem dJ9_max_7cf53_1 : decode cJ9_max_7cf53 1 = .ok (.iload_n 1, 1) := by decide +kernel
theorem dJ9_max_7cf53_2 : decode cJ9_max_7cf53 2 = .ok (.if_icmp .lt 7, 3) := by decide +kernel
theorem dJ9_max_7cf53_5 : decode cJ9_max_7cf53 5 = .ok (.iload_n 0, 1) := by decide +kernel
theorem dJ9_max_7cf53_6 : decode cJ9_max_7cf53 6 = .ok (.goto 4, 3) := by decide +kernel
theorem dJ9_max_7cf53_9 : decode cJ9_max_7cf53 9 = .ok (.iload_n 1, 1) := by decide +kernel
theorem dJ9_max_7cf53_10 : decode cJ9_max_7cf53 10 = .ok (.ireturn, 1) := by decide +kernel
theorem dJ7_fill_53178_0 : decode cJ7_fill_53178 0 = .ok (.iconst 0, 1) := by decide +kernel
theorem dJ7_fill_53178_1 : decode cJ7_fill_53178 1 = .ok (.istore_n 2, 1) := by decide +kernel
theorem dJ7_fill_53178_2 : decode cJ7_fill_53178 2 = .ok (.aload_n 0, 1) := by decide +kernel
theorem dJ7_fill_53178_3 : decode cJ7_fill_53178 3 = .ok (.arraylength, 1) := by decide +kernel
theorem dJ7_fill_53178_4 : decode cJ7_fill_53178 4 = .ok (.istore_n 3, 1) := by decide +kernel
theorem dJ7_fill_53178_5 : decode cJ7_fill_53178 5 = .ok (.iload_n 2, 1) := by decide +kernel
theorem dJ7_fill_53178_6 : decode cJ7_fill_53178 6 = .ok (.iload_n 3, 1) := by decide +kernel
theorem dJ7_fill_53178_7 : decode cJ7_fill_53178 7 = .ok (.if_icmp .ge 13, 3) := by decide +kernel
theorem dJ7_fill_53178_10 : decode cJ7_fill_53178 10 = .ok (.aload_n 0, 1) := by decide +kernel
theorem dJ7_fill_53178_11 : decode cJ7_fill_53178 11 = .ok (.iload_n 2, 1) := by decide +kernel
theorem dJ7_fill_53178_12 : decode cJ7_fill_53178 12 = .ok (.iload_n 1, 1) := by decide +kernel
theorem dJ7_fill_53178_13 : decode cJ7_fill_53178 13 = .ok (.iastore, 1) := by decide +kernel
theorem dJ7_fill_53178_14 : decode cJ7_fill_53178 14 = .ok (.iinc 2 1, 3) := by decide +kernel
theorem dJ7_fill_53178_17 : decode cJ7_fill_53178 17 = .ok (.goto (-12), 3) := by decide +kernel
theorem dJ7_fill_53178_20 : decode cJ7_fill_53178 20 = .ok (.return_, 1) := by decide +kernel
