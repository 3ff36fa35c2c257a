-- decode rows
theorem dX8_init_0 : decode cX8_init 0 = .ok (.aload_n 0, 1) := by decide +kernel
theorem dX8_init_1 : decode cX8_init 1 = .ok (.invokespecial 1, 3) := by decide +kernel
theorem dX8_init_4 : decode cX8_init 4 = .ok (.aload_n 0, 1) := by decide +kernel
theorem dX8_init_5 : decode cX8_init 5 = .ok (.bipush 64, 2) := by decide +kernel
theorem dX8_init_7 : decode cX8_init 7 = .ok (.newarray .int, 2) := by decide +kernel
theorem dX8_init_9 : decode cX8_init 9 = .ok (.putfield 7, 3) := by decide +kernel
theorem dX8_init_12 : decode cX8_init 12 = .ok (.aload_n 0, 1) := by decide +kernel
theorem dX8_init_13 : decode cX8_init 13 = .ok (.bipush 8, 2) := by decide +kernel
theorem dX8_init_15 : decode cX8_init 15 = .ok (.newarray .int, 2) := by decide +kernel
theorem dX8_init_17 : decode cX8_init 17 = .ok (.putfield 13, 3) := by decide +kernel
theorem dX8_init_20 : decode cX8_init 20 = .ok (.aload_n 0, 1) := by decide +kernel
theorem dX8_init_21 : decode cX8_init 21 = .ok (.sipush 1100, 3) := by decide +kernel
theorem dX8_init_24 : decode cX8_init 24 = .ok (.newarray .int, 2) := by decide +kernel
theorem dX8_init_26 : decode cX8_init 26 = .ok (.putfield 16, 3) := by decide +kernel
theorem dX8_init_29 : decode cX8_init 29 = .ok (.aload_n 0, 1) := by decide +kernel
theorem dX8_init_30 : decode cX8_init 30 = .ok (.sipush 1100, 3) := by decide +kernel
theorem dX8_init_33 : decode cX8_init 33 = .ok (.newarray .int, 2) := by decide +kernel
theorem dX8_init_35 : decode cX8_init 35 = .ok (.putfield 19, 3) := by decide +kernel
theorem dX8_init_38 : decode cX8_init 38 = .ok (.aload_n 0, 1) := by decide +kernel
theorem dX8_init_39 : decode cX8_init 39 = .ok (.sipush 1100, 3) := by decide +kernel
theorem dX8_init_42 : decode cX8_init 42 = .ok (.newarray .int, 2) := by decide +kernel
theorem dX8_init_44 : decode cX8_init 44 = .ok (.putfield 22, 3) := by decide +kernel
theorem dX8_init_47 : decode cX8_init 47 = .ok (.aload_n 0, 1) := by decide +kernel
theorem dX8_init_48 : decode cX8_init 48 = .ok (.sipush 1800, 3) := by decide +kernel
theorem dX8_init_51 : decode cX8_init 51 = .ok (.newarray .long, 2) := by decide +kernel
theorem dX8_init_53 : decode cX8_init 53 = .ok (.putfield 25, 3) := by decide +kernel
theorem dX8_init_56 : decode cX8_init 56 = .ok (.aload_n 0, 1) := by decide +kernel
theorem dX8_init_57 : decode cX8_init 57 = .ok (.sipush 1600, 3) := by decide +kernel
theorem dX8_init_60 : decode cX8_init 60 = .ok (.newarray .int, 2) := by decide +kernel
theorem dX8_init_62 : decode cX8_init 62 = .ok (.putfield 29, 3) := by decide +kernel
theorem dX8_init_65 : decode cX8_init 65 = .ok (.aload_n 0, 1) := by decide +kernel
theorem dX8_init_66 : decode cX8_init 66 = .ok (.sipush 400, 3) := by decide +kernel
theorem dX8_init_69 : decode cX8_init 69 = .ok (.newarray .int, 2) := by decide +kernel
theorem dX8_init_71 : decode cX8_init 71 = .ok (.putfield 32, 3) := by decide +kernel
theorem dX8_init_74 : decode cX8_init 74 = .ok (.aload_n 0, 1) := by decide +kernel
theorem dX8_init_75 : decode cX8_init 75 = .ok (.sipush 14600, 3) := by decide +kernel
theorem dX8_init_78 : decode cX8_init 78 = .ok (.newarray .byte, 2) := by decide +kernel
theorem dX8_init_80 : decode cX8_init 80 = .ok (.putfield 35, 3) := by decide +kernel
theorem dX8_init_83 : decode cX8_init 83 = .ok (.aload_n 0, 1) := by decide +kernel
theorem dX8_init_84 : decode cX8_init 84 = .ok (.sipush 200, 3) := by decide +kernel
theorem dX8_init_87 : decode cX8_init 87 = .ok (.newarray .int, 2) := by decide +kernel
theorem dX8_init_89 : decode cX8_init 89 = .ok (.putfield 39, 3) := by decide +kernel
theorem dX8_init_92 : decode cX8_init 92 = .ok (.aload_n 0, 1) := by decide +kernel
theorem dX8_init_93 : decode cX8_init 93 = .ok (.sipush 192, 3) := by decide +kernel
theorem dX8_init_96 : decode cX8_init 96 = .ok (.newarray .byte, 2) := by decide +kernel
theorem dX8_init_98 : decode cX8_init 98 = .ok (.putfield 42, 3) := by decide +kernel
theorem dX8_init_101 : decode cX8_init 101 = .ok (.aload_n 0, 1) := by decide +kernel
theorem dX8_init_102 : decode cX8_init 102 = .ok (.bipush 32, 2) := by decide +kernel
theorem dX8_init_104 : decode cX8_init 104 = .ok (.newarray .byte, 2) := by decide +kernel
theorem dX8_init_106 : decode cX8_init 106 = .ok (.putfield 45, 3) := by decide +kernel
theorem dX8_init_109 : decode cX8_init 109 = .ok (.aload_n 0, 1) := by decide +kernel
theorem dX8_init_110 : decode cX8_init 110 = .ok (.bipush 8, 2) := by decide +kernel
theorem dX8_init_112 : decode cX8_init 112 = .ok (.newarray .int, 2) := by decide +kernel
theorem dX8_init_114 : decode cX8_init 114 = .ok (.putfield 48, 3) := by decide +kernel
theorem dX8_init_117 : decode cX8_init 117 = .ok (.aload_n 0, 1) := by decide +kernel
theorem dX8_init_118 : decode cX8_init 118 = .ok (.bipush 8, 2) := by decide +kernel
theorem dX8_init_120 : decode cX8_init 120 = .ok (.newarray .int, 2) := by decide +kernel
theorem dX8_init_122 : decode cX8_init 122 = .ok (.putfield 51, 3) := by decide +kernel
theorem dX8_init_125 : decode cX8_init 125 = .ok (.aload_n 0, 1) := by decide +kernel
theorem dX8_init_126 : decode cX8_init 126 = .ok (.bipush 64, 2) := by decide +kernel
theorem dX8_init_128 : decode cX8_init 128 = .ok (.newarray .int, 2) := by decide +kernel
theorem dX8_init_130 : decode cX8_init 130 = .ok (.putfield 54, 3) := by decide +kernel
theorem dX8_init_133 : decode cX8_init 133 = .ok (.aload_n 0, 1) := by decide +kernel
theorem dX8_init_134 : decode cX8_init 134 = .ok (.sipush 6400, 3) := by decide +kernel
theorem dX8_init_137 : decode cX8_init 137 = .ok (.newarray .byte, 2) := by decide +kernel
theorem dX8_init_139 : decode cX8_init 139 = .ok (.putfield 57, 3) := by decide +kernel
theorem dX8_init_142 : decode cX8_init 142 = .ok (.aload_n 0, 1) := by decide +kernel
theorem dX8_init_143 : decode cX8_init 143 = .ok (.bipush 120, 2) := by decide +kernel
theorem dX8_init_145 : decode cX8_init 145 = .ok (.newarray .byte, 2) := by decide +kernel
theorem dX8_init_147 : decode cX8_init 147 = .ok (.putfield 60, 3) := by decide +kernel
theorem dX8_init_150 : decode cX8_init 150 = .ok (.iconst 0, 1) := by decide +kernel
theorem dX8_init_151 : decode cX8_init 151 = .ok (.istore_n 1, 1) := by decide +kernel
theorem dX8_init_152 : decode cX8_init 152 = .ok (.iconst 2, 1) := by decide +kernel
theorem dX8_init_153 : decode cX8_init 153 = .ok (.istore_n 2, 1) := by decide +kernel
theorem dX8_init_154 : decode cX8_init 154 = .ok (.iload_n 1, 1) := by decide +kernel
theorem dX8_init_155 : decode cX8_init 155 = .ok (.bipush 64, 2) := by decide +kernel
theorem dX8_init_157 : decode cX8_init 157 = .ok (.if_icmp .ge 78, 3) := by decide +kernel
theorem dX8_init_160 : decode cX8_init 160 = .ok (.iconst 1, 1) := by decide +kernel
theorem dX8_init_161 : decode cX8_init 161 = .ok (.istore_n 3, 1) := by decide +kernel
theorem dX8_init_162 : decode cX8_init 162 = .ok (.iconst 2, 1) := by decide +kernel
theorem dX8_init_163 : decode cX8_init 163 = .ok (.istore 4, 2) := by decide +kernel
theorem dX8_init_165 : decode cX8_init 165 = .ok (.iload 4, 2) := by decide +kernel
theorem dX8_init_167 : decode cX8_init 167 = .ok (.iload_n 2, 1) := by decide +kernel
theorem dX8_init_168 : decode cX8_init 168 = .ok (.if_icmp .ge 26, 3) := by decide +kernel
theorem dX8_init_171 : decode cX8_init 171 = .ok (.iload_n 3, 1) := by decide +kernel
theorem dX8_init_172 : decode cX8_init 172 = .ok (.ifCond .eq 14, 3) := by decide +kernel
theorem dX8_init_175 : decode cX8_init 175 = .ok (.iload_n 2, 1) := by decide +kernel
theorem dX8_init_176 : decode cX8_init 176 = .ok (.iload 4, 2) := by decide +kernel
theorem dX8_init_178 : decode cX8_init 178 = .ok (.irem, 1) := by decide +kernel
theorem dX8_init_179 : decode cX8_init 179 = .ok (.ifCond .eq 7, 3) := by decide +kernel
theorem dX8_init_182 : decode cX8_init 182 = .ok (.iconst 1, 1) := by decide +kernel
theorem dX8_init_183 : decode cX8_init 183 = .ok (.goto 4, 3) := by decide +kernel
theorem dX8_init_186 : decode cX8_init 186 = .ok (.iconst 0, 1) := by decide +kernel
theorem dX8_init_187 : decode cX8_init 187 = .ok (.istore_n 3, 1) := by decide +kernel
theorem dX8_init_188 : decode cX8_init 188 = .ok (.iinc 4 1, 3) := by decide +kernel
theorem dX8_init_191 : decode cX8_init 191 = .ok (.goto (-26), 3) := by decide +kernel
theorem dX8_init_194 : decode cX8_init 194 = .ok (.iload_n 3, 1) := by decide +kernel
theorem dX8_init_195 : decode cX8_init 195 = .ok (.ifCond .eq 34, 3) := by decide +kernel
theorem dX8_init_198 : decode cX8_init 198 = .ok (.aload_n 0, 1) := by decide +kernel
theorem dX8_init_199 : decode cX8_init 199 = .ok (.getfield 7, 3) := by decide +kernel
theorem dX8_init_202 : decode cX8_init 202 = .ok (.iload_n 1, 1) := by decide +kernel
theorem dX8_init_203 : decode cX8_init 203 = .ok (.iload_n 2, 1) := by decide +kernel
theorem dX8_init_204 : decode cX8_init 204 = .ok (.iconst 1, 1) := by decide +kernel
theorem dX8_init_205 : decode cX8_init 205 = .ok (.invokestatic 63, 3) := by decide +kernel
theorem dX8_init_208 : decode cX8_init 208 = .ok (.iastore, 1) := by decide +kernel
theorem dX8_init_209 : decode cX8_init 209 = .ok (.iload_n 1, 1) := by decide +kernel
theorem dX8_init_210 : decode cX8_init 210 = .ok (.bipush 8, 2) := by decide +kernel
theorem dX8_init_212 : decode cX8_init 212 = .ok (.if_icmp .ge 14, 3) := by decide +kernel
theorem dX8_init_215 : decode cX8_init 215 = .ok (.aload_n 0, 1) := by decide +kernel
theorem dX8_init_216 : decode cX8_init 216 = .ok (.getfield 13, 3) := by decide +kernel
theorem dX8_init_219 : decode cX8_init 219 = .ok (.iload_n 1, 1) := by decide +kernel
theorem dX8_init_220 : decode cX8_init 220 = .ok (.iload_n 2, 1) := by decide +kernel
theorem dX8_init_221 : decode cX8_init 221 = .ok (.iconst 0, 1) := by decide +kernel
theorem dX8_init_222 : decode cX8_init 222 = .ok (.invokestatic 63, 3) := by decide +kernel
theorem dX8_init_225 : decode cX8_init 225 = .ok (.iastore, 1) := by decide +kernel
theorem dX8_init_226 : decode cX8_init 226 = .ok (.iinc 1 1, 3) := by decide +kernel
theorem dX8_init_229 : decode cX8_init 229 = .ok (.iinc 2 1, 3) := by decide +kernel
theorem dX8_init_232 : decode cX8_init 232 = .ok (.goto (-78), 3) := by decide +kernel
theorem dX8_init_235 : decode cX8_init 235 = .ok (.return_, 1) := by decide +kernel
theorem dX8_thrown_0 : decode cX8_thrown 0 = .ok (.aload_n 0, 1) := by decide +kernel
theorem dX8_thrown_1 : decode cX8_thrown 1 = .ok (.getfield 67, 3) := by decide +kernel
theorem dX8_thrown_4 : decode cX8_thrown 4 = .ok (.ireturn, 1) := by decide +kernel
theorem dX8_isAtMost_0 : decode cX8_isAtMost 0 = .ok (.lload_n 0, 1) := by decide +kernel
theorem dX8_isAtMost_1 : decode cX8_isAtMost 1 = .ok (.bipush 18, 2) := by decide +kernel
theorem dX8_isAtMost_3 : decode cX8_isAtMost 3 = .ok (.lshr, 1) := by decide +kernel
theorem dX8_isAtMost_4 : decode cX8_isAtMost 4 = .ok (.lstore 4, 2) := by decide +kernel
theorem dX8_isAtMost_6 : decode cX8_isAtMost 6 = .ok (.lload_n 0, 1) := by decide +kernel
theorem dX8_isAtMost_7 : decode cX8_isAtMost 7 = .ok (.ldc2_w 71, 3) := by decide +kernel
theorem dX8_isAtMost_10 : decode cX8_isAtMost 10 = .ok (.land, 1) := by decide +kernel
theorem dX8_isAtMost_11 : decode cX8_isAtMost 11 = .ok (.lstore 6, 2) := by decide +kernel
theorem dX8_isAtMost_13 : decode cX8_isAtMost 13 = .ok (.lload 6, 2) := by decide +kernel
theorem dX8_isAtMost_15 : decode cX8_isAtMost 15 = .ok (.lload 6, 2) := by decide +kernel
theorem dX8_isAtMost_17 : decode cX8_isAtMost 17 = .ok (.lmul, 1) := by decide +kernel
theorem dX8_isAtMost_18 : decode cX8_isAtMost 18 = .ok (.lstore 8, 2) := by decide +kernel
theorem dX8_isAtMost_20 : decode cX8_isAtMost 20 = .ok (.ldc2_w 73, 3) := by decide +kernel
theorem dX8_isAtMost_23 : decode cX8_isAtMost 23 = .ok (.lload 4, 2) := by decide +kernel
theorem dX8_isAtMost_25 : decode cX8_isAtMost 25 = .ok (.lmul, 1) := by decide +kernel
theorem dX8_isAtMost_26 : decode cX8_isAtMost 26 = .ok (.lload 6, 2) := by decide +kernel
theorem dX8_isAtMost_28 : decode cX8_isAtMost 28 = .ok (.lmul, 1) := by decide +kernel
theorem dX8_isAtMost_29 : decode cX8_isAtMost 29 = .ok (.lload 8, 2) := by decide +kernel
theorem dX8_isAtMost_31 : decode cX8_isAtMost 31 = .ok (.bipush 18, 2) := by decide +kernel
theorem dX8_isAtMost_33 : decode cX8_isAtMost 33 = .ok (.lshr, 1) := by decide +kernel
theorem dX8_isAtMost_34 : decode cX8_isAtMost 34 = .ok (.ladd, 1) := by decide +kernel
theorem dX8_isAtMost_35 : decode cX8_isAtMost 35 = .ok (.lstore 10, 2) := by decide +kernel
theorem dX8_isAtMost_37 : decode cX8_isAtMost 37 = .ok (.lload 8, 2) := by decide +kernel
theorem dX8_isAtMost_39 : decode cX8_isAtMost 39 = .ok (.ldc2_w 71, 3) := by decide +kernel
theorem dX8_isAtMost_42 : decode cX8_isAtMost 42 = .ok (.land, 1) := by decide +kernel
theorem dX8_isAtMost_43 : decode cX8_isAtMost 43 = .ok (.lstore 8, 2) := by decide +kernel
theorem dX8_isAtMost_45 : decode cX8_isAtMost 45 = .ok (.lload 4, 2) := by decide +kernel
theorem dX8_isAtMost_47 : decode cX8_isAtMost 47 = .ok (.lload 4, 2) := by decide +kernel
theorem dX8_isAtMost_49 : decode cX8_isAtMost 49 = .ok (.lmul, 1) := by decide +kernel
theorem dX8_isAtMost_50 : decode cX8_isAtMost 50 = .ok (.lload 10, 2) := by decide +kernel
theorem dX8_isAtMost_52 : decode cX8_isAtMost 52 = .ok (.bipush 18, 2) := by decide +kernel
theorem dX8_isAtMost_54 : decode cX8_isAtMost 54 = .ok (.lshr, 1) := by decide +kernel
theorem dX8_isAtMost_55 : decode cX8_isAtMost 55 = .ok (.ladd, 1) := by decide +kernel
theorem dX8_isAtMost_56 : decode cX8_isAtMost 56 = .ok (.lstore 12, 2) := by decide +kernel
theorem dX8_isAtMost_58 : decode cX8_isAtMost 58 = .ok (.lload 10, 2) := by decide +kernel
theorem dX8_isAtMost_60 : decode cX8_isAtMost 60 = .ok (.ldc2_w 71, 3) := by decide +kernel
theorem dX8_isAtMost_63 : decode cX8_isAtMost 63 = .ok (.land, 1) := by decide +kernel
theorem dX8_isAtMost_64 : decode cX8_isAtMost 64 = .ok (.lstore 10, 2) := by decide +kernel
theorem dX8_isAtMost_66 : decode cX8_isAtMost 66 = .ok (.iload_n 3, 1) := by decide +kernel
theorem dX8_isAtMost_67 : decode cX8_isAtMost 67 = .ok (.ifCond .ne 41, 3) := by decide +kernel
theorem dX8_isAtMost_70 : decode cX8_isAtMost 70 = .ok (.lload 12, 2) := by decide +kernel
theorem dX8_isAtMost_72 : decode cX8_isAtMost 72 = .ok (.iload_n 2, 1) := by decide +kernel
theorem dX8_isAtMost_73 : decode cX8_isAtMost 73 = .ok (.i2l, 1) := by decide +kernel
theorem dX8_isAtMost_74 : decode cX8_isAtMost 74 = .ok (.bipush 28, 2) := by decide +kernel
theorem dX8_isAtMost_76 : decode cX8_isAtMost 76 = .ok (.lshl, 1) := by decide +kernel
theorem dX8_isAtMost_77 : decode cX8_isAtMost 77 = .ok (.lcmp, 1) := by decide +kernel
theorem dX8_isAtMost_78 : decode cX8_isAtMost 78 = .ok (.ifCond .lt 24, 3) := by decide +kernel
theorem dX8_isAtMost_81 : decode cX8_isAtMost 81 = .ok (.lload 12, 2) := by decide +kernel
theorem dX8_isAtMost_83 : decode cX8_isAtMost 83 = .ok (.iload_n 2, 1) := by decide +kernel
theorem dX8_isAtMost_84 : decode cX8_isAtMost 84 = .ok (.i2l, 1) := by decide +kernel
theorem dX8_isAtMost_85 : decode cX8_isAtMost 85 = .ok (.bipush 28, 2) := by decide +kernel
theorem dX8_isAtMost_87 : decode cX8_isAtMost 87 = .ok (.lshl, 1) := by decide +kernel
theorem dX8_isAtMost_88 : decode cX8_isAtMost 88 = .ok (.lcmp, 1) := by decide +kernel
theorem dX8_isAtMost_89 : decode cX8_isAtMost 89 = .ok (.ifCond .ne 17, 3) := by decide +kernel
theorem dX8_isAtMost_92 : decode cX8_isAtMost 92 = .ok (.lload 10, 2) := by decide +kernel
theorem dX8_isAtMost_94 : decode cX8_isAtMost 94 = .ok (.lload 8, 2) := by decide +kernel
theorem dX8_isAtMost_96 : decode cX8_isAtMost 96 = .ok (.ladd, 1) := by decide +kernel
theorem dX8_isAtMost_97 : decode cX8_isAtMost 97 = .ok (.lconst 0, 1) := by decide +kernel
theorem dX8_isAtMost_98 : decode cX8_isAtMost 98 = .ok (.lcmp, 1) := by decide +kernel
theorem dX8_isAtMost_99 : decode cX8_isAtMost 99 = .ok (.ifCond .ne 7, 3) := by decide +kernel
theorem dX8_isAtMost_102 : decode cX8_isAtMost 102 = .ok (.iconst 1, 1) := by decide +kernel
theorem dX8_isAtMost_103 : decode cX8_isAtMost 103 = .ok (.goto 4, 3) := by decide +kernel
theorem dX8_isAtMost_106 : decode cX8_isAtMost 106 = .ok (.iconst 0, 1) := by decide +kernel
theorem dX8_isAtMost_107 : decode cX8_isAtMost 107 = .ok (.ireturn, 1) := by decide +kernel
theorem dX8_isAtMost_108 : decode cX8_isAtMost 108 = .ok (.lload 8, 2) := by decide +kernel
theorem dX8_isAtMost_110 : decode cX8_isAtMost 110 = .ok (.lload 6, 2) := by decide +kernel
theorem dX8_isAtMost_112 : decode cX8_isAtMost 112 = .ok (.lmul, 1) := by decide +kernel
theorem dX8_isAtMost_113 : decode cX8_isAtMost 113 = .ok (.lstore 14, 2) := by decide +kernel
theorem dX8_isAtMost_115 : decode cX8_isAtMost 115 = .ok (.lload 8, 2) := by decide +kernel
theorem dX8_isAtMost_117 : decode cX8_isAtMost 117 = .ok (.lload 4, 2) := by decide +kernel
theorem dX8_isAtMost_119 : decode cX8_isAtMost 119 = .ok (.lmul, 1) := by decide +kernel
theorem dX8_isAtMost_120 : decode cX8_isAtMost 120 = .ok (.lload 10, 2) := by decide +kernel
theorem dX8_isAtMost_122 : decode cX8_isAtMost 122 = .ok (.lload 6, 2) := by decide +kernel
theorem dX8_isAtMost_124 : decode cX8_isAtMost 124 = .ok (.lmul, 1) := by decide +kernel
theorem dX8_isAtMost_125 : decode cX8_isAtMost 125 = .ok (.ladd, 1) := by decide +kernel
theorem dX8_isAtMost_126 : decode cX8_isAtMost 126 = .ok (.lload 14, 2) := by decide +kernel
theorem dX8_isAtMost_128 : decode cX8_isAtMost 128 = .ok (.bipush 18, 2) := by decide +kernel
theorem dX8_isAtMost_130 : decode cX8_isAtMost 130 = .ok (.lshr, 1) := by decide +kernel
theorem dX8_isAtMost_131 : decode cX8_isAtMost 131 = .ok (.ladd, 1) := by decide +kernel
theorem dX8_isAtMost_132 : decode cX8_isAtMost 132 = .ok (.lstore 16, 2) := by decide +kernel
theorem dX8_isAtMost_134 : decode cX8_isAtMost 134 = .ok (.lload 10, 2) := by decide +kernel
theorem dX8_isAtMost_136 : decode cX8_isAtMost 136 = .ok (.lload 4, 2) := by decide +kernel
theorem dX8_isAtMost_138 : decode cX8_isAtMost 138 = .ok (.lmul, 1) := by decide +kernel
theorem dX8_isAtMost_139 : decode cX8_isAtMost 139 = .ok (.lload 12, 2) := by decide +kernel
theorem dX8_isAtMost_141 : decode cX8_isAtMost 141 = .ok (.lload 6, 2) := by decide +kernel
theorem dX8_isAtMost_143 : decode cX8_isAtMost 143 = .ok (.lmul, 1) := by decide +kernel
theorem dX8_isAtMost_144 : decode cX8_isAtMost 144 = .ok (.ladd, 1) := by decide +kernel
theorem dX8_isAtMost_145 : decode cX8_isAtMost 145 = .ok (.lload 16, 2) := by decide +kernel
theorem dX8_isAtMost_147 : decode cX8_isAtMost 147 = .ok (.bipush 18, 2) := by decide +kernel
theorem dX8_isAtMost_149 : decode cX8_isAtMost 149 = .ok (.lshr, 1) := by decide +kernel
theorem dX8_isAtMost_150 : decode cX8_isAtMost 150 = .ok (.ladd, 1) := by decide +kernel
theorem dX8_isAtMost_151 : decode cX8_isAtMost 151 = .ok (.lstore 18, 2) := by decide +kernel
theorem dX8_isAtMost_153 : decode cX8_isAtMost 153 = .ok (.lload 12, 2) := by decide +kernel
theorem dX8_isAtMost_155 : decode cX8_isAtMost 155 = .ok (.lload 4, 2) := by decide +kernel
theorem dX8_isAtMost_157 : decode cX8_isAtMost 157 = .ok (.lmul, 1) := by decide +kernel
theorem dX8_isAtMost_158 : decode cX8_isAtMost 158 = .ok (.lload 18, 2) := by decide +kernel
theorem dX8_isAtMost_160 : decode cX8_isAtMost 160 = .ok (.bipush 18, 2) := by decide +kernel
theorem dX8_isAtMost_162 : decode cX8_isAtMost 162 = .ok (.lshr, 1) := by decide +kernel
theorem dX8_isAtMost_163 : decode cX8_isAtMost 163 = .ok (.ladd, 1) := by decide +kernel
theorem dX8_isAtMost_164 : decode cX8_isAtMost 164 = .ok (.lstore 20, 2) := by decide +kernel
theorem dX8_isAtMost_166 : decode cX8_isAtMost 166 = .ok (.lload 14, 2) := by decide +kernel
theorem dX8_isAtMost_168 : decode cX8_isAtMost 168 = .ok (.ldc2_w 71, 3) := by decide +kernel
theorem dX8_isAtMost_171 : decode cX8_isAtMost 171 = .ok (.land, 1) := by decide +kernel
theorem dX8_isAtMost_172 : decode cX8_isAtMost 172 = .ok (.lload 16, 2) := by decide +kernel
theorem dX8_isAtMost_174 : decode cX8_isAtMost 174 = .ok (.ldc2_w 71, 3) := by decide +kernel
theorem dX8_isAtMost_177 : decode cX8_isAtMost 177 = .ok (.land, 1) := by decide +kernel
theorem dX8_isAtMost_178 : decode cX8_isAtMost 178 = .ok (.ladd, 1) := by decide +kernel
theorem dX8_isAtMost_179 : decode cX8_isAtMost 179 = .ok (.lload 18, 2) := by decide +kernel
theorem dX8_isAtMost_181 : decode cX8_isAtMost 181 = .ok (.ldc2_w 71, 3) := by decide +kernel
theorem dX8_isAtMost_184 : decode cX8_isAtMost 184 = .ok (.land, 1) := by decide +kernel
theorem dX8_isAtMost_185 : decode cX8_isAtMost 185 = .ok (.ladd, 1) := by decide +kernel
theorem dX8_isAtMost_186 : decode cX8_isAtMost 186 = .ok (.lstore 22, 2) := by decide +kernel
theorem dX8_isAtMost_188 : decode cX8_isAtMost 188 = .ok (.lload 20, 2) := by decide +kernel
theorem dX8_isAtMost_190 : decode cX8_isAtMost 190 = .ok (.iload_n 2, 1) := by decide +kernel
theorem dX8_isAtMost_191 : decode cX8_isAtMost 191 = .ok (.i2l, 1) := by decide +kernel
theorem dX8_isAtMost_192 : decode cX8_isAtMost 192 = .ok (.bipush 42, 2) := by decide +kernel
theorem dX8_isAtMost_194 : decode cX8_isAtMost 194 = .ok (.lshl, 1) := by decide +kernel
theorem dX8_isAtMost_195 : decode cX8_isAtMost 195 = .ok (.lcmp, 1) := by decide +kernel
theorem dX8_isAtMost_196 : decode cX8_isAtMost 196 = .ok (.ifCond .lt 21, 3) := by decide +kernel
theorem dX8_isAtMost_199 : decode cX8_isAtMost 199 = .ok (.lload 20, 2) := by decide +kernel
theorem dX8_isAtMost_201 : decode cX8_isAtMost 201 = .ok (.iload_n 2, 1) := by decide +kernel
theorem dX8_isAtMost_202 : decode cX8_isAtMost 202 = .ok (.i2l, 1) := by decide +kernel
theorem dX8_isAtMost_203 : decode cX8_isAtMost 203 = .ok (.bipush 42, 2) := by decide +kernel
theorem dX8_isAtMost_205 : decode cX8_isAtMost 205 = .ok (.lshl, 1) := by decide +kernel
theorem dX8_isAtMost_206 : decode cX8_isAtMost 206 = .ok (.lcmp, 1) := by decide +kernel
theorem dX8_isAtMost_207 : decode cX8_isAtMost 207 = .ok (.ifCond .ne 14, 3) := by decide +kernel
theorem dX8_isAtMost_210 : decode cX8_isAtMost 210 = .ok (.lload 22, 2) := by decide +kernel
theorem dX8_isAtMost_212 : decode cX8_isAtMost 212 = .ok (.lconst 0, 1) := by decide +kernel
theorem dX8_isAtMost_213 : decode cX8_isAtMost 213 = .ok (.lcmp, 1) := by decide +kernel
theorem dX8_isAtMost_214 : decode cX8_isAtMost 214 = .ok (.ifCond .ne 7, 3) := by decide +kernel
theorem dX8_isAtMost_217 : decode cX8_isAtMost 217 = .ok (.iconst 1, 1) := by decide +kernel
theorem dX8_isAtMost_218 : decode cX8_isAtMost 218 = .ok (.goto 4, 3) := by decide +kernel
theorem dX8_isAtMost_221 : decode cX8_isAtMost 221 = .ok (.iconst 0, 1) := by decide +kernel
theorem dX8_isAtMost_222 : decode cX8_isAtMost 222 = .ok (.ireturn, 1) := by decide +kernel
theorem dX8_rootOf_0 : decode cX8_rootOf 0 = .ok (.lconst 0, 1) := by decide +kernel
theorem dX8_rootOf_1 : decode cX8_rootOf 1 = .ok (.lstore_n 2, 1) := by decide +kernel
theorem dX8_rootOf_2 : decode cX8_rootOf 2 = .ok (.ldc2_w 75, 3) := by decide +kernel
theorem dX8_rootOf_5 : decode cX8_rootOf 5 = .ok (.lstore 4, 2) := by decide +kernel
theorem dX8_rootOf_7 : decode cX8_rootOf 7 = .ok (.lload 4, 2) := by decide +kernel
theorem dX8_rootOf_9 : decode cX8_rootOf 9 = .ok (.lload_n 2, 1) := by decide +kernel
theorem dX8_rootOf_10 : decode cX8_rootOf 10 = .ok (.lsub, 1) := by decide +kernel
theorem dX8_rootOf_11 : decode cX8_rootOf 11 = .ok (.lconst 1, 1) := by decide +kernel
theorem dX8_rootOf_12 : decode cX8_rootOf 12 = .ok (.lcmp, 1) := by decide +kernel
theorem dX8_rootOf_13 : decode cX8_rootOf 13 = .ok (.ifCond .le 36, 3) := by decide +kernel
theorem dX8_rootOf_16 : decode cX8_rootOf 16 = .ok (.lload_n 2, 1) := by decide +kernel
theorem dX8_rootOf_17 : decode cX8_rootOf 17 = .ok (.lload 4, 2) := by decide +kernel
theorem dX8_rootOf_19 : decode cX8_rootOf 19 = .ok (.ladd, 1) := by decide +kernel
theorem dX8_rootOf_20 : decode cX8_rootOf 20 = .ok (.ldc2_w 73, 3) := by decide +kernel
theorem dX8_rootOf_23 : decode cX8_rootOf 23 = .ok (.ldiv, 1) := by decide +kernel
theorem dX8_rootOf_24 : decode cX8_rootOf 24 = .ok (.lstore 6, 2) := by decide +kernel
theorem dX8_rootOf_26 : decode cX8_rootOf 26 = .ok (.lload 6, 2) := by decide +kernel
theorem dX8_rootOf_28 : decode cX8_rootOf 28 = .ok (.iload_n 0, 1) := by decide +kernel
theorem dX8_rootOf_29 : decode cX8_rootOf 29 = .ok (.iload_n 1, 1) := by decide +kernel
theorem dX8_rootOf_30 : decode cX8_rootOf 30 = .ok (.invokestatic 77, 3) := by decide +kernel
theorem dX8_rootOf_33 : decode cX8_rootOf 33 = .ok (.ifCond .eq 9, 3) := by decide +kernel
theorem dX8_rootOf_36 : decode cX8_rootOf 36 = .ok (.lload 6, 2) := by decide +kernel
theorem dX8_rootOf_38 : decode cX8_rootOf 38 = .ok (.lstore_n 2, 1) := by decide +kernel
theorem dX8_rootOf_39 : decode cX8_rootOf 39 = .ok (.goto 7, 3) := by decide +kernel
theorem dX8_rootOf_42 : decode cX8_rootOf 42 = .ok (.lload 6, 2) := by decide +kernel
theorem dX8_rootOf_44 : decode cX8_rootOf 44 = .ok (.lstore 4, 2) := by decide +kernel
theorem dX8_rootOf_46 : decode cX8_rootOf 46 = .ok (.goto (-39), 3) := by decide +kernel
theorem dX8_rootOf_49 : decode cX8_rootOf 49 = .ok (.lload_n 2, 1) := by decide +kernel
theorem dX8_rootOf_50 : decode cX8_rootOf 50 = .ok (.l2i, 1) := by decide +kernel
theorem dX8_rootOf_51 : decode cX8_rootOf 51 = .ok (.ireturn, 1) := by decide +kernel
theorem dX8_rot_0 : decode cX8_rot 0 = .ok (.iload_n 0, 1) := by decide +kernel
theorem dX8_rot_1 : decode cX8_rot 1 = .ok (.iload_n 1, 1) := by decide +kernel
theorem dX8_rot_2 : decode cX8_rot 2 = .ok (.iushr, 1) := by decide +kernel
theorem dX8_rot_3 : decode cX8_rot 3 = .ok (.iload_n 0, 1) := by decide +kernel
theorem dX8_rot_4 : decode cX8_rot 4 = .ok (.bipush 32, 2) := by decide +kernel
theorem dX8_rot_6 : decode cX8_rot 6 = .ok (.iload_n 1, 1) := by decide +kernel
theorem dX8_rot_7 : decode cX8_rot 7 = .ok (.isub, 1) := by decide +kernel
theorem dX8_rot_8 : decode cX8_rot 8 = .ok (.ishl, 1) := by decide +kernel
theorem dX8_rot_9 : decode cX8_rot 9 = .ok (.ior, 1) := by decide +kernel
theorem dX8_rot_10 : decode cX8_rot 10 = .ok (.ireturn, 1) := by decide +kernel
theorem dX8_lay_0 : decode cX8_lay 0 = .ok (.aload_n 0, 1) := by decide +kernel
theorem dX8_lay_1 : decode cX8_lay 1 = .ok (.getfield 42, 3) := by decide +kernel
theorem dX8_lay_4 : decode cX8_lay 4 = .ok (.aload_n 0, 1) := by decide +kernel
theorem dX8_lay_5 : decode cX8_lay 5 = .ok (.getfield 81, 3) := by decide +kernel
theorem dX8_lay_8 : decode cX8_lay 8 = .ok (.iload_n 1, 1) := by decide +kernel
theorem dX8_lay_9 : decode cX8_lay 9 = .ok (.i2b, 1) := by decide +kernel
theorem dX8_lay_10 : decode cX8_lay 10 = .ok (.bastore, 1) := by decide +kernel
theorem dX8_lay_11 : decode cX8_lay 11 = .ok (.aload_n 0, 1) := by decide +kernel
theorem dX8_lay_12 : decode cX8_lay 12 = .ok (.dup, 1) := by decide +kernel
theorem dX8_lay_13 : decode cX8_lay 13 = .ok (.getfield 81, 3) := by decide +kernel
theorem dX8_lay_16 : decode cX8_lay 16 = .ok (.iconst 1, 1) := by decide +kernel
theorem dX8_lay_17 : decode cX8_lay 17 = .ok (.iadd, 1) := by decide +kernel
theorem dX8_lay_18 : decode cX8_lay 18 = .ok (.putfield 81, 3) := by decide +kernel
theorem dX8_lay_21 : decode cX8_lay 21 = .ok (.return_, 1) := by decide +kernel
theorem dX8_reckon_0 : decode cX8_reckon 0 = .ok (.bipush 8, 2) := by decide +kernel
theorem dX8_reckon_2 : decode cX8_reckon 2 = .ok (.aload_n 0, 1) := by decide +kernel
theorem dX8_reckon_3 : decode cX8_reckon 3 = .ok (.getfield 81, 3) := by decide +kernel
theorem dX8_reckon_6 : decode cX8_reckon 6 = .ok (.imul, 1) := by decide +kernel
theorem dX8_reckon_7 : decode cX8_reckon 7 = .ok (.istore_n 1, 1) := by decide +kernel
theorem dX8_reckon_8 : decode cX8_reckon 8 = .ok (.aload_n 0, 1) := by decide +kernel
theorem dX8_reckon_9 : decode cX8_reckon 9 = .ok (.sipush 128, 3) := by decide +kernel
theorem dX8_reckon_12 : decode cX8_reckon 12 = .ok (.invokevirtual 84, 3) := by decide +kernel
theorem dX8_reckon_15 : decode cX8_reckon 15 = .ok (.aload_n 0, 1) := by decide +kernel
theorem dX8_reckon_16 : decode cX8_reckon 16 = .ok (.getfield 81, 3) := by decide +kernel
theorem dX8_reckon_19 : decode cX8_reckon 19 = .ok (.bipush 64, 2) := by decide +kernel
theorem dX8_reckon_21 : decode cX8_reckon 21 = .ok (.irem, 1) := by decide +kernel
theorem dX8_reckon_22 : decode cX8_reckon 22 = .ok (.bipush 56, 2) := by decide +kernel
theorem dX8_reckon_24 : decode cX8_reckon 24 = .ok (.if_icmp .eq 11, 3) := by decide +kernel
theorem dX8_reckon_27 : decode cX8_reckon 27 = .ok (.aload_n 0, 1) := by decide +kernel
theorem dX8_reckon_28 : decode cX8_reckon 28 = .ok (.iconst 0, 1) := by decide +kernel
theorem dX8_reckon_29 : decode cX8_reckon 29 = .ok (.invokevirtual 84, 3) := by decide +kernel
theorem dX8_reckon_32 : decode cX8_reckon 32 = .ok (.goto (-17), 3) := by decide +kernel
theorem dX8_reckon_35 : decode cX8_reckon 35 = .ok (.bipush 7, 2) := by decide +kernel
theorem dX8_reckon_37 : decode cX8_reckon 37 = .ok (.istore_n 2, 1) := by decide +kernel
theorem dX8_reckon_38 : decode cX8_reckon 38 = .ok (.iload_n 2, 1) := by decide +kernel
theorem dX8_reckon_39 : decode cX8_reckon 39 = .ok (.ifCond .lt 28, 3) := by decide +kernel
theorem dX8_reckon_42 : decode cX8_reckon 42 = .ok (.aload_n 0, 1) := by decide +kernel
theorem dX8_reckon_43 : decode cX8_reckon 43 = .ok (.iload_n 2, 1) := by decide +kernel
theorem dX8_reckon_44 : decode cX8_reckon 44 = .ok (.iconst 3, 1) := by decide +kernel
theorem dX8_reckon_45 : decode cX8_reckon 45 = .ok (.if_icmp .le 7, 3) := by decide +kernel
theorem dX8_reckon_48 : decode cX8_reckon 48 = .ok (.iconst 0, 1) := by decide +kernel
theorem dX8_reckon_49 : decode cX8_reckon 49 = .ok (.goto 9, 3) := by decide +kernel
theorem dX8_reckon_52 : decode cX8_reckon 52 = .ok (.iload_n 1, 1) := by decide +kernel
theorem dX8_reckon_53 : decode cX8_reckon 53 = .ok (.bipush 8, 2) := by decide +kernel
theorem dX8_reckon_55 : decode cX8_reckon 55 = .ok (.iload_n 2, 1) := by decide +kernel
theorem dX8_reckon_56 : decode cX8_reckon 56 = .ok (.imul, 1) := by decide +kernel
theorem dX8_reckon_57 : decode cX8_reckon 57 = .ok (.ishr, 1) := by decide +kernel
theorem dX8_reckon_58 : decode cX8_reckon 58 = .ok (.invokevirtual 84, 3) := by decide +kernel
theorem dX8_reckon_61 : decode cX8_reckon 61 = .ok (.iinc 2 (-1), 3) := by decide +kernel
theorem dX8_reckon_64 : decode cX8_reckon 64 = .ok (.goto (-26), 3) := by decide +kernel
theorem dX8_reckon_67 : decode cX8_reckon 67 = .ok (.iconst 0, 1) := by decide +kernel
theorem dX8_reckon_68 : decode cX8_reckon 68 = .ok (.istore_n 2, 1) := by decide +kernel
theorem dX8_reckon_69 : decode cX8_reckon 69 = .ok (.iload_n 2, 1) := by decide +kernel
theorem dX8_reckon_70 : decode cX8_reckon 70 = .ok (.bipush 8, 2) := by decide +kernel
theorem dX8_reckon_72 : decode cX8_reckon 72 = .ok (.if_icmp .ge 21, 3) := by decide +kernel
theorem dX8_reckon_75 : decode cX8_reckon 75 = .ok (.aload_n 0, 1) := by decide +kernel
theorem dX8_reckon_76 : decode cX8_reckon 76 = .ok (.getfield 48, 3) := by decide +kernel
theorem dX8_reckon_79 : decode cX8_reckon 79 = .ok (.iload_n 2, 1) := by decide +kernel
theorem dX8_reckon_80 : decode cX8_reckon 80 = .ok (.aload_n 0, 1) := by decide +kernel
theorem dX8_reckon_81 : decode cX8_reckon 81 = .ok (.getfield 13, 3) := by decide +kernel
theorem dX8_reckon_84 : decode cX8_reckon 84 = .ok (.iload_n 2, 1) := by decide +kernel
theorem dX8_reckon_85 : decode cX8_reckon 85 = .ok (.iaload, 1) := by decide +kernel
theorem dX8_reckon_86 : decode cX8_reckon 86 = .ok (.iastore, 1) := by decide +kernel
theorem dX8_reckon_87 : decode cX8_reckon 87 = .ok (.iinc 2 1, 3) := by decide +kernel
theorem dX8_reckon_90 : decode cX8_reckon 90 = .ok (.goto (-21), 3) := by decide +kernel
theorem dX8_reckon_93 : decode cX8_reckon 93 = .ok (.iconst 0, 1) := by decide +kernel
theorem dX8_reckon_94 : decode cX8_reckon 94 = .ok (.istore_n 2, 1) := by decide +kernel
theorem dX8_reckon_95 : decode cX8_reckon 95 = .ok (.iload_n 2, 1) := by decide +kernel
theorem dX8_reckon_96 : decode cX8_reckon 96 = .ok (.aload_n 0, 1) := by decide +kernel
theorem dX8_reckon_97 : decode cX8_reckon 97 = .ok (.getfield 81, 3) := by decide +kernel
theorem dX8_reckon_100 : decode cX8_reckon 100 = .ok (.if_icmp .ge 14, 3) := by decide +kernel
theorem dX8_reckon_103 : decode cX8_reckon 103 = .ok (.aload_n 0, 1) := by decide +kernel
theorem dX8_reckon_104 : decode cX8_reckon 104 = .ok (.iload_n 2, 1) := by decide +kernel
theorem dX8_reckon_105 : decode cX8_reckon 105 = .ok (.invokevirtual 88, 3) := by decide +kernel
theorem dX8_reckon_108 : decode cX8_reckon 108 = .ok (.iinc 2 64, 3) := by decide +kernel
theorem dX8_reckon_111 : decode cX8_reckon 111 = .ok (.goto (-16), 3) := by decide +kernel
theorem dX8_reckon_114 : decode cX8_reckon 114 = .ok (.iconst 0, 1) := by decide +kernel
theorem dX8_reckon_115 : decode cX8_reckon 115 = .ok (.istore_n 2, 1) := by decide +kernel
theorem dX8_reckon_116 : decode cX8_reckon 116 = .ok (.iload_n 2, 1) := by decide +kernel
theorem dX8_reckon_117 : decode cX8_reckon 117 = .ok (.bipush 32, 2) := by decide +kernel
theorem dX8_reckon_119 : decode cX8_reckon 119 = .ok (.if_icmp .ge 34, 3) := by decide +kernel
theorem dX8_reckon_122 : decode cX8_reckon 122 = .ok (.aload_n 0, 1) := by decide +kernel
theorem dX8_reckon_123 : decode cX8_reckon 123 = .ok (.getfield 45, 3) := by decide +kernel
theorem dX8_reckon_126 : decode cX8_reckon 126 = .ok (.iload_n 2, 1) := by decide +kernel
theorem dX8_reckon_127 : decode cX8_reckon 127 = .ok (.aload_n 0, 1) := by decide +kernel
theorem dX8_reckon_128 : decode cX8_reckon 128 = .ok (.getfield 48, 3) := by decide +kernel
theorem dX8_reckon_131 : decode cX8_reckon 131 = .ok (.iload_n 2, 1) := by decide +kernel
theorem dX8_reckon_132 : decode cX8_reckon 132 = .ok (.iconst 4, 1) := by decide +kernel
theorem dX8_reckon_133 : decode cX8_reckon 133 = .ok (.idiv, 1) := by decide +kernel
theorem dX8_reckon_134 : decode cX8_reckon 134 = .ok (.iaload, 1) := by decide +kernel
theorem dX8_reckon_135 : decode cX8_reckon 135 = .ok (.bipush 24, 2) := by decide +kernel
theorem dX8_reckon_137 : decode cX8_reckon 137 = .ok (.bipush 8, 2) := by decide +kernel
theorem dX8_reckon_139 : decode cX8_reckon 139 = .ok (.iload_n 2, 1) := by decide +kernel
theorem dX8_reckon_140 : decode cX8_reckon 140 = .ok (.iconst 4, 1) := by decide +kernel
theorem dX8_reckon_141 : decode cX8_reckon 141 = .ok (.irem, 1) := by decide +kernel
theorem dX8_reckon_142 : decode cX8_reckon 142 = .ok (.imul, 1) := by decide +kernel
theorem dX8_reckon_143 : decode cX8_reckon 143 = .ok (.isub, 1) := by decide +kernel
theorem dX8_reckon_144 : decode cX8_reckon 144 = .ok (.ishr, 1) := by decide +kernel
theorem dX8_reckon_145 : decode cX8_reckon 145 = .ok (.i2b, 1) := by decide +kernel
theorem dX8_reckon_146 : decode cX8_reckon 146 = .ok (.bastore, 1) := by decide +kernel
theorem dX8_reckon_147 : decode cX8_reckon 147 = .ok (.iinc 2 1, 3) := by decide +kernel
theorem dX8_reckon_150 : decode cX8_reckon 150 = .ok (.goto (-34), 3) := by decide +kernel
theorem dX8_reckon_153 : decode cX8_reckon 153 = .ok (.return_, 1) := by decide +kernel
theorem dX8_mix_0 : decode cX8_mix 0 = .ok (.iconst 0, 1) := by decide +kernel
theorem dX8_mix_1 : decode cX8_mix 1 = .ok (.istore_n 2, 1) := by decide +kernel
theorem dX8_mix_2 : decode cX8_mix 2 = .ok (.iload_n 2, 1) := by decide +kernel
theorem dX8_mix_3 : decode cX8_mix 3 = .ok (.bipush 64, 2) := by decide +kernel
theorem dX8_mix_5 : decode cX8_mix 5 = .ok (.if_icmp .ge 156, 3) := by decide +kernel
theorem dX8_mix_8 : decode cX8_mix 8 = .ok (.iload_n 2, 1) := by decide +kernel
theorem dX8_mix_9 : decode cX8_mix 9 = .ok (.bipush 16, 2) := by decide +kernel
theorem dX8_mix_11 : decode cX8_mix 11 = .ok (.if_icmp .ge 59, 3) := by decide +kernel
theorem dX8_mix_14 : decode cX8_mix 14 = .ok (.aload_n 0, 1) := by decide +kernel
theorem dX8_mix_15 : decode cX8_mix 15 = .ok (.getfield 54, 3) := by decide +kernel
theorem dX8_mix_18 : decode cX8_mix 18 = .ok (.iload_n 2, 1) := by decide +kernel
theorem dX8_mix_19 : decode cX8_mix 19 = .ok (.iconst 0, 1) := by decide +kernel
theorem dX8_mix_20 : decode cX8_mix 20 = .ok (.iastore, 1) := by decide +kernel
theorem dX8_mix_21 : decode cX8_mix 21 = .ok (.iconst 0, 1) := by decide +kernel
theorem dX8_mix_22 : decode cX8_mix 22 = .ok (.istore_n 3, 1) := by decide +kernel
theorem dX8_mix_23 : decode cX8_mix 23 = .ok (.iload_n 3, 1) := by decide +kernel
theorem dX8_mix_24 : decode cX8_mix 24 = .ok (.iconst 4, 1) := by decide +kernel
theorem dX8_mix_25 : decode cX8_mix 25 = .ok (.if_icmp .ge 42, 3) := by decide +kernel
theorem dX8_mix_28 : decode cX8_mix 28 = .ok (.aload_n 0, 1) := by decide +kernel
theorem dX8_mix_29 : decode cX8_mix 29 = .ok (.getfield 54, 3) := by decide +kernel
theorem dX8_mix_32 : decode cX8_mix 32 = .ok (.iload_n 2, 1) := by decide +kernel
theorem dX8_mix_33 : decode cX8_mix 33 = .ok (.aload_n 0, 1) := by decide +kernel
theorem dX8_mix_34 : decode cX8_mix 34 = .ok (.getfield 54, 3) := by decide +kernel
theorem dX8_mix_37 : decode cX8_mix 37 = .ok (.iload_n 2, 1) := by decide +kernel
theorem dX8_mix_38 : decode cX8_mix 38 = .ok (.iaload, 1) := by decide +kernel
theorem dX8_mix_39 : decode cX8_mix 39 = .ok (.sipush 256, 3) := by decide +kernel
theorem dX8_mix_42 : decode cX8_mix 42 = .ok (.imul, 1) := by decide +kernel
theorem dX8_mix_43 : decode cX8_mix 43 = .ok (.aload_n 0, 1) := by decide +kernel
theorem dX8_mix_44 : decode cX8_mix 44 = .ok (.getfield 42, 3) := by decide +kernel
theorem dX8_mix_47 : decode cX8_mix 47 = .ok (.iload_n 1, 1) := by decide +kernel
theorem dX8_mix_48 : decode cX8_mix 48 = .ok (.iconst 4, 1) := by decide +kernel
theorem dX8_mix_49 : decode cX8_mix 49 = .ok (.iload_n 2, 1) := by decide +kernel
theorem dX8_mix_50 : decode cX8_mix 50 = .ok (.imul, 1) := by decide +kernel
theorem dX8_mix_51 : decode cX8_mix 51 = .ok (.iadd, 1) := by decide +kernel
theorem dX8_mix_52 : decode cX8_mix 52 = .ok (.iload_n 3, 1) := by decide +kernel
theorem dX8_mix_53 : decode cX8_mix 53 = .ok (.iadd, 1) := by decide +kernel
theorem dX8_mix_54 : decode cX8_mix 54 = .ok (.baload, 1) := by decide +kernel
theorem dX8_mix_55 : decode cX8_mix 55 = .ok (.sipush 255, 3) := by decide +kernel
theorem dX8_mix_58 : decode cX8_mix 58 = .ok (.iand, 1) := by decide +kernel
theorem dX8_mix_59 : decode cX8_mix 59 = .ok (.iadd, 1) := by decide +kernel
theorem dX8_mix_60 : decode cX8_mix 60 = .ok (.iastore, 1) := by decide +kernel
theorem dX8_mix_61 : decode cX8_mix 61 = .ok (.iinc 3 1, 3) := by decide +kernel
theorem dX8_mix_64 : decode cX8_mix 64 = .ok (.goto (-41), 3) := by decide +kernel
theorem dX8_mix_67 : decode cX8_mix 67 = .ok (.goto 88, 3) := by decide +kernel
theorem dX8_mix_70 : decode cX8_mix 70 = .ok (.aload_n 0, 1) := by decide +kernel
theorem dX8_mix_71 : decode cX8_mix 71 = .ok (.getfield 54, 3) := by decide +kernel
theorem dX8_mix_74 : decode cX8_mix 74 = .ok (.iload_n 2, 1) := by decide +kernel
theorem dX8_mix_75 : decode cX8_mix 75 = .ok (.bipush 15, 2) := by decide +kernel
theorem dX8_mix_77 : decode cX8_mix 77 = .ok (.isub, 1) := by decide +kernel
theorem dX8_mix_78 : decode cX8_mix 78 = .ok (.iaload, 1) := by decide +kernel
theorem dX8_mix_79 : decode cX8_mix 79 = .ok (.istore_n 3, 1) := by decide +kernel
theorem dX8_mix_80 : decode cX8_mix 80 = .ok (.aload_n 0, 1) := by decide +kernel
theorem dX8_mix_81 : decode cX8_mix 81 = .ok (.getfield 54, 3) := by decide +kernel
theorem dX8_mix_84 : decode cX8_mix 84 = .ok (.iload_n 2, 1) := by decide +kernel
theorem dX8_mix_85 : decode cX8_mix 85 = .ok (.iconst 2, 1) := by decide +kernel
theorem dX8_mix_86 : decode cX8_mix 86 = .ok (.isub, 1) := by decide +kernel
theorem dX8_mix_87 : decode cX8_mix 87 = .ok (.iaload, 1) := by decide +kernel
theorem dX8_mix_88 : decode cX8_mix 88 = .ok (.istore 4, 2) := by decide +kernel
theorem dX8_mix_90 : decode cX8_mix 90 = .ok (.aload_n 0, 1) := by decide +kernel
theorem dX8_mix_91 : decode cX8_mix 91 = .ok (.getfield 54, 3) := by decide +kernel
theorem dX8_mix_94 : decode cX8_mix 94 = .ok (.iload_n 2, 1) := by decide +kernel
theorem dX8_mix_95 : decode cX8_mix 95 = .ok (.iload 4, 2) := by decide +kernel
theorem dX8_mix_97 : decode cX8_mix 97 = .ok (.bipush 17, 2) := by decide +kernel
theorem dX8_mix_99 : decode cX8_mix 99 = .ok (.invokestatic 91, 3) := by decide +kernel
theorem dX8_mix_102 : decode cX8_mix 102 = .ok (.iload 4, 2) := by decide +kernel
theorem dX8_mix_104 : decode cX8_mix 104 = .ok (.bipush 19, 2) := by decide +kernel
theorem dX8_mix_106 : decode cX8_mix 106 = .ok (.invokestatic 91, 3) := by decide +kernel
theorem dX8_mix_109 : decode cX8_mix 109 = .ok (.ixor, 1) := by decide +kernel
theorem dX8_mix_110 : decode cX8_mix 110 = .ok (.iload 4, 2) := by decide +kernel
theorem dX8_mix_112 : decode cX8_mix 112 = .ok (.bipush 10, 2) := by decide +kernel
theorem dX8_mix_114 : decode cX8_mix 114 = .ok (.iushr, 1) := by decide +kernel
theorem dX8_mix_115 : decode cX8_mix 115 = .ok (.ixor, 1) := by decide +kernel
theorem dX8_mix_116 : decode cX8_mix 116 = .ok (.aload_n 0, 1) := by decide +kernel
theorem dX8_mix_117 : decode cX8_mix 117 = .ok (.getfield 54, 3) := by decide +kernel
theorem dX8_mix_120 : decode cX8_mix 120 = .ok (.iload_n 2, 1) := by decide +kernel
theorem dX8_mix_121 : decode cX8_mix 121 = .ok (.bipush 7, 2) := by decide +kernel
theorem dX8_mix_123 : decode cX8_mix 123 = .ok (.isub, 1) := by decide +kernel
theorem dX8_mix_124 : decode cX8_mix 124 = .ok (.iaload, 1) := by decide +kernel
theorem dX8_mix_125 : decode cX8_mix 125 = .ok (.iadd, 1) := by decide +kernel
theorem dX8_mix_126 : decode cX8_mix 126 = .ok (.iload_n 3, 1) := by decide +kernel
theorem dX8_mix_127 : decode cX8_mix 127 = .ok (.bipush 7, 2) := by decide +kernel
theorem dX8_mix_129 : decode cX8_mix 129 = .ok (.invokestatic 91, 3) := by decide +kernel
theorem dX8_mix_132 : decode cX8_mix 132 = .ok (.iload_n 3, 1) := by decide +kernel
theorem dX8_mix_133 : decode cX8_mix 133 = .ok (.bipush 18, 2) := by decide +kernel
theorem dX8_mix_135 : decode cX8_mix 135 = .ok (.invokestatic 91, 3) := by decide +kernel
theorem dX8_mix_138 : decode cX8_mix 138 = .ok (.ixor, 1) := by decide +kernel
theorem dX8_mix_139 : decode cX8_mix 139 = .ok (.iload_n 3, 1) := by decide +kernel
theorem dX8_mix_140 : decode cX8_mix 140 = .ok (.iconst 3, 1) := by decide +kernel
theorem dX8_mix_141 : decode cX8_mix 141 = .ok (.iushr, 1) := by decide +kernel
theorem dX8_mix_142 : decode cX8_mix 142 = .ok (.ixor, 1) := by decide +kernel
theorem dX8_mix_143 : decode cX8_mix 143 = .ok (.iadd, 1) := by decide +kernel
theorem dX8_mix_144 : decode cX8_mix 144 = .ok (.aload_n 0, 1) := by decide +kernel
theorem dX8_mix_145 : decode cX8_mix 145 = .ok (.getfield 54, 3) := by decide +kernel
theorem dX8_mix_148 : decode cX8_mix 148 = .ok (.iload_n 2, 1) := by decide +kernel
theorem dX8_mix_149 : decode cX8_mix 149 = .ok (.bipush 16, 2) := by decide +kernel
theorem dX8_mix_151 : decode cX8_mix 151 = .ok (.isub, 1) := by decide +kernel
theorem dX8_mix_152 : decode cX8_mix 152 = .ok (.iaload, 1) := by decide +kernel
theorem dX8_mix_153 : decode cX8_mix 153 = .ok (.iadd, 1) := by decide +kernel
theorem dX8_mix_154 : decode cX8_mix 154 = .ok (.iastore, 1) := by decide +kernel
theorem dX8_mix_155 : decode cX8_mix 155 = .ok (.iinc 2 1, 3) := by decide +kernel
theorem dX8_mix_158 : decode cX8_mix 158 = .ok (.goto (-156), 3) := by decide +kernel
theorem dX8_mix_161 : decode cX8_mix 161 = .ok (.iconst 0, 1) := by decide +kernel
theorem dX8_mix_162 : decode cX8_mix 162 = .ok (.istore_n 2, 1) := by decide +kernel
theorem dX8_mix_163 : decode cX8_mix 163 = .ok (.iload_n 2, 1) := by decide +kernel
theorem dX8_mix_164 : decode cX8_mix 164 = .ok (.bipush 8, 2) := by decide +kernel
theorem dX8_mix_166 : decode cX8_mix 166 = .ok (.if_icmp .ge 21, 3) := by decide +kernel
theorem dX8_mix_169 : decode cX8_mix 169 = .ok (.aload_n 0, 1) := by decide +kernel
theorem dX8_mix_170 : decode cX8_mix 170 = .ok (.getfield 51, 3) := by decide +kernel
theorem dX8_mix_173 : decode cX8_mix 173 = .ok (.iload_n 2, 1) := by decide +kernel
theorem dX8_mix_174 : decode cX8_mix 174 = .ok (.aload_n 0, 1) := by decide +kernel
theorem dX8_mix_175 : decode cX8_mix 175 = .ok (.getfield 48, 3) := by decide +kernel
theorem dX8_mix_178 : decode cX8_mix 178 = .ok (.iload_n 2, 1) := by decide +kernel
theorem dX8_mix_179 : decode cX8_mix 179 = .ok (.iaload, 1) := by decide +kernel
theorem dX8_mix_180 : decode cX8_mix 180 = .ok (.iastore, 1) := by decide +kernel
theorem dX8_mix_181 : decode cX8_mix 181 = .ok (.iinc 2 1, 3) := by decide +kernel
theorem dX8_mix_184 : decode cX8_mix 184 = .ok (.goto (-21), 3) := by decide +kernel
theorem dX8_mix_187 : decode cX8_mix 187 = .ok (.iconst 0, 1) := by decide +kernel
theorem dX8_mix_188 : decode cX8_mix 188 = .ok (.istore_n 2, 1) := by decide +kernel
theorem dX8_mix_189 : decode cX8_mix 189 = .ok (.iload_n 2, 1) := by decide +kernel
theorem dX8_mix_190 : decode cX8_mix 190 = .ok (.bipush 64, 2) := by decide +kernel
theorem dX8_mix_192 : decode cX8_mix 192 = .ok (.if_icmp .ge 204, 3) := by decide +kernel
theorem dX8_mix_195 : decode cX8_mix 195 = .ok (.aload_n 0, 1) := by decide +kernel
theorem dX8_mix_196 : decode cX8_mix 196 = .ok (.getfield 51, 3) := by decide +kernel
theorem dX8_mix_199 : decode cX8_mix 199 = .ok (.iconst 4, 1) := by decide +kernel
theorem dX8_mix_200 : decode cX8_mix 200 = .ok (.iaload, 1) := by decide +kernel
theorem dX8_mix_201 : decode cX8_mix 201 = .ok (.istore_n 3, 1) := by decide +kernel
theorem dX8_mix_202 : decode cX8_mix 202 = .ok (.aload_n 0, 1) := by decide +kernel
theorem dX8_mix_203 : decode cX8_mix 203 = .ok (.getfield 51, 3) := by decide +kernel
theorem dX8_mix_206 : decode cX8_mix 206 = .ok (.iconst 0, 1) := by decide +kernel
theorem dX8_mix_207 : decode cX8_mix 207 = .ok (.iaload, 1) := by decide +kernel
theorem dX8_mix_208 : decode cX8_mix 208 = .ok (.istore 4, 2) := by decide +kernel
theorem dX8_mix_210 : decode cX8_mix 210 = .ok (.aload_n 0, 1) := by decide +kernel
theorem dX8_mix_211 : decode cX8_mix 211 = .ok (.getfield 51, 3) := by decide +kernel
theorem dX8_mix_214 : decode cX8_mix 214 = .ok (.bipush 7, 2) := by decide +kernel
theorem dX8_mix_216 : decode cX8_mix 216 = .ok (.iaload, 1) := by decide +kernel
theorem dX8_mix_217 : decode cX8_mix 217 = .ok (.iload_n 3, 1) := by decide +kernel
theorem dX8_mix_218 : decode cX8_mix 218 = .ok (.bipush 6, 2) := by decide +kernel
theorem dX8_mix_220 : decode cX8_mix 220 = .ok (.invokestatic 91, 3) := by decide +kernel
theorem dX8_mix_223 : decode cX8_mix 223 = .ok (.iload_n 3, 1) := by decide +kernel
theorem dX8_mix_224 : decode cX8_mix 224 = .ok (.bipush 11, 2) := by decide +kernel
theorem dX8_mix_226 : decode cX8_mix 226 = .ok (.invokestatic 91, 3) := by decide +kernel
theorem dX8_mix_229 : decode cX8_mix 229 = .ok (.ixor, 1) := by decide +kernel
theorem dX8_mix_230 : decode cX8_mix 230 = .ok (.iload_n 3, 1) := by decide +kernel
theorem dX8_mix_231 : decode cX8_mix 231 = .ok (.bipush 25, 2) := by decide +kernel
theorem dX8_mix_233 : decode cX8_mix 233 = .ok (.invokestatic 91, 3) := by decide +kernel
theorem dX8_mix_236 : decode cX8_mix 236 = .ok (.ixor, 1) := by decide +kernel
theorem dX8_mix_237 : decode cX8_mix 237 = .ok (.iadd, 1) := by decide +kernel
theorem dX8_mix_238 : decode cX8_mix 238 = .ok (.iload_n 3, 1) := by decide +kernel
theorem dX8_mix_239 : decode cX8_mix 239 = .ok (.aload_n 0, 1) := by decide +kernel
theorem dX8_mix_240 : decode cX8_mix 240 = .ok (.getfield 51, 3) := by decide +kernel
theorem dX8_mix_243 : decode cX8_mix 243 = .ok (.iconst 5, 1) := by decide +kernel
theorem dX8_mix_244 : decode cX8_mix 244 = .ok (.iaload, 1) := by decide +kernel
theorem dX8_mix_245 : decode cX8_mix 245 = .ok (.iand, 1) := by decide +kernel
theorem dX8_mix_246 : decode cX8_mix 246 = .ok (.iload_n 3, 1) := by decide +kernel
theorem dX8_mix_247 : decode cX8_mix 247 = .ok (.iconst (-1), 1) := by decide +kernel
theorem dX8_mix_248 : decode cX8_mix 248 = .ok (.ixor, 1) := by decide +kernel
theorem dX8_mix_249 : decode cX8_mix 249 = .ok (.aload_n 0, 1) := by decide +kernel
theorem dX8_mix_250 : decode cX8_mix 250 = .ok (.getfield 51, 3) := by decide +kernel
theorem dX8_mix_253 : decode cX8_mix 253 = .ok (.bipush 6, 2) := by decide +kernel
theorem dX8_mix_255 : decode cX8_mix 255 = .ok (.iaload, 1) := by decide +kernel
theorem dX8_mix_256 : decode cX8_mix 256 = .ok (.iand, 1) := by decide +kernel
theorem dX8_mix_257 : decode cX8_mix 257 = .ok (.ixor, 1) := by decide +kernel
theorem dX8_mix_258 : decode cX8_mix 258 = .ok (.iadd, 1) := by decide +kernel
theorem dX8_mix_259 : decode cX8_mix 259 = .ok (.aload_n 0, 1) := by decide +kernel
theorem dX8_mix_260 : decode cX8_mix 260 = .ok (.getfield 7, 3) := by decide +kernel
theorem dX8_mix_263 : decode cX8_mix 263 = .ok (.iload_n 2, 1) := by decide +kernel
theorem dX8_mix_264 : decode cX8_mix 264 = .ok (.iaload, 1) := by decide +kernel
theorem dX8_mix_265 : decode cX8_mix 265 = .ok (.iadd, 1) := by decide +kernel
theorem dX8_mix_266 : decode cX8_mix 266 = .ok (.aload_n 0, 1) := by decide +kernel
theorem dX8_mix_267 : decode cX8_mix 267 = .ok (.getfield 54, 3) := by decide +kernel
theorem dX8_mix_270 : decode cX8_mix 270 = .ok (.iload_n 2, 1) := by decide +kernel
theorem dX8_mix_271 : decode cX8_mix 271 = .ok (.iaload, 1) := by decide +kernel
theorem dX8_mix_272 : decode cX8_mix 272 = .ok (.iadd, 1) := by decide +kernel
theorem dX8_mix_273 : decode cX8_mix 273 = .ok (.istore 5, 2) := by decide +kernel
theorem dX8_mix_275 : decode cX8_mix 275 = .ok (.iload 4, 2) := by decide +kernel
theorem dX8_mix_277 : decode cX8_mix 277 = .ok (.iconst 2, 1) := by decide +kernel
theorem dX8_mix_278 : decode cX8_mix 278 = .ok (.invokestatic 91, 3) := by decide +kernel
theorem dX8_mix_281 : decode cX8_mix 281 = .ok (.iload 4, 2) := by decide +kernel
theorem dX8_mix_283 : decode cX8_mix 283 = .ok (.bipush 13, 2) := by decide +kernel
theorem dX8_mix_285 : decode cX8_mix 285 = .ok (.invokestatic 91, 3) := by decide +kernel
theorem dX8_mix_288 : decode cX8_mix 288 = .ok (.ixor, 1) := by decide +kernel
theorem dX8_mix_289 : decode cX8_mix 289 = .ok (.iload 4, 2) := by decide +kernel
theorem dX8_mix_291 : decode cX8_mix 291 = .ok (.bipush 22, 2) := by decide +kernel
theorem dX8_mix_293 : decode cX8_mix 293 = .ok (.invokestatic 91, 3) := by decide +kernel
theorem dX8_mix_296 : decode cX8_mix 296 = .ok (.ixor, 1) := by decide +kernel
theorem dX8_mix_297 : decode cX8_mix 297 = .ok (.iload 4, 2) := by decide +kernel
theorem dX8_mix_299 : decode cX8_mix 299 = .ok (.aload_n 0, 1) := by decide +kernel
theorem dX8_mix_300 : decode cX8_mix 300 = .ok (.getfield 51, 3) := by decide +kernel
theorem dX8_mix_303 : decode cX8_mix 303 = .ok (.iconst 1, 1) := by decide +kernel
theorem dX8_mix_304 : decode cX8_mix 304 = .ok (.iaload, 1) := by decide +kernel
theorem dX8_mix_305 : decode cX8_mix 305 = .ok (.iand, 1) := by decide +kernel
theorem dX8_mix_306 : decode cX8_mix 306 = .ok (.iload 4, 2) := by decide +kernel
theorem dX8_mix_308 : decode cX8_mix 308 = .ok (.aload_n 0, 1) := by decide +kernel
theorem dX8_mix_309 : decode cX8_mix 309 = .ok (.getfield 51, 3) := by decide +kernel
theorem dX8_mix_312 : decode cX8_mix 312 = .ok (.iconst 2, 1) := by decide +kernel
theorem dX8_mix_313 : decode cX8_mix 313 = .ok (.iaload, 1) := by decide +kernel
theorem dX8_mix_314 : decode cX8_mix 314 = .ok (.iand, 1) := by decide +kernel
theorem dX8_mix_315 : decode cX8_mix 315 = .ok (.ixor, 1) := by decide +kernel
theorem dX8_mix_316 : decode cX8_mix 316 = .ok (.aload_n 0, 1) := by decide +kernel
theorem dX8_mix_317 : decode cX8_mix 317 = .ok (.getfield 51, 3) := by decide +kernel
theorem dX8_mix_320 : decode cX8_mix 320 = .ok (.iconst 1, 1) := by decide +kernel
theorem dX8_mix_321 : decode cX8_mix 321 = .ok (.iaload, 1) := by decide +kernel
theorem dX8_mix_322 : decode cX8_mix 322 = .ok (.aload_n 0, 1) := by decide +kernel
theorem dX8_mix_323 : decode cX8_mix 323 = .ok (.getfield 51, 3) := by decide +kernel
theorem dX8_mix_326 : decode cX8_mix 326 = .ok (.iconst 2, 1) := by decide +kernel
theorem dX8_mix_327 : decode cX8_mix 327 = .ok (.iaload, 1) := by decide +kernel
theorem dX8_mix_328 : decode cX8_mix 328 = .ok (.iand, 1) := by decide +kernel
theorem dX8_mix_329 : decode cX8_mix 329 = .ok (.ixor, 1) := by decide +kernel
theorem dX8_mix_330 : decode cX8_mix 330 = .ok (.iadd, 1) := by decide +kernel
theorem dX8_mix_331 : decode cX8_mix 331 = .ok (.istore 6, 2) := by decide +kernel
theorem dX8_mix_333 : decode cX8_mix 333 = .ok (.bipush 7, 2) := by decide +kernel
theorem dX8_mix_335 : decode cX8_mix 335 = .ok (.istore 7, 2) := by decide +kernel
theorem dX8_mix_337 : decode cX8_mix 337 = .ok (.iload 7, 2) := by decide +kernel
theorem dX8_mix_339 : decode cX8_mix 339 = .ok (.ifCond .le 25, 3) := by decide +kernel
theorem dX8_mix_342 : decode cX8_mix 342 = .ok (.aload_n 0, 1) := by decide +kernel
theorem dX8_mix_343 : decode cX8_mix 343 = .ok (.getfield 51, 3) := by decide +kernel
theorem dX8_mix_346 : decode cX8_mix 346 = .ok (.iload 7, 2) := by decide +kernel
theorem dX8_mix_348 : decode cX8_mix 348 = .ok (.aload_n 0, 1) := by decide +kernel
theorem dX8_mix_349 : decode cX8_mix 349 = .ok (.getfield 51, 3) := by decide +kernel
theorem dX8_mix_352 : decode cX8_mix 352 = .ok (.iload 7, 2) := by decide +kernel
theorem dX8_mix_354 : decode cX8_mix 354 = .ok (.iconst 1, 1) := by decide +kernel
theorem dX8_mix_355 : decode cX8_mix 355 = .ok (.isub, 1) := by decide +kernel
theorem dX8_mix_356 : decode cX8_mix 356 = .ok (.iaload, 1) := by decide +kernel
theorem dX8_mix_357 : decode cX8_mix 357 = .ok (.iastore, 1) := by decide +kernel
theorem dX8_mix_358 : decode cX8_mix 358 = .ok (.iinc 7 (-1), 3) := by decide +kernel
theorem dX8_mix_361 : decode cX8_mix 361 = .ok (.goto (-24), 3) := by decide +kernel
theorem dX8_mix_364 : decode cX8_mix 364 = .ok (.aload_n 0, 1) := by decide +kernel
theorem dX8_mix_365 : decode cX8_mix 365 = .ok (.getfield 51, 3) := by decide +kernel
theorem dX8_mix_368 : decode cX8_mix 368 = .ok (.iconst 4, 1) := by decide +kernel
theorem dX8_mix_369 : decode cX8_mix 369 = .ok (.aload_n 0, 1) := by decide +kernel
theorem dX8_mix_370 : decode cX8_mix 370 = .ok (.getfield 51, 3) := by decide +kernel
theorem dX8_mix_373 : decode cX8_mix 373 = .ok (.iconst 4, 1) := by decide +kernel
theorem dX8_mix_374 : decode cX8_mix 374 = .ok (.iaload, 1) := by decide +kernel
theorem dX8_mix_375 : decode cX8_mix 375 = .ok (.iload 5, 2) := by decide +kernel
theorem dX8_mix_377 : decode cX8_mix 377 = .ok (.iadd, 1) := by decide +kernel
theorem dX8_mix_378 : decode cX8_mix 378 = .ok (.iastore, 1) := by decide +kernel
theorem dX8_mix_379 : decode cX8_mix 379 = .ok (.aload_n 0, 1) := by decide +kernel
theorem dX8_mix_380 : decode cX8_mix 380 = .ok (.getfield 51, 3) := by decide +kernel
theorem dX8_mix_383 : decode cX8_mix 383 = .ok (.iconst 0, 1) := by decide +kernel
theorem dX8_mix_384 : decode cX8_mix 384 = .ok (.iload 5, 2) := by decide +kernel
theorem dX8_mix_386 : decode cX8_mix 386 = .ok (.iload 6, 2) := by decide +kernel
theorem dX8_mix_388 : decode cX8_mix 388 = .ok (.iadd, 1) := by decide +kernel
theorem dX8_mix_389 : decode cX8_mix 389 = .ok (.iastore, 1) := by decide +kernel
theorem dX8_mix_390 : decode cX8_mix 390 = .ok (.iinc 2 1, 3) := by decide +kernel
theorem dX8_mix_393 : decode cX8_mix 393 = .ok (.goto (-204), 3) := by decide +kernel
theorem dX8_mix_396 : decode cX8_mix 396 = .ok (.iconst 0, 1) := by decide +kernel
theorem dX8_mix_397 : decode cX8_mix 397 = .ok (.istore_n 2, 1) := by decide +kernel
theorem dX8_mix_398 : decode cX8_mix 398 = .ok (.iload_n 2, 1) := by decide +kernel
theorem dX8_mix_399 : decode cX8_mix 399 = .ok (.bipush 8, 2) := by decide +kernel
theorem dX8_mix_401 : decode cX8_mix 401 = .ok (.if_icmp .ge 28, 3) := by decide +kernel
theorem dX8_mix_404 : decode cX8_mix 404 = .ok (.aload_n 0, 1) := by decide +kernel
theorem dX8_mix_405 : decode cX8_mix 405 = .ok (.getfield 48, 3) := by decide +kernel
theorem dX8_mix_408 : decode cX8_mix 408 = .ok (.iload_n 2, 1) := by decide +kernel
theorem dX8_mix_409 : decode cX8_mix 409 = .ok (.aload_n 0, 1) := by decide +kernel
theorem dX8_mix_410 : decode cX8_mix 410 = .ok (.getfield 48, 3) := by decide +kernel
theorem dX8_mix_413 : decode cX8_mix 413 = .ok (.iload_n 2, 1) := by decide +kernel
theorem dX8_mix_414 : decode cX8_mix 414 = .ok (.iaload, 1) := by decide +kernel
theorem dX8_mix_415 : decode cX8_mix 415 = .ok (.aload_n 0, 1) := by decide +kernel
theorem dX8_mix_416 : decode cX8_mix 416 = .ok (.getfield 51, 3) := by decide +kernel
theorem dX8_mix_419 : decode cX8_mix 419 = .ok (.iload_n 2, 1) := by decide +kernel
theorem dX8_mix_420 : decode cX8_mix 420 = .ok (.iaload, 1) := by decide +kernel
theorem dX8_mix_421 : decode cX8_mix 421 = .ok (.iadd, 1) := by decide +kernel
theorem dX8_mix_422 : decode cX8_mix 422 = .ok (.iastore, 1) := by decide +kernel
theorem dX8_mix_423 : decode cX8_mix 423 = .ok (.iinc 2 1, 3) := by decide +kernel
theorem dX8_mix_426 : decode cX8_mix 426 = .ok (.goto (-28), 3) := by decide +kernel
theorem dX8_mix_429 : decode cX8_mix 429 = .ok (.return_, 1) := by decide +kernel
theorem dX8_write_0 : decode cX8_write 0 = .ok (.iconst 0, 1) := by decide +kernel
theorem dX8_write_1 : decode cX8_write 1 = .ok (.istore 5, 2) := by decide +kernel
theorem dX8_write_3 : decode cX8_write 3 = .ok (.iload 5, 2) := by decide +kernel
theorem dX8_write_5 : decode cX8_write 5 = .ok (.iload 4, 2) := by decide +kernel
theorem dX8_write_7 : decode cX8_write 7 = .ok (.if_icmp .ge 32, 3) := by decide +kernel
theorem dX8_write_10 : decode cX8_write 10 = .ok (.aload_n 0, 1) := by decide +kernel
theorem dX8_write_11 : decode cX8_write 11 = .ok (.getfield 35, 3) := by decide +kernel
theorem dX8_write_14 : decode cX8_write 14 = .ok (.iload_n 1, 1) := by decide +kernel
theorem dX8_write_15 : decode cX8_write 15 = .ok (.iload 5, 2) := by decide +kernel
theorem dX8_write_17 : decode cX8_write 17 = .ok (.iadd, 1) := by decide +kernel
theorem dX8_write_18 : decode cX8_write 18 = .ok (.lload_n 2, 1) := by decide +kernel
theorem dX8_write_19 : decode cX8_write 19 = .ok (.bipush 8, 2) := by decide +kernel
theorem dX8_write_21 : decode cX8_write 21 = .ok (.iload 4, 2) := by decide +kernel
theorem dX8_write_23 : decode cX8_write 23 = .ok (.iconst 1, 1) := by decide +kernel
theorem dX8_write_24 : decode cX8_write 24 = .ok (.isub, 1) := by decide +kernel
theorem dX8_write_25 : decode cX8_write 25 = .ok (.iload 5, 2) := by decide +kernel
theorem dX8_write_27 : decode cX8_write 27 = .ok (.isub, 1) := by decide +kernel
theorem dX8_write_28 : decode cX8_write 28 = .ok (.imul, 1) := by decide +kernel
theorem dX8_write_29 : decode cX8_write 29 = .ok (.lshr, 1) := by decide +kernel
theorem dX8_write_30 : decode cX8_write 30 = .ok (.l2i, 1) := by decide +kernel
theorem dX8_write_31 : decode cX8_write 31 = .ok (.i2b, 1) := by decide +kernel
theorem dX8_write_32 : decode cX8_write 32 = .ok (.bastore, 1) := by decide +kernel
theorem dX8_write_33 : decode cX8_write 33 = .ok (.iinc 5 1, 3) := by decide +kernel
theorem dX8_write_36 : decode cX8_write 36 = .ok (.goto (-33), 3) := by decide +kernel
theorem dX8_write_39 : decode cX8_write 39 = .ok (.iload_n 1, 1) := by decide +kernel
theorem dX8_write_40 : decode cX8_write 40 = .ok (.iload 4, 2) := by decide +kernel
theorem dX8_write_42 : decode cX8_write 42 = .ok (.iadd, 1) := by decide +kernel
theorem dX8_write_43 : decode cX8_write 43 = .ok (.ireturn, 1) := by decide +kernel
theorem dX8_digestOf_0 : decode cX8_digestOf 0 = .ok (.aload_n 0, 1) := by decide +kernel
theorem dX8_digestOf_1 : decode cX8_digestOf 1 = .ok (.iconst 0, 1) := by decide +kernel
theorem dX8_digestOf_2 : decode cX8_digestOf 2 = .ok (.putfield 81, 3) := by decide +kernel
theorem dX8_digestOf_5 : decode cX8_digestOf 5 = .ok (.iconst 0, 1) := by decide +kernel
theorem dX8_digestOf_6 : decode cX8_digestOf 6 = .ok (.istore_n 2, 1) := by decide +kernel
theorem dX8_digestOf_7 : decode cX8_digestOf 7 = .ok (.iload_n 2, 1) := by decide +kernel
theorem dX8_digestOf_8 : decode cX8_digestOf 8 = .ok (.bipush 32, 2) := by decide +kernel
theorem dX8_digestOf_10 : decode cX8_digestOf 10 = .ok (.if_icmp .ge 37, 3) := by decide +kernel
theorem dX8_digestOf_13 : decode cX8_digestOf 13 = .ok (.aload_n 0, 1) := by decide +kernel
theorem dX8_digestOf_14 : decode cX8_digestOf 14 = .ok (.iload_n 1, 1) := by decide +kernel
theorem dX8_digestOf_15 : decode cX8_digestOf 15 = .ok (.ifCond .ne 7, 3) := by decide +kernel
theorem dX8_digestOf_18 : decode cX8_digestOf 18 = .ok (.iconst 0, 1) := by decide +kernel
theorem dX8_digestOf_19 : decode cX8_digestOf 19 = .ok (.goto 19, 3) := by decide +kernel
theorem dX8_digestOf_22 : decode cX8_digestOf 22 = .ok (.aload_n 0, 1) := by decide +kernel
theorem dX8_digestOf_23 : decode cX8_digestOf 23 = .ok (.getfield 35, 3) := by decide +kernel
theorem dX8_digestOf_26 : decode cX8_digestOf 26 = .ok (.bipush 73, 2) := by decide +kernel
theorem dX8_digestOf_28 : decode cX8_digestOf 28 = .ok (.iload_n 1, 1) := by decide +kernel
theorem dX8_digestOf_29 : decode cX8_digestOf 29 = .ok (.iconst 1, 1) := by decide +kernel
theorem dX8_digestOf_30 : decode cX8_digestOf 30 = .ok (.isub, 1) := by decide +kernel
theorem dX8_digestOf_31 : decode cX8_digestOf 31 = .ok (.imul, 1) := by decide +kernel
theorem dX8_digestOf_32 : decode cX8_digestOf 32 = .ok (.bipush 41, 2) := by decide +kernel
theorem dX8_digestOf_34 : decode cX8_digestOf 34 = .ok (.iadd, 1) := by decide +kernel
theorem dX8_digestOf_35 : decode cX8_digestOf 35 = .ok (.iload_n 2, 1) := by decide +kernel
theorem dX8_digestOf_36 : decode cX8_digestOf 36 = .ok (.iadd, 1) := by decide +kernel
theorem dX8_digestOf_37 : decode cX8_digestOf 37 = .ok (.baload, 1) := by decide +kernel
theorem dX8_digestOf_38 : decode cX8_digestOf 38 = .ok (.invokevirtual 84, 3) := by decide +kernel
theorem dX8_digestOf_41 : decode cX8_digestOf 41 = .ok (.iinc 2 1, 3) := by decide +kernel
theorem dX8_digestOf_44 : decode cX8_digestOf 44 = .ok (.goto (-37), 3) := by decide +kernel
theorem dX8_digestOf_47 : decode cX8_digestOf 47 = .ok (.iconst 0, 1) := by decide +kernel
theorem dX8_digestOf_48 : decode cX8_digestOf 48 = .ok (.istore_n 2, 1) := by decide +kernel
theorem dX8_digestOf_49 : decode cX8_digestOf 49 = .ok (.iload_n 2, 1) := by decide +kernel
theorem dX8_digestOf_50 : decode cX8_digestOf 50 = .ok (.bipush 41, 2) := by decide +kernel
theorem dX8_digestOf_52 : decode cX8_digestOf 52 = .ok (.if_icmp .ge 24, 3) := by decide +kernel
theorem dX8_digestOf_55 : decode cX8_digestOf 55 = .ok (.aload_n 0, 1) := by decide +kernel
theorem dX8_digestOf_56 : decode cX8_digestOf 56 = .ok (.aload_n 0, 1) := by decide +kernel
theorem dX8_digestOf_57 : decode cX8_digestOf 57 = .ok (.getfield 35, 3) := by decide +kernel
theorem dX8_digestOf_60 : decode cX8_digestOf 60 = .ok (.bipush 73, 2) := by decide +kernel
theorem dX8_digestOf_62 : decode cX8_digestOf 62 = .ok (.iload_n 1, 1) := by decide +kernel
theorem dX8_digestOf_63 : decode cX8_digestOf 63 = .ok (.imul, 1) := by decide +kernel
theorem dX8_digestOf_64 : decode cX8_digestOf 64 = .ok (.iload_n 2, 1) := by decide +kernel
theorem dX8_digestOf_65 : decode cX8_digestOf 65 = .ok (.iadd, 1) := by decide +kernel
theorem dX8_digestOf_66 : decode cX8_digestOf 66 = .ok (.baload, 1) := by decide +kernel
theorem dX8_digestOf_67 : decode cX8_digestOf 67 = .ok (.invokevirtual 84, 3) := by decide +kernel
theorem dX8_digestOf_70 : decode cX8_digestOf 70 = .ok (.iinc 2 1, 3) := by decide +kernel
theorem dX8_digestOf_73 : decode cX8_digestOf 73 = .ok (.goto (-24), 3) := by decide +kernel
theorem dX8_digestOf_76 : decode cX8_digestOf 76 = .ok (.aload_n 0, 1) := by decide +kernel
theorem dX8_digestOf_77 : decode cX8_digestOf 77 = .ok (.invokevirtual 95, 3) := by decide +kernel
theorem dX8_digestOf_80 : decode cX8_digestOf 80 = .ok (.return_, 1) := by decide +kernel
theorem dX8_close_0 : decode cX8_close 0 = .ok (.aload_n 0, 1) := by decide +kernel
theorem dX8_close_1 : decode cX8_close 1 = .ok (.aload_n 0, 1) := by decide +kernel
theorem dX8_close_2 : decode cX8_close 2 = .ok (.getfield 98, 3) := by decide +kernel
theorem dX8_close_5 : decode cX8_close 5 = .ok (.invokevirtual 101, 3) := by decide +kernel
theorem dX8_close_8 : decode cX8_close 8 = .ok (.iconst 0, 1) := by decide +kernel
theorem dX8_close_9 : decode cX8_close 9 = .ok (.istore_n 2, 1) := by decide +kernel
theorem dX8_close_10 : decode cX8_close 10 = .ok (.iload_n 2, 1) := by decide +kernel
theorem dX8_close_11 : decode cX8_close 11 = .ok (.bipush 32, 2) := by decide +kernel
theorem dX8_close_13 : decode cX8_close 13 = .ok (.if_icmp .ge 32, 3) := by decide +kernel
theorem dX8_close_16 : decode cX8_close 16 = .ok (.aload_n 0, 1) := by decide +kernel
theorem dX8_close_17 : decode cX8_close 17 = .ok (.getfield 35, 3) := by decide +kernel
theorem dX8_close_20 : decode cX8_close 20 = .ok (.bipush 73, 2) := by decide +kernel
theorem dX8_close_22 : decode cX8_close 22 = .ok (.aload_n 0, 1) := by decide +kernel
theorem dX8_close_23 : decode cX8_close 23 = .ok (.getfield 98, 3) := by decide +kernel
theorem dX8_close_26 : decode cX8_close 26 = .ok (.imul, 1) := by decide +kernel
theorem dX8_close_27 : decode cX8_close 27 = .ok (.bipush 41, 2) := by decide +kernel
theorem dX8_close_29 : decode cX8_close 29 = .ok (.iadd, 1) := by decide +kernel
theorem dX8_close_30 : decode cX8_close 30 = .ok (.iload_n 2, 1) := by decide +kernel
theorem dX8_close_31 : decode cX8_close 31 = .ok (.iadd, 1) := by decide +kernel
theorem dX8_close_32 : decode cX8_close 32 = .ok (.aload_n 0, 1) := by decide +kernel
theorem dX8_close_33 : decode cX8_close 33 = .ok (.getfield 45, 3) := by decide +kernel
theorem dX8_close_36 : decode cX8_close 36 = .ok (.iload_n 2, 1) := by decide +kernel
theorem dX8_close_37 : decode cX8_close 37 = .ok (.baload, 1) := by decide +kernel
theorem dX8_close_38 : decode cX8_close 38 = .ok (.bastore, 1) := by decide +kernel
theorem dX8_close_39 : decode cX8_close 39 = .ok (.iinc 2 1, 3) := by decide +kernel
theorem dX8_close_42 : decode cX8_close 42 = .ok (.goto (-32), 3) := by decide +kernel
theorem dX8_close_45 : decode cX8_close 45 = .ok (.aload_n 0, 1) := by decide +kernel
theorem dX8_close_46 : decode cX8_close 46 = .ok (.getfield 39, 3) := by decide +kernel
theorem dX8_close_49 : decode cX8_close 49 = .ok (.aload_n 0, 1) := by decide +kernel
theorem dX8_close_50 : decode cX8_close 50 = .ok (.getfield 98, 3) := by decide +kernel
theorem dX8_close_53 : decode cX8_close 53 = .ok (.aload_n 0, 1) := by decide +kernel
theorem dX8_close_54 : decode cX8_close 54 = .ok (.getfield 25, 3) := by decide +kernel
theorem dX8_close_57 : decode cX8_close 57 = .ok (.bipush 9, 2) := by decide +kernel
theorem dX8_close_59 : decode cX8_close 59 = .ok (.iload_n 1, 1) := by decide +kernel
theorem dX8_close_60 : decode cX8_close 60 = .ok (.imul, 1) := by decide +kernel
theorem dX8_close_61 : decode cX8_close 61 = .ok (.bipush 6, 2) := by decide +kernel
theorem dX8_close_63 : decode cX8_close 63 = .ok (.iadd, 1) := by decide +kernel
theorem dX8_close_64 : decode cX8_close 64 = .ok (.laload, 1) := by decide +kernel
theorem dX8_close_65 : decode cX8_close 65 = .ok (.invokestatic 104, 3) := by decide +kernel
theorem dX8_close_68 : decode cX8_close 68 = .ok (.iastore, 1) := by decide +kernel
theorem dX8_close_69 : decode cX8_close 69 = .ok (.aload_n 0, 1) := by decide +kernel
theorem dX8_close_70 : decode cX8_close 70 = .ok (.dup, 1) := by decide +kernel
theorem dX8_close_71 : decode cX8_close 71 = .ok (.getfield 98, 3) := by decide +kernel
theorem dX8_close_74 : decode cX8_close 74 = .ok (.iconst 1, 1) := by decide +kernel
theorem dX8_close_75 : decode cX8_close 75 = .ok (.iadd, 1) := by decide +kernel
theorem dX8_close_76 : decode cX8_close 76 = .ok (.putfield 98, 3) := by decide +kernel
theorem dX8_close_79 : decode cX8_close 79 = .ok (.aload_n 0, 1) := by decide +kernel
theorem dX8_close_80 : decode cX8_close 80 = .ok (.getfield 98, 3) := by decide +kernel
theorem dX8_close_83 : decode cX8_close 83 = .ok (.iconst 1, 1) := by decide +kernel
theorem dX8_close_84 : decode cX8_close 84 = .ok (.isub, 1) := by decide +kernel
theorem dX8_close_85 : decode cX8_close 85 = .ok (.ireturn, 1) := by decide +kernel
theorem dX8_open_0 : decode cX8_open 0 = .ok (.bipush 73, 2) := by decide +kernel
theorem dX8_open_2 : decode cX8_open 2 = .ok (.aload_n 0, 1) := by decide +kernel
theorem dX8_open_3 : decode cX8_open 3 = .ok (.getfield 98, 3) := by decide +kernel
theorem dX8_open_6 : decode cX8_open 6 = .ok (.imul, 1) := by decide +kernel
theorem dX8_open_7 : decode cX8_open 7 = .ok (.istore_n 3, 1) := by decide +kernel
theorem dX8_open_8 : decode cX8_open 8 = .ok (.iconst 0, 1) := by decide +kernel
theorem dX8_open_9 : decode cX8_open 9 = .ok (.istore 4, 2) := by decide +kernel
theorem dX8_open_11 : decode cX8_open 11 = .ok (.iload 4, 2) := by decide +kernel
theorem dX8_open_13 : decode cX8_open 13 = .ok (.bipush 73, 2) := by decide +kernel
theorem dX8_open_15 : decode cX8_open 15 = .ok (.if_icmp .ge 19, 3) := by decide +kernel
theorem dX8_open_18 : decode cX8_open 18 = .ok (.aload_n 0, 1) := by decide +kernel
theorem dX8_open_19 : decode cX8_open 19 = .ok (.getfield 35, 3) := by decide +kernel
theorem dX8_open_22 : decode cX8_open 22 = .ok (.iload_n 3, 1) := by decide +kernel
theorem dX8_open_23 : decode cX8_open 23 = .ok (.iload 4, 2) := by decide +kernel
theorem dX8_open_25 : decode cX8_open 25 = .ok (.iadd, 1) := by decide +kernel
theorem dX8_open_26 : decode cX8_open 26 = .ok (.iconst 0, 1) := by decide +kernel
theorem dX8_open_27 : decode cX8_open 27 = .ok (.bastore, 1) := by decide +kernel
theorem dX8_open_28 : decode cX8_open 28 = .ok (.iinc 4 1, 3) := by decide +kernel
theorem dX8_open_31 : decode cX8_open 31 = .ok (.goto (-20), 3) := by decide +kernel
theorem dX8_open_34 : decode cX8_open 34 = .ok (.aload_n 0, 1) := by decide +kernel
theorem dX8_open_35 : decode cX8_open 35 = .ok (.getfield 35, 3) := by decide +kernel
theorem dX8_open_38 : decode cX8_open 38 = .ok (.iload_n 3, 1) := by decide +kernel
theorem dX8_open_39 : decode cX8_open 39 = .ok (.iload_n 1, 1) := by decide +kernel
theorem dX8_open_40 : decode cX8_open 40 = .ok (.i2b, 1) := by decide +kernel
theorem dX8_open_41 : decode cX8_open 41 = .ok (.bastore, 1) := by decide +kernel
theorem dX8_open_42 : decode cX8_open 42 = .ok (.aload_n 0, 1) := by decide +kernel
theorem dX8_open_43 : decode cX8_open 43 = .ok (.iload_n 3, 1) := by decide +kernel
theorem dX8_open_44 : decode cX8_open 44 = .ok (.iconst 1, 1) := by decide +kernel
theorem dX8_open_45 : decode cX8_open 45 = .ok (.iadd, 1) := by decide +kernel
theorem dX8_open_46 : decode cX8_open 46 = .ok (.aload_n 0, 1) := by decide +kernel
theorem dX8_open_47 : decode cX8_open 47 = .ok (.getfield 25, 3) := by decide +kernel
theorem dX8_open_50 : decode cX8_open 50 = .ok (.bipush 9, 2) := by decide +kernel
theorem dX8_open_52 : decode cX8_open 52 = .ok (.iload_n 2, 1) := by decide +kernel
theorem dX8_open_53 : decode cX8_open 53 = .ok (.imul, 1) := by decide +kernel
theorem dX8_open_54 : decode cX8_open 54 = .ok (.laload, 1) := by decide +kernel
theorem dX8_open_55 : decode cX8_open 55 = .ok (.iconst 4, 1) := by decide +kernel
theorem dX8_open_56 : decode cX8_open 56 = .ok (.invokevirtual 108, 3) := by decide +kernel
theorem dX8_open_59 : decode cX8_open 59 = .ok (.ireturn, 1) := by decide +kernel
theorem dX8_isIn_0 : decode cX8_isIn 0 = .ok (.lload_n 0, 1) := by decide +kernel
theorem dX8_isIn_1 : decode cX8_isIn 1 = .ok (.lconst 0, 1) := by decide +kernel
theorem dX8_isIn_2 : decode cX8_isIn 2 = .ok (.lcmp, 1) := by decide +kernel
theorem dX8_isIn_3 : decode cX8_isIn 3 = .ok (.ifCond .lt 13, 3) := by decide +kernel
theorem dX8_isIn_6 : decode cX8_isIn 6 = .ok (.lload_n 0, 1) := by decide +kernel
theorem dX8_isIn_7 : decode cX8_isIn 7 = .ok (.lload_n 2, 1) := by decide +kernel
theorem dX8_isIn_8 : decode cX8_isIn 8 = .ok (.lcmp, 1) := by decide +kernel
theorem dX8_isIn_9 : decode cX8_isIn 9 = .ok (.ifCond .gt 7, 3) := by decide +kernel
theorem dX8_isIn_12 : decode cX8_isIn 12 = .ok (.iconst 1, 1) := by decide +kernel
theorem dX8_isIn_13 : decode cX8_isIn 13 = .ok (.goto 4, 3) := by decide +kernel
theorem dX8_isIn_16 : decode cX8_isIn 16 = .ok (.iconst 0, 1) := by decide +kernel
theorem dX8_isIn_17 : decode cX8_isIn 17 = .ok (.ireturn, 1) := by decide +kernel
theorem dX8_isTicket_0 : decode cX8_isTicket 0 = .ok (.aload_n 0, 1) := by decide +kernel
theorem dX8_isTicket_1 : decode cX8_isTicket 1 = .ok (.iconst 0, 1) := by decide +kernel
theorem dX8_isTicket_2 : decode cX8_isTicket 2 = .ok (.putfield 67, 3) := by decide +kernel
theorem dX8_isTicket_5 : decode cX8_isTicket 5 = .ok (.iload_n 1, 1) := by decide +kernel
theorem dX8_isTicket_6 : decode cX8_isTicket 6 = .ok (.ifCond .lt 15, 3) := by decide +kernel
theorem dX8_isTicket_9 : decode cX8_isTicket 9 = .ok (.iload_n 1, 1) := by decide +kernel
theorem dX8_isTicket_10 : decode cX8_isTicket 10 = .ok (.aload_n 0, 1) := by decide +kernel
theorem dX8_isTicket_11 : decode cX8_isTicket 11 = .ok (.getfield 112, 3) := by decide +kernel
theorem dX8_isTicket_14 : decode cX8_isTicket 14 = .ok (.if_icmp .ge 7, 3) := by decide +kernel
theorem dX8_isTicket_17 : decode cX8_isTicket 17 = .ok (.iconst 1, 1) := by decide +kernel
theorem dX8_isTicket_18 : decode cX8_isTicket 18 = .ok (.goto 4, 3) := by decide +kernel
theorem dX8_isTicket_21 : decode cX8_isTicket 21 = .ok (.iconst 0, 1) := by decide +kernel
theorem dX8_isTicket_22 : decode cX8_isTicket 22 = .ok (.ireturn, 1) := by decide +kernel
theorem dX8_dayOf_0 : decode cX8_dayOf 0 = .ok (.lload_n 0, 1) := by decide +kernel
theorem dX8_dayOf_1 : decode cX8_dayOf 1 = .ok (.ldc2_w 115, 3) := by decide +kernel
theorem dX8_dayOf_4 : decode cX8_dayOf 4 = .ok (.ldiv, 1) := by decide +kernel
theorem dX8_dayOf_5 : decode cX8_dayOf 5 = .ok (.l2i, 1) := by decide +kernel
theorem dX8_dayOf_6 : decode cX8_dayOf 6 = .ok (.ireturn, 1) := by decide +kernel
theorem dX8_canBe_0 : decode cX8_canBe 0 = .ok (.iload_n 0, 1) := by decide +kernel
theorem dX8_canBe_1 : decode cX8_canBe 1 = .ok (.tableswitch 83 1 7 #[43, 51, 59, 59, 83, 67, 75], 43) := by decide +kernel
theorem dX8_canBe_44 : decode cX8_canBe 44 = .ok (.lload_n 1, 1) := by decide +kernel
theorem dX8_canBe_45 : decode cX8_canBe 45 = .ok (.ldc2_w 117, 3) := by decide +kernel
theorem dX8_canBe_48 : decode cX8_canBe 48 = .ok (.invokestatic 119, 3) := by decide +kernel
theorem dX8_canBe_51 : decode cX8_canBe 51 = .ok (.ireturn, 1) := by decide +kernel
theorem dX8_canBe_52 : decode cX8_canBe 52 = .ok (.lload_n 1, 1) := by decide +kernel
theorem dX8_canBe_53 : decode cX8_canBe 53 = .ok (.ldc2_w 123, 3) := by decide +kernel
theorem dX8_canBe_56 : decode cX8_canBe 56 = .ok (.invokestatic 119, 3) := by decide +kernel
theorem dX8_canBe_59 : decode cX8_canBe 59 = .ok (.ireturn, 1) := by decide +kernel
theorem dX8_canBe_60 : decode cX8_canBe 60 = .ok (.lload_n 1, 1) := by decide +kernel
theorem dX8_canBe_61 : decode cX8_canBe 61 = .ok (.ldc2_w 125, 3) := by decide +kernel
theorem dX8_canBe_64 : decode cX8_canBe 64 = .ok (.invokestatic 119, 3) := by decide +kernel
theorem dX8_canBe_67 : decode cX8_canBe 67 = .ok (.ireturn, 1) := by decide +kernel
theorem dX8_canBe_68 : decode cX8_canBe 68 = .ok (.lload_n 1, 1) := by decide +kernel
theorem dX8_canBe_69 : decode cX8_canBe 69 = .ok (.ldc2_w 127, 3) := by decide +kernel
theorem dX8_canBe_72 : decode cX8_canBe 72 = .ok (.invokestatic 119, 3) := by decide +kernel
theorem dX8_canBe_75 : decode cX8_canBe 75 = .ok (.ireturn, 1) := by decide +kernel
theorem dX8_canBe_76 : decode cX8_canBe 76 = .ok (.lload_n 1, 1) := by decide +kernel
theorem dX8_canBe_77 : decode cX8_canBe 77 = .ok (.ldc2_w 129, 3) := by decide +kernel
theorem dX8_canBe_80 : decode cX8_canBe 80 = .ok (.invokestatic 119, 3) := by decide +kernel
theorem dX8_canBe_83 : decode cX8_canBe 83 = .ok (.ireturn, 1) := by decide +kernel
theorem dX8_canBe_84 : decode cX8_canBe 84 = .ok (.iconst 0, 1) := by decide +kernel
theorem dX8_canBe_85 : decode cX8_canBe 85 = .ok (.ireturn, 1) := by decide +kernel
theorem dX8_follows_0 : decode cX8_follows 0 = .ok (.aload_n 0, 1) := by decide +kernel
theorem dX8_follows_1 : decode cX8_follows 1 = .ok (.iconst 0, 1) := by decide +kernel
theorem dX8_follows_2 : decode cX8_follows 2 = .ok (.putfield 67, 3) := by decide +kernel
theorem dX8_follows_5 : decode cX8_follows 5 = .ok (.iload_n 1, 1) := by decide +kernel
theorem dX8_follows_6 : decode cX8_follows 6 = .ok (.i2l, 1) := by decide +kernel
theorem dX8_follows_7 : decode cX8_follows 7 = .ok (.ldc2_w 131, 3) := by decide +kernel
theorem dX8_follows_10 : decode cX8_follows 10 = .ok (.invokestatic 119, 3) := by decide +kernel
theorem dX8_follows_13 : decode cX8_follows 13 = .ok (.ifCond .eq 24, 3) := by decide +kernel
theorem dX8_follows_16 : decode cX8_follows 16 = .ok (.iload_n 2, 1) := by decide +kernel
theorem dX8_follows_17 : decode cX8_follows 17 = .ok (.i2l, 1) := by decide +kernel
theorem dX8_follows_18 : decode cX8_follows 18 = .ok (.ldc2_w 117, 3) := by decide +kernel
theorem dX8_follows_21 : decode cX8_follows 21 = .ok (.invokestatic 119, 3) := by decide +kernel
theorem dX8_follows_24 : decode cX8_follows 24 = .ok (.ifCond .eq 13, 3) := by decide +kernel
theorem dX8_follows_27 : decode cX8_follows 27 = .ok (.lload_n 3, 1) := by decide +kernel
theorem dX8_follows_28 : decode cX8_follows 28 = .ok (.ldc2_w 125, 3) := by decide +kernel
theorem dX8_follows_31 : decode cX8_follows 31 = .ok (.invokestatic 119, 3) := by decide +kernel
theorem dX8_follows_34 : decode cX8_follows 34 = .ok (.ifCond .ne 5, 3) := by decide +kernel
theorem dX8_follows_37 : decode cX8_follows 37 = .ok (.iconst 0, 1) := by decide +kernel
theorem dX8_follows_38 : decode cX8_follows 38 = .ok (.ireturn, 1) := by decide +kernel
theorem dX8_follows_39 : decode cX8_follows 39 = .ok (.iconst 0, 1) := by decide +kernel
theorem dX8_follows_40 : decode cX8_follows 40 = .ok (.istore 5, 2) := by decide +kernel
theorem dX8_follows_42 : decode cX8_follows 42 = .ok (.iload 5, 2) := by decide +kernel
theorem dX8_follows_44 : decode cX8_follows 44 = .ok (.aload_n 0, 1) := by decide +kernel
theorem dX8_follows_45 : decode cX8_follows 45 = .ok (.getfield 133, 3) := by decide +kernel
theorem dX8_follows_48 : decode cX8_follows 48 = .ok (.if_icmp .ge 31, 3) := by decide +kernel
theorem dX8_follows_51 : decode cX8_follows 51 = .ok (.aload_n 0, 1) := by decide +kernel
theorem dX8_follows_52 : decode cX8_follows 52 = .ok (.getfield 16, 3) := by decide +kernel
theorem dX8_follows_55 : decode cX8_follows 55 = .ok (.iload 5, 2) := by decide +kernel
theorem dX8_follows_57 : decode cX8_follows 57 = .ok (.iaload, 1) := by decide +kernel
theorem dX8_follows_58 : decode cX8_follows 58 = .ok (.iload_n 1, 1) := by decide +kernel
theorem dX8_follows_59 : decode cX8_follows 59 = .ok (.if_icmp .ne 14, 3) := by decide +kernel
theorem dX8_follows_62 : decode cX8_follows 62 = .ok (.aload_n 0, 1) := by decide +kernel
theorem dX8_follows_63 : decode cX8_follows 63 = .ok (.getfield 19, 3) := by decide +kernel
theorem dX8_follows_66 : decode cX8_follows 66 = .ok (.iload 5, 2) := by decide +kernel
theorem dX8_follows_68 : decode cX8_follows 68 = .ok (.iaload, 1) := by decide +kernel
theorem dX8_follows_69 : decode cX8_follows 69 = .ok (.iload_n 2, 1) := by decide +kernel
theorem dX8_follows_70 : decode cX8_follows 70 = .ok (.if_icmp .eq 9, 3) := by decide +kernel
theorem dX8_follows_73 : decode cX8_follows 73 = .ok (.iinc 5 1, 3) := by decide +kernel
theorem dX8_follows_76 : decode cX8_follows 76 = .ok (.goto (-34), 3) := by decide +kernel
theorem dX8_follows_79 : decode cX8_follows 79 = .ok (.aload_n 0, 1) := by decide +kernel
theorem dX8_follows_80 : decode cX8_follows 80 = .ok (.getfield 16, 3) := by decide +kernel
theorem dX8_follows_83 : decode cX8_follows 83 = .ok (.iload 5, 2) := by decide +kernel
theorem dX8_follows_85 : decode cX8_follows 85 = .ok (.iload_n 1, 1) := by decide +kernel
theorem dX8_follows_86 : decode cX8_follows 86 = .ok (.iastore, 1) := by decide +kernel
theorem dX8_follows_87 : decode cX8_follows 87 = .ok (.aload_n 0, 1) := by decide +kernel
theorem dX8_follows_88 : decode cX8_follows 88 = .ok (.getfield 19, 3) := by decide +kernel
theorem dX8_follows_91 : decode cX8_follows 91 = .ok (.iload 5, 2) := by decide +kernel
theorem dX8_follows_93 : decode cX8_follows 93 = .ok (.iload_n 2, 1) := by decide +kernel
theorem dX8_follows_94 : decode cX8_follows 94 = .ok (.iastore, 1) := by decide +kernel
theorem dX8_follows_95 : decode cX8_follows 95 = .ok (.aload_n 0, 1) := by decide +kernel
theorem dX8_follows_96 : decode cX8_follows 96 = .ok (.getfield 22, 3) := by decide +kernel
theorem dX8_follows_99 : decode cX8_follows 99 = .ok (.iload 5, 2) := by decide +kernel
theorem dX8_follows_101 : decode cX8_follows 101 = .ok (.lload_n 3, 1) := by decide +kernel
theorem dX8_follows_102 : decode cX8_follows 102 = .ok (.l2i, 1) := by decide +kernel
theorem dX8_follows_103 : decode cX8_follows 103 = .ok (.iastore, 1) := by decide +kernel
theorem dX8_follows_104 : decode cX8_follows 104 = .ok (.aload_n 0, 1) := by decide +kernel
theorem dX8_follows_105 : decode cX8_follows 105 = .ok (.iload 5, 2) := by decide +kernel
theorem dX8_follows_107 : decode cX8_follows 107 = .ok (.aload_n 0, 1) := by decide +kernel
theorem dX8_follows_108 : decode cX8_follows 108 = .ok (.getfield 133, 3) := by decide +kernel
theorem dX8_follows_111 : decode cX8_follows 111 = .ok (.if_icmp .ne 12, 3) := by decide +kernel
theorem dX8_follows_114 : decode cX8_follows 114 = .ok (.aload_n 0, 1) := by decide +kernel
theorem dX8_follows_115 : decode cX8_follows 115 = .ok (.getfield 133, 3) := by decide +kernel
theorem dX8_follows_118 : decode cX8_follows 118 = .ok (.iconst 1, 1) := by decide +kernel
theorem dX8_follows_119 : decode cX8_follows 119 = .ok (.iadd, 1) := by decide +kernel
theorem dX8_follows_120 : decode cX8_follows 120 = .ok (.goto 7, 3) := by decide +kernel
theorem dX8_follows_123 : decode cX8_follows 123 = .ok (.aload_n 0, 1) := by decide +kernel
theorem dX8_follows_124 : decode cX8_follows 124 = .ok (.getfield 133, 3) := by decide +kernel
theorem dX8_follows_127 : decode cX8_follows 127 = .ok (.putfield 133, 3) := by decide +kernel
theorem dX8_follows_130 : decode cX8_follows 130 = .ok (.iconst 1, 1) := by decide +kernel
theorem dX8_follows_131 : decode cX8_follows 131 = .ok (.ireturn, 1) := by decide +kernel
theorem dX8_tareOf_0 : decode cX8_tareOf 0 = .ok (.iconst (-1), 1) := by decide +kernel
theorem dX8_tareOf_1 : decode cX8_tareOf 1 = .ok (.istore_n 3, 1) := by decide +kernel
theorem dX8_tareOf_2 : decode cX8_tareOf 2 = .ok (.iconst 0, 1) := by decide +kernel
theorem dX8_tareOf_3 : decode cX8_tareOf 3 = .ok (.istore 4, 2) := by decide +kernel
theorem dX8_tareOf_5 : decode cX8_tareOf 5 = .ok (.iload 4, 2) := by decide +kernel
theorem dX8_tareOf_7 : decode cX8_tareOf 7 = .ok (.aload_n 0, 1) := by decide +kernel
theorem dX8_tareOf_8 : decode cX8_tareOf 8 = .ok (.getfield 133, 3) := by decide +kernel
theorem dX8_tareOf_11 : decode cX8_tareOf 11 = .ok (.if_icmp .ge 70, 3) := by decide +kernel
theorem dX8_tareOf_14 : decode cX8_tareOf 14 = .ok (.aload_n 0, 1) := by decide +kernel
theorem dX8_tareOf_15 : decode cX8_tareOf 15 = .ok (.getfield 19, 3) := by decide +kernel
theorem dX8_tareOf_18 : decode cX8_tareOf 18 = .ok (.iload 4, 2) := by decide +kernel
theorem dX8_tareOf_20 : decode cX8_tareOf 20 = .ok (.iaload, 1) := by decide +kernel
theorem dX8_tareOf_21 : decode cX8_tareOf 21 = .ok (.iload_n 1, 1) := by decide +kernel
theorem dX8_tareOf_22 : decode cX8_tareOf 22 = .ok (.if_icmp .ne 18, 3) := by decide +kernel
theorem dX8_tareOf_25 : decode cX8_tareOf 25 = .ok (.aload_n 0, 1) := by decide +kernel
theorem dX8_tareOf_26 : decode cX8_tareOf 26 = .ok (.getfield 16, 3) := by decide +kernel
theorem dX8_tareOf_29 : decode cX8_tareOf 29 = .ok (.iload 4, 2) := by decide +kernel
theorem dX8_tareOf_31 : decode cX8_tareOf 31 = .ok (.iaload, 1) := by decide +kernel
theorem dX8_tareOf_32 : decode cX8_tareOf 32 = .ok (.iload_n 2, 1) := by decide +kernel
theorem dX8_tareOf_33 : decode cX8_tareOf 33 = .ok (.if_icmp .gt 7, 3) := by decide +kernel
theorem dX8_tareOf_36 : decode cX8_tareOf 36 = .ok (.iconst 1, 1) := by decide +kernel
theorem dX8_tareOf_37 : decode cX8_tareOf 37 = .ok (.goto 4, 3) := by decide +kernel
theorem dX8_tareOf_40 : decode cX8_tareOf 40 = .ok (.iconst 0, 1) := by decide +kernel
theorem dX8_tareOf_41 : decode cX8_tareOf 41 = .ok (.istore 5, 2) := by decide +kernel
theorem dX8_tareOf_43 : decode cX8_tareOf 43 = .ok (.iload 5, 2) := by decide +kernel
theorem dX8_tareOf_45 : decode cX8_tareOf 45 = .ok (.ifCond .eq 28, 3) := by decide +kernel
theorem dX8_tareOf_48 : decode cX8_tareOf 48 = .ok (.iload_n 3, 1) := by decide +kernel
theorem dX8_tareOf_49 : decode cX8_tareOf 49 = .ok (.ifCond .lt 19, 3) := by decide +kernel
theorem dX8_tareOf_52 : decode cX8_tareOf 52 = .ok (.aload_n 0, 1) := by decide +kernel
theorem dX8_tareOf_53 : decode cX8_tareOf 53 = .ok (.getfield 16, 3) := by decide +kernel
theorem dX8_tareOf_56 : decode cX8_tareOf 56 = .ok (.iload 4, 2) := by decide +kernel
theorem dX8_tareOf_58 : decode cX8_tareOf 58 = .ok (.iaload, 1) := by decide +kernel
theorem dX8_tareOf_59 : decode cX8_tareOf 59 = .ok (.aload_n 0, 1) := by decide +kernel
theorem dX8_tareOf_60 : decode cX8_tareOf 60 = .ok (.getfield 16, 3) := by decide +kernel
theorem dX8_tareOf_63 : decode cX8_tareOf 63 = .ok (.iload_n 3, 1) := by decide +kernel
theorem dX8_tareOf_64 : decode cX8_tareOf 64 = .ok (.iaload, 1) := by decide +kernel
theorem dX8_tareOf_65 : decode cX8_tareOf 65 = .ok (.if_icmp .le 8, 3) := by decide +kernel
theorem dX8_tareOf_68 : decode cX8_tareOf 68 = .ok (.iload 4, 2) := by decide +kernel
theorem dX8_tareOf_70 : decode cX8_tareOf 70 = .ok (.goto 4, 3) := by decide +kernel
theorem dX8_tareOf_73 : decode cX8_tareOf 73 = .ok (.iload_n 3, 1) := by decide +kernel
theorem dX8_tareOf_74 : decode cX8_tareOf 74 = .ok (.istore_n 3, 1) := by decide +kernel
theorem dX8_tareOf_75 : decode cX8_tareOf 75 = .ok (.iinc 4 1, 3) := by decide +kernel
theorem dX8_tareOf_78 : decode cX8_tareOf 78 = .ok (.goto (-73), 3) := by decide +kernel
theorem dX8_tareOf_81 : decode cX8_tareOf 81 = .ok (.iload_n 3, 1) := by decide +kernel
theorem dX8_tareOf_82 : decode cX8_tareOf 82 = .ok (.ifCond .ge 9, 3) := by decide +kernel
theorem dX8_tareOf_85 : decode cX8_tareOf 85 = .ok (.ldc2_w 136, 3) := by decide +kernel
theorem dX8_tareOf_88 : decode cX8_tareOf 88 = .ok (.goto 10, 3) := by decide +kernel
theorem dX8_tareOf_91 : decode cX8_tareOf 91 = .ok (.aload_n 0, 1) := by decide +kernel
theorem dX8_tareOf_92 : decode cX8_tareOf 92 = .ok (.getfield 22, 3) := by decide +kernel
theorem dX8_tareOf_95 : decode cX8_tareOf 95 = .ok (.iload_n 3, 1) := by decide +kernel
theorem dX8_tareOf_96 : decode cX8_tareOf 96 = .ok (.iaload, 1) := by decide +kernel
theorem dX8_tareOf_97 : decode cX8_tareOf 97 = .ok (.i2l, 1) := by decide +kernel
theorem dX8_tareOf_98 : decode cX8_tareOf 98 = .ok (.lreturn, 1) := by decide +kernel
theorem dX8_ticket_0 : decode cX8_ticket 0 = .ok (.aload_n 0, 1) := by decide +kernel
theorem dX8_ticket_1 : decode cX8_ticket 1 = .ok (.iconst 0, 1) := by decide +kernel
theorem dX8_ticket_2 : decode cX8_ticket 2 = .ok (.putfield 67, 3) := by decide +kernel
theorem dX8_ticket_5 : decode cX8_ticket 5 = .ok (.iconst 1, 1) := by decide +kernel
theorem dX8_ticket_6 : decode cX8_ticket 6 = .ok (.iload_n 1, 1) := by decide +kernel
theorem dX8_ticket_7 : decode cX8_ticket 7 = .ok (.i2l, 1) := by decide +kernel
theorem dX8_ticket_8 : decode cX8_ticket 8 = .ok (.invokestatic 138, 3) := by decide +kernel
theorem dX8_ticket_11 : decode cX8_ticket 11 = .ok (.ifCond .eq 59, 3) := by decide +kernel
theorem dX8_ticket_14 : decode cX8_ticket 14 = .ok (.iconst 2, 1) := by decide +kernel
theorem dX8_ticket_15 : decode cX8_ticket 15 = .ok (.iload_n 2, 1) := by decide +kernel
theorem dX8_ticket_16 : decode cX8_ticket 16 = .ok (.i2l, 1) := by decide +kernel
theorem dX8_ticket_17 : decode cX8_ticket 17 = .ok (.invokestatic 138, 3) := by decide +kernel
theorem dX8_ticket_20 : decode cX8_ticket 20 = .ok (.ifCond .eq 50, 3) := by decide +kernel
theorem dX8_ticket_23 : decode cX8_ticket 23 = .ok (.iconst 3, 1) := by decide +kernel
theorem dX8_ticket_24 : decode cX8_ticket 24 = .ok (.lload_n 3, 1) := by decide +kernel
theorem dX8_ticket_25 : decode cX8_ticket 25 = .ok (.invokestatic 138, 3) := by decide +kernel
theorem dX8_ticket_28 : decode cX8_ticket 28 = .ok (.ifCond .eq 42, 3) := by decide +kernel
theorem dX8_ticket_31 : decode cX8_ticket 31 = .ok (.lload 5, 2) := by decide +kernel
theorem dX8_ticket_33 : decode cX8_ticket 33 = .ok (.ldc2_w 136, 3) := by decide +kernel
theorem dX8_ticket_36 : decode cX8_ticket 36 = .ok (.lcmp, 1) := by decide +kernel
theorem dX8_ticket_37 : decode cX8_ticket 37 = .ok (.ifCond .eq 12, 3) := by decide +kernel
theorem dX8_ticket_40 : decode cX8_ticket 40 = .ok (.iconst 4, 1) := by decide +kernel
theorem dX8_ticket_41 : decode cX8_ticket 41 = .ok (.lload 5, 2) := by decide +kernel
theorem dX8_ticket_43 : decode cX8_ticket 43 = .ok (.invokestatic 138, 3) := by decide +kernel
theorem dX8_ticket_46 : decode cX8_ticket 46 = .ok (.ifCond .eq 24, 3) := by decide +kernel
theorem dX8_ticket_49 : decode cX8_ticket 49 = .ok (.bipush 6, 2) := by decide +kernel
theorem dX8_ticket_51 : decode cX8_ticket 51 = .ok (.lload 7, 2) := by decide +kernel
theorem dX8_ticket_53 : decode cX8_ticket 53 = .ok (.invokestatic 138, 3) := by decide +kernel
theorem dX8_ticket_56 : decode cX8_ticket 56 = .ok (.ifCond .eq 14, 3) := by decide +kernel
theorem dX8_ticket_59 : decode cX8_ticket 59 = .ok (.bipush 7, 2) := by decide +kernel
theorem dX8_ticket_61 : decode cX8_ticket 61 = .ok (.iload 9, 2) := by decide +kernel
theorem dX8_ticket_63 : decode cX8_ticket 63 = .ok (.i2l, 1) := by decide +kernel
theorem dX8_ticket_64 : decode cX8_ticket 64 = .ok (.invokestatic 138, 3) := by decide +kernel
theorem dX8_ticket_67 : decode cX8_ticket 67 = .ok (.ifCond .ne 5, 3) := by decide +kernel
theorem dX8_ticket_70 : decode cX8_ticket 70 = .ok (.iconst (-1), 1) := by decide +kernel
theorem dX8_ticket_71 : decode cX8_ticket 71 = .ok (.ireturn, 1) := by decide +kernel
theorem dX8_ticket_72 : decode cX8_ticket 72 = .ok (.lload 5, 2) := by decide +kernel
theorem dX8_ticket_74 : decode cX8_ticket 74 = .ok (.lconst 0, 1) := by decide +kernel
theorem dX8_ticket_75 : decode cX8_ticket 75 = .ok (.lcmp, 1) := by decide +kernel
theorem dX8_ticket_76 : decode cX8_ticket 76 = .ok (.ifCond .ge 16, 3) := by decide +kernel
theorem dX8_ticket_79 : decode cX8_ticket 79 = .ok (.aload_n 0, 1) := by decide +kernel
theorem dX8_ticket_80 : decode cX8_ticket 80 = .ok (.iload_n 1, 1) := by decide +kernel
theorem dX8_ticket_81 : decode cX8_ticket 81 = .ok (.lload 7, 2) := by decide +kernel
theorem dX8_ticket_83 : decode cX8_ticket 83 = .ok (.invokestatic 104, 3) := by decide +kernel
theorem dX8_ticket_86 : decode cX8_ticket 86 = .ok (.invokevirtual 142, 3) := by decide +kernel
theorem dX8_ticket_89 : decode cX8_ticket 89 = .ok (.goto 5, 3) := by decide +kernel
theorem dX8_ticket_92 : decode cX8_ticket 92 = .ok (.lload 5, 2) := by decide +kernel
theorem dX8_ticket_94 : decode cX8_ticket 94 = .ok (.lstore 10, 2) := by decide +kernel
theorem dX8_ticket_96 : decode cX8_ticket 96 = .ok (.lload 10, 2) := by decide +kernel
theorem dX8_ticket_98 : decode cX8_ticket 98 = .ok (.lconst 0, 1) := by decide +kernel
theorem dX8_ticket_99 : decode cX8_ticket 99 = .ok (.lcmp, 1) := by decide +kernel
theorem dX8_ticket_100 : decode cX8_ticket 100 = .ok (.ifCond .lt 23, 3) := by decide +kernel
theorem dX8_ticket_103 : decode cX8_ticket 103 = .ok (.aload_n 0, 1) := by decide +kernel
theorem dX8_ticket_104 : decode cX8_ticket 104 = .ok (.getfield 98, 3) := by decide +kernel
theorem dX8_ticket_107 : decode cX8_ticket 107 = .ok (.sipush 200, 3) := by decide +kernel
theorem dX8_ticket_110 : decode cX8_ticket 110 = .ok (.if_icmp .eq 13, 3) := by decide +kernel
theorem dX8_ticket_113 : decode cX8_ticket 113 = .ok (.aload_n 0, 1) := by decide +kernel
theorem dX8_ticket_114 : decode cX8_ticket 114 = .ok (.getfield 146, 3) := by decide +kernel
theorem dX8_ticket_117 : decode cX8_ticket 117 = .ok (.sipush 400, 3) := by decide +kernel
theorem dX8_ticket_120 : decode cX8_ticket 120 = .ok (.if_icmp .ne 5, 3) := by decide +kernel
theorem dX8_ticket_123 : decode cX8_ticket 123 = .ok (.iconst (-1), 1) := by decide +kernel
theorem dX8_ticket_124 : decode cX8_ticket 124 = .ok (.ireturn, 1) := by decide +kernel
theorem dX8_ticket_125 : decode cX8_ticket 125 = .ok (.lload_n 3, 1) := by decide +kernel
theorem dX8_ticket_126 : decode cX8_ticket 126 = .ok (.lload 10, 2) := by decide +kernel
theorem dX8_ticket_128 : decode cX8_ticket 128 = .ok (.lcmp, 1) := by decide +kernel
theorem dX8_ticket_129 : decode cX8_ticket 129 = .ok (.ifCond .ge 39, 3) := by decide +kernel
theorem dX8_ticket_132 : decode cX8_ticket 132 = .ok (.aload_n 0, 1) := by decide +kernel
theorem dX8_ticket_133 : decode cX8_ticket 133 = .ok (.getfield 32, 3) := by decide +kernel
theorem dX8_ticket_136 : decode cX8_ticket 136 = .ok (.aload_n 0, 1) := by decide +kernel
theorem dX8_ticket_137 : decode cX8_ticket 137 = .ok (.getfield 149, 3) := by decide +kernel
theorem dX8_ticket_140 : decode cX8_ticket 140 = .ok (.aload_n 0, 1) := by decide +kernel
theorem dX8_ticket_141 : decode cX8_ticket 141 = .ok (.getfield 146, 3) := by decide +kernel
theorem dX8_ticket_144 : decode cX8_ticket 144 = .ok (.iastore, 1) := by decide +kernel
theorem dX8_ticket_145 : decode cX8_ticket 145 = .ok (.aload_n 0, 1) := by decide +kernel
theorem dX8_ticket_146 : decode cX8_ticket 146 = .ok (.dup, 1) := by decide +kernel
theorem dX8_ticket_147 : decode cX8_ticket 147 = .ok (.getfield 149, 3) := by decide +kernel
theorem dX8_ticket_150 : decode cX8_ticket 150 = .ok (.iconst 1, 1) := by decide +kernel
theorem dX8_ticket_151 : decode cX8_ticket 151 = .ok (.iadd, 1) := by decide +kernel
theorem dX8_ticket_152 : decode cX8_ticket 152 = .ok (.putfield 149, 3) := by decide +kernel
theorem dX8_ticket_155 : decode cX8_ticket 155 = .ok (.aload_n 0, 1) := by decide +kernel
theorem dX8_ticket_156 : decode cX8_ticket 156 = .ok (.dup, 1) := by decide +kernel
theorem dX8_ticket_157 : decode cX8_ticket 157 = .ok (.getfield 146, 3) := by decide +kernel
theorem dX8_ticket_160 : decode cX8_ticket 160 = .ok (.iconst 1, 1) := by decide +kernel
theorem dX8_ticket_161 : decode cX8_ticket 161 = .ok (.iadd, 1) := by decide +kernel
theorem dX8_ticket_162 : decode cX8_ticket 162 = .ok (.putfield 146, 3) := by decide +kernel
theorem dX8_ticket_165 : decode cX8_ticket 165 = .ok (.bipush (-2), 2) := by decide +kernel
theorem dX8_ticket_167 : decode cX8_ticket 167 = .ok (.ireturn, 1) := by decide +kernel
theorem dX8_ticket_168 : decode cX8_ticket 168 = .ok (.bipush 9, 2) := by decide +kernel
theorem dX8_ticket_170 : decode cX8_ticket 170 = .ok (.aload_n 0, 1) := by decide +kernel
theorem dX8_ticket_171 : decode cX8_ticket 171 = .ok (.getfield 112, 3) := by decide +kernel
theorem dX8_ticket_174 : decode cX8_ticket 174 = .ok (.imul, 1) := by decide +kernel
theorem dX8_ticket_175 : decode cX8_ticket 175 = .ok (.istore 12, 2) := by decide +kernel
theorem dX8_ticket_177 : decode cX8_ticket 177 = .ok (.aload_n 0, 1) := by decide +kernel
theorem dX8_ticket_178 : decode cX8_ticket 178 = .ok (.getfield 25, 3) := by decide +kernel
theorem dX8_ticket_181 : decode cX8_ticket 181 = .ok (.iload 12, 2) := by decide +kernel
theorem dX8_ticket_183 : decode cX8_ticket 183 = .ok (.aload_n 0, 1) := by decide +kernel
theorem dX8_ticket_184 : decode cX8_ticket 184 = .ok (.getfield 146, 3) := by decide +kernel
theorem dX8_ticket_187 : decode cX8_ticket 187 = .ok (.i2l, 1) := by decide +kernel
theorem dX8_ticket_188 : decode cX8_ticket 188 = .ok (.lastore, 1) := by decide +kernel
theorem dX8_ticket_189 : decode cX8_ticket 189 = .ok (.aload_n 0, 1) := by decide +kernel
theorem dX8_ticket_190 : decode cX8_ticket 190 = .ok (.getfield 25, 3) := by decide +kernel
theorem dX8_ticket_193 : decode cX8_ticket 193 = .ok (.iload 12, 2) := by decide +kernel
theorem dX8_ticket_195 : decode cX8_ticket 195 = .ok (.iconst 1, 1) := by decide +kernel
theorem dX8_ticket_196 : decode cX8_ticket 196 = .ok (.iadd, 1) := by decide +kernel
theorem dX8_ticket_197 : decode cX8_ticket 197 = .ok (.iload_n 1, 1) := by decide +kernel
theorem dX8_ticket_198 : decode cX8_ticket 198 = .ok (.i2l, 1) := by decide +kernel
theorem dX8_ticket_199 : decode cX8_ticket 199 = .ok (.lastore, 1) := by decide +kernel
theorem dX8_ticket_200 : decode cX8_ticket 200 = .ok (.aload_n 0, 1) := by decide +kernel
theorem dX8_ticket_201 : decode cX8_ticket 201 = .ok (.getfield 25, 3) := by decide +kernel
theorem dX8_ticket_204 : decode cX8_ticket 204 = .ok (.iload 12, 2) := by decide +kernel
theorem dX8_ticket_206 : decode cX8_ticket 206 = .ok (.iconst 2, 1) := by decide +kernel
theorem dX8_ticket_207 : decode cX8_ticket 207 = .ok (.iadd, 1) := by decide +kernel
theorem dX8_ticket_208 : decode cX8_ticket 208 = .ok (.iload_n 2, 1) := by decide +kernel
theorem dX8_ticket_209 : decode cX8_ticket 209 = .ok (.i2l, 1) := by decide +kernel
theorem dX8_ticket_210 : decode cX8_ticket 210 = .ok (.lastore, 1) := by decide +kernel
theorem dX8_ticket_211 : decode cX8_ticket 211 = .ok (.aload_n 0, 1) := by decide +kernel
theorem dX8_ticket_212 : decode cX8_ticket 212 = .ok (.getfield 25, 3) := by decide +kernel
theorem dX8_ticket_215 : decode cX8_ticket 215 = .ok (.iload 12, 2) := by decide +kernel
theorem dX8_ticket_217 : decode cX8_ticket 217 = .ok (.iconst 3, 1) := by decide +kernel
theorem dX8_ticket_218 : decode cX8_ticket 218 = .ok (.iadd, 1) := by decide +kernel
theorem dX8_ticket_219 : decode cX8_ticket 219 = .ok (.lload_n 3, 1) := by decide +kernel
theorem dX8_ticket_220 : decode cX8_ticket 220 = .ok (.lastore, 1) := by decide +kernel
theorem dX8_ticket_221 : decode cX8_ticket 221 = .ok (.aload_n 0, 1) := by decide +kernel
theorem dX8_ticket_222 : decode cX8_ticket 222 = .ok (.getfield 25, 3) := by decide +kernel
theorem dX8_ticket_225 : decode cX8_ticket 225 = .ok (.iload 12, 2) := by decide +kernel
theorem dX8_ticket_227 : decode cX8_ticket 227 = .ok (.iconst 4, 1) := by decide +kernel
theorem dX8_ticket_228 : decode cX8_ticket 228 = .ok (.iadd, 1) := by decide +kernel
theorem dX8_ticket_229 : decode cX8_ticket 229 = .ok (.lload 10, 2) := by decide +kernel
theorem dX8_ticket_231 : decode cX8_ticket 231 = .ok (.lastore, 1) := by decide +kernel
theorem dX8_ticket_232 : decode cX8_ticket 232 = .ok (.aload_n 0, 1) := by decide +kernel
theorem dX8_ticket_233 : decode cX8_ticket 233 = .ok (.getfield 25, 3) := by decide +kernel
theorem dX8_ticket_236 : decode cX8_ticket 236 = .ok (.iload 12, 2) := by decide +kernel
theorem dX8_ticket_238 : decode cX8_ticket 238 = .ok (.bipush 6, 2) := by decide +kernel
theorem dX8_ticket_240 : decode cX8_ticket 240 = .ok (.iadd, 1) := by decide +kernel
theorem dX8_ticket_241 : decode cX8_ticket 241 = .ok (.lload 7, 2) := by decide +kernel
theorem dX8_ticket_243 : decode cX8_ticket 243 = .ok (.lastore, 1) := by decide +kernel
theorem dX8_ticket_244 : decode cX8_ticket 244 = .ok (.aload_n 0, 1) := by decide +kernel
theorem dX8_ticket_245 : decode cX8_ticket 245 = .ok (.getfield 25, 3) := by decide +kernel
theorem dX8_ticket_248 : decode cX8_ticket 248 = .ok (.iload 12, 2) := by decide +kernel
theorem dX8_ticket_250 : decode cX8_ticket 250 = .ok (.bipush 7, 2) := by decide +kernel
theorem dX8_ticket_252 : decode cX8_ticket 252 = .ok (.iadd, 1) := by decide +kernel
theorem dX8_ticket_253 : decode cX8_ticket 253 = .ok (.iload 9, 2) := by decide +kernel
theorem dX8_ticket_255 : decode cX8_ticket 255 = .ok (.i2l, 1) := by decide +kernel
theorem dX8_ticket_256 : decode cX8_ticket 256 = .ok (.lastore, 1) := by decide +kernel
theorem dX8_ticket_257 : decode cX8_ticket 257 = .ok (.aload_n 0, 1) := by decide +kernel
theorem dX8_ticket_258 : decode cX8_ticket 258 = .ok (.getfield 25, 3) := by decide +kernel
theorem dX8_ticket_261 : decode cX8_ticket 261 = .ok (.iload 12, 2) := by decide +kernel
theorem dX8_ticket_263 : decode cX8_ticket 263 = .ok (.bipush 8, 2) := by decide +kernel
theorem dX8_ticket_265 : decode cX8_ticket 265 = .ok (.iadd, 1) := by decide +kernel
theorem dX8_ticket_266 : decode cX8_ticket 266 = .ok (.lconst 0, 1) := by decide +kernel
theorem dX8_ticket_267 : decode cX8_ticket 267 = .ok (.lastore, 1) := by decide +kernel
theorem dX8_ticket_268 : decode cX8_ticket 268 = .ok (.aload_n 0, 1) := by decide +kernel
theorem dX8_ticket_269 : decode cX8_ticket 269 = .ok (.dup, 1) := by decide +kernel
theorem dX8_ticket_270 : decode cX8_ticket 270 = .ok (.getfield 146, 3) := by decide +kernel
theorem dX8_ticket_273 : decode cX8_ticket 273 = .ok (.iconst 1, 1) := by decide +kernel
theorem dX8_ticket_274 : decode cX8_ticket 274 = .ok (.iadd, 1) := by decide +kernel
theorem dX8_ticket_275 : decode cX8_ticket 275 = .ok (.putfield 146, 3) := by decide +kernel
theorem dX8_ticket_278 : decode cX8_ticket 278 = .ok (.aload_n 0, 1) := by decide +kernel
theorem dX8_ticket_279 : decode cX8_ticket 279 = .ok (.iconst 1, 1) := by decide +kernel
theorem dX8_ticket_280 : decode cX8_ticket 280 = .ok (.aload_n 0, 1) := by decide +kernel
theorem dX8_ticket_281 : decode cX8_ticket 281 = .ok (.getfield 112, 3) := by decide +kernel
theorem dX8_ticket_284 : decode cX8_ticket 284 = .ok (.invokevirtual 152, 3) := by decide +kernel
theorem dX8_ticket_287 : decode cX8_ticket 287 = .ok (.istore 13, 2) := by decide +kernel
theorem dX8_ticket_289 : decode cX8_ticket 289 = .ok (.aload_n 0, 1) := by decide +kernel
theorem dX8_ticket_290 : decode cX8_ticket 290 = .ok (.iload 13, 2) := by decide +kernel
theorem dX8_ticket_292 : decode cX8_ticket 292 = .ok (.iload_n 1, 1) := by decide +kernel
theorem dX8_ticket_293 : decode cX8_ticket 293 = .ok (.i2l, 1) := by decide +kernel
theorem dX8_ticket_294 : decode cX8_ticket 294 = .ok (.iconst 4, 1) := by decide +kernel
theorem dX8_ticket_295 : decode cX8_ticket 295 = .ok (.invokevirtual 108, 3) := by decide +kernel
theorem dX8_ticket_298 : decode cX8_ticket 298 = .ok (.istore 13, 2) := by decide +kernel
theorem dX8_ticket_300 : decode cX8_ticket 300 = .ok (.aload_n 0, 1) := by decide +kernel
theorem dX8_ticket_301 : decode cX8_ticket 301 = .ok (.iload 13, 2) := by decide +kernel
theorem dX8_ticket_303 : decode cX8_ticket 303 = .ok (.iload_n 2, 1) := by decide +kernel
theorem dX8_ticket_304 : decode cX8_ticket 304 = .ok (.i2l, 1) := by decide +kernel
theorem dX8_ticket_305 : decode cX8_ticket 305 = .ok (.iconst 4, 1) := by decide +kernel
theorem dX8_ticket_306 : decode cX8_ticket 306 = .ok (.invokevirtual 108, 3) := by decide +kernel
theorem dX8_ticket_309 : decode cX8_ticket 309 = .ok (.istore 13, 2) := by decide +kernel
theorem dX8_ticket_311 : decode cX8_ticket 311 = .ok (.aload_n 0, 1) := by decide +kernel
theorem dX8_ticket_312 : decode cX8_ticket 312 = .ok (.iload 13, 2) := by decide +kernel
theorem dX8_ticket_314 : decode cX8_ticket 314 = .ok (.lload_n 3, 1) := by decide +kernel
theorem dX8_ticket_315 : decode cX8_ticket 315 = .ok (.bipush 8, 2) := by decide +kernel
theorem dX8_ticket_317 : decode cX8_ticket 317 = .ok (.invokevirtual 108, 3) := by decide +kernel
theorem dX8_ticket_320 : decode cX8_ticket 320 = .ok (.istore 13, 2) := by decide +kernel
theorem dX8_ticket_322 : decode cX8_ticket 322 = .ok (.aload_n 0, 1) := by decide +kernel
theorem dX8_ticket_323 : decode cX8_ticket 323 = .ok (.iload 13, 2) := by decide +kernel
theorem dX8_ticket_325 : decode cX8_ticket 325 = .ok (.lload 10, 2) := by decide +kernel
theorem dX8_ticket_327 : decode cX8_ticket 327 = .ok (.bipush 8, 2) := by decide +kernel
theorem dX8_ticket_329 : decode cX8_ticket 329 = .ok (.invokevirtual 108, 3) := by decide +kernel
theorem dX8_ticket_332 : decode cX8_ticket 332 = .ok (.istore 13, 2) := by decide +kernel
theorem dX8_ticket_334 : decode cX8_ticket 334 = .ok (.aload_n 0, 1) := by decide +kernel
theorem dX8_ticket_335 : decode cX8_ticket 335 = .ok (.iload 13, 2) := by decide +kernel
theorem dX8_ticket_337 : decode cX8_ticket 337 = .ok (.lload 7, 2) := by decide +kernel
theorem dX8_ticket_339 : decode cX8_ticket 339 = .ok (.bipush 8, 2) := by decide +kernel
theorem dX8_ticket_341 : decode cX8_ticket 341 = .ok (.invokevirtual 108, 3) := by decide +kernel
theorem dX8_ticket_344 : decode cX8_ticket 344 = .ok (.istore 13, 2) := by decide +kernel
theorem dX8_ticket_346 : decode cX8_ticket 346 = .ok (.aload_n 0, 1) := by decide +kernel
theorem dX8_ticket_347 : decode cX8_ticket 347 = .ok (.iload 13, 2) := by decide +kernel
theorem dX8_ticket_349 : decode cX8_ticket 349 = .ok (.iload 9, 2) := by decide +kernel
theorem dX8_ticket_351 : decode cX8_ticket 351 = .ok (.i2l, 1) := by decide +kernel
theorem dX8_ticket_352 : decode cX8_ticket 352 = .ok (.iconst 4, 1) := by decide +kernel
theorem dX8_ticket_353 : decode cX8_ticket 353 = .ok (.invokevirtual 108, 3) := by decide +kernel
theorem dX8_ticket_356 : decode cX8_ticket 356 = .ok (.istore 13, 2) := by decide +kernel
theorem dX8_ticket_358 : decode cX8_ticket 358 = .ok (.aload_n 0, 1) := by decide +kernel
theorem dX8_ticket_359 : decode cX8_ticket 359 = .ok (.aload_n 0, 1) := by decide +kernel
theorem dX8_ticket_360 : decode cX8_ticket 360 = .ok (.getfield 112, 3) := by decide +kernel
theorem dX8_ticket_363 : decode cX8_ticket 363 = .ok (.invokevirtual 155, 3) := by decide +kernel
theorem dX8_ticket_366 : decode cX8_ticket 366 = .ok (.istore 14, 2) := by decide +kernel
theorem dX8_ticket_368 : decode cX8_ticket 368 = .ok (.aload_n 0, 1) := by decide +kernel
theorem dX8_ticket_369 : decode cX8_ticket 369 = .ok (.dup, 1) := by decide +kernel
theorem dX8_ticket_370 : decode cX8_ticket 370 = .ok (.getfield 112, 3) := by decide +kernel
theorem dX8_ticket_373 : decode cX8_ticket 373 = .ok (.iconst 1, 1) := by decide +kernel
theorem dX8_ticket_374 : decode cX8_ticket 374 = .ok (.iadd, 1) := by decide +kernel
theorem dX8_ticket_375 : decode cX8_ticket 375 = .ok (.putfield 112, 3) := by decide +kernel
theorem dX8_ticket_378 : decode cX8_ticket 378 = .ok (.aload_n 0, 1) := by decide +kernel
theorem dX8_ticket_379 : decode cX8_ticket 379 = .ok (.getfield 112, 3) := by decide +kernel
theorem dX8_ticket_382 : decode cX8_ticket 382 = .ok (.iconst 1, 1) := by decide +kernel
theorem dX8_ticket_383 : decode cX8_ticket 383 = .ok (.isub, 1) := by decide +kernel
theorem dX8_ticket_384 : decode cX8_ticket 384 = .ok (.ireturn, 1) := by decide +kernel
theorem dX8_isVoid_0 : decode cX8_isVoid 0 = .ok (.aload_n 0, 1) := by decide +kernel
theorem dX8_isVoid_1 : decode cX8_isVoid 1 = .ok (.getfield 25, 3) := by decide +kernel
theorem dX8_isVoid_4 : decode cX8_isVoid 4 = .ok (.bipush 9, 2) := by decide +kernel
theorem dX8_isVoid_6 : decode cX8_isVoid 6 = .ok (.iload_n 1, 1) := by decide +kernel
theorem dX8_isVoid_7 : decode cX8_isVoid 7 = .ok (.imul, 1) := by decide +kernel
theorem dX8_isVoid_8 : decode cX8_isVoid 8 = .ok (.bipush 8, 2) := by decide +kernel
theorem dX8_isVoid_10 : decode cX8_isVoid 10 = .ok (.iadd, 1) := by decide +kernel
theorem dX8_isVoid_11 : decode cX8_isVoid 11 = .ok (.laload, 1) := by decide +kernel
theorem dX8_isVoid_12 : decode cX8_isVoid 12 = .ok (.lconst 0, 1) := by decide +kernel
theorem dX8_isVoid_13 : decode cX8_isVoid 13 = .ok (.lcmp, 1) := by decide +kernel
theorem dX8_isVoid_14 : decode cX8_isVoid 14 = .ok (.ifCond .eq 7, 3) := by decide +kernel
theorem dX8_isVoid_17 : decode cX8_isVoid 17 = .ok (.iconst 1, 1) := by decide +kernel
theorem dX8_isVoid_18 : decode cX8_isVoid 18 = .ok (.goto 4, 3) := by decide +kernel
theorem dX8_isVoid_21 : decode cX8_isVoid 21 = .ok (.iconst 0, 1) := by decide +kernel
theorem dX8_isVoid_22 : decode cX8_isVoid 22 = .ok (.ireturn, 1) := by decide +kernel
theorem dX8_correct_0 : decode cX8_correct 0 = .ok (.aload_n 0, 1) := by decide +kernel
theorem dX8_correct_1 : decode cX8_correct 1 = .ok (.iload_n 1, 1) := by decide +kernel
theorem dX8_correct_2 : decode cX8_correct 2 = .ok (.invokevirtual 159, 3) := by decide +kernel
theorem dX8_correct_5 : decode cX8_correct 5 = .ok (.ifCond .eq 40, 3) := by decide +kernel
theorem dX8_correct_8 : decode cX8_correct 8 = .ok (.iload_n 2, 1) := by decide +kernel
theorem dX8_correct_9 : decode cX8_correct 9 = .ok (.lload_n 3, 1) := by decide +kernel
theorem dX8_correct_10 : decode cX8_correct 10 = .ok (.invokestatic 138, 3) := by decide +kernel
theorem dX8_correct_13 : decode cX8_correct 13 = .ok (.ifCond .eq 32, 3) := by decide +kernel
theorem dX8_correct_16 : decode cX8_correct 16 = .ok (.bipush 7, 2) := by decide +kernel
theorem dX8_correct_18 : decode cX8_correct 18 = .ok (.iload 5, 2) := by decide +kernel
theorem dX8_correct_20 : decode cX8_correct 20 = .ok (.i2l, 1) := by decide +kernel
theorem dX8_correct_21 : decode cX8_correct 21 = .ok (.invokestatic 138, 3) := by decide +kernel
theorem dX8_correct_24 : decode cX8_correct 24 = .ok (.ifCond .eq 21, 3) := by decide +kernel
theorem dX8_correct_27 : decode cX8_correct 27 = .ok (.aload_n 0, 1) := by decide +kernel
theorem dX8_correct_28 : decode cX8_correct 28 = .ok (.iload_n 1, 1) := by decide +kernel
theorem dX8_correct_29 : decode cX8_correct 29 = .ok (.invokevirtual 163, 3) := by decide +kernel
theorem dX8_correct_32 : decode cX8_correct 32 = .ok (.ifCond .ne 13, 3) := by decide +kernel
theorem dX8_correct_35 : decode cX8_correct 35 = .ok (.aload_n 0, 1) := by decide +kernel
theorem dX8_correct_36 : decode cX8_correct 36 = .ok (.getfield 98, 3) := by decide +kernel
theorem dX8_correct_39 : decode cX8_correct 39 = .ok (.sipush 200, 3) := by decide +kernel
theorem dX8_correct_42 : decode cX8_correct 42 = .ok (.if_icmp .ne 5, 3) := by decide +kernel
theorem dX8_correct_45 : decode cX8_correct 45 = .ok (.iconst (-1), 1) := by decide +kernel
theorem dX8_correct_46 : decode cX8_correct 46 = .ok (.ireturn, 1) := by decide +kernel
theorem dX8_correct_47 : decode cX8_correct 47 = .ok (.iload_n 2, 1) := by decide +kernel
theorem dX8_correct_48 : decode cX8_correct 48 = .ok (.iconst 3, 1) := by decide +kernel
theorem dX8_correct_49 : decode cX8_correct 49 = .ok (.if_icmp .ne 7, 3) := by decide +kernel
theorem dX8_correct_52 : decode cX8_correct 52 = .ok (.lload_n 3, 1) := by decide +kernel
theorem dX8_correct_53 : decode cX8_correct 53 = .ok (.goto 14, 3) := by decide +kernel
theorem dX8_correct_56 : decode cX8_correct 56 = .ok (.aload_n 0, 1) := by decide +kernel
theorem dX8_correct_57 : decode cX8_correct 57 = .ok (.getfield 25, 3) := by decide +kernel
theorem dX8_correct_60 : decode cX8_correct 60 = .ok (.bipush 9, 2) := by decide +kernel
theorem dX8_correct_62 : decode cX8_correct 62 = .ok (.iload_n 1, 1) := by decide +kernel
theorem dX8_correct_63 : decode cX8_correct 63 = .ok (.imul, 1) := by decide +kernel
theorem dX8_correct_64 : decode cX8_correct 64 = .ok (.iconst 3, 1) := by decide +kernel
theorem dX8_correct_65 : decode cX8_correct 65 = .ok (.iadd, 1) := by decide +kernel
theorem dX8_correct_66 : decode cX8_correct 66 = .ok (.laload, 1) := by decide +kernel
theorem dX8_correct_67 : decode cX8_correct 67 = .ok (.lstore 6, 2) := by decide +kernel
theorem dX8_correct_69 : decode cX8_correct 69 = .ok (.iload_n 2, 1) := by decide +kernel
theorem dX8_correct_70 : decode cX8_correct 70 = .ok (.iconst 4, 1) := by decide +kernel
theorem dX8_correct_71 : decode cX8_correct 71 = .ok (.if_icmp .ne 7, 3) := by decide +kernel
theorem dX8_correct_74 : decode cX8_correct 74 = .ok (.lload_n 3, 1) := by decide +kernel
theorem dX8_correct_75 : decode cX8_correct 75 = .ok (.goto 14, 3) := by decide +kernel
theorem dX8_correct_78 : decode cX8_correct 78 = .ok (.aload_n 0, 1) := by decide +kernel
theorem dX8_correct_79 : decode cX8_correct 79 = .ok (.getfield 25, 3) := by decide +kernel
theorem dX8_correct_82 : decode cX8_correct 82 = .ok (.bipush 9, 2) := by decide +kernel
theorem dX8_correct_84 : decode cX8_correct 84 = .ok (.iload_n 1, 1) := by decide +kernel
theorem dX8_correct_85 : decode cX8_correct 85 = .ok (.imul, 1) := by decide +kernel
theorem dX8_correct_86 : decode cX8_correct 86 = .ok (.iconst 4, 1) := by decide +kernel
theorem dX8_correct_87 : decode cX8_correct 87 = .ok (.iadd, 1) := by decide +kernel
theorem dX8_correct_88 : decode cX8_correct 88 = .ok (.laload, 1) := by decide +kernel
theorem dX8_correct_89 : decode cX8_correct 89 = .ok (.lstore 8, 2) := by decide +kernel
theorem dX8_correct_91 : decode cX8_correct 91 = .ok (.lload 6, 2) := by decide +kernel
theorem dX8_correct_93 : decode cX8_correct 93 = .ok (.lload 8, 2) := by decide +kernel
theorem dX8_correct_95 : decode cX8_correct 95 = .ok (.lcmp, 1) := by decide +kernel
theorem dX8_correct_96 : decode cX8_correct 96 = .ok (.ifCond .ge 5, 3) := by decide +kernel
theorem dX8_correct_99 : decode cX8_correct 99 = .ok (.iconst (-1), 1) := by decide +kernel
theorem dX8_correct_100 : decode cX8_correct 100 = .ok (.ireturn, 1) := by decide +kernel
theorem dX8_correct_101 : decode cX8_correct 101 = .ok (.aload_n 0, 1) := by decide +kernel
theorem dX8_correct_102 : decode cX8_correct 102 = .ok (.getfield 25, 3) := by decide +kernel
theorem dX8_correct_105 : decode cX8_correct 105 = .ok (.bipush 9, 2) := by decide +kernel
theorem dX8_correct_107 : decode cX8_correct 107 = .ok (.iload_n 1, 1) := by decide +kernel
theorem dX8_correct_108 : decode cX8_correct 108 = .ok (.imul, 1) := by decide +kernel
theorem dX8_correct_109 : decode cX8_correct 109 = .ok (.iload_n 2, 1) := by decide +kernel
theorem dX8_correct_110 : decode cX8_correct 110 = .ok (.iadd, 1) := by decide +kernel
theorem dX8_correct_111 : decode cX8_correct 111 = .ok (.lload_n 3, 1) := by decide +kernel
theorem dX8_correct_112 : decode cX8_correct 112 = .ok (.lastore, 1) := by decide +kernel
theorem dX8_correct_113 : decode cX8_correct 113 = .ok (.aload_n 0, 1) := by decide +kernel
theorem dX8_correct_114 : decode cX8_correct 114 = .ok (.iconst 2, 1) := by decide +kernel
theorem dX8_correct_115 : decode cX8_correct 115 = .ok (.iload_n 1, 1) := by decide +kernel
theorem dX8_correct_116 : decode cX8_correct 116 = .ok (.invokevirtual 152, 3) := by decide +kernel
theorem dX8_correct_119 : decode cX8_correct 119 = .ok (.istore 10, 2) := by decide +kernel
theorem dX8_correct_121 : decode cX8_correct 121 = .ok (.aload_n 0, 1) := by decide +kernel
theorem dX8_correct_122 : decode cX8_correct 122 = .ok (.iload 10, 2) := by decide +kernel
theorem dX8_correct_124 : decode cX8_correct 124 = .ok (.iload_n 2, 1) := by decide +kernel
theorem dX8_correct_125 : decode cX8_correct 125 = .ok (.i2l, 1) := by decide +kernel
theorem dX8_correct_126 : decode cX8_correct 126 = .ok (.iconst 4, 1) := by decide +kernel
theorem dX8_correct_127 : decode cX8_correct 127 = .ok (.invokevirtual 108, 3) := by decide +kernel
theorem dX8_correct_130 : decode cX8_correct 130 = .ok (.istore 10, 2) := by decide +kernel
theorem dX8_correct_132 : decode cX8_correct 132 = .ok (.aload_n 0, 1) := by decide +kernel
theorem dX8_correct_133 : decode cX8_correct 133 = .ok (.iload 10, 2) := by decide +kernel
theorem dX8_correct_135 : decode cX8_correct 135 = .ok (.lload_n 3, 1) := by decide +kernel
theorem dX8_correct_136 : decode cX8_correct 136 = .ok (.bipush 8, 2) := by decide +kernel
theorem dX8_correct_138 : decode cX8_correct 138 = .ok (.invokevirtual 108, 3) := by decide +kernel
theorem dX8_correct_141 : decode cX8_correct 141 = .ok (.istore 10, 2) := by decide +kernel
theorem dX8_correct_143 : decode cX8_correct 143 = .ok (.aload_n 0, 1) := by decide +kernel
theorem dX8_correct_144 : decode cX8_correct 144 = .ok (.iload 10, 2) := by decide +kernel
theorem dX8_correct_146 : decode cX8_correct 146 = .ok (.iload 5, 2) := by decide +kernel
theorem dX8_correct_148 : decode cX8_correct 148 = .ok (.i2l, 1) := by decide +kernel
theorem dX8_correct_149 : decode cX8_correct 149 = .ok (.iconst 4, 1) := by decide +kernel
theorem dX8_correct_150 : decode cX8_correct 150 = .ok (.invokevirtual 108, 3) := by decide +kernel
theorem dX8_correct_153 : decode cX8_correct 153 = .ok (.istore 10, 2) := by decide +kernel
theorem dX8_correct_155 : decode cX8_correct 155 = .ok (.aload_n 0, 1) := by decide +kernel
theorem dX8_correct_156 : decode cX8_correct 156 = .ok (.iload_n 1, 1) := by decide +kernel
theorem dX8_correct_157 : decode cX8_correct 157 = .ok (.invokevirtual 155, 3) := by decide +kernel
theorem dX8_correct_160 : decode cX8_correct 160 = .ok (.ireturn, 1) := by decide +kernel
theorem dX8_voids_0 : decode cX8_voids 0 = .ok (.aload_n 0, 1) := by decide +kernel
theorem dX8_voids_1 : decode cX8_voids 1 = .ok (.iload_n 1, 1) := by decide +kernel
theorem dX8_voids_2 : decode cX8_voids 2 = .ok (.invokevirtual 159, 3) := by decide +kernel
theorem dX8_voids_5 : decode cX8_voids 5 = .ok (.ifCond .eq 32, 3) := by decide +kernel
theorem dX8_voids_8 : decode cX8_voids 8 = .ok (.iload_n 2, 1) := by decide +kernel
theorem dX8_voids_9 : decode cX8_voids 9 = .ok (.iconst 1, 1) := by decide +kernel
theorem dX8_voids_10 : decode cX8_voids 10 = .ok (.if_icmp .lt 27, 3) := by decide +kernel
theorem dX8_voids_13 : decode cX8_voids 13 = .ok (.iload_n 2, 1) := by decide +kernel
theorem dX8_voids_14 : decode cX8_voids 14 = .ok (.bipush 99, 2) := by decide +kernel
theorem dX8_voids_16 : decode cX8_voids 16 = .ok (.if_icmp .gt 21, 3) := by decide +kernel
theorem dX8_voids_19 : decode cX8_voids 19 = .ok (.aload_n 0, 1) := by decide +kernel
theorem dX8_voids_20 : decode cX8_voids 20 = .ok (.iload_n 1, 1) := by decide +kernel
theorem dX8_voids_21 : decode cX8_voids 21 = .ok (.invokevirtual 163, 3) := by decide +kernel
theorem dX8_voids_24 : decode cX8_voids 24 = .ok (.ifCond .ne 13, 3) := by decide +kernel
theorem dX8_voids_27 : decode cX8_voids 27 = .ok (.aload_n 0, 1) := by decide +kernel
theorem dX8_voids_28 : decode cX8_voids 28 = .ok (.getfield 98, 3) := by decide +kernel
theorem dX8_voids_31 : decode cX8_voids 31 = .ok (.sipush 200, 3) := by decide +kernel
theorem dX8_voids_34 : decode cX8_voids 34 = .ok (.if_icmp .ne 5, 3) := by decide +kernel
theorem dX8_voids_37 : decode cX8_voids 37 = .ok (.iconst (-1), 1) := by decide +kernel
theorem dX8_voids_38 : decode cX8_voids 38 = .ok (.ireturn, 1) := by decide +kernel
theorem dX8_voids_39 : decode cX8_voids 39 = .ok (.aload_n 0, 1) := by decide +kernel
theorem dX8_voids_40 : decode cX8_voids 40 = .ok (.getfield 25, 3) := by decide +kernel
theorem dX8_voids_43 : decode cX8_voids 43 = .ok (.bipush 9, 2) := by decide +kernel
theorem dX8_voids_45 : decode cX8_voids 45 = .ok (.iload_n 1, 1) := by decide +kernel
theorem dX8_voids_46 : decode cX8_voids 46 = .ok (.imul, 1) := by decide +kernel
theorem dX8_voids_47 : decode cX8_voids 47 = .ok (.bipush 8, 2) := by decide +kernel
theorem dX8_voids_49 : decode cX8_voids 49 = .ok (.iadd, 1) := by decide +kernel
theorem dX8_voids_50 : decode cX8_voids 50 = .ok (.iload_n 2, 1) := by decide +kernel
theorem dX8_voids_51 : decode cX8_voids 51 = .ok (.i2l, 1) := by decide +kernel
theorem dX8_voids_52 : decode cX8_voids 52 = .ok (.lastore, 1) := by decide +kernel
theorem dX8_voids_53 : decode cX8_voids 53 = .ok (.aload_n 0, 1) := by decide +kernel
theorem dX8_voids_54 : decode cX8_voids 54 = .ok (.aload_n 0, 1) := by decide +kernel
theorem dX8_voids_55 : decode cX8_voids 55 = .ok (.iconst 3, 1) := by decide +kernel
theorem dX8_voids_56 : decode cX8_voids 56 = .ok (.iload_n 1, 1) := by decide +kernel
theorem dX8_voids_57 : decode cX8_voids 57 = .ok (.invokevirtual 152, 3) := by decide +kernel
theorem dX8_voids_60 : decode cX8_voids 60 = .ok (.iload_n 2, 1) := by decide +kernel
theorem dX8_voids_61 : decode cX8_voids 61 = .ok (.i2l, 1) := by decide +kernel
theorem dX8_voids_62 : decode cX8_voids 62 = .ok (.iconst 4, 1) := by decide +kernel
theorem dX8_voids_63 : decode cX8_voids 63 = .ok (.invokevirtual 108, 3) := by decide +kernel
theorem dX8_voids_66 : decode cX8_voids 66 = .ok (.istore_n 3, 1) := by decide +kernel
theorem dX8_voids_67 : decode cX8_voids 67 = .ok (.aload_n 0, 1) := by decide +kernel
theorem dX8_voids_68 : decode cX8_voids 68 = .ok (.iload_n 1, 1) := by decide +kernel
theorem dX8_voids_69 : decode cX8_voids 69 = .ok (.invokevirtual 155, 3) := by decide +kernel
theorem dX8_voids_72 : decode cX8_voids 72 = .ok (.ireturn, 1) := by decide +kernel
theorem dX8_at_0 : decode cX8_at 0 = .ok (.aload_n 0, 1) := by decide +kernel
theorem dX8_at_1 : decode cX8_at 1 = .ok (.iload_n 1, 1) := by decide +kernel
theorem dX8_at_2 : decode cX8_at 2 = .ok (.invokevirtual 159, 3) := by decide +kernel
theorem dX8_at_5 : decode cX8_at 5 = .ok (.ifCond .eq 13, 3) := by decide +kernel
theorem dX8_at_8 : decode cX8_at 8 = .ok (.iload_n 2, 1) := by decide +kernel
theorem dX8_at_9 : decode cX8_at 9 = .ok (.ifCond .lt 9, 3) := by decide +kernel
theorem dX8_at_12 : decode cX8_at 12 = .ok (.iload_n 2, 1) := by decide +kernel
theorem dX8_at_13 : decode cX8_at 13 = .ok (.bipush 8, 2) := by decide +kernel
theorem dX8_at_15 : decode cX8_at 15 = .ok (.if_icmp .le 7, 3) := by decide +kernel
theorem dX8_at_18 : decode cX8_at 18 = .ok (.ldc2_w 136, 3) := by decide +kernel
theorem dX8_at_21 : decode cX8_at 21 = .ok (.lreturn, 1) := by decide +kernel
theorem dX8_at_22 : decode cX8_at 22 = .ok (.iload_n 2, 1) := by decide +kernel
theorem dX8_at_23 : decode cX8_at 23 = .ok (.iconst 5, 1) := by decide +kernel
theorem dX8_at_24 : decode cX8_at 24 = .ok (.if_icmp .ne 29, 3) := by decide +kernel
theorem dX8_at_27 : decode cX8_at 27 = .ok (.aload_n 0, 1) := by decide +kernel
theorem dX8_at_28 : decode cX8_at 28 = .ok (.getfield 25, 3) := by decide +kernel
theorem dX8_at_31 : decode cX8_at 31 = .ok (.bipush 9, 2) := by decide +kernel
theorem dX8_at_33 : decode cX8_at 33 = .ok (.iload_n 1, 1) := by decide +kernel
theorem dX8_at_34 : decode cX8_at 34 = .ok (.imul, 1) := by decide +kernel
theorem dX8_at_35 : decode cX8_at 35 = .ok (.iconst 3, 1) := by decide +kernel
theorem dX8_at_36 : decode cX8_at 36 = .ok (.iadd, 1) := by decide +kernel
theorem dX8_at_37 : decode cX8_at 37 = .ok (.laload, 1) := by decide +kernel
theorem dX8_at_38 : decode cX8_at 38 = .ok (.aload_n 0, 1) := by decide +kernel
theorem dX8_at_39 : decode cX8_at 39 = .ok (.getfield 25, 3) := by decide +kernel
theorem dX8_at_42 : decode cX8_at 42 = .ok (.bipush 9, 2) := by decide +kernel
theorem dX8_at_44 : decode cX8_at 44 = .ok (.iload_n 1, 1) := by decide +kernel
theorem dX8_at_45 : decode cX8_at 45 = .ok (.imul, 1) := by decide +kernel
theorem dX8_at_46 : decode cX8_at 46 = .ok (.iconst 4, 1) := by decide +kernel
theorem dX8_at_47 : decode cX8_at 47 = .ok (.iadd, 1) := by decide +kernel
theorem dX8_at_48 : decode cX8_at 48 = .ok (.laload, 1) := by decide +kernel
theorem dX8_at_49 : decode cX8_at 49 = .ok (.lsub, 1) := by decide +kernel
theorem dX8_at_50 : decode cX8_at 50 = .ok (.goto 14, 3) := by decide +kernel
theorem dX8_at_53 : decode cX8_at 53 = .ok (.aload_n 0, 1) := by decide +kernel
theorem dX8_at_54 : decode cX8_at 54 = .ok (.getfield 25, 3) := by decide +kernel
theorem dX8_at_57 : decode cX8_at 57 = .ok (.bipush 9, 2) := by decide +kernel
theorem dX8_at_59 : decode cX8_at 59 = .ok (.iload_n 1, 1) := by decide +kernel
theorem dX8_at_60 : decode cX8_at 60 = .ok (.imul, 1) := by decide +kernel
theorem dX8_at_61 : decode cX8_at 61 = .ok (.iload_n 2, 1) := by decide +kernel
theorem dX8_at_62 : decode cX8_at 62 = .ok (.iadd, 1) := by decide +kernel
theorem dX8_at_63 : decode cX8_at 63 = .ok (.laload, 1) := by decide +kernel
theorem dX8_at_64 : decode cX8_at 64 = .ok (.lreturn, 1) := by decide +kernel
theorem dX8_number_0 : decode cX8_number 0 = .ok (.aload_n 0, 1) := by decide +kernel
theorem dX8_number_1 : decode cX8_number 1 = .ok (.iload_n 1, 1) := by decide +kernel
theorem dX8_number_2 : decode cX8_number 2 = .ok (.invokevirtual 159, 3) := by decide +kernel
theorem dX8_number_5 : decode cX8_number 5 = .ok (.ifCond .eq 16, 3) := by decide +kernel
theorem dX8_number_8 : decode cX8_number 8 = .ok (.aload_n 0, 1) := by decide +kernel
theorem dX8_number_9 : decode cX8_number 9 = .ok (.getfield 25, 3) := by decide +kernel
theorem dX8_number_12 : decode cX8_number 12 = .ok (.bipush 9, 2) := by decide +kernel
theorem dX8_number_14 : decode cX8_number 14 = .ok (.iload_n 1, 1) := by decide +kernel
theorem dX8_number_15 : decode cX8_number 15 = .ok (.imul, 1) := by decide +kernel
theorem dX8_number_16 : decode cX8_number 16 = .ok (.laload, 1) := by decide +kernel
theorem dX8_number_17 : decode cX8_number 17 = .ok (.l2i, 1) := by decide +kernel
theorem dX8_number_18 : decode cX8_number 18 = .ok (.goto 4, 3) := by decide +kernel
theorem dX8_number_21 : decode cX8_number 21 = .ok (.iconst (-1), 1) := by decide +kernel
theorem dX8_number_22 : decode cX8_number 22 = .ok (.ireturn, 1) := by decide +kernel
theorem dX8_gap_0 : decode cX8_gap 0 = .ok (.aload_n 0, 1) := by decide +kernel
theorem dX8_gap_1 : decode cX8_gap 1 = .ok (.iconst 0, 1) := by decide +kernel
theorem dX8_gap_2 : decode cX8_gap 2 = .ok (.putfield 67, 3) := by decide +kernel
theorem dX8_gap_5 : decode cX8_gap 5 = .ok (.iload_n 1, 1) := by decide +kernel
theorem dX8_gap_6 : decode cX8_gap 6 = .ok (.ifCond .lt 20, 3) := by decide +kernel
theorem dX8_gap_9 : decode cX8_gap 9 = .ok (.iload_n 1, 1) := by decide +kernel
theorem dX8_gap_10 : decode cX8_gap 10 = .ok (.aload_n 0, 1) := by decide +kernel
theorem dX8_gap_11 : decode cX8_gap 11 = .ok (.getfield 149, 3) := by decide +kernel
theorem dX8_gap_14 : decode cX8_gap 14 = .ok (.if_icmp .ge 12, 3) := by decide +kernel
theorem dX8_gap_17 : decode cX8_gap 17 = .ok (.aload_n 0, 1) := by decide +kernel
theorem dX8_gap_18 : decode cX8_gap 18 = .ok (.getfield 32, 3) := by decide +kernel
theorem dX8_gap_21 : decode cX8_gap 21 = .ok (.iload_n 1, 1) := by decide +kernel
theorem dX8_gap_22 : decode cX8_gap 22 = .ok (.iaload, 1) := by decide +kernel
theorem dX8_gap_23 : decode cX8_gap 23 = .ok (.goto 4, 3) := by decide +kernel
theorem dX8_gap_26 : decode cX8_gap 26 = .ok (.iconst (-1), 1) := by decide +kernel
theorem dX8_gap_27 : decode cX8_gap 27 = .ok (.ireturn, 1) := by decide +kernel
theorem dX8_rows_0 : decode cX8_rows 0 = .ok (.aload_n 0, 1) := by decide +kernel
theorem dX8_rows_1 : decode cX8_rows 1 = .ok (.iconst 0, 1) := by decide +kernel
theorem dX8_rows_2 : decode cX8_rows 2 = .ok (.putfield 67, 3) := by decide +kernel
theorem dX8_rows_5 : decode cX8_rows 5 = .ok (.aload_n 0, 1) := by decide +kernel
theorem dX8_rows_6 : decode cX8_rows 6 = .ok (.getfield 98, 3) := by decide +kernel
theorem dX8_rows_9 : decode cX8_rows 9 = .ok (.ireturn, 1) := by decide +kernel
theorem dX8_made_0 : decode cX8_made 0 = .ok (.aload_n 0, 1) := by decide +kernel
theorem dX8_made_1 : decode cX8_made 1 = .ok (.iconst 0, 1) := by decide +kernel
theorem dX8_made_2 : decode cX8_made 2 = .ok (.putfield 67, 3) := by decide +kernel
theorem dX8_made_5 : decode cX8_made 5 = .ok (.aload_n 0, 1) := by decide +kernel
theorem dX8_made_6 : decode cX8_made 6 = .ok (.getfield 146, 3) := by decide +kernel
theorem dX8_made_9 : decode cX8_made 9 = .ok (.ireturn, 1) := by decide +kernel
theorem dX8_split_0 : decode cX8_split 0 = .ok (.aload_n 0, 1) := by decide +kernel
theorem dX8_split_1 : decode cX8_split 1 = .ok (.iload_n 1, 1) := by decide +kernel
theorem dX8_split_2 : decode cX8_split 2 = .ok (.invokevirtual 159, 3) := by decide +kernel
theorem dX8_split_5 : decode cX8_split 5 = .ok (.ifCond .eq 24, 3) := by decide +kernel
theorem dX8_split_8 : decode cX8_split 8 = .ok (.iload_n 2, 1) := by decide +kernel
theorem dX8_split_9 : decode cX8_split 9 = .ok (.i2l, 1) := by decide +kernel
theorem dX8_split_10 : decode cX8_split 10 = .ok (.ldc2_w 166, 3) := by decide +kernel
theorem dX8_split_13 : decode cX8_split 13 = .ok (.invokestatic 119, 3) := by decide +kernel
theorem dX8_split_16 : decode cX8_split 16 = .ok (.ifCond .eq 13, 3) := by decide +kernel
theorem dX8_split_19 : decode cX8_split 19 = .ok (.lload_n 3, 1) := by decide +kernel
theorem dX8_split_20 : decode cX8_split 20 = .ok (.ldc2_w 168, 3) := by decide +kernel
theorem dX8_split_23 : decode cX8_split 23 = .ok (.invokestatic 119, 3) := by decide +kernel
theorem dX8_split_26 : decode cX8_split 26 = .ok (.ifCond .ne 5, 3) := by decide +kernel
theorem dX8_split_29 : decode cX8_split 29 = .ok (.iconst 0, 1) := by decide +kernel
theorem dX8_split_30 : decode cX8_split 30 = .ok (.ireturn, 1) := by decide +kernel
theorem dX8_split_31 : decode cX8_split 31 = .ok (.aload_n 0, 1) := by decide +kernel
theorem dX8_split_32 : decode cX8_split 32 = .ok (.getfield 29, 3) := by decide +kernel
theorem dX8_split_35 : decode cX8_split 35 = .ok (.bipush 8, 2) := by decide +kernel
theorem dX8_split_37 : decode cX8_split 37 = .ok (.iload_n 1, 1) := by decide +kernel
theorem dX8_split_38 : decode cX8_split 38 = .ok (.imul, 1) := by decide +kernel
theorem dX8_split_39 : decode cX8_split 39 = .ok (.iload_n 2, 1) := by decide +kernel
theorem dX8_split_40 : decode cX8_split 40 = .ok (.iadd, 1) := by decide +kernel
theorem dX8_split_41 : decode cX8_split 41 = .ok (.lload_n 3, 1) := by decide +kernel
theorem dX8_split_42 : decode cX8_split 42 = .ok (.l2i, 1) := by decide +kernel
theorem dX8_split_43 : decode cX8_split 43 = .ok (.iastore, 1) := by decide +kernel
theorem dX8_split_44 : decode cX8_split 44 = .ok (.iconst 1, 1) := by decide +kernel
theorem dX8_split_45 : decode cX8_split 45 = .ok (.ireturn, 1) := by decide +kernel
theorem dX8_share_0 : decode cX8_share 0 = .ok (.aload_n 0, 1) := by decide +kernel
theorem dX8_share_1 : decode cX8_share 1 = .ok (.iload_n 1, 1) := by decide +kernel
theorem dX8_share_2 : decode cX8_share 2 = .ok (.invokevirtual 159, 3) := by decide +kernel
theorem dX8_share_5 : decode cX8_share 5 = .ok (.ifCond .eq 14, 3) := by decide +kernel
theorem dX8_share_8 : decode cX8_share 8 = .ok (.iload_n 2, 1) := by decide +kernel
theorem dX8_share_9 : decode cX8_share 9 = .ok (.i2l, 1) := by decide +kernel
theorem dX8_share_10 : decode cX8_share 10 = .ok (.ldc2_w 166, 3) := by decide +kernel
theorem dX8_share_13 : decode cX8_share 13 = .ok (.invokestatic 119, 3) := by decide +kernel
theorem dX8_share_16 : decode cX8_share 16 = .ok (.ifCond .ne 7, 3) := by decide +kernel
theorem dX8_share_19 : decode cX8_share 19 = .ok (.ldc2_w 136, 3) := by decide +kernel
theorem dX8_share_22 : decode cX8_share 22 = .ok (.lreturn, 1) := by decide +kernel
theorem dX8_share_23 : decode cX8_share 23 = .ok (.lconst 0, 1) := by decide +kernel
theorem dX8_share_24 : decode cX8_share 24 = .ok (.lstore_n 3, 1) := by decide +kernel
theorem dX8_share_25 : decode cX8_share 25 = .ok (.iconst 0, 1) := by decide +kernel
theorem dX8_share_26 : decode cX8_share 26 = .ok (.istore 5, 2) := by decide +kernel
theorem dX8_share_28 : decode cX8_share 28 = .ok (.iload 5, 2) := by decide +kernel
theorem dX8_share_30 : decode cX8_share 30 = .ok (.bipush 8, 2) := by decide +kernel
theorem dX8_share_32 : decode cX8_share 32 = .ok (.if_icmp .ge 25, 3) := by decide +kernel
theorem dX8_share_35 : decode cX8_share 35 = .ok (.lload_n 3, 1) := by decide +kernel
theorem dX8_share_36 : decode cX8_share 36 = .ok (.aload_n 0, 1) := by decide +kernel
theorem dX8_share_37 : decode cX8_share 37 = .ok (.getfield 29, 3) := by decide +kernel
theorem dX8_share_40 : decode cX8_share 40 = .ok (.bipush 8, 2) := by decide +kernel
theorem dX8_share_42 : decode cX8_share 42 = .ok (.iload_n 1, 1) := by decide +kernel
theorem dX8_share_43 : decode cX8_share 43 = .ok (.imul, 1) := by decide +kernel
theorem dX8_share_44 : decode cX8_share 44 = .ok (.iload 5, 2) := by decide +kernel
theorem dX8_share_46 : decode cX8_share 46 = .ok (.iadd, 1) := by decide +kernel
theorem dX8_share_47 : decode cX8_share 47 = .ok (.iaload, 1) := by decide +kernel
theorem dX8_share_48 : decode cX8_share 48 = .ok (.i2l, 1) := by decide +kernel
theorem dX8_share_49 : decode cX8_share 49 = .ok (.ladd, 1) := by decide +kernel
theorem dX8_share_50 : decode cX8_share 50 = .ok (.lstore_n 3, 1) := by decide +kernel
theorem dX8_share_51 : decode cX8_share 51 = .ok (.iinc 5 1, 3) := by decide +kernel
theorem dX8_share_54 : decode cX8_share 54 = .ok (.goto (-26), 3) := by decide +kernel
theorem dX8_share_57 : decode cX8_share 57 = .ok (.lload_n 3, 1) := by decide +kernel
theorem dX8_share_58 : decode cX8_share 58 = .ok (.lconst 0, 1) := by decide +kernel
theorem dX8_share_59 : decode cX8_share 59 = .ok (.lcmp, 1) := by decide +kernel
theorem dX8_share_60 : decode cX8_share 60 = .ok (.ifCond .ne 7, 3) := by decide +kernel
theorem dX8_share_63 : decode cX8_share 63 = .ok (.ldc2_w 136, 3) := by decide +kernel
theorem dX8_share_66 : decode cX8_share 66 = .ok (.lreturn, 1) := by decide +kernel
theorem dX8_share_67 : decode cX8_share 67 = .ok (.aload_n 0, 1) := by decide +kernel
theorem dX8_share_68 : decode cX8_share 68 = .ok (.iload_n 1, 1) := by decide +kernel
theorem dX8_share_69 : decode cX8_share 69 = .ok (.invokevirtual 163, 3) := by decide +kernel
theorem dX8_share_72 : decode cX8_share 72 = .ok (.ifCond .eq 7, 3) := by decide +kernel
theorem dX8_share_75 : decode cX8_share 75 = .ok (.lconst 0, 1) := by decide +kernel
theorem dX8_share_76 : decode cX8_share 76 = .ok (.goto 9, 3) := by decide +kernel
theorem dX8_share_79 : decode cX8_share 79 = .ok (.aload_n 0, 1) := by decide +kernel
theorem dX8_share_80 : decode cX8_share 80 = .ok (.iload_n 1, 1) := by decide +kernel
theorem dX8_share_81 : decode cX8_share 81 = .ok (.iconst 5, 1) := by decide +kernel
theorem dX8_share_82 : decode cX8_share 82 = .ok (.invokevirtual 170, 3) := by decide +kernel
theorem dX8_share_85 : decode cX8_share 85 = .ok (.lstore 5, 2) := by decide +kernel
theorem dX8_share_87 : decode cX8_share 87 = .ok (.lload 5, 2) := by decide +kernel
theorem dX8_share_89 : decode cX8_share 89 = .ok (.lstore 7, 2) := by decide +kernel
theorem dX8_share_91 : decode cX8_share 91 = .ok (.iconst 0, 1) := by decide +kernel
theorem dX8_share_92 : decode cX8_share 92 = .ok (.istore 9, 2) := by decide +kernel
theorem dX8_share_94 : decode cX8_share 94 = .ok (.iload 9, 2) := by decide +kernel
theorem dX8_share_96 : decode cX8_share 96 = .ok (.bipush 8, 2) := by decide +kernel
theorem dX8_share_98 : decode cX8_share 98 = .ok (.if_icmp .ge 32, 3) := by decide +kernel
theorem dX8_share_101 : decode cX8_share 101 = .ok (.lload 7, 2) := by decide +kernel
theorem dX8_share_103 : decode cX8_share 103 = .ok (.lload 5, 2) := by decide +kernel
theorem dX8_share_105 : decode cX8_share 105 = .ok (.aload_n 0, 1) := by decide +kernel
theorem dX8_share_106 : decode cX8_share 106 = .ok (.getfield 29, 3) := by decide +kernel
theorem dX8_share_109 : decode cX8_share 109 = .ok (.bipush 8, 2) := by decide +kernel
theorem dX8_share_111 : decode cX8_share 111 = .ok (.iload_n 1, 1) := by decide +kernel
theorem dX8_share_112 : decode cX8_share 112 = .ok (.imul, 1) := by decide +kernel
theorem dX8_share_113 : decode cX8_share 113 = .ok (.iload 9, 2) := by decide +kernel
theorem dX8_share_115 : decode cX8_share 115 = .ok (.iadd, 1) := by decide +kernel
theorem dX8_share_116 : decode cX8_share 116 = .ok (.iaload, 1) := by decide +kernel
theorem dX8_share_117 : decode cX8_share 117 = .ok (.i2l, 1) := by decide +kernel
theorem dX8_share_118 : decode cX8_share 118 = .ok (.lmul, 1) := by decide +kernel
theorem dX8_share_119 : decode cX8_share 119 = .ok (.lload_n 3, 1) := by decide +kernel
theorem dX8_share_120 : decode cX8_share 120 = .ok (.ldiv, 1) := by decide +kernel
theorem dX8_share_121 : decode cX8_share 121 = .ok (.lsub, 1) := by decide +kernel
theorem dX8_share_122 : decode cX8_share 122 = .ok (.lstore 7, 2) := by decide +kernel
theorem dX8_share_124 : decode cX8_share 124 = .ok (.iinc 9 1, 3) := by decide +kernel
theorem dX8_share_127 : decode cX8_share 127 = .ok (.goto (-33), 3) := by decide +kernel
theorem dX8_share_130 : decode cX8_share 130 = .ok (.lload 5, 2) := by decide +kernel
theorem dX8_share_132 : decode cX8_share 132 = .ok (.aload_n 0, 1) := by decide +kernel
theorem dX8_share_133 : decode cX8_share 133 = .ok (.getfield 29, 3) := by decide +kernel
theorem dX8_share_136 : decode cX8_share 136 = .ok (.bipush 8, 2) := by decide +kernel
theorem dX8_share_138 : decode cX8_share 138 = .ok (.iload_n 1, 1) := by decide +kernel
theorem dX8_share_139 : decode cX8_share 139 = .ok (.imul, 1) := by decide +kernel
theorem dX8_share_140 : decode cX8_share 140 = .ok (.iload_n 2, 1) := by decide +kernel
theorem dX8_share_141 : decode cX8_share 141 = .ok (.iadd, 1) := by decide +kernel
theorem dX8_share_142 : decode cX8_share 142 = .ok (.iaload, 1) := by decide +kernel
theorem dX8_share_143 : decode cX8_share 143 = .ok (.i2l, 1) := by decide +kernel
theorem dX8_share_144 : decode cX8_share 144 = .ok (.lmul, 1) := by decide +kernel
theorem dX8_share_145 : decode cX8_share 145 = .ok (.lload_n 3, 1) := by decide +kernel
theorem dX8_share_146 : decode cX8_share 146 = .ok (.lrem, 1) := by decide +kernel
theorem dX8_share_147 : decode cX8_share 147 = .ok (.lstore 9, 2) := by decide +kernel
theorem dX8_share_149 : decode cX8_share 149 = .ok (.lconst 0, 1) := by decide +kernel
theorem dX8_share_150 : decode cX8_share 150 = .ok (.lstore 11, 2) := by decide +kernel
theorem dX8_share_152 : decode cX8_share 152 = .ok (.iconst 0, 1) := by decide +kernel
theorem dX8_share_153 : decode cX8_share 153 = .ok (.istore 13, 2) := by decide +kernel
theorem dX8_share_155 : decode cX8_share 155 = .ok (.iload 13, 2) := by decide +kernel
theorem dX8_share_157 : decode cX8_share 157 = .ok (.bipush 8, 2) := by decide +kernel
theorem dX8_share_159 : decode cX8_share 159 = .ok (.if_icmp .ge 61, 3) := by decide +kernel
theorem dX8_share_162 : decode cX8_share 162 = .ok (.lload 5, 2) := by decide +kernel
theorem dX8_share_164 : decode cX8_share 164 = .ok (.aload_n 0, 1) := by decide +kernel
theorem dX8_share_165 : decode cX8_share 165 = .ok (.getfield 29, 3) := by decide +kernel
theorem dX8_share_168 : decode cX8_share 168 = .ok (.bipush 8, 2) := by decide +kernel
theorem dX8_share_170 : decode cX8_share 170 = .ok (.iload_n 1, 1) := by decide +kernel
theorem dX8_share_171 : decode cX8_share 171 = .ok (.imul, 1) := by decide +kernel
theorem dX8_share_172 : decode cX8_share 172 = .ok (.iload 13, 2) := by decide +kernel
theorem dX8_share_174 : decode cX8_share 174 = .ok (.iadd, 1) := by decide +kernel
theorem dX8_share_175 : decode cX8_share 175 = .ok (.iaload, 1) := by decide +kernel
theorem dX8_share_176 : decode cX8_share 176 = .ok (.i2l, 1) := by decide +kernel
theorem dX8_share_177 : decode cX8_share 177 = .ok (.lmul, 1) := by decide +kernel
theorem dX8_share_178 : decode cX8_share 178 = .ok (.lload_n 3, 1) := by decide +kernel
theorem dX8_share_179 : decode cX8_share 179 = .ok (.lrem, 1) := by decide +kernel
theorem dX8_share_180 : decode cX8_share 180 = .ok (.lstore 14, 2) := by decide +kernel
theorem dX8_share_182 : decode cX8_share 182 = .ok (.lload 11, 2) := by decide +kernel
theorem dX8_share_184 : decode cX8_share 184 = .ok (.lload 14, 2) := by decide +kernel
theorem dX8_share_186 : decode cX8_share 186 = .ok (.lload 9, 2) := by decide +kernel
theorem dX8_share_188 : decode cX8_share 188 = .ok (.lcmp, 1) := by decide +kernel
theorem dX8_share_189 : decode cX8_share 189 = .ok (.ifCond .gt 17, 3) := by decide +kernel
theorem dX8_share_192 : decode cX8_share 192 = .ok (.lload 14, 2) := by decide +kernel
theorem dX8_share_194 : decode cX8_share 194 = .ok (.lload 9, 2) := by decide +kernel
theorem dX8_share_196 : decode cX8_share 196 = .ok (.lcmp, 1) := by decide +kernel
theorem dX8_share_197 : decode cX8_share 197 = .ok (.ifCond .ne 13, 3) := by decide +kernel
theorem dX8_share_200 : decode cX8_share 200 = .ok (.iload 13, 2) := by decide +kernel
theorem dX8_share_202 : decode cX8_share 202 = .ok (.iload_n 2, 1) := by decide +kernel
theorem dX8_share_203 : decode cX8_share 203 = .ok (.if_icmp .ge 7, 3) := by decide +kernel
theorem dX8_share_206 : decode cX8_share 206 = .ok (.lconst 1, 1) := by decide +kernel
theorem dX8_share_207 : decode cX8_share 207 = .ok (.goto 4, 3) := by decide +kernel
theorem dX8_share_210 : decode cX8_share 210 = .ok (.lconst 0, 1) := by decide +kernel
theorem dX8_share_211 : decode cX8_share 211 = .ok (.ladd, 1) := by decide +kernel
theorem dX8_share_212 : decode cX8_share 212 = .ok (.lstore 11, 2) := by decide +kernel
theorem dX8_share_214 : decode cX8_share 214 = .ok (.iinc 13 1, 3) := by decide +kernel
theorem dX8_share_217 : decode cX8_share 217 = .ok (.goto (-62), 3) := by decide +kernel
theorem dX8_share_220 : decode cX8_share 220 = .ok (.lload 5, 2) := by decide +kernel
theorem dX8_share_222 : decode cX8_share 222 = .ok (.aload_n 0, 1) := by decide +kernel
theorem dX8_share_223 : decode cX8_share 223 = .ok (.getfield 29, 3) := by decide +kernel
theorem dX8_share_226 : decode cX8_share 226 = .ok (.bipush 8, 2) := by decide +kernel
theorem dX8_share_228 : decode cX8_share 228 = .ok (.iload_n 1, 1) := by decide +kernel
theorem dX8_share_229 : decode cX8_share 229 = .ok (.imul, 1) := by decide +kernel
theorem dX8_share_230 : decode cX8_share 230 = .ok (.iload_n 2, 1) := by decide +kernel
theorem dX8_share_231 : decode cX8_share 231 = .ok (.iadd, 1) := by decide +kernel
theorem dX8_share_232 : decode cX8_share 232 = .ok (.iaload, 1) := by decide +kernel
theorem dX8_share_233 : decode cX8_share 233 = .ok (.i2l, 1) := by decide +kernel
theorem dX8_share_234 : decode cX8_share 234 = .ok (.lmul, 1) := by decide +kernel
theorem dX8_share_235 : decode cX8_share 235 = .ok (.lload_n 3, 1) := by decide +kernel
theorem dX8_share_236 : decode cX8_share 236 = .ok (.ldiv, 1) := by decide +kernel
theorem dX8_share_237 : decode cX8_share 237 = .ok (.lload 11, 2) := by decide +kernel
theorem dX8_share_239 : decode cX8_share 239 = .ok (.lload 7, 2) := by decide +kernel
theorem dX8_share_241 : decode cX8_share 241 = .ok (.lcmp, 1) := by decide +kernel
theorem dX8_share_242 : decode cX8_share 242 = .ok (.ifCond .ge 7, 3) := by decide +kernel
theorem dX8_share_245 : decode cX8_share 245 = .ok (.lconst 1, 1) := by decide +kernel
theorem dX8_share_246 : decode cX8_share 246 = .ok (.goto 4, 3) := by decide +kernel
theorem dX8_share_249 : decode cX8_share 249 = .ok (.lconst 0, 1) := by decide +kernel
theorem dX8_share_250 : decode cX8_share 250 = .ok (.ladd, 1) := by decide +kernel
theorem dX8_share_251 : decode cX8_share 251 = .ok (.lreturn, 1) := by decide +kernel
theorem dX8_put_0 : decode cX8_put 0 = .ok (.aload_n 0, 1) := by decide +kernel
theorem dX8_put_1 : decode cX8_put 1 = .ok (.getfield 60, 3) := by decide +kernel
theorem dX8_put_4 : decode cX8_put 4 = .ok (.aload_n 0, 1) := by decide +kernel
theorem dX8_put_5 : decode cX8_put 5 = .ok (.getfield 173, 3) := by decide +kernel
theorem dX8_put_8 : decode cX8_put 8 = .ok (.iload_n 1, 1) := by decide +kernel
theorem dX8_put_9 : decode cX8_put 9 = .ok (.i2b, 1) := by decide +kernel
theorem dX8_put_10 : decode cX8_put 10 = .ok (.bastore, 1) := by decide +kernel
theorem dX8_put_11 : decode cX8_put 11 = .ok (.aload_n 0, 1) := by decide +kernel
theorem dX8_put_12 : decode cX8_put 12 = .ok (.dup, 1) := by decide +kernel
theorem dX8_put_13 : decode cX8_put 13 = .ok (.getfield 173, 3) := by decide +kernel
theorem dX8_put_16 : decode cX8_put 16 = .ok (.iconst 1, 1) := by decide +kernel
theorem dX8_put_17 : decode cX8_put 17 = .ok (.iadd, 1) := by decide +kernel
theorem dX8_put_18 : decode cX8_put 18 = .ok (.putfield 173, 3) := by decide +kernel
theorem dX8_put_21 : decode cX8_put 21 = .ok (.return_, 1) := by decide +kernel
theorem dX8_putNumber_0 : decode cX8_putNumber 0 = .ok (.lconst 1, 1) := by decide +kernel
theorem dX8_putNumber_1 : decode cX8_putNumber 1 = .ok (.lstore_n 3, 1) := by decide +kernel
theorem dX8_putNumber_2 : decode cX8_putNumber 2 = .ok (.lload_n 1, 1) := by decide +kernel
theorem dX8_putNumber_3 : decode cX8_putNumber 3 = .ok (.lload_n 3, 1) := by decide +kernel
theorem dX8_putNumber_4 : decode cX8_putNumber 4 = .ok (.ldiv, 1) := by decide +kernel
theorem dX8_putNumber_5 : decode cX8_putNumber 5 = .ok (.ldc2_w 123, 3) := by decide +kernel
theorem dX8_putNumber_8 : decode cX8_putNumber 8 = .ok (.lcmp, 1) := by decide +kernel
theorem dX8_putNumber_9 : decode cX8_putNumber 9 = .ok (.ifCond .le 12, 3) := by decide +kernel
theorem dX8_putNumber_12 : decode cX8_putNumber 12 = .ok (.lload_n 3, 1) := by decide +kernel
theorem dX8_putNumber_13 : decode cX8_putNumber 13 = .ok (.ldc2_w 176, 3) := by decide +kernel
theorem dX8_putNumber_16 : decode cX8_putNumber 16 = .ok (.lmul, 1) := by decide +kernel
theorem dX8_putNumber_17 : decode cX8_putNumber 17 = .ok (.lstore_n 3, 1) := by decide +kernel
theorem dX8_putNumber_18 : decode cX8_putNumber 18 = .ok (.goto (-16), 3) := by decide +kernel
theorem dX8_putNumber_21 : decode cX8_putNumber 21 = .ok (.lload_n 3, 1) := by decide +kernel
theorem dX8_putNumber_22 : decode cX8_putNumber 22 = .ok (.lconst 0, 1) := by decide +kernel
theorem dX8_putNumber_23 : decode cX8_putNumber 23 = .ok (.lcmp, 1) := by decide +kernel
theorem dX8_putNumber_24 : decode cX8_putNumber 24 = .ok (.ifCond .le 28, 3) := by decide +kernel
theorem dX8_putNumber_27 : decode cX8_putNumber 27 = .ok (.aload_n 0, 1) := by decide +kernel
theorem dX8_putNumber_28 : decode cX8_putNumber 28 = .ok (.ldc2_w 178, 3) := by decide +kernel
theorem dX8_putNumber_31 : decode cX8_putNumber 31 = .ok (.lload_n 1, 1) := by decide +kernel
theorem dX8_putNumber_32 : decode cX8_putNumber 32 = .ok (.lload_n 3, 1) := by decide +kernel
theorem dX8_putNumber_33 : decode cX8_putNumber 33 = .ok (.ldiv, 1) := by decide +kernel
theorem dX8_putNumber_34 : decode cX8_putNumber 34 = .ok (.ldc2_w 176, 3) := by decide +kernel
theorem dX8_putNumber_37 : decode cX8_putNumber 37 = .ok (.lrem, 1) := by decide +kernel
theorem dX8_putNumber_38 : decode cX8_putNumber 38 = .ok (.ladd, 1) := by decide +kernel
theorem dX8_putNumber_39 : decode cX8_putNumber 39 = .ok (.l2i, 1) := by decide +kernel
theorem dX8_putNumber_40 : decode cX8_putNumber 40 = .ok (.invokevirtual 180, 3) := by decide +kernel
theorem dX8_putNumber_43 : decode cX8_putNumber 43 = .ok (.lload_n 3, 1) := by decide +kernel
theorem dX8_putNumber_44 : decode cX8_putNumber 44 = .ok (.ldc2_w 176, 3) := by decide +kernel
theorem dX8_putNumber_47 : decode cX8_putNumber 47 = .ok (.ldiv, 1) := by decide +kernel
theorem dX8_putNumber_48 : decode cX8_putNumber 48 = .ok (.lstore_n 3, 1) := by decide +kernel
theorem dX8_putNumber_49 : decode cX8_putNumber 49 = .ok (.goto (-28), 3) := by decide +kernel
theorem dX8_putNumber_52 : decode cX8_putNumber 52 = .ok (.return_, 1) := by decide +kernel
theorem dX8_print_0 : decode cX8_print 0 = .ok (.aload_n 0, 1) := by decide +kernel
theorem dX8_print_1 : decode cX8_print 1 = .ok (.iload_n 1, 1) := by decide +kernel
theorem dX8_print_2 : decode cX8_print 2 = .ok (.invokevirtual 159, 3) := by decide +kernel
theorem dX8_print_5 : decode cX8_print 5 = .ok (.ifCond .ne 5, 3) := by decide +kernel
theorem dX8_print_8 : decode cX8_print 8 = .ok (.iconst (-1), 1) := by decide +kernel
theorem dX8_print_9 : decode cX8_print 9 = .ok (.ireturn, 1) := by decide +kernel
theorem dX8_print_10 : decode cX8_print 10 = .ok (.aload_n 0, 1) := by decide +kernel
theorem dX8_print_11 : decode cX8_print 11 = .ok (.iconst 0, 1) := by decide +kernel
theorem dX8_print_12 : decode cX8_print 12 = .ok (.putfield 173, 3) := by decide +kernel
theorem dX8_print_15 : decode cX8_print 15 = .ok (.iconst 0, 1) := by decide +kernel
theorem dX8_print_16 : decode cX8_print 16 = .ok (.istore_n 3, 1) := by decide +kernel
theorem dX8_print_17 : decode cX8_print 17 = .ok (.iload_n 3, 1) := by decide +kernel
theorem dX8_print_18 : decode cX8_print 18 = .ok (.bipush 8, 2) := by decide +kernel
theorem dX8_print_20 : decode cX8_print 20 = .ok (.if_icmp .ge 29, 3) := by decide +kernel
theorem dX8_print_23 : decode cX8_print 23 = .ok (.iload_n 3, 1) := by decide +kernel
theorem dX8_print_24 : decode cX8_print 24 = .ok (.ifCond .le 9, 3) := by decide +kernel
theorem dX8_print_27 : decode cX8_print 27 = .ok (.aload_n 0, 1) := by decide +kernel
theorem dX8_print_28 : decode cX8_print 28 = .ok (.bipush 32, 2) := by decide +kernel
theorem dX8_print_30 : decode cX8_print 30 = .ok (.invokevirtual 180, 3) := by decide +kernel
theorem dX8_print_33 : decode cX8_print 33 = .ok (.aload_n 0, 1) := by decide +kernel
theorem dX8_print_34 : decode cX8_print 34 = .ok (.aload_n 0, 1) := by decide +kernel
theorem dX8_print_35 : decode cX8_print 35 = .ok (.iload_n 1, 1) := by decide +kernel
theorem dX8_print_36 : decode cX8_print 36 = .ok (.iload_n 3, 1) := by decide +kernel
theorem dX8_print_37 : decode cX8_print 37 = .ok (.invokevirtual 170, 3) := by decide +kernel
theorem dX8_print_40 : decode cX8_print 40 = .ok (.invokevirtual 183, 3) := by decide +kernel
theorem dX8_print_43 : decode cX8_print 43 = .ok (.iinc 3 1, 3) := by decide +kernel
theorem dX8_print_46 : decode cX8_print 46 = .ok (.goto (-29), 3) := by decide +kernel
theorem dX8_print_49 : decode cX8_print 49 = .ok (.aload_n 0, 1) := by decide +kernel
theorem dX8_print_50 : decode cX8_print 50 = .ok (.iload_n 1, 1) := by decide +kernel
theorem dX8_print_51 : decode cX8_print 51 = .ok (.invokevirtual 163, 3) := by decide +kernel
theorem dX8_print_54 : decode cX8_print 54 = .ok (.ifCond .eq 50, 3) := by decide +kernel
theorem dX8_print_57 : decode cX8_print 57 = .ok (.aload_n 0, 1) := by decide +kernel
theorem dX8_print_58 : decode cX8_print 58 = .ok (.bipush 32, 2) := by decide +kernel
theorem dX8_print_60 : decode cX8_print 60 = .ok (.invokevirtual 180, 3) := by decide +kernel
theorem dX8_print_63 : decode cX8_print 63 = .ok (.aload_n 0, 1) := by decide +kernel
theorem dX8_print_64 : decode cX8_print 64 = .ok (.bipush 86, 2) := by decide +kernel
theorem dX8_print_66 : decode cX8_print 66 = .ok (.invokevirtual 180, 3) := by decide +kernel
theorem dX8_print_69 : decode cX8_print 69 = .ok (.aload_n 0, 1) := by decide +kernel
theorem dX8_print_70 : decode cX8_print 70 = .ok (.bipush 79, 2) := by decide +kernel
theorem dX8_print_72 : decode cX8_print 72 = .ok (.invokevirtual 180, 3) := by decide +kernel
theorem dX8_print_75 : decode cX8_print 75 = .ok (.aload_n 0, 1) := by decide +kernel
theorem dX8_print_76 : decode cX8_print 76 = .ok (.bipush 73, 2) := by decide +kernel
theorem dX8_print_78 : decode cX8_print 78 = .ok (.invokevirtual 180, 3) := by decide +kernel
theorem dX8_print_81 : decode cX8_print 81 = .ok (.aload_n 0, 1) := by decide +kernel
theorem dX8_print_82 : decode cX8_print 82 = .ok (.bipush 68, 2) := by decide +kernel
theorem dX8_print_84 : decode cX8_print 84 = .ok (.invokevirtual 180, 3) := by decide +kernel
theorem dX8_print_87 : decode cX8_print 87 = .ok (.aload_n 0, 1) := by decide +kernel
theorem dX8_print_88 : decode cX8_print 88 = .ok (.bipush 32, 2) := by decide +kernel
theorem dX8_print_90 : decode cX8_print 90 = .ok (.invokevirtual 180, 3) := by decide +kernel
theorem dX8_print_93 : decode cX8_print 93 = .ok (.aload_n 0, 1) := by decide +kernel
theorem dX8_print_94 : decode cX8_print 94 = .ok (.aload_n 0, 1) := by decide +kernel
theorem dX8_print_95 : decode cX8_print 95 = .ok (.iload_n 1, 1) := by decide +kernel
theorem dX8_print_96 : decode cX8_print 96 = .ok (.bipush 8, 2) := by decide +kernel
theorem dX8_print_98 : decode cX8_print 98 = .ok (.invokevirtual 170, 3) := by decide +kernel
theorem dX8_print_101 : decode cX8_print 101 = .ok (.invokevirtual 183, 3) := by decide +kernel
theorem dX8_print_104 : decode cX8_print 104 = .ok (.iload_n 2, 1) := by decide +kernel
theorem dX8_print_105 : decode cX8_print 105 = .ok (.ifCond .lt 20, 3) := by decide +kernel
theorem dX8_print_108 : decode cX8_print 108 = .ok (.iload_n 2, 1) := by decide +kernel
theorem dX8_print_109 : decode cX8_print 109 = .ok (.aload_n 0, 1) := by decide +kernel
theorem dX8_print_110 : decode cX8_print 110 = .ok (.getfield 173, 3) := by decide +kernel
theorem dX8_print_113 : decode cX8_print 113 = .ok (.if_icmp .ge 12, 3) := by decide +kernel
theorem dX8_print_116 : decode cX8_print 116 = .ok (.aload_n 0, 1) := by decide +kernel
theorem dX8_print_117 : decode cX8_print 117 = .ok (.getfield 60, 3) := by decide +kernel
theorem dX8_print_120 : decode cX8_print 120 = .ok (.iload_n 2, 1) := by decide +kernel
theorem dX8_print_121 : decode cX8_print 121 = .ok (.baload, 1) := by decide +kernel
theorem dX8_print_122 : decode cX8_print 122 = .ok (.goto 4, 3) := by decide +kernel
theorem dX8_print_125 : decode cX8_print 125 = .ok (.iconst (-1), 1) := by decide +kernel
theorem dX8_print_126 : decode cX8_print 126 = .ok (.ireturn, 1) := by decide +kernel
theorem dX8_isRow_0 : decode cX8_isRow 0 = .ok (.aload_n 0, 1) := by decide +kernel
theorem dX8_isRow_1 : decode cX8_isRow 1 = .ok (.iconst 0, 1) := by decide +kernel
theorem dX8_isRow_2 : decode cX8_isRow 2 = .ok (.putfield 67, 3) := by decide +kernel
theorem dX8_isRow_5 : decode cX8_isRow 5 = .ok (.iload_n 1, 1) := by decide +kernel
theorem dX8_isRow_6 : decode cX8_isRow 6 = .ok (.ifCond .lt 15, 3) := by decide +kernel
theorem dX8_isRow_9 : decode cX8_isRow 9 = .ok (.iload_n 1, 1) := by decide +kernel
theorem dX8_isRow_10 : decode cX8_isRow 10 = .ok (.aload_n 0, 1) := by decide +kernel
theorem dX8_isRow_11 : decode cX8_isRow 11 = .ok (.getfield 98, 3) := by decide +kernel
theorem dX8_isRow_14 : decode cX8_isRow 14 = .ok (.if_icmp .ge 7, 3) := by decide +kernel
theorem dX8_isRow_17 : decode cX8_isRow 17 = .ok (.iconst 1, 1) := by decide +kernel
theorem dX8_isRow_18 : decode cX8_isRow 18 = .ok (.goto 4, 3) := by decide +kernel
theorem dX8_isRow_21 : decode cX8_isRow 21 = .ok (.iconst 0, 1) := by decide +kernel
theorem dX8_isRow_22 : decode cX8_isRow 22 = .ok (.ireturn, 1) := by decide +kernel
theorem dX8_poke_0 : decode cX8_poke 0 = .ok (.aload_n 0, 1) := by decide +kernel
theorem dX8_poke_1 : decode cX8_poke 1 = .ok (.iload_n 1, 1) := by decide +kernel
theorem dX8_poke_2 : decode cX8_poke 2 = .ok (.invokevirtual 187, 3) := by decide +kernel
theorem dX8_poke_5 : decode cX8_poke 5 = .ok (.ifCond .eq 26, 3) := by decide +kernel
theorem dX8_poke_8 : decode cX8_poke 8 = .ok (.iload_n 2, 1) := by decide +kernel
theorem dX8_poke_9 : decode cX8_poke 9 = .ok (.i2l, 1) := by decide +kernel
theorem dX8_poke_10 : decode cX8_poke 10 = .ok (.ldc2_w 190, 3) := by decide +kernel
theorem dX8_poke_13 : decode cX8_poke 13 = .ok (.invokestatic 119, 3) := by decide +kernel
theorem dX8_poke_16 : decode cX8_poke 16 = .ok (.ifCond .eq 15, 3) := by decide +kernel
theorem dX8_poke_19 : decode cX8_poke 19 = .ok (.iload_n 3, 1) := by decide +kernel
theorem dX8_poke_20 : decode cX8_poke 20 = .ok (.iconst 1, 1) := by decide +kernel
theorem dX8_poke_21 : decode cX8_poke 21 = .ok (.if_icmp .lt 10, 3) := by decide +kernel
theorem dX8_poke_24 : decode cX8_poke 24 = .ok (.iload_n 3, 1) := by decide +kernel
theorem dX8_poke_25 : decode cX8_poke 25 = .ok (.sipush 255, 3) := by decide +kernel
theorem dX8_poke_28 : decode cX8_poke 28 = .ok (.if_icmp .le 5, 3) := by decide +kernel
theorem dX8_poke_31 : decode cX8_poke 31 = .ok (.iconst 0, 1) := by decide +kernel
theorem dX8_poke_32 : decode cX8_poke 32 = .ok (.ireturn, 1) := by decide +kernel
theorem dX8_poke_33 : decode cX8_poke 33 = .ok (.aload_n 0, 1) := by decide +kernel
theorem dX8_poke_34 : decode cX8_poke 34 = .ok (.getfield 35, 3) := by decide +kernel
theorem dX8_poke_37 : decode cX8_poke 37 = .ok (.bipush 73, 2) := by decide +kernel
theorem dX8_poke_39 : decode cX8_poke 39 = .ok (.iload_n 1, 1) := by decide +kernel
theorem dX8_poke_40 : decode cX8_poke 40 = .ok (.imul, 1) := by decide +kernel
theorem dX8_poke_41 : decode cX8_poke 41 = .ok (.iload_n 2, 1) := by decide +kernel
theorem dX8_poke_42 : decode cX8_poke 42 = .ok (.iadd, 1) := by decide +kernel
theorem dX8_poke_43 : decode cX8_poke 43 = .ok (.aload_n 0, 1) := by decide +kernel
theorem dX8_poke_44 : decode cX8_poke 44 = .ok (.getfield 35, 3) := by decide +kernel
theorem dX8_poke_47 : decode cX8_poke 47 = .ok (.bipush 73, 2) := by decide +kernel
theorem dX8_poke_49 : decode cX8_poke 49 = .ok (.iload_n 1, 1) := by decide +kernel
theorem dX8_poke_50 : decode cX8_poke 50 = .ok (.imul, 1) := by decide +kernel
theorem dX8_poke_51 : decode cX8_poke 51 = .ok (.iload_n 2, 1) := by decide +kernel
theorem dX8_poke_52 : decode cX8_poke 52 = .ok (.iadd, 1) := by decide +kernel
theorem dX8_poke_53 : decode cX8_poke 53 = .ok (.baload, 1) := by decide +kernel
theorem dX8_poke_54 : decode cX8_poke 54 = .ok (.iload_n 3, 1) := by decide +kernel
theorem dX8_poke_55 : decode cX8_poke 55 = .ok (.ixor, 1) := by decide +kernel
theorem dX8_poke_56 : decode cX8_poke 56 = .ok (.i2b, 1) := by decide +kernel
theorem dX8_poke_57 : decode cX8_poke 57 = .ok (.bastore, 1) := by decide +kernel
theorem dX8_poke_58 : decode cX8_poke 58 = .ok (.iconst 1, 1) := by decide +kernel
theorem dX8_poke_59 : decode cX8_poke 59 = .ok (.ireturn, 1) := by decide +kernel
theorem dX8_byteAt_0 : decode cX8_byteAt 0 = .ok (.aload_n 0, 1) := by decide +kernel
theorem dX8_byteAt_1 : decode cX8_byteAt 1 = .ok (.aload_n 0, 1) := by decide +kernel
theorem dX8_byteAt_2 : decode cX8_byteAt 2 = .ok (.iload_n 1, 1) := by decide +kernel
theorem dX8_byteAt_3 : decode cX8_byteAt 3 = .ok (.invokevirtual 187, 3) := by decide +kernel
theorem dX8_byteAt_6 : decode cX8_byteAt 6 = .ok (.ifCond .eq 14, 3) := by decide +kernel
theorem dX8_byteAt_9 : decode cX8_byteAt 9 = .ok (.iload_n 2, 1) := by decide +kernel
theorem dX8_byteAt_10 : decode cX8_byteAt 10 = .ok (.i2l, 1) := by decide +kernel
theorem dX8_byteAt_11 : decode cX8_byteAt 11 = .ok (.ldc2_w 190, 3) := by decide +kernel
theorem dX8_byteAt_14 : decode cX8_byteAt 14 = .ok (.invokestatic 119, 3) := by decide +kernel
theorem dX8_byteAt_17 : decode cX8_byteAt 17 = .ok (.ifCond .ne 7, 3) := by decide +kernel
theorem dX8_byteAt_20 : decode cX8_byteAt 20 = .ok (.iconst 1, 1) := by decide +kernel
theorem dX8_byteAt_21 : decode cX8_byteAt 21 = .ok (.goto 4, 3) := by decide +kernel
theorem dX8_byteAt_24 : decode cX8_byteAt 24 = .ok (.iconst 0, 1) := by decide +kernel
theorem dX8_byteAt_25 : decode cX8_byteAt 25 = .ok (.putfield 67, 3) := by decide +kernel
theorem dX8_byteAt_28 : decode cX8_byteAt 28 = .ok (.aload_n 0, 1) := by decide +kernel
theorem dX8_byteAt_29 : decode cX8_byteAt 29 = .ok (.getfield 67, 3) := by decide +kernel
theorem dX8_byteAt_32 : decode cX8_byteAt 32 = .ok (.ifCond .le 7, 3) := by decide +kernel
theorem dX8_byteAt_35 : decode cX8_byteAt 35 = .ok (.iconst 0, 1) := by decide +kernel
theorem dX8_byteAt_36 : decode cX8_byteAt 36 = .ok (.goto 18, 3) := by decide +kernel
theorem dX8_byteAt_39 : decode cX8_byteAt 39 = .ok (.aload_n 0, 1) := by decide +kernel
theorem dX8_byteAt_40 : decode cX8_byteAt 40 = .ok (.getfield 35, 3) := by decide +kernel
theorem dX8_byteAt_43 : decode cX8_byteAt 43 = .ok (.bipush 73, 2) := by decide +kernel
theorem dX8_byteAt_45 : decode cX8_byteAt 45 = .ok (.iload_n 1, 1) := by decide +kernel
theorem dX8_byteAt_46 : decode cX8_byteAt 46 = .ok (.imul, 1) := by decide +kernel
theorem dX8_byteAt_47 : decode cX8_byteAt 47 = .ok (.iload_n 2, 1) := by decide +kernel
theorem dX8_byteAt_48 : decode cX8_byteAt 48 = .ok (.iadd, 1) := by decide +kernel
theorem dX8_byteAt_49 : decode cX8_byteAt 49 = .ok (.baload, 1) := by decide +kernel
theorem dX8_byteAt_50 : decode cX8_byteAt 50 = .ok (.sipush 255, 3) := by decide +kernel
theorem dX8_byteAt_53 : decode cX8_byteAt 53 = .ok (.iand, 1) := by decide +kernel
theorem dX8_byteAt_54 : decode cX8_byteAt 54 = .ok (.ireturn, 1) := by decide +kernel
theorem dX8_digest_0 : decode cX8_digest 0 = .ok (.aload_n 0, 1) := by decide +kernel
theorem dX8_digest_1 : decode cX8_digest 1 = .ok (.iload_n 1, 1) := by decide +kernel
theorem dX8_digest_2 : decode cX8_digest 2 = .ok (.invokevirtual 187, 3) := by decide +kernel
theorem dX8_digest_5 : decode cX8_digest 5 = .ok (.ifCond .eq 35, 3) := by decide +kernel
theorem dX8_digest_8 : decode cX8_digest 8 = .ok (.iload_n 2, 1) := by decide +kernel
theorem dX8_digest_9 : decode cX8_digest 9 = .ok (.i2l, 1) := by decide +kernel
theorem dX8_digest_10 : decode cX8_digest 10 = .ok (.ldc2_w 192, 3) := by decide +kernel
theorem dX8_digest_13 : decode cX8_digest 13 = .ok (.invokestatic 119, 3) := by decide +kernel
theorem dX8_digest_16 : decode cX8_digest 16 = .ok (.ifCond .eq 24, 3) := by decide +kernel
theorem dX8_digest_19 : decode cX8_digest 19 = .ok (.aload_n 0, 1) := by decide +kernel
theorem dX8_digest_20 : decode cX8_digest 20 = .ok (.getfield 35, 3) := by decide +kernel
theorem dX8_digest_23 : decode cX8_digest 23 = .ok (.bipush 73, 2) := by decide +kernel
theorem dX8_digest_25 : decode cX8_digest 25 = .ok (.iload_n 1, 1) := by decide +kernel
theorem dX8_digest_26 : decode cX8_digest 26 = .ok (.imul, 1) := by decide +kernel
theorem dX8_digest_27 : decode cX8_digest 27 = .ok (.bipush 41, 2) := by decide +kernel
theorem dX8_digest_29 : decode cX8_digest 29 = .ok (.iadd, 1) := by decide +kernel
theorem dX8_digest_30 : decode cX8_digest 30 = .ok (.iload_n 2, 1) := by decide +kernel
theorem dX8_digest_31 : decode cX8_digest 31 = .ok (.iadd, 1) := by decide +kernel
theorem dX8_digest_32 : decode cX8_digest 32 = .ok (.baload, 1) := by decide +kernel
theorem dX8_digest_33 : decode cX8_digest 33 = .ok (.sipush 255, 3) := by decide +kernel
theorem dX8_digest_36 : decode cX8_digest 36 = .ok (.iand, 1) := by decide +kernel
theorem dX8_digest_37 : decode cX8_digest 37 = .ok (.goto 4, 3) := by decide +kernel
theorem dX8_digest_40 : decode cX8_digest 40 = .ok (.iconst (-1), 1) := by decide +kernel
theorem dX8_digest_41 : decode cX8_digest 41 = .ok (.ireturn, 1) := by decide +kernel
theorem dX8_check_0 : decode cX8_check 0 = .ok (.aload_n 0, 1) := by decide +kernel
theorem dX8_check_1 : decode cX8_check 1 = .ok (.iconst 0, 1) := by decide +kernel
theorem dX8_check_2 : decode cX8_check 2 = .ok (.putfield 67, 3) := by decide +kernel
theorem dX8_check_5 : decode cX8_check 5 = .ok (.iload_n 1, 1) := by decide +kernel
theorem dX8_check_6 : decode cX8_check 6 = .ok (.ifCond .lt 11, 3) := by decide +kernel
theorem dX8_check_9 : decode cX8_check 9 = .ok (.iload_n 1, 1) := by decide +kernel
theorem dX8_check_10 : decode cX8_check 10 = .ok (.aload_n 0, 1) := by decide +kernel
theorem dX8_check_11 : decode cX8_check 11 = .ok (.getfield 98, 3) := by decide +kernel
theorem dX8_check_14 : decode cX8_check 14 = .ok (.if_icmp .le 5, 3) := by decide +kernel
theorem dX8_check_17 : decode cX8_check 17 = .ok (.iconst (-1), 1) := by decide +kernel
theorem dX8_check_18 : decode cX8_check 18 = .ok (.ireturn, 1) := by decide +kernel
theorem dX8_check_19 : decode cX8_check 19 = .ok (.iload_n 1, 1) := by decide +kernel
theorem dX8_check_20 : decode cX8_check 20 = .ok (.istore_n 2, 1) := by decide +kernel
theorem dX8_check_21 : decode cX8_check 21 = .ok (.iload_n 2, 1) := by decide +kernel
theorem dX8_check_22 : decode cX8_check 22 = .ok (.aload_n 0, 1) := by decide +kernel
theorem dX8_check_23 : decode cX8_check 23 = .ok (.getfield 98, 3) := by decide +kernel
theorem dX8_check_26 : decode cX8_check 26 = .ok (.if_icmp .ge 55, 3) := by decide +kernel
theorem dX8_check_29 : decode cX8_check 29 = .ok (.aload_n 0, 1) := by decide +kernel
theorem dX8_check_30 : decode cX8_check 30 = .ok (.iload_n 2, 1) := by decide +kernel
theorem dX8_check_31 : decode cX8_check 31 = .ok (.invokevirtual 101, 3) := by decide +kernel
theorem dX8_check_34 : decode cX8_check 34 = .ok (.iconst 0, 1) := by decide +kernel
theorem dX8_check_35 : decode cX8_check 35 = .ok (.istore_n 3, 1) := by decide +kernel
theorem dX8_check_36 : decode cX8_check 36 = .ok (.iload_n 3, 1) := by decide +kernel
theorem dX8_check_37 : decode cX8_check 37 = .ok (.bipush 32, 2) := by decide +kernel
theorem dX8_check_39 : decode cX8_check 39 = .ok (.if_icmp .ge 36, 3) := by decide +kernel
theorem dX8_check_42 : decode cX8_check 42 = .ok (.aload_n 0, 1) := by decide +kernel
theorem dX8_check_43 : decode cX8_check 43 = .ok (.getfield 35, 3) := by decide +kernel
theorem dX8_check_46 : decode cX8_check 46 = .ok (.bipush 73, 2) := by decide +kernel
theorem dX8_check_48 : decode cX8_check 48 = .ok (.iload_n 2, 1) := by decide +kernel
theorem dX8_check_49 : decode cX8_check 49 = .ok (.imul, 1) := by decide +kernel
theorem dX8_check_50 : decode cX8_check 50 = .ok (.bipush 41, 2) := by decide +kernel
theorem dX8_check_52 : decode cX8_check 52 = .ok (.iadd, 1) := by decide +kernel
theorem dX8_check_53 : decode cX8_check 53 = .ok (.iload_n 3, 1) := by decide +kernel
theorem dX8_check_54 : decode cX8_check 54 = .ok (.iadd, 1) := by decide +kernel
theorem dX8_check_55 : decode cX8_check 55 = .ok (.baload, 1) := by decide +kernel
theorem dX8_check_56 : decode cX8_check 56 = .ok (.aload_n 0, 1) := by decide +kernel
theorem dX8_check_57 : decode cX8_check 57 = .ok (.getfield 45, 3) := by decide +kernel
theorem dX8_check_60 : decode cX8_check 60 = .ok (.iload_n 3, 1) := by decide +kernel
theorem dX8_check_61 : decode cX8_check 61 = .ok (.baload, 1) := by decide +kernel
theorem dX8_check_62 : decode cX8_check 62 = .ok (.if_icmp .eq 7, 3) := by decide +kernel
theorem dX8_check_65 : decode cX8_check 65 = .ok (.iconst 1, 1) := by decide +kernel
theorem dX8_check_66 : decode cX8_check 66 = .ok (.iload_n 2, 1) := by decide +kernel
theorem dX8_check_67 : decode cX8_check 67 = .ok (.iadd, 1) := by decide +kernel
theorem dX8_check_68 : decode cX8_check 68 = .ok (.ireturn, 1) := by decide +kernel
theorem dX8_check_69 : decode cX8_check 69 = .ok (.iinc 3 1, 3) := by decide +kernel
theorem dX8_check_72 : decode cX8_check 72 = .ok (.goto (-36), 3) := by decide +kernel
theorem dX8_check_75 : decode cX8_check 75 = .ok (.iinc 2 1, 3) := by decide +kernel
theorem dX8_check_78 : decode cX8_check 78 = .ok (.goto (-57), 3) := by decide +kernel
theorem dX8_check_81 : decode cX8_check 81 = .ok (.iconst 0, 1) := by decide +kernel
theorem dX8_check_82 : decode cX8_check 82 = .ok (.ireturn, 1) := by decide +kernel
theorem dX8_root_0 : decode cX8_root 0 = .ok (.aload_n 0, 1) := by decide +kernel
theorem dX8_root_1 : decode cX8_root 1 = .ok (.iconst 0, 1) := by decide +kernel
theorem dX8_root_2 : decode cX8_root 2 = .ok (.putfield 67, 3) := by decide +kernel
theorem dX8_root_5 : decode cX8_root 5 = .ok (.iconst 0, 1) := by decide +kernel
theorem dX8_root_6 : decode cX8_root 6 = .ok (.istore_n 3, 1) := by decide +kernel
theorem dX8_root_7 : decode cX8_root 7 = .ok (.iconst 0, 1) := by decide +kernel
theorem dX8_root_8 : decode cX8_root 8 = .ok (.istore 4, 2) := by decide +kernel
theorem dX8_root_10 : decode cX8_root 10 = .ok (.iload 4, 2) := by decide +kernel
theorem dX8_root_12 : decode cX8_root 12 = .ok (.aload_n 0, 1) := by decide +kernel
theorem dX8_root_13 : decode cX8_root 13 = .ok (.getfield 98, 3) := by decide +kernel
theorem dX8_root_16 : decode cX8_root 16 = .ok (.if_icmp .ge 67, 3) := by decide +kernel
theorem dX8_root_19 : decode cX8_root 19 = .ok (.aload_n 0, 1) := by decide +kernel
theorem dX8_root_20 : decode cX8_root 20 = .ok (.getfield 39, 3) := by decide +kernel
theorem dX8_root_23 : decode cX8_root 23 = .ok (.iload 4, 2) := by decide +kernel
theorem dX8_root_25 : decode cX8_root 25 = .ok (.iaload, 1) := by decide +kernel
theorem dX8_root_26 : decode cX8_root 26 = .ok (.iload_n 1, 1) := by decide +kernel
theorem dX8_root_27 : decode cX8_root 27 = .ok (.if_icmp .ne 50, 3) := by decide +kernel
theorem dX8_root_30 : decode cX8_root 30 = .ok (.iconst 0, 1) := by decide +kernel
theorem dX8_root_31 : decode cX8_root 31 = .ok (.istore 5, 2) := by decide +kernel
theorem dX8_root_33 : decode cX8_root 33 = .ok (.iload 5, 2) := by decide +kernel
theorem dX8_root_35 : decode cX8_root 35 = .ok (.bipush 32, 2) := by decide +kernel
theorem dX8_root_37 : decode cX8_root 37 = .ok (.if_icmp .ge 37, 3) := by decide +kernel
theorem dX8_root_40 : decode cX8_root 40 = .ok (.aload_n 0, 1) := by decide +kernel
theorem dX8_root_41 : decode cX8_root 41 = .ok (.getfield 57, 3) := by decide +kernel
theorem dX8_root_44 : decode cX8_root 44 = .ok (.bipush 32, 2) := by decide +kernel
theorem dX8_root_46 : decode cX8_root 46 = .ok (.iload_n 3, 1) := by decide +kernel
theorem dX8_root_47 : decode cX8_root 47 = .ok (.imul, 1) := by decide +kernel
theorem dX8_root_48 : decode cX8_root 48 = .ok (.iload 5, 2) := by decide +kernel
theorem dX8_root_50 : decode cX8_root 50 = .ok (.iadd, 1) := by decide +kernel
theorem dX8_root_51 : decode cX8_root 51 = .ok (.aload_n 0, 1) := by decide +kernel
theorem dX8_root_52 : decode cX8_root 52 = .ok (.getfield 35, 3) := by decide +kernel
theorem dX8_root_55 : decode cX8_root 55 = .ok (.bipush 73, 2) := by decide +kernel
theorem dX8_root_57 : decode cX8_root 57 = .ok (.iload 4, 2) := by decide +kernel
theorem dX8_root_59 : decode cX8_root 59 = .ok (.imul, 1) := by decide +kernel
theorem dX8_root_60 : decode cX8_root 60 = .ok (.bipush 41, 2) := by decide +kernel
theorem dX8_root_62 : decode cX8_root 62 = .ok (.iadd, 1) := by decide +kernel
theorem dX8_root_63 : decode cX8_root 63 = .ok (.iload 5, 2) := by decide +kernel
theorem dX8_root_65 : decode cX8_root 65 = .ok (.iadd, 1) := by decide +kernel
theorem dX8_root_66 : decode cX8_root 66 = .ok (.baload, 1) := by decide +kernel
theorem dX8_root_67 : decode cX8_root 67 = .ok (.bastore, 1) := by decide +kernel
theorem dX8_root_68 : decode cX8_root 68 = .ok (.iinc 5 1, 3) := by decide +kernel
theorem dX8_root_71 : decode cX8_root 71 = .ok (.goto (-38), 3) := by decide +kernel
theorem dX8_root_74 : decode cX8_root 74 = .ok (.iinc 3 1, 3) := by decide +kernel
theorem dX8_root_77 : decode cX8_root 77 = .ok (.iinc 4 1, 3) := by decide +kernel
theorem dX8_root_80 : decode cX8_root 80 = .ok (.goto (-70), 3) := by decide +kernel
theorem dX8_root_83 : decode cX8_root 83 = .ok (.iload_n 3, 1) := by decide +kernel
theorem dX8_root_84 : decode cX8_root 84 = .ok (.ifCond .eq 14, 3) := by decide +kernel
theorem dX8_root_87 : decode cX8_root 87 = .ok (.iload_n 2, 1) := by decide +kernel
theorem dX8_root_88 : decode cX8_root 88 = .ok (.i2l, 1) := by decide +kernel
theorem dX8_root_89 : decode cX8_root 89 = .ok (.ldc2_w 192, 3) := by decide +kernel
theorem dX8_root_92 : decode cX8_root 92 = .ok (.invokestatic 119, 3) := by decide +kernel
theorem dX8_root_95 : decode cX8_root 95 = .ok (.ifCond .ne 5, 3) := by decide +kernel
theorem dX8_root_98 : decode cX8_root 98 = .ok (.iconst (-1), 1) := by decide +kernel
theorem dX8_root_99 : decode cX8_root 99 = .ok (.ireturn, 1) := by decide +kernel
theorem dX8_root_100 : decode cX8_root 100 = .ok (.iload_n 3, 1) := by decide +kernel
theorem dX8_root_101 : decode cX8_root 101 = .ok (.iconst 1, 1) := by decide +kernel
theorem dX8_root_102 : decode cX8_root 102 = .ok (.if_icmp .le 51, 3) := by decide +kernel
theorem dX8_root_105 : decode cX8_root 105 = .ok (.iconst 0, 1) := by decide +kernel
theorem dX8_root_106 : decode cX8_root 106 = .ok (.istore 4, 2) := by decide +kernel
theorem dX8_root_108 : decode cX8_root 108 = .ok (.iconst 0, 1) := by decide +kernel
theorem dX8_root_109 : decode cX8_root 109 = .ok (.istore 5, 2) := by decide +kernel
theorem dX8_root_111 : decode cX8_root 111 = .ok (.iload 5, 2) := by decide +kernel
theorem dX8_root_113 : decode cX8_root 113 = .ok (.iload_n 3, 1) := by decide +kernel
theorem dX8_root_114 : decode cX8_root 114 = .ok (.if_icmp .ge 33, 3) := by decide +kernel
theorem dX8_root_117 : decode cX8_root 117 = .ok (.aload_n 0, 1) := by decide +kernel
theorem dX8_root_118 : decode cX8_root 118 = .ok (.iload 5, 2) := by decide +kernel
theorem dX8_root_120 : decode cX8_root 120 = .ok (.iload 4, 2) := by decide +kernel
theorem dX8_root_122 : decode cX8_root 122 = .ok (.iload 5, 2) := by decide +kernel
theorem dX8_root_124 : decode cX8_root 124 = .ok (.iconst 1, 1) := by decide +kernel
theorem dX8_root_125 : decode cX8_root 125 = .ok (.iadd, 1) := by decide +kernel
theorem dX8_root_126 : decode cX8_root 126 = .ok (.iload_n 3, 1) := by decide +kernel
theorem dX8_root_127 : decode cX8_root 127 = .ok (.if_icmp .ge 7, 3) := by decide +kernel
theorem dX8_root_130 : decode cX8_root 130 = .ok (.iconst 1, 1) := by decide +kernel
theorem dX8_root_131 : decode cX8_root 131 = .ok (.goto 4, 3) := by decide +kernel
theorem dX8_root_134 : decode cX8_root 134 = .ok (.iconst 0, 1) := by decide +kernel
theorem dX8_root_135 : decode cX8_root 135 = .ok (.invokevirtual 194, 3) := by decide +kernel
theorem dX8_root_138 : decode cX8_root 138 = .ok (.iinc 4 1, 3) := by decide +kernel
theorem dX8_root_141 : decode cX8_root 141 = .ok (.iinc 5 2, 3) := by decide +kernel
theorem dX8_root_144 : decode cX8_root 144 = .ok (.goto (-33), 3) := by decide +kernel
theorem dX8_root_147 : decode cX8_root 147 = .ok (.iload 4, 2) := by decide +kernel
theorem dX8_root_149 : decode cX8_root 149 = .ok (.istore_n 3, 1) := by decide +kernel
theorem dX8_root_150 : decode cX8_root 150 = .ok (.goto (-50), 3) := by decide +kernel
theorem dX8_root_153 : decode cX8_root 153 = .ok (.aload_n 0, 1) := by decide +kernel
theorem dX8_root_154 : decode cX8_root 154 = .ok (.getfield 57, 3) := by decide +kernel
theorem dX8_root_157 : decode cX8_root 157 = .ok (.iload_n 2, 1) := by decide +kernel
theorem dX8_root_158 : decode cX8_root 158 = .ok (.baload, 1) := by decide +kernel
theorem dX8_root_159 : decode cX8_root 159 = .ok (.sipush 255, 3) := by decide +kernel
theorem dX8_root_162 : decode cX8_root 162 = .ok (.iand, 1) := by decide +kernel
theorem dX8_root_163 : decode cX8_root 163 = .ok (.ireturn, 1) := by decide +kernel
theorem dX8_pair_0 : decode cX8_pair 0 = .ok (.iload_n 3, 1) := by decide +kernel
theorem dX8_pair_1 : decode cX8_pair 1 = .ok (.ifCond .ne 44, 3) := by decide +kernel
theorem dX8_pair_4 : decode cX8_pair 4 = .ok (.iconst 0, 1) := by decide +kernel
theorem dX8_pair_5 : decode cX8_pair 5 = .ok (.istore 4, 2) := by decide +kernel
theorem dX8_pair_7 : decode cX8_pair 7 = .ok (.iload 4, 2) := by decide +kernel
theorem dX8_pair_9 : decode cX8_pair 9 = .ok (.bipush 32, 2) := by decide +kernel
theorem dX8_pair_11 : decode cX8_pair 11 = .ok (.if_icmp .ge 33, 3) := by decide +kernel
theorem dX8_pair_14 : decode cX8_pair 14 = .ok (.aload_n 0, 1) := by decide +kernel
theorem dX8_pair_15 : decode cX8_pair 15 = .ok (.getfield 57, 3) := by decide +kernel
theorem dX8_pair_18 : decode cX8_pair 18 = .ok (.bipush 32, 2) := by decide +kernel
theorem dX8_pair_20 : decode cX8_pair 20 = .ok (.iload_n 2, 1) := by decide +kernel
theorem dX8_pair_21 : decode cX8_pair 21 = .ok (.imul, 1) := by decide +kernel
theorem dX8_pair_22 : decode cX8_pair 22 = .ok (.iload 4, 2) := by decide +kernel
theorem dX8_pair_24 : decode cX8_pair 24 = .ok (.iadd, 1) := by decide +kernel
theorem dX8_pair_25 : decode cX8_pair 25 = .ok (.aload_n 0, 1) := by decide +kernel
theorem dX8_pair_26 : decode cX8_pair 26 = .ok (.getfield 57, 3) := by decide +kernel
theorem dX8_pair_29 : decode cX8_pair 29 = .ok (.bipush 32, 2) := by decide +kernel
theorem dX8_pair_31 : decode cX8_pair 31 = .ok (.iload_n 1, 1) := by decide +kernel
theorem dX8_pair_32 : decode cX8_pair 32 = .ok (.imul, 1) := by decide +kernel
theorem dX8_pair_33 : decode cX8_pair 33 = .ok (.iload 4, 2) := by decide +kernel
theorem dX8_pair_35 : decode cX8_pair 35 = .ok (.iadd, 1) := by decide +kernel
theorem dX8_pair_36 : decode cX8_pair 36 = .ok (.baload, 1) := by decide +kernel
theorem dX8_pair_37 : decode cX8_pair 37 = .ok (.bastore, 1) := by decide +kernel
theorem dX8_pair_38 : decode cX8_pair 38 = .ok (.iinc 4 1, 3) := by decide +kernel
theorem dX8_pair_41 : decode cX8_pair 41 = .ok (.goto (-34), 3) := by decide +kernel
theorem dX8_pair_44 : decode cX8_pair 44 = .ok (.return_, 1) := by decide +kernel
theorem dX8_pair_45 : decode cX8_pair 45 = .ok (.aload_n 0, 1) := by decide +kernel
theorem dX8_pair_46 : decode cX8_pair 46 = .ok (.iconst 0, 1) := by decide +kernel
theorem dX8_pair_47 : decode cX8_pair 47 = .ok (.putfield 81, 3) := by decide +kernel
theorem dX8_pair_50 : decode cX8_pair 50 = .ok (.iconst 0, 1) := by decide +kernel
theorem dX8_pair_51 : decode cX8_pair 51 = .ok (.istore 4, 2) := by decide +kernel
theorem dX8_pair_53 : decode cX8_pair 53 = .ok (.iload 4, 2) := by decide +kernel
theorem dX8_pair_55 : decode cX8_pair 55 = .ok (.bipush 64, 2) := by decide +kernel
theorem dX8_pair_57 : decode cX8_pair 57 = .ok (.if_icmp .ge 25, 3) := by decide +kernel
theorem dX8_pair_60 : decode cX8_pair 60 = .ok (.aload_n 0, 1) := by decide +kernel
theorem dX8_pair_61 : decode cX8_pair 61 = .ok (.aload_n 0, 1) := by decide +kernel
theorem dX8_pair_62 : decode cX8_pair 62 = .ok (.getfield 57, 3) := by decide +kernel
theorem dX8_pair_65 : decode cX8_pair 65 = .ok (.bipush 32, 2) := by decide +kernel
theorem dX8_pair_67 : decode cX8_pair 67 = .ok (.iload_n 1, 1) := by decide +kernel
theorem dX8_pair_68 : decode cX8_pair 68 = .ok (.imul, 1) := by decide +kernel
theorem dX8_pair_69 : decode cX8_pair 69 = .ok (.iload 4, 2) := by decide +kernel
theorem dX8_pair_71 : decode cX8_pair 71 = .ok (.iadd, 1) := by decide +kernel
theorem dX8_pair_72 : decode cX8_pair 72 = .ok (.baload, 1) := by decide +kernel
theorem dX8_pair_73 : decode cX8_pair 73 = .ok (.invokevirtual 84, 3) := by decide +kernel
theorem dX8_pair_76 : decode cX8_pair 76 = .ok (.iinc 4 1, 3) := by decide +kernel
theorem dX8_pair_79 : decode cX8_pair 79 = .ok (.goto (-26), 3) := by decide +kernel
theorem dX8_pair_82 : decode cX8_pair 82 = .ok (.aload_n 0, 1) := by decide +kernel
theorem dX8_pair_83 : decode cX8_pair 83 = .ok (.invokevirtual 95, 3) := by decide +kernel
theorem dX8_pair_86 : decode cX8_pair 86 = .ok (.iconst 0, 1) := by decide +kernel
theorem dX8_pair_87 : decode cX8_pair 87 = .ok (.istore 4, 2) := by decide +kernel
theorem dX8_pair_89 : decode cX8_pair 89 = .ok (.iload 4, 2) := by decide +kernel
theorem dX8_pair_91 : decode cX8_pair 91 = .ok (.bipush 32, 2) := by decide +kernel
theorem dX8_pair_93 : decode cX8_pair 93 = .ok (.if_icmp .ge 28, 3) := by decide +kernel
theorem dX8_pair_96 : decode cX8_pair 96 = .ok (.aload_n 0, 1) := by decide +kernel
theorem dX8_pair_97 : decode cX8_pair 97 = .ok (.getfield 57, 3) := by decide +kernel
theorem dX8_pair_100 : decode cX8_pair 100 = .ok (.bipush 32, 2) := by decide +kernel
theorem dX8_pair_102 : decode cX8_pair 102 = .ok (.iload_n 2, 1) := by decide +kernel
theorem dX8_pair_103 : decode cX8_pair 103 = .ok (.imul, 1) := by decide +kernel
theorem dX8_pair_104 : decode cX8_pair 104 = .ok (.iload 4, 2) := by decide +kernel
theorem dX8_pair_106 : decode cX8_pair 106 = .ok (.iadd, 1) := by decide +kernel
theorem dX8_pair_107 : decode cX8_pair 107 = .ok (.aload_n 0, 1) := by decide +kernel
theorem dX8_pair_108 : decode cX8_pair 108 = .ok (.getfield 45, 3) := by decide +kernel
theorem dX8_pair_111 : decode cX8_pair 111 = .ok (.iload 4, 2) := by decide +kernel
theorem dX8_pair_113 : decode cX8_pair 113 = .ok (.baload, 1) := by decide +kernel
theorem dX8_pair_114 : decode cX8_pair 114 = .ok (.bastore, 1) := by decide +kernel
theorem dX8_pair_115 : decode cX8_pair 115 = .ok (.iinc 4 1, 3) := by decide +kernel
theorem dX8_pair_118 : decode cX8_pair 118 = .ok (.goto (-29), 3) := by decide +kernel
theorem dX8_pair_121 : decode cX8_pair 121 = .ok (.return_, 1) := by decide +kernel
