theorem dL_lot_0 : decode cL_lot 0 = .ok (.iload_n 1, 1) := by decide +kernel
theorem dL_lot_1 : decode cL_lot 1 = .ok (.aload_n 0, 1) := by decide +kernel
theorem dL_lot_2 : decode cL_lot 2 = .ok (.arraylength, 1) := by decide +kernel
theorem dL_lot_3 : decode cL_lot 3 = .ok (.if_icmp .ge 9, 3) := by decide +kernel
theorem dL_lot_6 : decode cL_lot 6 = .ok (.aload_n 0, 1) := by decide +kernel
theorem dL_lot_7 : decode cL_lot 7 = .ok (.iload_n 1, 1) := by decide +kernel
theorem dL_lot_8 : decode cL_lot 8 = .ok (.iaload, 1) := by decide +kernel
theorem dL_lot_9 : decode cL_lot 9 = .ok (.goto 15, 3) := by decide +kernel
theorem dL_lot_12 : decode cL_lot 12 = .ok (.ldc 7, 2) := by decide +kernel
theorem dL_lot_14 : decode cL_lot 14 = .ok (.iload_n 1, 1) := by decide +kernel
theorem dL_lot_15 : decode cL_lot 15 = .ok (.sipush 2791, 3) := by decide +kernel
theorem dL_lot_18 : decode cL_lot 18 = .ok (.iadd, 1) := by decide +kernel
theorem dL_lot_19 : decode cL_lot 19 = .ok (.imul, 1) := by decide +kernel
theorem dL_lot_20 : decode cL_lot 20 = .ok (.sipush 2579, 3) := by decide +kernel
theorem dL_lot_23 : decode cL_lot 23 = .ok (.iadd, 1) := by decide +kernel
theorem dL_lot_24 : decode cL_lot 24 = .ok (.ireturn, 1) := by decide +kernel
theorem dL_low_0 : decode cL_low 0 = .ok (.iload_n 0, 1) := by decide +kernel
theorem dL_low_1 : decode cL_low 1 = .ok (.ldc 8, 2) := by decide +kernel
theorem dL_low_3 : decode cL_low 3 = .ok (.iand, 1) := by decide +kernel
theorem dL_low_4 : decode cL_low 4 = .ok (.iload_n 1, 1) := by decide +kernel
theorem dL_low_5 : decode cL_low 5 = .ok (.irem, 1) := by decide +kernel
theorem dL_low_6 : decode cL_low 6 = .ok (.ireturn, 1) := by decide +kernel
theorem dL_digest_0 : decode cL_digest 0 = .ok (.ldc2_w 9, 3) := by decide +kernel
theorem dL_digest_3 : decode cL_digest 3 = .ok (.lstore_n 1, 1) := by decide +kernel
theorem dL_digest_4 : decode cL_digest 4 = .ok (.iconst 0, 1) := by decide +kernel
theorem dL_digest_5 : decode cL_digest 5 = .ok (.istore_n 3, 1) := by decide +kernel
theorem dL_digest_6 : decode cL_digest 6 = .ok (.iload_n 3, 1) := by decide +kernel
theorem dL_digest_7 : decode cL_digest 7 = .ok (.bipush 8, 2) := by decide +kernel
theorem dL_digest_9 : decode cL_digest 9 = .ok (.if_icmp .ge 22, 3) := by decide +kernel
theorem dL_digest_12 : decode cL_digest 12 = .ok (.ldc2_w 11, 3) := by decide +kernel
theorem dL_digest_15 : decode cL_digest 15 = .ok (.lload_n 1, 1) := by decide +kernel
theorem dL_digest_16 : decode cL_digest 16 = .ok (.lmul, 1) := by decide +kernel
theorem dL_digest_17 : decode cL_digest 17 = .ok (.aload_n 0, 1) := by decide +kernel
theorem dL_digest_18 : decode cL_digest 18 = .ok (.iload_n 3, 1) := by decide +kernel
theorem dL_digest_19 : decode cL_digest 19 = .ok (.invokevirtual 13, 3) := by decide +kernel
theorem dL_digest_22 : decode cL_digest 22 = .ok (.i2l, 1) := by decide +kernel
theorem dL_digest_23 : decode cL_digest 23 = .ok (.ladd, 1) := by decide +kernel
theorem dL_digest_24 : decode cL_digest 24 = .ok (.lstore_n 1, 1) := by decide +kernel
theorem dL_digest_25 : decode cL_digest 25 = .ok (.iinc 3 1, 3) := by decide +kernel
theorem dL_digest_28 : decode cL_digest 28 = .ok (.goto (-22), 3) := by decide +kernel
theorem dL_digest_31 : decode cL_digest 31 = .ok (.iconst 0, 1) := by decide +kernel
theorem dL_digest_32 : decode cL_digest 32 = .ok (.istore_n 3, 1) := by decide +kernel
theorem dL_digest_33 : decode cL_digest 33 = .ok (.iload_n 3, 1) := by decide +kernel
theorem dL_digest_34 : decode cL_digest 34 = .ok (.bipush 50, 2) := by decide +kernel
theorem dL_digest_36 : decode cL_digest 36 = .ok (.if_icmp .ge 27, 3) := by decide +kernel
theorem dL_digest_39 : decode cL_digest 39 = .ok (.ldc2_w 11, 3) := by decide +kernel
theorem dL_digest_42 : decode cL_digest 42 = .ok (.lload_n 1, 1) := by decide +kernel
theorem dL_digest_43 : decode cL_digest 43 = .ok (.lmul, 1) := by decide +kernel
theorem dL_digest_44 : decode cL_digest 44 = .ok (.aload_n 0, 1) := by decide +kernel
theorem dL_digest_45 : decode cL_digest 45 = .ok (.iload_n 3, 1) := by decide +kernel
theorem dL_digest_46 : decode cL_digest 46 = .ok (.iconst 5, 1) := by decide +kernel
theorem dL_digest_47 : decode cL_digest 47 = .ok (.idiv, 1) := by decide +kernel
theorem dL_digest_48 : decode cL_digest 48 = .ok (.iload_n 3, 1) := by decide +kernel
theorem dL_digest_49 : decode cL_digest 49 = .ok (.iconst 5, 1) := by decide +kernel
theorem dL_digest_50 : decode cL_digest 50 = .ok (.irem, 1) := by decide +kernel
theorem dL_digest_51 : decode cL_digest 51 = .ok (.invokevirtual 19, 3) := by decide +kernel
theorem dL_digest_54 : decode cL_digest 54 = .ok (.i2l, 1) := by decide +kernel
theorem dL_digest_55 : decode cL_digest 55 = .ok (.ladd, 1) := by decide +kernel
theorem dL_digest_56 : decode cL_digest 56 = .ok (.lstore_n 1, 1) := by decide +kernel
theorem dL_digest_57 : decode cL_digest 57 = .ok (.iinc 3 1, 3) := by decide +kernel
theorem dL_digest_60 : decode cL_digest 60 = .ok (.goto (-27), 3) := by decide +kernel
theorem dL_digest_63 : decode cL_digest 63 = .ok (.iconst 0, 1) := by decide +kernel
theorem dL_digest_64 : decode cL_digest 64 = .ok (.istore_n 3, 1) := by decide +kernel
theorem dL_digest_65 : decode cL_digest 65 = .ok (.iload_n 3, 1) := by decide +kernel
theorem dL_digest_66 : decode cL_digest 66 = .ok (.bipush 70, 2) := by decide +kernel
theorem dL_digest_68 : decode cL_digest 68 = .ok (.if_icmp .ge 29, 3) := by decide +kernel
theorem dL_digest_71 : decode cL_digest 71 = .ok (.ldc2_w 11, 3) := by decide +kernel
theorem dL_digest_74 : decode cL_digest 74 = .ok (.lload_n 1, 1) := by decide +kernel
theorem dL_digest_75 : decode cL_digest 75 = .ok (.lmul, 1) := by decide +kernel
theorem dL_digest_76 : decode cL_digest 76 = .ok (.aload_n 0, 1) := by decide +kernel
theorem dL_digest_77 : decode cL_digest 77 = .ok (.iload_n 3, 1) := by decide +kernel
theorem dL_digest_78 : decode cL_digest 78 = .ok (.bipush 7, 2) := by decide +kernel
theorem dL_digest_80 : decode cL_digest 80 = .ok (.idiv, 1) := by decide +kernel
theorem dL_digest_81 : decode cL_digest 81 = .ok (.iload_n 3, 1) := by decide +kernel
theorem dL_digest_82 : decode cL_digest 82 = .ok (.bipush 7, 2) := by decide +kernel
theorem dL_digest_84 : decode cL_digest 84 = .ok (.irem, 1) := by decide +kernel
theorem dL_digest_85 : decode cL_digest 85 = .ok (.invokevirtual 23, 3) := by decide +kernel
theorem dL_digest_88 : decode cL_digest 88 = .ok (.i2l, 1) := by decide +kernel
theorem dL_digest_89 : decode cL_digest 89 = .ok (.ladd, 1) := by decide +kernel
theorem dL_digest_90 : decode cL_digest 90 = .ok (.lstore_n 1, 1) := by decide +kernel
theorem dL_digest_91 : decode cL_digest 91 = .ok (.iinc 3 1, 3) := by decide +kernel
theorem dL_digest_94 : decode cL_digest 94 = .ok (.goto (-29), 3) := by decide +kernel
theorem dL_digest_97 : decode cL_digest 97 = .ok (.iconst 0, 1) := by decide +kernel
theorem dL_digest_98 : decode cL_digest 98 = .ok (.istore_n 3, 1) := by decide +kernel
theorem dL_digest_99 : decode cL_digest 99 = .ok (.iload_n 3, 1) := by decide +kernel
theorem dL_digest_100 : decode cL_digest 100 = .ok (.iconst 5, 1) := by decide +kernel
theorem dL_digest_101 : decode cL_digest 101 = .ok (.if_icmp .ge 22, 3) := by decide +kernel
theorem dL_digest_104 : decode cL_digest 104 = .ok (.ldc2_w 11, 3) := by decide +kernel
theorem dL_digest_107 : decode cL_digest 107 = .ok (.lload_n 1, 1) := by decide +kernel
theorem dL_digest_108 : decode cL_digest 108 = .ok (.lmul, 1) := by decide +kernel
theorem dL_digest_109 : decode cL_digest 109 = .ok (.aload_n 0, 1) := by decide +kernel
theorem dL_digest_110 : decode cL_digest 110 = .ok (.iload_n 3, 1) := by decide +kernel
theorem dL_digest_111 : decode cL_digest 111 = .ok (.invokevirtual 26, 3) := by decide +kernel
theorem dL_digest_114 : decode cL_digest 114 = .ok (.i2l, 1) := by decide +kernel
theorem dL_digest_115 : decode cL_digest 115 = .ok (.ladd, 1) := by decide +kernel
theorem dL_digest_116 : decode cL_digest 116 = .ok (.lstore_n 1, 1) := by decide +kernel
theorem dL_digest_117 : decode cL_digest 117 = .ok (.iinc 3 1, 3) := by decide +kernel
theorem dL_digest_120 : decode cL_digest 120 = .ok (.goto (-21), 3) := by decide +kernel
theorem dL_digest_123 : decode cL_digest 123 = .ok (.lload_n 1, 1) := by decide +kernel
theorem dL_digest_124 : decode cL_digest 124 = .ok (.lreturn, 1) := by decide +kernel
theorem dL_holds_0 : decode cL_holds 0 = .ok (.aload_n 0, 1) := by decide +kernel
theorem dL_holds_1 : decode cL_holds 1 = .ok (.iconst 1, 1) := by decide +kernel
theorem dL_holds_2 : decode cL_holds 2 = .ok (.invokevirtual 26, 3) := by decide +kernel
theorem dL_holds_5 : decode cL_holds 5 = .ok (.istore_n 1, 1) := by decide +kernel
theorem dL_holds_6 : decode cL_holds 6 = .ok (.aload_n 0, 1) := by decide +kernel
theorem dL_holds_7 : decode cL_holds 7 = .ok (.iconst 3, 1) := by decide +kernel
theorem dL_holds_8 : decode cL_holds 8 = .ok (.invokevirtual 26, 3) := by decide +kernel
theorem dL_holds_11 : decode cL_holds 11 = .ok (.istore_n 2, 1) := by decide +kernel
theorem dL_holds_12 : decode cL_holds 12 = .ok (.iconst 0, 1) := by decide +kernel
theorem dL_holds_13 : decode cL_holds 13 = .ok (.istore_n 3, 1) := by decide +kernel
theorem dL_holds_14 : decode cL_holds 14 = .ok (.iconst 0, 1) := by decide +kernel
theorem dL_holds_15 : decode cL_holds 15 = .ok (.istore 4, 2) := by decide +kernel
theorem dL_holds_17 : decode cL_holds 17 = .ok (.iconst 0, 1) := by decide +kernel
theorem dL_holds_18 : decode cL_holds 18 = .ok (.istore 5, 2) := by decide +kernel
theorem dL_holds_20 : decode cL_holds 20 = .ok (.iload 5, 2) := by decide +kernel
theorem dL_holds_22 : decode cL_holds 22 = .ok (.bipush 10, 2) := by decide +kernel
theorem dL_holds_24 : decode cL_holds 24 = .ok (.if_icmp .ge 282, 3) := by decide +kernel
theorem dL_holds_27 : decode cL_holds 27 = .ok (.iload_n 1, 1) := by decide +kernel
theorem dL_holds_28 : decode cL_holds 28 = .ok (.iload 5, 2) := by decide +kernel
theorem dL_holds_30 : decode cL_holds 30 = .ok (.ishr, 1) := by decide +kernel
theorem dL_holds_31 : decode cL_holds 31 = .ok (.iconst 1, 1) := by decide +kernel
theorem dL_holds_32 : decode cL_holds 32 = .ok (.iand, 1) := by decide +kernel
theorem dL_holds_33 : decode cL_holds 33 = .ok (.iconst 1, 1) := by decide +kernel
theorem dL_holds_34 : decode cL_holds 34 = .ok (.if_icmp .ne 7, 3) := by decide +kernel
theorem dL_holds_37 : decode cL_holds 37 = .ok (.iconst 1, 1) := by decide +kernel
theorem dL_holds_38 : decode cL_holds 38 = .ok (.goto 4, 3) := by decide +kernel
theorem dL_holds_41 : decode cL_holds 41 = .ok (.iconst 0, 1) := by decide +kernel
theorem dL_holds_42 : decode cL_holds 42 = .ok (.istore 6, 2) := by decide +kernel
theorem dL_holds_44 : decode cL_holds 44 = .ok (.aload_n 0, 1) := by decide +kernel
theorem dL_holds_45 : decode cL_holds 45 = .ok (.iload 5, 2) := by decide +kernel
theorem dL_holds_47 : decode cL_holds 47 = .ok (.iconst 0, 1) := by decide +kernel
theorem dL_holds_48 : decode cL_holds 48 = .ok (.invokevirtual 19, 3) := by decide +kernel
theorem dL_holds_51 : decode cL_holds 51 = .ok (.istore 7, 2) := by decide +kernel
theorem dL_holds_53 : decode cL_holds 53 = .ok (.iload_n 3, 1) := by decide +kernel
theorem dL_holds_54 : decode cL_holds 54 = .ok (.iload 6, 2) := by decide +kernel
theorem dL_holds_56 : decode cL_holds 56 = .ok (.ifCond .eq 7, 3) := by decide +kernel
theorem dL_holds_59 : decode cL_holds 59 = .ok (.iconst 1, 1) := by decide +kernel
theorem dL_holds_60 : decode cL_holds 60 = .ok (.goto 4, 3) := by decide +kernel
theorem dL_holds_63 : decode cL_holds 63 = .ok (.iconst 0, 1) := by decide +kernel
theorem dL_holds_64 : decode cL_holds 64 = .ok (.iadd, 1) := by decide +kernel
theorem dL_holds_65 : decode cL_holds 65 = .ok (.istore_n 3, 1) := by decide +kernel
theorem dL_holds_66 : decode cL_holds 66 = .ok (.iload 4, 2) := by decide +kernel
theorem dL_holds_68 : decode cL_holds 68 = .ok (.iload 6, 2) := by decide +kernel
theorem dL_holds_70 : decode cL_holds 70 = .ok (.ifCond .eq 16, 3) := by decide +kernel
theorem dL_holds_73 : decode cL_holds 73 = .ok (.iconst 1, 1) := by decide +kernel
theorem dL_holds_74 : decode cL_holds 74 = .ok (.aload_n 0, 1) := by decide +kernel
theorem dL_holds_75 : decode cL_holds 75 = .ok (.iload 5, 2) := by decide +kernel
theorem dL_holds_77 : decode cL_holds 77 = .ok (.bipush 6, 2) := by decide +kernel
theorem dL_holds_79 : decode cL_holds 79 = .ok (.invokevirtual 23, 3) := by decide +kernel
theorem dL_holds_82 : decode cL_holds 82 = .ok (.ishl, 1) := by decide +kernel
theorem dL_holds_83 : decode cL_holds 83 = .ok (.goto 4, 3) := by decide +kernel
theorem dL_holds_86 : decode cL_holds 86 = .ok (.iconst 0, 1) := by decide +kernel
theorem dL_holds_87 : decode cL_holds 87 = .ok (.ior, 1) := by decide +kernel
theorem dL_holds_88 : decode cL_holds 88 = .ok (.istore 4, 2) := by decide +kernel
theorem dL_holds_90 : decode cL_holds 90 = .ok (.iload 7, 2) := by decide +kernel
theorem dL_holds_92 : decode cL_holds 92 = .ok (.ifCond .lt 107, 3) := by decide +kernel
theorem dL_holds_95 : decode cL_holds 95 = .ok (.iload 7, 2) := by decide +kernel
theorem dL_holds_97 : decode cL_holds 97 = .ok (.iconst 5, 1) := by decide +kernel
theorem dL_holds_98 : decode cL_holds 98 = .ok (.if_icmp .gt 101, 3) := by decide +kernel
theorem dL_holds_101 : decode cL_holds 101 = .ok (.iload 6, 2) := by decide +kernel
theorem dL_holds_103 : decode cL_holds 103 = .ok (.ifCond .eq 79, 3) := by decide +kernel
theorem dL_holds_106 : decode cL_holds 106 = .ok (.iload 7, 2) := by decide +kernel
theorem dL_holds_108 : decode cL_holds 108 = .ok (.ifCond .eq 91, 3) := by decide +kernel
theorem dL_holds_111 : decode cL_holds 111 = .ok (.aload_n 0, 1) := by decide +kernel
theorem dL_holds_112 : decode cL_holds 112 = .ok (.iload 5, 2) := by decide +kernel
theorem dL_holds_114 : decode cL_holds 114 = .ok (.iconst 4, 1) := by decide +kernel
theorem dL_holds_115 : decode cL_holds 115 = .ok (.invokevirtual 23, 3) := by decide +kernel
theorem dL_holds_118 : decode cL_holds 118 = .ok (.aload_n 0, 1) := by decide +kernel
theorem dL_holds_119 : decode cL_holds 119 = .ok (.iload 5, 2) := by decide +kernel
theorem dL_holds_121 : decode cL_holds 121 = .ok (.iconst 2, 1) := by decide +kernel
theorem dL_holds_122 : decode cL_holds 122 = .ok (.invokevirtual 19, 3) := by decide +kernel
theorem dL_holds_125 : decode cL_holds 125 = .ok (.if_icmp .ne 74, 3) := by decide +kernel
theorem dL_holds_128 : decode cL_holds 128 = .ok (.aload_n 0, 1) := by decide +kernel
theorem dL_holds_129 : decode cL_holds 129 = .ok (.iload 5, 2) := by decide +kernel
theorem dL_holds_131 : decode cL_holds 131 = .ok (.iconst 3, 1) := by decide +kernel
theorem dL_holds_132 : decode cL_holds 132 = .ok (.invokevirtual 23, 3) := by decide +kernel
theorem dL_holds_135 : decode cL_holds 135 = .ok (.iconst 1, 1) := by decide +kernel
theorem dL_holds_136 : decode cL_holds 136 = .ok (.if_icmp .lt 63, 3) := by decide +kernel
theorem dL_holds_139 : decode cL_holds 139 = .ok (.aload_n 0, 1) := by decide +kernel
theorem dL_holds_140 : decode cL_holds 140 = .ok (.iload 5, 2) := by decide +kernel
theorem dL_holds_142 : decode cL_holds 142 = .ok (.iconst 3, 1) := by decide +kernel
theorem dL_holds_143 : decode cL_holds 143 = .ok (.invokevirtual 23, 3) := by decide +kernel
theorem dL_holds_146 : decode cL_holds 146 = .ok (.iconst 2, 1) := by decide +kernel
theorem dL_holds_147 : decode cL_holds 147 = .ok (.if_icmp .gt 52, 3) := by decide +kernel
theorem dL_holds_150 : decode cL_holds 150 = .ok (.aload_n 0, 1) := by decide +kernel
theorem dL_holds_151 : decode cL_holds 151 = .ok (.iload 5, 2) := by decide +kernel
theorem dL_holds_153 : decode cL_holds 153 = .ok (.iconst 1, 1) := by decide +kernel
theorem dL_holds_154 : decode cL_holds 154 = .ok (.invokevirtual 23, 3) := by decide +kernel
theorem dL_holds_157 : decode cL_holds 157 = .ok (.aload_n 0, 1) := by decide +kernel
theorem dL_holds_158 : decode cL_holds 158 = .ok (.iload 5, 2) := by decide +kernel
theorem dL_holds_160 : decode cL_holds 160 = .ok (.iconst 2, 1) := by decide +kernel
theorem dL_holds_161 : decode cL_holds 161 = .ok (.invokevirtual 23, 3) := by decide +kernel
theorem dL_holds_164 : decode cL_holds 164 = .ok (.if_icmp .gt 35, 3) := by decide +kernel
theorem dL_holds_167 : decode cL_holds 167 = .ok (.aload_n 0, 1) := by decide +kernel
theorem dL_holds_168 : decode cL_holds 168 = .ok (.iload 5, 2) := by decide +kernel
theorem dL_holds_170 : decode cL_holds 170 = .ok (.iconst 2, 1) := by decide +kernel
theorem dL_holds_171 : decode cL_holds 171 = .ok (.invokevirtual 23, 3) := by decide +kernel
theorem dL_holds_174 : decode cL_holds 174 = .ok (.aload_n 0, 1) := by decide +kernel
theorem dL_holds_175 : decode cL_holds 175 = .ok (.iconst 0, 1) := by decide +kernel
theorem dL_holds_176 : decode cL_holds 176 = .ok (.invokevirtual 13, 3) := by decide +kernel
theorem dL_holds_179 : decode cL_holds 179 = .ok (.if_icmp .gt 20, 3) := by decide +kernel
theorem dL_holds_182 : decode cL_holds 182 = .ok (.iload 6, 2) := by decide +kernel
theorem dL_holds_184 : decode cL_holds 184 = .ok (.ifCond .ne 17, 3) := by decide +kernel
theorem dL_holds_187 : decode cL_holds 187 = .ok (.aload_n 0, 1) := by decide +kernel
theorem dL_holds_188 : decode cL_holds 188 = .ok (.iload 5, 2) := by decide +kernel
theorem dL_holds_190 : decode cL_holds 190 = .ok (.iconst 0, 1) := by decide +kernel
theorem dL_holds_191 : decode cL_holds 191 = .ok (.invokevirtual 23, 3) := by decide +kernel
theorem dL_holds_194 : decode cL_holds 194 = .ok (.ldc 31, 2) := by decide +kernel
theorem dL_holds_196 : decode cL_holds 196 = .ok (.if_icmp .eq 5, 3) := by decide +kernel
theorem dL_holds_199 : decode cL_holds 199 = .ok (.iconst 0, 1) := by decide +kernel
theorem dL_holds_200 : decode cL_holds 200 = .ok (.ireturn, 1) := by decide +kernel
theorem dL_holds_201 : decode cL_holds 201 = .ok (.iload 6, 2) := by decide +kernel
theorem dL_holds_203 : decode cL_holds 203 = .ok (.ifCond .eq 22, 3) := by decide +kernel
theorem dL_holds_206 : decode cL_holds 206 = .ok (.aload_n 0, 1) := by decide +kernel
theorem dL_holds_207 : decode cL_holds 207 = .ok (.iload 5, 2) := by decide +kernel
theorem dL_holds_209 : decode cL_holds 209 = .ok (.iconst 2, 1) := by decide +kernel
theorem dL_holds_210 : decode cL_holds 210 = .ok (.invokevirtual 23, 3) := by decide +kernel
theorem dL_holds_213 : decode cL_holds 213 = .ok (.aload_n 0, 1) := by decide +kernel
theorem dL_holds_214 : decode cL_holds 214 = .ok (.iconst 0, 1) := by decide +kernel
theorem dL_holds_215 : decode cL_holds 215 = .ok (.invokevirtual 13, 3) := by decide +kernel
theorem dL_holds_218 : decode cL_holds 218 = .ok (.if_icmp .ne 7, 3) := by decide +kernel
theorem dL_holds_221 : decode cL_holds 221 = .ok (.iconst 1, 1) := by decide +kernel
theorem dL_holds_222 : decode cL_holds 222 = .ok (.goto 4, 3) := by decide +kernel
theorem dL_holds_225 : decode cL_holds 225 = .ok (.iconst 0, 1) := by decide +kernel
theorem dL_holds_226 : decode cL_holds 226 = .ok (.istore 8, 2) := by decide +kernel
theorem dL_holds_228 : decode cL_holds 228 = .ok (.iload 8, 2) := by decide +kernel
theorem dL_holds_230 : decode cL_holds 230 = .ok (.aload_n 0, 1) := by decide +kernel
theorem dL_holds_231 : decode cL_holds 231 = .ok (.iconst 2, 1) := by decide +kernel
theorem dL_holds_232 : decode cL_holds 232 = .ok (.invokevirtual 26, 3) := by decide +kernel
theorem dL_holds_235 : decode cL_holds 235 = .ok (.iload 5, 2) := by decide +kernel
theorem dL_holds_237 : decode cL_holds 237 = .ok (.ishr, 1) := by decide +kernel
theorem dL_holds_238 : decode cL_holds 238 = .ok (.iconst 1, 1) := by decide +kernel
theorem dL_holds_239 : decode cL_holds 239 = .ok (.iand, 1) := by decide +kernel
theorem dL_holds_240 : decode cL_holds 240 = .ok (.iconst 1, 1) := by decide +kernel
theorem dL_holds_241 : decode cL_holds 241 = .ok (.if_icmp .ne 7, 3) := by decide +kernel
theorem dL_holds_244 : decode cL_holds 244 = .ok (.iconst 1, 1) := by decide +kernel
theorem dL_holds_245 : decode cL_holds 245 = .ok (.goto 4, 3) := by decide +kernel
theorem dL_holds_248 : decode cL_holds 248 = .ok (.iconst 0, 1) := by decide +kernel
theorem dL_holds_249 : decode cL_holds 249 = .ok (.if_icmp .ne 49, 3) := by decide +kernel
theorem dL_holds_252 : decode cL_holds 252 = .ok (.iload 8, 2) := by decide +kernel
theorem dL_holds_254 : decode cL_holds 254 = .ok (.ifCond .eq 46, 3) := by decide +kernel
theorem dL_holds_257 : decode cL_holds 257 = .ok (.iload_n 2, 1) := by decide +kernel
theorem dL_holds_258 : decode cL_holds 258 = .ok (.iload 5, 2) := by decide +kernel
theorem dL_holds_260 : decode cL_holds 260 = .ok (.ishr, 1) := by decide +kernel
theorem dL_holds_261 : decode cL_holds 261 = .ok (.iconst 1, 1) := by decide +kernel
theorem dL_holds_262 : decode cL_holds 262 = .ok (.iand, 1) := by decide +kernel
theorem dL_holds_263 : decode cL_holds 263 = .ok (.ifCond .ne 37, 3) := by decide +kernel
theorem dL_holds_266 : decode cL_holds 266 = .ok (.aload_n 0, 1) := by decide +kernel
theorem dL_holds_267 : decode cL_holds 267 = .ok (.iload 5, 2) := by decide +kernel
theorem dL_holds_269 : decode cL_holds 269 = .ok (.iconst 0, 1) := by decide +kernel
theorem dL_holds_270 : decode cL_holds 270 = .ok (.invokevirtual 23, 3) := by decide +kernel
theorem dL_holds_273 : decode cL_holds 273 = .ok (.aload_n 0, 1) := by decide +kernel
theorem dL_holds_274 : decode cL_holds 274 = .ok (.iload 5, 2) := by decide +kernel
theorem dL_holds_276 : decode cL_holds 276 = .ok (.invokevirtual 32, 3) := by decide +kernel
theorem dL_holds_279 : decode cL_holds 279 = .ok (.ldc 35, 2) := by decide +kernel
theorem dL_holds_281 : decode cL_holds 281 = .ok (.if_icmp .ne 8, 3) := by decide +kernel
theorem dL_holds_284 : decode cL_holds 284 = .ok (.ldc 36, 2) := by decide +kernel
theorem dL_holds_286 : decode cL_holds 286 = .ok (.goto 9, 3) := by decide +kernel
theorem dL_holds_289 : decode cL_holds 289 = .ok (.aload_n 0, 1) := by decide +kernel
theorem dL_holds_290 : decode cL_holds 290 = .ok (.iload 5, 2) := by decide +kernel
theorem dL_holds_292 : decode cL_holds 292 = .ok (.invokevirtual 32, 3) := by decide +kernel
theorem dL_holds_295 : decode cL_holds 295 = .ok (.if_icmp .eq 5, 3) := by decide +kernel
theorem dL_holds_298 : decode cL_holds 298 = .ok (.iconst 0, 1) := by decide +kernel
theorem dL_holds_299 : decode cL_holds 299 = .ok (.ireturn, 1) := by decide +kernel
theorem dL_holds_300 : decode cL_holds 300 = .ok (.iinc 5 1, 3) := by decide +kernel
theorem dL_holds_303 : decode cL_holds 303 = .ok (.goto (-283), 3) := by decide +kernel
theorem dL_holds_306 : decode cL_holds 306 = .ok (.iload_n 3, 1) := by decide +kernel
theorem dL_holds_307 : decode cL_holds 307 = .ok (.aload_n 0, 1) := by decide +kernel
theorem dL_holds_308 : decode cL_holds 308 = .ok (.iconst 1, 1) := by decide +kernel
theorem dL_holds_309 : decode cL_holds 309 = .ok (.invokevirtual 13, 3) := by decide +kernel
theorem dL_holds_312 : decode cL_holds 312 = .ok (.if_icmp .ne 61, 3) := by decide +kernel
theorem dL_holds_315 : decode cL_holds 315 = .ok (.iload 4, 2) := by decide +kernel
theorem dL_holds_317 : decode cL_holds 317 = .ok (.iconst 1, 1) := by decide +kernel
theorem dL_holds_318 : decode cL_holds 318 = .ok (.iload_n 3, 1) := by decide +kernel
theorem dL_holds_319 : decode cL_holds 319 = .ok (.ishl, 1) := by decide +kernel
theorem dL_holds_320 : decode cL_holds 320 = .ok (.iconst 1, 1) := by decide +kernel
theorem dL_holds_321 : decode cL_holds 321 = .ok (.isub, 1) := by decide +kernel
theorem dL_holds_322 : decode cL_holds 322 = .ok (.if_icmp .ne 51, 3) := by decide +kernel
theorem dL_holds_325 : decode cL_holds 325 = .ok (.iload_n 2, 1) := by decide +kernel
theorem dL_holds_326 : decode cL_holds 326 = .ok (.aload_n 0, 1) := by decide +kernel
theorem dL_holds_327 : decode cL_holds 327 = .ok (.iconst 4, 1) := by decide +kernel
theorem dL_holds_328 : decode cL_holds 328 = .ok (.invokevirtual 26, 3) := by decide +kernel
theorem dL_holds_331 : decode cL_holds 331 = .ok (.iand, 1) := by decide +kernel
theorem dL_holds_332 : decode cL_holds 332 = .ok (.ifCond .ne 41, 3) := by decide +kernel
theorem dL_holds_335 : decode cL_holds 335 = .ok (.aload_n 0, 1) := by decide +kernel
theorem dL_holds_336 : decode cL_holds 336 = .ok (.bipush 7, 2) := by decide +kernel
theorem dL_holds_338 : decode cL_holds 338 = .ok (.invokevirtual 13, 3) := by decide +kernel
theorem dL_holds_341 : decode cL_holds 341 = .ok (.aload_n 0, 1) := by decide +kernel
theorem dL_holds_342 : decode cL_holds 342 = .ok (.iconst 2, 1) := by decide +kernel
theorem dL_holds_343 : decode cL_holds 343 = .ok (.invokevirtual 13, 3) := by decide +kernel
theorem dL_holds_346 : decode cL_holds 346 = .ok (.if_icmp .gt 27, 3) := by decide +kernel
theorem dL_holds_349 : decode cL_holds 349 = .ok (.aload_n 0, 1) := by decide +kernel
theorem dL_holds_350 : decode cL_holds 350 = .ok (.bipush 6, 2) := by decide +kernel
theorem dL_holds_352 : decode cL_holds 352 = .ok (.invokevirtual 13, 3) := by decide +kernel
theorem dL_holds_355 : decode cL_holds 355 = .ok (.ifCond .lt 18, 3) := by decide +kernel
theorem dL_holds_358 : decode cL_holds 358 = .ok (.aload_n 0, 1) := by decide +kernel
theorem dL_holds_359 : decode cL_holds 359 = .ok (.bipush 6, 2) := by decide +kernel
theorem dL_holds_361 : decode cL_holds 361 = .ok (.invokevirtual 13, 3) := by decide +kernel
theorem dL_holds_364 : decode cL_holds 364 = .ok (.bipush 10, 2) := by decide +kernel
theorem dL_holds_366 : decode cL_holds 366 = .ok (.if_icmp .gt 7, 3) := by decide +kernel
theorem dL_holds_369 : decode cL_holds 369 = .ok (.iconst 1, 1) := by decide +kernel
theorem dL_holds_370 : decode cL_holds 370 = .ok (.goto 4, 3) := by decide +kernel
theorem dL_holds_373 : decode cL_holds 373 = .ok (.iconst 0, 1) := by decide +kernel
theorem dL_holds_374 : decode cL_holds 374 = .ok (.ireturn, 1) := by decide +kernel
theorem dL_types_0 : decode cL_types 0 = .ok (.iconst 1, 1) := by decide +kernel
theorem dL_types_1 : decode cL_types 1 = .ok (.iload_n 1, 1) := by decide +kernel
theorem dL_types_2 : decode cL_types 2 = .ok (.iconst 3, 1) := by decide +kernel
theorem dL_types_3 : decode cL_types 3 = .ok (.invokestatic 37, 3) := by decide +kernel
theorem dL_types_6 : decode cL_types 6 = .ok (.iadd, 1) := by decide +kernel
theorem dL_types_7 : decode cL_types 7 = .ok (.istore_n 2, 1) := by decide +kernel
theorem dL_types_8 : decode cL_types 8 = .ok (.aload_n 0, 1) := by decide +kernel
theorem dL_types_9 : decode cL_types 9 = .ok (.invokevirtual 40, 3) := by decide +kernel
theorem dL_types_12 : decode cL_types 12 = .ok (.ifCond .lt 7, 3) := by decide +kernel
theorem dL_types_15 : decode cL_types 15 = .ok (.iconst 1, 1) := by decide +kernel
theorem dL_types_16 : decode cL_types 16 = .ok (.goto 4, 3) := by decide +kernel
theorem dL_types_19 : decode cL_types 19 = .ok (.iconst 0, 1) := by decide +kernel
theorem dL_types_20 : decode cL_types 20 = .ok (.istore_n 3, 1) := by decide +kernel
theorem dL_types_21 : decode cL_types 21 = .ok (.iconst 0, 1) := by decide +kernel
theorem dL_types_22 : decode cL_types 22 = .ok (.istore 4, 2) := by decide +kernel
theorem dL_types_24 : decode cL_types 24 = .ok (.iload 4, 2) := by decide +kernel
theorem dL_types_26 : decode cL_types 26 = .ok (.iload_n 2, 1) := by decide +kernel
theorem dL_types_27 : decode cL_types 27 = .ok (.if_icmp .ge 298, 3) := by decide +kernel
theorem dL_types_30 : decode cL_types 30 = .ok (.iload_n 1, 1) := by decide +kernel
theorem dL_types_31 : decode cL_types 31 = .ok (.iconst 2, 1) := by decide +kernel
theorem dL_types_32 : decode cL_types 32 = .ok (.bipush 7, 2) := by decide +kernel
theorem dL_types_34 : decode cL_types 34 = .ok (.iload 4, 2) := by decide +kernel
theorem dL_types_36 : decode cL_types 36 = .ok (.imul, 1) := by decide +kernel
theorem dL_types_37 : decode cL_types 37 = .ok (.iadd, 1) := by decide +kernel
theorem dL_types_38 : decode cL_types 38 = .ok (.ishr, 1) := by decide +kernel
theorem dL_types_39 : decode cL_types 39 = .ok (.istore 5, 2) := by decide +kernel
theorem dL_types_41 : decode cL_types 41 = .ok (.iload 5, 2) := by decide +kernel
theorem dL_types_43 : decode cL_types 43 = .ok (.bipush 7, 2) := by decide +kernel
theorem dL_types_45 : decode cL_types 45 = .ok (.invokestatic 37, 3) := by decide +kernel
theorem dL_types_48 : decode cL_types 48 = .ok (.istore 6, 2) := by decide +kernel
theorem dL_types_50 : decode cL_types 50 = .ok (.iload_n 3, 1) := by decide +kernel
theorem dL_types_51 : decode cL_types 51 = .ok (.ifCond .eq 35, 3) := by decide +kernel
theorem dL_types_54 : decode cL_types 54 = .ok (.aload_n 0, 1) := by decide +kernel
theorem dL_types_55 : decode cL_types 55 = .ok (.bipush 97, 2) := by decide +kernel
theorem dL_types_57 : decode cL_types 57 = .ok (.iload 5, 2) := by decide +kernel
theorem dL_types_59 : decode cL_types 59 = .ok (.iconst 3, 1) := by decide +kernel
theorem dL_types_60 : decode cL_types 60 = .ok (.ishr, 1) := by decide +kernel
theorem dL_types_61 : decode cL_types 61 = .ok (.bipush 11, 2) := by decide +kernel
theorem dL_types_63 : decode cL_types 63 = .ok (.invokestatic 37, 3) := by decide +kernel
theorem dL_types_66 : decode cL_types 66 = .ok (.iadd, 1) := by decide +kernel
theorem dL_types_67 : decode cL_types 67 = .ok (.invokevirtual 44, 3) := by decide +kernel
theorem dL_types_70 : decode cL_types 70 = .ok (.ifCond .le 16, 3) := by decide +kernel
theorem dL_types_73 : decode cL_types 73 = .ok (.aload_n 0, 1) := by decide +kernel
theorem dL_types_74 : decode cL_types 74 = .ok (.bipush 61, 2) := by decide +kernel
theorem dL_types_76 : decode cL_types 76 = .ok (.invokevirtual 44, 3) := by decide +kernel
theorem dL_types_79 : decode cL_types 79 = .ok (.ifCond .le 7, 3) := by decide +kernel
theorem dL_types_82 : decode cL_types 82 = .ok (.iconst 1, 1) := by decide +kernel
theorem dL_types_83 : decode cL_types 83 = .ok (.goto 4, 3) := by decide +kernel
theorem dL_types_86 : decode cL_types 86 = .ok (.iconst 0, 1) := by decide +kernel
theorem dL_types_87 : decode cL_types 87 = .ok (.istore_n 3, 1) := by decide +kernel
theorem dL_types_88 : decode cL_types 88 = .ok (.iload 6, 2) := by decide +kernel
theorem dL_types_90 : decode cL_types 90 = .ok (.iconst 2, 1) := by decide +kernel
theorem dL_types_91 : decode cL_types 91 = .ok (.if_icmp .ge 49, 3) := by decide +kernel
theorem dL_types_94 : decode cL_types 94 = .ok (.iload_n 3, 1) := by decide +kernel
theorem dL_types_95 : decode cL_types 95 = .ok (.ifCond .eq 40, 3) := by decide +kernel
theorem dL_types_98 : decode cL_types 98 = .ok (.iload 6, 2) := by decide +kernel
theorem dL_types_100 : decode cL_types 100 = .ok (.ifCond .eq 12, 3) := by decide +kernel
theorem dL_types_103 : decode cL_types 103 = .ok (.aload_n 0, 1) := by decide +kernel
theorem dL_types_104 : decode cL_types 104 = .ok (.bipush 45, 2) := by decide +kernel
theorem dL_types_106 : decode cL_types 106 = .ok (.invokevirtual 44, 3) := by decide +kernel
theorem dL_types_109 : decode cL_types 109 = .ok (.ifCond .le 26, 3) := by decide +kernel
theorem dL_types_112 : decode cL_types 112 = .ok (.aload_n 0, 1) := by decide +kernel
theorem dL_types_113 : decode cL_types 113 = .ok (.bipush 48, 2) := by decide +kernel
theorem dL_types_115 : decode cL_types 115 = .ok (.iload 5, 2) := by decide +kernel
theorem dL_types_117 : decode cL_types 117 = .ok (.iconst 4, 1) := by decide +kernel
theorem dL_types_118 : decode cL_types 118 = .ok (.ishr, 1) := by decide +kernel
theorem dL_types_119 : decode cL_types 119 = .ok (.bipush 10, 2) := by decide +kernel
theorem dL_types_121 : decode cL_types 121 = .ok (.invokestatic 37, 3) := by decide +kernel
theorem dL_types_124 : decode cL_types 124 = .ok (.iadd, 1) := by decide +kernel
theorem dL_types_125 : decode cL_types 125 = .ok (.invokevirtual 44, 3) := by decide +kernel
theorem dL_types_128 : decode cL_types 128 = .ok (.ifCond .le 7, 3) := by decide +kernel
theorem dL_types_131 : decode cL_types 131 = .ok (.iconst 1, 1) := by decide +kernel
theorem dL_types_132 : decode cL_types 132 = .ok (.goto 4, 3) := by decide +kernel
theorem dL_types_135 : decode cL_types 135 = .ok (.iconst 0, 1) := by decide +kernel
theorem dL_types_136 : decode cL_types 136 = .ok (.istore_n 3, 1) := by decide +kernel
theorem dL_types_137 : decode cL_types 137 = .ok (.goto 143, 3) := by decide +kernel
theorem dL_types_140 : decode cL_types 140 = .ok (.iload 6, 2) := by decide +kernel
theorem dL_types_142 : decode cL_types 142 = .ok (.iconst 2, 1) := by decide +kernel
theorem dL_types_143 : decode cL_types 143 = .ok (.if_icmp .ne 8, 3) := by decide +kernel
theorem dL_types_146 : decode cL_types 146 = .ok (.bipush 43, 2) := by decide +kernel
theorem dL_types_148 : decode cL_types 148 = .ok (.goto 38, 3) := by decide +kernel
theorem dL_types_151 : decode cL_types 151 = .ok (.iload 6, 2) := by decide +kernel
theorem dL_types_153 : decode cL_types 153 = .ok (.iconst 3, 1) := by decide +kernel
theorem dL_types_154 : decode cL_types 154 = .ok (.if_icmp .ne 8, 3) := by decide +kernel
theorem dL_types_157 : decode cL_types 157 = .ok (.bipush 45, 2) := by decide +kernel
theorem dL_types_159 : decode cL_types 159 = .ok (.goto 27, 3) := by decide +kernel
theorem dL_types_162 : decode cL_types 162 = .ok (.iload 6, 2) := by decide +kernel
theorem dL_types_164 : decode cL_types 164 = .ok (.iconst 4, 1) := by decide +kernel
theorem dL_types_165 : decode cL_types 165 = .ok (.if_icmp .ne 8, 3) := by decide +kernel
theorem dL_types_168 : decode cL_types 168 = .ok (.bipush 42, 2) := by decide +kernel
theorem dL_types_170 : decode cL_types 170 = .ok (.goto 16, 3) := by decide +kernel
theorem dL_types_173 : decode cL_types 173 = .ok (.iload 6, 2) := by decide +kernel
theorem dL_types_175 : decode cL_types 175 = .ok (.iconst 5, 1) := by decide +kernel
theorem dL_types_176 : decode cL_types 176 = .ok (.if_icmp .ne 8, 3) := by decide +kernel
theorem dL_types_179 : decode cL_types 179 = .ok (.bipush 94, 2) := by decide +kernel
theorem dL_types_181 : decode cL_types 181 = .ok (.goto 5, 3) := by decide +kernel
theorem dL_types_184 : decode cL_types 184 = .ok (.bipush 63, 2) := by decide +kernel
theorem dL_types_186 : decode cL_types 186 = .ok (.istore 7, 2) := by decide +kernel
theorem dL_types_188 : decode cL_types 188 = .ok (.iload_n 3, 1) := by decide +kernel
theorem dL_types_189 : decode cL_types 189 = .ok (.ifCond .eq 89, 3) := by decide +kernel
theorem dL_types_192 : decode cL_types 192 = .ok (.aload_n 0, 1) := by decide +kernel
theorem dL_types_193 : decode cL_types 193 = .ok (.bipush 97, 2) := by decide +kernel
theorem dL_types_195 : decode cL_types 195 = .ok (.iload 5, 2) := by decide +kernel
theorem dL_types_197 : decode cL_types 197 = .ok (.iconst 2, 1) := by decide +kernel
theorem dL_types_198 : decode cL_types 198 = .ok (.ishr, 1) := by decide +kernel
theorem dL_types_199 : decode cL_types 199 = .ok (.bipush 10, 2) := by decide +kernel
theorem dL_types_201 : decode cL_types 201 = .ok (.invokestatic 37, 3) := by decide +kernel
theorem dL_types_204 : decode cL_types 204 = .ok (.iadd, 1) := by decide +kernel
theorem dL_types_205 : decode cL_types 205 = .ok (.invokevirtual 44, 3) := by decide +kernel
theorem dL_types_208 : decode cL_types 208 = .ok (.ifCond .le 70, 3) := by decide +kernel
theorem dL_types_211 : decode cL_types 211 = .ok (.aload_n 0, 1) := by decide +kernel
theorem dL_types_212 : decode cL_types 212 = .ok (.iload 7, 2) := by decide +kernel
theorem dL_types_214 : decode cL_types 214 = .ok (.invokevirtual 44, 3) := by decide +kernel
theorem dL_types_217 : decode cL_types 217 = .ok (.ifCond .le 61, 3) := by decide +kernel
theorem dL_types_220 : decode cL_types 220 = .ok (.aload_n 0, 1) := by decide +kernel
theorem dL_types_221 : decode cL_types 221 = .ok (.bipush 97, 2) := by decide +kernel
theorem dL_types_223 : decode cL_types 223 = .ok (.iload 5, 2) := by decide +kernel
theorem dL_types_225 : decode cL_types 225 = .ok (.iconst 5, 1) := by decide +kernel
theorem dL_types_226 : decode cL_types 226 = .ok (.ishr, 1) := by decide +kernel
theorem dL_types_227 : decode cL_types 227 = .ok (.bipush 10, 2) := by decide +kernel
theorem dL_types_229 : decode cL_types 229 = .ok (.invokestatic 37, 3) := by decide +kernel
theorem dL_types_232 : decode cL_types 232 = .ok (.iadd, 1) := by decide +kernel
theorem dL_types_233 : decode cL_types 233 = .ok (.invokevirtual 44, 3) := by decide +kernel
theorem dL_types_236 : decode cL_types 236 = .ok (.ifCond .le 42, 3) := by decide +kernel
theorem dL_types_239 : decode cL_types 239 = .ok (.iload 6, 2) := by decide +kernel
theorem dL_types_241 : decode cL_types 241 = .ok (.bipush 6, 2) := by decide +kernel
theorem dL_types_243 : decode cL_types 243 = .ok (.if_icmp .lt 31, 3) := by decide +kernel
theorem dL_types_246 : decode cL_types 246 = .ok (.aload_n 0, 1) := by decide +kernel
theorem dL_types_247 : decode cL_types 247 = .ok (.bipush 58, 2) := by decide +kernel
theorem dL_types_249 : decode cL_types 249 = .ok (.invokevirtual 44, 3) := by decide +kernel
theorem dL_types_252 : decode cL_types 252 = .ok (.ifCond .le 26, 3) := by decide +kernel
theorem dL_types_255 : decode cL_types 255 = .ok (.aload_n 0, 1) := by decide +kernel
theorem dL_types_256 : decode cL_types 256 = .ok (.bipush 97, 2) := by decide +kernel
theorem dL_types_258 : decode cL_types 258 = .ok (.iload 5, 2) := by decide +kernel
theorem dL_types_260 : decode cL_types 260 = .ok (.iconst 1, 1) := by decide +kernel
theorem dL_types_261 : decode cL_types 261 = .ok (.ishr, 1) := by decide +kernel
theorem dL_types_262 : decode cL_types 262 = .ok (.bipush 10, 2) := by decide +kernel
theorem dL_types_264 : decode cL_types 264 = .ok (.invokestatic 37, 3) := by decide +kernel
theorem dL_types_267 : decode cL_types 267 = .ok (.iadd, 1) := by decide +kernel
theorem dL_types_268 : decode cL_types 268 = .ok (.invokevirtual 44, 3) := by decide +kernel
theorem dL_types_271 : decode cL_types 271 = .ok (.ifCond .le 7, 3) := by decide +kernel
theorem dL_types_274 : decode cL_types 274 = .ok (.iconst 1, 1) := by decide +kernel
theorem dL_types_275 : decode cL_types 275 = .ok (.goto 4, 3) := by decide +kernel
theorem dL_types_278 : decode cL_types 278 = .ok (.iconst 0, 1) := by decide +kernel
theorem dL_types_279 : decode cL_types 279 = .ok (.istore_n 3, 1) := by decide +kernel
theorem dL_types_280 : decode cL_types 280 = .ok (.iload_n 3, 1) := by decide +kernel
theorem dL_types_281 : decode cL_types 281 = .ok (.ifCond .eq 36, 3) := by decide +kernel
theorem dL_types_284 : decode cL_types 284 = .ok (.iload_n 1, 1) := by decide +kernel
theorem dL_types_285 : decode cL_types 285 = .ok (.bipush 24, 2) := by decide +kernel
theorem dL_types_287 : decode cL_types 287 = .ok (.ishr, 1) := by decide +kernel
theorem dL_types_288 : decode cL_types 288 = .ok (.bipush 7, 2) := by decide +kernel
theorem dL_types_290 : decode cL_types 290 = .ok (.invokestatic 37, 3) := by decide +kernel
theorem dL_types_293 : decode cL_types 293 = .ok (.ifCond .ne 11, 3) := by decide +kernel
theorem dL_types_296 : decode cL_types 296 = .ok (.iload 4, 2) := by decide +kernel
theorem dL_types_298 : decode cL_types 298 = .ok (.iload_n 2, 1) := by decide +kernel
theorem dL_types_299 : decode cL_types 299 = .ok (.iconst 1, 1) := by decide +kernel
theorem dL_types_300 : decode cL_types 300 = .ok (.isub, 1) := by decide +kernel
theorem dL_types_301 : decode cL_types 301 = .ok (.if_icmp .eq 12, 3) := by decide +kernel
theorem dL_types_304 : decode cL_types 304 = .ok (.aload_n 0, 1) := by decide +kernel
theorem dL_types_305 : decode cL_types 305 = .ok (.bipush 59, 2) := by decide +kernel
theorem dL_types_307 : decode cL_types 307 = .ok (.invokevirtual 44, 3) := by decide +kernel
theorem dL_types_310 : decode cL_types 310 = .ok (.ifCond .le 7, 3) := by decide +kernel
theorem dL_types_313 : decode cL_types 313 = .ok (.iconst 1, 1) := by decide +kernel
theorem dL_types_314 : decode cL_types 314 = .ok (.goto 4, 3) := by decide +kernel
theorem dL_types_317 : decode cL_types 317 = .ok (.iconst 0, 1) := by decide +kernel
theorem dL_types_318 : decode cL_types 318 = .ok (.istore_n 3, 1) := by decide +kernel
theorem dL_types_319 : decode cL_types 319 = .ok (.iinc 4 1, 3) := by decide +kernel
theorem dL_types_322 : decode cL_types 322 = .ok (.goto (-298), 3) := by decide +kernel
theorem dL_types_325 : decode cL_types 325 = .ok (.iload_n 3, 1) := by decide +kernel
theorem dL_types_326 : decode cL_types 326 = .ok (.ireturn, 1) := by decide +kernel
theorem dL_plays_0 : decode cL_plays 0 = .ok (.aload_n 0, 1) := by decide +kernel
theorem dL_plays_1 : decode cL_plays 1 = .ok (.iconst 0, 1) := by decide +kernel
theorem dL_plays_2 : decode cL_plays 2 = .ok (.invokevirtual 47, 3) := by decide +kernel
theorem dL_plays_5 : decode cL_plays 5 = .ok (.istore_n 1, 1) := by decide +kernel
theorem dL_plays_6 : decode cL_plays 6 = .ok (.aload_n 0, 1) := by decide +kernel
theorem dL_plays_7 : decode cL_plays 7 = .ok (.iconst 1, 1) := by decide +kernel
theorem dL_plays_8 : decode cL_plays 8 = .ok (.invokevirtual 47, 3) := by decide +kernel
theorem dL_plays_11 : decode cL_plays 11 = .ok (.istore_n 2, 1) := by decide +kernel
theorem dL_plays_12 : decode cL_plays 12 = .ok (.aload_n 0, 1) := by decide +kernel
theorem dL_plays_13 : decode cL_plays 13 = .ok (.bipush 9, 2) := by decide +kernel
theorem dL_plays_15 : decode cL_plays 15 = .ok (.invokevirtual 13, 3) := by decide +kernel
theorem dL_plays_18 : decode cL_plays 18 = .ok (.istore_n 3, 1) := by decide +kernel
theorem dL_plays_19 : decode cL_plays 19 = .ok (.aload_n 0, 1) := by decide +kernel
theorem dL_plays_20 : decode cL_plays 20 = .ok (.iconst 0, 1) := by decide +kernel
theorem dL_plays_21 : decode cL_plays 21 = .ok (.invokevirtual 13, 3) := by decide +kernel
theorem dL_plays_24 : decode cL_plays 24 = .ok (.istore 4, 2) := by decide +kernel
theorem dL_plays_26 : decode cL_plays 26 = .ok (.aload_n 0, 1) := by decide +kernel
theorem dL_plays_27 : decode cL_plays 27 = .ok (.invokevirtual 50, 3) := by decide +kernel
theorem dL_plays_30 : decode cL_plays 30 = .ok (.istore 5, 2) := by decide +kernel
theorem dL_plays_32 : decode cL_plays 32 = .ok (.iload_n 1, 1) := by decide +kernel
theorem dL_plays_33 : decode cL_plays 33 = .ok (.ldc 31, 2) := by decide +kernel
theorem dL_plays_35 : decode cL_plays 35 = .ok (.if_icmp .ne 39, 3) := by decide +kernel
theorem dL_plays_38 : decode cL_plays 38 = .ok (.iload_n 2, 1) := by decide +kernel
theorem dL_plays_39 : decode cL_plays 39 = .ok (.ldc 31, 2) := by decide +kernel
theorem dL_plays_41 : decode cL_plays 41 = .ok (.if_icmp .ne 33, 3) := by decide +kernel
theorem dL_plays_44 : decode cL_plays 44 = .ok (.iload 5, 2) := by decide +kernel
theorem dL_plays_46 : decode cL_plays 46 = .ok (.iload 4, 2) := by decide +kernel
theorem dL_plays_48 : decode cL_plays 48 = .ok (.if_icmp .lt 26, 3) := by decide +kernel
theorem dL_plays_51 : decode cL_plays 51 = .ok (.iload 5, 2) := by decide +kernel
theorem dL_plays_53 : decode cL_plays 53 = .ok (.iload 4, 2) := by decide +kernel
theorem dL_plays_55 : decode cL_plays 55 = .ok (.iconst 3, 1) := by decide +kernel
theorem dL_plays_56 : decode cL_plays 56 = .ok (.iadd, 1) := by decide +kernel
theorem dL_plays_57 : decode cL_plays 57 = .ok (.if_icmp .gt 17, 3) := by decide +kernel
theorem dL_plays_60 : decode cL_plays 60 = .ok (.aload_n 0, 1) := by decide +kernel
theorem dL_plays_61 : decode cL_plays 61 = .ok (.iconst 0, 1) := by decide +kernel
theorem dL_plays_62 : decode cL_plays 62 = .ok (.invokevirtual 13, 3) := by decide +kernel
theorem dL_plays_65 : decode cL_plays 65 = .ok (.iload 5, 2) := by decide +kernel
theorem dL_plays_67 : decode cL_plays 67 = .ok (.if_icmp .ne 7, 3) := by decide +kernel
theorem dL_plays_70 : decode cL_plays 70 = .ok (.iconst 1, 1) := by decide +kernel
theorem dL_plays_71 : decode cL_plays 71 = .ok (.goto 4, 3) := by decide +kernel
theorem dL_plays_74 : decode cL_plays 74 = .ok (.iconst 0, 1) := by decide +kernel
theorem dL_plays_75 : decode cL_plays 75 = .ok (.istore 6, 2) := by decide +kernel
theorem dL_plays_77 : decode cL_plays 77 = .ok (.iload_n 1, 1) := by decide +kernel
theorem dL_plays_78 : decode cL_plays 78 = .ok (.ifCond .lt 40, 3) := by decide +kernel
theorem dL_plays_81 : decode cL_plays 81 = .ok (.iload_n 1, 1) := by decide +kernel
theorem dL_plays_82 : decode cL_plays 82 = .ok (.iload_n 3, 1) := by decide +kernel
theorem dL_plays_83 : decode cL_plays 83 = .ok (.if_icmp .ge 35, 3) := by decide +kernel
theorem dL_plays_86 : decode cL_plays 86 = .ok (.iload_n 2, 1) := by decide +kernel
theorem dL_plays_87 : decode cL_plays 87 = .ok (.ifCond .lt 31, 3) := by decide +kernel
theorem dL_plays_90 : decode cL_plays 90 = .ok (.iload_n 1, 1) := by decide +kernel
theorem dL_plays_91 : decode cL_plays 91 = .ok (.iload_n 2, 1) := by decide +kernel
theorem dL_plays_92 : decode cL_plays 92 = .ok (.iadd, 1) := by decide +kernel
theorem dL_plays_93 : decode cL_plays 93 = .ok (.iload_n 3, 1) := by decide +kernel
theorem dL_plays_94 : decode cL_plays 94 = .ok (.if_icmp .gt 24, 3) := by decide +kernel
theorem dL_plays_97 : decode cL_plays 97 = .ok (.iload 5, 2) := by decide +kernel
theorem dL_plays_99 : decode cL_plays 99 = .ok (.ldc 53, 2) := by decide +kernel
theorem dL_plays_101 : decode cL_plays 101 = .ok (.if_icmp .ne 17, 3) := by decide +kernel
theorem dL_plays_104 : decode cL_plays 104 = .ok (.aload_n 0, 1) := by decide +kernel
theorem dL_plays_105 : decode cL_plays 105 = .ok (.iconst 0, 1) := by decide +kernel
theorem dL_plays_106 : decode cL_plays 106 = .ok (.invokevirtual 13, 3) := by decide +kernel
theorem dL_plays_109 : decode cL_plays 109 = .ok (.iload 4, 2) := by decide +kernel
theorem dL_plays_111 : decode cL_plays 111 = .ok (.if_icmp .ne 7, 3) := by decide +kernel
theorem dL_plays_114 : decode cL_plays 114 = .ok (.iconst 1, 1) := by decide +kernel
theorem dL_plays_115 : decode cL_plays 115 = .ok (.goto 4, 3) := by decide +kernel
theorem dL_plays_118 : decode cL_plays 118 = .ok (.iconst 0, 1) := by decide +kernel
theorem dL_plays_119 : decode cL_plays 119 = .ok (.istore 7, 2) := by decide +kernel
theorem dL_plays_121 : decode cL_plays 121 = .ok (.iload 6, 2) := by decide +kernel
theorem dL_plays_123 : decode cL_plays 123 = .ok (.ifCond .ne 8, 3) := by decide +kernel
theorem dL_plays_126 : decode cL_plays 126 = .ok (.iload 7, 2) := by decide +kernel
theorem dL_plays_128 : decode cL_plays 128 = .ok (.ifCond .eq 17, 3) := by decide +kernel
theorem dL_plays_131 : decode cL_plays 131 = .ok (.aload_n 0, 1) := by decide +kernel
theorem dL_plays_132 : decode cL_plays 132 = .ok (.bipush 9, 2) := by decide +kernel
theorem dL_plays_134 : decode cL_plays 134 = .ok (.invokevirtual 13, 3) := by decide +kernel
theorem dL_plays_137 : decode cL_plays 137 = .ok (.iload_n 3, 1) := by decide +kernel
theorem dL_plays_138 : decode cL_plays 138 = .ok (.if_icmp .ne 7, 3) := by decide +kernel
theorem dL_plays_141 : decode cL_plays 141 = .ok (.iconst 1, 1) := by decide +kernel
theorem dL_plays_142 : decode cL_plays 142 = .ok (.goto 4, 3) := by decide +kernel
theorem dL_plays_145 : decode cL_plays 145 = .ok (.iconst 0, 1) := by decide +kernel
theorem dL_plays_146 : decode cL_plays 146 = .ok (.ireturn, 1) := by decide +kernel
theorem dL_acts_0 : decode cL_acts 0 = .ok (.iload_n 1, 1) := by decide +kernel
theorem dL_acts_1 : decode cL_acts 1 = .ok (.bipush 16, 2) := by decide +kernel
theorem dL_acts_3 : decode cL_acts 3 = .ok (.invokestatic 37, 3) := by decide +kernel
theorem dL_acts_6 : decode cL_acts 6 = .ok (.istore_n 3, 1) := by decide +kernel
theorem dL_acts_7 : decode cL_acts 7 = .ok (.iload_n 1, 1) := by decide +kernel
theorem dL_acts_8 : decode cL_acts 8 = .ok (.iconst 4, 1) := by decide +kernel
theorem dL_acts_9 : decode cL_acts 9 = .ok (.ishr, 1) := by decide +kernel
theorem dL_acts_10 : decode cL_acts 10 = .ok (.bipush 11, 2) := by decide +kernel
theorem dL_acts_12 : decode cL_acts 12 = .ok (.invokestatic 37, 3) := by decide +kernel
theorem dL_acts_15 : decode cL_acts 15 = .ok (.istore 4, 2) := by decide +kernel
theorem dL_acts_17 : decode cL_acts 17 = .ok (.iload_n 3, 1) := by decide +kernel
theorem dL_acts_18 : decode cL_acts 18 = .ok (.iconst 2, 1) := by decide +kernel
theorem dL_acts_19 : decode cL_acts 19 = .ok (.if_icmp .ge 53, 3) := by decide +kernel
theorem dL_acts_22 : decode cL_acts 22 = .ok (.aload_n 0, 1) := by decide +kernel
theorem dL_acts_23 : decode cL_acts 23 = .ok (.iload 4, 2) := by decide +kernel
theorem dL_acts_25 : decode cL_acts 25 = .ok (.iload_n 2, 1) := by decide +kernel
theorem dL_acts_26 : decode cL_acts 26 = .ok (.ldc 54, 2) := by decide +kernel
theorem dL_acts_28 : decode cL_acts 28 = .ok (.invokestatic 37, 3) := by decide +kernel
theorem dL_acts_31 : decode cL_acts 31 = .ok (.ldc 55, 2) := by decide +kernel
theorem dL_acts_33 : decode cL_acts 33 = .ok (.isub, 1) := by decide +kernel
theorem dL_acts_34 : decode cL_acts 34 = .ok (.invokevirtual 56, 3) := by decide +kernel
theorem dL_acts_37 : decode cL_acts 37 = .ok (.istore 5, 2) := by decide +kernel
theorem dL_acts_39 : decode cL_acts 39 = .ok (.iload 5, 2) := by decide +kernel
theorem dL_acts_41 : decode cL_acts 41 = .ok (.ldc 59, 2) := by decide +kernel
theorem dL_acts_43 : decode cL_acts 43 = .ok (.if_icmp .eq 23, 3) := by decide +kernel
theorem dL_acts_46 : decode cL_acts 46 = .ok (.iload 5, 2) := by decide +kernel
theorem dL_acts_48 : decode cL_acts 48 = .ok (.aload_n 0, 1) := by decide +kernel
theorem dL_acts_49 : decode cL_acts 49 = .ok (.iconst 0, 1) := by decide +kernel
theorem dL_acts_50 : decode cL_acts 50 = .ok (.invokevirtual 13, 3) := by decide +kernel
theorem dL_acts_53 : decode cL_acts 53 = .ok (.if_icmp .ne 17, 3) := by decide +kernel
theorem dL_acts_56 : decode cL_acts 56 = .ok (.aload_n 0, 1) := by decide +kernel
theorem dL_acts_57 : decode cL_acts 57 = .ok (.iload 4, 2) := by decide +kernel
theorem dL_acts_59 : decode cL_acts 59 = .ok (.iconst 0, 1) := by decide +kernel
theorem dL_acts_60 : decode cL_acts 60 = .ok (.invokevirtual 19, 3) := by decide +kernel
theorem dL_acts_63 : decode cL_acts 63 = .ok (.ifCond .ne 7, 3) := by decide +kernel
theorem dL_acts_66 : decode cL_acts 66 = .ok (.iconst 1, 1) := by decide +kernel
theorem dL_acts_67 : decode cL_acts 67 = .ok (.goto 4, 3) := by decide +kernel
theorem dL_acts_70 : decode cL_acts 70 = .ok (.iconst 0, 1) := by decide +kernel
theorem dL_acts_71 : decode cL_acts 71 = .ok (.ireturn, 1) := by decide +kernel
theorem dL_acts_72 : decode cL_acts 72 = .ok (.iload_n 3, 1) := by decide +kernel
theorem dL_acts_73 : decode cL_acts 73 = .ok (.bipush 6, 2) := by decide +kernel
theorem dL_acts_75 : decode cL_acts 75 = .ok (.if_icmp .ge 105, 3) := by decide +kernel
theorem dL_acts_78 : decode cL_acts 78 = .ok (.iload_n 2, 1) := by decide +kernel
theorem dL_acts_79 : decode cL_acts 79 = .ok (.bipush 6, 2) := by decide +kernel
theorem dL_acts_81 : decode cL_acts 81 = .ok (.invokestatic 37, 3) := by decide +kernel
theorem dL_acts_84 : decode cL_acts 84 = .ok (.istore 5, 2) := by decide +kernel
theorem dL_acts_86 : decode cL_acts 86 = .ok (.aload_n 0, 1) := by decide +kernel
theorem dL_acts_87 : decode cL_acts 87 = .ok (.iload 4, 2) := by decide +kernel
theorem dL_acts_89 : decode cL_acts 89 = .ok (.iload 5, 2) := by decide +kernel
theorem dL_acts_91 : decode cL_acts 91 = .ok (.iload_n 2, 1) := by decide +kernel
theorem dL_acts_92 : decode cL_acts 92 = .ok (.iconst 3, 1) := by decide +kernel
theorem dL_acts_93 : decode cL_acts 93 = .ok (.ishr, 1) := by decide +kernel
theorem dL_acts_94 : decode cL_acts 94 = .ok (.bipush 10, 2) := by decide +kernel
theorem dL_acts_96 : decode cL_acts 96 = .ok (.invokestatic 37, 3) := by decide +kernel
theorem dL_acts_99 : decode cL_acts 99 = .ok (.iload_n 2, 1) := by decide +kernel
theorem dL_acts_100 : decode cL_acts 100 = .ok (.bipush 7, 2) := by decide +kernel
theorem dL_acts_102 : decode cL_acts 102 = .ok (.ishr, 1) := by decide +kernel
theorem dL_acts_103 : decode cL_acts 103 = .ok (.bipush 10, 2) := by decide +kernel
theorem dL_acts_105 : decode cL_acts 105 = .ok (.invokestatic 37, 3) := by decide +kernel
theorem dL_acts_108 : decode cL_acts 108 = .ok (.iload 5, 2) := by decide +kernel
theorem dL_acts_110 : decode cL_acts 110 = .ok (.iconst 4, 1) := by decide +kernel
theorem dL_acts_111 : decode cL_acts 111 = .ok (.if_icmp .ne 15, 3) := by decide +kernel
theorem dL_acts_114 : decode cL_acts 114 = .ok (.iload_n 2, 1) := by decide +kernel
theorem dL_acts_115 : decode cL_acts 115 = .ok (.bipush 11, 2) := by decide +kernel
theorem dL_acts_117 : decode cL_acts 117 = .ok (.ishr, 1) := by decide +kernel
theorem dL_acts_118 : decode cL_acts 118 = .ok (.bipush 10, 2) := by decide +kernel
theorem dL_acts_120 : decode cL_acts 120 = .ok (.invokestatic 37, 3) := by decide +kernel
theorem dL_acts_123 : decode cL_acts 123 = .ok (.goto 15, 3) := by decide +kernel
theorem dL_acts_126 : decode cL_acts 126 = .ok (.iload_n 2, 1) := by decide +kernel
theorem dL_acts_127 : decode cL_acts 127 = .ok (.bipush 11, 2) := by decide +kernel
theorem dL_acts_129 : decode cL_acts 129 = .ok (.ishr, 1) := by decide +kernel
theorem dL_acts_130 : decode cL_acts 130 = .ok (.bipush 16, 2) := by decide +kernel
theorem dL_acts_132 : decode cL_acts 132 = .ok (.invokestatic 37, 3) := by decide +kernel
theorem dL_acts_135 : decode cL_acts 135 = .ok (.bipush 15, 2) := by decide +kernel
theorem dL_acts_137 : decode cL_acts 137 = .ok (.idiv, 1) := by decide +kernel
theorem dL_acts_138 : decode cL_acts 138 = .ok (.invokevirtual 60, 3) := by decide +kernel
theorem dL_acts_141 : decode cL_acts 141 = .ok (.istore 6, 2) := by decide +kernel
theorem dL_acts_143 : decode cL_acts 143 = .ok (.iload 6, 2) := by decide +kernel
theorem dL_acts_145 : decode cL_acts 145 = .ok (.ldc 59, 2) := by decide +kernel
theorem dL_acts_147 : decode cL_acts 147 = .ok (.if_icmp .eq 27, 3) := by decide +kernel
theorem dL_acts_150 : decode cL_acts 150 = .ok (.iload 6, 2) := by decide +kernel
theorem dL_acts_152 : decode cL_acts 152 = .ok (.aload_n 0, 1) := by decide +kernel
theorem dL_acts_153 : decode cL_acts 153 = .ok (.iconst 0, 1) := by decide +kernel
theorem dL_acts_154 : decode cL_acts 154 = .ok (.invokevirtual 13, 3) := by decide +kernel
theorem dL_acts_157 : decode cL_acts 157 = .ok (.if_icmp .ne 21, 3) := by decide +kernel
theorem dL_acts_160 : decode cL_acts 160 = .ok (.aload_n 0, 1) := by decide +kernel
theorem dL_acts_161 : decode cL_acts 161 = .ok (.iload 4, 2) := by decide +kernel
theorem dL_acts_163 : decode cL_acts 163 = .ok (.iconst 0, 1) := by decide +kernel
theorem dL_acts_164 : decode cL_acts 164 = .ok (.invokevirtual 19, 3) := by decide +kernel
theorem dL_acts_167 : decode cL_acts 167 = .ok (.iload 5, 2) := by decide +kernel
theorem dL_acts_169 : decode cL_acts 169 = .ok (.iconst 1, 1) := by decide +kernel
theorem dL_acts_170 : decode cL_acts 170 = .ok (.iadd, 1) := by decide +kernel
theorem dL_acts_171 : decode cL_acts 171 = .ok (.if_icmp .ne 7, 3) := by decide +kernel
theorem dL_acts_174 : decode cL_acts 174 = .ok (.iconst 1, 1) := by decide +kernel
theorem dL_acts_175 : decode cL_acts 175 = .ok (.goto 4, 3) := by decide +kernel
theorem dL_acts_178 : decode cL_acts 178 = .ok (.iconst 0, 1) := by decide +kernel
theorem dL_acts_179 : decode cL_acts 179 = .ok (.ireturn, 1) := by decide +kernel
theorem dL_acts_180 : decode cL_acts 180 = .ok (.iload_n 3, 1) := by decide +kernel
theorem dL_acts_181 : decode cL_acts 181 = .ok (.bipush 11, 2) := by decide +kernel
theorem dL_acts_183 : decode cL_acts 183 = .ok (.if_icmp .ge 65, 3) := by decide +kernel
theorem dL_acts_186 : decode cL_acts 186 = .ok (.aload_n 0, 1) := by decide +kernel
theorem dL_acts_187 : decode cL_acts 187 = .ok (.iload 4, 2) := by decide +kernel
theorem dL_acts_189 : decode cL_acts 189 = .ok (.invokevirtual 32, 3) := by decide +kernel
theorem dL_acts_192 : decode cL_acts 192 = .ok (.istore 5, 2) := by decide +kernel
theorem dL_acts_194 : decode cL_acts 194 = .ok (.aload_n 0, 1) := by decide +kernel
theorem dL_acts_195 : decode cL_acts 195 = .ok (.iload 4, 2) := by decide +kernel
theorem dL_acts_197 : decode cL_acts 197 = .ok (.invokevirtual 64, 3) := by decide +kernel
theorem dL_acts_200 : decode cL_acts 200 = .ok (.istore 6, 2) := by decide +kernel
theorem dL_acts_202 : decode cL_acts 202 = .ok (.iload 6, 2) := by decide +kernel
theorem dL_acts_204 : decode cL_acts 204 = .ok (.iload 5, 2) := by decide +kernel
theorem dL_acts_206 : decode cL_acts 206 = .ok (.ldc 35, 2) := by decide +kernel
theorem dL_acts_208 : decode cL_acts 208 = .ok (.if_icmp .ne 8, 3) := by decide +kernel
theorem dL_acts_211 : decode cL_acts 211 = .ok (.ldc 36, 2) := by decide +kernel
theorem dL_acts_213 : decode cL_acts 213 = .ok (.goto 5, 3) := by decide +kernel
theorem dL_acts_216 : decode cL_acts 216 = .ok (.iload 5, 2) := by decide +kernel
theorem dL_acts_218 : decode cL_acts 218 = .ok (.if_icmp .ne 28, 3) := by decide +kernel
theorem dL_acts_221 : decode cL_acts 221 = .ok (.iload 6, 2) := by decide +kernel
theorem dL_acts_223 : decode cL_acts 223 = .ok (.ldc 67, 2) := by decide +kernel
theorem dL_acts_225 : decode cL_acts 225 = .ok (.if_icmp .lt 17, 3) := by decide +kernel
theorem dL_acts_228 : decode cL_acts 228 = .ok (.aload_n 0, 1) := by decide +kernel
theorem dL_acts_229 : decode cL_acts 229 = .ok (.iconst 1, 1) := by decide +kernel
theorem dL_acts_230 : decode cL_acts 230 = .ok (.invokevirtual 13, 3) := by decide +kernel
theorem dL_acts_233 : decode cL_acts 233 = .ok (.aload_n 0, 1) := by decide +kernel
theorem dL_acts_234 : decode cL_acts 234 = .ok (.bipush 6, 2) := by decide +kernel
theorem dL_acts_236 : decode cL_acts 236 = .ok (.invokevirtual 13, 3) := by decide +kernel
theorem dL_acts_239 : decode cL_acts 239 = .ok (.if_icmp .gt 7, 3) := by decide +kernel
theorem dL_acts_242 : decode cL_acts 242 = .ok (.iconst 1, 1) := by decide +kernel
theorem dL_acts_243 : decode cL_acts 243 = .ok (.goto 4, 3) := by decide +kernel
theorem dL_acts_246 : decode cL_acts 246 = .ok (.iconst 0, 1) := by decide +kernel
theorem dL_acts_247 : decode cL_acts 247 = .ok (.ireturn, 1) := by decide +kernel
theorem dL_acts_248 : decode cL_acts 248 = .ok (.iload_n 3, 1) := by decide +kernel
theorem dL_acts_249 : decode cL_acts 249 = .ok (.bipush 11, 2) := by decide +kernel
theorem dL_acts_251 : decode cL_acts 251 = .ok (.if_icmp .ne 91, 3) := by decide +kernel
theorem dL_acts_254 : decode cL_acts 254 = .ok (.aload_n 0, 1) := by decide +kernel
theorem dL_acts_255 : decode cL_acts 255 = .ok (.iconst 1, 1) := by decide +kernel
theorem dL_acts_256 : decode cL_acts 256 = .ok (.invokevirtual 13, 3) := by decide +kernel
theorem dL_acts_259 : decode cL_acts 259 = .ok (.istore 5, 2) := by decide +kernel
theorem dL_acts_261 : decode cL_acts 261 = .ok (.aload_n 0, 1) := by decide +kernel
theorem dL_acts_262 : decode cL_acts 262 = .ok (.iconst 5, 1) := by decide +kernel
theorem dL_acts_263 : decode cL_acts 263 = .ok (.invokevirtual 13, 3) := by decide +kernel
theorem dL_acts_266 : decode cL_acts 266 = .ok (.istore 6, 2) := by decide +kernel
theorem dL_acts_268 : decode cL_acts 268 = .ok (.aload_n 0, 1) := by decide +kernel
theorem dL_acts_269 : decode cL_acts 269 = .ok (.iload 4, 2) := by decide +kernel
theorem dL_acts_271 : decode cL_acts 271 = .ok (.invokevirtual 68, 3) := by decide +kernel
theorem dL_acts_274 : decode cL_acts 274 = .ok (.istore 7, 2) := by decide +kernel
theorem dL_acts_276 : decode cL_acts 276 = .ok (.iload 7, 2) := by decide +kernel
theorem dL_acts_278 : decode cL_acts 278 = .ok (.ifCond .ge 25, 3) := by decide +kernel
theorem dL_acts_281 : decode cL_acts 281 = .ok (.iload 7, 2) := by decide +kernel
theorem dL_acts_283 : decode cL_acts 283 = .ok (.ldc 59, 2) := by decide +kernel
theorem dL_acts_285 : decode cL_acts 285 = .ok (.if_icmp .eq 10, 3) := by decide +kernel
theorem dL_acts_288 : decode cL_acts 288 = .ok (.iload 7, 2) := by decide +kernel
theorem dL_acts_290 : decode cL_acts 290 = .ok (.ldc 53, 2) := by decide +kernel
theorem dL_acts_292 : decode cL_acts 292 = .ok (.if_icmp .ne 7, 3) := by decide +kernel
theorem dL_acts_295 : decode cL_acts 295 = .ok (.iconst 1, 1) := by decide +kernel
theorem dL_acts_296 : decode cL_acts 296 = .ok (.goto 45, 3) := by decide +kernel
theorem dL_acts_299 : decode cL_acts 299 = .ok (.iconst 0, 1) := by decide +kernel
theorem dL_acts_300 : decode cL_acts 300 = .ok (.goto 41, 3) := by decide +kernel
theorem dL_acts_303 : decode cL_acts 303 = .ok (.iload 7, 2) := by decide +kernel
theorem dL_acts_305 : decode cL_acts 305 = .ok (.iload 5, 2) := by decide +kernel
theorem dL_acts_307 : decode cL_acts 307 = .ok (.iconst 1, 1) := by decide +kernel
theorem dL_acts_308 : decode cL_acts 308 = .ok (.isub, 1) := by decide +kernel
theorem dL_acts_309 : decode cL_acts 309 = .ok (.if_icmp .ne 31, 3) := by decide +kernel
theorem dL_acts_312 : decode cL_acts 312 = .ok (.aload_n 0, 1) := by decide +kernel
theorem dL_acts_313 : decode cL_acts 313 = .ok (.iconst 5, 1) := by decide +kernel
theorem dL_acts_314 : decode cL_acts 314 = .ok (.invokevirtual 13, 3) := by decide +kernel
theorem dL_acts_317 : decode cL_acts 317 = .ok (.iload 6, 2) := by decide +kernel
theorem dL_acts_319 : decode cL_acts 319 = .ok (.iconst 1, 1) := by decide +kernel
theorem dL_acts_320 : decode cL_acts 320 = .ok (.iadd, 1) := by decide +kernel
theorem dL_acts_321 : decode cL_acts 321 = .ok (.if_icmp .ne 19, 3) := by decide +kernel
theorem dL_acts_324 : decode cL_acts 324 = .ok (.aload_n 0, 1) := by decide +kernel
theorem dL_acts_325 : decode cL_acts 325 = .ok (.iload 4, 2) := by decide +kernel
theorem dL_acts_327 : decode cL_acts 327 = .ok (.iconst 0, 1) := by decide +kernel
theorem dL_acts_328 : decode cL_acts 328 = .ok (.invokevirtual 23, 3) := by decide +kernel
theorem dL_acts_331 : decode cL_acts 331 = .ok (.ldc 31, 2) := by decide +kernel
theorem dL_acts_333 : decode cL_acts 333 = .ok (.if_icmp .ne 7, 3) := by decide +kernel
theorem dL_acts_336 : decode cL_acts 336 = .ok (.iconst 1, 1) := by decide +kernel
theorem dL_acts_337 : decode cL_acts 337 = .ok (.goto 4, 3) := by decide +kernel
theorem dL_acts_340 : decode cL_acts 340 = .ok (.iconst 0, 1) := by decide +kernel
theorem dL_acts_341 : decode cL_acts 341 = .ok (.ireturn, 1) := by decide +kernel
theorem dL_acts_342 : decode cL_acts 342 = .ok (.iload_n 3, 1) := by decide +kernel
theorem dL_acts_343 : decode cL_acts 343 = .ok (.bipush 12, 2) := by decide +kernel
theorem dL_acts_345 : decode cL_acts 345 = .ok (.if_icmp .ne 82, 3) := by decide +kernel
theorem dL_acts_348 : decode cL_acts 348 = .ok (.aload_n 0, 1) := by decide +kernel
theorem dL_acts_349 : decode cL_acts 349 = .ok (.bipush 6, 2) := by decide +kernel
theorem dL_acts_351 : decode cL_acts 351 = .ok (.invokevirtual 13, 3) := by decide +kernel
theorem dL_acts_354 : decode cL_acts 354 = .ok (.istore 5, 2) := by decide +kernel
theorem dL_acts_356 : decode cL_acts 356 = .ok (.aload_n 0, 1) := by decide +kernel
theorem dL_acts_357 : decode cL_acts 357 = .ok (.iload_n 2, 1) := by decide +kernel
theorem dL_acts_358 : decode cL_acts 358 = .ok (.bipush 12, 2) := by decide +kernel
theorem dL_acts_360 : decode cL_acts 360 = .ok (.invokestatic 37, 3) := by decide +kernel
theorem dL_acts_363 : decode cL_acts 363 = .ok (.invokevirtual 71, 3) := by decide +kernel
theorem dL_acts_366 : decode cL_acts 366 = .ok (.istore 6, 2) := by decide +kernel
theorem dL_acts_368 : decode cL_acts 368 = .ok (.iload 6, 2) := by decide +kernel
theorem dL_acts_370 : decode cL_acts 370 = .ok (.ifCond .ge 29, 3) := by decide +kernel
theorem dL_acts_373 : decode cL_acts 373 = .ok (.iload 6, 2) := by decide +kernel
theorem dL_acts_375 : decode cL_acts 375 = .ok (.ldc 59, 2) := by decide +kernel
theorem dL_acts_377 : decode cL_acts 377 = .ok (.if_icmp .ne 18, 3) := by decide +kernel
theorem dL_acts_380 : decode cL_acts 380 = .ok (.iload_n 2, 1) := by decide +kernel
theorem dL_acts_381 : decode cL_acts 381 = .ok (.bipush 12, 2) := by decide +kernel
theorem dL_acts_383 : decode cL_acts 383 = .ok (.invokestatic 37, 3) := by decide +kernel
theorem dL_acts_386 : decode cL_acts 386 = .ok (.bipush 11, 2) := by decide +kernel
theorem dL_acts_388 : decode cL_acts 388 = .ok (.if_icmp .ne 7, 3) := by decide +kernel
theorem dL_acts_391 : decode cL_acts 391 = .ok (.iconst 1, 1) := by decide +kernel
theorem dL_acts_392 : decode cL_acts 392 = .ok (.goto 34, 3) := by decide +kernel
theorem dL_acts_395 : decode cL_acts 395 = .ok (.iconst 0, 1) := by decide +kernel
theorem dL_acts_396 : decode cL_acts 396 = .ok (.goto 30, 3) := by decide +kernel
theorem dL_acts_399 : decode cL_acts 399 = .ok (.iload 6, 2) := by decide +kernel
theorem dL_acts_401 : decode cL_acts 401 = .ok (.iload 5, 2) := by decide +kernel
theorem dL_acts_403 : decode cL_acts 403 = .ok (.if_icmp .ne 22, 3) := by decide +kernel
theorem dL_acts_406 : decode cL_acts 406 = .ok (.aload_n 0, 1) := by decide +kernel
theorem dL_acts_407 : decode cL_acts 407 = .ok (.bipush 6, 2) := by decide +kernel
theorem dL_acts_409 : decode cL_acts 409 = .ok (.invokevirtual 13, 3) := by decide +kernel
theorem dL_acts_412 : decode cL_acts 412 = .ok (.iload_n 2, 1) := by decide +kernel
theorem dL_acts_413 : decode cL_acts 413 = .ok (.bipush 12, 2) := by decide +kernel
theorem dL_acts_415 : decode cL_acts 415 = .ok (.invokestatic 37, 3) := by decide +kernel
theorem dL_acts_418 : decode cL_acts 418 = .ok (.if_icmp .ne 7, 3) := by decide +kernel
theorem dL_acts_421 : decode cL_acts 421 = .ok (.iconst 1, 1) := by decide +kernel
theorem dL_acts_422 : decode cL_acts 422 = .ok (.goto 4, 3) := by decide +kernel
theorem dL_acts_425 : decode cL_acts 425 = .ok (.iconst 0, 1) := by decide +kernel
theorem dL_acts_426 : decode cL_acts 426 = .ok (.ireturn, 1) := by decide +kernel
theorem dL_acts_427 : decode cL_acts 427 = .ok (.aload_n 0, 1) := by decide +kernel
theorem dL_acts_428 : decode cL_acts 428 = .ok (.iload_n 2, 1) := by decide +kernel
theorem dL_acts_429 : decode cL_acts 429 = .ok (.invokestatic 74, 3) := by decide +kernel
theorem dL_acts_432 : decode cL_acts 432 = .ok (.ifCond .eq 14, 3) := by decide +kernel
theorem dL_acts_435 : decode cL_acts 435 = .ok (.aload_n 0, 1) := by decide +kernel
theorem dL_acts_436 : decode cL_acts 436 = .ok (.invokestatic 78, 3) := by decide +kernel
theorem dL_acts_439 : decode cL_acts 439 = .ok (.ifCond .eq 7, 3) := by decide +kernel
theorem dL_acts_442 : decode cL_acts 442 = .ok (.iconst 1, 1) := by decide +kernel
theorem dL_acts_443 : decode cL_acts 443 = .ok (.goto 4, 3) := by decide +kernel
theorem dL_acts_446 : decode cL_acts 446 = .ok (.iconst 0, 1) := by decide +kernel
theorem dL_acts_447 : decode cL_acts 447 = .ok (.ireturn, 1) := by decide +kernel
theorem dL_law_0 : decode cL_law 0 = .ok (.new 14, 3) := by decide +kernel
theorem dL_law_3 : decode cL_law 3 = .ok (.dup, 1) := by decide +kernel
theorem dL_law_4 : decode cL_law 4 = .ok (.invokespecial 82, 3) := by decide +kernel
theorem dL_law_7 : decode cL_law 7 = .ok (.astore_n 1, 1) := by decide +kernel
theorem dL_law_8 : decode cL_law 8 = .ok (.aload_n 1, 1) := by decide +kernel
theorem dL_law_9 : decode cL_law 9 = .ok (.invokestatic 83, 3) := by decide +kernel
theorem dL_law_12 : decode cL_law 12 = .ok (.ifCond .eq 16, 3) := by decide +kernel
theorem dL_law_15 : decode cL_law 15 = .ok (.aload_n 1, 1) := by decide +kernel
theorem dL_law_16 : decode cL_law 16 = .ok (.invokevirtual 86, 3) := by decide +kernel
theorem dL_law_19 : decode cL_law 19 = .ok (.ldc 53, 2) := by decide +kernel
theorem dL_law_21 : decode cL_law 21 = .ok (.if_icmp .ne 7, 3) := by decide +kernel
theorem dL_law_24 : decode cL_law 24 = .ok (.iconst 1, 1) := by decide +kernel
theorem dL_law_25 : decode cL_law 25 = .ok (.goto 4, 3) := by decide +kernel
theorem dL_law_28 : decode cL_law 28 = .ok (.iconst 0, 1) := by decide +kernel
theorem dL_law_29 : decode cL_law 29 = .ok (.istore_n 2, 1) := by decide +kernel
theorem dL_law_30 : decode cL_law 30 = .ok (.iconst 0, 1) := by decide +kernel
theorem dL_law_31 : decode cL_law 31 = .ok (.istore_n 3, 1) := by decide +kernel
theorem dL_law_32 : decode cL_law 32 = .ok (.iload_n 3, 1) := by decide +kernel
theorem dL_law_33 : decode cL_law 33 = .ok (.bipush 30, 2) := by decide +kernel
theorem dL_law_35 : decode cL_law 35 = .ok (.if_icmp .ge 235, 3) := by decide +kernel
theorem dL_law_38 : decode cL_law 38 = .ok (.iload_n 2, 1) := by decide +kernel
theorem dL_law_39 : decode cL_law 39 = .ok (.ifCond .eq 231, 3) := by decide +kernel
theorem dL_law_42 : decode cL_law 42 = .ok (.aload_n 0, 1) := by decide +kernel
theorem dL_law_43 : decode cL_law 43 = .ok (.iconst 2, 1) := by decide +kernel
theorem dL_law_44 : decode cL_law 44 = .ok (.iload_n 3, 1) := by decide +kernel
theorem dL_law_45 : decode cL_law 45 = .ok (.imul, 1) := by decide +kernel
theorem dL_law_46 : decode cL_law 46 = .ok (.invokestatic 89, 3) := by decide +kernel
theorem dL_law_49 : decode cL_law 49 = .ok (.istore 4, 2) := by decide +kernel
theorem dL_law_51 : decode cL_law 51 = .ok (.aload_n 0, 1) := by decide +kernel
theorem dL_law_52 : decode cL_law 52 = .ok (.iconst 2, 1) := by decide +kernel
theorem dL_law_53 : decode cL_law 53 = .ok (.iload_n 3, 1) := by decide +kernel
theorem dL_law_54 : decode cL_law 54 = .ok (.imul, 1) := by decide +kernel
theorem dL_law_55 : decode cL_law 55 = .ok (.iconst 1, 1) := by decide +kernel
theorem dL_law_56 : decode cL_law 56 = .ok (.iadd, 1) := by decide +kernel
theorem dL_law_57 : decode cL_law 57 = .ok (.invokestatic 89, 3) := by decide +kernel
theorem dL_law_60 : decode cL_law 60 = .ok (.istore 5, 2) := by decide +kernel
theorem dL_law_62 : decode cL_law 62 = .ok (.aload_n 1, 1) := by decide +kernel
theorem dL_law_63 : decode cL_law 63 = .ok (.invokestatic 93, 3) := by decide +kernel
theorem dL_law_66 : decode cL_law 66 = .ok (.lstore 6, 2) := by decide +kernel
theorem dL_law_68 : decode cL_law 68 = .ok (.aload_n 1, 1) := by decide +kernel
theorem dL_law_69 : decode cL_law 69 = .ok (.bipush 8, 2) := by decide +kernel
theorem dL_law_71 : decode cL_law 71 = .ok (.invokevirtual 13, 3) := by decide +kernel
theorem dL_law_74 : decode cL_law 74 = .ok (.istore 8, 2) := by decide +kernel
theorem dL_law_76 : decode cL_law 76 = .ok (.aload_n 1, 1) := by decide +kernel
theorem dL_law_77 : decode cL_law 77 = .ok (.iload_n 3, 1) := by decide +kernel
theorem dL_law_78 : decode cL_law 78 = .ok (.bipush 8, 2) := by decide +kernel
theorem dL_law_80 : decode cL_law 80 = .ok (.if_icmp .ge 15, 3) := by decide +kernel
theorem dL_law_83 : decode cL_law 83 = .ok (.iload 4, 2) := by decide +kernel
theorem dL_law_85 : decode cL_law 85 = .ok (.bipush (-16), 2) := by decide +kernel
theorem dL_law_87 : decode cL_law 87 = .ok (.iand, 1) := by decide +kernel
theorem dL_law_88 : decode cL_law 88 = .ok (.iload_n 3, 1) := by decide +kernel
theorem dL_law_89 : decode cL_law 89 = .ok (.iconst 5, 1) := by decide +kernel
theorem dL_law_90 : decode cL_law 90 = .ok (.irem, 1) := by decide +kernel
theorem dL_law_91 : decode cL_law 91 = .ok (.ior, 1) := by decide +kernel
theorem dL_law_92 : decode cL_law 92 = .ok (.goto 5, 3) := by decide +kernel
theorem dL_law_95 : decode cL_law 95 = .ok (.iload 4, 2) := by decide +kernel
theorem dL_law_97 : decode cL_law 97 = .ok (.iload 5, 2) := by decide +kernel
theorem dL_law_99 : decode cL_law 99 = .ok (.invokestatic 97, 3) := by decide +kernel
theorem dL_law_102 : decode cL_law 102 = .ok (.ifCond .eq 14, 3) := by decide +kernel
theorem dL_law_105 : decode cL_law 105 = .ok (.aload_n 1, 1) := by decide +kernel
theorem dL_law_106 : decode cL_law 106 = .ok (.invokestatic 83, 3) := by decide +kernel
theorem dL_law_109 : decode cL_law 109 = .ok (.ifCond .eq 7, 3) := by decide +kernel
theorem dL_law_112 : decode cL_law 112 = .ok (.iconst 1, 1) := by decide +kernel
theorem dL_law_113 : decode cL_law 113 = .ok (.goto 4, 3) := by decide +kernel
theorem dL_law_116 : decode cL_law 116 = .ok (.iconst 0, 1) := by decide +kernel
theorem dL_law_117 : decode cL_law 117 = .ok (.istore_n 2, 1) := by decide +kernel
theorem dL_law_118 : decode cL_law 118 = .ok (.aload_n 1, 1) := by decide +kernel
theorem dL_law_119 : decode cL_law 119 = .ok (.bipush 8, 2) := by decide +kernel
theorem dL_law_121 : decode cL_law 121 = .ok (.invokevirtual 13, 3) := by decide +kernel
theorem dL_law_124 : decode cL_law 124 = .ok (.istore 9, 2) := by decide +kernel
theorem dL_law_126 : decode cL_law 126 = .ok (.iload_n 2, 1) := by decide +kernel
theorem dL_law_127 : decode cL_law 127 = .ok (.ifCond .eq 39, 3) := by decide +kernel
theorem dL_law_130 : decode cL_law 130 = .ok (.iload 9, 2) := by decide +kernel
theorem dL_law_132 : decode cL_law 132 = .ok (.iload 8, 2) := by decide +kernel
theorem dL_law_134 : decode cL_law 134 = .ok (.if_icmp .ne 19, 3) := by decide +kernel
theorem dL_law_137 : decode cL_law 137 = .ok (.iload 8, 2) := by decide +kernel
theorem dL_law_139 : decode cL_law 139 = .ok (.iconst 4, 1) := by decide +kernel
theorem dL_law_140 : decode cL_law 140 = .ok (.if_icmp .eq 22, 3) := by decide +kernel
theorem dL_law_143 : decode cL_law 143 = .ok (.aload_n 1, 1) := by decide +kernel
theorem dL_law_144 : decode cL_law 144 = .ok (.invokestatic 93, 3) := by decide +kernel
theorem dL_law_147 : decode cL_law 147 = .ok (.lload 6, 2) := by decide +kernel
theorem dL_law_149 : decode cL_law 149 = .ok (.lcmp, 1) := by decide +kernel
theorem dL_law_150 : decode cL_law 150 = .ok (.ifCond .eq 12, 3) := by decide +kernel
theorem dL_law_153 : decode cL_law 153 = .ok (.iload 9, 2) := by decide +kernel
theorem dL_law_155 : decode cL_law 155 = .ok (.iload 8, 2) := by decide +kernel
theorem dL_law_157 : decode cL_law 157 = .ok (.iconst 1, 1) := by decide +kernel
theorem dL_law_158 : decode cL_law 158 = .ok (.iadd, 1) := by decide +kernel
theorem dL_law_159 : decode cL_law 159 = .ok (.if_icmp .ne 7, 3) := by decide +kernel
theorem dL_law_162 : decode cL_law 162 = .ok (.iconst 1, 1) := by decide +kernel
theorem dL_law_163 : decode cL_law 163 = .ok (.goto 4, 3) := by decide +kernel
theorem dL_law_166 : decode cL_law 166 = .ok (.iconst 0, 1) := by decide +kernel
theorem dL_law_167 : decode cL_law 167 = .ok (.istore_n 2, 1) := by decide +kernel
theorem dL_law_168 : decode cL_law 168 = .ok (.iload_n 2, 1) := by decide +kernel
theorem dL_law_169 : decode cL_law 169 = .ok (.ifCond .eq 49, 3) := by decide +kernel
theorem dL_law_172 : decode cL_law 172 = .ok (.iload 9, 2) := by decide +kernel
theorem dL_law_174 : decode cL_law 174 = .ok (.iload 8, 2) := by decide +kernel
theorem dL_law_176 : decode cL_law 176 = .ok (.iconst 1, 1) := by decide +kernel
theorem dL_law_177 : decode cL_law 177 = .ok (.iadd, 1) := by decide +kernel
theorem dL_law_178 : decode cL_law 178 = .ok (.if_icmp .ne 40, 3) := by decide +kernel
theorem dL_law_181 : decode cL_law 181 = .ok (.iload 5, 2) := by decide +kernel
theorem dL_law_183 : decode cL_law 183 = .ok (.bipush 8, 2) := by decide +kernel
theorem dL_law_185 : decode cL_law 185 = .ok (.ishr, 1) := by decide +kernel
theorem dL_law_186 : decode cL_law 186 = .ok (.iconst 2, 1) := by decide +kernel
theorem dL_law_187 : decode cL_law 187 = .ok (.invokestatic 37, 3) := by decide +kernel
theorem dL_law_190 : decode cL_law 190 = .ok (.ifCond .ne 28, 3) := by decide +kernel
theorem dL_law_193 : decode cL_law 193 = .ok (.aload_n 1, 1) := by decide +kernel
theorem dL_law_194 : decode cL_law 194 = .ok (.invokevirtual 86, 3) := by decide +kernel
theorem dL_law_197 : decode cL_law 197 = .ok (.iload 8, 2) := by decide +kernel
theorem dL_law_199 : decode cL_law 199 = .ok (.if_icmp .ne 17, 3) := by decide +kernel
theorem dL_law_202 : decode cL_law 202 = .ok (.aload_n 1, 1) := by decide +kernel
theorem dL_law_203 : decode cL_law 203 = .ok (.invokestatic 93, 3) := by decide +kernel
theorem dL_law_206 : decode cL_law 206 = .ok (.lload 6, 2) := by decide +kernel
theorem dL_law_208 : decode cL_law 208 = .ok (.lcmp, 1) := by decide +kernel
theorem dL_law_209 : decode cL_law 209 = .ok (.ifCond .ne 7, 3) := by decide +kernel
theorem dL_law_212 : decode cL_law 212 = .ok (.iconst 1, 1) := by decide +kernel
theorem dL_law_213 : decode cL_law 213 = .ok (.goto 4, 3) := by decide +kernel
theorem dL_law_216 : decode cL_law 216 = .ok (.iconst 0, 1) := by decide +kernel
theorem dL_law_217 : decode cL_law 217 = .ok (.istore_n 2, 1) := by decide +kernel
theorem dL_law_218 : decode cL_law 218 = .ok (.iload_n 2, 1) := by decide +kernel
theorem dL_law_219 : decode cL_law 219 = .ok (.ifCond .eq 45, 3) := by decide +kernel
theorem dL_law_222 : decode cL_law 222 = .ok (.iload_n 3, 1) := by decide +kernel
theorem dL_law_223 : decode cL_law 223 = .ok (.iconst 4, 1) := by decide +kernel
theorem dL_law_224 : decode cL_law 224 = .ok (.irem, 1) := by decide +kernel
theorem dL_law_225 : decode cL_law 225 = .ok (.iconst 3, 1) := by decide +kernel
theorem dL_law_226 : decode cL_law 226 = .ok (.if_icmp .ne 38, 3) := by decide +kernel
theorem dL_law_229 : decode cL_law 229 = .ok (.aload_n 1, 1) := by decide +kernel
theorem dL_law_230 : decode cL_law 230 = .ok (.bipush 8, 2) := by decide +kernel
theorem dL_law_232 : decode cL_law 232 = .ok (.invokevirtual 13, 3) := by decide +kernel
theorem dL_law_235 : decode cL_law 235 = .ok (.istore 10, 2) := by decide +kernel
theorem dL_law_237 : decode cL_law 237 = .ok (.aload_n 1, 1) := by decide +kernel
theorem dL_law_238 : decode cL_law 238 = .ok (.invokevirtual 86, 3) := by decide +kernel
theorem dL_law_241 : decode cL_law 241 = .ok (.iload 10, 2) := by decide +kernel
theorem dL_law_243 : decode cL_law 243 = .ok (.ifCond .ne 8, 3) := by decide +kernel
theorem dL_law_246 : decode cL_law 246 = .ok (.ldc 53, 2) := by decide +kernel
theorem dL_law_248 : decode cL_law 248 = .ok (.goto 7, 3) := by decide +kernel
theorem dL_law_251 : decode cL_law 251 = .ok (.iload 10, 2) := by decide +kernel
theorem dL_law_253 : decode cL_law 253 = .ok (.iconst 1, 1) := by decide +kernel
theorem dL_law_254 : decode cL_law 254 = .ok (.isub, 1) := by decide +kernel
theorem dL_law_255 : decode cL_law 255 = .ok (.if_icmp .ne 7, 3) := by decide +kernel
theorem dL_law_258 : decode cL_law 258 = .ok (.iconst 1, 1) := by decide +kernel
theorem dL_law_259 : decode cL_law 259 = .ok (.goto 4, 3) := by decide +kernel
theorem dL_law_262 : decode cL_law 262 = .ok (.iconst 0, 1) := by decide +kernel
theorem dL_law_263 : decode cL_law 263 = .ok (.istore_n 2, 1) := by decide +kernel
theorem dL_law_264 : decode cL_law 264 = .ok (.iinc 3 1, 3) := by decide +kernel
theorem dL_law_267 : decode cL_law 267 = .ok (.goto (-235), 3) := by decide +kernel
theorem dL_law_270 : decode cL_law 270 = .ok (.iload_n 2, 1) := by decide +kernel
theorem dL_law_271 : decode cL_law 271 = .ok (.ireturn, 1) := by decide +kernel
