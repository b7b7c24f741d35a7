theorem dX10_parts_171 : decode cX10_parts 171 = .ok (.if_icmp .ge 8, 3) := by decide +kernel
theorem dX10_parts_174 : decode cX10_parts 174 = .ok (.iload 7, 2) := by decide +kernel
theorem dX10_parts_176 : decode cX10_parts 176 = .ok (.goto 16, 3) := by decide +kernel
theorem dX10_parts_179 : decode cX10_parts 179 = .ok (.aload_n 0, 1) := by decide +kernel
theorem dX10_parts_180 : decode cX10_parts 180 = .ok (.getfield 68, 3) := by decide +kernel
theorem dX10_parts_183 : decode cX10_parts 183 = .ok (.bipush 13, 2) := by decide +kernel
theorem dX10_parts_185 : decode cX10_parts 185 = .ok (.iload 4, 2) := by decide +kernel
theorem dX10_parts_187 : decode cX10_parts 187 = .ok (.imul, 1) := by decide +kernel
theorem dX10_parts_188 : decode cX10_parts 188 = .ok (.iload 5, 2) := by decide +kernel
theorem dX10_parts_190 : decode cX10_parts 190 = .ok (.iadd, 1) := by decide +kernel
theorem dX10_parts_191 : decode cX10_parts 191 = .ok (.iaload, 1) := by decide +kernel
theorem dX10_parts_192 : decode cX10_parts 192 = .ok (.iastore, 1) := by decide +kernel
theorem dX10_parts_193 : decode cX10_parts 193 = .ok (.iinc 6 1, 3) := by decide +kernel
theorem dX10_parts_196 : decode cX10_parts 196 = .ok (.goto (-101), 3) := by decide +kernel
theorem dX10_parts_199 : decode cX10_parts 199 = .ok (.iinc 5 1, 3) := by decide +kernel
theorem dX10_parts_202 : decode cX10_parts 202 = .ok (.goto (-119), 3) := by decide +kernel
theorem dX10_parts_205 : decode cX10_parts 205 = .ok (.iinc 4 1, 3) := by decide +kernel
theorem dX10_parts_208 : decode cX10_parts 208 = .ok (.goto (-134), 3) := by decide +kernel
theorem dX10_parts_211 : decode cX10_parts 211 = .ok (.aload_n 0, 1) := by decide +kernel
theorem dX10_parts_212 : decode cX10_parts 212 = .ok (.getfield 68, 3) := by decide +kernel
theorem dX10_parts_215 : decode cX10_parts 215 = .ok (.bipush 13, 2) := by decide +kernel
theorem dX10_parts_217 : decode cX10_parts 217 = .ok (.iload_n 1, 1) := by decide +kernel
theorem dX10_parts_218 : decode cX10_parts 218 = .ok (.imul, 1) := by decide +kernel
theorem dX10_parts_219 : decode cX10_parts 219 = .ok (.iaload, 1) := by decide +kernel
theorem dX10_parts_220 : decode cX10_parts 220 = .ok (.istore 4, 2) := by decide +kernel
theorem dX10_parts_222 : decode cX10_parts 222 = .ok (.iload_n 2, 1) := by decide +kernel
theorem dX10_parts_223 : decode cX10_parts 223 = .ok (.ifCond .ne 6, 3) := by decide +kernel
theorem dX10_parts_226 : decode cX10_parts 226 = .ok (.iload 4, 2) := by decide +kernel
theorem dX10_parts_228 : decode cX10_parts 228 = .ok (.ireturn, 1) := by decide +kernel
theorem dX10_parts_229 : decode cX10_parts 229 = .ok (.iconst 1, 1) := by decide +kernel
theorem dX10_parts_230 : decode cX10_parts 230 = .ok (.istore 5, 2) := by decide +kernel
theorem dX10_parts_232 : decode cX10_parts 232 = .ok (.aload_n 0, 1) := by decide +kernel
theorem dX10_parts_233 : decode cX10_parts 233 = .ok (.iconst 0, 1) := by decide +kernel
theorem dX10_parts_234 : decode cX10_parts 234 = .ok (.iload 5, 2) := by decide +kernel
theorem dX10_parts_236 : decode cX10_parts 236 = .ok (.invokevirtual 284, 3) := by decide +kernel
theorem dX10_parts_239 : decode cX10_parts 239 = .ok (.iload 4, 2) := by decide +kernel
theorem dX10_parts_241 : decode cX10_parts 241 = .ok (.if_icmp .gt 22, 3) := by decide +kernel
theorem dX10_parts_244 : decode cX10_parts 244 = .ok (.aload_n 0, 1) := by decide +kernel
theorem dX10_parts_245 : decode cX10_parts 245 = .ok (.getfield 68, 3) := by decide +kernel
theorem dX10_parts_248 : decode cX10_parts 248 = .ok (.bipush 13, 2) := by decide +kernel
theorem dX10_parts_250 : decode cX10_parts 250 = .ok (.iload_n 1, 1) := by decide +kernel
theorem dX10_parts_251 : decode cX10_parts 251 = .ok (.iconst 1, 1) := by decide +kernel
theorem dX10_parts_252 : decode cX10_parts 252 = .ok (.isub, 1) := by decide +kernel
theorem dX10_parts_253 : decode cX10_parts 253 = .ok (.imul, 1) := by decide +kernel
theorem dX10_parts_254 : decode cX10_parts 254 = .ok (.iload 5, 2) := by decide +kernel
theorem dX10_parts_256 : decode cX10_parts 256 = .ok (.iadd, 1) := by decide +kernel
theorem dX10_parts_257 : decode cX10_parts 257 = .ok (.iaload, 1) := by decide +kernel
theorem dX10_parts_258 : decode cX10_parts 258 = .ok (.iload 4, 2) := by decide +kernel
theorem dX10_parts_260 : decode cX10_parts 260 = .ok (.if_icmp .le 9, 3) := by decide +kernel
theorem dX10_parts_263 : decode cX10_parts 263 = .ok (.iinc 5 1, 3) := by decide +kernel
theorem dX10_parts_266 : decode cX10_parts 266 = .ok (.goto (-34), 3) := by decide +kernel
theorem dX10_parts_269 : decode cX10_parts 269 = .ok (.iload 5, 2) := by decide +kernel
theorem dX10_parts_271 : decode cX10_parts 271 = .ok (.ireturn, 1) := by decide +kernel
theorem dX10_byTurns_0 : decode cX10_byTurns 0 = .ok (.iload_n 1, 1) := by decide +kernel
theorem dX10_byTurns_1 : decode cX10_byTurns 1 = .ok (.i2l, 1) := by decide +kernel
theorem dX10_byTurns_2 : decode cX10_byTurns 2 = .ok (.lconst 0, 1) := by decide +kernel
theorem dX10_byTurns_3 : decode cX10_byTurns 3 = .ok (.lconst 1, 1) := by decide +kernel
theorem dX10_byTurns_4 : decode cX10_byTurns 4 = .ok (.invokestatic 87, 3) := by decide +kernel
theorem dX10_byTurns_7 : decode cX10_byTurns 7 = .ok (.ifCond .ne 6, 3) := by decide +kernel
theorem dX10_byTurns_10 : decode cX10_byTurns 10 = .ok (.ldc 96, 2) := by decide +kernel
theorem dX10_byTurns_12 : decode cX10_byTurns 12 = .ok (.ireturn, 1) := by decide +kernel
theorem dX10_byTurns_13 : decode cX10_byTurns 13 = .ok (.aload_n 0, 1) := by decide +kernel
theorem dX10_byTurns_14 : decode cX10_byTurns 14 = .ok (.getfield 22, 3) := by decide +kernel
theorem dX10_byTurns_17 : decode cX10_byTurns 17 = .ok (.iconst 0, 1) := by decide +kernel
theorem dX10_byTurns_18 : decode cX10_byTurns 18 = .ok (.iaload, 1) := by decide +kernel
theorem dX10_byTurns_19 : decode cX10_byTurns 19 = .ok (.istore_n 2, 1) := by decide +kernel
theorem dX10_byTurns_20 : decode cX10_byTurns 20 = .ok (.aload_n 0, 1) := by decide +kernel
theorem dX10_byTurns_21 : decode cX10_byTurns 21 = .ok (.getfield 71, 3) := by decide +kernel
theorem dX10_byTurns_24 : decode cX10_byTurns 24 = .ok (.iload_n 2, 1) := by decide +kernel
theorem dX10_byTurns_25 : decode cX10_byTurns 25 = .ok (.iconst 0, 1) := by decide +kernel
theorem dX10_byTurns_26 : decode cX10_byTurns 26 = .ok (.iastore, 1) := by decide +kernel
theorem dX10_byTurns_27 : decode cX10_byTurns 27 = .ok (.iconst 0, 1) := by decide +kernel
theorem dX10_byTurns_28 : decode cX10_byTurns 28 = .ok (.istore_n 3, 1) := by decide +kernel
theorem dX10_byTurns_29 : decode cX10_byTurns 29 = .ok (.iload_n 2, 1) := by decide +kernel
theorem dX10_byTurns_30 : decode cX10_byTurns 30 = .ok (.iconst 1, 1) := by decide +kernel
theorem dX10_byTurns_31 : decode cX10_byTurns 31 = .ok (.isub, 1) := by decide +kernel
theorem dX10_byTurns_32 : decode cX10_byTurns 32 = .ok (.istore 4, 2) := by decide +kernel
theorem dX10_byTurns_34 : decode cX10_byTurns 34 = .ok (.iload 4, 2) := by decide +kernel
theorem dX10_byTurns_36 : decode cX10_byTurns 36 = .ok (.ifCond .lt 107, 3) := by decide +kernel
theorem dX10_byTurns_39 : decode cX10_byTurns 39 = .ok (.aload_n 0, 1) := by decide +kernel
theorem dX10_byTurns_40 : decode cX10_byTurns 40 = .ok (.iload 4, 2) := by decide +kernel
theorem dX10_byTurns_42 : decode cX10_byTurns 42 = .ok (.invokevirtual 224, 3) := by decide +kernel
theorem dX10_byTurns_45 : decode cX10_byTurns 45 = .ok (.aload_n 0, 1) := by decide +kernel
theorem dX10_byTurns_46 : decode cX10_byTurns 46 = .ok (.getfield 71, 3) := by decide +kernel
theorem dX10_byTurns_49 : decode cX10_byTurns 49 = .ok (.iload 4, 2) := by decide +kernel
theorem dX10_byTurns_51 : decode cX10_byTurns 51 = .ok (.iconst 1, 1) := by decide +kernel
theorem dX10_byTurns_52 : decode cX10_byTurns 52 = .ok (.iadd, 1) := by decide +kernel
theorem dX10_byTurns_53 : decode cX10_byTurns 53 = .ok (.iaload, 1) := by decide +kernel
theorem dX10_byTurns_54 : decode cX10_byTurns 54 = .ok (.isub, 1) := by decide +kernel
theorem dX10_byTurns_55 : decode cX10_byTurns 55 = .ok (.istore 5, 2) := by decide +kernel
theorem dX10_byTurns_57 : decode cX10_byTurns 57 = .ok (.iconst 1, 1) := by decide +kernel
theorem dX10_byTurns_58 : decode cX10_byTurns 58 = .ok (.istore_n 3, 1) := by decide +kernel
theorem dX10_byTurns_59 : decode cX10_byTurns 59 = .ok (.aload_n 0, 1) := by decide +kernel
theorem dX10_byTurns_60 : decode cX10_byTurns 60 = .ok (.getfield 71, 3) := by decide +kernel
theorem dX10_byTurns_63 : decode cX10_byTurns 63 = .ok (.iload 4, 2) := by decide +kernel
theorem dX10_byTurns_65 : decode cX10_byTurns 65 = .ok (.iload 5, 2) := by decide +kernel
theorem dX10_byTurns_67 : decode cX10_byTurns 67 = .ok (.iastore, 1) := by decide +kernel
theorem dX10_byTurns_68 : decode cX10_byTurns 68 = .ok (.iload 4, 2) := by decide +kernel
theorem dX10_byTurns_70 : decode cX10_byTurns 70 = .ok (.iconst 2, 1) := by decide +kernel
theorem dX10_byTurns_71 : decode cX10_byTurns 71 = .ok (.iadd, 1) := by decide +kernel
theorem dX10_byTurns_72 : decode cX10_byTurns 72 = .ok (.iload_n 2, 1) := by decide +kernel
theorem dX10_byTurns_73 : decode cX10_byTurns 73 = .ok (.if_icmp .gt 64, 3) := by decide +kernel
theorem dX10_byTurns_76 : decode cX10_byTurns 76 = .ok (.aload_n 0, 1) := by decide +kernel
theorem dX10_byTurns_77 : decode cX10_byTurns 77 = .ok (.iload 4, 2) := by decide +kernel
theorem dX10_byTurns_79 : decode cX10_byTurns 79 = .ok (.invokevirtual 224, 3) := by decide +kernel
theorem dX10_byTurns_82 : decode cX10_byTurns 82 = .ok (.aload_n 0, 1) := by decide +kernel
theorem dX10_byTurns_83 : decode cX10_byTurns 83 = .ok (.iload 4, 2) := by decide +kernel
theorem dX10_byTurns_85 : decode cX10_byTurns 85 = .ok (.iconst 1, 1) := by decide +kernel
theorem dX10_byTurns_86 : decode cX10_byTurns 86 = .ok (.iadd, 1) := by decide +kernel
theorem dX10_byTurns_87 : decode cX10_byTurns 87 = .ok (.invokevirtual 224, 3) := by decide +kernel
theorem dX10_byTurns_90 : decode cX10_byTurns 90 = .ok (.iadd, 1) := by decide +kernel
theorem dX10_byTurns_91 : decode cX10_byTurns 91 = .ok (.aload_n 0, 1) := by decide +kernel
theorem dX10_byTurns_92 : decode cX10_byTurns 92 = .ok (.getfield 71, 3) := by decide +kernel
theorem dX10_byTurns_95 : decode cX10_byTurns 95 = .ok (.iload 4, 2) := by decide +kernel
theorem dX10_byTurns_97 : decode cX10_byTurns 97 = .ok (.iconst 2, 1) := by decide +kernel
theorem dX10_byTurns_98 : decode cX10_byTurns 98 = .ok (.iadd, 1) := by decide +kernel
theorem dX10_byTurns_99 : decode cX10_byTurns 99 = .ok (.iaload, 1) := by decide +kernel
theorem dX10_byTurns_100 : decode cX10_byTurns 100 = .ok (.isub, 1) := by decide +kernel
theorem dX10_byTurns_101 : decode cX10_byTurns 101 = .ok (.istore 6, 2) := by decide +kernel
theorem dX10_byTurns_103 : decode cX10_byTurns 103 = .ok (.iload 6, 2) := by decide +kernel
theorem dX10_byTurns_105 : decode cX10_byTurns 105 = .ok (.iload 5, 2) := by decide +kernel
theorem dX10_byTurns_107 : decode cX10_byTurns 107 = .ok (.if_icmp .le 7, 3) := by decide +kernel
theorem dX10_byTurns_110 : decode cX10_byTurns 110 = .ok (.iconst 2, 1) := by decide +kernel
theorem dX10_byTurns_111 : decode cX10_byTurns 111 = .ok (.goto 4, 3) := by decide +kernel
theorem dX10_byTurns_114 : decode cX10_byTurns 114 = .ok (.iconst 1, 1) := by decide +kernel
theorem dX10_byTurns_115 : decode cX10_byTurns 115 = .ok (.istore_n 3, 1) := by decide +kernel
theorem dX10_byTurns_116 : decode cX10_byTurns 116 = .ok (.aload_n 0, 1) := by decide +kernel
theorem dX10_byTurns_117 : decode cX10_byTurns 117 = .ok (.getfield 71, 3) := by decide +kernel
theorem dX10_byTurns_120 : decode cX10_byTurns 120 = .ok (.iload 4, 2) := by decide +kernel
theorem dX10_byTurns_122 : decode cX10_byTurns 122 = .ok (.iload 6, 2) := by decide +kernel
theorem dX10_byTurns_124 : decode cX10_byTurns 124 = .ok (.iload 5, 2) := by decide +kernel
theorem dX10_byTurns_126 : decode cX10_byTurns 126 = .ok (.if_icmp .le 8, 3) := by decide +kernel
theorem dX10_byTurns_129 : decode cX10_byTurns 129 = .ok (.iload 6, 2) := by decide +kernel
theorem dX10_byTurns_131 : decode cX10_byTurns 131 = .ok (.goto 5, 3) := by decide +kernel
theorem dX10_byTurns_134 : decode cX10_byTurns 134 = .ok (.iload 5, 2) := by decide +kernel
theorem dX10_byTurns_136 : decode cX10_byTurns 136 = .ok (.iastore, 1) := by decide +kernel
theorem dX10_byTurns_137 : decode cX10_byTurns 137 = .ok (.iinc 4 (-1), 3) := by decide +kernel
theorem dX10_byTurns_140 : decode cX10_byTurns 140 = .ok (.goto (-106), 3) := by decide +kernel
theorem dX10_byTurns_143 : decode cX10_byTurns 143 = .ok (.iload_n 1, 1) := by decide +kernel
theorem dX10_byTurns_144 : decode cX10_byTurns 144 = .ok (.ifCond .ne 16, 3) := by decide +kernel
theorem dX10_byTurns_147 : decode cX10_byTurns 147 = .ok (.aload_n 0, 1) := by decide +kernel
theorem dX10_byTurns_148 : decode cX10_byTurns 148 = .ok (.getfield 71, 3) := by decide +kernel
theorem dX10_byTurns_151 : decode cX10_byTurns 151 = .ok (.iconst 0, 1) := by decide +kernel
theorem dX10_byTurns_152 : decode cX10_byTurns 152 = .ok (.iaload, 1) := by decide +kernel
theorem dX10_byTurns_153 : decode cX10_byTurns 153 = .ok (.sipush 1000, 3) := by decide +kernel
theorem dX10_byTurns_156 : decode cX10_byTurns 156 = .ok (.iadd, 1) := by decide +kernel
theorem dX10_byTurns_157 : decode cX10_byTurns 157 = .ok (.goto 4, 3) := by decide +kernel
theorem dX10_byTurns_160 : decode cX10_byTurns 160 = .ok (.iload_n 3, 1) := by decide +kernel
theorem dX10_byTurns_161 : decode cX10_byTurns 161 = .ok (.ireturn, 1) := by decide +kernel
theorem dX10_twoSides_0 : decode cX10_twoSides 0 = .ok (.iload_n 1, 1) := by decide +kernel
theorem dX10_twoSides_1 : decode cX10_twoSides 1 = .ok (.i2l, 1) := by decide +kernel
theorem dX10_twoSides_2 : decode cX10_twoSides 2 = .ok (.lconst 0, 1) := by decide +kernel
theorem dX10_twoSides_3 : decode cX10_twoSides 3 = .ok (.ldc2_w 287, 3) := by decide +kernel
theorem dX10_twoSides_6 : decode cX10_twoSides 6 = .ok (.invokestatic 87, 3) := by decide +kernel
theorem dX10_twoSides_9 : decode cX10_twoSides 9 = .ok (.ifCond .ne 6, 3) := by decide +kernel
theorem dX10_twoSides_12 : decode cX10_twoSides 12 = .ok (.ldc 96, 2) := by decide +kernel
theorem dX10_twoSides_14 : decode cX10_twoSides 14 = .ok (.ireturn, 1) := by decide +kernel
theorem dX10_twoSides_15 : decode cX10_twoSides 15 = .ok (.iconst 0, 1) := by decide +kernel
theorem dX10_twoSides_16 : decode cX10_twoSides 16 = .ok (.istore_n 2, 1) := by decide +kernel
theorem dX10_twoSides_17 : decode cX10_twoSides 17 = .ok (.iconst 0, 1) := by decide +kernel
theorem dX10_twoSides_18 : decode cX10_twoSides 18 = .ok (.istore_n 3, 1) := by decide +kernel
theorem dX10_twoSides_19 : decode cX10_twoSides 19 = .ok (.iconst (-1), 1) := by decide +kernel
theorem dX10_twoSides_20 : decode cX10_twoSides 20 = .ok (.istore 4, 2) := by decide +kernel
theorem dX10_twoSides_22 : decode cX10_twoSides 22 = .ok (.iconst 0, 1) := by decide +kernel
theorem dX10_twoSides_23 : decode cX10_twoSides 23 = .ok (.istore 5, 2) := by decide +kernel
theorem dX10_twoSides_25 : decode cX10_twoSides 25 = .ok (.aload_n 0, 1) := by decide +kernel
theorem dX10_twoSides_26 : decode cX10_twoSides 26 = .ok (.getfield 22, 3) := by decide +kernel
theorem dX10_twoSides_29 : decode cX10_twoSides 29 = .ok (.iconst 0, 1) := by decide +kernel
theorem dX10_twoSides_30 : decode cX10_twoSides 30 = .ok (.iaload, 1) := by decide +kernel
theorem dX10_twoSides_31 : decode cX10_twoSides 31 = .ok (.iconst 1, 1) := by decide +kernel
theorem dX10_twoSides_32 : decode cX10_twoSides 32 = .ok (.isub, 1) := by decide +kernel
theorem dX10_twoSides_33 : decode cX10_twoSides 33 = .ok (.istore 6, 2) := by decide +kernel
theorem dX10_twoSides_35 : decode cX10_twoSides 35 = .ok (.iconst 1, 1) := by decide +kernel
theorem dX10_twoSides_36 : decode cX10_twoSides 36 = .ok (.istore 7, 2) := by decide +kernel
theorem dX10_twoSides_38 : decode cX10_twoSides 38 = .ok (.iload 5, 2) := by decide +kernel
theorem dX10_twoSides_40 : decode cX10_twoSides 40 = .ok (.iload 6, 2) := by decide +kernel
theorem dX10_twoSides_42 : decode cX10_twoSides 42 = .ok (.if_icmp .gt 98, 3) := by decide +kernel
theorem dX10_twoSides_45 : decode cX10_twoSides 45 = .ok (.iload 7, 2) := by decide +kernel
theorem dX10_twoSides_47 : decode cX10_twoSides 47 = .ok (.ifCond .eq 8, 3) := by decide +kernel
theorem dX10_twoSides_50 : decode cX10_twoSides 50 = .ok (.iload 5, 2) := by decide +kernel
theorem dX10_twoSides_52 : decode cX10_twoSides 52 = .ok (.goto 5, 3) := by decide +kernel
theorem dX10_twoSides_55 : decode cX10_twoSides 55 = .ok (.iload 6, 2) := by decide +kernel
theorem dX10_twoSides_57 : decode cX10_twoSides 57 = .ok (.istore 4, 2) := by decide +kernel
theorem dX10_twoSides_59 : decode cX10_twoSides 59 = .ok (.iload_n 2, 1) := by decide +kernel
theorem dX10_twoSides_60 : decode cX10_twoSides 60 = .ok (.iload 7, 2) := by decide +kernel
theorem dX10_twoSides_62 : decode cX10_twoSides 62 = .ok (.ifCond .eq 12, 3) := by decide +kernel
theorem dX10_twoSides_65 : decode cX10_twoSides 65 = .ok (.aload_n 0, 1) := by decide +kernel
theorem dX10_twoSides_66 : decode cX10_twoSides 66 = .ok (.iload 4, 2) := by decide +kernel
theorem dX10_twoSides_68 : decode cX10_twoSides 68 = .ok (.invokevirtual 224, 3) := by decide +kernel
theorem dX10_twoSides_71 : decode cX10_twoSides 71 = .ok (.goto 4, 3) := by decide +kernel
theorem dX10_twoSides_74 : decode cX10_twoSides 74 = .ok (.iconst 0, 1) := by decide +kernel
theorem dX10_twoSides_75 : decode cX10_twoSides 75 = .ok (.iadd, 1) := by decide +kernel
theorem dX10_twoSides_76 : decode cX10_twoSides 76 = .ok (.istore_n 2, 1) := by decide +kernel
theorem dX10_twoSides_77 : decode cX10_twoSides 77 = .ok (.iload_n 3, 1) := by decide +kernel
theorem dX10_twoSides_78 : decode cX10_twoSides 78 = .ok (.iload 7, 2) := by decide +kernel
theorem dX10_twoSides_80 : decode cX10_twoSides 80 = .ok (.ifCond .eq 7, 3) := by decide +kernel
theorem dX10_twoSides_83 : decode cX10_twoSides 83 = .ok (.iconst 0, 1) := by decide +kernel
theorem dX10_twoSides_84 : decode cX10_twoSides 84 = .ok (.goto 9, 3) := by decide +kernel
theorem dX10_twoSides_87 : decode cX10_twoSides 87 = .ok (.aload_n 0, 1) := by decide +kernel
theorem dX10_twoSides_88 : decode cX10_twoSides 88 = .ok (.iload 4, 2) := by decide +kernel
theorem dX10_twoSides_90 : decode cX10_twoSides 90 = .ok (.invokevirtual 224, 3) := by decide +kernel
theorem dX10_twoSides_93 : decode cX10_twoSides 93 = .ok (.iadd, 1) := by decide +kernel
theorem dX10_twoSides_94 : decode cX10_twoSides 94 = .ok (.istore_n 3, 1) := by decide +kernel
theorem dX10_twoSides_95 : decode cX10_twoSides 95 = .ok (.iload 5, 2) := by decide +kernel
theorem dX10_twoSides_97 : decode cX10_twoSides 97 = .ok (.iload 7, 2) := by decide +kernel
theorem dX10_twoSides_99 : decode cX10_twoSides 99 = .ok (.ifCond .eq 7, 3) := by decide +kernel
theorem dX10_twoSides_102 : decode cX10_twoSides 102 = .ok (.iconst 1, 1) := by decide +kernel
theorem dX10_twoSides_103 : decode cX10_twoSides 103 = .ok (.goto 4, 3) := by decide +kernel
theorem dX10_twoSides_106 : decode cX10_twoSides 106 = .ok (.iconst 0, 1) := by decide +kernel
theorem dX10_twoSides_107 : decode cX10_twoSides 107 = .ok (.iadd, 1) := by decide +kernel
theorem dX10_twoSides_108 : decode cX10_twoSides 108 = .ok (.istore 5, 2) := by decide +kernel
theorem dX10_twoSides_110 : decode cX10_twoSides 110 = .ok (.iload 6, 2) := by decide +kernel
theorem dX10_twoSides_112 : decode cX10_twoSides 112 = .ok (.iload 7, 2) := by decide +kernel
theorem dX10_twoSides_114 : decode cX10_twoSides 114 = .ok (.ifCond .eq 7, 3) := by decide +kernel
theorem dX10_twoSides_117 : decode cX10_twoSides 117 = .ok (.iconst 0, 1) := by decide +kernel
theorem dX10_twoSides_118 : decode cX10_twoSides 118 = .ok (.goto 4, 3) := by decide +kernel
theorem dX10_twoSides_121 : decode cX10_twoSides 121 = .ok (.iconst 1, 1) := by decide +kernel
theorem dX10_twoSides_122 : decode cX10_twoSides 122 = .ok (.isub, 1) := by decide +kernel
theorem dX10_twoSides_123 : decode cX10_twoSides 123 = .ok (.istore 6, 2) := by decide +kernel
theorem dX10_twoSides_125 : decode cX10_twoSides 125 = .ok (.iload 7, 2) := by decide +kernel
theorem dX10_twoSides_127 : decode cX10_twoSides 127 = .ok (.ifCond .ne 7, 3) := by decide +kernel
theorem dX10_twoSides_130 : decode cX10_twoSides 130 = .ok (.iconst 1, 1) := by decide +kernel
theorem dX10_twoSides_131 : decode cX10_twoSides 131 = .ok (.goto 4, 3) := by decide +kernel
theorem dX10_twoSides_134 : decode cX10_twoSides 134 = .ok (.iconst 0, 1) := by decide +kernel
theorem dX10_twoSides_135 : decode cX10_twoSides 135 = .ok (.istore 7, 2) := by decide +kernel
theorem dX10_twoSides_137 : decode cX10_twoSides 137 = .ok (.goto (-99), 3) := by decide +kernel
theorem dX10_twoSides_140 : decode cX10_twoSides 140 = .ok (.iload_n 1, 1) := by decide +kernel
theorem dX10_twoSides_141 : decode cX10_twoSides 141 = .ok (.ifCond .ne 7, 3) := by decide +kernel
theorem dX10_twoSides_144 : decode cX10_twoSides 144 = .ok (.iload_n 2, 1) := by decide +kernel
theorem dX10_twoSides_145 : decode cX10_twoSides 145 = .ok (.goto 14, 3) := by decide +kernel
theorem dX10_twoSides_148 : decode cX10_twoSides 148 = .ok (.iload_n 1, 1) := by decide +kernel
theorem dX10_twoSides_149 : decode cX10_twoSides 149 = .ok (.iconst 1, 1) := by decide +kernel
theorem dX10_twoSides_150 : decode cX10_twoSides 150 = .ok (.if_icmp .ne 7, 3) := by decide +kernel
theorem dX10_twoSides_153 : decode cX10_twoSides 153 = .ok (.iload_n 3, 1) := by decide +kernel
theorem dX10_twoSides_154 : decode cX10_twoSides 154 = .ok (.goto 5, 3) := by decide +kernel
theorem dX10_twoSides_157 : decode cX10_twoSides 157 = .ok (.iload 4, 2) := by decide +kernel
theorem dX10_twoSides_159 : decode cX10_twoSides 159 = .ok (.ireturn, 1) := by decide +kernel
theorem dX10_nextKind_0 : decode cX10_nextKind 0 = .ok (.iload_n 1, 1) := by decide +kernel
theorem dX10_nextKind_1 : decode cX10_nextKind 1 = .ok (.i2l, 1) := by decide +kernel
theorem dX10_nextKind_2 : decode cX10_nextKind 2 = .ok (.lconst 0, 1) := by decide +kernel
theorem dX10_nextKind_3 : decode cX10_nextKind 3 = .ok (.ldc2_w 289, 3) := by decide +kernel
theorem dX10_nextKind_6 : decode cX10_nextKind 6 = .ok (.invokestatic 87, 3) := by decide +kernel
theorem dX10_nextKind_9 : decode cX10_nextKind 9 = .ok (.ifCond .eq 11, 3) := by decide +kernel
theorem dX10_nextKind_12 : decode cX10_nextKind 12 = .ok (.aload_n 0, 1) := by decide +kernel
theorem dX10_nextKind_13 : decode cX10_nextKind 13 = .ok (.iload_n 1, 1) := by decide +kernel
theorem dX10_nextKind_14 : decode cX10_nextKind 14 = .ok (.invokevirtual 194, 3) := by decide +kernel
theorem dX10_nextKind_17 : decode cX10_nextKind 17 = .ok (.goto 5, 3) := by decide +kernel
theorem dX10_nextKind_20 : decode cX10_nextKind 20 = .ok (.ldc 96, 2) := by decide +kernel
theorem dX10_nextKind_22 : decode cX10_nextKind 22 = .ok (.ireturn, 1) := by decide +kernel
theorem dX10_isPair_0 : decode cX10_isPair 0 = .ok (.iconst 0, 1) := by decide +kernel
theorem dX10_isPair_1 : decode cX10_isPair 1 = .ok (.istore_n 3, 1) := by decide +kernel
theorem dX10_isPair_2 : decode cX10_isPair 2 = .ok (.iconst 0, 1) := by decide +kernel
theorem dX10_isPair_3 : decode cX10_isPair 3 = .ok (.istore 4, 2) := by decide +kernel
theorem dX10_isPair_5 : decode cX10_isPair 5 = .ok (.iload 4, 2) := by decide +kernel
theorem dX10_isPair_7 : decode cX10_isPair 7 = .ok (.aload_n 0, 1) := by decide +kernel
theorem dX10_isPair_8 : decode cX10_isPair 8 = .ok (.getfield 164, 3) := by decide +kernel
theorem dX10_isPair_11 : decode cX10_isPair 11 = .ok (.if_icmp .ge 76, 3) := by decide +kernel
theorem dX10_isPair_14 : decode cX10_isPair 14 = .ok (.iconst 1, 1) := by decide +kernel
theorem dX10_isPair_15 : decode cX10_isPair 15 = .ok (.istore 5, 2) := by decide +kernel
theorem dX10_isPair_17 : decode cX10_isPair 17 = .ok (.iload 5, 2) := by decide +kernel
theorem dX10_isPair_19 : decode cX10_isPair 19 = .ok (.aload_n 0, 1) := by decide +kernel
theorem dX10_isPair_20 : decode cX10_isPair 20 = .ok (.getfield 16, 3) := by decide +kernel
theorem dX10_isPair_23 : decode cX10_isPair 23 = .ok (.iload 4, 2) := by decide +kernel
theorem dX10_isPair_25 : decode cX10_isPair 25 = .ok (.iaload, 1) := by decide +kernel
theorem dX10_isPair_26 : decode cX10_isPair 26 = .ok (.if_icmp .ge 55, 3) := by decide +kernel
theorem dX10_isPair_29 : decode cX10_isPair 29 = .ok (.iload_n 3, 1) := by decide +kernel
theorem dX10_isPair_30 : decode cX10_isPair 30 = .ok (.ifCond .ne 39, 3) := by decide +kernel
theorem dX10_isPair_33 : decode cX10_isPair 33 = .ok (.aload_n 0, 1) := by decide +kernel
theorem dX10_isPair_34 : decode cX10_isPair 34 = .ok (.getfield 19, 3) := by decide +kernel
theorem dX10_isPair_37 : decode cX10_isPair 37 = .ok (.bipush 8, 2) := by decide +kernel
theorem dX10_isPair_39 : decode cX10_isPair 39 = .ok (.iload 4, 2) := by decide +kernel
theorem dX10_isPair_41 : decode cX10_isPair 41 = .ok (.imul, 1) := by decide +kernel
theorem dX10_isPair_42 : decode cX10_isPair 42 = .ok (.iload 5, 2) := by decide +kernel
theorem dX10_isPair_44 : decode cX10_isPair 44 = .ok (.iadd, 1) := by decide +kernel
theorem dX10_isPair_45 : decode cX10_isPair 45 = .ok (.iconst 1, 1) := by decide +kernel
theorem dX10_isPair_46 : decode cX10_isPair 46 = .ok (.isub, 1) := by decide +kernel
theorem dX10_isPair_47 : decode cX10_isPair 47 = .ok (.iaload, 1) := by decide +kernel
theorem dX10_isPair_48 : decode cX10_isPair 48 = .ok (.iload_n 1, 1) := by decide +kernel
theorem dX10_isPair_49 : decode cX10_isPair 49 = .ok (.if_icmp .ne 24, 3) := by decide +kernel
theorem dX10_isPair_52 : decode cX10_isPair 52 = .ok (.aload_n 0, 1) := by decide +kernel
theorem dX10_isPair_53 : decode cX10_isPair 53 = .ok (.getfield 19, 3) := by decide +kernel
theorem dX10_isPair_56 : decode cX10_isPair 56 = .ok (.bipush 8, 2) := by decide +kernel
theorem dX10_isPair_58 : decode cX10_isPair 58 = .ok (.iload 4, 2) := by decide +kernel
theorem dX10_isPair_60 : decode cX10_isPair 60 = .ok (.imul, 1) := by decide +kernel
theorem dX10_isPair_61 : decode cX10_isPair 61 = .ok (.iload 5, 2) := by decide +kernel
theorem dX10_isPair_63 : decode cX10_isPair 63 = .ok (.iadd, 1) := by decide +kernel
theorem dX10_isPair_64 : decode cX10_isPair 64 = .ok (.iaload, 1) := by decide +kernel
theorem dX10_isPair_65 : decode cX10_isPair 65 = .ok (.iload_n 2, 1) := by decide +kernel
theorem dX10_isPair_66 : decode cX10_isPair 66 = .ok (.if_icmp .ne 7, 3) := by decide +kernel
theorem dX10_isPair_69 : decode cX10_isPair 69 = .ok (.iconst 1, 1) := by decide +kernel
theorem dX10_isPair_70 : decode cX10_isPair 70 = .ok (.goto 4, 3) := by decide +kernel
theorem dX10_isPair_73 : decode cX10_isPair 73 = .ok (.iconst 0, 1) := by decide +kernel
theorem dX10_isPair_74 : decode cX10_isPair 74 = .ok (.istore_n 3, 1) := by decide +kernel
theorem dX10_isPair_75 : decode cX10_isPair 75 = .ok (.iinc 5 1, 3) := by decide +kernel
theorem dX10_isPair_78 : decode cX10_isPair 78 = .ok (.goto (-61), 3) := by decide +kernel
theorem dX10_isPair_81 : decode cX10_isPair 81 = .ok (.iinc 4 1, 3) := by decide +kernel
theorem dX10_isPair_84 : decode cX10_isPair 84 = .ok (.goto (-79), 3) := by decide +kernel
theorem dX10_isPair_87 : decode cX10_isPair 87 = .ok (.iload_n 3, 1) := by decide +kernel
theorem dX10_isPair_88 : decode cX10_isPair 88 = .ok (.ireturn, 1) := by decide +kernel
theorem dX10_allows_0 : decode cX10_allows 0 = .ok (.iload_n 1, 1) := by decide +kernel
theorem dX10_allows_1 : decode cX10_allows 1 = .ok (.i2l, 1) := by decide +kernel
theorem dX10_allows_2 : decode cX10_allows 2 = .ok (.lconst 0, 1) := by decide +kernel
theorem dX10_allows_3 : decode cX10_allows 3 = .ok (.ldc2_w 289, 3) := by decide +kernel
theorem dX10_allows_6 : decode cX10_allows 6 = .ok (.invokestatic 87, 3) := by decide +kernel
theorem dX10_allows_9 : decode cX10_allows 9 = .ok (.ifCond .ne 6, 3) := by decide +kernel
theorem dX10_allows_12 : decode cX10_allows 12 = .ok (.ldc 96, 2) := by decide +kernel
theorem dX10_allows_14 : decode cX10_allows 14 = .ok (.ireturn, 1) := by decide +kernel
theorem dX10_allows_15 : decode cX10_allows 15 = .ok (.iconst 0, 1) := by decide +kernel
theorem dX10_allows_16 : decode cX10_allows 16 = .ok (.istore_n 2, 1) := by decide +kernel
theorem dX10_allows_17 : decode cX10_allows 17 = .ok (.iconst 0, 1) := by decide +kernel
theorem dX10_allows_18 : decode cX10_allows 18 = .ok (.istore_n 3, 1) := by decide +kernel
theorem dX10_allows_19 : decode cX10_allows 19 = .ok (.iload_n 3, 1) := by decide +kernel
theorem dX10_allows_20 : decode cX10_allows 20 = .ok (.aload_n 0, 1) := by decide +kernel
theorem dX10_allows_21 : decode cX10_allows 21 = .ok (.getfield 22, 3) := by decide +kernel
theorem dX10_allows_24 : decode cX10_allows 24 = .ok (.iconst 0, 1) := by decide +kernel
theorem dX10_allows_25 : decode cX10_allows 25 = .ok (.iaload, 1) := by decide +kernel
theorem dX10_allows_26 : decode cX10_allows 26 = .ok (.if_icmp .ge 35, 3) := by decide +kernel
theorem dX10_allows_29 : decode cX10_allows 29 = .ok (.iload_n 2, 1) := by decide +kernel
theorem dX10_allows_30 : decode cX10_allows 30 = .ok (.aload_n 0, 1) := by decide +kernel
theorem dX10_allows_31 : decode cX10_allows 31 = .ok (.iload_n 1, 1) := by decide +kernel
theorem dX10_allows_32 : decode cX10_allows 32 = .ok (.aload_n 0, 1) := by decide +kernel
theorem dX10_allows_33 : decode cX10_allows 33 = .ok (.getfield 22, 3) := by decide +kernel
theorem dX10_allows_36 : decode cX10_allows 36 = .ok (.iconst 1, 1) := by decide +kernel
theorem dX10_allows_37 : decode cX10_allows 37 = .ok (.iload_n 3, 1) := by decide +kernel
theorem dX10_allows_38 : decode cX10_allows 38 = .ok (.iadd, 1) := by decide +kernel
theorem dX10_allows_39 : decode cX10_allows 39 = .ok (.iaload, 1) := by decide +kernel
theorem dX10_allows_40 : decode cX10_allows 40 = .ok (.invokevirtual 291, 3) := by decide +kernel
theorem dX10_allows_43 : decode cX10_allows 43 = .ok (.ifCond .eq 9, 3) := by decide +kernel
theorem dX10_allows_46 : decode cX10_allows 46 = .ok (.iconst 1, 1) := by decide +kernel
theorem dX10_allows_47 : decode cX10_allows 47 = .ok (.iload_n 3, 1) := by decide +kernel
theorem dX10_allows_48 : decode cX10_allows 48 = .ok (.ishl, 1) := by decide +kernel
theorem dX10_allows_49 : decode cX10_allows 49 = .ok (.goto 4, 3) := by decide +kernel
theorem dX10_allows_52 : decode cX10_allows 52 = .ok (.iconst 0, 1) := by decide +kernel
theorem dX10_allows_53 : decode cX10_allows 53 = .ok (.ior, 1) := by decide +kernel
theorem dX10_allows_54 : decode cX10_allows 54 = .ok (.istore_n 2, 1) := by decide +kernel
theorem dX10_allows_55 : decode cX10_allows 55 = .ok (.iinc 3 1, 3) := by decide +kernel
theorem dX10_allows_58 : decode cX10_allows 58 = .ok (.goto (-39), 3) := by decide +kernel
theorem dX10_allows_61 : decode cX10_allows 61 = .ok (.iload_n 2, 1) := by decide +kernel
theorem dX10_allows_62 : decode cX10_allows 62 = .ok (.ireturn, 1) := by decide +kernel
theorem dX10_run_0 : decode cX10_run 0 = .ok (.iload_n 1, 1) := by decide +kernel
theorem dX10_run_1 : decode cX10_run 1 = .ok (.i2l, 1) := by decide +kernel
theorem dX10_run_2 : decode cX10_run 2 = .ok (.lconst 0, 1) := by decide +kernel
theorem dX10_run_3 : decode cX10_run 3 = .ok (.lconst 1, 1) := by decide +kernel
theorem dX10_run_4 : decode cX10_run 4 = .ok (.invokestatic 87, 3) := by decide +kernel
theorem dX10_run_7 : decode cX10_run 7 = .ok (.ifCond .ne 6, 3) := by decide +kernel
theorem dX10_run_10 : decode cX10_run 10 = .ok (.ldc 96, 2) := by decide +kernel
theorem dX10_run_12 : decode cX10_run 12 = .ok (.ireturn, 1) := by decide +kernel
theorem dX10_run_13 : decode cX10_run 13 = .ok (.iconst (-1), 1) := by decide +kernel
theorem dX10_run_14 : decode cX10_run 14 = .ok (.istore_n 2, 1) := by decide +kernel
theorem dX10_run_15 : decode cX10_run 15 = .ok (.iconst 0, 1) := by decide +kernel
theorem dX10_run_16 : decode cX10_run 16 = .ok (.istore_n 3, 1) := by decide +kernel
theorem dX10_run_17 : decode cX10_run 17 = .ok (.iconst 0, 1) := by decide +kernel
theorem dX10_run_18 : decode cX10_run 18 = .ok (.istore 4, 2) := by decide +kernel
theorem dX10_run_20 : decode cX10_run 20 = .ok (.iconst 0, 1) := by decide +kernel
theorem dX10_run_21 : decode cX10_run 21 = .ok (.istore 5, 2) := by decide +kernel
theorem dX10_run_23 : decode cX10_run 23 = .ok (.iload 5, 2) := by decide +kernel
theorem dX10_run_25 : decode cX10_run 25 = .ok (.aload_n 0, 1) := by decide +kernel
theorem dX10_run_26 : decode cX10_run 26 = .ok (.getfield 22, 3) := by decide +kernel
theorem dX10_run_29 : decode cX10_run 29 = .ok (.iconst 0, 1) := by decide +kernel
theorem dX10_run_30 : decode cX10_run 30 = .ok (.iaload, 1) := by decide +kernel
theorem dX10_run_31 : decode cX10_run 31 = .ok (.if_icmp .ge 87, 3) := by decide +kernel
theorem dX10_run_34 : decode cX10_run 34 = .ok (.iload 5, 2) := by decide +kernel
theorem dX10_run_36 : decode cX10_run 36 = .ok (.ifCond .le 31, 3) := by decide +kernel
theorem dX10_run_39 : decode cX10_run 39 = .ok (.aload_n 0, 1) := by decide +kernel
theorem dX10_run_40 : decode cX10_run 40 = .ok (.getfield 22, 3) := by decide +kernel
theorem dX10_run_43 : decode cX10_run 43 = .ok (.iconst 1, 1) := by decide +kernel
theorem dX10_run_44 : decode cX10_run 44 = .ok (.iload 5, 2) := by decide +kernel
theorem dX10_run_46 : decode cX10_run 46 = .ok (.iadd, 1) := by decide +kernel
theorem dX10_run_47 : decode cX10_run 47 = .ok (.iaload, 1) := by decide +kernel
theorem dX10_run_48 : decode cX10_run 48 = .ok (.aload_n 0, 1) := by decide +kernel
theorem dX10_run_49 : decode cX10_run 49 = .ok (.getfield 22, 3) := by decide +kernel
theorem dX10_run_52 : decode cX10_run 52 = .ok (.iconst 1, 1) := by decide +kernel
theorem dX10_run_53 : decode cX10_run 53 = .ok (.iload 5, 2) := by decide +kernel
theorem dX10_run_55 : decode cX10_run 55 = .ok (.iadd, 1) := by decide +kernel
theorem dX10_run_56 : decode cX10_run 56 = .ok (.iconst 1, 1) := by decide +kernel
theorem dX10_run_57 : decode cX10_run 57 = .ok (.isub, 1) := by decide +kernel
theorem dX10_run_58 : decode cX10_run 58 = .ok (.iaload, 1) := by decide +kernel
theorem dX10_run_59 : decode cX10_run 59 = .ok (.if_icmp .ne 8, 3) := by decide +kernel
theorem dX10_run_62 : decode cX10_run 62 = .ok (.iload 4, 2) := by decide +kernel
theorem dX10_run_64 : decode cX10_run 64 = .ok (.goto 5, 3) := by decide +kernel
theorem dX10_run_67 : decode cX10_run 67 = .ok (.iload 5, 2) := by decide +kernel
theorem dX10_run_69 : decode cX10_run 69 = .ok (.istore 4, 2) := by decide +kernel
theorem dX10_run_71 : decode cX10_run 71 = .ok (.iload 5, 2) := by decide +kernel
theorem dX10_run_73 : decode cX10_run 73 = .ok (.iload 4, 2) := by decide +kernel
theorem dX10_run_75 : decode cX10_run 75 = .ok (.isub, 1) := by decide +kernel
theorem dX10_run_76 : decode cX10_run 76 = .ok (.iconst 1, 1) := by decide +kernel
theorem dX10_run_77 : decode cX10_run 77 = .ok (.iadd, 1) := by decide +kernel
theorem dX10_run_78 : decode cX10_run 78 = .ok (.iload_n 3, 1) := by decide +kernel
theorem dX10_run_79 : decode cX10_run 79 = .ok (.if_icmp .le 8, 3) := by decide +kernel
theorem dX10_run_82 : decode cX10_run 82 = .ok (.iload 4, 2) := by decide +kernel
theorem dX10_run_84 : decode cX10_run 84 = .ok (.goto 4, 3) := by decide +kernel
theorem dX10_run_87 : decode cX10_run 87 = .ok (.iload_n 2, 1) := by decide +kernel
theorem dX10_run_88 : decode cX10_run 88 = .ok (.istore_n 2, 1) := by decide +kernel
theorem dX10_run_89 : decode cX10_run 89 = .ok (.iload 5, 2) := by decide +kernel
theorem dX10_run_91 : decode cX10_run 91 = .ok (.iload 4, 2) := by decide +kernel
theorem dX10_run_93 : decode cX10_run 93 = .ok (.isub, 1) := by decide +kernel
theorem dX10_run_94 : decode cX10_run 94 = .ok (.iconst 1, 1) := by decide +kernel
theorem dX10_run_95 : decode cX10_run 95 = .ok (.iadd, 1) := by decide +kernel
theorem dX10_run_96 : decode cX10_run 96 = .ok (.iload_n 3, 1) := by decide +kernel
theorem dX10_run_97 : decode cX10_run 97 = .ok (.if_icmp .le 13, 3) := by decide +kernel
theorem dX10_run_100 : decode cX10_run 100 = .ok (.iload 5, 2) := by decide +kernel
theorem dX10_run_102 : decode cX10_run 102 = .ok (.iload 4, 2) := by decide +kernel
theorem dX10_run_104 : decode cX10_run 104 = .ok (.isub, 1) := by decide +kernel
theorem dX10_run_105 : decode cX10_run 105 = .ok (.iconst 1, 1) := by decide +kernel
theorem dX10_run_106 : decode cX10_run 106 = .ok (.iadd, 1) := by decide +kernel
theorem dX10_run_107 : decode cX10_run 107 = .ok (.goto 4, 3) := by decide +kernel
theorem dX10_run_110 : decode cX10_run 110 = .ok (.iload_n 3, 1) := by decide +kernel
theorem dX10_run_111 : decode cX10_run 111 = .ok (.istore_n 3, 1) := by decide +kernel
theorem dX10_run_112 : decode cX10_run 112 = .ok (.iinc 5 1, 3) := by decide +kernel
theorem dX10_run_115 : decode cX10_run 115 = .ok (.goto (-92), 3) := by decide +kernel
theorem dX10_run_118 : decode cX10_run 118 = .ok (.iload_n 1, 1) := by decide +kernel
theorem dX10_run_119 : decode cX10_run 119 = .ok (.ifCond .ne 7, 3) := by decide +kernel
theorem dX10_run_122 : decode cX10_run 122 = .ok (.iload_n 3, 1) := by decide +kernel
theorem dX10_run_123 : decode cX10_run 123 = .ok (.goto 4, 3) := by decide +kernel
theorem dX10_run_126 : decode cX10_run 126 = .ok (.iload_n 2, 1) := by decide +kernel
theorem dX10_run_127 : decode cX10_run 127 = .ok (.ireturn, 1) := by decide +kernel
theorem dX10_fair_0 : decode cX10_fair 0 = .ok (.iload_n 1, 1) := by decide +kernel
theorem dX10_fair_1 : decode cX10_fair 1 = .ok (.iconst (-1), 1) := by decide +kernel
theorem dX10_fair_2 : decode cX10_fair 2 = .ok (.if_icmp .eq 14, 3) := by decide +kernel
theorem dX10_fair_5 : decode cX10_fair 5 = .ok (.aload_n 0, 1) := by decide +kernel
theorem dX10_fair_6 : decode cX10_fair 6 = .ok (.iload_n 1, 1) := by decide +kernel
theorem dX10_fair_7 : decode cX10_fair 7 = .ok (.invokevirtual 220, 3) := by decide +kernel
theorem dX10_fair_10 : decode cX10_fair 10 = .ok (.ifCond .ne 6, 3) := by decide +kernel
theorem dX10_fair_13 : decode cX10_fair 13 = .ok (.ldc 223, 2) := by decide +kernel
theorem dX10_fair_15 : decode cX10_fair 15 = .ok (.ireturn, 1) := by decide +kernel
theorem dX10_fair_16 : decode cX10_fair 16 = .ok (.aload_n 0, 1) := by decide +kernel
theorem dX10_fair_17 : decode cX10_fair 17 = .ok (.getfield 91, 3) := by decide +kernel
theorem dX10_fair_20 : decode cX10_fair 20 = .ok (.ifCond .ne 5, 3) := by decide +kernel
theorem dX10_fair_23 : decode cX10_fair 23 = .ok (.iconst (-1), 1) := by decide +kernel
theorem dX10_fair_24 : decode cX10_fair 24 = .ok (.ireturn, 1) := by decide +kernel
theorem dX10_fair_25 : decode cX10_fair 25 = .ok (.iconst 0, 1) := by decide +kernel
theorem dX10_fair_26 : decode cX10_fair 26 = .ok (.istore_n 2, 1) := by decide +kernel
theorem dX10_fair_27 : decode cX10_fair 27 = .ok (.iload_n 2, 1) := by decide +kernel
theorem dX10_fair_28 : decode cX10_fair 28 = .ok (.aload_n 0, 1) := by decide +kernel
theorem dX10_fair_29 : decode cX10_fair 29 = .ok (.getfield 91, 3) := by decide +kernel
theorem dX10_fair_32 : decode cX10_fair 32 = .ok (.if_icmp .ge 24, 3) := by decide +kernel
theorem dX10_fair_35 : decode cX10_fair 35 = .ok (.aload_n 0, 1) := by decide +kernel
theorem dX10_fair_36 : decode cX10_fair 36 = .ok (.getfield 74, 3) := by decide +kernel
theorem dX10_fair_39 : decode cX10_fair 39 = .ok (.iload_n 2, 1) := by decide +kernel
theorem dX10_fair_40 : decode cX10_fair 40 = .ok (.aload_n 0, 1) := by decide +kernel
theorem dX10_fair_41 : decode cX10_fair 41 = .ok (.getfield 22, 3) := by decide +kernel
theorem dX10_fair_44 : decode cX10_fair 44 = .ok (.bipush 29, 2) := by decide +kernel
theorem dX10_fair_46 : decode cX10_fair 46 = .ok (.iload_n 2, 1) := by decide +kernel
theorem dX10_fair_47 : decode cX10_fair 47 = .ok (.iadd, 1) := by decide +kernel
theorem dX10_fair_48 : decode cX10_fair 48 = .ok (.iaload, 1) := by decide +kernel
theorem dX10_fair_49 : decode cX10_fair 49 = .ok (.iastore, 1) := by decide +kernel
theorem dX10_fair_50 : decode cX10_fair 50 = .ok (.iinc 2 1, 3) := by decide +kernel
theorem dX10_fair_53 : decode cX10_fair 53 = .ok (.goto (-26), 3) := by decide +kernel
theorem dX10_fair_56 : decode cX10_fair 56 = .ok (.iconst (-1), 1) := by decide +kernel
theorem dX10_fair_57 : decode cX10_fair 57 = .ok (.istore_n 2, 1) := by decide +kernel
theorem dX10_fair_58 : decode cX10_fair 58 = .ok (.iconst 0, 1) := by decide +kernel
theorem dX10_fair_59 : decode cX10_fair 59 = .ok (.istore_n 3, 1) := by decide +kernel
theorem dX10_fair_60 : decode cX10_fair 60 = .ok (.iload_n 3, 1) := by decide +kernel
theorem dX10_fair_61 : decode cX10_fair 61 = .ok (.aload_n 0, 1) := by decide +kernel
theorem dX10_fair_62 : decode cX10_fair 62 = .ok (.getfield 22, 3) := by decide +kernel
theorem dX10_fair_65 : decode cX10_fair 65 = .ok (.iconst 0, 1) := by decide +kernel
theorem dX10_fair_66 : decode cX10_fair 66 = .ok (.iaload, 1) := by decide +kernel
theorem dX10_fair_67 : decode cX10_fair 67 = .ok (.if_icmp .ge 83, 3) := by decide +kernel
theorem dX10_fair_70 : decode cX10_fair 70 = .ok (.iconst 0, 1) := by decide +kernel
theorem dX10_fair_71 : decode cX10_fair 71 = .ok (.istore 4, 2) := by decide +kernel
theorem dX10_fair_73 : decode cX10_fair 73 = .ok (.iconst 1, 1) := by decide +kernel
theorem dX10_fair_74 : decode cX10_fair 74 = .ok (.istore 5, 2) := by decide +kernel
theorem dX10_fair_76 : decode cX10_fair 76 = .ok (.iload 5, 2) := by decide +kernel
theorem dX10_fair_78 : decode cX10_fair 78 = .ok (.aload_n 0, 1) := by decide +kernel
theorem dX10_fair_79 : decode cX10_fair 79 = .ok (.getfield 91, 3) := by decide +kernel
theorem dX10_fair_82 : decode cX10_fair 82 = .ok (.if_icmp .ge 35, 3) := by decide +kernel
theorem dX10_fair_85 : decode cX10_fair 85 = .ok (.aload_n 0, 1) := by decide +kernel
theorem dX10_fair_86 : decode cX10_fair 86 = .ok (.getfield 74, 3) := by decide +kernel
theorem dX10_fair_89 : decode cX10_fair 89 = .ok (.iload 5, 2) := by decide +kernel
theorem dX10_fair_91 : decode cX10_fair 91 = .ok (.iaload, 1) := by decide +kernel
theorem dX10_fair_92 : decode cX10_fair 92 = .ok (.aload_n 0, 1) := by decide +kernel
theorem dX10_fair_93 : decode cX10_fair 93 = .ok (.getfield 74, 3) := by decide +kernel
theorem dX10_fair_96 : decode cX10_fair 96 = .ok (.iload 4, 2) := by decide +kernel
theorem dX10_fair_98 : decode cX10_fair 98 = .ok (.iaload, 1) := by decide +kernel
theorem dX10_fair_99 : decode cX10_fair 99 = .ok (.if_icmp .ge 8, 3) := by decide +kernel
theorem dX10_fair_102 : decode cX10_fair 102 = .ok (.iload 5, 2) := by decide +kernel
theorem dX10_fair_104 : decode cX10_fair 104 = .ok (.goto 5, 3) := by decide +kernel
theorem dX10_fair_107 : decode cX10_fair 107 = .ok (.iload 4, 2) := by decide +kernel
theorem dX10_fair_109 : decode cX10_fair 109 = .ok (.istore 4, 2) := by decide +kernel
theorem dX10_fair_111 : decode cX10_fair 111 = .ok (.iinc 5 1, 3) := by decide +kernel
theorem dX10_fair_114 : decode cX10_fair 114 = .ok (.goto (-38), 3) := by decide +kernel
theorem dX10_fair_117 : decode cX10_fair 117 = .ok (.aload_n 0, 1) := by decide +kernel
theorem dX10_fair_118 : decode cX10_fair 118 = .ok (.getfield 74, 3) := by decide +kernel
theorem dX10_fair_121 : decode cX10_fair 121 = .ok (.iload 4, 2) := by decide +kernel
theorem dX10_fair_123 : decode cX10_fair 123 = .ok (.dup2, 1) := by decide +kernel
theorem dX10_fair_124 : decode cX10_fair 124 = .ok (.iaload, 1) := by decide +kernel
theorem dX10_fair_125 : decode cX10_fair 125 = .ok (.aload_n 0, 1) := by decide +kernel
theorem dX10_fair_126 : decode cX10_fair 126 = .ok (.iload_n 3, 1) := by decide +kernel
theorem dX10_fair_127 : decode cX10_fair 127 = .ok (.invokevirtual 224, 3) := by decide +kernel
theorem dX10_fair_130 : decode cX10_fair 130 = .ok (.iadd, 1) := by decide +kernel
theorem dX10_fair_131 : decode cX10_fair 131 = .ok (.iastore, 1) := by decide +kernel
theorem dX10_fair_132 : decode cX10_fair 132 = .ok (.iload_n 3, 1) := by decide +kernel
theorem dX10_fair_133 : decode cX10_fair 133 = .ok (.iload_n 1, 1) := by decide +kernel
theorem dX10_fair_134 : decode cX10_fair 134 = .ok (.if_icmp .ne 8, 3) := by decide +kernel
theorem dX10_fair_137 : decode cX10_fair 137 = .ok (.iload 4, 2) := by decide +kernel
theorem dX10_fair_139 : decode cX10_fair 139 = .ok (.goto 4, 3) := by decide +kernel
theorem dX10_fair_142 : decode cX10_fair 142 = .ok (.iload_n 2, 1) := by decide +kernel
theorem dX10_fair_143 : decode cX10_fair 143 = .ok (.istore_n 2, 1) := by decide +kernel
theorem dX10_fair_144 : decode cX10_fair 144 = .ok (.iinc 3 1, 3) := by decide +kernel
theorem dX10_fair_147 : decode cX10_fair 147 = .ok (.goto (-87), 3) := by decide +kernel
theorem dX10_fair_150 : decode cX10_fair 150 = .ok (.iload_n 1, 1) := by decide +kernel
theorem dX10_fair_151 : decode cX10_fair 151 = .ok (.iconst (-1), 1) := by decide +kernel
theorem dX10_fair_152 : decode cX10_fair 152 = .ok (.if_icmp .ne 15, 3) := by decide +kernel
theorem dX10_fair_155 : decode cX10_fair 155 = .ok (.aload_n 0, 1) := by decide +kernel
theorem dX10_fair_156 : decode cX10_fair 156 = .ok (.aload_n 0, 1) := by decide +kernel
theorem dX10_fair_157 : decode cX10_fair 157 = .ok (.getfield 74, 3) := by decide +kernel
theorem dX10_fair_160 : decode cX10_fair 160 = .ok (.iconst 0, 1) := by decide +kernel
theorem dX10_fair_161 : decode cX10_fair 161 = .ok (.invokevirtual 210, 3) := by decide +kernel
theorem dX10_fair_164 : decode cX10_fair 164 = .ok (.goto 4, 3) := by decide +kernel
theorem dX10_fair_167 : decode cX10_fair 167 = .ok (.iload_n 2, 1) := by decide +kernel
theorem dX10_fair_168 : decode cX10_fair 168 = .ok (.ireturn, 1) := by decide +kernel
theorem dX10_dry_0 : decode cX10_dry 0 = .ok (.iload_n 1, 1) := by decide +kernel
theorem dX10_dry_1 : decode cX10_dry 1 = .ok (.i2l, 1) := by decide +kernel
theorem dX10_dry_2 : decode cX10_dry 2 = .ok (.lconst 0, 1) := by decide +kernel
theorem dX10_dry_3 : decode cX10_dry 3 = .ok (.ldc2_w 295, 3) := by decide +kernel
theorem dX10_dry_6 : decode cX10_dry 6 = .ok (.invokestatic 87, 3) := by decide +kernel
theorem dX10_dry_9 : decode cX10_dry 9 = .ok (.ifCond .eq 15, 3) := by decide +kernel
theorem dX10_dry_12 : decode cX10_dry 12 = .ok (.iload_n 2, 1) := by decide +kernel
theorem dX10_dry_13 : decode cX10_dry 13 = .ok (.i2l, 1) := by decide +kernel
theorem dX10_dry_14 : decode cX10_dry 14 = .ok (.lconst 0, 1) := by decide +kernel
theorem dX10_dry_15 : decode cX10_dry 15 = .ok (.ldc2_w 297, 3) := by decide +kernel
theorem dX10_dry_18 : decode cX10_dry 18 = .ok (.invokestatic 87, 3) := by decide +kernel
theorem dX10_dry_21 : decode cX10_dry 21 = .ok (.ifCond .ne 6, 3) := by decide +kernel
theorem dX10_dry_24 : decode cX10_dry 24 = .ok (.ldc 96, 2) := by decide +kernel
theorem dX10_dry_26 : decode cX10_dry 26 = .ok (.ireturn, 1) := by decide +kernel
theorem dX10_dry_27 : decode cX10_dry 27 = .ok (.ldc2_w 299, 3) := by decide +kernel
theorem dX10_dry_30 : decode cX10_dry 30 = .ok (.lstore_n 3, 1) := by decide +kernel
theorem dX10_dry_31 : decode cX10_dry 31 = .ok (.iconst 0, 1) := by decide +kernel
theorem dX10_dry_32 : decode cX10_dry 32 = .ok (.istore 5, 2) := by decide +kernel
theorem dX10_dry_34 : decode cX10_dry 34 = .ok (.iload 5, 2) := by decide +kernel
theorem dX10_dry_36 : decode cX10_dry 36 = .ok (.iload_n 1, 1) := by decide +kernel
theorem dX10_dry_37 : decode cX10_dry 37 = .ok (.if_icmp .ge 18, 3) := by decide +kernel
theorem dX10_dry_40 : decode cX10_dry 40 = .ok (.lload_n 3, 1) := by decide +kernel
theorem dX10_dry_41 : decode cX10_dry 41 = .ok (.iload_n 2, 1) := by decide +kernel
theorem dX10_dry_42 : decode cX10_dry 42 = .ok (.i2l, 1) := by decide +kernel
theorem dX10_dry_43 : decode cX10_dry 43 = .ok (.lmul, 1) := by decide +kernel
theorem dX10_dry_44 : decode cX10_dry 44 = .ok (.ldc2_w 297, 3) := by decide +kernel
theorem dX10_dry_47 : decode cX10_dry 47 = .ok (.ldiv, 1) := by decide +kernel
theorem dX10_dry_48 : decode cX10_dry 48 = .ok (.lstore_n 3, 1) := by decide +kernel
theorem dX10_dry_49 : decode cX10_dry 49 = .ok (.iinc 5 1, 3) := by decide +kernel
theorem dX10_dry_52 : decode cX10_dry 52 = .ok (.goto (-18), 3) := by decide +kernel
theorem dX10_dry_55 : decode cX10_dry 55 = .ok (.lload_n 3, 1) := by decide +kernel
theorem dX10_dry_56 : decode cX10_dry 56 = .ok (.l2i, 1) := by decide +kernel
theorem dX10_dry_57 : decode cX10_dry 57 = .ok (.ireturn, 1) := by decide +kernel
theorem dX10_guess_0 : decode cX10_guess 0 = .ok (.iload_n 1, 1) := by decide +kernel
theorem dX10_guess_1 : decode cX10_guess 1 = .ok (.i2l, 1) := by decide +kernel
theorem dX10_guess_2 : decode cX10_guess 2 = .ok (.lconst 0, 1) := by decide +kernel
theorem dX10_guess_3 : decode cX10_guess 3 = .ok (.ldc2_w 233, 3) := by decide +kernel
theorem dX10_guess_6 : decode cX10_guess 6 = .ok (.invokestatic 87, 3) := by decide +kernel
theorem dX10_guess_9 : decode cX10_guess 9 = .ok (.ifCond .eq 15, 3) := by decide +kernel
theorem dX10_guess_12 : decode cX10_guess 12 = .ok (.iload_n 2, 1) := by decide +kernel
theorem dX10_guess_13 : decode cX10_guess 13 = .ok (.i2l, 1) := by decide +kernel
theorem dX10_guess_14 : decode cX10_guess 14 = .ok (.lconst 0, 1) := by decide +kernel
theorem dX10_guess_15 : decode cX10_guess 15 = .ok (.ldc2_w 289, 3) := by decide +kernel
theorem dX10_guess_18 : decode cX10_guess 18 = .ok (.invokestatic 87, 3) := by decide +kernel
theorem dX10_guess_21 : decode cX10_guess 21 = .ok (.ifCond .ne 6, 3) := by decide +kernel
theorem dX10_guess_24 : decode cX10_guess 24 = .ok (.ldc 96, 2) := by decide +kernel
theorem dX10_guess_26 : decode cX10_guess 26 = .ok (.ireturn, 1) := by decide +kernel
theorem dX10_guess_27 : decode cX10_guess 27 = .ok (.aload_n 0, 1) := by decide +kernel
theorem dX10_guess_28 : decode cX10_guess 28 = .ok (.getfield 173, 3) := by decide +kernel
theorem dX10_guess_31 : decode cX10_guess 31 = .ok (.bipush 6, 2) := by decide +kernel
theorem dX10_guess_33 : decode cX10_guess 33 = .ok (.if_icmp .ne 6, 3) := by decide +kernel
theorem dX10_guess_36 : decode cX10_guess 36 = .ok (.ldc 100, 2) := by decide +kernel
theorem dX10_guess_38 : decode cX10_guess 38 = .ok (.ireturn, 1) := by decide +kernel
theorem dX10_guess_39 : decode cX10_guess 39 = .ok (.aload_n 0, 1) := by decide +kernel
theorem dX10_guess_40 : decode cX10_guess 40 = .ok (.getfield 31, 3) := by decide +kernel
theorem dX10_guess_43 : decode cX10_guess 43 = .ok (.aload_n 0, 1) := by decide +kernel
theorem dX10_guess_44 : decode cX10_guess 44 = .ok (.getfield 173, 3) := by decide +kernel
theorem dX10_guess_47 : decode cX10_guess 47 = .ok (.iload_n 1, 1) := by decide +kernel
theorem dX10_guess_48 : decode cX10_guess 48 = .ok (.iastore, 1) := by decide +kernel
theorem dX10_guess_49 : decode cX10_guess 49 = .ok (.aload_n 0, 1) := by decide +kernel
theorem dX10_guess_50 : decode cX10_guess 50 = .ok (.getfield 34, 3) := by decide +kernel
theorem dX10_guess_53 : decode cX10_guess 53 = .ok (.aload_n 0, 1) := by decide +kernel
theorem dX10_guess_54 : decode cX10_guess 54 = .ok (.getfield 173, 3) := by decide +kernel
theorem dX10_guess_57 : decode cX10_guess 57 = .ok (.iload_n 2, 1) := by decide +kernel
theorem dX10_guess_58 : decode cX10_guess 58 = .ok (.iastore, 1) := by decide +kernel
theorem dX10_guess_59 : decode cX10_guess 59 = .ok (.aload_n 0, 1) := by decide +kernel
theorem dX10_guess_60 : decode cX10_guess 60 = .ok (.getfield 37, 3) := by decide +kernel
theorem dX10_guess_63 : decode cX10_guess 63 = .ok (.aload_n 0, 1) := by decide +kernel
theorem dX10_guess_64 : decode cX10_guess 64 = .ok (.getfield 173, 3) := by decide +kernel
theorem dX10_guess_67 : decode cX10_guess 67 = .ok (.iload_n 3, 1) := by decide +kernel
theorem dX10_guess_68 : decode cX10_guess 68 = .ok (.ifCond .eq 7, 3) := by decide +kernel
theorem dX10_guess_71 : decode cX10_guess 71 = .ok (.iconst 1, 1) := by decide +kernel
theorem dX10_guess_72 : decode cX10_guess 72 = .ok (.goto 4, 3) := by decide +kernel
theorem dX10_guess_75 : decode cX10_guess 75 = .ok (.iconst 0, 1) := by decide +kernel
theorem dX10_guess_76 : decode cX10_guess 76 = .ok (.iastore, 1) := by decide +kernel
theorem dX10_guess_77 : decode cX10_guess 77 = .ok (.aload_n 0, 1) := by decide +kernel
theorem dX10_guess_78 : decode cX10_guess 78 = .ok (.dup, 1) := by decide +kernel
theorem dX10_guess_79 : decode cX10_guess 79 = .ok (.getfield 173, 3) := by decide +kernel
theorem dX10_guess_82 : decode cX10_guess 82 = .ok (.iconst 1, 1) := by decide +kernel
theorem dX10_guess_83 : decode cX10_guess 83 = .ok (.iadd, 1) := by decide +kernel
theorem dX10_guess_84 : decode cX10_guess 84 = .ok (.putfield 173, 3) := by decide +kernel
theorem dX10_guess_87 : decode cX10_guess 87 = .ok (.aload_n 0, 1) := by decide +kernel
theorem dX10_guess_88 : decode cX10_guess 88 = .ok (.getfield 173, 3) := by decide +kernel
theorem dX10_guess_91 : decode cX10_guess 91 = .ok (.ireturn, 1) := by decide +kernel
theorem dX10_kindIn_0 : decode cX10_kindIn 0 = .ok (.iload_n 2, 1) := by decide +kernel
theorem dX10_kindIn_1 : decode cX10_kindIn 1 = .ok (.aload_n 0, 1) := by decide +kernel
theorem dX10_kindIn_2 : decode cX10_kindIn 2 = .ok (.getfield 16, 3) := by decide +kernel
theorem dX10_kindIn_5 : decode cX10_kindIn 5 = .ok (.iload_n 1, 1) := by decide +kernel
theorem dX10_kindIn_6 : decode cX10_kindIn 6 = .ok (.iaload, 1) := by decide +kernel
theorem dX10_kindIn_7 : decode cX10_kindIn 7 = .ok (.if_icmp .ge 17, 3) := by decide +kernel
theorem dX10_kindIn_10 : decode cX10_kindIn 10 = .ok (.aload_n 0, 1) := by decide +kernel
theorem dX10_kindIn_11 : decode cX10_kindIn 11 = .ok (.getfield 19, 3) := by decide +kernel
theorem dX10_kindIn_14 : decode cX10_kindIn 14 = .ok (.bipush 8, 2) := by decide +kernel
theorem dX10_kindIn_16 : decode cX10_kindIn 16 = .ok (.iload_n 1, 1) := by decide +kernel
theorem dX10_kindIn_17 : decode cX10_kindIn 17 = .ok (.imul, 1) := by decide +kernel
theorem dX10_kindIn_18 : decode cX10_kindIn 18 = .ok (.iload_n 2, 1) := by decide +kernel
theorem dX10_kindIn_19 : decode cX10_kindIn 19 = .ok (.iadd, 1) := by decide +kernel
theorem dX10_kindIn_20 : decode cX10_kindIn 20 = .ok (.iaload, 1) := by decide +kernel
theorem dX10_kindIn_21 : decode cX10_kindIn 21 = .ok (.goto 4, 3) := by decide +kernel
theorem dX10_kindIn_24 : decode cX10_kindIn 24 = .ok (.iconst (-1), 1) := by decide +kernel
theorem dX10_kindIn_25 : decode cX10_kindIn 25 = .ok (.ireturn, 1) := by decide +kernel
theorem dX10_couldBeOne_0 : decode cX10_couldBeOne 0 = .ok (.iconst 1, 1) := by decide +kernel
theorem dX10_couldBeOne_1 : decode cX10_couldBeOne 1 = .ok (.istore_n 2, 1) := by decide +kernel
theorem dX10_couldBeOne_2 : decode cX10_couldBeOne 2 = .ok (.iconst 0, 1) := by decide +kernel
theorem dX10_couldBeOne_3 : decode cX10_couldBeOne 3 = .ok (.istore_n 3, 1) := by decide +kernel
theorem dX10_couldBeOne_4 : decode cX10_couldBeOne 4 = .ok (.iload_n 3, 1) := by decide +kernel
theorem dX10_couldBeOne_5 : decode cX10_couldBeOne 5 = .ok (.aload_n 0, 1) := by decide +kernel
theorem dX10_couldBeOne_6 : decode cX10_couldBeOne 6 = .ok (.getfield 173, 3) := by decide +kernel
theorem dX10_couldBeOne_9 : decode cX10_couldBeOne 9 = .ok (.if_icmp .ge 62, 3) := by decide +kernel
theorem dX10_couldBeOne_12 : decode cX10_couldBeOne 12 = .ok (.iload_n 2, 1) := by decide +kernel
theorem dX10_couldBeOne_13 : decode cX10_couldBeOne 13 = .ok (.ifCond .eq 50, 3) := by decide +kernel
theorem dX10_couldBeOne_16 : decode cX10_couldBeOne 16 = .ok (.aload_n 0, 1) := by decide +kernel
theorem dX10_couldBeOne_17 : decode cX10_couldBeOne 17 = .ok (.iload_n 1, 1) := by decide +kernel
theorem dX10_couldBeOne_18 : decode cX10_couldBeOne 18 = .ok (.aload_n 0, 1) := by decide +kernel
theorem dX10_couldBeOne_19 : decode cX10_couldBeOne 19 = .ok (.getfield 31, 3) := by decide +kernel
theorem dX10_couldBeOne_22 : decode cX10_couldBeOne 22 = .ok (.iload_n 3, 1) := by decide +kernel
theorem dX10_couldBeOne_23 : decode cX10_couldBeOne 23 = .ok (.iaload, 1) := by decide +kernel
theorem dX10_couldBeOne_24 : decode cX10_couldBeOne 24 = .ok (.invokevirtual 301, 3) := by decide +kernel
theorem dX10_couldBeOne_27 : decode cX10_couldBeOne 27 = .ok (.aload_n 0, 1) := by decide +kernel
theorem dX10_couldBeOne_28 : decode cX10_couldBeOne 28 = .ok (.getfield 34, 3) := by decide +kernel
theorem dX10_couldBeOne_31 : decode cX10_couldBeOne 31 = .ok (.iload_n 3, 1) := by decide +kernel
theorem dX10_couldBeOne_32 : decode cX10_couldBeOne 32 = .ok (.iaload, 1) := by decide +kernel
theorem dX10_couldBeOne_33 : decode cX10_couldBeOne 33 = .ok (.if_icmp .ne 7, 3) := by decide +kernel
theorem dX10_couldBeOne_36 : decode cX10_couldBeOne 36 = .ok (.iconst 1, 1) := by decide +kernel
theorem dX10_couldBeOne_37 : decode cX10_couldBeOne 37 = .ok (.goto 4, 3) := by decide +kernel
theorem dX10_couldBeOne_40 : decode cX10_couldBeOne 40 = .ok (.iconst 0, 1) := by decide +kernel
theorem dX10_couldBeOne_41 : decode cX10_couldBeOne 41 = .ok (.aload_n 0, 1) := by decide +kernel
theorem dX10_couldBeOne_42 : decode cX10_couldBeOne 42 = .ok (.getfield 37, 3) := by decide +kernel
theorem dX10_couldBeOne_45 : decode cX10_couldBeOne 45 = .ok (.iload_n 3, 1) := by decide +kernel
theorem dX10_couldBeOne_46 : decode cX10_couldBeOne 46 = .ok (.iaload, 1) := by decide +kernel
theorem dX10_couldBeOne_47 : decode cX10_couldBeOne 47 = .ok (.iconst 1, 1) := by decide +kernel
theorem dX10_couldBeOne_48 : decode cX10_couldBeOne 48 = .ok (.if_icmp .ne 7, 3) := by decide +kernel
theorem dX10_couldBeOne_51 : decode cX10_couldBeOne 51 = .ok (.iconst 1, 1) := by decide +kernel
theorem dX10_couldBeOne_52 : decode cX10_couldBeOne 52 = .ok (.goto 4, 3) := by decide +kernel
theorem dX10_couldBeOne_55 : decode cX10_couldBeOne 55 = .ok (.iconst 0, 1) := by decide +kernel
theorem dX10_couldBeOne_56 : decode cX10_couldBeOne 56 = .ok (.if_icmp .ne 7, 3) := by decide +kernel
theorem dX10_couldBeOne_59 : decode cX10_couldBeOne 59 = .ok (.iconst 1, 1) := by decide +kernel
theorem dX10_couldBeOne_60 : decode cX10_couldBeOne 60 = .ok (.goto 4, 3) := by decide +kernel
theorem dX10_couldBeOne_63 : decode cX10_couldBeOne 63 = .ok (.iconst 0, 1) := by decide +kernel
theorem dX10_couldBeOne_64 : decode cX10_couldBeOne 64 = .ok (.istore_n 2, 1) := by decide +kernel
theorem dX10_couldBeOne_65 : decode cX10_couldBeOne 65 = .ok (.iinc 3 1, 3) := by decide +kernel
theorem dX10_couldBeOne_68 : decode cX10_couldBeOne 68 = .ok (.goto (-64), 3) := by decide +kernel
theorem dX10_couldBeOne_71 : decode cX10_couldBeOne 71 = .ok (.iload_n 2, 1) := by decide +kernel
theorem dX10_couldBeOne_72 : decode cX10_couldBeOne 72 = .ok (.ireturn, 1) := by decide +kernel
theorem dX10_couldBe_0 : decode cX10_couldBe 0 = .ok (.iconst 0, 1) := by decide +kernel
theorem dX10_couldBe_1 : decode cX10_couldBe 1 = .ok (.istore_n 1, 1) := by decide +kernel
theorem dX10_couldBe_2 : decode cX10_couldBe 2 = .ok (.iconst 0, 1) := by decide +kernel
theorem dX10_couldBe_3 : decode cX10_couldBe 3 = .ok (.istore_n 2, 1) := by decide +kernel
theorem dX10_couldBe_4 : decode cX10_couldBe 4 = .ok (.iload_n 2, 1) := by decide +kernel
theorem dX10_couldBe_5 : decode cX10_couldBe 5 = .ok (.aload_n 0, 1) := by decide +kernel
theorem dX10_couldBe_6 : decode cX10_couldBe 6 = .ok (.getfield 164, 3) := by decide +kernel
theorem dX10_couldBe_9 : decode cX10_couldBe 9 = .ok (.if_icmp .ge 27, 3) := by decide +kernel
theorem dX10_couldBe_12 : decode cX10_couldBe 12 = .ok (.iload_n 1, 1) := by decide +kernel
theorem dX10_couldBe_13 : decode cX10_couldBe 13 = .ok (.aload_n 0, 1) := by decide +kernel
theorem dX10_couldBe_14 : decode cX10_couldBe 14 = .ok (.iload_n 2, 1) := by decide +kernel
theorem dX10_couldBe_15 : decode cX10_couldBe 15 = .ok (.invokevirtual 304, 3) := by decide +kernel
theorem dX10_couldBe_18 : decode cX10_couldBe 18 = .ok (.ifCond .eq 9, 3) := by decide +kernel
theorem dX10_couldBe_21 : decode cX10_couldBe 21 = .ok (.iconst 1, 1) := by decide +kernel
theorem dX10_couldBe_22 : decode cX10_couldBe 22 = .ok (.iload_n 2, 1) := by decide +kernel
theorem dX10_couldBe_23 : decode cX10_couldBe 23 = .ok (.ishl, 1) := by decide +kernel
theorem dX10_couldBe_24 : decode cX10_couldBe 24 = .ok (.goto 4, 3) := by decide +kernel
theorem dX10_couldBe_27 : decode cX10_couldBe 27 = .ok (.iconst 0, 1) := by decide +kernel
theorem dX10_couldBe_28 : decode cX10_couldBe 28 = .ok (.ior, 1) := by decide +kernel
theorem dX10_couldBe_29 : decode cX10_couldBe 29 = .ok (.istore_n 1, 1) := by decide +kernel
theorem dX10_couldBe_30 : decode cX10_couldBe 30 = .ok (.iinc 2 1, 3) := by decide +kernel
theorem dX10_couldBe_33 : decode cX10_couldBe 33 = .ok (.goto (-29), 3) := by decide +kernel
theorem dX10_couldBe_36 : decode cX10_couldBe 36 = .ok (.iload_n 1, 1) := by decide +kernel
theorem dX10_couldBe_37 : decode cX10_couldBe 37 = .ok (.ireturn, 1) := by decide +kernel
theorem dX10_ask_0 : decode cX10_ask 0 = .ok (.aload_n 0, 1) := by decide +kernel
theorem dX10_ask_1 : decode cX10_ask 1 = .ok (.invokevirtual 307, 3) := by decide +kernel
theorem dX10_ask_4 : decode cX10_ask 4 = .ok (.istore_n 1, 1) := by decide +kernel
theorem dX10_ask_5 : decode cX10_ask 5 = .ok (.iconst (-1), 1) := by decide +kernel
theorem dX10_ask_6 : decode cX10_ask 6 = .ok (.istore_n 2, 1) := by decide +kernel
theorem dX10_ask_7 : decode cX10_ask 7 = .ok (.iconst 0, 1) := by decide +kernel
theorem dX10_ask_8 : decode cX10_ask 8 = .ok (.istore_n 3, 1) := by decide +kernel
theorem dX10_ask_9 : decode cX10_ask 9 = .ok (.iconst 0, 1) := by decide +kernel
theorem dX10_ask_10 : decode cX10_ask 10 = .ok (.istore 4, 2) := by decide +kernel
theorem dX10_ask_12 : decode cX10_ask 12 = .ok (.iload 4, 2) := by decide +kernel
theorem dX10_ask_14 : decode cX10_ask 14 = .ok (.aload_n 0, 1) := by decide +kernel
theorem dX10_ask_15 : decode cX10_ask 15 = .ok (.getfield 164, 3) := by decide +kernel
theorem dX10_ask_18 : decode cX10_ask 18 = .ok (.if_icmp .ge 18, 3) := by decide +kernel
theorem dX10_ask_21 : decode cX10_ask 21 = .ok (.iload_n 3, 1) := by decide +kernel
theorem dX10_ask_22 : decode cX10_ask 22 = .ok (.iload_n 1, 1) := by decide +kernel
theorem dX10_ask_23 : decode cX10_ask 23 = .ok (.iload 4, 2) := by decide +kernel
theorem dX10_ask_25 : decode cX10_ask 25 = .ok (.ishr, 1) := by decide +kernel
theorem dX10_ask_26 : decode cX10_ask 26 = .ok (.iconst 1, 1) := by decide +kernel
theorem dX10_ask_27 : decode cX10_ask 27 = .ok (.iand, 1) := by decide +kernel
theorem dX10_ask_28 : decode cX10_ask 28 = .ok (.iadd, 1) := by decide +kernel
theorem dX10_ask_29 : decode cX10_ask 29 = .ok (.istore_n 3, 1) := by decide +kernel
theorem dX10_ask_30 : decode cX10_ask 30 = .ok (.iinc 4 1, 3) := by decide +kernel
theorem dX10_ask_33 : decode cX10_ask 33 = .ok (.goto (-21), 3) := by decide +kernel
theorem dX10_ask_36 : decode cX10_ask 36 = .ok (.iconst 0, 1) := by decide +kernel
theorem dX10_ask_37 : decode cX10_ask 37 = .ok (.istore 4, 2) := by decide +kernel
theorem dX10_ask_39 : decode cX10_ask 39 = .ok (.iload 4, 2) := by decide +kernel
theorem dX10_ask_41 : decode cX10_ask 41 = .ok (.bipush 8, 2) := by decide +kernel
theorem dX10_ask_43 : decode cX10_ask 43 = .ok (.if_icmp .ge 140, 3) := by decide +kernel
theorem dX10_ask_46 : decode cX10_ask 46 = .ok (.iconst 0, 1) := by decide +kernel
theorem dX10_ask_47 : decode cX10_ask 47 = .ok (.istore 5, 2) := by decide +kernel
theorem dX10_ask_49 : decode cX10_ask 49 = .ok (.iconst 0, 1) := by decide +kernel
theorem dX10_ask_50 : decode cX10_ask 50 = .ok (.istore 6, 2) := by decide +kernel
theorem dX10_ask_52 : decode cX10_ask 52 = .ok (.iload 6, 2) := by decide +kernel
theorem dX10_ask_54 : decode cX10_ask 54 = .ok (.aload_n 0, 1) := by decide +kernel
theorem dX10_ask_55 : decode cX10_ask 55 = .ok (.getfield 164, 3) := by decide +kernel
theorem dX10_ask_58 : decode cX10_ask 58 = .ok (.if_icmp .ge 93, 3) := by decide +kernel
theorem dX10_ask_61 : decode cX10_ask 61 = .ok (.iconst 0, 1) := by decide +kernel
theorem dX10_ask_62 : decode cX10_ask 62 = .ok (.istore 7, 2) := by decide +kernel
theorem dX10_ask_64 : decode cX10_ask 64 = .ok (.iconst 0, 1) := by decide +kernel
theorem dX10_ask_65 : decode cX10_ask 65 = .ok (.istore 8, 2) := by decide +kernel
theorem dX10_ask_67 : decode cX10_ask 67 = .ok (.iload 8, 2) := by decide +kernel
theorem dX10_ask_69 : decode cX10_ask 69 = .ok (.aload_n 0, 1) := by decide +kernel
theorem dX10_ask_70 : decode cX10_ask 70 = .ok (.getfield 164, 3) := by decide +kernel
theorem dX10_ask_73 : decode cX10_ask 73 = .ok (.if_icmp .ge 56, 3) := by decide +kernel
theorem dX10_ask_76 : decode cX10_ask 76 = .ok (.iload 7, 2) := by decide +kernel
theorem dX10_ask_78 : decode cX10_ask 78 = .ok (.iload_n 1, 1) := by decide +kernel
theorem dX10_ask_79 : decode cX10_ask 79 = .ok (.iload 6, 2) := by decide +kernel
theorem dX10_ask_81 : decode cX10_ask 81 = .ok (.invokestatic 310, 3) := by decide +kernel
theorem dX10_ask_84 : decode cX10_ask 84 = .ok (.ifCond .eq 35, 3) := by decide +kernel
theorem dX10_ask_87 : decode cX10_ask 87 = .ok (.iload_n 1, 1) := by decide +kernel
theorem dX10_ask_88 : decode cX10_ask 88 = .ok (.iload 8, 2) := by decide +kernel
theorem dX10_ask_90 : decode cX10_ask 90 = .ok (.invokestatic 310, 3) := by decide +kernel
theorem dX10_ask_93 : decode cX10_ask 93 = .ok (.ifCond .eq 26, 3) := by decide +kernel
theorem dX10_ask_96 : decode cX10_ask 96 = .ok (.aload_n 0, 1) := by decide +kernel
theorem dX10_ask_97 : decode cX10_ask 97 = .ok (.iload 6, 2) := by decide +kernel
theorem dX10_ask_99 : decode cX10_ask 99 = .ok (.iload 4, 2) := by decide +kernel
theorem dX10_ask_101 : decode cX10_ask 101 = .ok (.invokevirtual 301, 3) := by decide +kernel
theorem dX10_ask_104 : decode cX10_ask 104 = .ok (.aload_n 0, 1) := by decide +kernel
theorem dX10_ask_105 : decode cX10_ask 105 = .ok (.iload 8, 2) := by decide +kernel
theorem dX10_ask_107 : decode cX10_ask 107 = .ok (.iload 4, 2) := by decide +kernel
theorem dX10_ask_109 : decode cX10_ask 109 = .ok (.invokevirtual 301, 3) := by decide +kernel
theorem dX10_ask_112 : decode cX10_ask 112 = .ok (.if_icmp .ne 7, 3) := by decide +kernel
theorem dX10_ask_115 : decode cX10_ask 115 = .ok (.iconst 1, 1) := by decide +kernel
theorem dX10_ask_116 : decode cX10_ask 116 = .ok (.goto 4, 3) := by decide +kernel
theorem dX10_ask_119 : decode cX10_ask 119 = .ok (.iconst 0, 1) := by decide +kernel
theorem dX10_ask_120 : decode cX10_ask 120 = .ok (.iadd, 1) := by decide +kernel
theorem dX10_ask_121 : decode cX10_ask 121 = .ok (.istore 7, 2) := by decide +kernel
theorem dX10_ask_123 : decode cX10_ask 123 = .ok (.iinc 8 1, 3) := by decide +kernel
theorem dX10_ask_126 : decode cX10_ask 126 = .ok (.goto (-59), 3) := by decide +kernel
theorem dX10_ask_129 : decode cX10_ask 129 = .ok (.iload 7, 2) := by decide +kernel
theorem dX10_ask_131 : decode cX10_ask 131 = .ok (.iload 5, 2) := by decide +kernel
theorem dX10_ask_133 : decode cX10_ask 133 = .ok (.if_icmp .le 8, 3) := by decide +kernel
theorem dX10_ask_136 : decode cX10_ask 136 = .ok (.iload 7, 2) := by decide +kernel
theorem dX10_ask_138 : decode cX10_ask 138 = .ok (.goto 5, 3) := by decide +kernel
theorem dX10_ask_141 : decode cX10_ask 141 = .ok (.iload 5, 2) := by decide +kernel
theorem dX10_ask_143 : decode cX10_ask 143 = .ok (.istore 5, 2) := by decide +kernel
theorem dX10_ask_145 : decode cX10_ask 145 = .ok (.iinc 6 1, 3) := by decide +kernel
theorem dX10_ask_148 : decode cX10_ask 148 = .ok (.goto (-96), 3) := by decide +kernel
theorem dX10_ask_151 : decode cX10_ask 151 = .ok (.iload 5, 2) := by decide +kernel
theorem dX10_ask_153 : decode cX10_ask 153 = .ok (.iload_n 3, 1) := by decide +kernel
theorem dX10_ask_154 : decode cX10_ask 154 = .ok (.if_icmp .ge 8, 3) := by decide +kernel
theorem dX10_ask_157 : decode cX10_ask 157 = .ok (.iload 4, 2) := by decide +kernel
theorem dX10_ask_159 : decode cX10_ask 159 = .ok (.goto 4, 3) := by decide +kernel
theorem dX10_ask_162 : decode cX10_ask 162 = .ok (.iload_n 2, 1) := by decide +kernel
theorem dX10_ask_163 : decode cX10_ask 163 = .ok (.istore_n 2, 1) := by decide +kernel
theorem dX10_ask_164 : decode cX10_ask 164 = .ok (.iload 5, 2) := by decide +kernel
theorem dX10_ask_166 : decode cX10_ask 166 = .ok (.iload_n 3, 1) := by decide +kernel
theorem dX10_ask_167 : decode cX10_ask 167 = .ok (.if_icmp .ge 8, 3) := by decide +kernel
theorem dX10_ask_170 : decode cX10_ask 170 = .ok (.iload 5, 2) := by decide +kernel
theorem dX10_ask_172 : decode cX10_ask 172 = .ok (.goto 4, 3) := by decide +kernel
theorem dX10_ask_175 : decode cX10_ask 175 = .ok (.iload_n 3, 1) := by decide +kernel
theorem dX10_ask_176 : decode cX10_ask 176 = .ok (.istore_n 3, 1) := by decide +kernel
theorem dX10_ask_177 : decode cX10_ask 177 = .ok (.iinc 4 1, 3) := by decide +kernel
theorem dX10_ask_180 : decode cX10_ask 180 = .ok (.goto (-141), 3) := by decide +kernel
theorem dX10_ask_183 : decode cX10_ask 183 = .ok (.iload_n 2, 1) := by decide +kernel
theorem dX10_ask_184 : decode cX10_ask 184 = .ok (.ireturn, 1) := by decide +kernel
theorem dX10_write_0 : decode cX10_write 0 = .ok (.aload_n 0, 1) := by decide +kernel
theorem dX10_write_1 : decode cX10_write 1 = .ok (.iload_n 1, 1) := by decide +kernel
theorem dX10_write_2 : decode cX10_write 2 = .ok (.invokevirtual 230, 3) := by decide +kernel
theorem dX10_write_5 : decode cX10_write 5 = .ok (.ifCond .ne 6, 3) := by decide +kernel
theorem dX10_write_8 : decode cX10_write 8 = .ok (.ldc 223, 2) := by decide +kernel
theorem dX10_write_10 : decode cX10_write 10 = .ok (.ireturn, 1) := by decide +kernel
theorem dX10_write_11 : decode cX10_write 11 = .ok (.iload_n 2, 1) := by decide +kernel
theorem dX10_write_12 : decode cX10_write 12 = .ok (.i2l, 1) := by decide +kernel
theorem dX10_write_13 : decode cX10_write 13 = .ok (.lconst 0, 1) := by decide +kernel
theorem dX10_write_14 : decode cX10_write 14 = .ok (.ldc2_w 313, 3) := by decide +kernel
theorem dX10_write_17 : decode cX10_write 17 = .ok (.invokestatic 87, 3) := by decide +kernel
theorem dX10_write_20 : decode cX10_write 20 = .ok (.ifCond .ne 6, 3) := by decide +kernel
theorem dX10_write_23 : decode cX10_write 23 = .ok (.ldc 96, 2) := by decide +kernel
theorem dX10_write_25 : decode cX10_write 25 = .ok (.ireturn, 1) := by decide +kernel
theorem dX10_write_26 : decode cX10_write 26 = .ok (.aload_n 0, 1) := by decide +kernel
theorem dX10_write_27 : decode cX10_write 27 = .ok (.getfield 176, 3) := by decide +kernel
theorem dX10_write_30 : decode cX10_write 30 = .ok (.bipush 20, 2) := by decide +kernel
theorem dX10_write_32 : decode cX10_write 32 = .ok (.if_icmp .ne 6, 3) := by decide +kernel
theorem dX10_write_35 : decode cX10_write 35 = .ok (.ldc 100, 2) := by decide +kernel
theorem dX10_write_37 : decode cX10_write 37 = .ok (.ireturn, 1) := by decide +kernel
theorem dX10_write_38 : decode cX10_write 38 = .ok (.aload_n 0, 1) := by decide +kernel
theorem dX10_write_39 : decode cX10_write 39 = .ok (.getfield 25, 3) := by decide +kernel
theorem dX10_write_42 : decode cX10_write 42 = .ok (.aload_n 0, 1) := by decide +kernel
theorem dX10_write_43 : decode cX10_write 43 = .ok (.getfield 176, 3) := by decide +kernel
theorem dX10_write_46 : decode cX10_write 46 = .ok (.iload_n 1, 1) := by decide +kernel
theorem dX10_write_47 : decode cX10_write 47 = .ok (.iastore, 1) := by decide +kernel
theorem dX10_write_48 : decode cX10_write 48 = .ok (.aload_n 0, 1) := by decide +kernel
theorem dX10_write_49 : decode cX10_write 49 = .ok (.getfield 28, 3) := by decide +kernel
theorem dX10_write_52 : decode cX10_write 52 = .ok (.aload_n 0, 1) := by decide +kernel
theorem dX10_write_53 : decode cX10_write 53 = .ok (.getfield 176, 3) := by decide +kernel
theorem dX10_write_56 : decode cX10_write 56 = .ok (.iload_n 2, 1) := by decide +kernel
theorem dX10_write_57 : decode cX10_write 57 = .ok (.iastore, 1) := by decide +kernel
theorem dX10_write_58 : decode cX10_write 58 = .ok (.aload_n 0, 1) := by decide +kernel
theorem dX10_write_59 : decode cX10_write 59 = .ok (.dup, 1) := by decide +kernel
theorem dX10_write_60 : decode cX10_write 60 = .ok (.getfield 176, 3) := by decide +kernel
theorem dX10_write_63 : decode cX10_write 63 = .ok (.iconst 1, 1) := by decide +kernel
theorem dX10_write_64 : decode cX10_write 64 = .ok (.iadd, 1) := by decide +kernel
theorem dX10_write_65 : decode cX10_write 65 = .ok (.putfield 176, 3) := by decide +kernel
theorem dX10_write_68 : decode cX10_write 68 = .ok (.aload_n 0, 1) := by decide +kernel
theorem dX10_write_69 : decode cX10_write 69 = .ok (.getfield 176, 3) := by decide +kernel
theorem dX10_write_72 : decode cX10_write 72 = .ok (.ireturn, 1) := by decide +kernel
theorem dX10_judge_0 : decode cX10_judge 0 = .ok (.iconst 0, 1) := by decide +kernel
theorem dX10_judge_1 : decode cX10_judge 1 = .ok (.istore_n 1, 1) := by decide +kernel
theorem dX10_judge_2 : decode cX10_judge 2 = .ok (.iload_n 1, 1) := by decide +kernel
theorem dX10_judge_3 : decode cX10_judge 3 = .ok (.aload_n 0, 1) := by decide +kernel
theorem dX10_judge_4 : decode cX10_judge 4 = .ok (.getfield 176, 3) := by decide +kernel
theorem dX10_judge_7 : decode cX10_judge 7 = .ok (.if_icmp .ge 34, 3) := by decide +kernel
theorem dX10_judge_10 : decode cX10_judge 10 = .ok (.aload_n 0, 1) := by decide +kernel
theorem dX10_judge_11 : decode cX10_judge 11 = .ok (.getfield 22, 3) := by decide +kernel
theorem dX10_judge_14 : decode cX10_judge 14 = .ok (.bipush 29, 2) := by decide +kernel
theorem dX10_judge_16 : decode cX10_judge 16 = .ok (.aload_n 0, 1) := by decide +kernel
theorem dX10_judge_17 : decode cX10_judge 17 = .ok (.getfield 25, 3) := by decide +kernel
theorem dX10_judge_20 : decode cX10_judge 20 = .ok (.iload_n 1, 1) := by decide +kernel
theorem dX10_judge_21 : decode cX10_judge 21 = .ok (.iaload, 1) := by decide +kernel
theorem dX10_judge_22 : decode cX10_judge 22 = .ok (.iadd, 1) := by decide +kernel
theorem dX10_judge_23 : decode cX10_judge 23 = .ok (.iaload, 1) := by decide +kernel
theorem dX10_judge_24 : decode cX10_judge 24 = .ok (.aload_n 0, 1) := by decide +kernel
theorem dX10_judge_25 : decode cX10_judge 25 = .ok (.getfield 28, 3) := by decide +kernel
theorem dX10_judge_28 : decode cX10_judge 28 = .ok (.iload_n 1, 1) := by decide +kernel
theorem dX10_judge_29 : decode cX10_judge 29 = .ok (.iaload, 1) := by decide +kernel
theorem dX10_judge_30 : decode cX10_judge 30 = .ok (.if_icmp .eq 5, 3) := by decide +kernel
theorem dX10_judge_33 : decode cX10_judge 33 = .ok (.iload_n 1, 1) := by decide +kernel
theorem dX10_judge_34 : decode cX10_judge 34 = .ok (.ireturn, 1) := by decide +kernel
theorem dX10_judge_35 : decode cX10_judge 35 = .ok (.iinc 1 1, 3) := by decide +kernel
theorem dX10_judge_38 : decode cX10_judge 38 = .ok (.goto (-36), 3) := by decide +kernel
theorem dX10_judge_41 : decode cX10_judge 41 = .ok (.iconst (-1), 1) := by decide +kernel
theorem dX10_judge_42 : decode cX10_judge 42 = .ok (.ireturn, 1) := by decide +kernel
theorem dX10_tear_0 : decode cX10_tear 0 = .ok (.aload_n 0, 1) := by decide +kernel
theorem dX10_tear_1 : decode cX10_tear 1 = .ok (.getfield 173, 3) := by decide +kernel
theorem dX10_tear_4 : decode cX10_tear 4 = .ok (.aload_n 0, 1) := by decide +kernel
theorem dX10_tear_5 : decode cX10_tear 5 = .ok (.getfield 176, 3) := by decide +kernel
theorem dX10_tear_8 : decode cX10_tear 8 = .ok (.iadd, 1) := by decide +kernel
theorem dX10_tear_9 : decode cX10_tear 9 = .ok (.istore_n 1, 1) := by decide +kernel
theorem dX10_tear_10 : decode cX10_tear 10 = .ok (.aload_n 0, 1) := by decide +kernel
theorem dX10_tear_11 : decode cX10_tear 11 = .ok (.iconst 0, 1) := by decide +kernel
theorem dX10_tear_12 : decode cX10_tear 12 = .ok (.putfield 173, 3) := by decide +kernel
theorem dX10_tear_15 : decode cX10_tear 15 = .ok (.aload_n 0, 1) := by decide +kernel
theorem dX10_tear_16 : decode cX10_tear 16 = .ok (.iconst 0, 1) := by decide +kernel
theorem dX10_tear_17 : decode cX10_tear 17 = .ok (.putfield 176, 3) := by decide +kernel
theorem dX10_tear_20 : decode cX10_tear 20 = .ok (.iload_n 1, 1) := by decide +kernel
theorem dX10_tear_21 : decode cX10_tear 21 = .ok (.ireturn, 1) := by decide +kernel
theorem dX10_seed_0 : decode cX10_seed 0 = .ok (.iload_n 1, 1) := by decide +kernel
theorem dX10_seed_1 : decode cX10_seed 1 = .ok (.ifCond .ge 6, 3) := by decide +kernel
theorem dX10_seed_4 : decode cX10_seed 4 = .ok (.ldc 96, 2) := by decide +kernel
theorem dX10_seed_6 : decode cX10_seed 6 = .ok (.ireturn, 1) := by decide +kernel
theorem dX10_seed_7 : decode cX10_seed 7 = .ok (.aload_n 0, 1) := by decide +kernel
theorem dX10_seed_8 : decode cX10_seed 8 = .ok (.getfield 266, 3) := by decide +kernel
theorem dX10_seed_11 : decode cX10_seed 11 = .ok (.istore_n 2, 1) := by decide +kernel
theorem dX10_seed_12 : decode cX10_seed 12 = .ok (.aload_n 0, 1) := by decide +kernel
theorem dX10_seed_13 : decode cX10_seed 13 = .ok (.iload_n 1, 1) := by decide +kernel
theorem dX10_seed_14 : decode cX10_seed 14 = .ok (.putfield 266, 3) := by decide +kernel
theorem dX10_seed_17 : decode cX10_seed 17 = .ok (.iload_n 2, 1) := by decide +kernel
theorem dX10_seed_18 : decode cX10_seed 18 = .ok (.ireturn, 1) := by decide +kernel
theorem dX10_keep_0 : decode cX10_keep 0 = .ok (.iload_n 1, 1) := by decide +kernel
theorem dX10_keep_1 : decode cX10_keep 1 = .ok (.i2l, 1) := by decide +kernel
theorem dX10_keep_2 : decode cX10_keep 2 = .ok (.lconst 0, 1) := by decide +kernel
theorem dX10_keep_3 : decode cX10_keep 3 = .ok (.lconst 1, 1) := by decide +kernel
theorem dX10_keep_4 : decode cX10_keep 4 = .ok (.invokestatic 87, 3) := by decide +kernel
theorem dX10_keep_7 : decode cX10_keep 7 = .ok (.ifCond .ne 6, 3) := by decide +kernel
theorem dX10_keep_10 : decode cX10_keep 10 = .ok (.ldc 223, 2) := by decide +kernel
theorem dX10_keep_12 : decode cX10_keep 12 = .ok (.ireturn, 1) := by decide +kernel
theorem dX10_keep_13 : decode cX10_keep 13 = .ok (.iconst 0, 1) := by decide +kernel
theorem dX10_keep_14 : decode cX10_keep 14 = .ok (.istore_n 2, 1) := by decide +kernel
theorem dX10_keep_15 : decode cX10_keep 15 = .ok (.iload_n 2, 1) := by decide +kernel
theorem dX10_keep_16 : decode cX10_keep 16 = .ok (.bipush 125, 2) := by decide +kernel
theorem dX10_keep_18 : decode cX10_keep 18 = .ok (.if_icmp .ge 26, 3) := by decide +kernel
theorem dX10_keep_21 : decode cX10_keep 21 = .ok (.aload_n 0, 1) := by decide +kernel
theorem dX10_keep_22 : decode cX10_keep 22 = .ok (.getfield 77, 3) := by decide +kernel
theorem dX10_keep_25 : decode cX10_keep 25 = .ok (.bipush 126, 2) := by decide +kernel
theorem dX10_keep_27 : decode cX10_keep 27 = .ok (.iload_n 1, 1) := by decide +kernel
theorem dX10_keep_28 : decode cX10_keep 28 = .ok (.imul, 1) := by decide +kernel
theorem dX10_keep_29 : decode cX10_keep 29 = .ok (.iload_n 2, 1) := by decide +kernel
theorem dX10_keep_30 : decode cX10_keep 30 = .ok (.iadd, 1) := by decide +kernel
theorem dX10_keep_31 : decode cX10_keep 31 = .ok (.aload_n 0, 1) := by decide +kernel
theorem dX10_keep_32 : decode cX10_keep 32 = .ok (.getfield 22, 3) := by decide +kernel
theorem dX10_keep_35 : decode cX10_keep 35 = .ok (.iload_n 2, 1) := by decide +kernel
theorem dX10_keep_36 : decode cX10_keep 36 = .ok (.iaload, 1) := by decide +kernel
theorem dX10_keep_37 : decode cX10_keep 37 = .ok (.iastore, 1) := by decide +kernel
theorem dX10_keep_38 : decode cX10_keep 38 = .ok (.iinc 2 1, 3) := by decide +kernel
theorem dX10_keep_41 : decode cX10_keep 41 = .ok (.goto (-26), 3) := by decide +kernel
theorem dX10_keep_44 : decode cX10_keep 44 = .ok (.aload_n 0, 1) := by decide +kernel
theorem dX10_keep_45 : decode cX10_keep 45 = .ok (.getfield 77, 3) := by decide +kernel
theorem dX10_keep_48 : decode cX10_keep 48 = .ok (.bipush 126, 2) := by decide +kernel
theorem dX10_keep_50 : decode cX10_keep 50 = .ok (.iload_n 1, 1) := by decide +kernel
theorem dX10_keep_51 : decode cX10_keep 51 = .ok (.imul, 1) := by decide +kernel
theorem dX10_keep_52 : decode cX10_keep 52 = .ok (.bipush 125, 2) := by decide +kernel
theorem dX10_keep_54 : decode cX10_keep 54 = .ok (.iadd, 1) := by decide +kernel
theorem dX10_keep_55 : decode cX10_keep 55 = .ok (.aload_n 0, 1) := by decide +kernel
theorem dX10_keep_56 : decode cX10_keep 56 = .ok (.getfield 266, 3) := by decide +kernel
theorem dX10_keep_59 : decode cX10_keep 59 = .ok (.iastore, 1) := by decide +kernel
theorem dX10_keep_60 : decode cX10_keep 60 = .ok (.aload_n 0, 1) := by decide +kernel
theorem dX10_keep_61 : decode cX10_keep 61 = .ok (.getfield 80, 3) := by decide +kernel
theorem dX10_keep_64 : decode cX10_keep 64 = .ok (.iload_n 1, 1) := by decide +kernel
theorem dX10_keep_65 : decode cX10_keep 65 = .ok (.iconst 1, 1) := by decide +kernel
theorem dX10_keep_66 : decode cX10_keep 66 = .ok (.bastore, 1) := by decide +kernel
theorem dX10_keep_67 : decode cX10_keep 67 = .ok (.aload_n 0, 1) := by decide +kernel
theorem dX10_keep_68 : decode cX10_keep 68 = .ok (.iconst 0, 1) := by decide +kernel
theorem dX10_keep_69 : decode cX10_keep 69 = .ok (.putfield 179, 3) := by decide +kernel
theorem dX10_keep_72 : decode cX10_keep 72 = .ok (.iconst 1, 1) := by decide +kernel
theorem dX10_keep_73 : decode cX10_keep 73 = .ok (.ireturn, 1) := by decide +kernel
theorem dX10_goBack_0 : decode cX10_goBack 0 = .ok (.iload_n 1, 1) := by decide +kernel
theorem dX10_goBack_1 : decode cX10_goBack 1 = .ok (.i2l, 1) := by decide +kernel
theorem dX10_goBack_2 : decode cX10_goBack 2 = .ok (.lconst 0, 1) := by decide +kernel
theorem dX10_goBack_3 : decode cX10_goBack 3 = .ok (.lconst 1, 1) := by decide +kernel
theorem dX10_goBack_4 : decode cX10_goBack 4 = .ok (.invokestatic 87, 3) := by decide +kernel
theorem dX10_goBack_7 : decode cX10_goBack 7 = .ok (.ifCond .ne 6, 3) := by decide +kernel
theorem dX10_goBack_10 : decode cX10_goBack 10 = .ok (.ldc 223, 2) := by decide +kernel
theorem dX10_goBack_12 : decode cX10_goBack 12 = .ok (.ireturn, 1) := by decide +kernel
theorem dX10_goBack_13 : decode cX10_goBack 13 = .ok (.aload_n 0, 1) := by decide +kernel
theorem dX10_goBack_14 : decode cX10_goBack 14 = .ok (.getfield 80, 3) := by decide +kernel
theorem dX10_goBack_17 : decode cX10_goBack 17 = .ok (.iload_n 1, 1) := by decide +kernel
theorem dX10_goBack_18 : decode cX10_goBack 18 = .ok (.baload, 1) := by decide +kernel
theorem dX10_goBack_19 : decode cX10_goBack 19 = .ok (.ifCond .ne 6, 3) := by decide +kernel
theorem dX10_goBack_22 : decode cX10_goBack 22 = .ok (.ldc 248, 2) := by decide +kernel
theorem dX10_goBack_24 : decode cX10_goBack 24 = .ok (.ireturn, 1) := by decide +kernel
theorem dX10_goBack_25 : decode cX10_goBack 25 = .ok (.iconst 0, 1) := by decide +kernel
theorem dX10_goBack_26 : decode cX10_goBack 26 = .ok (.istore_n 2, 1) := by decide +kernel
theorem dX10_goBack_27 : decode cX10_goBack 27 = .ok (.iload_n 2, 1) := by decide +kernel
theorem dX10_goBack_28 : decode cX10_goBack 28 = .ok (.bipush 125, 2) := by decide +kernel
theorem dX10_goBack_30 : decode cX10_goBack 30 = .ok (.if_icmp .ge 26, 3) := by decide +kernel
theorem dX10_goBack_33 : decode cX10_goBack 33 = .ok (.aload_n 0, 1) := by decide +kernel
theorem dX10_goBack_34 : decode cX10_goBack 34 = .ok (.getfield 22, 3) := by decide +kernel
theorem dX10_goBack_37 : decode cX10_goBack 37 = .ok (.iload_n 2, 1) := by decide +kernel
theorem dX10_goBack_38 : decode cX10_goBack 38 = .ok (.aload_n 0, 1) := by decide +kernel
theorem dX10_goBack_39 : decode cX10_goBack 39 = .ok (.getfield 77, 3) := by decide +kernel
theorem dX10_goBack_42 : decode cX10_goBack 42 = .ok (.bipush 126, 2) := by decide +kernel
theorem dX10_goBack_44 : decode cX10_goBack 44 = .ok (.iload_n 1, 1) := by decide +kernel
theorem dX10_goBack_45 : decode cX10_goBack 45 = .ok (.imul, 1) := by decide +kernel
theorem dX10_goBack_46 : decode cX10_goBack 46 = .ok (.iload_n 2, 1) := by decide +kernel
theorem dX10_goBack_47 : decode cX10_goBack 47 = .ok (.iadd, 1) := by decide +kernel
theorem dX10_goBack_48 : decode cX10_goBack 48 = .ok (.iaload, 1) := by decide +kernel
theorem dX10_goBack_49 : decode cX10_goBack 49 = .ok (.iastore, 1) := by decide +kernel
theorem dX10_goBack_50 : decode cX10_goBack 50 = .ok (.iinc 2 1, 3) := by decide +kernel
theorem dX10_goBack_53 : decode cX10_goBack 53 = .ok (.goto (-26), 3) := by decide +kernel
theorem dX10_goBack_56 : decode cX10_goBack 56 = .ok (.aload_n 0, 1) := by decide +kernel
theorem dX10_goBack_57 : decode cX10_goBack 57 = .ok (.aload_n 0, 1) := by decide +kernel
theorem dX10_goBack_58 : decode cX10_goBack 58 = .ok (.getfield 77, 3) := by decide +kernel
theorem dX10_goBack_61 : decode cX10_goBack 61 = .ok (.bipush 126, 2) := by decide +kernel
theorem dX10_goBack_63 : decode cX10_goBack 63 = .ok (.iload_n 1, 1) := by decide +kernel
theorem dX10_goBack_64 : decode cX10_goBack 64 = .ok (.imul, 1) := by decide +kernel
theorem dX10_goBack_65 : decode cX10_goBack 65 = .ok (.bipush 125, 2) := by decide +kernel
theorem dX10_goBack_67 : decode cX10_goBack 67 = .ok (.iadd, 1) := by decide +kernel
theorem dX10_goBack_68 : decode cX10_goBack 68 = .ok (.iaload, 1) := by decide +kernel
theorem dX10_goBack_69 : decode cX10_goBack 69 = .ok (.putfield 266, 3) := by decide +kernel
theorem dX10_goBack_72 : decode cX10_goBack 72 = .ok (.aload_n 0, 1) := by decide +kernel
theorem dX10_goBack_73 : decode cX10_goBack 73 = .ok (.iconst 0, 1) := by decide +kernel
theorem dX10_goBack_74 : decode cX10_goBack 74 = .ok (.putfield 179, 3) := by decide +kernel
theorem dX10_goBack_77 : decode cX10_goBack 77 = .ok (.iconst 1, 1) := by decide +kernel
theorem dX10_goBack_78 : decode cX10_goBack 78 = .ok (.ireturn, 1) := by decide +kernel
