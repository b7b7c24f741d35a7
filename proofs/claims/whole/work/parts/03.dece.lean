theorem dX10_init_0 : decode cX10_init 0 = .ok (.aload_n 0, 1) := by decide +kernel
theorem dX10_init_1 : decode cX10_init 1 = .ok (.invokespecial 1, 3) := by decide +kernel
theorem dX10_init_4 : decode cX10_init 4 = .ok (.aload_n 0, 1) := by decide +kernel
theorem dX10_init_5 : decode cX10_init 5 = .ok (.iconst 5, 1) := by decide +kernel
theorem dX10_init_6 : decode cX10_init 6 = .ok (.newarray .int, 2) := by decide +kernel
theorem dX10_init_8 : decode cX10_init 8 = .ok (.putfield 7, 3) := by decide +kernel
theorem dX10_init_11 : decode cX10_init 11 = .ok (.aload_n 0, 1) := by decide +kernel
theorem dX10_init_12 : decode cX10_init 12 = .ok (.iconst 5, 1) := by decide +kernel
theorem dX10_init_13 : decode cX10_init 13 = .ok (.newarray .int, 2) := by decide +kernel
theorem dX10_init_15 : decode cX10_init 15 = .ok (.putfield 13, 3) := by decide +kernel
theorem dX10_init_18 : decode cX10_init 18 = .ok (.aload_n 0, 1) := by decide +kernel
theorem dX10_init_19 : decode cX10_init 19 = .ok (.bipush 6, 2) := by decide +kernel
theorem dX10_init_21 : decode cX10_init 21 = .ok (.newarray .int, 2) := by decide +kernel
theorem dX10_init_23 : decode cX10_init 23 = .ok (.putfield 16, 3) := by decide +kernel
theorem dX10_init_26 : decode cX10_init 26 = .ok (.aload_n 0, 1) := by decide +kernel
theorem dX10_init_27 : decode cX10_init 27 = .ok (.bipush 48, 2) := by decide +kernel
theorem dX10_init_29 : decode cX10_init 29 = .ok (.newarray .int, 2) := by decide +kernel
theorem dX10_init_31 : decode cX10_init 31 = .ok (.putfield 19, 3) := by decide +kernel
theorem dX10_init_34 : decode cX10_init 34 = .ok (.aload_n 0, 1) := by decide +kernel
theorem dX10_init_35 : decode cX10_init 35 = .ok (.bipush 125, 2) := by decide +kernel
theorem dX10_init_37 : decode cX10_init 37 = .ok (.newarray .int, 2) := by decide +kernel
theorem dX10_init_39 : decode cX10_init 39 = .ok (.putfield 22, 3) := by decide +kernel
theorem dX10_init_42 : decode cX10_init 42 = .ok (.aload_n 0, 1) := by decide +kernel
theorem dX10_init_43 : decode cX10_init 43 = .ok (.bipush 20, 2) := by decide +kernel
theorem dX10_init_45 : decode cX10_init 45 = .ok (.newarray .int, 2) := by decide +kernel
theorem dX10_init_47 : decode cX10_init 47 = .ok (.putfield 25, 3) := by decide +kernel
theorem dX10_init_50 : decode cX10_init 50 = .ok (.aload_n 0, 1) := by decide +kernel
theorem dX10_init_51 : decode cX10_init 51 = .ok (.bipush 20, 2) := by decide +kernel
theorem dX10_init_53 : decode cX10_init 53 = .ok (.newarray .int, 2) := by decide +kernel
theorem dX10_init_55 : decode cX10_init 55 = .ok (.putfield 28, 3) := by decide +kernel
theorem dX10_init_58 : decode cX10_init 58 = .ok (.aload_n 0, 1) := by decide +kernel
theorem dX10_init_59 : decode cX10_init 59 = .ok (.bipush 6, 2) := by decide +kernel
theorem dX10_init_61 : decode cX10_init 61 = .ok (.newarray .int, 2) := by decide +kernel
theorem dX10_init_63 : decode cX10_init 63 = .ok (.putfield 31, 3) := by decide +kernel
theorem dX10_init_66 : decode cX10_init 66 = .ok (.aload_n 0, 1) := by decide +kernel
theorem dX10_init_67 : decode cX10_init 67 = .ok (.bipush 6, 2) := by decide +kernel
theorem dX10_init_69 : decode cX10_init 69 = .ok (.newarray .int, 2) := by decide +kernel
theorem dX10_init_71 : decode cX10_init 71 = .ok (.putfield 34, 3) := by decide +kernel
theorem dX10_init_74 : decode cX10_init 74 = .ok (.aload_n 0, 1) := by decide +kernel
theorem dX10_init_75 : decode cX10_init 75 = .ok (.bipush 6, 2) := by decide +kernel
theorem dX10_init_77 : decode cX10_init 77 = .ok (.newarray .int, 2) := by decide +kernel
theorem dX10_init_79 : decode cX10_init 79 = .ok (.putfield 37, 3) := by decide +kernel
theorem dX10_init_82 : decode cX10_init 82 = .ok (.aload_n 0, 1) := by decide +kernel
theorem dX10_init_83 : decode cX10_init 83 = .ok (.sipush 240, 3) := by decide +kernel
theorem dX10_init_86 : decode cX10_init 86 = .ok (.newarray .int, 2) := by decide +kernel
theorem dX10_init_88 : decode cX10_init 88 = .ok (.putfield 40, 3) := by decide +kernel
theorem dX10_init_91 : decode cX10_init 91 = .ok (.aload_n 0, 1) := by decide +kernel
theorem dX10_init_92 : decode cX10_init 92 = .ok (.iconst (-1), 1) := by decide +kernel
theorem dX10_init_93 : decode cX10_init 93 = .ok (.putfield 43, 3) := by decide +kernel
theorem dX10_init_96 : decode cX10_init 96 = .ok (.aload_n 0, 1) := by decide +kernel
theorem dX10_init_97 : decode cX10_init 97 = .ok (.bipush 12, 2) := by decide +kernel
theorem dX10_init_99 : decode cX10_init 99 = .ok (.newarray .int, 2) := by decide +kernel
theorem dX10_init_101 : decode cX10_init 101 = .ok (.putfield 47, 3) := by decide +kernel
theorem dX10_init_104 : decode cX10_init 104 = .ok (.aload_n 0, 1) := by decide +kernel
theorem dX10_init_105 : decode cX10_init 105 = .ok (.bipush 12, 2) := by decide +kernel
theorem dX10_init_107 : decode cX10_init 107 = .ok (.newarray .int, 2) := by decide +kernel
theorem dX10_init_109 : decode cX10_init 109 = .ok (.putfield 50, 3) := by decide +kernel
theorem dX10_init_112 : decode cX10_init 112 = .ok (.aload_n 0, 1) := by decide +kernel
theorem dX10_init_113 : decode cX10_init 113 = .ok (.iconst 5, 1) := by decide +kernel
theorem dX10_init_114 : decode cX10_init 114 = .ok (.newarray .int, 2) := by decide +kernel
theorem dX10_init_116 : decode cX10_init 116 = .ok (.putfield 53, 3) := by decide +kernel
theorem dX10_init_119 : decode cX10_init 119 = .ok (.aload_n 0, 1) := by decide +kernel
theorem dX10_init_120 : decode cX10_init 120 = .ok (.iconst 5, 1) := by decide +kernel
theorem dX10_init_121 : decode cX10_init 121 = .ok (.newarray .int, 2) := by decide +kernel
theorem dX10_init_123 : decode cX10_init 123 = .ok (.putfield 56, 3) := by decide +kernel
theorem dX10_init_126 : decode cX10_init 126 = .ok (.aload_n 0, 1) := by decide +kernel
theorem dX10_init_127 : decode cX10_init 127 = .ok (.bipush 6, 2) := by decide +kernel
theorem dX10_init_129 : decode cX10_init 129 = .ok (.newarray .int, 2) := by decide +kernel
theorem dX10_init_131 : decode cX10_init 131 = .ok (.putfield 59, 3) := by decide +kernel
theorem dX10_init_134 : decode cX10_init 134 = .ok (.aload_n 0, 1) := by decide +kernel
theorem dX10_init_135 : decode cX10_init 135 = .ok (.bipush 48, 2) := by decide +kernel
theorem dX10_init_137 : decode cX10_init 137 = .ok (.newarray .int, 2) := by decide +kernel
theorem dX10_init_139 : decode cX10_init 139 = .ok (.putfield 62, 3) := by decide +kernel
theorem dX10_init_142 : decode cX10_init 142 = .ok (.aload_n 0, 1) := by decide +kernel
theorem dX10_init_143 : decode cX10_init 143 = .ok (.sipush 3750, 3) := by decide +kernel
theorem dX10_init_146 : decode cX10_init 146 = .ok (.newarray .int, 2) := by decide +kernel
theorem dX10_init_148 : decode cX10_init 148 = .ok (.putfield 65, 3) := by decide +kernel
theorem dX10_init_151 : decode cX10_init 151 = .ok (.aload_n 0, 1) := by decide +kernel
theorem dX10_init_152 : decode cX10_init 152 = .ok (.bipush 78, 2) := by decide +kernel
theorem dX10_init_154 : decode cX10_init 154 = .ok (.newarray .int, 2) := by decide +kernel
theorem dX10_init_156 : decode cX10_init 156 = .ok (.putfield 68, 3) := by decide +kernel
theorem dX10_init_159 : decode cX10_init 159 = .ok (.aload_n 0, 1) := by decide +kernel
theorem dX10_init_160 : decode cX10_init 160 = .ok (.bipush 14, 2) := by decide +kernel
theorem dX10_init_162 : decode cX10_init 162 = .ok (.newarray .int, 2) := by decide +kernel
theorem dX10_init_164 : decode cX10_init 164 = .ok (.putfield 71, 3) := by decide +kernel
theorem dX10_init_167 : decode cX10_init 167 = .ok (.aload_n 0, 1) := by decide +kernel
theorem dX10_init_168 : decode cX10_init 168 = .ok (.iconst 5, 1) := by decide +kernel
theorem dX10_init_169 : decode cX10_init 169 = .ok (.newarray .int, 2) := by decide +kernel
theorem dX10_init_171 : decode cX10_init 171 = .ok (.putfield 74, 3) := by decide +kernel
theorem dX10_init_174 : decode cX10_init 174 = .ok (.aload_n 0, 1) := by decide +kernel
theorem dX10_init_175 : decode cX10_init 175 = .ok (.sipush 252, 3) := by decide +kernel
theorem dX10_init_178 : decode cX10_init 178 = .ok (.newarray .int, 2) := by decide +kernel
theorem dX10_init_180 : decode cX10_init 180 = .ok (.putfield 77, 3) := by decide +kernel
theorem dX10_init_183 : decode cX10_init 183 = .ok (.aload_n 0, 1) := by decide +kernel
theorem dX10_init_184 : decode cX10_init 184 = .ok (.iconst 2, 1) := by decide +kernel
theorem dX10_init_185 : decode cX10_init 185 = .ok (.newarray .boolean, 2) := by decide +kernel
theorem dX10_init_187 : decode cX10_init 187 = .ok (.putfield 80, 3) := by decide +kernel
theorem dX10_init_190 : decode cX10_init 190 = .ok (.aload_n 0, 1) := by decide +kernel
theorem dX10_init_191 : decode cX10_init 191 = .ok (.invokevirtual 84, 3) := by decide +kernel
theorem dX10_init_194 : decode cX10_init 194 = .ok (.return_, 1) := by decide +kernel
theorem dX10_in_0 : decode cX10_in 0 = .ok (.lload_n 0, 1) := by decide +kernel
theorem dX10_in_1 : decode cX10_in 1 = .ok (.lload_n 2, 1) := by decide +kernel
theorem dX10_in_2 : decode cX10_in 2 = .ok (.lcmp, 1) := by decide +kernel
theorem dX10_in_3 : decode cX10_in 3 = .ok (.ifCond .lt 14, 3) := by decide +kernel
theorem dX10_in_6 : decode cX10_in 6 = .ok (.lload_n 0, 1) := by decide +kernel
theorem dX10_in_7 : decode cX10_in 7 = .ok (.lload 4, 2) := by decide +kernel
theorem dX10_in_9 : decode cX10_in 9 = .ok (.lcmp, 1) := by decide +kernel
theorem dX10_in_10 : decode cX10_in 10 = .ok (.ifCond .gt 7, 3) := by decide +kernel
theorem dX10_in_13 : decode cX10_in 13 = .ok (.iconst 1, 1) := by decide +kernel
theorem dX10_in_14 : decode cX10_in 14 = .ok (.goto 4, 3) := by decide +kernel
theorem dX10_in_17 : decode cX10_in 17 = .ok (.iconst 0, 1) := by decide +kernel
theorem dX10_in_18 : decode cX10_in 18 = .ok (.ireturn, 1) := by decide +kernel
theorem dX10_has_0 : decode cX10_has 0 = .ok (.iload_n 0, 1) := by decide +kernel
theorem dX10_has_1 : decode cX10_has 1 = .ok (.iload_n 1, 1) := by decide +kernel
theorem dX10_has_2 : decode cX10_has 2 = .ok (.ishr, 1) := by decide +kernel
theorem dX10_has_3 : decode cX10_has 3 = .ok (.iconst 1, 1) := by decide +kernel
theorem dX10_has_4 : decode cX10_has 4 = .ok (.iand, 1) := by decide +kernel
theorem dX10_has_5 : decode cX10_has 5 = .ok (.iconst 1, 1) := by decide +kernel
theorem dX10_has_6 : decode cX10_has 6 = .ok (.if_icmp .ne 7, 3) := by decide +kernel
theorem dX10_has_9 : decode cX10_has 9 = .ok (.iconst 1, 1) := by decide +kernel
theorem dX10_has_10 : decode cX10_has 10 = .ok (.goto 4, 3) := by decide +kernel
theorem dX10_has_13 : decode cX10_has 13 = .ok (.iconst 0, 1) := by decide +kernel
theorem dX10_has_14 : decode cX10_has 14 = .ok (.ireturn, 1) := by decide +kernel
theorem dX10_isLayer_0 : decode cX10_isLayer 0 = .ok (.iload_n 1, 1) := by decide +kernel
theorem dX10_isLayer_1 : decode cX10_isLayer 1 = .ok (.i2l, 1) := by decide +kernel
theorem dX10_isLayer_2 : decode cX10_isLayer 2 = .ok (.lconst 0, 1) := by decide +kernel
theorem dX10_isLayer_3 : decode cX10_isLayer 3 = .ok (.aload_n 0, 1) := by decide +kernel
theorem dX10_isLayer_4 : decode cX10_isLayer 4 = .ok (.getfield 22, 3) := by decide +kernel
theorem dX10_isLayer_7 : decode cX10_isLayer 7 = .ok (.iconst 0, 1) := by decide +kernel
theorem dX10_isLayer_8 : decode cX10_isLayer 8 = .ok (.iaload, 1) := by decide +kernel
theorem dX10_isLayer_9 : decode cX10_isLayer 9 = .ok (.iconst 1, 1) := by decide +kernel
theorem dX10_isLayer_10 : decode cX10_isLayer 10 = .ok (.isub, 1) := by decide +kernel
theorem dX10_isLayer_11 : decode cX10_isLayer 11 = .ok (.i2l, 1) := by decide +kernel
theorem dX10_isLayer_12 : decode cX10_isLayer 12 = .ok (.invokestatic 87, 3) := by decide +kernel
theorem dX10_isLayer_15 : decode cX10_isLayer 15 = .ok (.ireturn, 1) := by decide +kernel
theorem dX10_isExecutor_0 : decode cX10_isExecutor 0 = .ok (.iload_n 1, 1) := by decide +kernel
theorem dX10_isExecutor_1 : decode cX10_isExecutor 1 = .ok (.i2l, 1) := by decide +kernel
theorem dX10_isExecutor_2 : decode cX10_isExecutor 2 = .ok (.lconst 0, 1) := by decide +kernel
theorem dX10_isExecutor_3 : decode cX10_isExecutor 3 = .ok (.aload_n 0, 1) := by decide +kernel
theorem dX10_isExecutor_4 : decode cX10_isExecutor 4 = .ok (.getfield 91, 3) := by decide +kernel
theorem dX10_isExecutor_7 : decode cX10_isExecutor 7 = .ok (.iconst 1, 1) := by decide +kernel
theorem dX10_isExecutor_8 : decode cX10_isExecutor 8 = .ok (.isub, 1) := by decide +kernel
theorem dX10_isExecutor_9 : decode cX10_isExecutor 9 = .ok (.i2l, 1) := by decide +kernel
theorem dX10_isExecutor_10 : decode cX10_isExecutor 10 = .ok (.invokestatic 87, 3) := by decide +kernel
theorem dX10_isExecutor_13 : decode cX10_isExecutor 13 = .ok (.ireturn, 1) := by decide +kernel
theorem dX10_empties_0 : decode cX10_empties 0 = .ok (.iconst 0, 1) := by decide +kernel
theorem dX10_empties_1 : decode cX10_empties 1 = .ok (.istore_n 1, 1) := by decide +kernel
theorem dX10_empties_2 : decode cX10_empties 2 = .ok (.iload_n 1, 1) := by decide +kernel
theorem dX10_empties_3 : decode cX10_empties 3 = .ok (.bipush 125, 2) := by decide +kernel
theorem dX10_empties_5 : decode cX10_empties 5 = .ok (.if_icmp .ge 16, 3) := by decide +kernel
theorem dX10_empties_8 : decode cX10_empties 8 = .ok (.aload_n 0, 1) := by decide +kernel
theorem dX10_empties_9 : decode cX10_empties 9 = .ok (.getfield 22, 3) := by decide +kernel
theorem dX10_empties_12 : decode cX10_empties 12 = .ok (.iload_n 1, 1) := by decide +kernel
theorem dX10_empties_13 : decode cX10_empties 13 = .ok (.iconst 0, 1) := by decide +kernel
theorem dX10_empties_14 : decode cX10_empties 14 = .ok (.iastore, 1) := by decide +kernel
theorem dX10_empties_15 : decode cX10_empties 15 = .ok (.iinc 1 1, 3) := by decide +kernel
theorem dX10_empties_18 : decode cX10_empties 18 = .ok (.goto (-16), 3) := by decide +kernel
theorem dX10_empties_21 : decode cX10_empties 21 = .ok (.aload_n 0, 1) := by decide +kernel
theorem dX10_empties_22 : decode cX10_empties 22 = .ok (.getfield 22, 3) := by decide +kernel
theorem dX10_empties_25 : decode cX10_empties 25 = .ok (.bipush 28, 2) := by decide +kernel
theorem dX10_empties_27 : decode cX10_empties 27 = .ok (.iconst (-1), 1) := by decide +kernel
theorem dX10_empties_28 : decode cX10_empties 28 = .ok (.iastore, 1) := by decide +kernel
theorem dX10_empties_29 : decode cX10_empties 29 = .ok (.return_, 1) := by decide +kernel
theorem dX10_feed_0 : decode cX10_feed 0 = .ok (.iload_n 1, 1) := by decide +kernel
theorem dX10_feed_1 : decode cX10_feed 1 = .ok (.i2l, 1) := by decide +kernel
theorem dX10_feed_2 : decode cX10_feed 2 = .ok (.lconst 0, 1) := by decide +kernel
theorem dX10_feed_3 : decode cX10_feed 3 = .ok (.ldc2_w 94, 3) := by decide +kernel
theorem dX10_feed_6 : decode cX10_feed 6 = .ok (.invokestatic 87, 3) := by decide +kernel
theorem dX10_feed_9 : decode cX10_feed 9 = .ok (.ifCond .ne 6, 3) := by decide +kernel
theorem dX10_feed_12 : decode cX10_feed 12 = .ok (.ldc 96, 2) := by decide +kernel
theorem dX10_feed_14 : decode cX10_feed 14 = .ok (.ireturn, 1) := by decide +kernel
theorem dX10_feed_15 : decode cX10_feed 15 = .ok (.aload_n 0, 1) := by decide +kernel
theorem dX10_feed_16 : decode cX10_feed 16 = .ok (.getfield 97, 3) := by decide +kernel
theorem dX10_feed_19 : decode cX10_feed 19 = .ok (.sipush 240, 3) := by decide +kernel
theorem dX10_feed_22 : decode cX10_feed 22 = .ok (.if_icmp .ne 6, 3) := by decide +kernel
theorem dX10_feed_25 : decode cX10_feed 25 = .ok (.ldc 100, 2) := by decide +kernel
theorem dX10_feed_27 : decode cX10_feed 27 = .ok (.ireturn, 1) := by decide +kernel
theorem dX10_feed_28 : decode cX10_feed 28 = .ok (.aload_n 0, 1) := by decide +kernel
theorem dX10_feed_29 : decode cX10_feed 29 = .ok (.getfield 40, 3) := by decide +kernel
theorem dX10_feed_32 : decode cX10_feed 32 = .ok (.aload_n 0, 1) := by decide +kernel
theorem dX10_feed_33 : decode cX10_feed 33 = .ok (.getfield 97, 3) := by decide +kernel
theorem dX10_feed_36 : decode cX10_feed 36 = .ok (.iload_n 1, 1) := by decide +kernel
theorem dX10_feed_37 : decode cX10_feed 37 = .ok (.iastore, 1) := by decide +kernel
theorem dX10_feed_38 : decode cX10_feed 38 = .ok (.aload_n 0, 1) := by decide +kernel
theorem dX10_feed_39 : decode cX10_feed 39 = .ok (.dup, 1) := by decide +kernel
theorem dX10_feed_40 : decode cX10_feed 40 = .ok (.getfield 97, 3) := by decide +kernel
theorem dX10_feed_43 : decode cX10_feed 43 = .ok (.iconst 1, 1) := by decide +kernel
theorem dX10_feed_44 : decode cX10_feed 44 = .ok (.iadd, 1) := by decide +kernel
theorem dX10_feed_45 : decode cX10_feed 45 = .ok (.putfield 97, 3) := by decide +kernel
theorem dX10_feed_48 : decode cX10_feed 48 = .ok (.aload_n 0, 1) := by decide +kernel
theorem dX10_feed_49 : decode cX10_feed 49 = .ok (.getfield 97, 3) := by decide +kernel
theorem dX10_feed_52 : decode cX10_feed 52 = .ok (.ireturn, 1) := by decide +kernel
theorem dX10_here_0 : decode cX10_here 0 = .ok (.aload_n 0, 1) := by decide +kernel
theorem dX10_here_1 : decode cX10_here 1 = .ok (.getfield 101, 3) := by decide +kernel
theorem dX10_here_4 : decode cX10_here 4 = .ok (.aload_n 0, 1) := by decide +kernel
theorem dX10_here_5 : decode cX10_here 5 = .ok (.getfield 97, 3) := by decide +kernel
theorem dX10_here_8 : decode cX10_here 8 = .ok (.if_icmp .ge 30, 3) := by decide +kernel
theorem dX10_here_11 : decode cX10_here 11 = .ok (.aload_n 0, 1) := by decide +kernel
theorem dX10_here_12 : decode cX10_here 12 = .ok (.getfield 40, 3) := by decide +kernel
theorem dX10_here_15 : decode cX10_here 15 = .ok (.aload_n 0, 1) := by decide +kernel
theorem dX10_here_16 : decode cX10_here 16 = .ok (.getfield 101, 3) := by decide +kernel
theorem dX10_here_19 : decode cX10_here 19 = .ok (.iaload, 1) := by decide +kernel
theorem dX10_here_20 : decode cX10_here 20 = .ok (.bipush 32, 2) := by decide +kernel
theorem dX10_here_22 : decode cX10_here 22 = .ok (.if_icmp .ne 16, 3) := by decide +kernel
theorem dX10_here_25 : decode cX10_here 25 = .ok (.aload_n 0, 1) := by decide +kernel
theorem dX10_here_26 : decode cX10_here 26 = .ok (.dup, 1) := by decide +kernel
theorem dX10_here_27 : decode cX10_here 27 = .ok (.getfield 101, 3) := by decide +kernel
theorem dX10_here_30 : decode cX10_here 30 = .ok (.iconst 1, 1) := by decide +kernel
theorem dX10_here_31 : decode cX10_here 31 = .ok (.iadd, 1) := by decide +kernel
theorem dX10_here_32 : decode cX10_here 32 = .ok (.putfield 101, 3) := by decide +kernel
theorem dX10_here_35 : decode cX10_here 35 = .ok (.goto (-35), 3) := by decide +kernel
theorem dX10_here_38 : decode cX10_here 38 = .ok (.aload_n 0, 1) := by decide +kernel
theorem dX10_here_39 : decode cX10_here 39 = .ok (.getfield 101, 3) := by decide +kernel
theorem dX10_here_42 : decode cX10_here 42 = .ok (.aload_n 0, 1) := by decide +kernel
theorem dX10_here_43 : decode cX10_here 43 = .ok (.getfield 97, 3) := by decide +kernel
theorem dX10_here_46 : decode cX10_here 46 = .ok (.if_icmp .ge 15, 3) := by decide +kernel
theorem dX10_here_49 : decode cX10_here 49 = .ok (.aload_n 0, 1) := by decide +kernel
theorem dX10_here_50 : decode cX10_here 50 = .ok (.getfield 40, 3) := by decide +kernel
theorem dX10_here_53 : decode cX10_here 53 = .ok (.aload_n 0, 1) := by decide +kernel
theorem dX10_here_54 : decode cX10_here 54 = .ok (.getfield 101, 3) := by decide +kernel
theorem dX10_here_57 : decode cX10_here 57 = .ok (.iaload, 1) := by decide +kernel
theorem dX10_here_58 : decode cX10_here 58 = .ok (.goto 4, 3) := by decide +kernel
theorem dX10_here_61 : decode cX10_here 61 = .ok (.iconst (-1), 1) := by decide +kernel
theorem dX10_here_62 : decode cX10_here 62 = .ok (.ireturn, 1) := by decide +kernel
theorem dX10_fails_0 : decode cX10_fails 0 = .ok (.aload_n 0, 1) := by decide +kernel
theorem dX10_fails_1 : decode cX10_fails 1 = .ok (.iload_n 2, 1) := by decide +kernel
theorem dX10_fails_2 : decode cX10_fails 2 = .ok (.putfield 43, 3) := by decide +kernel
theorem dX10_fails_5 : decode cX10_fails 5 = .ok (.iload_n 1, 1) := by decide +kernel
theorem dX10_fails_6 : decode cX10_fails 6 = .ok (.ireturn, 1) := by decide +kernel
theorem dX10_takeNumber_0 : decode cX10_takeNumber 0 = .ok (.aload_n 0, 1) := by decide +kernel
theorem dX10_takeNumber_1 : decode cX10_takeNumber 1 = .ok (.invokevirtual 104, 3) := by decide +kernel
theorem dX10_takeNumber_4 : decode cX10_takeNumber 4 = .ok (.istore_n 3, 1) := by decide +kernel
theorem dX10_takeNumber_5 : decode cX10_takeNumber 5 = .ok (.iload_n 3, 1) := by decide +kernel
theorem dX10_takeNumber_6 : decode cX10_takeNumber 6 = .ok (.i2l, 1) := by decide +kernel
theorem dX10_takeNumber_7 : decode cX10_takeNumber 7 = .ok (.ldc2_w 108, 3) := by decide +kernel
theorem dX10_takeNumber_10 : decode cX10_takeNumber 10 = .ok (.ldc2_w 110, 3) := by decide +kernel
theorem dX10_takeNumber_13 : decode cX10_takeNumber 13 = .ok (.invokestatic 87, 3) := by decide +kernel
theorem dX10_takeNumber_16 : decode cX10_takeNumber 16 = .ok (.ifCond .ne 13, 3) := by decide +kernel
theorem dX10_takeNumber_19 : decode cX10_takeNumber 19 = .ok (.aload_n 0, 1) := by decide +kernel
theorem dX10_takeNumber_20 : decode cX10_takeNumber 20 = .ok (.iconst 1, 1) := by decide +kernel
theorem dX10_takeNumber_21 : decode cX10_takeNumber 21 = .ok (.aload_n 0, 1) := by decide +kernel
theorem dX10_takeNumber_22 : decode cX10_takeNumber 22 = .ok (.getfield 101, 3) := by decide +kernel
theorem dX10_takeNumber_25 : decode cX10_takeNumber 25 = .ok (.invokevirtual 112, 3) := by decide +kernel
theorem dX10_takeNumber_28 : decode cX10_takeNumber 28 = .ok (.ireturn, 1) := by decide +kernel
theorem dX10_takeNumber_29 : decode cX10_takeNumber 29 = .ok (.aload_n 0, 1) := by decide +kernel
theorem dX10_takeNumber_30 : decode cX10_takeNumber 30 = .ok (.aload_n 0, 1) := by decide +kernel
theorem dX10_takeNumber_31 : decode cX10_takeNumber 31 = .ok (.getfield 101, 3) := by decide +kernel
theorem dX10_takeNumber_34 : decode cX10_takeNumber 34 = .ok (.putfield 116, 3) := by decide +kernel
theorem dX10_takeNumber_37 : decode cX10_takeNumber 37 = .ok (.aload_n 0, 1) := by decide +kernel
theorem dX10_takeNumber_38 : decode cX10_takeNumber 38 = .ok (.iconst 0, 1) := by decide +kernel
theorem dX10_takeNumber_39 : decode cX10_takeNumber 39 = .ok (.putfield 119, 3) := by decide +kernel
theorem dX10_takeNumber_42 : decode cX10_takeNumber 42 = .ok (.aload_n 0, 1) := by decide +kernel
theorem dX10_takeNumber_43 : decode cX10_takeNumber 43 = .ok (.getfield 101, 3) := by decide +kernel
theorem dX10_takeNumber_46 : decode cX10_takeNumber 46 = .ok (.aload_n 0, 1) := by decide +kernel
theorem dX10_takeNumber_47 : decode cX10_takeNumber 47 = .ok (.getfield 97, 3) := by decide +kernel
theorem dX10_takeNumber_50 : decode cX10_takeNumber 50 = .ok (.if_icmp .ge 79, 3) := by decide +kernel
theorem dX10_takeNumber_53 : decode cX10_takeNumber 53 = .ok (.aload_n 0, 1) := by decide +kernel
theorem dX10_takeNumber_54 : decode cX10_takeNumber 54 = .ok (.getfield 40, 3) := by decide +kernel
theorem dX10_takeNumber_57 : decode cX10_takeNumber 57 = .ok (.aload_n 0, 1) := by decide +kernel
theorem dX10_takeNumber_58 : decode cX10_takeNumber 58 = .ok (.getfield 101, 3) := by decide +kernel
theorem dX10_takeNumber_61 : decode cX10_takeNumber 61 = .ok (.iaload, 1) := by decide +kernel
theorem dX10_takeNumber_62 : decode cX10_takeNumber 62 = .ok (.i2l, 1) := by decide +kernel
theorem dX10_takeNumber_63 : decode cX10_takeNumber 63 = .ok (.ldc2_w 108, 3) := by decide +kernel
theorem dX10_takeNumber_66 : decode cX10_takeNumber 66 = .ok (.ldc2_w 110, 3) := by decide +kernel
theorem dX10_takeNumber_69 : decode cX10_takeNumber 69 = .ok (.invokestatic 87, 3) := by decide +kernel
theorem dX10_takeNumber_72 : decode cX10_takeNumber 72 = .ok (.ifCond .eq 57, 3) := by decide +kernel
theorem dX10_takeNumber_75 : decode cX10_takeNumber 75 = .ok (.aload_n 0, 1) := by decide +kernel
theorem dX10_takeNumber_76 : decode cX10_takeNumber 76 = .ok (.aload_n 0, 1) := by decide +kernel
theorem dX10_takeNumber_77 : decode cX10_takeNumber 77 = .ok (.getfield 119, 3) := by decide +kernel
theorem dX10_takeNumber_80 : decode cX10_takeNumber 80 = .ok (.sipush 10000, 3) := by decide +kernel
theorem dX10_takeNumber_83 : decode cX10_takeNumber 83 = .ok (.if_icmp .le 10, 3) := by decide +kernel
theorem dX10_takeNumber_86 : decode cX10_takeNumber 86 = .ok (.aload_n 0, 1) := by decide +kernel
theorem dX10_takeNumber_87 : decode cX10_takeNumber 87 = .ok (.getfield 119, 3) := by decide +kernel
theorem dX10_takeNumber_90 : decode cX10_takeNumber 90 = .ok (.goto 23, 3) := by decide +kernel
theorem dX10_takeNumber_93 : decode cX10_takeNumber 93 = .ok (.bipush 10, 2) := by decide +kernel
theorem dX10_takeNumber_95 : decode cX10_takeNumber 95 = .ok (.aload_n 0, 1) := by decide +kernel
theorem dX10_takeNumber_96 : decode cX10_takeNumber 96 = .ok (.getfield 119, 3) := by decide +kernel
theorem dX10_takeNumber_99 : decode cX10_takeNumber 99 = .ok (.imul, 1) := by decide +kernel
theorem dX10_takeNumber_100 : decode cX10_takeNumber 100 = .ok (.aload_n 0, 1) := by decide +kernel
theorem dX10_takeNumber_101 : decode cX10_takeNumber 101 = .ok (.getfield 40, 3) := by decide +kernel
theorem dX10_takeNumber_104 : decode cX10_takeNumber 104 = .ok (.aload_n 0, 1) := by decide +kernel
theorem dX10_takeNumber_105 : decode cX10_takeNumber 105 = .ok (.getfield 101, 3) := by decide +kernel
theorem dX10_takeNumber_108 : decode cX10_takeNumber 108 = .ok (.iaload, 1) := by decide +kernel
theorem dX10_takeNumber_109 : decode cX10_takeNumber 109 = .ok (.iadd, 1) := by decide +kernel
theorem dX10_takeNumber_110 : decode cX10_takeNumber 110 = .ok (.bipush 48, 2) := by decide +kernel
theorem dX10_takeNumber_112 : decode cX10_takeNumber 112 = .ok (.isub, 1) := by decide +kernel
theorem dX10_takeNumber_113 : decode cX10_takeNumber 113 = .ok (.putfield 119, 3) := by decide +kernel
theorem dX10_takeNumber_116 : decode cX10_takeNumber 116 = .ok (.aload_n 0, 1) := by decide +kernel
theorem dX10_takeNumber_117 : decode cX10_takeNumber 117 = .ok (.dup, 1) := by decide +kernel
theorem dX10_takeNumber_118 : decode cX10_takeNumber 118 = .ok (.getfield 101, 3) := by decide +kernel
theorem dX10_takeNumber_121 : decode cX10_takeNumber 121 = .ok (.iconst 1, 1) := by decide +kernel
theorem dX10_takeNumber_122 : decode cX10_takeNumber 122 = .ok (.iadd, 1) := by decide +kernel
theorem dX10_takeNumber_123 : decode cX10_takeNumber 123 = .ok (.putfield 101, 3) := by decide +kernel
theorem dX10_takeNumber_126 : decode cX10_takeNumber 126 = .ok (.goto (-84), 3) := by decide +kernel
theorem dX10_takeNumber_129 : decode cX10_takeNumber 129 = .ok (.aload_n 0, 1) := by decide +kernel
theorem dX10_takeNumber_130 : decode cX10_takeNumber 130 = .ok (.getfield 101, 3) := by decide +kernel
theorem dX10_takeNumber_133 : decode cX10_takeNumber 133 = .ok (.aload_n 0, 1) := by decide +kernel
theorem dX10_takeNumber_134 : decode cX10_takeNumber 134 = .ok (.getfield 116, 3) := by decide +kernel
theorem dX10_takeNumber_137 : decode cX10_takeNumber 137 = .ok (.isub, 1) := by decide +kernel
theorem dX10_takeNumber_138 : decode cX10_takeNumber 138 = .ok (.iconst 3, 1) := by decide +kernel
theorem dX10_takeNumber_139 : decode cX10_takeNumber 139 = .ok (.if_icmp .gt 18, 3) := by decide +kernel
theorem dX10_takeNumber_142 : decode cX10_takeNumber 142 = .ok (.aload_n 0, 1) := by decide +kernel
theorem dX10_takeNumber_143 : decode cX10_takeNumber 143 = .ok (.getfield 119, 3) := by decide +kernel
theorem dX10_takeNumber_146 : decode cX10_takeNumber 146 = .ok (.i2l, 1) := by decide +kernel
theorem dX10_takeNumber_147 : decode cX10_takeNumber 147 = .ok (.iload_n 1, 1) := by decide +kernel
theorem dX10_takeNumber_148 : decode cX10_takeNumber 148 = .ok (.i2l, 1) := by decide +kernel
theorem dX10_takeNumber_149 : decode cX10_takeNumber 149 = .ok (.iload_n 2, 1) := by decide +kernel
theorem dX10_takeNumber_150 : decode cX10_takeNumber 150 = .ok (.i2l, 1) := by decide +kernel
theorem dX10_takeNumber_151 : decode cX10_takeNumber 151 = .ok (.invokestatic 87, 3) := by decide +kernel
theorem dX10_takeNumber_154 : decode cX10_takeNumber 154 = .ok (.ifCond .ne 15, 3) := by decide +kernel
theorem dX10_takeNumber_157 : decode cX10_takeNumber 157 = .ok (.aload_n 0, 1) := by decide +kernel
theorem dX10_takeNumber_158 : decode cX10_takeNumber 158 = .ok (.iconst 2, 1) := by decide +kernel
theorem dX10_takeNumber_159 : decode cX10_takeNumber 159 = .ok (.aload_n 0, 1) := by decide +kernel
theorem dX10_takeNumber_160 : decode cX10_takeNumber 160 = .ok (.getfield 116, 3) := by decide +kernel
theorem dX10_takeNumber_163 : decode cX10_takeNumber 163 = .ok (.invokevirtual 112, 3) := by decide +kernel
theorem dX10_takeNumber_166 : decode cX10_takeNumber 166 = .ok (.goto 4, 3) := by decide +kernel
theorem dX10_takeNumber_169 : decode cX10_takeNumber 169 = .ok (.iconst 0, 1) := by decide +kernel
theorem dX10_takeNumber_170 : decode cX10_takeNumber 170 = .ok (.ireturn, 1) := by decide +kernel
theorem dX10_takeMiddle_0 : decode cX10_takeMiddle 0 = .ok (.aload_n 0, 1) := by decide +kernel
theorem dX10_takeMiddle_1 : decode cX10_takeMiddle 1 = .ok (.iconst 0, 1) := by decide +kernel
theorem dX10_takeMiddle_2 : decode cX10_takeMiddle 2 = .ok (.bipush 99, 2) := by decide +kernel
theorem dX10_takeMiddle_4 : decode cX10_takeMiddle 4 = .ok (.invokevirtual 122, 3) := by decide +kernel
theorem dX10_takeMiddle_7 : decode cX10_takeMiddle 7 = .ok (.istore_n 1, 1) := by decide +kernel
theorem dX10_takeMiddle_8 : decode cX10_takeMiddle 8 = .ok (.aload_n 0, 1) := by decide +kernel
theorem dX10_takeMiddle_9 : decode cX10_takeMiddle 9 = .ok (.aload_n 0, 1) := by decide +kernel
theorem dX10_takeMiddle_10 : decode cX10_takeMiddle 10 = .ok (.getfield 119, 3) := by decide +kernel
theorem dX10_takeMiddle_13 : decode cX10_takeMiddle 13 = .ok (.putfield 125, 3) := by decide +kernel
theorem dX10_takeMiddle_16 : decode cX10_takeMiddle 16 = .ok (.iload_n 1, 1) := by decide +kernel
theorem dX10_takeMiddle_17 : decode cX10_takeMiddle 17 = .ok (.ireturn, 1) := by decide +kernel
theorem dX10_takeLayer_0 : decode cX10_takeLayer 0 = .ok (.aload_n 0, 1) := by decide +kernel
theorem dX10_takeLayer_1 : decode cX10_takeLayer 1 = .ok (.iconst 0, 1) := by decide +kernel
theorem dX10_takeLayer_2 : decode cX10_takeLayer 2 = .ok (.iconst 4, 1) := by decide +kernel
theorem dX10_takeLayer_3 : decode cX10_takeLayer 3 = .ok (.invokevirtual 122, 3) := by decide +kernel
theorem dX10_takeLayer_6 : decode cX10_takeLayer 6 = .ok (.istore_n 1, 1) := by decide +kernel
theorem dX10_takeLayer_7 : decode cX10_takeLayer 7 = .ok (.iload_n 1, 1) := by decide +kernel
theorem dX10_takeLayer_8 : decode cX10_takeLayer 8 = .ok (.ifCond .le 5, 3) := by decide +kernel
theorem dX10_takeLayer_11 : decode cX10_takeLayer 11 = .ok (.iload_n 1, 1) := by decide +kernel
theorem dX10_takeLayer_12 : decode cX10_takeLayer 12 = .ok (.ireturn, 1) := by decide +kernel
theorem dX10_takeLayer_13 : decode cX10_takeLayer 13 = .ok (.aload_n 0, 1) := by decide +kernel
theorem dX10_takeLayer_14 : decode cX10_takeLayer 14 = .ok (.getfield 47, 3) := by decide +kernel
theorem dX10_takeLayer_17 : decode cX10_takeLayer 17 = .ok (.aload_n 0, 1) := by decide +kernel
theorem dX10_takeLayer_18 : decode cX10_takeLayer 18 = .ok (.getfield 128, 3) := by decide +kernel
theorem dX10_takeLayer_21 : decode cX10_takeLayer 21 = .ok (.aload_n 0, 1) := by decide +kernel
theorem dX10_takeLayer_22 : decode cX10_takeLayer 22 = .ok (.getfield 119, 3) := by decide +kernel
theorem dX10_takeLayer_25 : decode cX10_takeLayer 25 = .ok (.iastore, 1) := by decide +kernel
theorem dX10_takeLayer_26 : decode cX10_takeLayer 26 = .ok (.aload_n 0, 1) := by decide +kernel
theorem dX10_takeLayer_27 : decode cX10_takeLayer 27 = .ok (.iconst 1, 1) := by decide +kernel
theorem dX10_takeLayer_28 : decode cX10_takeLayer 28 = .ok (.bipush 20, 2) := by decide +kernel
theorem dX10_takeLayer_30 : decode cX10_takeLayer 30 = .ok (.invokevirtual 122, 3) := by decide +kernel
theorem dX10_takeLayer_33 : decode cX10_takeLayer 33 = .ok (.istore_n 1, 1) := by decide +kernel
theorem dX10_takeLayer_34 : decode cX10_takeLayer 34 = .ok (.aload_n 0, 1) := by decide +kernel
theorem dX10_takeLayer_35 : decode cX10_takeLayer 35 = .ok (.getfield 50, 3) := by decide +kernel
theorem dX10_takeLayer_38 : decode cX10_takeLayer 38 = .ok (.aload_n 0, 1) := by decide +kernel
theorem dX10_takeLayer_39 : decode cX10_takeLayer 39 = .ok (.getfield 128, 3) := by decide +kernel
theorem dX10_takeLayer_42 : decode cX10_takeLayer 42 = .ok (.aload_n 0, 1) := by decide +kernel
theorem dX10_takeLayer_43 : decode cX10_takeLayer 43 = .ok (.getfield 119, 3) := by decide +kernel
theorem dX10_takeLayer_46 : decode cX10_takeLayer 46 = .ok (.iastore, 1) := by decide +kernel
theorem dX10_takeLayer_47 : decode cX10_takeLayer 47 = .ok (.aload_n 0, 1) := by decide +kernel
theorem dX10_takeLayer_48 : decode cX10_takeLayer 48 = .ok (.dup, 1) := by decide +kernel
theorem dX10_takeLayer_49 : decode cX10_takeLayer 49 = .ok (.getfield 128, 3) := by decide +kernel
theorem dX10_takeLayer_52 : decode cX10_takeLayer 52 = .ok (.iconst 1, 1) := by decide +kernel
theorem dX10_takeLayer_53 : decode cX10_takeLayer 53 = .ok (.iadd, 1) := by decide +kernel
theorem dX10_takeLayer_54 : decode cX10_takeLayer 54 = .ok (.putfield 128, 3) := by decide +kernel
theorem dX10_takeLayer_57 : decode cX10_takeLayer 57 = .ok (.iload_n 1, 1) := by decide +kernel
theorem dX10_takeLayer_58 : decode cX10_takeLayer 58 = .ok (.ireturn, 1) := by decide +kernel
theorem dX10_takeExecutor_0 : decode cX10_takeExecutor 0 = .ok (.aload_n 0, 1) := by decide +kernel
theorem dX10_takeExecutor_1 : decode cX10_takeExecutor 1 = .ok (.iconst 0, 1) := by decide +kernel
theorem dX10_takeExecutor_2 : decode cX10_takeExecutor 2 = .ok (.bipush 9, 2) := by decide +kernel
theorem dX10_takeExecutor_4 : decode cX10_takeExecutor 4 = .ok (.invokevirtual 122, 3) := by decide +kernel
theorem dX10_takeExecutor_7 : decode cX10_takeExecutor 7 = .ok (.istore_n 1, 1) := by decide +kernel
theorem dX10_takeExecutor_8 : decode cX10_takeExecutor 8 = .ok (.iload_n 1, 1) := by decide +kernel
theorem dX10_takeExecutor_9 : decode cX10_takeExecutor 9 = .ok (.ifCond .le 5, 3) := by decide +kernel
theorem dX10_takeExecutor_12 : decode cX10_takeExecutor 12 = .ok (.iload_n 1, 1) := by decide +kernel
theorem dX10_takeExecutor_13 : decode cX10_takeExecutor 13 = .ok (.ireturn, 1) := by decide +kernel
theorem dX10_takeExecutor_14 : decode cX10_takeExecutor 14 = .ok (.aload_n 0, 1) := by decide +kernel
theorem dX10_takeExecutor_15 : decode cX10_takeExecutor 15 = .ok (.getfield 53, 3) := by decide +kernel
theorem dX10_takeExecutor_18 : decode cX10_takeExecutor 18 = .ok (.aload_n 0, 1) := by decide +kernel
theorem dX10_takeExecutor_19 : decode cX10_takeExecutor 19 = .ok (.getfield 131, 3) := by decide +kernel
theorem dX10_takeExecutor_22 : decode cX10_takeExecutor 22 = .ok (.aload_n 0, 1) := by decide +kernel
theorem dX10_takeExecutor_23 : decode cX10_takeExecutor 23 = .ok (.getfield 119, 3) := by decide +kernel
theorem dX10_takeExecutor_26 : decode cX10_takeExecutor 26 = .ok (.iastore, 1) := by decide +kernel
theorem dX10_takeExecutor_27 : decode cX10_takeExecutor 27 = .ok (.aload_n 0, 1) := by decide +kernel
theorem dX10_takeExecutor_28 : decode cX10_takeExecutor 28 = .ok (.iconst 1, 1) := by decide +kernel
theorem dX10_takeExecutor_29 : decode cX10_takeExecutor 29 = .ok (.bipush 9, 2) := by decide +kernel
theorem dX10_takeExecutor_31 : decode cX10_takeExecutor 31 = .ok (.invokevirtual 122, 3) := by decide +kernel
theorem dX10_takeExecutor_34 : decode cX10_takeExecutor 34 = .ok (.istore_n 1, 1) := by decide +kernel
theorem dX10_takeExecutor_35 : decode cX10_takeExecutor 35 = .ok (.aload_n 0, 1) := by decide +kernel
theorem dX10_takeExecutor_36 : decode cX10_takeExecutor 36 = .ok (.getfield 56, 3) := by decide +kernel
theorem dX10_takeExecutor_39 : decode cX10_takeExecutor 39 = .ok (.aload_n 0, 1) := by decide +kernel
theorem dX10_takeExecutor_40 : decode cX10_takeExecutor 40 = .ok (.getfield 131, 3) := by decide +kernel
theorem dX10_takeExecutor_43 : decode cX10_takeExecutor 43 = .ok (.aload_n 0, 1) := by decide +kernel
theorem dX10_takeExecutor_44 : decode cX10_takeExecutor 44 = .ok (.getfield 119, 3) := by decide +kernel
theorem dX10_takeExecutor_47 : decode cX10_takeExecutor 47 = .ok (.iastore, 1) := by decide +kernel
theorem dX10_takeExecutor_48 : decode cX10_takeExecutor 48 = .ok (.aload_n 0, 1) := by decide +kernel
theorem dX10_takeExecutor_49 : decode cX10_takeExecutor 49 = .ok (.dup, 1) := by decide +kernel
theorem dX10_takeExecutor_50 : decode cX10_takeExecutor 50 = .ok (.getfield 131, 3) := by decide +kernel
theorem dX10_takeExecutor_53 : decode cX10_takeExecutor 53 = .ok (.iconst 1, 1) := by decide +kernel
theorem dX10_takeExecutor_54 : decode cX10_takeExecutor 54 = .ok (.iadd, 1) := by decide +kernel
theorem dX10_takeExecutor_55 : decode cX10_takeExecutor 55 = .ok (.putfield 131, 3) := by decide +kernel
theorem dX10_takeExecutor_58 : decode cX10_takeExecutor 58 = .ok (.iload_n 1, 1) := by decide +kernel
theorem dX10_takeExecutor_59 : decode cX10_takeExecutor 59 = .ok (.ireturn, 1) := by decide +kernel
theorem dX10_takeType_0 : decode cX10_takeType 0 = .ok (.iconst 0, 1) := by decide +kernel
theorem dX10_takeType_1 : decode cX10_takeType 1 = .ok (.istore_n 1, 1) := by decide +kernel
theorem dX10_takeType_2 : decode cX10_takeType 2 = .ok (.iconst 0, 1) := by decide +kernel
theorem dX10_takeType_3 : decode cX10_takeType 3 = .ok (.istore_n 2, 1) := by decide +kernel
theorem dX10_takeType_4 : decode cX10_takeType 4 = .ok (.iconst 1, 1) := by decide +kernel
theorem dX10_takeType_5 : decode cX10_takeType 5 = .ok (.istore_n 3, 1) := by decide +kernel
theorem dX10_takeType_6 : decode cX10_takeType 6 = .ok (.iload_n 3, 1) := by decide +kernel
theorem dX10_takeType_7 : decode cX10_takeType 7 = .ok (.ifCond .eq 81, 3) := by decide +kernel
theorem dX10_takeType_10 : decode cX10_takeType 10 = .ok (.iload_n 2, 1) := by decide +kernel
theorem dX10_takeType_11 : decode cX10_takeType 11 = .ok (.ifCond .ne 77, 3) := by decide +kernel
theorem dX10_takeType_14 : decode cX10_takeType 14 = .ok (.aload_n 0, 1) := by decide +kernel
theorem dX10_takeType_15 : decode cX10_takeType 15 = .ok (.iconst 0, 1) := by decide +kernel
theorem dX10_takeType_16 : decode cX10_takeType 16 = .ok (.iconst 4, 1) := by decide +kernel
theorem dX10_takeType_17 : decode cX10_takeType 17 = .ok (.invokevirtual 122, 3) := by decide +kernel
theorem dX10_takeType_20 : decode cX10_takeType 20 = .ok (.istore_n 2, 1) := by decide +kernel
theorem dX10_takeType_21 : decode cX10_takeType 21 = .ok (.aload_n 0, 1) := by decide +kernel
theorem dX10_takeType_22 : decode cX10_takeType 22 = .ok (.getfield 62, 3) := by decide +kernel
theorem dX10_takeType_25 : decode cX10_takeType 25 = .ok (.bipush 8, 2) := by decide +kernel
theorem dX10_takeType_27 : decode cX10_takeType 27 = .ok (.aload_n 0, 1) := by decide +kernel
theorem dX10_takeType_28 : decode cX10_takeType 28 = .ok (.getfield 134, 3) := by decide +kernel
theorem dX10_takeType_31 : decode cX10_takeType 31 = .ok (.imul, 1) := by decide +kernel
theorem dX10_takeType_32 : decode cX10_takeType 32 = .ok (.iload_n 1, 1) := by decide +kernel
theorem dX10_takeType_33 : decode cX10_takeType 33 = .ok (.iadd, 1) := by decide +kernel
theorem dX10_takeType_34 : decode cX10_takeType 34 = .ok (.aload_n 0, 1) := by decide +kernel
theorem dX10_takeType_35 : decode cX10_takeType 35 = .ok (.getfield 119, 3) := by decide +kernel
theorem dX10_takeType_38 : decode cX10_takeType 38 = .ok (.iastore, 1) := by decide +kernel
theorem dX10_takeType_39 : decode cX10_takeType 39 = .ok (.iinc 1 1, 3) := by decide +kernel
theorem dX10_takeType_42 : decode cX10_takeType 42 = .ok (.iload_n 2, 1) := by decide +kernel
theorem dX10_takeType_43 : decode cX10_takeType 43 = .ok (.ifCond .ne 22, 3) := by decide +kernel
theorem dX10_takeType_46 : decode cX10_takeType 46 = .ok (.iload_n 1, 1) := by decide +kernel
theorem dX10_takeType_47 : decode cX10_takeType 47 = .ok (.bipush 8, 2) := by decide +kernel
theorem dX10_takeType_49 : decode cX10_takeType 49 = .ok (.if_icmp .ge 16, 3) := by decide +kernel
theorem dX10_takeType_52 : decode cX10_takeType 52 = .ok (.aload_n 0, 1) := by decide +kernel
theorem dX10_takeType_53 : decode cX10_takeType 53 = .ok (.invokevirtual 104, 3) := by decide +kernel
theorem dX10_takeType_56 : decode cX10_takeType 56 = .ok (.bipush 44, 2) := by decide +kernel
theorem dX10_takeType_58 : decode cX10_takeType 58 = .ok (.if_icmp .ne 7, 3) := by decide +kernel
theorem dX10_takeType_61 : decode cX10_takeType 61 = .ok (.iconst 1, 1) := by decide +kernel
theorem dX10_takeType_62 : decode cX10_takeType 62 = .ok (.goto 4, 3) := by decide +kernel
theorem dX10_takeType_65 : decode cX10_takeType 65 = .ok (.iconst 0, 1) := by decide +kernel
theorem dX10_takeType_66 : decode cX10_takeType 66 = .ok (.istore_n 3, 1) := by decide +kernel
theorem dX10_takeType_67 : decode cX10_takeType 67 = .ok (.aload_n 0, 1) := by decide +kernel
theorem dX10_takeType_68 : decode cX10_takeType 68 = .ok (.dup, 1) := by decide +kernel
theorem dX10_takeType_69 : decode cX10_takeType 69 = .ok (.getfield 101, 3) := by decide +kernel
theorem dX10_takeType_72 : decode cX10_takeType 72 = .ok (.iload_n 3, 1) := by decide +kernel
theorem dX10_takeType_73 : decode cX10_takeType 73 = .ok (.ifCond .eq 7, 3) := by decide +kernel
theorem dX10_takeType_76 : decode cX10_takeType 76 = .ok (.iconst 1, 1) := by decide +kernel
theorem dX10_takeType_77 : decode cX10_takeType 77 = .ok (.goto 4, 3) := by decide +kernel
theorem dX10_takeType_80 : decode cX10_takeType 80 = .ok (.iconst 0, 1) := by decide +kernel
theorem dX10_takeType_81 : decode cX10_takeType 81 = .ok (.iadd, 1) := by decide +kernel
theorem dX10_takeType_82 : decode cX10_takeType 82 = .ok (.putfield 101, 3) := by decide +kernel
theorem dX10_takeType_85 : decode cX10_takeType 85 = .ok (.goto (-79), 3) := by decide +kernel
theorem dX10_takeType_88 : decode cX10_takeType 88 = .ok (.aload_n 0, 1) := by decide +kernel
theorem dX10_takeType_89 : decode cX10_takeType 89 = .ok (.getfield 59, 3) := by decide +kernel
theorem dX10_takeType_92 : decode cX10_takeType 92 = .ok (.aload_n 0, 1) := by decide +kernel
theorem dX10_takeType_93 : decode cX10_takeType 93 = .ok (.getfield 134, 3) := by decide +kernel
theorem dX10_takeType_96 : decode cX10_takeType 96 = .ok (.iload_n 1, 1) := by decide +kernel
theorem dX10_takeType_97 : decode cX10_takeType 97 = .ok (.iastore, 1) := by decide +kernel
theorem dX10_takeType_98 : decode cX10_takeType 98 = .ok (.aload_n 0, 1) := by decide +kernel
theorem dX10_takeType_99 : decode cX10_takeType 99 = .ok (.dup, 1) := by decide +kernel
theorem dX10_takeType_100 : decode cX10_takeType 100 = .ok (.getfield 134, 3) := by decide +kernel
theorem dX10_takeType_103 : decode cX10_takeType 103 = .ok (.iconst 1, 1) := by decide +kernel
theorem dX10_takeType_104 : decode cX10_takeType 104 = .ok (.iadd, 1) := by decide +kernel
theorem dX10_takeType_105 : decode cX10_takeType 105 = .ok (.putfield 134, 3) := by decide +kernel
theorem dX10_takeType_108 : decode cX10_takeType 108 = .ok (.iload_n 2, 1) := by decide +kernel
theorem dX10_takeType_109 : decode cX10_takeType 109 = .ok (.ireturn, 1) := by decide +kernel
theorem dX10_isFull_0 : decode cX10_isFull 0 = .ok (.iload_n 1, 1) := by decide +kernel
theorem dX10_isFull_1 : decode cX10_isFull 1 = .ok (.ifCond .ne 18, 3) := by decide +kernel
theorem dX10_isFull_4 : decode cX10_isFull 4 = .ok (.aload_n 0, 1) := by decide +kernel
theorem dX10_isFull_5 : decode cX10_isFull 5 = .ok (.getfield 125, 3) := by decide +kernel
theorem dX10_isFull_8 : decode cX10_isFull 8 = .ok (.ifCond .lt 7, 3) := by decide +kernel
theorem dX10_isFull_11 : decode cX10_isFull 11 = .ok (.iconst 1, 1) := by decide +kernel
theorem dX10_isFull_12 : decode cX10_isFull 12 = .ok (.goto 64, 3) := by decide +kernel
theorem dX10_isFull_15 : decode cX10_isFull 15 = .ok (.iconst 0, 1) := by decide +kernel
theorem dX10_isFull_16 : decode cX10_isFull 16 = .ok (.goto 60, 3) := by decide +kernel
theorem dX10_isFull_19 : decode cX10_isFull 19 = .ok (.iload_n 1, 1) := by decide +kernel
theorem dX10_isFull_20 : decode cX10_isFull 20 = .ok (.iconst 1, 1) := by decide +kernel
theorem dX10_isFull_21 : decode cX10_isFull 21 = .ok (.if_icmp .ne 20, 3) := by decide +kernel
theorem dX10_isFull_24 : decode cX10_isFull 24 = .ok (.aload_n 0, 1) := by decide +kernel
theorem dX10_isFull_25 : decode cX10_isFull 25 = .ok (.getfield 128, 3) := by decide +kernel
theorem dX10_isFull_28 : decode cX10_isFull 28 = .ok (.bipush 12, 2) := by decide +kernel
theorem dX10_isFull_30 : decode cX10_isFull 30 = .ok (.if_icmp .ne 7, 3) := by decide +kernel
theorem dX10_isFull_33 : decode cX10_isFull 33 = .ok (.iconst 1, 1) := by decide +kernel
theorem dX10_isFull_34 : decode cX10_isFull 34 = .ok (.goto 42, 3) := by decide +kernel
theorem dX10_isFull_37 : decode cX10_isFull 37 = .ok (.iconst 0, 1) := by decide +kernel
theorem dX10_isFull_38 : decode cX10_isFull 38 = .ok (.goto 38, 3) := by decide +kernel
theorem dX10_isFull_41 : decode cX10_isFull 41 = .ok (.iload_n 1, 1) := by decide +kernel
theorem dX10_isFull_42 : decode cX10_isFull 42 = .ok (.iconst 2, 1) := by decide +kernel
theorem dX10_isFull_43 : decode cX10_isFull 43 = .ok (.if_icmp .ne 19, 3) := by decide +kernel
theorem dX10_isFull_46 : decode cX10_isFull 46 = .ok (.aload_n 0, 1) := by decide +kernel
theorem dX10_isFull_47 : decode cX10_isFull 47 = .ok (.getfield 131, 3) := by decide +kernel
theorem dX10_isFull_50 : decode cX10_isFull 50 = .ok (.iconst 5, 1) := by decide +kernel
theorem dX10_isFull_51 : decode cX10_isFull 51 = .ok (.if_icmp .ne 7, 3) := by decide +kernel
theorem dX10_isFull_54 : decode cX10_isFull 54 = .ok (.iconst 1, 1) := by decide +kernel
theorem dX10_isFull_55 : decode cX10_isFull 55 = .ok (.goto 21, 3) := by decide +kernel
theorem dX10_isFull_58 : decode cX10_isFull 58 = .ok (.iconst 0, 1) := by decide +kernel
theorem dX10_isFull_59 : decode cX10_isFull 59 = .ok (.goto 17, 3) := by decide +kernel
theorem dX10_isFull_62 : decode cX10_isFull 62 = .ok (.aload_n 0, 1) := by decide +kernel
theorem dX10_isFull_63 : decode cX10_isFull 63 = .ok (.getfield 134, 3) := by decide +kernel
theorem dX10_isFull_66 : decode cX10_isFull 66 = .ok (.bipush 6, 2) := by decide +kernel
theorem dX10_isFull_68 : decode cX10_isFull 68 = .ok (.if_icmp .ne 7, 3) := by decide +kernel
theorem dX10_isFull_71 : decode cX10_isFull 71 = .ok (.iconst 1, 1) := by decide +kernel
theorem dX10_isFull_72 : decode cX10_isFull 72 = .ok (.goto 4, 3) := by decide +kernel
theorem dX10_isFull_75 : decode cX10_isFull 75 = .ok (.iconst 0, 1) := by decide +kernel
theorem dX10_isFull_76 : decode cX10_isFull 76 = .ok (.ireturn, 1) := by decide +kernel
theorem dX10_takeBody_0 : decode cX10_takeBody 0 = .ok (.iload_n 1, 1) := by decide +kernel
theorem dX10_takeBody_1 : decode cX10_takeBody 1 = .ok (.ifCond .ne 10, 3) := by decide +kernel
theorem dX10_takeBody_4 : decode cX10_takeBody 4 = .ok (.aload_n 0, 1) := by decide +kernel
theorem dX10_takeBody_5 : decode cX10_takeBody 5 = .ok (.invokevirtual 137, 3) := by decide +kernel
theorem dX10_takeBody_8 : decode cX10_takeBody 8 = .ok (.goto 31, 3) := by decide +kernel
theorem dX10_takeBody_11 : decode cX10_takeBody 11 = .ok (.iload_n 1, 1) := by decide +kernel
theorem dX10_takeBody_12 : decode cX10_takeBody 12 = .ok (.iconst 1, 1) := by decide +kernel
theorem dX10_takeBody_13 : decode cX10_takeBody 13 = .ok (.if_icmp .ne 10, 3) := by decide +kernel
theorem dX10_takeBody_16 : decode cX10_takeBody 16 = .ok (.aload_n 0, 1) := by decide +kernel
theorem dX10_takeBody_17 : decode cX10_takeBody 17 = .ok (.invokevirtual 140, 3) := by decide +kernel
theorem dX10_takeBody_20 : decode cX10_takeBody 20 = .ok (.goto 19, 3) := by decide +kernel
theorem dX10_takeBody_23 : decode cX10_takeBody 23 = .ok (.iload_n 1, 1) := by decide +kernel
theorem dX10_takeBody_24 : decode cX10_takeBody 24 = .ok (.iconst 2, 1) := by decide +kernel
theorem dX10_takeBody_25 : decode cX10_takeBody 25 = .ok (.if_icmp .ne 10, 3) := by decide +kernel
theorem dX10_takeBody_28 : decode cX10_takeBody 28 = .ok (.aload_n 0, 1) := by decide +kernel
theorem dX10_takeBody_29 : decode cX10_takeBody 29 = .ok (.invokevirtual 143, 3) := by decide +kernel
theorem dX10_takeBody_32 : decode cX10_takeBody 32 = .ok (.goto 7, 3) := by decide +kernel
theorem dX10_takeBody_35 : decode cX10_takeBody 35 = .ok (.aload_n 0, 1) := by decide +kernel
theorem dX10_takeBody_36 : decode cX10_takeBody 36 = .ok (.invokevirtual 146, 3) := by decide +kernel
theorem dX10_takeBody_39 : decode cX10_takeBody 39 = .ok (.ireturn, 1) := by decide +kernel
theorem dX10_takeClause_0 : decode cX10_takeClause 0 = .ok (.aload_n 0, 1) := by decide +kernel
theorem dX10_takeClause_1 : decode cX10_takeClause 1 = .ok (.invokevirtual 104, 3) := by decide +kernel
theorem dX10_takeClause_4 : decode cX10_takeClause 4 = .ok (.istore_n 1, 1) := by decide +kernel
theorem dX10_takeClause_5 : decode cX10_takeClause 5 = .ok (.iload_n 1, 1) := by decide +kernel
theorem dX10_takeClause_6 : decode cX10_takeClause 6 = .ok (.bipush 109, 2) := by decide +kernel
theorem dX10_takeClause_8 : decode cX10_takeClause 8 = .ok (.if_icmp .ne 7, 3) := by decide +kernel
theorem dX10_takeClause_11 : decode cX10_takeClause 11 = .ok (.iconst 0, 1) := by decide +kernel
theorem dX10_takeClause_12 : decode cX10_takeClause 12 = .ok (.goto 34, 3) := by decide +kernel
theorem dX10_takeClause_15 : decode cX10_takeClause 15 = .ok (.iload_n 1, 1) := by decide +kernel
theorem dX10_takeClause_16 : decode cX10_takeClause 16 = .ok (.bipush 108, 2) := by decide +kernel
theorem dX10_takeClause_18 : decode cX10_takeClause 18 = .ok (.if_icmp .ne 7, 3) := by decide +kernel
theorem dX10_takeClause_21 : decode cX10_takeClause 21 = .ok (.iconst 1, 1) := by decide +kernel
theorem dX10_takeClause_22 : decode cX10_takeClause 22 = .ok (.goto 24, 3) := by decide +kernel
theorem dX10_takeClause_25 : decode cX10_takeClause 25 = .ok (.iload_n 1, 1) := by decide +kernel
theorem dX10_takeClause_26 : decode cX10_takeClause 26 = .ok (.bipush 101, 2) := by decide +kernel
theorem dX10_takeClause_28 : decode cX10_takeClause 28 = .ok (.if_icmp .ne 7, 3) := by decide +kernel
theorem dX10_takeClause_31 : decode cX10_takeClause 31 = .ok (.iconst 2, 1) := by decide +kernel
theorem dX10_takeClause_32 : decode cX10_takeClause 32 = .ok (.goto 14, 3) := by decide +kernel
theorem dX10_takeClause_35 : decode cX10_takeClause 35 = .ok (.iload_n 1, 1) := by decide +kernel
theorem dX10_takeClause_36 : decode cX10_takeClause 36 = .ok (.bipush 116, 2) := by decide +kernel
theorem dX10_takeClause_38 : decode cX10_takeClause 38 = .ok (.if_icmp .ne 7, 3) := by decide +kernel
theorem dX10_takeClause_41 : decode cX10_takeClause 41 = .ok (.iconst 3, 1) := by decide +kernel
theorem dX10_takeClause_42 : decode cX10_takeClause 42 = .ok (.goto 4, 3) := by decide +kernel
theorem dX10_takeClause_45 : decode cX10_takeClause 45 = .ok (.iconst (-1), 1) := by decide +kernel
theorem dX10_takeClause_46 : decode cX10_takeClause 46 = .ok (.istore_n 2, 1) := by decide +kernel
theorem dX10_takeClause_47 : decode cX10_takeClause 47 = .ok (.iload_n 2, 1) := by decide +kernel
theorem dX10_takeClause_48 : decode cX10_takeClause 48 = .ok (.ifCond .lt 14, 3) := by decide +kernel
theorem dX10_takeClause_51 : decode cX10_takeClause 51 = .ok (.iload_n 2, 1) := by decide +kernel
theorem dX10_takeClause_52 : decode cX10_takeClause 52 = .ok (.ifCond .le 20, 3) := by decide +kernel
theorem dX10_takeClause_55 : decode cX10_takeClause 55 = .ok (.aload_n 0, 1) := by decide +kernel
theorem dX10_takeClause_56 : decode cX10_takeClause 56 = .ok (.getfield 125, 3) := by decide +kernel
theorem dX10_takeClause_59 : decode cX10_takeClause 59 = .ok (.ifCond .ge 13, 3) := by decide +kernel
theorem dX10_takeClause_62 : decode cX10_takeClause 62 = .ok (.aload_n 0, 1) := by decide +kernel
theorem dX10_takeClause_63 : decode cX10_takeClause 63 = .ok (.iconst 1, 1) := by decide +kernel
theorem dX10_takeClause_64 : decode cX10_takeClause 64 = .ok (.aload_n 0, 1) := by decide +kernel
theorem dX10_takeClause_65 : decode cX10_takeClause 65 = .ok (.getfield 101, 3) := by decide +kernel
theorem dX10_takeClause_68 : decode cX10_takeClause 68 = .ok (.invokevirtual 112, 3) := by decide +kernel
theorem dX10_takeClause_71 : decode cX10_takeClause 71 = .ok (.ireturn, 1) := by decide +kernel
theorem dX10_takeClause_72 : decode cX10_takeClause 72 = .ok (.aload_n 0, 1) := by decide +kernel
theorem dX10_takeClause_73 : decode cX10_takeClause 73 = .ok (.iload_n 2, 1) := by decide +kernel
theorem dX10_takeClause_74 : decode cX10_takeClause 74 = .ok (.invokevirtual 149, 3) := by decide +kernel
theorem dX10_takeClause_77 : decode cX10_takeClause 77 = .ok (.ifCond .eq 13, 3) := by decide +kernel
theorem dX10_takeClause_80 : decode cX10_takeClause 80 = .ok (.aload_n 0, 1) := by decide +kernel
theorem dX10_takeClause_81 : decode cX10_takeClause 81 = .ok (.iconst 3, 1) := by decide +kernel
theorem dX10_takeClause_82 : decode cX10_takeClause 82 = .ok (.aload_n 0, 1) := by decide +kernel
theorem dX10_takeClause_83 : decode cX10_takeClause 83 = .ok (.getfield 101, 3) := by decide +kernel
theorem dX10_takeClause_86 : decode cX10_takeClause 86 = .ok (.invokevirtual 112, 3) := by decide +kernel
theorem dX10_takeClause_89 : decode cX10_takeClause 89 = .ok (.ireturn, 1) := by decide +kernel
theorem dX10_takeClause_90 : decode cX10_takeClause 90 = .ok (.aload_n 0, 1) := by decide +kernel
theorem dX10_takeClause_91 : decode cX10_takeClause 91 = .ok (.dup, 1) := by decide +kernel
theorem dX10_takeClause_92 : decode cX10_takeClause 92 = .ok (.getfield 101, 3) := by decide +kernel
theorem dX10_takeClause_95 : decode cX10_takeClause 95 = .ok (.iconst 1, 1) := by decide +kernel
theorem dX10_takeClause_96 : decode cX10_takeClause 96 = .ok (.iadd, 1) := by decide +kernel
theorem dX10_takeClause_97 : decode cX10_takeClause 97 = .ok (.putfield 101, 3) := by decide +kernel
theorem dX10_takeClause_100 : decode cX10_takeClause 100 = .ok (.aload_n 0, 1) := by decide +kernel
theorem dX10_takeClause_101 : decode cX10_takeClause 101 = .ok (.iload_n 2, 1) := by decide +kernel
theorem dX10_takeClause_102 : decode cX10_takeClause 102 = .ok (.invokevirtual 153, 3) := by decide +kernel
theorem dX10_takeClause_105 : decode cX10_takeClause 105 = .ok (.istore_n 3, 1) := by decide +kernel
theorem dX10_takeClause_106 : decode cX10_takeClause 106 = .ok (.iload_n 3, 1) := by decide +kernel
theorem dX10_takeClause_107 : decode cX10_takeClause 107 = .ok (.ifCond .le 5, 3) := by decide +kernel
theorem dX10_takeClause_110 : decode cX10_takeClause 110 = .ok (.iload_n 3, 1) := by decide +kernel
theorem dX10_takeClause_111 : decode cX10_takeClause 111 = .ok (.ireturn, 1) := by decide +kernel
theorem dX10_takeClause_112 : decode cX10_takeClause 112 = .ok (.aload_n 0, 1) := by decide +kernel
theorem dX10_takeClause_113 : decode cX10_takeClause 113 = .ok (.invokevirtual 104, 3) := by decide +kernel
theorem dX10_takeClause_116 : decode cX10_takeClause 116 = .ok (.bipush 59, 2) := by decide +kernel
theorem dX10_takeClause_118 : decode cX10_takeClause 118 = .ok (.if_icmp .eq 13, 3) := by decide +kernel
theorem dX10_takeClause_121 : decode cX10_takeClause 121 = .ok (.aload_n 0, 1) := by decide +kernel
theorem dX10_takeClause_122 : decode cX10_takeClause 122 = .ok (.iconst 1, 1) := by decide +kernel
theorem dX10_takeClause_123 : decode cX10_takeClause 123 = .ok (.aload_n 0, 1) := by decide +kernel
theorem dX10_takeClause_124 : decode cX10_takeClause 124 = .ok (.getfield 101, 3) := by decide +kernel
theorem dX10_takeClause_127 : decode cX10_takeClause 127 = .ok (.invokevirtual 112, 3) := by decide +kernel
theorem dX10_takeClause_130 : decode cX10_takeClause 130 = .ok (.ireturn, 1) := by decide +kernel
theorem dX10_takeClause_131 : decode cX10_takeClause 131 = .ok (.aload_n 0, 1) := by decide +kernel
theorem dX10_takeClause_132 : decode cX10_takeClause 132 = .ok (.dup, 1) := by decide +kernel
theorem dX10_takeClause_133 : decode cX10_takeClause 133 = .ok (.getfield 101, 3) := by decide +kernel
theorem dX10_takeClause_136 : decode cX10_takeClause 136 = .ok (.iconst 1, 1) := by decide +kernel
theorem dX10_takeClause_137 : decode cX10_takeClause 137 = .ok (.iadd, 1) := by decide +kernel
theorem dX10_takeClause_138 : decode cX10_takeClause 138 = .ok (.putfield 101, 3) := by decide +kernel
theorem dX10_takeClause_141 : decode cX10_takeClause 141 = .ok (.iconst 0, 1) := by decide +kernel
theorem dX10_takeClause_142 : decode cX10_takeClause 142 = .ok (.ireturn, 1) := by decide +kernel
theorem dX10_takeRead_0 : decode cX10_takeRead 0 = .ok (.aload_n 0, 1) := by decide +kernel
theorem dX10_takeRead_1 : decode cX10_takeRead 1 = .ok (.aload_n 0, 1) := by decide +kernel
theorem dX10_takeRead_2 : decode cX10_takeRead 2 = .ok (.getfield 125, 3) := by decide +kernel
theorem dX10_takeRead_5 : decode cX10_takeRead 5 = .ok (.ifCond .lt 7, 3) := by decide +kernel
theorem dX10_takeRead_8 : decode cX10_takeRead 8 = .ok (.iconst 1, 1) := by decide +kernel
theorem dX10_takeRead_9 : decode cX10_takeRead 9 = .ok (.goto 4, 3) := by decide +kernel
theorem dX10_takeRead_12 : decode cX10_takeRead 12 = .ok (.iconst 0, 1) := by decide +kernel
theorem dX10_takeRead_13 : decode cX10_takeRead 13 = .ok (.putfield 157, 3) := by decide +kernel
theorem dX10_takeRead_16 : decode cX10_takeRead 16 = .ok (.aload_n 0, 1) := by decide +kernel
theorem dX10_takeRead_17 : decode cX10_takeRead 17 = .ok (.aload_n 0, 1) := by decide +kernel
theorem dX10_takeRead_18 : decode cX10_takeRead 18 = .ok (.getfield 157, 3) := by decide +kernel
theorem dX10_takeRead_21 : decode cX10_takeRead 21 = .ok (.ifCond .eq 10, 3) := by decide +kernel
theorem dX10_takeRead_24 : decode cX10_takeRead 24 = .ok (.aload_n 0, 1) := by decide +kernel
theorem dX10_takeRead_25 : decode cX10_takeRead 25 = .ok (.getfield 125, 3) := by decide +kernel
theorem dX10_takeRead_28 : decode cX10_takeRead 28 = .ok (.goto 4, 3) := by decide +kernel
theorem dX10_takeRead_31 : decode cX10_takeRead 31 = .ok (.iconst 0, 1) := by decide +kernel
theorem dX10_takeRead_32 : decode cX10_takeRead 32 = .ok (.putfield 161, 3) := by decide +kernel
theorem dX10_takeRead_35 : decode cX10_takeRead 35 = .ok (.aload_n 0, 1) := by decide +kernel
theorem dX10_takeRead_36 : decode cX10_takeRead 36 = .ok (.aload_n 0, 1) := by decide +kernel
theorem dX10_takeRead_37 : decode cX10_takeRead 37 = .ok (.getfield 131, 3) := by decide +kernel
theorem dX10_takeRead_40 : decode cX10_takeRead 40 = .ok (.putfield 91, 3) := by decide +kernel
theorem dX10_takeRead_43 : decode cX10_takeRead 43 = .ok (.aload_n 0, 1) := by decide +kernel
theorem dX10_takeRead_44 : decode cX10_takeRead 44 = .ok (.aload_n 0, 1) := by decide +kernel
theorem dX10_takeRead_45 : decode cX10_takeRead 45 = .ok (.getfield 134, 3) := by decide +kernel
theorem dX10_takeRead_48 : decode cX10_takeRead 48 = .ok (.putfield 164, 3) := by decide +kernel
theorem dX10_takeRead_51 : decode cX10_takeRead 51 = .ok (.iconst 0, 1) := by decide +kernel
theorem dX10_takeRead_52 : decode cX10_takeRead 52 = .ok (.istore_n 1, 1) := by decide +kernel
theorem dX10_takeRead_53 : decode cX10_takeRead 53 = .ok (.iload_n 1, 1) := by decide +kernel
theorem dX10_takeRead_54 : decode cX10_takeRead 54 = .ok (.iconst 5, 1) := by decide +kernel
theorem dX10_takeRead_55 : decode cX10_takeRead 55 = .ok (.if_icmp .ge 33, 3) := by decide +kernel
theorem dX10_takeRead_58 : decode cX10_takeRead 58 = .ok (.aload_n 0, 1) := by decide +kernel
theorem dX10_takeRead_59 : decode cX10_takeRead 59 = .ok (.getfield 7, 3) := by decide +kernel
theorem dX10_takeRead_62 : decode cX10_takeRead 62 = .ok (.iload_n 1, 1) := by decide +kernel
theorem dX10_takeRead_63 : decode cX10_takeRead 63 = .ok (.aload_n 0, 1) := by decide +kernel
theorem dX10_takeRead_64 : decode cX10_takeRead 64 = .ok (.getfield 53, 3) := by decide +kernel
theorem dX10_takeRead_67 : decode cX10_takeRead 67 = .ok (.iload_n 1, 1) := by decide +kernel
theorem dX10_takeRead_68 : decode cX10_takeRead 68 = .ok (.iaload, 1) := by decide +kernel
theorem dX10_takeRead_69 : decode cX10_takeRead 69 = .ok (.iastore, 1) := by decide +kernel
theorem dX10_takeRead_70 : decode cX10_takeRead 70 = .ok (.aload_n 0, 1) := by decide +kernel
theorem dX10_takeRead_71 : decode cX10_takeRead 71 = .ok (.getfield 13, 3) := by decide +kernel
theorem dX10_takeRead_74 : decode cX10_takeRead 74 = .ok (.iload_n 1, 1) := by decide +kernel
theorem dX10_takeRead_75 : decode cX10_takeRead 75 = .ok (.aload_n 0, 1) := by decide +kernel
theorem dX10_takeRead_76 : decode cX10_takeRead 76 = .ok (.getfield 56, 3) := by decide +kernel
theorem dX10_takeRead_79 : decode cX10_takeRead 79 = .ok (.iload_n 1, 1) := by decide +kernel
theorem dX10_takeRead_80 : decode cX10_takeRead 80 = .ok (.iaload, 1) := by decide +kernel
theorem dX10_takeRead_81 : decode cX10_takeRead 81 = .ok (.iastore, 1) := by decide +kernel
theorem dX10_takeRead_82 : decode cX10_takeRead 82 = .ok (.iinc 1 1, 3) := by decide +kernel
theorem dX10_takeRead_85 : decode cX10_takeRead 85 = .ok (.goto (-32), 3) := by decide +kernel
theorem dX10_takeRead_88 : decode cX10_takeRead 88 = .ok (.iconst 0, 1) := by decide +kernel
theorem dX10_takeRead_89 : decode cX10_takeRead 89 = .ok (.istore_n 1, 1) := by decide +kernel
theorem dX10_takeRead_90 : decode cX10_takeRead 90 = .ok (.iload_n 1, 1) := by decide +kernel
theorem dX10_takeRead_91 : decode cX10_takeRead 91 = .ok (.bipush 6, 2) := by decide +kernel
theorem dX10_takeRead_93 : decode cX10_takeRead 93 = .ok (.if_icmp .ge 21, 3) := by decide +kernel
theorem dX10_takeRead_96 : decode cX10_takeRead 96 = .ok (.aload_n 0, 1) := by decide +kernel
theorem dX10_takeRead_97 : decode cX10_takeRead 97 = .ok (.getfield 16, 3) := by decide +kernel
theorem dX10_takeRead_100 : decode cX10_takeRead 100 = .ok (.iload_n 1, 1) := by decide +kernel
theorem dX10_takeRead_101 : decode cX10_takeRead 101 = .ok (.aload_n 0, 1) := by decide +kernel
theorem dX10_takeRead_102 : decode cX10_takeRead 102 = .ok (.getfield 59, 3) := by decide +kernel
theorem dX10_takeRead_105 : decode cX10_takeRead 105 = .ok (.iload_n 1, 1) := by decide +kernel
theorem dX10_takeRead_106 : decode cX10_takeRead 106 = .ok (.iaload, 1) := by decide +kernel
theorem dX10_takeRead_107 : decode cX10_takeRead 107 = .ok (.iastore, 1) := by decide +kernel
theorem dX10_takeRead_108 : decode cX10_takeRead 108 = .ok (.iinc 1 1, 3) := by decide +kernel
theorem dX10_takeRead_111 : decode cX10_takeRead 111 = .ok (.goto (-21), 3) := by decide +kernel
theorem dX10_takeRead_114 : decode cX10_takeRead 114 = .ok (.iconst 0, 1) := by decide +kernel
theorem dX10_takeRead_115 : decode cX10_takeRead 115 = .ok (.istore_n 1, 1) := by decide +kernel
theorem dX10_takeRead_116 : decode cX10_takeRead 116 = .ok (.iload_n 1, 1) := by decide +kernel
theorem dX10_takeRead_117 : decode cX10_takeRead 117 = .ok (.bipush 48, 2) := by decide +kernel
theorem dX10_takeRead_119 : decode cX10_takeRead 119 = .ok (.if_icmp .ge 21, 3) := by decide +kernel
theorem dX10_takeRead_122 : decode cX10_takeRead 122 = .ok (.aload_n 0, 1) := by decide +kernel
theorem dX10_takeRead_123 : decode cX10_takeRead 123 = .ok (.getfield 19, 3) := by decide +kernel
theorem dX10_takeRead_126 : decode cX10_takeRead 126 = .ok (.iload_n 1, 1) := by decide +kernel
theorem dX10_takeRead_127 : decode cX10_takeRead 127 = .ok (.aload_n 0, 1) := by decide +kernel
theorem dX10_takeRead_128 : decode cX10_takeRead 128 = .ok (.getfield 62, 3) := by decide +kernel
theorem dX10_takeRead_131 : decode cX10_takeRead 131 = .ok (.iload_n 1, 1) := by decide +kernel
theorem dX10_takeRead_132 : decode cX10_takeRead 132 = .ok (.iaload, 1) := by decide +kernel
theorem dX10_takeRead_133 : decode cX10_takeRead 133 = .ok (.iastore, 1) := by decide +kernel
theorem dX10_takeRead_134 : decode cX10_takeRead 134 = .ok (.iinc 1 1, 3) := by decide +kernel
theorem dX10_takeRead_137 : decode cX10_takeRead 137 = .ok (.goto (-21), 3) := by decide +kernel
theorem dX10_takeRead_140 : decode cX10_takeRead 140 = .ok (.aload_n 0, 1) := by decide +kernel
theorem dX10_takeRead_141 : decode cX10_takeRead 141 = .ok (.invokevirtual 84, 3) := by decide +kernel
theorem dX10_takeRead_144 : decode cX10_takeRead 144 = .ok (.aload_n 0, 1) := by decide +kernel
theorem dX10_takeRead_145 : decode cX10_takeRead 145 = .ok (.getfield 22, 3) := by decide +kernel
theorem dX10_takeRead_148 : decode cX10_takeRead 148 = .ok (.iconst 0, 1) := by decide +kernel
theorem dX10_takeRead_149 : decode cX10_takeRead 149 = .ok (.aload_n 0, 1) := by decide +kernel
theorem dX10_takeRead_150 : decode cX10_takeRead 150 = .ok (.getfield 128, 3) := by decide +kernel
theorem dX10_takeRead_153 : decode cX10_takeRead 153 = .ok (.iastore, 1) := by decide +kernel
theorem dX10_takeRead_154 : decode cX10_takeRead 154 = .ok (.iconst 0, 1) := by decide +kernel
theorem dX10_takeRead_155 : decode cX10_takeRead 155 = .ok (.istore_n 1, 1) := by decide +kernel
theorem dX10_takeRead_156 : decode cX10_takeRead 156 = .ok (.iload_n 1, 1) := by decide +kernel
theorem dX10_takeRead_157 : decode cX10_takeRead 157 = .ok (.aload_n 0, 1) := by decide +kernel
theorem dX10_takeRead_158 : decode cX10_takeRead 158 = .ok (.getfield 128, 3) := by decide +kernel
theorem dX10_takeRead_161 : decode cX10_takeRead 161 = .ok (.if_icmp .ge 38, 3) := by decide +kernel
theorem dX10_takeRead_164 : decode cX10_takeRead 164 = .ok (.aload_n 0, 1) := by decide +kernel
theorem dX10_takeRead_165 : decode cX10_takeRead 165 = .ok (.getfield 22, 3) := by decide +kernel
theorem dX10_takeRead_168 : decode cX10_takeRead 168 = .ok (.iconst 1, 1) := by decide +kernel
theorem dX10_takeRead_169 : decode cX10_takeRead 169 = .ok (.iload_n 1, 1) := by decide +kernel
theorem dX10_takeRead_170 : decode cX10_takeRead 170 = .ok (.iadd, 1) := by decide +kernel
theorem dX10_takeRead_171 : decode cX10_takeRead 171 = .ok (.aload_n 0, 1) := by decide +kernel
theorem dX10_takeRead_172 : decode cX10_takeRead 172 = .ok (.getfield 47, 3) := by decide +kernel
theorem dX10_takeRead_175 : decode cX10_takeRead 175 = .ok (.iload_n 1, 1) := by decide +kernel
theorem dX10_takeRead_176 : decode cX10_takeRead 176 = .ok (.iaload, 1) := by decide +kernel
theorem dX10_takeRead_177 : decode cX10_takeRead 177 = .ok (.iastore, 1) := by decide +kernel
theorem dX10_takeRead_178 : decode cX10_takeRead 178 = .ok (.aload_n 0, 1) := by decide +kernel
theorem dX10_takeRead_179 : decode cX10_takeRead 179 = .ok (.getfield 22, 3) := by decide +kernel
theorem dX10_takeRead_182 : decode cX10_takeRead 182 = .ok (.bipush 13, 2) := by decide +kernel
theorem dX10_takeRead_184 : decode cX10_takeRead 184 = .ok (.iload_n 1, 1) := by decide +kernel
theorem dX10_takeRead_185 : decode cX10_takeRead 185 = .ok (.iadd, 1) := by decide +kernel
theorem dX10_takeRead_186 : decode cX10_takeRead 186 = .ok (.aload_n 0, 1) := by decide +kernel
theorem dX10_takeRead_187 : decode cX10_takeRead 187 = .ok (.getfield 50, 3) := by decide +kernel
theorem dX10_takeRead_190 : decode cX10_takeRead 190 = .ok (.iload_n 1, 1) := by decide +kernel
theorem dX10_takeRead_191 : decode cX10_takeRead 191 = .ok (.iaload, 1) := by decide +kernel
theorem dX10_takeRead_192 : decode cX10_takeRead 192 = .ok (.iastore, 1) := by decide +kernel
theorem dX10_takeRead_193 : decode cX10_takeRead 193 = .ok (.iinc 1 1, 3) := by decide +kernel
theorem dX10_takeRead_196 : decode cX10_takeRead 196 = .ok (.goto (-40), 3) := by decide +kernel
theorem dX10_takeRead_199 : decode cX10_takeRead 199 = .ok (.aload_n 0, 1) := by decide +kernel
theorem dX10_takeRead_200 : decode cX10_takeRead 200 = .ok (.getfield 22, 3) := by decide +kernel
theorem dX10_takeRead_203 : decode cX10_takeRead 203 = .ok (.bipush 27, 2) := by decide +kernel
theorem dX10_takeRead_205 : decode cX10_takeRead 205 = .ok (.aload_n 0, 1) := by decide +kernel
theorem dX10_takeRead_206 : decode cX10_takeRead 206 = .ok (.getfield 128, 3) := by decide +kernel
theorem dX10_takeRead_209 : decode cX10_takeRead 209 = .ok (.ifCond .ne 10, 3) := by decide +kernel
theorem dX10_takeRead_212 : decode cX10_takeRead 212 = .ok (.aload_n 0, 1) := by decide +kernel
theorem dX10_takeRead_213 : decode cX10_takeRead 213 = .ok (.getfield 161, 3) := by decide +kernel
theorem dX10_takeRead_216 : decode cX10_takeRead 216 = .ok (.goto 4, 3) := by decide +kernel
theorem dX10_takeRead_219 : decode cX10_takeRead 219 = .ok (.iconst 0, 1) := by decide +kernel
theorem dX10_takeRead_220 : decode cX10_takeRead 220 = .ok (.iastore, 1) := by decide +kernel
theorem dX10_takeRead_221 : decode cX10_takeRead 221 = .ok (.return_, 1) := by decide +kernel
theorem dX10_probate_0 : decode cX10_probate 0 = .ok (.aload_n 0, 1) := by decide +kernel
theorem dX10_probate_1 : decode cX10_probate 1 = .ok (.iconst (-1), 1) := by decide +kernel
theorem dX10_probate_2 : decode cX10_probate 2 = .ok (.putfield 43, 3) := by decide +kernel
theorem dX10_probate_5 : decode cX10_probate 5 = .ok (.aload_n 0, 1) := by decide +kernel
theorem dX10_probate_6 : decode cX10_probate 6 = .ok (.iconst 0, 1) := by decide +kernel
theorem dX10_probate_7 : decode cX10_probate 7 = .ok (.putfield 101, 3) := by decide +kernel
theorem dX10_probate_10 : decode cX10_probate 10 = .ok (.aload_n 0, 1) := by decide +kernel
theorem dX10_probate_11 : decode cX10_probate 11 = .ok (.iconst (-1), 1) := by decide +kernel
theorem dX10_probate_12 : decode cX10_probate 12 = .ok (.putfield 125, 3) := by decide +kernel
theorem dX10_probate_15 : decode cX10_probate 15 = .ok (.aload_n 0, 1) := by decide +kernel
theorem dX10_probate_16 : decode cX10_probate 16 = .ok (.iconst 0, 1) := by decide +kernel
theorem dX10_probate_17 : decode cX10_probate 17 = .ok (.putfield 128, 3) := by decide +kernel
theorem dX10_probate_20 : decode cX10_probate 20 = .ok (.aload_n 0, 1) := by decide +kernel
theorem dX10_probate_21 : decode cX10_probate 21 = .ok (.iconst 0, 1) := by decide +kernel
theorem dX10_probate_22 : decode cX10_probate 22 = .ok (.putfield 131, 3) := by decide +kernel
theorem dX10_probate_25 : decode cX10_probate 25 = .ok (.aload_n 0, 1) := by decide +kernel
theorem dX10_probate_26 : decode cX10_probate 26 = .ok (.iconst 0, 1) := by decide +kernel
theorem dX10_probate_27 : decode cX10_probate 27 = .ok (.putfield 134, 3) := by decide +kernel
theorem dX10_probate_30 : decode cX10_probate 30 = .ok (.iconst 0, 1) := by decide +kernel
theorem dX10_probate_31 : decode cX10_probate 31 = .ok (.istore_n 1, 1) := by decide +kernel
theorem dX10_probate_32 : decode cX10_probate 32 = .ok (.iload_n 1, 1) := by decide +kernel
theorem dX10_probate_33 : decode cX10_probate 33 = .ok (.ifCond .ne 18, 3) := by decide +kernel
theorem dX10_probate_36 : decode cX10_probate 36 = .ok (.aload_n 0, 1) := by decide +kernel
theorem dX10_probate_37 : decode cX10_probate 37 = .ok (.invokevirtual 104, 3) := by decide +kernel
theorem dX10_probate_40 : decode cX10_probate 40 = .ok (.ifCond .lt 11, 3) := by decide +kernel
theorem dX10_probate_43 : decode cX10_probate 43 = .ok (.aload_n 0, 1) := by decide +kernel
theorem dX10_probate_44 : decode cX10_probate 44 = .ok (.invokevirtual 167, 3) := by decide +kernel
theorem dX10_probate_47 : decode cX10_probate 47 = .ok (.istore_n 1, 1) := by decide +kernel
theorem dX10_probate_48 : decode cX10_probate 48 = .ok (.goto (-16), 3) := by decide +kernel
theorem dX10_probate_51 : decode cX10_probate 51 = .ok (.aload_n 0, 1) := by decide +kernel
theorem dX10_probate_52 : decode cX10_probate 52 = .ok (.iconst 0, 1) := by decide +kernel
theorem dX10_probate_53 : decode cX10_probate 53 = .ok (.putfield 97, 3) := by decide +kernel
theorem dX10_probate_56 : decode cX10_probate 56 = .ok (.iload_n 1, 1) := by decide +kernel
theorem dX10_probate_57 : decode cX10_probate 57 = .ok (.ifCond .le 8, 3) := by decide +kernel
theorem dX10_probate_60 : decode cX10_probate 60 = .ok (.bipush (-10), 2) := by decide +kernel
theorem dX10_probate_62 : decode cX10_probate 62 = .ok (.iload_n 1, 1) := by decide +kernel
theorem dX10_probate_63 : decode cX10_probate 63 = .ok (.isub, 1) := by decide +kernel
theorem dX10_probate_64 : decode cX10_probate 64 = .ok (.ireturn, 1) := by decide +kernel
theorem dX10_probate_65 : decode cX10_probate 65 = .ok (.aload_n 0, 1) := by decide +kernel
theorem dX10_probate_66 : decode cX10_probate 66 = .ok (.invokevirtual 170, 3) := by decide +kernel
theorem dX10_probate_69 : decode cX10_probate 69 = .ok (.aload_n 0, 1) := by decide +kernel
theorem dX10_probate_70 : decode cX10_probate 70 = .ok (.iconst 0, 1) := by decide +kernel
theorem dX10_probate_71 : decode cX10_probate 71 = .ok (.putfield 173, 3) := by decide +kernel
theorem dX10_probate_74 : decode cX10_probate 74 = .ok (.aload_n 0, 1) := by decide +kernel
theorem dX10_probate_75 : decode cX10_probate 75 = .ok (.iconst 0, 1) := by decide +kernel
theorem dX10_probate_76 : decode cX10_probate 76 = .ok (.putfield 176, 3) := by decide +kernel
theorem dX10_probate_79 : decode cX10_probate 79 = .ok (.aload_n 0, 1) := by decide +kernel
theorem dX10_probate_80 : decode cX10_probate 80 = .ok (.iconst 0, 1) := by decide +kernel
theorem dX10_probate_81 : decode cX10_probate 81 = .ok (.putfield 179, 3) := by decide +kernel
theorem dX10_probate_84 : decode cX10_probate 84 = .ok (.aload_n 0, 1) := by decide +kernel
theorem dX10_probate_85 : decode cX10_probate 85 = .ok (.getfield 80, 3) := by decide +kernel
theorem dX10_probate_88 : decode cX10_probate 88 = .ok (.iconst 0, 1) := by decide +kernel
theorem dX10_probate_89 : decode cX10_probate 89 = .ok (.iconst 0, 1) := by decide +kernel
theorem dX10_probate_90 : decode cX10_probate 90 = .ok (.bastore, 1) := by decide +kernel
theorem dX10_probate_91 : decode cX10_probate 91 = .ok (.aload_n 0, 1) := by decide +kernel
theorem dX10_probate_92 : decode cX10_probate 92 = .ok (.getfield 80, 3) := by decide +kernel
theorem dX10_probate_95 : decode cX10_probate 95 = .ok (.iconst 1, 1) := by decide +kernel
theorem dX10_probate_96 : decode cX10_probate 96 = .ok (.iconst 0, 1) := by decide +kernel
theorem dX10_probate_97 : decode cX10_probate 97 = .ok (.bastore, 1) := by decide +kernel
theorem dX10_probate_98 : decode cX10_probate 98 = .ok (.aload_n 0, 1) := by decide +kernel
theorem dX10_probate_99 : decode cX10_probate 99 = .ok (.getfield 22, 3) := by decide +kernel
theorem dX10_probate_102 : decode cX10_probate 102 = .ok (.iconst 0, 1) := by decide +kernel
theorem dX10_probate_103 : decode cX10_probate 103 = .ok (.iaload, 1) := by decide +kernel
theorem dX10_probate_104 : decode cX10_probate 104 = .ok (.ireturn, 1) := by decide +kernel
theorem dX10_fault_0 : decode cX10_fault 0 = .ok (.aload_n 0, 1) := by decide +kernel
theorem dX10_fault_1 : decode cX10_fault 1 = .ok (.getfield 43, 3) := by decide +kernel
theorem dX10_fault_4 : decode cX10_fault 4 = .ok (.ireturn, 1) := by decide +kernel
theorem dX10_worthBy_0 : decode cX10_worthBy 0 = .ok (.iload_n 0, 1) := by decide +kernel
theorem dX10_worthBy_1 : decode cX10_worthBy 1 = .ok (.iconst 1, 1) := by decide +kernel
theorem dX10_worthBy_2 : decode cX10_worthBy 2 = .ok (.if_icmp .ne 9, 3) := by decide +kernel
theorem dX10_worthBy_5 : decode cX10_worthBy 5 = .ok (.iload_n 1, 1) := by decide +kernel
theorem dX10_worthBy_6 : decode cX10_worthBy 6 = .ok (.iconst 2, 1) := by decide +kernel
theorem dX10_worthBy_7 : decode cX10_worthBy 7 = .ok (.idiv, 1) := by decide +kernel
theorem dX10_worthBy_8 : decode cX10_worthBy 8 = .ok (.goto 24, 3) := by decide +kernel
theorem dX10_worthBy_11 : decode cX10_worthBy 11 = .ok (.iload_n 0, 1) := by decide +kernel
theorem dX10_worthBy_12 : decode cX10_worthBy 12 = .ok (.iconst 2, 1) := by decide +kernel
theorem dX10_worthBy_13 : decode cX10_worthBy 13 = .ok (.if_icmp .ne 9, 3) := by decide +kernel
theorem dX10_worthBy_16 : decode cX10_worthBy 16 = .ok (.iconst 2, 1) := by decide +kernel
theorem dX10_worthBy_17 : decode cX10_worthBy 17 = .ok (.iload_n 1, 1) := by decide +kernel
theorem dX10_worthBy_18 : decode cX10_worthBy 18 = .ok (.imul, 1) := by decide +kernel
theorem dX10_worthBy_19 : decode cX10_worthBy 19 = .ok (.goto 13, 3) := by decide +kernel
theorem dX10_worthBy_22 : decode cX10_worthBy 22 = .ok (.iload_n 0, 1) := by decide +kernel
theorem dX10_worthBy_23 : decode cX10_worthBy 23 = .ok (.iconst 4, 1) := by decide +kernel
theorem dX10_worthBy_24 : decode cX10_worthBy 24 = .ok (.if_icmp .ne 7, 3) := by decide +kernel
theorem dX10_worthBy_27 : decode cX10_worthBy 27 = .ok (.iconst 0, 1) := by decide +kernel
theorem dX10_worthBy_28 : decode cX10_worthBy 28 = .ok (.goto 4, 3) := by decide +kernel
theorem dX10_worthBy_31 : decode cX10_worthBy 31 = .ok (.iload_n 1, 1) := by decide +kernel
theorem dX10_worthBy_32 : decode cX10_worthBy 32 = .ok (.ireturn, 1) := by decide +kernel
theorem dX10_stingBy_0 : decode cX10_stingBy 0 = .ok (.iload_n 0, 1) := by decide +kernel
theorem dX10_stingBy_1 : decode cX10_stingBy 1 = .ok (.iconst 2, 1) := by decide +kernel
theorem dX10_stingBy_2 : decode cX10_stingBy 2 = .ok (.if_icmp .ne 9, 3) := by decide +kernel
theorem dX10_stingBy_5 : decode cX10_stingBy 5 = .ok (.iconst 2, 1) := by decide +kernel
theorem dX10_stingBy_6 : decode cX10_stingBy 6 = .ok (.iload_n 1, 1) := by decide +kernel
theorem dX10_stingBy_7 : decode cX10_stingBy 7 = .ok (.imul, 1) := by decide +kernel
theorem dX10_stingBy_8 : decode cX10_stingBy 8 = .ok (.goto 13, 3) := by decide +kernel
theorem dX10_stingBy_11 : decode cX10_stingBy 11 = .ok (.iload_n 0, 1) := by decide +kernel
theorem dX10_stingBy_12 : decode cX10_stingBy 12 = .ok (.iconst 4, 1) := by decide +kernel
theorem dX10_stingBy_13 : decode cX10_stingBy 13 = .ok (.if_icmp .ne 7, 3) := by decide +kernel
theorem dX10_stingBy_16 : decode cX10_stingBy 16 = .ok (.iconst 0, 1) := by decide +kernel
theorem dX10_stingBy_17 : decode cX10_stingBy 17 = .ok (.goto 4, 3) := by decide +kernel
theorem dX10_stingBy_20 : decode cX10_stingBy 20 = .ok (.iload_n 1, 1) := by decide +kernel
theorem dX10_stingBy_21 : decode cX10_stingBy 21 = .ok (.ireturn, 1) := by decide +kernel
theorem dX10_worthOf_0 : decode cX10_worthOf 0 = .ok (.aload_n 0, 1) := by decide +kernel
theorem dX10_worthOf_1 : decode cX10_worthOf 1 = .ok (.getfield 22, 3) := by decide +kernel
theorem dX10_worthOf_4 : decode cX10_worthOf 4 = .ok (.iconst 1, 1) := by decide +kernel
theorem dX10_worthOf_5 : decode cX10_worthOf 5 = .ok (.iload_n 1, 1) := by decide +kernel
theorem dX10_worthOf_6 : decode cX10_worthOf 6 = .ok (.iadd, 1) := by decide +kernel
theorem dX10_worthOf_7 : decode cX10_worthOf 7 = .ok (.iaload, 1) := by decide +kernel
theorem dX10_worthOf_8 : decode cX10_worthOf 8 = .ok (.aload_n 0, 1) := by decide +kernel
theorem dX10_worthOf_9 : decode cX10_worthOf 9 = .ok (.getfield 22, 3) := by decide +kernel
theorem dX10_worthOf_12 : decode cX10_worthOf 12 = .ok (.bipush 13, 2) := by decide +kernel
theorem dX10_worthOf_14 : decode cX10_worthOf 14 = .ok (.iload_n 1, 1) := by decide +kernel
theorem dX10_worthOf_15 : decode cX10_worthOf 15 = .ok (.iadd, 1) := by decide +kernel
theorem dX10_worthOf_16 : decode cX10_worthOf 16 = .ok (.iaload, 1) := by decide +kernel
theorem dX10_worthOf_17 : decode cX10_worthOf 17 = .ok (.invokestatic 182, 3) := by decide +kernel
theorem dX10_worthOf_20 : decode cX10_worthOf 20 = .ok (.ireturn, 1) := by decide +kernel
theorem dX10_stingOf_0 : decode cX10_stingOf 0 = .ok (.aload_n 0, 1) := by decide +kernel
theorem dX10_stingOf_1 : decode cX10_stingOf 1 = .ok (.getfield 22, 3) := by decide +kernel
theorem dX10_stingOf_4 : decode cX10_stingOf 4 = .ok (.iconst 1, 1) := by decide +kernel
theorem dX10_stingOf_5 : decode cX10_stingOf 5 = .ok (.iload_n 1, 1) := by decide +kernel
theorem dX10_stingOf_6 : decode cX10_stingOf 6 = .ok (.iadd, 1) := by decide +kernel
theorem dX10_stingOf_7 : decode cX10_stingOf 7 = .ok (.iaload, 1) := by decide +kernel
theorem dX10_stingOf_8 : decode cX10_stingOf 8 = .ok (.aload_n 0, 1) := by decide +kernel
theorem dX10_stingOf_9 : decode cX10_stingOf 9 = .ok (.getfield 22, 3) := by decide +kernel
theorem dX10_stingOf_12 : decode cX10_stingOf 12 = .ok (.bipush 13, 2) := by decide +kernel
theorem dX10_stingOf_14 : decode cX10_stingOf 14 = .ok (.iload_n 1, 1) := by decide +kernel
theorem dX10_stingOf_15 : decode cX10_stingOf 15 = .ok (.iadd, 1) := by decide +kernel
theorem dX10_stingOf_16 : decode cX10_stingOf 16 = .ok (.iaload, 1) := by decide +kernel
theorem dX10_stingOf_17 : decode cX10_stingOf 17 = .ok (.invokestatic 185, 3) := by decide +kernel
theorem dX10_stingOf_20 : decode cX10_stingOf 20 = .ok (.ireturn, 1) := by decide +kernel
theorem dX10_allThick_0 : decode cX10_allThick 0 = .ok (.iconst 0, 1) := by decide +kernel
theorem dX10_allThick_1 : decode cX10_allThick 1 = .ok (.istore_n 1, 1) := by decide +kernel
theorem dX10_allThick_2 : decode cX10_allThick 2 = .ok (.iconst 0, 1) := by decide +kernel
theorem dX10_allThick_3 : decode cX10_allThick 3 = .ok (.istore_n 2, 1) := by decide +kernel
theorem dX10_allThick_4 : decode cX10_allThick 4 = .ok (.iload_n 2, 1) := by decide +kernel
theorem dX10_allThick_5 : decode cX10_allThick 5 = .ok (.aload_n 0, 1) := by decide +kernel
theorem dX10_allThick_6 : decode cX10_allThick 6 = .ok (.getfield 22, 3) := by decide +kernel
theorem dX10_allThick_9 : decode cX10_allThick 9 = .ok (.iconst 0, 1) := by decide +kernel
theorem dX10_allThick_10 : decode cX10_allThick 10 = .ok (.iaload, 1) := by decide +kernel
theorem dX10_allThick_11 : decode cX10_allThick 11 = .ok (.if_icmp .ge 21, 3) := by decide +kernel
theorem dX10_allThick_14 : decode cX10_allThick 14 = .ok (.iload_n 1, 1) := by decide +kernel
theorem dX10_allThick_15 : decode cX10_allThick 15 = .ok (.aload_n 0, 1) := by decide +kernel
theorem dX10_allThick_16 : decode cX10_allThick 16 = .ok (.getfield 22, 3) := by decide +kernel
theorem dX10_allThick_19 : decode cX10_allThick 19 = .ok (.bipush 13, 2) := by decide +kernel
theorem dX10_allThick_21 : decode cX10_allThick 21 = .ok (.iload_n 2, 1) := by decide +kernel
theorem dX10_allThick_22 : decode cX10_allThick 22 = .ok (.iadd, 1) := by decide +kernel
theorem dX10_allThick_23 : decode cX10_allThick 23 = .ok (.iaload, 1) := by decide +kernel
theorem dX10_allThick_24 : decode cX10_allThick 24 = .ok (.iadd, 1) := by decide +kernel
theorem dX10_allThick_25 : decode cX10_allThick 25 = .ok (.istore_n 1, 1) := by decide +kernel
theorem dX10_allThick_26 : decode cX10_allThick 26 = .ok (.iinc 2 1, 3) := by decide +kernel
theorem dX10_allThick_29 : decode cX10_allThick 29 = .ok (.goto (-25), 3) := by decide +kernel
theorem dX10_allThick_32 : decode cX10_allThick 32 = .ok (.iload_n 1, 1) := by decide +kernel
theorem dX10_allThick_33 : decode cX10_allThick 33 = .ok (.ireturn, 1) := by decide +kernel
theorem dX10_cut_0 : decode cX10_cut 0 = .ok (.aload_n 0, 1) := by decide +kernel
theorem dX10_cut_1 : decode cX10_cut 1 = .ok (.invokevirtual 188, 3) := by decide +kernel
theorem dX10_cut_4 : decode cX10_cut 4 = .ok (.iconst 2, 1) := by decide +kernel
theorem dX10_cut_5 : decode cX10_cut 5 = .ok (.idiv, 1) := by decide +kernel
theorem dX10_cut_6 : decode cX10_cut 6 = .ok (.istore_n 1, 1) := by decide +kernel
theorem dX10_cut_7 : decode cX10_cut 7 = .ok (.iconst 0, 1) := by decide +kernel
theorem dX10_cut_8 : decode cX10_cut 8 = .ok (.istore_n 2, 1) := by decide +kernel
theorem dX10_cut_9 : decode cX10_cut 9 = .ok (.iconst 0, 1) := by decide +kernel
theorem dX10_cut_10 : decode cX10_cut 10 = .ok (.istore_n 3, 1) := by decide +kernel
theorem dX10_cut_11 : decode cX10_cut 11 = .ok (.iload_n 3, 1) := by decide +kernel
theorem dX10_cut_12 : decode cX10_cut 12 = .ok (.aload_n 0, 1) := by decide +kernel
theorem dX10_cut_13 : decode cX10_cut 13 = .ok (.getfield 22, 3) := by decide +kernel
theorem dX10_cut_16 : decode cX10_cut 16 = .ok (.iconst 0, 1) := by decide +kernel
theorem dX10_cut_17 : decode cX10_cut 17 = .ok (.iaload, 1) := by decide +kernel
theorem dX10_cut_18 : decode cX10_cut 18 = .ok (.if_icmp .ge 28, 3) := by decide +kernel
theorem dX10_cut_21 : decode cX10_cut 21 = .ok (.iload_n 2, 1) := by decide +kernel
theorem dX10_cut_22 : decode cX10_cut 22 = .ok (.aload_n 0, 1) := by decide +kernel
theorem dX10_cut_23 : decode cX10_cut 23 = .ok (.getfield 22, 3) := by decide +kernel
theorem dX10_cut_26 : decode cX10_cut 26 = .ok (.bipush 13, 2) := by decide +kernel
theorem dX10_cut_28 : decode cX10_cut 28 = .ok (.iload_n 3, 1) := by decide +kernel
theorem dX10_cut_29 : decode cX10_cut 29 = .ok (.iadd, 1) := by decide +kernel
theorem dX10_cut_30 : decode cX10_cut 30 = .ok (.iaload, 1) := by decide +kernel
theorem dX10_cut_31 : decode cX10_cut 31 = .ok (.iadd, 1) := by decide +kernel
theorem dX10_cut_32 : decode cX10_cut 32 = .ok (.istore_n 2, 1) := by decide +kernel
theorem dX10_cut_33 : decode cX10_cut 33 = .ok (.iload_n 2, 1) := by decide +kernel
theorem dX10_cut_34 : decode cX10_cut 34 = .ok (.iload_n 1, 1) := by decide +kernel
theorem dX10_cut_35 : decode cX10_cut 35 = .ok (.if_icmp .le 5, 3) := by decide +kernel
theorem dX10_cut_38 : decode cX10_cut 38 = .ok (.iload_n 3, 1) := by decide +kernel
theorem dX10_cut_39 : decode cX10_cut 39 = .ok (.ireturn, 1) := by decide +kernel
theorem dX10_cut_40 : decode cX10_cut 40 = .ok (.iinc 3 1, 3) := by decide +kernel
theorem dX10_cut_43 : decode cX10_cut 43 = .ok (.goto (-32), 3) := by decide +kernel
theorem dX10_cut_46 : decode cX10_cut 46 = .ok (.iconst (-1), 1) := by decide +kernel
theorem dX10_cut_47 : decode cX10_cut 47 = .ok (.ireturn, 1) := by decide +kernel
theorem dX10_canBe_0 : decode cX10_canBe 0 = .ok (.iconst 1, 1) := by decide +kernel
theorem dX10_canBe_1 : decode cX10_canBe 1 = .ok (.istore_n 2, 1) := by decide +kernel
theorem dX10_canBe_2 : decode cX10_canBe 2 = .ok (.iconst 0, 1) := by decide +kernel
theorem dX10_canBe_3 : decode cX10_canBe 3 = .ok (.istore_n 3, 1) := by decide +kernel
theorem dX10_canBe_4 : decode cX10_canBe 4 = .ok (.iload_n 3, 1) := by decide +kernel
theorem dX10_canBe_5 : decode cX10_canBe 5 = .ok (.aload_n 0, 1) := by decide +kernel
theorem dX10_canBe_6 : decode cX10_canBe 6 = .ok (.getfield 22, 3) := by decide +kernel
theorem dX10_canBe_9 : decode cX10_canBe 9 = .ok (.iconst 0, 1) := by decide +kernel
theorem dX10_canBe_10 : decode cX10_canBe 10 = .ok (.iaload, 1) := by decide +kernel
theorem dX10_canBe_11 : decode cX10_canBe 11 = .ok (.if_icmp .ge 51, 3) := by decide +kernel
theorem dX10_canBe_14 : decode cX10_canBe 14 = .ok (.iload_n 3, 1) := by decide +kernel
theorem dX10_canBe_15 : decode cX10_canBe 15 = .ok (.aload_n 0, 1) := by decide +kernel
theorem dX10_canBe_16 : decode cX10_canBe 16 = .ok (.getfield 16, 3) := by decide +kernel
theorem dX10_canBe_19 : decode cX10_canBe 19 = .ok (.iload_n 1, 1) := by decide +kernel
theorem dX10_canBe_20 : decode cX10_canBe 20 = .ok (.iaload, 1) := by decide +kernel
theorem dX10_canBe_21 : decode cX10_canBe 21 = .ok (.if_icmp .ge 41, 3) := by decide +kernel
theorem dX10_canBe_24 : decode cX10_canBe 24 = .ok (.iload_n 2, 1) := by decide +kernel
theorem dX10_canBe_25 : decode cX10_canBe 25 = .ok (.ifCond .eq 29, 3) := by decide +kernel
theorem dX10_canBe_28 : decode cX10_canBe 28 = .ok (.aload_n 0, 1) := by decide +kernel
theorem dX10_canBe_29 : decode cX10_canBe 29 = .ok (.getfield 19, 3) := by decide +kernel
theorem dX10_canBe_32 : decode cX10_canBe 32 = .ok (.bipush 8, 2) := by decide +kernel
theorem dX10_canBe_34 : decode cX10_canBe 34 = .ok (.iload_n 1, 1) := by decide +kernel
theorem dX10_canBe_35 : decode cX10_canBe 35 = .ok (.imul, 1) := by decide +kernel
theorem dX10_canBe_36 : decode cX10_canBe 36 = .ok (.iload_n 3, 1) := by decide +kernel
theorem dX10_canBe_37 : decode cX10_canBe 37 = .ok (.iadd, 1) := by decide +kernel
theorem dX10_canBe_38 : decode cX10_canBe 38 = .ok (.iaload, 1) := by decide +kernel
theorem dX10_canBe_39 : decode cX10_canBe 39 = .ok (.aload_n 0, 1) := by decide +kernel
theorem dX10_canBe_40 : decode cX10_canBe 40 = .ok (.getfield 22, 3) := by decide +kernel
theorem dX10_canBe_43 : decode cX10_canBe 43 = .ok (.iconst 1, 1) := by decide +kernel
theorem dX10_canBe_44 : decode cX10_canBe 44 = .ok (.iload_n 3, 1) := by decide +kernel
theorem dX10_canBe_45 : decode cX10_canBe 45 = .ok (.iadd, 1) := by decide +kernel
theorem dX10_canBe_46 : decode cX10_canBe 46 = .ok (.iaload, 1) := by decide +kernel
theorem dX10_canBe_47 : decode cX10_canBe 47 = .ok (.if_icmp .ne 7, 3) := by decide +kernel
theorem dX10_canBe_50 : decode cX10_canBe 50 = .ok (.iconst 1, 1) := by decide +kernel
theorem dX10_canBe_51 : decode cX10_canBe 51 = .ok (.goto 4, 3) := by decide +kernel
theorem dX10_canBe_54 : decode cX10_canBe 54 = .ok (.iconst 0, 1) := by decide +kernel
theorem dX10_canBe_55 : decode cX10_canBe 55 = .ok (.istore_n 2, 1) := by decide +kernel
theorem dX10_canBe_56 : decode cX10_canBe 56 = .ok (.iinc 3 1, 3) := by decide +kernel
theorem dX10_canBe_59 : decode cX10_canBe 59 = .ok (.goto (-55), 3) := by decide +kernel
theorem dX10_canBe_62 : decode cX10_canBe 62 = .ok (.iload_n 2, 1) := by decide +kernel
theorem dX10_canBe_63 : decode cX10_canBe 63 = .ok (.ireturn, 1) := by decide +kernel
theorem dX10_canBeOnes_0 : decode cX10_canBeOnes 0 = .ok (.iconst 0, 1) := by decide +kernel
theorem dX10_canBeOnes_1 : decode cX10_canBeOnes 1 = .ok (.istore_n 1, 1) := by decide +kernel
theorem dX10_canBeOnes_2 : decode cX10_canBeOnes 2 = .ok (.iconst 0, 1) := by decide +kernel
theorem dX10_canBeOnes_3 : decode cX10_canBeOnes 3 = .ok (.istore_n 2, 1) := by decide +kernel
theorem dX10_canBeOnes_4 : decode cX10_canBeOnes 4 = .ok (.iload_n 2, 1) := by decide +kernel
theorem dX10_canBeOnes_5 : decode cX10_canBeOnes 5 = .ok (.aload_n 0, 1) := by decide +kernel
theorem dX10_canBeOnes_6 : decode cX10_canBeOnes 6 = .ok (.getfield 164, 3) := by decide +kernel
theorem dX10_canBeOnes_9 : decode cX10_canBeOnes 9 = .ok (.if_icmp .ge 27, 3) := by decide +kernel
theorem dX10_canBeOnes_12 : decode cX10_canBeOnes 12 = .ok (.iload_n 1, 1) := by decide +kernel
theorem dX10_canBeOnes_13 : decode cX10_canBeOnes 13 = .ok (.aload_n 0, 1) := by decide +kernel
theorem dX10_canBeOnes_14 : decode cX10_canBeOnes 14 = .ok (.iload_n 2, 1) := by decide +kernel
theorem dX10_canBeOnes_15 : decode cX10_canBeOnes 15 = .ok (.invokevirtual 191, 3) := by decide +kernel
theorem dX10_canBeOnes_18 : decode cX10_canBeOnes 18 = .ok (.ifCond .eq 9, 3) := by decide +kernel
theorem dX10_canBeOnes_21 : decode cX10_canBeOnes 21 = .ok (.iconst 1, 1) := by decide +kernel
theorem dX10_canBeOnes_22 : decode cX10_canBeOnes 22 = .ok (.iload_n 2, 1) := by decide +kernel
theorem dX10_canBeOnes_23 : decode cX10_canBeOnes 23 = .ok (.ishl, 1) := by decide +kernel
theorem dX10_canBeOnes_24 : decode cX10_canBeOnes 24 = .ok (.goto 4, 3) := by decide +kernel
theorem dX10_canBeOnes_27 : decode cX10_canBeOnes 27 = .ok (.iconst 0, 1) := by decide +kernel
theorem dX10_canBeOnes_28 : decode cX10_canBeOnes 28 = .ok (.ior, 1) := by decide +kernel
theorem dX10_canBeOnes_29 : decode cX10_canBeOnes 29 = .ok (.istore_n 1, 1) := by decide +kernel
theorem dX10_canBeOnes_30 : decode cX10_canBeOnes 30 = .ok (.iinc 2 1, 3) := by decide +kernel
theorem dX10_canBeOnes_33 : decode cX10_canBeOnes 33 = .ok (.goto (-29), 3) := by decide +kernel
theorem dX10_canBeOnes_36 : decode cX10_canBeOnes 36 = .ok (.iload_n 1, 1) := by decide +kernel
theorem dX10_canBeOnes_37 : decode cX10_canBeOnes 37 = .ok (.ireturn, 1) := by decide +kernel
theorem dX10_nextOf_0 : decode cX10_nextOf 0 = .ok (.iconst 0, 1) := by decide +kernel
theorem dX10_nextOf_1 : decode cX10_nextOf 1 = .ok (.istore_n 2, 1) := by decide +kernel
theorem dX10_nextOf_2 : decode cX10_nextOf 2 = .ok (.iconst 0, 1) := by decide +kernel
theorem dX10_nextOf_3 : decode cX10_nextOf 3 = .ok (.istore_n 3, 1) := by decide +kernel
theorem dX10_nextOf_4 : decode cX10_nextOf 4 = .ok (.iload_n 3, 1) := by decide +kernel
theorem dX10_nextOf_5 : decode cX10_nextOf 5 = .ok (.aload_n 0, 1) := by decide +kernel
theorem dX10_nextOf_6 : decode cX10_nextOf 6 = .ok (.getfield 164, 3) := by decide +kernel
theorem dX10_nextOf_9 : decode cX10_nextOf 9 = .ok (.if_icmp .ge 60, 3) := by decide +kernel
theorem dX10_nextOf_12 : decode cX10_nextOf 12 = .ok (.iload_n 2, 1) := by decide +kernel
theorem dX10_nextOf_13 : decode cX10_nextOf 13 = .ok (.aload_n 0, 1) := by decide +kernel
theorem dX10_nextOf_14 : decode cX10_nextOf 14 = .ok (.iload_n 3, 1) := by decide +kernel
theorem dX10_nextOf_15 : decode cX10_nextOf 15 = .ok (.invokevirtual 191, 3) := by decide +kernel
theorem dX10_nextOf_18 : decode cX10_nextOf 18 = .ok (.ifCond .eq 42, 3) := by decide +kernel
theorem dX10_nextOf_21 : decode cX10_nextOf 21 = .ok (.aload_n 0, 1) := by decide +kernel
theorem dX10_nextOf_22 : decode cX10_nextOf 22 = .ok (.getfield 16, 3) := by decide +kernel
theorem dX10_nextOf_25 : decode cX10_nextOf 25 = .ok (.iload_n 3, 1) := by decide +kernel
theorem dX10_nextOf_26 : decode cX10_nextOf 26 = .ok (.iaload, 1) := by decide +kernel
theorem dX10_nextOf_27 : decode cX10_nextOf 27 = .ok (.aload_n 0, 1) := by decide +kernel
theorem dX10_nextOf_28 : decode cX10_nextOf 28 = .ok (.getfield 22, 3) := by decide +kernel
theorem dX10_nextOf_31 : decode cX10_nextOf 31 = .ok (.iconst 0, 1) := by decide +kernel
theorem dX10_nextOf_32 : decode cX10_nextOf 32 = .ok (.iaload, 1) := by decide +kernel
theorem dX10_nextOf_33 : decode cX10_nextOf 33 = .ok (.if_icmp .le 27, 3) := by decide +kernel
theorem dX10_nextOf_36 : decode cX10_nextOf 36 = .ok (.aload_n 0, 1) := by decide +kernel
theorem dX10_nextOf_37 : decode cX10_nextOf 37 = .ok (.getfield 19, 3) := by decide +kernel
theorem dX10_nextOf_40 : decode cX10_nextOf 40 = .ok (.bipush 8, 2) := by decide +kernel
theorem dX10_nextOf_42 : decode cX10_nextOf 42 = .ok (.iload_n 3, 1) := by decide +kernel
theorem dX10_nextOf_43 : decode cX10_nextOf 43 = .ok (.imul, 1) := by decide +kernel
theorem dX10_nextOf_44 : decode cX10_nextOf 44 = .ok (.aload_n 0, 1) := by decide +kernel
theorem dX10_nextOf_45 : decode cX10_nextOf 45 = .ok (.getfield 22, 3) := by decide +kernel
theorem dX10_nextOf_48 : decode cX10_nextOf 48 = .ok (.iconst 0, 1) := by decide +kernel
theorem dX10_nextOf_49 : decode cX10_nextOf 49 = .ok (.iaload, 1) := by decide +kernel
theorem dX10_nextOf_50 : decode cX10_nextOf 50 = .ok (.iadd, 1) := by decide +kernel
theorem dX10_nextOf_51 : decode cX10_nextOf 51 = .ok (.iaload, 1) := by decide +kernel
theorem dX10_nextOf_52 : decode cX10_nextOf 52 = .ok (.iload_n 1, 1) := by decide +kernel
theorem dX10_nextOf_53 : decode cX10_nextOf 53 = .ok (.if_icmp .ne 7, 3) := by decide +kernel
theorem dX10_nextOf_56 : decode cX10_nextOf 56 = .ok (.iconst 1, 1) := by decide +kernel
theorem dX10_nextOf_57 : decode cX10_nextOf 57 = .ok (.goto 4, 3) := by decide +kernel
theorem dX10_nextOf_60 : decode cX10_nextOf 60 = .ok (.iconst 0, 1) := by decide +kernel
theorem dX10_nextOf_61 : decode cX10_nextOf 61 = .ok (.iadd, 1) := by decide +kernel
theorem dX10_nextOf_62 : decode cX10_nextOf 62 = .ok (.istore_n 2, 1) := by decide +kernel
theorem dX10_nextOf_63 : decode cX10_nextOf 63 = .ok (.iinc 3 1, 3) := by decide +kernel
theorem dX10_nextOf_66 : decode cX10_nextOf 66 = .ok (.goto (-62), 3) := by decide +kernel
theorem dX10_nextOf_69 : decode cX10_nextOf 69 = .ok (.iload_n 2, 1) := by decide +kernel
theorem dX10_nextOf_70 : decode cX10_nextOf 70 = .ok (.ireturn, 1) := by decide +kernel
theorem dX10_sure_0 : decode cX10_sure 0 = .ok (.iconst (-1), 1) := by decide +kernel
theorem dX10_sure_1 : decode cX10_sure 1 = .ok (.istore_n 1, 1) := by decide +kernel
theorem dX10_sure_2 : decode cX10_sure 2 = .ok (.iconst 0, 1) := by decide +kernel
theorem dX10_sure_3 : decode cX10_sure 3 = .ok (.istore_n 2, 1) := by decide +kernel
theorem dX10_sure_4 : decode cX10_sure 4 = .ok (.iconst 0, 1) := by decide +kernel
theorem dX10_sure_5 : decode cX10_sure 5 = .ok (.istore_n 3, 1) := by decide +kernel
theorem dX10_sure_6 : decode cX10_sure 6 = .ok (.iload_n 3, 1) := by decide +kernel
theorem dX10_sure_7 : decode cX10_sure 7 = .ok (.iconst 4, 1) := by decide +kernel
theorem dX10_sure_8 : decode cX10_sure 8 = .ok (.if_icmp .gt 39, 3) := by decide +kernel
theorem dX10_sure_11 : decode cX10_sure 11 = .ok (.aload_n 0, 1) := by decide +kernel
theorem dX10_sure_12 : decode cX10_sure 12 = .ok (.iload_n 3, 1) := by decide +kernel
theorem dX10_sure_13 : decode cX10_sure 13 = .ok (.invokevirtual 194, 3) := by decide +kernel
theorem dX10_sure_16 : decode cX10_sure 16 = .ok (.ifCond .le 7, 3) := by decide +kernel
theorem dX10_sure_19 : decode cX10_sure 19 = .ok (.iload_n 3, 1) := by decide +kernel
theorem dX10_sure_20 : decode cX10_sure 20 = .ok (.goto 4, 3) := by decide +kernel
theorem dX10_sure_23 : decode cX10_sure 23 = .ok (.iload_n 1, 1) := by decide +kernel
theorem dX10_sure_24 : decode cX10_sure 24 = .ok (.istore_n 1, 1) := by decide +kernel
theorem dX10_sure_25 : decode cX10_sure 25 = .ok (.iload_n 2, 1) := by decide +kernel
theorem dX10_sure_26 : decode cX10_sure 26 = .ok (.aload_n 0, 1) := by decide +kernel
theorem dX10_sure_27 : decode cX10_sure 27 = .ok (.iload_n 3, 1) := by decide +kernel
theorem dX10_sure_28 : decode cX10_sure 28 = .ok (.invokevirtual 194, 3) := by decide +kernel
theorem dX10_sure_31 : decode cX10_sure 31 = .ok (.ifCond .le 7, 3) := by decide +kernel
theorem dX10_sure_34 : decode cX10_sure 34 = .ok (.iconst 1, 1) := by decide +kernel
theorem dX10_sure_35 : decode cX10_sure 35 = .ok (.goto 4, 3) := by decide +kernel
theorem dX10_sure_38 : decode cX10_sure 38 = .ok (.iconst 0, 1) := by decide +kernel
theorem dX10_sure_39 : decode cX10_sure 39 = .ok (.iadd, 1) := by decide +kernel
theorem dX10_sure_40 : decode cX10_sure 40 = .ok (.istore_n 2, 1) := by decide +kernel
theorem dX10_sure_41 : decode cX10_sure 41 = .ok (.iinc 3 1, 3) := by decide +kernel
theorem dX10_sure_44 : decode cX10_sure 44 = .ok (.goto (-38), 3) := by decide +kernel
theorem dX10_sure_47 : decode cX10_sure 47 = .ok (.iload_n 2, 1) := by decide +kernel
theorem dX10_sure_48 : decode cX10_sure 48 = .ok (.iconst 1, 1) := by decide +kernel
theorem dX10_sure_49 : decode cX10_sure 49 = .ok (.if_icmp .ne 7, 3) := by decide +kernel
theorem dX10_sure_52 : decode cX10_sure 52 = .ok (.iload_n 1, 1) := by decide +kernel
theorem dX10_sure_53 : decode cX10_sure 53 = .ok (.goto 4, 3) := by decide +kernel
theorem dX10_sure_56 : decode cX10_sure 56 = .ok (.iconst (-1), 1) := by decide +kernel
theorem dX10_sure_57 : decode cX10_sure 57 = .ok (.ireturn, 1) := by decide +kernel
theorem dX10_law_0 : decode cX10_law 0 = .ok (.iconst 0, 1) := by decide +kernel
theorem dX10_law_1 : decode cX10_law 1 = .ok (.istore_n 1, 1) := by decide +kernel
theorem dX10_law_2 : decode cX10_law 2 = .ok (.iconst 1, 1) := by decide +kernel
theorem dX10_law_3 : decode cX10_law 3 = .ok (.istore_n 2, 1) := by decide +kernel
theorem dX10_law_4 : decode cX10_law 4 = .ok (.iload_n 2, 1) := by decide +kernel
theorem dX10_law_5 : decode cX10_law 5 = .ok (.aload_n 0, 1) := by decide +kernel
theorem dX10_law_6 : decode cX10_law 6 = .ok (.getfield 22, 3) := by decide +kernel
theorem dX10_law_9 : decode cX10_law 9 = .ok (.iconst 0, 1) := by decide +kernel
theorem dX10_law_10 : decode cX10_law 10 = .ok (.iaload, 1) := by decide +kernel
theorem dX10_law_11 : decode cX10_law 11 = .ok (.if_icmp .ge 35, 3) := by decide +kernel
theorem dX10_law_14 : decode cX10_law 14 = .ok (.iload_n 1, 1) := by decide +kernel
theorem dX10_law_15 : decode cX10_law 15 = .ok (.iconst 1, 1) := by decide +kernel
theorem dX10_law_16 : decode cX10_law 16 = .ok (.iconst 5, 1) := by decide +kernel
theorem dX10_law_17 : decode cX10_law 17 = .ok (.aload_n 0, 1) := by decide +kernel
theorem dX10_law_18 : decode cX10_law 18 = .ok (.getfield 22, 3) := by decide +kernel
theorem dX10_law_21 : decode cX10_law 21 = .ok (.iconst 1, 1) := by decide +kernel
theorem dX10_law_22 : decode cX10_law 22 = .ok (.iload_n 2, 1) := by decide +kernel
theorem dX10_law_23 : decode cX10_law 23 = .ok (.iadd, 1) := by decide +kernel
theorem dX10_law_24 : decode cX10_law 24 = .ok (.iconst 1, 1) := by decide +kernel
theorem dX10_law_25 : decode cX10_law 25 = .ok (.isub, 1) := by decide +kernel
theorem dX10_law_26 : decode cX10_law 26 = .ok (.iaload, 1) := by decide +kernel
theorem dX10_law_27 : decode cX10_law 27 = .ok (.imul, 1) := by decide +kernel
theorem dX10_law_28 : decode cX10_law 28 = .ok (.aload_n 0, 1) := by decide +kernel
theorem dX10_law_29 : decode cX10_law 29 = .ok (.getfield 22, 3) := by decide +kernel
theorem dX10_law_32 : decode cX10_law 32 = .ok (.iconst 1, 1) := by decide +kernel
theorem dX10_law_33 : decode cX10_law 33 = .ok (.iload_n 2, 1) := by decide +kernel
theorem dX10_law_34 : decode cX10_law 34 = .ok (.iadd, 1) := by decide +kernel
theorem dX10_law_35 : decode cX10_law 35 = .ok (.iaload, 1) := by decide +kernel
theorem dX10_law_36 : decode cX10_law 36 = .ok (.iadd, 1) := by decide +kernel
theorem dX10_law_37 : decode cX10_law 37 = .ok (.ishl, 1) := by decide +kernel
theorem dX10_law_38 : decode cX10_law 38 = .ok (.ior, 1) := by decide +kernel
theorem dX10_law_39 : decode cX10_law 39 = .ok (.istore_n 1, 1) := by decide +kernel
theorem dX10_law_40 : decode cX10_law 40 = .ok (.iinc 2 1, 3) := by decide +kernel
theorem dX10_law_43 : decode cX10_law 43 = .ok (.goto (-39), 3) := by decide +kernel
theorem dX10_law_46 : decode cX10_law 46 = .ok (.iload_n 1, 1) := by decide +kernel
theorem dX10_law_47 : decode cX10_law 47 = .ok (.ireturn, 1) := by decide +kernel
theorem dX10_envyBy_0 : decode cX10_envyBy 0 = .ok (.iconst (-1), 1) := by decide +kernel
theorem dX10_envyBy_1 : decode cX10_envyBy 1 = .ok (.istore_n 3, 1) := by decide +kernel
theorem dX10_envyBy_2 : decode cX10_envyBy 2 = .ok (.ldc 197, 2) := by decide +kernel
theorem dX10_envyBy_4 : decode cX10_envyBy 4 = .ok (.istore 4, 2) := by decide +kernel
theorem dX10_envyBy_6 : decode cX10_envyBy 6 = .ok (.iconst 0, 1) := by decide +kernel
theorem dX10_envyBy_7 : decode cX10_envyBy 7 = .ok (.istore 5, 2) := by decide +kernel
theorem dX10_envyBy_9 : decode cX10_envyBy 9 = .ok (.iload 5, 2) := by decide +kernel
theorem dX10_envyBy_11 : decode cX10_envyBy 11 = .ok (.aload_n 0, 1) := by decide +kernel
theorem dX10_envyBy_12 : decode cX10_envyBy 12 = .ok (.getfield 91, 3) := by decide +kernel
theorem dX10_envyBy_15 : decode cX10_envyBy 15 = .ok (.if_icmp .ge 54, 3) := by decide +kernel
theorem dX10_envyBy_18 : decode cX10_envyBy 18 = .ok (.aload_n 1, 1) := by decide +kernel
theorem dX10_envyBy_19 : decode cX10_envyBy 19 = .ok (.iload_n 2, 1) := by decide +kernel
theorem dX10_envyBy_20 : decode cX10_envyBy 20 = .ok (.iload 5, 2) := by decide +kernel
theorem dX10_envyBy_22 : decode cX10_envyBy 22 = .ok (.iadd, 1) := by decide +kernel
theorem dX10_envyBy_23 : decode cX10_envyBy 23 = .ok (.iaload, 1) := by decide +kernel
theorem dX10_envyBy_24 : decode cX10_envyBy 24 = .ok (.iload_n 3, 1) := by decide +kernel
theorem dX10_envyBy_25 : decode cX10_envyBy 25 = .ok (.if_icmp .le 12, 3) := by decide +kernel
theorem dX10_envyBy_28 : decode cX10_envyBy 28 = .ok (.aload_n 1, 1) := by decide +kernel
theorem dX10_envyBy_29 : decode cX10_envyBy 29 = .ok (.iload_n 2, 1) := by decide +kernel
theorem dX10_envyBy_30 : decode cX10_envyBy 30 = .ok (.iload 5, 2) := by decide +kernel
theorem dX10_envyBy_32 : decode cX10_envyBy 32 = .ok (.iadd, 1) := by decide +kernel
theorem dX10_envyBy_33 : decode cX10_envyBy 33 = .ok (.iaload, 1) := by decide +kernel
theorem dX10_envyBy_34 : decode cX10_envyBy 34 = .ok (.goto 4, 3) := by decide +kernel
theorem dX10_envyBy_37 : decode cX10_envyBy 37 = .ok (.iload_n 3, 1) := by decide +kernel
theorem dX10_envyBy_38 : decode cX10_envyBy 38 = .ok (.istore_n 3, 1) := by decide +kernel
theorem dX10_envyBy_39 : decode cX10_envyBy 39 = .ok (.aload_n 1, 1) := by decide +kernel
theorem dX10_envyBy_40 : decode cX10_envyBy 40 = .ok (.iload_n 2, 1) := by decide +kernel
theorem dX10_envyBy_41 : decode cX10_envyBy 41 = .ok (.iload 5, 2) := by decide +kernel
theorem dX10_envyBy_43 : decode cX10_envyBy 43 = .ok (.iadd, 1) := by decide +kernel
theorem dX10_envyBy_44 : decode cX10_envyBy 44 = .ok (.iaload, 1) := by decide +kernel
theorem dX10_envyBy_45 : decode cX10_envyBy 45 = .ok (.iload 4, 2) := by decide +kernel
theorem dX10_envyBy_47 : decode cX10_envyBy 47 = .ok (.if_icmp .ge 12, 3) := by decide +kernel
theorem dX10_envyBy_50 : decode cX10_envyBy 50 = .ok (.aload_n 1, 1) := by decide +kernel
theorem dX10_envyBy_51 : decode cX10_envyBy 51 = .ok (.iload_n 2, 1) := by decide +kernel
theorem dX10_envyBy_52 : decode cX10_envyBy 52 = .ok (.iload 5, 2) := by decide +kernel
theorem dX10_envyBy_54 : decode cX10_envyBy 54 = .ok (.iadd, 1) := by decide +kernel
theorem dX10_envyBy_55 : decode cX10_envyBy 55 = .ok (.iaload, 1) := by decide +kernel
theorem dX10_envyBy_56 : decode cX10_envyBy 56 = .ok (.goto 5, 3) := by decide +kernel
theorem dX10_envyBy_59 : decode cX10_envyBy 59 = .ok (.iload 4, 2) := by decide +kernel
theorem dX10_envyBy_61 : decode cX10_envyBy 61 = .ok (.istore 4, 2) := by decide +kernel
theorem dX10_envyBy_63 : decode cX10_envyBy 63 = .ok (.iinc 5 1, 3) := by decide +kernel
theorem dX10_envyBy_66 : decode cX10_envyBy 66 = .ok (.goto (-57), 3) := by decide +kernel
theorem dX10_envyBy_69 : decode cX10_envyBy 69 = .ok (.aload_n 0, 1) := by decide +kernel
theorem dX10_envyBy_70 : decode cX10_envyBy 70 = .ok (.getfield 91, 3) := by decide +kernel
theorem dX10_envyBy_73 : decode cX10_envyBy 73 = .ok (.ifCond .ne 7, 3) := by decide +kernel
theorem dX10_envyBy_76 : decode cX10_envyBy 76 = .ok (.iconst 0, 1) := by decide +kernel
theorem dX10_envyBy_77 : decode cX10_envyBy 77 = .ok (.goto 7, 3) := by decide +kernel
theorem dX10_envyBy_80 : decode cX10_envyBy 80 = .ok (.iload_n 3, 1) := by decide +kernel
theorem dX10_envyBy_81 : decode cX10_envyBy 81 = .ok (.iload 4, 2) := by decide +kernel
theorem dX10_envyBy_83 : decode cX10_envyBy 83 = .ok (.isub, 1) := by decide +kernel
theorem dX10_envyBy_84 : decode cX10_envyBy 84 = .ok (.ireturn, 1) := by decide +kernel
theorem dX10_weeps_0 : decode cX10_weeps 0 = .ok (.iconst (-1), 1) := by decide +kernel
theorem dX10_weeps_1 : decode cX10_weeps 1 = .ok (.istore_n 1, 1) := by decide +kernel
theorem dX10_weeps_2 : decode cX10_weeps 2 = .ok (.iconst 0, 1) := by decide +kernel
theorem dX10_weeps_3 : decode cX10_weeps 3 = .ok (.istore_n 2, 1) := by decide +kernel
theorem dX10_weeps_4 : decode cX10_weeps 4 = .ok (.iload_n 2, 1) := by decide +kernel
theorem dX10_weeps_5 : decode cX10_weeps 5 = .ok (.aload_n 0, 1) := by decide +kernel
theorem dX10_weeps_6 : decode cX10_weeps 6 = .ok (.getfield 91, 3) := by decide +kernel
theorem dX10_weeps_9 : decode cX10_weeps 9 = .ok (.if_icmp .ge 40, 3) := by decide +kernel
theorem dX10_weeps_12 : decode cX10_weeps 12 = .ok (.iload_n 1, 1) := by decide +kernel
theorem dX10_weeps_13 : decode cX10_weeps 13 = .ok (.ifCond .lt 24, 3) := by decide +kernel
theorem dX10_weeps_16 : decode cX10_weeps 16 = .ok (.aload_n 0, 1) := by decide +kernel
theorem dX10_weeps_17 : decode cX10_weeps 17 = .ok (.getfield 22, 3) := by decide +kernel
theorem dX10_weeps_20 : decode cX10_weeps 20 = .ok (.bipush 34, 2) := by decide +kernel
theorem dX10_weeps_22 : decode cX10_weeps 22 = .ok (.iload_n 2, 1) := by decide +kernel
theorem dX10_weeps_23 : decode cX10_weeps 23 = .ok (.iadd, 1) := by decide +kernel
theorem dX10_weeps_24 : decode cX10_weeps 24 = .ok (.iaload, 1) := by decide +kernel
theorem dX10_weeps_25 : decode cX10_weeps 25 = .ok (.aload_n 0, 1) := by decide +kernel
theorem dX10_weeps_26 : decode cX10_weeps 26 = .ok (.getfield 22, 3) := by decide +kernel
theorem dX10_weeps_29 : decode cX10_weeps 29 = .ok (.bipush 34, 2) := by decide +kernel
theorem dX10_weeps_31 : decode cX10_weeps 31 = .ok (.iload_n 1, 1) := by decide +kernel
theorem dX10_weeps_32 : decode cX10_weeps 32 = .ok (.iadd, 1) := by decide +kernel
theorem dX10_weeps_33 : decode cX10_weeps 33 = .ok (.iaload, 1) := by decide +kernel
theorem dX10_weeps_34 : decode cX10_weeps 34 = .ok (.if_icmp .le 7, 3) := by decide +kernel
theorem dX10_weeps_37 : decode cX10_weeps 37 = .ok (.iload_n 2, 1) := by decide +kernel
theorem dX10_weeps_38 : decode cX10_weeps 38 = .ok (.goto 4, 3) := by decide +kernel
theorem dX10_weeps_41 : decode cX10_weeps 41 = .ok (.iload_n 1, 1) := by decide +kernel
theorem dX10_weeps_42 : decode cX10_weeps 42 = .ok (.istore_n 1, 1) := by decide +kernel
theorem dX10_weeps_43 : decode cX10_weeps 43 = .ok (.iinc 2 1, 3) := by decide +kernel
theorem dX10_weeps_46 : decode cX10_weeps 46 = .ok (.goto (-42), 3) := by decide +kernel
theorem dX10_weeps_49 : decode cX10_weeps 49 = .ok (.iload_n 1, 1) := by decide +kernel
theorem dX10_weeps_50 : decode cX10_weeps 50 = .ok (.ireturn, 1) := by decide +kernel
theorem dX10_dryIn_0 : decode cX10_dryIn 0 = .ok (.iconst 0, 1) := by decide +kernel
theorem dX10_dryIn_1 : decode cX10_dryIn 1 = .ok (.istore_n 1, 1) := by decide +kernel
theorem dX10_dryIn_2 : decode cX10_dryIn 2 = .ok (.iconst 0, 1) := by decide +kernel
theorem dX10_dryIn_3 : decode cX10_dryIn 3 = .ok (.istore_n 2, 1) := by decide +kernel
theorem dX10_dryIn_4 : decode cX10_dryIn 4 = .ok (.iload_n 2, 1) := by decide +kernel
theorem dX10_dryIn_5 : decode cX10_dryIn 5 = .ok (.aload_n 0, 1) := by decide +kernel
theorem dX10_dryIn_6 : decode cX10_dryIn 6 = .ok (.getfield 91, 3) := by decide +kernel
theorem dX10_dryIn_9 : decode cX10_dryIn 9 = .ok (.if_icmp .ge 46, 3) := by decide +kernel
theorem dX10_dryIn_12 : decode cX10_dryIn 12 = .ok (.aload_n 0, 1) := by decide +kernel
theorem dX10_dryIn_13 : decode cX10_dryIn 13 = .ok (.getfield 22, 3) := by decide +kernel
theorem dX10_dryIn_16 : decode cX10_dryIn 16 = .ok (.bipush 34, 2) := by decide +kernel
theorem dX10_dryIn_18 : decode cX10_dryIn 18 = .ok (.iload_n 2, 1) := by decide +kernel
theorem dX10_dryIn_19 : decode cX10_dryIn 19 = .ok (.iadd, 1) := by decide +kernel
theorem dX10_dryIn_20 : decode cX10_dryIn 20 = .ok (.iaload, 1) := by decide +kernel
theorem dX10_dryIn_21 : decode cX10_dryIn 21 = .ok (.aload_n 0, 1) := by decide +kernel
theorem dX10_dryIn_22 : decode cX10_dryIn 22 = .ok (.getfield 13, 3) := by decide +kernel
theorem dX10_dryIn_25 : decode cX10_dryIn 25 = .ok (.iload_n 2, 1) := by decide +kernel
theorem dX10_dryIn_26 : decode cX10_dryIn 26 = .ok (.iaload, 1) := by decide +kernel
theorem dX10_dryIn_27 : decode cX10_dryIn 27 = .ok (.iadd, 1) := by decide +kernel
theorem dX10_dryIn_28 : decode cX10_dryIn 28 = .ok (.iconst 1, 1) := by decide +kernel
