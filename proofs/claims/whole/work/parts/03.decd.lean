theorem dX9_init_0 : decode cX9_init 0 = .ok (.aload_n 0, 1) := by decide +kernel
theorem dX9_init_1 : decode cX9_init 1 = .ok (.invokespecial 1, 3) := by decide +kernel
theorem dX9_init_4 : decode cX9_init 4 = .ok (.aload_n 0, 1) := by decide +kernel
theorem dX9_init_5 : decode cX9_init 5 = .ok (.new 7, 3) := by decide +kernel
theorem dX9_init_8 : decode cX9_init 8 = .ok (.dup, 1) := by decide +kernel
theorem dX9_init_9 : decode cX9_init 9 = .ok (.invokespecial 9, 3) := by decide +kernel
theorem dX9_init_12 : decode cX9_init 12 = .ok (.putfield 10, 3) := by decide +kernel
theorem dX9_init_15 : decode cX9_init 15 = .ok (.aload_n 0, 1) := by decide +kernel
theorem dX9_init_16 : decode cX9_init 16 = .ok (.new 16, 3) := by decide +kernel
theorem dX9_init_19 : decode cX9_init 19 = .ok (.dup, 1) := by decide +kernel
theorem dX9_init_20 : decode cX9_init 20 = .ok (.invokespecial 18, 3) := by decide +kernel
theorem dX9_init_23 : decode cX9_init 23 = .ok (.putfield 19, 3) := by decide +kernel
theorem dX9_init_26 : decode cX9_init 26 = .ok (.aload_n 0, 1) := by decide +kernel
theorem dX9_init_27 : decode cX9_init 27 = .ok (.new 16, 3) := by decide +kernel
theorem dX9_init_30 : decode cX9_init 30 = .ok (.dup, 1) := by decide +kernel
theorem dX9_init_31 : decode cX9_init 31 = .ok (.invokespecial 18, 3) := by decide +kernel
theorem dX9_init_34 : decode cX9_init 34 = .ok (.putfield 23, 3) := by decide +kernel
theorem dX9_init_37 : decode cX9_init 37 = .ok (.aload_n 0, 1) := by decide +kernel
theorem dX9_init_38 : decode cX9_init 38 = .ok (.new 26, 3) := by decide +kernel
theorem dX9_init_41 : decode cX9_init 41 = .ok (.dup, 1) := by decide +kernel
theorem dX9_init_42 : decode cX9_init 42 = .ok (.invokespecial 28, 3) := by decide +kernel
theorem dX9_init_45 : decode cX9_init 45 = .ok (.putfield 29, 3) := by decide +kernel
theorem dX9_init_48 : decode cX9_init 48 = .ok (.aload_n 0, 1) := by decide +kernel
theorem dX9_init_49 : decode cX9_init 49 = .ok (.new 33, 3) := by decide +kernel
theorem dX9_init_52 : decode cX9_init 52 = .ok (.dup, 1) := by decide +kernel
theorem dX9_init_53 : decode cX9_init 53 = .ok (.invokespecial 35, 3) := by decide +kernel
theorem dX9_init_56 : decode cX9_init 56 = .ok (.putfield 36, 3) := by decide +kernel
theorem dX9_init_59 : decode cX9_init 59 = .ok (.aload_n 0, 1) := by decide +kernel
theorem dX9_init_60 : decode cX9_init 60 = .ok (.iconst 2, 1) := by decide +kernel
theorem dX9_init_61 : decode cX9_init 61 = .ok (.anewarray 40, 3) := by decide +kernel
theorem dX9_init_64 : decode cX9_init 64 = .ok (.putfield 42, 3) := by decide +kernel
theorem dX9_init_67 : decode cX9_init 67 = .ok (.iconst 0, 1) := by decide +kernel
theorem dX9_init_68 : decode cX9_init 68 = .ok (.istore_n 1, 1) := by decide +kernel
theorem dX9_init_69 : decode cX9_init 69 = .ok (.iload_n 1, 1) := by decide +kernel
theorem dX9_init_70 : decode cX9_init 70 = .ok (.iconst 2, 1) := by decide +kernel
theorem dX9_init_71 : decode cX9_init 71 = .ok (.if_icmp .ge 22, 3) := by decide +kernel
theorem dX9_init_74 : decode cX9_init 74 = .ok (.aload_n 0, 1) := by decide +kernel
theorem dX9_init_75 : decode cX9_init 75 = .ok (.getfield 42, 3) := by decide +kernel
theorem dX9_init_78 : decode cX9_init 78 = .ok (.iload_n 1, 1) := by decide +kernel
theorem dX9_init_79 : decode cX9_init 79 = .ok (.new 40, 3) := by decide +kernel
theorem dX9_init_82 : decode cX9_init 82 = .ok (.dup, 1) := by decide +kernel
theorem dX9_init_83 : decode cX9_init 83 = .ok (.invokespecial 46, 3) := by decide +kernel
theorem dX9_init_86 : decode cX9_init 86 = .ok (.aastore, 1) := by decide +kernel
theorem dX9_init_87 : decode cX9_init 87 = .ok (.iinc 1 1, 3) := by decide +kernel
theorem dX9_init_90 : decode cX9_init 90 = .ok (.goto (-21), 3) := by decide +kernel
theorem dX9_init_93 : decode cX9_init 93 = .ok (.aload_n 0, 1) := by decide +kernel
theorem dX9_init_94 : decode cX9_init 94 = .ok (.new 47, 3) := by decide +kernel
theorem dX9_init_97 : decode cX9_init 97 = .ok (.dup, 1) := by decide +kernel
theorem dX9_init_98 : decode cX9_init 98 = .ok (.invokespecial 49, 3) := by decide +kernel
theorem dX9_init_101 : decode cX9_init 101 = .ok (.putfield 50, 3) := by decide +kernel
theorem dX9_init_104 : decode cX9_init 104 = .ok (.aload_n 0, 1) := by decide +kernel
theorem dX9_init_105 : decode cX9_init 105 = .ok (.new 54, 3) := by decide +kernel
theorem dX9_init_108 : decode cX9_init 108 = .ok (.dup, 1) := by decide +kernel
theorem dX9_init_109 : decode cX9_init 109 = .ok (.invokespecial 56, 3) := by decide +kernel
theorem dX9_init_112 : decode cX9_init 112 = .ok (.putfield 57, 3) := by decide +kernel
theorem dX9_init_115 : decode cX9_init 115 = .ok (.aload_n 0, 1) := by decide +kernel
theorem dX9_init_116 : decode cX9_init 116 = .ok (.new 61, 3) := by decide +kernel
theorem dX9_init_119 : decode cX9_init 119 = .ok (.dup, 1) := by decide +kernel
theorem dX9_init_120 : decode cX9_init 120 = .ok (.invokespecial 63, 3) := by decide +kernel
theorem dX9_init_123 : decode cX9_init 123 = .ok (.putfield 64, 3) := by decide +kernel
theorem dX9_init_126 : decode cX9_init 126 = .ok (.aload_n 0, 1) := by decide +kernel
theorem dX9_init_127 : decode cX9_init 127 = .ok (.new 68, 3) := by decide +kernel
theorem dX9_init_130 : decode cX9_init 130 = .ok (.dup, 1) := by decide +kernel
theorem dX9_init_131 : decode cX9_init 131 = .ok (.invokespecial 70, 3) := by decide +kernel
theorem dX9_init_134 : decode cX9_init 134 = .ok (.putfield 71, 3) := by decide +kernel
theorem dX9_init_137 : decode cX9_init 137 = .ok (.return_, 1) := by decide +kernel
theorem dX9_feed_0 : decode cX9_feed 0 = .ok (.iload_n 1, 1) := by decide +kernel
theorem dX9_feed_1 : decode cX9_feed 1 = .ok (.ifCond .lt 10, 3) := by decide +kernel
theorem dX9_feed_4 : decode cX9_feed 4 = .ok (.iload_n 1, 1) := by decide +kernel
theorem dX9_feed_5 : decode cX9_feed 5 = .ok (.sipush 255, 3) := by decide +kernel
theorem dX9_feed_8 : decode cX9_feed 8 = .ok (.if_icmp .le 6, 3) := by decide +kernel
theorem dX9_feed_11 : decode cX9_feed 11 = .ok (.ldc 75, 2) := by decide +kernel
theorem dX9_feed_13 : decode cX9_feed 13 = .ok (.ireturn, 1) := by decide +kernel
theorem dX9_feed_14 : decode cX9_feed 14 = .ok (.aload_n 0, 1) := by decide +kernel
theorem dX9_feed_15 : decode cX9_feed 15 = .ok (.getfield 10, 3) := by decide +kernel
theorem dX9_feed_18 : decode cX9_feed 18 = .ok (.iload_n 1, 1) := by decide +kernel
theorem dX9_feed_19 : decode cX9_feed 19 = .ok (.invokevirtual 76, 3) := by decide +kernel
theorem dX9_feed_22 : decode cX9_feed 22 = .ok (.ireturn, 1) := by decide +kernel
theorem dX9_probate_0 : decode cX9_probate 0 = .ok (.aload_n 0, 1) := by decide +kernel
theorem dX9_probate_1 : decode cX9_probate 1 = .ok (.getfield 10, 3) := by decide +kernel
theorem dX9_probate_4 : decode cX9_probate 4 = .ok (.aload_n 0, 1) := by decide +kernel
theorem dX9_probate_5 : decode cX9_probate 5 = .ok (.getfield 23, 3) := by decide +kernel
theorem dX9_probate_8 : decode cX9_probate 8 = .ok (.invokevirtual 80, 3) := by decide +kernel
theorem dX9_probate_11 : decode cX9_probate 11 = .ok (.aload_n 0, 1) := by decide +kernel
theorem dX9_probate_12 : decode cX9_probate 12 = .ok (.getfield 10, 3) := by decide +kernel
theorem dX9_probate_15 : decode cX9_probate 15 = .ok (.getfield 84, 3) := by decide +kernel
theorem dX9_probate_18 : decode cX9_probate 18 = .ok (.ifCond .eq 14, 3) := by decide +kernel
theorem dX9_probate_21 : decode cX9_probate 21 = .ok (.bipush (-10), 2) := by decide +kernel
theorem dX9_probate_23 : decode cX9_probate 23 = .ok (.aload_n 0, 1) := by decide +kernel
theorem dX9_probate_24 : decode cX9_probate 24 = .ok (.getfield 10, 3) := by decide +kernel
theorem dX9_probate_27 : decode cX9_probate 27 = .ok (.getfield 84, 3) := by decide +kernel
theorem dX9_probate_30 : decode cX9_probate 30 = .ok (.isub, 1) := by decide +kernel
theorem dX9_probate_31 : decode cX9_probate 31 = .ok (.ireturn, 1) := by decide +kernel
theorem dX9_probate_32 : decode cX9_probate 32 = .ok (.aload_n 0, 1) := by decide +kernel
theorem dX9_probate_33 : decode cX9_probate 33 = .ok (.getfield 19, 3) := by decide +kernel
theorem dX9_probate_36 : decode cX9_probate 36 = .ok (.astore_n 1, 1) := by decide +kernel
theorem dX9_probate_37 : decode cX9_probate 37 = .ok (.aload_n 0, 1) := by decide +kernel
theorem dX9_probate_38 : decode cX9_probate 38 = .ok (.aload_n 0, 1) := by decide +kernel
theorem dX9_probate_39 : decode cX9_probate 39 = .ok (.getfield 23, 3) := by decide +kernel
theorem dX9_probate_42 : decode cX9_probate 42 = .ok (.putfield 19, 3) := by decide +kernel
theorem dX9_probate_45 : decode cX9_probate 45 = .ok (.aload_n 0, 1) := by decide +kernel
theorem dX9_probate_46 : decode cX9_probate 46 = .ok (.aload_n 1, 1) := by decide +kernel
theorem dX9_probate_47 : decode cX9_probate 47 = .ok (.putfield 23, 3) := by decide +kernel
theorem dX9_probate_50 : decode cX9_probate 50 = .ok (.aload_n 0, 1) := by decide +kernel
theorem dX9_probate_51 : decode cX9_probate 51 = .ok (.getfield 29, 3) := by decide +kernel
theorem dX9_probate_54 : decode cX9_probate 54 = .ok (.aload_n 0, 1) := by decide +kernel
theorem dX9_probate_55 : decode cX9_probate 55 = .ok (.getfield 19, 3) := by decide +kernel
theorem dX9_probate_58 : decode cX9_probate 58 = .ok (.invokevirtual 88, 3) := by decide +kernel
theorem dX9_probate_61 : decode cX9_probate 61 = .ok (.aload_n 0, 1) := by decide +kernel
theorem dX9_probate_62 : decode cX9_probate 62 = .ok (.getfield 50, 3) := by decide +kernel
theorem dX9_probate_65 : decode cX9_probate 65 = .ok (.iconst 0, 1) := by decide +kernel
theorem dX9_probate_66 : decode cX9_probate 66 = .ok (.putfield 91, 3) := by decide +kernel
theorem dX9_probate_69 : decode cX9_probate 69 = .ok (.aload_n 0, 1) := by decide +kernel
theorem dX9_probate_70 : decode cX9_probate 70 = .ok (.getfield 57, 3) := by decide +kernel
theorem dX9_probate_73 : decode cX9_probate 73 = .ok (.iconst 0, 1) := by decide +kernel
theorem dX9_probate_74 : decode cX9_probate 74 = .ok (.putfield 94, 3) := by decide +kernel
theorem dX9_probate_77 : decode cX9_probate 77 = .ok (.aload_n 0, 1) := by decide +kernel
theorem dX9_probate_78 : decode cX9_probate 78 = .ok (.getfield 36, 3) := by decide +kernel
theorem dX9_probate_81 : decode cX9_probate 81 = .ok (.invokevirtual 95, 3) := by decide +kernel
theorem dX9_probate_84 : decode cX9_probate 84 = .ok (.iconst 0, 1) := by decide +kernel
theorem dX9_probate_85 : decode cX9_probate 85 = .ok (.istore_n 2, 1) := by decide +kernel
theorem dX9_probate_86 : decode cX9_probate 86 = .ok (.iload_n 2, 1) := by decide +kernel
theorem dX9_probate_87 : decode cX9_probate 87 = .ok (.iconst 2, 1) := by decide +kernel
theorem dX9_probate_88 : decode cX9_probate 88 = .ok (.if_icmp .ge 19, 3) := by decide +kernel
theorem dX9_probate_91 : decode cX9_probate 91 = .ok (.aload_n 0, 1) := by decide +kernel
theorem dX9_probate_92 : decode cX9_probate 92 = .ok (.getfield 42, 3) := by decide +kernel
theorem dX9_probate_95 : decode cX9_probate 95 = .ok (.iload_n 2, 1) := by decide +kernel
theorem dX9_probate_96 : decode cX9_probate 96 = .ok (.aaload, 1) := by decide +kernel
theorem dX9_probate_97 : decode cX9_probate 97 = .ok (.iconst 0, 1) := by decide +kernel
theorem dX9_probate_98 : decode cX9_probate 98 = .ok (.putfield 98, 3) := by decide +kernel
theorem dX9_probate_101 : decode cX9_probate 101 = .ok (.iinc 2 1, 3) := by decide +kernel
theorem dX9_probate_104 : decode cX9_probate 104 = .ok (.goto (-18), 3) := by decide +kernel
theorem dX9_probate_107 : decode cX9_probate 107 = .ok (.aload_n 0, 1) := by decide +kernel
theorem dX9_probate_108 : decode cX9_probate 108 = .ok (.getfield 29, 3) := by decide +kernel
theorem dX9_probate_111 : decode cX9_probate 111 = .ok (.getfield 102, 3) := by decide +kernel
theorem dX9_probate_114 : decode cX9_probate 114 = .ok (.ireturn, 1) := by decide +kernel
theorem dX9_fault_0 : decode cX9_fault 0 = .ok (.aload_n 0, 1) := by decide +kernel
theorem dX9_fault_1 : decode cX9_fault 1 = .ok (.getfield 10, 3) := by decide +kernel
theorem dX9_fault_4 : decode cX9_fault 4 = .ok (.getfield 105, 3) := by decide +kernel
theorem dX9_fault_7 : decode cX9_fault 7 = .ok (.ireturn, 1) := by decide +kernel
theorem dX9_told_0 : decode cX9_told 0 = .ok (.iload_n 1, 1) := by decide +kernel
theorem dX9_told_1 : decode cX9_told 1 = .ok (.tableswitch 314 0 19 #[95, 111, 119, 127, 135, 143, 151, 167, 189, 197, 205, 217, 229, 237, 255, 270, 282, 290, 298, 306], 95) := by decide +kernel
theorem dX9_told_96 : decode cX9_told 96 = .ok (.aload_n 0, 1) := by decide +kernel
theorem dX9_told_97 : decode cX9_told 97 = .ok (.getfield 19, 3) := by decide +kernel
theorem dX9_told_100 : decode cX9_told 100 = .ok (.getfield 108, 3) := by decide +kernel
theorem dX9_told_103 : decode cX9_told 103 = .ok (.ifCond .eq 7, 3) := by decide +kernel
theorem dX9_told_106 : decode cX9_told 106 = .ok (.iconst 1, 1) := by decide +kernel
theorem dX9_told_107 : decode cX9_told 107 = .ok (.goto 4, 3) := by decide +kernel
theorem dX9_told_110 : decode cX9_told 110 = .ok (.iconst 0, 1) := by decide +kernel
theorem dX9_told_111 : decode cX9_told 111 = .ok (.ireturn, 1) := by decide +kernel
theorem dX9_told_112 : decode cX9_told 112 = .ok (.aload_n 0, 1) := by decide +kernel
theorem dX9_told_113 : decode cX9_told 113 = .ok (.getfield 29, 3) := by decide +kernel
theorem dX9_told_116 : decode cX9_told 116 = .ok (.getfield 102, 3) := by decide +kernel
theorem dX9_told_119 : decode cX9_told 119 = .ok (.ireturn, 1) := by decide +kernel
theorem dX9_told_120 : decode cX9_told 120 = .ok (.aload_n 0, 1) := by decide +kernel
theorem dX9_told_121 : decode cX9_told 121 = .ok (.getfield 19, 3) := by decide +kernel
theorem dX9_told_124 : decode cX9_told 124 = .ok (.getfield 111, 3) := by decide +kernel
theorem dX9_told_127 : decode cX9_told 127 = .ok (.ireturn, 1) := by decide +kernel
theorem dX9_told_128 : decode cX9_told 128 = .ok (.aload_n 0, 1) := by decide +kernel
theorem dX9_told_129 : decode cX9_told 129 = .ok (.getfield 19, 3) := by decide +kernel
theorem dX9_told_132 : decode cX9_told 132 = .ok (.getfield 114, 3) := by decide +kernel
theorem dX9_told_135 : decode cX9_told 135 = .ok (.ireturn, 1) := by decide +kernel
theorem dX9_told_136 : decode cX9_told 136 = .ok (.aload_n 0, 1) := by decide +kernel
theorem dX9_told_137 : decode cX9_told 137 = .ok (.getfield 10, 3) := by decide +kernel
theorem dX9_told_140 : decode cX9_told 140 = .ok (.getfield 117, 3) := by decide +kernel
theorem dX9_told_143 : decode cX9_told 143 = .ok (.ireturn, 1) := by decide +kernel
theorem dX9_told_144 : decode cX9_told 144 = .ok (.aload_n 0, 1) := by decide +kernel
theorem dX9_told_145 : decode cX9_told 145 = .ok (.getfield 29, 3) := by decide +kernel
theorem dX9_told_148 : decode cX9_told 148 = .ok (.getfield 120, 3) := by decide +kernel
theorem dX9_told_151 : decode cX9_told 151 = .ok (.ireturn, 1) := by decide +kernel
theorem dX9_told_152 : decode cX9_told 152 = .ok (.aload_n 0, 1) := by decide +kernel
theorem dX9_told_153 : decode cX9_told 153 = .ok (.getfield 29, 3) := by decide +kernel
theorem dX9_told_156 : decode cX9_told 156 = .ok (.getfield 123, 3) := by decide +kernel
theorem dX9_told_159 : decode cX9_told 159 = .ok (.ifCond .eq 7, 3) := by decide +kernel
theorem dX9_told_162 : decode cX9_told 162 = .ok (.iconst 1, 1) := by decide +kernel
theorem dX9_told_163 : decode cX9_told 163 = .ok (.goto 4, 3) := by decide +kernel
theorem dX9_told_166 : decode cX9_told 166 = .ok (.iconst 0, 1) := by decide +kernel
theorem dX9_told_167 : decode cX9_told 167 = .ok (.ireturn, 1) := by decide +kernel
theorem dX9_told_168 : decode cX9_told 168 = .ok (.aload_n 0, 1) := by decide +kernel
theorem dX9_told_169 : decode cX9_told 169 = .ok (.getfield 29, 3) := by decide +kernel
theorem dX9_told_172 : decode cX9_told 172 = .ok (.getfield 126, 3) := by decide +kernel
theorem dX9_told_175 : decode cX9_told 175 = .ok (.ifCond .eq 13, 3) := by decide +kernel
theorem dX9_told_178 : decode cX9_told 178 = .ok (.aload_n 0, 1) := by decide +kernel
theorem dX9_told_179 : decode cX9_told 179 = .ok (.getfield 19, 3) := by decide +kernel
theorem dX9_told_182 : decode cX9_told 182 = .ok (.getfield 129, 3) := by decide +kernel
theorem dX9_told_185 : decode cX9_told 185 = .ok (.goto 4, 3) := by decide +kernel
theorem dX9_told_188 : decode cX9_told 188 = .ok (.iconst 0, 1) := by decide +kernel
theorem dX9_told_189 : decode cX9_told 189 = .ok (.ireturn, 1) := by decide +kernel
theorem dX9_told_190 : decode cX9_told 190 = .ok (.aload_n 0, 1) := by decide +kernel
theorem dX9_told_191 : decode cX9_told 191 = .ok (.getfield 29, 3) := by decide +kernel
theorem dX9_told_194 : decode cX9_told 194 = .ok (.invokevirtual 132, 3) := by decide +kernel
theorem dX9_told_197 : decode cX9_told 197 = .ok (.ireturn, 1) := by decide +kernel
theorem dX9_told_198 : decode cX9_told 198 = .ok (.aload_n 0, 1) := by decide +kernel
theorem dX9_told_199 : decode cX9_told 199 = .ok (.getfield 29, 3) := by decide +kernel
theorem dX9_told_202 : decode cX9_told 202 = .ok (.invokevirtual 136, 3) := by decide +kernel
theorem dX9_told_205 : decode cX9_told 205 = .ok (.ireturn, 1) := by decide +kernel
theorem dX9_told_206 : decode cX9_told 206 = .ok (.aload_n 0, 1) := by decide +kernel
theorem dX9_told_207 : decode cX9_told 207 = .ok (.getfield 19, 3) := by decide +kernel
theorem dX9_told_210 : decode cX9_told 210 = .ok (.aload_n 0, 1) := by decide +kernel
theorem dX9_told_211 : decode cX9_told 211 = .ok (.getfield 29, 3) := by decide +kernel
theorem dX9_told_214 : decode cX9_told 214 = .ok (.invokevirtual 139, 3) := by decide +kernel
theorem dX9_told_217 : decode cX9_told 217 = .ok (.ireturn, 1) := by decide +kernel
theorem dX9_told_218 : decode cX9_told 218 = .ok (.aload_n 0, 1) := by decide +kernel
theorem dX9_told_219 : decode cX9_told 219 = .ok (.getfield 19, 3) := by decide +kernel
theorem dX9_told_222 : decode cX9_told 222 = .ok (.aload_n 0, 1) := by decide +kernel
theorem dX9_told_223 : decode cX9_told 223 = .ok (.getfield 29, 3) := by decide +kernel
theorem dX9_told_226 : decode cX9_told 226 = .ok (.invokevirtual 143, 3) := by decide +kernel
theorem dX9_told_229 : decode cX9_told 229 = .ok (.ireturn, 1) := by decide +kernel
theorem dX9_told_230 : decode cX9_told 230 = .ok (.aload_n 0, 1) := by decide +kernel
theorem dX9_told_231 : decode cX9_told 231 = .ok (.getfield 29, 3) := by decide +kernel
theorem dX9_told_234 : decode cX9_told 234 = .ok (.invokevirtual 146, 3) := by decide +kernel
theorem dX9_told_237 : decode cX9_told 237 = .ok (.ireturn, 1) := by decide +kernel
theorem dX9_told_238 : decode cX9_told 238 = .ok (.aload_n 0, 1) := by decide +kernel
theorem dX9_told_239 : decode cX9_told 239 = .ok (.getfield 29, 3) := by decide +kernel
theorem dX9_told_242 : decode cX9_told 242 = .ok (.getfield 149, 3) := by decide +kernel
theorem dX9_told_245 : decode cX9_told 245 = .ok (.aload_n 0, 1) := by decide +kernel
theorem dX9_told_246 : decode cX9_told 246 = .ok (.getfield 19, 3) := by decide +kernel
theorem dX9_told_249 : decode cX9_told 249 = .ok (.getfield 111, 3) := by decide +kernel
theorem dX9_told_252 : decode cX9_told 252 = .ok (.invokestatic 153, 3) := by decide +kernel
theorem dX9_told_255 : decode cX9_told 255 = .ok (.ireturn, 1) := by decide +kernel
theorem dX9_told_256 : decode cX9_told 256 = .ok (.aload_n 0, 1) := by decide +kernel
theorem dX9_told_257 : decode cX9_told 257 = .ok (.getfield 29, 3) := by decide +kernel
theorem dX9_told_260 : decode cX9_told 260 = .ok (.aload_n 0, 1) := by decide +kernel
theorem dX9_told_261 : decode cX9_told 261 = .ok (.getfield 19, 3) := by decide +kernel
theorem dX9_told_264 : decode cX9_told 264 = .ok (.getfield 111, 3) := by decide +kernel
theorem dX9_told_267 : decode cX9_told 267 = .ok (.invokevirtual 157, 3) := by decide +kernel
theorem dX9_told_270 : decode cX9_told 270 = .ok (.ireturn, 1) := by decide +kernel
theorem dX9_told_271 : decode cX9_told 271 = .ok (.aload_n 0, 1) := by decide +kernel
theorem dX9_told_272 : decode cX9_told 272 = .ok (.getfield 29, 3) := by decide +kernel
theorem dX9_told_275 : decode cX9_told 275 = .ok (.aload_n 0, 1) := by decide +kernel
theorem dX9_told_276 : decode cX9_told 276 = .ok (.getfield 19, 3) := by decide +kernel
theorem dX9_told_279 : decode cX9_told 279 = .ok (.invokevirtual 160, 3) := by decide +kernel
theorem dX9_told_282 : decode cX9_told 282 = .ok (.ireturn, 1) := by decide +kernel
theorem dX9_told_283 : decode cX9_told 283 = .ok (.aload_n 0, 1) := by decide +kernel
theorem dX9_told_284 : decode cX9_told 284 = .ok (.getfield 29, 3) := by decide +kernel
theorem dX9_told_287 : decode cX9_told 287 = .ok (.getfield 164, 3) := by decide +kernel
theorem dX9_told_290 : decode cX9_told 290 = .ok (.ireturn, 1) := by decide +kernel
theorem dX9_told_291 : decode cX9_told 291 = .ok (.aload_n 0, 1) := by decide +kernel
theorem dX9_told_292 : decode cX9_told 292 = .ok (.getfield 50, 3) := by decide +kernel
theorem dX9_told_295 : decode cX9_told 295 = .ok (.getfield 91, 3) := by decide +kernel
theorem dX9_told_298 : decode cX9_told 298 = .ok (.ireturn, 1) := by decide +kernel
theorem dX9_told_299 : decode cX9_told 299 = .ok (.aload_n 0, 1) := by decide +kernel
theorem dX9_told_300 : decode cX9_told 300 = .ok (.getfield 57, 3) := by decide +kernel
theorem dX9_told_303 : decode cX9_told 303 = .ok (.getfield 94, 3) := by decide +kernel
theorem dX9_told_306 : decode cX9_told 306 = .ok (.ireturn, 1) := by decide +kernel
theorem dX9_told_307 : decode cX9_told 307 = .ok (.aload_n 0, 1) := by decide +kernel
theorem dX9_told_308 : decode cX9_told 308 = .ok (.getfield 36, 3) := by decide +kernel
theorem dX9_told_311 : decode cX9_told 311 = .ok (.getfield 167, 3) := by decide +kernel
theorem dX9_told_314 : decode cX9_told 314 = .ok (.ireturn, 1) := by decide +kernel
theorem dX9_told_315 : decode cX9_told 315 = .ok (.ldc 75, 2) := by decide +kernel
theorem dX9_told_317 : decode cX9_told 317 = .ok (.ireturn, 1) := by decide +kernel
theorem dX9_layer_0 : decode cX9_layer 0 = .ok (.aload_n 0, 1) := by decide +kernel
theorem dX9_layer_1 : decode cX9_layer 1 = .ok (.getfield 29, 3) := by decide +kernel
theorem dX9_layer_4 : decode cX9_layer 4 = .ok (.iload_n 1, 1) := by decide +kernel
theorem dX9_layer_5 : decode cX9_layer 5 = .ok (.invokevirtual 168, 3) := by decide +kernel
theorem dX9_layer_8 : decode cX9_layer 8 = .ok (.ifCond .ne 6, 3) := by decide +kernel
theorem dX9_layer_11 : decode cX9_layer 11 = .ok (.ldc 172, 2) := by decide +kernel
theorem dX9_layer_13 : decode cX9_layer 13 = .ok (.ireturn, 1) := by decide +kernel
theorem dX9_layer_14 : decode cX9_layer 14 = .ok (.iload_n 2, 1) := by decide +kernel
theorem dX9_layer_15 : decode cX9_layer 15 = .ok (.tableswitch 67 0 3 #[29, 39, 49, 58], 29) := by decide +kernel
theorem dX9_layer_44 : decode cX9_layer 44 = .ok (.aload_n 0, 1) := by decide +kernel
theorem dX9_layer_45 : decode cX9_layer 45 = .ok (.getfield 29, 3) := by decide +kernel
theorem dX9_layer_48 : decode cX9_layer 48 = .ok (.getfield 173, 3) := by decide +kernel
theorem dX9_layer_51 : decode cX9_layer 51 = .ok (.iload_n 1, 1) := by decide +kernel
theorem dX9_layer_52 : decode cX9_layer 52 = .ok (.iaload, 1) := by decide +kernel
theorem dX9_layer_53 : decode cX9_layer 53 = .ok (.ireturn, 1) := by decide +kernel
theorem dX9_layer_54 : decode cX9_layer 54 = .ok (.aload_n 0, 1) := by decide +kernel
theorem dX9_layer_55 : decode cX9_layer 55 = .ok (.getfield 29, 3) := by decide +kernel
theorem dX9_layer_58 : decode cX9_layer 58 = .ok (.getfield 176, 3) := by decide +kernel
theorem dX9_layer_61 : decode cX9_layer 61 = .ok (.iload_n 1, 1) := by decide +kernel
theorem dX9_layer_62 : decode cX9_layer 62 = .ok (.iaload, 1) := by decide +kernel
theorem dX9_layer_63 : decode cX9_layer 63 = .ok (.ireturn, 1) := by decide +kernel
theorem dX9_layer_64 : decode cX9_layer 64 = .ok (.aload_n 0, 1) := by decide +kernel
theorem dX9_layer_65 : decode cX9_layer 65 = .ok (.getfield 29, 3) := by decide +kernel
theorem dX9_layer_68 : decode cX9_layer 68 = .ok (.iload_n 1, 1) := by decide +kernel
theorem dX9_layer_69 : decode cX9_layer 69 = .ok (.invokevirtual 179, 3) := by decide +kernel
theorem dX9_layer_72 : decode cX9_layer 72 = .ok (.ireturn, 1) := by decide +kernel
theorem dX9_layer_73 : decode cX9_layer 73 = .ok (.aload_n 0, 1) := by decide +kernel
theorem dX9_layer_74 : decode cX9_layer 74 = .ok (.getfield 29, 3) := by decide +kernel
theorem dX9_layer_77 : decode cX9_layer 77 = .ok (.iload_n 1, 1) := by decide +kernel
theorem dX9_layer_78 : decode cX9_layer 78 = .ok (.invokevirtual 182, 3) := by decide +kernel
theorem dX9_layer_81 : decode cX9_layer 81 = .ok (.ireturn, 1) := by decide +kernel
theorem dX9_layer_82 : decode cX9_layer 82 = .ok (.ldc 75, 2) := by decide +kernel
theorem dX9_layer_84 : decode cX9_layer 84 = .ok (.ireturn, 1) := by decide +kernel
theorem dX9_executor_0 : decode cX9_executor 0 = .ok (.aload_n 0, 1) := by decide +kernel
theorem dX9_executor_1 : decode cX9_executor 1 = .ok (.getfield 19, 3) := by decide +kernel
theorem dX9_executor_4 : decode cX9_executor 4 = .ok (.iload_n 1, 1) := by decide +kernel
theorem dX9_executor_5 : decode cX9_executor 5 = .ok (.invokevirtual 185, 3) := by decide +kernel
theorem dX9_executor_8 : decode cX9_executor 8 = .ok (.ifCond .ne 6, 3) := by decide +kernel
theorem dX9_executor_11 : decode cX9_executor 11 = .ok (.ldc 172, 2) := by decide +kernel
theorem dX9_executor_13 : decode cX9_executor 13 = .ok (.ireturn, 1) := by decide +kernel
theorem dX9_executor_14 : decode cX9_executor 14 = .ok (.iload_n 2, 1) := by decide +kernel
theorem dX9_executor_15 : decode cX9_executor 15 = .ok (.tableswitch 83 0 4 #[33, 43, 53, 63, 73], 33) := by decide +kernel
theorem dX9_executor_48 : decode cX9_executor 48 = .ok (.aload_n 0, 1) := by decide +kernel
theorem dX9_executor_49 : decode cX9_executor 49 = .ok (.getfield 19, 3) := by decide +kernel
theorem dX9_executor_52 : decode cX9_executor 52 = .ok (.getfield 188, 3) := by decide +kernel
theorem dX9_executor_55 : decode cX9_executor 55 = .ok (.iload_n 1, 1) := by decide +kernel
theorem dX9_executor_56 : decode cX9_executor 56 = .ok (.iaload, 1) := by decide +kernel
theorem dX9_executor_57 : decode cX9_executor 57 = .ok (.ireturn, 1) := by decide +kernel
theorem dX9_executor_58 : decode cX9_executor 58 = .ok (.aload_n 0, 1) := by decide +kernel
theorem dX9_executor_59 : decode cX9_executor 59 = .ok (.getfield 19, 3) := by decide +kernel
theorem dX9_executor_62 : decode cX9_executor 62 = .ok (.getfield 191, 3) := by decide +kernel
theorem dX9_executor_65 : decode cX9_executor 65 = .ok (.iload_n 1, 1) := by decide +kernel
theorem dX9_executor_66 : decode cX9_executor 66 = .ok (.iaload, 1) := by decide +kernel
theorem dX9_executor_67 : decode cX9_executor 67 = .ok (.ireturn, 1) := by decide +kernel
theorem dX9_executor_68 : decode cX9_executor 68 = .ok (.aload_n 0, 1) := by decide +kernel
theorem dX9_executor_69 : decode cX9_executor 69 = .ok (.getfield 29, 3) := by decide +kernel
theorem dX9_executor_72 : decode cX9_executor 72 = .ok (.getfield 149, 3) := by decide +kernel
theorem dX9_executor_75 : decode cX9_executor 75 = .ok (.iload_n 1, 1) := by decide +kernel
theorem dX9_executor_76 : decode cX9_executor 76 = .ok (.iaload, 1) := by decide +kernel
theorem dX9_executor_77 : decode cX9_executor 77 = .ok (.ireturn, 1) := by decide +kernel
theorem dX9_executor_78 : decode cX9_executor 78 = .ok (.aload_n 0, 1) := by decide +kernel
theorem dX9_executor_79 : decode cX9_executor 79 = .ok (.getfield 29, 3) := by decide +kernel
theorem dX9_executor_82 : decode cX9_executor 82 = .ok (.getfield 194, 3) := by decide +kernel
theorem dX9_executor_85 : decode cX9_executor 85 = .ok (.iload_n 1, 1) := by decide +kernel
theorem dX9_executor_86 : decode cX9_executor 86 = .ok (.iaload, 1) := by decide +kernel
theorem dX9_executor_87 : decode cX9_executor 87 = .ok (.ireturn, 1) := by decide +kernel
theorem dX9_executor_88 : decode cX9_executor 88 = .ok (.aload_n 0, 1) := by decide +kernel
theorem dX9_executor_89 : decode cX9_executor 89 = .ok (.getfield 29, 3) := by decide +kernel
theorem dX9_executor_92 : decode cX9_executor 92 = .ok (.getfield 197, 3) := by decide +kernel
theorem dX9_executor_95 : decode cX9_executor 95 = .ok (.iload_n 1, 1) := by decide +kernel
theorem dX9_executor_96 : decode cX9_executor 96 = .ok (.iaload, 1) := by decide +kernel
theorem dX9_executor_97 : decode cX9_executor 97 = .ok (.ireturn, 1) := by decide +kernel
theorem dX9_executor_98 : decode cX9_executor 98 = .ok (.ldc 75, 2) := by decide +kernel
theorem dX9_executor_100 : decode cX9_executor 100 = .ok (.ireturn, 1) := by decide +kernel
theorem dX9_type_0 : decode cX9_type 0 = .ok (.iload_n 1, 1) := by decide +kernel
theorem dX9_type_1 : decode cX9_type 1 = .ok (.ifCond .lt 14, 3) := by decide +kernel
theorem dX9_type_4 : decode cX9_type 4 = .ok (.iload_n 1, 1) := by decide +kernel
theorem dX9_type_5 : decode cX9_type 5 = .ok (.aload_n 0, 1) := by decide +kernel
theorem dX9_type_6 : decode cX9_type 6 = .ok (.getfield 19, 3) := by decide +kernel
theorem dX9_type_9 : decode cX9_type 9 = .ok (.getfield 114, 3) := by decide +kernel
theorem dX9_type_12 : decode cX9_type 12 = .ok (.if_icmp .lt 6, 3) := by decide +kernel
theorem dX9_type_15 : decode cX9_type 15 = .ok (.ldc 172, 2) := by decide +kernel
theorem dX9_type_17 : decode cX9_type 17 = .ok (.ireturn, 1) := by decide +kernel
theorem dX9_type_18 : decode cX9_type 18 = .ok (.iload_n 2, 1) := by decide +kernel
theorem dX9_type_19 : decode cX9_type 19 = .ok (.ifCond .lt 9, 3) := by decide +kernel
theorem dX9_type_22 : decode cX9_type 22 = .ok (.iload_n 2, 1) := by decide +kernel
theorem dX9_type_23 : decode cX9_type 23 = .ok (.bipush 8, 2) := by decide +kernel
theorem dX9_type_25 : decode cX9_type 25 = .ok (.if_icmp .lt 6, 3) := by decide +kernel
theorem dX9_type_28 : decode cX9_type 28 = .ok (.ldc 75, 2) := by decide +kernel
theorem dX9_type_30 : decode cX9_type 30 = .ok (.ireturn, 1) := by decide +kernel
theorem dX9_type_31 : decode cX9_type 31 = .ok (.aload_n 0, 1) := by decide +kernel
theorem dX9_type_32 : decode cX9_type 32 = .ok (.getfield 19, 3) := by decide +kernel
theorem dX9_type_35 : decode cX9_type 35 = .ok (.iload_n 1, 1) := by decide +kernel
theorem dX9_type_36 : decode cX9_type 36 = .ok (.iload_n 2, 1) := by decide +kernel
theorem dX9_type_37 : decode cX9_type 37 = .ok (.invokevirtual 200, 3) := by decide +kernel
theorem dX9_type_40 : decode cX9_type 40 = .ok (.ireturn, 1) := by decide +kernel
theorem dX9_logged_0 : decode cX9_logged 0 = .ok (.iload_n 2, 1) := by decide +kernel
theorem dX9_logged_1 : decode cX9_logged 1 = .ok (.ifCond .lt 8, 3) := by decide +kernel
theorem dX9_logged_4 : decode cX9_logged 4 = .ok (.iload_n 2, 1) := by decide +kernel
theorem dX9_logged_5 : decode cX9_logged 5 = .ok (.iconst 4, 1) := by decide +kernel
theorem dX9_logged_6 : decode cX9_logged 6 = .ok (.if_icmp .lt 6, 3) := by decide +kernel
theorem dX9_logged_9 : decode cX9_logged 9 = .ok (.ldc 75, 2) := by decide +kernel
theorem dX9_logged_11 : decode cX9_logged 11 = .ok (.ireturn, 1) := by decide +kernel
theorem dX9_logged_12 : decode cX9_logged 12 = .ok (.iload_n 1, 1) := by decide +kernel
theorem dX9_logged_13 : decode cX9_logged 13 = .ok (.ifCond .lt 14, 3) := by decide +kernel
theorem dX9_logged_16 : decode cX9_logged 16 = .ok (.iload_n 1, 1) := by decide +kernel
theorem dX9_logged_17 : decode cX9_logged 17 = .ok (.aload_n 0, 1) := by decide +kernel
theorem dX9_logged_18 : decode cX9_logged 18 = .ok (.getfield 29, 3) := by decide +kernel
theorem dX9_logged_21 : decode cX9_logged 21 = .ok (.getfield 164, 3) := by decide +kernel
theorem dX9_logged_24 : decode cX9_logged 24 = .ok (.if_icmp .lt 5, 3) := by decide +kernel
theorem dX9_logged_27 : decode cX9_logged 27 = .ok (.iconst (-1), 1) := by decide +kernel
theorem dX9_logged_28 : decode cX9_logged 28 = .ok (.ireturn, 1) := by decide +kernel
theorem dX9_logged_29 : decode cX9_logged 29 = .ok (.aload_n 0, 1) := by decide +kernel
theorem dX9_logged_30 : decode cX9_logged 30 = .ok (.getfield 29, 3) := by decide +kernel
theorem dX9_logged_33 : decode cX9_logged 33 = .ok (.getfield 204, 3) := by decide +kernel
theorem dX9_logged_36 : decode cX9_logged 36 = .ok (.iload_n 1, 1) := by decide +kernel
theorem dX9_logged_37 : decode cX9_logged 37 = .ok (.iconst 4, 1) := by decide +kernel
theorem dX9_logged_38 : decode cX9_logged 38 = .ok (.imul, 1) := by decide +kernel
theorem dX9_logged_39 : decode cX9_logged 39 = .ok (.iload_n 2, 1) := by decide +kernel
theorem dX9_logged_40 : decode cX9_logged 40 = .ok (.iadd, 1) := by decide +kernel
theorem dX9_logged_41 : decode cX9_logged 41 = .ok (.iaload, 1) := by decide +kernel
theorem dX9_logged_42 : decode cX9_logged 42 = .ok (.ireturn, 1) := by decide +kernel
theorem dX9_peel_0 : decode cX9_peel 0 = .ok (.aload_n 0, 1) := by decide +kernel
theorem dX9_peel_1 : decode cX9_peel 1 = .ok (.getfield 19, 3) := by decide +kernel
theorem dX9_peel_4 : decode cX9_peel 4 = .ok (.iload_n 1, 1) := by decide +kernel
theorem dX9_peel_5 : decode cX9_peel 5 = .ok (.invokevirtual 185, 3) := by decide +kernel
theorem dX9_peel_8 : decode cX9_peel 8 = .ok (.ifCond .ne 6, 3) := by decide +kernel
theorem dX9_peel_11 : decode cX9_peel 11 = .ok (.ldc 172, 2) := by decide +kernel
theorem dX9_peel_13 : decode cX9_peel 13 = .ok (.ireturn, 1) := by decide +kernel
theorem dX9_peel_14 : decode cX9_peel 14 = .ok (.aload_n 0, 1) := by decide +kernel
theorem dX9_peel_15 : decode cX9_peel 15 = .ok (.getfield 29, 3) := by decide +kernel
theorem dX9_peel_18 : decode cX9_peel 18 = .ok (.invokevirtual 207, 3) := by decide +kernel
theorem dX9_peel_21 : decode cX9_peel 21 = .ok (.ifCond .ne 6, 3) := by decide +kernel
theorem dX9_peel_24 : decode cX9_peel 24 = .ok (.ldc 211, 2) := by decide +kernel
theorem dX9_peel_26 : decode cX9_peel 26 = .ok (.ireturn, 1) := by decide +kernel
theorem dX9_peel_27 : decode cX9_peel 27 = .ok (.aload_n 0, 1) := by decide +kernel
theorem dX9_peel_28 : decode cX9_peel 28 = .ok (.getfield 36, 3) := by decide +kernel
theorem dX9_peel_31 : decode cX9_peel 31 = .ok (.aload_n 0, 1) := by decide +kernel
theorem dX9_peel_32 : decode cX9_peel 32 = .ok (.getfield 29, 3) := by decide +kernel
theorem dX9_peel_35 : decode cX9_peel 35 = .ok (.invokevirtual 212, 3) := by decide +kernel
theorem dX9_peel_38 : decode cX9_peel 38 = .ok (.aload_n 0, 1) := by decide +kernel
theorem dX9_peel_39 : decode cX9_peel 39 = .ok (.getfield 29, 3) := by decide +kernel
theorem dX9_peel_42 : decode cX9_peel 42 = .ok (.iload_n 1, 1) := by decide +kernel
theorem dX9_peel_43 : decode cX9_peel 43 = .ok (.aload_n 0, 1) := by decide +kernel
theorem dX9_peel_44 : decode cX9_peel 44 = .ok (.getfield 19, 3) := by decide +kernel
theorem dX9_peel_47 : decode cX9_peel 47 = .ok (.getfield 188, 3) := by decide +kernel
theorem dX9_peel_50 : decode cX9_peel 50 = .ok (.iload_n 1, 1) := by decide +kernel
theorem dX9_peel_51 : decode cX9_peel 51 = .ok (.iaload, 1) := by decide +kernel
theorem dX9_peel_52 : decode cX9_peel 52 = .ok (.invokevirtual 216, 3) := by decide +kernel
theorem dX9_peel_55 : decode cX9_peel 55 = .ok (.ireturn, 1) := by decide +kernel
theorem dX9_stop_0 : decode cX9_stop 0 = .ok (.aload_n 0, 1) := by decide +kernel
theorem dX9_stop_1 : decode cX9_stop 1 = .ok (.getfield 19, 3) := by decide +kernel
theorem dX9_stop_4 : decode cX9_stop 4 = .ok (.getfield 108, 3) := by decide +kernel
theorem dX9_stop_7 : decode cX9_stop 7 = .ok (.ifCond .ne 6, 3) := by decide +kernel
theorem dX9_stop_10 : decode cX9_stop 10 = .ok (.ldc 211, 2) := by decide +kernel
theorem dX9_stop_12 : decode cX9_stop 12 = .ok (.ireturn, 1) := by decide +kernel
theorem dX9_stop_13 : decode cX9_stop 13 = .ok (.aload_n 0, 1) := by decide +kernel
theorem dX9_stop_14 : decode cX9_stop 14 = .ok (.getfield 36, 3) := by decide +kernel
theorem dX9_stop_17 : decode cX9_stop 17 = .ok (.aload_n 0, 1) := by decide +kernel
theorem dX9_stop_18 : decode cX9_stop 18 = .ok (.getfield 29, 3) := by decide +kernel
theorem dX9_stop_21 : decode cX9_stop 21 = .ok (.invokevirtual 212, 3) := by decide +kernel
theorem dX9_stop_24 : decode cX9_stop 24 = .ok (.aload_n 0, 1) := by decide +kernel
theorem dX9_stop_25 : decode cX9_stop 25 = .ok (.getfield 29, 3) := by decide +kernel
theorem dX9_stop_28 : decode cX9_stop 28 = .ok (.getfield 123, 3) := by decide +kernel
theorem dX9_stop_31 : decode cX9_stop 31 = .ok (.ifCond .eq 7, 3) := by decide +kernel
theorem dX9_stop_34 : decode cX9_stop 34 = .ok (.iconst 1, 1) := by decide +kernel
theorem dX9_stop_35 : decode cX9_stop 35 = .ok (.goto 4, 3) := by decide +kernel
theorem dX9_stop_38 : decode cX9_stop 38 = .ok (.iconst 0, 1) := by decide +kernel
theorem dX9_stop_39 : decode cX9_stop 39 = .ok (.istore_n 2, 1) := by decide +kernel
theorem dX9_stop_40 : decode cX9_stop 40 = .ok (.aload_n 0, 1) := by decide +kernel
theorem dX9_stop_41 : decode cX9_stop 41 = .ok (.getfield 29, 3) := by decide +kernel
theorem dX9_stop_44 : decode cX9_stop 44 = .ok (.iload_n 1, 1) := by decide +kernel
theorem dX9_stop_45 : decode cX9_stop 45 = .ok (.putfield 123, 3) := by decide +kernel
theorem dX9_stop_48 : decode cX9_stop 48 = .ok (.iload_n 2, 1) := by decide +kernel
theorem dX9_stop_49 : decode cX9_stop 49 = .ok (.ireturn, 1) := by decide +kernel
theorem dX9_visit_0 : decode cX9_visit 0 = .ok (.aload_n 0, 1) := by decide +kernel
theorem dX9_visit_1 : decode cX9_visit 1 = .ok (.getfield 29, 3) := by decide +kernel
theorem dX9_visit_4 : decode cX9_visit 4 = .ok (.getfield 102, 3) := by decide +kernel
theorem dX9_visit_7 : decode cX9_visit 7 = .ok (.ifCond .ne 6, 3) := by decide +kernel
theorem dX9_visit_10 : decode cX9_visit 10 = .ok (.ldc 211, 2) := by decide +kernel
theorem dX9_visit_12 : decode cX9_visit 12 = .ok (.ireturn, 1) := by decide +kernel
theorem dX9_visit_13 : decode cX9_visit 13 = .ok (.aload_n 0, 1) := by decide +kernel
theorem dX9_visit_14 : decode cX9_visit 14 = .ok (.getfield 36, 3) := by decide +kernel
theorem dX9_visit_17 : decode cX9_visit 17 = .ok (.aload_n 0, 1) := by decide +kernel
theorem dX9_visit_18 : decode cX9_visit 18 = .ok (.getfield 29, 3) := by decide +kernel
theorem dX9_visit_21 : decode cX9_visit 21 = .ok (.invokevirtual 212, 3) := by decide +kernel
theorem dX9_visit_24 : decode cX9_visit 24 = .ok (.aload_n 0, 1) := by decide +kernel
theorem dX9_visit_25 : decode cX9_visit 25 = .ok (.getfield 29, 3) := by decide +kernel
theorem dX9_visit_28 : decode cX9_visit 28 = .ok (.invokevirtual 219, 3) := by decide +kernel
theorem dX9_visit_31 : decode cX9_visit 31 = .ok (.aload_n 0, 1) := by decide +kernel
theorem dX9_visit_32 : decode cX9_visit 32 = .ok (.getfield 29, 3) := by decide +kernel
theorem dX9_visit_35 : decode cX9_visit 35 = .ok (.getfield 176, 3) := by decide +kernel
theorem dX9_visit_38 : decode cX9_visit 38 = .ok (.iconst 0, 1) := by decide +kernel
theorem dX9_visit_39 : decode cX9_visit 39 = .ok (.iaload, 1) := by decide +kernel
theorem dX9_visit_40 : decode cX9_visit 40 = .ok (.ireturn, 1) := by decide +kernel
theorem dX9_year_0 : decode cX9_year 0 = .ok (.aload_n 0, 1) := by decide +kernel
theorem dX9_year_1 : decode cX9_year 1 = .ok (.iload_n 1, 1) := by decide +kernel
theorem dX9_year_2 : decode cX9_year 2 = .ok (.invokevirtual 222, 3) := by decide +kernel
theorem dX9_year_5 : decode cX9_year 5 = .ok (.istore_n 2, 1) := by decide +kernel
theorem dX9_year_6 : decode cX9_year 6 = .ok (.iload_n 2, 1) := by decide +kernel
theorem dX9_year_7 : decode cX9_year 7 = .ok (.ifCond .eq 5, 3) := by decide +kernel
theorem dX9_year_10 : decode cX9_year 10 = .ok (.iload_n 2, 1) := by decide +kernel
theorem dX9_year_11 : decode cX9_year 11 = .ok (.ireturn, 1) := by decide +kernel
theorem dX9_year_12 : decode cX9_year 12 = .ok (.iconst 0, 1) := by decide +kernel
theorem dX9_year_13 : decode cX9_year 13 = .ok (.istore_n 3, 1) := by decide +kernel
theorem dX9_year_14 : decode cX9_year 14 = .ok (.iload_n 3, 1) := by decide +kernel
theorem dX9_year_15 : decode cX9_year 15 = .ok (.iload_n 1, 1) := by decide +kernel
theorem dX9_year_16 : decode cX9_year 16 = .ok (.if_icmp .ge 31, 3) := by decide +kernel
theorem dX9_year_19 : decode cX9_year 19 = .ok (.aload_n 0, 1) := by decide +kernel
theorem dX9_year_20 : decode cX9_year 20 = .ok (.getfield 36, 3) := by decide +kernel
theorem dX9_year_23 : decode cX9_year 23 = .ok (.aload_n 0, 1) := by decide +kernel
theorem dX9_year_24 : decode cX9_year 24 = .ok (.getfield 29, 3) := by decide +kernel
theorem dX9_year_27 : decode cX9_year 27 = .ok (.invokevirtual 212, 3) := by decide +kernel
theorem dX9_year_30 : decode cX9_year 30 = .ok (.aload_n 0, 1) := by decide +kernel
theorem dX9_year_31 : decode cX9_year 31 = .ok (.getfield 29, 3) := by decide +kernel
theorem dX9_year_34 : decode cX9_year 34 = .ok (.aload_n 0, 1) := by decide +kernel
theorem dX9_year_35 : decode cX9_year 35 = .ok (.getfield 19, 3) := by decide +kernel
theorem dX9_year_38 : decode cX9_year 38 = .ok (.invokevirtual 225, 3) := by decide +kernel
theorem dX9_year_41 : decode cX9_year 41 = .ok (.iinc 3 1, 3) := by decide +kernel
theorem dX9_year_44 : decode cX9_year 44 = .ok (.goto (-30), 3) := by decide +kernel
theorem dX9_year_47 : decode cX9_year 47 = .ok (.aload_n 0, 1) := by decide +kernel
theorem dX9_year_48 : decode cX9_year 48 = .ok (.getfield 29, 3) := by decide +kernel
theorem dX9_year_51 : decode cX9_year 51 = .ok (.getfield 120, 3) := by decide +kernel
theorem dX9_year_54 : decode cX9_year 54 = .ok (.ireturn, 1) := by decide +kernel
theorem dX9_drift_0 : decode cX9_drift 0 = .ok (.aload_n 0, 1) := by decide +kernel
theorem dX9_drift_1 : decode cX9_drift 1 = .ok (.iload_n 1, 1) := by decide +kernel
theorem dX9_drift_2 : decode cX9_drift 2 = .ok (.invokevirtual 222, 3) := by decide +kernel
theorem dX9_drift_5 : decode cX9_drift 5 = .ok (.istore_n 2, 1) := by decide +kernel
theorem dX9_drift_6 : decode cX9_drift 6 = .ok (.iload_n 2, 1) := by decide +kernel
theorem dX9_drift_7 : decode cX9_drift 7 = .ok (.ifCond .eq 5, 3) := by decide +kernel
theorem dX9_drift_10 : decode cX9_drift 10 = .ok (.iload_n 2, 1) := by decide +kernel
theorem dX9_drift_11 : decode cX9_drift 11 = .ok (.ireturn, 1) := by decide +kernel
theorem dX9_drift_12 : decode cX9_drift 12 = .ok (.iconst 0, 1) := by decide +kernel
theorem dX9_drift_13 : decode cX9_drift 13 = .ok (.istore_n 3, 1) := by decide +kernel
theorem dX9_drift_14 : decode cX9_drift 14 = .ok (.iload_n 3, 1) := by decide +kernel
theorem dX9_drift_15 : decode cX9_drift 15 = .ok (.iload_n 1, 1) := by decide +kernel
theorem dX9_drift_16 : decode cX9_drift 16 = .ok (.if_icmp .ge 45, 3) := by decide +kernel
theorem dX9_drift_19 : decode cX9_drift 19 = .ok (.aload_n 0, 1) := by decide +kernel
theorem dX9_drift_20 : decode cX9_drift 20 = .ok (.getfield 36, 3) := by decide +kernel
theorem dX9_drift_23 : decode cX9_drift 23 = .ok (.aload_n 0, 1) := by decide +kernel
theorem dX9_drift_24 : decode cX9_drift 24 = .ok (.getfield 29, 3) := by decide +kernel
theorem dX9_drift_27 : decode cX9_drift 27 = .ok (.invokevirtual 212, 3) := by decide +kernel
theorem dX9_drift_30 : decode cX9_drift 30 = .ok (.aload_n 0, 1) := by decide +kernel
theorem dX9_drift_31 : decode cX9_drift 31 = .ok (.getfield 19, 3) := by decide +kernel
theorem dX9_drift_34 : decode cX9_drift 34 = .ok (.getfield 111, 3) := by decide +kernel
theorem dX9_drift_37 : decode cX9_drift 37 = .ok (.ifCond .le 7, 3) := by decide +kernel
theorem dX9_drift_40 : decode cX9_drift 40 = .ok (.aload_n 0, 1) := by decide +kernel
theorem dX9_drift_41 : decode cX9_drift 41 = .ok (.invokevirtual 228, 3) := by decide +kernel
theorem dX9_drift_44 : decode cX9_drift 44 = .ok (.aload_n 0, 1) := by decide +kernel
theorem dX9_drift_45 : decode cX9_drift 45 = .ok (.getfield 29, 3) := by decide +kernel
theorem dX9_drift_48 : decode cX9_drift 48 = .ok (.aload_n 0, 1) := by decide +kernel
theorem dX9_drift_49 : decode cX9_drift 49 = .ok (.getfield 19, 3) := by decide +kernel
theorem dX9_drift_52 : decode cX9_drift 52 = .ok (.invokevirtual 225, 3) := by decide +kernel
theorem dX9_drift_55 : decode cX9_drift 55 = .ok (.iinc 3 1, 3) := by decide +kernel
theorem dX9_drift_58 : decode cX9_drift 58 = .ok (.goto (-44), 3) := by decide +kernel
theorem dX9_drift_61 : decode cX9_drift 61 = .ok (.aload_n 0, 1) := by decide +kernel
theorem dX9_drift_62 : decode cX9_drift 62 = .ok (.getfield 29, 3) := by decide +kernel
theorem dX9_drift_65 : decode cX9_drift 65 = .ok (.getfield 120, 3) := by decide +kernel
theorem dX9_drift_68 : decode cX9_drift 68 = .ok (.ireturn, 1) := by decide +kernel
theorem dX9_undo_0 : decode cX9_undo 0 = .ok (.iload_n 1, 1) := by decide +kernel
theorem dX9_undo_1 : decode cX9_undo 1 = .ok (.iconst 1, 1) := by decide +kernel
theorem dX9_undo_2 : decode cX9_undo 2 = .ok (.if_icmp .lt 9, 3) := by decide +kernel
theorem dX9_undo_5 : decode cX9_undo 5 = .ok (.iload_n 1, 1) := by decide +kernel
theorem dX9_undo_6 : decode cX9_undo 6 = .ok (.bipush 30, 2) := by decide +kernel
theorem dX9_undo_8 : decode cX9_undo 8 = .ok (.if_icmp .le 6, 3) := by decide +kernel
theorem dX9_undo_11 : decode cX9_undo 11 = .ok (.ldc 75, 2) := by decide +kernel
theorem dX9_undo_13 : decode cX9_undo 13 = .ok (.ireturn, 1) := by decide +kernel
theorem dX9_undo_14 : decode cX9_undo 14 = .ok (.iload_n 1, 1) := by decide +kernel
theorem dX9_undo_15 : decode cX9_undo 15 = .ok (.aload_n 0, 1) := by decide +kernel
theorem dX9_undo_16 : decode cX9_undo 16 = .ok (.getfield 36, 3) := by decide +kernel
theorem dX9_undo_19 : decode cX9_undo 19 = .ok (.getfield 167, 3) := by decide +kernel
theorem dX9_undo_22 : decode cX9_undo 22 = .ok (.if_icmp .le 6, 3) := by decide +kernel
theorem dX9_undo_25 : decode cX9_undo 25 = .ok (.ldc 211, 2) := by decide +kernel
theorem dX9_undo_27 : decode cX9_undo 27 = .ok (.ireturn, 1) := by decide +kernel
theorem dX9_undo_28 : decode cX9_undo 28 = .ok (.aload_n 0, 1) := by decide +kernel
theorem dX9_undo_29 : decode cX9_undo 29 = .ok (.getfield 36, 3) := by decide +kernel
theorem dX9_undo_32 : decode cX9_undo 32 = .ok (.iload_n 1, 1) := by decide +kernel
theorem dX9_undo_33 : decode cX9_undo 33 = .ok (.aload_n 0, 1) := by decide +kernel
theorem dX9_undo_34 : decode cX9_undo 34 = .ok (.getfield 29, 3) := by decide +kernel
theorem dX9_undo_37 : decode cX9_undo 37 = .ok (.invokevirtual 231, 3) := by decide +kernel
theorem dX9_undo_40 : decode cX9_undo 40 = .ok (.aload_n 0, 1) := by decide +kernel
theorem dX9_undo_41 : decode cX9_undo 41 = .ok (.getfield 29, 3) := by decide +kernel
theorem dX9_undo_44 : decode cX9_undo 44 = .ok (.getfield 120, 3) := by decide +kernel
theorem dX9_undo_47 : decode cX9_undo 47 = .ok (.ireturn, 1) := by decide +kernel
theorem dX9_worthIt_0 : decode cX9_worthIt 0 = .ok (.aload_n 0, 1) := by decide +kernel
theorem dX9_worthIt_1 : decode cX9_worthIt 1 = .ok (.getfield 19, 3) := by decide +kernel
theorem dX9_worthIt_4 : decode cX9_worthIt 4 = .ok (.iload_n 1, 1) := by decide +kernel
theorem dX9_worthIt_5 : decode cX9_worthIt 5 = .ok (.invokevirtual 185, 3) := by decide +kernel
theorem dX9_worthIt_8 : decode cX9_worthIt 8 = .ok (.ifCond .ne 6, 3) := by decide +kernel
theorem dX9_worthIt_11 : decode cX9_worthIt 11 = .ok (.ldc 172, 2) := by decide +kernel
theorem dX9_worthIt_13 : decode cX9_worthIt 13 = .ok (.ireturn, 1) := by decide +kernel
theorem dX9_worthIt_14 : decode cX9_worthIt 14 = .ok (.iload_n 2, 1) := by decide +kernel
theorem dX9_worthIt_15 : decode cX9_worthIt 15 = .ok (.lookupswitch 79 #[(0, 25), (1, 42)], 25) := by decide +kernel
theorem dX9_worthIt_40 : decode cX9_worthIt 40 = .ok (.aload_n 0, 1) := by decide +kernel
theorem dX9_worthIt_41 : decode cX9_worthIt 41 = .ok (.getfield 29, 3) := by decide +kernel
theorem dX9_worthIt_44 : decode cX9_worthIt 44 = .ok (.aload_n 0, 1) := by decide +kernel
theorem dX9_worthIt_45 : decode cX9_worthIt 45 = .ok (.getfield 19, 3) := by decide +kernel
theorem dX9_worthIt_48 : decode cX9_worthIt 48 = .ok (.getfield 188, 3) := by decide +kernel
theorem dX9_worthIt_51 : decode cX9_worthIt 51 = .ok (.iload_n 1, 1) := by decide +kernel
theorem dX9_worthIt_52 : decode cX9_worthIt 52 = .ok (.iaload, 1) := by decide +kernel
theorem dX9_worthIt_53 : decode cX9_worthIt 53 = .ok (.invokestatic 235, 3) := by decide +kernel
theorem dX9_worthIt_56 : decode cX9_worthIt 56 = .ok (.ireturn, 1) := by decide +kernel
theorem dX9_worthIt_57 : decode cX9_worthIt 57 = .ok (.sipush 1000, 3) := by decide +kernel
theorem dX9_worthIt_60 : decode cX9_worthIt 60 = .ok (.aload_n 0, 1) := by decide +kernel
theorem dX9_worthIt_61 : decode cX9_worthIt 61 = .ok (.getfield 29, 3) := by decide +kernel
theorem dX9_worthIt_64 : decode cX9_worthIt 64 = .ok (.aload_n 0, 1) := by decide +kernel
theorem dX9_worthIt_65 : decode cX9_worthIt 65 = .ok (.getfield 19, 3) := by decide +kernel
theorem dX9_worthIt_68 : decode cX9_worthIt 68 = .ok (.getfield 188, 3) := by decide +kernel
theorem dX9_worthIt_71 : decode cX9_worthIt 71 = .ok (.iload_n 1, 1) := by decide +kernel
theorem dX9_worthIt_72 : decode cX9_worthIt 72 = .ok (.iaload, 1) := by decide +kernel
theorem dX9_worthIt_73 : decode cX9_worthIt 73 = .ok (.aload_n 0, 1) := by decide +kernel
theorem dX9_worthIt_74 : decode cX9_worthIt 74 = .ok (.getfield 29, 3) := by decide +kernel
theorem dX9_worthIt_77 : decode cX9_worthIt 77 = .ok (.aload_n 0, 1) := by decide +kernel
theorem dX9_worthIt_78 : decode cX9_worthIt 78 = .ok (.getfield 19, 3) := by decide +kernel
theorem dX9_worthIt_81 : decode cX9_worthIt 81 = .ok (.getfield 188, 3) := by decide +kernel
theorem dX9_worthIt_84 : decode cX9_worthIt 84 = .ok (.iload_n 1, 1) := by decide +kernel
theorem dX9_worthIt_85 : decode cX9_worthIt 85 = .ok (.iaload, 1) := by decide +kernel
theorem dX9_worthIt_86 : decode cX9_worthIt 86 = .ok (.invokestatic 235, 3) := by decide +kernel
theorem dX9_worthIt_89 : decode cX9_worthIt 89 = .ok (.invokestatic 239, 3) := by decide +kernel
theorem dX9_worthIt_92 : decode cX9_worthIt 92 = .ok (.iadd, 1) := by decide +kernel
theorem dX9_worthIt_93 : decode cX9_worthIt 93 = .ok (.ireturn, 1) := by decide +kernel
theorem dX9_worthIt_94 : decode cX9_worthIt 94 = .ok (.ldc 75, 2) := by decide +kernel
theorem dX9_worthIt_96 : decode cX9_worthIt 96 = .ok (.ireturn, 1) := by decide +kernel
theorem dX9_parts_0 : decode cX9_parts 0 = .ok (.iload_n 1, 1) := by decide +kernel
theorem dX9_parts_1 : decode cX9_parts 1 = .ok (.iconst 1, 1) := by decide +kernel
theorem dX9_parts_2 : decode cX9_parts 2 = .ok (.if_icmp .lt 17, 3) := by decide +kernel
theorem dX9_parts_5 : decode cX9_parts 5 = .ok (.iload_n 1, 1) := by decide +kernel
theorem dX9_parts_6 : decode cX9_parts 6 = .ok (.iconst 5, 1) := by decide +kernel
theorem dX9_parts_7 : decode cX9_parts 7 = .ok (.if_icmp .gt 12, 3) := by decide +kernel
theorem dX9_parts_10 : decode cX9_parts 10 = .ok (.iload_n 2, 1) := by decide +kernel
theorem dX9_parts_11 : decode cX9_parts 11 = .ok (.ifCond .lt 8, 3) := by decide +kernel
theorem dX9_parts_14 : decode cX9_parts 14 = .ok (.iload_n 2, 1) := by decide +kernel
theorem dX9_parts_15 : decode cX9_parts 15 = .ok (.iconst 1, 1) := by decide +kernel
theorem dX9_parts_16 : decode cX9_parts 16 = .ok (.if_icmp .le 6, 3) := by decide +kernel
theorem dX9_parts_19 : decode cX9_parts 19 = .ok (.ldc 75, 2) := by decide +kernel
theorem dX9_parts_21 : decode cX9_parts 21 = .ok (.ireturn, 1) := by decide +kernel
theorem dX9_parts_22 : decode cX9_parts 22 = .ok (.aload_n 0, 1) := by decide +kernel
theorem dX9_parts_23 : decode cX9_parts 23 = .ok (.getfield 29, 3) := by decide +kernel
theorem dX9_parts_26 : decode cX9_parts 26 = .ok (.getfield 102, 3) := by decide +kernel
theorem dX9_parts_29 : decode cX9_parts 29 = .ok (.iload_n 1, 1) := by decide +kernel
theorem dX9_parts_30 : decode cX9_parts 30 = .ok (.if_icmp .ge 5, 3) := by decide +kernel
theorem dX9_parts_33 : decode cX9_parts 33 = .ok (.iconst (-1), 1) := by decide +kernel
theorem dX9_parts_34 : decode cX9_parts 34 = .ok (.ireturn, 1) := by decide +kernel
theorem dX9_parts_35 : decode cX9_parts 35 = .ok (.aload_n 0, 1) := by decide +kernel
theorem dX9_parts_36 : decode cX9_parts 36 = .ok (.getfield 64, 3) := by decide +kernel
theorem dX9_parts_39 : decode cX9_parts 39 = .ok (.aload_n 0, 1) := by decide +kernel
theorem dX9_parts_40 : decode cX9_parts 40 = .ok (.getfield 29, 3) := by decide +kernel
theorem dX9_parts_43 : decode cX9_parts 43 = .ok (.iload_n 1, 1) := by decide +kernel
theorem dX9_parts_44 : decode cX9_parts 44 = .ok (.invokevirtual 243, 3) := by decide +kernel
theorem dX9_parts_47 : decode cX9_parts 47 = .ok (.istore_n 3, 1) := by decide +kernel
theorem dX9_parts_48 : decode cX9_parts 48 = .ok (.iload_n 2, 1) := by decide +kernel
theorem dX9_parts_49 : decode cX9_parts 49 = .ok (.ifCond .ne 15, 3) := by decide +kernel
theorem dX9_parts_52 : decode cX9_parts 52 = .ok (.aload_n 0, 1) := by decide +kernel
theorem dX9_parts_53 : decode cX9_parts 53 = .ok (.getfield 64, 3) := by decide +kernel
theorem dX9_parts_56 : decode cX9_parts 56 = .ok (.getfield 246, 3) := by decide +kernel
theorem dX9_parts_59 : decode cX9_parts 59 = .ok (.iconst 0, 1) := by decide +kernel
theorem dX9_parts_60 : decode cX9_parts 60 = .ok (.iaload, 1) := by decide +kernel
theorem dX9_parts_61 : decode cX9_parts 61 = .ok (.goto 4, 3) := by decide +kernel
theorem dX9_parts_64 : decode cX9_parts 64 = .ok (.iload_n 3, 1) := by decide +kernel
theorem dX9_parts_65 : decode cX9_parts 65 = .ok (.ireturn, 1) := by decide +kernel
theorem dX9_byTurns_0 : decode cX9_byTurns 0 = .ok (.iload_n 1, 1) := by decide +kernel
theorem dX9_byTurns_1 : decode cX9_byTurns 1 = .ok (.ifCond .lt 8, 3) := by decide +kernel
theorem dX9_byTurns_4 : decode cX9_byTurns 4 = .ok (.iload_n 1, 1) := by decide +kernel
theorem dX9_byTurns_5 : decode cX9_byTurns 5 = .ok (.iconst 1, 1) := by decide +kernel
theorem dX9_byTurns_6 : decode cX9_byTurns 6 = .ok (.if_icmp .le 6, 3) := by decide +kernel
theorem dX9_byTurns_9 : decode cX9_byTurns 9 = .ok (.ldc 75, 2) := by decide +kernel
theorem dX9_byTurns_11 : decode cX9_byTurns 11 = .ok (.ireturn, 1) := by decide +kernel
theorem dX9_byTurns_12 : decode cX9_byTurns 12 = .ok (.aload_n 0, 1) := by decide +kernel
theorem dX9_byTurns_13 : decode cX9_byTurns 13 = .ok (.getfield 64, 3) := by decide +kernel
theorem dX9_byTurns_16 : decode cX9_byTurns 16 = .ok (.aload_n 0, 1) := by decide +kernel
theorem dX9_byTurns_17 : decode cX9_byTurns 17 = .ok (.getfield 29, 3) := by decide +kernel
theorem dX9_byTurns_20 : decode cX9_byTurns 20 = .ok (.invokevirtual 249, 3) := by decide +kernel
theorem dX9_byTurns_23 : decode cX9_byTurns 23 = .ok (.istore_n 2, 1) := by decide +kernel
theorem dX9_byTurns_24 : decode cX9_byTurns 24 = .ok (.iload_n 1, 1) := by decide +kernel
theorem dX9_byTurns_25 : decode cX9_byTurns 25 = .ok (.ifCond .ne 19, 3) := by decide +kernel
theorem dX9_byTurns_28 : decode cX9_byTurns 28 = .ok (.sipush 1000, 3) := by decide +kernel
theorem dX9_byTurns_31 : decode cX9_byTurns 31 = .ok (.aload_n 0, 1) := by decide +kernel
theorem dX9_byTurns_32 : decode cX9_byTurns 32 = .ok (.getfield 64, 3) := by decide +kernel
theorem dX9_byTurns_35 : decode cX9_byTurns 35 = .ok (.getfield 246, 3) := by decide +kernel
theorem dX9_byTurns_38 : decode cX9_byTurns 38 = .ok (.iconst 0, 1) := by decide +kernel
theorem dX9_byTurns_39 : decode cX9_byTurns 39 = .ok (.iaload, 1) := by decide +kernel
theorem dX9_byTurns_40 : decode cX9_byTurns 40 = .ok (.iadd, 1) := by decide +kernel
theorem dX9_byTurns_41 : decode cX9_byTurns 41 = .ok (.goto 4, 3) := by decide +kernel
theorem dX9_byTurns_44 : decode cX9_byTurns 44 = .ok (.iload_n 2, 1) := by decide +kernel
theorem dX9_byTurns_45 : decode cX9_byTurns 45 = .ok (.ireturn, 1) := by decide +kernel
theorem dX9_twoSides_0 : decode cX9_twoSides 0 = .ok (.aload_n 0, 1) := by decide +kernel
theorem dX9_twoSides_1 : decode cX9_twoSides 1 = .ok (.getfield 29, 3) := by decide +kernel
theorem dX9_twoSides_4 : decode cX9_twoSides 4 = .ok (.getfield 102, 3) := by decide +kernel
theorem dX9_twoSides_7 : decode cX9_twoSides 7 = .ok (.aload_n 0, 1) := by decide +kernel
theorem dX9_twoSides_8 : decode cX9_twoSides 8 = .ok (.getfield 29, 3) := by decide +kernel
theorem dX9_twoSides_11 : decode cX9_twoSides 11 = .ok (.getfield 102, 3) := by decide +kernel
theorem dX9_twoSides_14 : decode cX9_twoSides 14 = .ok (.iconst 2, 1) := by decide +kernel
theorem dX9_twoSides_15 : decode cX9_twoSides 15 = .ok (.idiv, 1) := by decide +kernel
theorem dX9_twoSides_16 : decode cX9_twoSides 16 = .ok (.isub, 1) := by decide +kernel
theorem dX9_twoSides_17 : decode cX9_twoSides 17 = .ok (.istore_n 2, 1) := by decide +kernel
theorem dX9_twoSides_18 : decode cX9_twoSides 18 = .ok (.iload_n 1, 1) := by decide +kernel
theorem dX9_twoSides_19 : decode cX9_twoSides 19 = .ok (.tableswitch 75 0 2 #[25, 35, 51], 25) := by decide +kernel
theorem dX9_twoSides_44 : decode cX9_twoSides 44 = .ok (.aload_n 0, 1) := by decide +kernel
theorem dX9_twoSides_45 : decode cX9_twoSides 45 = .ok (.getfield 29, 3) := by decide +kernel
theorem dX9_twoSides_48 : decode cX9_twoSides 48 = .ok (.iconst 0, 1) := by decide +kernel
theorem dX9_twoSides_49 : decode cX9_twoSides 49 = .ok (.iload_n 2, 1) := by decide +kernel
theorem dX9_twoSides_50 : decode cX9_twoSides 50 = .ok (.invokevirtual 252, 3) := by decide +kernel
theorem dX9_twoSides_53 : decode cX9_twoSides 53 = .ok (.ireturn, 1) := by decide +kernel
theorem dX9_twoSides_54 : decode cX9_twoSides 54 = .ok (.aload_n 0, 1) := by decide +kernel
theorem dX9_twoSides_55 : decode cX9_twoSides 55 = .ok (.getfield 29, 3) := by decide +kernel
theorem dX9_twoSides_58 : decode cX9_twoSides 58 = .ok (.iload_n 2, 1) := by decide +kernel
theorem dX9_twoSides_59 : decode cX9_twoSides 59 = .ok (.aload_n 0, 1) := by decide +kernel
theorem dX9_twoSides_60 : decode cX9_twoSides 60 = .ok (.getfield 29, 3) := by decide +kernel
theorem dX9_twoSides_63 : decode cX9_twoSides 63 = .ok (.getfield 102, 3) := by decide +kernel
theorem dX9_twoSides_66 : decode cX9_twoSides 66 = .ok (.invokevirtual 252, 3) := by decide +kernel
theorem dX9_twoSides_69 : decode cX9_twoSides 69 = .ok (.ireturn, 1) := by decide +kernel
theorem dX9_twoSides_70 : decode cX9_twoSides 70 = .ok (.aload_n 0, 1) := by decide +kernel
theorem dX9_twoSides_71 : decode cX9_twoSides 71 = .ok (.getfield 29, 3) := by decide +kernel
theorem dX9_twoSides_74 : decode cX9_twoSides 74 = .ok (.getfield 102, 3) := by decide +kernel
theorem dX9_twoSides_77 : decode cX9_twoSides 77 = .ok (.ifCond .ne 7, 3) := by decide +kernel
theorem dX9_twoSides_80 : decode cX9_twoSides 80 = .ok (.iconst (-1), 1) := by decide +kernel
theorem dX9_twoSides_81 : decode cX9_twoSides 81 = .ok (.goto 12, 3) := by decide +kernel
theorem dX9_twoSides_84 : decode cX9_twoSides 84 = .ok (.aload_n 0, 1) := by decide +kernel
theorem dX9_twoSides_85 : decode cX9_twoSides 85 = .ok (.getfield 29, 3) := by decide +kernel
theorem dX9_twoSides_88 : decode cX9_twoSides 88 = .ok (.getfield 102, 3) := by decide +kernel
theorem dX9_twoSides_91 : decode cX9_twoSides 91 = .ok (.iconst 2, 1) := by decide +kernel
theorem dX9_twoSides_92 : decode cX9_twoSides 92 = .ok (.idiv, 1) := by decide +kernel
theorem dX9_twoSides_93 : decode cX9_twoSides 93 = .ok (.ireturn, 1) := by decide +kernel
theorem dX9_twoSides_94 : decode cX9_twoSides 94 = .ok (.ldc 75, 2) := by decide +kernel
theorem dX9_twoSides_96 : decode cX9_twoSides 96 = .ok (.ireturn, 1) := by decide +kernel
theorem dX9_nextKind_0 : decode cX9_nextKind 0 = .ok (.iload_n 1, 1) := by decide +kernel
theorem dX9_nextKind_1 : decode cX9_nextKind 1 = .ok (.ifCond .lt 8, 3) := by decide +kernel
theorem dX9_nextKind_4 : decode cX9_nextKind 4 = .ok (.iload_n 1, 1) := by decide +kernel
theorem dX9_nextKind_5 : decode cX9_nextKind 5 = .ok (.iconst 5, 1) := by decide +kernel
theorem dX9_nextKind_6 : decode cX9_nextKind 6 = .ok (.if_icmp .lt 6, 3) := by decide +kernel
theorem dX9_nextKind_9 : decode cX9_nextKind 9 = .ok (.ldc 75, 2) := by decide +kernel
theorem dX9_nextKind_11 : decode cX9_nextKind 11 = .ok (.ireturn, 1) := by decide +kernel
theorem dX9_nextKind_12 : decode cX9_nextKind 12 = .ok (.aload_n 0, 1) := by decide +kernel
theorem dX9_nextKind_13 : decode cX9_nextKind 13 = .ok (.getfield 19, 3) := by decide +kernel
theorem dX9_nextKind_16 : decode cX9_nextKind 16 = .ok (.aload_n 0, 1) := by decide +kernel
theorem dX9_nextKind_17 : decode cX9_nextKind 17 = .ok (.getfield 29, 3) := by decide +kernel
theorem dX9_nextKind_20 : decode cX9_nextKind 20 = .ok (.iload_n 1, 1) := by decide +kernel
theorem dX9_nextKind_21 : decode cX9_nextKind 21 = .ok (.invokevirtual 255, 3) := by decide +kernel
theorem dX9_nextKind_24 : decode cX9_nextKind 24 = .ok (.ireturn, 1) := by decide +kernel
theorem dX9_allows_0 : decode cX9_allows 0 = .ok (.iload_n 1, 1) := by decide +kernel
theorem dX9_allows_1 : decode cX9_allows 1 = .ok (.ifCond .lt 8, 3) := by decide +kernel
theorem dX9_allows_4 : decode cX9_allows 4 = .ok (.iload_n 1, 1) := by decide +kernel
theorem dX9_allows_5 : decode cX9_allows 5 = .ok (.iconst 5, 1) := by decide +kernel
theorem dX9_allows_6 : decode cX9_allows 6 = .ok (.if_icmp .lt 6, 3) := by decide +kernel
theorem dX9_allows_9 : decode cX9_allows 9 = .ok (.ldc 75, 2) := by decide +kernel
theorem dX9_allows_11 : decode cX9_allows 11 = .ok (.ireturn, 1) := by decide +kernel
theorem dX9_allows_12 : decode cX9_allows 12 = .ok (.aload_n 0, 1) := by decide +kernel
theorem dX9_allows_13 : decode cX9_allows 13 = .ok (.getfield 29, 3) := by decide +kernel
theorem dX9_allows_16 : decode cX9_allows 16 = .ok (.iload_n 1, 1) := by decide +kernel
theorem dX9_allows_17 : decode cX9_allows 17 = .ok (.aload_n 0, 1) := by decide +kernel
theorem dX9_allows_18 : decode cX9_allows 18 = .ok (.getfield 19, 3) := by decide +kernel
theorem dX9_allows_21 : decode cX9_allows 21 = .ok (.invokevirtual 258, 3) := by decide +kernel
theorem dX9_allows_24 : decode cX9_allows 24 = .ok (.invokevirtual 261, 3) := by decide +kernel
theorem dX9_allows_27 : decode cX9_allows 27 = .ok (.ireturn, 1) := by decide +kernel
theorem dX9_run_0 : decode cX9_run 0 = .ok (.iload_n 1, 1) := by decide +kernel
theorem dX9_run_1 : decode cX9_run 1 = .ok (.ifCond .lt 8, 3) := by decide +kernel
theorem dX9_run_4 : decode cX9_run 4 = .ok (.iload_n 1, 1) := by decide +kernel
theorem dX9_run_5 : decode cX9_run 5 = .ok (.iconst 1, 1) := by decide +kernel
theorem dX9_run_6 : decode cX9_run 6 = .ok (.if_icmp .le 6, 3) := by decide +kernel
theorem dX9_run_9 : decode cX9_run 9 = .ok (.ldc 75, 2) := by decide +kernel
theorem dX9_run_11 : decode cX9_run 11 = .ok (.ireturn, 1) := by decide +kernel
theorem dX9_run_12 : decode cX9_run 12 = .ok (.aload_n 0, 1) := by decide +kernel
theorem dX9_run_13 : decode cX9_run 13 = .ok (.getfield 29, 3) := by decide +kernel
theorem dX9_run_16 : decode cX9_run 16 = .ok (.invokevirtual 264, 3) := by decide +kernel
theorem dX9_run_19 : decode cX9_run 19 = .ok (.istore_n 2, 1) := by decide +kernel
theorem dX9_run_20 : decode cX9_run 20 = .ok (.iload_n 1, 1) := by decide +kernel
theorem dX9_run_21 : decode cX9_run 21 = .ok (.iconst 1, 1) := by decide +kernel
theorem dX9_run_22 : decode cX9_run 22 = .ok (.if_icmp .ne 5, 3) := by decide +kernel
theorem dX9_run_25 : decode cX9_run 25 = .ok (.iload_n 2, 1) := by decide +kernel
theorem dX9_run_26 : decode cX9_run 26 = .ok (.ireturn, 1) := by decide +kernel
theorem dX9_run_27 : decode cX9_run 27 = .ok (.iload_n 2, 1) := by decide +kernel
theorem dX9_run_28 : decode cX9_run 28 = .ok (.iconst (-1), 1) := by decide +kernel
theorem dX9_run_29 : decode cX9_run 29 = .ok (.if_icmp .ne 7, 3) := by decide +kernel
theorem dX9_run_32 : decode cX9_run 32 = .ok (.iconst 0, 1) := by decide +kernel
theorem dX9_run_33 : decode cX9_run 33 = .ok (.goto 11, 3) := by decide +kernel
theorem dX9_run_36 : decode cX9_run 36 = .ok (.aload_n 0, 1) := by decide +kernel
theorem dX9_run_37 : decode cX9_run 37 = .ok (.getfield 29, 3) := by decide +kernel
theorem dX9_run_40 : decode cX9_run 40 = .ok (.iload_n 2, 1) := by decide +kernel
theorem dX9_run_41 : decode cX9_run 41 = .ok (.invokevirtual 267, 3) := by decide +kernel
theorem dX9_run_44 : decode cX9_run 44 = .ok (.ireturn, 1) := by decide +kernel
theorem dX9_fair_0 : decode cX9_fair 0 = .ok (.iload_n 1, 1) := by decide +kernel
theorem dX9_fair_1 : decode cX9_fair 1 = .ok (.iconst (-1), 1) := by decide +kernel
theorem dX9_fair_2 : decode cX9_fair 2 = .ok (.if_icmp .eq 17, 3) := by decide +kernel
theorem dX9_fair_5 : decode cX9_fair 5 = .ok (.aload_n 0, 1) := by decide +kernel
theorem dX9_fair_6 : decode cX9_fair 6 = .ok (.getfield 29, 3) := by decide +kernel
theorem dX9_fair_9 : decode cX9_fair 9 = .ok (.iload_n 1, 1) := by decide +kernel
theorem dX9_fair_10 : decode cX9_fair 10 = .ok (.invokevirtual 168, 3) := by decide +kernel
theorem dX9_fair_13 : decode cX9_fair 13 = .ok (.ifCond .ne 6, 3) := by decide +kernel
theorem dX9_fair_16 : decode cX9_fair 16 = .ok (.ldc 172, 2) := by decide +kernel
theorem dX9_fair_18 : decode cX9_fair 18 = .ok (.ireturn, 1) := by decide +kernel
theorem dX9_fair_19 : decode cX9_fair 19 = .ok (.aload_n 0, 1) := by decide +kernel
theorem dX9_fair_20 : decode cX9_fair 20 = .ok (.getfield 19, 3) := by decide +kernel
theorem dX9_fair_23 : decode cX9_fair 23 = .ok (.getfield 111, 3) := by decide +kernel
theorem dX9_fair_26 : decode cX9_fair 26 = .ok (.ifCond .ne 5, 3) := by decide +kernel
theorem dX9_fair_29 : decode cX9_fair 29 = .ok (.iconst (-1), 1) := by decide +kernel
theorem dX9_fair_30 : decode cX9_fair 30 = .ok (.ireturn, 1) := by decide +kernel
theorem dX9_fair_31 : decode cX9_fair 31 = .ok (.aload_n 0, 1) := by decide +kernel
theorem dX9_fair_32 : decode cX9_fair 32 = .ok (.getfield 64, 3) := by decide +kernel
theorem dX9_fair_35 : decode cX9_fair 35 = .ok (.aload_n 0, 1) := by decide +kernel
theorem dX9_fair_36 : decode cX9_fair 36 = .ok (.getfield 29, 3) := by decide +kernel
theorem dX9_fair_39 : decode cX9_fair 39 = .ok (.aload_n 0, 1) := by decide +kernel
theorem dX9_fair_40 : decode cX9_fair 40 = .ok (.getfield 19, 3) := by decide +kernel
theorem dX9_fair_43 : decode cX9_fair 43 = .ok (.getfield 111, 3) := by decide +kernel
theorem dX9_fair_46 : decode cX9_fair 46 = .ok (.iload_n 1, 1) := by decide +kernel
theorem dX9_fair_47 : decode cX9_fair 47 = .ok (.invokevirtual 270, 3) := by decide +kernel
theorem dX9_fair_50 : decode cX9_fair 50 = .ok (.istore_n 2, 1) := by decide +kernel
theorem dX9_fair_51 : decode cX9_fair 51 = .ok (.iload_n 1, 1) := by decide +kernel
theorem dX9_fair_52 : decode cX9_fair 52 = .ok (.iconst (-1), 1) := by decide +kernel
theorem dX9_fair_53 : decode cX9_fair 53 = .ok (.if_icmp .ne 23, 3) := by decide +kernel
theorem dX9_fair_56 : decode cX9_fair 56 = .ok (.aload_n 0, 1) := by decide +kernel
theorem dX9_fair_57 : decode cX9_fair 57 = .ok (.getfield 64, 3) := by decide +kernel
theorem dX9_fair_60 : decode cX9_fair 60 = .ok (.getfield 273, 3) := by decide +kernel
theorem dX9_fair_63 : decode cX9_fair 63 = .ok (.aload_n 0, 1) := by decide +kernel
theorem dX9_fair_64 : decode cX9_fair 64 = .ok (.getfield 19, 3) := by decide +kernel
theorem dX9_fair_67 : decode cX9_fair 67 = .ok (.getfield 111, 3) := by decide +kernel
theorem dX9_fair_70 : decode cX9_fair 70 = .ok (.invokestatic 153, 3) := by decide +kernel
theorem dX9_fair_73 : decode cX9_fair 73 = .ok (.goto 4, 3) := by decide +kernel
theorem dX9_fair_76 : decode cX9_fair 76 = .ok (.iload_n 2, 1) := by decide +kernel
theorem dX9_fair_77 : decode cX9_fair 77 = .ok (.ireturn, 1) := by decide +kernel
theorem dX9_dry_0 : decode cX9_dry 0 = .ok (.iload_n 1, 1) := by decide +kernel
theorem dX9_dry_1 : decode cX9_dry 1 = .ok (.ifCond .lt 19, 3) := by decide +kernel
theorem dX9_dry_4 : decode cX9_dry 4 = .ok (.iload_n 1, 1) := by decide +kernel
theorem dX9_dry_5 : decode cX9_dry 5 = .ok (.bipush 60, 2) := by decide +kernel
theorem dX9_dry_7 : decode cX9_dry 7 = .ok (.if_icmp .gt 13, 3) := by decide +kernel
theorem dX9_dry_10 : decode cX9_dry 10 = .ok (.iload_n 2, 1) := by decide +kernel
theorem dX9_dry_11 : decode cX9_dry 11 = .ok (.ifCond .lt 9, 3) := by decide +kernel
theorem dX9_dry_14 : decode cX9_dry 14 = .ok (.iload_n 2, 1) := by decide +kernel
theorem dX9_dry_15 : decode cX9_dry 15 = .ok (.bipush 100, 2) := by decide +kernel
theorem dX9_dry_17 : decode cX9_dry 17 = .ok (.if_icmp .le 6, 3) := by decide +kernel
theorem dX9_dry_20 : decode cX9_dry 20 = .ok (.ldc 75, 2) := by decide +kernel
theorem dX9_dry_22 : decode cX9_dry 22 = .ok (.ireturn, 1) := by decide +kernel
theorem dX9_dry_23 : decode cX9_dry 23 = .ok (.ldc2_w 276, 3) := by decide +kernel
theorem dX9_dry_26 : decode cX9_dry 26 = .ok (.lstore_n 3, 1) := by decide +kernel
theorem dX9_dry_27 : decode cX9_dry 27 = .ok (.iconst 0, 1) := by decide +kernel
theorem dX9_dry_28 : decode cX9_dry 28 = .ok (.istore 5, 2) := by decide +kernel
theorem dX9_dry_30 : decode cX9_dry 30 = .ok (.iload 5, 2) := by decide +kernel
theorem dX9_dry_32 : decode cX9_dry 32 = .ok (.iload_n 1, 1) := by decide +kernel
theorem dX9_dry_33 : decode cX9_dry 33 = .ok (.if_icmp .ge 18, 3) := by decide +kernel
theorem dX9_dry_36 : decode cX9_dry 36 = .ok (.lload_n 3, 1) := by decide +kernel
theorem dX9_dry_37 : decode cX9_dry 37 = .ok (.iload_n 2, 1) := by decide +kernel
theorem dX9_dry_38 : decode cX9_dry 38 = .ok (.i2l, 1) := by decide +kernel
theorem dX9_dry_39 : decode cX9_dry 39 = .ok (.lmul, 1) := by decide +kernel
theorem dX9_dry_40 : decode cX9_dry 40 = .ok (.ldc2_w 278, 3) := by decide +kernel
theorem dX9_dry_43 : decode cX9_dry 43 = .ok (.ldiv, 1) := by decide +kernel
theorem dX9_dry_44 : decode cX9_dry 44 = .ok (.lstore_n 3, 1) := by decide +kernel
theorem dX9_dry_45 : decode cX9_dry 45 = .ok (.iinc 5 1, 3) := by decide +kernel
theorem dX9_dry_48 : decode cX9_dry 48 = .ok (.goto (-18), 3) := by decide +kernel
theorem dX9_dry_51 : decode cX9_dry 51 = .ok (.lload_n 3, 1) := by decide +kernel
theorem dX9_dry_52 : decode cX9_dry 52 = .ok (.l2i, 1) := by decide +kernel
theorem dX9_dry_53 : decode cX9_dry 53 = .ok (.ireturn, 1) := by decide +kernel
theorem dX9_guess_0 : decode cX9_guess 0 = .ok (.iload_n 1, 1) := by decide +kernel
theorem dX9_guess_1 : decode cX9_guess 1 = .ok (.ifCond .lt 18, 3) := by decide +kernel
theorem dX9_guess_4 : decode cX9_guess 4 = .ok (.iload_n 1, 1) := by decide +kernel
theorem dX9_guess_5 : decode cX9_guess 5 = .ok (.bipush 8, 2) := by decide +kernel
theorem dX9_guess_7 : decode cX9_guess 7 = .ok (.if_icmp .ge 12, 3) := by decide +kernel
theorem dX9_guess_10 : decode cX9_guess 10 = .ok (.iload_n 2, 1) := by decide +kernel
theorem dX9_guess_11 : decode cX9_guess 11 = .ok (.ifCond .lt 8, 3) := by decide +kernel
theorem dX9_guess_14 : decode cX9_guess 14 = .ok (.iload_n 2, 1) := by decide +kernel
theorem dX9_guess_15 : decode cX9_guess 15 = .ok (.iconst 5, 1) := by decide +kernel
theorem dX9_guess_16 : decode cX9_guess 16 = .ok (.if_icmp .lt 6, 3) := by decide +kernel
theorem dX9_guess_19 : decode cX9_guess 19 = .ok (.ldc 75, 2) := by decide +kernel
theorem dX9_guess_21 : decode cX9_guess 21 = .ok (.ireturn, 1) := by decide +kernel
theorem dX9_guess_22 : decode cX9_guess 22 = .ok (.aload_n 0, 1) := by decide +kernel
theorem dX9_guess_23 : decode cX9_guess 23 = .ok (.getfield 50, 3) := by decide +kernel
theorem dX9_guess_26 : decode cX9_guess 26 = .ok (.iload_n 1, 1) := by decide +kernel
theorem dX9_guess_27 : decode cX9_guess 27 = .ok (.iload_n 2, 1) := by decide +kernel
theorem dX9_guess_28 : decode cX9_guess 28 = .ok (.iload_n 3, 1) := by decide +kernel
theorem dX9_guess_29 : decode cX9_guess 29 = .ok (.invokevirtual 280, 3) := by decide +kernel
theorem dX9_guess_32 : decode cX9_guess 32 = .ok (.ireturn, 1) := by decide +kernel
theorem dX9_couldBe_0 : decode cX9_couldBe 0 = .ok (.aload_n 0, 1) := by decide +kernel
theorem dX9_couldBe_1 : decode cX9_couldBe 1 = .ok (.getfield 50, 3) := by decide +kernel
theorem dX9_couldBe_4 : decode cX9_couldBe 4 = .ok (.aload_n 0, 1) := by decide +kernel
theorem dX9_couldBe_5 : decode cX9_couldBe 5 = .ok (.getfield 19, 3) := by decide +kernel
theorem dX9_couldBe_8 : decode cX9_couldBe 8 = .ok (.invokevirtual 283, 3) := by decide +kernel
theorem dX9_couldBe_11 : decode cX9_couldBe 11 = .ok (.ireturn, 1) := by decide +kernel
theorem dX9_ask_0 : decode cX9_ask 0 = .ok (.aload_n 0, 1) := by decide +kernel
theorem dX9_ask_1 : decode cX9_ask 1 = .ok (.getfield 64, 3) := by decide +kernel
theorem dX9_ask_4 : decode cX9_ask 4 = .ok (.aload_n 0, 1) := by decide +kernel
theorem dX9_ask_5 : decode cX9_ask 5 = .ok (.getfield 19, 3) := by decide +kernel
theorem dX9_ask_8 : decode cX9_ask 8 = .ok (.aload_n 0, 1) := by decide +kernel
theorem dX9_ask_9 : decode cX9_ask 9 = .ok (.getfield 50, 3) := by decide +kernel
theorem dX9_ask_12 : decode cX9_ask 12 = .ok (.aload_n 0, 1) := by decide +kernel
theorem dX9_ask_13 : decode cX9_ask 13 = .ok (.getfield 19, 3) := by decide +kernel
theorem dX9_ask_16 : decode cX9_ask 16 = .ok (.invokevirtual 283, 3) := by decide +kernel
theorem dX9_ask_19 : decode cX9_ask 19 = .ok (.invokevirtual 286, 3) := by decide +kernel
theorem dX9_ask_22 : decode cX9_ask 22 = .ok (.ireturn, 1) := by decide +kernel
theorem dX9_write_0 : decode cX9_write 0 = .ok (.aload_n 0, 1) := by decide +kernel
theorem dX9_write_1 : decode cX9_write 1 = .ok (.getfield 19, 3) := by decide +kernel
theorem dX9_write_4 : decode cX9_write 4 = .ok (.iload_n 1, 1) := by decide +kernel
theorem dX9_write_5 : decode cX9_write 5 = .ok (.invokevirtual 185, 3) := by decide +kernel
theorem dX9_write_8 : decode cX9_write 8 = .ok (.ifCond .ne 6, 3) := by decide +kernel
theorem dX9_write_11 : decode cX9_write 11 = .ok (.ldc 172, 2) := by decide +kernel
theorem dX9_write_13 : decode cX9_write 13 = .ok (.ireturn, 1) := by decide +kernel
theorem dX9_write_14 : decode cX9_write 14 = .ok (.iload_n 2, 1) := by decide +kernel
theorem dX9_write_15 : decode cX9_write 15 = .ok (.ifCond .lt 10, 3) := by decide +kernel
theorem dX9_write_18 : decode cX9_write 18 = .ok (.iload_n 2, 1) := by decide +kernel
theorem dX9_write_19 : decode cX9_write 19 = .ok (.sipush 9999, 3) := by decide +kernel
theorem dX9_write_22 : decode cX9_write 22 = .ok (.if_icmp .le 6, 3) := by decide +kernel
theorem dX9_write_25 : decode cX9_write 25 = .ok (.ldc 75, 2) := by decide +kernel
theorem dX9_write_27 : decode cX9_write 27 = .ok (.ireturn, 1) := by decide +kernel
theorem dX9_write_28 : decode cX9_write 28 = .ok (.aload_n 0, 1) := by decide +kernel
theorem dX9_write_29 : decode cX9_write 29 = .ok (.getfield 57, 3) := by decide +kernel
theorem dX9_write_32 : decode cX9_write 32 = .ok (.iload_n 1, 1) := by decide +kernel
theorem dX9_write_33 : decode cX9_write 33 = .ok (.iload_n 2, 1) := by decide +kernel
theorem dX9_write_34 : decode cX9_write 34 = .ok (.invokevirtual 290, 3) := by decide +kernel
theorem dX9_write_37 : decode cX9_write 37 = .ok (.ireturn, 1) := by decide +kernel
theorem dX9_judge_0 : decode cX9_judge 0 = .ok (.aload_n 0, 1) := by decide +kernel
theorem dX9_judge_1 : decode cX9_judge 1 = .ok (.getfield 57, 3) := by decide +kernel
theorem dX9_judge_4 : decode cX9_judge 4 = .ok (.aload_n 0, 1) := by decide +kernel
theorem dX9_judge_5 : decode cX9_judge 5 = .ok (.getfield 29, 3) := by decide +kernel
theorem dX9_judge_8 : decode cX9_judge 8 = .ok (.invokevirtual 292, 3) := by decide +kernel
theorem dX9_judge_11 : decode cX9_judge 11 = .ok (.ireturn, 1) := by decide +kernel
theorem dX9_tear_0 : decode cX9_tear 0 = .ok (.aload_n 0, 1) := by decide +kernel
theorem dX9_tear_1 : decode cX9_tear 1 = .ok (.getfield 50, 3) := by decide +kernel
theorem dX9_tear_4 : decode cX9_tear 4 = .ok (.getfield 91, 3) := by decide +kernel
theorem dX9_tear_7 : decode cX9_tear 7 = .ok (.aload_n 0, 1) := by decide +kernel
theorem dX9_tear_8 : decode cX9_tear 8 = .ok (.getfield 57, 3) := by decide +kernel
theorem dX9_tear_11 : decode cX9_tear 11 = .ok (.getfield 94, 3) := by decide +kernel
theorem dX9_tear_14 : decode cX9_tear 14 = .ok (.iadd, 1) := by decide +kernel
theorem dX9_tear_15 : decode cX9_tear 15 = .ok (.istore_n 1, 1) := by decide +kernel
theorem dX9_tear_16 : decode cX9_tear 16 = .ok (.aload_n 0, 1) := by decide +kernel
theorem dX9_tear_17 : decode cX9_tear 17 = .ok (.getfield 50, 3) := by decide +kernel
theorem dX9_tear_20 : decode cX9_tear 20 = .ok (.iconst 0, 1) := by decide +kernel
theorem dX9_tear_21 : decode cX9_tear 21 = .ok (.putfield 91, 3) := by decide +kernel
theorem dX9_tear_24 : decode cX9_tear 24 = .ok (.aload_n 0, 1) := by decide +kernel
theorem dX9_tear_25 : decode cX9_tear 25 = .ok (.getfield 57, 3) := by decide +kernel
theorem dX9_tear_28 : decode cX9_tear 28 = .ok (.iconst 0, 1) := by decide +kernel
theorem dX9_tear_29 : decode cX9_tear 29 = .ok (.putfield 94, 3) := by decide +kernel
theorem dX9_tear_32 : decode cX9_tear 32 = .ok (.iload_n 1, 1) := by decide +kernel
theorem dX9_tear_33 : decode cX9_tear 33 = .ok (.ireturn, 1) := by decide +kernel
theorem dX9_seed_0 : decode cX9_seed 0 = .ok (.iload_n 1, 1) := by decide +kernel
theorem dX9_seed_1 : decode cX9_seed 1 = .ok (.ifCond .ge 6, 3) := by decide +kernel
theorem dX9_seed_4 : decode cX9_seed 4 = .ok (.ldc 75, 2) := by decide +kernel
theorem dX9_seed_6 : decode cX9_seed 6 = .ok (.ireturn, 1) := by decide +kernel
theorem dX9_seed_7 : decode cX9_seed 7 = .ok (.aload_n 0, 1) := by decide +kernel
theorem dX9_seed_8 : decode cX9_seed 8 = .ok (.getfield 71, 3) := by decide +kernel
theorem dX9_seed_11 : decode cX9_seed 11 = .ok (.getfield 295, 3) := by decide +kernel
theorem dX9_seed_14 : decode cX9_seed 14 = .ok (.istore_n 2, 1) := by decide +kernel
theorem dX9_seed_15 : decode cX9_seed 15 = .ok (.aload_n 0, 1) := by decide +kernel
theorem dX9_seed_16 : decode cX9_seed 16 = .ok (.getfield 71, 3) := by decide +kernel
theorem dX9_seed_19 : decode cX9_seed 19 = .ok (.iload_n 1, 1) := by decide +kernel
theorem dX9_seed_20 : decode cX9_seed 20 = .ok (.putfield 295, 3) := by decide +kernel
theorem dX9_seed_23 : decode cX9_seed 23 = .ok (.iload_n 2, 1) := by decide +kernel
theorem dX9_seed_24 : decode cX9_seed 24 = .ok (.ireturn, 1) := by decide +kernel
theorem dX9_keep_0 : decode cX9_keep 0 = .ok (.iload_n 1, 1) := by decide +kernel
theorem dX9_keep_1 : decode cX9_keep 1 = .ok (.ifCond .lt 8, 3) := by decide +kernel
theorem dX9_keep_4 : decode cX9_keep 4 = .ok (.iload_n 1, 1) := by decide +kernel
theorem dX9_keep_5 : decode cX9_keep 5 = .ok (.iconst 2, 1) := by decide +kernel
theorem dX9_keep_6 : decode cX9_keep 6 = .ok (.if_icmp .lt 6, 3) := by decide +kernel
theorem dX9_keep_9 : decode cX9_keep 9 = .ok (.ldc 172, 2) := by decide +kernel
theorem dX9_keep_11 : decode cX9_keep 11 = .ok (.ireturn, 1) := by decide +kernel
theorem dX9_keep_12 : decode cX9_keep 12 = .ok (.aload_n 0, 1) := by decide +kernel
theorem dX9_keep_13 : decode cX9_keep 13 = .ok (.getfield 42, 3) := by decide +kernel
theorem dX9_keep_16 : decode cX9_keep 16 = .ok (.iload_n 1, 1) := by decide +kernel
theorem dX9_keep_17 : decode cX9_keep 17 = .ok (.aaload, 1) := by decide +kernel
theorem dX9_keep_18 : decode cX9_keep 18 = .ok (.iconst 1, 1) := by decide +kernel
theorem dX9_keep_19 : decode cX9_keep 19 = .ok (.putfield 98, 3) := by decide +kernel
theorem dX9_keep_22 : decode cX9_keep 22 = .ok (.aload_n 0, 1) := by decide +kernel
theorem dX9_keep_23 : decode cX9_keep 23 = .ok (.getfield 42, 3) := by decide +kernel
theorem dX9_keep_26 : decode cX9_keep 26 = .ok (.iload_n 1, 1) := by decide +kernel
theorem dX9_keep_27 : decode cX9_keep 27 = .ok (.aaload, 1) := by decide +kernel
theorem dX9_keep_28 : decode cX9_keep 28 = .ok (.getfield 298, 3) := by decide +kernel
theorem dX9_keep_31 : decode cX9_keep 31 = .ok (.aload_n 0, 1) := by decide +kernel
theorem dX9_keep_32 : decode cX9_keep 32 = .ok (.getfield 29, 3) := by decide +kernel
theorem dX9_keep_35 : decode cX9_keep 35 = .ok (.invokevirtual 299, 3) := by decide +kernel
theorem dX9_keep_38 : decode cX9_keep 38 = .ok (.aload_n 0, 1) := by decide +kernel
theorem dX9_keep_39 : decode cX9_keep 39 = .ok (.getfield 42, 3) := by decide +kernel
theorem dX9_keep_42 : decode cX9_keep 42 = .ok (.iload_n 1, 1) := by decide +kernel
theorem dX9_keep_43 : decode cX9_keep 43 = .ok (.aaload, 1) := by decide +kernel
theorem dX9_keep_44 : decode cX9_keep 44 = .ok (.aload_n 0, 1) := by decide +kernel
theorem dX9_keep_45 : decode cX9_keep 45 = .ok (.getfield 71, 3) := by decide +kernel
theorem dX9_keep_48 : decode cX9_keep 48 = .ok (.getfield 295, 3) := by decide +kernel
theorem dX9_keep_51 : decode cX9_keep 51 = .ok (.putfield 302, 3) := by decide +kernel
theorem dX9_keep_54 : decode cX9_keep 54 = .ok (.aload_n 0, 1) := by decide +kernel
theorem dX9_keep_55 : decode cX9_keep 55 = .ok (.getfield 36, 3) := by decide +kernel
theorem dX9_keep_58 : decode cX9_keep 58 = .ok (.invokevirtual 95, 3) := by decide +kernel
theorem dX9_keep_61 : decode cX9_keep 61 = .ok (.iconst 1, 1) := by decide +kernel
theorem dX9_keep_62 : decode cX9_keep 62 = .ok (.ireturn, 1) := by decide +kernel
theorem dX9_goBack_0 : decode cX9_goBack 0 = .ok (.iload_n 1, 1) := by decide +kernel
theorem dX9_goBack_1 : decode cX9_goBack 1 = .ok (.ifCond .lt 8, 3) := by decide +kernel
theorem dX9_goBack_4 : decode cX9_goBack 4 = .ok (.iload_n 1, 1) := by decide +kernel
theorem dX9_goBack_5 : decode cX9_goBack 5 = .ok (.iconst 2, 1) := by decide +kernel
theorem dX9_goBack_6 : decode cX9_goBack 6 = .ok (.if_icmp .lt 6, 3) := by decide +kernel
theorem dX9_goBack_9 : decode cX9_goBack 9 = .ok (.ldc 172, 2) := by decide +kernel
theorem dX9_goBack_11 : decode cX9_goBack 11 = .ok (.ireturn, 1) := by decide +kernel
theorem dX9_goBack_12 : decode cX9_goBack 12 = .ok (.aload_n 0, 1) := by decide +kernel
theorem dX9_goBack_13 : decode cX9_goBack 13 = .ok (.getfield 42, 3) := by decide +kernel
theorem dX9_goBack_16 : decode cX9_goBack 16 = .ok (.iload_n 1, 1) := by decide +kernel
theorem dX9_goBack_17 : decode cX9_goBack 17 = .ok (.aaload, 1) := by decide +kernel
theorem dX9_goBack_18 : decode cX9_goBack 18 = .ok (.getfield 98, 3) := by decide +kernel
theorem dX9_goBack_21 : decode cX9_goBack 21 = .ok (.ifCond .ne 6, 3) := by decide +kernel
theorem dX9_goBack_24 : decode cX9_goBack 24 = .ok (.ldc 211, 2) := by decide +kernel
theorem dX9_goBack_26 : decode cX9_goBack 26 = .ok (.ireturn, 1) := by decide +kernel
theorem dX9_goBack_27 : decode cX9_goBack 27 = .ok (.aload_n 0, 1) := by decide +kernel
theorem dX9_goBack_28 : decode cX9_goBack 28 = .ok (.getfield 29, 3) := by decide +kernel
theorem dX9_goBack_31 : decode cX9_goBack 31 = .ok (.aload_n 0, 1) := by decide +kernel
theorem dX9_goBack_32 : decode cX9_goBack 32 = .ok (.getfield 42, 3) := by decide +kernel
theorem dX9_goBack_35 : decode cX9_goBack 35 = .ok (.iload_n 1, 1) := by decide +kernel
theorem dX9_goBack_36 : decode cX9_goBack 36 = .ok (.aaload, 1) := by decide +kernel
theorem dX9_goBack_37 : decode cX9_goBack 37 = .ok (.getfield 298, 3) := by decide +kernel
theorem dX9_goBack_40 : decode cX9_goBack 40 = .ok (.invokevirtual 299, 3) := by decide +kernel
theorem dX9_goBack_43 : decode cX9_goBack 43 = .ok (.aload_n 0, 1) := by decide +kernel
theorem dX9_goBack_44 : decode cX9_goBack 44 = .ok (.getfield 71, 3) := by decide +kernel
theorem dX9_goBack_47 : decode cX9_goBack 47 = .ok (.aload_n 0, 1) := by decide +kernel
theorem dX9_goBack_48 : decode cX9_goBack 48 = .ok (.getfield 42, 3) := by decide +kernel
theorem dX9_goBack_51 : decode cX9_goBack 51 = .ok (.iload_n 1, 1) := by decide +kernel
theorem dX9_goBack_52 : decode cX9_goBack 52 = .ok (.aaload, 1) := by decide +kernel
theorem dX9_goBack_53 : decode cX9_goBack 53 = .ok (.getfield 302, 3) := by decide +kernel
theorem dX9_goBack_56 : decode cX9_goBack 56 = .ok (.putfield 295, 3) := by decide +kernel
theorem dX9_goBack_59 : decode cX9_goBack 59 = .ok (.aload_n 0, 1) := by decide +kernel
theorem dX9_goBack_60 : decode cX9_goBack 60 = .ok (.getfield 36, 3) := by decide +kernel
theorem dX9_goBack_63 : decode cX9_goBack 63 = .ok (.invokevirtual 95, 3) := by decide +kernel
theorem dX9_goBack_66 : decode cX9_goBack 66 = .ok (.iconst 1, 1) := by decide +kernel
theorem dX9_goBack_67 : decode cX9_goBack 67 = .ok (.ireturn, 1) := by decide +kernel
theorem dX9_refusalOfYears_0 : decode cX9_refusalOfYears 0 = .ok (.iload_n 1, 1) := by decide +kernel
theorem dX9_refusalOfYears_1 : decode cX9_refusalOfYears 1 = .ok (.iconst 1, 1) := by decide +kernel
theorem dX9_refusalOfYears_2 : decode cX9_refusalOfYears 2 = .ok (.if_icmp .lt 9, 3) := by decide +kernel
theorem dX9_refusalOfYears_5 : decode cX9_refusalOfYears 5 = .ok (.iload_n 1, 1) := by decide +kernel
theorem dX9_refusalOfYears_6 : decode cX9_refusalOfYears 6 = .ok (.bipush 30, 2) := by decide +kernel
theorem dX9_refusalOfYears_8 : decode cX9_refusalOfYears 8 = .ok (.if_icmp .le 6, 3) := by decide +kernel
theorem dX9_refusalOfYears_11 : decode cX9_refusalOfYears 11 = .ok (.ldc 75, 2) := by decide +kernel
theorem dX9_refusalOfYears_13 : decode cX9_refusalOfYears 13 = .ok (.ireturn, 1) := by decide +kernel
theorem dX9_refusalOfYears_14 : decode cX9_refusalOfYears 14 = .ok (.aload_n 0, 1) := by decide +kernel
theorem dX9_refusalOfYears_15 : decode cX9_refusalOfYears 15 = .ok (.getfield 19, 3) := by decide +kernel
theorem dX9_refusalOfYears_18 : decode cX9_refusalOfYears 18 = .ok (.getfield 108, 3) := by decide +kernel
theorem dX9_refusalOfYears_21 : decode cX9_refusalOfYears 21 = .ok (.ifCond .ne 6, 3) := by decide +kernel
theorem dX9_refusalOfYears_24 : decode cX9_refusalOfYears 24 = .ok (.ldc 211, 2) := by decide +kernel
theorem dX9_refusalOfYears_26 : decode cX9_refusalOfYears 26 = .ok (.ireturn, 1) := by decide +kernel
theorem dX9_refusalOfYears_27 : decode cX9_refusalOfYears 27 = .ok (.aload_n 0, 1) := by decide +kernel
theorem dX9_refusalOfYears_28 : decode cX9_refusalOfYears 28 = .ok (.getfield 29, 3) := by decide +kernel
theorem dX9_refusalOfYears_31 : decode cX9_refusalOfYears 31 = .ok (.getfield 120, 3) := by decide +kernel
theorem dX9_refusalOfYears_34 : decode cX9_refusalOfYears 34 = .ok (.sipush 9000, 3) := by decide +kernel
theorem dX9_refusalOfYears_37 : decode cX9_refusalOfYears 37 = .ok (.if_icmp .le 9, 3) := by decide +kernel
theorem dX9_refusalOfYears_40 : decode cX9_refusalOfYears 40 = .ok (.ldc_w 305, 3) := by decide +kernel
theorem dX9_refusalOfYears_43 : decode cX9_refusalOfYears 43 = .ok (.goto 4, 3) := by decide +kernel
theorem dX9_refusalOfYears_46 : decode cX9_refusalOfYears 46 = .ok (.iconst 0, 1) := by decide +kernel
theorem dX9_refusalOfYears_47 : decode cX9_refusalOfYears 47 = .ok (.ireturn, 1) := by decide +kernel
theorem dX9_doByDraw_0 : decode cX9_doByDraw 0 = .ok (.aload_n 0, 1) := by decide +kernel
theorem dX9_doByDraw_1 : decode cX9_doByDraw 1 = .ok (.getfield 71, 3) := by decide +kernel
theorem dX9_doByDraw_4 : decode cX9_doByDraw 4 = .ok (.bipush 6, 2) := by decide +kernel
theorem dX9_doByDraw_6 : decode cX9_doByDraw 6 = .ok (.invokevirtual 306, 3) := by decide +kernel
theorem dX9_doByDraw_9 : decode cX9_doByDraw 9 = .ok (.tableswitch 133 0 3 #[31, 31, 88, 108], 31) := by decide +kernel
theorem dX9_doByDraw_40 : decode cX9_doByDraw 40 = .ok (.aload_n 0, 1) := by decide +kernel
theorem dX9_doByDraw_41 : decode cX9_doByDraw 41 = .ok (.getfield 71, 3) := by decide +kernel
theorem dX9_doByDraw_44 : decode cX9_doByDraw 44 = .ok (.aload_n 0, 1) := by decide +kernel
theorem dX9_doByDraw_45 : decode cX9_doByDraw 45 = .ok (.getfield 19, 3) := by decide +kernel
theorem dX9_doByDraw_48 : decode cX9_doByDraw 48 = .ok (.getfield 111, 3) := by decide +kernel
theorem dX9_doByDraw_51 : decode cX9_doByDraw 51 = .ok (.invokevirtual 306, 3) := by decide +kernel
theorem dX9_doByDraw_54 : decode cX9_doByDraw 54 = .ok (.istore_n 1, 1) := by decide +kernel
theorem dX9_doByDraw_55 : decode cX9_doByDraw 55 = .ok (.aload_n 0, 1) := by decide +kernel
theorem dX9_doByDraw_56 : decode cX9_doByDraw 56 = .ok (.getfield 29, 3) := by decide +kernel
theorem dX9_doByDraw_59 : decode cX9_doByDraw 59 = .ok (.invokevirtual 207, 3) := by decide +kernel
theorem dX9_doByDraw_62 : decode cX9_doByDraw 62 = .ok (.ifCond .eq 80, 3) := by decide +kernel
theorem dX9_doByDraw_65 : decode cX9_doByDraw 65 = .ok (.aload_n 0, 1) := by decide +kernel
theorem dX9_doByDraw_66 : decode cX9_doByDraw 66 = .ok (.getfield 19, 3) := by decide +kernel
theorem dX9_doByDraw_69 : decode cX9_doByDraw 69 = .ok (.iload_n 1, 1) := by decide +kernel
theorem dX9_doByDraw_70 : decode cX9_doByDraw 70 = .ok (.invokevirtual 185, 3) := by decide +kernel
theorem dX9_doByDraw_73 : decode cX9_doByDraw 73 = .ok (.ifCond .eq 69, 3) := by decide +kernel
theorem dX9_doByDraw_76 : decode cX9_doByDraw 76 = .ok (.aload_n 0, 1) := by decide +kernel
theorem dX9_doByDraw_77 : decode cX9_doByDraw 77 = .ok (.getfield 29, 3) := by decide +kernel
theorem dX9_doByDraw_80 : decode cX9_doByDraw 80 = .ok (.iload_n 1, 1) := by decide +kernel
theorem dX9_doByDraw_81 : decode cX9_doByDraw 81 = .ok (.aload_n 0, 1) := by decide +kernel
theorem dX9_doByDraw_82 : decode cX9_doByDraw 82 = .ok (.getfield 19, 3) := by decide +kernel
theorem dX9_doByDraw_85 : decode cX9_doByDraw 85 = .ok (.getfield 188, 3) := by decide +kernel
theorem dX9_doByDraw_88 : decode cX9_doByDraw 88 = .ok (.iload_n 1, 1) := by decide +kernel
theorem dX9_doByDraw_89 : decode cX9_doByDraw 89 = .ok (.iaload, 1) := by decide +kernel
theorem dX9_doByDraw_90 : decode cX9_doByDraw 90 = .ok (.invokevirtual 216, 3) := by decide +kernel
theorem dX9_doByDraw_93 : decode cX9_doByDraw 93 = .ok (.pop, 1) := by decide +kernel
theorem dX9_doByDraw_94 : decode cX9_doByDraw 94 = .ok (.goto 48, 3) := by decide +kernel
theorem dX9_doByDraw_97 : decode cX9_doByDraw 97 = .ok (.aload_n 0, 1) := by decide +kernel
theorem dX9_doByDraw_98 : decode cX9_doByDraw 98 = .ok (.getfield 29, 3) := by decide +kernel
theorem dX9_doByDraw_101 : decode cX9_doByDraw 101 = .ok (.getfield 102, 3) := by decide +kernel
theorem dX9_doByDraw_104 : decode cX9_doByDraw 104 = .ok (.ifCond .le 38, 3) := by decide +kernel
theorem dX9_doByDraw_107 : decode cX9_doByDraw 107 = .ok (.aload_n 0, 1) := by decide +kernel
theorem dX9_doByDraw_108 : decode cX9_doByDraw 108 = .ok (.getfield 29, 3) := by decide +kernel
theorem dX9_doByDraw_111 : decode cX9_doByDraw 111 = .ok (.invokevirtual 219, 3) := by decide +kernel
theorem dX9_doByDraw_114 : decode cX9_doByDraw 114 = .ok (.goto 28, 3) := by decide +kernel
theorem dX9_doByDraw_117 : decode cX9_doByDraw 117 = .ok (.aload_n 0, 1) := by decide +kernel
theorem dX9_doByDraw_118 : decode cX9_doByDraw 118 = .ok (.getfield 29, 3) := by decide +kernel
theorem dX9_doByDraw_121 : decode cX9_doByDraw 121 = .ok (.aload_n 0, 1) := by decide +kernel
theorem dX9_doByDraw_122 : decode cX9_doByDraw 122 = .ok (.getfield 29, 3) := by decide +kernel
theorem dX9_doByDraw_125 : decode cX9_doByDraw 125 = .ok (.getfield 123, 3) := by decide +kernel
theorem dX9_doByDraw_128 : decode cX9_doByDraw 128 = .ok (.ifCond .ne 7, 3) := by decide +kernel
theorem dX9_doByDraw_131 : decode cX9_doByDraw 131 = .ok (.iconst 1, 1) := by decide +kernel
theorem dX9_doByDraw_132 : decode cX9_doByDraw 132 = .ok (.goto 4, 3) := by decide +kernel
theorem dX9_doByDraw_135 : decode cX9_doByDraw 135 = .ok (.iconst 0, 1) := by decide +kernel
theorem dX9_doByDraw_136 : decode cX9_doByDraw 136 = .ok (.putfield 123, 3) := by decide +kernel
theorem dX9_doByDraw_139 : decode cX9_doByDraw 139 = .ok (.goto 3, 3) := by decide +kernel
theorem dX9_doByDraw_142 : decode cX9_doByDraw 142 = .ok (.return_, 1) := by decide +kernel
theorem dX9_spread_0 : decode cX9_spread 0 = .ok (.iload_n 1, 1) := by decide +kernel
theorem dX9_spread_1 : decode cX9_spread 1 = .ok (.iconst 1, 1) := by decide +kernel
theorem dX9_spread_2 : decode cX9_spread 2 = .ok (.if_icmp .lt 9, 3) := by decide +kernel
theorem dX9_spread_5 : decode cX9_spread 5 = .ok (.iload_n 1, 1) := by decide +kernel
theorem dX9_spread_6 : decode cX9_spread 6 = .ok (.aload_n 0, 1) := by decide +kernel
theorem dX9_spread_7 : decode cX9_spread 7 = .ok (.arraylength, 1) := by decide +kernel
theorem dX9_spread_8 : decode cX9_spread 8 = .ok (.if_icmp .le 5, 3) := by decide +kernel
theorem dX9_spread_11 : decode cX9_spread 11 = .ok (.iconst 0, 1) := by decide +kernel
theorem dX9_spread_12 : decode cX9_spread 12 = .ok (.ireturn, 1) := by decide +kernel
theorem dX9_spread_13 : decode cX9_spread 13 = .ok (.aload_n 0, 1) := by decide +kernel
theorem dX9_spread_14 : decode cX9_spread 14 = .ok (.iconst 0, 1) := by decide +kernel
theorem dX9_spread_15 : decode cX9_spread 15 = .ok (.iaload, 1) := by decide +kernel
theorem dX9_spread_16 : decode cX9_spread 16 = .ok (.istore_n 2, 1) := by decide +kernel
theorem dX9_spread_17 : decode cX9_spread 17 = .ok (.aload_n 0, 1) := by decide +kernel
theorem dX9_spread_18 : decode cX9_spread 18 = .ok (.iconst 0, 1) := by decide +kernel
theorem dX9_spread_19 : decode cX9_spread 19 = .ok (.iaload, 1) := by decide +kernel
theorem dX9_spread_20 : decode cX9_spread 20 = .ok (.istore_n 3, 1) := by decide +kernel
theorem dX9_spread_21 : decode cX9_spread 21 = .ok (.iconst 1, 1) := by decide +kernel
theorem dX9_spread_22 : decode cX9_spread 22 = .ok (.istore 4, 2) := by decide +kernel
theorem dX9_spread_24 : decode cX9_spread 24 = .ok (.iload 4, 2) := by decide +kernel
theorem dX9_spread_26 : decode cX9_spread 26 = .ok (.iload_n 1, 1) := by decide +kernel
theorem dX9_spread_27 : decode cX9_spread 27 = .ok (.if_icmp .ge 27, 3) := by decide +kernel
theorem dX9_spread_30 : decode cX9_spread 30 = .ok (.iload_n 2, 1) := by decide +kernel
theorem dX9_spread_31 : decode cX9_spread 31 = .ok (.aload_n 0, 1) := by decide +kernel
theorem dX9_spread_32 : decode cX9_spread 32 = .ok (.iload 4, 2) := by decide +kernel
theorem dX9_spread_34 : decode cX9_spread 34 = .ok (.iaload, 1) := by decide +kernel
theorem dX9_spread_35 : decode cX9_spread 35 = .ok (.invokestatic 309, 3) := by decide +kernel
theorem dX9_spread_38 : decode cX9_spread 38 = .ok (.istore_n 2, 1) := by decide +kernel
theorem dX9_spread_39 : decode cX9_spread 39 = .ok (.iload_n 3, 1) := by decide +kernel
theorem dX9_spread_40 : decode cX9_spread 40 = .ok (.aload_n 0, 1) := by decide +kernel
theorem dX9_spread_41 : decode cX9_spread 41 = .ok (.iload 4, 2) := by decide +kernel
theorem dX9_spread_43 : decode cX9_spread 43 = .ok (.iaload, 1) := by decide +kernel
theorem dX9_spread_44 : decode cX9_spread 44 = .ok (.invokestatic 314, 3) := by decide +kernel
theorem dX9_spread_47 : decode cX9_spread 47 = .ok (.istore_n 3, 1) := by decide +kernel
theorem dX9_spread_48 : decode cX9_spread 48 = .ok (.iinc 4 1, 3) := by decide +kernel
theorem dX9_spread_51 : decode cX9_spread 51 = .ok (.goto (-27), 3) := by decide +kernel
theorem dX9_spread_54 : decode cX9_spread 54 = .ok (.iload_n 3, 1) := by decide +kernel
theorem dX9_spread_55 : decode cX9_spread 55 = .ok (.iload_n 2, 1) := by decide +kernel
theorem dX9_spread_56 : decode cX9_spread 56 = .ok (.isub, 1) := by decide +kernel
theorem dX9_spread_57 : decode cX9_spread 57 = .ok (.ireturn, 1) := by decide +kernel
theorem dX9_pairBit_0 : decode cX9_pairBit 0 = .ok (.iconst 1, 1) := by decide +kernel
theorem dX9_pairBit_1 : decode cX9_pairBit 1 = .ok (.iconst 5, 1) := by decide +kernel
theorem dX9_pairBit_2 : decode cX9_pairBit 2 = .ok (.iload_n 0, 1) := by decide +kernel
theorem dX9_pairBit_3 : decode cX9_pairBit 3 = .ok (.imul, 1) := by decide +kernel
theorem dX9_pairBit_4 : decode cX9_pairBit 4 = .ok (.iload_n 1, 1) := by decide +kernel
theorem dX9_pairBit_5 : decode cX9_pairBit 5 = .ok (.iadd, 1) := by decide +kernel
theorem dX9_pairBit_6 : decode cX9_pairBit 6 = .ok (.ishl, 1) := by decide +kernel
theorem dX9_pairBit_7 : decode cX9_pairBit 7 = .ok (.ireturn, 1) := by decide +kernel
