theorem dX10_dryIn_29 : decode cX10_dryIn 29 = .ok (.isub, 1) := by decide +kernel
theorem dX10_dryIn_30 : decode cX10_dryIn 30 = .ok (.aload_n 0, 1) := by decide +kernel
theorem dX10_dryIn_31 : decode cX10_dryIn 31 = .ok (.getfield 13, 3) := by decide +kernel
theorem dX10_dryIn_34 : decode cX10_dryIn 34 = .ok (.iload_n 2, 1) := by decide +kernel
theorem dX10_dryIn_35 : decode cX10_dryIn 35 = .ok (.iaload, 1) := by decide +kernel
theorem dX10_dryIn_36 : decode cX10_dryIn 36 = .ok (.idiv, 1) := by decide +kernel
theorem dX10_dryIn_37 : decode cX10_dryIn 37 = .ok (.istore_n 3, 1) := by decide +kernel
theorem dX10_dryIn_38 : decode cX10_dryIn 38 = .ok (.iload_n 3, 1) := by decide +kernel
theorem dX10_dryIn_39 : decode cX10_dryIn 39 = .ok (.iload_n 1, 1) := by decide +kernel
theorem dX10_dryIn_40 : decode cX10_dryIn 40 = .ok (.if_icmp .le 7, 3) := by decide +kernel
theorem dX10_dryIn_43 : decode cX10_dryIn 43 = .ok (.iload_n 3, 1) := by decide +kernel
theorem dX10_dryIn_44 : decode cX10_dryIn 44 = .ok (.goto 4, 3) := by decide +kernel
theorem dX10_dryIn_47 : decode cX10_dryIn 47 = .ok (.iload_n 1, 1) := by decide +kernel
theorem dX10_dryIn_48 : decode cX10_dryIn 48 = .ok (.istore_n 1, 1) := by decide +kernel
theorem dX10_dryIn_49 : decode cX10_dryIn 49 = .ok (.iinc 2 1, 3) := by decide +kernel
theorem dX10_dryIn_52 : decode cX10_dryIn 52 = .ok (.goto (-48), 3) := by decide +kernel
theorem dX10_dryIn_55 : decode cX10_dryIn 55 = .ok (.iload_n 1, 1) := by decide +kernel
theorem dX10_dryIn_56 : decode cX10_dryIn 56 = .ok (.ireturn, 1) := by decide +kernel
theorem dX10_told_0 : decode cX10_told 0 = .ok (.iload_n 1, 1) := by decide +kernel
theorem dX10_told_1 : decode cX10_told 1 = .ok (.tableswitch 223 0 19 #[95, 108, 115, 120, 125, 130, 138, 146, 154, 159, 164, 169, 174, 179, 190, 195, 200, 208, 213, 218], 95) := by decide +kernel
theorem dX10_told_96 : decode cX10_told 96 = .ok (.aload_n 0, 1) := by decide +kernel
theorem dX10_told_97 : decode cX10_told 97 = .ok (.getfield 157, 3) := by decide +kernel
theorem dX10_told_100 : decode cX10_told 100 = .ok (.ifCond .eq 7, 3) := by decide +kernel
theorem dX10_told_103 : decode cX10_told 103 = .ok (.iconst 1, 1) := by decide +kernel
theorem dX10_told_104 : decode cX10_told 104 = .ok (.goto 4, 3) := by decide +kernel
theorem dX10_told_107 : decode cX10_told 107 = .ok (.iconst 0, 1) := by decide +kernel
theorem dX10_told_108 : decode cX10_told 108 = .ok (.ireturn, 1) := by decide +kernel
theorem dX10_told_109 : decode cX10_told 109 = .ok (.aload_n 0, 1) := by decide +kernel
theorem dX10_told_110 : decode cX10_told 110 = .ok (.getfield 22, 3) := by decide +kernel
theorem dX10_told_113 : decode cX10_told 113 = .ok (.iconst 0, 1) := by decide +kernel
theorem dX10_told_114 : decode cX10_told 114 = .ok (.iaload, 1) := by decide +kernel
theorem dX10_told_115 : decode cX10_told 115 = .ok (.ireturn, 1) := by decide +kernel
theorem dX10_told_116 : decode cX10_told 116 = .ok (.aload_n 0, 1) := by decide +kernel
theorem dX10_told_117 : decode cX10_told 117 = .ok (.getfield 91, 3) := by decide +kernel
theorem dX10_told_120 : decode cX10_told 120 = .ok (.ireturn, 1) := by decide +kernel
theorem dX10_told_121 : decode cX10_told 121 = .ok (.aload_n 0, 1) := by decide +kernel
theorem dX10_told_122 : decode cX10_told 122 = .ok (.getfield 164, 3) := by decide +kernel
theorem dX10_told_125 : decode cX10_told 125 = .ok (.ireturn, 1) := by decide +kernel
theorem dX10_told_126 : decode cX10_told 126 = .ok (.aload_n 0, 1) := by decide +kernel
theorem dX10_told_127 : decode cX10_told 127 = .ok (.getfield 97, 3) := by decide +kernel
theorem dX10_told_130 : decode cX10_told 130 = .ok (.ireturn, 1) := by decide +kernel
theorem dX10_told_131 : decode cX10_told 131 = .ok (.aload_n 0, 1) := by decide +kernel
theorem dX10_told_132 : decode cX10_told 132 = .ok (.getfield 22, 3) := by decide +kernel
theorem dX10_told_135 : decode cX10_told 135 = .ok (.bipush 25, 2) := by decide +kernel
theorem dX10_told_137 : decode cX10_told 137 = .ok (.iaload, 1) := by decide +kernel
theorem dX10_told_138 : decode cX10_told 138 = .ok (.ireturn, 1) := by decide +kernel
theorem dX10_told_139 : decode cX10_told 139 = .ok (.aload_n 0, 1) := by decide +kernel
theorem dX10_told_140 : decode cX10_told 140 = .ok (.getfield 22, 3) := by decide +kernel
theorem dX10_told_143 : decode cX10_told 143 = .ok (.bipush 26, 2) := by decide +kernel
theorem dX10_told_145 : decode cX10_told 145 = .ok (.iaload, 1) := by decide +kernel
theorem dX10_told_146 : decode cX10_told 146 = .ok (.ireturn, 1) := by decide +kernel
theorem dX10_told_147 : decode cX10_told 147 = .ok (.aload_n 0, 1) := by decide +kernel
theorem dX10_told_148 : decode cX10_told 148 = .ok (.getfield 22, 3) := by decide +kernel
theorem dX10_told_151 : decode cX10_told 151 = .ok (.bipush 27, 2) := by decide +kernel
theorem dX10_told_153 : decode cX10_told 153 = .ok (.iaload, 1) := by decide +kernel
theorem dX10_told_154 : decode cX10_told 154 = .ok (.ireturn, 1) := by decide +kernel
theorem dX10_told_155 : decode cX10_told 155 = .ok (.aload_n 0, 1) := by decide +kernel
theorem dX10_told_156 : decode cX10_told 156 = .ok (.invokevirtual 188, 3) := by decide +kernel
theorem dX10_told_159 : decode cX10_told 159 = .ok (.ireturn, 1) := by decide +kernel
theorem dX10_told_160 : decode cX10_told 160 = .ok (.aload_n 0, 1) := by decide +kernel
theorem dX10_told_161 : decode cX10_told 161 = .ok (.invokevirtual 198, 3) := by decide +kernel
theorem dX10_told_164 : decode cX10_told 164 = .ok (.ireturn, 1) := by decide +kernel
theorem dX10_told_165 : decode cX10_told 165 = .ok (.aload_n 0, 1) := by decide +kernel
theorem dX10_told_166 : decode cX10_told 166 = .ok (.invokevirtual 201, 3) := by decide +kernel
theorem dX10_told_169 : decode cX10_told 169 = .ok (.ireturn, 1) := by decide +kernel
theorem dX10_told_170 : decode cX10_told 170 = .ok (.aload_n 0, 1) := by decide +kernel
theorem dX10_told_171 : decode cX10_told 171 = .ok (.invokevirtual 204, 3) := by decide +kernel
theorem dX10_told_174 : decode cX10_told 174 = .ok (.ireturn, 1) := by decide +kernel
theorem dX10_told_175 : decode cX10_told 175 = .ok (.aload_n 0, 1) := by decide +kernel
theorem dX10_told_176 : decode cX10_told 176 = .ok (.invokevirtual 207, 3) := by decide +kernel
theorem dX10_told_179 : decode cX10_told 179 = .ok (.ireturn, 1) := by decide +kernel
theorem dX10_told_180 : decode cX10_told 180 = .ok (.aload_n 0, 1) := by decide +kernel
theorem dX10_told_181 : decode cX10_told 181 = .ok (.aload_n 0, 1) := by decide +kernel
theorem dX10_told_182 : decode cX10_told 182 = .ok (.getfield 22, 3) := by decide +kernel
theorem dX10_told_185 : decode cX10_told 185 = .ok (.bipush 29, 2) := by decide +kernel
theorem dX10_told_187 : decode cX10_told 187 = .ok (.invokevirtual 210, 3) := by decide +kernel
theorem dX10_told_190 : decode cX10_told 190 = .ok (.ireturn, 1) := by decide +kernel
theorem dX10_told_191 : decode cX10_told 191 = .ok (.aload_n 0, 1) := by decide +kernel
theorem dX10_told_192 : decode cX10_told 192 = .ok (.invokevirtual 214, 3) := by decide +kernel
theorem dX10_told_195 : decode cX10_told 195 = .ok (.ireturn, 1) := by decide +kernel
theorem dX10_told_196 : decode cX10_told 196 = .ok (.aload_n 0, 1) := by decide +kernel
theorem dX10_told_197 : decode cX10_told 197 = .ok (.invokevirtual 217, 3) := by decide +kernel
theorem dX10_told_200 : decode cX10_told 200 = .ok (.ireturn, 1) := by decide +kernel
theorem dX10_told_201 : decode cX10_told 201 = .ok (.aload_n 0, 1) := by decide +kernel
theorem dX10_told_202 : decode cX10_told 202 = .ok (.getfield 22, 3) := by decide +kernel
theorem dX10_told_205 : decode cX10_told 205 = .ok (.bipush 44, 2) := by decide +kernel
theorem dX10_told_207 : decode cX10_told 207 = .ok (.iaload, 1) := by decide +kernel
theorem dX10_told_208 : decode cX10_told 208 = .ok (.ireturn, 1) := by decide +kernel
theorem dX10_told_209 : decode cX10_told 209 = .ok (.aload_n 0, 1) := by decide +kernel
theorem dX10_told_210 : decode cX10_told 210 = .ok (.getfield 173, 3) := by decide +kernel
theorem dX10_told_213 : decode cX10_told 213 = .ok (.ireturn, 1) := by decide +kernel
theorem dX10_told_214 : decode cX10_told 214 = .ok (.aload_n 0, 1) := by decide +kernel
theorem dX10_told_215 : decode cX10_told 215 = .ok (.getfield 176, 3) := by decide +kernel
theorem dX10_told_218 : decode cX10_told 218 = .ok (.ireturn, 1) := by decide +kernel
theorem dX10_told_219 : decode cX10_told 219 = .ok (.aload_n 0, 1) := by decide +kernel
theorem dX10_told_220 : decode cX10_told 220 = .ok (.getfield 179, 3) := by decide +kernel
theorem dX10_told_223 : decode cX10_told 223 = .ok (.ireturn, 1) := by decide +kernel
theorem dX10_told_224 : decode cX10_told 224 = .ok (.ldc 96, 2) := by decide +kernel
theorem dX10_told_226 : decode cX10_told 226 = .ok (.ireturn, 1) := by decide +kernel
theorem dX10_layer_0 : decode cX10_layer 0 = .ok (.aload_n 0, 1) := by decide +kernel
theorem dX10_layer_1 : decode cX10_layer 1 = .ok (.iload_n 1, 1) := by decide +kernel
theorem dX10_layer_2 : decode cX10_layer 2 = .ok (.invokevirtual 220, 3) := by decide +kernel
theorem dX10_layer_5 : decode cX10_layer 5 = .ok (.ifCond .ne 6, 3) := by decide +kernel
theorem dX10_layer_8 : decode cX10_layer 8 = .ok (.ldc 223, 2) := by decide +kernel
theorem dX10_layer_10 : decode cX10_layer 10 = .ok (.ireturn, 1) := by decide +kernel
theorem dX10_layer_11 : decode cX10_layer 11 = .ok (.iload_n 2, 1) := by decide +kernel
theorem dX10_layer_12 : decode cX10_layer 12 = .ok (.ifCond .ne 14, 3) := by decide +kernel
theorem dX10_layer_15 : decode cX10_layer 15 = .ok (.aload_n 0, 1) := by decide +kernel
theorem dX10_layer_16 : decode cX10_layer 16 = .ok (.getfield 22, 3) := by decide +kernel
theorem dX10_layer_19 : decode cX10_layer 19 = .ok (.iconst 1, 1) := by decide +kernel
theorem dX10_layer_20 : decode cX10_layer 20 = .ok (.iload_n 1, 1) := by decide +kernel
theorem dX10_layer_21 : decode cX10_layer 21 = .ok (.iadd, 1) := by decide +kernel
theorem dX10_layer_22 : decode cX10_layer 22 = .ok (.iaload, 1) := by decide +kernel
theorem dX10_layer_23 : decode cX10_layer 23 = .ok (.goto 48, 3) := by decide +kernel
theorem dX10_layer_26 : decode cX10_layer 26 = .ok (.iload_n 2, 1) := by decide +kernel
theorem dX10_layer_27 : decode cX10_layer 27 = .ok (.iconst 1, 1) := by decide +kernel
theorem dX10_layer_28 : decode cX10_layer 28 = .ok (.if_icmp .ne 15, 3) := by decide +kernel
theorem dX10_layer_31 : decode cX10_layer 31 = .ok (.aload_n 0, 1) := by decide +kernel
theorem dX10_layer_32 : decode cX10_layer 32 = .ok (.getfield 22, 3) := by decide +kernel
theorem dX10_layer_35 : decode cX10_layer 35 = .ok (.bipush 13, 2) := by decide +kernel
theorem dX10_layer_37 : decode cX10_layer 37 = .ok (.iload_n 1, 1) := by decide +kernel
theorem dX10_layer_38 : decode cX10_layer 38 = .ok (.iadd, 1) := by decide +kernel
theorem dX10_layer_39 : decode cX10_layer 39 = .ok (.iaload, 1) := by decide +kernel
theorem dX10_layer_40 : decode cX10_layer 40 = .ok (.goto 31, 3) := by decide +kernel
theorem dX10_layer_43 : decode cX10_layer 43 = .ok (.iload_n 2, 1) := by decide +kernel
theorem dX10_layer_44 : decode cX10_layer 44 = .ok (.iconst 2, 1) := by decide +kernel
theorem dX10_layer_45 : decode cX10_layer 45 = .ok (.if_icmp .ne 11, 3) := by decide +kernel
theorem dX10_layer_48 : decode cX10_layer 48 = .ok (.aload_n 0, 1) := by decide +kernel
theorem dX10_layer_49 : decode cX10_layer 49 = .ok (.iload_n 1, 1) := by decide +kernel
theorem dX10_layer_50 : decode cX10_layer 50 = .ok (.invokevirtual 224, 3) := by decide +kernel
theorem dX10_layer_53 : decode cX10_layer 53 = .ok (.goto 18, 3) := by decide +kernel
theorem dX10_layer_56 : decode cX10_layer 56 = .ok (.iload_n 2, 1) := by decide +kernel
theorem dX10_layer_57 : decode cX10_layer 57 = .ok (.iconst 3, 1) := by decide +kernel
theorem dX10_layer_58 : decode cX10_layer 58 = .ok (.if_icmp .ne 11, 3) := by decide +kernel
theorem dX10_layer_61 : decode cX10_layer 61 = .ok (.aload_n 0, 1) := by decide +kernel
theorem dX10_layer_62 : decode cX10_layer 62 = .ok (.iload_n 1, 1) := by decide +kernel
theorem dX10_layer_63 : decode cX10_layer 63 = .ok (.invokevirtual 227, 3) := by decide +kernel
theorem dX10_layer_66 : decode cX10_layer 66 = .ok (.goto 5, 3) := by decide +kernel
theorem dX10_layer_69 : decode cX10_layer 69 = .ok (.ldc 96, 2) := by decide +kernel
theorem dX10_layer_71 : decode cX10_layer 71 = .ok (.ireturn, 1) := by decide +kernel
theorem dX10_executor_0 : decode cX10_executor 0 = .ok (.aload_n 0, 1) := by decide +kernel
theorem dX10_executor_1 : decode cX10_executor 1 = .ok (.iload_n 1, 1) := by decide +kernel
theorem dX10_executor_2 : decode cX10_executor 2 = .ok (.invokevirtual 230, 3) := by decide +kernel
theorem dX10_executor_5 : decode cX10_executor 5 = .ok (.ifCond .ne 6, 3) := by decide +kernel
theorem dX10_executor_8 : decode cX10_executor 8 = .ok (.ldc 223, 2) := by decide +kernel
theorem dX10_executor_10 : decode cX10_executor 10 = .ok (.ireturn, 1) := by decide +kernel
theorem dX10_executor_11 : decode cX10_executor 11 = .ok (.iload_n 2, 1) := by decide +kernel
theorem dX10_executor_12 : decode cX10_executor 12 = .ok (.ifCond .ne 12, 3) := by decide +kernel
theorem dX10_executor_15 : decode cX10_executor 15 = .ok (.aload_n 0, 1) := by decide +kernel
theorem dX10_executor_16 : decode cX10_executor 16 = .ok (.getfield 7, 3) := by decide +kernel
theorem dX10_executor_19 : decode cX10_executor 19 = .ok (.iload_n 1, 1) := by decide +kernel
theorem dX10_executor_20 : decode cX10_executor 20 = .ok (.iaload, 1) := by decide +kernel
theorem dX10_executor_21 : decode cX10_executor 21 = .ok (.goto 70, 3) := by decide +kernel
theorem dX10_executor_24 : decode cX10_executor 24 = .ok (.iload_n 2, 1) := by decide +kernel
theorem dX10_executor_25 : decode cX10_executor 25 = .ok (.iconst 1, 1) := by decide +kernel
theorem dX10_executor_26 : decode cX10_executor 26 = .ok (.if_icmp .ne 12, 3) := by decide +kernel
theorem dX10_executor_29 : decode cX10_executor 29 = .ok (.aload_n 0, 1) := by decide +kernel
theorem dX10_executor_30 : decode cX10_executor 30 = .ok (.getfield 13, 3) := by decide +kernel
theorem dX10_executor_33 : decode cX10_executor 33 = .ok (.iload_n 1, 1) := by decide +kernel
theorem dX10_executor_34 : decode cX10_executor 34 = .ok (.iaload, 1) := by decide +kernel
theorem dX10_executor_35 : decode cX10_executor 35 = .ok (.goto 56, 3) := by decide +kernel
theorem dX10_executor_38 : decode cX10_executor 38 = .ok (.iload_n 2, 1) := by decide +kernel
theorem dX10_executor_39 : decode cX10_executor 39 = .ok (.iconst 2, 1) := by decide +kernel
theorem dX10_executor_40 : decode cX10_executor 40 = .ok (.if_icmp .ne 15, 3) := by decide +kernel
theorem dX10_executor_43 : decode cX10_executor 43 = .ok (.aload_n 0, 1) := by decide +kernel
theorem dX10_executor_44 : decode cX10_executor 44 = .ok (.getfield 22, 3) := by decide +kernel
theorem dX10_executor_47 : decode cX10_executor 47 = .ok (.bipush 29, 2) := by decide +kernel
theorem dX10_executor_49 : decode cX10_executor 49 = .ok (.iload_n 1, 1) := by decide +kernel
theorem dX10_executor_50 : decode cX10_executor 50 = .ok (.iadd, 1) := by decide +kernel
theorem dX10_executor_51 : decode cX10_executor 51 = .ok (.iaload, 1) := by decide +kernel
theorem dX10_executor_52 : decode cX10_executor 52 = .ok (.goto 39, 3) := by decide +kernel
theorem dX10_executor_55 : decode cX10_executor 55 = .ok (.iload_n 2, 1) := by decide +kernel
theorem dX10_executor_56 : decode cX10_executor 56 = .ok (.iconst 3, 1) := by decide +kernel
theorem dX10_executor_57 : decode cX10_executor 57 = .ok (.if_icmp .ne 15, 3) := by decide +kernel
theorem dX10_executor_60 : decode cX10_executor 60 = .ok (.aload_n 0, 1) := by decide +kernel
theorem dX10_executor_61 : decode cX10_executor 61 = .ok (.getfield 22, 3) := by decide +kernel
theorem dX10_executor_64 : decode cX10_executor 64 = .ok (.bipush 34, 2) := by decide +kernel
theorem dX10_executor_66 : decode cX10_executor 66 = .ok (.iload_n 1, 1) := by decide +kernel
theorem dX10_executor_67 : decode cX10_executor 67 = .ok (.iadd, 1) := by decide +kernel
theorem dX10_executor_68 : decode cX10_executor 68 = .ok (.iaload, 1) := by decide +kernel
theorem dX10_executor_69 : decode cX10_executor 69 = .ok (.goto 22, 3) := by decide +kernel
theorem dX10_executor_72 : decode cX10_executor 72 = .ok (.iload_n 2, 1) := by decide +kernel
theorem dX10_executor_73 : decode cX10_executor 73 = .ok (.iconst 4, 1) := by decide +kernel
theorem dX10_executor_74 : decode cX10_executor 74 = .ok (.if_icmp .ne 15, 3) := by decide +kernel
theorem dX10_executor_77 : decode cX10_executor 77 = .ok (.aload_n 0, 1) := by decide +kernel
theorem dX10_executor_78 : decode cX10_executor 78 = .ok (.getfield 22, 3) := by decide +kernel
theorem dX10_executor_81 : decode cX10_executor 81 = .ok (.bipush 39, 2) := by decide +kernel
theorem dX10_executor_83 : decode cX10_executor 83 = .ok (.iload_n 1, 1) := by decide +kernel
theorem dX10_executor_84 : decode cX10_executor 84 = .ok (.iadd, 1) := by decide +kernel
theorem dX10_executor_85 : decode cX10_executor 85 = .ok (.iaload, 1) := by decide +kernel
theorem dX10_executor_86 : decode cX10_executor 86 = .ok (.goto 5, 3) := by decide +kernel
theorem dX10_executor_89 : decode cX10_executor 89 = .ok (.ldc 96, 2) := by decide +kernel
theorem dX10_executor_91 : decode cX10_executor 91 = .ok (.ireturn, 1) := by decide +kernel
theorem dX10_type_0 : decode cX10_type 0 = .ok (.iload_n 1, 1) := by decide +kernel
theorem dX10_type_1 : decode cX10_type 1 = .ok (.i2l, 1) := by decide +kernel
theorem dX10_type_2 : decode cX10_type 2 = .ok (.lconst 0, 1) := by decide +kernel
theorem dX10_type_3 : decode cX10_type 3 = .ok (.aload_n 0, 1) := by decide +kernel
theorem dX10_type_4 : decode cX10_type 4 = .ok (.getfield 164, 3) := by decide +kernel
theorem dX10_type_7 : decode cX10_type 7 = .ok (.iconst 1, 1) := by decide +kernel
theorem dX10_type_8 : decode cX10_type 8 = .ok (.isub, 1) := by decide +kernel
theorem dX10_type_9 : decode cX10_type 9 = .ok (.i2l, 1) := by decide +kernel
theorem dX10_type_10 : decode cX10_type 10 = .ok (.invokestatic 87, 3) := by decide +kernel
theorem dX10_type_13 : decode cX10_type 13 = .ok (.ifCond .ne 6, 3) := by decide +kernel
theorem dX10_type_16 : decode cX10_type 16 = .ok (.ldc 223, 2) := by decide +kernel
theorem dX10_type_18 : decode cX10_type 18 = .ok (.ireturn, 1) := by decide +kernel
theorem dX10_type_19 : decode cX10_type 19 = .ok (.iload_n 2, 1) := by decide +kernel
theorem dX10_type_20 : decode cX10_type 20 = .ok (.i2l, 1) := by decide +kernel
theorem dX10_type_21 : decode cX10_type 21 = .ok (.lconst 0, 1) := by decide +kernel
theorem dX10_type_22 : decode cX10_type 22 = .ok (.ldc2_w 233, 3) := by decide +kernel
theorem dX10_type_25 : decode cX10_type 25 = .ok (.invokestatic 87, 3) := by decide +kernel
theorem dX10_type_28 : decode cX10_type 28 = .ok (.ifCond .ne 6, 3) := by decide +kernel
theorem dX10_type_31 : decode cX10_type 31 = .ok (.ldc 96, 2) := by decide +kernel
theorem dX10_type_33 : decode cX10_type 33 = .ok (.ireturn, 1) := by decide +kernel
theorem dX10_type_34 : decode cX10_type 34 = .ok (.iload_n 2, 1) := by decide +kernel
theorem dX10_type_35 : decode cX10_type 35 = .ok (.aload_n 0, 1) := by decide +kernel
theorem dX10_type_36 : decode cX10_type 36 = .ok (.getfield 16, 3) := by decide +kernel
theorem dX10_type_39 : decode cX10_type 39 = .ok (.iload_n 1, 1) := by decide +kernel
theorem dX10_type_40 : decode cX10_type 40 = .ok (.iaload, 1) := by decide +kernel
theorem dX10_type_41 : decode cX10_type 41 = .ok (.if_icmp .ge 17, 3) := by decide +kernel
theorem dX10_type_44 : decode cX10_type 44 = .ok (.aload_n 0, 1) := by decide +kernel
theorem dX10_type_45 : decode cX10_type 45 = .ok (.getfield 19, 3) := by decide +kernel
theorem dX10_type_48 : decode cX10_type 48 = .ok (.bipush 8, 2) := by decide +kernel
theorem dX10_type_50 : decode cX10_type 50 = .ok (.iload_n 1, 1) := by decide +kernel
theorem dX10_type_51 : decode cX10_type 51 = .ok (.imul, 1) := by decide +kernel
theorem dX10_type_52 : decode cX10_type 52 = .ok (.iload_n 2, 1) := by decide +kernel
theorem dX10_type_53 : decode cX10_type 53 = .ok (.iadd, 1) := by decide +kernel
theorem dX10_type_54 : decode cX10_type 54 = .ok (.iaload, 1) := by decide +kernel
theorem dX10_type_55 : decode cX10_type 55 = .ok (.goto 4, 3) := by decide +kernel
theorem dX10_type_58 : decode cX10_type 58 = .ok (.iconst (-1), 1) := by decide +kernel
theorem dX10_type_59 : decode cX10_type 59 = .ok (.ireturn, 1) := by decide +kernel
theorem dX10_logged_0 : decode cX10_logged 0 = .ok (.iload_n 2, 1) := by decide +kernel
theorem dX10_logged_1 : decode cX10_logged 1 = .ok (.i2l, 1) := by decide +kernel
theorem dX10_logged_2 : decode cX10_logged 2 = .ok (.lconst 0, 1) := by decide +kernel
theorem dX10_logged_3 : decode cX10_logged 3 = .ok (.ldc2_w 235, 3) := by decide +kernel
theorem dX10_logged_6 : decode cX10_logged 6 = .ok (.invokestatic 87, 3) := by decide +kernel
theorem dX10_logged_9 : decode cX10_logged 9 = .ok (.ifCond .ne 6, 3) := by decide +kernel
theorem dX10_logged_12 : decode cX10_logged 12 = .ok (.ldc 96, 2) := by decide +kernel
theorem dX10_logged_14 : decode cX10_logged 14 = .ok (.ireturn, 1) := by decide +kernel
theorem dX10_logged_15 : decode cX10_logged 15 = .ok (.iload_n 1, 1) := by decide +kernel
theorem dX10_logged_16 : decode cX10_logged 16 = .ok (.i2l, 1) := by decide +kernel
theorem dX10_logged_17 : decode cX10_logged 17 = .ok (.lconst 0, 1) := by decide +kernel
theorem dX10_logged_18 : decode cX10_logged 18 = .ok (.aload_n 0, 1) := by decide +kernel
theorem dX10_logged_19 : decode cX10_logged 19 = .ok (.getfield 22, 3) := by decide +kernel
theorem dX10_logged_22 : decode cX10_logged 22 = .ok (.bipush 44, 2) := by decide +kernel
theorem dX10_logged_24 : decode cX10_logged 24 = .ok (.iaload, 1) := by decide +kernel
theorem dX10_logged_25 : decode cX10_logged 25 = .ok (.iconst 1, 1) := by decide +kernel
theorem dX10_logged_26 : decode cX10_logged 26 = .ok (.isub, 1) := by decide +kernel
theorem dX10_logged_27 : decode cX10_logged 27 = .ok (.i2l, 1) := by decide +kernel
theorem dX10_logged_28 : decode cX10_logged 28 = .ok (.invokestatic 87, 3) := by decide +kernel
theorem dX10_logged_31 : decode cX10_logged 31 = .ok (.ifCond .eq 29, 3) := by decide +kernel
theorem dX10_logged_34 : decode cX10_logged 34 = .ok (.aload_n 0, 1) := by decide +kernel
theorem dX10_logged_35 : decode cX10_logged 35 = .ok (.getfield 22, 3) := by decide +kernel
theorem dX10_logged_38 : decode cX10_logged 38 = .ok (.bipush 45, 2) := by decide +kernel
theorem dX10_logged_40 : decode cX10_logged 40 = .ok (.iconst 4, 1) := by decide +kernel
theorem dX10_logged_41 : decode cX10_logged 41 = .ok (.aload_n 0, 1) := by decide +kernel
theorem dX10_logged_42 : decode cX10_logged 42 = .ok (.getfield 22, 3) := by decide +kernel
theorem dX10_logged_45 : decode cX10_logged 45 = .ok (.bipush 44, 2) := by decide +kernel
theorem dX10_logged_47 : decode cX10_logged 47 = .ok (.iaload, 1) := by decide +kernel
theorem dX10_logged_48 : decode cX10_logged 48 = .ok (.iconst 1, 1) := by decide +kernel
theorem dX10_logged_49 : decode cX10_logged 49 = .ok (.isub, 1) := by decide +kernel
theorem dX10_logged_50 : decode cX10_logged 50 = .ok (.iload_n 1, 1) := by decide +kernel
theorem dX10_logged_51 : decode cX10_logged 51 = .ok (.isub, 1) := by decide +kernel
theorem dX10_logged_52 : decode cX10_logged 52 = .ok (.imul, 1) := by decide +kernel
theorem dX10_logged_53 : decode cX10_logged 53 = .ok (.iadd, 1) := by decide +kernel
theorem dX10_logged_54 : decode cX10_logged 54 = .ok (.iload_n 2, 1) := by decide +kernel
theorem dX10_logged_55 : decode cX10_logged 55 = .ok (.iadd, 1) := by decide +kernel
theorem dX10_logged_56 : decode cX10_logged 56 = .ok (.iaload, 1) := by decide +kernel
theorem dX10_logged_57 : decode cX10_logged 57 = .ok (.goto 4, 3) := by decide +kernel
theorem dX10_logged_60 : decode cX10_logged 60 = .ok (.iconst (-1), 1) := by decide +kernel
theorem dX10_logged_61 : decode cX10_logged 61 = .ok (.ireturn, 1) := by decide +kernel
theorem dX10_remember_0 : decode cX10_remember 0 = .ok (.aload_n 0, 1) := by decide +kernel
theorem dX10_remember_1 : decode cX10_remember 1 = .ok (.getfield 179, 3) := by decide +kernel
theorem dX10_remember_4 : decode cX10_remember 4 = .ok (.bipush 30, 2) := by decide +kernel
theorem dX10_remember_6 : decode cX10_remember 6 = .ok (.if_icmp .ne 44, 3) := by decide +kernel
theorem dX10_remember_9 : decode cX10_remember 9 = .ok (.bipush 125, 2) := by decide +kernel
theorem dX10_remember_11 : decode cX10_remember 11 = .ok (.istore_n 1, 1) := by decide +kernel
theorem dX10_remember_12 : decode cX10_remember 12 = .ok (.iload_n 1, 1) := by decide +kernel
theorem dX10_remember_13 : decode cX10_remember 13 = .ok (.sipush 3750, 3) := by decide +kernel
theorem dX10_remember_16 : decode cX10_remember 16 = .ok (.if_icmp .ge 24, 3) := by decide +kernel
theorem dX10_remember_19 : decode cX10_remember 19 = .ok (.aload_n 0, 1) := by decide +kernel
theorem dX10_remember_20 : decode cX10_remember 20 = .ok (.getfield 65, 3) := by decide +kernel
theorem dX10_remember_23 : decode cX10_remember 23 = .ok (.iload_n 1, 1) := by decide +kernel
theorem dX10_remember_24 : decode cX10_remember 24 = .ok (.bipush 125, 2) := by decide +kernel
theorem dX10_remember_26 : decode cX10_remember 26 = .ok (.isub, 1) := by decide +kernel
theorem dX10_remember_27 : decode cX10_remember 27 = .ok (.aload_n 0, 1) := by decide +kernel
theorem dX10_remember_28 : decode cX10_remember 28 = .ok (.getfield 65, 3) := by decide +kernel
theorem dX10_remember_31 : decode cX10_remember 31 = .ok (.iload_n 1, 1) := by decide +kernel
theorem dX10_remember_32 : decode cX10_remember 32 = .ok (.iaload, 1) := by decide +kernel
theorem dX10_remember_33 : decode cX10_remember 33 = .ok (.iastore, 1) := by decide +kernel
theorem dX10_remember_34 : decode cX10_remember 34 = .ok (.iinc 1 1, 3) := by decide +kernel
theorem dX10_remember_37 : decode cX10_remember 37 = .ok (.goto (-25), 3) := by decide +kernel
theorem dX10_remember_40 : decode cX10_remember 40 = .ok (.aload_n 0, 1) := by decide +kernel
theorem dX10_remember_41 : decode cX10_remember 41 = .ok (.dup, 1) := by decide +kernel
theorem dX10_remember_42 : decode cX10_remember 42 = .ok (.getfield 179, 3) := by decide +kernel
theorem dX10_remember_45 : decode cX10_remember 45 = .ok (.iconst 1, 1) := by decide +kernel
theorem dX10_remember_46 : decode cX10_remember 46 = .ok (.isub, 1) := by decide +kernel
theorem dX10_remember_47 : decode cX10_remember 47 = .ok (.putfield 179, 3) := by decide +kernel
theorem dX10_remember_50 : decode cX10_remember 50 = .ok (.iconst 0, 1) := by decide +kernel
theorem dX10_remember_51 : decode cX10_remember 51 = .ok (.istore_n 1, 1) := by decide +kernel
theorem dX10_remember_52 : decode cX10_remember 52 = .ok (.iload_n 1, 1) := by decide +kernel
theorem dX10_remember_53 : decode cX10_remember 53 = .ok (.bipush 125, 2) := by decide +kernel
theorem dX10_remember_55 : decode cX10_remember 55 = .ok (.if_icmp .ge 29, 3) := by decide +kernel
theorem dX10_remember_58 : decode cX10_remember 58 = .ok (.aload_n 0, 1) := by decide +kernel
theorem dX10_remember_59 : decode cX10_remember 59 = .ok (.getfield 65, 3) := by decide +kernel
theorem dX10_remember_62 : decode cX10_remember 62 = .ok (.bipush 125, 2) := by decide +kernel
theorem dX10_remember_64 : decode cX10_remember 64 = .ok (.aload_n 0, 1) := by decide +kernel
theorem dX10_remember_65 : decode cX10_remember 65 = .ok (.getfield 179, 3) := by decide +kernel
theorem dX10_remember_68 : decode cX10_remember 68 = .ok (.imul, 1) := by decide +kernel
theorem dX10_remember_69 : decode cX10_remember 69 = .ok (.iload_n 1, 1) := by decide +kernel
theorem dX10_remember_70 : decode cX10_remember 70 = .ok (.iadd, 1) := by decide +kernel
theorem dX10_remember_71 : decode cX10_remember 71 = .ok (.aload_n 0, 1) := by decide +kernel
theorem dX10_remember_72 : decode cX10_remember 72 = .ok (.getfield 22, 3) := by decide +kernel
theorem dX10_remember_75 : decode cX10_remember 75 = .ok (.iload_n 1, 1) := by decide +kernel
theorem dX10_remember_76 : decode cX10_remember 76 = .ok (.iaload, 1) := by decide +kernel
theorem dX10_remember_77 : decode cX10_remember 77 = .ok (.iastore, 1) := by decide +kernel
theorem dX10_remember_78 : decode cX10_remember 78 = .ok (.iinc 1 1, 3) := by decide +kernel
theorem dX10_remember_81 : decode cX10_remember 81 = .ok (.goto (-29), 3) := by decide +kernel
theorem dX10_remember_84 : decode cX10_remember 84 = .ok (.aload_n 0, 1) := by decide +kernel
theorem dX10_remember_85 : decode cX10_remember 85 = .ok (.dup, 1) := by decide +kernel
theorem dX10_remember_86 : decode cX10_remember 86 = .ok (.getfield 179, 3) := by decide +kernel
theorem dX10_remember_89 : decode cX10_remember 89 = .ok (.iconst 1, 1) := by decide +kernel
theorem dX10_remember_90 : decode cX10_remember 90 = .ok (.iadd, 1) := by decide +kernel
theorem dX10_remember_91 : decode cX10_remember 91 = .ok (.putfield 179, 3) := by decide +kernel
theorem dX10_remember_94 : decode cX10_remember 94 = .ok (.return_, 1) := by decide +kernel
theorem dX10_enters_0 : decode cX10_enters 0 = .ok (.aload_n 0, 1) := by decide +kernel
theorem dX10_enters_1 : decode cX10_enters 1 = .ok (.getfield 22, 3) := by decide +kernel
theorem dX10_enters_4 : decode cX10_enters 4 = .ok (.bipush 44, 2) := by decide +kernel
theorem dX10_enters_6 : decode cX10_enters 6 = .ok (.iaload, 1) := by decide +kernel
theorem dX10_enters_7 : decode cX10_enters 7 = .ok (.bipush 20, 2) := by decide +kernel
theorem dX10_enters_9 : decode cX10_enters 9 = .ok (.if_icmp .ne 52, 3) := by decide +kernel
theorem dX10_enters_12 : decode cX10_enters 12 = .ok (.iconst 0, 1) := by decide +kernel
theorem dX10_enters_13 : decode cX10_enters 13 = .ok (.istore 4, 2) := by decide +kernel
theorem dX10_enters_15 : decode cX10_enters 15 = .ok (.iload 4, 2) := by decide +kernel
theorem dX10_enters_17 : decode cX10_enters 17 = .ok (.bipush 76, 2) := by decide +kernel
theorem dX10_enters_19 : decode cX10_enters 19 = .ok (.if_icmp .ge 31, 3) := by decide +kernel
theorem dX10_enters_22 : decode cX10_enters 22 = .ok (.aload_n 0, 1) := by decide +kernel
theorem dX10_enters_23 : decode cX10_enters 23 = .ok (.getfield 22, 3) := by decide +kernel
theorem dX10_enters_26 : decode cX10_enters 26 = .ok (.bipush 45, 2) := by decide +kernel
theorem dX10_enters_28 : decode cX10_enters 28 = .ok (.iload 4, 2) := by decide +kernel
theorem dX10_enters_30 : decode cX10_enters 30 = .ok (.iadd, 1) := by decide +kernel
theorem dX10_enters_31 : decode cX10_enters 31 = .ok (.aload_n 0, 1) := by decide +kernel
theorem dX10_enters_32 : decode cX10_enters 32 = .ok (.getfield 22, 3) := by decide +kernel
theorem dX10_enters_35 : decode cX10_enters 35 = .ok (.bipush 45, 2) := by decide +kernel
theorem dX10_enters_37 : decode cX10_enters 37 = .ok (.iload 4, 2) := by decide +kernel
theorem dX10_enters_39 : decode cX10_enters 39 = .ok (.iadd, 1) := by decide +kernel
theorem dX10_enters_40 : decode cX10_enters 40 = .ok (.iconst 4, 1) := by decide +kernel
theorem dX10_enters_41 : decode cX10_enters 41 = .ok (.iadd, 1) := by decide +kernel
theorem dX10_enters_42 : decode cX10_enters 42 = .ok (.iaload, 1) := by decide +kernel
theorem dX10_enters_43 : decode cX10_enters 43 = .ok (.iastore, 1) := by decide +kernel
theorem dX10_enters_44 : decode cX10_enters 44 = .ok (.iinc 4 1, 3) := by decide +kernel
theorem dX10_enters_47 : decode cX10_enters 47 = .ok (.goto (-32), 3) := by decide +kernel
theorem dX10_enters_50 : decode cX10_enters 50 = .ok (.aload_n 0, 1) := by decide +kernel
theorem dX10_enters_51 : decode cX10_enters 51 = .ok (.getfield 22, 3) := by decide +kernel
theorem dX10_enters_54 : decode cX10_enters 54 = .ok (.bipush 44, 2) := by decide +kernel
theorem dX10_enters_56 : decode cX10_enters 56 = .ok (.dup2, 1) := by decide +kernel
theorem dX10_enters_57 : decode cX10_enters 57 = .ok (.iaload, 1) := by decide +kernel
theorem dX10_enters_58 : decode cX10_enters 58 = .ok (.iconst 1, 1) := by decide +kernel
theorem dX10_enters_59 : decode cX10_enters 59 = .ok (.isub, 1) := by decide +kernel
theorem dX10_enters_60 : decode cX10_enters 60 = .ok (.iastore, 1) := by decide +kernel
theorem dX10_enters_61 : decode cX10_enters 61 = .ok (.bipush 45, 2) := by decide +kernel
theorem dX10_enters_63 : decode cX10_enters 63 = .ok (.iconst 4, 1) := by decide +kernel
theorem dX10_enters_64 : decode cX10_enters 64 = .ok (.aload_n 0, 1) := by decide +kernel
theorem dX10_enters_65 : decode cX10_enters 65 = .ok (.getfield 22, 3) := by decide +kernel
theorem dX10_enters_68 : decode cX10_enters 68 = .ok (.bipush 44, 2) := by decide +kernel
theorem dX10_enters_70 : decode cX10_enters 70 = .ok (.iaload, 1) := by decide +kernel
theorem dX10_enters_71 : decode cX10_enters 71 = .ok (.imul, 1) := by decide +kernel
theorem dX10_enters_72 : decode cX10_enters 72 = .ok (.iadd, 1) := by decide +kernel
theorem dX10_enters_73 : decode cX10_enters 73 = .ok (.istore 4, 2) := by decide +kernel
theorem dX10_enters_75 : decode cX10_enters 75 = .ok (.aload_n 0, 1) := by decide +kernel
theorem dX10_enters_76 : decode cX10_enters 76 = .ok (.getfield 22, 3) := by decide +kernel
theorem dX10_enters_79 : decode cX10_enters 79 = .ok (.iload 4, 2) := by decide +kernel
theorem dX10_enters_81 : decode cX10_enters 81 = .ok (.aload_n 0, 1) := by decide +kernel
theorem dX10_enters_82 : decode cX10_enters 82 = .ok (.getfield 22, 3) := by decide +kernel
theorem dX10_enters_85 : decode cX10_enters 85 = .ok (.bipush 25, 2) := by decide +kernel
theorem dX10_enters_87 : decode cX10_enters 87 = .ok (.iaload, 1) := by decide +kernel
theorem dX10_enters_88 : decode cX10_enters 88 = .ok (.iastore, 1) := by decide +kernel
theorem dX10_enters_89 : decode cX10_enters 89 = .ok (.aload_n 0, 1) := by decide +kernel
theorem dX10_enters_90 : decode cX10_enters 90 = .ok (.getfield 22, 3) := by decide +kernel
theorem dX10_enters_93 : decode cX10_enters 93 = .ok (.iload 4, 2) := by decide +kernel
theorem dX10_enters_95 : decode cX10_enters 95 = .ok (.iconst 1, 1) := by decide +kernel
theorem dX10_enters_96 : decode cX10_enters 96 = .ok (.iadd, 1) := by decide +kernel
theorem dX10_enters_97 : decode cX10_enters 97 = .ok (.iload_n 1, 1) := by decide +kernel
theorem dX10_enters_98 : decode cX10_enters 98 = .ok (.iastore, 1) := by decide +kernel
theorem dX10_enters_99 : decode cX10_enters 99 = .ok (.aload_n 0, 1) := by decide +kernel
theorem dX10_enters_100 : decode cX10_enters 100 = .ok (.getfield 22, 3) := by decide +kernel
theorem dX10_enters_103 : decode cX10_enters 103 = .ok (.iload 4, 2) := by decide +kernel
theorem dX10_enters_105 : decode cX10_enters 105 = .ok (.iconst 2, 1) := by decide +kernel
theorem dX10_enters_106 : decode cX10_enters 106 = .ok (.iadd, 1) := by decide +kernel
theorem dX10_enters_107 : decode cX10_enters 107 = .ok (.iload_n 2, 1) := by decide +kernel
theorem dX10_enters_108 : decode cX10_enters 108 = .ok (.iastore, 1) := by decide +kernel
theorem dX10_enters_109 : decode cX10_enters 109 = .ok (.aload_n 0, 1) := by decide +kernel
theorem dX10_enters_110 : decode cX10_enters 110 = .ok (.getfield 22, 3) := by decide +kernel
theorem dX10_enters_113 : decode cX10_enters 113 = .ok (.iload 4, 2) := by decide +kernel
theorem dX10_enters_115 : decode cX10_enters 115 = .ok (.iconst 3, 1) := by decide +kernel
theorem dX10_enters_116 : decode cX10_enters 116 = .ok (.iadd, 1) := by decide +kernel
theorem dX10_enters_117 : decode cX10_enters 117 = .ok (.iload_n 3, 1) := by decide +kernel
theorem dX10_enters_118 : decode cX10_enters 118 = .ok (.iastore, 1) := by decide +kernel
theorem dX10_enters_119 : decode cX10_enters 119 = .ok (.aload_n 0, 1) := by decide +kernel
theorem dX10_enters_120 : decode cX10_enters 120 = .ok (.getfield 22, 3) := by decide +kernel
theorem dX10_enters_123 : decode cX10_enters 123 = .ok (.bipush 44, 2) := by decide +kernel
theorem dX10_enters_125 : decode cX10_enters 125 = .ok (.dup2, 1) := by decide +kernel
theorem dX10_enters_126 : decode cX10_enters 126 = .ok (.iaload, 1) := by decide +kernel
theorem dX10_enters_127 : decode cX10_enters 127 = .ok (.iconst 1, 1) := by decide +kernel
theorem dX10_enters_128 : decode cX10_enters 128 = .ok (.iadd, 1) := by decide +kernel
theorem dX10_enters_129 : decode cX10_enters 129 = .ok (.iastore, 1) := by decide +kernel
theorem dX10_enters_130 : decode cX10_enters 130 = .ok (.return_, 1) := by decide +kernel
theorem dX10_capped_0 : decode cX10_capped 0 = .ok (.iload_n 0, 1) := by decide +kernel
theorem dX10_capped_1 : decode cX10_capped 1 = .ok (.sipush 9999, 3) := by decide +kernel
theorem dX10_capped_4 : decode cX10_capped 4 = .ok (.if_icmp .le 9, 3) := by decide +kernel
theorem dX10_capped_7 : decode cX10_capped 7 = .ok (.sipush 9999, 3) := by decide +kernel
theorem dX10_capped_10 : decode cX10_capped 10 = .ok (.goto 4, 3) := by decide +kernel
theorem dX10_capped_13 : decode cX10_capped 13 = .ok (.iload_n 0, 1) := by decide +kernel
theorem dX10_capped_14 : decode cX10_capped 14 = .ok (.ireturn, 1) := by decide +kernel
theorem dX10_peels_0 : decode cX10_peels 0 = .ok (.aload_n 0, 1) := by decide +kernel
theorem dX10_peels_1 : decode cX10_peels 1 = .ok (.getfield 22, 3) := by decide +kernel
theorem dX10_peels_4 : decode cX10_peels 4 = .ok (.iconst 1, 1) := by decide +kernel
theorem dX10_peels_5 : decode cX10_peels 5 = .ok (.iaload, 1) := by decide +kernel
theorem dX10_peels_6 : decode cX10_peels 6 = .ok (.istore_n 2, 1) := by decide +kernel
theorem dX10_peels_7 : decode cX10_peels 7 = .ok (.aload_n 0, 1) := by decide +kernel
theorem dX10_peels_8 : decode cX10_peels 8 = .ok (.getfield 22, 3) := by decide +kernel
theorem dX10_peels_11 : decode cX10_peels 11 = .ok (.bipush 13, 2) := by decide +kernel
theorem dX10_peels_13 : decode cX10_peels 13 = .ok (.iaload, 1) := by decide +kernel
theorem dX10_peels_14 : decode cX10_peels 14 = .ok (.istore_n 3, 1) := by decide +kernel
theorem dX10_peels_15 : decode cX10_peels 15 = .ok (.aload_n 0, 1) := by decide +kernel
theorem dX10_peels_16 : decode cX10_peels 16 = .ok (.iconst 0, 1) := by decide +kernel
theorem dX10_peels_17 : decode cX10_peels 17 = .ok (.invokevirtual 224, 3) := by decide +kernel
theorem dX10_peels_20 : decode cX10_peels 20 = .ok (.istore 4, 2) := by decide +kernel
theorem dX10_peels_22 : decode cX10_peels 22 = .ok (.aload_n 0, 1) := by decide +kernel
theorem dX10_peels_23 : decode cX10_peels 23 = .ok (.getfield 22, 3) := by decide +kernel
theorem dX10_peels_26 : decode cX10_peels 26 = .ok (.bipush 29, 2) := by decide +kernel
theorem dX10_peels_28 : decode cX10_peels 28 = .ok (.iload_n 1, 1) := by decide +kernel
theorem dX10_peels_29 : decode cX10_peels 29 = .ok (.iadd, 1) := by decide +kernel
theorem dX10_peels_30 : decode cX10_peels 30 = .ok (.aload_n 0, 1) := by decide +kernel
theorem dX10_peels_31 : decode cX10_peels 31 = .ok (.getfield 22, 3) := by decide +kernel
theorem dX10_peels_34 : decode cX10_peels 34 = .ok (.bipush 29, 2) := by decide +kernel
theorem dX10_peels_36 : decode cX10_peels 36 = .ok (.iload_n 1, 1) := by decide +kernel
theorem dX10_peels_37 : decode cX10_peels 37 = .ok (.iadd, 1) := by decide +kernel
theorem dX10_peels_38 : decode cX10_peels 38 = .ok (.iaload, 1) := by decide +kernel
theorem dX10_peels_39 : decode cX10_peels 39 = .ok (.iload 4, 2) := by decide +kernel
theorem dX10_peels_41 : decode cX10_peels 41 = .ok (.iadd, 1) := by decide +kernel
theorem dX10_peels_42 : decode cX10_peels 42 = .ok (.invokestatic 237, 3) := by decide +kernel
theorem dX10_peels_45 : decode cX10_peels 45 = .ok (.iastore, 1) := by decide +kernel
theorem dX10_peels_46 : decode cX10_peels 46 = .ok (.aload_n 0, 1) := by decide +kernel
theorem dX10_peels_47 : decode cX10_peels 47 = .ok (.getfield 22, 3) := by decide +kernel
theorem dX10_peels_50 : decode cX10_peels 50 = .ok (.bipush 34, 2) := by decide +kernel
theorem dX10_peels_52 : decode cX10_peels 52 = .ok (.iload_n 1, 1) := by decide +kernel
theorem dX10_peels_53 : decode cX10_peels 53 = .ok (.iadd, 1) := by decide +kernel
theorem dX10_peels_54 : decode cX10_peels 54 = .ok (.aload_n 0, 1) := by decide +kernel
theorem dX10_peels_55 : decode cX10_peels 55 = .ok (.getfield 22, 3) := by decide +kernel
theorem dX10_peels_58 : decode cX10_peels 58 = .ok (.bipush 34, 2) := by decide +kernel
theorem dX10_peels_60 : decode cX10_peels 60 = .ok (.iload_n 1, 1) := by decide +kernel
theorem dX10_peels_61 : decode cX10_peels 61 = .ok (.iadd, 1) := by decide +kernel
theorem dX10_peels_62 : decode cX10_peels 62 = .ok (.iaload, 1) := by decide +kernel
theorem dX10_peels_63 : decode cX10_peels 63 = .ok (.aload_n 0, 1) := by decide +kernel
theorem dX10_peels_64 : decode cX10_peels 64 = .ok (.iconst 0, 1) := by decide +kernel
theorem dX10_peels_65 : decode cX10_peels 65 = .ok (.invokevirtual 227, 3) := by decide +kernel
theorem dX10_peels_68 : decode cX10_peels 68 = .ok (.iadd, 1) := by decide +kernel
theorem dX10_peels_69 : decode cX10_peels 69 = .ok (.aload_n 0, 1) := by decide +kernel
theorem dX10_peels_70 : decode cX10_peels 70 = .ok (.getfield 7, 3) := by decide +kernel
theorem dX10_peels_73 : decode cX10_peels 73 = .ok (.iload_n 1, 1) := by decide +kernel
theorem dX10_peels_74 : decode cX10_peels 74 = .ok (.iaload, 1) := by decide +kernel
theorem dX10_peels_75 : decode cX10_peels 75 = .ok (.iadd, 1) := by decide +kernel
theorem dX10_peels_76 : decode cX10_peels 76 = .ok (.invokestatic 237, 3) := by decide +kernel
theorem dX10_peels_79 : decode cX10_peels 79 = .ok (.iastore, 1) := by decide +kernel
theorem dX10_peels_80 : decode cX10_peels 80 = .ok (.aload_n 0, 1) := by decide +kernel
theorem dX10_peels_81 : decode cX10_peels 81 = .ok (.getfield 22, 3) := by decide +kernel
theorem dX10_peels_84 : decode cX10_peels 84 = .ok (.bipush 39, 2) := by decide +kernel
theorem dX10_peels_86 : decode cX10_peels 86 = .ok (.iload_n 1, 1) := by decide +kernel
theorem dX10_peels_87 : decode cX10_peels 87 = .ok (.iadd, 1) := by decide +kernel
theorem dX10_peels_88 : decode cX10_peels 88 = .ok (.dup2, 1) := by decide +kernel
theorem dX10_peels_89 : decode cX10_peels 89 = .ok (.iaload, 1) := by decide +kernel
theorem dX10_peels_90 : decode cX10_peels 90 = .ok (.iconst 1, 1) := by decide +kernel
theorem dX10_peels_91 : decode cX10_peels 91 = .ok (.iadd, 1) := by decide +kernel
theorem dX10_peels_92 : decode cX10_peels 92 = .ok (.iastore, 1) := by decide +kernel
theorem dX10_peels_93 : decode cX10_peels 93 = .ok (.aload_n 0, 1) := by decide +kernel
theorem dX10_peels_94 : decode cX10_peels 94 = .ok (.getfield 22, 3) := by decide +kernel
theorem dX10_peels_97 : decode cX10_peels 97 = .ok (.bipush 28, 2) := by decide +kernel
theorem dX10_peels_99 : decode cX10_peels 99 = .ok (.iaload, 1) := by decide +kernel
theorem dX10_peels_100 : decode cX10_peels 100 = .ok (.istore 5, 2) := by decide +kernel
theorem dX10_peels_102 : decode cX10_peels 102 = .ok (.iload_n 2, 1) := by decide +kernel
theorem dX10_peels_103 : decode cX10_peels 103 = .ok (.iconst 4, 1) := by decide +kernel
theorem dX10_peels_104 : decode cX10_peels 104 = .ok (.if_icmp .ne 33, 3) := by decide +kernel
theorem dX10_peels_107 : decode cX10_peels 107 = .ok (.iload 5, 2) := by decide +kernel
theorem dX10_peels_109 : decode cX10_peels 109 = .ok (.ifCond .lt 28, 3) := by decide +kernel
theorem dX10_peels_112 : decode cX10_peels 112 = .ok (.aload_n 0, 1) := by decide +kernel
theorem dX10_peels_113 : decode cX10_peels 113 = .ok (.getfield 22, 3) := by decide +kernel
theorem dX10_peels_116 : decode cX10_peels 116 = .ok (.bipush 29, 2) := by decide +kernel
theorem dX10_peels_118 : decode cX10_peels 118 = .ok (.iload 5, 2) := by decide +kernel
theorem dX10_peels_120 : decode cX10_peels 120 = .ok (.iadd, 1) := by decide +kernel
theorem dX10_peels_121 : decode cX10_peels 121 = .ok (.aload_n 0, 1) := by decide +kernel
theorem dX10_peels_122 : decode cX10_peels 122 = .ok (.getfield 22, 3) := by decide +kernel
theorem dX10_peels_125 : decode cX10_peels 125 = .ok (.bipush 29, 2) := by decide +kernel
theorem dX10_peels_127 : decode cX10_peels 127 = .ok (.iload 5, 2) := by decide +kernel
theorem dX10_peels_129 : decode cX10_peels 129 = .ok (.iadd, 1) := by decide +kernel
theorem dX10_peels_130 : decode cX10_peels 130 = .ok (.iaload, 1) := by decide +kernel
theorem dX10_peels_131 : decode cX10_peels 131 = .ok (.iconst 5, 1) := by decide +kernel
theorem dX10_peels_132 : decode cX10_peels 132 = .ok (.iadd, 1) := by decide +kernel
theorem dX10_peels_133 : decode cX10_peels 133 = .ok (.invokestatic 237, 3) := by decide +kernel
theorem dX10_peels_136 : decode cX10_peels 136 = .ok (.iastore, 1) := by decide +kernel
theorem dX10_peels_137 : decode cX10_peels 137 = .ok (.aload_n 0, 1) := by decide +kernel
theorem dX10_peels_138 : decode cX10_peels 138 = .ok (.getfield 22, 3) := by decide +kernel
theorem dX10_peels_141 : decode cX10_peels 141 = .ok (.bipush 28, 2) := by decide +kernel
theorem dX10_peels_143 : decode cX10_peels 143 = .ok (.iload_n 1, 1) := by decide +kernel
theorem dX10_peels_144 : decode cX10_peels 144 = .ok (.iastore, 1) := by decide +kernel
theorem dX10_peels_145 : decode cX10_peels 145 = .ok (.aload_n 0, 1) := by decide +kernel
theorem dX10_peels_146 : decode cX10_peels 146 = .ok (.iload_n 1, 1) := by decide +kernel
theorem dX10_peels_147 : decode cX10_peels 147 = .ok (.iload_n 2, 1) := by decide +kernel
theorem dX10_peels_148 : decode cX10_peels 148 = .ok (.iload_n 3, 1) := by decide +kernel
theorem dX10_peels_149 : decode cX10_peels 149 = .ok (.invokevirtual 240, 3) := by decide +kernel
theorem dX10_peels_152 : decode cX10_peels 152 = .ok (.aload_n 0, 1) := by decide +kernel
theorem dX10_peels_153 : decode cX10_peels 153 = .ok (.getfield 22, 3) := by decide +kernel
theorem dX10_peels_156 : decode cX10_peels 156 = .ok (.iconst 0, 1) := by decide +kernel
theorem dX10_peels_157 : decode cX10_peels 157 = .ok (.dup2, 1) := by decide +kernel
theorem dX10_peels_158 : decode cX10_peels 158 = .ok (.iaload, 1) := by decide +kernel
theorem dX10_peels_159 : decode cX10_peels 159 = .ok (.iconst 1, 1) := by decide +kernel
theorem dX10_peels_160 : decode cX10_peels 160 = .ok (.isub, 1) := by decide +kernel
theorem dX10_peels_161 : decode cX10_peels 161 = .ok (.iastore, 1) := by decide +kernel
theorem dX10_peels_162 : decode cX10_peels 162 = .ok (.iconst 0, 1) := by decide +kernel
theorem dX10_peels_163 : decode cX10_peels 163 = .ok (.istore 6, 2) := by decide +kernel
theorem dX10_peels_165 : decode cX10_peels 165 = .ok (.iload 6, 2) := by decide +kernel
theorem dX10_peels_167 : decode cX10_peels 167 = .ok (.bipush 12, 2) := by decide +kernel
theorem dX10_peels_169 : decode cX10_peels 169 = .ok (.if_icmp .ge 81, 3) := by decide +kernel
theorem dX10_peels_172 : decode cX10_peels 172 = .ok (.aload_n 0, 1) := by decide +kernel
theorem dX10_peels_173 : decode cX10_peels 173 = .ok (.getfield 22, 3) := by decide +kernel
theorem dX10_peels_176 : decode cX10_peels 176 = .ok (.iconst 1, 1) := by decide +kernel
theorem dX10_peels_177 : decode cX10_peels 177 = .ok (.iload 6, 2) := by decide +kernel
theorem dX10_peels_179 : decode cX10_peels 179 = .ok (.iadd, 1) := by decide +kernel
theorem dX10_peels_180 : decode cX10_peels 180 = .ok (.iload 6, 2) := by decide +kernel
theorem dX10_peels_182 : decode cX10_peels 182 = .ok (.aload_n 0, 1) := by decide +kernel
theorem dX10_peels_183 : decode cX10_peels 183 = .ok (.getfield 22, 3) := by decide +kernel
theorem dX10_peels_186 : decode cX10_peels 186 = .ok (.iconst 0, 1) := by decide +kernel
theorem dX10_peels_187 : decode cX10_peels 187 = .ok (.iaload, 1) := by decide +kernel
theorem dX10_peels_188 : decode cX10_peels 188 = .ok (.if_icmp .ge 17, 3) := by decide +kernel
theorem dX10_peels_191 : decode cX10_peels 191 = .ok (.aload_n 0, 1) := by decide +kernel
theorem dX10_peels_192 : decode cX10_peels 192 = .ok (.getfield 22, 3) := by decide +kernel
theorem dX10_peels_195 : decode cX10_peels 195 = .ok (.iconst 1, 1) := by decide +kernel
theorem dX10_peels_196 : decode cX10_peels 196 = .ok (.iload 6, 2) := by decide +kernel
theorem dX10_peels_198 : decode cX10_peels 198 = .ok (.iadd, 1) := by decide +kernel
theorem dX10_peels_199 : decode cX10_peels 199 = .ok (.iconst 1, 1) := by decide +kernel
theorem dX10_peels_200 : decode cX10_peels 200 = .ok (.iadd, 1) := by decide +kernel
theorem dX10_peels_201 : decode cX10_peels 201 = .ok (.iaload, 1) := by decide +kernel
theorem dX10_peels_202 : decode cX10_peels 202 = .ok (.goto 4, 3) := by decide +kernel
theorem dX10_peels_205 : decode cX10_peels 205 = .ok (.iconst 0, 1) := by decide +kernel
theorem dX10_peels_206 : decode cX10_peels 206 = .ok (.iastore, 1) := by decide +kernel
theorem dX10_peels_207 : decode cX10_peels 207 = .ok (.aload_n 0, 1) := by decide +kernel
theorem dX10_peels_208 : decode cX10_peels 208 = .ok (.getfield 22, 3) := by decide +kernel
theorem dX10_peels_211 : decode cX10_peels 211 = .ok (.bipush 13, 2) := by decide +kernel
theorem dX10_peels_213 : decode cX10_peels 213 = .ok (.iload 6, 2) := by decide +kernel
theorem dX10_peels_215 : decode cX10_peels 215 = .ok (.iadd, 1) := by decide +kernel
theorem dX10_peels_216 : decode cX10_peels 216 = .ok (.iload 6, 2) := by decide +kernel
theorem dX10_peels_218 : decode cX10_peels 218 = .ok (.aload_n 0, 1) := by decide +kernel
theorem dX10_peels_219 : decode cX10_peels 219 = .ok (.getfield 22, 3) := by decide +kernel
theorem dX10_peels_222 : decode cX10_peels 222 = .ok (.iconst 0, 1) := by decide +kernel
theorem dX10_peels_223 : decode cX10_peels 223 = .ok (.iaload, 1) := by decide +kernel
theorem dX10_peels_224 : decode cX10_peels 224 = .ok (.if_icmp .ge 18, 3) := by decide +kernel
theorem dX10_peels_227 : decode cX10_peels 227 = .ok (.aload_n 0, 1) := by decide +kernel
theorem dX10_peels_228 : decode cX10_peels 228 = .ok (.getfield 22, 3) := by decide +kernel
theorem dX10_peels_231 : decode cX10_peels 231 = .ok (.bipush 13, 2) := by decide +kernel
theorem dX10_peels_233 : decode cX10_peels 233 = .ok (.iload 6, 2) := by decide +kernel
theorem dX10_peels_235 : decode cX10_peels 235 = .ok (.iadd, 1) := by decide +kernel
theorem dX10_peels_236 : decode cX10_peels 236 = .ok (.iconst 1, 1) := by decide +kernel
theorem dX10_peels_237 : decode cX10_peels 237 = .ok (.iadd, 1) := by decide +kernel
theorem dX10_peels_238 : decode cX10_peels 238 = .ok (.iaload, 1) := by decide +kernel
theorem dX10_peels_239 : decode cX10_peels 239 = .ok (.goto 4, 3) := by decide +kernel
theorem dX10_peels_242 : decode cX10_peels 242 = .ok (.iconst 0, 1) := by decide +kernel
theorem dX10_peels_243 : decode cX10_peels 243 = .ok (.iastore, 1) := by decide +kernel
theorem dX10_peels_244 : decode cX10_peels 244 = .ok (.iinc 6 1, 3) := by decide +kernel
theorem dX10_peels_247 : decode cX10_peels 247 = .ok (.goto (-82), 3) := by decide +kernel
theorem dX10_peels_250 : decode cX10_peels 250 = .ok (.aload_n 0, 1) := by decide +kernel
theorem dX10_peels_251 : decode cX10_peels 251 = .ok (.getfield 22, 3) := by decide +kernel
theorem dX10_peels_254 : decode cX10_peels 254 = .ok (.bipush 27, 2) := by decide +kernel
theorem dX10_peels_256 : decode cX10_peels 256 = .ok (.aload_n 0, 1) := by decide +kernel
theorem dX10_peels_257 : decode cX10_peels 257 = .ok (.getfield 22, 3) := by decide +kernel
theorem dX10_peels_260 : decode cX10_peels 260 = .ok (.iconst 0, 1) := by decide +kernel
theorem dX10_peels_261 : decode cX10_peels 261 = .ok (.iaload, 1) := by decide +kernel
theorem dX10_peels_262 : decode cX10_peels 262 = .ok (.ifCond .ne 10, 3) := by decide +kernel
theorem dX10_peels_265 : decode cX10_peels 265 = .ok (.aload_n 0, 1) := by decide +kernel
theorem dX10_peels_266 : decode cX10_peels 266 = .ok (.getfield 161, 3) := by decide +kernel
theorem dX10_peels_269 : decode cX10_peels 269 = .ok (.goto 10, 3) := by decide +kernel
theorem dX10_peels_272 : decode cX10_peels 272 = .ok (.aload_n 0, 1) := by decide +kernel
theorem dX10_peels_273 : decode cX10_peels 273 = .ok (.getfield 22, 3) := by decide +kernel
theorem dX10_peels_276 : decode cX10_peels 276 = .ok (.bipush 27, 2) := by decide +kernel
theorem dX10_peels_278 : decode cX10_peels 278 = .ok (.iaload, 1) := by decide +kernel
theorem dX10_peels_279 : decode cX10_peels 279 = .ok (.iastore, 1) := by decide +kernel
theorem dX10_peels_280 : decode cX10_peels 280 = .ok (.iload 4, 2) := by decide +kernel
theorem dX10_peels_282 : decode cX10_peels 282 = .ok (.ireturn, 1) := by decide +kernel
theorem dX10_grows_0 : decode cX10_grows 0 = .ok (.aload_n 0, 1) := by decide +kernel
theorem dX10_grows_1 : decode cX10_grows 1 = .ok (.getfield 22, 3) := by decide +kernel
theorem dX10_grows_4 : decode cX10_grows 4 = .ok (.bipush 13, 2) := by decide +kernel
theorem dX10_grows_6 : decode cX10_grows 6 = .ok (.iaload, 1) := by decide +kernel
theorem dX10_grows_7 : decode cX10_grows 7 = .ok (.bipush 20, 2) := by decide +kernel
theorem dX10_grows_9 : decode cX10_grows 9 = .ok (.if_icmp .ge 17, 3) := by decide +kernel
theorem dX10_grows_12 : decode cX10_grows 12 = .ok (.aload_n 0, 1) := by decide +kernel
theorem dX10_grows_13 : decode cX10_grows 13 = .ok (.getfield 22, 3) := by decide +kernel
theorem dX10_grows_16 : decode cX10_grows 16 = .ok (.bipush 13, 2) := by decide +kernel
theorem dX10_grows_18 : decode cX10_grows 18 = .ok (.dup2, 1) := by decide +kernel
theorem dX10_grows_19 : decode cX10_grows 19 = .ok (.iaload, 1) := by decide +kernel
theorem dX10_grows_20 : decode cX10_grows 20 = .ok (.iconst 1, 1) := by decide +kernel
theorem dX10_grows_21 : decode cX10_grows 21 = .ok (.iadd, 1) := by decide +kernel
theorem dX10_grows_22 : decode cX10_grows 22 = .ok (.iastore, 1) := by decide +kernel
theorem dX10_grows_23 : decode cX10_grows 23 = .ok (.goto 94, 3) := by decide +kernel
theorem dX10_grows_26 : decode cX10_grows 26 = .ok (.aload_n 0, 1) := by decide +kernel
theorem dX10_grows_27 : decode cX10_grows 27 = .ok (.getfield 22, 3) := by decide +kernel
theorem dX10_grows_30 : decode cX10_grows 30 = .ok (.iconst 0, 1) := by decide +kernel
theorem dX10_grows_31 : decode cX10_grows 31 = .ok (.iaload, 1) := by decide +kernel
theorem dX10_grows_32 : decode cX10_grows 32 = .ok (.bipush 12, 2) := by decide +kernel
theorem dX10_grows_34 : decode cX10_grows 34 = .ok (.if_icmp .ge 83, 3) := by decide +kernel
theorem dX10_grows_37 : decode cX10_grows 37 = .ok (.aload_n 0, 1) := by decide +kernel
theorem dX10_grows_38 : decode cX10_grows 38 = .ok (.getfield 22, 3) := by decide +kernel
theorem dX10_grows_41 : decode cX10_grows 41 = .ok (.iconst 0, 1) := by decide +kernel
theorem dX10_grows_42 : decode cX10_grows 42 = .ok (.iaload, 1) := by decide +kernel
theorem dX10_grows_43 : decode cX10_grows 43 = .ok (.istore_n 1, 1) := by decide +kernel
theorem dX10_grows_44 : decode cX10_grows 44 = .ok (.iload_n 1, 1) := by decide +kernel
theorem dX10_grows_45 : decode cX10_grows 45 = .ok (.ifCond .le 47, 3) := by decide +kernel
theorem dX10_grows_48 : decode cX10_grows 48 = .ok (.aload_n 0, 1) := by decide +kernel
theorem dX10_grows_49 : decode cX10_grows 49 = .ok (.getfield 22, 3) := by decide +kernel
theorem dX10_grows_52 : decode cX10_grows 52 = .ok (.iconst 1, 1) := by decide +kernel
theorem dX10_grows_53 : decode cX10_grows 53 = .ok (.iload_n 1, 1) := by decide +kernel
theorem dX10_grows_54 : decode cX10_grows 54 = .ok (.iadd, 1) := by decide +kernel
theorem dX10_grows_55 : decode cX10_grows 55 = .ok (.aload_n 0, 1) := by decide +kernel
theorem dX10_grows_56 : decode cX10_grows 56 = .ok (.getfield 22, 3) := by decide +kernel
theorem dX10_grows_59 : decode cX10_grows 59 = .ok (.iconst 1, 1) := by decide +kernel
theorem dX10_grows_60 : decode cX10_grows 60 = .ok (.iload_n 1, 1) := by decide +kernel
theorem dX10_grows_61 : decode cX10_grows 61 = .ok (.iadd, 1) := by decide +kernel
theorem dX10_grows_62 : decode cX10_grows 62 = .ok (.iconst 1, 1) := by decide +kernel
theorem dX10_grows_63 : decode cX10_grows 63 = .ok (.isub, 1) := by decide +kernel
theorem dX10_grows_64 : decode cX10_grows 64 = .ok (.iaload, 1) := by decide +kernel
theorem dX10_grows_65 : decode cX10_grows 65 = .ok (.iastore, 1) := by decide +kernel
theorem dX10_grows_66 : decode cX10_grows 66 = .ok (.aload_n 0, 1) := by decide +kernel
theorem dX10_grows_67 : decode cX10_grows 67 = .ok (.getfield 22, 3) := by decide +kernel
theorem dX10_grows_70 : decode cX10_grows 70 = .ok (.bipush 13, 2) := by decide +kernel
theorem dX10_grows_72 : decode cX10_grows 72 = .ok (.iload_n 1, 1) := by decide +kernel
theorem dX10_grows_73 : decode cX10_grows 73 = .ok (.iadd, 1) := by decide +kernel
theorem dX10_grows_74 : decode cX10_grows 74 = .ok (.aload_n 0, 1) := by decide +kernel
theorem dX10_grows_75 : decode cX10_grows 75 = .ok (.getfield 22, 3) := by decide +kernel
theorem dX10_grows_78 : decode cX10_grows 78 = .ok (.bipush 13, 2) := by decide +kernel
theorem dX10_grows_80 : decode cX10_grows 80 = .ok (.iload_n 1, 1) := by decide +kernel
theorem dX10_grows_81 : decode cX10_grows 81 = .ok (.iadd, 1) := by decide +kernel
theorem dX10_grows_82 : decode cX10_grows 82 = .ok (.iconst 1, 1) := by decide +kernel
theorem dX10_grows_83 : decode cX10_grows 83 = .ok (.isub, 1) := by decide +kernel
theorem dX10_grows_84 : decode cX10_grows 84 = .ok (.iaload, 1) := by decide +kernel
theorem dX10_grows_85 : decode cX10_grows 85 = .ok (.iastore, 1) := by decide +kernel
theorem dX10_grows_86 : decode cX10_grows 86 = .ok (.iinc 1 (-1), 3) := by decide +kernel
theorem dX10_grows_89 : decode cX10_grows 89 = .ok (.goto (-45), 3) := by decide +kernel
theorem dX10_grows_92 : decode cX10_grows 92 = .ok (.aload_n 0, 1) := by decide +kernel
theorem dX10_grows_93 : decode cX10_grows 93 = .ok (.getfield 22, 3) := by decide +kernel
theorem dX10_grows_96 : decode cX10_grows 96 = .ok (.iconst 1, 1) := by decide +kernel
theorem dX10_grows_97 : decode cX10_grows 97 = .ok (.iconst 2, 1) := by decide +kernel
theorem dX10_grows_98 : decode cX10_grows 98 = .ok (.iastore, 1) := by decide +kernel
theorem dX10_grows_99 : decode cX10_grows 99 = .ok (.aload_n 0, 1) := by decide +kernel
theorem dX10_grows_100 : decode cX10_grows 100 = .ok (.getfield 22, 3) := by decide +kernel
theorem dX10_grows_103 : decode cX10_grows 103 = .ok (.bipush 13, 2) := by decide +kernel
theorem dX10_grows_105 : decode cX10_grows 105 = .ok (.iconst 1, 1) := by decide +kernel
theorem dX10_grows_106 : decode cX10_grows 106 = .ok (.iastore, 1) := by decide +kernel
theorem dX10_grows_107 : decode cX10_grows 107 = .ok (.aload_n 0, 1) := by decide +kernel
theorem dX10_grows_108 : decode cX10_grows 108 = .ok (.getfield 22, 3) := by decide +kernel
theorem dX10_grows_111 : decode cX10_grows 111 = .ok (.iconst 0, 1) := by decide +kernel
theorem dX10_grows_112 : decode cX10_grows 112 = .ok (.dup2, 1) := by decide +kernel
theorem dX10_grows_113 : decode cX10_grows 113 = .ok (.iaload, 1) := by decide +kernel
theorem dX10_grows_114 : decode cX10_grows 114 = .ok (.iconst 1, 1) := by decide +kernel
theorem dX10_grows_115 : decode cX10_grows 115 = .ok (.iadd, 1) := by decide +kernel
theorem dX10_grows_116 : decode cX10_grows 116 = .ok (.iastore, 1) := by decide +kernel
theorem dX10_grows_117 : decode cX10_grows 117 = .ok (.return_, 1) := by decide +kernel
theorem dX10_passes_0 : decode cX10_passes 0 = .ok (.iconst 0, 1) := by decide +kernel
theorem dX10_passes_1 : decode cX10_passes 1 = .ok (.istore_n 1, 1) := by decide +kernel
theorem dX10_passes_2 : decode cX10_passes 2 = .ok (.iload_n 1, 1) := by decide +kernel
theorem dX10_passes_3 : decode cX10_passes 3 = .ok (.aload_n 0, 1) := by decide +kernel
theorem dX10_passes_4 : decode cX10_passes 4 = .ok (.getfield 22, 3) := by decide +kernel
theorem dX10_passes_7 : decode cX10_passes 7 = .ok (.iconst 0, 1) := by decide +kernel
theorem dX10_passes_8 : decode cX10_passes 8 = .ok (.iaload, 1) := by decide +kernel
theorem dX10_passes_9 : decode cX10_passes 9 = .ok (.if_icmp .ge 52, 3) := by decide +kernel
theorem dX10_passes_12 : decode cX10_passes 12 = .ok (.aload_n 0, 1) := by decide +kernel
theorem dX10_passes_13 : decode cX10_passes 13 = .ok (.getfield 22, 3) := by decide +kernel
theorem dX10_passes_16 : decode cX10_passes 16 = .ok (.bipush 13, 2) := by decide +kernel
theorem dX10_passes_18 : decode cX10_passes 18 = .ok (.iload_n 1, 1) := by decide +kernel
theorem dX10_passes_19 : decode cX10_passes 19 = .ok (.iadd, 1) := by decide +kernel
theorem dX10_passes_20 : decode cX10_passes 20 = .ok (.dup2, 1) := by decide +kernel
theorem dX10_passes_21 : decode cX10_passes 21 = .ok (.iaload, 1) := by decide +kernel
theorem dX10_passes_22 : decode cX10_passes 22 = .ok (.aload_n 0, 1) := by decide +kernel
theorem dX10_passes_23 : decode cX10_passes 23 = .ok (.getfield 22, 3) := by decide +kernel
theorem dX10_passes_26 : decode cX10_passes 26 = .ok (.iconst 1, 1) := by decide +kernel
theorem dX10_passes_27 : decode cX10_passes 27 = .ok (.iload_n 1, 1) := by decide +kernel
theorem dX10_passes_28 : decode cX10_passes 28 = .ok (.iadd, 1) := by decide +kernel
theorem dX10_passes_29 : decode cX10_passes 29 = .ok (.iaload, 1) := by decide +kernel
theorem dX10_passes_30 : decode cX10_passes 30 = .ok (.iconst 3, 1) := by decide +kernel
theorem dX10_passes_31 : decode cX10_passes 31 = .ok (.if_icmp .ne 21, 3) := by decide +kernel
theorem dX10_passes_34 : decode cX10_passes 34 = .ok (.aload_n 0, 1) := by decide +kernel
theorem dX10_passes_35 : decode cX10_passes 35 = .ok (.getfield 22, 3) := by decide +kernel
theorem dX10_passes_38 : decode cX10_passes 38 = .ok (.bipush 13, 2) := by decide +kernel
theorem dX10_passes_40 : decode cX10_passes 40 = .ok (.iload_n 1, 1) := by decide +kernel
theorem dX10_passes_41 : decode cX10_passes 41 = .ok (.iadd, 1) := by decide +kernel
theorem dX10_passes_42 : decode cX10_passes 42 = .ok (.iaload, 1) := by decide +kernel
theorem dX10_passes_43 : decode cX10_passes 43 = .ok (.bipush 20, 2) := by decide +kernel
theorem dX10_passes_45 : decode cX10_passes 45 = .ok (.if_icmp .ge 7, 3) := by decide +kernel
theorem dX10_passes_48 : decode cX10_passes 48 = .ok (.iconst 1, 1) := by decide +kernel
theorem dX10_passes_49 : decode cX10_passes 49 = .ok (.goto 4, 3) := by decide +kernel
theorem dX10_passes_52 : decode cX10_passes 52 = .ok (.iconst 0, 1) := by decide +kernel
theorem dX10_passes_53 : decode cX10_passes 53 = .ok (.iadd, 1) := by decide +kernel
theorem dX10_passes_54 : decode cX10_passes 54 = .ok (.iastore, 1) := by decide +kernel
theorem dX10_passes_55 : decode cX10_passes 55 = .ok (.iinc 1 1, 3) := by decide +kernel
theorem dX10_passes_58 : decode cX10_passes 58 = .ok (.goto (-56), 3) := by decide +kernel
theorem dX10_passes_61 : decode cX10_passes 61 = .ok (.iconst 0, 1) := by decide +kernel
theorem dX10_passes_62 : decode cX10_passes 62 = .ok (.istore_n 1, 1) := by decide +kernel
theorem dX10_passes_63 : decode cX10_passes 63 = .ok (.iload_n 1, 1) := by decide +kernel
theorem dX10_passes_64 : decode cX10_passes 64 = .ok (.aload_n 0, 1) := by decide +kernel
theorem dX10_passes_65 : decode cX10_passes 65 = .ok (.getfield 91, 3) := by decide +kernel
theorem dX10_passes_68 : decode cX10_passes 68 = .ok (.if_icmp .ge 56, 3) := by decide +kernel
theorem dX10_passes_71 : decode cX10_passes 71 = .ok (.aload_n 0, 1) := by decide +kernel
theorem dX10_passes_72 : decode cX10_passes 72 = .ok (.getfield 22, 3) := by decide +kernel
theorem dX10_passes_75 : decode cX10_passes 75 = .ok (.bipush 34, 2) := by decide +kernel
theorem dX10_passes_77 : decode cX10_passes 77 = .ok (.iload_n 1, 1) := by decide +kernel
theorem dX10_passes_78 : decode cX10_passes 78 = .ok (.iadd, 1) := by decide +kernel
theorem dX10_passes_79 : decode cX10_passes 79 = .ok (.aload_n 0, 1) := by decide +kernel
theorem dX10_passes_80 : decode cX10_passes 80 = .ok (.getfield 22, 3) := by decide +kernel
theorem dX10_passes_83 : decode cX10_passes 83 = .ok (.bipush 34, 2) := by decide +kernel
theorem dX10_passes_85 : decode cX10_passes 85 = .ok (.iload_n 1, 1) := by decide +kernel
theorem dX10_passes_86 : decode cX10_passes 86 = .ok (.iadd, 1) := by decide +kernel
theorem dX10_passes_87 : decode cX10_passes 87 = .ok (.iaload, 1) := by decide +kernel
theorem dX10_passes_88 : decode cX10_passes 88 = .ok (.aload_n 0, 1) := by decide +kernel
theorem dX10_passes_89 : decode cX10_passes 89 = .ok (.getfield 13, 3) := by decide +kernel
theorem dX10_passes_92 : decode cX10_passes 92 = .ok (.iload_n 1, 1) := by decide +kernel
theorem dX10_passes_93 : decode cX10_passes 93 = .ok (.iaload, 1) := by decide +kernel
theorem dX10_passes_94 : decode cX10_passes 94 = .ok (.if_icmp .le 22, 3) := by decide +kernel
theorem dX10_passes_97 : decode cX10_passes 97 = .ok (.aload_n 0, 1) := by decide +kernel
theorem dX10_passes_98 : decode cX10_passes 98 = .ok (.getfield 22, 3) := by decide +kernel
theorem dX10_passes_101 : decode cX10_passes 101 = .ok (.bipush 34, 2) := by decide +kernel
theorem dX10_passes_103 : decode cX10_passes 103 = .ok (.iload_n 1, 1) := by decide +kernel
theorem dX10_passes_104 : decode cX10_passes 104 = .ok (.iadd, 1) := by decide +kernel
theorem dX10_passes_105 : decode cX10_passes 105 = .ok (.iaload, 1) := by decide +kernel
theorem dX10_passes_106 : decode cX10_passes 106 = .ok (.aload_n 0, 1) := by decide +kernel
theorem dX10_passes_107 : decode cX10_passes 107 = .ok (.getfield 13, 3) := by decide +kernel
theorem dX10_passes_110 : decode cX10_passes 110 = .ok (.iload_n 1, 1) := by decide +kernel
theorem dX10_passes_111 : decode cX10_passes 111 = .ok (.iaload, 1) := by decide +kernel
theorem dX10_passes_112 : decode cX10_passes 112 = .ok (.isub, 1) := by decide +kernel
theorem dX10_passes_113 : decode cX10_passes 113 = .ok (.goto 4, 3) := by decide +kernel
theorem dX10_passes_116 : decode cX10_passes 116 = .ok (.iconst 0, 1) := by decide +kernel
theorem dX10_passes_117 : decode cX10_passes 117 = .ok (.iastore, 1) := by decide +kernel
theorem dX10_passes_118 : decode cX10_passes 118 = .ok (.iinc 1 1, 3) := by decide +kernel
theorem dX10_passes_121 : decode cX10_passes 121 = .ok (.goto (-58), 3) := by decide +kernel
theorem dX10_passes_124 : decode cX10_passes 124 = .ok (.aload_n 0, 1) := by decide +kernel
theorem dX10_passes_125 : decode cX10_passes 125 = .ok (.getfield 22, 3) := by decide +kernel
theorem dX10_passes_128 : decode cX10_passes 128 = .ok (.bipush 25, 2) := by decide +kernel
theorem dX10_passes_130 : decode cX10_passes 130 = .ok (.dup2, 1) := by decide +kernel
theorem dX10_passes_131 : decode cX10_passes 131 = .ok (.iaload, 1) := by decide +kernel
theorem dX10_passes_132 : decode cX10_passes 132 = .ok (.iconst 1, 1) := by decide +kernel
theorem dX10_passes_133 : decode cX10_passes 133 = .ok (.iadd, 1) := by decide +kernel
theorem dX10_passes_134 : decode cX10_passes 134 = .ok (.iastore, 1) := by decide +kernel
theorem dX10_passes_135 : decode cX10_passes 135 = .ok (.return_, 1) := by decide +kernel
theorem dX10_canPeel_0 : decode cX10_canPeel 0 = .ok (.aload_n 0, 1) := by decide +kernel
theorem dX10_canPeel_1 : decode cX10_canPeel 1 = .ok (.getfield 22, 3) := by decide +kernel
theorem dX10_canPeel_4 : decode cX10_canPeel 4 = .ok (.iconst 0, 1) := by decide +kernel
theorem dX10_canPeel_5 : decode cX10_canPeel 5 = .ok (.iaload, 1) := by decide +kernel
theorem dX10_canPeel_6 : decode cX10_canPeel 6 = .ok (.ifCond .le 17, 3) := by decide +kernel
theorem dX10_canPeel_9 : decode cX10_canPeel 9 = .ok (.aload_n 0, 1) := by decide +kernel
theorem dX10_canPeel_10 : decode cX10_canPeel 10 = .ok (.getfield 22, 3) := by decide +kernel
theorem dX10_canPeel_13 : decode cX10_canPeel 13 = .ok (.bipush 26, 2) := by decide +kernel
theorem dX10_canPeel_15 : decode cX10_canPeel 15 = .ok (.iaload, 1) := by decide +kernel
theorem dX10_canPeel_16 : decode cX10_canPeel 16 = .ok (.ifCond .ne 7, 3) := by decide +kernel
theorem dX10_canPeel_19 : decode cX10_canPeel 19 = .ok (.iconst 1, 1) := by decide +kernel
theorem dX10_canPeel_20 : decode cX10_canPeel 20 = .ok (.goto 4, 3) := by decide +kernel
theorem dX10_canPeel_23 : decode cX10_canPeel 23 = .ok (.iconst 0, 1) := by decide +kernel
theorem dX10_canPeel_24 : decode cX10_canPeel 24 = .ok (.ireturn, 1) := by decide +kernel
theorem dX10_peel_0 : decode cX10_peel 0 = .ok (.aload_n 0, 1) := by decide +kernel
theorem dX10_peel_1 : decode cX10_peel 1 = .ok (.iload_n 1, 1) := by decide +kernel
theorem dX10_peel_2 : decode cX10_peel 2 = .ok (.invokevirtual 230, 3) := by decide +kernel
theorem dX10_peel_5 : decode cX10_peel 5 = .ok (.ifCond .ne 6, 3) := by decide +kernel
theorem dX10_peel_8 : decode cX10_peel 8 = .ok (.ldc 223, 2) := by decide +kernel
theorem dX10_peel_10 : decode cX10_peel 10 = .ok (.ireturn, 1) := by decide +kernel
theorem dX10_peel_11 : decode cX10_peel 11 = .ok (.aload_n 0, 1) := by decide +kernel
theorem dX10_peel_12 : decode cX10_peel 12 = .ok (.invokevirtual 244, 3) := by decide +kernel
theorem dX10_peel_15 : decode cX10_peel 15 = .ok (.ifCond .ne 6, 3) := by decide +kernel
theorem dX10_peel_18 : decode cX10_peel 18 = .ok (.ldc 248, 2) := by decide +kernel
theorem dX10_peel_20 : decode cX10_peel 20 = .ok (.ireturn, 1) := by decide +kernel
theorem dX10_peel_21 : decode cX10_peel 21 = .ok (.aload_n 0, 1) := by decide +kernel
theorem dX10_peel_22 : decode cX10_peel 22 = .ok (.invokevirtual 249, 3) := by decide +kernel
theorem dX10_peel_25 : decode cX10_peel 25 = .ok (.aload_n 0, 1) := by decide +kernel
theorem dX10_peel_26 : decode cX10_peel 26 = .ok (.iload_n 1, 1) := by decide +kernel
theorem dX10_peel_27 : decode cX10_peel 27 = .ok (.invokevirtual 252, 3) := by decide +kernel
theorem dX10_peel_30 : decode cX10_peel 30 = .ok (.ireturn, 1) := by decide +kernel
theorem dX10_stop_0 : decode cX10_stop 0 = .ok (.aload_n 0, 1) := by decide +kernel
theorem dX10_stop_1 : decode cX10_stop 1 = .ok (.getfield 157, 3) := by decide +kernel
theorem dX10_stop_4 : decode cX10_stop 4 = .ok (.ifCond .ne 6, 3) := by decide +kernel
theorem dX10_stop_7 : decode cX10_stop 7 = .ok (.ldc 248, 2) := by decide +kernel
theorem dX10_stop_9 : decode cX10_stop 9 = .ok (.ireturn, 1) := by decide +kernel
theorem dX10_stop_10 : decode cX10_stop 10 = .ok (.aload_n 0, 1) := by decide +kernel
theorem dX10_stop_11 : decode cX10_stop 11 = .ok (.invokevirtual 249, 3) := by decide +kernel
theorem dX10_stop_14 : decode cX10_stop 14 = .ok (.aload_n 0, 1) := by decide +kernel
theorem dX10_stop_15 : decode cX10_stop 15 = .ok (.getfield 22, 3) := by decide +kernel
theorem dX10_stop_18 : decode cX10_stop 18 = .ok (.bipush 26, 2) := by decide +kernel
theorem dX10_stop_20 : decode cX10_stop 20 = .ok (.iaload, 1) := by decide +kernel
theorem dX10_stop_21 : decode cX10_stop 21 = .ok (.istore_n 2, 1) := by decide +kernel
theorem dX10_stop_22 : decode cX10_stop 22 = .ok (.aload_n 0, 1) := by decide +kernel
theorem dX10_stop_23 : decode cX10_stop 23 = .ok (.getfield 22, 3) := by decide +kernel
theorem dX10_stop_26 : decode cX10_stop 26 = .ok (.bipush 26, 2) := by decide +kernel
theorem dX10_stop_28 : decode cX10_stop 28 = .ok (.iload_n 1, 1) := by decide +kernel
theorem dX10_stop_29 : decode cX10_stop 29 = .ok (.ifCond .eq 7, 3) := by decide +kernel
theorem dX10_stop_32 : decode cX10_stop 32 = .ok (.iconst 1, 1) := by decide +kernel
theorem dX10_stop_33 : decode cX10_stop 33 = .ok (.goto 4, 3) := by decide +kernel
theorem dX10_stop_36 : decode cX10_stop 36 = .ok (.iconst 0, 1) := by decide +kernel
theorem dX10_stop_37 : decode cX10_stop 37 = .ok (.iastore, 1) := by decide +kernel
theorem dX10_stop_38 : decode cX10_stop 38 = .ok (.iload_n 2, 1) := by decide +kernel
theorem dX10_stop_39 : decode cX10_stop 39 = .ok (.ireturn, 1) := by decide +kernel
theorem dX10_visit_0 : decode cX10_visit 0 = .ok (.aload_n 0, 1) := by decide +kernel
theorem dX10_visit_1 : decode cX10_visit 1 = .ok (.getfield 22, 3) := by decide +kernel
theorem dX10_visit_4 : decode cX10_visit 4 = .ok (.iconst 0, 1) := by decide +kernel
theorem dX10_visit_5 : decode cX10_visit 5 = .ok (.iaload, 1) := by decide +kernel
theorem dX10_visit_6 : decode cX10_visit 6 = .ok (.ifCond .ne 6, 3) := by decide +kernel
theorem dX10_visit_9 : decode cX10_visit 9 = .ok (.ldc 248, 2) := by decide +kernel
theorem dX10_visit_11 : decode cX10_visit 11 = .ok (.ireturn, 1) := by decide +kernel
theorem dX10_visit_12 : decode cX10_visit 12 = .ok (.aload_n 0, 1) := by decide +kernel
theorem dX10_visit_13 : decode cX10_visit 13 = .ok (.invokevirtual 249, 3) := by decide +kernel
theorem dX10_visit_16 : decode cX10_visit 16 = .ok (.aload_n 0, 1) := by decide +kernel
theorem dX10_visit_17 : decode cX10_visit 17 = .ok (.invokevirtual 255, 3) := by decide +kernel
theorem dX10_visit_20 : decode cX10_visit 20 = .ok (.aload_n 0, 1) := by decide +kernel
theorem dX10_visit_21 : decode cX10_visit 21 = .ok (.getfield 22, 3) := by decide +kernel
theorem dX10_visit_24 : decode cX10_visit 24 = .ok (.bipush 13, 2) := by decide +kernel
theorem dX10_visit_26 : decode cX10_visit 26 = .ok (.iaload, 1) := by decide +kernel
theorem dX10_visit_27 : decode cX10_visit 27 = .ok (.ireturn, 1) := by decide +kernel
theorem dX10_yearsRefused_0 : decode cX10_yearsRefused 0 = .ok (.iload_n 1, 1) := by decide +kernel
theorem dX10_yearsRefused_1 : decode cX10_yearsRefused 1 = .ok (.i2l, 1) := by decide +kernel
theorem dX10_yearsRefused_2 : decode cX10_yearsRefused 2 = .ok (.lconst 1, 1) := by decide +kernel
theorem dX10_yearsRefused_3 : decode cX10_yearsRefused 3 = .ok (.ldc2_w 258, 3) := by decide +kernel
theorem dX10_yearsRefused_6 : decode cX10_yearsRefused 6 = .ok (.invokestatic 87, 3) := by decide +kernel
theorem dX10_yearsRefused_9 : decode cX10_yearsRefused 9 = .ok (.ifCond .ne 6, 3) := by decide +kernel
theorem dX10_yearsRefused_12 : decode cX10_yearsRefused 12 = .ok (.ldc 96, 2) := by decide +kernel
theorem dX10_yearsRefused_14 : decode cX10_yearsRefused 14 = .ok (.ireturn, 1) := by decide +kernel
theorem dX10_yearsRefused_15 : decode cX10_yearsRefused 15 = .ok (.aload_n 0, 1) := by decide +kernel
theorem dX10_yearsRefused_16 : decode cX10_yearsRefused 16 = .ok (.getfield 157, 3) := by decide +kernel
theorem dX10_yearsRefused_19 : decode cX10_yearsRefused 19 = .ok (.ifCond .ne 8, 3) := by decide +kernel
theorem dX10_yearsRefused_22 : decode cX10_yearsRefused 22 = .ok (.ldc 248, 2) := by decide +kernel
theorem dX10_yearsRefused_24 : decode cX10_yearsRefused 24 = .ok (.goto 22, 3) := by decide +kernel
theorem dX10_yearsRefused_27 : decode cX10_yearsRefused 27 = .ok (.aload_n 0, 1) := by decide +kernel
theorem dX10_yearsRefused_28 : decode cX10_yearsRefused 28 = .ok (.getfield 22, 3) := by decide +kernel
theorem dX10_yearsRefused_31 : decode cX10_yearsRefused 31 = .ok (.bipush 25, 2) := by decide +kernel
theorem dX10_yearsRefused_33 : decode cX10_yearsRefused 33 = .ok (.iaload, 1) := by decide +kernel
theorem dX10_yearsRefused_34 : decode cX10_yearsRefused 34 = .ok (.sipush 9000, 3) := by decide +kernel
theorem dX10_yearsRefused_37 : decode cX10_yearsRefused 37 = .ok (.if_icmp .le 8, 3) := by decide +kernel
theorem dX10_yearsRefused_40 : decode cX10_yearsRefused 40 = .ok (.ldc 100, 2) := by decide +kernel
theorem dX10_yearsRefused_42 : decode cX10_yearsRefused 42 = .ok (.goto 4, 3) := by decide +kernel
theorem dX10_yearsRefused_45 : decode cX10_yearsRefused 45 = .ok (.iconst 0, 1) := by decide +kernel
theorem dX10_yearsRefused_46 : decode cX10_yearsRefused 46 = .ok (.ireturn, 1) := by decide +kernel
theorem dX10_year_0 : decode cX10_year 0 = .ok (.aload_n 0, 1) := by decide +kernel
theorem dX10_year_1 : decode cX10_year 1 = .ok (.iload_n 1, 1) := by decide +kernel
theorem dX10_year_2 : decode cX10_year 2 = .ok (.invokevirtual 260, 3) := by decide +kernel
theorem dX10_year_5 : decode cX10_year 5 = .ok (.istore_n 2, 1) := by decide +kernel
theorem dX10_year_6 : decode cX10_year 6 = .ok (.iload_n 2, 1) := by decide +kernel
theorem dX10_year_7 : decode cX10_year 7 = .ok (.ifCond .eq 5, 3) := by decide +kernel
theorem dX10_year_10 : decode cX10_year 10 = .ok (.iload_n 2, 1) := by decide +kernel
theorem dX10_year_11 : decode cX10_year 11 = .ok (.ireturn, 1) := by decide +kernel
theorem dX10_year_12 : decode cX10_year 12 = .ok (.iconst 0, 1) := by decide +kernel
theorem dX10_year_13 : decode cX10_year 13 = .ok (.istore_n 3, 1) := by decide +kernel
theorem dX10_year_14 : decode cX10_year 14 = .ok (.iload_n 3, 1) := by decide +kernel
theorem dX10_year_15 : decode cX10_year 15 = .ok (.iload_n 1, 1) := by decide +kernel
theorem dX10_year_16 : decode cX10_year 16 = .ok (.if_icmp .ge 17, 3) := by decide +kernel
theorem dX10_year_19 : decode cX10_year 19 = .ok (.aload_n 0, 1) := by decide +kernel
theorem dX10_year_20 : decode cX10_year 20 = .ok (.invokevirtual 249, 3) := by decide +kernel
theorem dX10_year_23 : decode cX10_year 23 = .ok (.aload_n 0, 1) := by decide +kernel
theorem dX10_year_24 : decode cX10_year 24 = .ok (.invokevirtual 263, 3) := by decide +kernel
theorem dX10_year_27 : decode cX10_year 27 = .ok (.iinc 3 1, 3) := by decide +kernel
theorem dX10_year_30 : decode cX10_year 30 = .ok (.goto (-16), 3) := by decide +kernel
theorem dX10_year_33 : decode cX10_year 33 = .ok (.aload_n 0, 1) := by decide +kernel
theorem dX10_year_34 : decode cX10_year 34 = .ok (.getfield 22, 3) := by decide +kernel
theorem dX10_year_37 : decode cX10_year 37 = .ok (.bipush 25, 2) := by decide +kernel
theorem dX10_year_39 : decode cX10_year 39 = .ok (.iaload, 1) := by decide +kernel
theorem dX10_year_40 : decode cX10_year 40 = .ok (.ireturn, 1) := by decide +kernel
theorem dX10_draw_0 : decode cX10_draw 0 = .ok (.aload_n 0, 1) := by decide +kernel
theorem dX10_draw_1 : decode cX10_draw 1 = .ok (.aload_n 0, 1) := by decide +kernel
theorem dX10_draw_2 : decode cX10_draw 2 = .ok (.getfield 266, 3) := by decide +kernel
theorem dX10_draw_5 : decode cX10_draw 5 = .ok (.i2l, 1) := by decide +kernel
theorem dX10_draw_6 : decode cX10_draw 6 = .ok (.ldc2_w 269, 3) := by decide +kernel
theorem dX10_draw_9 : decode cX10_draw 9 = .ok (.lmul, 1) := by decide +kernel
theorem dX10_draw_10 : decode cX10_draw 10 = .ok (.ldc2_w 271, 3) := by decide +kernel
theorem dX10_draw_13 : decode cX10_draw 13 = .ok (.ladd, 1) := by decide +kernel
theorem dX10_draw_14 : decode cX10_draw 14 = .ok (.ldc2_w 273, 3) := by decide +kernel
theorem dX10_draw_17 : decode cX10_draw 17 = .ok (.lrem, 1) := by decide +kernel
theorem dX10_draw_18 : decode cX10_draw 18 = .ok (.l2i, 1) := by decide +kernel
theorem dX10_draw_19 : decode cX10_draw 19 = .ok (.putfield 266, 3) := by decide +kernel
theorem dX10_draw_22 : decode cX10_draw 22 = .ok (.aload_n 0, 1) := by decide +kernel
theorem dX10_draw_23 : decode cX10_draw 23 = .ok (.getfield 266, 3) := by decide +kernel
theorem dX10_draw_26 : decode cX10_draw 26 = .ok (.ldc_w 275, 3) := by decide +kernel
theorem dX10_draw_29 : decode cX10_draw 29 = .ok (.idiv, 1) := by decide +kernel
theorem dX10_draw_30 : decode cX10_draw 30 = .ok (.iload_n 1, 1) := by decide +kernel
theorem dX10_draw_31 : decode cX10_draw 31 = .ok (.irem, 1) := by decide +kernel
theorem dX10_draw_32 : decode cX10_draw 32 = .ok (.ireturn, 1) := by decide +kernel
theorem dX10_chance_0 : decode cX10_chance 0 = .ok (.aload_n 0, 1) := by decide +kernel
theorem dX10_chance_1 : decode cX10_chance 1 = .ok (.bipush 6, 2) := by decide +kernel
theorem dX10_chance_3 : decode cX10_chance 3 = .ok (.invokevirtual 276, 3) := by decide +kernel
theorem dX10_chance_6 : decode cX10_chance 6 = .ok (.istore_n 1, 1) := by decide +kernel
theorem dX10_chance_7 : decode cX10_chance 7 = .ok (.iload_n 1, 1) := by decide +kernel
theorem dX10_chance_8 : decode cX10_chance 8 = .ok (.iconst 2, 1) := by decide +kernel
theorem dX10_chance_9 : decode cX10_chance 9 = .ok (.if_icmp .ge 28, 3) := by decide +kernel
theorem dX10_chance_12 : decode cX10_chance 12 = .ok (.aload_n 0, 1) := by decide +kernel
theorem dX10_chance_13 : decode cX10_chance 13 = .ok (.aload_n 0, 1) := by decide +kernel
theorem dX10_chance_14 : decode cX10_chance 14 = .ok (.getfield 91, 3) := by decide +kernel
theorem dX10_chance_17 : decode cX10_chance 17 = .ok (.invokevirtual 276, 3) := by decide +kernel
theorem dX10_chance_20 : decode cX10_chance 20 = .ok (.istore_n 2, 1) := by decide +kernel
theorem dX10_chance_21 : decode cX10_chance 21 = .ok (.aload_n 0, 1) := by decide +kernel
theorem dX10_chance_22 : decode cX10_chance 22 = .ok (.invokevirtual 244, 3) := by decide +kernel
theorem dX10_chance_25 : decode cX10_chance 25 = .ok (.ifCond .eq 9, 3) := by decide +kernel
theorem dX10_chance_28 : decode cX10_chance 28 = .ok (.aload_n 0, 1) := by decide +kernel
theorem dX10_chance_29 : decode cX10_chance 29 = .ok (.iload_n 2, 1) := by decide +kernel
theorem dX10_chance_30 : decode cX10_chance 30 = .ok (.invokevirtual 252, 3) := by decide +kernel
theorem dX10_chance_33 : decode cX10_chance 33 = .ok (.pop, 1) := by decide +kernel
theorem dX10_chance_34 : decode cX10_chance 34 = .ok (.goto 45, 3) := by decide +kernel
theorem dX10_chance_37 : decode cX10_chance 37 = .ok (.iload_n 1, 1) := by decide +kernel
theorem dX10_chance_38 : decode cX10_chance 38 = .ok (.iconst 2, 1) := by decide +kernel
theorem dX10_chance_39 : decode cX10_chance 39 = .ok (.if_icmp .ne 19, 3) := by decide +kernel
theorem dX10_chance_42 : decode cX10_chance 42 = .ok (.aload_n 0, 1) := by decide +kernel
theorem dX10_chance_43 : decode cX10_chance 43 = .ok (.getfield 22, 3) := by decide +kernel
theorem dX10_chance_46 : decode cX10_chance 46 = .ok (.iconst 0, 1) := by decide +kernel
theorem dX10_chance_47 : decode cX10_chance 47 = .ok (.iaload, 1) := by decide +kernel
theorem dX10_chance_48 : decode cX10_chance 48 = .ok (.ifCond .le 10, 3) := by decide +kernel
theorem dX10_chance_51 : decode cX10_chance 51 = .ok (.aload_n 0, 1) := by decide +kernel
theorem dX10_chance_52 : decode cX10_chance 52 = .ok (.invokevirtual 255, 3) := by decide +kernel
theorem dX10_chance_55 : decode cX10_chance 55 = .ok (.goto 24, 3) := by decide +kernel
theorem dX10_chance_58 : decode cX10_chance 58 = .ok (.iload_n 1, 1) := by decide +kernel
theorem dX10_chance_59 : decode cX10_chance 59 = .ok (.iconst 3, 1) := by decide +kernel
theorem dX10_chance_60 : decode cX10_chance 60 = .ok (.if_icmp .ne 19, 3) := by decide +kernel
theorem dX10_chance_63 : decode cX10_chance 63 = .ok (.aload_n 0, 1) := by decide +kernel
theorem dX10_chance_64 : decode cX10_chance 64 = .ok (.getfield 22, 3) := by decide +kernel
theorem dX10_chance_67 : decode cX10_chance 67 = .ok (.bipush 26, 2) := by decide +kernel
theorem dX10_chance_69 : decode cX10_chance 69 = .ok (.iconst 1, 1) := by decide +kernel
theorem dX10_chance_70 : decode cX10_chance 70 = .ok (.aload_n 0, 1) := by decide +kernel
theorem dX10_chance_71 : decode cX10_chance 71 = .ok (.getfield 22, 3) := by decide +kernel
theorem dX10_chance_74 : decode cX10_chance 74 = .ok (.bipush 26, 2) := by decide +kernel
theorem dX10_chance_76 : decode cX10_chance 76 = .ok (.iaload, 1) := by decide +kernel
theorem dX10_chance_77 : decode cX10_chance 77 = .ok (.isub, 1) := by decide +kernel
theorem dX10_chance_78 : decode cX10_chance 78 = .ok (.iastore, 1) := by decide +kernel
theorem dX10_chance_79 : decode cX10_chance 79 = .ok (.return_, 1) := by decide +kernel
theorem dX10_drift_0 : decode cX10_drift 0 = .ok (.aload_n 0, 1) := by decide +kernel
theorem dX10_drift_1 : decode cX10_drift 1 = .ok (.iload_n 1, 1) := by decide +kernel
theorem dX10_drift_2 : decode cX10_drift 2 = .ok (.invokevirtual 260, 3) := by decide +kernel
theorem dX10_drift_5 : decode cX10_drift 5 = .ok (.istore_n 2, 1) := by decide +kernel
theorem dX10_drift_6 : decode cX10_drift 6 = .ok (.iload_n 2, 1) := by decide +kernel
theorem dX10_drift_7 : decode cX10_drift 7 = .ok (.ifCond .eq 5, 3) := by decide +kernel
theorem dX10_drift_10 : decode cX10_drift 10 = .ok (.iload_n 2, 1) := by decide +kernel
theorem dX10_drift_11 : decode cX10_drift 11 = .ok (.ireturn, 1) := by decide +kernel
theorem dX10_drift_12 : decode cX10_drift 12 = .ok (.iconst 0, 1) := by decide +kernel
theorem dX10_drift_13 : decode cX10_drift 13 = .ok (.istore_n 3, 1) := by decide +kernel
theorem dX10_drift_14 : decode cX10_drift 14 = .ok (.iload_n 3, 1) := by decide +kernel
theorem dX10_drift_15 : decode cX10_drift 15 = .ok (.iload_n 1, 1) := by decide +kernel
theorem dX10_drift_16 : decode cX10_drift 16 = .ok (.if_icmp .ge 28, 3) := by decide +kernel
theorem dX10_drift_19 : decode cX10_drift 19 = .ok (.aload_n 0, 1) := by decide +kernel
theorem dX10_drift_20 : decode cX10_drift 20 = .ok (.invokevirtual 249, 3) := by decide +kernel
theorem dX10_drift_23 : decode cX10_drift 23 = .ok (.aload_n 0, 1) := by decide +kernel
theorem dX10_drift_24 : decode cX10_drift 24 = .ok (.getfield 91, 3) := by decide +kernel
theorem dX10_drift_27 : decode cX10_drift 27 = .ok (.ifCond .le 7, 3) := by decide +kernel
theorem dX10_drift_30 : decode cX10_drift 30 = .ok (.aload_n 0, 1) := by decide +kernel
theorem dX10_drift_31 : decode cX10_drift 31 = .ok (.invokevirtual 279, 3) := by decide +kernel
theorem dX10_drift_34 : decode cX10_drift 34 = .ok (.aload_n 0, 1) := by decide +kernel
theorem dX10_drift_35 : decode cX10_drift 35 = .ok (.invokevirtual 263, 3) := by decide +kernel
theorem dX10_drift_38 : decode cX10_drift 38 = .ok (.iinc 3 1, 3) := by decide +kernel
theorem dX10_drift_41 : decode cX10_drift 41 = .ok (.goto (-27), 3) := by decide +kernel
theorem dX10_drift_44 : decode cX10_drift 44 = .ok (.aload_n 0, 1) := by decide +kernel
theorem dX10_drift_45 : decode cX10_drift 45 = .ok (.getfield 22, 3) := by decide +kernel
theorem dX10_drift_48 : decode cX10_drift 48 = .ok (.bipush 25, 2) := by decide +kernel
theorem dX10_drift_50 : decode cX10_drift 50 = .ok (.iaload, 1) := by decide +kernel
theorem dX10_drift_51 : decode cX10_drift 51 = .ok (.ireturn, 1) := by decide +kernel
theorem dX10_undo_0 : decode cX10_undo 0 = .ok (.iload_n 1, 1) := by decide +kernel
theorem dX10_undo_1 : decode cX10_undo 1 = .ok (.i2l, 1) := by decide +kernel
theorem dX10_undo_2 : decode cX10_undo 2 = .ok (.lconst 1, 1) := by decide +kernel
theorem dX10_undo_3 : decode cX10_undo 3 = .ok (.ldc2_w 258, 3) := by decide +kernel
theorem dX10_undo_6 : decode cX10_undo 6 = .ok (.invokestatic 87, 3) := by decide +kernel
theorem dX10_undo_9 : decode cX10_undo 9 = .ok (.ifCond .ne 6, 3) := by decide +kernel
theorem dX10_undo_12 : decode cX10_undo 12 = .ok (.ldc 96, 2) := by decide +kernel
theorem dX10_undo_14 : decode cX10_undo 14 = .ok (.ireturn, 1) := by decide +kernel
theorem dX10_undo_15 : decode cX10_undo 15 = .ok (.iload_n 1, 1) := by decide +kernel
theorem dX10_undo_16 : decode cX10_undo 16 = .ok (.aload_n 0, 1) := by decide +kernel
theorem dX10_undo_17 : decode cX10_undo 17 = .ok (.getfield 179, 3) := by decide +kernel
theorem dX10_undo_20 : decode cX10_undo 20 = .ok (.if_icmp .le 6, 3) := by decide +kernel
theorem dX10_undo_23 : decode cX10_undo 23 = .ok (.ldc 248, 2) := by decide +kernel
theorem dX10_undo_25 : decode cX10_undo 25 = .ok (.ireturn, 1) := by decide +kernel
theorem dX10_undo_26 : decode cX10_undo 26 = .ok (.aload_n 0, 1) := by decide +kernel
theorem dX10_undo_27 : decode cX10_undo 27 = .ok (.dup, 1) := by decide +kernel
theorem dX10_undo_28 : decode cX10_undo 28 = .ok (.getfield 179, 3) := by decide +kernel
theorem dX10_undo_31 : decode cX10_undo 31 = .ok (.iload_n 1, 1) := by decide +kernel
theorem dX10_undo_32 : decode cX10_undo 32 = .ok (.isub, 1) := by decide +kernel
theorem dX10_undo_33 : decode cX10_undo 33 = .ok (.putfield 179, 3) := by decide +kernel
theorem dX10_undo_36 : decode cX10_undo 36 = .ok (.iconst 0, 1) := by decide +kernel
theorem dX10_undo_37 : decode cX10_undo 37 = .ok (.istore_n 2, 1) := by decide +kernel
theorem dX10_undo_38 : decode cX10_undo 38 = .ok (.iload_n 2, 1) := by decide +kernel
theorem dX10_undo_39 : decode cX10_undo 39 = .ok (.bipush 125, 2) := by decide +kernel
theorem dX10_undo_41 : decode cX10_undo 41 = .ok (.if_icmp .ge 29, 3) := by decide +kernel
theorem dX10_undo_44 : decode cX10_undo 44 = .ok (.aload_n 0, 1) := by decide +kernel
theorem dX10_undo_45 : decode cX10_undo 45 = .ok (.getfield 22, 3) := by decide +kernel
theorem dX10_undo_48 : decode cX10_undo 48 = .ok (.iload_n 2, 1) := by decide +kernel
theorem dX10_undo_49 : decode cX10_undo 49 = .ok (.aload_n 0, 1) := by decide +kernel
theorem dX10_undo_50 : decode cX10_undo 50 = .ok (.getfield 65, 3) := by decide +kernel
theorem dX10_undo_53 : decode cX10_undo 53 = .ok (.bipush 125, 2) := by decide +kernel
theorem dX10_undo_55 : decode cX10_undo 55 = .ok (.aload_n 0, 1) := by decide +kernel
theorem dX10_undo_56 : decode cX10_undo 56 = .ok (.getfield 179, 3) := by decide +kernel
theorem dX10_undo_59 : decode cX10_undo 59 = .ok (.imul, 1) := by decide +kernel
theorem dX10_undo_60 : decode cX10_undo 60 = .ok (.iload_n 2, 1) := by decide +kernel
theorem dX10_undo_61 : decode cX10_undo 61 = .ok (.iadd, 1) := by decide +kernel
theorem dX10_undo_62 : decode cX10_undo 62 = .ok (.iaload, 1) := by decide +kernel
theorem dX10_undo_63 : decode cX10_undo 63 = .ok (.iastore, 1) := by decide +kernel
theorem dX10_undo_64 : decode cX10_undo 64 = .ok (.iinc 2 1, 3) := by decide +kernel
theorem dX10_undo_67 : decode cX10_undo 67 = .ok (.goto (-29), 3) := by decide +kernel
theorem dX10_undo_70 : decode cX10_undo 70 = .ok (.aload_n 0, 1) := by decide +kernel
theorem dX10_undo_71 : decode cX10_undo 71 = .ok (.getfield 22, 3) := by decide +kernel
theorem dX10_undo_74 : decode cX10_undo 74 = .ok (.bipush 25, 2) := by decide +kernel
theorem dX10_undo_76 : decode cX10_undo 76 = .ok (.iaload, 1) := by decide +kernel
theorem dX10_undo_77 : decode cX10_undo 77 = .ok (.ireturn, 1) := by decide +kernel
theorem dX10_worthIt_0 : decode cX10_worthIt 0 = .ok (.aload_n 0, 1) := by decide +kernel
theorem dX10_worthIt_1 : decode cX10_worthIt 1 = .ok (.iload_n 1, 1) := by decide +kernel
theorem dX10_worthIt_2 : decode cX10_worthIt 2 = .ok (.invokevirtual 230, 3) := by decide +kernel
theorem dX10_worthIt_5 : decode cX10_worthIt 5 = .ok (.ifCond .ne 6, 3) := by decide +kernel
theorem dX10_worthIt_8 : decode cX10_worthIt 8 = .ok (.ldc 223, 2) := by decide +kernel
theorem dX10_worthIt_10 : decode cX10_worthIt 10 = .ok (.ireturn, 1) := by decide +kernel
theorem dX10_worthIt_11 : decode cX10_worthIt 11 = .ok (.iload_n 2, 1) := by decide +kernel
theorem dX10_worthIt_12 : decode cX10_worthIt 12 = .ok (.i2l, 1) := by decide +kernel
theorem dX10_worthIt_13 : decode cX10_worthIt 13 = .ok (.lconst 0, 1) := by decide +kernel
theorem dX10_worthIt_14 : decode cX10_worthIt 14 = .ok (.lconst 1, 1) := by decide +kernel
theorem dX10_worthIt_15 : decode cX10_worthIt 15 = .ok (.invokestatic 87, 3) := by decide +kernel
theorem dX10_worthIt_18 : decode cX10_worthIt 18 = .ok (.ifCond .ne 6, 3) := by decide +kernel
theorem dX10_worthIt_21 : decode cX10_worthIt 21 = .ok (.ldc 96, 2) := by decide +kernel
theorem dX10_worthIt_23 : decode cX10_worthIt 23 = .ok (.ireturn, 1) := by decide +kernel
theorem dX10_worthIt_24 : decode cX10_worthIt 24 = .ok (.iconst 0, 1) := by decide +kernel
theorem dX10_worthIt_25 : decode cX10_worthIt 25 = .ok (.istore_n 3, 1) := by decide +kernel
theorem dX10_worthIt_26 : decode cX10_worthIt 26 = .ok (.iconst 0, 1) := by decide +kernel
theorem dX10_worthIt_27 : decode cX10_worthIt 27 = .ok (.istore 4, 2) := by decide +kernel
theorem dX10_worthIt_29 : decode cX10_worthIt 29 = .ok (.iconst 0, 1) := by decide +kernel
theorem dX10_worthIt_30 : decode cX10_worthIt 30 = .ok (.istore 5, 2) := by decide +kernel
theorem dX10_worthIt_32 : decode cX10_worthIt 32 = .ok (.iconst 0, 1) := by decide +kernel
theorem dX10_worthIt_33 : decode cX10_worthIt 33 = .ok (.istore 6, 2) := by decide +kernel
theorem dX10_worthIt_35 : decode cX10_worthIt 35 = .ok (.iload 6, 2) := by decide +kernel
theorem dX10_worthIt_37 : decode cX10_worthIt 37 = .ok (.aload_n 0, 1) := by decide +kernel
theorem dX10_worthIt_38 : decode cX10_worthIt 38 = .ok (.getfield 22, 3) := by decide +kernel
theorem dX10_worthIt_41 : decode cX10_worthIt 41 = .ok (.iconst 0, 1) := by decide +kernel
theorem dX10_worthIt_42 : decode cX10_worthIt 42 = .ok (.iaload, 1) := by decide +kernel
theorem dX10_worthIt_43 : decode cX10_worthIt 43 = .ok (.if_icmp .ge 90, 3) := by decide +kernel
theorem dX10_worthIt_46 : decode cX10_worthIt 46 = .ok (.iload 5, 2) := by decide +kernel
theorem dX10_worthIt_48 : decode cX10_worthIt 48 = .ok (.aload_n 0, 1) := by decide +kernel
theorem dX10_worthIt_49 : decode cX10_worthIt 49 = .ok (.iload 6, 2) := by decide +kernel
theorem dX10_worthIt_51 : decode cX10_worthIt 51 = .ok (.invokevirtual 224, 3) := by decide +kernel
theorem dX10_worthIt_54 : decode cX10_worthIt 54 = .ok (.aload_n 0, 1) := by decide +kernel
theorem dX10_worthIt_55 : decode cX10_worthIt 55 = .ok (.iload 6, 2) := by decide +kernel
theorem dX10_worthIt_57 : decode cX10_worthIt 57 = .ok (.invokevirtual 227, 3) := by decide +kernel
theorem dX10_worthIt_60 : decode cX10_worthIt 60 = .ok (.isub, 1) := by decide +kernel
theorem dX10_worthIt_61 : decode cX10_worthIt 61 = .ok (.aload_n 0, 1) := by decide +kernel
theorem dX10_worthIt_62 : decode cX10_worthIt 62 = .ok (.getfield 7, 3) := by decide +kernel
theorem dX10_worthIt_65 : decode cX10_worthIt 65 = .ok (.iload_n 1, 1) := by decide +kernel
theorem dX10_worthIt_66 : decode cX10_worthIt 66 = .ok (.iaload, 1) := by decide +kernel
theorem dX10_worthIt_67 : decode cX10_worthIt 67 = .ok (.isub, 1) := by decide +kernel
theorem dX10_worthIt_68 : decode cX10_worthIt 68 = .ok (.aload_n 0, 1) := by decide +kernel
theorem dX10_worthIt_69 : decode cX10_worthIt 69 = .ok (.getfield 22, 3) := by decide +kernel
theorem dX10_worthIt_72 : decode cX10_worthIt 72 = .ok (.iconst 1, 1) := by decide +kernel
theorem dX10_worthIt_73 : decode cX10_worthIt 73 = .ok (.iload 6, 2) := by decide +kernel
theorem dX10_worthIt_75 : decode cX10_worthIt 75 = .ok (.iadd, 1) := by decide +kernel
theorem dX10_worthIt_76 : decode cX10_worthIt 76 = .ok (.iaload, 1) := by decide +kernel
theorem dX10_worthIt_77 : decode cX10_worthIt 77 = .ok (.iconst 4, 1) := by decide +kernel
theorem dX10_worthIt_78 : decode cX10_worthIt 78 = .ok (.if_icmp .ne 12, 3) := by decide +kernel
theorem dX10_worthIt_81 : decode cX10_worthIt 81 = .ok (.iload 6, 2) := by decide +kernel
theorem dX10_worthIt_83 : decode cX10_worthIt 83 = .ok (.ifCond .le 7, 3) := by decide +kernel
theorem dX10_worthIt_86 : decode cX10_worthIt 86 = .ok (.iconst 5, 1) := by decide +kernel
theorem dX10_worthIt_87 : decode cX10_worthIt 87 = .ok (.goto 4, 3) := by decide +kernel
theorem dX10_worthIt_90 : decode cX10_worthIt 90 = .ok (.iconst 0, 1) := by decide +kernel
theorem dX10_worthIt_91 : decode cX10_worthIt 91 = .ok (.iadd, 1) := by decide +kernel
theorem dX10_worthIt_92 : decode cX10_worthIt 92 = .ok (.iadd, 1) := by decide +kernel
theorem dX10_worthIt_93 : decode cX10_worthIt 93 = .ok (.istore 5, 2) := by decide +kernel
theorem dX10_worthIt_95 : decode cX10_worthIt 95 = .ok (.iload 5, 2) := by decide +kernel
theorem dX10_worthIt_97 : decode cX10_worthIt 97 = .ok (.iload 4, 2) := by decide +kernel
theorem dX10_worthIt_99 : decode cX10_worthIt 99 = .ok (.if_icmp .le 10, 3) := by decide +kernel
theorem dX10_worthIt_102 : decode cX10_worthIt 102 = .ok (.iload 6, 2) := by decide +kernel
theorem dX10_worthIt_104 : decode cX10_worthIt 104 = .ok (.iconst 1, 1) := by decide +kernel
theorem dX10_worthIt_105 : decode cX10_worthIt 105 = .ok (.iadd, 1) := by decide +kernel
theorem dX10_worthIt_106 : decode cX10_worthIt 106 = .ok (.goto 4, 3) := by decide +kernel
theorem dX10_worthIt_109 : decode cX10_worthIt 109 = .ok (.iload_n 3, 1) := by decide +kernel
theorem dX10_worthIt_110 : decode cX10_worthIt 110 = .ok (.istore_n 3, 1) := by decide +kernel
theorem dX10_worthIt_111 : decode cX10_worthIt 111 = .ok (.iload 5, 2) := by decide +kernel
theorem dX10_worthIt_113 : decode cX10_worthIt 113 = .ok (.iload 4, 2) := by decide +kernel
theorem dX10_worthIt_115 : decode cX10_worthIt 115 = .ok (.if_icmp .le 8, 3) := by decide +kernel
theorem dX10_worthIt_118 : decode cX10_worthIt 118 = .ok (.iload 5, 2) := by decide +kernel
theorem dX10_worthIt_120 : decode cX10_worthIt 120 = .ok (.goto 5, 3) := by decide +kernel
theorem dX10_worthIt_123 : decode cX10_worthIt 123 = .ok (.iload 4, 2) := by decide +kernel
theorem dX10_worthIt_125 : decode cX10_worthIt 125 = .ok (.istore 4, 2) := by decide +kernel
theorem dX10_worthIt_127 : decode cX10_worthIt 127 = .ok (.iinc 6 1, 3) := by decide +kernel
theorem dX10_worthIt_130 : decode cX10_worthIt 130 = .ok (.goto (-95), 3) := by decide +kernel
theorem dX10_worthIt_133 : decode cX10_worthIt 133 = .ok (.iload_n 2, 1) := by decide +kernel
theorem dX10_worthIt_134 : decode cX10_worthIt 134 = .ok (.ifCond .ne 7, 3) := by decide +kernel
theorem dX10_worthIt_137 : decode cX10_worthIt 137 = .ok (.iload_n 3, 1) := by decide +kernel
theorem dX10_worthIt_138 : decode cX10_worthIt 138 = .ok (.goto 9, 3) := by decide +kernel
theorem dX10_worthIt_141 : decode cX10_worthIt 141 = .ok (.iload 4, 2) := by decide +kernel
theorem dX10_worthIt_143 : decode cX10_worthIt 143 = .ok (.sipush 1000, 3) := by decide +kernel
theorem dX10_worthIt_146 : decode cX10_worthIt 146 = .ok (.iadd, 1) := by decide +kernel
theorem dX10_worthIt_147 : decode cX10_worthIt 147 = .ok (.ireturn, 1) := by decide +kernel
theorem dX10_stingFrom_0 : decode cX10_stingFrom 0 = .ok (.iconst 0, 1) := by decide +kernel
theorem dX10_stingFrom_1 : decode cX10_stingFrom 1 = .ok (.istore_n 3, 1) := by decide +kernel
theorem dX10_stingFrom_2 : decode cX10_stingFrom 2 = .ok (.iload_n 1, 1) := by decide +kernel
theorem dX10_stingFrom_3 : decode cX10_stingFrom 3 = .ok (.istore 4, 2) := by decide +kernel
theorem dX10_stingFrom_5 : decode cX10_stingFrom 5 = .ok (.iload 4, 2) := by decide +kernel
theorem dX10_stingFrom_7 : decode cX10_stingFrom 7 = .ok (.iload_n 2, 1) := by decide +kernel
theorem dX10_stingFrom_8 : decode cX10_stingFrom 8 = .ok (.if_icmp .ge 18, 3) := by decide +kernel
theorem dX10_stingFrom_11 : decode cX10_stingFrom 11 = .ok (.iload_n 3, 1) := by decide +kernel
theorem dX10_stingFrom_12 : decode cX10_stingFrom 12 = .ok (.aload_n 0, 1) := by decide +kernel
theorem dX10_stingFrom_13 : decode cX10_stingFrom 13 = .ok (.iload 4, 2) := by decide +kernel
theorem dX10_stingFrom_15 : decode cX10_stingFrom 15 = .ok (.invokevirtual 227, 3) := by decide +kernel
theorem dX10_stingFrom_18 : decode cX10_stingFrom 18 = .ok (.iadd, 1) := by decide +kernel
theorem dX10_stingFrom_19 : decode cX10_stingFrom 19 = .ok (.istore_n 3, 1) := by decide +kernel
theorem dX10_stingFrom_20 : decode cX10_stingFrom 20 = .ok (.iinc 4 1, 3) := by decide +kernel
theorem dX10_stingFrom_23 : decode cX10_stingFrom 23 = .ok (.goto (-18), 3) := by decide +kernel
theorem dX10_stingFrom_26 : decode cX10_stingFrom 26 = .ok (.iload_n 3, 1) := by decide +kernel
theorem dX10_stingFrom_27 : decode cX10_stingFrom 27 = .ok (.ireturn, 1) := by decide +kernel
theorem dX10_parts_0 : decode cX10_parts 0 = .ok (.iload_n 1, 1) := by decide +kernel
theorem dX10_parts_1 : decode cX10_parts 1 = .ok (.i2l, 1) := by decide +kernel
theorem dX10_parts_2 : decode cX10_parts 2 = .ok (.lconst 1, 1) := by decide +kernel
theorem dX10_parts_3 : decode cX10_parts 3 = .ok (.ldc2_w 282, 3) := by decide +kernel
theorem dX10_parts_6 : decode cX10_parts 6 = .ok (.invokestatic 87, 3) := by decide +kernel
theorem dX10_parts_9 : decode cX10_parts 9 = .ok (.ifCond .eq 13, 3) := by decide +kernel
theorem dX10_parts_12 : decode cX10_parts 12 = .ok (.iload_n 2, 1) := by decide +kernel
theorem dX10_parts_13 : decode cX10_parts 13 = .ok (.i2l, 1) := by decide +kernel
theorem dX10_parts_14 : decode cX10_parts 14 = .ok (.lconst 0, 1) := by decide +kernel
theorem dX10_parts_15 : decode cX10_parts 15 = .ok (.lconst 1, 1) := by decide +kernel
theorem dX10_parts_16 : decode cX10_parts 16 = .ok (.invokestatic 87, 3) := by decide +kernel
theorem dX10_parts_19 : decode cX10_parts 19 = .ok (.ifCond .ne 6, 3) := by decide +kernel
theorem dX10_parts_22 : decode cX10_parts 22 = .ok (.ldc 96, 2) := by decide +kernel
theorem dX10_parts_24 : decode cX10_parts 24 = .ok (.ireturn, 1) := by decide +kernel
theorem dX10_parts_25 : decode cX10_parts 25 = .ok (.aload_n 0, 1) := by decide +kernel
theorem dX10_parts_26 : decode cX10_parts 26 = .ok (.getfield 22, 3) := by decide +kernel
theorem dX10_parts_29 : decode cX10_parts 29 = .ok (.iconst 0, 1) := by decide +kernel
theorem dX10_parts_30 : decode cX10_parts 30 = .ok (.iaload, 1) := by decide +kernel
theorem dX10_parts_31 : decode cX10_parts 31 = .ok (.istore_n 3, 1) := by decide +kernel
theorem dX10_parts_32 : decode cX10_parts 32 = .ok (.iload_n 3, 1) := by decide +kernel
theorem dX10_parts_33 : decode cX10_parts 33 = .ok (.iload_n 1, 1) := by decide +kernel
theorem dX10_parts_34 : decode cX10_parts 34 = .ok (.if_icmp .ge 5, 3) := by decide +kernel
theorem dX10_parts_37 : decode cX10_parts 37 = .ok (.iconst (-1), 1) := by decide +kernel
theorem dX10_parts_38 : decode cX10_parts 38 = .ok (.ireturn, 1) := by decide +kernel
theorem dX10_parts_39 : decode cX10_parts 39 = .ok (.iconst 0, 1) := by decide +kernel
theorem dX10_parts_40 : decode cX10_parts 40 = .ok (.istore 4, 2) := by decide +kernel
theorem dX10_parts_42 : decode cX10_parts 42 = .ok (.iload 4, 2) := by decide +kernel
theorem dX10_parts_44 : decode cX10_parts 44 = .ok (.bipush 78, 2) := by decide +kernel
theorem dX10_parts_46 : decode cX10_parts 46 = .ok (.if_icmp .ge 18, 3) := by decide +kernel
theorem dX10_parts_49 : decode cX10_parts 49 = .ok (.aload_n 0, 1) := by decide +kernel
theorem dX10_parts_50 : decode cX10_parts 50 = .ok (.getfield 68, 3) := by decide +kernel
theorem dX10_parts_53 : decode cX10_parts 53 = .ok (.iload 4, 2) := by decide +kernel
theorem dX10_parts_55 : decode cX10_parts 55 = .ok (.ldc 197, 2) := by decide +kernel
theorem dX10_parts_57 : decode cX10_parts 57 = .ok (.iastore, 1) := by decide +kernel
theorem dX10_parts_58 : decode cX10_parts 58 = .ok (.iinc 4 1, 3) := by decide +kernel
theorem dX10_parts_61 : decode cX10_parts 61 = .ok (.goto (-19), 3) := by decide +kernel
theorem dX10_parts_64 : decode cX10_parts 64 = .ok (.aload_n 0, 1) := by decide +kernel
theorem dX10_parts_65 : decode cX10_parts 65 = .ok (.getfield 68, 3) := by decide +kernel
theorem dX10_parts_68 : decode cX10_parts 68 = .ok (.iload_n 3, 1) := by decide +kernel
theorem dX10_parts_69 : decode cX10_parts 69 = .ok (.iconst 0, 1) := by decide +kernel
theorem dX10_parts_70 : decode cX10_parts 70 = .ok (.iastore, 1) := by decide +kernel
theorem dX10_parts_71 : decode cX10_parts 71 = .ok (.iconst 1, 1) := by decide +kernel
theorem dX10_parts_72 : decode cX10_parts 72 = .ok (.istore 4, 2) := by decide +kernel
theorem dX10_parts_74 : decode cX10_parts 74 = .ok (.iload 4, 2) := by decide +kernel
theorem dX10_parts_76 : decode cX10_parts 76 = .ok (.iload_n 1, 1) := by decide +kernel
theorem dX10_parts_77 : decode cX10_parts 77 = .ok (.if_icmp .gt 134, 3) := by decide +kernel
theorem dX10_parts_80 : decode cX10_parts 80 = .ok (.iconst 0, 1) := by decide +kernel
theorem dX10_parts_81 : decode cX10_parts 81 = .ok (.istore 5, 2) := by decide +kernel
theorem dX10_parts_83 : decode cX10_parts 83 = .ok (.iload 5, 2) := by decide +kernel
theorem dX10_parts_85 : decode cX10_parts 85 = .ok (.iload_n 3, 1) := by decide +kernel
theorem dX10_parts_86 : decode cX10_parts 86 = .ok (.if_icmp .ge 119, 3) := by decide +kernel
theorem dX10_parts_89 : decode cX10_parts 89 = .ok (.iload 5, 2) := by decide +kernel
theorem dX10_parts_91 : decode cX10_parts 91 = .ok (.iconst 1, 1) := by decide +kernel
theorem dX10_parts_92 : decode cX10_parts 92 = .ok (.iadd, 1) := by decide +kernel
theorem dX10_parts_93 : decode cX10_parts 93 = .ok (.istore 6, 2) := by decide +kernel
theorem dX10_parts_95 : decode cX10_parts 95 = .ok (.iload 6, 2) := by decide +kernel
theorem dX10_parts_97 : decode cX10_parts 97 = .ok (.iload_n 3, 1) := by decide +kernel
theorem dX10_parts_98 : decode cX10_parts 98 = .ok (.if_icmp .gt 101, 3) := by decide +kernel
theorem dX10_parts_101 : decode cX10_parts 101 = .ok (.aload_n 0, 1) := by decide +kernel
theorem dX10_parts_102 : decode cX10_parts 102 = .ok (.iload 5, 2) := by decide +kernel
theorem dX10_parts_104 : decode cX10_parts 104 = .ok (.iload 6, 2) := by decide +kernel
theorem dX10_parts_106 : decode cX10_parts 106 = .ok (.invokevirtual 284, 3) := by decide +kernel
theorem dX10_parts_109 : decode cX10_parts 109 = .ok (.istore 7, 2) := by decide +kernel
theorem dX10_parts_111 : decode cX10_parts 111 = .ok (.aload_n 0, 1) := by decide +kernel
theorem dX10_parts_112 : decode cX10_parts 112 = .ok (.getfield 68, 3) := by decide +kernel
theorem dX10_parts_115 : decode cX10_parts 115 = .ok (.bipush 13, 2) := by decide +kernel
theorem dX10_parts_117 : decode cX10_parts 117 = .ok (.iload 4, 2) := by decide +kernel
theorem dX10_parts_119 : decode cX10_parts 119 = .ok (.iconst 1, 1) := by decide +kernel
theorem dX10_parts_120 : decode cX10_parts 120 = .ok (.isub, 1) := by decide +kernel
theorem dX10_parts_121 : decode cX10_parts 121 = .ok (.imul, 1) := by decide +kernel
theorem dX10_parts_122 : decode cX10_parts 122 = .ok (.iload 6, 2) := by decide +kernel
theorem dX10_parts_124 : decode cX10_parts 124 = .ok (.iadd, 1) := by decide +kernel
theorem dX10_parts_125 : decode cX10_parts 125 = .ok (.iaload, 1) := by decide +kernel
theorem dX10_parts_126 : decode cX10_parts 126 = .ok (.istore 8, 2) := by decide +kernel
theorem dX10_parts_128 : decode cX10_parts 128 = .ok (.iload 8, 2) := by decide +kernel
theorem dX10_parts_130 : decode cX10_parts 130 = .ok (.iload 7, 2) := by decide +kernel
theorem dX10_parts_132 : decode cX10_parts 132 = .ok (.if_icmp .le 8, 3) := by decide +kernel
theorem dX10_parts_135 : decode cX10_parts 135 = .ok (.iload 8, 2) := by decide +kernel
theorem dX10_parts_137 : decode cX10_parts 137 = .ok (.goto 5, 3) := by decide +kernel
theorem dX10_parts_140 : decode cX10_parts 140 = .ok (.iload 7, 2) := by decide +kernel
theorem dX10_parts_142 : decode cX10_parts 142 = .ok (.istore 7, 2) := by decide +kernel
theorem dX10_parts_144 : decode cX10_parts 144 = .ok (.aload_n 0, 1) := by decide +kernel
theorem dX10_parts_145 : decode cX10_parts 145 = .ok (.getfield 68, 3) := by decide +kernel
theorem dX10_parts_148 : decode cX10_parts 148 = .ok (.bipush 13, 2) := by decide +kernel
theorem dX10_parts_150 : decode cX10_parts 150 = .ok (.iload 4, 2) := by decide +kernel
theorem dX10_parts_152 : decode cX10_parts 152 = .ok (.imul, 1) := by decide +kernel
theorem dX10_parts_153 : decode cX10_parts 153 = .ok (.iload 5, 2) := by decide +kernel
theorem dX10_parts_155 : decode cX10_parts 155 = .ok (.iadd, 1) := by decide +kernel
theorem dX10_parts_156 : decode cX10_parts 156 = .ok (.iload 7, 2) := by decide +kernel
theorem dX10_parts_158 : decode cX10_parts 158 = .ok (.aload_n 0, 1) := by decide +kernel
theorem dX10_parts_159 : decode cX10_parts 159 = .ok (.getfield 68, 3) := by decide +kernel
theorem dX10_parts_162 : decode cX10_parts 162 = .ok (.bipush 13, 2) := by decide +kernel
theorem dX10_parts_164 : decode cX10_parts 164 = .ok (.iload 4, 2) := by decide +kernel
theorem dX10_parts_166 : decode cX10_parts 166 = .ok (.imul, 1) := by decide +kernel
theorem dX10_parts_167 : decode cX10_parts 167 = .ok (.iload 5, 2) := by decide +kernel
theorem dX10_parts_169 : decode cX10_parts 169 = .ok (.iadd, 1) := by decide +kernel
theorem dX10_parts_170 : decode cX10_parts 170 = .ok (.iaload, 1) := by decide +kernel
