theorem dX7_init_0 : decode cX7_init 0 = .ok (.aload_n 0, 1) := by decide +kernel
theorem dX7_init_1 : decode cX7_init 1 = .ok (.invokespecial 3, 3) := by decide +kernel
theorem dX7_init_4 : decode cX7_init 4 = .ok (.aload_n 0, 1) := by decide +kernel
theorem dX7_init_5 : decode cX7_init 5 = .ok (.sipush 240, 3) := by decide +kernel
theorem dX7_init_8 : decode cX7_init 8 = .ok (.newarray .int, 2) := by decide +kernel
theorem dX7_init_10 : decode cX7_init 10 = .ok (.putfield 9, 3) := by decide +kernel
theorem dX7_init_13 : decode cX7_init 13 = .ok (.aload_n 0, 1) := by decide +kernel
theorem dX7_init_14 : decode cX7_init 14 = .ok (.bipush 8, 2) := by decide +kernel
theorem dX7_init_16 : decode cX7_init 16 = .ok (.newarray .int, 2) := by decide +kernel
theorem dX7_init_18 : decode cX7_init 18 = .ok (.putfield 15, 3) := by decide +kernel
theorem dX7_init_21 : decode cX7_init 21 = .ok (.aload_n 0, 1) := by decide +kernel
theorem dX7_init_22 : decode cX7_init 22 = .ok (.iconst 0, 1) := by decide +kernel
theorem dX7_init_23 : decode cX7_init 23 = .ok (.putfield 18, 3) := by decide +kernel
theorem dX7_init_26 : decode cX7_init 26 = .ok (.aload_n 0, 1) := by decide +kernel
theorem dX7_init_27 : decode cX7_init 27 = .ok (.iconst 0, 1) := by decide +kernel
theorem dX7_init_28 : decode cX7_init 28 = .ok (.putfield 22, 3) := by decide +kernel
theorem dX7_init_31 : decode cX7_init 31 = .ok (.aload_n 0, 1) := by decide +kernel
theorem dX7_init_32 : decode cX7_init 32 = .ok (.iconst 0, 1) := by decide +kernel
theorem dX7_init_33 : decode cX7_init 33 = .ok (.putfield 25, 3) := by decide +kernel
theorem dX7_init_36 : decode cX7_init 36 = .ok (.aload_n 0, 1) := by decide +kernel
theorem dX7_init_37 : decode cX7_init 37 = .ok (.iconst (-1), 1) := by decide +kernel
theorem dX7_init_38 : decode cX7_init 38 = .ok (.putfield 28, 3) := by decide +kernel
theorem dX7_init_41 : decode cX7_init 41 = .ok (.return_, 1) := by decide +kernel
theorem dX7_add_0 : decode cX7_add 0 = .ok (.aload_n 0, 1) := by decide +kernel
theorem dX7_add_1 : decode cX7_add 1 = .ok (.getfield 18, 3) := by decide +kernel
theorem dX7_add_4 : decode cX7_add 4 = .ok (.sipush 240, 3) := by decide +kernel
theorem dX7_add_7 : decode cX7_add 7 = .ok (.if_icmp .lt 6, 3) := by decide +kernel
theorem dX7_add_10 : decode cX7_add 10 = .ok (.ldc 31, 2) := by decide +kernel
theorem dX7_add_12 : decode cX7_add 12 = .ok (.ireturn, 1) := by decide +kernel
theorem dX7_add_13 : decode cX7_add 13 = .ok (.aload_n 0, 1) := by decide +kernel
theorem dX7_add_14 : decode cX7_add 14 = .ok (.getfield 9, 3) := by decide +kernel
theorem dX7_add_17 : decode cX7_add 17 = .ok (.aload_n 0, 1) := by decide +kernel
theorem dX7_add_18 : decode cX7_add 18 = .ok (.getfield 18, 3) := by decide +kernel
theorem dX7_add_21 : decode cX7_add 21 = .ok (.iload_n 1, 1) := by decide +kernel
theorem dX7_add_22 : decode cX7_add 22 = .ok (.iastore, 1) := by decide +kernel
theorem dX7_add_23 : decode cX7_add 23 = .ok (.aload_n 0, 1) := by decide +kernel
theorem dX7_add_24 : decode cX7_add 24 = .ok (.dup, 1) := by decide +kernel
theorem dX7_add_25 : decode cX7_add 25 = .ok (.getfield 18, 3) := by decide +kernel
theorem dX7_add_28 : decode cX7_add 28 = .ok (.iconst 1, 1) := by decide +kernel
theorem dX7_add_29 : decode cX7_add 29 = .ok (.iadd, 1) := by decide +kernel
theorem dX7_add_30 : decode cX7_add 30 = .ok (.putfield 18, 3) := by decide +kernel
theorem dX7_add_33 : decode cX7_add 33 = .ok (.aload_n 0, 1) := by decide +kernel
theorem dX7_add_34 : decode cX7_add 34 = .ok (.getfield 18, 3) := by decide +kernel
theorem dX7_add_37 : decode cX7_add 37 = .ok (.ireturn, 1) := by decide +kernel
theorem dX7_readInto_0 : decode cX7_readInto 0 = .ok (.aload_n 1, 1) := by decide +kernel
theorem dX7_readInto_1 : decode cX7_readInto 1 = .ok (.invokevirtual 32, 3) := by decide +kernel
theorem dX7_readInto_4 : decode cX7_readInto 4 = .ok (.aload_n 0, 1) := by decide +kernel
theorem dX7_readInto_5 : decode cX7_readInto 5 = .ok (.iconst 0, 1) := by decide +kernel
theorem dX7_readInto_6 : decode cX7_readInto 6 = .ok (.putfield 22, 3) := by decide +kernel
theorem dX7_readInto_9 : decode cX7_readInto 9 = .ok (.aload_n 0, 1) := by decide +kernel
theorem dX7_readInto_10 : decode cX7_readInto 10 = .ok (.iconst 0, 1) := by decide +kernel
theorem dX7_readInto_11 : decode cX7_readInto 11 = .ok (.putfield 25, 3) := by decide +kernel
theorem dX7_readInto_14 : decode cX7_readInto 14 = .ok (.aload_n 0, 1) := by decide +kernel
theorem dX7_readInto_15 : decode cX7_readInto 15 = .ok (.iconst (-1), 1) := by decide +kernel
theorem dX7_readInto_16 : decode cX7_readInto 16 = .ok (.putfield 28, 3) := by decide +kernel
theorem dX7_readInto_19 : decode cX7_readInto 19 = .ok (.aload_n 0, 1) := by decide +kernel
theorem dX7_readInto_20 : decode cX7_readInto 20 = .ok (.invokevirtual 37, 3) := by decide +kernel
theorem dX7_readInto_23 : decode cX7_readInto 23 = .ok (.aload_n 1, 1) := by decide +kernel
theorem dX7_readInto_24 : decode cX7_readInto 24 = .ok (.aload_n 0, 1) := by decide +kernel
theorem dX7_readInto_25 : decode cX7_readInto 25 = .ok (.getfield 22, 3) := by decide +kernel
theorem dX7_readInto_28 : decode cX7_readInto 28 = .ok (.aload_n 0, 1) := by decide +kernel
theorem dX7_readInto_29 : decode cX7_readInto 29 = .ok (.getfield 18, 3) := by decide +kernel
theorem dX7_readInto_32 : decode cX7_readInto 32 = .ok (.if_icmp .ge 7, 3) := by decide +kernel
theorem dX7_readInto_35 : decode cX7_readInto 35 = .ok (.iconst 1, 1) := by decide +kernel
theorem dX7_readInto_36 : decode cX7_readInto 36 = .ok (.goto 4, 3) := by decide +kernel
theorem dX7_readInto_39 : decode cX7_readInto 39 = .ok (.iconst 0, 1) := by decide +kernel
theorem dX7_readInto_40 : decode cX7_readInto 40 = .ok (.putfield 40, 3) := by decide +kernel
theorem dX7_readInto_43 : decode cX7_readInto 43 = .ok (.iconst 0, 1) := by decide +kernel
theorem dX7_readInto_44 : decode cX7_readInto 44 = .ok (.istore_n 2, 1) := by decide +kernel
theorem dX7_readInto_45 : decode cX7_readInto 45 = .ok (.iload_n 2, 1) := by decide +kernel
theorem dX7_readInto_46 : decode cX7_readInto 46 = .ok (.sipush 240, 3) := by decide +kernel
theorem dX7_readInto_49 : decode cX7_readInto 49 = .ok (.if_icmp .ge 32, 3) := by decide +kernel
theorem dX7_readInto_52 : decode cX7_readInto 52 = .ok (.aload_n 0, 1) := by decide +kernel
theorem dX7_readInto_53 : decode cX7_readInto 53 = .ok (.getfield 25, 3) := by decide +kernel
theorem dX7_readInto_56 : decode cX7_readInto 56 = .ok (.ifCond .ne 25, 3) := by decide +kernel
theorem dX7_readInto_59 : decode cX7_readInto 59 = .ok (.aload_n 0, 1) := by decide +kernel
theorem dX7_readInto_60 : decode cX7_readInto 60 = .ok (.getfield 22, 3) := by decide +kernel
theorem dX7_readInto_63 : decode cX7_readInto 63 = .ok (.aload_n 0, 1) := by decide +kernel
theorem dX7_readInto_64 : decode cX7_readInto 64 = .ok (.getfield 18, 3) := by decide +kernel
theorem dX7_readInto_67 : decode cX7_readInto 67 = .ok (.if_icmp .ge 14, 3) := by decide +kernel
theorem dX7_readInto_70 : decode cX7_readInto 70 = .ok (.aload_n 0, 1) := by decide +kernel
theorem dX7_readInto_71 : decode cX7_readInto 71 = .ok (.aload_n 1, 1) := by decide +kernel
theorem dX7_readInto_72 : decode cX7_readInto 72 = .ok (.invokevirtual 44, 3) := by decide +kernel
theorem dX7_readInto_75 : decode cX7_readInto 75 = .ok (.iinc 2 1, 3) := by decide +kernel
theorem dX7_readInto_78 : decode cX7_readInto 78 = .ok (.goto (-33), 3) := by decide +kernel
theorem dX7_readInto_81 : decode cX7_readInto 81 = .ok (.aload_n 0, 1) := by decide +kernel
theorem dX7_readInto_82 : decode cX7_readInto 82 = .ok (.iconst 0, 1) := by decide +kernel
theorem dX7_readInto_83 : decode cX7_readInto 83 = .ok (.putfield 18, 3) := by decide +kernel
theorem dX7_readInto_86 : decode cX7_readInto 86 = .ok (.return_, 1) := by decide +kernel
theorem dX7_readClause_0 : decode cX7_readClause 0 = .ok (.aload_n 0, 1) := by decide +kernel
theorem dX7_readClause_1 : decode cX7_readClause 1 = .ok (.invokevirtual 48, 3) := by decide +kernel
theorem dX7_readClause_4 : decode cX7_readClause 4 = .ok (.istore_n 2, 1) := by decide +kernel
theorem dX7_readClause_5 : decode cX7_readClause 5 = .ok (.iload_n 2, 1) := by decide +kernel
theorem dX7_readClause_6 : decode cX7_readClause 6 = .ok (.bipush 109, 2) := by decide +kernel
theorem dX7_readClause_8 : decode cX7_readClause 8 = .ok (.if_icmp .eq 21, 3) := by decide +kernel
theorem dX7_readClause_11 : decode cX7_readClause 11 = .ok (.iload_n 2, 1) := by decide +kernel
theorem dX7_readClause_12 : decode cX7_readClause 12 = .ok (.bipush 108, 2) := by decide +kernel
theorem dX7_readClause_14 : decode cX7_readClause 14 = .ok (.if_icmp .eq 15, 3) := by decide +kernel
theorem dX7_readClause_17 : decode cX7_readClause 17 = .ok (.iload_n 2, 1) := by decide +kernel
theorem dX7_readClause_18 : decode cX7_readClause 18 = .ok (.bipush 101, 2) := by decide +kernel
theorem dX7_readClause_20 : decode cX7_readClause 20 = .ok (.if_icmp .eq 9, 3) := by decide +kernel
theorem dX7_readClause_23 : decode cX7_readClause 23 = .ok (.iload_n 2, 1) := by decide +kernel
theorem dX7_readClause_24 : decode cX7_readClause 24 = .ok (.bipush 116, 2) := by decide +kernel
theorem dX7_readClause_26 : decode cX7_readClause 26 = .ok (.if_icmp .ne 7, 3) := by decide +kernel
theorem dX7_readClause_29 : decode cX7_readClause 29 = .ok (.iconst 1, 1) := by decide +kernel
theorem dX7_readClause_30 : decode cX7_readClause 30 = .ok (.goto 4, 3) := by decide +kernel
theorem dX7_readClause_33 : decode cX7_readClause 33 = .ok (.iconst 0, 1) := by decide +kernel
theorem dX7_readClause_34 : decode cX7_readClause 34 = .ok (.istore_n 3, 1) := by decide +kernel
theorem dX7_readClause_35 : decode cX7_readClause 35 = .ok (.iload_n 3, 1) := by decide +kernel
theorem dX7_readClause_36 : decode cX7_readClause 36 = .ok (.ifCond .eq 17, 3) := by decide +kernel
theorem dX7_readClause_39 : decode cX7_readClause 39 = .ok (.iload_n 2, 1) := by decide +kernel
theorem dX7_readClause_40 : decode cX7_readClause 40 = .ok (.bipush 109, 2) := by decide +kernel
theorem dX7_readClause_42 : decode cX7_readClause 42 = .ok (.if_icmp .eq 21, 3) := by decide +kernel
theorem dX7_readClause_45 : decode cX7_readClause 45 = .ok (.aload_n 1, 1) := by decide +kernel
theorem dX7_readClause_46 : decode cX7_readClause 46 = .ok (.getfield 52, 3) := by decide +kernel
theorem dX7_readClause_49 : decode cX7_readClause 49 = .ok (.iconst (-1), 1) := by decide +kernel
theorem dX7_readClause_50 : decode cX7_readClause 50 = .ok (.if_icmp .ne 13, 3) := by decide +kernel
theorem dX7_readClause_53 : decode cX7_readClause 53 = .ok (.aload_n 0, 1) := by decide +kernel
theorem dX7_readClause_54 : decode cX7_readClause 54 = .ok (.iconst 1, 1) := by decide +kernel
theorem dX7_readClause_55 : decode cX7_readClause 55 = .ok (.aload_n 0, 1) := by decide +kernel
theorem dX7_readClause_56 : decode cX7_readClause 56 = .ok (.getfield 22, 3) := by decide +kernel
theorem dX7_readClause_59 : decode cX7_readClause 59 = .ok (.invokevirtual 55, 3) := by decide +kernel
theorem dX7_readClause_62 : decode cX7_readClause 62 = .ok (.return_, 1) := by decide +kernel
theorem dX7_readClause_63 : decode cX7_readClause 63 = .ok (.aload_n 1, 1) := by decide +kernel
theorem dX7_readClause_64 : decode cX7_readClause 64 = .ok (.iload_n 2, 1) := by decide +kernel
theorem dX7_readClause_65 : decode cX7_readClause 65 = .ok (.invokevirtual 59, 3) := by decide +kernel
theorem dX7_readClause_68 : decode cX7_readClause 68 = .ok (.ifCond .eq 13, 3) := by decide +kernel
theorem dX7_readClause_71 : decode cX7_readClause 71 = .ok (.aload_n 0, 1) := by decide +kernel
theorem dX7_readClause_72 : decode cX7_readClause 72 = .ok (.iconst 3, 1) := by decide +kernel
theorem dX7_readClause_73 : decode cX7_readClause 73 = .ok (.aload_n 0, 1) := by decide +kernel
theorem dX7_readClause_74 : decode cX7_readClause 74 = .ok (.getfield 22, 3) := by decide +kernel
theorem dX7_readClause_77 : decode cX7_readClause 77 = .ok (.invokevirtual 55, 3) := by decide +kernel
theorem dX7_readClause_80 : decode cX7_readClause 80 = .ok (.return_, 1) := by decide +kernel
theorem dX7_readClause_81 : decode cX7_readClause 81 = .ok (.aload_n 0, 1) := by decide +kernel
theorem dX7_readClause_82 : decode cX7_readClause 82 = .ok (.dup, 1) := by decide +kernel
theorem dX7_readClause_83 : decode cX7_readClause 83 = .ok (.getfield 22, 3) := by decide +kernel
theorem dX7_readClause_86 : decode cX7_readClause 86 = .ok (.iconst 1, 1) := by decide +kernel
theorem dX7_readClause_87 : decode cX7_readClause 87 = .ok (.iadd, 1) := by decide +kernel
theorem dX7_readClause_88 : decode cX7_readClause 88 = .ok (.putfield 22, 3) := by decide +kernel
theorem dX7_readClause_91 : decode cX7_readClause 91 = .ok (.aload_n 0, 1) := by decide +kernel
theorem dX7_readClause_92 : decode cX7_readClause 92 = .ok (.iload_n 2, 1) := by decide +kernel
theorem dX7_readClause_93 : decode cX7_readClause 93 = .ok (.aload_n 1, 1) := by decide +kernel
theorem dX7_readClause_94 : decode cX7_readClause 94 = .ok (.invokevirtual 63, 3) := by decide +kernel
theorem dX7_readClause_97 : decode cX7_readClause 97 = .ok (.aload_n 0, 1) := by decide +kernel
theorem dX7_readClause_98 : decode cX7_readClause 98 = .ok (.invokevirtual 48, 3) := by decide +kernel
theorem dX7_readClause_101 : decode cX7_readClause 101 = .ok (.bipush 59, 2) := by decide +kernel
theorem dX7_readClause_103 : decode cX7_readClause 103 = .ok (.if_icmp .eq 13, 3) := by decide +kernel
theorem dX7_readClause_106 : decode cX7_readClause 106 = .ok (.aload_n 0, 1) := by decide +kernel
theorem dX7_readClause_107 : decode cX7_readClause 107 = .ok (.iconst 1, 1) := by decide +kernel
theorem dX7_readClause_108 : decode cX7_readClause 108 = .ok (.aload_n 0, 1) := by decide +kernel
theorem dX7_readClause_109 : decode cX7_readClause 109 = .ok (.getfield 22, 3) := by decide +kernel
theorem dX7_readClause_112 : decode cX7_readClause 112 = .ok (.invokevirtual 55, 3) := by decide +kernel
theorem dX7_readClause_115 : decode cX7_readClause 115 = .ok (.return_, 1) := by decide +kernel
theorem dX7_readClause_116 : decode cX7_readClause 116 = .ok (.aload_n 0, 1) := by decide +kernel
theorem dX7_readClause_117 : decode cX7_readClause 117 = .ok (.dup, 1) := by decide +kernel
theorem dX7_readClause_118 : decode cX7_readClause 118 = .ok (.getfield 22, 3) := by decide +kernel
theorem dX7_readClause_121 : decode cX7_readClause 121 = .ok (.iconst 1, 1) := by decide +kernel
theorem dX7_readClause_122 : decode cX7_readClause 122 = .ok (.iadd, 1) := by decide +kernel
theorem dX7_readClause_123 : decode cX7_readClause 123 = .ok (.putfield 22, 3) := by decide +kernel
theorem dX7_readClause_126 : decode cX7_readClause 126 = .ok (.aload_n 0, 1) := by decide +kernel
theorem dX7_readClause_127 : decode cX7_readClause 127 = .ok (.invokevirtual 37, 3) := by decide +kernel
theorem dX7_readClause_130 : decode cX7_readClause 130 = .ok (.return_, 1) := by decide +kernel
theorem dX7_readRest_0 : decode cX7_readRest 0 = .ok (.iload_n 1, 1) := by decide +kernel
theorem dX7_readRest_1 : decode cX7_readRest 1 = .ok (.bipush 109, 2) := by decide +kernel
theorem dX7_readRest_3 : decode cX7_readRest 3 = .ok (.if_icmp .ne 17, 3) := by decide +kernel
theorem dX7_readRest_6 : decode cX7_readRest 6 = .ok (.aload_n 2, 1) := by decide +kernel
theorem dX7_readRest_7 : decode cX7_readRest 7 = .ok (.aload_n 0, 1) := by decide +kernel
theorem dX7_readRest_8 : decode cX7_readRest 8 = .ok (.iconst 0, 1) := by decide +kernel
theorem dX7_readRest_9 : decode cX7_readRest 9 = .ok (.bipush 99, 2) := by decide +kernel
theorem dX7_readRest_11 : decode cX7_readRest 11 = .ok (.invokevirtual 67, 3) := by decide +kernel
theorem dX7_readRest_14 : decode cX7_readRest 14 = .ok (.putfield 52, 3) := by decide +kernel
theorem dX7_readRest_17 : decode cX7_readRest 17 = .ok (.goto 65, 3) := by decide +kernel
theorem dX7_readRest_20 : decode cX7_readRest 20 = .ok (.iload_n 1, 1) := by decide +kernel
theorem dX7_readRest_21 : decode cX7_readRest 21 = .ok (.bipush 108, 2) := by decide +kernel
theorem dX7_readRest_23 : decode cX7_readRest 23 = .ok (.if_icmp .ne 25, 3) := by decide +kernel
theorem dX7_readRest_26 : decode cX7_readRest 26 = .ok (.aload_n 0, 1) := by decide +kernel
theorem dX7_readRest_27 : decode cX7_readRest 27 = .ok (.iconst 0, 1) := by decide +kernel
theorem dX7_readRest_28 : decode cX7_readRest 28 = .ok (.iconst 4, 1) := by decide +kernel
theorem dX7_readRest_29 : decode cX7_readRest 29 = .ok (.invokevirtual 67, 3) := by decide +kernel
theorem dX7_readRest_32 : decode cX7_readRest 32 = .ok (.istore_n 3, 1) := by decide +kernel
theorem dX7_readRest_33 : decode cX7_readRest 33 = .ok (.aload_n 2, 1) := by decide +kernel
theorem dX7_readRest_34 : decode cX7_readRest 34 = .ok (.iload_n 3, 1) := by decide +kernel
theorem dX7_readRest_35 : decode cX7_readRest 35 = .ok (.aload_n 0, 1) := by decide +kernel
theorem dX7_readRest_36 : decode cX7_readRest 36 = .ok (.iconst 1, 1) := by decide +kernel
theorem dX7_readRest_37 : decode cX7_readRest 37 = .ok (.bipush 20, 2) := by decide +kernel
theorem dX7_readRest_39 : decode cX7_readRest 39 = .ok (.invokevirtual 67, 3) := by decide +kernel
theorem dX7_readRest_42 : decode cX7_readRest 42 = .ok (.invokevirtual 71, 3) := by decide +kernel
theorem dX7_readRest_45 : decode cX7_readRest 45 = .ok (.goto 37, 3) := by decide +kernel
theorem dX7_readRest_48 : decode cX7_readRest 48 = .ok (.iload_n 1, 1) := by decide +kernel
theorem dX7_readRest_49 : decode cX7_readRest 49 = .ok (.bipush 101, 2) := by decide +kernel
theorem dX7_readRest_51 : decode cX7_readRest 51 = .ok (.if_icmp .ne 26, 3) := by decide +kernel
theorem dX7_readRest_54 : decode cX7_readRest 54 = .ok (.aload_n 0, 1) := by decide +kernel
theorem dX7_readRest_55 : decode cX7_readRest 55 = .ok (.iconst 0, 1) := by decide +kernel
theorem dX7_readRest_56 : decode cX7_readRest 56 = .ok (.bipush 9, 2) := by decide +kernel
theorem dX7_readRest_58 : decode cX7_readRest 58 = .ok (.invokevirtual 67, 3) := by decide +kernel
theorem dX7_readRest_61 : decode cX7_readRest 61 = .ok (.istore_n 3, 1) := by decide +kernel
theorem dX7_readRest_62 : decode cX7_readRest 62 = .ok (.aload_n 2, 1) := by decide +kernel
theorem dX7_readRest_63 : decode cX7_readRest 63 = .ok (.iload_n 3, 1) := by decide +kernel
theorem dX7_readRest_64 : decode cX7_readRest 64 = .ok (.aload_n 0, 1) := by decide +kernel
theorem dX7_readRest_65 : decode cX7_readRest 65 = .ok (.iconst 1, 1) := by decide +kernel
theorem dX7_readRest_66 : decode cX7_readRest 66 = .ok (.bipush 9, 2) := by decide +kernel
theorem dX7_readRest_68 : decode cX7_readRest 68 = .ok (.invokevirtual 67, 3) := by decide +kernel
theorem dX7_readRest_71 : decode cX7_readRest 71 = .ok (.invokevirtual 74, 3) := by decide +kernel
theorem dX7_readRest_74 : decode cX7_readRest 74 = .ok (.goto 8, 3) := by decide +kernel
theorem dX7_readRest_77 : decode cX7_readRest 77 = .ok (.aload_n 0, 1) := by decide +kernel
theorem dX7_readRest_78 : decode cX7_readRest 78 = .ok (.aload_n 2, 1) := by decide +kernel
theorem dX7_readRest_79 : decode cX7_readRest 79 = .ok (.invokevirtual 77, 3) := by decide +kernel
theorem dX7_readRest_82 : decode cX7_readRest 82 = .ok (.return_, 1) := by decide +kernel
theorem dX7_readType_0 : decode cX7_readType 0 = .ok (.iconst 0, 1) := by decide +kernel
theorem dX7_readType_1 : decode cX7_readType 1 = .ok (.istore_n 2, 1) := by decide +kernel
theorem dX7_readType_2 : decode cX7_readType 2 = .ok (.iconst 1, 1) := by decide +kernel
theorem dX7_readType_3 : decode cX7_readType 3 = .ok (.istore_n 3, 1) := by decide +kernel
theorem dX7_readType_4 : decode cX7_readType 4 = .ok (.iload_n 3, 1) := by decide +kernel
theorem dX7_readType_5 : decode cX7_readType 5 = .ok (.ifCond .eq 62, 3) := by decide +kernel
theorem dX7_readType_8 : decode cX7_readType 8 = .ok (.iload_n 2, 1) := by decide +kernel
theorem dX7_readType_9 : decode cX7_readType 9 = .ok (.bipush 8, 2) := by decide +kernel
theorem dX7_readType_11 : decode cX7_readType 11 = .ok (.if_icmp .ge 56, 3) := by decide +kernel
theorem dX7_readType_14 : decode cX7_readType 14 = .ok (.aload_n 0, 1) := by decide +kernel
theorem dX7_readType_15 : decode cX7_readType 15 = .ok (.getfield 15, 3) := by decide +kernel
theorem dX7_readType_18 : decode cX7_readType 18 = .ok (.iload_n 2, 1) := by decide +kernel
theorem dX7_readType_19 : decode cX7_readType 19 = .ok (.aload_n 0, 1) := by decide +kernel
theorem dX7_readType_20 : decode cX7_readType 20 = .ok (.iconst 0, 1) := by decide +kernel
theorem dX7_readType_21 : decode cX7_readType 21 = .ok (.iconst 4, 1) := by decide +kernel
theorem dX7_readType_22 : decode cX7_readType 22 = .ok (.invokevirtual 67, 3) := by decide +kernel
theorem dX7_readType_25 : decode cX7_readType 25 = .ok (.iastore, 1) := by decide +kernel
theorem dX7_readType_26 : decode cX7_readType 26 = .ok (.iinc 2 1, 3) := by decide +kernel
theorem dX7_readType_29 : decode cX7_readType 29 = .ok (.iload_n 2, 1) := by decide +kernel
theorem dX7_readType_30 : decode cX7_readType 30 = .ok (.bipush 8, 2) := by decide +kernel
theorem dX7_readType_32 : decode cX7_readType 32 = .ok (.if_icmp .ge 16, 3) := by decide +kernel
theorem dX7_readType_35 : decode cX7_readType 35 = .ok (.aload_n 0, 1) := by decide +kernel
theorem dX7_readType_36 : decode cX7_readType 36 = .ok (.invokevirtual 48, 3) := by decide +kernel
theorem dX7_readType_39 : decode cX7_readType 39 = .ok (.bipush 44, 2) := by decide +kernel
theorem dX7_readType_41 : decode cX7_readType 41 = .ok (.if_icmp .ne 7, 3) := by decide +kernel
theorem dX7_readType_44 : decode cX7_readType 44 = .ok (.iconst 1, 1) := by decide +kernel
theorem dX7_readType_45 : decode cX7_readType 45 = .ok (.goto 4, 3) := by decide +kernel
theorem dX7_readType_48 : decode cX7_readType 48 = .ok (.iconst 0, 1) := by decide +kernel
theorem dX7_readType_49 : decode cX7_readType 49 = .ok (.istore_n 3, 1) := by decide +kernel
theorem dX7_readType_50 : decode cX7_readType 50 = .ok (.iload_n 3, 1) := by decide +kernel
theorem dX7_readType_51 : decode cX7_readType 51 = .ok (.ifCond .eq (-47), 3) := by decide +kernel
theorem dX7_readType_54 : decode cX7_readType 54 = .ok (.aload_n 0, 1) := by decide +kernel
theorem dX7_readType_55 : decode cX7_readType 55 = .ok (.dup, 1) := by decide +kernel
theorem dX7_readType_56 : decode cX7_readType 56 = .ok (.getfield 22, 3) := by decide +kernel
theorem dX7_readType_59 : decode cX7_readType 59 = .ok (.iconst 1, 1) := by decide +kernel
theorem dX7_readType_60 : decode cX7_readType 60 = .ok (.iadd, 1) := by decide +kernel
theorem dX7_readType_61 : decode cX7_readType 61 = .ok (.putfield 22, 3) := by decide +kernel
theorem dX7_readType_64 : decode cX7_readType 64 = .ok (.goto (-60), 3) := by decide +kernel
theorem dX7_readType_67 : decode cX7_readType 67 = .ok (.aload_n 1, 1) := by decide +kernel
theorem dX7_readType_68 : decode cX7_readType 68 = .ok (.aload_n 0, 1) := by decide +kernel
theorem dX7_readType_69 : decode cX7_readType 69 = .ok (.getfield 15, 3) := by decide +kernel
theorem dX7_readType_72 : decode cX7_readType 72 = .ok (.iload_n 2, 1) := by decide +kernel
theorem dX7_readType_73 : decode cX7_readType 73 = .ok (.invokevirtual 80, 3) := by decide +kernel
theorem dX7_readType_76 : decode cX7_readType 76 = .ok (.return_, 1) := by decide +kernel
theorem dX7_readNumber_0 : decode cX7_readNumber 0 = .ok (.aload_n 0, 1) := by decide +kernel
theorem dX7_readNumber_1 : decode cX7_readNumber 1 = .ok (.invokevirtual 37, 3) := by decide +kernel
theorem dX7_readNumber_4 : decode cX7_readNumber 4 = .ok (.aload_n 0, 1) := by decide +kernel
theorem dX7_readNumber_5 : decode cX7_readNumber 5 = .ok (.getfield 22, 3) := by decide +kernel
theorem dX7_readNumber_8 : decode cX7_readNumber 8 = .ok (.istore_n 3, 1) := by decide +kernel
theorem dX7_readNumber_9 : decode cX7_readNumber 9 = .ok (.iconst 0, 1) := by decide +kernel
theorem dX7_readNumber_10 : decode cX7_readNumber 10 = .ok (.istore 4, 2) := by decide +kernel
theorem dX7_readNumber_12 : decode cX7_readNumber 12 = .ok (.aload_n 0, 1) := by decide +kernel
theorem dX7_readNumber_13 : decode cX7_readNumber 13 = .ok (.getfield 22, 3) := by decide +kernel
theorem dX7_readNumber_16 : decode cX7_readNumber 16 = .ok (.aload_n 0, 1) := by decide +kernel
theorem dX7_readNumber_17 : decode cX7_readNumber 17 = .ok (.getfield 18, 3) := by decide +kernel
theorem dX7_readNumber_20 : decode cX7_readNumber 20 = .ok (.if_icmp .ge 74, 3) := by decide +kernel
theorem dX7_readNumber_23 : decode cX7_readNumber 23 = .ok (.aload_n 0, 1) := by decide +kernel
theorem dX7_readNumber_24 : decode cX7_readNumber 24 = .ok (.getfield 9, 3) := by decide +kernel
theorem dX7_readNumber_27 : decode cX7_readNumber 27 = .ok (.aload_n 0, 1) := by decide +kernel
theorem dX7_readNumber_28 : decode cX7_readNumber 28 = .ok (.getfield 22, 3) := by decide +kernel
theorem dX7_readNumber_31 : decode cX7_readNumber 31 = .ok (.iaload, 1) := by decide +kernel
theorem dX7_readNumber_32 : decode cX7_readNumber 32 = .ok (.bipush 48, 2) := by decide +kernel
theorem dX7_readNumber_34 : decode cX7_readNumber 34 = .ok (.if_icmp .lt 60, 3) := by decide +kernel
theorem dX7_readNumber_37 : decode cX7_readNumber 37 = .ok (.aload_n 0, 1) := by decide +kernel
theorem dX7_readNumber_38 : decode cX7_readNumber 38 = .ok (.getfield 9, 3) := by decide +kernel
theorem dX7_readNumber_41 : decode cX7_readNumber 41 = .ok (.aload_n 0, 1) := by decide +kernel
theorem dX7_readNumber_42 : decode cX7_readNumber 42 = .ok (.getfield 22, 3) := by decide +kernel
theorem dX7_readNumber_45 : decode cX7_readNumber 45 = .ok (.iaload, 1) := by decide +kernel
theorem dX7_readNumber_46 : decode cX7_readNumber 46 = .ok (.bipush 57, 2) := by decide +kernel
theorem dX7_readNumber_48 : decode cX7_readNumber 48 = .ok (.if_icmp .gt 46, 3) := by decide +kernel
theorem dX7_readNumber_51 : decode cX7_readNumber 51 = .ok (.aload_n 0, 1) := by decide +kernel
theorem dX7_readNumber_52 : decode cX7_readNumber 52 = .ok (.getfield 22, 3) := by decide +kernel
theorem dX7_readNumber_55 : decode cX7_readNumber 55 = .ok (.iload_n 3, 1) := by decide +kernel
theorem dX7_readNumber_56 : decode cX7_readNumber 56 = .ok (.isub, 1) := by decide +kernel
theorem dX7_readNumber_57 : decode cX7_readNumber 57 = .ok (.iconst 3, 1) := by decide +kernel
theorem dX7_readNumber_58 : decode cX7_readNumber 58 = .ok (.if_icmp .ge 23, 3) := by decide +kernel
theorem dX7_readNumber_61 : decode cX7_readNumber 61 = .ok (.iload 4, 2) := by decide +kernel
theorem dX7_readNumber_63 : decode cX7_readNumber 63 = .ok (.bipush 10, 2) := by decide +kernel
theorem dX7_readNumber_65 : decode cX7_readNumber 65 = .ok (.imul, 1) := by decide +kernel
theorem dX7_readNumber_66 : decode cX7_readNumber 66 = .ok (.aload_n 0, 1) := by decide +kernel
theorem dX7_readNumber_67 : decode cX7_readNumber 67 = .ok (.getfield 9, 3) := by decide +kernel
theorem dX7_readNumber_70 : decode cX7_readNumber 70 = .ok (.aload_n 0, 1) := by decide +kernel
theorem dX7_readNumber_71 : decode cX7_readNumber 71 = .ok (.getfield 22, 3) := by decide +kernel
theorem dX7_readNumber_74 : decode cX7_readNumber 74 = .ok (.iaload, 1) := by decide +kernel
theorem dX7_readNumber_75 : decode cX7_readNumber 75 = .ok (.iadd, 1) := by decide +kernel
theorem dX7_readNumber_76 : decode cX7_readNumber 76 = .ok (.bipush 48, 2) := by decide +kernel
theorem dX7_readNumber_78 : decode cX7_readNumber 78 = .ok (.isub, 1) := by decide +kernel
theorem dX7_readNumber_79 : decode cX7_readNumber 79 = .ok (.istore 4, 2) := by decide +kernel
theorem dX7_readNumber_81 : decode cX7_readNumber 81 = .ok (.aload_n 0, 1) := by decide +kernel
theorem dX7_readNumber_82 : decode cX7_readNumber 82 = .ok (.dup, 1) := by decide +kernel
theorem dX7_readNumber_83 : decode cX7_readNumber 83 = .ok (.getfield 22, 3) := by decide +kernel
theorem dX7_readNumber_86 : decode cX7_readNumber 86 = .ok (.iconst 1, 1) := by decide +kernel
theorem dX7_readNumber_87 : decode cX7_readNumber 87 = .ok (.iadd, 1) := by decide +kernel
theorem dX7_readNumber_88 : decode cX7_readNumber 88 = .ok (.putfield 22, 3) := by decide +kernel
theorem dX7_readNumber_91 : decode cX7_readNumber 91 = .ok (.goto (-79), 3) := by decide +kernel
theorem dX7_readNumber_94 : decode cX7_readNumber 94 = .ok (.aload_n 0, 1) := by decide +kernel
theorem dX7_readNumber_95 : decode cX7_readNumber 95 = .ok (.getfield 22, 3) := by decide +kernel
theorem dX7_readNumber_98 : decode cX7_readNumber 98 = .ok (.iload_n 3, 1) := by decide +kernel
theorem dX7_readNumber_99 : decode cX7_readNumber 99 = .ok (.if_icmp .ne 15, 3) := by decide +kernel
theorem dX7_readNumber_102 : decode cX7_readNumber 102 = .ok (.aload_n 0, 1) := by decide +kernel
theorem dX7_readNumber_103 : decode cX7_readNumber 103 = .ok (.iconst 1, 1) := by decide +kernel
theorem dX7_readNumber_104 : decode cX7_readNumber 104 = .ok (.aload_n 0, 1) := by decide +kernel
theorem dX7_readNumber_105 : decode cX7_readNumber 105 = .ok (.getfield 22, 3) := by decide +kernel
theorem dX7_readNumber_108 : decode cX7_readNumber 108 = .ok (.invokevirtual 55, 3) := by decide +kernel
theorem dX7_readNumber_111 : decode cX7_readNumber 111 = .ok (.goto 31, 3) := by decide +kernel
theorem dX7_readNumber_114 : decode cX7_readNumber 114 = .ok (.aload_n 0, 1) := by decide +kernel
theorem dX7_readNumber_115 : decode cX7_readNumber 115 = .ok (.getfield 22, 3) := by decide +kernel
theorem dX7_readNumber_118 : decode cX7_readNumber 118 = .ok (.iload_n 3, 1) := by decide +kernel
theorem dX7_readNumber_119 : decode cX7_readNumber 119 = .ok (.isub, 1) := by decide +kernel
theorem dX7_readNumber_120 : decode cX7_readNumber 120 = .ok (.iconst 3, 1) := by decide +kernel
theorem dX7_readNumber_121 : decode cX7_readNumber 121 = .ok (.if_icmp .gt 15, 3) := by decide +kernel
theorem dX7_readNumber_124 : decode cX7_readNumber 124 = .ok (.iload 4, 2) := by decide +kernel
theorem dX7_readNumber_126 : decode cX7_readNumber 126 = .ok (.iload_n 1, 1) := by decide +kernel
theorem dX7_readNumber_127 : decode cX7_readNumber 127 = .ok (.if_icmp .lt 9, 3) := by decide +kernel
theorem dX7_readNumber_130 : decode cX7_readNumber 130 = .ok (.iload 4, 2) := by decide +kernel
theorem dX7_readNumber_132 : decode cX7_readNumber 132 = .ok (.iload_n 2, 1) := by decide +kernel
theorem dX7_readNumber_133 : decode cX7_readNumber 133 = .ok (.if_icmp .le 9, 3) := by decide +kernel
theorem dX7_readNumber_136 : decode cX7_readNumber 136 = .ok (.aload_n 0, 1) := by decide +kernel
theorem dX7_readNumber_137 : decode cX7_readNumber 137 = .ok (.iconst 2, 1) := by decide +kernel
theorem dX7_readNumber_138 : decode cX7_readNumber 138 = .ok (.iload_n 3, 1) := by decide +kernel
theorem dX7_readNumber_139 : decode cX7_readNumber 139 = .ok (.invokevirtual 55, 3) := by decide +kernel
theorem dX7_readNumber_142 : decode cX7_readNumber 142 = .ok (.aload_n 0, 1) := by decide +kernel
theorem dX7_readNumber_143 : decode cX7_readNumber 143 = .ok (.invokevirtual 37, 3) := by decide +kernel
theorem dX7_readNumber_146 : decode cX7_readNumber 146 = .ok (.iload 4, 2) := by decide +kernel
theorem dX7_readNumber_148 : decode cX7_readNumber 148 = .ok (.ireturn, 1) := by decide +kernel
theorem dX7_skipBlanks_0 : decode cX7_skipBlanks 0 = .ok (.aload_n 0, 1) := by decide +kernel
theorem dX7_skipBlanks_1 : decode cX7_skipBlanks 1 = .ok (.getfield 22, 3) := by decide +kernel
theorem dX7_skipBlanks_4 : decode cX7_skipBlanks 4 = .ok (.aload_n 0, 1) := by decide +kernel
theorem dX7_skipBlanks_5 : decode cX7_skipBlanks 5 = .ok (.getfield 18, 3) := by decide +kernel
theorem dX7_skipBlanks_8 : decode cX7_skipBlanks 8 = .ok (.if_icmp .ge 30, 3) := by decide +kernel
theorem dX7_skipBlanks_11 : decode cX7_skipBlanks 11 = .ok (.aload_n 0, 1) := by decide +kernel
theorem dX7_skipBlanks_12 : decode cX7_skipBlanks 12 = .ok (.getfield 9, 3) := by decide +kernel
theorem dX7_skipBlanks_15 : decode cX7_skipBlanks 15 = .ok (.aload_n 0, 1) := by decide +kernel
theorem dX7_skipBlanks_16 : decode cX7_skipBlanks 16 = .ok (.getfield 22, 3) := by decide +kernel
theorem dX7_skipBlanks_19 : decode cX7_skipBlanks 19 = .ok (.iaload, 1) := by decide +kernel
theorem dX7_skipBlanks_20 : decode cX7_skipBlanks 20 = .ok (.bipush 32, 2) := by decide +kernel
theorem dX7_skipBlanks_22 : decode cX7_skipBlanks 22 = .ok (.if_icmp .ne 16, 3) := by decide +kernel
theorem dX7_skipBlanks_25 : decode cX7_skipBlanks 25 = .ok (.aload_n 0, 1) := by decide +kernel
theorem dX7_skipBlanks_26 : decode cX7_skipBlanks 26 = .ok (.dup, 1) := by decide +kernel
theorem dX7_skipBlanks_27 : decode cX7_skipBlanks 27 = .ok (.getfield 22, 3) := by decide +kernel
theorem dX7_skipBlanks_30 : decode cX7_skipBlanks 30 = .ok (.iconst 1, 1) := by decide +kernel
theorem dX7_skipBlanks_31 : decode cX7_skipBlanks 31 = .ok (.iadd, 1) := by decide +kernel
theorem dX7_skipBlanks_32 : decode cX7_skipBlanks 32 = .ok (.putfield 22, 3) := by decide +kernel
theorem dX7_skipBlanks_35 : decode cX7_skipBlanks 35 = .ok (.goto (-35), 3) := by decide +kernel
theorem dX7_skipBlanks_38 : decode cX7_skipBlanks 38 = .ok (.return_, 1) := by decide +kernel
theorem dX7_here_0 : decode cX7_here 0 = .ok (.aload_n 0, 1) := by decide +kernel
theorem dX7_here_1 : decode cX7_here 1 = .ok (.getfield 22, 3) := by decide +kernel
theorem dX7_here_4 : decode cX7_here 4 = .ok (.aload_n 0, 1) := by decide +kernel
theorem dX7_here_5 : decode cX7_here 5 = .ok (.getfield 18, 3) := by decide +kernel
theorem dX7_here_8 : decode cX7_here 8 = .ok (.if_icmp .ge 15, 3) := by decide +kernel
theorem dX7_here_11 : decode cX7_here 11 = .ok (.aload_n 0, 1) := by decide +kernel
theorem dX7_here_12 : decode cX7_here 12 = .ok (.getfield 9, 3) := by decide +kernel
theorem dX7_here_15 : decode cX7_here 15 = .ok (.aload_n 0, 1) := by decide +kernel
theorem dX7_here_16 : decode cX7_here 16 = .ok (.getfield 22, 3) := by decide +kernel
theorem dX7_here_19 : decode cX7_here 19 = .ok (.iaload, 1) := by decide +kernel
theorem dX7_here_20 : decode cX7_here 20 = .ok (.goto 4, 3) := by decide +kernel
theorem dX7_here_23 : decode cX7_here 23 = .ok (.iconst (-1), 1) := by decide +kernel
theorem dX7_here_24 : decode cX7_here 24 = .ok (.ireturn, 1) := by decide +kernel
theorem dX7_blame_0 : decode cX7_blame 0 = .ok (.aload_n 0, 1) := by decide +kernel
theorem dX7_blame_1 : decode cX7_blame 1 = .ok (.getfield 25, 3) := by decide +kernel
theorem dX7_blame_4 : decode cX7_blame 4 = .ok (.ifCond .ne 13, 3) := by decide +kernel
theorem dX7_blame_7 : decode cX7_blame 7 = .ok (.aload_n 0, 1) := by decide +kernel
theorem dX7_blame_8 : decode cX7_blame 8 = .ok (.iload_n 1, 1) := by decide +kernel
theorem dX7_blame_9 : decode cX7_blame 9 = .ok (.putfield 25, 3) := by decide +kernel
theorem dX7_blame_12 : decode cX7_blame 12 = .ok (.aload_n 0, 1) := by decide +kernel
theorem dX7_blame_13 : decode cX7_blame 13 = .ok (.iload_n 2, 1) := by decide +kernel
theorem dX7_blame_14 : decode cX7_blame 14 = .ok (.putfield 28, 3) := by decide +kernel
theorem dX7_blame_17 : decode cX7_blame 17 = .ok (.return_, 1) := by decide +kernel
theorem dX8_init_0 : decode cX8_init 0 = .ok (.aload_n 0, 1) := by decide +kernel
theorem dX8_init_1 : decode cX8_init 1 = .ok (.invokespecial 3, 3) := by decide +kernel
theorem dX8_init_4 : decode cX8_init 4 = .ok (.aload_n 0, 1) := by decide +kernel
theorem dX8_init_5 : decode cX8_init 5 = .ok (.bipush 13, 2) := by decide +kernel
theorem dX8_init_7 : decode cX8_init 7 = .ok (.newarray .int, 2) := by decide +kernel
theorem dX8_init_9 : decode cX8_init 9 = .ok (.putfield 9, 3) := by decide +kernel
theorem dX8_init_12 : decode cX8_init 12 = .ok (.aload_n 0, 1) := by decide +kernel
theorem dX8_init_13 : decode cX8_init 13 = .ok (.bipush 13, 2) := by decide +kernel
theorem dX8_init_15 : decode cX8_init 15 = .ok (.newarray .int, 2) := by decide +kernel
theorem dX8_init_17 : decode cX8_init 17 = .ok (.putfield 15, 3) := by decide +kernel
theorem dX8_init_20 : decode cX8_init 20 = .ok (.aload_n 0, 1) := by decide +kernel
theorem dX8_init_21 : decode cX8_init 21 = .ok (.iconst 5, 1) := by decide +kernel
theorem dX8_init_22 : decode cX8_init 22 = .ok (.newarray .int, 2) := by decide +kernel
theorem dX8_init_24 : decode cX8_init 24 = .ok (.putfield 18, 3) := by decide +kernel
theorem dX8_init_27 : decode cX8_init 27 = .ok (.aload_n 0, 1) := by decide +kernel
theorem dX8_init_28 : decode cX8_init 28 = .ok (.bipush 6, 2) := by decide +kernel
theorem dX8_init_30 : decode cX8_init 30 = .ok (.newarray .int, 2) := by decide +kernel
theorem dX8_init_32 : decode cX8_init 32 = .ok (.putfield 21, 3) := by decide +kernel
theorem dX8_init_35 : decode cX8_init 35 = .ok (.return_, 1) := by decide +kernel
theorem dX8_bestPeels_0 : decode cX8_bestPeels 0 = .ok (.iconst 0, 1) := by decide +kernel
theorem dX8_bestPeels_1 : decode cX8_bestPeels 1 = .ok (.istore_n 2, 1) := by decide +kernel
theorem dX8_bestPeels_2 : decode cX8_bestPeels 2 = .ok (.iconst 0, 1) := by decide +kernel
theorem dX8_bestPeels_3 : decode cX8_bestPeels 3 = .ok (.istore_n 3, 1) := by decide +kernel
theorem dX8_bestPeels_4 : decode cX8_bestPeels 4 = .ok (.iconst 1, 1) := by decide +kernel
theorem dX8_bestPeels_5 : decode cX8_bestPeels 5 = .ok (.istore 4, 2) := by decide +kernel
theorem dX8_bestPeels_7 : decode cX8_bestPeels 7 = .ok (.iload 4, 2) := by decide +kernel
theorem dX8_bestPeels_9 : decode cX8_bestPeels 9 = .ok (.aload_n 0, 1) := by decide +kernel
theorem dX8_bestPeels_10 : decode cX8_bestPeels 10 = .ok (.getfield 24, 3) := by decide +kernel
theorem dX8_bestPeels_13 : decode cX8_bestPeels 13 = .ok (.if_icmp .gt 30, 3) := by decide +kernel
theorem dX8_bestPeels_16 : decode cX8_bestPeels 16 = .ok (.aload_n 0, 1) := by decide +kernel
theorem dX8_bestPeels_17 : decode cX8_bestPeels 17 = .ok (.iload_n 1, 1) := by decide +kernel
theorem dX8_bestPeels_18 : decode cX8_bestPeels 18 = .ok (.iload 4, 2) := by decide +kernel
theorem dX8_bestPeels_20 : decode cX8_bestPeels 20 = .ok (.invokestatic 30, 3) := by decide +kernel
theorem dX8_bestPeels_23 : decode cX8_bestPeels 23 = .ok (.istore 5, 2) := by decide +kernel
theorem dX8_bestPeels_25 : decode cX8_bestPeels 25 = .ok (.iload 5, 2) := by decide +kernel
theorem dX8_bestPeels_27 : decode cX8_bestPeels 27 = .ok (.iload_n 3, 1) := by decide +kernel
theorem dX8_bestPeels_28 : decode cX8_bestPeels 28 = .ok (.if_icmp .le 9, 3) := by decide +kernel
theorem dX8_bestPeels_31 : decode cX8_bestPeels 31 = .ok (.iload 5, 2) := by decide +kernel
theorem dX8_bestPeels_33 : decode cX8_bestPeels 33 = .ok (.istore_n 3, 1) := by decide +kernel
theorem dX8_bestPeels_34 : decode cX8_bestPeels 34 = .ok (.iload 4, 2) := by decide +kernel
theorem dX8_bestPeels_36 : decode cX8_bestPeels 36 = .ok (.istore_n 2, 1) := by decide +kernel
theorem dX8_bestPeels_37 : decode cX8_bestPeels 37 = .ok (.iinc 4 1, 3) := by decide +kernel
theorem dX8_bestPeels_40 : decode cX8_bestPeels 40 = .ok (.goto (-33), 3) := by decide +kernel
theorem dX8_bestPeels_43 : decode cX8_bestPeels 43 = .ok (.iload_n 2, 1) := by decide +kernel
theorem dX8_bestPeels_44 : decode cX8_bestPeels 44 = .ok (.ireturn, 1) := by decide +kernel
theorem dX8_gainOf_0 : decode cX8_gainOf 0 = .ok (.iconst 0, 1) := by decide +kernel
theorem dX8_gainOf_1 : decode cX8_gainOf 1 = .ok (.istore_n 3, 1) := by decide +kernel
theorem dX8_gainOf_2 : decode cX8_gainOf 2 = .ok (.iconst 0, 1) := by decide +kernel
theorem dX8_gainOf_3 : decode cX8_gainOf 3 = .ok (.istore 4, 2) := by decide +kernel
theorem dX8_gainOf_5 : decode cX8_gainOf 5 = .ok (.iload 4, 2) := by decide +kernel
theorem dX8_gainOf_7 : decode cX8_gainOf 7 = .ok (.iload_n 2, 1) := by decide +kernel
theorem dX8_gainOf_8 : decode cX8_gainOf 8 = .ok (.if_icmp .ge 55, 3) := by decide +kernel
theorem dX8_gainOf_11 : decode cX8_gainOf 11 = .ok (.iload 4, 2) := by decide +kernel
theorem dX8_gainOf_13 : decode cX8_gainOf 13 = .ok (.aload_n 0, 1) := by decide +kernel
theorem dX8_gainOf_14 : decode cX8_gainOf 14 = .ok (.getfield 24, 3) := by decide +kernel
theorem dX8_gainOf_17 : decode cX8_gainOf 17 = .ok (.if_icmp .ge 46, 3) := by decide +kernel
theorem dX8_gainOf_20 : decode cX8_gainOf 20 = .ok (.iload_n 3, 1) := by decide +kernel
theorem dX8_gainOf_21 : decode cX8_gainOf 21 = .ok (.aload_n 0, 1) := by decide +kernel
theorem dX8_gainOf_22 : decode cX8_gainOf 22 = .ok (.iload 4, 2) := by decide +kernel
theorem dX8_gainOf_24 : decode cX8_gainOf 24 = .ok (.invokevirtual 34, 3) := by decide +kernel
theorem dX8_gainOf_27 : decode cX8_gainOf 27 = .ok (.aload_n 0, 1) := by decide +kernel
theorem dX8_gainOf_28 : decode cX8_gainOf 28 = .ok (.iload 4, 2) := by decide +kernel
theorem dX8_gainOf_30 : decode cX8_gainOf 30 = .ok (.invokevirtual 38, 3) := by decide +kernel
theorem dX8_gainOf_33 : decode cX8_gainOf 33 = .ok (.isub, 1) := by decide +kernel
theorem dX8_gainOf_34 : decode cX8_gainOf 34 = .ok (.iload_n 1, 1) := by decide +kernel
theorem dX8_gainOf_35 : decode cX8_gainOf 35 = .ok (.isub, 1) := by decide +kernel
theorem dX8_gainOf_36 : decode cX8_gainOf 36 = .ok (.iadd, 1) := by decide +kernel
theorem dX8_gainOf_37 : decode cX8_gainOf 37 = .ok (.istore_n 3, 1) := by decide +kernel
theorem dX8_gainOf_38 : decode cX8_gainOf 38 = .ok (.iload 4, 2) := by decide +kernel
theorem dX8_gainOf_40 : decode cX8_gainOf 40 = .ok (.ifCond .le 17, 3) := by decide +kernel
theorem dX8_gainOf_43 : decode cX8_gainOf 43 = .ok (.aload_n 0, 1) := by decide +kernel
theorem dX8_gainOf_44 : decode cX8_gainOf 44 = .ok (.getfield 41, 3) := by decide +kernel
theorem dX8_gainOf_47 : decode cX8_gainOf 47 = .ok (.iload 4, 2) := by decide +kernel
theorem dX8_gainOf_49 : decode cX8_gainOf 49 = .ok (.iaload, 1) := by decide +kernel
theorem dX8_gainOf_50 : decode cX8_gainOf 50 = .ok (.iconst 4, 1) := by decide +kernel
theorem dX8_gainOf_51 : decode cX8_gainOf 51 = .ok (.if_icmp .ne 6, 3) := by decide +kernel
theorem dX8_gainOf_54 : decode cX8_gainOf 54 = .ok (.iinc 3 5, 3) := by decide +kernel
theorem dX8_gainOf_57 : decode cX8_gainOf 57 = .ok (.iinc 4 1, 3) := by decide +kernel
theorem dX8_gainOf_60 : decode cX8_gainOf 60 = .ok (.goto (-55), 3) := by decide +kernel
theorem dX8_gainOf_63 : decode cX8_gainOf 63 = .ok (.iload_n 3, 1) := by decide +kernel
theorem dX8_gainOf_64 : decode cX8_gainOf 64 = .ok (.ireturn, 1) := by decide +kernel
theorem dX8_partUp_0 : decode cX8_partUp 0 = .ok (.aload_n 1, 1) := by decide +kernel
theorem dX8_partUp_1 : decode cX8_partUp 1 = .ok (.getfield 24, 3) := by decide +kernel
theorem dX8_partUp_4 : decode cX8_partUp 4 = .ok (.istore_n 3, 1) := by decide +kernel
theorem dX8_partUp_5 : decode cX8_partUp 5 = .ok (.aload_n 0, 1) := by decide +kernel
theorem dX8_partUp_6 : decode cX8_partUp 6 = .ok (.getfield 15, 3) := by decide +kernel
theorem dX8_partUp_9 : decode cX8_partUp 9 = .ok (.iconst 0, 1) := by decide +kernel
theorem dX8_partUp_10 : decode cX8_partUp 10 = .ok (.iconst 0, 1) := by decide +kernel
theorem dX8_partUp_11 : decode cX8_partUp 11 = .ok (.iastore, 1) := by decide +kernel
theorem dX8_partUp_12 : decode cX8_partUp 12 = .ok (.iconst 0, 1) := by decide +kernel
theorem dX8_partUp_13 : decode cX8_partUp 13 = .ok (.istore 4, 2) := by decide +kernel
theorem dX8_partUp_15 : decode cX8_partUp 15 = .ok (.iload 4, 2) := by decide +kernel
theorem dX8_partUp_17 : decode cX8_partUp 17 = .ok (.iload_n 3, 1) := by decide +kernel
theorem dX8_partUp_18 : decode cX8_partUp 18 = .ok (.if_icmp .ge 32, 3) := by decide +kernel
theorem dX8_partUp_21 : decode cX8_partUp 21 = .ok (.aload_n 0, 1) := by decide +kernel
theorem dX8_partUp_22 : decode cX8_partUp 22 = .ok (.getfield 15, 3) := by decide +kernel
theorem dX8_partUp_25 : decode cX8_partUp 25 = .ok (.iload 4, 2) := by decide +kernel
theorem dX8_partUp_27 : decode cX8_partUp 27 = .ok (.iconst 1, 1) := by decide +kernel
theorem dX8_partUp_28 : decode cX8_partUp 28 = .ok (.iadd, 1) := by decide +kernel
theorem dX8_partUp_29 : decode cX8_partUp 29 = .ok (.aload_n 0, 1) := by decide +kernel
theorem dX8_partUp_30 : decode cX8_partUp 30 = .ok (.getfield 15, 3) := by decide +kernel
theorem dX8_partUp_33 : decode cX8_partUp 33 = .ok (.iload 4, 2) := by decide +kernel
theorem dX8_partUp_35 : decode cX8_partUp 35 = .ok (.iaload, 1) := by decide +kernel
theorem dX8_partUp_36 : decode cX8_partUp 36 = .ok (.aload_n 1, 1) := by decide +kernel
theorem dX8_partUp_37 : decode cX8_partUp 37 = .ok (.iload 4, 2) := by decide +kernel
theorem dX8_partUp_39 : decode cX8_partUp 39 = .ok (.invokevirtual 38, 3) := by decide +kernel
theorem dX8_partUp_42 : decode cX8_partUp 42 = .ok (.iadd, 1) := by decide +kernel
theorem dX8_partUp_43 : decode cX8_partUp 43 = .ok (.iastore, 1) := by decide +kernel
theorem dX8_partUp_44 : decode cX8_partUp 44 = .ok (.iinc 4 1, 3) := by decide +kernel
theorem dX8_partUp_47 : decode cX8_partUp 47 = .ok (.goto (-32), 3) := by decide +kernel
theorem dX8_partUp_50 : decode cX8_partUp 50 = .ok (.iconst 0, 1) := by decide +kernel
theorem dX8_partUp_51 : decode cX8_partUp 51 = .ok (.istore 4, 2) := by decide +kernel
theorem dX8_partUp_53 : decode cX8_partUp 53 = .ok (.iload 4, 2) := by decide +kernel
theorem dX8_partUp_55 : decode cX8_partUp 55 = .ok (.iload_n 3, 1) := by decide +kernel
theorem dX8_partUp_56 : decode cX8_partUp 56 = .ok (.if_icmp .ge 30, 3) := by decide +kernel
theorem dX8_partUp_59 : decode cX8_partUp 59 = .ok (.aload_n 0, 1) := by decide +kernel
theorem dX8_partUp_60 : decode cX8_partUp 60 = .ok (.getfield 9, 3) := by decide +kernel
theorem dX8_partUp_63 : decode cX8_partUp 63 = .ok (.iload 4, 2) := by decide +kernel
theorem dX8_partUp_65 : decode cX8_partUp 65 = .ok (.aload_n 0, 1) := by decide +kernel
theorem dX8_partUp_66 : decode cX8_partUp 66 = .ok (.getfield 15, 3) := by decide +kernel
theorem dX8_partUp_69 : decode cX8_partUp 69 = .ok (.iload_n 3, 1) := by decide +kernel
theorem dX8_partUp_70 : decode cX8_partUp 70 = .ok (.iaload, 1) := by decide +kernel
theorem dX8_partUp_71 : decode cX8_partUp 71 = .ok (.aload_n 0, 1) := by decide +kernel
theorem dX8_partUp_72 : decode cX8_partUp 72 = .ok (.getfield 15, 3) := by decide +kernel
theorem dX8_partUp_75 : decode cX8_partUp 75 = .ok (.iload 4, 2) := by decide +kernel
theorem dX8_partUp_77 : decode cX8_partUp 77 = .ok (.iaload, 1) := by decide +kernel
theorem dX8_partUp_78 : decode cX8_partUp 78 = .ok (.isub, 1) := by decide +kernel
theorem dX8_partUp_79 : decode cX8_partUp 79 = .ok (.iastore, 1) := by decide +kernel
theorem dX8_partUp_80 : decode cX8_partUp 80 = .ok (.iinc 4 1, 3) := by decide +kernel
theorem dX8_partUp_83 : decode cX8_partUp 83 = .ok (.goto (-30), 3) := by decide +kernel
theorem dX8_partUp_86 : decode cX8_partUp 86 = .ok (.iload_n 3, 1) := by decide +kernel
theorem dX8_partUp_87 : decode cX8_partUp 87 = .ok (.istore 4, 2) := by decide +kernel
theorem dX8_partUp_89 : decode cX8_partUp 89 = .ok (.iconst 2, 1) := by decide +kernel
theorem dX8_partUp_90 : decode cX8_partUp 90 = .ok (.istore 5, 2) := by decide +kernel
theorem dX8_partUp_92 : decode cX8_partUp 92 = .ok (.iload 5, 2) := by decide +kernel
theorem dX8_partUp_94 : decode cX8_partUp 94 = .ok (.iload_n 2, 1) := by decide +kernel
theorem dX8_partUp_95 : decode cX8_partUp 95 = .ok (.if_icmp .gt 65, 3) := by decide +kernel
theorem dX8_partUp_98 : decode cX8_partUp 98 = .ok (.aload_n 0, 1) := by decide +kernel
theorem dX8_partUp_99 : decode cX8_partUp 99 = .ok (.iconst 0, 1) := by decide +kernel
theorem dX8_partUp_100 : decode cX8_partUp 100 = .ok (.iload_n 3, 1) := by decide +kernel
theorem dX8_partUp_101 : decode cX8_partUp 101 = .ok (.iload 5, 2) := by decide +kernel
theorem dX8_partUp_103 : decode cX8_partUp 103 = .ok (.isub, 1) := by decide +kernel
theorem dX8_partUp_104 : decode cX8_partUp 104 = .ok (.iconst 1, 1) := by decide +kernel
theorem dX8_partUp_105 : decode cX8_partUp 105 = .ok (.iadd, 1) := by decide +kernel
theorem dX8_partUp_106 : decode cX8_partUp 106 = .ok (.invokevirtual 44, 3) := by decide +kernel
theorem dX8_partUp_109 : decode cX8_partUp 109 = .ok (.istore 4, 2) := by decide +kernel
theorem dX8_partUp_111 : decode cX8_partUp 111 = .ok (.iconst 0, 1) := by decide +kernel
theorem dX8_partUp_112 : decode cX8_partUp 112 = .ok (.istore 6, 2) := by decide +kernel
theorem dX8_partUp_114 : decode cX8_partUp 114 = .ok (.iload 6, 2) := by decide +kernel
theorem dX8_partUp_116 : decode cX8_partUp 116 = .ok (.iload 5, 2) := by decide +kernel
theorem dX8_partUp_118 : decode cX8_partUp 118 = .ok (.iadd, 1) := by decide +kernel
theorem dX8_partUp_119 : decode cX8_partUp 119 = .ok (.iload_n 3, 1) := by decide +kernel
theorem dX8_partUp_120 : decode cX8_partUp 120 = .ok (.if_icmp .gt 34, 3) := by decide +kernel
theorem dX8_partUp_123 : decode cX8_partUp 123 = .ok (.aload_n 0, 1) := by decide +kernel
theorem dX8_partUp_124 : decode cX8_partUp 124 = .ok (.getfield 9, 3) := by decide +kernel
theorem dX8_partUp_127 : decode cX8_partUp 127 = .ok (.iload 6, 2) := by decide +kernel
theorem dX8_partUp_129 : decode cX8_partUp 129 = .ok (.aload_n 0, 1) := by decide +kernel
theorem dX8_partUp_130 : decode cX8_partUp 130 = .ok (.iload 6, 2) := by decide +kernel
theorem dX8_partUp_132 : decode cX8_partUp 132 = .ok (.aload_n 0, 1) := by decide +kernel
theorem dX8_partUp_133 : decode cX8_partUp 133 = .ok (.iload 6, 2) := by decide +kernel
theorem dX8_partUp_135 : decode cX8_partUp 135 = .ok (.iload_n 3, 1) := by decide +kernel
theorem dX8_partUp_136 : decode cX8_partUp 136 = .ok (.iload 5, 2) := by decide +kernel
theorem dX8_partUp_138 : decode cX8_partUp 138 = .ok (.isub, 1) := by decide +kernel
theorem dX8_partUp_139 : decode cX8_partUp 139 = .ok (.iconst 1, 1) := by decide +kernel
theorem dX8_partUp_140 : decode cX8_partUp 140 = .ok (.iadd, 1) := by decide +kernel
theorem dX8_partUp_141 : decode cX8_partUp 141 = .ok (.invokevirtual 44, 3) := by decide +kernel
theorem dX8_partUp_144 : decode cX8_partUp 144 = .ok (.invokevirtual 48, 3) := by decide +kernel
theorem dX8_partUp_147 : decode cX8_partUp 147 = .ok (.iastore, 1) := by decide +kernel
theorem dX8_partUp_148 : decode cX8_partUp 148 = .ok (.iinc 6 1, 3) := by decide +kernel
theorem dX8_partUp_151 : decode cX8_partUp 151 = .ok (.goto (-37), 3) := by decide +kernel
theorem dX8_partUp_154 : decode cX8_partUp 154 = .ok (.iinc 5 1, 3) := by decide +kernel
theorem dX8_partUp_157 : decode cX8_partUp 157 = .ok (.goto (-65), 3) := by decide +kernel
theorem dX8_partUp_160 : decode cX8_partUp 160 = .ok (.iload 4, 2) := by decide +kernel
theorem dX8_partUp_162 : decode cX8_partUp 162 = .ok (.ireturn, 1) := by decide +kernel
theorem dX8_firstPartEnd_0 : decode cX8_firstPartEnd 0 = .ok (.iload_n 1, 1) := by decide +kernel
theorem dX8_firstPartEnd_1 : decode cX8_firstPartEnd 1 = .ok (.iconst 1, 1) := by decide +kernel
theorem dX8_firstPartEnd_2 : decode cX8_firstPartEnd 2 = .ok (.iadd, 1) := by decide +kernel
theorem dX8_firstPartEnd_3 : decode cX8_firstPartEnd 3 = .ok (.istore_n 3, 1) := by decide +kernel
theorem dX8_firstPartEnd_4 : decode cX8_firstPartEnd 4 = .ok (.iload_n 1, 1) := by decide +kernel
theorem dX8_firstPartEnd_5 : decode cX8_firstPartEnd 5 = .ok (.iconst 2, 1) := by decide +kernel
theorem dX8_firstPartEnd_6 : decode cX8_firstPartEnd 6 = .ok (.iadd, 1) := by decide +kernel
theorem dX8_firstPartEnd_7 : decode cX8_firstPartEnd 7 = .ok (.istore 4, 2) := by decide +kernel
theorem dX8_firstPartEnd_9 : decode cX8_firstPartEnd 9 = .ok (.iload 4, 2) := by decide +kernel
theorem dX8_firstPartEnd_11 : decode cX8_firstPartEnd 11 = .ok (.iload_n 2, 1) := by decide +kernel
theorem dX8_firstPartEnd_12 : decode cX8_firstPartEnd 12 = .ok (.if_icmp .gt 28, 3) := by decide +kernel
theorem dX8_firstPartEnd_15 : decode cX8_firstPartEnd 15 = .ok (.aload_n 0, 1) := by decide +kernel
theorem dX8_firstPartEnd_16 : decode cX8_firstPartEnd 16 = .ok (.iload_n 1, 1) := by decide +kernel
theorem dX8_firstPartEnd_17 : decode cX8_firstPartEnd 17 = .ok (.iload 4, 2) := by decide +kernel
theorem dX8_firstPartEnd_19 : decode cX8_firstPartEnd 19 = .ok (.invokevirtual 48, 3) := by decide +kernel
theorem dX8_firstPartEnd_22 : decode cX8_firstPartEnd 22 = .ok (.aload_n 0, 1) := by decide +kernel
theorem dX8_firstPartEnd_23 : decode cX8_firstPartEnd 23 = .ok (.iload_n 1, 1) := by decide +kernel
theorem dX8_firstPartEnd_24 : decode cX8_firstPartEnd 24 = .ok (.iload_n 3, 1) := by decide +kernel
theorem dX8_firstPartEnd_25 : decode cX8_firstPartEnd 25 = .ok (.invokevirtual 48, 3) := by decide +kernel
theorem dX8_firstPartEnd_28 : decode cX8_firstPartEnd 28 = .ok (.if_icmp .ge 6, 3) := by decide +kernel
theorem dX8_firstPartEnd_31 : decode cX8_firstPartEnd 31 = .ok (.iload 4, 2) := by decide +kernel
theorem dX8_firstPartEnd_33 : decode cX8_firstPartEnd 33 = .ok (.istore_n 3, 1) := by decide +kernel
theorem dX8_firstPartEnd_34 : decode cX8_firstPartEnd 34 = .ok (.iinc 4 1, 3) := by decide +kernel
theorem dX8_firstPartEnd_37 : decode cX8_firstPartEnd 37 = .ok (.goto (-28), 3) := by decide +kernel
theorem dX8_firstPartEnd_40 : decode cX8_firstPartEnd 40 = .ok (.iload_n 3, 1) := by decide +kernel
theorem dX8_firstPartEnd_41 : decode cX8_firstPartEnd 41 = .ok (.ireturn, 1) := by decide +kernel
theorem dX8_greatestWith_0 : decode cX8_greatestWith 0 = .ok (.iload_n 1, 1) := by decide +kernel
theorem dX8_greatestWith_1 : decode cX8_greatestWith 1 = .ok (.ifCond .lt 14, 3) := by decide +kernel
theorem dX8_greatestWith_4 : decode cX8_greatestWith 4 = .ok (.iload_n 2, 1) := by decide +kernel
theorem dX8_greatestWith_5 : decode cX8_greatestWith 5 = .ok (.iload_n 1, 1) := by decide +kernel
theorem dX8_greatestWith_6 : decode cX8_greatestWith 6 = .ok (.if_icmp .lt 9, 3) := by decide +kernel
theorem dX8_greatestWith_9 : decode cX8_greatestWith 9 = .ok (.iload_n 2, 1) := by decide +kernel
theorem dX8_greatestWith_10 : decode cX8_greatestWith 10 = .ok (.bipush 12, 2) := by decide +kernel
theorem dX8_greatestWith_12 : decode cX8_greatestWith 12 = .ok (.if_icmp .le 5, 3) := by decide +kernel
theorem dX8_greatestWith_15 : decode cX8_greatestWith 15 = .ok (.iconst 0, 1) := by decide +kernel
theorem dX8_greatestWith_16 : decode cX8_greatestWith 16 = .ok (.ireturn, 1) := by decide +kernel
theorem dX8_greatestWith_17 : decode cX8_greatestWith 17 = .ok (.aload_n 0, 1) := by decide +kernel
theorem dX8_greatestWith_18 : decode cX8_greatestWith 18 = .ok (.getfield 15, 3) := by decide +kernel
theorem dX8_greatestWith_21 : decode cX8_greatestWith 21 = .ok (.iload_n 2, 1) := by decide +kernel
theorem dX8_greatestWith_22 : decode cX8_greatestWith 22 = .ok (.iaload, 1) := by decide +kernel
theorem dX8_greatestWith_23 : decode cX8_greatestWith 23 = .ok (.aload_n 0, 1) := by decide +kernel
theorem dX8_greatestWith_24 : decode cX8_greatestWith 24 = .ok (.getfield 15, 3) := by decide +kernel
theorem dX8_greatestWith_27 : decode cX8_greatestWith 27 = .ok (.iload_n 1, 1) := by decide +kernel
theorem dX8_greatestWith_28 : decode cX8_greatestWith 28 = .ok (.iaload, 1) := by decide +kernel
theorem dX8_greatestWith_29 : decode cX8_greatestWith 29 = .ok (.isub, 1) := by decide +kernel
theorem dX8_greatestWith_30 : decode cX8_greatestWith 30 = .ok (.aload_n 0, 1) := by decide +kernel
theorem dX8_greatestWith_31 : decode cX8_greatestWith 31 = .ok (.getfield 9, 3) := by decide +kernel
theorem dX8_greatestWith_34 : decode cX8_greatestWith 34 = .ok (.iload_n 2, 1) := by decide +kernel
theorem dX8_greatestWith_35 : decode cX8_greatestWith 35 = .ok (.iaload, 1) := by decide +kernel
theorem dX8_greatestWith_36 : decode cX8_greatestWith 36 = .ok (.invokestatic 51, 3) := by decide +kernel
theorem dX8_greatestWith_39 : decode cX8_greatestWith 39 = .ok (.ireturn, 1) := by decide +kernel
theorem dX8_playByTurns_0 : decode cX8_playByTurns 0 = .ok (.aload_n 0, 1) := by decide +kernel
theorem dX8_playByTurns_1 : decode cX8_playByTurns 1 = .ok (.getfield 9, 3) := by decide +kernel
theorem dX8_playByTurns_4 : decode cX8_playByTurns 4 = .ok (.aload_n 1, 1) := by decide +kernel
theorem dX8_playByTurns_5 : decode cX8_playByTurns 5 = .ok (.getfield 24, 3) := by decide +kernel
theorem dX8_playByTurns_8 : decode cX8_playByTurns 8 = .ok (.iconst 0, 1) := by decide +kernel
theorem dX8_playByTurns_9 : decode cX8_playByTurns 9 = .ok (.iastore, 1) := by decide +kernel
theorem dX8_playByTurns_10 : decode cX8_playByTurns 10 = .ok (.iconst 0, 1) := by decide +kernel
theorem dX8_playByTurns_11 : decode cX8_playByTurns 11 = .ok (.istore_n 2, 1) := by decide +kernel
theorem dX8_playByTurns_12 : decode cX8_playByTurns 12 = .ok (.aload_n 1, 1) := by decide +kernel
theorem dX8_playByTurns_13 : decode cX8_playByTurns 13 = .ok (.getfield 24, 3) := by decide +kernel
theorem dX8_playByTurns_16 : decode cX8_playByTurns 16 = .ok (.iconst 1, 1) := by decide +kernel
theorem dX8_playByTurns_17 : decode cX8_playByTurns 17 = .ok (.isub, 1) := by decide +kernel
theorem dX8_playByTurns_18 : decode cX8_playByTurns 18 = .ok (.istore_n 3, 1) := by decide +kernel
theorem dX8_playByTurns_19 : decode cX8_playByTurns 19 = .ok (.iload_n 3, 1) := by decide +kernel
theorem dX8_playByTurns_20 : decode cX8_playByTurns 20 = .ok (.ifCond .lt 86, 3) := by decide +kernel
theorem dX8_playByTurns_23 : decode cX8_playByTurns 23 = .ok (.aload_n 1, 1) := by decide +kernel
theorem dX8_playByTurns_24 : decode cX8_playByTurns 24 = .ok (.iload_n 3, 1) := by decide +kernel
theorem dX8_playByTurns_25 : decode cX8_playByTurns 25 = .ok (.invokevirtual 34, 3) := by decide +kernel
theorem dX8_playByTurns_28 : decode cX8_playByTurns 28 = .ok (.aload_n 0, 1) := by decide +kernel
theorem dX8_playByTurns_29 : decode cX8_playByTurns 29 = .ok (.getfield 9, 3) := by decide +kernel
theorem dX8_playByTurns_32 : decode cX8_playByTurns 32 = .ok (.iload_n 3, 1) := by decide +kernel
theorem dX8_playByTurns_33 : decode cX8_playByTurns 33 = .ok (.iconst 1, 1) := by decide +kernel
theorem dX8_playByTurns_34 : decode cX8_playByTurns 34 = .ok (.iadd, 1) := by decide +kernel
theorem dX8_playByTurns_35 : decode cX8_playByTurns 35 = .ok (.iaload, 1) := by decide +kernel
theorem dX8_playByTurns_36 : decode cX8_playByTurns 36 = .ok (.isub, 1) := by decide +kernel
theorem dX8_playByTurns_37 : decode cX8_playByTurns 37 = .ok (.istore 4, 2) := by decide +kernel
theorem dX8_playByTurns_39 : decode cX8_playByTurns 39 = .ok (.iconst 1, 1) := by decide +kernel
theorem dX8_playByTurns_40 : decode cX8_playByTurns 40 = .ok (.istore_n 2, 1) := by decide +kernel
theorem dX8_playByTurns_41 : decode cX8_playByTurns 41 = .ok (.aload_n 0, 1) := by decide +kernel
theorem dX8_playByTurns_42 : decode cX8_playByTurns 42 = .ok (.getfield 9, 3) := by decide +kernel
theorem dX8_playByTurns_45 : decode cX8_playByTurns 45 = .ok (.iload_n 3, 1) := by decide +kernel
theorem dX8_playByTurns_46 : decode cX8_playByTurns 46 = .ok (.iload 4, 2) := by decide +kernel
theorem dX8_playByTurns_48 : decode cX8_playByTurns 48 = .ok (.iastore, 1) := by decide +kernel
theorem dX8_playByTurns_49 : decode cX8_playByTurns 49 = .ok (.iload_n 3, 1) := by decide +kernel
theorem dX8_playByTurns_50 : decode cX8_playByTurns 50 = .ok (.iconst 2, 1) := by decide +kernel
theorem dX8_playByTurns_51 : decode cX8_playByTurns 51 = .ok (.iadd, 1) := by decide +kernel
theorem dX8_playByTurns_52 : decode cX8_playByTurns 52 = .ok (.aload_n 1, 1) := by decide +kernel
theorem dX8_playByTurns_53 : decode cX8_playByTurns 53 = .ok (.getfield 24, 3) := by decide +kernel
theorem dX8_playByTurns_56 : decode cX8_playByTurns 56 = .ok (.if_icmp .gt 44, 3) := by decide +kernel
theorem dX8_playByTurns_59 : decode cX8_playByTurns 59 = .ok (.aload_n 1, 1) := by decide +kernel
theorem dX8_playByTurns_60 : decode cX8_playByTurns 60 = .ok (.iload_n 3, 1) := by decide +kernel
theorem dX8_playByTurns_61 : decode cX8_playByTurns 61 = .ok (.invokevirtual 34, 3) := by decide +kernel
theorem dX8_playByTurns_64 : decode cX8_playByTurns 64 = .ok (.aload_n 1, 1) := by decide +kernel
theorem dX8_playByTurns_65 : decode cX8_playByTurns 65 = .ok (.iload_n 3, 1) := by decide +kernel
theorem dX8_playByTurns_66 : decode cX8_playByTurns 66 = .ok (.iconst 1, 1) := by decide +kernel
theorem dX8_playByTurns_67 : decode cX8_playByTurns 67 = .ok (.iadd, 1) := by decide +kernel
theorem dX8_playByTurns_68 : decode cX8_playByTurns 68 = .ok (.invokevirtual 34, 3) := by decide +kernel
theorem dX8_playByTurns_71 : decode cX8_playByTurns 71 = .ok (.iadd, 1) := by decide +kernel
theorem dX8_playByTurns_72 : decode cX8_playByTurns 72 = .ok (.aload_n 0, 1) := by decide +kernel
theorem dX8_playByTurns_73 : decode cX8_playByTurns 73 = .ok (.getfield 9, 3) := by decide +kernel
theorem dX8_playByTurns_76 : decode cX8_playByTurns 76 = .ok (.iload_n 3, 1) := by decide +kernel
theorem dX8_playByTurns_77 : decode cX8_playByTurns 77 = .ok (.iconst 2, 1) := by decide +kernel
theorem dX8_playByTurns_78 : decode cX8_playByTurns 78 = .ok (.iadd, 1) := by decide +kernel
theorem dX8_playByTurns_79 : decode cX8_playByTurns 79 = .ok (.iaload, 1) := by decide +kernel
theorem dX8_playByTurns_80 : decode cX8_playByTurns 80 = .ok (.isub, 1) := by decide +kernel
theorem dX8_playByTurns_81 : decode cX8_playByTurns 81 = .ok (.istore 5, 2) := by decide +kernel
theorem dX8_playByTurns_83 : decode cX8_playByTurns 83 = .ok (.iload 5, 2) := by decide +kernel
theorem dX8_playByTurns_85 : decode cX8_playByTurns 85 = .ok (.iload 4, 2) := by decide +kernel
theorem dX8_playByTurns_87 : decode cX8_playByTurns 87 = .ok (.if_icmp .le 13, 3) := by decide +kernel
theorem dX8_playByTurns_90 : decode cX8_playByTurns 90 = .ok (.iconst 2, 1) := by decide +kernel
theorem dX8_playByTurns_91 : decode cX8_playByTurns 91 = .ok (.istore_n 2, 1) := by decide +kernel
theorem dX8_playByTurns_92 : decode cX8_playByTurns 92 = .ok (.aload_n 0, 1) := by decide +kernel
theorem dX8_playByTurns_93 : decode cX8_playByTurns 93 = .ok (.getfield 9, 3) := by decide +kernel
theorem dX8_playByTurns_96 : decode cX8_playByTurns 96 = .ok (.iload_n 3, 1) := by decide +kernel
theorem dX8_playByTurns_97 : decode cX8_playByTurns 97 = .ok (.iload 5, 2) := by decide +kernel
theorem dX8_playByTurns_99 : decode cX8_playByTurns 99 = .ok (.iastore, 1) := by decide +kernel
theorem dX8_playByTurns_100 : decode cX8_playByTurns 100 = .ok (.iinc 3 (-1), 3) := by decide +kernel
theorem dX8_playByTurns_103 : decode cX8_playByTurns 103 = .ok (.goto (-84), 3) := by decide +kernel
theorem dX8_playByTurns_106 : decode cX8_playByTurns 106 = .ok (.iload_n 2, 1) := by decide +kernel
theorem dX8_playByTurns_107 : decode cX8_playByTurns 107 = .ok (.ireturn, 1) := by decide +kernel
theorem dX8_shareOut_0 : decode cX8_shareOut 0 = .ok (.aload_n 1, 1) := by decide +kernel
theorem dX8_shareOut_1 : decode cX8_shareOut 1 = .ok (.getfield 56, 3) := by decide +kernel
theorem dX8_shareOut_4 : decode cX8_shareOut 4 = .ok (.iconst 0, 1) := by decide +kernel
theorem dX8_shareOut_5 : decode cX8_shareOut 5 = .ok (.aload_n 0, 1) := by decide +kernel
theorem dX8_shareOut_6 : decode cX8_shareOut 6 = .ok (.getfield 18, 3) := by decide +kernel
theorem dX8_shareOut_9 : decode cX8_shareOut 9 = .ok (.iconst 0, 1) := by decide +kernel
theorem dX8_shareOut_10 : decode cX8_shareOut 10 = .ok (.iconst 5, 1) := by decide +kernel
theorem dX8_shareOut_11 : decode cX8_shareOut 11 = .ok (.invokestatic 59, 3) := by decide +kernel
theorem dX8_shareOut_14 : decode cX8_shareOut 14 = .ok (.iconst (-1), 1) := by decide +kernel
theorem dX8_shareOut_15 : decode cX8_shareOut 15 = .ok (.istore 4, 2) := by decide +kernel
theorem dX8_shareOut_17 : decode cX8_shareOut 17 = .ok (.iconst 0, 1) := by decide +kernel
theorem dX8_shareOut_18 : decode cX8_shareOut 18 = .ok (.istore 5, 2) := by decide +kernel
theorem dX8_shareOut_20 : decode cX8_shareOut 20 = .ok (.iload 5, 2) := by decide +kernel
theorem dX8_shareOut_22 : decode cX8_shareOut 22 = .ok (.aload_n 1, 1) := by decide +kernel
theorem dX8_shareOut_23 : decode cX8_shareOut 23 = .ok (.getfield 24, 3) := by decide +kernel
theorem dX8_shareOut_26 : decode cX8_shareOut 26 = .ok (.if_icmp .ge 48, 3) := by decide +kernel
theorem dX8_shareOut_29 : decode cX8_shareOut 29 = .ok (.aload_n 0, 1) := by decide +kernel
theorem dX8_shareOut_30 : decode cX8_shareOut 30 = .ok (.iload_n 2, 1) := by decide +kernel
theorem dX8_shareOut_31 : decode cX8_shareOut 31 = .ok (.invokevirtual 65, 3) := by decide +kernel
theorem dX8_shareOut_34 : decode cX8_shareOut 34 = .ok (.istore 6, 2) := by decide +kernel
theorem dX8_shareOut_36 : decode cX8_shareOut 36 = .ok (.iload 6, 2) := by decide +kernel
theorem dX8_shareOut_38 : decode cX8_shareOut 38 = .ok (.iconst (-1), 1) := by decide +kernel
theorem dX8_shareOut_39 : decode cX8_shareOut 39 = .ok (.if_icmp .eq 19, 3) := by decide +kernel
theorem dX8_shareOut_42 : decode cX8_shareOut 42 = .ok (.aload_n 0, 1) := by decide +kernel
theorem dX8_shareOut_43 : decode cX8_shareOut 43 = .ok (.getfield 18, 3) := by decide +kernel
theorem dX8_shareOut_46 : decode cX8_shareOut 46 = .ok (.iload 6, 2) := by decide +kernel
theorem dX8_shareOut_48 : decode cX8_shareOut 48 = .ok (.dup2, 1) := by decide +kernel
theorem dX8_shareOut_49 : decode cX8_shareOut 49 = .ok (.iaload, 1) := by decide +kernel
theorem dX8_shareOut_50 : decode cX8_shareOut 50 = .ok (.aload_n 1, 1) := by decide +kernel
theorem dX8_shareOut_51 : decode cX8_shareOut 51 = .ok (.iload 5, 2) := by decide +kernel
theorem dX8_shareOut_53 : decode cX8_shareOut 53 = .ok (.invokevirtual 34, 3) := by decide +kernel
theorem dX8_shareOut_56 : decode cX8_shareOut 56 = .ok (.iadd, 1) := by decide +kernel
theorem dX8_shareOut_57 : decode cX8_shareOut 57 = .ok (.iastore, 1) := by decide +kernel
theorem dX8_shareOut_58 : decode cX8_shareOut 58 = .ok (.iload 5, 2) := by decide +kernel
theorem dX8_shareOut_60 : decode cX8_shareOut 60 = .ok (.iload_n 3, 1) := by decide +kernel
theorem dX8_shareOut_61 : decode cX8_shareOut 61 = .ok (.if_icmp .ne 7, 3) := by decide +kernel
theorem dX8_shareOut_64 : decode cX8_shareOut 64 = .ok (.iload 6, 2) := by decide +kernel
theorem dX8_shareOut_66 : decode cX8_shareOut 66 = .ok (.istore 4, 2) := by decide +kernel
theorem dX8_shareOut_68 : decode cX8_shareOut 68 = .ok (.iinc 5 1, 3) := by decide +kernel
theorem dX8_shareOut_71 : decode cX8_shareOut 71 = .ok (.goto (-51), 3) := by decide +kernel
theorem dX8_shareOut_74 : decode cX8_shareOut 74 = .ok (.iload 4, 2) := by decide +kernel
theorem dX8_shareOut_76 : decode cX8_shareOut 76 = .ok (.ireturn, 1) := by decide +kernel
theorem dX8_poorest_0 : decode cX8_poorest 0 = .ok (.iconst (-1), 1) := by decide +kernel
theorem dX8_poorest_1 : decode cX8_poorest 1 = .ok (.istore_n 2, 1) := by decide +kernel
theorem dX8_poorest_2 : decode cX8_poorest 2 = .ok (.iconst 0, 1) := by decide +kernel
theorem dX8_poorest_3 : decode cX8_poorest 3 = .ok (.istore_n 3, 1) := by decide +kernel
theorem dX8_poorest_4 : decode cX8_poorest 4 = .ok (.iload_n 3, 1) := by decide +kernel
theorem dX8_poorest_5 : decode cX8_poorest 5 = .ok (.iload_n 1, 1) := by decide +kernel
theorem dX8_poorest_6 : decode cX8_poorest 6 = .ok (.if_icmp .ge 36, 3) := by decide +kernel
theorem dX8_poorest_9 : decode cX8_poorest 9 = .ok (.iload_n 3, 1) := by decide +kernel
theorem dX8_poorest_10 : decode cX8_poorest 10 = .ok (.iconst 5, 1) := by decide +kernel
theorem dX8_poorest_11 : decode cX8_poorest 11 = .ok (.if_icmp .ge 31, 3) := by decide +kernel
theorem dX8_poorest_14 : decode cX8_poorest 14 = .ok (.iload_n 2, 1) := by decide +kernel
theorem dX8_poorest_15 : decode cX8_poorest 15 = .ok (.iconst (-1), 1) := by decide +kernel
theorem dX8_poorest_16 : decode cX8_poorest 16 = .ok (.if_icmp .eq 18, 3) := by decide +kernel
theorem dX8_poorest_19 : decode cX8_poorest 19 = .ok (.aload_n 0, 1) := by decide +kernel
theorem dX8_poorest_20 : decode cX8_poorest 20 = .ok (.getfield 18, 3) := by decide +kernel
theorem dX8_poorest_23 : decode cX8_poorest 23 = .ok (.iload_n 3, 1) := by decide +kernel
theorem dX8_poorest_24 : decode cX8_poorest 24 = .ok (.iaload, 1) := by decide +kernel
theorem dX8_poorest_25 : decode cX8_poorest 25 = .ok (.aload_n 0, 1) := by decide +kernel
theorem dX8_poorest_26 : decode cX8_poorest 26 = .ok (.getfield 18, 3) := by decide +kernel
theorem dX8_poorest_29 : decode cX8_poorest 29 = .ok (.iload_n 2, 1) := by decide +kernel
theorem dX8_poorest_30 : decode cX8_poorest 30 = .ok (.iaload, 1) := by decide +kernel
theorem dX8_poorest_31 : decode cX8_poorest 31 = .ok (.if_icmp .ge 5, 3) := by decide +kernel
theorem dX8_poorest_34 : decode cX8_poorest 34 = .ok (.iload_n 3, 1) := by decide +kernel
theorem dX8_poorest_35 : decode cX8_poorest 35 = .ok (.istore_n 2, 1) := by decide +kernel
theorem dX8_poorest_36 : decode cX8_poorest 36 = .ok (.iinc 3 1, 3) := by decide +kernel
theorem dX8_poorest_39 : decode cX8_poorest 39 = .ok (.goto (-35), 3) := by decide +kernel
theorem dX8_poorest_42 : decode cX8_poorest 42 = .ok (.iload_n 2, 1) := by decide +kernel
theorem dX8_poorest_43 : decode cX8_poorest 43 = .ok (.ireturn, 1) := by decide +kernel
theorem dX8_bestQuestion_0 : decode cX8_bestQuestion 0 = .ok (.iconst (-1), 1) := by decide +kernel
theorem dX8_bestQuestion_1 : decode cX8_bestQuestion 1 = .ok (.istore_n 3, 1) := by decide +kernel
theorem dX8_bestQuestion_2 : decode cX8_bestQuestion 2 = .ok (.iload_n 2, 1) := by decide +kernel
theorem dX8_bestQuestion_3 : decode cX8_bestQuestion 3 = .ok (.invokestatic 68, 3) := by decide +kernel
theorem dX8_bestQuestion_6 : decode cX8_bestQuestion 6 = .ok (.istore 4, 2) := by decide +kernel
theorem dX8_bestQuestion_8 : decode cX8_bestQuestion 8 = .ok (.iconst 0, 1) := by decide +kernel
theorem dX8_bestQuestion_9 : decode cX8_bestQuestion 9 = .ok (.istore 5, 2) := by decide +kernel
theorem dX8_bestQuestion_11 : decode cX8_bestQuestion 11 = .ok (.iload 5, 2) := by decide +kernel
theorem dX8_bestQuestion_13 : decode cX8_bestQuestion 13 = .ok (.bipush 8, 2) := by decide +kernel
theorem dX8_bestQuestion_15 : decode cX8_bestQuestion 15 = .ok (.if_icmp .ge 33, 3) := by decide +kernel
theorem dX8_bestQuestion_18 : decode cX8_bestQuestion 18 = .ok (.aload_n 0, 1) := by decide +kernel
theorem dX8_bestQuestion_19 : decode cX8_bestQuestion 19 = .ok (.aload_n 1, 1) := by decide +kernel
theorem dX8_bestQuestion_20 : decode cX8_bestQuestion 20 = .ok (.iload_n 2, 1) := by decide +kernel
theorem dX8_bestQuestion_21 : decode cX8_bestQuestion 21 = .ok (.iload 5, 2) := by decide +kernel
theorem dX8_bestQuestion_23 : decode cX8_bestQuestion 23 = .ok (.invokevirtual 73, 3) := by decide +kernel
theorem dX8_bestQuestion_26 : decode cX8_bestQuestion 26 = .ok (.istore 6, 2) := by decide +kernel
theorem dX8_bestQuestion_28 : decode cX8_bestQuestion 28 = .ok (.iload 6, 2) := by decide +kernel
theorem dX8_bestQuestion_30 : decode cX8_bestQuestion 30 = .ok (.iload 4, 2) := by decide +kernel
theorem dX8_bestQuestion_32 : decode cX8_bestQuestion 32 = .ok (.if_icmp .ge 10, 3) := by decide +kernel
theorem dX8_bestQuestion_35 : decode cX8_bestQuestion 35 = .ok (.iload 6, 2) := by decide +kernel
theorem dX8_bestQuestion_37 : decode cX8_bestQuestion 37 = .ok (.istore 4, 2) := by decide +kernel
theorem dX8_bestQuestion_39 : decode cX8_bestQuestion 39 = .ok (.iload 5, 2) := by decide +kernel
theorem dX8_bestQuestion_41 : decode cX8_bestQuestion 41 = .ok (.istore_n 3, 1) := by decide +kernel
theorem dX8_bestQuestion_42 : decode cX8_bestQuestion 42 = .ok (.iinc 5 1, 3) := by decide +kernel
theorem dX8_bestQuestion_45 : decode cX8_bestQuestion 45 = .ok (.goto (-34), 3) := by decide +kernel
theorem dX8_bestQuestion_48 : decode cX8_bestQuestion 48 = .ok (.iload_n 3, 1) := by decide +kernel
theorem dX8_bestQuestion_49 : decode cX8_bestQuestion 49 = .ok (.ireturn, 1) := by decide +kernel
theorem dX8_greatestAlike_0 : decode cX8_greatestAlike 0 = .ok (.iconst 0, 1) := by decide +kernel
theorem dX8_greatestAlike_1 : decode cX8_greatestAlike 1 = .ok (.istore 4, 2) := by decide +kernel
theorem dX8_greatestAlike_3 : decode cX8_greatestAlike 3 = .ok (.iload 4, 2) := by decide +kernel
theorem dX8_greatestAlike_5 : decode cX8_greatestAlike 5 = .ok (.iconst 5, 1) := by decide +kernel
theorem dX8_greatestAlike_6 : decode cX8_greatestAlike 6 = .ok (.if_icmp .gt 17, 3) := by decide +kernel
theorem dX8_greatestAlike_9 : decode cX8_greatestAlike 9 = .ok (.aload_n 0, 1) := by decide +kernel
theorem dX8_greatestAlike_10 : decode cX8_greatestAlike 10 = .ok (.getfield 21, 3) := by decide +kernel
theorem dX8_greatestAlike_13 : decode cX8_greatestAlike 13 = .ok (.iload 4, 2) := by decide +kernel
theorem dX8_greatestAlike_15 : decode cX8_greatestAlike 15 = .ok (.iconst 0, 1) := by decide +kernel
theorem dX8_greatestAlike_16 : decode cX8_greatestAlike 16 = .ok (.iastore, 1) := by decide +kernel
theorem dX8_greatestAlike_17 : decode cX8_greatestAlike 17 = .ok (.iinc 4 1, 3) := by decide +kernel
theorem dX8_greatestAlike_20 : decode cX8_greatestAlike 20 = .ok (.goto (-17), 3) := by decide +kernel
theorem dX8_greatestAlike_23 : decode cX8_greatestAlike 23 = .ok (.iconst 0, 1) := by decide +kernel
theorem dX8_greatestAlike_24 : decode cX8_greatestAlike 24 = .ok (.istore 4, 2) := by decide +kernel
theorem dX8_greatestAlike_26 : decode cX8_greatestAlike 26 = .ok (.iconst 0, 1) := by decide +kernel
theorem dX8_greatestAlike_27 : decode cX8_greatestAlike 27 = .ok (.istore 5, 2) := by decide +kernel
theorem dX8_greatestAlike_29 : decode cX8_greatestAlike 29 = .ok (.iload 5, 2) := by decide +kernel
theorem dX8_greatestAlike_31 : decode cX8_greatestAlike 31 = .ok (.aload_n 1, 1) := by decide +kernel
theorem dX8_greatestAlike_32 : decode cX8_greatestAlike 32 = .ok (.getfield 77, 3) := by decide +kernel
theorem dX8_greatestAlike_35 : decode cX8_greatestAlike 35 = .ok (.if_icmp .ge 71, 3) := by decide +kernel
theorem dX8_greatestAlike_38 : decode cX8_greatestAlike 38 = .ok (.iload_n 2, 1) := by decide +kernel
theorem dX8_greatestAlike_39 : decode cX8_greatestAlike 39 = .ok (.iconst 1, 1) := by decide +kernel
theorem dX8_greatestAlike_40 : decode cX8_greatestAlike 40 = .ok (.iload 5, 2) := by decide +kernel
theorem dX8_greatestAlike_42 : decode cX8_greatestAlike 42 = .ok (.ishl, 1) := by decide +kernel
theorem dX8_greatestAlike_43 : decode cX8_greatestAlike 43 = .ok (.iand, 1) := by decide +kernel
theorem dX8_greatestAlike_44 : decode cX8_greatestAlike 44 = .ok (.ifCond .eq 56, 3) := by decide +kernel
theorem dX8_greatestAlike_47 : decode cX8_greatestAlike 47 = .ok (.aload_n 1, 1) := by decide +kernel
theorem dX8_greatestAlike_48 : decode cX8_greatestAlike 48 = .ok (.iload 5, 2) := by decide +kernel
theorem dX8_greatestAlike_50 : decode cX8_greatestAlike 50 = .ok (.iload_n 3, 1) := by decide +kernel
theorem dX8_greatestAlike_51 : decode cX8_greatestAlike 51 = .ok (.invokevirtual 82, 3) := by decide +kernel
theorem dX8_greatestAlike_54 : decode cX8_greatestAlike 54 = .ok (.istore 6, 2) := by decide +kernel
theorem dX8_greatestAlike_56 : decode cX8_greatestAlike 56 = .ok (.iload 6, 2) := by decide +kernel
theorem dX8_greatestAlike_58 : decode cX8_greatestAlike 58 = .ok (.ifCond .lt 14, 3) := by decide +kernel
theorem dX8_greatestAlike_61 : decode cX8_greatestAlike 61 = .ok (.iload 6, 2) := by decide +kernel
theorem dX8_greatestAlike_63 : decode cX8_greatestAlike 63 = .ok (.iconst 5, 1) := by decide +kernel
theorem dX8_greatestAlike_64 : decode cX8_greatestAlike 64 = .ok (.if_icmp .ge 8, 3) := by decide +kernel
theorem dX8_greatestAlike_67 : decode cX8_greatestAlike 67 = .ok (.iload 6, 2) := by decide +kernel
theorem dX8_greatestAlike_69 : decode cX8_greatestAlike 69 = .ok (.goto 4, 3) := by decide +kernel
theorem dX8_greatestAlike_72 : decode cX8_greatestAlike 72 = .ok (.iconst 5, 1) := by decide +kernel
theorem dX8_greatestAlike_73 : decode cX8_greatestAlike 73 = .ok (.istore 7, 2) := by decide +kernel
theorem dX8_greatestAlike_75 : decode cX8_greatestAlike 75 = .ok (.aload_n 0, 1) := by decide +kernel
theorem dX8_greatestAlike_76 : decode cX8_greatestAlike 76 = .ok (.getfield 21, 3) := by decide +kernel
theorem dX8_greatestAlike_79 : decode cX8_greatestAlike 79 = .ok (.iload 7, 2) := by decide +kernel
theorem dX8_greatestAlike_81 : decode cX8_greatestAlike 81 = .ok (.dup2, 1) := by decide +kernel
theorem dX8_greatestAlike_82 : decode cX8_greatestAlike 82 = .ok (.iaload, 1) := by decide +kernel
theorem dX8_greatestAlike_83 : decode cX8_greatestAlike 83 = .ok (.iconst 1, 1) := by decide +kernel
theorem dX8_greatestAlike_84 : decode cX8_greatestAlike 84 = .ok (.iadd, 1) := by decide +kernel
theorem dX8_greatestAlike_85 : decode cX8_greatestAlike 85 = .ok (.iastore, 1) := by decide +kernel
theorem dX8_greatestAlike_86 : decode cX8_greatestAlike 86 = .ok (.iload 4, 2) := by decide +kernel
theorem dX8_greatestAlike_88 : decode cX8_greatestAlike 88 = .ok (.aload_n 0, 1) := by decide +kernel
theorem dX8_greatestAlike_89 : decode cX8_greatestAlike 89 = .ok (.getfield 21, 3) := by decide +kernel
theorem dX8_greatestAlike_92 : decode cX8_greatestAlike 92 = .ok (.iload 7, 2) := by decide +kernel
theorem dX8_greatestAlike_94 : decode cX8_greatestAlike 94 = .ok (.iaload, 1) := by decide +kernel
theorem dX8_greatestAlike_95 : decode cX8_greatestAlike 95 = .ok (.invokestatic 51, 3) := by decide +kernel
theorem dX8_greatestAlike_98 : decode cX8_greatestAlike 98 = .ok (.istore 4, 2) := by decide +kernel
theorem dX8_greatestAlike_100 : decode cX8_greatestAlike 100 = .ok (.iinc 5 1, 3) := by decide +kernel
theorem dX8_greatestAlike_103 : decode cX8_greatestAlike 103 = .ok (.goto (-74), 3) := by decide +kernel
theorem dX8_greatestAlike_106 : decode cX8_greatestAlike 106 = .ok (.iload 4, 2) := by decide +kernel
theorem dX8_greatestAlike_108 : decode cX8_greatestAlike 108 = .ok (.ireturn, 1) := by decide +kernel
theorem dJ6_bitCount_0f7a4_0 : decode cJ6_bitCount_0f7a4 0 = .ok (.iload_n 0, 1) := by decide +kernel
theorem dJ6_bitCount_0f7a4_1 : decode cJ6_bitCount_0f7a4 1 = .ok (.iload_n 0, 1) := by decide +kernel
theorem dJ6_bitCount_0f7a4_2 : decode cJ6_bitCount_0f7a4 2 = .ok (.iconst 1, 1) := by decide +kernel
theorem dJ6_bitCount_0f7a4_3 : decode cJ6_bitCount_0f7a4 3 = .ok (.iushr, 1) := by decide +kernel
theorem dJ6_bitCount_0f7a4_4 : decode cJ6_bitCount_0f7a4 4 = .ok (.ldc_w 265, 3) := by decide +kernel
theorem dJ6_bitCount_0f7a4_7 : decode cJ6_bitCount_0f7a4 7 = .ok (.iand, 1) := by decide +kernel
theorem dJ6_bitCount_0f7a4_8 : decode cJ6_bitCount_0f7a4 8 = .ok (.isub, 1) := by decide +kernel
theorem dJ6_bitCount_0f7a4_9 : decode cJ6_bitCount_0f7a4 9 = .ok (.istore_n 0, 1) := by decide +kernel
theorem dJ6_bitCount_0f7a4_10 : decode cJ6_bitCount_0f7a4 10 = .ok (.iload_n 0, 1) := by decide +kernel
theorem dJ6_bitCount_0f7a4_11 : decode cJ6_bitCount_0f7a4 11 = .ok (.ldc_w 266, 3) := by decide +kernel
theorem dJ6_bitCount_0f7a4_14 : decode cJ6_bitCount_0f7a4 14 = .ok (.iand, 1) := by decide +kernel
theorem dJ6_bitCount_0f7a4_15 : decode cJ6_bitCount_0f7a4 15 = .ok (.iload_n 0, 1) := by decide +kernel
theorem dJ6_bitCount_0f7a4_16 : decode cJ6_bitCount_0f7a4 16 = .ok (.iconst 2, 1) := by decide +kernel
theorem dJ6_bitCount_0f7a4_17 : decode cJ6_bitCount_0f7a4 17 = .ok (.iushr, 1) := by decide +kernel
theorem dJ6_bitCount_0f7a4_18 : decode cJ6_bitCount_0f7a4 18 = .ok (.ldc_w 266, 3) := by decide +kernel
theorem dJ6_bitCount_0f7a4_21 : decode cJ6_bitCount_0f7a4 21 = .ok (.iand, 1) := by decide +kernel
theorem dJ6_bitCount_0f7a4_22 : decode cJ6_bitCount_0f7a4 22 = .ok (.iadd, 1) := by decide +kernel
theorem dJ6_bitCount_0f7a4_23 : decode cJ6_bitCount_0f7a4 23 = .ok (.istore_n 0, 1) := by decide +kernel
theorem dJ6_bitCount_0f7a4_24 : decode cJ6_bitCount_0f7a4 24 = .ok (.iload_n 0, 1) := by decide +kernel
theorem dJ6_bitCount_0f7a4_25 : decode cJ6_bitCount_0f7a4 25 = .ok (.iload_n 0, 1) := by decide +kernel
theorem dJ6_bitCount_0f7a4_26 : decode cJ6_bitCount_0f7a4 26 = .ok (.iconst 4, 1) := by decide +kernel
theorem dJ6_bitCount_0f7a4_27 : decode cJ6_bitCount_0f7a4 27 = .ok (.iushr, 1) := by decide +kernel
theorem dJ6_bitCount_0f7a4_28 : decode cJ6_bitCount_0f7a4 28 = .ok (.iadd, 1) := by decide +kernel
theorem dJ6_bitCount_0f7a4_29 : decode cJ6_bitCount_0f7a4 29 = .ok (.ldc_w 267, 3) := by decide +kernel
theorem dJ6_bitCount_0f7a4_32 : decode cJ6_bitCount_0f7a4 32 = .ok (.iand, 1) := by decide +kernel
theorem dJ6_bitCount_0f7a4_33 : decode cJ6_bitCount_0f7a4 33 = .ok (.istore_n 0, 1) := by decide +kernel
theorem dJ6_bitCount_0f7a4_34 : decode cJ6_bitCount_0f7a4 34 = .ok (.iload_n 0, 1) := by decide +kernel
theorem dJ6_bitCount_0f7a4_35 : decode cJ6_bitCount_0f7a4 35 = .ok (.iload_n 0, 1) := by decide +kernel
theorem dJ6_bitCount_0f7a4_36 : decode cJ6_bitCount_0f7a4 36 = .ok (.bipush 8, 2) := by decide +kernel
theorem dJ6_bitCount_0f7a4_38 : decode cJ6_bitCount_0f7a4 38 = .ok (.iushr, 1) := by decide +kernel
theorem dJ6_bitCount_0f7a4_39 : decode cJ6_bitCount_0f7a4 39 = .ok (.iadd, 1) := by decide +kernel
theorem dJ6_bitCount_0f7a4_40 : decode cJ6_bitCount_0f7a4 40 = .ok (.istore_n 0, 1) := by decide +kernel
theorem dJ6_bitCount_0f7a4_41 : decode cJ6_bitCount_0f7a4 41 = .ok (.iload_n 0, 1) := by decide +kernel
theorem dJ6_bitCount_0f7a4_42 : decode cJ6_bitCount_0f7a4 42 = .ok (.iload_n 0, 1) := by decide +kernel
theorem dJ6_bitCount_0f7a4_43 : decode cJ6_bitCount_0f7a4 43 = .ok (.bipush 16, 2) := by decide +kernel
theorem dJ6_bitCount_0f7a4_45 : decode cJ6_bitCount_0f7a4 45 = .ok (.iushr, 1) := by decide +kernel
theorem dJ6_bitCount_0f7a4_46 : decode cJ6_bitCount_0f7a4 46 = .ok (.iadd, 1) := by decide +kernel
theorem dJ6_bitCount_0f7a4_47 : decode cJ6_bitCount_0f7a4 47 = .ok (.istore_n 0, 1) := by decide +kernel
theorem dJ6_bitCount_0f7a4_48 : decode cJ6_bitCount_0f7a4 48 = .ok (.iload_n 0, 1) := by decide +kernel
theorem dJ6_bitCount_0f7a4_49 : decode cJ6_bitCount_0f7a4 49 = .ok (.bipush 63, 2) := by decide +kernel
theorem dJ6_bitCount_0f7a4_51 : decode cJ6_bitCount_0f7a4 51 = .ok (.iand, 1) := by decide +kernel
theorem dJ6_bitCount_0f7a4_52 : decode cJ6_bitCount_0f7a4 52 = .ok (.ireturn, 1) := by decide +kernel
theorem dJ9_max_7cf53_0 : decode cJ9_max_7cf53 0 = .ok (.iload_n 0, 1) := by decide +kernel
theorem dJ9_max_7cf53_1 : decode cJ9_max_7cf53 1 = .ok (.iload_n 1, 1) := by decide +kernel
theorem dJ9_max_7cf53_2 : decode cJ9_max_7cf53 2 = .ok (.if_icmp .lt 7, 3) := by decide +kernel
theorem dJ9_max_7cf53_5 : decode cJ9_max_7cf53 5 = .ok (.iload_n 0, 1) := by decide +kernel
theorem dJ9_max_7cf53_6 : decode cJ9_max_7cf53 6 = .ok (.goto 4, 3) := by decide +kernel
theorem dJ9_max_7cf53_9 : decode cJ9_max_7cf53 9 = .ok (.iload_n 1, 1) := by decide +kernel
theorem dJ9_max_7cf53_10 : decode cJ9_max_7cf53 10 = .ok (.ireturn, 1) := by decide +kernel
theorem dJ9_min_7cf53_0 : decode cJ9_min_7cf53 0 = .ok (.iload_n 0, 1) := by decide +kernel
theorem dJ9_min_7cf53_1 : decode cJ9_min_7cf53 1 = .ok (.iload_n 1, 1) := by decide +kernel
theorem dJ9_min_7cf53_2 : decode cJ9_min_7cf53 2 = .ok (.if_icmp .gt 7, 3) := by decide +kernel
theorem dJ9_min_7cf53_5 : decode cJ9_min_7cf53 5 = .ok (.iload_n 0, 1) := by decide +kernel
theorem dJ9_min_7cf53_6 : decode cJ9_min_7cf53 6 = .ok (.goto 4, 3) := by decide +kernel
theorem dJ9_min_7cf53_9 : decode cJ9_min_7cf53 9 = .ok (.iload_n 1, 1) := by decide +kernel
theorem dJ9_min_7cf53_10 : decode cJ9_min_7cf53 10 = .ok (.ireturn, 1) := by decide +kernel
