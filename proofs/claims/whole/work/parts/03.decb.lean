theorem dX6_init_0 : decode cX6_init 0 = .ok (.aload_n 0, 1) := by decide +kernel
theorem dX6_init_1 : decode cX6_init 1 = .ok (.invokespecial 3, 3) := by decide +kernel
theorem dX6_init_4 : decode cX6_init 4 = .ok (.aload_n 0, 1) := by decide +kernel
theorem dX6_init_5 : decode cX6_init 5 = .ok (.iconst 0, 1) := by decide +kernel
theorem dX6_init_6 : decode cX6_init 6 = .ok (.putfield 9, 3) := by decide +kernel
theorem dX6_init_9 : decode cX6_init 9 = .ok (.aload_n 0, 1) := by decide +kernel
theorem dX6_init_10 : decode cX6_init 10 = .ok (.bipush 12, 2) := by decide +kernel
theorem dX6_init_12 : decode cX6_init 12 = .ok (.newarray .int, 2) := by decide +kernel
theorem dX6_init_14 : decode cX6_init 14 = .ok (.putfield 15, 3) := by decide +kernel
theorem dX6_init_17 : decode cX6_init 17 = .ok (.aload_n 0, 1) := by decide +kernel
theorem dX6_init_18 : decode cX6_init 18 = .ok (.bipush 12, 2) := by decide +kernel
theorem dX6_init_20 : decode cX6_init 20 = .ok (.newarray .int, 2) := by decide +kernel
theorem dX6_init_22 : decode cX6_init 22 = .ok (.putfield 19, 3) := by decide +kernel
theorem dX6_init_25 : decode cX6_init 25 = .ok (.aload_n 0, 1) := by decide +kernel
theorem dX6_init_26 : decode cX6_init 26 = .ok (.iconst 5, 1) := by decide +kernel
theorem dX6_init_27 : decode cX6_init 27 = .ok (.newarray .int, 2) := by decide +kernel
theorem dX6_init_29 : decode cX6_init 29 = .ok (.putfield 22, 3) := by decide +kernel
theorem dX6_init_32 : decode cX6_init 32 = .ok (.aload_n 0, 1) := by decide +kernel
theorem dX6_init_33 : decode cX6_init 33 = .ok (.iconst 5, 1) := by decide +kernel
theorem dX6_init_34 : decode cX6_init 34 = .ok (.newarray .int, 2) := by decide +kernel
theorem dX6_init_36 : decode cX6_init 36 = .ok (.putfield 25, 3) := by decide +kernel
theorem dX6_init_39 : decode cX6_init 39 = .ok (.aload_n 0, 1) := by decide +kernel
theorem dX6_init_40 : decode cX6_init 40 = .ok (.iconst 5, 1) := by decide +kernel
theorem dX6_init_41 : decode cX6_init 41 = .ok (.newarray .int, 2) := by decide +kernel
theorem dX6_init_43 : decode cX6_init 43 = .ok (.putfield 28, 3) := by decide +kernel
theorem dX6_init_46 : decode cX6_init 46 = .ok (.aload_n 0, 1) := by decide +kernel
theorem dX6_init_47 : decode cX6_init 47 = .ok (.bipush 80, 2) := by decide +kernel
theorem dX6_init_49 : decode cX6_init 49 = .ok (.newarray .int, 2) := by decide +kernel
theorem dX6_init_51 : decode cX6_init 51 = .ok (.putfield 31, 3) := by decide +kernel
theorem dX6_init_54 : decode cX6_init 54 = .ok (.aload_n 0, 1) := by decide +kernel
theorem dX6_init_55 : decode cX6_init 55 = .ok (.iconst 0, 1) := by decide +kernel
theorem dX6_init_56 : decode cX6_init 56 = .ok (.putfield 34, 3) := by decide +kernel
theorem dX6_init_59 : decode cX6_init 59 = .ok (.aload_n 0, 1) := by decide +kernel
theorem dX6_init_60 : decode cX6_init 60 = .ok (.iconst 0, 1) := by decide +kernel
theorem dX6_init_61 : decode cX6_init 61 = .ok (.putfield 37, 3) := by decide +kernel
theorem dX6_init_64 : decode cX6_init 64 = .ok (.aload_n 0, 1) := by decide +kernel
theorem dX6_init_65 : decode cX6_init 65 = .ok (.iconst 0, 1) := by decide +kernel
theorem dX6_init_66 : decode cX6_init 66 = .ok (.putfield 40, 3) := by decide +kernel
theorem dX6_init_69 : decode cX6_init 69 = .ok (.aload_n 0, 1) := by decide +kernel
theorem dX6_init_70 : decode cX6_init 70 = .ok (.iconst 0, 1) := by decide +kernel
theorem dX6_init_71 : decode cX6_init 71 = .ok (.putfield 44, 3) := by decide +kernel
theorem dX6_init_74 : decode cX6_init 74 = .ok (.aload_n 0, 1) := by decide +kernel
theorem dX6_init_75 : decode cX6_init 75 = .ok (.iconst (-1), 1) := by decide +kernel
theorem dX6_init_76 : decode cX6_init 76 = .ok (.putfield 47, 3) := by decide +kernel
theorem dX6_init_79 : decode cX6_init 79 = .ok (.return_, 1) := by decide +kernel
theorem dX6_begin_0 : decode cX6_begin 0 = .ok (.aload_n 0, 1) := by decide +kernel
theorem dX6_begin_1 : decode cX6_begin 1 = .ok (.aload_n 1, 1) := by decide +kernel
theorem dX6_begin_2 : decode cX6_begin 2 = .ok (.getfield 50, 3) := by decide +kernel
theorem dX6_begin_5 : decode cX6_begin 5 = .ok (.putfield 9, 3) := by decide +kernel
theorem dX6_begin_8 : decode cX6_begin 8 = .ok (.aload_n 1, 1) := by decide +kernel
theorem dX6_begin_9 : decode cX6_begin 9 = .ok (.getfield 53, 3) := by decide +kernel
theorem dX6_begin_12 : decode cX6_begin 12 = .ok (.iconst 0, 1) := by decide +kernel
theorem dX6_begin_13 : decode cX6_begin 13 = .ok (.aload_n 0, 1) := by decide +kernel
theorem dX6_begin_14 : decode cX6_begin 14 = .ok (.getfield 15, 3) := by decide +kernel
theorem dX6_begin_17 : decode cX6_begin 17 = .ok (.iconst 0, 1) := by decide +kernel
theorem dX6_begin_18 : decode cX6_begin 18 = .ok (.bipush 12, 2) := by decide +kernel
theorem dX6_begin_20 : decode cX6_begin 20 = .ok (.invokestatic 54, 3) := by decide +kernel
theorem dX6_begin_23 : decode cX6_begin 23 = .ok (.aload_n 1, 1) := by decide +kernel
theorem dX6_begin_24 : decode cX6_begin 24 = .ok (.getfield 60, 3) := by decide +kernel
theorem dX6_begin_27 : decode cX6_begin 27 = .ok (.iconst 0, 1) := by decide +kernel
theorem dX6_begin_28 : decode cX6_begin 28 = .ok (.aload_n 0, 1) := by decide +kernel
theorem dX6_begin_29 : decode cX6_begin 29 = .ok (.getfield 19, 3) := by decide +kernel
theorem dX6_begin_32 : decode cX6_begin 32 = .ok (.iconst 0, 1) := by decide +kernel
theorem dX6_begin_33 : decode cX6_begin 33 = .ok (.bipush 12, 2) := by decide +kernel
theorem dX6_begin_35 : decode cX6_begin 35 = .ok (.invokestatic 54, 3) := by decide +kernel
theorem dX6_begin_38 : decode cX6_begin 38 = .ok (.iconst 0, 1) := by decide +kernel
theorem dX6_begin_39 : decode cX6_begin 39 = .ok (.istore_n 2, 1) := by decide +kernel
theorem dX6_begin_40 : decode cX6_begin 40 = .ok (.iload_n 2, 1) := by decide +kernel
theorem dX6_begin_41 : decode cX6_begin 41 = .ok (.iconst 5, 1) := by decide +kernel
theorem dX6_begin_42 : decode cX6_begin 42 = .ok (.if_icmp .ge 30, 3) := by decide +kernel
theorem dX6_begin_45 : decode cX6_begin 45 = .ok (.aload_n 0, 1) := by decide +kernel
theorem dX6_begin_46 : decode cX6_begin 46 = .ok (.getfield 22, 3) := by decide +kernel
theorem dX6_begin_49 : decode cX6_begin 49 = .ok (.iload_n 2, 1) := by decide +kernel
theorem dX6_begin_50 : decode cX6_begin 50 = .ok (.iconst 0, 1) := by decide +kernel
theorem dX6_begin_51 : decode cX6_begin 51 = .ok (.iastore, 1) := by decide +kernel
theorem dX6_begin_52 : decode cX6_begin 52 = .ok (.aload_n 0, 1) := by decide +kernel
theorem dX6_begin_53 : decode cX6_begin 53 = .ok (.getfield 25, 3) := by decide +kernel
theorem dX6_begin_56 : decode cX6_begin 56 = .ok (.iload_n 2, 1) := by decide +kernel
theorem dX6_begin_57 : decode cX6_begin 57 = .ok (.iconst 0, 1) := by decide +kernel
theorem dX6_begin_58 : decode cX6_begin 58 = .ok (.iastore, 1) := by decide +kernel
theorem dX6_begin_59 : decode cX6_begin 59 = .ok (.aload_n 0, 1) := by decide +kernel
theorem dX6_begin_60 : decode cX6_begin 60 = .ok (.getfield 28, 3) := by decide +kernel
theorem dX6_begin_63 : decode cX6_begin 63 = .ok (.iload_n 2, 1) := by decide +kernel
theorem dX6_begin_64 : decode cX6_begin 64 = .ok (.iconst 0, 1) := by decide +kernel
theorem dX6_begin_65 : decode cX6_begin 65 = .ok (.iastore, 1) := by decide +kernel
theorem dX6_begin_66 : decode cX6_begin 66 = .ok (.iinc 2 1, 3) := by decide +kernel
theorem dX6_begin_69 : decode cX6_begin 69 = .ok (.goto (-29), 3) := by decide +kernel
theorem dX6_begin_72 : decode cX6_begin 72 = .ok (.aload_n 0, 1) := by decide +kernel
theorem dX6_begin_73 : decode cX6_begin 73 = .ok (.iconst 0, 1) := by decide +kernel
theorem dX6_begin_74 : decode cX6_begin 74 = .ok (.putfield 34, 3) := by decide +kernel
theorem dX6_begin_77 : decode cX6_begin 77 = .ok (.aload_n 0, 1) := by decide +kernel
theorem dX6_begin_78 : decode cX6_begin 78 = .ok (.iconst 0, 1) := by decide +kernel
theorem dX6_begin_79 : decode cX6_begin 79 = .ok (.putfield 37, 3) := by decide +kernel
theorem dX6_begin_82 : decode cX6_begin 82 = .ok (.aload_n 0, 1) := by decide +kernel
theorem dX6_begin_83 : decode cX6_begin 83 = .ok (.iconst 0, 1) := by decide +kernel
theorem dX6_begin_84 : decode cX6_begin 84 = .ok (.putfield 40, 3) := by decide +kernel
theorem dX6_begin_87 : decode cX6_begin 87 = .ok (.aload_n 0, 1) := by decide +kernel
theorem dX6_begin_88 : decode cX6_begin 88 = .ok (.aload_n 1, 1) := by decide +kernel
theorem dX6_begin_89 : decode cX6_begin 89 = .ok (.getfield 61, 3) := by decide +kernel
theorem dX6_begin_92 : decode cX6_begin 92 = .ok (.ifCond .eq 14, 3) := by decide +kernel
theorem dX6_begin_95 : decode cX6_begin 95 = .ok (.aload_n 0, 1) := by decide +kernel
theorem dX6_begin_96 : decode cX6_begin 96 = .ok (.getfield 9, 3) := by decide +kernel
theorem dX6_begin_99 : decode cX6_begin 99 = .ok (.ifCond .ne 7, 3) := by decide +kernel
theorem dX6_begin_102 : decode cX6_begin 102 = .ok (.iconst 1, 1) := by decide +kernel
theorem dX6_begin_103 : decode cX6_begin 103 = .ok (.goto 4, 3) := by decide +kernel
theorem dX6_begin_106 : decode cX6_begin 106 = .ok (.iconst 0, 1) := by decide +kernel
theorem dX6_begin_107 : decode cX6_begin 107 = .ok (.putfield 44, 3) := by decide +kernel
theorem dX6_begin_110 : decode cX6_begin 110 = .ok (.aload_n 0, 1) := by decide +kernel
theorem dX6_begin_111 : decode cX6_begin 111 = .ok (.iconst (-1), 1) := by decide +kernel
theorem dX6_begin_112 : decode cX6_begin 112 = .ok (.putfield 47, 3) := by decide +kernel
theorem dX6_begin_115 : decode cX6_begin 115 = .ok (.return_, 1) := by decide +kernel
theorem dX6_copy_0 : decode cX6_copy 0 = .ok (.aload_n 0, 1) := by decide +kernel
theorem dX6_copy_1 : decode cX6_copy 1 = .ok (.aload_n 1, 1) := by decide +kernel
theorem dX6_copy_2 : decode cX6_copy 2 = .ok (.getfield 9, 3) := by decide +kernel
theorem dX6_copy_5 : decode cX6_copy 5 = .ok (.putfield 9, 3) := by decide +kernel
theorem dX6_copy_8 : decode cX6_copy 8 = .ok (.aload_n 1, 1) := by decide +kernel
theorem dX6_copy_9 : decode cX6_copy 9 = .ok (.getfield 15, 3) := by decide +kernel
theorem dX6_copy_12 : decode cX6_copy 12 = .ok (.iconst 0, 1) := by decide +kernel
theorem dX6_copy_13 : decode cX6_copy 13 = .ok (.aload_n 0, 1) := by decide +kernel
theorem dX6_copy_14 : decode cX6_copy 14 = .ok (.getfield 15, 3) := by decide +kernel
theorem dX6_copy_17 : decode cX6_copy 17 = .ok (.iconst 0, 1) := by decide +kernel
theorem dX6_copy_18 : decode cX6_copy 18 = .ok (.bipush 12, 2) := by decide +kernel
theorem dX6_copy_20 : decode cX6_copy 20 = .ok (.invokestatic 54, 3) := by decide +kernel
theorem dX6_copy_23 : decode cX6_copy 23 = .ok (.aload_n 1, 1) := by decide +kernel
theorem dX6_copy_24 : decode cX6_copy 24 = .ok (.getfield 19, 3) := by decide +kernel
theorem dX6_copy_27 : decode cX6_copy 27 = .ok (.iconst 0, 1) := by decide +kernel
theorem dX6_copy_28 : decode cX6_copy 28 = .ok (.aload_n 0, 1) := by decide +kernel
theorem dX6_copy_29 : decode cX6_copy 29 = .ok (.getfield 19, 3) := by decide +kernel
theorem dX6_copy_32 : decode cX6_copy 32 = .ok (.iconst 0, 1) := by decide +kernel
theorem dX6_copy_33 : decode cX6_copy 33 = .ok (.bipush 12, 2) := by decide +kernel
theorem dX6_copy_35 : decode cX6_copy 35 = .ok (.invokestatic 54, 3) := by decide +kernel
theorem dX6_copy_38 : decode cX6_copy 38 = .ok (.aload_n 1, 1) := by decide +kernel
theorem dX6_copy_39 : decode cX6_copy 39 = .ok (.getfield 22, 3) := by decide +kernel
theorem dX6_copy_42 : decode cX6_copy 42 = .ok (.iconst 0, 1) := by decide +kernel
theorem dX6_copy_43 : decode cX6_copy 43 = .ok (.aload_n 0, 1) := by decide +kernel
theorem dX6_copy_44 : decode cX6_copy 44 = .ok (.getfield 22, 3) := by decide +kernel
theorem dX6_copy_47 : decode cX6_copy 47 = .ok (.iconst 0, 1) := by decide +kernel
theorem dX6_copy_48 : decode cX6_copy 48 = .ok (.iconst 5, 1) := by decide +kernel
theorem dX6_copy_49 : decode cX6_copy 49 = .ok (.invokestatic 54, 3) := by decide +kernel
theorem dX6_copy_52 : decode cX6_copy 52 = .ok (.aload_n 1, 1) := by decide +kernel
theorem dX6_copy_53 : decode cX6_copy 53 = .ok (.getfield 25, 3) := by decide +kernel
theorem dX6_copy_56 : decode cX6_copy 56 = .ok (.iconst 0, 1) := by decide +kernel
theorem dX6_copy_57 : decode cX6_copy 57 = .ok (.aload_n 0, 1) := by decide +kernel
theorem dX6_copy_58 : decode cX6_copy 58 = .ok (.getfield 25, 3) := by decide +kernel
theorem dX6_copy_61 : decode cX6_copy 61 = .ok (.iconst 0, 1) := by decide +kernel
theorem dX6_copy_62 : decode cX6_copy 62 = .ok (.iconst 5, 1) := by decide +kernel
theorem dX6_copy_63 : decode cX6_copy 63 = .ok (.invokestatic 54, 3) := by decide +kernel
theorem dX6_copy_66 : decode cX6_copy 66 = .ok (.aload_n 1, 1) := by decide +kernel
theorem dX6_copy_67 : decode cX6_copy 67 = .ok (.getfield 28, 3) := by decide +kernel
theorem dX6_copy_70 : decode cX6_copy 70 = .ok (.iconst 0, 1) := by decide +kernel
theorem dX6_copy_71 : decode cX6_copy 71 = .ok (.aload_n 0, 1) := by decide +kernel
theorem dX6_copy_72 : decode cX6_copy 72 = .ok (.getfield 28, 3) := by decide +kernel
theorem dX6_copy_75 : decode cX6_copy 75 = .ok (.iconst 0, 1) := by decide +kernel
theorem dX6_copy_76 : decode cX6_copy 76 = .ok (.iconst 5, 1) := by decide +kernel
theorem dX6_copy_77 : decode cX6_copy 77 = .ok (.invokestatic 54, 3) := by decide +kernel
theorem dX6_copy_80 : decode cX6_copy 80 = .ok (.aload_n 1, 1) := by decide +kernel
theorem dX6_copy_81 : decode cX6_copy 81 = .ok (.getfield 31, 3) := by decide +kernel
theorem dX6_copy_84 : decode cX6_copy 84 = .ok (.iconst 0, 1) := by decide +kernel
theorem dX6_copy_85 : decode cX6_copy 85 = .ok (.aload_n 0, 1) := by decide +kernel
theorem dX6_copy_86 : decode cX6_copy 86 = .ok (.getfield 31, 3) := by decide +kernel
theorem dX6_copy_89 : decode cX6_copy 89 = .ok (.iconst 0, 1) := by decide +kernel
theorem dX6_copy_90 : decode cX6_copy 90 = .ok (.bipush 80, 2) := by decide +kernel
theorem dX6_copy_92 : decode cX6_copy 92 = .ok (.invokestatic 54, 3) := by decide +kernel
theorem dX6_copy_95 : decode cX6_copy 95 = .ok (.aload_n 0, 1) := by decide +kernel
theorem dX6_copy_96 : decode cX6_copy 96 = .ok (.aload_n 1, 1) := by decide +kernel
theorem dX6_copy_97 : decode cX6_copy 97 = .ok (.getfield 34, 3) := by decide +kernel
theorem dX6_copy_100 : decode cX6_copy 100 = .ok (.putfield 34, 3) := by decide +kernel
theorem dX6_copy_103 : decode cX6_copy 103 = .ok (.aload_n 0, 1) := by decide +kernel
theorem dX6_copy_104 : decode cX6_copy 104 = .ok (.aload_n 1, 1) := by decide +kernel
theorem dX6_copy_105 : decode cX6_copy 105 = .ok (.getfield 37, 3) := by decide +kernel
theorem dX6_copy_108 : decode cX6_copy 108 = .ok (.putfield 37, 3) := by decide +kernel
theorem dX6_copy_111 : decode cX6_copy 111 = .ok (.aload_n 0, 1) := by decide +kernel
theorem dX6_copy_112 : decode cX6_copy 112 = .ok (.aload_n 1, 1) := by decide +kernel
theorem dX6_copy_113 : decode cX6_copy 113 = .ok (.getfield 40, 3) := by decide +kernel
theorem dX6_copy_116 : decode cX6_copy 116 = .ok (.putfield 40, 3) := by decide +kernel
theorem dX6_copy_119 : decode cX6_copy 119 = .ok (.aload_n 0, 1) := by decide +kernel
theorem dX6_copy_120 : decode cX6_copy 120 = .ok (.aload_n 1, 1) := by decide +kernel
theorem dX6_copy_121 : decode cX6_copy 121 = .ok (.getfield 44, 3) := by decide +kernel
theorem dX6_copy_124 : decode cX6_copy 124 = .ok (.putfield 44, 3) := by decide +kernel
theorem dX6_copy_127 : decode cX6_copy 127 = .ok (.aload_n 0, 1) := by decide +kernel
theorem dX6_copy_128 : decode cX6_copy 128 = .ok (.aload_n 1, 1) := by decide +kernel
theorem dX6_copy_129 : decode cX6_copy 129 = .ok (.getfield 47, 3) := by decide +kernel
theorem dX6_copy_132 : decode cX6_copy 132 = .ok (.putfield 47, 3) := by decide +kernel
theorem dX6_copy_135 : decode cX6_copy 135 = .ok (.return_, 1) := by decide +kernel
theorem dX6_hasLayer_0 : decode cX6_hasLayer 0 = .ok (.iload_n 1, 1) := by decide +kernel
theorem dX6_hasLayer_1 : decode cX6_hasLayer 1 = .ok (.ifCond .lt 15, 3) := by decide +kernel
theorem dX6_hasLayer_4 : decode cX6_hasLayer 4 = .ok (.iload_n 1, 1) := by decide +kernel
theorem dX6_hasLayer_5 : decode cX6_hasLayer 5 = .ok (.aload_n 0, 1) := by decide +kernel
theorem dX6_hasLayer_6 : decode cX6_hasLayer 6 = .ok (.getfield 9, 3) := by decide +kernel
theorem dX6_hasLayer_9 : decode cX6_hasLayer 9 = .ok (.if_icmp .ge 7, 3) := by decide +kernel
theorem dX6_hasLayer_12 : decode cX6_hasLayer 12 = .ok (.iconst 1, 1) := by decide +kernel
theorem dX6_hasLayer_13 : decode cX6_hasLayer 13 = .ok (.goto 4, 3) := by decide +kernel
theorem dX6_hasLayer_16 : decode cX6_hasLayer 16 = .ok (.iconst 0, 1) := by decide +kernel
theorem dX6_hasLayer_17 : decode cX6_hasLayer 17 = .ok (.ireturn, 1) := by decide +kernel
theorem dX6_canBePeeled_0 : decode cX6_canBePeeled 0 = .ok (.aload_n 0, 1) := by decide +kernel
theorem dX6_canBePeeled_1 : decode cX6_canBePeeled 1 = .ok (.getfield 9, 3) := by decide +kernel
theorem dX6_canBePeeled_4 : decode cX6_canBePeeled 4 = .ok (.ifCond .le 14, 3) := by decide +kernel
theorem dX6_canBePeeled_7 : decode cX6_canBePeeled 7 = .ok (.aload_n 0, 1) := by decide +kernel
theorem dX6_canBePeeled_8 : decode cX6_canBePeeled 8 = .ok (.getfield 40, 3) := by decide +kernel
theorem dX6_canBePeeled_11 : decode cX6_canBePeeled 11 = .ok (.ifCond .ne 7, 3) := by decide +kernel
theorem dX6_canBePeeled_14 : decode cX6_canBePeeled 14 = .ok (.iconst 1, 1) := by decide +kernel
theorem dX6_canBePeeled_15 : decode cX6_canBePeeled 15 = .ok (.goto 4, 3) := by decide +kernel
theorem dX6_canBePeeled_18 : decode cX6_canBePeeled 18 = .ok (.iconst 0, 1) := by decide +kernel
theorem dX6_canBePeeled_19 : decode cX6_canBePeeled 19 = .ok (.ireturn, 1) := by decide +kernel
theorem dX6_worthOf_0 : decode cX6_worthOf 0 = .ok (.aload_n 0, 1) := by decide +kernel
theorem dX6_worthOf_1 : decode cX6_worthOf 1 = .ok (.iload_n 1, 1) := by decide +kernel
theorem dX6_worthOf_2 : decode cX6_worthOf 2 = .ok (.invokevirtual 64, 3) := by decide +kernel
theorem dX6_worthOf_5 : decode cX6_worthOf 5 = .ok (.ifCond .ne 5, 3) := by decide +kernel
theorem dX6_worthOf_8 : decode cX6_worthOf 8 = .ok (.iconst 0, 1) := by decide +kernel
theorem dX6_worthOf_9 : decode cX6_worthOf 9 = .ok (.ireturn, 1) := by decide +kernel
theorem dX6_worthOf_10 : decode cX6_worthOf 10 = .ok (.aload_n 0, 1) := by decide +kernel
theorem dX6_worthOf_11 : decode cX6_worthOf 11 = .ok (.getfield 15, 3) := by decide +kernel
theorem dX6_worthOf_14 : decode cX6_worthOf 14 = .ok (.iload_n 1, 1) := by decide +kernel
theorem dX6_worthOf_15 : decode cX6_worthOf 15 = .ok (.iaload, 1) := by decide +kernel
theorem dX6_worthOf_16 : decode cX6_worthOf 16 = .ok (.tableswitch 52 1 4 #[32, 41, 52, 50], 32) := by decide +kernel
theorem dX6_worthOf_48 : decode cX6_worthOf 48 = .ok (.aload_n 0, 1) := by decide +kernel
theorem dX6_worthOf_49 : decode cX6_worthOf 49 = .ok (.getfield 19, 3) := by decide +kernel
theorem dX6_worthOf_52 : decode cX6_worthOf 52 = .ok (.iload_n 1, 1) := by decide +kernel
theorem dX6_worthOf_53 : decode cX6_worthOf 53 = .ok (.iaload, 1) := by decide +kernel
theorem dX6_worthOf_54 : decode cX6_worthOf 54 = .ok (.iconst 2, 1) := by decide +kernel
theorem dX6_worthOf_55 : decode cX6_worthOf 55 = .ok (.idiv, 1) := by decide +kernel
theorem dX6_worthOf_56 : decode cX6_worthOf 56 = .ok (.ireturn, 1) := by decide +kernel
theorem dX6_worthOf_57 : decode cX6_worthOf 57 = .ok (.iconst 2, 1) := by decide +kernel
theorem dX6_worthOf_58 : decode cX6_worthOf 58 = .ok (.aload_n 0, 1) := by decide +kernel
theorem dX6_worthOf_59 : decode cX6_worthOf 59 = .ok (.getfield 19, 3) := by decide +kernel
theorem dX6_worthOf_62 : decode cX6_worthOf 62 = .ok (.iload_n 1, 1) := by decide +kernel
theorem dX6_worthOf_63 : decode cX6_worthOf 63 = .ok (.iaload, 1) := by decide +kernel
theorem dX6_worthOf_64 : decode cX6_worthOf 64 = .ok (.imul, 1) := by decide +kernel
theorem dX6_worthOf_65 : decode cX6_worthOf 65 = .ok (.ireturn, 1) := by decide +kernel
theorem dX6_worthOf_66 : decode cX6_worthOf 66 = .ok (.iconst 0, 1) := by decide +kernel
theorem dX6_worthOf_67 : decode cX6_worthOf 67 = .ok (.ireturn, 1) := by decide +kernel
theorem dX6_worthOf_68 : decode cX6_worthOf 68 = .ok (.aload_n 0, 1) := by decide +kernel
theorem dX6_worthOf_69 : decode cX6_worthOf 69 = .ok (.getfield 19, 3) := by decide +kernel
theorem dX6_worthOf_72 : decode cX6_worthOf 72 = .ok (.iload_n 1, 1) := by decide +kernel
theorem dX6_worthOf_73 : decode cX6_worthOf 73 = .ok (.iaload, 1) := by decide +kernel
theorem dX6_worthOf_74 : decode cX6_worthOf 74 = .ok (.ireturn, 1) := by decide +kernel
theorem dX6_stingOf_0 : decode cX6_stingOf 0 = .ok (.aload_n 0, 1) := by decide +kernel
theorem dX6_stingOf_1 : decode cX6_stingOf 1 = .ok (.iload_n 1, 1) := by decide +kernel
theorem dX6_stingOf_2 : decode cX6_stingOf 2 = .ok (.invokevirtual 64, 3) := by decide +kernel
theorem dX6_stingOf_5 : decode cX6_stingOf 5 = .ok (.ifCond .ne 5, 3) := by decide +kernel
theorem dX6_stingOf_8 : decode cX6_stingOf 8 = .ok (.iconst 0, 1) := by decide +kernel
theorem dX6_stingOf_9 : decode cX6_stingOf 9 = .ok (.ireturn, 1) := by decide +kernel
theorem dX6_stingOf_10 : decode cX6_stingOf 10 = .ok (.aload_n 0, 1) := by decide +kernel
theorem dX6_stingOf_11 : decode cX6_stingOf 11 = .ok (.getfield 15, 3) := by decide +kernel
theorem dX6_stingOf_14 : decode cX6_stingOf 14 = .ok (.iload_n 1, 1) := by decide +kernel
theorem dX6_stingOf_15 : decode cX6_stingOf 15 = .ok (.iaload, 1) := by decide +kernel
theorem dX6_stingOf_16 : decode cX6_stingOf 16 = .ok (.lookupswitch 39 #[(2, 28), (4, 37)], 28) := by decide +kernel
theorem dX6_stingOf_44 : decode cX6_stingOf 44 = .ok (.iconst 2, 1) := by decide +kernel
theorem dX6_stingOf_45 : decode cX6_stingOf 45 = .ok (.aload_n 0, 1) := by decide +kernel
theorem dX6_stingOf_46 : decode cX6_stingOf 46 = .ok (.getfield 19, 3) := by decide +kernel
theorem dX6_stingOf_49 : decode cX6_stingOf 49 = .ok (.iload_n 1, 1) := by decide +kernel
theorem dX6_stingOf_50 : decode cX6_stingOf 50 = .ok (.iaload, 1) := by decide +kernel
theorem dX6_stingOf_51 : decode cX6_stingOf 51 = .ok (.imul, 1) := by decide +kernel
theorem dX6_stingOf_52 : decode cX6_stingOf 52 = .ok (.ireturn, 1) := by decide +kernel
theorem dX6_stingOf_53 : decode cX6_stingOf 53 = .ok (.iconst 0, 1) := by decide +kernel
theorem dX6_stingOf_54 : decode cX6_stingOf 54 = .ok (.ireturn, 1) := by decide +kernel
theorem dX6_stingOf_55 : decode cX6_stingOf 55 = .ok (.aload_n 0, 1) := by decide +kernel
theorem dX6_stingOf_56 : decode cX6_stingOf 56 = .ok (.getfield 19, 3) := by decide +kernel
theorem dX6_stingOf_59 : decode cX6_stingOf 59 = .ok (.iload_n 1, 1) := by decide +kernel
theorem dX6_stingOf_60 : decode cX6_stingOf 60 = .ok (.iaload, 1) := by decide +kernel
theorem dX6_stingOf_61 : decode cX6_stingOf 61 = .ok (.ireturn, 1) := by decide +kernel
theorem dX6_worthBetween_0 : decode cX6_worthBetween 0 = .ok (.iconst 0, 1) := by decide +kernel
theorem dX6_worthBetween_1 : decode cX6_worthBetween 1 = .ok (.istore_n 3, 1) := by decide +kernel
theorem dX6_worthBetween_2 : decode cX6_worthBetween 2 = .ok (.iload_n 1, 1) := by decide +kernel
theorem dX6_worthBetween_3 : decode cX6_worthBetween 3 = .ok (.istore 4, 2) := by decide +kernel
theorem dX6_worthBetween_5 : decode cX6_worthBetween 5 = .ok (.iload 4, 2) := by decide +kernel
theorem dX6_worthBetween_7 : decode cX6_worthBetween 7 = .ok (.iload_n 2, 1) := by decide +kernel
theorem dX6_worthBetween_8 : decode cX6_worthBetween 8 = .ok (.if_icmp .ge 18, 3) := by decide +kernel
theorem dX6_worthBetween_11 : decode cX6_worthBetween 11 = .ok (.iload_n 3, 1) := by decide +kernel
theorem dX6_worthBetween_12 : decode cX6_worthBetween 12 = .ok (.aload_n 0, 1) := by decide +kernel
theorem dX6_worthBetween_13 : decode cX6_worthBetween 13 = .ok (.iload 4, 2) := by decide +kernel
theorem dX6_worthBetween_15 : decode cX6_worthBetween 15 = .ok (.invokevirtual 68, 3) := by decide +kernel
theorem dX6_worthBetween_18 : decode cX6_worthBetween 18 = .ok (.iadd, 1) := by decide +kernel
theorem dX6_worthBetween_19 : decode cX6_worthBetween 19 = .ok (.istore_n 3, 1) := by decide +kernel
theorem dX6_worthBetween_20 : decode cX6_worthBetween 20 = .ok (.iinc 4 1, 3) := by decide +kernel
theorem dX6_worthBetween_23 : decode cX6_worthBetween 23 = .ok (.goto (-18), 3) := by decide +kernel
theorem dX6_worthBetween_26 : decode cX6_worthBetween 26 = .ok (.iload_n 3, 1) := by decide +kernel
theorem dX6_worthBetween_27 : decode cX6_worthBetween 27 = .ok (.ireturn, 1) := by decide +kernel
theorem dX6_takeOff_0 : decode cX6_takeOff 0 = .ok (.aload_n 0, 1) := by decide +kernel
theorem dX6_takeOff_1 : decode cX6_takeOff 1 = .ok (.getfield 9, 3) := by decide +kernel
theorem dX6_takeOff_4 : decode cX6_takeOff 4 = .ok (.iconst 1, 1) := by decide +kernel
theorem dX6_takeOff_5 : decode cX6_takeOff 5 = .ok (.if_icmp .lt 12, 3) := by decide +kernel
theorem dX6_takeOff_8 : decode cX6_takeOff 8 = .ok (.iload_n 1, 1) := by decide +kernel
theorem dX6_takeOff_9 : decode cX6_takeOff 9 = .ok (.ifCond .lt 8, 3) := by decide +kernel
theorem dX6_takeOff_12 : decode cX6_takeOff 12 = .ok (.iload_n 1, 1) := by decide +kernel
theorem dX6_takeOff_13 : decode cX6_takeOff 13 = .ok (.iconst 5, 1) := by decide +kernel
theorem dX6_takeOff_14 : decode cX6_takeOff 14 = .ok (.if_icmp .lt 5, 3) := by decide +kernel
theorem dX6_takeOff_17 : decode cX6_takeOff 17 = .ok (.iconst 0, 1) := by decide +kernel
theorem dX6_takeOff_18 : decode cX6_takeOff 18 = .ok (.ireturn, 1) := by decide +kernel
theorem dX6_takeOff_19 : decode cX6_takeOff 19 = .ok (.aload_n 0, 1) := by decide +kernel
theorem dX6_takeOff_20 : decode cX6_takeOff 20 = .ok (.iconst 0, 1) := by decide +kernel
theorem dX6_takeOff_21 : decode cX6_takeOff 21 = .ok (.invokevirtual 68, 3) := by decide +kernel
theorem dX6_takeOff_24 : decode cX6_takeOff 24 = .ok (.istore_n 3, 1) := by decide +kernel
theorem dX6_takeOff_25 : decode cX6_takeOff 25 = .ok (.aload_n 0, 1) := by decide +kernel
theorem dX6_takeOff_26 : decode cX6_takeOff 26 = .ok (.getfield 22, 3) := by decide +kernel
theorem dX6_takeOff_29 : decode cX6_takeOff 29 = .ok (.iload_n 1, 1) := by decide +kernel
theorem dX6_takeOff_30 : decode cX6_takeOff 30 = .ok (.sipush 9999, 3) := by decide +kernel
theorem dX6_takeOff_33 : decode cX6_takeOff 33 = .ok (.aload_n 0, 1) := by decide +kernel
theorem dX6_takeOff_34 : decode cX6_takeOff 34 = .ok (.getfield 22, 3) := by decide +kernel
theorem dX6_takeOff_37 : decode cX6_takeOff 37 = .ok (.iload_n 1, 1) := by decide +kernel
theorem dX6_takeOff_38 : decode cX6_takeOff 38 = .ok (.iaload, 1) := by decide +kernel
theorem dX6_takeOff_39 : decode cX6_takeOff 39 = .ok (.iload_n 3, 1) := by decide +kernel
theorem dX6_takeOff_40 : decode cX6_takeOff 40 = .ok (.iadd, 1) := by decide +kernel
theorem dX6_takeOff_41 : decode cX6_takeOff 41 = .ok (.invokestatic 72, 3) := by decide +kernel
theorem dX6_takeOff_44 : decode cX6_takeOff 44 = .ok (.iastore, 1) := by decide +kernel
theorem dX6_takeOff_45 : decode cX6_takeOff 45 = .ok (.aload_n 0, 1) := by decide +kernel
theorem dX6_takeOff_46 : decode cX6_takeOff 46 = .ok (.getfield 25, 3) := by decide +kernel
theorem dX6_takeOff_49 : decode cX6_takeOff 49 = .ok (.iload_n 1, 1) := by decide +kernel
theorem dX6_takeOff_50 : decode cX6_takeOff 50 = .ok (.sipush 9999, 3) := by decide +kernel
theorem dX6_takeOff_53 : decode cX6_takeOff 53 = .ok (.aload_n 0, 1) := by decide +kernel
theorem dX6_takeOff_54 : decode cX6_takeOff 54 = .ok (.getfield 25, 3) := by decide +kernel
theorem dX6_takeOff_57 : decode cX6_takeOff 57 = .ok (.iload_n 1, 1) := by decide +kernel
theorem dX6_takeOff_58 : decode cX6_takeOff 58 = .ok (.iaload, 1) := by decide +kernel
theorem dX6_takeOff_59 : decode cX6_takeOff 59 = .ok (.aload_n 0, 1) := by decide +kernel
theorem dX6_takeOff_60 : decode cX6_takeOff 60 = .ok (.iconst 0, 1) := by decide +kernel
theorem dX6_takeOff_61 : decode cX6_takeOff 61 = .ok (.invokevirtual 78, 3) := by decide +kernel
theorem dX6_takeOff_64 : decode cX6_takeOff 64 = .ok (.iadd, 1) := by decide +kernel
theorem dX6_takeOff_65 : decode cX6_takeOff 65 = .ok (.iload_n 2, 1) := by decide +kernel
theorem dX6_takeOff_66 : decode cX6_takeOff 66 = .ok (.iadd, 1) := by decide +kernel
theorem dX6_takeOff_67 : decode cX6_takeOff 67 = .ok (.invokestatic 72, 3) := by decide +kernel
theorem dX6_takeOff_70 : decode cX6_takeOff 70 = .ok (.iastore, 1) := by decide +kernel
theorem dX6_takeOff_71 : decode cX6_takeOff 71 = .ok (.aload_n 0, 1) := by decide +kernel
theorem dX6_takeOff_72 : decode cX6_takeOff 72 = .ok (.getfield 28, 3) := by decide +kernel
theorem dX6_takeOff_75 : decode cX6_takeOff 75 = .ok (.iload_n 1, 1) := by decide +kernel
theorem dX6_takeOff_76 : decode cX6_takeOff 76 = .ok (.dup2, 1) := by decide +kernel
theorem dX6_takeOff_77 : decode cX6_takeOff 77 = .ok (.iaload, 1) := by decide +kernel
theorem dX6_takeOff_78 : decode cX6_takeOff 78 = .ok (.iconst 1, 1) := by decide +kernel
theorem dX6_takeOff_79 : decode cX6_takeOff 79 = .ok (.iadd, 1) := by decide +kernel
theorem dX6_takeOff_80 : decode cX6_takeOff 80 = .ok (.iastore, 1) := by decide +kernel
theorem dX6_takeOff_81 : decode cX6_takeOff 81 = .ok (.aload_n 0, 1) := by decide +kernel
theorem dX6_takeOff_82 : decode cX6_takeOff 82 = .ok (.getfield 15, 3) := by decide +kernel
theorem dX6_takeOff_85 : decode cX6_takeOff 85 = .ok (.iconst 0, 1) := by decide +kernel
theorem dX6_takeOff_86 : decode cX6_takeOff 86 = .ok (.iaload, 1) := by decide +kernel
theorem dX6_takeOff_87 : decode cX6_takeOff 87 = .ok (.iconst 4, 1) := by decide +kernel
theorem dX6_takeOff_88 : decode cX6_takeOff 88 = .ok (.if_icmp .ne 44, 3) := by decide +kernel
theorem dX6_takeOff_91 : decode cX6_takeOff 91 = .ok (.aload_n 0, 1) := by decide +kernel
theorem dX6_takeOff_92 : decode cX6_takeOff 92 = .ok (.getfield 47, 3) := by decide +kernel
theorem dX6_takeOff_95 : decode cX6_takeOff 95 = .ok (.ifCond .lt 37, 3) := by decide +kernel
theorem dX6_takeOff_98 : decode cX6_takeOff 98 = .ok (.aload_n 0, 1) := by decide +kernel
theorem dX6_takeOff_99 : decode cX6_takeOff 99 = .ok (.getfield 47, 3) := by decide +kernel
theorem dX6_takeOff_102 : decode cX6_takeOff 102 = .ok (.iconst 5, 1) := by decide +kernel
theorem dX6_takeOff_103 : decode cX6_takeOff 103 = .ok (.if_icmp .ge 29, 3) := by decide +kernel
theorem dX6_takeOff_106 : decode cX6_takeOff 106 = .ok (.aload_n 0, 1) := by decide +kernel
theorem dX6_takeOff_107 : decode cX6_takeOff 107 = .ok (.getfield 22, 3) := by decide +kernel
theorem dX6_takeOff_110 : decode cX6_takeOff 110 = .ok (.aload_n 0, 1) := by decide +kernel
theorem dX6_takeOff_111 : decode cX6_takeOff 111 = .ok (.getfield 47, 3) := by decide +kernel
theorem dX6_takeOff_114 : decode cX6_takeOff 114 = .ok (.sipush 9999, 3) := by decide +kernel
theorem dX6_takeOff_117 : decode cX6_takeOff 117 = .ok (.aload_n 0, 1) := by decide +kernel
theorem dX6_takeOff_118 : decode cX6_takeOff 118 = .ok (.getfield 22, 3) := by decide +kernel
theorem dX6_takeOff_121 : decode cX6_takeOff 121 = .ok (.aload_n 0, 1) := by decide +kernel
theorem dX6_takeOff_122 : decode cX6_takeOff 122 = .ok (.getfield 47, 3) := by decide +kernel
theorem dX6_takeOff_125 : decode cX6_takeOff 125 = .ok (.iaload, 1) := by decide +kernel
theorem dX6_takeOff_126 : decode cX6_takeOff 126 = .ok (.iconst 5, 1) := by decide +kernel
theorem dX6_takeOff_127 : decode cX6_takeOff 127 = .ok (.iadd, 1) := by decide +kernel
theorem dX6_takeOff_128 : decode cX6_takeOff 128 = .ok (.invokestatic 72, 3) := by decide +kernel
theorem dX6_takeOff_131 : decode cX6_takeOff 131 = .ok (.iastore, 1) := by decide +kernel
theorem dX6_takeOff_132 : decode cX6_takeOff 132 = .ok (.aload_n 0, 1) := by decide +kernel
theorem dX6_takeOff_133 : decode cX6_takeOff 133 = .ok (.iload_n 1, 1) := by decide +kernel
theorem dX6_takeOff_134 : decode cX6_takeOff 134 = .ok (.putfield 47, 3) := by decide +kernel
theorem dX6_takeOff_137 : decode cX6_takeOff 137 = .ok (.aload_n 0, 1) := by decide +kernel
theorem dX6_takeOff_138 : decode cX6_takeOff 138 = .ok (.iload_n 1, 1) := by decide +kernel
theorem dX6_takeOff_139 : decode cX6_takeOff 139 = .ok (.invokevirtual 81, 3) := by decide +kernel
theorem dX6_takeOff_142 : decode cX6_takeOff 142 = .ok (.aload_n 0, 1) := by decide +kernel
theorem dX6_takeOff_143 : decode cX6_takeOff 143 = .ok (.dup, 1) := by decide +kernel
theorem dX6_takeOff_144 : decode cX6_takeOff 144 = .ok (.getfield 9, 3) := by decide +kernel
theorem dX6_takeOff_147 : decode cX6_takeOff 147 = .ok (.iconst 1, 1) := by decide +kernel
theorem dX6_takeOff_148 : decode cX6_takeOff 148 = .ok (.isub, 1) := by decide +kernel
theorem dX6_takeOff_149 : decode cX6_takeOff 149 = .ok (.putfield 9, 3) := by decide +kernel
theorem dX6_takeOff_152 : decode cX6_takeOff 152 = .ok (.aload_n 0, 1) := by decide +kernel
theorem dX6_takeOff_153 : decode cX6_takeOff 153 = .ok (.getfield 15, 3) := by decide +kernel
theorem dX6_takeOff_156 : decode cX6_takeOff 156 = .ok (.iconst 1, 1) := by decide +kernel
theorem dX6_takeOff_157 : decode cX6_takeOff 157 = .ok (.aload_n 0, 1) := by decide +kernel
theorem dX6_takeOff_158 : decode cX6_takeOff 158 = .ok (.getfield 15, 3) := by decide +kernel
theorem dX6_takeOff_161 : decode cX6_takeOff 161 = .ok (.iconst 0, 1) := by decide +kernel
theorem dX6_takeOff_162 : decode cX6_takeOff 162 = .ok (.bipush 11, 2) := by decide +kernel
theorem dX6_takeOff_164 : decode cX6_takeOff 164 = .ok (.invokestatic 54, 3) := by decide +kernel
theorem dX6_takeOff_167 : decode cX6_takeOff 167 = .ok (.aload_n 0, 1) := by decide +kernel
theorem dX6_takeOff_168 : decode cX6_takeOff 168 = .ok (.getfield 19, 3) := by decide +kernel
theorem dX6_takeOff_171 : decode cX6_takeOff 171 = .ok (.iconst 1, 1) := by decide +kernel
theorem dX6_takeOff_172 : decode cX6_takeOff 172 = .ok (.aload_n 0, 1) := by decide +kernel
theorem dX6_takeOff_173 : decode cX6_takeOff 173 = .ok (.getfield 19, 3) := by decide +kernel
theorem dX6_takeOff_176 : decode cX6_takeOff 176 = .ok (.iconst 0, 1) := by decide +kernel
theorem dX6_takeOff_177 : decode cX6_takeOff 177 = .ok (.bipush 11, 2) := by decide +kernel
theorem dX6_takeOff_179 : decode cX6_takeOff 179 = .ok (.invokestatic 54, 3) := by decide +kernel
theorem dX6_takeOff_182 : decode cX6_takeOff 182 = .ok (.aload_n 0, 1) := by decide +kernel
theorem dX6_takeOff_183 : decode cX6_takeOff 183 = .ok (.getfield 9, 3) := by decide +kernel
theorem dX6_takeOff_186 : decode cX6_takeOff 186 = .ok (.ifCond .ne 8, 3) := by decide +kernel
theorem dX6_takeOff_189 : decode cX6_takeOff 189 = .ok (.aload_n 0, 1) := by decide +kernel
theorem dX6_takeOff_190 : decode cX6_takeOff 190 = .ok (.iconst 1, 1) := by decide +kernel
theorem dX6_takeOff_191 : decode cX6_takeOff 191 = .ok (.putfield 44, 3) := by decide +kernel
theorem dX6_takeOff_194 : decode cX6_takeOff 194 = .ok (.iload_n 3, 1) := by decide +kernel
theorem dX6_takeOff_195 : decode cX6_takeOff 195 = .ok (.ireturn, 1) := by decide +kernel
theorem dX6_enter_0 : decode cX6_enter 0 = .ok (.aload_n 0, 1) := by decide +kernel
theorem dX6_enter_1 : decode cX6_enter 1 = .ok (.getfield 31, 3) := by decide +kernel
theorem dX6_enter_4 : decode cX6_enter 4 = .ok (.iconst 0, 1) := by decide +kernel
theorem dX6_enter_5 : decode cX6_enter 5 = .ok (.aload_n 0, 1) := by decide +kernel
theorem dX6_enter_6 : decode cX6_enter 6 = .ok (.getfield 31, 3) := by decide +kernel
theorem dX6_enter_9 : decode cX6_enter 9 = .ok (.iconst 4, 1) := by decide +kernel
theorem dX6_enter_10 : decode cX6_enter 10 = .ok (.bipush 76, 2) := by decide +kernel
theorem dX6_enter_12 : decode cX6_enter 12 = .ok (.invokestatic 54, 3) := by decide +kernel
theorem dX6_enter_15 : decode cX6_enter 15 = .ok (.aload_n 0, 1) := by decide +kernel
theorem dX6_enter_16 : decode cX6_enter 16 = .ok (.getfield 31, 3) := by decide +kernel
theorem dX6_enter_19 : decode cX6_enter 19 = .ok (.iconst 0, 1) := by decide +kernel
theorem dX6_enter_20 : decode cX6_enter 20 = .ok (.aload_n 0, 1) := by decide +kernel
theorem dX6_enter_21 : decode cX6_enter 21 = .ok (.getfield 37, 3) := by decide +kernel
theorem dX6_enter_24 : decode cX6_enter 24 = .ok (.iastore, 1) := by decide +kernel
theorem dX6_enter_25 : decode cX6_enter 25 = .ok (.aload_n 0, 1) := by decide +kernel
theorem dX6_enter_26 : decode cX6_enter 26 = .ok (.getfield 31, 3) := by decide +kernel
theorem dX6_enter_29 : decode cX6_enter 29 = .ok (.iconst 1, 1) := by decide +kernel
theorem dX6_enter_30 : decode cX6_enter 30 = .ok (.iload_n 1, 1) := by decide +kernel
theorem dX6_enter_31 : decode cX6_enter 31 = .ok (.iastore, 1) := by decide +kernel
theorem dX6_enter_32 : decode cX6_enter 32 = .ok (.aload_n 0, 1) := by decide +kernel
theorem dX6_enter_33 : decode cX6_enter 33 = .ok (.getfield 31, 3) := by decide +kernel
theorem dX6_enter_36 : decode cX6_enter 36 = .ok (.iconst 2, 1) := by decide +kernel
theorem dX6_enter_37 : decode cX6_enter 37 = .ok (.aload_n 0, 1) := by decide +kernel
theorem dX6_enter_38 : decode cX6_enter 38 = .ok (.getfield 15, 3) := by decide +kernel
theorem dX6_enter_41 : decode cX6_enter 41 = .ok (.iconst 0, 1) := by decide +kernel
theorem dX6_enter_42 : decode cX6_enter 42 = .ok (.iaload, 1) := by decide +kernel
theorem dX6_enter_43 : decode cX6_enter 43 = .ok (.iastore, 1) := by decide +kernel
theorem dX6_enter_44 : decode cX6_enter 44 = .ok (.aload_n 0, 1) := by decide +kernel
theorem dX6_enter_45 : decode cX6_enter 45 = .ok (.getfield 31, 3) := by decide +kernel
theorem dX6_enter_48 : decode cX6_enter 48 = .ok (.iconst 3, 1) := by decide +kernel
theorem dX6_enter_49 : decode cX6_enter 49 = .ok (.aload_n 0, 1) := by decide +kernel
theorem dX6_enter_50 : decode cX6_enter 50 = .ok (.getfield 19, 3) := by decide +kernel
theorem dX6_enter_53 : decode cX6_enter 53 = .ok (.iconst 0, 1) := by decide +kernel
theorem dX6_enter_54 : decode cX6_enter 54 = .ok (.iaload, 1) := by decide +kernel
theorem dX6_enter_55 : decode cX6_enter 55 = .ok (.iastore, 1) := by decide +kernel
theorem dX6_enter_56 : decode cX6_enter 56 = .ok (.aload_n 0, 1) := by decide +kernel
theorem dX6_enter_57 : decode cX6_enter 57 = .ok (.bipush 20, 2) := by decide +kernel
theorem dX6_enter_59 : decode cX6_enter 59 = .ok (.aload_n 0, 1) := by decide +kernel
theorem dX6_enter_60 : decode cX6_enter 60 = .ok (.getfield 34, 3) := by decide +kernel
theorem dX6_enter_63 : decode cX6_enter 63 = .ok (.iconst 1, 1) := by decide +kernel
theorem dX6_enter_64 : decode cX6_enter 64 = .ok (.iadd, 1) := by decide +kernel
theorem dX6_enter_65 : decode cX6_enter 65 = .ok (.invokestatic 72, 3) := by decide +kernel
theorem dX6_enter_68 : decode cX6_enter 68 = .ok (.putfield 34, 3) := by decide +kernel
theorem dX6_enter_71 : decode cX6_enter 71 = .ok (.return_, 1) := by decide +kernel
theorem dX6_thicken_0 : decode cX6_thicken 0 = .ok (.aload_n 0, 1) := by decide +kernel
theorem dX6_thicken_1 : decode cX6_thicken 1 = .ok (.getfield 9, 3) := by decide +kernel
theorem dX6_thicken_4 : decode cX6_thicken 4 = .ok (.iconst 1, 1) := by decide +kernel
theorem dX6_thicken_5 : decode cX6_thicken 5 = .ok (.if_icmp .ge 4, 3) := by decide +kernel
theorem dX6_thicken_8 : decode cX6_thicken 8 = .ok (.return_, 1) := by decide +kernel
theorem dX6_thicken_9 : decode cX6_thicken 9 = .ok (.aload_n 0, 1) := by decide +kernel
theorem dX6_thicken_10 : decode cX6_thicken 10 = .ok (.getfield 19, 3) := by decide +kernel
theorem dX6_thicken_13 : decode cX6_thicken 13 = .ok (.iconst 0, 1) := by decide +kernel
theorem dX6_thicken_14 : decode cX6_thicken 14 = .ok (.iaload, 1) := by decide +kernel
theorem dX6_thicken_15 : decode cX6_thicken 15 = .ok (.bipush 20, 2) := by decide +kernel
theorem dX6_thicken_17 : decode cX6_thicken 17 = .ok (.if_icmp .ge 16, 3) := by decide +kernel
theorem dX6_thicken_20 : decode cX6_thicken 20 = .ok (.aload_n 0, 1) := by decide +kernel
theorem dX6_thicken_21 : decode cX6_thicken 21 = .ok (.getfield 19, 3) := by decide +kernel
theorem dX6_thicken_24 : decode cX6_thicken 24 = .ok (.iconst 0, 1) := by decide +kernel
theorem dX6_thicken_25 : decode cX6_thicken 25 = .ok (.dup2, 1) := by decide +kernel
theorem dX6_thicken_26 : decode cX6_thicken 26 = .ok (.iaload, 1) := by decide +kernel
theorem dX6_thicken_27 : decode cX6_thicken 27 = .ok (.iconst 1, 1) := by decide +kernel
theorem dX6_thicken_28 : decode cX6_thicken 28 = .ok (.iadd, 1) := by decide +kernel
theorem dX6_thicken_29 : decode cX6_thicken 29 = .ok (.iastore, 1) := by decide +kernel
theorem dX6_thicken_30 : decode cX6_thicken 30 = .ok (.goto 66, 3) := by decide +kernel
theorem dX6_thicken_33 : decode cX6_thicken 33 = .ok (.aload_n 0, 1) := by decide +kernel
theorem dX6_thicken_34 : decode cX6_thicken 34 = .ok (.getfield 9, 3) := by decide +kernel
theorem dX6_thicken_37 : decode cX6_thicken 37 = .ok (.bipush 12, 2) := by decide +kernel
theorem dX6_thicken_39 : decode cX6_thicken 39 = .ok (.if_icmp .ge 57, 3) := by decide +kernel
theorem dX6_thicken_42 : decode cX6_thicken 42 = .ok (.aload_n 0, 1) := by decide +kernel
theorem dX6_thicken_43 : decode cX6_thicken 43 = .ok (.getfield 15, 3) := by decide +kernel
theorem dX6_thicken_46 : decode cX6_thicken 46 = .ok (.iconst 0, 1) := by decide +kernel
theorem dX6_thicken_47 : decode cX6_thicken 47 = .ok (.aload_n 0, 1) := by decide +kernel
theorem dX6_thicken_48 : decode cX6_thicken 48 = .ok (.getfield 15, 3) := by decide +kernel
theorem dX6_thicken_51 : decode cX6_thicken 51 = .ok (.iconst 1, 1) := by decide +kernel
theorem dX6_thicken_52 : decode cX6_thicken 52 = .ok (.bipush 11, 2) := by decide +kernel
theorem dX6_thicken_54 : decode cX6_thicken 54 = .ok (.invokestatic 54, 3) := by decide +kernel
theorem dX6_thicken_57 : decode cX6_thicken 57 = .ok (.aload_n 0, 1) := by decide +kernel
theorem dX6_thicken_58 : decode cX6_thicken 58 = .ok (.getfield 19, 3) := by decide +kernel
theorem dX6_thicken_61 : decode cX6_thicken 61 = .ok (.iconst 0, 1) := by decide +kernel
theorem dX6_thicken_62 : decode cX6_thicken 62 = .ok (.aload_n 0, 1) := by decide +kernel
theorem dX6_thicken_63 : decode cX6_thicken 63 = .ok (.getfield 19, 3) := by decide +kernel
theorem dX6_thicken_66 : decode cX6_thicken 66 = .ok (.iconst 1, 1) := by decide +kernel
theorem dX6_thicken_67 : decode cX6_thicken 67 = .ok (.bipush 11, 2) := by decide +kernel
theorem dX6_thicken_69 : decode cX6_thicken 69 = .ok (.invokestatic 54, 3) := by decide +kernel
theorem dX6_thicken_72 : decode cX6_thicken 72 = .ok (.aload_n 0, 1) := by decide +kernel
theorem dX6_thicken_73 : decode cX6_thicken 73 = .ok (.getfield 15, 3) := by decide +kernel
theorem dX6_thicken_76 : decode cX6_thicken 76 = .ok (.iconst 0, 1) := by decide +kernel
theorem dX6_thicken_77 : decode cX6_thicken 77 = .ok (.iconst 2, 1) := by decide +kernel
theorem dX6_thicken_78 : decode cX6_thicken 78 = .ok (.iastore, 1) := by decide +kernel
theorem dX6_thicken_79 : decode cX6_thicken 79 = .ok (.aload_n 0, 1) := by decide +kernel
theorem dX6_thicken_80 : decode cX6_thicken 80 = .ok (.getfield 19, 3) := by decide +kernel
theorem dX6_thicken_83 : decode cX6_thicken 83 = .ok (.iconst 0, 1) := by decide +kernel
theorem dX6_thicken_84 : decode cX6_thicken 84 = .ok (.iconst 1, 1) := by decide +kernel
theorem dX6_thicken_85 : decode cX6_thicken 85 = .ok (.iastore, 1) := by decide +kernel
theorem dX6_thicken_86 : decode cX6_thicken 86 = .ok (.aload_n 0, 1) := by decide +kernel
theorem dX6_thicken_87 : decode cX6_thicken 87 = .ok (.dup, 1) := by decide +kernel
theorem dX6_thicken_88 : decode cX6_thicken 88 = .ok (.getfield 9, 3) := by decide +kernel
theorem dX6_thicken_91 : decode cX6_thicken 91 = .ok (.iconst 1, 1) := by decide +kernel
theorem dX6_thicken_92 : decode cX6_thicken 92 = .ok (.iadd, 1) := by decide +kernel
theorem dX6_thicken_93 : decode cX6_thicken 93 = .ok (.putfield 9, 3) := by decide +kernel
theorem dX6_thicken_96 : decode cX6_thicken 96 = .ok (.return_, 1) := by decide +kernel
theorem dX6_passYear_0 : decode cX6_passYear 0 = .ok (.iconst 0, 1) := by decide +kernel
theorem dX6_passYear_1 : decode cX6_passYear 1 = .ok (.istore_n 2, 1) := by decide +kernel
theorem dX6_passYear_2 : decode cX6_passYear 2 = .ok (.iload_n 2, 1) := by decide +kernel
theorem dX6_passYear_3 : decode cX6_passYear 3 = .ok (.aload_n 0, 1) := by decide +kernel
theorem dX6_passYear_4 : decode cX6_passYear 4 = .ok (.getfield 9, 3) := by decide +kernel
theorem dX6_passYear_7 : decode cX6_passYear 7 = .ok (.if_icmp .ge 38, 3) := by decide +kernel
theorem dX6_passYear_10 : decode cX6_passYear 10 = .ok (.aload_n 0, 1) := by decide +kernel
theorem dX6_passYear_11 : decode cX6_passYear 11 = .ok (.getfield 15, 3) := by decide +kernel
theorem dX6_passYear_14 : decode cX6_passYear 14 = .ok (.iload_n 2, 1) := by decide +kernel
theorem dX6_passYear_15 : decode cX6_passYear 15 = .ok (.iaload, 1) := by decide +kernel
theorem dX6_passYear_16 : decode cX6_passYear 16 = .ok (.iconst 3, 1) := by decide +kernel
theorem dX6_passYear_17 : decode cX6_passYear 17 = .ok (.if_icmp .ne 22, 3) := by decide +kernel
theorem dX6_passYear_20 : decode cX6_passYear 20 = .ok (.aload_n 0, 1) := by decide +kernel
theorem dX6_passYear_21 : decode cX6_passYear 21 = .ok (.getfield 19, 3) := by decide +kernel
theorem dX6_passYear_24 : decode cX6_passYear 24 = .ok (.iload_n 2, 1) := by decide +kernel
theorem dX6_passYear_25 : decode cX6_passYear 25 = .ok (.bipush 20, 2) := by decide +kernel
theorem dX6_passYear_27 : decode cX6_passYear 27 = .ok (.aload_n 0, 1) := by decide +kernel
theorem dX6_passYear_28 : decode cX6_passYear 28 = .ok (.getfield 19, 3) := by decide +kernel
theorem dX6_passYear_31 : decode cX6_passYear 31 = .ok (.iload_n 2, 1) := by decide +kernel
theorem dX6_passYear_32 : decode cX6_passYear 32 = .ok (.iaload, 1) := by decide +kernel
theorem dX6_passYear_33 : decode cX6_passYear 33 = .ok (.iconst 1, 1) := by decide +kernel
theorem dX6_passYear_34 : decode cX6_passYear 34 = .ok (.iadd, 1) := by decide +kernel
theorem dX6_passYear_35 : decode cX6_passYear 35 = .ok (.invokestatic 72, 3) := by decide +kernel
theorem dX6_passYear_38 : decode cX6_passYear 38 = .ok (.iastore, 1) := by decide +kernel
theorem dX6_passYear_39 : decode cX6_passYear 39 = .ok (.iinc 2 1, 3) := by decide +kernel
theorem dX6_passYear_42 : decode cX6_passYear 42 = .ok (.goto (-40), 3) := by decide +kernel
theorem dX6_passYear_45 : decode cX6_passYear 45 = .ok (.iconst 0, 1) := by decide +kernel
theorem dX6_passYear_46 : decode cX6_passYear 46 = .ok (.istore_n 2, 1) := by decide +kernel
theorem dX6_passYear_47 : decode cX6_passYear 47 = .ok (.iload_n 2, 1) := by decide +kernel
theorem dX6_passYear_48 : decode cX6_passYear 48 = .ok (.aload_n 1, 1) := by decide +kernel
theorem dX6_passYear_49 : decode cX6_passYear 49 = .ok (.getfield 85, 3) := by decide +kernel
theorem dX6_passYear_52 : decode cX6_passYear 52 = .ok (.if_icmp .ge 32, 3) := by decide +kernel
theorem dX6_passYear_55 : decode cX6_passYear 55 = .ok (.aload_n 0, 1) := by decide +kernel
theorem dX6_passYear_56 : decode cX6_passYear 56 = .ok (.getfield 25, 3) := by decide +kernel
theorem dX6_passYear_59 : decode cX6_passYear 59 = .ok (.iload_n 2, 1) := by decide +kernel
theorem dX6_passYear_60 : decode cX6_passYear 60 = .ok (.iconst 0, 1) := by decide +kernel
theorem dX6_passYear_61 : decode cX6_passYear 61 = .ok (.aload_n 0, 1) := by decide +kernel
theorem dX6_passYear_62 : decode cX6_passYear 62 = .ok (.getfield 25, 3) := by decide +kernel
theorem dX6_passYear_65 : decode cX6_passYear 65 = .ok (.iload_n 2, 1) := by decide +kernel
theorem dX6_passYear_66 : decode cX6_passYear 66 = .ok (.iaload, 1) := by decide +kernel
theorem dX6_passYear_67 : decode cX6_passYear 67 = .ok (.aload_n 1, 1) := by decide +kernel
theorem dX6_passYear_68 : decode cX6_passYear 68 = .ok (.getfield 88, 3) := by decide +kernel
theorem dX6_passYear_71 : decode cX6_passYear 71 = .ok (.iload_n 2, 1) := by decide +kernel
theorem dX6_passYear_72 : decode cX6_passYear 72 = .ok (.iaload, 1) := by decide +kernel
theorem dX6_passYear_73 : decode cX6_passYear 73 = .ok (.isub, 1) := by decide +kernel
theorem dX6_passYear_74 : decode cX6_passYear 74 = .ok (.invokestatic 91, 3) := by decide +kernel
theorem dX6_passYear_77 : decode cX6_passYear 77 = .ok (.iastore, 1) := by decide +kernel
theorem dX6_passYear_78 : decode cX6_passYear 78 = .ok (.iinc 2 1, 3) := by decide +kernel
theorem dX6_passYear_81 : decode cX6_passYear 81 = .ok (.goto (-34), 3) := by decide +kernel
theorem dX6_passYear_84 : decode cX6_passYear 84 = .ok (.aload_n 0, 1) := by decide +kernel
theorem dX6_passYear_85 : decode cX6_passYear 85 = .ok (.dup, 1) := by decide +kernel
theorem dX6_passYear_86 : decode cX6_passYear 86 = .ok (.getfield 37, 3) := by decide +kernel
theorem dX6_passYear_89 : decode cX6_passYear 89 = .ok (.iconst 1, 1) := by decide +kernel
theorem dX6_passYear_90 : decode cX6_passYear 90 = .ok (.iadd, 1) := by decide +kernel
theorem dX6_passYear_91 : decode cX6_passYear 91 = .ok (.putfield 37, 3) := by decide +kernel
theorem dX6_passYear_94 : decode cX6_passYear 94 = .ok (.return_, 1) := by decide +kernel
theorem dX6_allThick_0 : decode cX6_allThick 0 = .ok (.iconst 0, 1) := by decide +kernel
theorem dX6_allThick_1 : decode cX6_allThick 1 = .ok (.istore_n 1, 1) := by decide +kernel
theorem dX6_allThick_2 : decode cX6_allThick 2 = .ok (.iconst 0, 1) := by decide +kernel
theorem dX6_allThick_3 : decode cX6_allThick 3 = .ok (.istore_n 2, 1) := by decide +kernel
theorem dX6_allThick_4 : decode cX6_allThick 4 = .ok (.iload_n 2, 1) := by decide +kernel
theorem dX6_allThick_5 : decode cX6_allThick 5 = .ok (.aload_n 0, 1) := by decide +kernel
theorem dX6_allThick_6 : decode cX6_allThick 6 = .ok (.getfield 9, 3) := by decide +kernel
theorem dX6_allThick_9 : decode cX6_allThick 9 = .ok (.if_icmp .ge 18, 3) := by decide +kernel
theorem dX6_allThick_12 : decode cX6_allThick 12 = .ok (.iload_n 1, 1) := by decide +kernel
theorem dX6_allThick_13 : decode cX6_allThick 13 = .ok (.aload_n 0, 1) := by decide +kernel
theorem dX6_allThick_14 : decode cX6_allThick 14 = .ok (.getfield 19, 3) := by decide +kernel
theorem dX6_allThick_17 : decode cX6_allThick 17 = .ok (.iload_n 2, 1) := by decide +kernel
theorem dX6_allThick_18 : decode cX6_allThick 18 = .ok (.iaload, 1) := by decide +kernel
theorem dX6_allThick_19 : decode cX6_allThick 19 = .ok (.iadd, 1) := by decide +kernel
theorem dX6_allThick_20 : decode cX6_allThick 20 = .ok (.istore_n 1, 1) := by decide +kernel
theorem dX6_allThick_21 : decode cX6_allThick 21 = .ok (.iinc 2 1, 3) := by decide +kernel
theorem dX6_allThick_24 : decode cX6_allThick 24 = .ok (.goto (-20), 3) := by decide +kernel
theorem dX6_allThick_27 : decode cX6_allThick 27 = .ok (.iload_n 1, 1) := by decide +kernel
theorem dX6_allThick_28 : decode cX6_allThick 28 = .ok (.ireturn, 1) := by decide +kernel
theorem dX6_cut_0 : decode cX6_cut 0 = .ok (.aload_n 0, 1) := by decide +kernel
theorem dX6_cut_1 : decode cX6_cut 1 = .ok (.invokevirtual 94, 3) := by decide +kernel
theorem dX6_cut_4 : decode cX6_cut 4 = .ok (.iconst 2, 1) := by decide +kernel
theorem dX6_cut_5 : decode cX6_cut 5 = .ok (.idiv, 1) := by decide +kernel
theorem dX6_cut_6 : decode cX6_cut 6 = .ok (.istore_n 1, 1) := by decide +kernel
theorem dX6_cut_7 : decode cX6_cut 7 = .ok (.iconst 0, 1) := by decide +kernel
theorem dX6_cut_8 : decode cX6_cut 8 = .ok (.istore_n 2, 1) := by decide +kernel
theorem dX6_cut_9 : decode cX6_cut 9 = .ok (.iconst 0, 1) := by decide +kernel
theorem dX6_cut_10 : decode cX6_cut 10 = .ok (.istore_n 3, 1) := by decide +kernel
theorem dX6_cut_11 : decode cX6_cut 11 = .ok (.iload_n 3, 1) := by decide +kernel
theorem dX6_cut_12 : decode cX6_cut 12 = .ok (.aload_n 0, 1) := by decide +kernel
theorem dX6_cut_13 : decode cX6_cut 13 = .ok (.getfield 9, 3) := by decide +kernel
theorem dX6_cut_16 : decode cX6_cut 16 = .ok (.if_icmp .ge 25, 3) := by decide +kernel
theorem dX6_cut_19 : decode cX6_cut 19 = .ok (.iload_n 2, 1) := by decide +kernel
theorem dX6_cut_20 : decode cX6_cut 20 = .ok (.aload_n 0, 1) := by decide +kernel
theorem dX6_cut_21 : decode cX6_cut 21 = .ok (.getfield 19, 3) := by decide +kernel
theorem dX6_cut_24 : decode cX6_cut 24 = .ok (.iload_n 3, 1) := by decide +kernel
theorem dX6_cut_25 : decode cX6_cut 25 = .ok (.iaload, 1) := by decide +kernel
theorem dX6_cut_26 : decode cX6_cut 26 = .ok (.iadd, 1) := by decide +kernel
theorem dX6_cut_27 : decode cX6_cut 27 = .ok (.istore_n 2, 1) := by decide +kernel
theorem dX6_cut_28 : decode cX6_cut 28 = .ok (.iload_n 2, 1) := by decide +kernel
theorem dX6_cut_29 : decode cX6_cut 29 = .ok (.iload_n 1, 1) := by decide +kernel
theorem dX6_cut_30 : decode cX6_cut 30 = .ok (.if_icmp .le 5, 3) := by decide +kernel
theorem dX6_cut_33 : decode cX6_cut 33 = .ok (.iload_n 3, 1) := by decide +kernel
theorem dX6_cut_34 : decode cX6_cut 34 = .ok (.ireturn, 1) := by decide +kernel
theorem dX6_cut_35 : decode cX6_cut 35 = .ok (.iinc 3 1, 3) := by decide +kernel
theorem dX6_cut_38 : decode cX6_cut 38 = .ok (.goto (-27), 3) := by decide +kernel
theorem dX6_cut_41 : decode cX6_cut 41 = .ok (.iconst (-1), 1) := by decide +kernel
theorem dX6_cut_42 : decode cX6_cut 42 = .ok (.ireturn, 1) := by decide +kernel
theorem dX6_law_0 : decode cX6_law 0 = .ok (.iconst 0, 1) := by decide +kernel
theorem dX6_law_1 : decode cX6_law 1 = .ok (.istore_n 1, 1) := by decide +kernel
theorem dX6_law_2 : decode cX6_law 2 = .ok (.iconst 1, 1) := by decide +kernel
theorem dX6_law_3 : decode cX6_law 3 = .ok (.istore_n 2, 1) := by decide +kernel
theorem dX6_law_4 : decode cX6_law 4 = .ok (.iload_n 2, 1) := by decide +kernel
theorem dX6_law_5 : decode cX6_law 5 = .ok (.aload_n 0, 1) := by decide +kernel
theorem dX6_law_6 : decode cX6_law 6 = .ok (.getfield 9, 3) := by decide +kernel
theorem dX6_law_9 : decode cX6_law 9 = .ok (.if_icmp .ge 29, 3) := by decide +kernel
theorem dX6_law_12 : decode cX6_law 12 = .ok (.iload_n 1, 1) := by decide +kernel
theorem dX6_law_13 : decode cX6_law 13 = .ok (.aload_n 0, 1) := by decide +kernel
theorem dX6_law_14 : decode cX6_law 14 = .ok (.getfield 15, 3) := by decide +kernel
theorem dX6_law_17 : decode cX6_law 17 = .ok (.iload_n 2, 1) := by decide +kernel
theorem dX6_law_18 : decode cX6_law 18 = .ok (.iconst 1, 1) := by decide +kernel
theorem dX6_law_19 : decode cX6_law 19 = .ok (.isub, 1) := by decide +kernel
theorem dX6_law_20 : decode cX6_law 20 = .ok (.iaload, 1) := by decide +kernel
theorem dX6_law_21 : decode cX6_law 21 = .ok (.aload_n 0, 1) := by decide +kernel
theorem dX6_law_22 : decode cX6_law 22 = .ok (.getfield 15, 3) := by decide +kernel
theorem dX6_law_25 : decode cX6_law 25 = .ok (.iload_n 2, 1) := by decide +kernel
theorem dX6_law_26 : decode cX6_law 26 = .ok (.iaload, 1) := by decide +kernel
theorem dX6_law_27 : decode cX6_law 27 = .ok (.invokestatic 98, 3) := by decide +kernel
theorem dX6_law_30 : decode cX6_law 30 = .ok (.ior, 1) := by decide +kernel
theorem dX6_law_31 : decode cX6_law 31 = .ok (.istore_n 1, 1) := by decide +kernel
theorem dX6_law_32 : decode cX6_law 32 = .ok (.iinc 2 1, 3) := by decide +kernel
theorem dX6_law_35 : decode cX6_law 35 = .ok (.goto (-31), 3) := by decide +kernel
theorem dX6_law_38 : decode cX6_law 38 = .ok (.iload_n 1, 1) := by decide +kernel
theorem dX6_law_39 : decode cX6_law 39 = .ok (.ireturn, 1) := by decide +kernel
theorem dX6_layersUnder_0 : decode cX6_layersUnder 0 = .ok (.iconst 0, 1) := by decide +kernel
theorem dX6_layersUnder_1 : decode cX6_layersUnder 1 = .ok (.istore_n 3, 1) := by decide +kernel
theorem dX6_layersUnder_2 : decode cX6_layersUnder 2 = .ok (.iconst 0, 1) := by decide +kernel
theorem dX6_layersUnder_3 : decode cX6_layersUnder 3 = .ok (.istore 4, 2) := by decide +kernel
theorem dX6_layersUnder_5 : decode cX6_layersUnder 5 = .ok (.iload 4, 2) := by decide +kernel
theorem dX6_layersUnder_7 : decode cX6_layersUnder 7 = .ok (.aload_n 0, 1) := by decide +kernel
theorem dX6_layersUnder_8 : decode cX6_layersUnder 8 = .ok (.getfield 9, 3) := by decide +kernel
theorem dX6_layersUnder_11 : decode cX6_layersUnder 11 = .ok (.if_icmp .ge 32, 3) := by decide +kernel
theorem dX6_layersUnder_14 : decode cX6_layersUnder 14 = .ok (.iload_n 2, 1) := by decide +kernel
theorem dX6_layersUnder_15 : decode cX6_layersUnder 15 = .ok (.iload_n 1, 1) := by decide +kernel
theorem dX6_layersUnder_16 : decode cX6_layersUnder 16 = .ok (.aload_n 0, 1) := by decide +kernel
theorem dX6_layersUnder_17 : decode cX6_layersUnder 17 = .ok (.getfield 15, 3) := by decide +kernel
theorem dX6_layersUnder_20 : decode cX6_layersUnder 20 = .ok (.iload 4, 2) := by decide +kernel
theorem dX6_layersUnder_22 : decode cX6_layersUnder 22 = .ok (.iaload, 1) := by decide +kernel
theorem dX6_layersUnder_23 : decode cX6_layersUnder 23 = .ok (.invokestatic 98, 3) := by decide +kernel
theorem dX6_layersUnder_26 : decode cX6_layersUnder 26 = .ok (.iand, 1) := by decide +kernel
theorem dX6_layersUnder_27 : decode cX6_layersUnder 27 = .ok (.ifCond .eq 10, 3) := by decide +kernel
theorem dX6_layersUnder_30 : decode cX6_layersUnder 30 = .ok (.iload_n 3, 1) := by decide +kernel
theorem dX6_layersUnder_31 : decode cX6_layersUnder 31 = .ok (.iconst 1, 1) := by decide +kernel
theorem dX6_layersUnder_32 : decode cX6_layersUnder 32 = .ok (.iload 4, 2) := by decide +kernel
theorem dX6_layersUnder_34 : decode cX6_layersUnder 34 = .ok (.ishl, 1) := by decide +kernel
theorem dX6_layersUnder_35 : decode cX6_layersUnder 35 = .ok (.ior, 1) := by decide +kernel
theorem dX6_layersUnder_36 : decode cX6_layersUnder 36 = .ok (.istore_n 3, 1) := by decide +kernel
theorem dX6_layersUnder_37 : decode cX6_layersUnder 37 = .ok (.iinc 4 1, 3) := by decide +kernel
theorem dX6_layersUnder_40 : decode cX6_layersUnder 40 = .ok (.goto (-35), 3) := by decide +kernel
theorem dX6_layersUnder_43 : decode cX6_layersUnder 43 = .ok (.iload_n 3, 1) := by decide +kernel
theorem dX6_layersUnder_44 : decode cX6_layersUnder 44 = .ok (.ireturn, 1) := by decide +kernel
theorem dX6_rowFrom_0 : decode cX6_rowFrom 0 = .ok (.aload_n 0, 1) := by decide +kernel
theorem dX6_rowFrom_1 : decode cX6_rowFrom 1 = .ok (.iload_n 1, 1) := by decide +kernel
theorem dX6_rowFrom_2 : decode cX6_rowFrom 2 = .ok (.invokevirtual 64, 3) := by decide +kernel
theorem dX6_rowFrom_5 : decode cX6_rowFrom 5 = .ok (.ifCond .ne 5, 3) := by decide +kernel
theorem dX6_rowFrom_8 : decode cX6_rowFrom 8 = .ok (.iconst 0, 1) := by decide +kernel
theorem dX6_rowFrom_9 : decode cX6_rowFrom 9 = .ok (.ireturn, 1) := by decide +kernel
theorem dX6_rowFrom_10 : decode cX6_rowFrom 10 = .ok (.iload_n 1, 1) := by decide +kernel
theorem dX6_rowFrom_11 : decode cX6_rowFrom 11 = .ok (.iconst 1, 1) := by decide +kernel
theorem dX6_rowFrom_12 : decode cX6_rowFrom 12 = .ok (.iadd, 1) := by decide +kernel
theorem dX6_rowFrom_13 : decode cX6_rowFrom 13 = .ok (.istore_n 2, 1) := by decide +kernel
theorem dX6_rowFrom_14 : decode cX6_rowFrom 14 = .ok (.iload_n 2, 1) := by decide +kernel
theorem dX6_rowFrom_15 : decode cX6_rowFrom 15 = .ok (.aload_n 0, 1) := by decide +kernel
theorem dX6_rowFrom_16 : decode cX6_rowFrom 16 = .ok (.getfield 9, 3) := by decide +kernel
theorem dX6_rowFrom_19 : decode cX6_rowFrom 19 = .ok (.if_icmp .ge 24, 3) := by decide +kernel
theorem dX6_rowFrom_22 : decode cX6_rowFrom 22 = .ok (.aload_n 0, 1) := by decide +kernel
theorem dX6_rowFrom_23 : decode cX6_rowFrom 23 = .ok (.getfield 15, 3) := by decide +kernel
theorem dX6_rowFrom_26 : decode cX6_rowFrom 26 = .ok (.iload_n 2, 1) := by decide +kernel
theorem dX6_rowFrom_27 : decode cX6_rowFrom 27 = .ok (.iaload, 1) := by decide +kernel
theorem dX6_rowFrom_28 : decode cX6_rowFrom 28 = .ok (.aload_n 0, 1) := by decide +kernel
theorem dX6_rowFrom_29 : decode cX6_rowFrom 29 = .ok (.getfield 15, 3) := by decide +kernel
theorem dX6_rowFrom_32 : decode cX6_rowFrom 32 = .ok (.iload_n 1, 1) := by decide +kernel
theorem dX6_rowFrom_33 : decode cX6_rowFrom 33 = .ok (.iaload, 1) := by decide +kernel
theorem dX6_rowFrom_34 : decode cX6_rowFrom 34 = .ok (.if_icmp .ne 9, 3) := by decide +kernel
theorem dX6_rowFrom_37 : decode cX6_rowFrom 37 = .ok (.iinc 2 1, 3) := by decide +kernel
theorem dX6_rowFrom_40 : decode cX6_rowFrom 40 = .ok (.goto (-26), 3) := by decide +kernel
theorem dX6_rowFrom_43 : decode cX6_rowFrom 43 = .ok (.iload_n 2, 1) := by decide +kernel
theorem dX6_rowFrom_44 : decode cX6_rowFrom 44 = .ok (.iload_n 1, 1) := by decide +kernel
theorem dX6_rowFrom_45 : decode cX6_rowFrom 45 = .ok (.isub, 1) := by decide +kernel
theorem dX6_rowFrom_46 : decode cX6_rowFrom 46 = .ok (.ireturn, 1) := by decide +kernel
theorem dX6_startOfLongestRow_0 : decode cX6_startOfLongestRow 0 = .ok (.iconst (-1), 1) := by decide +kernel
theorem dX6_startOfLongestRow_1 : decode cX6_startOfLongestRow 1 = .ok (.istore_n 1, 1) := by decide +kernel
theorem dX6_startOfLongestRow_2 : decode cX6_startOfLongestRow 2 = .ok (.iconst 0, 1) := by decide +kernel
theorem dX6_startOfLongestRow_3 : decode cX6_startOfLongestRow 3 = .ok (.istore_n 2, 1) := by decide +kernel
theorem dX6_startOfLongestRow_4 : decode cX6_startOfLongestRow 4 = .ok (.iconst 0, 1) := by decide +kernel
theorem dX6_startOfLongestRow_5 : decode cX6_startOfLongestRow 5 = .ok (.istore_n 3, 1) := by decide +kernel
theorem dX6_startOfLongestRow_6 : decode cX6_startOfLongestRow 6 = .ok (.iload_n 3, 1) := by decide +kernel
theorem dX6_startOfLongestRow_7 : decode cX6_startOfLongestRow 7 = .ok (.aload_n 0, 1) := by decide +kernel
theorem dX6_startOfLongestRow_8 : decode cX6_startOfLongestRow 8 = .ok (.getfield 9, 3) := by decide +kernel
theorem dX6_startOfLongestRow_11 : decode cX6_startOfLongestRow 11 = .ok (.if_icmp .ge 27, 3) := by decide +kernel
theorem dX6_startOfLongestRow_14 : decode cX6_startOfLongestRow 14 = .ok (.aload_n 0, 1) := by decide +kernel
theorem dX6_startOfLongestRow_15 : decode cX6_startOfLongestRow 15 = .ok (.iload_n 3, 1) := by decide +kernel
theorem dX6_startOfLongestRow_16 : decode cX6_startOfLongestRow 16 = .ok (.invokevirtual 101, 3) := by decide +kernel
theorem dX6_startOfLongestRow_19 : decode cX6_startOfLongestRow 19 = .ok (.istore 4, 2) := by decide +kernel
theorem dX6_startOfLongestRow_21 : decode cX6_startOfLongestRow 21 = .ok (.iload 4, 2) := by decide +kernel
theorem dX6_startOfLongestRow_23 : decode cX6_startOfLongestRow 23 = .ok (.iload_n 2, 1) := by decide +kernel
theorem dX6_startOfLongestRow_24 : decode cX6_startOfLongestRow 24 = .ok (.if_icmp .le 8, 3) := by decide +kernel
theorem dX6_startOfLongestRow_27 : decode cX6_startOfLongestRow 27 = .ok (.iload 4, 2) := by decide +kernel
theorem dX6_startOfLongestRow_29 : decode cX6_startOfLongestRow 29 = .ok (.istore_n 2, 1) := by decide +kernel
theorem dX6_startOfLongestRow_30 : decode cX6_startOfLongestRow 30 = .ok (.iload_n 3, 1) := by decide +kernel
theorem dX6_startOfLongestRow_31 : decode cX6_startOfLongestRow 31 = .ok (.istore_n 1, 1) := by decide +kernel
theorem dX6_startOfLongestRow_32 : decode cX6_startOfLongestRow 32 = .ok (.iinc 3 1, 3) := by decide +kernel
theorem dX6_startOfLongestRow_35 : decode cX6_startOfLongestRow 35 = .ok (.goto (-29), 3) := by decide +kernel
theorem dX6_startOfLongestRow_38 : decode cX6_startOfLongestRow 38 = .ok (.iload_n 1, 1) := by decide +kernel
theorem dX6_startOfLongestRow_39 : decode cX6_startOfLongestRow 39 = .ok (.ireturn, 1) := by decide +kernel
theorem dX6_mostTears_0 : decode cX6_mostTears 0 = .ok (.iconst (-1), 1) := by decide +kernel
theorem dX6_mostTears_1 : decode cX6_mostTears 1 = .ok (.istore_n 2, 1) := by decide +kernel
theorem dX6_mostTears_2 : decode cX6_mostTears 2 = .ok (.iconst (-1), 1) := by decide +kernel
theorem dX6_mostTears_3 : decode cX6_mostTears 3 = .ok (.istore_n 3, 1) := by decide +kernel
theorem dX6_mostTears_4 : decode cX6_mostTears 4 = .ok (.iconst 0, 1) := by decide +kernel
theorem dX6_mostTears_5 : decode cX6_mostTears 5 = .ok (.istore 4, 2) := by decide +kernel
theorem dX6_mostTears_7 : decode cX6_mostTears 7 = .ok (.iload 4, 2) := by decide +kernel
theorem dX6_mostTears_9 : decode cX6_mostTears 9 = .ok (.iload_n 1, 1) := by decide +kernel
theorem dX6_mostTears_10 : decode cX6_mostTears 10 = .ok (.if_icmp .ge 37, 3) := by decide +kernel
theorem dX6_mostTears_13 : decode cX6_mostTears 13 = .ok (.iload 4, 2) := by decide +kernel
theorem dX6_mostTears_15 : decode cX6_mostTears 15 = .ok (.iconst 5, 1) := by decide +kernel
theorem dX6_mostTears_16 : decode cX6_mostTears 16 = .ok (.if_icmp .ge 31, 3) := by decide +kernel
theorem dX6_mostTears_19 : decode cX6_mostTears 19 = .ok (.aload_n 0, 1) := by decide +kernel
theorem dX6_mostTears_20 : decode cX6_mostTears 20 = .ok (.getfield 25, 3) := by decide +kernel
theorem dX6_mostTears_23 : decode cX6_mostTears 23 = .ok (.iload 4, 2) := by decide +kernel
theorem dX6_mostTears_25 : decode cX6_mostTears 25 = .ok (.iaload, 1) := by decide +kernel
theorem dX6_mostTears_26 : decode cX6_mostTears 26 = .ok (.iload_n 3, 1) := by decide +kernel
theorem dX6_mostTears_27 : decode cX6_mostTears 27 = .ok (.if_icmp .le 14, 3) := by decide +kernel
theorem dX6_mostTears_30 : decode cX6_mostTears 30 = .ok (.aload_n 0, 1) := by decide +kernel
theorem dX6_mostTears_31 : decode cX6_mostTears 31 = .ok (.getfield 25, 3) := by decide +kernel
theorem dX6_mostTears_34 : decode cX6_mostTears 34 = .ok (.iload 4, 2) := by decide +kernel
theorem dX6_mostTears_36 : decode cX6_mostTears 36 = .ok (.iaload, 1) := by decide +kernel
theorem dX6_mostTears_37 : decode cX6_mostTears 37 = .ok (.istore_n 3, 1) := by decide +kernel
theorem dX6_mostTears_38 : decode cX6_mostTears 38 = .ok (.iload 4, 2) := by decide +kernel
theorem dX6_mostTears_40 : decode cX6_mostTears 40 = .ok (.istore_n 2, 1) := by decide +kernel
theorem dX6_mostTears_41 : decode cX6_mostTears 41 = .ok (.iinc 4 1, 3) := by decide +kernel
theorem dX6_mostTears_44 : decode cX6_mostTears 44 = .ok (.goto (-37), 3) := by decide +kernel
theorem dX6_mostTears_47 : decode cX6_mostTears 47 = .ok (.iload_n 2, 1) := by decide +kernel
theorem dX6_mostTears_48 : decode cX6_mostTears 48 = .ok (.ireturn, 1) := by decide +kernel
theorem dX6_dryIn_0 : decode cX6_dryIn 0 = .ok (.iconst 0, 1) := by decide +kernel
theorem dX6_dryIn_1 : decode cX6_dryIn 1 = .ok (.istore_n 2, 1) := by decide +kernel
theorem dX6_dryIn_2 : decode cX6_dryIn 2 = .ok (.iconst 0, 1) := by decide +kernel
theorem dX6_dryIn_3 : decode cX6_dryIn 3 = .ok (.istore_n 3, 1) := by decide +kernel
theorem dX6_dryIn_4 : decode cX6_dryIn 4 = .ok (.iload_n 3, 1) := by decide +kernel
theorem dX6_dryIn_5 : decode cX6_dryIn 5 = .ok (.aload_n 1, 1) := by decide +kernel
theorem dX6_dryIn_6 : decode cX6_dryIn 6 = .ok (.getfield 85, 3) := by decide +kernel
theorem dX6_dryIn_9 : decode cX6_dryIn 9 = .ok (.if_icmp .ge 40, 3) := by decide +kernel
theorem dX6_dryIn_12 : decode cX6_dryIn 12 = .ok (.iconst 1, 1) := by decide +kernel
theorem dX6_dryIn_13 : decode cX6_dryIn 13 = .ok (.aload_n 1, 1) := by decide +kernel
theorem dX6_dryIn_14 : decode cX6_dryIn 14 = .ok (.getfield 88, 3) := by decide +kernel
theorem dX6_dryIn_17 : decode cX6_dryIn 17 = .ok (.iload_n 3, 1) := by decide +kernel
theorem dX6_dryIn_18 : decode cX6_dryIn 18 = .ok (.iaload, 1) := by decide +kernel
theorem dX6_dryIn_19 : decode cX6_dryIn 19 = .ok (.invokestatic 91, 3) := by decide +kernel
theorem dX6_dryIn_22 : decode cX6_dryIn 22 = .ok (.istore 4, 2) := by decide +kernel
theorem dX6_dryIn_24 : decode cX6_dryIn 24 = .ok (.iload_n 2, 1) := by decide +kernel
theorem dX6_dryIn_25 : decode cX6_dryIn 25 = .ok (.aload_n 0, 1) := by decide +kernel
theorem dX6_dryIn_26 : decode cX6_dryIn 26 = .ok (.getfield 25, 3) := by decide +kernel
theorem dX6_dryIn_29 : decode cX6_dryIn 29 = .ok (.iload_n 3, 1) := by decide +kernel
theorem dX6_dryIn_30 : decode cX6_dryIn 30 = .ok (.iaload, 1) := by decide +kernel
theorem dX6_dryIn_31 : decode cX6_dryIn 31 = .ok (.iload 4, 2) := by decide +kernel
theorem dX6_dryIn_33 : decode cX6_dryIn 33 = .ok (.iadd, 1) := by decide +kernel
theorem dX6_dryIn_34 : decode cX6_dryIn 34 = .ok (.iconst 1, 1) := by decide +kernel
theorem dX6_dryIn_35 : decode cX6_dryIn 35 = .ok (.isub, 1) := by decide +kernel
theorem dX6_dryIn_36 : decode cX6_dryIn 36 = .ok (.iload 4, 2) := by decide +kernel
theorem dX6_dryIn_38 : decode cX6_dryIn 38 = .ok (.idiv, 1) := by decide +kernel
theorem dX6_dryIn_39 : decode cX6_dryIn 39 = .ok (.invokestatic 91, 3) := by decide +kernel
theorem dX6_dryIn_42 : decode cX6_dryIn 42 = .ok (.istore_n 2, 1) := by decide +kernel
theorem dX6_dryIn_43 : decode cX6_dryIn 43 = .ok (.iinc 3 1, 3) := by decide +kernel
theorem dX6_dryIn_46 : decode cX6_dryIn 46 = .ok (.goto (-42), 3) := by decide +kernel
theorem dX6_dryIn_49 : decode cX6_dryIn 49 = .ok (.iload_n 2, 1) := by decide +kernel
theorem dX6_dryIn_50 : decode cX6_dryIn 50 = .ok (.ireturn, 1) := by decide +kernel
