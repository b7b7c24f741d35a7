theorem dX0_init_0 : decode cX0_init 0 = .ok (.aload_n 0, 1) := by decide +kernel
theorem dX0_init_1 : decode cX0_init 1 = .ok (.invokespecial 3, 3) := by decide +kernel
theorem dX0_init_4 : decode cX0_init 4 = .ok (.aload_n 0, 1) := by decide +kernel
theorem dX0_init_5 : decode cX0_init 5 = .ok (.bipush 20, 2) := by decide +kernel
theorem dX0_init_7 : decode cX0_init 7 = .ok (.newarray .int, 2) := by decide +kernel
theorem dX0_init_9 : decode cX0_init 9 = .ok (.putfield 9, 3) := by decide +kernel
theorem dX0_init_12 : decode cX0_init 12 = .ok (.aload_n 0, 1) := by decide +kernel
theorem dX0_init_13 : decode cX0_init 13 = .ok (.bipush 20, 2) := by decide +kernel
theorem dX0_init_15 : decode cX0_init 15 = .ok (.newarray .int, 2) := by decide +kernel
theorem dX0_init_17 : decode cX0_init 17 = .ok (.putfield 15, 3) := by decide +kernel
theorem dX0_init_20 : decode cX0_init 20 = .ok (.aload_n 0, 1) := by decide +kernel
theorem dX0_init_21 : decode cX0_init 21 = .ok (.iconst 0, 1) := by decide +kernel
theorem dX0_init_22 : decode cX0_init 22 = .ok (.putfield 18, 3) := by decide +kernel
theorem dX0_init_25 : decode cX0_init 25 = .ok (.return_, 1) := by decide +kernel
theorem dX0_add_0 : decode cX0_add 0 = .ok (.aload_n 0, 1) := by decide +kernel
theorem dX0_add_1 : decode cX0_add 1 = .ok (.getfield 18, 3) := by decide +kernel
theorem dX0_add_4 : decode cX0_add 4 = .ok (.bipush 20, 2) := by decide +kernel
theorem dX0_add_6 : decode cX0_add 6 = .ok (.if_icmp .lt 6, 3) := by decide +kernel
theorem dX0_add_9 : decode cX0_add 9 = .ok (.ldc 22, 2) := by decide +kernel
theorem dX0_add_11 : decode cX0_add 11 = .ok (.ireturn, 1) := by decide +kernel
theorem dX0_add_12 : decode cX0_add 12 = .ok (.aload_n 0, 1) := by decide +kernel
theorem dX0_add_13 : decode cX0_add 13 = .ok (.getfield 9, 3) := by decide +kernel
theorem dX0_add_16 : decode cX0_add 16 = .ok (.aload_n 0, 1) := by decide +kernel
theorem dX0_add_17 : decode cX0_add 17 = .ok (.getfield 18, 3) := by decide +kernel
theorem dX0_add_20 : decode cX0_add 20 = .ok (.iload_n 1, 1) := by decide +kernel
theorem dX0_add_21 : decode cX0_add 21 = .ok (.iastore, 1) := by decide +kernel
theorem dX0_add_22 : decode cX0_add 22 = .ok (.aload_n 0, 1) := by decide +kernel
theorem dX0_add_23 : decode cX0_add 23 = .ok (.getfield 15, 3) := by decide +kernel
theorem dX0_add_26 : decode cX0_add 26 = .ok (.aload_n 0, 1) := by decide +kernel
theorem dX0_add_27 : decode cX0_add 27 = .ok (.getfield 18, 3) := by decide +kernel
theorem dX0_add_30 : decode cX0_add 30 = .ok (.iload_n 2, 1) := by decide +kernel
theorem dX0_add_31 : decode cX0_add 31 = .ok (.iastore, 1) := by decide +kernel
theorem dX0_add_32 : decode cX0_add 32 = .ok (.aload_n 0, 1) := by decide +kernel
theorem dX0_add_33 : decode cX0_add 33 = .ok (.dup, 1) := by decide +kernel
theorem dX0_add_34 : decode cX0_add 34 = .ok (.getfield 18, 3) := by decide +kernel
theorem dX0_add_37 : decode cX0_add 37 = .ok (.iconst 1, 1) := by decide +kernel
theorem dX0_add_38 : decode cX0_add 38 = .ok (.iadd, 1) := by decide +kernel
theorem dX0_add_39 : decode cX0_add 39 = .ok (.putfield 18, 3) := by decide +kernel
theorem dX0_add_42 : decode cX0_add 42 = .ok (.aload_n 0, 1) := by decide +kernel
theorem dX0_add_43 : decode cX0_add 43 = .ok (.getfield 18, 3) := by decide +kernel
theorem dX0_add_46 : decode cX0_add 46 = .ok (.ireturn, 1) := by decide +kernel
theorem dX0_firstWrong_0 : decode cX0_firstWrong 0 = .ok (.iconst 0, 1) := by decide +kernel
theorem dX0_firstWrong_1 : decode cX0_firstWrong 1 = .ok (.istore_n 2, 1) := by decide +kernel
theorem dX0_firstWrong_2 : decode cX0_firstWrong 2 = .ok (.iload_n 2, 1) := by decide +kernel
theorem dX0_firstWrong_3 : decode cX0_firstWrong 3 = .ok (.aload_n 0, 1) := by decide +kernel
theorem dX0_firstWrong_4 : decode cX0_firstWrong 4 = .ok (.getfield 18, 3) := by decide +kernel
theorem dX0_firstWrong_7 : decode cX0_firstWrong 7 = .ok (.if_icmp .ge 42, 3) := by decide +kernel
theorem dX0_firstWrong_10 : decode cX0_firstWrong 10 = .ok (.aload_n 0, 1) := by decide +kernel
theorem dX0_firstWrong_11 : decode cX0_firstWrong 11 = .ok (.getfield 9, 3) := by decide +kernel
theorem dX0_firstWrong_14 : decode cX0_firstWrong 14 = .ok (.iload_n 2, 1) := by decide +kernel
theorem dX0_firstWrong_15 : decode cX0_firstWrong 15 = .ok (.iaload, 1) := by decide +kernel
theorem dX0_firstWrong_16 : decode cX0_firstWrong 16 = .ok (.istore_n 3, 1) := by decide +kernel
theorem dX0_firstWrong_17 : decode cX0_firstWrong 17 = .ok (.iload_n 3, 1) := by decide +kernel
theorem dX0_firstWrong_18 : decode cX0_firstWrong 18 = .ok (.ifCond .lt 25, 3) := by decide +kernel
theorem dX0_firstWrong_21 : decode cX0_firstWrong 21 = .ok (.iload_n 3, 1) := by decide +kernel
theorem dX0_firstWrong_22 : decode cX0_firstWrong 22 = .ok (.iconst 5, 1) := by decide +kernel
theorem dX0_firstWrong_23 : decode cX0_firstWrong 23 = .ok (.if_icmp .ge 20, 3) := by decide +kernel
theorem dX0_firstWrong_26 : decode cX0_firstWrong 26 = .ok (.aload_n 1, 1) := by decide +kernel
theorem dX0_firstWrong_27 : decode cX0_firstWrong 27 = .ok (.getfield 23, 3) := by decide +kernel
theorem dX0_firstWrong_30 : decode cX0_firstWrong 30 = .ok (.iload_n 3, 1) := by decide +kernel
theorem dX0_firstWrong_31 : decode cX0_firstWrong 31 = .ok (.iaload, 1) := by decide +kernel
theorem dX0_firstWrong_32 : decode cX0_firstWrong 32 = .ok (.aload_n 0, 1) := by decide +kernel
theorem dX0_firstWrong_33 : decode cX0_firstWrong 33 = .ok (.getfield 15, 3) := by decide +kernel
theorem dX0_firstWrong_36 : decode cX0_firstWrong 36 = .ok (.iload_n 2, 1) := by decide +kernel
theorem dX0_firstWrong_37 : decode cX0_firstWrong 37 = .ok (.iaload, 1) := by decide +kernel
theorem dX0_firstWrong_38 : decode cX0_firstWrong 38 = .ok (.if_icmp .eq 5, 3) := by decide +kernel
theorem dX0_firstWrong_41 : decode cX0_firstWrong 41 = .ok (.iload_n 2, 1) := by decide +kernel
theorem dX0_firstWrong_42 : decode cX0_firstWrong 42 = .ok (.ireturn, 1) := by decide +kernel
theorem dX0_firstWrong_43 : decode cX0_firstWrong 43 = .ok (.iinc 2 1, 3) := by decide +kernel
theorem dX0_firstWrong_46 : decode cX0_firstWrong 46 = .ok (.goto (-44), 3) := by decide +kernel
theorem dX0_firstWrong_49 : decode cX0_firstWrong 49 = .ok (.iconst (-1), 1) := by decide +kernel
theorem dX0_firstWrong_50 : decode cX0_firstWrong 50 = .ok (.ireturn, 1) := by decide +kernel
theorem dX1_init_0 : decode cX1_init 0 = .ok (.aload_n 0, 1) := by decide +kernel
theorem dX1_init_1 : decode cX1_init 1 = .ok (.invokespecial 3, 3) := by decide +kernel
theorem dX1_init_4 : decode cX1_init 4 = .ok (.aload_n 0, 1) := by decide +kernel
theorem dX1_init_5 : decode cX1_init 5 = .ok (.iconst 0, 1) := by decide +kernel
theorem dX1_init_6 : decode cX1_init 6 = .ok (.putfield 9, 3) := by decide +kernel
theorem dX1_init_9 : decode cX1_init 9 = .ok (.aload_n 0, 1) := by decide +kernel
theorem dX1_init_10 : decode cX1_init 10 = .ok (.iconst (-1), 1) := by decide +kernel
theorem dX1_init_11 : decode cX1_init 11 = .ok (.putfield 15, 3) := by decide +kernel
theorem dX1_init_14 : decode cX1_init 14 = .ok (.aload_n 0, 1) := by decide +kernel
theorem dX1_init_15 : decode cX1_init 15 = .ok (.iconst 0, 1) := by decide +kernel
theorem dX1_init_16 : decode cX1_init 16 = .ok (.putfield 19, 3) := by decide +kernel
theorem dX1_init_19 : decode cX1_init 19 = .ok (.aload_n 0, 1) := by decide +kernel
theorem dX1_init_20 : decode cX1_init 20 = .ok (.iconst 0, 1) := by decide +kernel
theorem dX1_init_21 : decode cX1_init 21 = .ok (.putfield 22, 3) := by decide +kernel
theorem dX1_init_24 : decode cX1_init 24 = .ok (.aload_n 0, 1) := by decide +kernel
theorem dX1_init_25 : decode cX1_init 25 = .ok (.iconst 0, 1) := by decide +kernel
theorem dX1_init_26 : decode cX1_init 26 = .ok (.putfield 25, 3) := by decide +kernel
theorem dX1_init_29 : decode cX1_init 29 = .ok (.aload_n 0, 1) := by decide +kernel
theorem dX1_init_30 : decode cX1_init 30 = .ok (.bipush 12, 2) := by decide +kernel
theorem dX1_init_32 : decode cX1_init 32 = .ok (.newarray .int, 2) := by decide +kernel
theorem dX1_init_34 : decode cX1_init 34 = .ok (.putfield 28, 3) := by decide +kernel
theorem dX1_init_37 : decode cX1_init 37 = .ok (.aload_n 0, 1) := by decide +kernel
theorem dX1_init_38 : decode cX1_init 38 = .ok (.bipush 12, 2) := by decide +kernel
theorem dX1_init_40 : decode cX1_init 40 = .ok (.newarray .int, 2) := by decide +kernel
theorem dX1_init_42 : decode cX1_init 42 = .ok (.putfield 32, 3) := by decide +kernel
theorem dX1_init_45 : decode cX1_init 45 = .ok (.aload_n 0, 1) := by decide +kernel
theorem dX1_init_46 : decode cX1_init 46 = .ok (.iconst 5, 1) := by decide +kernel
theorem dX1_init_47 : decode cX1_init 47 = .ok (.newarray .int, 2) := by decide +kernel
theorem dX1_init_49 : decode cX1_init 49 = .ok (.putfield 35, 3) := by decide +kernel
theorem dX1_init_52 : decode cX1_init 52 = .ok (.aload_n 0, 1) := by decide +kernel
theorem dX1_init_53 : decode cX1_init 53 = .ok (.iconst 5, 1) := by decide +kernel
theorem dX1_init_54 : decode cX1_init 54 = .ok (.newarray .int, 2) := by decide +kernel
theorem dX1_init_56 : decode cX1_init 56 = .ok (.putfield 38, 3) := by decide +kernel
theorem dX1_init_59 : decode cX1_init 59 = .ok (.aload_n 0, 1) := by decide +kernel
theorem dX1_init_60 : decode cX1_init 60 = .ok (.bipush 6, 2) := by decide +kernel
theorem dX1_init_62 : decode cX1_init 62 = .ok (.newarray .int, 2) := by decide +kernel
theorem dX1_init_64 : decode cX1_init 64 = .ok (.putfield 41, 3) := by decide +kernel
theorem dX1_init_67 : decode cX1_init 67 = .ok (.aload_n 0, 1) := by decide +kernel
theorem dX1_init_68 : decode cX1_init 68 = .ok (.bipush 6, 2) := by decide +kernel
theorem dX1_init_70 : decode cX1_init 70 = .ok (.bipush 8, 2) := by decide +kernel
theorem dX1_init_72 : decode cX1_init 72 = .ok (.multianewarray 44 2, 4) := by decide +kernel
theorem dX1_init_76 : decode cX1_init 76 = .ok (.putfield 46, 3) := by decide +kernel
theorem dX1_init_79 : decode cX1_init 79 = .ok (.return_, 1) := by decide +kernel
theorem dX1_clear_0 : decode cX1_clear 0 = .ok (.aload_n 0, 1) := by decide +kernel
theorem dX1_clear_1 : decode cX1_clear 1 = .ok (.iconst 0, 1) := by decide +kernel
theorem dX1_clear_2 : decode cX1_clear 2 = .ok (.putfield 9, 3) := by decide +kernel
theorem dX1_clear_5 : decode cX1_clear 5 = .ok (.aload_n 0, 1) := by decide +kernel
theorem dX1_clear_6 : decode cX1_clear 6 = .ok (.iconst (-1), 1) := by decide +kernel
theorem dX1_clear_7 : decode cX1_clear 7 = .ok (.putfield 15, 3) := by decide +kernel
theorem dX1_clear_10 : decode cX1_clear 10 = .ok (.aload_n 0, 1) := by decide +kernel
theorem dX1_clear_11 : decode cX1_clear 11 = .ok (.iconst 0, 1) := by decide +kernel
theorem dX1_clear_12 : decode cX1_clear 12 = .ok (.putfield 19, 3) := by decide +kernel
theorem dX1_clear_15 : decode cX1_clear 15 = .ok (.aload_n 0, 1) := by decide +kernel
theorem dX1_clear_16 : decode cX1_clear 16 = .ok (.iconst 0, 1) := by decide +kernel
theorem dX1_clear_17 : decode cX1_clear 17 = .ok (.putfield 22, 3) := by decide +kernel
theorem dX1_clear_20 : decode cX1_clear 20 = .ok (.aload_n 0, 1) := by decide +kernel
theorem dX1_clear_21 : decode cX1_clear 21 = .ok (.iconst 0, 1) := by decide +kernel
theorem dX1_clear_22 : decode cX1_clear 22 = .ok (.putfield 25, 3) := by decide +kernel
theorem dX1_clear_25 : decode cX1_clear 25 = .ok (.return_, 1) := by decide +kernel
theorem dX1_hasExecutor_0 : decode cX1_hasExecutor 0 = .ok (.iload_n 1, 1) := by decide +kernel
theorem dX1_hasExecutor_1 : decode cX1_hasExecutor 1 = .ok (.ifCond .lt 15, 3) := by decide +kernel
theorem dX1_hasExecutor_4 : decode cX1_hasExecutor 4 = .ok (.iload_n 1, 1) := by decide +kernel
theorem dX1_hasExecutor_5 : decode cX1_hasExecutor 5 = .ok (.aload_n 0, 1) := by decide +kernel
theorem dX1_hasExecutor_6 : decode cX1_hasExecutor 6 = .ok (.getfield 22, 3) := by decide +kernel
theorem dX1_hasExecutor_9 : decode cX1_hasExecutor 9 = .ok (.if_icmp .ge 7, 3) := by decide +kernel
theorem dX1_hasExecutor_12 : decode cX1_hasExecutor 12 = .ok (.iconst 1, 1) := by decide +kernel
theorem dX1_hasExecutor_13 : decode cX1_hasExecutor 13 = .ok (.goto 4, 3) := by decide +kernel
theorem dX1_hasExecutor_16 : decode cX1_hasExecutor 16 = .ok (.iconst 0, 1) := by decide +kernel
theorem dX1_hasExecutor_17 : decode cX1_hasExecutor 17 = .ok (.ireturn, 1) := by decide +kernel
theorem dX1_isFullOf_0 : decode cX1_isFullOf 0 = .ok (.iload_n 1, 1) := by decide +kernel
theorem dX1_isFullOf_1 : decode cX1_isFullOf 1 = .ok (.lookupswitch 78 #[(101, 64), (108, 49), (109, 35)], 35) := by decide +kernel
theorem dX1_isFullOf_36 : decode cX1_isFullOf 36 = .ok (.aload_n 0, 1) := by decide +kernel
theorem dX1_isFullOf_37 : decode cX1_isFullOf 37 = .ok (.getfield 15, 3) := by decide +kernel
theorem dX1_isFullOf_40 : decode cX1_isFullOf 40 = .ok (.iconst (-1), 1) := by decide +kernel
theorem dX1_isFullOf_41 : decode cX1_isFullOf 41 = .ok (.if_icmp .eq 7, 3) := by decide +kernel
theorem dX1_isFullOf_44 : decode cX1_isFullOf 44 = .ok (.iconst 1, 1) := by decide +kernel
theorem dX1_isFullOf_45 : decode cX1_isFullOf 45 = .ok (.goto 4, 3) := by decide +kernel
theorem dX1_isFullOf_48 : decode cX1_isFullOf 48 = .ok (.iconst 0, 1) := by decide +kernel
theorem dX1_isFullOf_49 : decode cX1_isFullOf 49 = .ok (.ireturn, 1) := by decide +kernel
theorem dX1_isFullOf_50 : decode cX1_isFullOf 50 = .ok (.aload_n 0, 1) := by decide +kernel
theorem dX1_isFullOf_51 : decode cX1_isFullOf 51 = .ok (.getfield 19, 3) := by decide +kernel
theorem dX1_isFullOf_54 : decode cX1_isFullOf 54 = .ok (.bipush 12, 2) := by decide +kernel
theorem dX1_isFullOf_56 : decode cX1_isFullOf 56 = .ok (.if_icmp .lt 7, 3) := by decide +kernel
theorem dX1_isFullOf_59 : decode cX1_isFullOf 59 = .ok (.iconst 1, 1) := by decide +kernel
theorem dX1_isFullOf_60 : decode cX1_isFullOf 60 = .ok (.goto 4, 3) := by decide +kernel
theorem dX1_isFullOf_63 : decode cX1_isFullOf 63 = .ok (.iconst 0, 1) := by decide +kernel
theorem dX1_isFullOf_64 : decode cX1_isFullOf 64 = .ok (.ireturn, 1) := by decide +kernel
theorem dX1_isFullOf_65 : decode cX1_isFullOf 65 = .ok (.aload_n 0, 1) := by decide +kernel
theorem dX1_isFullOf_66 : decode cX1_isFullOf 66 = .ok (.getfield 22, 3) := by decide +kernel
theorem dX1_isFullOf_69 : decode cX1_isFullOf 69 = .ok (.iconst 5, 1) := by decide +kernel
theorem dX1_isFullOf_70 : decode cX1_isFullOf 70 = .ok (.if_icmp .lt 7, 3) := by decide +kernel
theorem dX1_isFullOf_73 : decode cX1_isFullOf 73 = .ok (.iconst 1, 1) := by decide +kernel
theorem dX1_isFullOf_74 : decode cX1_isFullOf 74 = .ok (.goto 4, 3) := by decide +kernel
theorem dX1_isFullOf_77 : decode cX1_isFullOf 77 = .ok (.iconst 0, 1) := by decide +kernel
theorem dX1_isFullOf_78 : decode cX1_isFullOf 78 = .ok (.ireturn, 1) := by decide +kernel
theorem dX1_isFullOf_79 : decode cX1_isFullOf 79 = .ok (.aload_n 0, 1) := by decide +kernel
theorem dX1_isFullOf_80 : decode cX1_isFullOf 80 = .ok (.getfield 25, 3) := by decide +kernel
theorem dX1_isFullOf_83 : decode cX1_isFullOf 83 = .ok (.bipush 6, 2) := by decide +kernel
theorem dX1_isFullOf_85 : decode cX1_isFullOf 85 = .ok (.if_icmp .lt 7, 3) := by decide +kernel
theorem dX1_isFullOf_88 : decode cX1_isFullOf 88 = .ok (.iconst 1, 1) := by decide +kernel
theorem dX1_isFullOf_89 : decode cX1_isFullOf 89 = .ok (.goto 4, 3) := by decide +kernel
theorem dX1_isFullOf_92 : decode cX1_isFullOf 92 = .ok (.iconst 0, 1) := by decide +kernel
theorem dX1_isFullOf_93 : decode cX1_isFullOf 93 = .ok (.ireturn, 1) := by decide +kernel
theorem dX1_addLayer_0 : decode cX1_addLayer 0 = .ok (.aload_n 0, 1) := by decide +kernel
theorem dX1_addLayer_1 : decode cX1_addLayer 1 = .ok (.getfield 19, 3) := by decide +kernel
theorem dX1_addLayer_4 : decode cX1_addLayer 4 = .ok (.bipush 12, 2) := by decide +kernel
theorem dX1_addLayer_6 : decode cX1_addLayer 6 = .ok (.if_icmp .ge 33, 3) := by decide +kernel
theorem dX1_addLayer_9 : decode cX1_addLayer 9 = .ok (.aload_n 0, 1) := by decide +kernel
theorem dX1_addLayer_10 : decode cX1_addLayer 10 = .ok (.getfield 28, 3) := by decide +kernel
theorem dX1_addLayer_13 : decode cX1_addLayer 13 = .ok (.aload_n 0, 1) := by decide +kernel
theorem dX1_addLayer_14 : decode cX1_addLayer 14 = .ok (.getfield 19, 3) := by decide +kernel
theorem dX1_addLayer_17 : decode cX1_addLayer 17 = .ok (.iload_n 1, 1) := by decide +kernel
theorem dX1_addLayer_18 : decode cX1_addLayer 18 = .ok (.iastore, 1) := by decide +kernel
theorem dX1_addLayer_19 : decode cX1_addLayer 19 = .ok (.aload_n 0, 1) := by decide +kernel
theorem dX1_addLayer_20 : decode cX1_addLayer 20 = .ok (.getfield 32, 3) := by decide +kernel
theorem dX1_addLayer_23 : decode cX1_addLayer 23 = .ok (.aload_n 0, 1) := by decide +kernel
theorem dX1_addLayer_24 : decode cX1_addLayer 24 = .ok (.getfield 19, 3) := by decide +kernel
theorem dX1_addLayer_27 : decode cX1_addLayer 27 = .ok (.iload_n 2, 1) := by decide +kernel
theorem dX1_addLayer_28 : decode cX1_addLayer 28 = .ok (.iastore, 1) := by decide +kernel
theorem dX1_addLayer_29 : decode cX1_addLayer 29 = .ok (.aload_n 0, 1) := by decide +kernel
theorem dX1_addLayer_30 : decode cX1_addLayer 30 = .ok (.dup, 1) := by decide +kernel
theorem dX1_addLayer_31 : decode cX1_addLayer 31 = .ok (.getfield 19, 3) := by decide +kernel
theorem dX1_addLayer_34 : decode cX1_addLayer 34 = .ok (.iconst 1, 1) := by decide +kernel
theorem dX1_addLayer_35 : decode cX1_addLayer 35 = .ok (.iadd, 1) := by decide +kernel
theorem dX1_addLayer_36 : decode cX1_addLayer 36 = .ok (.putfield 19, 3) := by decide +kernel
theorem dX1_addLayer_39 : decode cX1_addLayer 39 = .ok (.return_, 1) := by decide +kernel
theorem dX1_addExecutor_0 : decode cX1_addExecutor 0 = .ok (.aload_n 0, 1) := by decide +kernel
theorem dX1_addExecutor_1 : decode cX1_addExecutor 1 = .ok (.getfield 22, 3) := by decide +kernel
theorem dX1_addExecutor_4 : decode cX1_addExecutor 4 = .ok (.iconst 5, 1) := by decide +kernel
theorem dX1_addExecutor_5 : decode cX1_addExecutor 5 = .ok (.if_icmp .ge 33, 3) := by decide +kernel
theorem dX1_addExecutor_8 : decode cX1_addExecutor 8 = .ok (.aload_n 0, 1) := by decide +kernel
theorem dX1_addExecutor_9 : decode cX1_addExecutor 9 = .ok (.getfield 35, 3) := by decide +kernel
theorem dX1_addExecutor_12 : decode cX1_addExecutor 12 = .ok (.aload_n 0, 1) := by decide +kernel
theorem dX1_addExecutor_13 : decode cX1_addExecutor 13 = .ok (.getfield 22, 3) := by decide +kernel
theorem dX1_addExecutor_16 : decode cX1_addExecutor 16 = .ok (.iload_n 1, 1) := by decide +kernel
theorem dX1_addExecutor_17 : decode cX1_addExecutor 17 = .ok (.iastore, 1) := by decide +kernel
theorem dX1_addExecutor_18 : decode cX1_addExecutor 18 = .ok (.aload_n 0, 1) := by decide +kernel
theorem dX1_addExecutor_19 : decode cX1_addExecutor 19 = .ok (.getfield 38, 3) := by decide +kernel
theorem dX1_addExecutor_22 : decode cX1_addExecutor 22 = .ok (.aload_n 0, 1) := by decide +kernel
theorem dX1_addExecutor_23 : decode cX1_addExecutor 23 = .ok (.getfield 22, 3) := by decide +kernel
theorem dX1_addExecutor_26 : decode cX1_addExecutor 26 = .ok (.iload_n 2, 1) := by decide +kernel
theorem dX1_addExecutor_27 : decode cX1_addExecutor 27 = .ok (.iastore, 1) := by decide +kernel
theorem dX1_addExecutor_28 : decode cX1_addExecutor 28 = .ok (.aload_n 0, 1) := by decide +kernel
theorem dX1_addExecutor_29 : decode cX1_addExecutor 29 = .ok (.dup, 1) := by decide +kernel
theorem dX1_addExecutor_30 : decode cX1_addExecutor 30 = .ok (.getfield 22, 3) := by decide +kernel
theorem dX1_addExecutor_33 : decode cX1_addExecutor 33 = .ok (.iconst 1, 1) := by decide +kernel
theorem dX1_addExecutor_34 : decode cX1_addExecutor 34 = .ok (.iadd, 1) := by decide +kernel
theorem dX1_addExecutor_35 : decode cX1_addExecutor 35 = .ok (.putfield 22, 3) := by decide +kernel
theorem dX1_addExecutor_38 : decode cX1_addExecutor 38 = .ok (.return_, 1) := by decide +kernel
theorem dX1_addType_0 : decode cX1_addType 0 = .ok (.aload_n 0, 1) := by decide +kernel
theorem dX1_addType_1 : decode cX1_addType 1 = .ok (.getfield 25, 3) := by decide +kernel
theorem dX1_addType_4 : decode cX1_addType 4 = .ok (.bipush 6, 2) := by decide +kernel
theorem dX1_addType_6 : decode cX1_addType 6 = .ok (.if_icmp .ge 55, 3) := by decide +kernel
theorem dX1_addType_9 : decode cX1_addType 9 = .ok (.iload_n 2, 1) := by decide +kernel
theorem dX1_addType_10 : decode cX1_addType 10 = .ok (.ifCond .lt 51, 3) := by decide +kernel
theorem dX1_addType_13 : decode cX1_addType 13 = .ok (.iload_n 2, 1) := by decide +kernel
theorem dX1_addType_14 : decode cX1_addType 14 = .ok (.bipush 8, 2) := by decide +kernel
theorem dX1_addType_16 : decode cX1_addType 16 = .ok (.if_icmp .gt 45, 3) := by decide +kernel
theorem dX1_addType_19 : decode cX1_addType 19 = .ok (.iload_n 2, 1) := by decide +kernel
theorem dX1_addType_20 : decode cX1_addType 20 = .ok (.aload_n 1, 1) := by decide +kernel
theorem dX1_addType_21 : decode cX1_addType 21 = .ok (.arraylength, 1) := by decide +kernel
theorem dX1_addType_22 : decode cX1_addType 22 = .ok (.if_icmp .gt 39, 3) := by decide +kernel
theorem dX1_addType_25 : decode cX1_addType 25 = .ok (.aload_n 1, 1) := by decide +kernel
theorem dX1_addType_26 : decode cX1_addType 26 = .ok (.iconst 0, 1) := by decide +kernel
theorem dX1_addType_27 : decode cX1_addType 27 = .ok (.aload_n 0, 1) := by decide +kernel
theorem dX1_addType_28 : decode cX1_addType 28 = .ok (.getfield 46, 3) := by decide +kernel
theorem dX1_addType_31 : decode cX1_addType 31 = .ok (.aload_n 0, 1) := by decide +kernel
theorem dX1_addType_32 : decode cX1_addType 32 = .ok (.getfield 25, 3) := by decide +kernel
theorem dX1_addType_35 : decode cX1_addType 35 = .ok (.aaload, 1) := by decide +kernel
theorem dX1_addType_36 : decode cX1_addType 36 = .ok (.iconst 0, 1) := by decide +kernel
theorem dX1_addType_37 : decode cX1_addType 37 = .ok (.iload_n 2, 1) := by decide +kernel
theorem dX1_addType_38 : decode cX1_addType 38 = .ok (.invokestatic 49, 3) := by decide +kernel
theorem dX1_addType_41 : decode cX1_addType 41 = .ok (.aload_n 0, 1) := by decide +kernel
theorem dX1_addType_42 : decode cX1_addType 42 = .ok (.getfield 41, 3) := by decide +kernel
theorem dX1_addType_45 : decode cX1_addType 45 = .ok (.aload_n 0, 1) := by decide +kernel
theorem dX1_addType_46 : decode cX1_addType 46 = .ok (.getfield 25, 3) := by decide +kernel
theorem dX1_addType_49 : decode cX1_addType 49 = .ok (.iload_n 2, 1) := by decide +kernel
theorem dX1_addType_50 : decode cX1_addType 50 = .ok (.iastore, 1) := by decide +kernel
theorem dX1_addType_51 : decode cX1_addType 51 = .ok (.aload_n 0, 1) := by decide +kernel
theorem dX1_addType_52 : decode cX1_addType 52 = .ok (.dup, 1) := by decide +kernel
theorem dX1_addType_53 : decode cX1_addType 53 = .ok (.getfield 25, 3) := by decide +kernel
theorem dX1_addType_56 : decode cX1_addType 56 = .ok (.iconst 1, 1) := by decide +kernel
theorem dX1_addType_57 : decode cX1_addType 57 = .ok (.iadd, 1) := by decide +kernel
theorem dX1_addType_58 : decode cX1_addType 58 = .ok (.putfield 25, 3) := by decide +kernel
theorem dX1_addType_61 : decode cX1_addType 61 = .ok (.return_, 1) := by decide +kernel
theorem dX1_kindOfType_0 : decode cX1_kindOfType 0 = .ok (.iload_n 1, 1) := by decide +kernel
theorem dX1_kindOfType_1 : decode cX1_kindOfType 1 = .ok (.ifCond .lt 25, 3) := by decide +kernel
theorem dX1_kindOfType_4 : decode cX1_kindOfType 4 = .ok (.iload_n 1, 1) := by decide +kernel
theorem dX1_kindOfType_5 : decode cX1_kindOfType 5 = .ok (.aload_n 0, 1) := by decide +kernel
theorem dX1_kindOfType_6 : decode cX1_kindOfType 6 = .ok (.getfield 25, 3) := by decide +kernel
theorem dX1_kindOfType_9 : decode cX1_kindOfType 9 = .ok (.if_icmp .ge 17, 3) := by decide +kernel
theorem dX1_kindOfType_12 : decode cX1_kindOfType 12 = .ok (.iload_n 2, 1) := by decide +kernel
theorem dX1_kindOfType_13 : decode cX1_kindOfType 13 = .ok (.ifCond .lt 13, 3) := by decide +kernel
theorem dX1_kindOfType_16 : decode cX1_kindOfType 16 = .ok (.iload_n 2, 1) := by decide +kernel
theorem dX1_kindOfType_17 : decode cX1_kindOfType 17 = .ok (.aload_n 0, 1) := by decide +kernel
theorem dX1_kindOfType_18 : decode cX1_kindOfType 18 = .ok (.getfield 41, 3) := by decide +kernel
theorem dX1_kindOfType_21 : decode cX1_kindOfType 21 = .ok (.iload_n 1, 1) := by decide +kernel
theorem dX1_kindOfType_22 : decode cX1_kindOfType 22 = .ok (.iaload, 1) := by decide +kernel
theorem dX1_kindOfType_23 : decode cX1_kindOfType 23 = .ok (.if_icmp .lt 5, 3) := by decide +kernel
theorem dX1_kindOfType_26 : decode cX1_kindOfType 26 = .ok (.iconst (-1), 1) := by decide +kernel
theorem dX1_kindOfType_27 : decode cX1_kindOfType 27 = .ok (.ireturn, 1) := by decide +kernel
theorem dX1_kindOfType_28 : decode cX1_kindOfType 28 = .ok (.aload_n 0, 1) := by decide +kernel
theorem dX1_kindOfType_29 : decode cX1_kindOfType 29 = .ok (.getfield 46, 3) := by decide +kernel
theorem dX1_kindOfType_32 : decode cX1_kindOfType 32 = .ok (.iload_n 1, 1) := by decide +kernel
theorem dX1_kindOfType_33 : decode cX1_kindOfType 33 = .ok (.aaload, 1) := by decide +kernel
theorem dX1_kindOfType_34 : decode cX1_kindOfType 34 = .ok (.iload_n 2, 1) := by decide +kernel
theorem dX1_kindOfType_35 : decode cX1_kindOfType 35 = .ok (.iaload, 1) := by decide +kernel
theorem dX1_kindOfType_36 : decode cX1_kindOfType 36 = .ok (.ireturn, 1) := by decide +kernel
theorem dX1_canBe_0 : decode cX1_canBe 0 = .ok (.iconst 0, 1) := by decide +kernel
theorem dX1_canBe_1 : decode cX1_canBe 1 = .ok (.istore_n 2, 1) := by decide +kernel
theorem dX1_canBe_2 : decode cX1_canBe 2 = .ok (.iconst 0, 1) := by decide +kernel
theorem dX1_canBe_3 : decode cX1_canBe 3 = .ok (.istore_n 3, 1) := by decide +kernel
theorem dX1_canBe_4 : decode cX1_canBe 4 = .ok (.iload_n 3, 1) := by decide +kernel
theorem dX1_canBe_5 : decode cX1_canBe 5 = .ok (.aload_n 0, 1) := by decide +kernel
theorem dX1_canBe_6 : decode cX1_canBe 6 = .ok (.getfield 25, 3) := by decide +kernel
theorem dX1_canBe_9 : decode cX1_canBe 9 = .ok (.if_icmp .ge 24, 3) := by decide +kernel
theorem dX1_canBe_12 : decode cX1_canBe 12 = .ok (.aload_n 0, 1) := by decide +kernel
theorem dX1_canBe_13 : decode cX1_canBe 13 = .ok (.iload_n 3, 1) := by decide +kernel
theorem dX1_canBe_14 : decode cX1_canBe 14 = .ok (.aload_n 1, 1) := by decide +kernel
theorem dX1_canBe_15 : decode cX1_canBe 15 = .ok (.invokevirtual 55, 3) := by decide +kernel
theorem dX1_canBe_18 : decode cX1_canBe 18 = .ok (.ifCond .eq 9, 3) := by decide +kernel
theorem dX1_canBe_21 : decode cX1_canBe 21 = .ok (.iload_n 2, 1) := by decide +kernel
theorem dX1_canBe_22 : decode cX1_canBe 22 = .ok (.iconst 1, 1) := by decide +kernel
theorem dX1_canBe_23 : decode cX1_canBe 23 = .ok (.iload_n 3, 1) := by decide +kernel
theorem dX1_canBe_24 : decode cX1_canBe 24 = .ok (.ishl, 1) := by decide +kernel
theorem dX1_canBe_25 : decode cX1_canBe 25 = .ok (.ior, 1) := by decide +kernel
theorem dX1_canBe_26 : decode cX1_canBe 26 = .ok (.istore_n 2, 1) := by decide +kernel
theorem dX1_canBe_27 : decode cX1_canBe 27 = .ok (.iinc 3 1, 3) := by decide +kernel
theorem dX1_canBe_30 : decode cX1_canBe 30 = .ok (.goto (-26), 3) := by decide +kernel
theorem dX1_canBe_33 : decode cX1_canBe 33 = .ok (.iload_n 2, 1) := by decide +kernel
theorem dX1_canBe_34 : decode cX1_canBe 34 = .ok (.ireturn, 1) := by decide +kernel
theorem dX1_beginsAs_0 : decode cX1_beginsAs 0 = .ok (.aload_n 0, 1) := by decide +kernel
theorem dX1_beginsAs_1 : decode cX1_beginsAs 1 = .ok (.getfield 41, 3) := by decide +kernel
theorem dX1_beginsAs_4 : decode cX1_beginsAs 4 = .ok (.iload_n 1, 1) := by decide +kernel
theorem dX1_beginsAs_5 : decode cX1_beginsAs 5 = .ok (.iaload, 1) := by decide +kernel
theorem dX1_beginsAs_6 : decode cX1_beginsAs 6 = .ok (.aload_n 2, 1) := by decide +kernel
theorem dX1_beginsAs_7 : decode cX1_beginsAs 7 = .ok (.getfield 59, 3) := by decide +kernel
theorem dX1_beginsAs_10 : decode cX1_beginsAs 10 = .ok (.invokestatic 62, 3) := by decide +kernel
theorem dX1_beginsAs_13 : decode cX1_beginsAs 13 = .ok (.istore_n 3, 1) := by decide +kernel
theorem dX1_beginsAs_14 : decode cX1_beginsAs 14 = .ok (.iconst 0, 1) := by decide +kernel
theorem dX1_beginsAs_15 : decode cX1_beginsAs 15 = .ok (.istore 4, 2) := by decide +kernel
theorem dX1_beginsAs_17 : decode cX1_beginsAs 17 = .ok (.iload 4, 2) := by decide +kernel
theorem dX1_beginsAs_19 : decode cX1_beginsAs 19 = .ok (.iload_n 3, 1) := by decide +kernel
theorem dX1_beginsAs_20 : decode cX1_beginsAs 20 = .ok (.if_icmp .ge 30, 3) := by decide +kernel
theorem dX1_beginsAs_23 : decode cX1_beginsAs 23 = .ok (.aload_n 0, 1) := by decide +kernel
theorem dX1_beginsAs_24 : decode cX1_beginsAs 24 = .ok (.getfield 46, 3) := by decide +kernel
theorem dX1_beginsAs_27 : decode cX1_beginsAs 27 = .ok (.iload_n 1, 1) := by decide +kernel
theorem dX1_beginsAs_28 : decode cX1_beginsAs 28 = .ok (.aaload, 1) := by decide +kernel
theorem dX1_beginsAs_29 : decode cX1_beginsAs 29 = .ok (.iload 4, 2) := by decide +kernel
theorem dX1_beginsAs_31 : decode cX1_beginsAs 31 = .ok (.iaload, 1) := by decide +kernel
theorem dX1_beginsAs_32 : decode cX1_beginsAs 32 = .ok (.aload_n 2, 1) := by decide +kernel
theorem dX1_beginsAs_33 : decode cX1_beginsAs 33 = .ok (.getfield 68, 3) := by decide +kernel
theorem dX1_beginsAs_36 : decode cX1_beginsAs 36 = .ok (.iload 4, 2) := by decide +kernel
theorem dX1_beginsAs_38 : decode cX1_beginsAs 38 = .ok (.iaload, 1) := by decide +kernel
theorem dX1_beginsAs_39 : decode cX1_beginsAs 39 = .ok (.if_icmp .eq 5, 3) := by decide +kernel
theorem dX1_beginsAs_42 : decode cX1_beginsAs 42 = .ok (.iconst 0, 1) := by decide +kernel
theorem dX1_beginsAs_43 : decode cX1_beginsAs 43 = .ok (.ireturn, 1) := by decide +kernel
theorem dX1_beginsAs_44 : decode cX1_beginsAs 44 = .ok (.iinc 4 1, 3) := by decide +kernel
theorem dX1_beginsAs_47 : decode cX1_beginsAs 47 = .ok (.goto (-30), 3) := by decide +kernel
theorem dX1_beginsAs_50 : decode cX1_beginsAs 50 = .ok (.iconst 1, 1) := by decide +kernel
theorem dX1_beginsAs_51 : decode cX1_beginsAs 51 = .ok (.ireturn, 1) := by decide +kernel
theorem dX1_countNext_0 : decode cX1_countNext 0 = .ok (.iconst 0, 1) := by decide +kernel
theorem dX1_countNext_1 : decode cX1_countNext 1 = .ok (.istore_n 3, 1) := by decide +kernel
theorem dX1_countNext_2 : decode cX1_countNext 2 = .ok (.iconst 0, 1) := by decide +kernel
theorem dX1_countNext_3 : decode cX1_countNext 3 = .ok (.istore 4, 2) := by decide +kernel
theorem dX1_countNext_5 : decode cX1_countNext 5 = .ok (.iload 4, 2) := by decide +kernel
theorem dX1_countNext_7 : decode cX1_countNext 7 = .ok (.aload_n 0, 1) := by decide +kernel
theorem dX1_countNext_8 : decode cX1_countNext 8 = .ok (.getfield 25, 3) := by decide +kernel
theorem dX1_countNext_11 : decode cX1_countNext 11 = .ok (.if_icmp .ge 36, 3) := by decide +kernel
theorem dX1_countNext_14 : decode cX1_countNext 14 = .ok (.aload_n 0, 1) := by decide +kernel
theorem dX1_countNext_15 : decode cX1_countNext 15 = .ok (.iload 4, 2) := by decide +kernel
theorem dX1_countNext_17 : decode cX1_countNext 17 = .ok (.aload_n 1, 1) := by decide +kernel
theorem dX1_countNext_18 : decode cX1_countNext 18 = .ok (.getfield 59, 3) := by decide +kernel
theorem dX1_countNext_21 : decode cX1_countNext 21 = .ok (.invokevirtual 69, 3) := by decide +kernel
theorem dX1_countNext_24 : decode cX1_countNext 24 = .ok (.iload_n 2, 1) := by decide +kernel
theorem dX1_countNext_25 : decode cX1_countNext 25 = .ok (.if_icmp .ne 16, 3) := by decide +kernel
theorem dX1_countNext_28 : decode cX1_countNext 28 = .ok (.aload_n 0, 1) := by decide +kernel
theorem dX1_countNext_29 : decode cX1_countNext 29 = .ok (.iload 4, 2) := by decide +kernel
theorem dX1_countNext_31 : decode cX1_countNext 31 = .ok (.aload_n 1, 1) := by decide +kernel
theorem dX1_countNext_32 : decode cX1_countNext 32 = .ok (.invokevirtual 55, 3) := by decide +kernel
theorem dX1_countNext_35 : decode cX1_countNext 35 = .ok (.ifCond .eq 6, 3) := by decide +kernel
theorem dX1_countNext_38 : decode cX1_countNext 38 = .ok (.iinc 3 1, 3) := by decide +kernel
theorem dX1_countNext_41 : decode cX1_countNext 41 = .ok (.iinc 4 1, 3) := by decide +kernel
theorem dX1_countNext_44 : decode cX1_countNext 44 = .ok (.goto (-39), 3) := by decide +kernel
theorem dX1_countNext_47 : decode cX1_countNext 47 = .ok (.iload_n 3, 1) := by decide +kernel
theorem dX1_countNext_48 : decode cX1_countNext 48 = .ok (.ireturn, 1) := by decide +kernel
theorem dX1_sureKind_0 : decode cX1_sureKind 0 = .ok (.iconst (-1), 1) := by decide +kernel
theorem dX1_sureKind_1 : decode cX1_sureKind 1 = .ok (.istore_n 2, 1) := by decide +kernel
theorem dX1_sureKind_2 : decode cX1_sureKind 2 = .ok (.iconst 0, 1) := by decide +kernel
theorem dX1_sureKind_3 : decode cX1_sureKind 3 = .ok (.istore_n 3, 1) := by decide +kernel
theorem dX1_sureKind_4 : decode cX1_sureKind 4 = .ok (.iload_n 3, 1) := by decide +kernel
theorem dX1_sureKind_5 : decode cX1_sureKind 5 = .ok (.iconst 5, 1) := by decide +kernel
theorem dX1_sureKind_6 : decode cX1_sureKind 6 = .ok (.if_icmp .ge 27, 3) := by decide +kernel
theorem dX1_sureKind_9 : decode cX1_sureKind 9 = .ok (.aload_n 0, 1) := by decide +kernel
theorem dX1_sureKind_10 : decode cX1_sureKind 10 = .ok (.aload_n 1, 1) := by decide +kernel
theorem dX1_sureKind_11 : decode cX1_sureKind 11 = .ok (.iload_n 3, 1) := by decide +kernel
theorem dX1_sureKind_12 : decode cX1_sureKind 12 = .ok (.invokevirtual 72, 3) := by decide +kernel
theorem dX1_sureKind_15 : decode cX1_sureKind 15 = .ok (.ifCond .le 12, 3) := by decide +kernel
theorem dX1_sureKind_18 : decode cX1_sureKind 18 = .ok (.iload_n 2, 1) := by decide +kernel
theorem dX1_sureKind_19 : decode cX1_sureKind 19 = .ok (.iconst (-1), 1) := by decide +kernel
theorem dX1_sureKind_20 : decode cX1_sureKind 20 = .ok (.if_icmp .eq 5, 3) := by decide +kernel
theorem dX1_sureKind_23 : decode cX1_sureKind 23 = .ok (.iconst (-1), 1) := by decide +kernel
theorem dX1_sureKind_24 : decode cX1_sureKind 24 = .ok (.ireturn, 1) := by decide +kernel
theorem dX1_sureKind_25 : decode cX1_sureKind 25 = .ok (.iload_n 3, 1) := by decide +kernel
theorem dX1_sureKind_26 : decode cX1_sureKind 26 = .ok (.istore_n 2, 1) := by decide +kernel
theorem dX1_sureKind_27 : decode cX1_sureKind 27 = .ok (.iinc 3 1, 3) := by decide +kernel
theorem dX1_sureKind_30 : decode cX1_sureKind 30 = .ok (.goto (-26), 3) := by decide +kernel
theorem dX1_sureKind_33 : decode cX1_sureKind 33 = .ok (.iload_n 2, 1) := by decide +kernel
theorem dX1_sureKind_34 : decode cX1_sureKind 34 = .ok (.ireturn, 1) := by decide +kernel
theorem dX1_lawOfTypes_0 : decode cX1_lawOfTypes 0 = .ok (.iconst 0, 1) := by decide +kernel
theorem dX1_lawOfTypes_1 : decode cX1_lawOfTypes 1 = .ok (.istore_n 1, 1) := by decide +kernel
theorem dX1_lawOfTypes_2 : decode cX1_lawOfTypes 2 = .ok (.iconst 0, 1) := by decide +kernel
theorem dX1_lawOfTypes_3 : decode cX1_lawOfTypes 3 = .ok (.istore_n 2, 1) := by decide +kernel
theorem dX1_lawOfTypes_4 : decode cX1_lawOfTypes 4 = .ok (.iload_n 2, 1) := by decide +kernel
theorem dX1_lawOfTypes_5 : decode cX1_lawOfTypes 5 = .ok (.aload_n 0, 1) := by decide +kernel
theorem dX1_lawOfTypes_6 : decode cX1_lawOfTypes 6 = .ok (.getfield 25, 3) := by decide +kernel
theorem dX1_lawOfTypes_9 : decode cX1_lawOfTypes 9 = .ok (.if_icmp .ge 51, 3) := by decide +kernel
theorem dX1_lawOfTypes_12 : decode cX1_lawOfTypes 12 = .ok (.iconst 1, 1) := by decide +kernel
theorem dX1_lawOfTypes_13 : decode cX1_lawOfTypes 13 = .ok (.istore_n 3, 1) := by decide +kernel
theorem dX1_lawOfTypes_14 : decode cX1_lawOfTypes 14 = .ok (.iload_n 3, 1) := by decide +kernel
theorem dX1_lawOfTypes_15 : decode cX1_lawOfTypes 15 = .ok (.aload_n 0, 1) := by decide +kernel
theorem dX1_lawOfTypes_16 : decode cX1_lawOfTypes 16 = .ok (.getfield 41, 3) := by decide +kernel
theorem dX1_lawOfTypes_19 : decode cX1_lawOfTypes 19 = .ok (.iload_n 2, 1) := by decide +kernel
theorem dX1_lawOfTypes_20 : decode cX1_lawOfTypes 20 = .ok (.iaload, 1) := by decide +kernel
theorem dX1_lawOfTypes_21 : decode cX1_lawOfTypes 21 = .ok (.if_icmp .ge 33, 3) := by decide +kernel
theorem dX1_lawOfTypes_24 : decode cX1_lawOfTypes 24 = .ok (.iload_n 1, 1) := by decide +kernel
theorem dX1_lawOfTypes_25 : decode cX1_lawOfTypes 25 = .ok (.aload_n 0, 1) := by decide +kernel
theorem dX1_lawOfTypes_26 : decode cX1_lawOfTypes 26 = .ok (.getfield 46, 3) := by decide +kernel
theorem dX1_lawOfTypes_29 : decode cX1_lawOfTypes 29 = .ok (.iload_n 2, 1) := by decide +kernel
theorem dX1_lawOfTypes_30 : decode cX1_lawOfTypes 30 = .ok (.aaload, 1) := by decide +kernel
theorem dX1_lawOfTypes_31 : decode cX1_lawOfTypes 31 = .ok (.iload_n 3, 1) := by decide +kernel
theorem dX1_lawOfTypes_32 : decode cX1_lawOfTypes 32 = .ok (.iconst 1, 1) := by decide +kernel
theorem dX1_lawOfTypes_33 : decode cX1_lawOfTypes 33 = .ok (.isub, 1) := by decide +kernel
theorem dX1_lawOfTypes_34 : decode cX1_lawOfTypes 34 = .ok (.iaload, 1) := by decide +kernel
theorem dX1_lawOfTypes_35 : decode cX1_lawOfTypes 35 = .ok (.aload_n 0, 1) := by decide +kernel
theorem dX1_lawOfTypes_36 : decode cX1_lawOfTypes 36 = .ok (.getfield 46, 3) := by decide +kernel
theorem dX1_lawOfTypes_39 : decode cX1_lawOfTypes 39 = .ok (.iload_n 2, 1) := by decide +kernel
theorem dX1_lawOfTypes_40 : decode cX1_lawOfTypes 40 = .ok (.aaload, 1) := by decide +kernel
theorem dX1_lawOfTypes_41 : decode cX1_lawOfTypes 41 = .ok (.iload_n 3, 1) := by decide +kernel
theorem dX1_lawOfTypes_42 : decode cX1_lawOfTypes 42 = .ok (.iaload, 1) := by decide +kernel
theorem dX1_lawOfTypes_43 : decode cX1_lawOfTypes 43 = .ok (.invokestatic 76, 3) := by decide +kernel
theorem dX1_lawOfTypes_46 : decode cX1_lawOfTypes 46 = .ok (.ior, 1) := by decide +kernel
theorem dX1_lawOfTypes_47 : decode cX1_lawOfTypes 47 = .ok (.istore_n 1, 1) := by decide +kernel
theorem dX1_lawOfTypes_48 : decode cX1_lawOfTypes 48 = .ok (.iinc 3 1, 3) := by decide +kernel
theorem dX1_lawOfTypes_51 : decode cX1_lawOfTypes 51 = .ok (.goto (-37), 3) := by decide +kernel
theorem dX1_lawOfTypes_54 : decode cX1_lawOfTypes 54 = .ok (.iinc 2 1, 3) := by decide +kernel
theorem dX1_lawOfTypes_57 : decode cX1_lawOfTypes 57 = .ok (.goto (-53), 3) := by decide +kernel
theorem dX1_lawOfTypes_60 : decode cX1_lawOfTypes 60 = .ok (.iload_n 1, 1) := by decide +kernel
theorem dX1_lawOfTypes_61 : decode cX1_lawOfTypes 61 = .ok (.ireturn, 1) := by decide +kernel
theorem dX2_init_0 : decode cX2_init 0 = .ok (.aload_n 0, 1) := by decide +kernel
theorem dX2_init_1 : decode cX2_init 1 = .ok (.invokespecial 3, 3) := by decide +kernel
theorem dX2_init_4 : decode cX2_init 4 = .ok (.aload_n 0, 1) := by decide +kernel
theorem dX2_init_5 : decode cX2_init 5 = .ok (.bipush 30, 2) := by decide +kernel
theorem dX2_init_7 : decode cX2_init 7 = .ok (.anewarray 9, 3) := by decide +kernel
theorem dX2_init_10 : decode cX2_init 10 = .ok (.putfield 11, 3) := by decide +kernel
theorem dX2_init_13 : decode cX2_init 13 = .ok (.aload_n 0, 1) := by decide +kernel
theorem dX2_init_14 : decode cX2_init 14 = .ok (.iconst 0, 1) := by decide +kernel
theorem dX2_init_15 : decode cX2_init 15 = .ok (.putfield 17, 3) := by decide +kernel
theorem dX2_init_18 : decode cX2_init 18 = .ok (.aload_n 0, 1) := by decide +kernel
theorem dX2_init_19 : decode cX2_init 19 = .ok (.iconst 0, 1) := by decide +kernel
theorem dX2_init_20 : decode cX2_init 20 = .ok (.putfield 21, 3) := by decide +kernel
theorem dX2_init_23 : decode cX2_init 23 = .ok (.iconst 0, 1) := by decide +kernel
theorem dX2_init_24 : decode cX2_init 24 = .ok (.istore_n 1, 1) := by decide +kernel
theorem dX2_init_25 : decode cX2_init 25 = .ok (.iload_n 1, 1) := by decide +kernel
theorem dX2_init_26 : decode cX2_init 26 = .ok (.bipush 30, 2) := by decide +kernel
theorem dX2_init_28 : decode cX2_init 28 = .ok (.if_icmp .ge 22, 3) := by decide +kernel
theorem dX2_init_31 : decode cX2_init 31 = .ok (.aload_n 0, 1) := by decide +kernel
theorem dX2_init_32 : decode cX2_init 32 = .ok (.getfield 11, 3) := by decide +kernel
theorem dX2_init_35 : decode cX2_init 35 = .ok (.iload_n 1, 1) := by decide +kernel
theorem dX2_init_36 : decode cX2_init 36 = .ok (.new 9, 3) := by decide +kernel
theorem dX2_init_39 : decode cX2_init 39 = .ok (.dup, 1) := by decide +kernel
theorem dX2_init_40 : decode cX2_init 40 = .ok (.invokespecial 24, 3) := by decide +kernel
theorem dX2_init_43 : decode cX2_init 43 = .ok (.aastore, 1) := by decide +kernel
theorem dX2_init_44 : decode cX2_init 44 = .ok (.iinc 1 1, 3) := by decide +kernel
theorem dX2_init_47 : decode cX2_init 47 = .ok (.goto (-22), 3) := by decide +kernel
theorem dX2_init_50 : decode cX2_init 50 = .ok (.return_, 1) := by decide +kernel
theorem dX2_forget_0 : decode cX2_forget 0 = .ok (.aload_n 0, 1) := by decide +kernel
theorem dX2_forget_1 : decode cX2_forget 1 = .ok (.iconst 0, 1) := by decide +kernel
theorem dX2_forget_2 : decode cX2_forget 2 = .ok (.putfield 17, 3) := by decide +kernel
theorem dX2_forget_5 : decode cX2_forget 5 = .ok (.aload_n 0, 1) := by decide +kernel
theorem dX2_forget_6 : decode cX2_forget 6 = .ok (.iconst 0, 1) := by decide +kernel
theorem dX2_forget_7 : decode cX2_forget 7 = .ok (.putfield 21, 3) := by decide +kernel
theorem dX2_forget_10 : decode cX2_forget 10 = .ok (.return_, 1) := by decide +kernel
theorem dX2_remember_0 : decode cX2_remember 0 = .ok (.aload_n 0, 1) := by decide +kernel
theorem dX2_remember_1 : decode cX2_remember 1 = .ok (.getfield 11, 3) := by decide +kernel
theorem dX2_remember_4 : decode cX2_remember 4 = .ok (.aload_n 0, 1) := by decide +kernel
theorem dX2_remember_5 : decode cX2_remember 5 = .ok (.getfield 17, 3) := by decide +kernel
theorem dX2_remember_8 : decode cX2_remember 8 = .ok (.aaload, 1) := by decide +kernel
theorem dX2_remember_9 : decode cX2_remember 9 = .ok (.aload_n 1, 1) := by decide +kernel
theorem dX2_remember_10 : decode cX2_remember 10 = .ok (.invokevirtual 25, 3) := by decide +kernel
theorem dX2_remember_13 : decode cX2_remember 13 = .ok (.aload_n 0, 1) := by decide +kernel
theorem dX2_remember_14 : decode cX2_remember 14 = .ok (.aload_n 0, 1) := by decide +kernel
theorem dX2_remember_15 : decode cX2_remember 15 = .ok (.getfield 17, 3) := by decide +kernel
theorem dX2_remember_18 : decode cX2_remember 18 = .ok (.iconst 1, 1) := by decide +kernel
theorem dX2_remember_19 : decode cX2_remember 19 = .ok (.iadd, 1) := by decide +kernel
theorem dX2_remember_20 : decode cX2_remember 20 = .ok (.bipush 30, 2) := by decide +kernel
theorem dX2_remember_22 : decode cX2_remember 22 = .ok (.irem, 1) := by decide +kernel
theorem dX2_remember_23 : decode cX2_remember 23 = .ok (.putfield 17, 3) := by decide +kernel
theorem dX2_remember_26 : decode cX2_remember 26 = .ok (.aload_n 0, 1) := by decide +kernel
theorem dX2_remember_27 : decode cX2_remember 27 = .ok (.bipush 30, 2) := by decide +kernel
theorem dX2_remember_29 : decode cX2_remember 29 = .ok (.aload_n 0, 1) := by decide +kernel
theorem dX2_remember_30 : decode cX2_remember 30 = .ok (.getfield 21, 3) := by decide +kernel
theorem dX2_remember_33 : decode cX2_remember 33 = .ok (.iconst 1, 1) := by decide +kernel
theorem dX2_remember_34 : decode cX2_remember 34 = .ok (.iadd, 1) := by decide +kernel
theorem dX2_remember_35 : decode cX2_remember 35 = .ok (.invokestatic 29, 3) := by decide +kernel
theorem dX2_remember_38 : decode cX2_remember 38 = .ok (.putfield 21, 3) := by decide +kernel
theorem dX2_remember_41 : decode cX2_remember 41 = .ok (.return_, 1) := by decide +kernel
theorem dX2_takeBack_0 : decode cX2_takeBack 0 = .ok (.iload_n 1, 1) := by decide +kernel
theorem dX2_takeBack_1 : decode cX2_takeBack 1 = .ok (.iconst 1, 1) := by decide +kernel
theorem dX2_takeBack_2 : decode cX2_takeBack 2 = .ok (.if_icmp .lt 11, 3) := by decide +kernel
theorem dX2_takeBack_5 : decode cX2_takeBack 5 = .ok (.iload_n 1, 1) := by decide +kernel
theorem dX2_takeBack_6 : decode cX2_takeBack 6 = .ok (.aload_n 0, 1) := by decide +kernel
theorem dX2_takeBack_7 : decode cX2_takeBack 7 = .ok (.getfield 21, 3) := by decide +kernel
theorem dX2_takeBack_10 : decode cX2_takeBack 10 = .ok (.if_icmp .le 4, 3) := by decide +kernel
theorem dX2_takeBack_13 : decode cX2_takeBack 13 = .ok (.return_, 1) := by decide +kernel
theorem dX2_takeBack_14 : decode cX2_takeBack 14 = .ok (.aload_n 0, 1) := by decide +kernel
theorem dX2_takeBack_15 : decode cX2_takeBack 15 = .ok (.aload_n 0, 1) := by decide +kernel
theorem dX2_takeBack_16 : decode cX2_takeBack 16 = .ok (.getfield 17, 3) := by decide +kernel
theorem dX2_takeBack_19 : decode cX2_takeBack 19 = .ok (.bipush 30, 2) := by decide +kernel
theorem dX2_takeBack_21 : decode cX2_takeBack 21 = .ok (.iadd, 1) := by decide +kernel
theorem dX2_takeBack_22 : decode cX2_takeBack 22 = .ok (.iload_n 1, 1) := by decide +kernel
theorem dX2_takeBack_23 : decode cX2_takeBack 23 = .ok (.isub, 1) := by decide +kernel
theorem dX2_takeBack_24 : decode cX2_takeBack 24 = .ok (.bipush 30, 2) := by decide +kernel
theorem dX2_takeBack_26 : decode cX2_takeBack 26 = .ok (.irem, 1) := by decide +kernel
theorem dX2_takeBack_27 : decode cX2_takeBack 27 = .ok (.putfield 17, 3) := by decide +kernel
theorem dX2_takeBack_30 : decode cX2_takeBack 30 = .ok (.aload_n 0, 1) := by decide +kernel
theorem dX2_takeBack_31 : decode cX2_takeBack 31 = .ok (.dup, 1) := by decide +kernel
theorem dX2_takeBack_32 : decode cX2_takeBack 32 = .ok (.getfield 21, 3) := by decide +kernel
theorem dX2_takeBack_35 : decode cX2_takeBack 35 = .ok (.iload_n 1, 1) := by decide +kernel
theorem dX2_takeBack_36 : decode cX2_takeBack 36 = .ok (.isub, 1) := by decide +kernel
theorem dX2_takeBack_37 : decode cX2_takeBack 37 = .ok (.putfield 21, 3) := by decide +kernel
theorem dX2_takeBack_40 : decode cX2_takeBack 40 = .ok (.aload_n 2, 1) := by decide +kernel
theorem dX2_takeBack_41 : decode cX2_takeBack 41 = .ok (.aload_n 0, 1) := by decide +kernel
theorem dX2_takeBack_42 : decode cX2_takeBack 42 = .ok (.getfield 11, 3) := by decide +kernel
theorem dX2_takeBack_45 : decode cX2_takeBack 45 = .ok (.aload_n 0, 1) := by decide +kernel
theorem dX2_takeBack_46 : decode cX2_takeBack 46 = .ok (.getfield 17, 3) := by decide +kernel
theorem dX2_takeBack_49 : decode cX2_takeBack 49 = .ok (.aaload, 1) := by decide +kernel
theorem dX2_takeBack_50 : decode cX2_takeBack 50 = .ok (.invokevirtual 25, 3) := by decide +kernel
theorem dX2_takeBack_53 : decode cX2_takeBack 53 = .ok (.return_, 1) := by decide +kernel
theorem dX3_init_0 : decode cX3_init 0 = .ok (.aload_n 0, 1) := by decide +kernel
theorem dX3_init_1 : decode cX3_init 1 = .ok (.invokespecial 1, 3) := by decide +kernel
theorem dX3_init_4 : decode cX3_init 4 = .ok (.aload_n 0, 1) := by decide +kernel
theorem dX3_init_5 : decode cX3_init 5 = .ok (.iconst 0, 1) := by decide +kernel
theorem dX3_init_6 : decode cX3_init 6 = .ok (.putfield 7, 3) := by decide +kernel
theorem dX3_init_9 : decode cX3_init 9 = .ok (.return_, 1) := by decide +kernel
theorem dX3_below_0 : decode cX3_below 0 = .ok (.aload_n 0, 1) := by decide +kernel
theorem dX3_below_1 : decode cX3_below 1 = .ok (.aload_n 0, 1) := by decide +kernel
theorem dX3_below_2 : decode cX3_below 2 = .ok (.getfield 7, 3) := by decide +kernel
theorem dX3_below_5 : decode cX3_below 5 = .ok (.ldc 13, 2) := by decide +kernel
theorem dX3_below_7 : decode cX3_below 7 = .ok (.imul, 1) := by decide +kernel
theorem dX3_below_8 : decode cX3_below 8 = .ok (.sipush 12345, 3) := by decide +kernel
theorem dX3_below_11 : decode cX3_below 11 = .ok (.iadd, 1) := by decide +kernel
theorem dX3_below_12 : decode cX3_below 12 = .ok (.ldc 14, 2) := by decide +kernel
theorem dX3_below_14 : decode cX3_below 14 = .ok (.iand, 1) := by decide +kernel
theorem dX3_below_15 : decode cX3_below 15 = .ok (.putfield 7, 3) := by decide +kernel
theorem dX3_below_18 : decode cX3_below 18 = .ok (.iload_n 1, 1) := by decide +kernel
theorem dX3_below_19 : decode cX3_below 19 = .ok (.iconst 1, 1) := by decide +kernel
theorem dX3_below_20 : decode cX3_below 20 = .ok (.if_icmp .ge 7, 3) := by decide +kernel
theorem dX3_below_23 : decode cX3_below 23 = .ok (.iconst 0, 1) := by decide +kernel
theorem dX3_below_24 : decode cX3_below 24 = .ok (.goto 12, 3) := by decide +kernel
theorem dX3_below_27 : decode cX3_below 27 = .ok (.aload_n 0, 1) := by decide +kernel
theorem dX3_below_28 : decode cX3_below 28 = .ok (.getfield 7, 3) := by decide +kernel
theorem dX3_below_31 : decode cX3_below 31 = .ok (.ldc 15, 2) := by decide +kernel
theorem dX3_below_33 : decode cX3_below 33 = .ok (.idiv, 1) := by decide +kernel
theorem dX3_below_34 : decode cX3_below 34 = .ok (.iload_n 1, 1) := by decide +kernel
theorem dX3_below_35 : decode cX3_below 35 = .ok (.irem, 1) := by decide +kernel
theorem dX3_below_36 : decode cX3_below 36 = .ok (.ireturn, 1) := by decide +kernel
theorem dX4_init_0 : decode cX4_init 0 = .ok (.aload_n 0, 1) := by decide +kernel
theorem dX4_init_1 : decode cX4_init 1 = .ok (.invokespecial 3, 3) := by decide +kernel
theorem dX4_init_4 : decode cX4_init 4 = .ok (.aload_n 0, 1) := by decide +kernel
theorem dX4_init_5 : decode cX4_init 5 = .ok (.bipush 6, 2) := by decide +kernel
theorem dX4_init_7 : decode cX4_init 7 = .ok (.newarray .int, 2) := by decide +kernel
theorem dX4_init_9 : decode cX4_init 9 = .ok (.putfield 9, 3) := by decide +kernel
theorem dX4_init_12 : decode cX4_init 12 = .ok (.aload_n 0, 1) := by decide +kernel
theorem dX4_init_13 : decode cX4_init 13 = .ok (.bipush 6, 2) := by decide +kernel
theorem dX4_init_15 : decode cX4_init 15 = .ok (.newarray .int, 2) := by decide +kernel
theorem dX4_init_17 : decode cX4_init 17 = .ok (.putfield 15, 3) := by decide +kernel
theorem dX4_init_20 : decode cX4_init 20 = .ok (.aload_n 0, 1) := by decide +kernel
theorem dX4_init_21 : decode cX4_init 21 = .ok (.bipush 6, 2) := by decide +kernel
theorem dX4_init_23 : decode cX4_init 23 = .ok (.newarray .boolean, 2) := by decide +kernel
theorem dX4_init_25 : decode cX4_init 25 = .ok (.putfield 18, 3) := by decide +kernel
theorem dX4_init_28 : decode cX4_init 28 = .ok (.aload_n 0, 1) := by decide +kernel
theorem dX4_init_29 : decode cX4_init 29 = .ok (.iconst 0, 1) := by decide +kernel
theorem dX4_init_30 : decode cX4_init 30 = .ok (.putfield 22, 3) := by decide +kernel
theorem dX4_init_33 : decode cX4_init 33 = .ok (.return_, 1) := by decide +kernel
theorem dX4_add_0 : decode cX4_add 0 = .ok (.aload_n 0, 1) := by decide +kernel
theorem dX4_add_1 : decode cX4_add 1 = .ok (.getfield 22, 3) := by decide +kernel
theorem dX4_add_4 : decode cX4_add 4 = .ok (.bipush 6, 2) := by decide +kernel
theorem dX4_add_6 : decode cX4_add 6 = .ok (.if_icmp .lt 6, 3) := by decide +kernel
theorem dX4_add_9 : decode cX4_add 9 = .ok (.ldc 26, 2) := by decide +kernel
theorem dX4_add_11 : decode cX4_add 11 = .ok (.ireturn, 1) := by decide +kernel
theorem dX4_add_12 : decode cX4_add 12 = .ok (.aload_n 0, 1) := by decide +kernel
theorem dX4_add_13 : decode cX4_add 13 = .ok (.getfield 9, 3) := by decide +kernel
theorem dX4_add_16 : decode cX4_add 16 = .ok (.aload_n 0, 1) := by decide +kernel
theorem dX4_add_17 : decode cX4_add 17 = .ok (.getfield 22, 3) := by decide +kernel
theorem dX4_add_20 : decode cX4_add 20 = .ok (.iload_n 1, 1) := by decide +kernel
theorem dX4_add_21 : decode cX4_add 21 = .ok (.iastore, 1) := by decide +kernel
theorem dX4_add_22 : decode cX4_add 22 = .ok (.aload_n 0, 1) := by decide +kernel
theorem dX4_add_23 : decode cX4_add 23 = .ok (.getfield 15, 3) := by decide +kernel
theorem dX4_add_26 : decode cX4_add 26 = .ok (.aload_n 0, 1) := by decide +kernel
theorem dX4_add_27 : decode cX4_add 27 = .ok (.getfield 22, 3) := by decide +kernel
theorem dX4_add_30 : decode cX4_add 30 = .ok (.iload_n 2, 1) := by decide +kernel
theorem dX4_add_31 : decode cX4_add 31 = .ok (.iastore, 1) := by decide +kernel
theorem dX4_add_32 : decode cX4_add 32 = .ok (.aload_n 0, 1) := by decide +kernel
theorem dX4_add_33 : decode cX4_add 33 = .ok (.getfield 18, 3) := by decide +kernel
theorem dX4_add_36 : decode cX4_add 36 = .ok (.aload_n 0, 1) := by decide +kernel
theorem dX4_add_37 : decode cX4_add 37 = .ok (.getfield 22, 3) := by decide +kernel
theorem dX4_add_40 : decode cX4_add 40 = .ok (.iload_n 3, 1) := by decide +kernel
theorem dX4_add_41 : decode cX4_add 41 = .ok (.bastore, 1) := by decide +kernel
theorem dX4_add_42 : decode cX4_add 42 = .ok (.aload_n 0, 1) := by decide +kernel
theorem dX4_add_43 : decode cX4_add 43 = .ok (.dup, 1) := by decide +kernel
theorem dX4_add_44 : decode cX4_add 44 = .ok (.getfield 22, 3) := by decide +kernel
theorem dX4_add_47 : decode cX4_add 47 = .ok (.iconst 1, 1) := by decide +kernel
theorem dX4_add_48 : decode cX4_add 48 = .ok (.iadd, 1) := by decide +kernel
theorem dX4_add_49 : decode cX4_add 49 = .ok (.putfield 22, 3) := by decide +kernel
theorem dX4_add_52 : decode cX4_add 52 = .ok (.aload_n 0, 1) := by decide +kernel
theorem dX4_add_53 : decode cX4_add 53 = .ok (.getfield 22, 3) := by decide +kernel
theorem dX4_add_56 : decode cX4_add 56 = .ok (.ireturn, 1) := by decide +kernel
theorem dX4_fitting_0 : decode cX4_fitting 0 = .ok (.iconst 0, 1) := by decide +kernel
theorem dX4_fitting_1 : decode cX4_fitting 1 = .ok (.istore_n 2, 1) := by decide +kernel
theorem dX4_fitting_2 : decode cX4_fitting 2 = .ok (.iconst 0, 1) := by decide +kernel
theorem dX4_fitting_3 : decode cX4_fitting 3 = .ok (.istore_n 3, 1) := by decide +kernel
theorem dX4_fitting_4 : decode cX4_fitting 4 = .ok (.iload_n 3, 1) := by decide +kernel
theorem dX4_fitting_5 : decode cX4_fitting 5 = .ok (.aload_n 1, 1) := by decide +kernel
theorem dX4_fitting_6 : decode cX4_fitting 6 = .ok (.getfield 27, 3) := by decide +kernel
theorem dX4_fitting_9 : decode cX4_fitting 9 = .ok (.if_icmp .ge 24, 3) := by decide +kernel
theorem dX4_fitting_12 : decode cX4_fitting 12 = .ok (.aload_n 0, 1) := by decide +kernel
theorem dX4_fitting_13 : decode cX4_fitting 13 = .ok (.aload_n 1, 1) := by decide +kernel
theorem dX4_fitting_14 : decode cX4_fitting 14 = .ok (.iload_n 3, 1) := by decide +kernel
theorem dX4_fitting_15 : decode cX4_fitting 15 = .ok (.invokevirtual 32, 3) := by decide +kernel
theorem dX4_fitting_18 : decode cX4_fitting 18 = .ok (.ifCond .eq 9, 3) := by decide +kernel
theorem dX4_fitting_21 : decode cX4_fitting 21 = .ok (.iload_n 2, 1) := by decide +kernel
theorem dX4_fitting_22 : decode cX4_fitting 22 = .ok (.iconst 1, 1) := by decide +kernel
theorem dX4_fitting_23 : decode cX4_fitting 23 = .ok (.iload_n 3, 1) := by decide +kernel
theorem dX4_fitting_24 : decode cX4_fitting 24 = .ok (.ishl, 1) := by decide +kernel
theorem dX4_fitting_25 : decode cX4_fitting 25 = .ok (.ior, 1) := by decide +kernel
theorem dX4_fitting_26 : decode cX4_fitting 26 = .ok (.istore_n 2, 1) := by decide +kernel
theorem dX4_fitting_27 : decode cX4_fitting 27 = .ok (.iinc 3 1, 3) := by decide +kernel
theorem dX4_fitting_30 : decode cX4_fitting 30 = .ok (.goto (-26), 3) := by decide +kernel
theorem dX4_fitting_33 : decode cX4_fitting 33 = .ok (.iload_n 2, 1) := by decide +kernel
theorem dX4_fitting_34 : decode cX4_fitting 34 = .ok (.ireturn, 1) := by decide +kernel
theorem dX4_fits_0 : decode cX4_fits 0 = .ok (.iconst 0, 1) := by decide +kernel
theorem dX4_fits_1 : decode cX4_fits 1 = .ok (.istore_n 3, 1) := by decide +kernel
theorem dX4_fits_2 : decode cX4_fits 2 = .ok (.iload_n 3, 1) := by decide +kernel
theorem dX4_fits_3 : decode cX4_fits 3 = .ok (.aload_n 0, 1) := by decide +kernel
theorem dX4_fits_4 : decode cX4_fits 4 = .ok (.getfield 22, 3) := by decide +kernel
theorem dX4_fits_7 : decode cX4_fits 7 = .ok (.if_icmp .ge 49, 3) := by decide +kernel
theorem dX4_fits_10 : decode cX4_fits 10 = .ok (.aload_n 1, 1) := by decide +kernel
theorem dX4_fits_11 : decode cX4_fits 11 = .ok (.iload_n 2, 1) := by decide +kernel
theorem dX4_fits_12 : decode cX4_fits 12 = .ok (.aload_n 0, 1) := by decide +kernel
theorem dX4_fits_13 : decode cX4_fits 13 = .ok (.getfield 9, 3) := by decide +kernel
theorem dX4_fits_16 : decode cX4_fits 16 = .ok (.iload_n 3, 1) := by decide +kernel
theorem dX4_fits_17 : decode cX4_fits 17 = .ok (.iaload, 1) := by decide +kernel
theorem dX4_fits_18 : decode cX4_fits 18 = .ok (.invokevirtual 36, 3) := by decide +kernel
theorem dX4_fits_21 : decode cX4_fits 21 = .ok (.aload_n 0, 1) := by decide +kernel
theorem dX4_fits_22 : decode cX4_fits 22 = .ok (.getfield 15, 3) := by decide +kernel
theorem dX4_fits_25 : decode cX4_fits 25 = .ok (.iload_n 3, 1) := by decide +kernel
theorem dX4_fits_26 : decode cX4_fits 26 = .ok (.iaload, 1) := by decide +kernel
theorem dX4_fits_27 : decode cX4_fits 27 = .ok (.if_icmp .ne 7, 3) := by decide +kernel
theorem dX4_fits_30 : decode cX4_fits 30 = .ok (.iconst 1, 1) := by decide +kernel
theorem dX4_fits_31 : decode cX4_fits 31 = .ok (.goto 4, 3) := by decide +kernel
theorem dX4_fits_34 : decode cX4_fits 34 = .ok (.iconst 0, 1) := by decide +kernel
theorem dX4_fits_35 : decode cX4_fits 35 = .ok (.istore 4, 2) := by decide +kernel
theorem dX4_fits_37 : decode cX4_fits 37 = .ok (.iload 4, 2) := by decide +kernel
theorem dX4_fits_39 : decode cX4_fits 39 = .ok (.aload_n 0, 1) := by decide +kernel
theorem dX4_fits_40 : decode cX4_fits 40 = .ok (.getfield 18, 3) := by decide +kernel
theorem dX4_fits_43 : decode cX4_fits 43 = .ok (.iload_n 3, 1) := by decide +kernel
theorem dX4_fits_44 : decode cX4_fits 44 = .ok (.baload, 1) := by decide +kernel
theorem dX4_fits_45 : decode cX4_fits 45 = .ok (.if_icmp .eq 5, 3) := by decide +kernel
theorem dX4_fits_48 : decode cX4_fits 48 = .ok (.iconst 0, 1) := by decide +kernel
theorem dX4_fits_49 : decode cX4_fits 49 = .ok (.ireturn, 1) := by decide +kernel
theorem dX4_fits_50 : decode cX4_fits 50 = .ok (.iinc 3 1, 3) := by decide +kernel
theorem dX4_fits_53 : decode cX4_fits 53 = .ok (.goto (-51), 3) := by decide +kernel
theorem dX4_fits_56 : decode cX4_fits 56 = .ok (.iconst 1, 1) := by decide +kernel
theorem dX4_fits_57 : decode cX4_fits 57 = .ok (.ireturn, 1) := by decide +kernel
theorem dX5_init_0 : decode cX5_init 0 = .ok (.aload_n 0, 1) := by decide +kernel
theorem dX5_init_1 : decode cX5_init 1 = .ok (.invokespecial 1, 3) := by decide +kernel
theorem dX5_init_4 : decode cX5_init 4 = .ok (.aload_n 0, 1) := by decide +kernel
theorem dX5_init_5 : decode cX5_init 5 = .ok (.iconst 0, 1) := by decide +kernel
theorem dX5_init_6 : decode cX5_init 6 = .ok (.putfield 7, 3) := by decide +kernel
theorem dX5_init_9 : decode cX5_init 9 = .ok (.aload_n 0, 1) := by decide +kernel
theorem dX5_init_10 : decode cX5_init 10 = .ok (.new 13, 3) := by decide +kernel
theorem dX5_init_13 : decode cX5_init 13 = .ok (.dup, 1) := by decide +kernel
theorem dX5_init_14 : decode cX5_init 14 = .ok (.invokespecial 15, 3) := by decide +kernel
theorem dX5_init_17 : decode cX5_init 17 = .ok (.putfield 16, 3) := by decide +kernel
theorem dX5_init_20 : decode cX5_init 20 = .ok (.aload_n 0, 1) := by decide +kernel
theorem dX5_init_21 : decode cX5_init 21 = .ok (.iconst 0, 1) := by decide +kernel
theorem dX5_init_22 : decode cX5_init 22 = .ok (.putfield 20, 3) := by decide +kernel
theorem dX5_init_25 : decode cX5_init 25 = .ok (.return_, 1) := by decide +kernel
