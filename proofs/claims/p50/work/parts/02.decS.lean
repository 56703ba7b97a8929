theorem dX0_init_0 : decode cX0_init 0 = .ok (.aload_n 0, 1) := by decide +kernel
theorem dX0_init_1 : decode cX0_init 1 = .ok (.invokespecial 3, 3) := by decide +kernel
theorem dX0_init_4 : decode cX0_init 4 = .ok (.return_, 1) := by decide +kernel
theorem dX1_init_0 : decode cX1_init 0 = .ok (.aload_n 0, 1) := by decide +kernel
theorem dX1_init_1 : decode cX1_init 1 = .ok (.invokespecial 1, 3) := by decide +kernel
theorem dX1_init_4 : decode cX1_init 4 = .ok (.aload_n 0, 1) := by decide +kernel
theorem dX1_init_5 : decode cX1_init 5 = .ok (.lconst 1, 1) := by decide +kernel
theorem dX1_init_6 : decode cX1_init 6 = .ok (.putfield 7, 3) := by decide +kernel
theorem dX1_init_9 : decode cX1_init 9 = .ok (.aload_n 0, 1) := by decide +kernel
theorem dX1_init_10 : decode cX1_init 10 = .ok (.bipush 100, 2) := by decide +kernel
theorem dX1_init_12 : decode cX1_init 12 = .ok (.newarray .long, 2) := by decide +kernel
theorem dX1_init_14 : decode cX1_init 14 = .ok (.putfield 13, 3) := by decide +kernel
theorem dX1_init_17 : decode cX1_init 17 = .ok (.return_, 1) := by decide +kernel
theorem dX2_init_0 : decode cX2_init 0 = .ok (.aload_n 0, 1) := by decide +kernel
theorem dX2_init_1 : decode cX2_init 1 = .ok (.invokespecial 1, 3) := by decide +kernel
theorem dX2_init_4 : decode cX2_init 4 = .ok (.aload_n 0, 1) := by decide +kernel
theorem dX2_init_5 : decode cX2_init 5 = .ok (.bipush 60, 2) := by decide +kernel
theorem dX2_init_7 : decode cX2_init 7 = .ok (.newarray .int, 2) := by decide +kernel
theorem dX2_init_9 : decode cX2_init 9 = .ok (.putfield 9, 3) := by decide +kernel
theorem dX2_init_12 : decode cX2_init 12 = .ok (.aload_n 0, 1) := by decide +kernel
theorem dX2_init_13 : decode cX2_init 13 = .ok (.bipush 60, 2) := by decide +kernel
theorem dX2_init_15 : decode cX2_init 15 = .ok (.newarray .int, 2) := by decide +kernel
theorem dX2_init_17 : decode cX2_init 17 = .ok (.putfield 13, 3) := by decide +kernel
theorem dX2_init_20 : decode cX2_init 20 = .ok (.aload_n 0, 1) := by decide +kernel
theorem dX2_init_21 : decode cX2_init 21 = .ok (.bipush 60, 2) := by decide +kernel
theorem dX2_init_23 : decode cX2_init 23 = .ok (.newarray .int, 2) := by decide +kernel
theorem dX2_init_25 : decode cX2_init 25 = .ok (.putfield 16, 3) := by decide +kernel
theorem dX2_init_28 : decode cX2_init 28 = .ok (.aload_n 0, 1) := by decide +kernel
theorem dX2_init_29 : decode cX2_init 29 = .ok (.bipush 60, 2) := by decide +kernel
theorem dX2_init_31 : decode cX2_init 31 = .ok (.newarray .int, 2) := by decide +kernel
theorem dX2_init_33 : decode cX2_init 33 = .ok (.putfield 19, 3) := by decide +kernel
theorem dX2_init_36 : decode cX2_init 36 = .ok (.aload_n 0, 1) := by decide +kernel
theorem dX2_init_37 : decode cX2_init 37 = .ok (.bipush 60, 2) := by decide +kernel
theorem dX2_init_39 : decode cX2_init 39 = .ok (.newarray .int, 2) := by decide +kernel
theorem dX2_init_41 : decode cX2_init 41 = .ok (.putfield 22, 3) := by decide +kernel
theorem dX2_init_44 : decode cX2_init 44 = .ok (.aload_n 0, 1) := by decide +kernel
theorem dX2_init_45 : decode cX2_init 45 = .ok (.bipush 60, 2) := by decide +kernel
theorem dX2_init_47 : decode cX2_init 47 = .ok (.newarray .int, 2) := by decide +kernel
theorem dX2_init_49 : decode cX2_init 49 = .ok (.putfield 25, 3) := by decide +kernel
theorem dX2_init_52 : decode cX2_init 52 = .ok (.return_, 1) := by decide +kernel
theorem dX2_clear_0 : decode cX2_clear 0 = .ok (.aload_n 0, 1) := by decide +kernel
theorem dX2_clear_1 : decode cX2_clear 1 = .ok (.iconst 0, 1) := by decide +kernel
theorem dX2_clear_2 : decode cX2_clear 2 = .ok (.putfield 28, 3) := by decide +kernel
theorem dX2_clear_5 : decode cX2_clear 5 = .ok (.aload_n 0, 1) := by decide +kernel
theorem dX2_clear_6 : decode cX2_clear 6 = .ok (.iconst 0, 1) := by decide +kernel
theorem dX2_clear_7 : decode cX2_clear 7 = .ok (.putfield 32, 3) := by decide +kernel
theorem dX2_clear_10 : decode cX2_clear 10 = .ok (.aload_n 0, 1) := by decide +kernel
theorem dX2_clear_11 : decode cX2_clear 11 = .ok (.iconst 0, 1) := by decide +kernel
theorem dX2_clear_12 : decode cX2_clear 12 = .ok (.putfield 36, 3) := by decide +kernel
theorem dX2_clear_15 : decode cX2_clear 15 = .ok (.return_, 1) := by decide +kernel
theorem dX2_isItem_0 : decode cX2_isItem 0 = .ok (.iload_n 0, 1) := by decide +kernel
theorem dX2_isItem_1 : decode cX2_isItem 1 = .ok (.ifCond .lt 13, 3) := by decide +kernel
theorem dX2_isItem_4 : decode cX2_isItem 4 = .ok (.iload_n 0, 1) := by decide +kernel
theorem dX2_isItem_5 : decode cX2_isItem 5 = .ok (.bipush 60, 2) := by decide +kernel
theorem dX2_isItem_7 : decode cX2_isItem 7 = .ok (.if_icmp .ge 7, 3) := by decide +kernel
theorem dX2_isItem_10 : decode cX2_isItem 10 = .ok (.iconst 1, 1) := by decide +kernel
theorem dX2_isItem_11 : decode cX2_isItem 11 = .ok (.goto 4, 3) := by decide +kernel
theorem dX2_isItem_14 : decode cX2_isItem 14 = .ok (.iconst 0, 1) := by decide +kernel
theorem dX2_isItem_15 : decode cX2_isItem 15 = .ok (.ireturn, 1) := by decide +kernel
theorem dX3_init_0 : decode cX3_init 0 = .ok (.aload_n 0, 1) := by decide +kernel
theorem dX3_init_1 : decode cX3_init 1 = .ok (.invokespecial 3, 3) := by decide +kernel
theorem dX3_init_4 : decode cX3_init 4 = .ok (.aload_n 0, 1) := by decide +kernel
theorem dX3_init_5 : decode cX3_init 5 = .ok (.iconst 3, 1) := by decide +kernel
theorem dX3_init_6 : decode cX3_init 6 = .ok (.newarray .int, 2) := by decide +kernel
theorem dX3_init_8 : decode cX3_init 8 = .ok (.putfield 11, 3) := by decide +kernel
theorem dX3_init_11 : decode cX3_init 11 = .ok (.aload_n 0, 1) := by decide +kernel
theorem dX3_init_12 : decode cX3_init 12 = .ok (.aload_n 1, 1) := by decide +kernel
theorem dX3_init_13 : decode cX3_init 13 = .ok (.putfield 15, 3) := by decide +kernel
theorem dX3_init_16 : decode cX3_init 16 = .ok (.return_, 1) := by decide +kernel
theorem dX3_parse_0 : decode cX3_parse 0 = .ok (.aload_n 3, 1) := by decide +kernel
theorem dX3_parse_1 : decode cX3_parse 1 = .ok (.invokevirtual 19, 3) := by decide +kernel
theorem dX3_parse_4 : decode cX3_parse 4 = .ok (.aload_n 0, 1) := by decide +kernel
theorem dX3_parse_5 : decode cX3_parse 5 = .ok (.iconst 0, 1) := by decide +kernel
theorem dX3_parse_6 : decode cX3_parse 6 = .ok (.putfield 24, 3) := by decide +kernel
theorem dX3_parse_9 : decode cX3_parse 9 = .ok (.aload_n 0, 1) := by decide +kernel
theorem dX3_parse_10 : decode cX3_parse 10 = .ok (.getfield 15, 3) := by decide +kernel
theorem dX3_parse_13 : decode cX3_parse 13 = .ok (.iload_n 1, 1) := by decide +kernel
theorem dX3_parse_14 : decode cX3_parse 14 = .ok (.invokevirtual 28, 3) := by decide +kernel
theorem dX3_parse_17 : decode cX3_parse 17 = .ok (.iconst 0, 1) := by decide +kernel
theorem dX3_parse_18 : decode cX3_parse 18 = .ok (.istore 4, 2) := by decide +kernel
theorem dX3_parse_20 : decode cX3_parse 20 = .ok (.iload 4, 2) := by decide +kernel
theorem dX3_parse_22 : decode cX3_parse 22 = .ok (.sipush 900, 3) := by decide +kernel
theorem dX3_parse_25 : decode cX3_parse 25 = .ok (.if_icmp .ge 67, 3) := by decide +kernel
theorem dX3_parse_28 : decode cX3_parse 28 = .ok (.aload_n 0, 1) := by decide +kernel
theorem dX3_parse_29 : decode cX3_parse 29 = .ok (.getfield 15, 3) := by decide +kernel
theorem dX3_parse_32 : decode cX3_parse 32 = .ok (.getfield 34, 3) := by decide +kernel
theorem dX3_parse_35 : decode cX3_parse 35 = .ok (.ifCond .eq 57, 3) := by decide +kernel
theorem dX3_parse_38 : decode cX3_parse 38 = .ok (.aload_n 0, 1) := by decide +kernel
theorem dX3_parse_39 : decode cX3_parse 39 = .ok (.getfield 15, 3) := by decide +kernel
theorem dX3_parse_42 : decode cX3_parse 42 = .ok (.getfield 37, 3) := by decide +kernel
theorem dX3_parse_45 : decode cX3_parse 45 = .ok (.getstatic 41, 3) := by decide +kernel
theorem dX3_parse_48 : decode cX3_parse 48 = .ok (.if_acmp .ne 11, 3) := by decide +kernel
theorem dX3_parse_51 : decode cX3_parse 51 = .ok (.aload_n 0, 1) := by decide +kernel
theorem dX3_parse_52 : decode cX3_parse 52 = .ok (.aload_n 3, 1) := by decide +kernel
theorem dX3_parse_53 : decode cX3_parse 53 = .ok (.invokevirtual 46, 3) := by decide +kernel
theorem dX3_parse_56 : decode cX3_parse 56 = .ok (.goto 9, 3) := by decide +kernel
theorem dX3_parse_59 : decode cX3_parse 59 = .ok (.aload_n 0, 1) := by decide +kernel
theorem dX3_parse_60 : decode cX3_parse 60 = .ok (.aload_n 2, 1) := by decide +kernel
theorem dX3_parse_61 : decode cX3_parse 61 = .ok (.aload_n 3, 1) := by decide +kernel
theorem dX3_parse_62 : decode cX3_parse 62 = .ok (.invokevirtual 50, 3) := by decide +kernel
theorem dX3_parse_65 : decode cX3_parse 65 = .ok (.istore 5, 2) := by decide +kernel
theorem dX3_parse_67 : decode cX3_parse 67 = .ok (.iload 5, 2) := by decide +kernel
theorem dX3_parse_69 : decode cX3_parse 69 = .ok (.ifCond .eq 15, 3) := by decide +kernel
theorem dX3_parse_72 : decode cX3_parse 72 = .ok (.aload_n 0, 1) := by decide +kernel
theorem dX3_parse_73 : decode cX3_parse 73 = .ok (.getfield 15, 3) := by decide +kernel
theorem dX3_parse_76 : decode cX3_parse 76 = .ok (.bipush 59, 2) := by decide +kernel
theorem dX3_parse_78 : decode cX3_parse 78 = .ok (.invokevirtual 54, 3) := by decide +kernel
theorem dX3_parse_81 : decode cX3_parse 81 = .ok (.ifCond .ne 5, 3) := by decide +kernel
theorem dX3_parse_84 : decode cX3_parse 84 = .ok (.iconst 0, 1) := by decide +kernel
theorem dX3_parse_85 : decode cX3_parse 85 = .ok (.ireturn, 1) := by decide +kernel
theorem dX3_parse_86 : decode cX3_parse 86 = .ok (.iinc 4 1, 3) := by decide +kernel
theorem dX3_parse_89 : decode cX3_parse 89 = .ok (.goto (-69), 3) := by decide +kernel
theorem dX3_parse_92 : decode cX3_parse 92 = .ok (.aload_n 0, 1) := by decide +kernel
theorem dX3_parse_93 : decode cX3_parse 93 = .ok (.getfield 24, 3) := by decide +kernel
theorem dX3_parse_96 : decode cX3_parse 96 = .ok (.ifCond .le 11, 3) := by decide +kernel
theorem dX3_parse_99 : decode cX3_parse 99 = .ok (.aload_n 0, 1) := by decide +kernel
theorem dX3_parse_100 : decode cX3_parse 100 = .ok (.getfield 15, 3) := by decide +kernel
theorem dX3_parse_103 : decode cX3_parse 103 = .ok (.invokevirtual 58, 3) := by decide +kernel
theorem dX3_parse_106 : decode cX3_parse 106 = .ok (.ireturn, 1) := by decide +kernel
theorem dX3_parse_107 : decode cX3_parse 107 = .ok (.aload_n 3, 1) := by decide +kernel
theorem dX3_parse_108 : decode cX3_parse 108 = .ok (.iconst 1, 1) := by decide +kernel
theorem dX3_parse_109 : decode cX3_parse 109 = .ok (.putfield 62, 3) := by decide +kernel
theorem dX3_parse_112 : decode cX3_parse 112 = .ok (.iconst 1, 1) := by decide +kernel
theorem dX3_parse_113 : decode cX3_parse 113 = .ok (.ireturn, 1) := by decide +kernel
theorem dX3_takeEnd_0 : decode cX3_takeEnd 0 = .ok (.aload_n 1, 1) := by decide +kernel
theorem dX3_takeEnd_1 : decode cX3_takeEnd 1 = .ok (.getfield 66, 3) := by decide +kernel
theorem dX3_takeEnd_4 : decode cX3_takeEnd 4 = .ok (.istore_n 2, 1) := by decide +kernel
theorem dX3_takeEnd_5 : decode cX3_takeEnd 5 = .ok (.aload_n 0, 1) := by decide +kernel
theorem dX3_takeEnd_6 : decode cX3_takeEnd 6 = .ok (.getfield 24, 3) := by decide +kernel
theorem dX3_takeEnd_9 : decode cX3_takeEnd 9 = .ok (.i2l, 1) := by decide +kernel
theorem dX3_takeEnd_10 : decode cX3_takeEnd 10 = .ok (.iconst 1, 1) := by decide +kernel
theorem dX3_takeEnd_11 : decode cX3_takeEnd 11 = .ok (.iconst 3, 1) := by decide +kernel
theorem dX3_takeEnd_12 : decode cX3_takeEnd 12 = .ok (.invokestatic 69, 3) := by decide +kernel
theorem dX3_takeEnd_15 : decode cX3_takeEnd 15 = .ok (.ifCond .eq 10, 3) := by decide +kernel
theorem dX3_takeEnd_18 : decode cX3_takeEnd 18 = .ok (.iload_n 2, 1) := by decide +kernel
theorem dX3_takeEnd_19 : decode cX3_takeEnd 19 = .ok (.invokestatic 73, 3) := by decide +kernel
theorem dX3_takeEnd_22 : decode cX3_takeEnd 22 = .ok (.ifCond .ne 11, 3) := by decide +kernel
theorem dX3_takeEnd_25 : decode cX3_takeEnd 25 = .ok (.aload_n 0, 1) := by decide +kernel
theorem dX3_takeEnd_26 : decode cX3_takeEnd 26 = .ok (.getfield 15, 3) := by decide +kernel
theorem dX3_takeEnd_29 : decode cX3_takeEnd 29 = .ok (.invokevirtual 58, 3) := by decide +kernel
theorem dX3_takeEnd_32 : decode cX3_takeEnd 32 = .ok (.ireturn, 1) := by decide +kernel
theorem dX3_takeEnd_33 : decode cX3_takeEnd 33 = .ok (.aload_n 0, 1) := by decide +kernel
theorem dX3_takeEnd_34 : decode cX3_takeEnd 34 = .ok (.dup, 1) := by decide +kernel
theorem dX3_takeEnd_35 : decode cX3_takeEnd 35 = .ok (.getfield 24, 3) := by decide +kernel
theorem dX3_takeEnd_38 : decode cX3_takeEnd 38 = .ok (.iconst 1, 1) := by decide +kernel
theorem dX3_takeEnd_39 : decode cX3_takeEnd 39 = .ok (.isub, 1) := by decide +kernel
theorem dX3_takeEnd_40 : decode cX3_takeEnd 40 = .ok (.putfield 24, 3) := by decide +kernel
theorem dX3_takeEnd_43 : decode cX3_takeEnd 43 = .ok (.aload_n 0, 1) := by decide +kernel
theorem dX3_takeEnd_44 : decode cX3_takeEnd 44 = .ok (.getfield 11, 3) := by decide +kernel
theorem dX3_takeEnd_47 : decode cX3_takeEnd 47 = .ok (.aload_n 0, 1) := by decide +kernel
theorem dX3_takeEnd_48 : decode cX3_takeEnd 48 = .ok (.getfield 24, 3) := by decide +kernel
theorem dX3_takeEnd_51 : decode cX3_takeEnd 51 = .ok (.iaload, 1) := by decide +kernel
theorem dX3_takeEnd_52 : decode cX3_takeEnd 52 = .ok (.istore_n 3, 1) := by decide +kernel
theorem dX3_takeEnd_53 : decode cX3_takeEnd 53 = .ok (.iload_n 3, 1) := by decide +kernel
theorem dX3_takeEnd_54 : decode cX3_takeEnd 54 = .ok (.invokestatic 73, 3) := by decide +kernel
theorem dX3_takeEnd_57 : decode cX3_takeEnd 57 = .ok (.ifCond .ne 11, 3) := by decide +kernel
theorem dX3_takeEnd_60 : decode cX3_takeEnd 60 = .ok (.aload_n 0, 1) := by decide +kernel
theorem dX3_takeEnd_61 : decode cX3_takeEnd 61 = .ok (.getfield 15, 3) := by decide +kernel
theorem dX3_takeEnd_64 : decode cX3_takeEnd 64 = .ok (.invokevirtual 58, 3) := by decide +kernel
theorem dX3_takeEnd_67 : decode cX3_takeEnd 67 = .ok (.ireturn, 1) := by decide +kernel
theorem dX3_takeEnd_68 : decode cX3_takeEnd 68 = .ok (.aload_n 1, 1) := by decide +kernel
theorem dX3_takeEnd_69 : decode cX3_takeEnd 69 = .ok (.getfield 76, 3) := by decide +kernel
theorem dX3_takeEnd_72 : decode cX3_takeEnd 72 = .ok (.iload_n 2, 1) := by decide +kernel
theorem dX3_takeEnd_73 : decode cX3_takeEnd 73 = .ok (.bipush 13, 2) := by decide +kernel
theorem dX3_takeEnd_75 : decode cX3_takeEnd 75 = .ok (.iastore, 1) := by decide +kernel
theorem dX3_takeEnd_76 : decode cX3_takeEnd 76 = .ok (.aload_n 1, 1) := by decide +kernel
theorem dX3_takeEnd_77 : decode cX3_takeEnd 77 = .ok (.getfield 79, 3) := by decide +kernel
theorem dX3_takeEnd_80 : decode cX3_takeEnd 80 = .ok (.iload_n 2, 1) := by decide +kernel
theorem dX3_takeEnd_81 : decode cX3_takeEnd 81 = .ok (.iload_n 3, 1) := by decide +kernel
theorem dX3_takeEnd_82 : decode cX3_takeEnd 82 = .ok (.iastore, 1) := by decide +kernel
theorem dX3_takeEnd_83 : decode cX3_takeEnd 83 = .ok (.aload_n 1, 1) := by decide +kernel
theorem dX3_takeEnd_84 : decode cX3_takeEnd 84 = .ok (.getfield 79, 3) := by decide +kernel
theorem dX3_takeEnd_87 : decode cX3_takeEnd 87 = .ok (.iload_n 3, 1) := by decide +kernel
theorem dX3_takeEnd_88 : decode cX3_takeEnd 88 = .ok (.iload_n 2, 1) := by decide +kernel
theorem dX3_takeEnd_89 : decode cX3_takeEnd 89 = .ok (.iastore, 1) := by decide +kernel
theorem dX3_takeEnd_90 : decode cX3_takeEnd 90 = .ok (.aload_n 1, 1) := by decide +kernel
theorem dX3_takeEnd_91 : decode cX3_takeEnd 91 = .ok (.dup, 1) := by decide +kernel
theorem dX3_takeEnd_92 : decode cX3_takeEnd 92 = .ok (.getfield 66, 3) := by decide +kernel
theorem dX3_takeEnd_95 : decode cX3_takeEnd 95 = .ok (.iconst 1, 1) := by decide +kernel
theorem dX3_takeEnd_96 : decode cX3_takeEnd 96 = .ok (.iadd, 1) := by decide +kernel
theorem dX3_takeEnd_97 : decode cX3_takeEnd 97 = .ok (.putfield 66, 3) := by decide +kernel
theorem dX3_takeEnd_100 : decode cX3_takeEnd 100 = .ok (.aload_n 0, 1) := by decide +kernel
theorem dX3_takeEnd_101 : decode cX3_takeEnd 101 = .ok (.getfield 15, 3) := by decide +kernel
theorem dX3_takeEnd_104 : decode cX3_takeEnd 104 = .ok (.invokevirtual 82, 3) := by decide +kernel
theorem dX3_takeEnd_107 : decode cX3_takeEnd 107 = .ok (.iconst 1, 1) := by decide +kernel
theorem dX3_takeEnd_108 : decode cX3_takeEnd 108 = .ok (.ireturn, 1) := by decide +kernel
theorem dX3_takeStep_0 : decode cX3_takeStep 0 = .ok (.aload_n 0, 1) := by decide +kernel
theorem dX3_takeStep_1 : decode cX3_takeStep 1 = .ok (.getfield 15, 3) := by decide +kernel
theorem dX3_takeStep_4 : decode cX3_takeStep 4 = .ok (.getfield 37, 3) := by decide +kernel
theorem dX3_takeStep_7 : decode cX3_takeStep 7 = .ok (.astore_n 3, 1) := by decide +kernel
theorem dX3_takeStep_8 : decode cX3_takeStep 8 = .ok (.aload_n 3, 1) := by decide +kernel
theorem dX3_takeStep_9 : decode cX3_takeStep 9 = .ok (.invokestatic 85, 3) := by decide +kernel
theorem dX3_takeStep_12 : decode cX3_takeStep 12 = .ok (.istore 4, 2) := by decide +kernel
theorem dX3_takeStep_14 : decode cX3_takeStep 14 = .ok (.iload 4, 2) := by decide +kernel
theorem dX3_takeStep_16 : decode cX3_takeStep 16 = .ok (.iconst (-1), 1) := by decide +kernel
theorem dX3_takeStep_17 : decode cX3_takeStep 17 = .ok (.if_icmp .ne 11, 3) := by decide +kernel
theorem dX3_takeStep_20 : decode cX3_takeStep 20 = .ok (.aload_n 0, 1) := by decide +kernel
theorem dX3_takeStep_21 : decode cX3_takeStep 21 = .ok (.getfield 15, 3) := by decide +kernel
theorem dX3_takeStep_24 : decode cX3_takeStep 24 = .ok (.invokevirtual 58, 3) := by decide +kernel
theorem dX3_takeStep_27 : decode cX3_takeStep 27 = .ok (.ireturn, 1) := by decide +kernel
theorem dX3_takeStep_28 : decode cX3_takeStep 28 = .ok (.aload_n 2, 1) := by decide +kernel
theorem dX3_takeStep_29 : decode cX3_takeStep 29 = .ok (.getfield 89, 3) := by decide +kernel
theorem dX3_takeStep_32 : decode cX3_takeStep 32 = .ok (.bipush 30, 2) := by decide +kernel
theorem dX3_takeStep_34 : decode cX3_takeStep 34 = .ok (.if_icmp .ge 13, 3) := by decide +kernel
theorem dX3_takeStep_37 : decode cX3_takeStep 37 = .ok (.aload_n 2, 1) := by decide +kernel
theorem dX3_takeStep_38 : decode cX3_takeStep 38 = .ok (.getfield 66, 3) := by decide +kernel
theorem dX3_takeStep_41 : decode cX3_takeStep 41 = .ok (.invokestatic 73, 3) := by decide +kernel
theorem dX3_takeStep_44 : decode cX3_takeStep 44 = .ok (.ifCond .ne 20, 3) := by decide +kernel
theorem dX3_takeStep_47 : decode cX3_takeStep 47 = .ok (.aload_n 0, 1) := by decide +kernel
theorem dX3_takeStep_48 : decode cX3_takeStep 48 = .ok (.getfield 15, 3) := by decide +kernel
theorem dX3_takeStep_51 : decode cX3_takeStep 51 = .ok (.bipush 6, 2) := by decide +kernel
theorem dX3_takeStep_53 : decode cX3_takeStep 53 = .ok (.aload_n 0, 1) := by decide +kernel
theorem dX3_takeStep_54 : decode cX3_takeStep 54 = .ok (.getfield 15, 3) := by decide +kernel
theorem dX3_takeStep_57 : decode cX3_takeStep 57 = .ok (.getfield 92, 3) := by decide +kernel
theorem dX3_takeStep_60 : decode cX3_takeStep 60 = .ok (.invokevirtual 95, 3) := by decide +kernel
theorem dX3_takeStep_63 : decode cX3_takeStep 63 = .ok (.ireturn, 1) := by decide +kernel
theorem dX3_takeStep_64 : decode cX3_takeStep 64 = .ok (.aload_n 0, 1) := by decide +kernel
theorem dX3_takeStep_65 : decode cX3_takeStep 65 = .ok (.aload_n 2, 1) := by decide +kernel
theorem dX3_takeStep_66 : decode cX3_takeStep 66 = .ok (.getfield 66, 3) := by decide +kernel
theorem dX3_takeStep_69 : decode cX3_takeStep 69 = .ok (.putfield 99, 3) := by decide +kernel
theorem dX3_takeStep_72 : decode cX3_takeStep 72 = .ok (.aload_n 3, 1) := by decide +kernel
theorem dX3_takeStep_73 : decode cX3_takeStep 73 = .ok (.getstatic 102, 3) := by decide +kernel
theorem dX3_takeStep_76 : decode cX3_takeStep 76 = .ok (.if_acmp .eq 10, 3) := by decide +kernel
theorem dX3_takeStep_79 : decode cX3_takeStep 79 = .ok (.aload_n 3, 1) := by decide +kernel
theorem dX3_takeStep_80 : decode cX3_takeStep 80 = .ok (.getstatic 105, 3) := by decide +kernel
theorem dX3_takeStep_83 : decode cX3_takeStep 83 = .ok (.if_acmp .ne 56, 3) := by decide +kernel
theorem dX3_takeStep_86 : decode cX3_takeStep 86 = .ok (.aload_n 0, 1) := by decide +kernel
theorem dX3_takeStep_87 : decode cX3_takeStep 87 = .ok (.getfield 24, 3) := by decide +kernel
theorem dX3_takeStep_90 : decode cX3_takeStep 90 = .ok (.i2l, 1) := by decide +kernel
theorem dX3_takeStep_91 : decode cX3_takeStep 91 = .ok (.iconst 0, 1) := by decide +kernel
theorem dX3_takeStep_92 : decode cX3_takeStep 92 = .ok (.iconst 2, 1) := by decide +kernel
theorem dX3_takeStep_93 : decode cX3_takeStep 93 = .ok (.invokestatic 69, 3) := by decide +kernel
theorem dX3_takeStep_96 : decode cX3_takeStep 96 = .ok (.ifCond .ne 20, 3) := by decide +kernel
theorem dX3_takeStep_99 : decode cX3_takeStep 99 = .ok (.aload_n 0, 1) := by decide +kernel
theorem dX3_takeStep_100 : decode cX3_takeStep 100 = .ok (.getfield 15, 3) := by decide +kernel
theorem dX3_takeStep_103 : decode cX3_takeStep 103 = .ok (.bipush 7, 2) := by decide +kernel
theorem dX3_takeStep_105 : decode cX3_takeStep 105 = .ok (.aload_n 0, 1) := by decide +kernel
theorem dX3_takeStep_106 : decode cX3_takeStep 106 = .ok (.getfield 15, 3) := by decide +kernel
theorem dX3_takeStep_109 : decode cX3_takeStep 109 = .ok (.getfield 92, 3) := by decide +kernel
theorem dX3_takeStep_112 : decode cX3_takeStep 112 = .ok (.invokevirtual 95, 3) := by decide +kernel
theorem dX3_takeStep_115 : decode cX3_takeStep 115 = .ok (.ireturn, 1) := by decide +kernel
theorem dX3_takeStep_116 : decode cX3_takeStep 116 = .ok (.aload_n 0, 1) := by decide +kernel
theorem dX3_takeStep_117 : decode cX3_takeStep 117 = .ok (.getfield 11, 3) := by decide +kernel
theorem dX3_takeStep_120 : decode cX3_takeStep 120 = .ok (.aload_n 0, 1) := by decide +kernel
theorem dX3_takeStep_121 : decode cX3_takeStep 121 = .ok (.getfield 24, 3) := by decide +kernel
theorem dX3_takeStep_124 : decode cX3_takeStep 124 = .ok (.aload_n 0, 1) := by decide +kernel
theorem dX3_takeStep_125 : decode cX3_takeStep 125 = .ok (.getfield 99, 3) := by decide +kernel
theorem dX3_takeStep_128 : decode cX3_takeStep 128 = .ok (.iastore, 1) := by decide +kernel
theorem dX3_takeStep_129 : decode cX3_takeStep 129 = .ok (.aload_n 0, 1) := by decide +kernel
theorem dX3_takeStep_130 : decode cX3_takeStep 130 = .ok (.dup, 1) := by decide +kernel
theorem dX3_takeStep_131 : decode cX3_takeStep 131 = .ok (.getfield 24, 3) := by decide +kernel
theorem dX3_takeStep_134 : decode cX3_takeStep 134 = .ok (.iconst 1, 1) := by decide +kernel
theorem dX3_takeStep_135 : decode cX3_takeStep 135 = .ok (.iadd, 1) := by decide +kernel
theorem dX3_takeStep_136 : decode cX3_takeStep 136 = .ok (.putfield 24, 3) := by decide +kernel
theorem dX3_takeStep_139 : decode cX3_takeStep 139 = .ok (.aload_n 2, 1) := by decide +kernel
theorem dX3_takeStep_140 : decode cX3_takeStep 140 = .ok (.getfield 76, 3) := by decide +kernel
theorem dX3_takeStep_143 : decode cX3_takeStep 143 = .ok (.aload_n 0, 1) := by decide +kernel
theorem dX3_takeStep_144 : decode cX3_takeStep 144 = .ok (.getfield 99, 3) := by decide +kernel
theorem dX3_takeStep_147 : decode cX3_takeStep 147 = .ok (.iload 4, 2) := by decide +kernel
theorem dX3_takeStep_149 : decode cX3_takeStep 149 = .ok (.iastore, 1) := by decide +kernel
theorem dX3_takeStep_150 : decode cX3_takeStep 150 = .ok (.aload_n 2, 1) := by decide +kernel
theorem dX3_takeStep_151 : decode cX3_takeStep 151 = .ok (.dup, 1) := by decide +kernel
theorem dX3_takeStep_152 : decode cX3_takeStep 152 = .ok (.getfield 66, 3) := by decide +kernel
theorem dX3_takeStep_155 : decode cX3_takeStep 155 = .ok (.iconst 1, 1) := by decide +kernel
theorem dX3_takeStep_156 : decode cX3_takeStep 156 = .ok (.iadd, 1) := by decide +kernel
theorem dX3_takeStep_157 : decode cX3_takeStep 157 = .ok (.putfield 66, 3) := by decide +kernel
theorem dX3_takeStep_160 : decode cX3_takeStep 160 = .ok (.aload_n 2, 1) := by decide +kernel
theorem dX3_takeStep_161 : decode cX3_takeStep 161 = .ok (.dup, 1) := by decide +kernel
theorem dX3_takeStep_162 : decode cX3_takeStep 162 = .ok (.getfield 89, 3) := by decide +kernel
theorem dX3_takeStep_165 : decode cX3_takeStep 165 = .ok (.iconst 1, 1) := by decide +kernel
theorem dX3_takeStep_166 : decode cX3_takeStep 166 = .ok (.iadd, 1) := by decide +kernel
theorem dX3_takeStep_167 : decode cX3_takeStep 167 = .ok (.putfield 89, 3) := by decide +kernel
theorem dX3_takeStep_170 : decode cX3_takeStep 170 = .ok (.aload_n 0, 1) := by decide +kernel
theorem dX3_takeStep_171 : decode cX3_takeStep 171 = .ok (.getfield 15, 3) := by decide +kernel
theorem dX3_takeStep_174 : decode cX3_takeStep 174 = .ok (.invokevirtual 82, 3) := by decide +kernel
theorem dX3_takeStep_177 : decode cX3_takeStep 177 = .ok (.aload_n 3, 1) := by decide +kernel
theorem dX3_takeStep_178 : decode cX3_takeStep 178 = .ok (.getstatic 102, 3) := by decide +kernel
theorem dX3_takeStep_181 : decode cX3_takeStep 181 = .ok (.if_acmp .ne 12, 3) := by decide +kernel
theorem dX3_takeStep_184 : decode cX3_takeStep 184 = .ok (.aload_n 0, 1) := by decide +kernel
theorem dX3_takeStep_185 : decode cX3_takeStep 185 = .ok (.aload_n 1, 1) := by decide +kernel
theorem dX3_takeStep_186 : decode cX3_takeStep 186 = .ok (.aload_n 2, 1) := by decide +kernel
theorem dX3_takeStep_187 : decode cX3_takeStep 187 = .ok (.invokevirtual 108, 3) := by decide +kernel
theorem dX3_takeStep_190 : decode cX3_takeStep 190 = .ok (.goto 11, 3) := by decide +kernel
theorem dX3_takeStep_193 : decode cX3_takeStep 193 = .ok (.aload_n 0, 1) := by decide +kernel
theorem dX3_takeStep_194 : decode cX3_takeStep 194 = .ok (.iload 4, 2) := by decide +kernel
theorem dX3_takeStep_196 : decode cX3_takeStep 196 = .ok (.aload_n 1, 1) := by decide +kernel
theorem dX3_takeStep_197 : decode cX3_takeStep 197 = .ok (.aload_n 2, 1) := by decide +kernel
theorem dX3_takeStep_198 : decode cX3_takeStep 198 = .ok (.invokevirtual 111, 3) := by decide +kernel
theorem dX3_takeStep_201 : decode cX3_takeStep 201 = .ok (.ireturn, 1) := by decide +kernel
theorem dX3_kindOf_0 : decode cX3_kindOf 0 = .ok (.aload_n 0, 1) := by decide +kernel
theorem dX3_kindOf_1 : decode cX3_kindOf 1 = .ok (.getstatic 115, 3) := by decide +kernel
theorem dX3_kindOf_4 : decode cX3_kindOf 4 = .ok (.if_acmp .ne 5, 3) := by decide +kernel
theorem dX3_kindOf_7 : decode cX3_kindOf 7 = .ok (.iconst 0, 1) := by decide +kernel
theorem dX3_kindOf_8 : decode cX3_kindOf 8 = .ok (.ireturn, 1) := by decide +kernel
theorem dX3_kindOf_9 : decode cX3_kindOf 9 = .ok (.aload_n 0, 1) := by decide +kernel
theorem dX3_kindOf_10 : decode cX3_kindOf 10 = .ok (.getstatic 118, 3) := by decide +kernel
theorem dX3_kindOf_13 : decode cX3_kindOf 13 = .ok (.if_acmp .ne 5, 3) := by decide +kernel
theorem dX3_kindOf_16 : decode cX3_kindOf 16 = .ok (.iconst 1, 1) := by decide +kernel
theorem dX3_kindOf_17 : decode cX3_kindOf 17 = .ok (.ireturn, 1) := by decide +kernel
theorem dX3_kindOf_18 : decode cX3_kindOf 18 = .ok (.aload_n 0, 1) := by decide +kernel
theorem dX3_kindOf_19 : decode cX3_kindOf 19 = .ok (.getstatic 121, 3) := by decide +kernel
theorem dX3_kindOf_22 : decode cX3_kindOf 22 = .ok (.if_acmp .ne 5, 3) := by decide +kernel
theorem dX3_kindOf_25 : decode cX3_kindOf 25 = .ok (.iconst 2, 1) := by decide +kernel
theorem dX3_kindOf_26 : decode cX3_kindOf 26 = .ok (.ireturn, 1) := by decide +kernel
theorem dX3_kindOf_27 : decode cX3_kindOf 27 = .ok (.aload_n 0, 1) := by decide +kernel
theorem dX3_kindOf_28 : decode cX3_kindOf 28 = .ok (.getstatic 124, 3) := by decide +kernel
theorem dX3_kindOf_31 : decode cX3_kindOf 31 = .ok (.if_acmp .ne 5, 3) := by decide +kernel
theorem dX3_kindOf_34 : decode cX3_kindOf 34 = .ok (.iconst 3, 1) := by decide +kernel
theorem dX3_kindOf_35 : decode cX3_kindOf 35 = .ok (.ireturn, 1) := by decide +kernel
theorem dX3_kindOf_36 : decode cX3_kindOf 36 = .ok (.aload_n 0, 1) := by decide +kernel
theorem dX3_kindOf_37 : decode cX3_kindOf 37 = .ok (.getstatic 127, 3) := by decide +kernel
theorem dX3_kindOf_40 : decode cX3_kindOf 40 = .ok (.if_acmp .ne 5, 3) := by decide +kernel
theorem dX3_kindOf_43 : decode cX3_kindOf 43 = .ok (.iconst 4, 1) := by decide +kernel
theorem dX3_kindOf_44 : decode cX3_kindOf 44 = .ok (.ireturn, 1) := by decide +kernel
theorem dX3_kindOf_45 : decode cX3_kindOf 45 = .ok (.aload_n 0, 1) := by decide +kernel
theorem dX3_kindOf_46 : decode cX3_kindOf 46 = .ok (.getstatic 130, 3) := by decide +kernel
theorem dX3_kindOf_49 : decode cX3_kindOf 49 = .ok (.if_acmp .ne 5, 3) := by decide +kernel
theorem dX3_kindOf_52 : decode cX3_kindOf 52 = .ok (.iconst 5, 1) := by decide +kernel
theorem dX3_kindOf_53 : decode cX3_kindOf 53 = .ok (.ireturn, 1) := by decide +kernel
theorem dX3_kindOf_54 : decode cX3_kindOf 54 = .ok (.aload_n 0, 1) := by decide +kernel
theorem dX3_kindOf_55 : decode cX3_kindOf 55 = .ok (.getstatic 133, 3) := by decide +kernel
theorem dX3_kindOf_58 : decode cX3_kindOf 58 = .ok (.if_acmp .ne 6, 3) := by decide +kernel
theorem dX3_kindOf_61 : decode cX3_kindOf 61 = .ok (.bipush 6, 2) := by decide +kernel
theorem dX3_kindOf_63 : decode cX3_kindOf 63 = .ok (.ireturn, 1) := by decide +kernel
theorem dX3_kindOf_64 : decode cX3_kindOf 64 = .ok (.aload_n 0, 1) := by decide +kernel
theorem dX3_kindOf_65 : decode cX3_kindOf 65 = .ok (.getstatic 102, 3) := by decide +kernel
theorem dX3_kindOf_68 : decode cX3_kindOf 68 = .ok (.if_acmp .ne 6, 3) := by decide +kernel
theorem dX3_kindOf_71 : decode cX3_kindOf 71 = .ok (.bipush 9, 2) := by decide +kernel
theorem dX3_kindOf_73 : decode cX3_kindOf 73 = .ok (.ireturn, 1) := by decide +kernel
theorem dX3_kindOf_74 : decode cX3_kindOf 74 = .ok (.aload_n 0, 1) := by decide +kernel
theorem dX3_kindOf_75 : decode cX3_kindOf 75 = .ok (.getstatic 105, 3) := by decide +kernel
theorem dX3_kindOf_78 : decode cX3_kindOf 78 = .ok (.if_acmp .ne 6, 3) := by decide +kernel
theorem dX3_kindOf_81 : decode cX3_kindOf 81 = .ok (.bipush 11, 2) := by decide +kernel
theorem dX3_kindOf_83 : decode cX3_kindOf 83 = .ok (.ireturn, 1) := by decide +kernel
theorem dX3_kindOf_84 : decode cX3_kindOf 84 = .ok (.aload_n 0, 1) := by decide +kernel
theorem dX3_kindOf_85 : decode cX3_kindOf 85 = .ok (.getstatic 136, 3) := by decide +kernel
theorem dX3_kindOf_88 : decode cX3_kindOf 88 = .ok (.if_acmp .ne 8, 3) := by decide +kernel
theorem dX3_kindOf_91 : decode cX3_kindOf 91 = .ok (.bipush 12, 2) := by decide +kernel
theorem dX3_kindOf_93 : decode cX3_kindOf 93 = .ok (.goto 4, 3) := by decide +kernel
theorem dX3_kindOf_96 : decode cX3_kindOf 96 = .ok (.iconst (-1), 1) := by decide +kernel
theorem dX3_kindOf_97 : decode cX3_kindOf 97 = .ok (.ireturn, 1) := by decide +kernel
theorem dX3_takeRest_0 : decode cX3_takeRest 0 = .ok (.iload_n 1, 1) := by decide +kernel
theorem dX3_takeRest_1 : decode cX3_takeRest 1 = .ok (.tableswitch 219 0 11 #[63, 63, 72, 78, 121, 132, 219, 219, 219, 219, 219, 210], 63) := by decide +kernel
theorem dX3_takeRest_64 : decode cX3_takeRest 64 = .ok (.aload_n 0, 1) := by decide +kernel
theorem dX3_takeRest_65 : decode cX3_takeRest 65 = .ok (.aload_n 3, 1) := by decide +kernel
theorem dX3_takeRest_66 : decode cX3_takeRest 66 = .ok (.iconst 0, 1) := by decide +kernel
theorem dX3_takeRest_67 : decode cX3_takeRest 67 = .ok (.bipush 40, 2) := by decide +kernel
theorem dX3_takeRest_69 : decode cX3_takeRest 69 = .ok (.invokevirtual 139, 3) := by decide +kernel
theorem dX3_takeRest_72 : decode cX3_takeRest 72 = .ok (.ireturn, 1) := by decide +kernel
theorem dX3_takeRest_73 : decode cX3_takeRest 73 = .ok (.aload_n 0, 1) := by decide +kernel
theorem dX3_takeRest_74 : decode cX3_takeRest 74 = .ok (.aload_n 3, 1) := by decide +kernel
theorem dX3_takeRest_75 : decode cX3_takeRest 75 = .ok (.invokevirtual 143, 3) := by decide +kernel
theorem dX3_takeRest_78 : decode cX3_takeRest 78 = .ok (.ireturn, 1) := by decide +kernel
theorem dX3_takeRest_79 : decode cX3_takeRest 79 = .ok (.aload_n 0, 1) := by decide +kernel
theorem dX3_takeRest_80 : decode cX3_takeRest 80 = .ok (.aload_n 2, 1) := by decide +kernel
theorem dX3_takeRest_81 : decode cX3_takeRest 81 = .ok (.iconst 1, 1) := by decide +kernel
theorem dX3_takeRest_82 : decode cX3_takeRest 82 = .ok (.aload_n 3, 1) := by decide +kernel
theorem dX3_takeRest_83 : decode cX3_takeRest 83 = .ok (.getfield 146, 3) := by decide +kernel
theorem dX3_takeRest_86 : decode cX3_takeRest 86 = .ok (.invokevirtual 149, 3) := by decide +kernel
theorem dX3_takeRest_89 : decode cX3_takeRest 89 = .ok (.ifCond .eq 31, 3) := by decide +kernel
theorem dX3_takeRest_92 : decode cX3_takeRest 92 = .ok (.aload_n 0, 1) := by decide +kernel
theorem dX3_takeRest_93 : decode cX3_takeRest 93 = .ok (.getfield 15, 3) := by decide +kernel
theorem dX3_takeRest_96 : decode cX3_takeRest 96 = .ok (.getstatic 153, 3) := by decide +kernel
theorem dX3_takeRest_99 : decode cX3_takeRest 99 = .ok (.invokevirtual 156, 3) := by decide +kernel
theorem dX3_takeRest_102 : decode cX3_takeRest 102 = .ok (.ifCond .eq 18, 3) := by decide +kernel
theorem dX3_takeRest_105 : decode cX3_takeRest 105 = .ok (.aload_n 0, 1) := by decide +kernel
theorem dX3_takeRest_106 : decode cX3_takeRest 106 = .ok (.aload_n 3, 1) := by decide +kernel
theorem dX3_takeRest_107 : decode cX3_takeRest 107 = .ok (.iconst 1, 1) := by decide +kernel
theorem dX3_takeRest_108 : decode cX3_takeRest 108 = .ok (.bipush 40, 2) := by decide +kernel
theorem dX3_takeRest_110 : decode cX3_takeRest 110 = .ok (.invokevirtual 139, 3) := by decide +kernel
theorem dX3_takeRest_113 : decode cX3_takeRest 113 = .ok (.ifCond .eq 7, 3) := by decide +kernel
theorem dX3_takeRest_116 : decode cX3_takeRest 116 = .ok (.iconst 1, 1) := by decide +kernel
theorem dX3_takeRest_117 : decode cX3_takeRest 117 = .ok (.goto 4, 3) := by decide +kernel
theorem dX3_takeRest_120 : decode cX3_takeRest 120 = .ok (.iconst 0, 1) := by decide +kernel
theorem dX3_takeRest_121 : decode cX3_takeRest 121 = .ok (.ireturn, 1) := by decide +kernel
theorem dX3_takeRest_122 : decode cX3_takeRest 122 = .ok (.aload_n 0, 1) := by decide +kernel
theorem dX3_takeRest_123 : decode cX3_takeRest 123 = .ok (.aload_n 2, 1) := by decide +kernel
theorem dX3_takeRest_124 : decode cX3_takeRest 124 = .ok (.iconst 1, 1) := by decide +kernel
theorem dX3_takeRest_125 : decode cX3_takeRest 125 = .ok (.aload_n 3, 1) := by decide +kernel
theorem dX3_takeRest_126 : decode cX3_takeRest 126 = .ok (.getfield 146, 3) := by decide +kernel
theorem dX3_takeRest_129 : decode cX3_takeRest 129 = .ok (.invokevirtual 149, 3) := by decide +kernel
theorem dX3_takeRest_132 : decode cX3_takeRest 132 = .ok (.ireturn, 1) := by decide +kernel
theorem dX3_takeRest_133 : decode cX3_takeRest 133 = .ok (.aload_n 0, 1) := by decide +kernel
theorem dX3_takeRest_134 : decode cX3_takeRest 134 = .ok (.aload_n 2, 1) := by decide +kernel
theorem dX3_takeRest_135 : decode cX3_takeRest 135 = .ok (.iconst 1, 1) := by decide +kernel
theorem dX3_takeRest_136 : decode cX3_takeRest 136 = .ok (.aload_n 3, 1) := by decide +kernel
theorem dX3_takeRest_137 : decode cX3_takeRest 137 = .ok (.getfield 146, 3) := by decide +kernel
theorem dX3_takeRest_140 : decode cX3_takeRest 140 = .ok (.invokevirtual 149, 3) := by decide +kernel
theorem dX3_takeRest_143 : decode cX3_takeRest 143 = .ok (.ifCond .eq 66, 3) := by decide +kernel
theorem dX3_takeRest_146 : decode cX3_takeRest 146 = .ok (.aload_n 0, 1) := by decide +kernel
theorem dX3_takeRest_147 : decode cX3_takeRest 147 = .ok (.getfield 15, 3) := by decide +kernel
theorem dX3_takeRest_150 : decode cX3_takeRest 150 = .ok (.getstatic 160, 3) := by decide +kernel
theorem dX3_takeRest_153 : decode cX3_takeRest 153 = .ok (.invokevirtual 156, 3) := by decide +kernel
theorem dX3_takeRest_156 : decode cX3_takeRest 156 = .ok (.ifCond .eq 53, 3) := by decide +kernel
theorem dX3_takeRest_159 : decode cX3_takeRest 159 = .ok (.aload_n 0, 1) := by decide +kernel
theorem dX3_takeRest_160 : decode cX3_takeRest 160 = .ok (.aload_n 2, 1) := by decide +kernel
theorem dX3_takeRest_161 : decode cX3_takeRest 161 = .ok (.iconst 0, 1) := by decide +kernel
theorem dX3_takeRest_162 : decode cX3_takeRest 162 = .ok (.aload_n 3, 1) := by decide +kernel
theorem dX3_takeRest_163 : decode cX3_takeRest 163 = .ok (.getfield 163, 3) := by decide +kernel
theorem dX3_takeRest_166 : decode cX3_takeRest 166 = .ok (.invokevirtual 149, 3) := by decide +kernel
theorem dX3_takeRest_169 : decode cX3_takeRest 169 = .ok (.ifCond .eq 40, 3) := by decide +kernel
theorem dX3_takeRest_172 : decode cX3_takeRest 172 = .ok (.aload_n 0, 1) := by decide +kernel
theorem dX3_takeRest_173 : decode cX3_takeRest 173 = .ok (.aload_n 2, 1) := by decide +kernel
theorem dX3_takeRest_174 : decode cX3_takeRest 174 = .ok (.aload_n 3, 1) := by decide +kernel
theorem dX3_takeRest_175 : decode cX3_takeRest 175 = .ok (.invokevirtual 166, 3) := by decide +kernel
theorem dX3_takeRest_178 : decode cX3_takeRest 178 = .ok (.ifCond .eq 31, 3) := by decide +kernel
theorem dX3_takeRest_181 : decode cX3_takeRest 181 = .ok (.aload_n 0, 1) := by decide +kernel
theorem dX3_takeRest_182 : decode cX3_takeRest 182 = .ok (.getfield 15, 3) := by decide +kernel
theorem dX3_takeRest_185 : decode cX3_takeRest 185 = .ok (.getstatic 153, 3) := by decide +kernel
theorem dX3_takeRest_188 : decode cX3_takeRest 188 = .ok (.invokevirtual 156, 3) := by decide +kernel
theorem dX3_takeRest_191 : decode cX3_takeRest 191 = .ok (.ifCond .eq 18, 3) := by decide +kernel
theorem dX3_takeRest_194 : decode cX3_takeRest 194 = .ok (.aload_n 0, 1) := by decide +kernel
theorem dX3_takeRest_195 : decode cX3_takeRest 195 = .ok (.aload_n 3, 1) := by decide +kernel
theorem dX3_takeRest_196 : decode cX3_takeRest 196 = .ok (.iconst 1, 1) := by decide +kernel
theorem dX3_takeRest_197 : decode cX3_takeRest 197 = .ok (.bipush 40, 2) := by decide +kernel
theorem dX3_takeRest_199 : decode cX3_takeRest 199 = .ok (.invokevirtual 139, 3) := by decide +kernel
theorem dX3_takeRest_202 : decode cX3_takeRest 202 = .ok (.ifCond .eq 7, 3) := by decide +kernel
theorem dX3_takeRest_205 : decode cX3_takeRest 205 = .ok (.iconst 1, 1) := by decide +kernel
theorem dX3_takeRest_206 : decode cX3_takeRest 206 = .ok (.goto 4, 3) := by decide +kernel
theorem dX3_takeRest_209 : decode cX3_takeRest 209 = .ok (.iconst 0, 1) := by decide +kernel
theorem dX3_takeRest_210 : decode cX3_takeRest 210 = .ok (.ireturn, 1) := by decide +kernel
theorem dX3_takeRest_211 : decode cX3_takeRest 211 = .ok (.aload_n 0, 1) := by decide +kernel
theorem dX3_takeRest_212 : decode cX3_takeRest 212 = .ok (.aload_n 3, 1) := by decide +kernel
theorem dX3_takeRest_213 : decode cX3_takeRest 213 = .ok (.iconst 1, 1) := by decide +kernel
theorem dX3_takeRest_214 : decode cX3_takeRest 214 = .ok (.bipush 99, 2) := by decide +kernel
theorem dX3_takeRest_216 : decode cX3_takeRest 216 = .ok (.invokevirtual 139, 3) := by decide +kernel
theorem dX3_takeRest_219 : decode cX3_takeRest 219 = .ok (.ireturn, 1) := by decide +kernel
theorem dX3_takeRest_220 : decode cX3_takeRest 220 = .ok (.iconst 1, 1) := by decide +kernel
theorem dX3_takeRest_221 : decode cX3_takeRest 221 = .ok (.ireturn, 1) := by decide +kernel
theorem dX3_takeAmount_0 : decode cX3_takeAmount 0 = .ok (.aload_n 0, 1) := by decide +kernel
theorem dX3_takeAmount_1 : decode cX3_takeAmount 1 = .ok (.getfield 15, 3) := by decide +kernel
theorem dX3_takeAmount_4 : decode cX3_takeAmount 4 = .ok (.iload_n 2, 1) := by decide +kernel
theorem dX3_takeAmount_5 : decode cX3_takeAmount 5 = .ok (.iload_n 3, 1) := by decide +kernel
theorem dX3_takeAmount_6 : decode cX3_takeAmount 6 = .ok (.invokevirtual 169, 3) := by decide +kernel
theorem dX3_takeAmount_9 : decode cX3_takeAmount 9 = .ok (.ifCond .eq 13, 3) := by decide +kernel
theorem dX3_takeAmount_12 : decode cX3_takeAmount 12 = .ok (.aload_n 0, 1) := by decide +kernel
theorem dX3_takeAmount_13 : decode cX3_takeAmount 13 = .ok (.getfield 99, 3) := by decide +kernel
theorem dX3_takeAmount_16 : decode cX3_takeAmount 16 = .ok (.invokestatic 73, 3) := by decide +kernel
theorem dX3_takeAmount_19 : decode cX3_takeAmount 19 = .ok (.ifCond .ne 5, 3) := by decide +kernel
theorem dX3_takeAmount_22 : decode cX3_takeAmount 22 = .ok (.iconst 0, 1) := by decide +kernel
theorem dX3_takeAmount_23 : decode cX3_takeAmount 23 = .ok (.ireturn, 1) := by decide +kernel
theorem dX3_takeAmount_24 : decode cX3_takeAmount 24 = .ok (.aload_n 1, 1) := by decide +kernel
theorem dX3_takeAmount_25 : decode cX3_takeAmount 25 = .ok (.getfield 172, 3) := by decide +kernel
theorem dX3_takeAmount_28 : decode cX3_takeAmount 28 = .ok (.aload_n 0, 1) := by decide +kernel
theorem dX3_takeAmount_29 : decode cX3_takeAmount 29 = .ok (.getfield 99, 3) := by decide +kernel
theorem dX3_takeAmount_32 : decode cX3_takeAmount 32 = .ok (.aload_n 0, 1) := by decide +kernel
theorem dX3_takeAmount_33 : decode cX3_takeAmount 33 = .ok (.getfield 15, 3) := by decide +kernel
theorem dX3_takeAmount_36 : decode cX3_takeAmount 36 = .ok (.getfield 175, 3) := by decide +kernel
theorem dX3_takeAmount_39 : decode cX3_takeAmount 39 = .ok (.iastore, 1) := by decide +kernel
theorem dX3_takeAmount_40 : decode cX3_takeAmount 40 = .ok (.iconst 1, 1) := by decide +kernel
theorem dX3_takeAmount_41 : decode cX3_takeAmount 41 = .ok (.ireturn, 1) := by decide +kernel
theorem dX3_takeStorm_0 : decode cX3_takeStorm 0 = .ok (.aload_n 0, 1) := by decide +kernel
theorem dX3_takeStorm_1 : decode cX3_takeStorm 1 = .ok (.getfield 15, 3) := by decide +kernel
theorem dX3_takeStorm_4 : decode cX3_takeStorm 4 = .ok (.iconst 0, 1) := by decide +kernel
theorem dX3_takeStorm_5 : decode cX3_takeStorm 5 = .ok (.bipush 40, 2) := by decide +kernel
theorem dX3_takeStorm_7 : decode cX3_takeStorm 7 = .ok (.invokevirtual 169, 3) := by decide +kernel
theorem dX3_takeStorm_10 : decode cX3_takeStorm 10 = .ok (.ifCond .ne 5, 3) := by decide +kernel
theorem dX3_takeStorm_13 : decode cX3_takeStorm 13 = .ok (.iconst 0, 1) := by decide +kernel
theorem dX3_takeStorm_14 : decode cX3_takeStorm 14 = .ok (.ireturn, 1) := by decide +kernel
theorem dX3_takeStorm_15 : decode cX3_takeStorm 15 = .ok (.aload_n 0, 1) := by decide +kernel
theorem dX3_takeStorm_16 : decode cX3_takeStorm 16 = .ok (.getfield 15, 3) := by decide +kernel
theorem dX3_takeStorm_19 : decode cX3_takeStorm 19 = .ok (.getfield 175, 3) := by decide +kernel
theorem dX3_takeStorm_22 : decode cX3_takeStorm 22 = .ok (.istore_n 2, 1) := by decide +kernel
theorem dX3_takeStorm_23 : decode cX3_takeStorm 23 = .ok (.aload_n 0, 1) := by decide +kernel
theorem dX3_takeStorm_24 : decode cX3_takeStorm 24 = .ok (.getfield 15, 3) := by decide +kernel
theorem dX3_takeStorm_27 : decode cX3_takeStorm 27 = .ok (.getfield 178, 3) := by decide +kernel
theorem dX3_takeStorm_30 : decode cX3_takeStorm 30 = .ok (.istore_n 3, 1) := by decide +kernel
theorem dX3_takeStorm_31 : decode cX3_takeStorm 31 = .ok (.aload_n 0, 1) := by decide +kernel
theorem dX3_takeStorm_32 : decode cX3_takeStorm 32 = .ok (.getfield 15, 3) := by decide +kernel
theorem dX3_takeStorm_35 : decode cX3_takeStorm 35 = .ok (.getstatic 181, 3) := by decide +kernel
theorem dX3_takeStorm_38 : decode cX3_takeStorm 38 = .ok (.invokevirtual 156, 3) := by decide +kernel
theorem dX3_takeStorm_41 : decode cX3_takeStorm 41 = .ok (.ifCond .eq 26, 3) := by decide +kernel
theorem dX3_takeStorm_44 : decode cX3_takeStorm 44 = .ok (.aload_n 0, 1) := by decide +kernel
theorem dX3_takeStorm_45 : decode cX3_takeStorm 45 = .ok (.getfield 15, 3) := by decide +kernel
theorem dX3_takeStorm_48 : decode cX3_takeStorm 48 = .ok (.iconst 0, 1) := by decide +kernel
theorem dX3_takeStorm_49 : decode cX3_takeStorm 49 = .ok (.bipush 40, 2) := by decide +kernel
theorem dX3_takeStorm_51 : decode cX3_takeStorm 51 = .ok (.invokevirtual 169, 3) := by decide +kernel
theorem dX3_takeStorm_54 : decode cX3_takeStorm 54 = .ok (.ifCond .eq 13, 3) := by decide +kernel
theorem dX3_takeStorm_57 : decode cX3_takeStorm 57 = .ok (.aload_n 0, 1) := by decide +kernel
theorem dX3_takeStorm_58 : decode cX3_takeStorm 58 = .ok (.getfield 99, 3) := by decide +kernel
theorem dX3_takeStorm_61 : decode cX3_takeStorm 61 = .ok (.invokestatic 73, 3) := by decide +kernel
theorem dX3_takeStorm_64 : decode cX3_takeStorm 64 = .ok (.ifCond .ne 5, 3) := by decide +kernel
theorem dX3_takeStorm_67 : decode cX3_takeStorm 67 = .ok (.iconst 0, 1) := by decide +kernel
theorem dX3_takeStorm_68 : decode cX3_takeStorm 68 = .ok (.ireturn, 1) := by decide +kernel
theorem dX3_takeStorm_69 : decode cX3_takeStorm 69 = .ok (.aload_n 1, 1) := by decide +kernel
theorem dX3_takeStorm_70 : decode cX3_takeStorm 70 = .ok (.getfield 172, 3) := by decide +kernel
theorem dX3_takeStorm_73 : decode cX3_takeStorm 73 = .ok (.aload_n 0, 1) := by decide +kernel
theorem dX3_takeStorm_74 : decode cX3_takeStorm 74 = .ok (.getfield 99, 3) := by decide +kernel
theorem dX3_takeStorm_77 : decode cX3_takeStorm 77 = .ok (.iload_n 2, 1) := by decide +kernel
theorem dX3_takeStorm_78 : decode cX3_takeStorm 78 = .ok (.iastore, 1) := by decide +kernel
theorem dX3_takeStorm_79 : decode cX3_takeStorm 79 = .ok (.aload_n 1, 1) := by decide +kernel
theorem dX3_takeStorm_80 : decode cX3_takeStorm 80 = .ok (.getfield 184, 3) := by decide +kernel
theorem dX3_takeStorm_83 : decode cX3_takeStorm 83 = .ok (.aload_n 0, 1) := by decide +kernel
theorem dX3_takeStorm_84 : decode cX3_takeStorm 84 = .ok (.getfield 99, 3) := by decide +kernel
theorem dX3_takeStorm_87 : decode cX3_takeStorm 87 = .ok (.aload_n 0, 1) := by decide +kernel
theorem dX3_takeStorm_88 : decode cX3_takeStorm 88 = .ok (.getfield 15, 3) := by decide +kernel
theorem dX3_takeStorm_91 : decode cX3_takeStorm 91 = .ok (.getfield 175, 3) := by decide +kernel
theorem dX3_takeStorm_94 : decode cX3_takeStorm 94 = .ok (.iastore, 1) := by decide +kernel
theorem dX3_takeStorm_95 : decode cX3_takeStorm 95 = .ok (.iload_n 2, 1) := by decide +kernel
theorem dX3_takeStorm_96 : decode cX3_takeStorm 96 = .ok (.aload_n 0, 1) := by decide +kernel
theorem dX3_takeStorm_97 : decode cX3_takeStorm 97 = .ok (.getfield 15, 3) := by decide +kernel
theorem dX3_takeStorm_100 : decode cX3_takeStorm 100 = .ok (.getfield 175, 3) := by decide +kernel
theorem dX3_takeStorm_103 : decode cX3_takeStorm 103 = .ok (.if_icmp .le 15, 3) := by decide +kernel
theorem dX3_takeStorm_106 : decode cX3_takeStorm 106 = .ok (.aload_n 0, 1) := by decide +kernel
theorem dX3_takeStorm_107 : decode cX3_takeStorm 107 = .ok (.getfield 15, 3) := by decide +kernel
theorem dX3_takeStorm_110 : decode cX3_takeStorm 110 = .ok (.iconst 4, 1) := by decide +kernel
theorem dX3_takeStorm_111 : decode cX3_takeStorm 111 = .ok (.iload_n 3, 1) := by decide +kernel
theorem dX3_takeStorm_112 : decode cX3_takeStorm 112 = .ok (.invokevirtual 95, 3) := by decide +kernel
theorem dX3_takeStorm_115 : decode cX3_takeStorm 115 = .ok (.ifCond .eq 7, 3) := by decide +kernel
theorem dX3_takeStorm_118 : decode cX3_takeStorm 118 = .ok (.iconst 1, 1) := by decide +kernel
theorem dX3_takeStorm_119 : decode cX3_takeStorm 119 = .ok (.goto 4, 3) := by decide +kernel
theorem dX3_takeStorm_122 : decode cX3_takeStorm 122 = .ok (.iconst 0, 1) := by decide +kernel
theorem dX3_takeStorm_123 : decode cX3_takeStorm 123 = .ok (.ireturn, 1) := by decide +kernel
theorem dX3_takeCell_0 : decode cX3_takeCell 0 = .ok (.aload_n 0, 1) := by decide +kernel
theorem dX3_takeCell_1 : decode cX3_takeCell 1 = .ok (.getfield 15, 3) := by decide +kernel
theorem dX3_takeCell_4 : decode cX3_takeCell 4 = .ok (.iconst 0, 1) := by decide +kernel
theorem dX3_takeCell_5 : decode cX3_takeCell 5 = .ok (.aload_n 1, 1) := by decide +kernel
theorem dX3_takeCell_6 : decode cX3_takeCell 6 = .ok (.getfield 187, 3) := by decide +kernel
theorem dX3_takeCell_9 : decode cX3_takeCell 9 = .ok (.iconst 1, 1) := by decide +kernel
theorem dX3_takeCell_10 : decode cX3_takeCell 10 = .ok (.isub, 1) := by decide +kernel
theorem dX3_takeCell_11 : decode cX3_takeCell 11 = .ok (.invokevirtual 169, 3) := by decide +kernel
theorem dX3_takeCell_14 : decode cX3_takeCell 14 = .ok (.ifCond .ne 5, 3) := by decide +kernel
theorem dX3_takeCell_17 : decode cX3_takeCell 17 = .ok (.iconst 0, 1) := by decide +kernel
theorem dX3_takeCell_18 : decode cX3_takeCell 18 = .ok (.ireturn, 1) := by decide +kernel
theorem dX3_takeCell_19 : decode cX3_takeCell 19 = .ok (.aload_n 0, 1) := by decide +kernel
theorem dX3_takeCell_20 : decode cX3_takeCell 20 = .ok (.getfield 15, 3) := by decide +kernel
theorem dX3_takeCell_23 : decode cX3_takeCell 23 = .ok (.getfield 175, 3) := by decide +kernel
theorem dX3_takeCell_26 : decode cX3_takeCell 26 = .ok (.istore 4, 2) := by decide +kernel
theorem dX3_takeCell_28 : decode cX3_takeCell 28 = .ok (.iload_n 2, 1) := by decide +kernel
theorem dX3_takeCell_29 : decode cX3_takeCell 29 = .ok (.ifCond .eq 32, 3) := by decide +kernel
theorem dX3_takeCell_32 : decode cX3_takeCell 32 = .ok (.aload_n 1, 1) := by decide +kernel
theorem dX3_takeCell_33 : decode cX3_takeCell 33 = .ok (.aload_n 1, 1) := by decide +kernel
theorem dX3_takeCell_34 : decode cX3_takeCell 34 = .ok (.iload 4, 2) := by decide +kernel
theorem dX3_takeCell_36 : decode cX3_takeCell 36 = .ok (.invokevirtual 192, 3) := by decide +kernel
theorem dX3_takeCell_39 : decode cX3_takeCell 39 = .ok (.invokevirtual 196, 3) := by decide +kernel
theorem dX3_takeCell_42 : decode cX3_takeCell 42 = .ok (.ifCond .ne 19, 3) := by decide +kernel
theorem dX3_takeCell_45 : decode cX3_takeCell 45 = .ok (.aload_n 0, 1) := by decide +kernel
theorem dX3_takeCell_46 : decode cX3_takeCell 46 = .ok (.getfield 15, 3) := by decide +kernel
theorem dX3_takeCell_49 : decode cX3_takeCell 49 = .ok (.iconst 4, 1) := by decide +kernel
theorem dX3_takeCell_50 : decode cX3_takeCell 50 = .ok (.aload_n 0, 1) := by decide +kernel
theorem dX3_takeCell_51 : decode cX3_takeCell 51 = .ok (.getfield 15, 3) := by decide +kernel
theorem dX3_takeCell_54 : decode cX3_takeCell 54 = .ok (.getfield 178, 3) := by decide +kernel
theorem dX3_takeCell_57 : decode cX3_takeCell 57 = .ok (.invokevirtual 95, 3) := by decide +kernel
theorem dX3_takeCell_60 : decode cX3_takeCell 60 = .ok (.ireturn, 1) := by decide +kernel
theorem dX3_takeCell_61 : decode cX3_takeCell 61 = .ok (.aload_n 0, 1) := by decide +kernel
theorem dX3_takeCell_62 : decode cX3_takeCell 62 = .ok (.getfield 15, 3) := by decide +kernel
theorem dX3_takeCell_65 : decode cX3_takeCell 65 = .ok (.iconst 0, 1) := by decide +kernel
theorem dX3_takeCell_66 : decode cX3_takeCell 66 = .ok (.aload_n 1, 1) := by decide +kernel
theorem dX3_takeCell_67 : decode cX3_takeCell 67 = .ok (.getfield 199, 3) := by decide +kernel
theorem dX3_takeCell_70 : decode cX3_takeCell 70 = .ok (.iconst 1, 1) := by decide +kernel
theorem dX3_takeCell_71 : decode cX3_takeCell 71 = .ok (.isub, 1) := by decide +kernel
theorem dX3_takeCell_72 : decode cX3_takeCell 72 = .ok (.invokevirtual 169, 3) := by decide +kernel
theorem dX3_takeCell_75 : decode cX3_takeCell 75 = .ok (.ifCond .eq 13, 3) := by decide +kernel
theorem dX3_takeCell_78 : decode cX3_takeCell 78 = .ok (.aload_n 0, 1) := by decide +kernel
theorem dX3_takeCell_79 : decode cX3_takeCell 79 = .ok (.getfield 99, 3) := by decide +kernel
theorem dX3_takeCell_82 : decode cX3_takeCell 82 = .ok (.invokestatic 73, 3) := by decide +kernel
theorem dX3_takeCell_85 : decode cX3_takeCell 85 = .ok (.ifCond .ne 5, 3) := by decide +kernel
theorem dX3_takeCell_88 : decode cX3_takeCell 88 = .ok (.iconst 0, 1) := by decide +kernel
theorem dX3_takeCell_89 : decode cX3_takeCell 89 = .ok (.ireturn, 1) := by decide +kernel
theorem dX3_takeCell_90 : decode cX3_takeCell 90 = .ok (.aload_n 3, 1) := by decide +kernel
theorem dX3_takeCell_91 : decode cX3_takeCell 91 = .ok (.aload_n 0, 1) := by decide +kernel
theorem dX3_takeCell_92 : decode cX3_takeCell 92 = .ok (.getfield 99, 3) := by decide +kernel
theorem dX3_takeCell_95 : decode cX3_takeCell 95 = .ok (.aload_n 0, 1) := by decide +kernel
theorem dX3_takeCell_96 : decode cX3_takeCell 96 = .ok (.getfield 15, 3) := by decide +kernel
theorem dX3_takeCell_99 : decode cX3_takeCell 99 = .ok (.getfield 175, 3) := by decide +kernel
theorem dX3_takeCell_102 : decode cX3_takeCell 102 = .ok (.bipush 6, 2) := by decide +kernel
theorem dX3_takeCell_104 : decode cX3_takeCell 104 = .ok (.imul, 1) := by decide +kernel
theorem dX3_takeCell_105 : decode cX3_takeCell 105 = .ok (.iload 4, 2) := by decide +kernel
theorem dX3_takeCell_107 : decode cX3_takeCell 107 = .ok (.iadd, 1) := by decide +kernel
theorem dX3_takeCell_108 : decode cX3_takeCell 108 = .ok (.iastore, 1) := by decide +kernel
theorem dX3_takeCell_109 : decode cX3_takeCell 109 = .ok (.iconst 1, 1) := by decide +kernel
theorem dX3_takeCell_110 : decode cX3_takeCell 110 = .ok (.ireturn, 1) := by decide +kernel
theorem dX3_crossesHalves_0 : decode cX3_crossesHalves 0 = .ok (.aload_n 0, 1) := by decide +kernel
theorem dX3_crossesHalves_1 : decode cX3_crossesHalves 1 = .ok (.getfield 99, 3) := by decide +kernel
theorem dX3_crossesHalves_4 : decode cX3_crossesHalves 4 = .ok (.invokestatic 73, 3) := by decide +kernel
theorem dX3_crossesHalves_7 : decode cX3_crossesHalves 7 = .ok (.ifCond .eq 42, 3) := by decide +kernel
theorem dX3_crossesHalves_10 : decode cX3_crossesHalves 10 = .ok (.aload_n 1, 1) := by decide +kernel
theorem dX3_crossesHalves_11 : decode cX3_crossesHalves 11 = .ok (.aload_n 2, 1) := by decide +kernel
theorem dX3_crossesHalves_12 : decode cX3_crossesHalves 12 = .ok (.getfield 163, 3) := by decide +kernel
theorem dX3_crossesHalves_15 : decode cX3_crossesHalves 15 = .ok (.aload_n 0, 1) := by decide +kernel
theorem dX3_crossesHalves_16 : decode cX3_crossesHalves 16 = .ok (.getfield 99, 3) := by decide +kernel
theorem dX3_crossesHalves_19 : decode cX3_crossesHalves 19 = .ok (.iaload, 1) := by decide +kernel
theorem dX3_crossesHalves_20 : decode cX3_crossesHalves 20 = .ok (.bipush 6, 2) := by decide +kernel
theorem dX3_crossesHalves_22 : decode cX3_crossesHalves 22 = .ok (.irem, 1) := by decide +kernel
theorem dX3_crossesHalves_23 : decode cX3_crossesHalves 23 = .ok (.invokevirtual 192, 3) := by decide +kernel
theorem dX3_crossesHalves_26 : decode cX3_crossesHalves 26 = .ok (.aload_n 1, 1) := by decide +kernel
theorem dX3_crossesHalves_27 : decode cX3_crossesHalves 27 = .ok (.aload_n 2, 1) := by decide +kernel
theorem dX3_crossesHalves_28 : decode cX3_crossesHalves 28 = .ok (.getfield 146, 3) := by decide +kernel
theorem dX3_crossesHalves_31 : decode cX3_crossesHalves 31 = .ok (.aload_n 0, 1) := by decide +kernel
theorem dX3_crossesHalves_32 : decode cX3_crossesHalves 32 = .ok (.getfield 99, 3) := by decide +kernel
theorem dX3_crossesHalves_35 : decode cX3_crossesHalves 35 = .ok (.iaload, 1) := by decide +kernel
theorem dX3_crossesHalves_36 : decode cX3_crossesHalves 36 = .ok (.bipush 6, 2) := by decide +kernel
theorem dX3_crossesHalves_38 : decode cX3_crossesHalves 38 = .ok (.irem, 1) := by decide +kernel
theorem dX3_crossesHalves_39 : decode cX3_crossesHalves 39 = .ok (.invokevirtual 192, 3) := by decide +kernel
theorem dX3_crossesHalves_42 : decode cX3_crossesHalves 42 = .ok (.if_icmp .eq 7, 3) := by decide +kernel
theorem dX3_crossesHalves_45 : decode cX3_crossesHalves 45 = .ok (.iconst 1, 1) := by decide +kernel
theorem dX3_crossesHalves_46 : decode cX3_crossesHalves 46 = .ok (.goto 4, 3) := by decide +kernel
theorem dX3_crossesHalves_49 : decode cX3_crossesHalves 49 = .ok (.iconst 0, 1) := by decide +kernel
theorem dX3_crossesHalves_50 : decode cX3_crossesHalves 50 = .ok (.istore_n 3, 1) := by decide +kernel
theorem dX3_crossesHalves_51 : decode cX3_crossesHalves 51 = .ok (.iload_n 3, 1) := by decide +kernel
theorem dX3_crossesHalves_52 : decode cX3_crossesHalves 52 = .ok (.ifCond .ne 21, 3) := by decide +kernel
theorem dX3_crossesHalves_55 : decode cX3_crossesHalves 55 = .ok (.aload_n 0, 1) := by decide +kernel
theorem dX3_crossesHalves_56 : decode cX3_crossesHalves 56 = .ok (.getfield 15, 3) := by decide +kernel
theorem dX3_crossesHalves_59 : decode cX3_crossesHalves 59 = .ok (.iconst 4, 1) := by decide +kernel
theorem dX3_crossesHalves_60 : decode cX3_crossesHalves 60 = .ok (.aload_n 0, 1) := by decide +kernel
theorem dX3_crossesHalves_61 : decode cX3_crossesHalves 61 = .ok (.getfield 15, 3) := by decide +kernel
theorem dX3_crossesHalves_64 : decode cX3_crossesHalves 64 = .ok (.getfield 178, 3) := by decide +kernel
theorem dX3_crossesHalves_67 : decode cX3_crossesHalves 67 = .ok (.invokevirtual 95, 3) := by decide +kernel
theorem dX3_crossesHalves_70 : decode cX3_crossesHalves 70 = .ok (.ifCond .eq 7, 3) := by decide +kernel
theorem dX3_crossesHalves_73 : decode cX3_crossesHalves 73 = .ok (.iconst 1, 1) := by decide +kernel
theorem dX3_crossesHalves_74 : decode cX3_crossesHalves 74 = .ok (.goto 4, 3) := by decide +kernel
theorem dX3_crossesHalves_77 : decode cX3_crossesHalves 77 = .ok (.iconst 0, 1) := by decide +kernel
theorem dX3_crossesHalves_78 : decode cX3_crossesHalves 78 = .ok (.ireturn, 1) := by decide +kernel
theorem dX3_takeTest_0 : decode cX3_takeTest 0 = .ok (.aload_n 0, 1) := by decide +kernel
theorem dX3_takeTest_1 : decode cX3_takeTest 1 = .ok (.getfield 15, 3) := by decide +kernel
theorem dX3_takeTest_4 : decode cX3_takeTest 4 = .ok (.getfield 37, 3) := by decide +kernel
theorem dX3_takeTest_7 : decode cX3_takeTest 7 = .ok (.astore_n 3, 1) := by decide +kernel
theorem dX3_takeTest_8 : decode cX3_takeTest 8 = .ok (.aload_n 3, 1) := by decide +kernel
theorem dX3_takeTest_9 : decode cX3_takeTest 9 = .ok (.getstatic 202, 3) := by decide +kernel
theorem dX3_takeTest_12 : decode cX3_takeTest 12 = .ok (.if_acmp .eq 24, 3) := by decide +kernel
theorem dX3_takeTest_15 : decode cX3_takeTest 15 = .ok (.aload_n 3, 1) := by decide +kernel
theorem dX3_takeTest_16 : decode cX3_takeTest 16 = .ok (.getstatic 205, 3) := by decide +kernel
theorem dX3_takeTest_19 : decode cX3_takeTest 19 = .ok (.if_acmp .eq 17, 3) := by decide +kernel
theorem dX3_takeTest_22 : decode cX3_takeTest 22 = .ok (.aload_n 3, 1) := by decide +kernel
theorem dX3_takeTest_23 : decode cX3_takeTest 23 = .ok (.getstatic 208, 3) := by decide +kernel
theorem dX3_takeTest_26 : decode cX3_takeTest 26 = .ok (.if_acmp .eq 10, 3) := by decide +kernel
theorem dX3_takeTest_29 : decode cX3_takeTest 29 = .ok (.aload_n 3, 1) := by decide +kernel
theorem dX3_takeTest_30 : decode cX3_takeTest 30 = .ok (.getstatic 211, 3) := by decide +kernel
theorem dX3_takeTest_33 : decode cX3_takeTest 33 = .ok (.if_acmp .ne 13, 3) := by decide +kernel
theorem dX3_takeTest_36 : decode cX3_takeTest 36 = .ok (.aload_n 0, 1) := by decide +kernel
theorem dX3_takeTest_37 : decode cX3_takeTest 37 = .ok (.getfield 99, 3) := by decide +kernel
theorem dX3_takeTest_40 : decode cX3_takeTest 40 = .ok (.invokestatic 73, 3) := by decide +kernel
theorem dX3_takeTest_43 : decode cX3_takeTest 43 = .ok (.ifCond .ne 11, 3) := by decide +kernel
theorem dX3_takeTest_46 : decode cX3_takeTest 46 = .ok (.aload_n 0, 1) := by decide +kernel
theorem dX3_takeTest_47 : decode cX3_takeTest 47 = .ok (.getfield 15, 3) := by decide +kernel
theorem dX3_takeTest_50 : decode cX3_takeTest 50 = .ok (.invokevirtual 58, 3) := by decide +kernel
theorem dX3_takeTest_53 : decode cX3_takeTest 53 = .ok (.ireturn, 1) := by decide +kernel
theorem dX3_takeTest_54 : decode cX3_takeTest 54 = .ok (.aload_n 0, 1) := by decide +kernel
theorem dX3_takeTest_55 : decode cX3_takeTest 55 = .ok (.getfield 15, 3) := by decide +kernel
theorem dX3_takeTest_58 : decode cX3_takeTest 58 = .ok (.invokevirtual 82, 3) := by decide +kernel
theorem dX3_takeTest_61 : decode cX3_takeTest 61 = .ok (.aload_n 3, 1) := by decide +kernel
theorem dX3_takeTest_62 : decode cX3_takeTest 62 = .ok (.getstatic 202, 3) := by decide +kernel
theorem dX3_takeTest_65 : decode cX3_takeTest 65 = .ok (.if_acmp .ne 16, 3) := by decide +kernel
theorem dX3_takeTest_68 : decode cX3_takeTest 68 = .ok (.aload_n 2, 1) := by decide +kernel
theorem dX3_takeTest_69 : decode cX3_takeTest 69 = .ok (.getfield 76, 3) := by decide +kernel
theorem dX3_takeTest_72 : decode cX3_takeTest 72 = .ok (.aload_n 0, 1) := by decide +kernel
theorem dX3_takeTest_73 : decode cX3_takeTest 73 = .ok (.getfield 99, 3) := by decide +kernel
theorem dX3_takeTest_76 : decode cX3_takeTest 76 = .ok (.bipush 9, 2) := by decide +kernel
theorem dX3_takeTest_78 : decode cX3_takeTest 78 = .ok (.iastore, 1) := by decide +kernel
theorem dX3_takeTest_79 : decode cX3_takeTest 79 = .ok (.iconst 1, 1) := by decide +kernel
theorem dX3_takeTest_80 : decode cX3_takeTest 80 = .ok (.ireturn, 1) := by decide +kernel
theorem dX3_takeTest_81 : decode cX3_takeTest 81 = .ok (.aload_n 3, 1) := by decide +kernel
theorem dX3_takeTest_82 : decode cX3_takeTest 82 = .ok (.getstatic 208, 3) := by decide +kernel
theorem dX3_takeTest_85 : decode cX3_takeTest 85 = .ok (.if_acmp .ne 52, 3) := by decide +kernel
theorem dX3_takeTest_88 : decode cX3_takeTest 88 = .ok (.aload_n 2, 1) := by decide +kernel
theorem dX3_takeTest_89 : decode cX3_takeTest 89 = .ok (.getfield 76, 3) := by decide +kernel
theorem dX3_takeTest_92 : decode cX3_takeTest 92 = .ok (.aload_n 0, 1) := by decide +kernel
theorem dX3_takeTest_93 : decode cX3_takeTest 93 = .ok (.getfield 99, 3) := by decide +kernel
theorem dX3_takeTest_96 : decode cX3_takeTest 96 = .ok (.bipush 8, 2) := by decide +kernel
theorem dX3_takeTest_98 : decode cX3_takeTest 98 = .ok (.iastore, 1) := by decide +kernel
theorem dX3_takeTest_99 : decode cX3_takeTest 99 = .ok (.aload_n 0, 1) := by decide +kernel
theorem dX3_takeTest_100 : decode cX3_takeTest 100 = .ok (.aload_n 1, 1) := by decide +kernel
theorem dX3_takeTest_101 : decode cX3_takeTest 101 = .ok (.iconst 1, 1) := by decide +kernel
theorem dX3_takeTest_102 : decode cX3_takeTest 102 = .ok (.aload_n 2, 1) := by decide +kernel
theorem dX3_takeTest_103 : decode cX3_takeTest 103 = .ok (.getfield 146, 3) := by decide +kernel
theorem dX3_takeTest_106 : decode cX3_takeTest 106 = .ok (.invokevirtual 149, 3) := by decide +kernel
theorem dX3_takeTest_109 : decode cX3_takeTest 109 = .ok (.ifCond .eq 26, 3) := by decide +kernel
theorem dX3_takeTest_112 : decode cX3_takeTest 112 = .ok (.aload_n 0, 1) := by decide +kernel
theorem dX3_takeTest_113 : decode cX3_takeTest 113 = .ok (.aload_n 2, 1) := by decide +kernel
theorem dX3_takeTest_114 : decode cX3_takeTest 114 = .ok (.invokevirtual 214, 3) := by decide +kernel
theorem dX3_takeTest_117 : decode cX3_takeTest 117 = .ok (.ifCond .eq 18, 3) := by decide +kernel
theorem dX3_takeTest_120 : decode cX3_takeTest 120 = .ok (.aload_n 0, 1) := by decide +kernel
theorem dX3_takeTest_121 : decode cX3_takeTest 121 = .ok (.aload_n 2, 1) := by decide +kernel
theorem dX3_takeTest_122 : decode cX3_takeTest 122 = .ok (.iconst 0, 1) := by decide +kernel
theorem dX3_takeTest_123 : decode cX3_takeTest 123 = .ok (.bipush 99, 2) := by decide +kernel
theorem dX3_takeTest_125 : decode cX3_takeTest 125 = .ok (.invokevirtual 139, 3) := by decide +kernel
theorem dX3_takeTest_128 : decode cX3_takeTest 128 = .ok (.ifCond .eq 7, 3) := by decide +kernel
theorem dX3_takeTest_131 : decode cX3_takeTest 131 = .ok (.iconst 1, 1) := by decide +kernel
theorem dX3_takeTest_132 : decode cX3_takeTest 132 = .ok (.goto 4, 3) := by decide +kernel
theorem dX3_takeTest_135 : decode cX3_takeTest 135 = .ok (.iconst 0, 1) := by decide +kernel
theorem dX3_takeTest_136 : decode cX3_takeTest 136 = .ok (.ireturn, 1) := by decide +kernel
theorem dX3_takeTest_137 : decode cX3_takeTest 137 = .ok (.aload_n 2, 1) := by decide +kernel
theorem dX3_takeTest_138 : decode cX3_takeTest 138 = .ok (.getfield 76, 3) := by decide +kernel
theorem dX3_takeTest_141 : decode cX3_takeTest 141 = .ok (.aload_n 0, 1) := by decide +kernel
theorem dX3_takeTest_142 : decode cX3_takeTest 142 = .ok (.getfield 99, 3) := by decide +kernel
theorem dX3_takeTest_145 : decode cX3_takeTest 145 = .ok (.aload_n 3, 1) := by decide +kernel
theorem dX3_takeTest_146 : decode cX3_takeTest 146 = .ok (.getstatic 205, 3) := by decide +kernel
theorem dX3_takeTest_149 : decode cX3_takeTest 149 = .ok (.if_acmp .ne 8, 3) := by decide +kernel
theorem dX3_takeTest_152 : decode cX3_takeTest 152 = .ok (.bipush 7, 2) := by decide +kernel
theorem dX3_takeTest_154 : decode cX3_takeTest 154 = .ok (.goto 5, 3) := by decide +kernel
theorem dX3_takeTest_157 : decode cX3_takeTest 157 = .ok (.bipush 10, 2) := by decide +kernel
theorem dX3_takeTest_159 : decode cX3_takeTest 159 = .ok (.iastore, 1) := by decide +kernel
theorem dX3_takeTest_160 : decode cX3_takeTest 160 = .ok (.aload_n 0, 1) := by decide +kernel
theorem dX3_takeTest_161 : decode cX3_takeTest 161 = .ok (.aload_n 2, 1) := by decide +kernel
theorem dX3_takeTest_162 : decode cX3_takeTest 162 = .ok (.invokevirtual 214, 3) := by decide +kernel
theorem dX3_takeTest_165 : decode cX3_takeTest 165 = .ok (.ifCond .eq 19, 3) := by decide +kernel
theorem dX3_takeTest_168 : decode cX3_takeTest 168 = .ok (.aload_n 0, 1) := by decide +kernel
theorem dX3_takeTest_169 : decode cX3_takeTest 169 = .ok (.aload_n 2, 1) := by decide +kernel
theorem dX3_takeTest_170 : decode cX3_takeTest 170 = .ok (.iconst 0, 1) := by decide +kernel
theorem dX3_takeTest_171 : decode cX3_takeTest 171 = .ok (.sipush 999, 3) := by decide +kernel
theorem dX3_takeTest_174 : decode cX3_takeTest 174 = .ok (.invokevirtual 139, 3) := by decide +kernel
theorem dX3_takeTest_177 : decode cX3_takeTest 177 = .ok (.ifCond .eq 7, 3) := by decide +kernel
theorem dX3_takeTest_180 : decode cX3_takeTest 180 = .ok (.iconst 1, 1) := by decide +kernel
theorem dX3_takeTest_181 : decode cX3_takeTest 181 = .ok (.goto 4, 3) := by decide +kernel
theorem dX3_takeTest_184 : decode cX3_takeTest 184 = .ok (.iconst 0, 1) := by decide +kernel
theorem dX3_takeTest_185 : decode cX3_takeTest 185 = .ok (.ireturn, 1) := by decide +kernel
theorem dX3_takeComparing_0 : decode cX3_takeComparing 0 = .ok (.aload_n 0, 1) := by decide +kernel
theorem dX3_takeComparing_1 : decode cX3_takeComparing 1 = .ok (.getfield 15, 3) := by decide +kernel
theorem dX3_takeComparing_4 : decode cX3_takeComparing 4 = .ok (.getfield 34, 3) := by decide +kernel
theorem dX3_takeComparing_7 : decode cX3_takeComparing 7 = .ok (.istore_n 2, 1) := by decide +kernel
theorem dX3_takeComparing_8 : decode cX3_takeComparing 8 = .ok (.iload_n 2, 1) := by decide +kernel
theorem dX3_takeComparing_9 : decode cX3_takeComparing 9 = .ok (.bipush 60, 2) := by decide +kernel
theorem dX3_takeComparing_11 : decode cX3_takeComparing 11 = .ok (.if_icmp .eq 15, 3) := by decide +kernel
theorem dX3_takeComparing_14 : decode cX3_takeComparing 14 = .ok (.iload_n 2, 1) := by decide +kernel
theorem dX3_takeComparing_15 : decode cX3_takeComparing 15 = .ok (.bipush 62, 2) := by decide +kernel
theorem dX3_takeComparing_17 : decode cX3_takeComparing 17 = .ok (.if_icmp .eq 9, 3) := by decide +kernel
theorem dX3_takeComparing_20 : decode cX3_takeComparing 20 = .ok (.iload_n 2, 1) := by decide +kernel
theorem dX3_takeComparing_21 : decode cX3_takeComparing 21 = .ok (.bipush 61, 2) := by decide +kernel
theorem dX3_takeComparing_23 : decode cX3_takeComparing 23 = .ok (.if_icmp .ne 13, 3) := by decide +kernel
theorem dX3_takeComparing_26 : decode cX3_takeComparing 26 = .ok (.aload_n 0, 1) := by decide +kernel
theorem dX3_takeComparing_27 : decode cX3_takeComparing 27 = .ok (.getfield 99, 3) := by decide +kernel
theorem dX3_takeComparing_30 : decode cX3_takeComparing 30 = .ok (.invokestatic 73, 3) := by decide +kernel
theorem dX3_takeComparing_33 : decode cX3_takeComparing 33 = .ok (.ifCond .ne 11, 3) := by decide +kernel
theorem dX3_takeComparing_36 : decode cX3_takeComparing 36 = .ok (.aload_n 0, 1) := by decide +kernel
theorem dX3_takeComparing_37 : decode cX3_takeComparing 37 = .ok (.getfield 15, 3) := by decide +kernel
theorem dX3_takeComparing_40 : decode cX3_takeComparing 40 = .ok (.invokevirtual 58, 3) := by decide +kernel
theorem dX3_takeComparing_43 : decode cX3_takeComparing 43 = .ok (.ireturn, 1) := by decide +kernel
theorem dX3_takeComparing_44 : decode cX3_takeComparing 44 = .ok (.aload_n 1, 1) := by decide +kernel
theorem dX3_takeComparing_45 : decode cX3_takeComparing 45 = .ok (.getfield 184, 3) := by decide +kernel
theorem dX3_takeComparing_48 : decode cX3_takeComparing 48 = .ok (.aload_n 0, 1) := by decide +kernel
theorem dX3_takeComparing_49 : decode cX3_takeComparing 49 = .ok (.getfield 99, 3) := by decide +kernel
theorem dX3_takeComparing_52 : decode cX3_takeComparing 52 = .ok (.iload_n 2, 1) := by decide +kernel
theorem dX3_takeComparing_53 : decode cX3_takeComparing 53 = .ok (.iastore, 1) := by decide +kernel
theorem dX3_takeComparing_54 : decode cX3_takeComparing 54 = .ok (.aload_n 0, 1) := by decide +kernel
theorem dX3_takeComparing_55 : decode cX3_takeComparing 55 = .ok (.getfield 15, 3) := by decide +kernel
theorem dX3_takeComparing_58 : decode cX3_takeComparing 58 = .ok (.invokevirtual 82, 3) := by decide +kernel
theorem dX3_takeComparing_61 : decode cX3_takeComparing 61 = .ok (.iconst 1, 1) := by decide +kernel
theorem dX3_takeComparing_62 : decode cX3_takeComparing 62 = .ok (.ireturn, 1) := by decide +kernel
theorem dX4_init_0 : decode cX4_init 0 = .ok (.aload_n 0, 1) := by decide +kernel
theorem dX4_init_1 : decode cX4_init 1 = .ok (.invokespecial 3, 3) := by decide +kernel
theorem dX4_init_4 : decode cX4_init 4 = .ok (.aload_n 0, 1) := by decide +kernel
theorem dX4_init_5 : decode cX4_init 5 = .ok (.sipush 900, 3) := by decide +kernel
theorem dX4_init_8 : decode cX4_init 8 = .ok (.newarray .byte, 2) := by decide +kernel
theorem dX4_init_10 : decode cX4_init 10 = .ok (.putfield 9, 3) := by decide +kernel
theorem dX4_init_13 : decode cX4_init 13 = .ok (.aload_n 0, 1) := by decide +kernel
theorem dX4_init_14 : decode cX4_init 14 = .ok (.sipush 901, 3) := by decide +kernel
theorem dX4_init_17 : decode cX4_init 17 = .ok (.newarray .int, 2) := by decide +kernel
theorem dX4_init_19 : decode cX4_init 19 = .ok (.putfield 15, 3) := by decide +kernel
theorem dX4_init_22 : decode cX4_init 22 = .ok (.aload_n 0, 1) := by decide +kernel
theorem dX4_init_23 : decode cX4_init 23 = .ok (.sipush 901, 3) := by decide +kernel
theorem dX4_init_26 : decode cX4_init 26 = .ok (.newarray .int, 2) := by decide +kernel
theorem dX4_init_28 : decode cX4_init 28 = .ok (.putfield 19, 3) := by decide +kernel
theorem dX4_init_31 : decode cX4_init 31 = .ok (.aload_n 0, 1) := by decide +kernel
theorem dX4_init_32 : decode cX4_init 32 = .ok (.sipush 901, 3) := by decide +kernel
theorem dX4_init_35 : decode cX4_init 35 = .ok (.newarray .long, 2) := by decide +kernel
theorem dX4_init_37 : decode cX4_init 37 = .ok (.putfield 22, 3) := by decide +kernel
theorem dX4_init_40 : decode cX4_init 40 = .ok (.aload_n 0, 1) := by decide +kernel
theorem dX4_init_41 : decode cX4_init 41 = .ok (.sipush 901, 3) := by decide +kernel
theorem dX4_init_44 : decode cX4_init 44 = .ok (.anewarray 26, 3) := by decide +kernel
theorem dX4_init_47 : decode cX4_init 47 = .ok (.putfield 28, 3) := by decide +kernel
theorem dX4_init_50 : decode cX4_init 50 = .ok (.aload_n 0, 1) := by decide +kernel
theorem dX4_init_51 : decode cX4_init 51 = .ok (.iconst (-1), 1) := by decide +kernel
theorem dX4_init_52 : decode cX4_init 52 = .ok (.putfield 32, 3) := by decide +kernel
theorem dX4_init_55 : decode cX4_init 55 = .ok (.aload_n 0, 1) := by decide +kernel
theorem dX4_init_56 : decode cX4_init 56 = .ok (.iconst (-1), 1) := by decide +kernel
theorem dX4_init_57 : decode cX4_init 57 = .ok (.putfield 36, 3) := by decide +kernel
theorem dX4_init_60 : decode cX4_init 60 = .ok (.return_, 1) := by decide +kernel
theorem dX4_append_0 : decode cX4_append 0 = .ok (.bipush 24, 2) := by decide +kernel
theorem dX4_append_2 : decode cX4_append 2 = .ok (.istore_n 2, 1) := by decide +kernel
theorem dX4_append_3 : decode cX4_append 3 = .ok (.iload_n 2, 1) := by decide +kernel
theorem dX4_append_4 : decode cX4_append 4 = .ok (.ifCond .lt 49, 3) := by decide +kernel
theorem dX4_append_7 : decode cX4_append 7 = .ok (.aload_n 0, 1) := by decide +kernel
theorem dX4_append_8 : decode cX4_append 8 = .ok (.getfield 39, 3) := by decide +kernel
theorem dX4_append_11 : decode cX4_append 11 = .ok (.ifCond .lt 36, 3) := by decide +kernel
theorem dX4_append_14 : decode cX4_append 14 = .ok (.aload_n 0, 1) := by decide +kernel
theorem dX4_append_15 : decode cX4_append 15 = .ok (.getfield 39, 3) := by decide +kernel
theorem dX4_append_18 : decode cX4_append 18 = .ok (.sipush 900, 3) := by decide +kernel
theorem dX4_append_21 : decode cX4_append 21 = .ok (.if_icmp .ge 26, 3) := by decide +kernel
theorem dX4_append_24 : decode cX4_append 24 = .ok (.aload_n 0, 1) := by decide +kernel
theorem dX4_append_25 : decode cX4_append 25 = .ok (.getfield 9, 3) := by decide +kernel
theorem dX4_append_28 : decode cX4_append 28 = .ok (.aload_n 0, 1) := by decide +kernel
theorem dX4_append_29 : decode cX4_append 29 = .ok (.getfield 39, 3) := by decide +kernel
theorem dX4_append_32 : decode cX4_append 32 = .ok (.iload_n 1, 1) := by decide +kernel
theorem dX4_append_33 : decode cX4_append 33 = .ok (.iload_n 2, 1) := by decide +kernel
theorem dX4_append_34 : decode cX4_append 34 = .ok (.ishr, 1) := by decide +kernel
theorem dX4_append_35 : decode cX4_append 35 = .ok (.i2b, 1) := by decide +kernel
theorem dX4_append_36 : decode cX4_append 36 = .ok (.bastore, 1) := by decide +kernel
theorem dX4_append_37 : decode cX4_append 37 = .ok (.aload_n 0, 1) := by decide +kernel
theorem dX4_append_38 : decode cX4_append 38 = .ok (.dup, 1) := by decide +kernel
theorem dX4_append_39 : decode cX4_append 39 = .ok (.getfield 39, 3) := by decide +kernel
theorem dX4_append_42 : decode cX4_append 42 = .ok (.iconst 1, 1) := by decide +kernel
theorem dX4_append_43 : decode cX4_append 43 = .ok (.iadd, 1) := by decide +kernel
theorem dX4_append_44 : decode cX4_append 44 = .ok (.putfield 39, 3) := by decide +kernel
theorem dX4_append_47 : decode cX4_append 47 = .ok (.iinc 2 (-8), 3) := by decide +kernel
theorem dX4_append_50 : decode cX4_append 50 = .ok (.goto (-47), 3) := by decide +kernel
theorem dX4_append_53 : decode cX4_append 53 = .ok (.return_, 1) := by decide +kernel
theorem dX4_start_0 : decode cX4_start 0 = .ok (.aload_n 0, 1) := by decide +kernel
theorem dX4_start_1 : decode cX4_start 1 = .ok (.iconst 0, 1) := by decide +kernel
theorem dX4_start_2 : decode cX4_start 2 = .ok (.putfield 32, 3) := by decide +kernel
theorem dX4_start_5 : decode cX4_start 5 = .ok (.aload_n 0, 1) := by decide +kernel
theorem dX4_start_6 : decode cX4_start 6 = .ok (.iconst (-1), 1) := by decide +kernel
theorem dX4_start_7 : decode cX4_start 7 = .ok (.putfield 36, 3) := by decide +kernel
theorem dX4_start_10 : decode cX4_start 10 = .ok (.aload_n 0, 1) := by decide +kernel
theorem dX4_start_11 : decode cX4_start 11 = .ok (.iload_n 1, 1) := by decide +kernel
theorem dX4_start_12 : decode cX4_start 12 = .ok (.sipush 900, 3) := by decide +kernel
theorem dX4_start_15 : decode cX4_start 15 = .ok (.invokestatic 42, 3) := by decide +kernel
theorem dX4_start_18 : decode cX4_start 18 = .ok (.putfield 48, 3) := by decide +kernel
theorem dX4_start_21 : decode cX4_start 21 = .ok (.aload_n 0, 1) := by decide +kernel
theorem dX4_start_22 : decode cX4_start 22 = .ok (.iconst 0, 1) := by decide +kernel
theorem dX4_start_23 : decode cX4_start 23 = .ok (.putfield 51, 3) := by decide +kernel
theorem dX4_start_26 : decode cX4_start 26 = .ok (.iconst 0, 1) := by decide +kernel
theorem dX4_start_27 : decode cX4_start 27 = .ok (.istore_n 2, 1) := by decide +kernel
theorem dX4_start_28 : decode cX4_start 28 = .ok (.iconst 0, 1) := by decide +kernel
theorem dX4_start_29 : decode cX4_start 29 = .ok (.istore_n 3, 1) := by decide +kernel
theorem dX4_start_30 : decode cX4_start 30 = .ok (.iload_n 3, 1) := by decide +kernel
theorem dX4_start_31 : decode cX4_start 31 = .ok (.sipush 901, 3) := by decide +kernel
theorem dX4_start_34 : decode cX4_start 34 = .ok (.if_icmp .ge 164, 3) := by decide +kernel
theorem dX4_start_37 : decode cX4_start 37 = .ok (.iload_n 2, 1) := by decide +kernel
theorem dX4_start_38 : decode cX4_start 38 = .ok (.ifCond .ne 160, 3) := by decide +kernel
theorem dX4_start_41 : decode cX4_start 41 = .ok (.aload_n 0, 1) := by decide +kernel
theorem dX4_start_42 : decode cX4_start 42 = .ok (.invokevirtual 54, 3) := by decide +kernel
theorem dX4_start_45 : decode cX4_start 45 = .ok (.aload_n 0, 1) := by decide +kernel
theorem dX4_start_46 : decode cX4_start 46 = .ok (.getfield 19, 3) := by decide +kernel
theorem dX4_start_49 : decode cX4_start 49 = .ok (.iload_n 3, 1) := by decide +kernel
theorem dX4_start_50 : decode cX4_start 50 = .ok (.aload_n 0, 1) := by decide +kernel
theorem dX4_start_51 : decode cX4_start 51 = .ok (.getfield 51, 3) := by decide +kernel
theorem dX4_start_54 : decode cX4_start 54 = .ok (.iastore, 1) := by decide +kernel
theorem dX4_start_55 : decode cX4_start 55 = .ok (.aload_n 0, 1) := by decide +kernel
theorem dX4_start_56 : decode cX4_start 56 = .ok (.getfield 22, 3) := by decide +kernel
theorem dX4_start_59 : decode cX4_start 59 = .ok (.iload_n 3, 1) := by decide +kernel
theorem dX4_start_60 : decode cX4_start 60 = .ok (.lconst 0, 1) := by decide +kernel
theorem dX4_start_61 : decode cX4_start 61 = .ok (.lastore, 1) := by decide +kernel
theorem dX4_start_62 : decode cX4_start 62 = .ok (.aload_n 0, 1) := by decide +kernel
theorem dX4_start_63 : decode cX4_start 63 = .ok (.getfield 28, 3) := by decide +kernel
theorem dX4_start_66 : decode cX4_start 66 = .ok (.iload_n 3, 1) := by decide +kernel
theorem dX4_start_67 : decode cX4_start 67 = .ok (.aconst_null, 1) := by decide +kernel
theorem dX4_start_68 : decode cX4_start 68 = .ok (.aastore, 1) := by decide +kernel
theorem dX4_start_69 : decode cX4_start 69 = .ok (.aload_n 0, 1) := by decide +kernel
theorem dX4_start_70 : decode cX4_start 70 = .ok (.getfield 15, 3) := by decide +kernel
theorem dX4_start_73 : decode cX4_start 73 = .ok (.iload_n 3, 1) := by decide +kernel
theorem dX4_start_74 : decode cX4_start 74 = .ok (.aload_n 0, 1) := by decide +kernel
theorem dX4_start_75 : decode cX4_start 75 = .ok (.invokevirtual 57, 3) := by decide +kernel
theorem dX4_start_78 : decode cX4_start 78 = .ok (.iastore, 1) := by decide +kernel
theorem dX4_start_79 : decode cX4_start 79 = .ok (.aload_n 0, 1) := by decide +kernel
theorem dX4_start_80 : decode cX4_start 80 = .ok (.getfield 15, 3) := by decide +kernel
theorem dX4_start_83 : decode cX4_start 83 = .ok (.iload_n 3, 1) := by decide +kernel
theorem dX4_start_84 : decode cX4_start 84 = .ok (.iaload, 1) := by decide +kernel
theorem dX4_start_85 : decode cX4_start 85 = .ok (.ifCond .ne 7, 3) := by decide +kernel
theorem dX4_start_88 : decode cX4_start 88 = .ok (.iconst 1, 1) := by decide +kernel
theorem dX4_start_89 : decode cX4_start 89 = .ok (.goto 4, 3) := by decide +kernel
theorem dX4_start_92 : decode cX4_start 92 = .ok (.iconst 0, 1) := by decide +kernel
theorem dX4_start_93 : decode cX4_start 93 = .ok (.istore_n 2, 1) := by decide +kernel
theorem dX4_start_94 : decode cX4_start 94 = .ok (.aload_n 0, 1) := by decide +kernel
theorem dX4_start_95 : decode cX4_start 95 = .ok (.getfield 15, 3) := by decide +kernel
theorem dX4_start_98 : decode cX4_start 98 = .ok (.iload_n 3, 1) := by decide +kernel
theorem dX4_start_99 : decode cX4_start 99 = .ok (.iaload, 1) := by decide +kernel
theorem dX4_start_100 : decode cX4_start 100 = .ok (.iconst 2, 1) := by decide +kernel
theorem dX4_start_101 : decode cX4_start 101 = .ok (.if_icmp .ne 31, 3) := by decide +kernel
theorem dX4_start_104 : decode cX4_start 104 = .ok (.aload_n 0, 1) := by decide +kernel
theorem dX4_start_105 : decode cX4_start 105 = .ok (.getfield 22, 3) := by decide +kernel
theorem dX4_start_108 : decode cX4_start 108 = .ok (.iload_n 3, 1) := by decide +kernel
theorem dX4_start_109 : decode cX4_start 109 = .ok (.aload_n 0, 1) := by decide +kernel
theorem dX4_start_110 : decode cX4_start 110 = .ok (.invokevirtual 61, 3) := by decide +kernel
theorem dX4_start_113 : decode cX4_start 113 = .ok (.lastore, 1) := by decide +kernel
theorem dX4_start_114 : decode cX4_start 114 = .ok (.aload_n 0, 1) := by decide +kernel
theorem dX4_start_115 : decode cX4_start 115 = .ok (.getfield 28, 3) := by decide +kernel
theorem dX4_start_118 : decode cX4_start 118 = .ok (.iload_n 3, 1) := by decide +kernel
theorem dX4_start_119 : decode cX4_start 119 = .ok (.aload_n 0, 1) := by decide +kernel
theorem dX4_start_120 : decode cX4_start 120 = .ok (.getfield 22, 3) := by decide +kernel
theorem dX4_start_123 : decode cX4_start 123 = .ok (.iload_n 3, 1) := by decide +kernel
theorem dX4_start_124 : decode cX4_start 124 = .ok (.laload, 1) := by decide +kernel
theorem dX4_start_125 : decode cX4_start 125 = .ok (.invokestatic 65, 3) := by decide +kernel
theorem dX4_start_128 : decode cX4_start 128 = .ok (.aastore, 1) := by decide +kernel
theorem dX4_start_129 : decode cX4_start 129 = .ok (.goto 63, 3) := by decide +kernel
theorem dX4_start_132 : decode cX4_start 132 = .ok (.aload_n 0, 1) := by decide +kernel
theorem dX4_start_133 : decode cX4_start 133 = .ok (.getfield 15, 3) := by decide +kernel
theorem dX4_start_136 : decode cX4_start 136 = .ok (.iload_n 3, 1) := by decide +kernel
theorem dX4_start_137 : decode cX4_start 137 = .ok (.iaload, 1) := by decide +kernel
theorem dX4_start_138 : decode cX4_start 138 = .ok (.iconst 3, 1) := by decide +kernel
theorem dX4_start_139 : decode cX4_start 139 = .ok (.if_icmp .ne 43, 3) := by decide +kernel
theorem dX4_start_142 : decode cX4_start 142 = .ok (.aload_n 0, 1) := by decide +kernel
theorem dX4_start_143 : decode cX4_start 143 = .ok (.getfield 22, 3) := by decide +kernel
theorem dX4_start_146 : decode cX4_start 146 = .ok (.iload_n 3, 1) := by decide +kernel
theorem dX4_start_147 : decode cX4_start 147 = .ok (.aload_n 0, 1) := by decide +kernel
theorem dX4_start_148 : decode cX4_start 148 = .ok (.invokevirtual 69, 3) := by decide +kernel
theorem dX4_start_151 : decode cX4_start 151 = .ok (.i2l, 1) := by decide +kernel
theorem dX4_start_152 : decode cX4_start 152 = .ok (.lastore, 1) := by decide +kernel
theorem dX4_start_153 : decode cX4_start 153 = .ok (.aload_n 0, 1) := by decide +kernel
theorem dX4_start_154 : decode cX4_start 154 = .ok (.getfield 15, 3) := by decide +kernel
theorem dX4_start_157 : decode cX4_start 157 = .ok (.iload_n 3, 1) := by decide +kernel
theorem dX4_start_158 : decode cX4_start 158 = .ok (.aload_n 0, 1) := by decide +kernel
theorem dX4_start_159 : decode cX4_start 159 = .ok (.getfield 51, 3) := by decide +kernel
theorem dX4_start_162 : decode cX4_start 162 = .ok (.aload_n 0, 1) := by decide +kernel
theorem dX4_start_163 : decode cX4_start 163 = .ok (.getfield 19, 3) := by decide +kernel
theorem dX4_start_166 : decode cX4_start 166 = .ok (.iload_n 3, 1) := by decide +kernel
theorem dX4_start_167 : decode cX4_start 167 = .ok (.iaload, 1) := by decide +kernel
theorem dX4_start_168 : decode cX4_start 168 = .ok (.isub, 1) := by decide +kernel
theorem dX4_start_169 : decode cX4_start 169 = .ok (.iconst 4, 1) := by decide +kernel
theorem dX4_start_170 : decode cX4_start 170 = .ok (.if_icmp .le 7, 3) := by decide +kernel
theorem dX4_start_173 : decode cX4_start 173 = .ok (.iconst 1, 1) := by decide +kernel
theorem dX4_start_174 : decode cX4_start 174 = .ok (.goto 4, 3) := by decide +kernel
theorem dX4_start_177 : decode cX4_start 177 = .ok (.iconst 3, 1) := by decide +kernel
theorem dX4_start_178 : decode cX4_start 178 = .ok (.iastore, 1) := by decide +kernel
theorem dX4_start_179 : decode cX4_start 179 = .ok (.goto 13, 3) := by decide +kernel
theorem dX4_start_182 : decode cX4_start 182 = .ok (.aload_n 0, 1) := by decide +kernel
theorem dX4_start_183 : decode cX4_start 183 = .ok (.dup, 1) := by decide +kernel
theorem dX4_start_184 : decode cX4_start 184 = .ok (.getfield 51, 3) := by decide +kernel
theorem dX4_start_187 : decode cX4_start 187 = .ok (.iconst 1, 1) := by decide +kernel
theorem dX4_start_188 : decode cX4_start 188 = .ok (.iadd, 1) := by decide +kernel
theorem dX4_start_189 : decode cX4_start 189 = .ok (.putfield 51, 3) := by decide +kernel
theorem dX4_start_192 : decode cX4_start 192 = .ok (.iinc 3 1, 3) := by decide +kernel
theorem dX4_start_195 : decode cX4_start 195 = .ok (.goto (-165), 3) := by decide +kernel
theorem dX4_start_198 : decode cX4_start 198 = .ok (.aload_n 0, 1) := by decide +kernel
theorem dX4_start_199 : decode cX4_start 199 = .ok (.iconst (-1), 1) := by decide +kernel
theorem dX4_start_200 : decode cX4_start 200 = .ok (.putfield 72, 3) := by decide +kernel
theorem dX4_start_203 : decode cX4_start 203 = .ok (.aload_n 0, 1) := by decide +kernel
theorem dX4_start_204 : decode cX4_start 204 = .ok (.invokevirtual 75, 3) := by decide +kernel
theorem dX4_start_207 : decode cX4_start 207 = .ok (.return_, 1) := by decide +kernel
theorem dX4_byteAt_0 : decode cX4_byteAt 0 = .ok (.iload_n 1, 1) := by decide +kernel
theorem dX4_byteAt_1 : decode cX4_byteAt 1 = .ok (.ifCond .lt 27, 3) := by decide +kernel
theorem dX4_byteAt_4 : decode cX4_byteAt 4 = .ok (.iload_n 1, 1) := by decide +kernel
theorem dX4_byteAt_5 : decode cX4_byteAt 5 = .ok (.aload_n 0, 1) := by decide +kernel
theorem dX4_byteAt_6 : decode cX4_byteAt 6 = .ok (.getfield 48, 3) := by decide +kernel
theorem dX4_byteAt_9 : decode cX4_byteAt 9 = .ok (.if_icmp .ge 19, 3) := by decide +kernel
theorem dX4_byteAt_12 : decode cX4_byteAt 12 = .ok (.iload_n 1, 1) := by decide +kernel
theorem dX4_byteAt_13 : decode cX4_byteAt 13 = .ok (.sipush 900, 3) := by decide +kernel
theorem dX4_byteAt_16 : decode cX4_byteAt 16 = .ok (.if_icmp .ge 12, 3) := by decide +kernel
theorem dX4_byteAt_19 : decode cX4_byteAt 19 = .ok (.aload_n 0, 1) := by decide +kernel
theorem dX4_byteAt_20 : decode cX4_byteAt 20 = .ok (.getfield 9, 3) := by decide +kernel
theorem dX4_byteAt_23 : decode cX4_byteAt 23 = .ok (.iload_n 1, 1) := by decide +kernel
theorem dX4_byteAt_24 : decode cX4_byteAt 24 = .ok (.baload, 1) := by decide +kernel
theorem dX4_byteAt_25 : decode cX4_byteAt 25 = .ok (.goto 4, 3) := by decide +kernel
theorem dX4_byteAt_28 : decode cX4_byteAt 28 = .ok (.iconst (-1), 1) := by decide +kernel
theorem dX4_byteAt_29 : decode cX4_byteAt 29 = .ok (.ireturn, 1) := by decide +kernel
theorem dX4_isLetter_0 : decode cX4_isLetter 0 = .ok (.iload_n 0, 1) := by decide +kernel
theorem dX4_isLetter_1 : decode cX4_isLetter 1 = .ok (.bipush 97, 2) := by decide +kernel
theorem dX4_isLetter_3 : decode cX4_isLetter 3 = .ok (.if_icmp .lt 13, 3) := by decide +kernel
theorem dX4_isLetter_6 : decode cX4_isLetter 6 = .ok (.iload_n 0, 1) := by decide +kernel
theorem dX4_isLetter_7 : decode cX4_isLetter 7 = .ok (.bipush 122, 2) := by decide +kernel
theorem dX4_isLetter_9 : decode cX4_isLetter 9 = .ok (.if_icmp .gt 7, 3) := by decide +kernel
theorem dX4_isLetter_12 : decode cX4_isLetter 12 = .ok (.iconst 1, 1) := by decide +kernel
theorem dX4_isLetter_13 : decode cX4_isLetter 13 = .ok (.goto 4, 3) := by decide +kernel
theorem dX4_isLetter_16 : decode cX4_isLetter 16 = .ok (.iconst 0, 1) := by decide +kernel
theorem dX4_isLetter_17 : decode cX4_isLetter 17 = .ok (.ireturn, 1) := by decide +kernel
theorem dX4_isDigit_0 : decode cX4_isDigit 0 = .ok (.iload_n 0, 1) := by decide +kernel
theorem dX4_isDigit_1 : decode cX4_isDigit 1 = .ok (.bipush 48, 2) := by decide +kernel
theorem dX4_isDigit_3 : decode cX4_isDigit 3 = .ok (.if_icmp .lt 13, 3) := by decide +kernel
theorem dX4_isDigit_6 : decode cX4_isDigit 6 = .ok (.iload_n 0, 1) := by decide +kernel
theorem dX4_isDigit_7 : decode cX4_isDigit 7 = .ok (.bipush 57, 2) := by decide +kernel
theorem dX4_isDigit_9 : decode cX4_isDigit 9 = .ok (.if_icmp .gt 7, 3) := by decide +kernel
theorem dX4_isDigit_12 : decode cX4_isDigit 12 = .ok (.iconst 1, 1) := by decide +kernel
theorem dX4_isDigit_13 : decode cX4_isDigit 13 = .ok (.goto 4, 3) := by decide +kernel
theorem dX4_isDigit_16 : decode cX4_isDigit 16 = .ok (.iconst 0, 1) := by decide +kernel
theorem dX4_isDigit_17 : decode cX4_isDigit 17 = .ok (.ireturn, 1) := by decide +kernel
theorem dX4_passBlanks_0 : decode cX4_passBlanks 0 = .ok (.aload_n 0, 1) := by decide +kernel
theorem dX4_passBlanks_1 : decode cX4_passBlanks 1 = .ok (.getfield 51, 3) := by decide +kernel
theorem dX4_passBlanks_4 : decode cX4_passBlanks 4 = .ok (.aload_n 0, 1) := by decide +kernel
theorem dX4_passBlanks_5 : decode cX4_passBlanks 5 = .ok (.getfield 48, 3) := by decide +kernel
theorem dX4_passBlanks_8 : decode cX4_passBlanks 8 = .ok (.if_icmp .ge 42, 3) := by decide +kernel
theorem dX4_passBlanks_11 : decode cX4_passBlanks 11 = .ok (.aload_n 0, 1) := by decide +kernel
theorem dX4_passBlanks_12 : decode cX4_passBlanks 12 = .ok (.aload_n 0, 1) := by decide +kernel
theorem dX4_passBlanks_13 : decode cX4_passBlanks 13 = .ok (.getfield 51, 3) := by decide +kernel
theorem dX4_passBlanks_16 : decode cX4_passBlanks 16 = .ok (.invokevirtual 78, 3) := by decide +kernel
theorem dX4_passBlanks_19 : decode cX4_passBlanks 19 = .ok (.bipush 10, 2) := by decide +kernel
theorem dX4_passBlanks_21 : decode cX4_passBlanks 21 = .ok (.if_icmp .eq 16, 3) := by decide +kernel
theorem dX4_passBlanks_24 : decode cX4_passBlanks 24 = .ok (.aload_n 0, 1) := by decide +kernel
theorem dX4_passBlanks_25 : decode cX4_passBlanks 25 = .ok (.aload_n 0, 1) := by decide +kernel
theorem dX4_passBlanks_26 : decode cX4_passBlanks 26 = .ok (.getfield 51, 3) := by decide +kernel
theorem dX4_passBlanks_29 : decode cX4_passBlanks 29 = .ok (.invokevirtual 78, 3) := by decide +kernel
theorem dX4_passBlanks_32 : decode cX4_passBlanks 32 = .ok (.bipush 32, 2) := by decide +kernel
theorem dX4_passBlanks_34 : decode cX4_passBlanks 34 = .ok (.if_icmp .ne 16, 3) := by decide +kernel
theorem dX4_passBlanks_37 : decode cX4_passBlanks 37 = .ok (.aload_n 0, 1) := by decide +kernel
theorem dX4_passBlanks_38 : decode cX4_passBlanks 38 = .ok (.dup, 1) := by decide +kernel
theorem dX4_passBlanks_39 : decode cX4_passBlanks 39 = .ok (.getfield 51, 3) := by decide +kernel
theorem dX4_passBlanks_42 : decode cX4_passBlanks 42 = .ok (.iconst 1, 1) := by decide +kernel
theorem dX4_passBlanks_43 : decode cX4_passBlanks 43 = .ok (.iadd, 1) := by decide +kernel
theorem dX4_passBlanks_44 : decode cX4_passBlanks 44 = .ok (.putfield 51, 3) := by decide +kernel
theorem dX4_passBlanks_47 : decode cX4_passBlanks 47 = .ok (.goto (-47), 3) := by decide +kernel
theorem dX4_passBlanks_50 : decode cX4_passBlanks 50 = .ok (.return_, 1) := by decide +kernel
theorem dX4_kindHere_0 : decode cX4_kindHere 0 = .ok (.aload_n 0, 1) := by decide +kernel
theorem dX4_kindHere_1 : decode cX4_kindHere 1 = .ok (.getfield 51, 3) := by decide +kernel
theorem dX4_kindHere_4 : decode cX4_kindHere 4 = .ok (.aload_n 0, 1) := by decide +kernel
theorem dX4_kindHere_5 : decode cX4_kindHere 5 = .ok (.getfield 48, 3) := by decide +kernel
theorem dX4_kindHere_8 : decode cX4_kindHere 8 = .ok (.if_icmp .lt 5, 3) := by decide +kernel
theorem dX4_kindHere_11 : decode cX4_kindHere 11 = .ok (.iconst 0, 1) := by decide +kernel
theorem dX4_kindHere_12 : decode cX4_kindHere 12 = .ok (.ireturn, 1) := by decide +kernel
theorem dX4_kindHere_13 : decode cX4_kindHere 13 = .ok (.aload_n 0, 1) := by decide +kernel
theorem dX4_kindHere_14 : decode cX4_kindHere 14 = .ok (.aload_n 0, 1) := by decide +kernel
theorem dX4_kindHere_15 : decode cX4_kindHere 15 = .ok (.getfield 51, 3) := by decide +kernel
theorem dX4_kindHere_18 : decode cX4_kindHere 18 = .ok (.invokevirtual 78, 3) := by decide +kernel
theorem dX4_kindHere_21 : decode cX4_kindHere 21 = .ok (.istore_n 1, 1) := by decide +kernel
theorem dX4_kindHere_22 : decode cX4_kindHere 22 = .ok (.iload_n 1, 1) := by decide +kernel
theorem dX4_kindHere_23 : decode cX4_kindHere 23 = .ok (.invokestatic 82, 3) := by decide +kernel
theorem dX4_kindHere_26 : decode cX4_kindHere 26 = .ok (.ifCond .eq 5, 3) := by decide +kernel
theorem dX4_kindHere_29 : decode cX4_kindHere 29 = .ok (.iconst 2, 1) := by decide +kernel
theorem dX4_kindHere_30 : decode cX4_kindHere 30 = .ok (.ireturn, 1) := by decide +kernel
theorem dX4_kindHere_31 : decode cX4_kindHere 31 = .ok (.iload_n 1, 1) := by decide +kernel
theorem dX4_kindHere_32 : decode cX4_kindHere 32 = .ok (.invokestatic 86, 3) := by decide +kernel
theorem dX4_kindHere_35 : decode cX4_kindHere 35 = .ok (.ifCond .eq 5, 3) := by decide +kernel
theorem dX4_kindHere_38 : decode cX4_kindHere 38 = .ok (.iconst 3, 1) := by decide +kernel
theorem dX4_kindHere_39 : decode cX4_kindHere 39 = .ok (.ireturn, 1) := by decide +kernel
theorem dX4_kindHere_40 : decode cX4_kindHere 40 = .ok (.iload_n 1, 1) := by decide +kernel
theorem dX4_kindHere_41 : decode cX4_kindHere 41 = .ok (.bipush 59, 2) := by decide +kernel
theorem dX4_kindHere_43 : decode cX4_kindHere 43 = .ok (.if_icmp .lt 13, 3) := by decide +kernel
theorem dX4_kindHere_46 : decode cX4_kindHere 46 = .ok (.iload_n 1, 1) := by decide +kernel
theorem dX4_kindHere_47 : decode cX4_kindHere 47 = .ok (.bipush 62, 2) := by decide +kernel
theorem dX4_kindHere_49 : decode cX4_kindHere 49 = .ok (.if_icmp .gt 7, 3) := by decide +kernel
theorem dX4_kindHere_52 : decode cX4_kindHere 52 = .ok (.iload_n 1, 1) := by decide +kernel
theorem dX4_kindHere_53 : decode cX4_kindHere 53 = .ok (.goto 4, 3) := by decide +kernel
theorem dX4_kindHere_56 : decode cX4_kindHere 56 = .ok (.iconst 1, 1) := by decide +kernel
theorem dX4_kindHere_57 : decode cX4_kindHere 57 = .ok (.ireturn, 1) := by decide +kernel
theorem dX4_passWord_0 : decode cX4_passWord 0 = .ok (.aload_n 0, 1) := by decide +kernel
theorem dX4_passWord_1 : decode cX4_passWord 1 = .ok (.getfield 51, 3) := by decide +kernel
theorem dX4_passWord_4 : decode cX4_passWord 4 = .ok (.istore_n 1, 1) := by decide +kernel
theorem dX4_passWord_5 : decode cX4_passWord 5 = .ok (.lconst 0, 1) := by decide +kernel
theorem dX4_passWord_6 : decode cX4_passWord 6 = .ok (.lstore_n 2, 1) := by decide +kernel
theorem dX4_passWord_7 : decode cX4_passWord 7 = .ok (.aload_n 0, 1) := by decide +kernel
theorem dX4_passWord_8 : decode cX4_passWord 8 = .ok (.getfield 51, 3) := by decide +kernel
theorem dX4_passWord_11 : decode cX4_passWord 11 = .ok (.aload_n 0, 1) := by decide +kernel
theorem dX4_passWord_12 : decode cX4_passWord 12 = .ok (.getfield 48, 3) := by decide +kernel
theorem dX4_passWord_15 : decode cX4_passWord 15 = .ok (.if_icmp .ge 52, 3) := by decide +kernel
theorem dX4_passWord_18 : decode cX4_passWord 18 = .ok (.aload_n 0, 1) := by decide +kernel
theorem dX4_passWord_19 : decode cX4_passWord 19 = .ok (.aload_n 0, 1) := by decide +kernel
theorem dX4_passWord_20 : decode cX4_passWord 20 = .ok (.getfield 51, 3) := by decide +kernel
theorem dX4_passWord_23 : decode cX4_passWord 23 = .ok (.invokevirtual 78, 3) := by decide +kernel
theorem dX4_passWord_26 : decode cX4_passWord 26 = .ok (.invokestatic 82, 3) := by decide +kernel
theorem dX4_passWord_29 : decode cX4_passWord 29 = .ok (.ifCond .eq 38, 3) := by decide +kernel
theorem dX4_passWord_32 : decode cX4_passWord 32 = .ok (.lload_n 2, 1) := by decide +kernel
theorem dX4_passWord_33 : decode cX4_passWord 33 = .ok (.ldc2_w 89, 3) := by decide +kernel
theorem dX4_passWord_36 : decode cX4_passWord 36 = .ok (.lmul, 1) := by decide +kernel
theorem dX4_passWord_37 : decode cX4_passWord 37 = .ok (.aload_n 0, 1) := by decide +kernel
theorem dX4_passWord_38 : decode cX4_passWord 38 = .ok (.aload_n 0, 1) := by decide +kernel
theorem dX4_passWord_39 : decode cX4_passWord 39 = .ok (.getfield 51, 3) := by decide +kernel
theorem dX4_passWord_42 : decode cX4_passWord 42 = .ok (.invokevirtual 78, 3) := by decide +kernel
theorem dX4_passWord_45 : decode cX4_passWord 45 = .ok (.i2l, 1) := by decide +kernel
theorem dX4_passWord_46 : decode cX4_passWord 46 = .ok (.ladd, 1) := by decide +kernel
theorem dX4_passWord_47 : decode cX4_passWord 47 = .ok (.ldc2_w 91, 3) := by decide +kernel
theorem dX4_passWord_50 : decode cX4_passWord 50 = .ok (.lsub, 1) := by decide +kernel
theorem dX4_passWord_51 : decode cX4_passWord 51 = .ok (.lconst 1, 1) := by decide +kernel
theorem dX4_passWord_52 : decode cX4_passWord 52 = .ok (.ladd, 1) := by decide +kernel
theorem dX4_passWord_53 : decode cX4_passWord 53 = .ok (.lstore_n 2, 1) := by decide +kernel
theorem dX4_passWord_54 : decode cX4_passWord 54 = .ok (.aload_n 0, 1) := by decide +kernel
theorem dX4_passWord_55 : decode cX4_passWord 55 = .ok (.dup, 1) := by decide +kernel
theorem dX4_passWord_56 : decode cX4_passWord 56 = .ok (.getfield 51, 3) := by decide +kernel
theorem dX4_passWord_59 : decode cX4_passWord 59 = .ok (.iconst 1, 1) := by decide +kernel
theorem dX4_passWord_60 : decode cX4_passWord 60 = .ok (.iadd, 1) := by decide +kernel
theorem dX4_passWord_61 : decode cX4_passWord 61 = .ok (.putfield 51, 3) := by decide +kernel
theorem dX4_passWord_64 : decode cX4_passWord 64 = .ok (.goto (-57), 3) := by decide +kernel
theorem dX4_passWord_67 : decode cX4_passWord 67 = .ok (.aload_n 0, 1) := by decide +kernel
theorem dX4_passWord_68 : decode cX4_passWord 68 = .ok (.getfield 51, 3) := by decide +kernel
theorem dX4_passWord_71 : decode cX4_passWord 71 = .ok (.iload_n 1, 1) := by decide +kernel
theorem dX4_passWord_72 : decode cX4_passWord 72 = .ok (.isub, 1) := by decide +kernel
theorem dX4_passWord_73 : decode cX4_passWord 73 = .ok (.bipush 8, 2) := by decide +kernel
theorem dX4_passWord_75 : decode cX4_passWord 75 = .ok (.if_icmp .le 7, 3) := by decide +kernel
theorem dX4_passWord_78 : decode cX4_passWord 78 = .ok (.lconst 0, 1) := by decide +kernel
theorem dX4_passWord_79 : decode cX4_passWord 79 = .ok (.goto 4, 3) := by decide +kernel
theorem dX4_passWord_82 : decode cX4_passWord 82 = .ok (.lload_n 2, 1) := by decide +kernel
theorem dX4_passWord_83 : decode cX4_passWord 83 = .ok (.lreturn, 1) := by decide +kernel
theorem dX4_passNumber_0 : decode cX4_passNumber 0 = .ok (.aload_n 0, 1) := by decide +kernel
theorem dX4_passNumber_1 : decode cX4_passNumber 1 = .ok (.getfield 51, 3) := by decide +kernel
theorem dX4_passNumber_4 : decode cX4_passNumber 4 = .ok (.istore_n 1, 1) := by decide +kernel
theorem dX4_passNumber_5 : decode cX4_passNumber 5 = .ok (.iconst 0, 1) := by decide +kernel
theorem dX4_passNumber_6 : decode cX4_passNumber 6 = .ok (.istore_n 2, 1) := by decide +kernel
theorem dX4_passNumber_7 : decode cX4_passNumber 7 = .ok (.aload_n 0, 1) := by decide +kernel
theorem dX4_passNumber_8 : decode cX4_passNumber 8 = .ok (.getfield 51, 3) := by decide +kernel
theorem dX4_passNumber_11 : decode cX4_passNumber 11 = .ok (.aload_n 0, 1) := by decide +kernel
theorem dX4_passNumber_12 : decode cX4_passNumber 12 = .ok (.getfield 48, 3) := by decide +kernel
theorem dX4_passNumber_15 : decode cX4_passNumber 15 = .ok (.if_icmp .ge 57, 3) := by decide +kernel
theorem dX4_passNumber_18 : decode cX4_passNumber 18 = .ok (.aload_n 0, 1) := by decide +kernel
theorem dX4_passNumber_19 : decode cX4_passNumber 19 = .ok (.aload_n 0, 1) := by decide +kernel
theorem dX4_passNumber_20 : decode cX4_passNumber 20 = .ok (.getfield 51, 3) := by decide +kernel
theorem dX4_passNumber_23 : decode cX4_passNumber 23 = .ok (.invokevirtual 78, 3) := by decide +kernel
theorem dX4_passNumber_26 : decode cX4_passNumber 26 = .ok (.invokestatic 86, 3) := by decide +kernel
theorem dX4_passNumber_29 : decode cX4_passNumber 29 = .ok (.ifCond .eq 43, 3) := by decide +kernel
theorem dX4_passNumber_32 : decode cX4_passNumber 32 = .ok (.aload_n 0, 1) := by decide +kernel
theorem dX4_passNumber_33 : decode cX4_passNumber 33 = .ok (.getfield 51, 3) := by decide +kernel
theorem dX4_passNumber_36 : decode cX4_passNumber 36 = .ok (.iload_n 1, 1) := by decide +kernel
theorem dX4_passNumber_37 : decode cX4_passNumber 37 = .ok (.isub, 1) := by decide +kernel
theorem dX4_passNumber_38 : decode cX4_passNumber 38 = .ok (.iconst 4, 1) := by decide +kernel
theorem dX4_passNumber_39 : decode cX4_passNumber 39 = .ok (.if_icmp .ge 20, 3) := by decide +kernel
theorem dX4_passNumber_42 : decode cX4_passNumber 42 = .ok (.iload_n 2, 1) := by decide +kernel
theorem dX4_passNumber_43 : decode cX4_passNumber 43 = .ok (.bipush 10, 2) := by decide +kernel
theorem dX4_passNumber_45 : decode cX4_passNumber 45 = .ok (.imul, 1) := by decide +kernel
theorem dX4_passNumber_46 : decode cX4_passNumber 46 = .ok (.aload_n 0, 1) := by decide +kernel
theorem dX4_passNumber_47 : decode cX4_passNumber 47 = .ok (.aload_n 0, 1) := by decide +kernel
theorem dX4_passNumber_48 : decode cX4_passNumber 48 = .ok (.getfield 51, 3) := by decide +kernel
theorem dX4_passNumber_51 : decode cX4_passNumber 51 = .ok (.invokevirtual 78, 3) := by decide +kernel
theorem dX4_passNumber_54 : decode cX4_passNumber 54 = .ok (.iadd, 1) := by decide +kernel
theorem dX4_passNumber_55 : decode cX4_passNumber 55 = .ok (.bipush 48, 2) := by decide +kernel
theorem dX4_passNumber_57 : decode cX4_passNumber 57 = .ok (.isub, 1) := by decide +kernel
theorem dX4_passNumber_58 : decode cX4_passNumber 58 = .ok (.istore_n 2, 1) := by decide +kernel
theorem dX4_passNumber_59 : decode cX4_passNumber 59 = .ok (.aload_n 0, 1) := by decide +kernel
theorem dX4_passNumber_60 : decode cX4_passNumber 60 = .ok (.dup, 1) := by decide +kernel
theorem dX4_passNumber_61 : decode cX4_passNumber 61 = .ok (.getfield 51, 3) := by decide +kernel
theorem dX4_passNumber_64 : decode cX4_passNumber 64 = .ok (.iconst 1, 1) := by decide +kernel
theorem dX4_passNumber_65 : decode cX4_passNumber 65 = .ok (.iadd, 1) := by decide +kernel
theorem dX4_passNumber_66 : decode cX4_passNumber 66 = .ok (.putfield 51, 3) := by decide +kernel
theorem dX4_passNumber_69 : decode cX4_passNumber 69 = .ok (.goto (-62), 3) := by decide +kernel
theorem dX4_passNumber_72 : decode cX4_passNumber 72 = .ok (.iload_n 2, 1) := by decide +kernel
theorem dX4_passNumber_73 : decode cX4_passNumber 73 = .ok (.ireturn, 1) := by decide +kernel
theorem dX4_advance_0 : decode cX4_advance 0 = .ok (.aload_n 0, 1) := by decide +kernel
theorem dX4_advance_1 : decode cX4_advance 1 = .ok (.aload_n 0, 1) := by decide +kernel
theorem dX4_advance_2 : decode cX4_advance 2 = .ok (.getfield 72, 3) := by decide +kernel
theorem dX4_advance_5 : decode cX4_advance 5 = .ok (.iconst 1, 1) := by decide +kernel
theorem dX4_advance_6 : decode cX4_advance 6 = .ok (.iadd, 1) := by decide +kernel
theorem dX4_advance_7 : decode cX4_advance 7 = .ok (.sipush 900, 3) := by decide +kernel
theorem dX4_advance_10 : decode cX4_advance 10 = .ok (.invokestatic 42, 3) := by decide +kernel
theorem dX4_advance_13 : decode cX4_advance 13 = .ok (.putfield 72, 3) := by decide +kernel
theorem dX4_advance_16 : decode cX4_advance 16 = .ok (.aload_n 0, 1) := by decide +kernel
theorem dX4_advance_17 : decode cX4_advance 17 = .ok (.getfield 72, 3) := by decide +kernel
theorem dX4_advance_20 : decode cX4_advance 20 = .ok (.ifCond .lt 55, 3) := by decide +kernel
theorem dX4_advance_23 : decode cX4_advance 23 = .ok (.aload_n 0, 1) := by decide +kernel
theorem dX4_advance_24 : decode cX4_advance 24 = .ok (.aload_n 0, 1) := by decide +kernel
theorem dX4_advance_25 : decode cX4_advance 25 = .ok (.getfield 15, 3) := by decide +kernel
theorem dX4_advance_28 : decode cX4_advance 28 = .ok (.aload_n 0, 1) := by decide +kernel
theorem dX4_advance_29 : decode cX4_advance 29 = .ok (.getfield 72, 3) := by decide +kernel
theorem dX4_advance_32 : decode cX4_advance 32 = .ok (.iaload, 1) := by decide +kernel
theorem dX4_advance_33 : decode cX4_advance 33 = .ok (.putfield 93, 3) := by decide +kernel
theorem dX4_advance_36 : decode cX4_advance 36 = .ok (.aload_n 0, 1) := by decide +kernel
theorem dX4_advance_37 : decode cX4_advance 37 = .ok (.aload_n 0, 1) := by decide +kernel
theorem dX4_advance_38 : decode cX4_advance 38 = .ok (.getfield 19, 3) := by decide +kernel
theorem dX4_advance_41 : decode cX4_advance 41 = .ok (.aload_n 0, 1) := by decide +kernel
theorem dX4_advance_42 : decode cX4_advance 42 = .ok (.getfield 72, 3) := by decide +kernel
theorem dX4_advance_45 : decode cX4_advance 45 = .ok (.iaload, 1) := by decide +kernel
theorem dX4_advance_46 : decode cX4_advance 46 = .ok (.putfield 96, 3) := by decide +kernel
theorem dX4_advance_49 : decode cX4_advance 49 = .ok (.aload_n 0, 1) := by decide +kernel
theorem dX4_advance_50 : decode cX4_advance 50 = .ok (.aload_n 0, 1) := by decide +kernel
theorem dX4_advance_51 : decode cX4_advance 51 = .ok (.getfield 22, 3) := by decide +kernel
theorem dX4_advance_54 : decode cX4_advance 54 = .ok (.aload_n 0, 1) := by decide +kernel
theorem dX4_advance_55 : decode cX4_advance 55 = .ok (.getfield 72, 3) := by decide +kernel
theorem dX4_advance_58 : decode cX4_advance 58 = .ok (.laload, 1) := by decide +kernel
theorem dX4_advance_59 : decode cX4_advance 59 = .ok (.putfield 99, 3) := by decide +kernel
theorem dX4_advance_62 : decode cX4_advance 62 = .ok (.aload_n 0, 1) := by decide +kernel
theorem dX4_advance_63 : decode cX4_advance 63 = .ok (.aload_n 0, 1) := by decide +kernel
theorem dX4_advance_64 : decode cX4_advance 64 = .ok (.getfield 28, 3) := by decide +kernel
theorem dX4_advance_67 : decode cX4_advance 67 = .ok (.aload_n 0, 1) := by decide +kernel
theorem dX4_advance_68 : decode cX4_advance 68 = .ok (.getfield 72, 3) := by decide +kernel
theorem dX4_advance_71 : decode cX4_advance 71 = .ok (.aaload, 1) := by decide +kernel
theorem dX4_advance_72 : decode cX4_advance 72 = .ok (.putfield 103, 3) := by decide +kernel
theorem dX4_advance_75 : decode cX4_advance 75 = .ok (.return_, 1) := by decide +kernel
theorem dX4_fail_0 : decode cX4_fail 0 = .ok (.aload_n 0, 1) := by decide +kernel
theorem dX4_fail_1 : decode cX4_fail 1 = .ok (.iload_n 1, 1) := by decide +kernel
theorem dX4_fail_2 : decode cX4_fail 2 = .ok (.putfield 32, 3) := by decide +kernel
theorem dX4_fail_5 : decode cX4_fail 5 = .ok (.aload_n 0, 1) := by decide +kernel
theorem dX4_fail_6 : decode cX4_fail 6 = .ok (.iload_n 2, 1) := by decide +kernel
theorem dX4_fail_7 : decode cX4_fail 7 = .ok (.putfield 36, 3) := by decide +kernel
theorem dX4_fail_10 : decode cX4_fail 10 = .ok (.iconst 0, 1) := by decide +kernel
theorem dX4_fail_11 : decode cX4_fail 11 = .ok (.ireturn, 1) := by decide +kernel
theorem dX4_misfit_0 : decode cX4_misfit 0 = .ok (.aload_n 0, 1) := by decide +kernel
theorem dX4_misfit_1 : decode cX4_misfit 1 = .ok (.aload_n 0, 1) := by decide +kernel
theorem dX4_misfit_2 : decode cX4_misfit 2 = .ok (.getfield 93, 3) := by decide +kernel
theorem dX4_misfit_5 : decode cX4_misfit 5 = .ok (.iconst 1, 1) := by decide +kernel
theorem dX4_misfit_6 : decode cX4_misfit 6 = .ok (.if_icmp .ne 7, 3) := by decide +kernel
theorem dX4_misfit_9 : decode cX4_misfit 9 = .ok (.iconst 1, 1) := by decide +kernel
theorem dX4_misfit_10 : decode cX4_misfit 10 = .ok (.goto 4, 3) := by decide +kernel
theorem dX4_misfit_13 : decode cX4_misfit 13 = .ok (.iconst 2, 1) := by decide +kernel
theorem dX4_misfit_14 : decode cX4_misfit 14 = .ok (.putfield 32, 3) := by decide +kernel
theorem dX4_misfit_17 : decode cX4_misfit 17 = .ok (.aload_n 0, 1) := by decide +kernel
theorem dX4_misfit_18 : decode cX4_misfit 18 = .ok (.aload_n 0, 1) := by decide +kernel
theorem dX4_misfit_19 : decode cX4_misfit 19 = .ok (.getfield 96, 3) := by decide +kernel
theorem dX4_misfit_22 : decode cX4_misfit 22 = .ok (.putfield 36, 3) := by decide +kernel
theorem dX4_misfit_25 : decode cX4_misfit 25 = .ok (.iconst 0, 1) := by decide +kernel
theorem dX4_misfit_26 : decode cX4_misfit 26 = .ok (.ireturn, 1) := by decide +kernel
theorem dX4_take_0 : decode cX4_take 0 = .ok (.aload_n 0, 1) := by decide +kernel
theorem dX4_take_1 : decode cX4_take 1 = .ok (.getfield 103, 3) := by decide +kernel
theorem dX4_take_4 : decode cX4_take 4 = .ok (.aload_n 1, 1) := by decide +kernel
theorem dX4_take_5 : decode cX4_take 5 = .ok (.if_acmp .eq 8, 3) := by decide +kernel
theorem dX4_take_8 : decode cX4_take 8 = .ok (.aload_n 0, 1) := by decide +kernel
theorem dX4_take_9 : decode cX4_take 9 = .ok (.invokevirtual 107, 3) := by decide +kernel
theorem dX4_take_12 : decode cX4_take 12 = .ok (.ireturn, 1) := by decide +kernel
theorem dX4_take_13 : decode cX4_take 13 = .ok (.aload_n 0, 1) := by decide +kernel
theorem dX4_take_14 : decode cX4_take 14 = .ok (.invokevirtual 75, 3) := by decide +kernel
theorem dX4_take_17 : decode cX4_take 17 = .ok (.iconst 1, 1) := by decide +kernel
theorem dX4_take_18 : decode cX4_take 18 = .ok (.ireturn, 1) := by decide +kernel
theorem dX4_takeSign_0 : decode cX4_takeSign 0 = .ok (.aload_n 0, 1) := by decide +kernel
theorem dX4_takeSign_1 : decode cX4_takeSign 1 = .ok (.getfield 93, 3) := by decide +kernel
theorem dX4_takeSign_4 : decode cX4_takeSign 4 = .ok (.iload_n 1, 1) := by decide +kernel
theorem dX4_takeSign_5 : decode cX4_takeSign 5 = .ok (.if_icmp .eq 8, 3) := by decide +kernel
theorem dX4_takeSign_8 : decode cX4_takeSign 8 = .ok (.aload_n 0, 1) := by decide +kernel
theorem dX4_takeSign_9 : decode cX4_takeSign 9 = .ok (.invokevirtual 107, 3) := by decide +kernel
theorem dX4_takeSign_12 : decode cX4_takeSign 12 = .ok (.ireturn, 1) := by decide +kernel
theorem dX4_takeSign_13 : decode cX4_takeSign 13 = .ok (.aload_n 0, 1) := by decide +kernel
theorem dX4_takeSign_14 : decode cX4_takeSign 14 = .ok (.invokevirtual 75, 3) := by decide +kernel
theorem dX4_takeSign_17 : decode cX4_takeSign 17 = .ok (.iconst 1, 1) := by decide +kernel
theorem dX4_takeSign_18 : decode cX4_takeSign 18 = .ok (.ireturn, 1) := by decide +kernel
theorem dX4_takeNumber_0 : decode cX4_takeNumber 0 = .ok (.aload_n 0, 1) := by decide +kernel
theorem dX4_takeNumber_1 : decode cX4_takeNumber 1 = .ok (.getfield 93, 3) := by decide +kernel
theorem dX4_takeNumber_4 : decode cX4_takeNumber 4 = .ok (.iconst 3, 1) := by decide +kernel
theorem dX4_takeNumber_5 : decode cX4_takeNumber 5 = .ok (.if_icmp .eq 8, 3) := by decide +kernel
theorem dX4_takeNumber_8 : decode cX4_takeNumber 8 = .ok (.aload_n 0, 1) := by decide +kernel
theorem dX4_takeNumber_9 : decode cX4_takeNumber 9 = .ok (.invokevirtual 107, 3) := by decide +kernel
theorem dX4_takeNumber_12 : decode cX4_takeNumber 12 = .ok (.ireturn, 1) := by decide +kernel
theorem dX4_takeNumber_13 : decode cX4_takeNumber 13 = .ok (.aload_n 0, 1) := by decide +kernel
theorem dX4_takeNumber_14 : decode cX4_takeNumber 14 = .ok (.getfield 99, 3) := by decide +kernel
theorem dX4_takeNumber_17 : decode cX4_takeNumber 17 = .ok (.iload_n 1, 1) := by decide +kernel
theorem dX4_takeNumber_18 : decode cX4_takeNumber 18 = .ok (.iload_n 2, 1) := by decide +kernel
theorem dX4_takeNumber_19 : decode cX4_takeNumber 19 = .ok (.invokestatic 111, 3) := by decide +kernel
theorem dX4_takeNumber_22 : decode cX4_takeNumber 22 = .ok (.ifCond .ne 13, 3) := by decide +kernel
theorem dX4_takeNumber_25 : decode cX4_takeNumber 25 = .ok (.aload_n 0, 1) := by decide +kernel
theorem dX4_takeNumber_26 : decode cX4_takeNumber 26 = .ok (.iconst 4, 1) := by decide +kernel
theorem dX4_takeNumber_27 : decode cX4_takeNumber 27 = .ok (.aload_n 0, 1) := by decide +kernel
theorem dX4_takeNumber_28 : decode cX4_takeNumber 28 = .ok (.getfield 96, 3) := by decide +kernel
theorem dX4_takeNumber_31 : decode cX4_takeNumber 31 = .ok (.invokevirtual 115, 3) := by decide +kernel
theorem dX4_takeNumber_34 : decode cX4_takeNumber 34 = .ok (.ireturn, 1) := by decide +kernel
theorem dX4_takeNumber_35 : decode cX4_takeNumber 35 = .ok (.aload_n 0, 1) := by decide +kernel
theorem dX4_takeNumber_36 : decode cX4_takeNumber 36 = .ok (.aload_n 0, 1) := by decide +kernel
theorem dX4_takeNumber_37 : decode cX4_takeNumber 37 = .ok (.getfield 99, 3) := by decide +kernel
theorem dX4_takeNumber_40 : decode cX4_takeNumber 40 = .ok (.l2i, 1) := by decide +kernel
theorem dX4_takeNumber_41 : decode cX4_takeNumber 41 = .ok (.putfield 119, 3) := by decide +kernel
theorem dX4_takeNumber_44 : decode cX4_takeNumber 44 = .ok (.aload_n 0, 1) := by decide +kernel
theorem dX4_takeNumber_45 : decode cX4_takeNumber 45 = .ok (.aload_n 0, 1) := by decide +kernel
theorem dX4_takeNumber_46 : decode cX4_takeNumber 46 = .ok (.getfield 96, 3) := by decide +kernel
theorem dX4_takeNumber_49 : decode cX4_takeNumber 49 = .ok (.putfield 122, 3) := by decide +kernel
theorem dX4_takeNumber_52 : decode cX4_takeNumber 52 = .ok (.aload_n 0, 1) := by decide +kernel
theorem dX4_takeNumber_53 : decode cX4_takeNumber 53 = .ok (.invokevirtual 75, 3) := by decide +kernel
theorem dX4_takeNumber_56 : decode cX4_takeNumber 56 = .ok (.iconst 1, 1) := by decide +kernel
theorem dX4_takeNumber_57 : decode cX4_takeNumber 57 = .ok (.ireturn, 1) := by decide +kernel
theorem dX4_isName_0 : decode cX4_isName 0 = .ok (.aload_n 0, 1) := by decide +kernel
theorem dX4_isName_1 : decode cX4_isName 1 = .ok (.getfield 93, 3) := by decide +kernel
theorem dX4_isName_4 : decode cX4_isName 4 = .ok (.iconst 2, 1) := by decide +kernel
theorem dX4_isName_5 : decode cX4_isName 5 = .ok (.if_icmp .ne 23, 3) := by decide +kernel
theorem dX4_isName_8 : decode cX4_isName 8 = .ok (.aload_n 0, 1) := by decide +kernel
theorem dX4_isName_9 : decode cX4_isName 9 = .ok (.getfield 103, 3) := by decide +kernel
theorem dX4_isName_12 : decode cX4_isName 12 = .ok (.ifnonnull 16, 3) := by decide +kernel
theorem dX4_isName_15 : decode cX4_isName 15 = .ok (.aload_n 0, 1) := by decide +kernel
theorem dX4_isName_16 : decode cX4_isName 16 = .ok (.getfield 99, 3) := by decide +kernel
theorem dX4_isName_19 : decode cX4_isName 19 = .ok (.lconst 0, 1) := by decide +kernel
theorem dX4_isName_20 : decode cX4_isName 20 = .ok (.lcmp, 1) := by decide +kernel
theorem dX4_isName_21 : decode cX4_isName 21 = .ok (.ifCond .eq 7, 3) := by decide +kernel
theorem dX4_isName_24 : decode cX4_isName 24 = .ok (.iconst 1, 1) := by decide +kernel
theorem dX4_isName_25 : decode cX4_isName 25 = .ok (.goto 4, 3) := by decide +kernel
theorem dX4_isName_28 : decode cX4_isName 28 = .ok (.iconst 0, 1) := by decide +kernel
theorem dX4_isName_29 : decode cX4_isName 29 = .ok (.ireturn, 1) := by decide +kernel
theorem dX5_init_0 : decode cX5_init 0 = .ok (.aload_n 0, 1) := by decide +kernel
theorem dX5_init_1 : decode cX5_init 1 = .ok (.invokespecial 3, 3) := by decide +kernel
theorem dX5_init_4 : decode cX5_init 4 = .ok (.aload_n 0, 1) := by decide +kernel
theorem dX5_init_5 : decode cX5_init 5 = .ok (.iconst (-1), 1) := by decide +kernel
theorem dX5_init_6 : decode cX5_init 6 = .ok (.putfield 9, 3) := by decide +kernel
theorem dX5_init_9 : decode cX5_init 9 = .ok (.aload_n 0, 1) := by decide +kernel
theorem dX5_init_10 : decode cX5_init 10 = .ok (.bipush 60, 2) := by decide +kernel
theorem dX5_init_12 : decode cX5_init 12 = .ok (.newarray .int, 2) := by decide +kernel
theorem dX5_init_14 : decode cX5_init 14 = .ok (.putfield 17, 3) := by decide +kernel
theorem dX5_init_17 : decode cX5_init 17 = .ok (.return_, 1) := by decide +kernel
theorem dX6_init_0 : decode cX6_init 0 = .ok (.aload_n 0, 1) := by decide +kernel
theorem dX6_init_1 : decode cX6_init 1 = .ok (.invokespecial 3, 3) := by decide +kernel
theorem dX6_init_4 : decode cX6_init 4 = .ok (.aload_n 0, 1) := by decide +kernel
theorem dX6_init_5 : decode cX6_init 5 = .ok (.bipush 60, 2) := by decide +kernel
theorem dX6_init_7 : decode cX6_init 7 = .ok (.newarray .long, 2) := by decide +kernel
theorem dX6_init_9 : decode cX6_init 9 = .ok (.putfield 9, 3) := by decide +kernel
theorem dX6_init_12 : decode cX6_init 12 = .ok (.aload_n 0, 1) := by decide +kernel
theorem dX6_init_13 : decode cX6_init 13 = .ok (.iconst (-1), 1) := by decide +kernel
theorem dX6_init_14 : decode cX6_init 14 = .ok (.putfield 15, 3) := by decide +kernel
theorem dX6_init_17 : decode cX6_init 17 = .ok (.return_, 1) := by decide +kernel
theorem dX7_init_0 : decode cX7_init 0 = .ok (.aload_n 0, 1) := by decide +kernel
theorem dX7_init_1 : decode cX7_init 1 = .ok (.invokespecial 3, 3) := by decide +kernel
theorem dX7_init_4 : decode cX7_init 4 = .ok (.aload_n 0, 1) := by decide +kernel
theorem dX7_init_5 : decode cX7_init 5 = .ok (.bipush 36, 2) := by decide +kernel
theorem dX7_init_7 : decode cX7_init 7 = .ok (.newarray .int, 2) := by decide +kernel
theorem dX7_init_9 : decode cX7_init 9 = .ok (.putfield 9, 3) := by decide +kernel
theorem dX7_init_12 : decode cX7_init 12 = .ok (.aload_n 0, 1) := by decide +kernel
theorem dX7_init_13 : decode cX7_init 13 = .ok (.bipush 36, 2) := by decide +kernel
theorem dX7_init_15 : decode cX7_init 15 = .ok (.newarray .int, 2) := by decide +kernel
theorem dX7_init_17 : decode cX7_init 17 = .ok (.putfield 15, 3) := by decide +kernel
theorem dX7_init_20 : decode cX7_init 20 = .ok (.aload_n 0, 1) := by decide +kernel
theorem dX7_init_21 : decode cX7_init 21 = .ok (.bipush 36, 2) := by decide +kernel
theorem dX7_init_23 : decode cX7_init 23 = .ok (.newarray .int, 2) := by decide +kernel
theorem dX7_init_25 : decode cX7_init 25 = .ok (.putfield 18, 3) := by decide +kernel
theorem dX7_init_28 : decode cX7_init 28 = .ok (.return_, 1) := by decide +kernel
theorem dX7_costOver_0 : decode cX7_costOver 0 = .ok (.aload_n 0, 1) := by decide +kernel
theorem dX7_costOver_1 : decode cX7_costOver 1 = .ok (.aload_n 1, 1) := by decide +kernel
theorem dX7_costOver_2 : decode cX7_costOver 2 = .ok (.invokevirtual 21, 3) := by decide +kernel
theorem dX7_costOver_5 : decode cX7_costOver 5 = .ok (.ifCond .ne 8, 3) := by decide +kernel
theorem dX7_costOver_8 : decode cX7_costOver 8 = .ok (.aload_n 0, 1) := by decide +kernel
theorem dX7_costOver_9 : decode cX7_costOver 9 = .ok (.getfield 25, 3) := by decide +kernel
theorem dX7_costOver_12 : decode cX7_costOver 12 = .ok (.ireturn, 1) := by decide +kernel
theorem dX7_costOver_13 : decode cX7_costOver 13 = .ok (.aload_n 0, 1) := by decide +kernel
theorem dX7_costOver_14 : decode cX7_costOver 14 = .ok (.getfield 18, 3) := by decide +kernel
theorem dX7_costOver_17 : decode cX7_costOver 17 = .ok (.ldc 29, 2) := by decide +kernel
theorem dX7_costOver_19 : decode cX7_costOver 19 = .ok (.invokestatic 30, 3) := by decide +kernel
theorem dX7_costOver_22 : decode cX7_costOver 22 = .ok (.iconst 1, 1) := by decide +kernel
theorem dX7_costOver_23 : decode cX7_costOver 23 = .ok (.istore_n 2, 1) := by decide +kernel
theorem dX7_costOver_24 : decode cX7_costOver 24 = .ok (.iconst 0, 1) := by decide +kernel
theorem dX7_costOver_25 : decode cX7_costOver 25 = .ok (.istore_n 3, 1) := by decide +kernel
theorem dX7_costOver_26 : decode cX7_costOver 26 = .ok (.iload_n 3, 1) := by decide +kernel
theorem dX7_costOver_27 : decode cX7_costOver 27 = .ok (.bipush 36, 2) := by decide +kernel
theorem dX7_costOver_29 : decode cX7_costOver 29 = .ok (.if_icmp .gt 62, 3) := by decide +kernel
theorem dX7_costOver_32 : decode cX7_costOver 32 = .ok (.iload_n 2, 1) := by decide +kernel
theorem dX7_costOver_33 : decode cX7_costOver 33 = .ok (.ifCond .eq 58, 3) := by decide +kernel
theorem dX7_costOver_36 : decode cX7_costOver 36 = .ok (.iconst 0, 1) := by decide +kernel
theorem dX7_costOver_37 : decode cX7_costOver 37 = .ok (.istore_n 2, 1) := by decide +kernel
theorem dX7_costOver_38 : decode cX7_costOver 38 = .ok (.bipush 35, 2) := by decide +kernel
theorem dX7_costOver_40 : decode cX7_costOver 40 = .ok (.istore 4, 2) := by decide +kernel
theorem dX7_costOver_42 : decode cX7_costOver 42 = .ok (.iload 4, 2) := by decide +kernel
theorem dX7_costOver_44 : decode cX7_costOver 44 = .ok (.ifCond .lt 41, 3) := by decide +kernel
theorem dX7_costOver_47 : decode cX7_costOver 47 = .ok (.aload_n 0, 1) := by decide +kernel
theorem dX7_costOver_48 : decode cX7_costOver 48 = .ok (.aload_n 1, 1) := by decide +kernel
theorem dX7_costOver_49 : decode cX7_costOver 49 = .ok (.iload 4, 2) := by decide +kernel
theorem dX7_costOver_51 : decode cX7_costOver 51 = .ok (.invokevirtual 36, 3) := by decide +kernel
theorem dX7_costOver_54 : decode cX7_costOver 54 = .ok (.istore 5, 2) := by decide +kernel
theorem dX7_costOver_56 : decode cX7_costOver 56 = .ok (.iload 5, 2) := by decide +kernel
theorem dX7_costOver_58 : decode cX7_costOver 58 = .ok (.aload_n 0, 1) := by decide +kernel
theorem dX7_costOver_59 : decode cX7_costOver 59 = .ok (.getfield 18, 3) := by decide +kernel
theorem dX7_costOver_62 : decode cX7_costOver 62 = .ok (.iload 4, 2) := by decide +kernel
theorem dX7_costOver_64 : decode cX7_costOver 64 = .ok (.iaload, 1) := by decide +kernel
theorem dX7_costOver_65 : decode cX7_costOver 65 = .ok (.if_icmp .ge 14, 3) := by decide +kernel
theorem dX7_costOver_68 : decode cX7_costOver 68 = .ok (.aload_n 0, 1) := by decide +kernel
theorem dX7_costOver_69 : decode cX7_costOver 69 = .ok (.getfield 18, 3) := by decide +kernel
theorem dX7_costOver_72 : decode cX7_costOver 72 = .ok (.iload 4, 2) := by decide +kernel
theorem dX7_costOver_74 : decode cX7_costOver 74 = .ok (.iload 5, 2) := by decide +kernel
theorem dX7_costOver_76 : decode cX7_costOver 76 = .ok (.iastore, 1) := by decide +kernel
theorem dX7_costOver_77 : decode cX7_costOver 77 = .ok (.iconst 1, 1) := by decide +kernel
theorem dX7_costOver_78 : decode cX7_costOver 78 = .ok (.istore_n 2, 1) := by decide +kernel
theorem dX7_costOver_79 : decode cX7_costOver 79 = .ok (.iinc 4 (-1), 3) := by decide +kernel
theorem dX7_costOver_82 : decode cX7_costOver 82 = .ok (.goto (-40), 3) := by decide +kernel
theorem dX7_costOver_85 : decode cX7_costOver 85 = .ok (.iinc 3 1, 3) := by decide +kernel
theorem dX7_costOver_88 : decode cX7_costOver 88 = .ok (.goto (-62), 3) := by decide +kernel
theorem dX7_costOver_91 : decode cX7_costOver 91 = .ok (.aload_n 0, 1) := by decide +kernel
theorem dX7_costOver_92 : decode cX7_costOver 92 = .ok (.invokevirtual 40, 3) := by decide +kernel
theorem dX7_costOver_95 : decode cX7_costOver 95 = .ok (.aload_n 0, 1) := by decide +kernel
theorem dX7_costOver_96 : decode cX7_costOver 96 = .ok (.getfield 25, 3) := by decide +kernel
theorem dX7_costOver_99 : decode cX7_costOver 99 = .ok (.ireturn, 1) := by decide +kernel
theorem dX7_comesTo_0 : decode cX7_comesTo 0 = .ok (.aload_n 0, 1) := by decide +kernel
theorem dX7_comesTo_1 : decode cX7_comesTo 1 = .ok (.getfield 43, 3) := by decide +kernel
theorem dX7_comesTo_4 : decode cX7_comesTo 4 = .ok (.aload_n 1, 1) := by decide +kernel
theorem dX7_comesTo_5 : decode cX7_comesTo 5 = .ok (.getfield 46, 3) := by decide +kernel
theorem dX7_comesTo_8 : decode cX7_comesTo 8 = .ok (.if_icmp .ne 14, 3) := by decide +kernel
theorem dX7_comesTo_11 : decode cX7_comesTo 11 = .ok (.aload_n 0, 1) := by decide +kernel
theorem dX7_comesTo_12 : decode cX7_comesTo 12 = .ok (.getfield 49, 3) := by decide +kernel
theorem dX7_comesTo_15 : decode cX7_comesTo 15 = .ok (.aload_n 1, 1) := by decide +kernel
theorem dX7_comesTo_16 : decode cX7_comesTo 16 = .ok (.getfield 52, 3) := by decide +kernel
theorem dX7_comesTo_19 : decode cX7_comesTo 19 = .ok (.if_icmp .eq 7, 3) := by decide +kernel
theorem dX7_comesTo_22 : decode cX7_comesTo 22 = .ok (.iconst 1, 1) := by decide +kernel
theorem dX7_comesTo_23 : decode cX7_comesTo 23 = .ok (.goto 4, 3) := by decide +kernel
theorem dX7_comesTo_26 : decode cX7_comesTo 26 = .ok (.iconst 0, 1) := by decide +kernel
theorem dX7_comesTo_27 : decode cX7_comesTo 27 = .ok (.istore_n 2, 1) := by decide +kernel
theorem dX7_comesTo_28 : decode cX7_comesTo 28 = .ok (.aload_n 0, 1) := by decide +kernel
theorem dX7_comesTo_29 : decode cX7_comesTo 29 = .ok (.aload_n 1, 1) := by decide +kernel
theorem dX7_comesTo_30 : decode cX7_comesTo 30 = .ok (.getfield 46, 3) := by decide +kernel
theorem dX7_comesTo_33 : decode cX7_comesTo 33 = .ok (.putfield 43, 3) := by decide +kernel
theorem dX7_comesTo_36 : decode cX7_comesTo 36 = .ok (.aload_n 0, 1) := by decide +kernel
theorem dX7_comesTo_37 : decode cX7_comesTo 37 = .ok (.aload_n 1, 1) := by decide +kernel
theorem dX7_comesTo_38 : decode cX7_comesTo 38 = .ok (.getfield 52, 3) := by decide +kernel
theorem dX7_comesTo_41 : decode cX7_comesTo 41 = .ok (.putfield 49, 3) := by decide +kernel
theorem dX7_comesTo_44 : decode cX7_comesTo 44 = .ok (.iconst 0, 1) := by decide +kernel
theorem dX7_comesTo_45 : decode cX7_comesTo 45 = .ok (.istore_n 3, 1) := by decide +kernel
theorem dX7_comesTo_46 : decode cX7_comesTo 46 = .ok (.iload_n 3, 1) := by decide +kernel
theorem dX7_comesTo_47 : decode cX7_comesTo 47 = .ok (.bipush 36, 2) := by decide +kernel
theorem dX7_comesTo_49 : decode cX7_comesTo 49 = .ok (.if_icmp .ge 43, 3) := by decide +kernel
theorem dX7_comesTo_52 : decode cX7_comesTo 52 = .ok (.aload_n 1, 1) := by decide +kernel
theorem dX7_comesTo_53 : decode cX7_comesTo 53 = .ok (.iload_n 3, 1) := by decide +kernel
theorem dX7_comesTo_54 : decode cX7_comesTo 54 = .ok (.invokevirtual 53, 3) := by decide +kernel
theorem dX7_comesTo_57 : decode cX7_comesTo 57 = .ok (.istore 4, 2) := by decide +kernel
theorem dX7_comesTo_59 : decode cX7_comesTo 59 = .ok (.iload_n 2, 1) := by decide +kernel
theorem dX7_comesTo_60 : decode cX7_comesTo 60 = .ok (.aload_n 0, 1) := by decide +kernel
theorem dX7_comesTo_61 : decode cX7_comesTo 61 = .ok (.getfield 15, 3) := by decide +kernel
theorem dX7_comesTo_64 : decode cX7_comesTo 64 = .ok (.iload_n 3, 1) := by decide +kernel
theorem dX7_comesTo_65 : decode cX7_comesTo 65 = .ok (.iaload, 1) := by decide +kernel
theorem dX7_comesTo_66 : decode cX7_comesTo 66 = .ok (.iload 4, 2) := by decide +kernel
theorem dX7_comesTo_68 : decode cX7_comesTo 68 = .ok (.if_icmp .eq 7, 3) := by decide +kernel
theorem dX7_comesTo_71 : decode cX7_comesTo 71 = .ok (.iconst 1, 1) := by decide +kernel
theorem dX7_comesTo_72 : decode cX7_comesTo 72 = .ok (.goto 4, 3) := by decide +kernel
theorem dX7_comesTo_75 : decode cX7_comesTo 75 = .ok (.iconst 0, 1) := by decide +kernel
theorem dX7_comesTo_76 : decode cX7_comesTo 76 = .ok (.ior, 1) := by decide +kernel
theorem dX7_comesTo_77 : decode cX7_comesTo 77 = .ok (.istore_n 2, 1) := by decide +kernel
theorem dX7_comesTo_78 : decode cX7_comesTo 78 = .ok (.aload_n 0, 1) := by decide +kernel
theorem dX7_comesTo_79 : decode cX7_comesTo 79 = .ok (.getfield 15, 3) := by decide +kernel
theorem dX7_comesTo_82 : decode cX7_comesTo 82 = .ok (.iload_n 3, 1) := by decide +kernel
theorem dX7_comesTo_83 : decode cX7_comesTo 83 = .ok (.iload 4, 2) := by decide +kernel
theorem dX7_comesTo_85 : decode cX7_comesTo 85 = .ok (.iastore, 1) := by decide +kernel
theorem dX7_comesTo_86 : decode cX7_comesTo 86 = .ok (.iinc 3 1, 3) := by decide +kernel
theorem dX7_comesTo_89 : decode cX7_comesTo 89 = .ok (.goto (-43), 3) := by decide +kernel
theorem dX7_comesTo_92 : decode cX7_comesTo 92 = .ok (.iload_n 2, 1) := by decide +kernel
theorem dX7_comesTo_93 : decode cX7_comesTo 93 = .ok (.ireturn, 1) := by decide +kernel
theorem dX7_begin_0 : decode cX7_begin 0 = .ok (.ldc 29, 2) := by decide +kernel
theorem dX7_begin_2 : decode cX7_begin 2 = .ok (.istore_n 1, 1) := by decide +kernel
theorem dX7_begin_3 : decode cX7_begin 3 = .ok (.iconst 0, 1) := by decide +kernel
theorem dX7_begin_4 : decode cX7_begin 4 = .ok (.istore_n 2, 1) := by decide +kernel
theorem dX7_begin_5 : decode cX7_begin 5 = .ok (.iload_n 2, 1) := by decide +kernel
theorem dX7_begin_6 : decode cX7_begin 6 = .ok (.bipush 36, 2) := by decide +kernel
theorem dX7_begin_8 : decode cX7_begin 8 = .ok (.if_icmp .ge 42, 3) := by decide +kernel
theorem dX7_begin_11 : decode cX7_begin 11 = .ok (.iconst 0, 1) := by decide +kernel
theorem dX7_begin_12 : decode cX7_begin 12 = .ok (.aload_n 0, 1) := by decide +kernel
theorem dX7_begin_13 : decode cX7_begin 13 = .ok (.getfield 15, 3) := by decide +kernel
theorem dX7_begin_16 : decode cX7_begin 16 = .ok (.iload_n 2, 1) := by decide +kernel
theorem dX7_begin_17 : decode cX7_begin 17 = .ok (.iaload, 1) := by decide +kernel
theorem dX7_begin_18 : decode cX7_begin 18 = .ok (.invokestatic 57, 3) := by decide +kernel
theorem dX7_begin_21 : decode cX7_begin 21 = .ok (.bipush 64, 2) := by decide +kernel
theorem dX7_begin_23 : decode cX7_begin 23 = .ok (.imul, 1) := by decide +kernel
theorem dX7_begin_24 : decode cX7_begin 24 = .ok (.aload_n 0, 1) := by decide +kernel
theorem dX7_begin_25 : decode cX7_begin 25 = .ok (.getfield 18, 3) := by decide +kernel
theorem dX7_begin_28 : decode cX7_begin 28 = .ok (.iload_n 2, 1) := by decide +kernel
theorem dX7_begin_29 : decode cX7_begin 29 = .ok (.iaload, 1) := by decide +kernel
theorem dX7_begin_30 : decode cX7_begin 30 = .ok (.iadd, 1) := by decide +kernel
theorem dX7_begin_31 : decode cX7_begin 31 = .ok (.istore_n 3, 1) := by decide +kernel
theorem dX7_begin_32 : decode cX7_begin 32 = .ok (.iload_n 3, 1) := by decide +kernel
theorem dX7_begin_33 : decode cX7_begin 33 = .ok (.iload_n 1, 1) := by decide +kernel
theorem dX7_begin_34 : decode cX7_begin 34 = .ok (.if_icmp .ge 10, 3) := by decide +kernel
theorem dX7_begin_37 : decode cX7_begin 37 = .ok (.iload_n 3, 1) := by decide +kernel
theorem dX7_begin_38 : decode cX7_begin 38 = .ok (.istore_n 1, 1) := by decide +kernel
theorem dX7_begin_39 : decode cX7_begin 39 = .ok (.aload_n 0, 1) := by decide +kernel
theorem dX7_begin_40 : decode cX7_begin 40 = .ok (.iload_n 2, 1) := by decide +kernel
theorem dX7_begin_41 : decode cX7_begin 41 = .ok (.putfield 61, 3) := by decide +kernel
theorem dX7_begin_44 : decode cX7_begin 44 = .ok (.iinc 2 6, 3) := by decide +kernel
theorem dX7_begin_47 : decode cX7_begin 47 = .ok (.goto (-42), 3) := by decide +kernel
theorem dX7_begin_50 : decode cX7_begin 50 = .ok (.aload_n 0, 1) := by decide +kernel
theorem dX7_begin_51 : decode cX7_begin 51 = .ok (.iload_n 1, 1) := by decide +kernel
theorem dX7_begin_52 : decode cX7_begin 52 = .ok (.bipush 64, 2) := by decide +kernel
theorem dX7_begin_54 : decode cX7_begin 54 = .ok (.idiv, 1) := by decide +kernel
theorem dX7_begin_55 : decode cX7_begin 55 = .ok (.putfield 25, 3) := by decide +kernel
theorem dX7_begin_58 : decode cX7_begin 58 = .ok (.return_, 1) := by decide +kernel
theorem dX7_costOfStep_0 : decode cX7_costOfStep 0 = .ok (.iload_n 1, 1) := by decide +kernel
theorem dX7_costOfStep_1 : decode cX7_costOfStep 1 = .ok (.iload_n 0, 1) := by decide +kernel
theorem dX7_costOfStep_2 : decode cX7_costOfStep 2 = .ok (.if_icmp .le 7, 3) := by decide +kernel
theorem dX7_costOfStep_5 : decode cX7_costOfStep 5 = .ok (.iload_n 1, 1) := by decide +kernel
theorem dX7_costOfStep_6 : decode cX7_costOfStep 6 = .ok (.iload_n 0, 1) := by decide +kernel
theorem dX7_costOfStep_7 : decode cX7_costOfStep 7 = .ok (.isub, 1) := by decide +kernel
theorem dX7_costOfStep_8 : decode cX7_costOfStep 8 = .ok (.ireturn, 1) := by decide +kernel
theorem dX7_costOfStep_9 : decode cX7_costOfStep 9 = .ok (.iload_n 0, 1) := by decide +kernel
theorem dX7_costOfStep_10 : decode cX7_costOfStep 10 = .ok (.iload_n 1, 1) := by decide +kernel
theorem dX7_costOfStep_11 : decode cX7_costOfStep 11 = .ok (.isub, 1) := by decide +kernel
theorem dX7_costOfStep_12 : decode cX7_costOfStep 12 = .ok (.iconst 3, 1) := by decide +kernel
theorem dX7_costOfStep_13 : decode cX7_costOfStep 13 = .ok (.if_icmp .le 7, 3) := by decide +kernel
theorem dX7_costOfStep_16 : decode cX7_costOfStep 16 = .ok (.iconst 2, 1) := by decide +kernel
theorem dX7_costOfStep_17 : decode cX7_costOfStep 17 = .ok (.goto 4, 3) := by decide +kernel
theorem dX7_costOfStep_20 : decode cX7_costOfStep 20 = .ok (.iconst 0, 1) := by decide +kernel
theorem dX7_costOfStep_21 : decode cX7_costOfStep 21 = .ok (.ireturn, 1) := by decide +kernel
theorem dX7_weightFrom_0 : decode cX7_weightFrom 0 = .ok (.iload_n 2, 1) := by decide +kernel
theorem dX7_weightFrom_1 : decode cX7_weightFrom 1 = .ok (.bipush 6, 2) := by decide +kernel
theorem dX7_weightFrom_3 : decode cX7_weightFrom 3 = .ok (.irem, 1) := by decide +kernel
theorem dX7_weightFrom_4 : decode cX7_weightFrom 4 = .ok (.istore_n 3, 1) := by decide +kernel
theorem dX7_weightFrom_5 : decode cX7_weightFrom 5 = .ok (.iload_n 2, 1) := by decide +kernel
theorem dX7_weightFrom_6 : decode cX7_weightFrom 6 = .ok (.bipush 6, 2) := by decide +kernel
theorem dX7_weightFrom_8 : decode cX7_weightFrom 8 = .ok (.idiv, 1) := by decide +kernel
theorem dX7_weightFrom_9 : decode cX7_weightFrom 9 = .ok (.istore 4, 2) := by decide +kernel
theorem dX7_weightFrom_11 : decode cX7_weightFrom 11 = .ok (.aload_n 1, 1) := by decide +kernel
theorem dX7_weightFrom_12 : decode cX7_weightFrom 12 = .ok (.iload_n 3, 1) := by decide +kernel
theorem dX7_weightFrom_13 : decode cX7_weightFrom 13 = .ok (.iload 4, 2) := by decide +kernel
theorem dX7_weightFrom_15 : decode cX7_weightFrom 15 = .ok (.invokevirtual 64, 3) := by decide +kernel
theorem dX7_weightFrom_18 : decode cX7_weightFrom 18 = .ok (.ifCond .ne 6, 3) := by decide +kernel
theorem dX7_weightFrom_21 : decode cX7_weightFrom 21 = .ok (.ldc 29, 2) := by decide +kernel
theorem dX7_weightFrom_23 : decode cX7_weightFrom 23 = .ok (.ireturn, 1) := by decide +kernel
theorem dX7_weightFrom_24 : decode cX7_weightFrom 24 = .ok (.iload_n 3, 1) := by decide +kernel
theorem dX7_weightFrom_25 : decode cX7_weightFrom 25 = .ok (.aload_n 1, 1) := by decide +kernel
theorem dX7_weightFrom_26 : decode cX7_weightFrom 26 = .ok (.getfield 46, 3) := by decide +kernel
theorem dX7_weightFrom_29 : decode cX7_weightFrom 29 = .ok (.iconst 1, 1) := by decide +kernel
theorem dX7_weightFrom_30 : decode cX7_weightFrom 30 = .ok (.isub, 1) := by decide +kernel
theorem dX7_weightFrom_31 : decode cX7_weightFrom 31 = .ok (.if_icmp .ne 19, 3) := by decide +kernel
theorem dX7_weightFrom_34 : decode cX7_weightFrom 34 = .ok (.aload_n 0, 1) := by decide +kernel
theorem dX7_weightFrom_35 : decode cX7_weightFrom 35 = .ok (.getfield 15, 3) := by decide +kernel
theorem dX7_weightFrom_38 : decode cX7_weightFrom 38 = .ok (.iload_n 2, 1) := by decide +kernel
theorem dX7_weightFrom_39 : decode cX7_weightFrom 39 = .ok (.iaload, 1) := by decide +kernel
theorem dX7_weightFrom_40 : decode cX7_weightFrom 40 = .ok (.iconst 0, 1) := by decide +kernel
theorem dX7_weightFrom_41 : decode cX7_weightFrom 41 = .ok (.invokestatic 57, 3) := by decide +kernel
theorem dX7_weightFrom_44 : decode cX7_weightFrom 44 = .ok (.bipush 64, 2) := by decide +kernel
theorem dX7_weightFrom_46 : decode cX7_weightFrom 46 = .ok (.imul, 1) := by decide +kernel
theorem dX7_weightFrom_47 : decode cX7_weightFrom 47 = .ok (.goto 5, 3) := by decide +kernel
theorem dX7_weightFrom_50 : decode cX7_weightFrom 50 = .ok (.ldc 29, 2) := by decide +kernel
theorem dX7_weightFrom_52 : decode cX7_weightFrom 52 = .ok (.istore 5, 2) := by decide +kernel
theorem dX7_weightFrom_54 : decode cX7_weightFrom 54 = .ok (.iconst 0, 1) := by decide +kernel
theorem dX7_weightFrom_55 : decode cX7_weightFrom 55 = .ok (.istore 6, 2) := by decide +kernel
theorem dX7_weightFrom_57 : decode cX7_weightFrom 57 = .ok (.iload 6, 2) := by decide +kernel
theorem dX7_weightFrom_59 : decode cX7_weightFrom 59 = .ok (.iconst 4, 1) := by decide +kernel
theorem dX7_weightFrom_60 : decode cX7_weightFrom 60 = .ok (.if_icmp .ge 63, 3) := by decide +kernel
theorem dX7_weightFrom_63 : decode cX7_weightFrom 63 = .ok (.aload_n 1, 1) := by decide +kernel
theorem dX7_weightFrom_64 : decode cX7_weightFrom 64 = .ok (.iload_n 3, 1) := by decide +kernel
theorem dX7_weightFrom_65 : decode cX7_weightFrom 65 = .ok (.getstatic 68, 3) := by decide +kernel
theorem dX7_weightFrom_68 : decode cX7_weightFrom 68 = .ok (.iload 6, 2) := by decide +kernel
theorem dX7_weightFrom_70 : decode cX7_weightFrom 70 = .ok (.iaload, 1) := by decide +kernel
theorem dX7_weightFrom_71 : decode cX7_weightFrom 71 = .ok (.iadd, 1) := by decide +kernel
theorem dX7_weightFrom_72 : decode cX7_weightFrom 72 = .ok (.iload 4, 2) := by decide +kernel
theorem dX7_weightFrom_74 : decode cX7_weightFrom 74 = .ok (.getstatic 71, 3) := by decide +kernel
theorem dX7_weightFrom_77 : decode cX7_weightFrom 77 = .ok (.iload 6, 2) := by decide +kernel
theorem dX7_weightFrom_79 : decode cX7_weightFrom 79 = .ok (.iaload, 1) := by decide +kernel
theorem dX7_weightFrom_80 : decode cX7_weightFrom 80 = .ok (.iadd, 1) := by decide +kernel
theorem dX7_weightFrom_81 : decode cX7_weightFrom 81 = .ok (.invokevirtual 64, 3) := by decide +kernel
theorem dX7_weightFrom_84 : decode cX7_weightFrom 84 = .ok (.ifCond .eq 33, 3) := by decide +kernel
theorem dX7_weightFrom_87 : decode cX7_weightFrom 87 = .ok (.iload 5, 2) := by decide +kernel
theorem dX7_weightFrom_89 : decode cX7_weightFrom 89 = .ok (.aload_n 0, 1) := by decide +kernel
theorem dX7_weightFrom_90 : decode cX7_weightFrom 90 = .ok (.iload_n 2, 1) := by decide +kernel
theorem dX7_weightFrom_91 : decode cX7_weightFrom 91 = .ok (.iload_n 2, 1) := by decide +kernel
theorem dX7_weightFrom_92 : decode cX7_weightFrom 92 = .ok (.getstatic 68, 3) := by decide +kernel
theorem dX7_weightFrom_95 : decode cX7_weightFrom 95 = .ok (.iload 6, 2) := by decide +kernel
theorem dX7_weightFrom_97 : decode cX7_weightFrom 97 = .ok (.iaload, 1) := by decide +kernel
theorem dX7_weightFrom_98 : decode cX7_weightFrom 98 = .ok (.iadd, 1) := by decide +kernel
theorem dX7_weightFrom_99 : decode cX7_weightFrom 99 = .ok (.getstatic 71, 3) := by decide +kernel
theorem dX7_weightFrom_102 : decode cX7_weightFrom 102 = .ok (.iload 6, 2) := by decide +kernel
theorem dX7_weightFrom_104 : decode cX7_weightFrom 104 = .ok (.iaload, 1) := by decide +kernel
theorem dX7_weightFrom_105 : decode cX7_weightFrom 105 = .ok (.bipush 6, 2) := by decide +kernel
theorem dX7_weightFrom_107 : decode cX7_weightFrom 107 = .ok (.imul, 1) := by decide +kernel
theorem dX7_weightFrom_108 : decode cX7_weightFrom 108 = .ok (.iadd, 1) := by decide +kernel
theorem dX7_weightFrom_109 : decode cX7_weightFrom 109 = .ok (.invokevirtual 74, 3) := by decide +kernel
theorem dX7_weightFrom_112 : decode cX7_weightFrom 112 = .ok (.invokestatic 77, 3) := by decide +kernel
theorem dX7_weightFrom_115 : decode cX7_weightFrom 115 = .ok (.istore 5, 2) := by decide +kernel
theorem dX7_weightFrom_117 : decode cX7_weightFrom 117 = .ok (.iinc 6 1, 3) := by decide +kernel
theorem dX7_weightFrom_120 : decode cX7_weightFrom 120 = .ok (.goto (-63), 3) := by decide +kernel
theorem dX7_weightFrom_123 : decode cX7_weightFrom 123 = .ok (.iload 5, 2) := by decide +kernel
theorem dX7_weightFrom_125 : decode cX7_weightFrom 125 = .ok (.iconst 1, 1) := by decide +kernel
theorem dX7_weightFrom_126 : decode cX7_weightFrom 126 = .ok (.iadd, 1) := by decide +kernel
theorem dX7_weightFrom_127 : decode cX7_weightFrom 127 = .ok (.ireturn, 1) := by decide +kernel
theorem dX7_weightBy_0 : decode cX7_weightBy 0 = .ok (.iload_n 1, 1) := by decide +kernel
theorem dX7_weightBy_1 : decode cX7_weightBy 1 = .ok (.ifCond .lt 19, 3) := by decide +kernel
theorem dX7_weightBy_4 : decode cX7_weightBy 4 = .ok (.iload_n 1, 1) := by decide +kernel
theorem dX7_weightBy_5 : decode cX7_weightBy 5 = .ok (.bipush 36, 2) := by decide +kernel
theorem dX7_weightBy_7 : decode cX7_weightBy 7 = .ok (.if_icmp .ge 13, 3) := by decide +kernel
theorem dX7_weightBy_10 : decode cX7_weightBy 10 = .ok (.iload_n 2, 1) := by decide +kernel
theorem dX7_weightBy_11 : decode cX7_weightBy 11 = .ok (.ifCond .lt 9, 3) := by decide +kernel
theorem dX7_weightBy_14 : decode cX7_weightBy 14 = .ok (.iload_n 2, 1) := by decide +kernel
theorem dX7_weightBy_15 : decode cX7_weightBy 15 = .ok (.bipush 36, 2) := by decide +kernel
theorem dX7_weightBy_17 : decode cX7_weightBy 17 = .ok (.if_icmp .lt 6, 3) := by decide +kernel
theorem dX7_weightBy_20 : decode cX7_weightBy 20 = .ok (.ldc 29, 2) := by decide +kernel
theorem dX7_weightBy_22 : decode cX7_weightBy 22 = .ok (.ireturn, 1) := by decide +kernel
theorem dX7_weightBy_23 : decode cX7_weightBy 23 = .ok (.aload_n 0, 1) := by decide +kernel
theorem dX7_weightBy_24 : decode cX7_weightBy 24 = .ok (.getfield 15, 3) := by decide +kernel
theorem dX7_weightBy_27 : decode cX7_weightBy 27 = .ok (.iload_n 1, 1) := by decide +kernel
theorem dX7_weightBy_28 : decode cX7_weightBy 28 = .ok (.iaload, 1) := by decide +kernel
theorem dX7_weightBy_29 : decode cX7_weightBy 29 = .ok (.aload_n 0, 1) := by decide +kernel
theorem dX7_weightBy_30 : decode cX7_weightBy 30 = .ok (.getfield 15, 3) := by decide +kernel
theorem dX7_weightBy_33 : decode cX7_weightBy 33 = .ok (.iload_n 2, 1) := by decide +kernel
theorem dX7_weightBy_34 : decode cX7_weightBy 34 = .ok (.iaload, 1) := by decide +kernel
theorem dX7_weightBy_35 : decode cX7_weightBy 35 = .ok (.invokestatic 57, 3) := by decide +kernel
theorem dX7_weightBy_38 : decode cX7_weightBy 38 = .ok (.bipush 64, 2) := by decide +kernel
theorem dX7_weightBy_40 : decode cX7_weightBy 40 = .ok (.imul, 1) := by decide +kernel
theorem dX7_weightBy_41 : decode cX7_weightBy 41 = .ok (.aload_n 0, 1) := by decide +kernel
theorem dX7_weightBy_42 : decode cX7_weightBy 42 = .ok (.getfield 18, 3) := by decide +kernel
theorem dX7_weightBy_45 : decode cX7_weightBy 45 = .ok (.iload_n 2, 1) := by decide +kernel
theorem dX7_weightBy_46 : decode cX7_weightBy 46 = .ok (.iaload, 1) := by decide +kernel
theorem dX7_weightBy_47 : decode cX7_weightBy 47 = .ok (.iadd, 1) := by decide +kernel
theorem dX7_weightBy_48 : decode cX7_weightBy 48 = .ok (.ireturn, 1) := by decide +kernel
theorem dX7_trace_0 : decode cX7_trace 0 = .ok (.aload_n 0, 1) := by decide +kernel
theorem dX7_trace_1 : decode cX7_trace 1 = .ok (.iconst 0, 1) := by decide +kernel
theorem dX7_trace_2 : decode cX7_trace 2 = .ok (.putfield 82, 3) := by decide +kernel
theorem dX7_trace_5 : decode cX7_trace 5 = .ok (.aload_n 0, 1) := by decide +kernel
theorem dX7_trace_6 : decode cX7_trace 6 = .ok (.getfield 61, 3) := by decide +kernel
theorem dX7_trace_9 : decode cX7_trace 9 = .ok (.istore_n 2, 1) := by decide +kernel
theorem dX7_trace_10 : decode cX7_trace 10 = .ok (.iconst 0, 1) := by decide +kernel
theorem dX7_trace_11 : decode cX7_trace 11 = .ok (.istore_n 3, 1) := by decide +kernel
theorem dX7_trace_12 : decode cX7_trace 12 = .ok (.iload_n 3, 1) := by decide +kernel
theorem dX7_trace_13 : decode cX7_trace 13 = .ok (.bipush 36, 2) := by decide +kernel
theorem dX7_trace_15 : decode cX7_trace 15 = .ok (.if_icmp .ge 44, 3) := by decide +kernel
theorem dX7_trace_18 : decode cX7_trace 18 = .ok (.iload_n 2, 1) := by decide +kernel
theorem dX7_trace_19 : decode cX7_trace 19 = .ok (.i2l, 1) := by decide +kernel
theorem dX7_trace_20 : decode cX7_trace 20 = .ok (.iconst 0, 1) := by decide +kernel
theorem dX7_trace_21 : decode cX7_trace 21 = .ok (.bipush 35, 2) := by decide +kernel
theorem dX7_trace_23 : decode cX7_trace 23 = .ok (.invokestatic 85, 3) := by decide +kernel
theorem dX7_trace_26 : decode cX7_trace 26 = .ok (.ifCond .eq 33, 3) := by decide +kernel
theorem dX7_trace_29 : decode cX7_trace 29 = .ok (.aload_n 0, 1) := by decide +kernel
theorem dX7_trace_30 : decode cX7_trace 30 = .ok (.getfield 9, 3) := by decide +kernel
theorem dX7_trace_33 : decode cX7_trace 33 = .ok (.iload_n 3, 1) := by decide +kernel
theorem dX7_trace_34 : decode cX7_trace 34 = .ok (.iload_n 2, 1) := by decide +kernel
theorem dX7_trace_35 : decode cX7_trace 35 = .ok (.iastore, 1) := by decide +kernel
theorem dX7_trace_36 : decode cX7_trace 36 = .ok (.aload_n 0, 1) := by decide +kernel
theorem dX7_trace_37 : decode cX7_trace 37 = .ok (.dup, 1) := by decide +kernel
theorem dX7_trace_38 : decode cX7_trace 38 = .ok (.getfield 82, 3) := by decide +kernel
theorem dX7_trace_41 : decode cX7_trace 41 = .ok (.iconst 1, 1) := by decide +kernel
theorem dX7_trace_42 : decode cX7_trace 42 = .ok (.iadd, 1) := by decide +kernel
theorem dX7_trace_43 : decode cX7_trace 43 = .ok (.putfield 82, 3) := by decide +kernel
theorem dX7_trace_46 : decode cX7_trace 46 = .ok (.aload_n 0, 1) := by decide +kernel
theorem dX7_trace_47 : decode cX7_trace 47 = .ok (.aload_n 1, 1) := by decide +kernel
theorem dX7_trace_48 : decode cX7_trace 48 = .ok (.iload_n 2, 1) := by decide +kernel
theorem dX7_trace_49 : decode cX7_trace 49 = .ok (.invokevirtual 89, 3) := by decide +kernel
theorem dX7_trace_52 : decode cX7_trace 52 = .ok (.istore_n 2, 1) := by decide +kernel
theorem dX7_trace_53 : decode cX7_trace 53 = .ok (.iinc 3 1, 3) := by decide +kernel
theorem dX7_trace_56 : decode cX7_trace 56 = .ok (.goto (-44), 3) := by decide +kernel
theorem dX7_trace_59 : decode cX7_trace 59 = .ok (.return_, 1) := by decide +kernel
theorem dX7_cellBehind_0 : decode cX7_cellBehind 0 = .ok (.aload_n 0, 1) := by decide +kernel
theorem dX7_cellBehind_1 : decode cX7_cellBehind 1 = .ok (.getfield 18, 3) := by decide +kernel
theorem dX7_cellBehind_4 : decode cX7_cellBehind 4 = .ok (.iload_n 2, 1) := by decide +kernel
theorem dX7_cellBehind_5 : decode cX7_cellBehind 5 = .ok (.iaload, 1) := by decide +kernel
theorem dX7_cellBehind_6 : decode cX7_cellBehind 6 = .ok (.bipush 64, 2) := by decide +kernel
theorem dX7_cellBehind_8 : decode cX7_cellBehind 8 = .ok (.irem, 1) := by decide +kernel
theorem dX7_cellBehind_9 : decode cX7_cellBehind 9 = .ok (.iconst 1, 1) := by decide +kernel
theorem dX7_cellBehind_10 : decode cX7_cellBehind 10 = .ok (.if_icmp .ne 5, 3) := by decide +kernel
theorem dX7_cellBehind_13 : decode cX7_cellBehind 13 = .ok (.iconst (-1), 1) := by decide +kernel
theorem dX7_cellBehind_14 : decode cX7_cellBehind 14 = .ok (.ireturn, 1) := by decide +kernel
theorem dX7_cellBehind_15 : decode cX7_cellBehind 15 = .ok (.iconst 0, 1) := by decide +kernel
theorem dX7_cellBehind_16 : decode cX7_cellBehind 16 = .ok (.istore_n 3, 1) := by decide +kernel
theorem dX7_cellBehind_17 : decode cX7_cellBehind 17 = .ok (.iload_n 3, 1) := by decide +kernel
theorem dX7_cellBehind_18 : decode cX7_cellBehind 18 = .ok (.iconst 4, 1) := by decide +kernel
theorem dX7_cellBehind_19 : decode cX7_cellBehind 19 = .ok (.if_icmp .ge 79, 3) := by decide +kernel
theorem dX7_cellBehind_22 : decode cX7_cellBehind 22 = .ok (.iload_n 2, 1) := by decide +kernel
theorem dX7_cellBehind_23 : decode cX7_cellBehind 23 = .ok (.getstatic 68, 3) := by decide +kernel
theorem dX7_cellBehind_26 : decode cX7_cellBehind 26 = .ok (.iload_n 3, 1) := by decide +kernel
theorem dX7_cellBehind_27 : decode cX7_cellBehind 27 = .ok (.iaload, 1) := by decide +kernel
theorem dX7_cellBehind_28 : decode cX7_cellBehind 28 = .ok (.iadd, 1) := by decide +kernel
theorem dX7_cellBehind_29 : decode cX7_cellBehind 29 = .ok (.getstatic 71, 3) := by decide +kernel
theorem dX7_cellBehind_32 : decode cX7_cellBehind 32 = .ok (.iload_n 3, 1) := by decide +kernel
theorem dX7_cellBehind_33 : decode cX7_cellBehind 33 = .ok (.iaload, 1) := by decide +kernel
theorem dX7_cellBehind_34 : decode cX7_cellBehind 34 = .ok (.bipush 6, 2) := by decide +kernel
theorem dX7_cellBehind_36 : decode cX7_cellBehind 36 = .ok (.imul, 1) := by decide +kernel
theorem dX7_cellBehind_37 : decode cX7_cellBehind 37 = .ok (.iadd, 1) := by decide +kernel
theorem dX7_cellBehind_38 : decode cX7_cellBehind 38 = .ok (.istore 4, 2) := by decide +kernel
theorem dX7_cellBehind_40 : decode cX7_cellBehind 40 = .ok (.aload_n 1, 1) := by decide +kernel
theorem dX7_cellBehind_41 : decode cX7_cellBehind 41 = .ok (.iload_n 2, 1) := by decide +kernel
theorem dX7_cellBehind_42 : decode cX7_cellBehind 42 = .ok (.bipush 6, 2) := by decide +kernel
theorem dX7_cellBehind_44 : decode cX7_cellBehind 44 = .ok (.irem, 1) := by decide +kernel
theorem dX7_cellBehind_45 : decode cX7_cellBehind 45 = .ok (.getstatic 68, 3) := by decide +kernel
theorem dX7_cellBehind_48 : decode cX7_cellBehind 48 = .ok (.iload_n 3, 1) := by decide +kernel
theorem dX7_cellBehind_49 : decode cX7_cellBehind 49 = .ok (.iaload, 1) := by decide +kernel
theorem dX7_cellBehind_50 : decode cX7_cellBehind 50 = .ok (.iadd, 1) := by decide +kernel
theorem dX7_cellBehind_51 : decode cX7_cellBehind 51 = .ok (.iload_n 2, 1) := by decide +kernel
theorem dX7_cellBehind_52 : decode cX7_cellBehind 52 = .ok (.bipush 6, 2) := by decide +kernel
theorem dX7_cellBehind_54 : decode cX7_cellBehind 54 = .ok (.idiv, 1) := by decide +kernel
theorem dX7_cellBehind_55 : decode cX7_cellBehind 55 = .ok (.getstatic 71, 3) := by decide +kernel
theorem dX7_cellBehind_58 : decode cX7_cellBehind 58 = .ok (.iload_n 3, 1) := by decide +kernel
theorem dX7_cellBehind_59 : decode cX7_cellBehind 59 = .ok (.iaload, 1) := by decide +kernel
theorem dX7_cellBehind_60 : decode cX7_cellBehind 60 = .ok (.iadd, 1) := by decide +kernel
theorem dX7_cellBehind_61 : decode cX7_cellBehind 61 = .ok (.invokevirtual 64, 3) := by decide +kernel
theorem dX7_cellBehind_64 : decode cX7_cellBehind 64 = .ok (.istore 5, 2) := by decide +kernel
theorem dX7_cellBehind_66 : decode cX7_cellBehind 66 = .ok (.iload 5, 2) := by decide +kernel
theorem dX7_cellBehind_68 : decode cX7_cellBehind 68 = .ok (.ifCond .eq 24, 3) := by decide +kernel
theorem dX7_cellBehind_71 : decode cX7_cellBehind 71 = .ok (.aload_n 0, 1) := by decide +kernel
theorem dX7_cellBehind_72 : decode cX7_cellBehind 72 = .ok (.iload_n 2, 1) := by decide +kernel
theorem dX7_cellBehind_73 : decode cX7_cellBehind 73 = .ok (.iload 4, 2) := by decide +kernel
theorem dX7_cellBehind_75 : decode cX7_cellBehind 75 = .ok (.invokevirtual 74, 3) := by decide +kernel
theorem dX7_cellBehind_78 : decode cX7_cellBehind 78 = .ok (.iconst 1, 1) := by decide +kernel
theorem dX7_cellBehind_79 : decode cX7_cellBehind 79 = .ok (.iadd, 1) := by decide +kernel
theorem dX7_cellBehind_80 : decode cX7_cellBehind 80 = .ok (.aload_n 0, 1) := by decide +kernel
theorem dX7_cellBehind_81 : decode cX7_cellBehind 81 = .ok (.getfield 18, 3) := by decide +kernel
theorem dX7_cellBehind_84 : decode cX7_cellBehind 84 = .ok (.iload_n 2, 1) := by decide +kernel
theorem dX7_cellBehind_85 : decode cX7_cellBehind 85 = .ok (.iaload, 1) := by decide +kernel
theorem dX7_cellBehind_86 : decode cX7_cellBehind 86 = .ok (.if_icmp .ne 6, 3) := by decide +kernel
theorem dX7_cellBehind_89 : decode cX7_cellBehind 89 = .ok (.iload 4, 2) := by decide +kernel
theorem dX7_cellBehind_91 : decode cX7_cellBehind 91 = .ok (.ireturn, 1) := by decide +kernel
theorem dX7_cellBehind_92 : decode cX7_cellBehind 92 = .ok (.iinc 3 1, 3) := by decide +kernel
theorem dX7_cellBehind_95 : decode cX7_cellBehind 95 = .ok (.goto (-78), 3) := by decide +kernel
theorem dX7_cellBehind_98 : decode cX7_cellBehind 98 = .ok (.iconst (-1), 1) := by decide +kernel
theorem dX7_cellBehind_99 : decode cX7_cellBehind 99 = .ok (.ireturn, 1) := by decide +kernel
theorem dX8_of_0 : decode cX8_of 0 = .ok (.getstatic 130, 3) := by decide +kernel
theorem dX8_of_3 : decode cX8_of 3 = .ok (.astore_n 2, 1) := by decide +kernel
theorem dX8_of_4 : decode cX8_of 4 = .ok (.aload_n 2, 1) := by decide +kernel
theorem dX8_of_5 : decode cX8_of 5 = .ok (.arraylength, 1) := by decide +kernel
theorem dX8_of_6 : decode cX8_of 6 = .ok (.istore_n 3, 1) := by decide +kernel
theorem dX8_of_7 : decode cX8_of 7 = .ok (.iconst 0, 1) := by decide +kernel
theorem dX8_of_8 : decode cX8_of 8 = .ok (.istore 4, 2) := by decide +kernel
theorem dX8_of_10 : decode cX8_of 10 = .ok (.iload 4, 2) := by decide +kernel
theorem dX8_of_12 : decode cX8_of 12 = .ok (.iload_n 3, 1) := by decide +kernel
theorem dX8_of_13 : decode cX8_of 13 = .ok (.if_icmp .ge 28, 3) := by decide +kernel
theorem dX8_of_16 : decode cX8_of 16 = .ok (.aload_n 2, 1) := by decide +kernel
theorem dX8_of_17 : decode cX8_of 17 = .ok (.iload 4, 2) := by decide +kernel
theorem dX8_of_19 : decode cX8_of 19 = .ok (.aaload, 1) := by decide +kernel
theorem dX8_of_20 : decode cX8_of 20 = .ok (.astore 5, 2) := by decide +kernel
theorem dX8_of_22 : decode cX8_of 22 = .ok (.aload 5, 2) := by decide +kernel
theorem dX8_of_24 : decode cX8_of 24 = .ok (.getfield 126, 3) := by decide +kernel
theorem dX8_of_27 : decode cX8_of 27 = .ok (.lload_n 0, 1) := by decide +kernel
theorem dX8_of_28 : decode cX8_of 28 = .ok (.lcmp, 1) := by decide +kernel
theorem dX8_of_29 : decode cX8_of 29 = .ok (.ifCond .ne 6, 3) := by decide +kernel
theorem dX8_of_32 : decode cX8_of 32 = .ok (.aload 5, 2) := by decide +kernel
theorem dX8_of_34 : decode cX8_of 34 = .ok (.areturn, 1) := by decide +kernel
theorem dX8_of_35 : decode cX8_of 35 = .ok (.iinc 4 1, 3) := by decide +kernel
theorem dX8_of_38 : decode cX8_of 38 = .ok (.goto (-28), 3) := by decide +kernel
theorem dX8_of_41 : decode cX8_of 41 = .ok (.aconst_null, 1) := by decide +kernel
theorem dX8_of_42 : decode cX8_of 42 = .ok (.areturn, 1) := by decide +kernel
theorem dX9_init_0 : decode cX9_init 0 = .ok (.aload_n 0, 1) := by decide +kernel
theorem dX9_init_1 : decode cX9_init 1 = .ok (.invokespecial 3, 3) := by decide +kernel
theorem dX9_init_4 : decode cX9_init 4 = .ok (.aload_n 0, 1) := by decide +kernel
theorem dX9_init_5 : decode cX9_init 5 = .ok (.iconst 2, 1) := by decide +kernel
theorem dX9_init_6 : decode cX9_init 6 = .ok (.putfield 9, 3) := by decide +kernel
theorem dX9_init_9 : decode cX9_init 9 = .ok (.aload_n 0, 1) := by decide +kernel
theorem dX9_init_10 : decode cX9_init 10 = .ok (.iconst 1, 1) := by decide +kernel
theorem dX9_init_11 : decode cX9_init 11 = .ok (.putfield 15, 3) := by decide +kernel
theorem dX9_init_14 : decode cX9_init 14 = .ok (.aload_n 0, 1) := by decide +kernel
theorem dX9_init_15 : decode cX9_init 15 = .ok (.iconst 2, 1) := by decide +kernel
theorem dX9_init_16 : decode cX9_init 16 = .ok (.newarray .int, 2) := by decide +kernel
theorem dX9_init_18 : decode cX9_init 18 = .ok (.putfield 18, 3) := by decide +kernel
theorem dX9_init_21 : decode cX9_init 21 = .ok (.aload_n 0, 1) := by decide +kernel
theorem dX9_init_22 : decode cX9_init 22 = .ok (.iconst 2, 1) := by decide +kernel
theorem dX9_init_23 : decode cX9_init 23 = .ok (.newarray .int, 2) := by decide +kernel
theorem dX9_init_25 : decode cX9_init 25 = .ok (.putfield 22, 3) := by decide +kernel
theorem dX9_init_28 : decode cX9_init 28 = .ok (.aload_n 0, 1) := by decide +kernel
theorem dX9_init_29 : decode cX9_init 29 = .ok (.iconst 2, 1) := by decide +kernel
theorem dX9_init_30 : decode cX9_init 30 = .ok (.newarray .int, 2) := by decide +kernel
theorem dX9_init_32 : decode cX9_init 32 = .ok (.putfield 25, 3) := by decide +kernel
theorem dX9_init_35 : decode cX9_init 35 = .ok (.aload_n 0, 1) := by decide +kernel
theorem dX9_init_36 : decode cX9_init 36 = .ok (.iconst 4, 1) := by decide +kernel
theorem dX9_init_37 : decode cX9_init 37 = .ok (.newarray .int, 2) := by decide +kernel
theorem dX9_init_39 : decode cX9_init 39 = .ok (.dup, 1) := by decide +kernel
theorem dX9_init_40 : decode cX9_init 40 = .ok (.iconst 0, 1) := by decide +kernel
theorem dX9_init_41 : decode cX9_init 41 = .ok (.iconst (-1), 1) := by decide +kernel
theorem dX9_init_42 : decode cX9_init 42 = .ok (.iastore, 1) := by decide +kernel
theorem dX9_init_43 : decode cX9_init 43 = .ok (.dup, 1) := by decide +kernel
theorem dX9_init_44 : decode cX9_init 44 = .ok (.iconst 1, 1) := by decide +kernel
theorem dX9_init_45 : decode cX9_init 45 = .ok (.iconst (-1), 1) := by decide +kernel
theorem dX9_init_46 : decode cX9_init 46 = .ok (.iastore, 1) := by decide +kernel
theorem dX9_init_47 : decode cX9_init 47 = .ok (.dup, 1) := by decide +kernel
theorem dX9_init_48 : decode cX9_init 48 = .ok (.iconst 2, 1) := by decide +kernel
theorem dX9_init_49 : decode cX9_init 49 = .ok (.iconst (-1), 1) := by decide +kernel
theorem dX9_init_50 : decode cX9_init 50 = .ok (.iastore, 1) := by decide +kernel
theorem dX9_init_51 : decode cX9_init 51 = .ok (.dup, 1) := by decide +kernel
theorem dX9_init_52 : decode cX9_init 52 = .ok (.iconst 3, 1) := by decide +kernel
theorem dX9_init_53 : decode cX9_init 53 = .ok (.iconst (-1), 1) := by decide +kernel
theorem dX9_init_54 : decode cX9_init 54 = .ok (.iastore, 1) := by decide +kernel
theorem dX9_init_55 : decode cX9_init 55 = .ok (.putfield 28, 3) := by decide +kernel
theorem dX9_init_58 : decode cX9_init 58 = .ok (.aload_n 0, 1) := by decide +kernel
theorem dX9_init_59 : decode cX9_init 59 = .ok (.iconst 5, 1) := by decide +kernel
theorem dX9_init_60 : decode cX9_init 60 = .ok (.newarray .int, 2) := by decide +kernel
theorem dX9_init_62 : decode cX9_init 62 = .ok (.putfield 31, 3) := by decide +kernel
theorem dX9_init_65 : decode cX9_init 65 = .ok (.aload_n 0, 1) := by decide +kernel
theorem dX9_init_66 : decode cX9_init 66 = .ok (.bipush 36, 2) := by decide +kernel
theorem dX9_init_68 : decode cX9_init 68 = .ok (.newarray .int, 2) := by decide +kernel
theorem dX9_init_70 : decode cX9_init 70 = .ok (.putfield 34, 3) := by decide +kernel
theorem dX9_init_73 : decode cX9_init 73 = .ok (.aload_n 0, 1) := by decide +kernel
theorem dX9_init_74 : decode cX9_init 74 = .ok (.bipush 36, 2) := by decide +kernel
theorem dX9_init_76 : decode cX9_init 76 = .ok (.newarray .int, 2) := by decide +kernel
theorem dX9_init_78 : decode cX9_init 78 = .ok (.putfield 37, 3) := by decide +kernel
theorem dX9_init_81 : decode cX9_init 81 = .ok (.aload_n 0, 1) := by decide +kernel
theorem dX9_init_82 : decode cX9_init 82 = .ok (.bipush 36, 2) := by decide +kernel
theorem dX9_init_84 : decode cX9_init 84 = .ok (.newarray .int, 2) := by decide +kernel
theorem dX9_init_86 : decode cX9_init 86 = .ok (.putfield 40, 3) := by decide +kernel
theorem dX9_init_89 : decode cX9_init 89 = .ok (.aload_n 0, 1) := by decide +kernel
theorem dX9_init_90 : decode cX9_init 90 = .ok (.bipush 36, 2) := by decide +kernel
theorem dX9_init_92 : decode cX9_init 92 = .ok (.newarray .int, 2) := by decide +kernel
theorem dX9_init_94 : decode cX9_init 94 = .ok (.putfield 43, 3) := by decide +kernel
theorem dX9_init_97 : decode cX9_init 97 = .ok (.aload_n 0, 1) := by decide +kernel
theorem dX9_init_98 : decode cX9_init 98 = .ok (.bipush 36, 2) := by decide +kernel
theorem dX9_init_100 : decode cX9_init 100 = .ok (.newarray .int, 2) := by decide +kernel
theorem dX9_init_102 : decode cX9_init 102 = .ok (.putfield 46, 3) := by decide +kernel
theorem dX9_init_105 : decode cX9_init 105 = .ok (.aload_n 0, 1) := by decide +kernel
theorem dX9_init_106 : decode cX9_init 106 = .ok (.bipush 36, 2) := by decide +kernel
theorem dX9_init_108 : decode cX9_init 108 = .ok (.newarray .int, 2) := by decide +kernel
theorem dX9_init_110 : decode cX9_init 110 = .ok (.putfield 49, 3) := by decide +kernel
theorem dX9_init_113 : decode cX9_init 113 = .ok (.return_, 1) := by decide +kernel
theorem dX9_clear_0 : decode cX9_clear 0 = .ok (.aload_n 0, 1) := by decide +kernel
theorem dX9_clear_1 : decode cX9_clear 1 = .ok (.iconst 2, 1) := by decide +kernel
theorem dX9_clear_2 : decode cX9_clear 2 = .ok (.putfield 9, 3) := by decide +kernel
theorem dX9_clear_5 : decode cX9_clear 5 = .ok (.aload_n 0, 1) := by decide +kernel
theorem dX9_clear_6 : decode cX9_clear 6 = .ok (.iconst 1, 1) := by decide +kernel
theorem dX9_clear_7 : decode cX9_clear 7 = .ok (.putfield 15, 3) := by decide +kernel
theorem dX9_clear_10 : decode cX9_clear 10 = .ok (.aload_n 0, 1) := by decide +kernel
theorem dX9_clear_11 : decode cX9_clear 11 = .ok (.iconst 0, 1) := by decide +kernel
theorem dX9_clear_12 : decode cX9_clear 12 = .ok (.putfield 52, 3) := by decide +kernel
theorem dX9_clear_15 : decode cX9_clear 15 = .ok (.aload_n 0, 1) := by decide +kernel
theorem dX9_clear_16 : decode cX9_clear 16 = .ok (.iconst 0, 1) := by decide +kernel
theorem dX9_clear_17 : decode cX9_clear 17 = .ok (.putfield 55, 3) := by decide +kernel
theorem dX9_clear_20 : decode cX9_clear 20 = .ok (.aload_n 0, 1) := by decide +kernel
theorem dX9_clear_21 : decode cX9_clear 21 = .ok (.iconst 0, 1) := by decide +kernel
theorem dX9_clear_22 : decode cX9_clear 22 = .ok (.putfield 58, 3) := by decide +kernel
theorem dX9_clear_25 : decode cX9_clear 25 = .ok (.aload_n 0, 1) := by decide +kernel
theorem dX9_clear_26 : decode cX9_clear 26 = .ok (.iconst 0, 1) := by decide +kernel
theorem dX9_clear_27 : decode cX9_clear 27 = .ok (.putfield 61, 3) := by decide +kernel
theorem dX9_clear_30 : decode cX9_clear 30 = .ok (.aload_n 0, 1) := by decide +kernel
theorem dX9_clear_31 : decode cX9_clear 31 = .ok (.iconst 0, 1) := by decide +kernel
theorem dX9_clear_32 : decode cX9_clear 32 = .ok (.putfield 64, 3) := by decide +kernel
theorem dX9_clear_35 : decode cX9_clear 35 = .ok (.aload_n 0, 1) := by decide +kernel
theorem dX9_clear_36 : decode cX9_clear 36 = .ok (.getfield 18, 3) := by decide +kernel
theorem dX9_clear_39 : decode cX9_clear 39 = .ok (.iconst 0, 1) := by decide +kernel
theorem dX9_clear_40 : decode cX9_clear 40 = .ok (.invokestatic 67, 3) := by decide +kernel
theorem dX9_clear_43 : decode cX9_clear 43 = .ok (.aload_n 0, 1) := by decide +kernel
theorem dX9_clear_44 : decode cX9_clear 44 = .ok (.getfield 22, 3) := by decide +kernel
theorem dX9_clear_47 : decode cX9_clear 47 = .ok (.iconst 0, 1) := by decide +kernel
theorem dX9_clear_48 : decode cX9_clear 48 = .ok (.invokestatic 67, 3) := by decide +kernel
theorem dX9_clear_51 : decode cX9_clear 51 = .ok (.aload_n 0, 1) := by decide +kernel
theorem dX9_clear_52 : decode cX9_clear 52 = .ok (.getfield 25, 3) := by decide +kernel
theorem dX9_clear_55 : decode cX9_clear 55 = .ok (.iconst 0, 1) := by decide +kernel
theorem dX9_clear_56 : decode cX9_clear 56 = .ok (.invokestatic 67, 3) := by decide +kernel
theorem dX9_clear_59 : decode cX9_clear 59 = .ok (.aload_n 0, 1) := by decide +kernel
theorem dX9_clear_60 : decode cX9_clear 60 = .ok (.getfield 28, 3) := by decide +kernel
theorem dX9_clear_63 : decode cX9_clear 63 = .ok (.iconst (-1), 1) := by decide +kernel
theorem dX9_clear_64 : decode cX9_clear 64 = .ok (.invokestatic 67, 3) := by decide +kernel
theorem dX9_clear_67 : decode cX9_clear 67 = .ok (.aload_n 0, 1) := by decide +kernel
theorem dX9_clear_68 : decode cX9_clear 68 = .ok (.getfield 31, 3) := by decide +kernel
theorem dX9_clear_71 : decode cX9_clear 71 = .ok (.iconst 0, 1) := by decide +kernel
theorem dX9_clear_72 : decode cX9_clear 72 = .ok (.invokestatic 67, 3) := by decide +kernel
theorem dX9_clear_75 : decode cX9_clear 75 = .ok (.aload_n 0, 1) := by decide +kernel
theorem dX9_clear_76 : decode cX9_clear 76 = .ok (.getfield 34, 3) := by decide +kernel
theorem dX9_clear_79 : decode cX9_clear 79 = .ok (.iconst 0, 1) := by decide +kernel
theorem dX9_clear_80 : decode cX9_clear 80 = .ok (.invokestatic 67, 3) := by decide +kernel
theorem dX9_clear_83 : decode cX9_clear 83 = .ok (.aload_n 0, 1) := by decide +kernel
theorem dX9_clear_84 : decode cX9_clear 84 = .ok (.getfield 37, 3) := by decide +kernel
theorem dX9_clear_87 : decode cX9_clear 87 = .ok (.iconst 0, 1) := by decide +kernel
theorem dX9_clear_88 : decode cX9_clear 88 = .ok (.invokestatic 67, 3) := by decide +kernel
theorem dX9_clear_91 : decode cX9_clear 91 = .ok (.aload_n 0, 1) := by decide +kernel
theorem dX9_clear_92 : decode cX9_clear 92 = .ok (.getfield 40, 3) := by decide +kernel
theorem dX9_clear_95 : decode cX9_clear 95 = .ok (.iconst 0, 1) := by decide +kernel
theorem dX9_clear_96 : decode cX9_clear 96 = .ok (.invokestatic 67, 3) := by decide +kernel
theorem dX9_clear_99 : decode cX9_clear 99 = .ok (.aload_n 0, 1) := by decide +kernel
theorem dX9_clear_100 : decode cX9_clear 100 = .ok (.getfield 43, 3) := by decide +kernel
theorem dX9_clear_103 : decode cX9_clear 103 = .ok (.iconst 0, 1) := by decide +kernel
theorem dX9_clear_104 : decode cX9_clear 104 = .ok (.invokestatic 67, 3) := by decide +kernel
theorem dX9_clear_107 : decode cX9_clear 107 = .ok (.aload_n 0, 1) := by decide +kernel
theorem dX9_clear_108 : decode cX9_clear 108 = .ok (.getfield 46, 3) := by decide +kernel
theorem dX9_clear_111 : decode cX9_clear 111 = .ok (.iconst 0, 1) := by decide +kernel
theorem dX9_clear_112 : decode cX9_clear 112 = .ok (.invokestatic 67, 3) := by decide +kernel
theorem dX9_clear_115 : decode cX9_clear 115 = .ok (.aload_n 0, 1) := by decide +kernel
theorem dX9_clear_116 : decode cX9_clear 116 = .ok (.getfield 49, 3) := by decide +kernel
theorem dX9_clear_119 : decode cX9_clear 119 = .ok (.iconst 0, 1) := by decide +kernel
theorem dX9_clear_120 : decode cX9_clear 120 = .ok (.invokestatic 67, 3) := by decide +kernel
theorem dX9_clear_123 : decode cX9_clear 123 = .ok (.return_, 1) := by decide +kernel
theorem dX9_isCell_0 : decode cX9_isCell 0 = .ok (.iload_n 1, 1) := by decide +kernel
theorem dX9_isCell_1 : decode cX9_isCell 1 = .ok (.ifCond .lt 39, 3) := by decide +kernel
theorem dX9_isCell_4 : decode cX9_isCell 4 = .ok (.iload_n 1, 1) := by decide +kernel
theorem dX9_isCell_5 : decode cX9_isCell 5 = .ok (.aload_n 0, 1) := by decide +kernel
theorem dX9_isCell_6 : decode cX9_isCell 6 = .ok (.getfield 9, 3) := by decide +kernel
theorem dX9_isCell_9 : decode cX9_isCell 9 = .ok (.if_icmp .ge 31, 3) := by decide +kernel
theorem dX9_isCell_12 : decode cX9_isCell 12 = .ok (.iload_n 1, 1) := by decide +kernel
theorem dX9_isCell_13 : decode cX9_isCell 13 = .ok (.bipush 6, 2) := by decide +kernel
theorem dX9_isCell_15 : decode cX9_isCell 15 = .ok (.if_icmp .ge 25, 3) := by decide +kernel
theorem dX9_isCell_18 : decode cX9_isCell 18 = .ok (.iload_n 2, 1) := by decide +kernel
theorem dX9_isCell_19 : decode cX9_isCell 19 = .ok (.ifCond .lt 21, 3) := by decide +kernel
theorem dX9_isCell_22 : decode cX9_isCell 22 = .ok (.iload_n 2, 1) := by decide +kernel
theorem dX9_isCell_23 : decode cX9_isCell 23 = .ok (.aload_n 0, 1) := by decide +kernel
theorem dX9_isCell_24 : decode cX9_isCell 24 = .ok (.getfield 15, 3) := by decide +kernel
theorem dX9_isCell_27 : decode cX9_isCell 27 = .ok (.if_icmp .ge 13, 3) := by decide +kernel
theorem dX9_isCell_30 : decode cX9_isCell 30 = .ok (.iload_n 2, 1) := by decide +kernel
theorem dX9_isCell_31 : decode cX9_isCell 31 = .ok (.bipush 6, 2) := by decide +kernel
theorem dX9_isCell_33 : decode cX9_isCell 33 = .ok (.if_icmp .ge 7, 3) := by decide +kernel
theorem dX9_isCell_36 : decode cX9_isCell 36 = .ok (.iconst 1, 1) := by decide +kernel
theorem dX9_isCell_37 : decode cX9_isCell 37 = .ok (.goto 4, 3) := by decide +kernel
theorem dX9_isCell_40 : decode cX9_isCell 40 = .ok (.iconst 0, 1) := by decide +kernel
theorem dX9_isCell_41 : decode cX9_isCell 41 = .ok (.ireturn, 1) := by decide +kernel
theorem dX9_holds_0 : decode cX9_holds 0 = .ok (.iload_n 1, 1) := by decide +kernel
theorem dX9_holds_1 : decode cX9_holds 1 = .ok (.ifCond .lt 28, 3) := by decide +kernel
theorem dX9_holds_4 : decode cX9_holds 4 = .ok (.iload_n 1, 1) := by decide +kernel
theorem dX9_holds_5 : decode cX9_holds 5 = .ok (.bipush 36, 2) := by decide +kernel
theorem dX9_holds_7 : decode cX9_holds 7 = .ok (.if_icmp .ge 22, 3) := by decide +kernel
theorem dX9_holds_10 : decode cX9_holds 10 = .ok (.aload_n 0, 1) := by decide +kernel
theorem dX9_holds_11 : decode cX9_holds 11 = .ok (.iload_n 1, 1) := by decide +kernel
theorem dX9_holds_12 : decode cX9_holds 12 = .ok (.bipush 6, 2) := by decide +kernel
theorem dX9_holds_14 : decode cX9_holds 14 = .ok (.irem, 1) := by decide +kernel
theorem dX9_holds_15 : decode cX9_holds 15 = .ok (.iload_n 1, 1) := by decide +kernel
theorem dX9_holds_16 : decode cX9_holds 16 = .ok (.bipush 6, 2) := by decide +kernel
theorem dX9_holds_18 : decode cX9_holds 18 = .ok (.idiv, 1) := by decide +kernel
theorem dX9_holds_19 : decode cX9_holds 19 = .ok (.invokevirtual 79, 3) := by decide +kernel
theorem dX9_holds_22 : decode cX9_holds 22 = .ok (.ifCond .eq 7, 3) := by decide +kernel
theorem dX9_holds_25 : decode cX9_holds 25 = .ok (.iconst 1, 1) := by decide +kernel
theorem dX9_holds_26 : decode cX9_holds 26 = .ok (.goto 4, 3) := by decide +kernel
theorem dX9_holds_29 : decode cX9_holds 29 = .ok (.iconst 0, 1) := by decide +kernel
theorem dX9_holds_30 : decode cX9_holds 30 = .ok (.ireturn, 1) := by decide +kernel
theorem dX9_isSchool_0 : decode cX9_isSchool 0 = .ok (.iload_n 1, 1) := by decide +kernel
theorem dX9_isSchool_1 : decode cX9_isSchool 1 = .ok (.ifCond .lt 20, 3) := by decide +kernel
theorem dX9_isSchool_4 : decode cX9_isSchool 4 = .ok (.iload_n 1, 1) := by decide +kernel
theorem dX9_isSchool_5 : decode cX9_isSchool 5 = .ok (.aload_n 0, 1) := by decide +kernel
theorem dX9_isSchool_6 : decode cX9_isSchool 6 = .ok (.getfield 52, 3) := by decide +kernel
theorem dX9_isSchool_9 : decode cX9_isSchool 9 = .ok (.if_icmp .ge 12, 3) := by decide +kernel
theorem dX9_isSchool_12 : decode cX9_isSchool 12 = .ok (.iload_n 1, 1) := by decide +kernel
theorem dX9_isSchool_13 : decode cX9_isSchool 13 = .ok (.iconst 2, 1) := by decide +kernel
theorem dX9_isSchool_14 : decode cX9_isSchool 14 = .ok (.if_icmp .ge 7, 3) := by decide +kernel
theorem dX9_isSchool_17 : decode cX9_isSchool 17 = .ok (.iconst 1, 1) := by decide +kernel
theorem dX9_isSchool_18 : decode cX9_isSchool 18 = .ok (.goto 4, 3) := by decide +kernel
theorem dX9_isSchool_21 : decode cX9_isSchool 21 = .ok (.iconst 0, 1) := by decide +kernel
theorem dX9_isSchool_22 : decode cX9_isSchool 22 = .ok (.ireturn, 1) := by decide +kernel
theorem dX9_halfOfColumn_0 : decode cX9_halfOfColumn 0 = .ok (.iload_n 1, 1) := by decide +kernel
theorem dX9_halfOfColumn_1 : decode cX9_halfOfColumn 1 = .ok (.aload_n 0, 1) := by decide +kernel
theorem dX9_halfOfColumn_2 : decode cX9_halfOfColumn 2 = .ok (.getfield 9, 3) := by decide +kernel
theorem dX9_halfOfColumn_5 : decode cX9_halfOfColumn 5 = .ok (.iconst 2, 1) := by decide +kernel
theorem dX9_halfOfColumn_6 : decode cX9_halfOfColumn 6 = .ok (.idiv, 1) := by decide +kernel
theorem dX9_halfOfColumn_7 : decode cX9_halfOfColumn 7 = .ok (.if_icmp .ge 7, 3) := by decide +kernel
theorem dX9_halfOfColumn_10 : decode cX9_halfOfColumn 10 = .ok (.iconst 0, 1) := by decide +kernel
theorem dX9_halfOfColumn_11 : decode cX9_halfOfColumn 11 = .ok (.goto 4, 3) := by decide +kernel
theorem dX9_halfOfColumn_14 : decode cX9_halfOfColumn 14 = .ok (.iconst 1, 1) := by decide +kernel
theorem dX9_halfOfColumn_15 : decode cX9_halfOfColumn 15 = .ok (.ireturn, 1) := by decide +kernel
theorem dX9_halfOf_0 : decode cX9_halfOf 0 = .ok (.iload_n 1, 1) := by decide +kernel
theorem dX9_halfOf_1 : decode cX9_halfOf 1 = .ok (.bipush 6, 2) := by decide +kernel
theorem dX9_halfOf_3 : decode cX9_halfOf 3 = .ok (.irem, 1) := by decide +kernel
theorem dX9_halfOf_4 : decode cX9_halfOf 4 = .ok (.aload_n 0, 1) := by decide +kernel
theorem dX9_halfOf_5 : decode cX9_halfOf 5 = .ok (.getfield 9, 3) := by decide +kernel
theorem dX9_halfOf_8 : decode cX9_halfOf 8 = .ok (.iconst 2, 1) := by decide +kernel
theorem dX9_halfOf_9 : decode cX9_halfOf 9 = .ok (.idiv, 1) := by decide +kernel
theorem dX9_halfOf_10 : decode cX9_halfOf 10 = .ok (.if_icmp .ge 7, 3) := by decide +kernel
theorem dX9_halfOf_13 : decode cX9_halfOf 13 = .ok (.iconst 0, 1) := by decide +kernel
theorem dX9_halfOf_14 : decode cX9_halfOf 14 = .ok (.goto 4, 3) := by decide +kernel
theorem dX9_halfOf_17 : decode cX9_halfOf 17 = .ok (.iconst 1, 1) := by decide +kernel
theorem dX9_halfOf_18 : decode cX9_halfOf 18 = .ok (.ireturn, 1) := by decide +kernel
theorem dX9_isIn_0 : decode cX9_isIn 0 = .ok (.iload_n 2, 1) := by decide +kernel
theorem dX9_isIn_1 : decode cX9_isIn 1 = .ok (.bipush 6, 2) := by decide +kernel
theorem dX9_isIn_3 : decode cX9_isIn 3 = .ok (.irem, 1) := by decide +kernel
theorem dX9_isIn_4 : decode cX9_isIn 4 = .ok (.istore_n 3, 1) := by decide +kernel
theorem dX9_isIn_5 : decode cX9_isIn 5 = .ok (.iload_n 3, 1) := by decide +kernel
theorem dX9_isIn_6 : decode cX9_isIn 6 = .ok (.aload_n 0, 1) := by decide +kernel
theorem dX9_isIn_7 : decode cX9_isIn 7 = .ok (.getfield 9, 3) := by decide +kernel
theorem dX9_isIn_10 : decode cX9_isIn 10 = .ok (.iconst 2, 1) := by decide +kernel
theorem dX9_isIn_11 : decode cX9_isIn 11 = .ok (.idiv, 1) := by decide +kernel
theorem dX9_isIn_12 : decode cX9_isIn 12 = .ok (.if_icmp .ge 7, 3) := by decide +kernel
theorem dX9_isIn_15 : decode cX9_isIn 15 = .ok (.iconst 1, 1) := by decide +kernel
theorem dX9_isIn_16 : decode cX9_isIn 16 = .ok (.goto 4, 3) := by decide +kernel
theorem dX9_isIn_19 : decode cX9_isIn 19 = .ok (.iconst 0, 1) := by decide +kernel
theorem dX9_isIn_20 : decode cX9_isIn 20 = .ok (.istore 4, 2) := by decide +kernel
theorem dX9_isIn_22 : decode cX9_isIn 22 = .ok (.iload_n 3, 1) := by decide +kernel
theorem dX9_isIn_23 : decode cX9_isIn 23 = .ok (.aload_n 0, 1) := by decide +kernel
theorem dX9_isIn_24 : decode cX9_isIn 24 = .ok (.getfield 9, 3) := by decide +kernel
theorem dX9_isIn_27 : decode cX9_isIn 27 = .ok (.if_icmp .ge 32, 3) := by decide +kernel
theorem dX9_isIn_30 : decode cX9_isIn 30 = .ok (.iload_n 2, 1) := by decide +kernel
theorem dX9_isIn_31 : decode cX9_isIn 31 = .ok (.bipush 6, 2) := by decide +kernel
theorem dX9_isIn_33 : decode cX9_isIn 33 = .ok (.idiv, 1) := by decide +kernel
theorem dX9_isIn_34 : decode cX9_isIn 34 = .ok (.aload_n 0, 1) := by decide +kernel
theorem dX9_isIn_35 : decode cX9_isIn 35 = .ok (.getfield 15, 3) := by decide +kernel
theorem dX9_isIn_38 : decode cX9_isIn 38 = .ok (.if_icmp .ge 21, 3) := by decide +kernel
theorem dX9_isIn_41 : decode cX9_isIn 41 = .ok (.iload 4, 2) := by decide +kernel
theorem dX9_isIn_43 : decode cX9_isIn 43 = .ok (.iload_n 1, 1) := by decide +kernel
theorem dX9_isIn_44 : decode cX9_isIn 44 = .ok (.ifCond .ne 7, 3) := by decide +kernel
theorem dX9_isIn_47 : decode cX9_isIn 47 = .ok (.iconst 1, 1) := by decide +kernel
theorem dX9_isIn_48 : decode cX9_isIn 48 = .ok (.goto 4, 3) := by decide +kernel
theorem dX9_isIn_51 : decode cX9_isIn 51 = .ok (.iconst 0, 1) := by decide +kernel
theorem dX9_isIn_52 : decode cX9_isIn 52 = .ok (.if_icmp .ne 7, 3) := by decide +kernel
theorem dX9_isIn_55 : decode cX9_isIn 55 = .ok (.iconst 1, 1) := by decide +kernel
theorem dX9_isIn_56 : decode cX9_isIn 56 = .ok (.goto 4, 3) := by decide +kernel
theorem dX9_isIn_59 : decode cX9_isIn 59 = .ok (.iconst 0, 1) := by decide +kernel
theorem dX9_isIn_60 : decode cX9_isIn 60 = .ok (.ireturn, 1) := by decide +kernel
theorem dX9_isOwned_0 : decode cX9_isOwned 0 = .ok (.aload_n 0, 1) := by decide +kernel
theorem dX9_isOwned_1 : decode cX9_isOwned 1 = .ok (.iload_n 1, 1) := by decide +kernel
theorem dX9_isOwned_2 : decode cX9_isOwned 2 = .ok (.iload_n 2, 1) := by decide +kernel
theorem dX9_isOwned_3 : decode cX9_isOwned 3 = .ok (.invokevirtual 79, 3) := by decide +kernel
theorem dX9_isOwned_6 : decode cX9_isOwned 6 = .ok (.ifCond .eq 19, 3) := by decide +kernel
theorem dX9_isOwned_9 : decode cX9_isOwned 9 = .ok (.aload_n 0, 1) := by decide +kernel
theorem dX9_isOwned_10 : decode cX9_isOwned 10 = .ok (.aload_n 0, 1) := by decide +kernel
theorem dX9_isOwned_11 : decode cX9_isOwned 11 = .ok (.iload_n 1, 1) := by decide +kernel
theorem dX9_isOwned_12 : decode cX9_isOwned 12 = .ok (.invokevirtual 83, 3) := by decide +kernel
theorem dX9_isOwned_15 : decode cX9_isOwned 15 = .ok (.invokevirtual 87, 3) := by decide +kernel
theorem dX9_isOwned_18 : decode cX9_isOwned 18 = .ok (.ifCond .eq 7, 3) := by decide +kernel
theorem dX9_isOwned_21 : decode cX9_isOwned 21 = .ok (.iconst 1, 1) := by decide +kernel
theorem dX9_isOwned_22 : decode cX9_isOwned 22 = .ok (.goto 4, 3) := by decide +kernel
theorem dX9_isOwned_25 : decode cX9_isOwned 25 = .ok (.iconst 0, 1) := by decide +kernel
theorem dX9_isOwned_26 : decode cX9_isOwned 26 = .ok (.ireturn, 1) := by decide +kernel
theorem dX9_across_0 : decode cX9_across 0 = .ok (.iload_n 1, 1) := by decide +kernel
theorem dX9_across_1 : decode cX9_across 1 = .ok (.iload_n 1, 1) := by decide +kernel
theorem dX9_across_2 : decode cX9_across 2 = .ok (.bipush 6, 2) := by decide +kernel
theorem dX9_across_4 : decode cX9_across 4 = .ok (.irem, 1) := by decide +kernel
theorem dX9_across_5 : decode cX9_across 5 = .ok (.isub, 1) := by decide +kernel
theorem dX9_across_6 : decode cX9_across 6 = .ok (.aload_n 0, 1) := by decide +kernel
theorem dX9_across_7 : decode cX9_across 7 = .ok (.getfield 9, 3) := by decide +kernel
theorem dX9_across_10 : decode cX9_across 10 = .ok (.iadd, 1) := by decide +kernel
theorem dX9_across_11 : decode cX9_across 11 = .ok (.iconst 1, 1) := by decide +kernel
theorem dX9_across_12 : decode cX9_across 12 = .ok (.isub, 1) := by decide +kernel
theorem dX9_across_13 : decode cX9_across 13 = .ok (.iload_n 1, 1) := by decide +kernel
theorem dX9_across_14 : decode cX9_across 14 = .ok (.bipush 6, 2) := by decide +kernel
theorem dX9_across_16 : decode cX9_across 16 = .ok (.irem, 1) := by decide +kernel
theorem dX9_across_17 : decode cX9_across 17 = .ok (.isub, 1) := by decide +kernel
theorem dX9_across_18 : decode cX9_across 18 = .ok (.istore_n 2, 1) := by decide +kernel
theorem dX9_across_19 : decode cX9_across 19 = .ok (.iload_n 2, 1) := by decide +kernel
theorem dX9_across_20 : decode cX9_across 20 = .ok (.ifCond .lt 13, 3) := by decide +kernel
theorem dX9_across_23 : decode cX9_across 23 = .ok (.iload_n 2, 1) := by decide +kernel
theorem dX9_across_24 : decode cX9_across 24 = .ok (.bipush 36, 2) := by decide +kernel
theorem dX9_across_26 : decode cX9_across 26 = .ok (.if_icmp .ge 7, 3) := by decide +kernel
theorem dX9_across_29 : decode cX9_across 29 = .ok (.iload_n 2, 1) := by decide +kernel
theorem dX9_across_30 : decode cX9_across 30 = .ok (.goto 4, 3) := by decide +kernel
theorem dX9_across_33 : decode cX9_across 33 = .ok (.iconst 0, 1) := by decide +kernel
theorem dX9_across_34 : decode cX9_across 34 = .ok (.ireturn, 1) := by decide +kernel
theorem dX9_topOf_0 : decode cX9_topOf 0 = .ok (.iload_n 1, 1) := by decide +kernel
theorem dX9_topOf_1 : decode cX9_topOf 1 = .ok (.ifCond .lt 25, 3) := by decide +kernel
theorem dX9_topOf_4 : decode cX9_topOf 4 = .ok (.iload_n 1, 1) := by decide +kernel
theorem dX9_topOf_5 : decode cX9_topOf 5 = .ok (.bipush 36, 2) := by decide +kernel
theorem dX9_topOf_7 : decode cX9_topOf 7 = .ok (.if_icmp .ge 19, 3) := by decide +kernel
theorem dX9_topOf_10 : decode cX9_topOf 10 = .ok (.aload_n 0, 1) := by decide +kernel
theorem dX9_topOf_11 : decode cX9_topOf 11 = .ok (.getfield 34, 3) := by decide +kernel
theorem dX9_topOf_14 : decode cX9_topOf 14 = .ok (.iload_n 1, 1) := by decide +kernel
theorem dX9_topOf_15 : decode cX9_topOf 15 = .ok (.iaload, 1) := by decide +kernel
theorem dX9_topOf_16 : decode cX9_topOf 16 = .ok (.aload_n 0, 1) := by decide +kernel
theorem dX9_topOf_17 : decode cX9_topOf 17 = .ok (.getfield 37, 3) := by decide +kernel
theorem dX9_topOf_20 : decode cX9_topOf 20 = .ok (.iload_n 1, 1) := by decide +kernel
theorem dX9_topOf_21 : decode cX9_topOf 21 = .ok (.iaload, 1) := by decide +kernel
theorem dX9_topOf_22 : decode cX9_topOf 22 = .ok (.iadd, 1) := by decide +kernel
theorem dX9_topOf_23 : decode cX9_topOf 23 = .ok (.goto 4, 3) := by decide +kernel
theorem dX9_topOf_26 : decode cX9_topOf 26 = .ok (.iconst 0, 1) := by decide +kernel
theorem dX9_topOf_27 : decode cX9_topOf 27 = .ok (.ireturn, 1) := by decide +kernel
theorem dX9_allBreaches_0 : decode cX9_allBreaches 0 = .ok (.aload_n 0, 1) := by decide +kernel
theorem dX9_allBreaches_1 : decode cX9_allBreaches 1 = .ok (.getfield 25, 3) := by decide +kernel
theorem dX9_allBreaches_4 : decode cX9_allBreaches 4 = .ok (.iconst 0, 1) := by decide +kernel
theorem dX9_allBreaches_5 : decode cX9_allBreaches 5 = .ok (.iaload, 1) := by decide +kernel
theorem dX9_allBreaches_6 : decode cX9_allBreaches 6 = .ok (.aload_n 0, 1) := by decide +kernel
theorem dX9_allBreaches_7 : decode cX9_allBreaches 7 = .ok (.getfield 25, 3) := by decide +kernel
theorem dX9_allBreaches_10 : decode cX9_allBreaches 10 = .ok (.iconst 1, 1) := by decide +kernel
theorem dX9_allBreaches_11 : decode cX9_allBreaches 11 = .ok (.iaload, 1) := by decide +kernel
theorem dX9_allBreaches_12 : decode cX9_allBreaches 12 = .ok (.iadd, 1) := by decide +kernel
theorem dX9_allBreaches_13 : decode cX9_allBreaches 13 = .ok (.ireturn, 1) := by decide +kernel
theorem dX9_sumOf_0 : decode cX9_sumOf 0 = .ok (.iconst 0, 1) := by decide +kernel
theorem dX9_sumOf_1 : decode cX9_sumOf 1 = .ok (.istore_n 1, 1) := by decide +kernel
theorem dX9_sumOf_2 : decode cX9_sumOf 2 = .ok (.aload_n 0, 1) := by decide +kernel
theorem dX9_sumOf_3 : decode cX9_sumOf 3 = .ok (.astore_n 2, 1) := by decide +kernel
theorem dX9_sumOf_4 : decode cX9_sumOf 4 = .ok (.aload_n 2, 1) := by decide +kernel
theorem dX9_sumOf_5 : decode cX9_sumOf 5 = .ok (.arraylength, 1) := by decide +kernel
theorem dX9_sumOf_6 : decode cX9_sumOf 6 = .ok (.istore_n 3, 1) := by decide +kernel
theorem dX9_sumOf_7 : decode cX9_sumOf 7 = .ok (.iconst 0, 1) := by decide +kernel
theorem dX9_sumOf_8 : decode cX9_sumOf 8 = .ok (.istore 4, 2) := by decide +kernel
theorem dX9_sumOf_10 : decode cX9_sumOf 10 = .ok (.iload 4, 2) := by decide +kernel
theorem dX9_sumOf_12 : decode cX9_sumOf 12 = .ok (.iload_n 3, 1) := by decide +kernel
theorem dX9_sumOf_13 : decode cX9_sumOf 13 = .ok (.if_icmp .ge 20, 3) := by decide +kernel
theorem dX9_sumOf_16 : decode cX9_sumOf 16 = .ok (.aload_n 2, 1) := by decide +kernel
theorem dX9_sumOf_17 : decode cX9_sumOf 17 = .ok (.iload 4, 2) := by decide +kernel
theorem dX9_sumOf_19 : decode cX9_sumOf 19 = .ok (.iaload, 1) := by decide +kernel
theorem dX9_sumOf_20 : decode cX9_sumOf 20 = .ok (.istore 5, 2) := by decide +kernel
theorem dX9_sumOf_22 : decode cX9_sumOf 22 = .ok (.iload_n 1, 1) := by decide +kernel
theorem dX9_sumOf_23 : decode cX9_sumOf 23 = .ok (.iload 5, 2) := by decide +kernel
theorem dX9_sumOf_25 : decode cX9_sumOf 25 = .ok (.iadd, 1) := by decide +kernel
theorem dX9_sumOf_26 : decode cX9_sumOf 26 = .ok (.istore_n 1, 1) := by decide +kernel
theorem dX9_sumOf_27 : decode cX9_sumOf 27 = .ok (.iinc 4 1, 3) := by decide +kernel
theorem dX9_sumOf_30 : decode cX9_sumOf 30 = .ok (.goto (-20), 3) := by decide +kernel
theorem dX9_sumOf_33 : decode cX9_sumOf 33 = .ok (.iload_n 1, 1) := by decide +kernel
theorem dX9_sumOf_34 : decode cX9_sumOf 34 = .ok (.ireturn, 1) := by decide +kernel
theorem dX9_tell_0 : decode cX9_tell 0 = .ok (.iload_n 1, 1) := by decide +kernel
theorem dX9_tell_1 : decode cX9_tell 1 = .ok (.tableswitch 102 0 8 #[51, 56, 61, 66, 71, 76, 84, 92, 97], 51) := by decide +kernel
theorem dX9_tell_52 : decode cX9_tell 52 = .ok (.aload_n 0, 1) := by decide +kernel
theorem dX9_tell_53 : decode cX9_tell 53 = .ok (.getfield 9, 3) := by decide +kernel
theorem dX9_tell_56 : decode cX9_tell 56 = .ok (.ireturn, 1) := by decide +kernel
theorem dX9_tell_57 : decode cX9_tell 57 = .ok (.aload_n 0, 1) := by decide +kernel
theorem dX9_tell_58 : decode cX9_tell 58 = .ok (.getfield 15, 3) := by decide +kernel
theorem dX9_tell_61 : decode cX9_tell 61 = .ok (.ireturn, 1) := by decide +kernel
theorem dX9_tell_62 : decode cX9_tell 62 = .ok (.aload_n 0, 1) := by decide +kernel
theorem dX9_tell_63 : decode cX9_tell 63 = .ok (.getfield 52, 3) := by decide +kernel
theorem dX9_tell_66 : decode cX9_tell 66 = .ok (.ireturn, 1) := by decide +kernel
theorem dX9_tell_67 : decode cX9_tell 67 = .ok (.aload_n 0, 1) := by decide +kernel
theorem dX9_tell_68 : decode cX9_tell 68 = .ok (.getfield 55, 3) := by decide +kernel
theorem dX9_tell_71 : decode cX9_tell 71 = .ok (.ireturn, 1) := by decide +kernel
theorem dX9_tell_72 : decode cX9_tell 72 = .ok (.aload_n 0, 1) := by decide +kernel
theorem dX9_tell_73 : decode cX9_tell 73 = .ok (.invokevirtual 91, 3) := by decide +kernel
theorem dX9_tell_76 : decode cX9_tell 76 = .ok (.ireturn, 1) := by decide +kernel
theorem dX9_tell_77 : decode cX9_tell 77 = .ok (.aload_n 0, 1) := by decide +kernel
theorem dX9_tell_78 : decode cX9_tell 78 = .ok (.getfield 34, 3) := by decide +kernel
theorem dX9_tell_81 : decode cX9_tell 81 = .ok (.invokestatic 95, 3) := by decide +kernel
theorem dX9_tell_84 : decode cX9_tell 84 = .ok (.ireturn, 1) := by decide +kernel
theorem dX9_tell_85 : decode cX9_tell 85 = .ok (.aload_n 0, 1) := by decide +kernel
theorem dX9_tell_86 : decode cX9_tell 86 = .ok (.getfield 37, 3) := by decide +kernel
theorem dX9_tell_89 : decode cX9_tell 89 = .ok (.invokestatic 95, 3) := by decide +kernel
theorem dX9_tell_92 : decode cX9_tell 92 = .ok (.ireturn, 1) := by decide +kernel
theorem dX9_tell_93 : decode cX9_tell 93 = .ok (.aload_n 0, 1) := by decide +kernel
theorem dX9_tell_94 : decode cX9_tell 94 = .ok (.getfield 58, 3) := by decide +kernel
theorem dX9_tell_97 : decode cX9_tell 97 = .ok (.ireturn, 1) := by decide +kernel
theorem dX9_tell_98 : decode cX9_tell 98 = .ok (.aload_n 0, 1) := by decide +kernel
theorem dX9_tell_99 : decode cX9_tell 99 = .ok (.getfield 61, 3) := by decide +kernel
theorem dX9_tell_102 : decode cX9_tell 102 = .ok (.ireturn, 1) := by decide +kernel
theorem dX9_tell_103 : decode cX9_tell 103 = .ok (.aload_n 0, 1) := by decide +kernel
theorem dX9_tell_104 : decode cX9_tell 104 = .ok (.getfield 64, 3) := by decide +kernel
theorem dX9_tell_107 : decode cX9_tell 107 = .ok (.ireturn, 1) := by decide +kernel
theorem dX9_tellCell_0 : decode cX9_tellCell 0 = .ok (.aload_n 0, 1) := by decide +kernel
theorem dX9_tellCell_1 : decode cX9_tellCell 1 = .ok (.iload_n 1, 1) := by decide +kernel
theorem dX9_tellCell_2 : decode cX9_tellCell 2 = .ok (.invokevirtual 99, 3) := by decide +kernel
theorem dX9_tellCell_5 : decode cX9_tellCell 5 = .ok (.ifCond .ne 5, 3) := by decide +kernel
theorem dX9_tellCell_8 : decode cX9_tellCell 8 = .ok (.iconst (-1), 1) := by decide +kernel
theorem dX9_tellCell_9 : decode cX9_tellCell 9 = .ok (.ireturn, 1) := by decide +kernel
theorem dX9_tellCell_10 : decode cX9_tellCell 10 = .ok (.iload_n 2, 1) := by decide +kernel
theorem dX9_tellCell_11 : decode cX9_tellCell 11 = .ok (.tableswitch 67 0 4 #[33, 40, 47, 54, 61], 33) := by decide +kernel
theorem dX9_tellCell_44 : decode cX9_tellCell 44 = .ok (.aload_n 0, 1) := by decide +kernel
theorem dX9_tellCell_45 : decode cX9_tellCell 45 = .ok (.getfield 34, 3) := by decide +kernel
theorem dX9_tellCell_48 : decode cX9_tellCell 48 = .ok (.iload_n 1, 1) := by decide +kernel
theorem dX9_tellCell_49 : decode cX9_tellCell 49 = .ok (.iaload, 1) := by decide +kernel
theorem dX9_tellCell_50 : decode cX9_tellCell 50 = .ok (.ireturn, 1) := by decide +kernel
theorem dX9_tellCell_51 : decode cX9_tellCell 51 = .ok (.aload_n 0, 1) := by decide +kernel
theorem dX9_tellCell_52 : decode cX9_tellCell 52 = .ok (.getfield 37, 3) := by decide +kernel
theorem dX9_tellCell_55 : decode cX9_tellCell 55 = .ok (.iload_n 1, 1) := by decide +kernel
theorem dX9_tellCell_56 : decode cX9_tellCell 56 = .ok (.iaload, 1) := by decide +kernel
theorem dX9_tellCell_57 : decode cX9_tellCell 57 = .ok (.ireturn, 1) := by decide +kernel
theorem dX9_tellCell_58 : decode cX9_tellCell 58 = .ok (.aload_n 0, 1) := by decide +kernel
theorem dX9_tellCell_59 : decode cX9_tellCell 59 = .ok (.getfield 40, 3) := by decide +kernel
theorem dX9_tellCell_62 : decode cX9_tellCell 62 = .ok (.iload_n 1, 1) := by decide +kernel
theorem dX9_tellCell_63 : decode cX9_tellCell 63 = .ok (.iaload, 1) := by decide +kernel
theorem dX9_tellCell_64 : decode cX9_tellCell 64 = .ok (.ireturn, 1) := by decide +kernel
theorem dX9_tellCell_65 : decode cX9_tellCell 65 = .ok (.aload_n 0, 1) := by decide +kernel
theorem dX9_tellCell_66 : decode cX9_tellCell 66 = .ok (.getfield 43, 3) := by decide +kernel
theorem dX9_tellCell_69 : decode cX9_tellCell 69 = .ok (.iload_n 1, 1) := by decide +kernel
theorem dX9_tellCell_70 : decode cX9_tellCell 70 = .ok (.iaload, 1) := by decide +kernel
theorem dX9_tellCell_71 : decode cX9_tellCell 71 = .ok (.ireturn, 1) := by decide +kernel
theorem dX9_tellCell_72 : decode cX9_tellCell 72 = .ok (.aload_n 0, 1) := by decide +kernel
theorem dX9_tellCell_73 : decode cX9_tellCell 73 = .ok (.iload_n 1, 1) := by decide +kernel
theorem dX9_tellCell_74 : decode cX9_tellCell 74 = .ok (.invokevirtual 102, 3) := by decide +kernel
theorem dX9_tellCell_77 : decode cX9_tellCell 77 = .ok (.ireturn, 1) := by decide +kernel
theorem dX9_tellCell_78 : decode cX9_tellCell 78 = .ok (.aload_n 0, 1) := by decide +kernel
theorem dX9_tellCell_79 : decode cX9_tellCell 79 = .ok (.getfield 46, 3) := by decide +kernel
theorem dX9_tellCell_82 : decode cX9_tellCell 82 = .ok (.iload_n 1, 1) := by decide +kernel
theorem dX9_tellCell_83 : decode cX9_tellCell 83 = .ok (.iaload, 1) := by decide +kernel
theorem dX9_tellCell_84 : decode cX9_tellCell 84 = .ok (.ireturn, 1) := by decide +kernel
theorem dX9_tellSchool_0 : decode cX9_tellSchool 0 = .ok (.aload_n 0, 1) := by decide +kernel
theorem dX9_tellSchool_1 : decode cX9_tellSchool 1 = .ok (.iload_n 1, 1) := by decide +kernel
theorem dX9_tellSchool_2 : decode cX9_tellSchool 2 = .ok (.invokevirtual 87, 3) := by decide +kernel
theorem dX9_tellSchool_5 : decode cX9_tellSchool 5 = .ok (.ifCond .ne 5, 3) := by decide +kernel
theorem dX9_tellSchool_8 : decode cX9_tellSchool 8 = .ok (.iconst (-1), 1) := by decide +kernel
theorem dX9_tellSchool_9 : decode cX9_tellSchool 9 = .ok (.ireturn, 1) := by decide +kernel
theorem dX9_tellSchool_10 : decode cX9_tellSchool 10 = .ok (.iload_n 2, 1) := by decide +kernel
theorem dX9_tellSchool_11 : decode cX9_tellSchool 11 = .ok (.tableswitch 56 0 3 #[29, 36, 43, 50], 29) := by decide +kernel
theorem dX9_tellSchool_40 : decode cX9_tellSchool 40 = .ok (.aload_n 0, 1) := by decide +kernel
theorem dX9_tellSchool_41 : decode cX9_tellSchool 41 = .ok (.getfield 18, 3) := by decide +kernel
theorem dX9_tellSchool_44 : decode cX9_tellSchool 44 = .ok (.iload_n 1, 1) := by decide +kernel
theorem dX9_tellSchool_45 : decode cX9_tellSchool 45 = .ok (.iaload, 1) := by decide +kernel
theorem dX9_tellSchool_46 : decode cX9_tellSchool 46 = .ok (.ireturn, 1) := by decide +kernel
theorem dX9_tellSchool_47 : decode cX9_tellSchool 47 = .ok (.aload_n 0, 1) := by decide +kernel
theorem dX9_tellSchool_48 : decode cX9_tellSchool 48 = .ok (.getfield 22, 3) := by decide +kernel
theorem dX9_tellSchool_51 : decode cX9_tellSchool 51 = .ok (.iload_n 1, 1) := by decide +kernel
theorem dX9_tellSchool_52 : decode cX9_tellSchool 52 = .ok (.iaload, 1) := by decide +kernel
theorem dX9_tellSchool_53 : decode cX9_tellSchool 53 = .ok (.ireturn, 1) := by decide +kernel
theorem dX9_tellSchool_54 : decode cX9_tellSchool 54 = .ok (.aload_n 0, 1) := by decide +kernel
theorem dX9_tellSchool_55 : decode cX9_tellSchool 55 = .ok (.getfield 25, 3) := by decide +kernel
theorem dX9_tellSchool_58 : decode cX9_tellSchool 58 = .ok (.iload_n 1, 1) := by decide +kernel
theorem dX9_tellSchool_59 : decode cX9_tellSchool 59 = .ok (.iaload, 1) := by decide +kernel
theorem dX9_tellSchool_60 : decode cX9_tellSchool 60 = .ok (.ireturn, 1) := by decide +kernel
theorem dX9_tellSchool_61 : decode cX9_tellSchool 61 = .ok (.aload_n 0, 1) := by decide +kernel
theorem dX9_tellSchool_62 : decode cX9_tellSchool 62 = .ok (.iload_n 1, 1) := by decide +kernel
theorem dX9_tellSchool_63 : decode cX9_tellSchool 63 = .ok (.invokevirtual 105, 3) := by decide +kernel
theorem dX9_tellSchool_66 : decode cX9_tellSchool 66 = .ok (.ireturn, 1) := by decide +kernel
theorem dX9_tellSchool_67 : decode cX9_tellSchool 67 = .ok (.aload_n 0, 1) := by decide +kernel
theorem dX9_tellSchool_68 : decode cX9_tellSchool 68 = .ok (.iload_n 1, 1) := by decide +kernel
theorem dX9_tellSchool_69 : decode cX9_tellSchool 69 = .ok (.invokevirtual 108, 3) := by decide +kernel
theorem dX9_tellSchool_72 : decode cX9_tellSchool 72 = .ok (.ireturn, 1) := by decide +kernel
theorem dX9_icedCells_0 : decode cX9_icedCells 0 = .ok (.iconst 0, 1) := by decide +kernel
theorem dX9_icedCells_1 : decode cX9_icedCells 1 = .ok (.istore_n 2, 1) := by decide +kernel
theorem dX9_icedCells_2 : decode cX9_icedCells 2 = .ok (.iconst 0, 1) := by decide +kernel
theorem dX9_icedCells_3 : decode cX9_icedCells 3 = .ok (.istore_n 3, 1) := by decide +kernel
theorem dX9_icedCells_4 : decode cX9_icedCells 4 = .ok (.iload_n 3, 1) := by decide +kernel
theorem dX9_icedCells_5 : decode cX9_icedCells 5 = .ok (.bipush 36, 2) := by decide +kernel
theorem dX9_icedCells_7 : decode cX9_icedCells 7 = .ok (.if_icmp .ge 31, 3) := by decide +kernel
theorem dX9_icedCells_10 : decode cX9_icedCells 10 = .ok (.iload_n 2, 1) := by decide +kernel
theorem dX9_icedCells_11 : decode cX9_icedCells 11 = .ok (.aload_n 0, 1) := by decide +kernel
theorem dX9_icedCells_12 : decode cX9_icedCells 12 = .ok (.iload_n 1, 1) := by decide +kernel
theorem dX9_icedCells_13 : decode cX9_icedCells 13 = .ok (.iload_n 3, 1) := by decide +kernel
theorem dX9_icedCells_14 : decode cX9_icedCells 14 = .ok (.invokevirtual 111, 3) := by decide +kernel
theorem dX9_icedCells_17 : decode cX9_icedCells 17 = .ok (.ifCond .eq 12, 3) := by decide +kernel
theorem dX9_icedCells_20 : decode cX9_icedCells 20 = .ok (.aload_n 0, 1) := by decide +kernel
theorem dX9_icedCells_21 : decode cX9_icedCells 21 = .ok (.getfield 46, 3) := by decide +kernel
theorem dX9_icedCells_24 : decode cX9_icedCells 24 = .ok (.iload_n 3, 1) := by decide +kernel
theorem dX9_icedCells_25 : decode cX9_icedCells 25 = .ok (.iaload, 1) := by decide +kernel
theorem dX9_icedCells_26 : decode cX9_icedCells 26 = .ok (.goto 4, 3) := by decide +kernel
theorem dX9_icedCells_29 : decode cX9_icedCells 29 = .ok (.iconst 0, 1) := by decide +kernel
theorem dX9_icedCells_30 : decode cX9_icedCells 30 = .ok (.iadd, 1) := by decide +kernel
theorem dX9_icedCells_31 : decode cX9_icedCells 31 = .ok (.istore_n 2, 1) := by decide +kernel
theorem dX9_icedCells_32 : decode cX9_icedCells 32 = .ok (.iinc 3 1, 3) := by decide +kernel
theorem dX9_icedCells_35 : decode cX9_icedCells 35 = .ok (.goto (-31), 3) := by decide +kernel
theorem dX9_icedCells_38 : decode cX9_icedCells 38 = .ok (.iload_n 2, 1) := by decide +kernel
theorem dX9_icedCells_39 : decode cX9_icedCells 39 = .ok (.ireturn, 1) := by decide +kernel
theorem dX9_wallsOf_0 : decode cX9_wallsOf 0 = .ok (.iconst 0, 1) := by decide +kernel
theorem dX9_wallsOf_1 : decode cX9_wallsOf 1 = .ok (.istore_n 2, 1) := by decide +kernel
theorem dX9_wallsOf_2 : decode cX9_wallsOf 2 = .ok (.iconst 0, 1) := by decide +kernel
theorem dX9_wallsOf_3 : decode cX9_wallsOf 3 = .ok (.istore_n 3, 1) := by decide +kernel
theorem dX9_wallsOf_4 : decode cX9_wallsOf 4 = .ok (.iload_n 3, 1) := by decide +kernel
theorem dX9_wallsOf_5 : decode cX9_wallsOf 5 = .ok (.bipush 36, 2) := by decide +kernel
theorem dX9_wallsOf_7 : decode cX9_wallsOf 7 = .ok (.if_icmp .ge 27, 3) := by decide +kernel
theorem dX9_wallsOf_10 : decode cX9_wallsOf 10 = .ok (.aload_n 0, 1) := by decide +kernel
theorem dX9_wallsOf_11 : decode cX9_wallsOf 11 = .ok (.iload_n 1, 1) := by decide +kernel
theorem dX9_wallsOf_12 : decode cX9_wallsOf 12 = .ok (.iload_n 3, 1) := by decide +kernel
theorem dX9_wallsOf_13 : decode cX9_wallsOf 13 = .ok (.invokevirtual 111, 3) := by decide +kernel
theorem dX9_wallsOf_16 : decode cX9_wallsOf 16 = .ok (.ifCond .eq 12, 3) := by decide +kernel
theorem dX9_wallsOf_19 : decode cX9_wallsOf 19 = .ok (.iload_n 2, 1) := by decide +kernel
theorem dX9_wallsOf_20 : decode cX9_wallsOf 20 = .ok (.aload_n 0, 1) := by decide +kernel
theorem dX9_wallsOf_21 : decode cX9_wallsOf 21 = .ok (.getfield 37, 3) := by decide +kernel
theorem dX9_wallsOf_24 : decode cX9_wallsOf 24 = .ok (.iload_n 3, 1) := by decide +kernel
theorem dX9_wallsOf_25 : decode cX9_wallsOf 25 = .ok (.iaload, 1) := by decide +kernel
theorem dX9_wallsOf_26 : decode cX9_wallsOf 26 = .ok (.iadd, 1) := by decide +kernel
theorem dX9_wallsOf_27 : decode cX9_wallsOf 27 = .ok (.istore_n 2, 1) := by decide +kernel
theorem dX9_wallsOf_28 : decode cX9_wallsOf 28 = .ok (.iinc 3 1, 3) := by decide +kernel
theorem dX9_wallsOf_31 : decode cX9_wallsOf 31 = .ok (.goto (-27), 3) := by decide +kernel
theorem dX9_wallsOf_34 : decode cX9_wallsOf 34 = .ok (.iload_n 2, 1) := by decide +kernel
theorem dX9_wallsOf_35 : decode cX9_wallsOf 35 = .ok (.ireturn, 1) := by decide +kernel
theorem dX9_snowFalls_0 : decode cX9_snowFalls 0 = .ok (.iconst 0, 1) := by decide +kernel
theorem dX9_snowFalls_1 : decode cX9_snowFalls 1 = .ok (.istore_n 2, 1) := by decide +kernel
theorem dX9_snowFalls_2 : decode cX9_snowFalls 2 = .ok (.iconst 0, 1) := by decide +kernel
theorem dX9_snowFalls_3 : decode cX9_snowFalls 3 = .ok (.istore_n 3, 1) := by decide +kernel
theorem dX9_snowFalls_4 : decode cX9_snowFalls 4 = .ok (.iload_n 3, 1) := by decide +kernel
theorem dX9_snowFalls_5 : decode cX9_snowFalls 5 = .ok (.bipush 36, 2) := by decide +kernel
theorem dX9_snowFalls_7 : decode cX9_snowFalls 7 = .ok (.if_icmp .ge 36, 3) := by decide +kernel
theorem dX9_snowFalls_10 : decode cX9_snowFalls 10 = .ok (.aload_n 0, 1) := by decide +kernel
theorem dX9_snowFalls_11 : decode cX9_snowFalls 11 = .ok (.iload_n 3, 1) := by decide +kernel
theorem dX9_snowFalls_12 : decode cX9_snowFalls 12 = .ok (.invokevirtual 99, 3) := by decide +kernel
theorem dX9_snowFalls_15 : decode cX9_snowFalls 15 = .ok (.ifCond .eq 22, 3) := by decide +kernel
theorem dX9_snowFalls_18 : decode cX9_snowFalls 18 = .ok (.aload_n 0, 1) := by decide +kernel
theorem dX9_snowFalls_19 : decode cX9_snowFalls 19 = .ok (.dup, 1) := by decide +kernel
theorem dX9_snowFalls_20 : decode cX9_snowFalls 20 = .ok (.getfield 64, 3) := by decide +kernel
theorem dX9_snowFalls_23 : decode cX9_snowFalls 23 = .ok (.iload_n 1, 1) := by decide +kernel
theorem dX9_snowFalls_24 : decode cX9_snowFalls 24 = .ok (.iadd, 1) := by decide +kernel
theorem dX9_snowFalls_25 : decode cX9_snowFalls 25 = .ok (.putfield 64, 3) := by decide +kernel
theorem dX9_snowFalls_28 : decode cX9_snowFalls 28 = .ok (.iload_n 2, 1) := by decide +kernel
theorem dX9_snowFalls_29 : decode cX9_snowFalls 29 = .ok (.aload_n 0, 1) := by decide +kernel
theorem dX9_snowFalls_30 : decode cX9_snowFalls 30 = .ok (.iload_n 3, 1) := by decide +kernel
theorem dX9_snowFalls_31 : decode cX9_snowFalls 31 = .ok (.iload_n 1, 1) := by decide +kernel
theorem dX9_snowFalls_32 : decode cX9_snowFalls 32 = .ok (.invokevirtual 114, 3) := by decide +kernel
theorem dX9_snowFalls_35 : decode cX9_snowFalls 35 = .ok (.iadd, 1) := by decide +kernel
theorem dX9_snowFalls_36 : decode cX9_snowFalls 36 = .ok (.istore_n 2, 1) := by decide +kernel
theorem dX9_snowFalls_37 : decode cX9_snowFalls 37 = .ok (.iinc 3 1, 3) := by decide +kernel
theorem dX9_snowFalls_40 : decode cX9_snowFalls 40 = .ok (.goto (-36), 3) := by decide +kernel
theorem dX9_snowFalls_43 : decode cX9_snowFalls 43 = .ok (.iload_n 2, 1) := by decide +kernel
theorem dX9_snowFalls_44 : decode cX9_snowFalls 44 = .ok (.ireturn, 1) := by decide +kernel
theorem dX9_heaps_0 : decode cX9_heaps 0 = .ok (.iconst 0, 1) := by decide +kernel
theorem dX9_heaps_1 : decode cX9_heaps 1 = .ok (.aload_n 0, 1) := by decide +kernel
theorem dX9_heaps_2 : decode cX9_heaps 2 = .ok (.getfield 34, 3) := by decide +kernel
theorem dX9_heaps_5 : decode cX9_heaps 5 = .ok (.iload_n 1, 1) := by decide +kernel
theorem dX9_heaps_6 : decode cX9_heaps 6 = .ok (.iaload, 1) := by decide +kernel
theorem dX9_heaps_7 : decode cX9_heaps 7 = .ok (.iload_n 2, 1) := by decide +kernel
theorem dX9_heaps_8 : decode cX9_heaps 8 = .ok (.iadd, 1) := by decide +kernel
theorem dX9_heaps_9 : decode cX9_heaps 9 = .ok (.bipush 99, 2) := by decide +kernel
theorem dX9_heaps_11 : decode cX9_heaps 11 = .ok (.isub, 1) := by decide +kernel
theorem dX9_heaps_12 : decode cX9_heaps 12 = .ok (.invokestatic 118, 3) := by decide +kernel
theorem dX9_heaps_15 : decode cX9_heaps 15 = .ok (.istore_n 3, 1) := by decide +kernel
theorem dX9_heaps_16 : decode cX9_heaps 16 = .ok (.aload_n 0, 1) := by decide +kernel
theorem dX9_heaps_17 : decode cX9_heaps 17 = .ok (.getfield 34, 3) := by decide +kernel
theorem dX9_heaps_20 : decode cX9_heaps 20 = .ok (.iload_n 1, 1) := by decide +kernel
theorem dX9_heaps_21 : decode cX9_heaps 21 = .ok (.dup2, 1) := by decide +kernel
theorem dX9_heaps_22 : decode cX9_heaps 22 = .ok (.iaload, 1) := by decide +kernel
theorem dX9_heaps_23 : decode cX9_heaps 23 = .ok (.iload_n 2, 1) := by decide +kernel
theorem dX9_heaps_24 : decode cX9_heaps 24 = .ok (.iload_n 3, 1) := by decide +kernel
theorem dX9_heaps_25 : decode cX9_heaps 25 = .ok (.isub, 1) := by decide +kernel
theorem dX9_heaps_26 : decode cX9_heaps 26 = .ok (.iadd, 1) := by decide +kernel
theorem dX9_heaps_27 : decode cX9_heaps 27 = .ok (.iastore, 1) := by decide +kernel
theorem dX9_heaps_28 : decode cX9_heaps 28 = .ok (.aload_n 0, 1) := by decide +kernel
theorem dX9_heaps_29 : decode cX9_heaps 29 = .ok (.dup, 1) := by decide +kernel
theorem dX9_heaps_30 : decode cX9_heaps 30 = .ok (.getfield 61, 3) := by decide +kernel
theorem dX9_heaps_33 : decode cX9_heaps 33 = .ok (.iload_n 3, 1) := by decide +kernel
theorem dX9_heaps_34 : decode cX9_heaps 34 = .ok (.iadd, 1) := by decide +kernel
theorem dX9_heaps_35 : decode cX9_heaps 35 = .ok (.putfield 61, 3) := by decide +kernel
theorem dX9_heaps_38 : decode cX9_heaps 38 = .ok (.iload_n 3, 1) := by decide +kernel
theorem dX9_heaps_39 : decode cX9_heaps 39 = .ok (.ireturn, 1) := by decide +kernel
theorem dX9_melts_0 : decode cX9_melts 0 = .ok (.iconst 0, 1) := by decide +kernel
theorem dX9_melts_1 : decode cX9_melts 1 = .ok (.istore_n 2, 1) := by decide +kernel
theorem dX9_melts_2 : decode cX9_melts 2 = .ok (.iconst 0, 1) := by decide +kernel
theorem dX9_melts_3 : decode cX9_melts 3 = .ok (.istore_n 3, 1) := by decide +kernel
theorem dX9_melts_4 : decode cX9_melts 4 = .ok (.iload_n 3, 1) := by decide +kernel
theorem dX9_melts_5 : decode cX9_melts 5 = .ok (.bipush 36, 2) := by decide +kernel
theorem dX9_melts_7 : decode cX9_melts 7 = .ok (.if_icmp .ge 33, 3) := by decide +kernel
theorem dX9_melts_10 : decode cX9_melts 10 = .ok (.aload_n 0, 1) := by decide +kernel
theorem dX9_melts_11 : decode cX9_melts 11 = .ok (.iload_n 3, 1) := by decide +kernel
theorem dX9_melts_12 : decode cX9_melts 12 = .ok (.invokevirtual 99, 3) := by decide +kernel
theorem dX9_melts_15 : decode cX9_melts 15 = .ok (.ifCond .eq 19, 3) := by decide +kernel
theorem dX9_melts_18 : decode cX9_melts 18 = .ok (.iload_n 2, 1) := by decide +kernel
theorem dX9_melts_19 : decode cX9_melts 19 = .ok (.aload_n 0, 1) := by decide +kernel
theorem dX9_melts_20 : decode cX9_melts 20 = .ok (.iload_n 3, 1) := by decide +kernel
theorem dX9_melts_21 : decode cX9_melts 21 = .ok (.iload_n 1, 1) := by decide +kernel
theorem dX9_melts_22 : decode cX9_melts 22 = .ok (.aload_n 0, 1) := by decide +kernel
theorem dX9_melts_23 : decode cX9_melts 23 = .ok (.getfield 40, 3) := by decide +kernel
theorem dX9_melts_26 : decode cX9_melts 26 = .ok (.iload_n 3, 1) := by decide +kernel
theorem dX9_melts_27 : decode cX9_melts 27 = .ok (.iaload, 1) := by decide +kernel
theorem dX9_melts_28 : decode cX9_melts 28 = .ok (.iadd, 1) := by decide +kernel
theorem dX9_melts_29 : decode cX9_melts 29 = .ok (.invokevirtual 123, 3) := by decide +kernel
theorem dX9_melts_32 : decode cX9_melts 32 = .ok (.iadd, 1) := by decide +kernel
theorem dX9_melts_33 : decode cX9_melts 33 = .ok (.istore_n 2, 1) := by decide +kernel
theorem dX9_melts_34 : decode cX9_melts 34 = .ok (.iinc 3 1, 3) := by decide +kernel
theorem dX9_melts_37 : decode cX9_melts 37 = .ok (.goto (-33), 3) := by decide +kernel
theorem dX9_melts_40 : decode cX9_melts 40 = .ok (.aload_n 0, 1) := by decide +kernel
theorem dX9_melts_41 : decode cX9_melts 41 = .ok (.dup, 1) := by decide +kernel
theorem dX9_melts_42 : decode cX9_melts 42 = .ok (.getfield 58, 3) := by decide +kernel
theorem dX9_melts_45 : decode cX9_melts 45 = .ok (.iload_n 2, 1) := by decide +kernel
theorem dX9_melts_46 : decode cX9_melts 46 = .ok (.iadd, 1) := by decide +kernel
theorem dX9_melts_47 : decode cX9_melts 47 = .ok (.putfield 58, 3) := by decide +kernel
theorem dX9_melts_50 : decode cX9_melts 50 = .ok (.iload_n 2, 1) := by decide +kernel
theorem dX9_melts_51 : decode cX9_melts 51 = .ok (.ireturn, 1) := by decide +kernel
theorem dX9_meltsAt_0 : decode cX9_meltsAt 0 = .ok (.iload_n 2, 1) := by decide +kernel
theorem dX9_meltsAt_1 : decode cX9_meltsAt 1 = .ok (.aload_n 0, 1) := by decide +kernel
theorem dX9_meltsAt_2 : decode cX9_meltsAt 2 = .ok (.getfield 34, 3) := by decide +kernel
theorem dX9_meltsAt_5 : decode cX9_meltsAt 5 = .ok (.iload_n 1, 1) := by decide +kernel
theorem dX9_meltsAt_6 : decode cX9_meltsAt 6 = .ok (.iaload, 1) := by decide +kernel
theorem dX9_meltsAt_7 : decode cX9_meltsAt 7 = .ok (.invokestatic 126, 3) := by decide +kernel
theorem dX9_meltsAt_10 : decode cX9_meltsAt 10 = .ok (.istore_n 3, 1) := by decide +kernel
theorem dX9_meltsAt_11 : decode cX9_meltsAt 11 = .ok (.aload_n 0, 1) := by decide +kernel
theorem dX9_meltsAt_12 : decode cX9_meltsAt 12 = .ok (.getfield 46, 3) := by decide +kernel
theorem dX9_meltsAt_15 : decode cX9_meltsAt 15 = .ok (.iload_n 1, 1) := by decide +kernel
theorem dX9_meltsAt_16 : decode cX9_meltsAt 16 = .ok (.iaload, 1) := by decide +kernel
theorem dX9_meltsAt_17 : decode cX9_meltsAt 17 = .ok (.iconst 1, 1) := by decide +kernel
theorem dX9_meltsAt_18 : decode cX9_meltsAt 18 = .ok (.if_icmp .ne 7, 3) := by decide +kernel
theorem dX9_meltsAt_21 : decode cX9_meltsAt 21 = .ok (.iconst 0, 1) := by decide +kernel
theorem dX9_meltsAt_22 : decode cX9_meltsAt 22 = .ok (.goto 15, 3) := by decide +kernel
theorem dX9_meltsAt_25 : decode cX9_meltsAt 25 = .ok (.iload_n 2, 1) := by decide +kernel
theorem dX9_meltsAt_26 : decode cX9_meltsAt 26 = .ok (.iload_n 3, 1) := by decide +kernel
theorem dX9_meltsAt_27 : decode cX9_meltsAt 27 = .ok (.isub, 1) := by decide +kernel
theorem dX9_meltsAt_28 : decode cX9_meltsAt 28 = .ok (.aload_n 0, 1) := by decide +kernel
theorem dX9_meltsAt_29 : decode cX9_meltsAt 29 = .ok (.getfield 37, 3) := by decide +kernel
theorem dX9_meltsAt_32 : decode cX9_meltsAt 32 = .ok (.iload_n 1, 1) := by decide +kernel
theorem dX9_meltsAt_33 : decode cX9_meltsAt 33 = .ok (.iaload, 1) := by decide +kernel
theorem dX9_meltsAt_34 : decode cX9_meltsAt 34 = .ok (.invokestatic 126, 3) := by decide +kernel
theorem dX9_meltsAt_37 : decode cX9_meltsAt 37 = .ok (.istore 4, 2) := by decide +kernel
theorem dX9_meltsAt_39 : decode cX9_meltsAt 39 = .ok (.aload_n 0, 1) := by decide +kernel
theorem dX9_meltsAt_40 : decode cX9_meltsAt 40 = .ok (.getfield 34, 3) := by decide +kernel
theorem dX9_meltsAt_43 : decode cX9_meltsAt 43 = .ok (.iload_n 1, 1) := by decide +kernel
theorem dX9_meltsAt_44 : decode cX9_meltsAt 44 = .ok (.dup2, 1) := by decide +kernel
theorem dX9_meltsAt_45 : decode cX9_meltsAt 45 = .ok (.iaload, 1) := by decide +kernel
theorem dX9_meltsAt_46 : decode cX9_meltsAt 46 = .ok (.iload_n 3, 1) := by decide +kernel
theorem dX9_meltsAt_47 : decode cX9_meltsAt 47 = .ok (.isub, 1) := by decide +kernel
theorem dX9_meltsAt_48 : decode cX9_meltsAt 48 = .ok (.iastore, 1) := by decide +kernel
theorem dX9_meltsAt_49 : decode cX9_meltsAt 49 = .ok (.aload_n 0, 1) := by decide +kernel
theorem dX9_meltsAt_50 : decode cX9_meltsAt 50 = .ok (.getfield 37, 3) := by decide +kernel
theorem dX9_meltsAt_53 : decode cX9_meltsAt 53 = .ok (.iload_n 1, 1) := by decide +kernel
theorem dX9_meltsAt_54 : decode cX9_meltsAt 54 = .ok (.dup2, 1) := by decide +kernel
theorem dX9_meltsAt_55 : decode cX9_meltsAt 55 = .ok (.iaload, 1) := by decide +kernel
theorem dX9_meltsAt_56 : decode cX9_meltsAt 56 = .ok (.iload 4, 2) := by decide +kernel
theorem dX9_meltsAt_58 : decode cX9_meltsAt 58 = .ok (.isub, 1) := by decide +kernel
theorem dX9_meltsAt_59 : decode cX9_meltsAt 59 = .ok (.iastore, 1) := by decide +kernel
theorem dX9_meltsAt_60 : decode cX9_meltsAt 60 = .ok (.aload_n 0, 1) := by decide +kernel
theorem dX9_meltsAt_61 : decode cX9_meltsAt 61 = .ok (.getfield 46, 3) := by decide +kernel
theorem dX9_meltsAt_64 : decode cX9_meltsAt 64 = .ok (.iload_n 1, 1) := by decide +kernel
theorem dX9_meltsAt_65 : decode cX9_meltsAt 65 = .ok (.iconst 0, 1) := by decide +kernel
theorem dX9_meltsAt_66 : decode cX9_meltsAt 66 = .ok (.iastore, 1) := by decide +kernel
theorem dX9_meltsAt_67 : decode cX9_meltsAt 67 = .ok (.aload_n 0, 1) := by decide +kernel
theorem dX9_meltsAt_68 : decode cX9_meltsAt 68 = .ok (.getfield 49, 3) := by decide +kernel
theorem dX9_meltsAt_71 : decode cX9_meltsAt 71 = .ok (.iload_n 1, 1) := by decide +kernel
theorem dX9_meltsAt_72 : decode cX9_meltsAt 72 = .ok (.iconst 0, 1) := by decide +kernel
theorem dX9_meltsAt_73 : decode cX9_meltsAt 73 = .ok (.iastore, 1) := by decide +kernel
theorem dX9_meltsAt_74 : decode cX9_meltsAt 74 = .ok (.iload_n 3, 1) := by decide +kernel
theorem dX9_meltsAt_75 : decode cX9_meltsAt 75 = .ok (.iload 4, 2) := by decide +kernel
theorem dX9_meltsAt_77 : decode cX9_meltsAt 77 = .ok (.iadd, 1) := by decide +kernel
theorem dX9_meltsAt_78 : decode cX9_meltsAt 78 = .ok (.ireturn, 1) := by decide +kernel
theorem dX9_handsLeft_0 : decode cX9_handsLeft 0 = .ok (.iconst 0, 1) := by decide +kernel
theorem dX9_handsLeft_1 : decode cX9_handsLeft 1 = .ok (.aload_n 0, 1) := by decide +kernel
theorem dX9_handsLeft_2 : decode cX9_handsLeft 2 = .ok (.getfield 18, 3) := by decide +kernel
theorem dX9_handsLeft_5 : decode cX9_handsLeft 5 = .ok (.iload_n 1, 1) := by decide +kernel
theorem dX9_handsLeft_6 : decode cX9_handsLeft 6 = .ok (.iaload, 1) := by decide +kernel
theorem dX9_handsLeft_7 : decode cX9_handsLeft 7 = .ok (.aload_n 0, 1) := by decide +kernel
theorem dX9_handsLeft_8 : decode cX9_handsLeft 8 = .ok (.getfield 22, 3) := by decide +kernel
theorem dX9_handsLeft_11 : decode cX9_handsLeft 11 = .ok (.iload_n 1, 1) := by decide +kernel
theorem dX9_handsLeft_12 : decode cX9_handsLeft 12 = .ok (.iaload, 1) := by decide +kernel
theorem dX9_handsLeft_13 : decode cX9_handsLeft 13 = .ok (.isub, 1) := by decide +kernel
theorem dX9_handsLeft_14 : decode cX9_handsLeft 14 = .ok (.invokestatic 118, 3) := by decide +kernel
theorem dX9_handsLeft_17 : decode cX9_handsLeft 17 = .ok (.ireturn, 1) := by decide +kernel
theorem dX9_raises_0 : decode cX9_raises 0 = .ok (.aload_n 0, 1) := by decide +kernel
theorem dX9_raises_1 : decode cX9_raises 1 = .ok (.iload_n 1, 1) := by decide +kernel
theorem dX9_raises_2 : decode cX9_raises 2 = .ok (.invokevirtual 99, 3) := by decide +kernel
theorem dX9_raises_5 : decode cX9_raises 5 = .ok (.ifCond .ne 5, 3) := by decide +kernel
theorem dX9_raises_8 : decode cX9_raises 8 = .ok (.iconst 0, 1) := by decide +kernel
theorem dX9_raises_9 : decode cX9_raises 9 = .ok (.ireturn, 1) := by decide +kernel
theorem dX9_raises_10 : decode cX9_raises 10 = .ok (.aload_n 0, 1) := by decide +kernel
theorem dX9_raises_11 : decode cX9_raises 11 = .ok (.iload_n 1, 1) := by decide +kernel
theorem dX9_raises_12 : decode cX9_raises 12 = .ok (.invokevirtual 102, 3) := by decide +kernel
theorem dX9_raises_15 : decode cX9_raises 15 = .ok (.istore_n 3, 1) := by decide +kernel
theorem dX9_raises_16 : decode cX9_raises 16 = .ok (.iload_n 2, 1) := by decide +kernel
theorem dX9_raises_17 : decode cX9_raises 17 = .ok (.aload_n 0, 1) := by decide +kernel
theorem dX9_raises_18 : decode cX9_raises 18 = .ok (.iload_n 3, 1) := by decide +kernel
theorem dX9_raises_19 : decode cX9_raises 19 = .ok (.invokevirtual 129, 3) := by decide +kernel
theorem dX9_raises_22 : decode cX9_raises 22 = .ok (.invokestatic 126, 3) := by decide +kernel
theorem dX9_raises_25 : decode cX9_raises 25 = .ok (.aload_n 0, 1) := by decide +kernel
theorem dX9_raises_26 : decode cX9_raises 26 = .ok (.getfield 34, 3) := by decide +kernel
theorem dX9_raises_29 : decode cX9_raises 29 = .ok (.iload_n 1, 1) := by decide +kernel
theorem dX9_raises_30 : decode cX9_raises 30 = .ok (.iaload, 1) := by decide +kernel
theorem dX9_raises_31 : decode cX9_raises 31 = .ok (.bipush 99, 2) := by decide +kernel
theorem dX9_raises_33 : decode cX9_raises 33 = .ok (.aload_n 0, 1) := by decide +kernel
theorem dX9_raises_34 : decode cX9_raises 34 = .ok (.getfield 37, 3) := by decide +kernel
theorem dX9_raises_37 : decode cX9_raises 37 = .ok (.iload_n 1, 1) := by decide +kernel
theorem dX9_raises_38 : decode cX9_raises 38 = .ok (.iaload, 1) := by decide +kernel
theorem dX9_raises_39 : decode cX9_raises 39 = .ok (.isub, 1) := by decide +kernel
theorem dX9_raises_40 : decode cX9_raises 40 = .ok (.invokestatic 126, 3) := by decide +kernel
theorem dX9_raises_43 : decode cX9_raises 43 = .ok (.invokestatic 126, 3) := by decide +kernel
theorem dX9_raises_46 : decode cX9_raises 46 = .ok (.istore 4, 2) := by decide +kernel
theorem dX9_raises_48 : decode cX9_raises 48 = .ok (.aload_n 0, 1) := by decide +kernel
theorem dX9_raises_49 : decode cX9_raises 49 = .ok (.iload_n 1, 1) := by decide +kernel
theorem dX9_raises_50 : decode cX9_raises 50 = .ok (.invokevirtual 132, 3) := by decide +kernel
theorem dX9_raises_53 : decode cX9_raises 53 = .ok (.istore 5, 2) := by decide +kernel
theorem dX9_raises_55 : decode cX9_raises 55 = .ok (.iconst 0, 1) := by decide +kernel
theorem dX9_raises_56 : decode cX9_raises 56 = .ok (.istore 6, 2) := by decide +kernel
theorem dX9_raises_58 : decode cX9_raises 58 = .ok (.iload 6, 2) := by decide +kernel
theorem dX9_raises_60 : decode cX9_raises 60 = .ok (.iload 4, 2) := by decide +kernel
theorem dX9_raises_62 : decode cX9_raises 62 = .ok (.if_icmp .ge 17, 3) := by decide +kernel
theorem dX9_raises_65 : decode cX9_raises 65 = .ok (.aload_n 0, 1) := by decide +kernel
theorem dX9_raises_66 : decode cX9_raises 66 = .ok (.iload_n 1, 1) := by decide +kernel
theorem dX9_raises_67 : decode cX9_raises 67 = .ok (.iload_n 3, 1) := by decide +kernel
theorem dX9_raises_68 : decode cX9_raises 68 = .ok (.iload 5, 2) := by decide +kernel
theorem dX9_raises_70 : decode cX9_raises 70 = .ok (.invokevirtual 135, 3) := by decide +kernel
theorem dX9_raises_73 : decode cX9_raises 73 = .ok (.iinc 6 1, 3) := by decide +kernel
theorem dX9_raises_76 : decode cX9_raises 76 = .ok (.goto (-18), 3) := by decide +kernel
theorem dX9_raises_79 : decode cX9_raises 79 = .ok (.iload 4, 2) := by decide +kernel
theorem dX9_raises_81 : decode cX9_raises 81 = .ok (.ifCond .le 10, 3) := by decide +kernel
theorem dX9_raises_84 : decode cX9_raises 84 = .ok (.aload_n 0, 1) := by decide +kernel
theorem dX9_raises_85 : decode cX9_raises 85 = .ok (.getfield 49, 3) := by decide +kernel
theorem dX9_raises_88 : decode cX9_raises 88 = .ok (.iload_n 1, 1) := by decide +kernel
theorem dX9_raises_89 : decode cX9_raises 89 = .ok (.iconst 0, 1) := by decide +kernel
theorem dX9_raises_90 : decode cX9_raises 90 = .ok (.iastore, 1) := by decide +kernel
theorem dX9_raises_91 : decode cX9_raises 91 = .ok (.iload 4, 2) := by decide +kernel
theorem dX9_raises_93 : decode cX9_raises 93 = .ok (.ireturn, 1) := by decide +kernel
theorem dX9_raisesOne_0 : decode cX9_raisesOne 0 = .ok (.aload_n 0, 1) := by decide +kernel
theorem dX9_raisesOne_1 : decode cX9_raisesOne 1 = .ok (.getfield 37, 3) := by decide +kernel
theorem dX9_raisesOne_4 : decode cX9_raisesOne 4 = .ok (.iload_n 1, 1) := by decide +kernel
theorem dX9_raisesOne_5 : decode cX9_raisesOne 5 = .ok (.iaload, 1) := by decide +kernel
theorem dX9_raisesOne_6 : decode cX9_raisesOne 6 = .ok (.iload_n 3, 1) := by decide +kernel
theorem dX9_raisesOne_7 : decode cX9_raisesOne 7 = .ok (.if_icmp .lt 10, 3) := by decide +kernel
theorem dX9_raisesOne_10 : decode cX9_raisesOne 10 = .ok (.aload_n 0, 1) := by decide +kernel
theorem dX9_raisesOne_11 : decode cX9_raisesOne 11 = .ok (.iload_n 2, 1) := by decide +kernel
theorem dX9_raisesOne_12 : decode cX9_raisesOne 12 = .ok (.iconst 0, 1) := by decide +kernel
theorem dX9_raisesOne_13 : decode cX9_raisesOne 13 = .ok (.iload_n 1, 1) := by decide +kernel
theorem dX9_raisesOne_14 : decode cX9_raisesOne 14 = .ok (.invokevirtual 139, 3) := by decide +kernel
theorem dX9_raisesOne_17 : decode cX9_raisesOne 17 = .ok (.aload_n 0, 1) := by decide +kernel
theorem dX9_raisesOne_18 : decode cX9_raisesOne 18 = .ok (.iload_n 2, 1) := by decide +kernel
theorem dX9_raisesOne_19 : decode cX9_raisesOne 19 = .ok (.invokevirtual 142, 3) := by decide +kernel
theorem dX9_raisesOne_22 : decode cX9_raisesOne 22 = .ok (.ifCond .ne 10, 3) := by decide +kernel
theorem dX9_raisesOne_25 : decode cX9_raisesOne 25 = .ok (.aload_n 0, 1) := by decide +kernel
theorem dX9_raisesOne_26 : decode cX9_raisesOne 26 = .ok (.iload_n 2, 1) := by decide +kernel
theorem dX9_raisesOne_27 : decode cX9_raisesOne 27 = .ok (.iconst 1, 1) := by decide +kernel
theorem dX9_raisesOne_28 : decode cX9_raisesOne 28 = .ok (.iload_n 1, 1) := by decide +kernel
theorem dX9_raisesOne_29 : decode cX9_raisesOne 29 = .ok (.invokevirtual 139, 3) := by decide +kernel
theorem dX9_raisesOne_32 : decode cX9_raisesOne 32 = .ok (.aload_n 0, 1) := by decide +kernel
theorem dX9_raisesOne_33 : decode cX9_raisesOne 33 = .ok (.getfield 34, 3) := by decide +kernel
theorem dX9_raisesOne_36 : decode cX9_raisesOne 36 = .ok (.iload_n 1, 1) := by decide +kernel
theorem dX9_raisesOne_37 : decode cX9_raisesOne 37 = .ok (.dup2, 1) := by decide +kernel
theorem dX9_raisesOne_38 : decode cX9_raisesOne 38 = .ok (.iaload, 1) := by decide +kernel
theorem dX9_raisesOne_39 : decode cX9_raisesOne 39 = .ok (.iconst 1, 1) := by decide +kernel
theorem dX9_raisesOne_40 : decode cX9_raisesOne 40 = .ok (.isub, 1) := by decide +kernel
theorem dX9_raisesOne_41 : decode cX9_raisesOne 41 = .ok (.iastore, 1) := by decide +kernel
theorem dX9_raisesOne_42 : decode cX9_raisesOne 42 = .ok (.aload_n 0, 1) := by decide +kernel
theorem dX9_raisesOne_43 : decode cX9_raisesOne 43 = .ok (.getfield 37, 3) := by decide +kernel
theorem dX9_raisesOne_46 : decode cX9_raisesOne 46 = .ok (.iload_n 1, 1) := by decide +kernel
theorem dX9_raisesOne_47 : decode cX9_raisesOne 47 = .ok (.dup2, 1) := by decide +kernel
theorem dX9_raisesOne_48 : decode cX9_raisesOne 48 = .ok (.iaload, 1) := by decide +kernel
theorem dX9_raisesOne_49 : decode cX9_raisesOne 49 = .ok (.iconst 1, 1) := by decide +kernel
theorem dX9_raisesOne_50 : decode cX9_raisesOne 50 = .ok (.iadd, 1) := by decide +kernel
theorem dX9_raisesOne_51 : decode cX9_raisesOne 51 = .ok (.iastore, 1) := by decide +kernel
theorem dX9_raisesOne_52 : decode cX9_raisesOne 52 = .ok (.aload_n 0, 1) := by decide +kernel
theorem dX9_raisesOne_53 : decode cX9_raisesOne 53 = .ok (.getfield 22, 3) := by decide +kernel
theorem dX9_raisesOne_56 : decode cX9_raisesOne 56 = .ok (.iload_n 2, 1) := by decide +kernel
theorem dX9_raisesOne_57 : decode cX9_raisesOne 57 = .ok (.dup2, 1) := by decide +kernel
theorem dX9_raisesOne_58 : decode cX9_raisesOne 58 = .ok (.iaload, 1) := by decide +kernel
theorem dX9_raisesOne_59 : decode cX9_raisesOne 59 = .ok (.iconst 1, 1) := by decide +kernel
theorem dX9_raisesOne_60 : decode cX9_raisesOne 60 = .ok (.iadd, 1) := by decide +kernel
theorem dX9_raisesOne_61 : decode cX9_raisesOne 61 = .ok (.iastore, 1) := by decide +kernel
theorem dX9_raisesOne_62 : decode cX9_raisesOne 62 = .ok (.return_, 1) := by decide +kernel
theorem dX9_breaks_0 : decode cX9_breaks 0 = .ok (.aload_n 0, 1) := by decide +kernel
theorem dX9_breaks_1 : decode cX9_breaks 1 = .ok (.getfield 25, 3) := by decide +kernel
theorem dX9_breaks_4 : decode cX9_breaks 4 = .ok (.iconst 0, 1) := by decide +kernel
theorem dX9_breaks_5 : decode cX9_breaks 5 = .ok (.iaload, 1) := by decide +kernel
theorem dX9_breaks_6 : decode cX9_breaks 6 = .ok (.aload_n 0, 1) := by decide +kernel
theorem dX9_breaks_7 : decode cX9_breaks 7 = .ok (.getfield 25, 3) := by decide +kernel
theorem dX9_breaks_10 : decode cX9_breaks 10 = .ok (.iconst 1, 1) := by decide +kernel
theorem dX9_breaks_11 : decode cX9_breaks 11 = .ok (.iaload, 1) := by decide +kernel
theorem dX9_breaks_12 : decode cX9_breaks 12 = .ok (.iadd, 1) := by decide +kernel
theorem dX9_breaks_13 : decode cX9_breaks 13 = .ok (.ifCond .ne 47, 3) := by decide +kernel
theorem dX9_breaks_16 : decode cX9_breaks 16 = .ok (.aload_n 0, 1) := by decide +kernel
theorem dX9_breaks_17 : decode cX9_breaks 17 = .ok (.getfield 31, 3) := by decide +kernel
theorem dX9_breaks_20 : decode cX9_breaks 20 = .ok (.iconst 0, 1) := by decide +kernel
theorem dX9_breaks_21 : decode cX9_breaks 21 = .ok (.iload_n 1, 1) := by decide +kernel
theorem dX9_breaks_22 : decode cX9_breaks 22 = .ok (.iastore, 1) := by decide +kernel
theorem dX9_breaks_23 : decode cX9_breaks 23 = .ok (.aload_n 0, 1) := by decide +kernel
theorem dX9_breaks_24 : decode cX9_breaks 24 = .ok (.getfield 31, 3) := by decide +kernel
theorem dX9_breaks_27 : decode cX9_breaks 27 = .ok (.iconst 1, 1) := by decide +kernel
theorem dX9_breaks_28 : decode cX9_breaks 28 = .ok (.iload_n 2, 1) := by decide +kernel
theorem dX9_breaks_29 : decode cX9_breaks 29 = .ok (.iastore, 1) := by decide +kernel
theorem dX9_breaks_30 : decode cX9_breaks 30 = .ok (.aload_n 0, 1) := by decide +kernel
theorem dX9_breaks_31 : decode cX9_breaks 31 = .ok (.getfield 31, 3) := by decide +kernel
theorem dX9_breaks_34 : decode cX9_breaks 34 = .ok (.iconst 2, 1) := by decide +kernel
theorem dX9_breaks_35 : decode cX9_breaks 35 = .ok (.aload_n 0, 1) := by decide +kernel
theorem dX9_breaks_36 : decode cX9_breaks 36 = .ok (.getfield 55, 3) := by decide +kernel
theorem dX9_breaks_39 : decode cX9_breaks 39 = .ok (.iastore, 1) := by decide +kernel
theorem dX9_breaks_40 : decode cX9_breaks 40 = .ok (.aload_n 0, 1) := by decide +kernel
theorem dX9_breaks_41 : decode cX9_breaks 41 = .ok (.getfield 31, 3) := by decide +kernel
theorem dX9_breaks_44 : decode cX9_breaks 44 = .ok (.iconst 3, 1) := by decide +kernel
theorem dX9_breaks_45 : decode cX9_breaks 45 = .ok (.iload_n 3, 1) := by decide +kernel
theorem dX9_breaks_46 : decode cX9_breaks 46 = .ok (.bipush 6, 2) := by decide +kernel
theorem dX9_breaks_48 : decode cX9_breaks 48 = .ok (.irem, 1) := by decide +kernel
theorem dX9_breaks_49 : decode cX9_breaks 49 = .ok (.iastore, 1) := by decide +kernel
theorem dX9_breaks_50 : decode cX9_breaks 50 = .ok (.aload_n 0, 1) := by decide +kernel
theorem dX9_breaks_51 : decode cX9_breaks 51 = .ok (.getfield 31, 3) := by decide +kernel
theorem dX9_breaks_54 : decode cX9_breaks 54 = .ok (.iconst 4, 1) := by decide +kernel
theorem dX9_breaks_55 : decode cX9_breaks 55 = .ok (.iload_n 3, 1) := by decide +kernel
theorem dX9_breaks_56 : decode cX9_breaks 56 = .ok (.bipush 6, 2) := by decide +kernel
theorem dX9_breaks_58 : decode cX9_breaks 58 = .ok (.idiv, 1) := by decide +kernel
theorem dX9_breaks_59 : decode cX9_breaks 59 = .ok (.iastore, 1) := by decide +kernel
theorem dX9_breaks_60 : decode cX9_breaks 60 = .ok (.aload_n 0, 1) := by decide +kernel
theorem dX9_breaks_61 : decode cX9_breaks 61 = .ok (.getfield 25, 3) := by decide +kernel
theorem dX9_breaks_64 : decode cX9_breaks 64 = .ok (.iload_n 1, 1) := by decide +kernel
theorem dX9_breaks_65 : decode cX9_breaks 65 = .ok (.dup2, 1) := by decide +kernel
theorem dX9_breaks_66 : decode cX9_breaks 66 = .ok (.iaload, 1) := by decide +kernel
theorem dX9_breaks_67 : decode cX9_breaks 67 = .ok (.iconst 1, 1) := by decide +kernel
theorem dX9_breaks_68 : decode cX9_breaks 68 = .ok (.iadd, 1) := by decide +kernel
theorem dX9_breaks_69 : decode cX9_breaks 69 = .ok (.iastore, 1) := by decide +kernel
theorem dX9_breaks_70 : decode cX9_breaks 70 = .ok (.return_, 1) := by decide +kernel
theorem dX9_freezes_0 : decode cX9_freezes 0 = .ok (.aload_n 0, 1) := by decide +kernel
theorem dX9_freezes_1 : decode cX9_freezes 1 = .ok (.iload_n 1, 1) := by decide +kernel
theorem dX9_freezes_2 : decode cX9_freezes 2 = .ok (.invokevirtual 99, 3) := by decide +kernel
theorem dX9_freezes_5 : decode cX9_freezes 5 = .ok (.ifCond .ne 5, 3) := by decide +kernel
theorem dX9_freezes_8 : decode cX9_freezes 8 = .ok (.iconst 0, 1) := by decide +kernel
theorem dX9_freezes_9 : decode cX9_freezes 9 = .ok (.ireturn, 1) := by decide +kernel
theorem dX9_freezes_10 : decode cX9_freezes 10 = .ok (.aload_n 0, 1) := by decide +kernel
theorem dX9_freezes_11 : decode cX9_freezes 11 = .ok (.iload_n 1, 1) := by decide +kernel
theorem dX9_freezes_12 : decode cX9_freezes 12 = .ok (.invokevirtual 102, 3) := by decide +kernel
theorem dX9_freezes_15 : decode cX9_freezes 15 = .ok (.istore_n 2, 1) := by decide +kernel
theorem dX9_freezes_16 : decode cX9_freezes 16 = .ok (.aload_n 0, 1) := by decide +kernel
theorem dX9_freezes_17 : decode cX9_freezes 17 = .ok (.getfield 37, 3) := by decide +kernel
theorem dX9_freezes_20 : decode cX9_freezes 20 = .ok (.iload_n 1, 1) := by decide +kernel
theorem dX9_freezes_21 : decode cX9_freezes 21 = .ok (.iaload, 1) := by decide +kernel
theorem dX9_freezes_22 : decode cX9_freezes 22 = .ok (.iconst 1, 1) := by decide +kernel
theorem dX9_freezes_23 : decode cX9_freezes 23 = .ok (.if_icmp .lt 22, 3) := by decide +kernel
theorem dX9_freezes_26 : decode cX9_freezes 26 = .ok (.aload_n 0, 1) := by decide +kernel
theorem dX9_freezes_27 : decode cX9_freezes 27 = .ok (.getfield 46, 3) := by decide +kernel
theorem dX9_freezes_30 : decode cX9_freezes 30 = .ok (.iload_n 1, 1) := by decide +kernel
theorem dX9_freezes_31 : decode cX9_freezes 31 = .ok (.iaload, 1) := by decide +kernel
theorem dX9_freezes_32 : decode cX9_freezes 32 = .ok (.iconst 1, 1) := by decide +kernel
theorem dX9_freezes_33 : decode cX9_freezes 33 = .ok (.if_icmp .eq 12, 3) := by decide +kernel
theorem dX9_freezes_36 : decode cX9_freezes 36 = .ok (.aload_n 0, 1) := by decide +kernel
theorem dX9_freezes_37 : decode cX9_freezes 37 = .ok (.iload_n 2, 1) := by decide +kernel
theorem dX9_freezes_38 : decode cX9_freezes 38 = .ok (.invokevirtual 129, 3) := by decide +kernel
theorem dX9_freezes_41 : decode cX9_freezes 41 = .ok (.iconst 2, 1) := by decide +kernel
theorem dX9_freezes_42 : decode cX9_freezes 42 = .ok (.if_icmp .ge 5, 3) := by decide +kernel
theorem dX9_freezes_45 : decode cX9_freezes 45 = .ok (.iconst 0, 1) := by decide +kernel
theorem dX9_freezes_46 : decode cX9_freezes 46 = .ok (.ireturn, 1) := by decide +kernel
theorem dX9_freezes_47 : decode cX9_freezes 47 = .ok (.aload_n 0, 1) := by decide +kernel
theorem dX9_freezes_48 : decode cX9_freezes 48 = .ok (.getfield 46, 3) := by decide +kernel
theorem dX9_freezes_51 : decode cX9_freezes 51 = .ok (.iload_n 1, 1) := by decide +kernel
theorem dX9_freezes_52 : decode cX9_freezes 52 = .ok (.iconst 1, 1) := by decide +kernel
theorem dX9_freezes_53 : decode cX9_freezes 53 = .ok (.iastore, 1) := by decide +kernel
theorem dX9_freezes_54 : decode cX9_freezes 54 = .ok (.aload_n 0, 1) := by decide +kernel
theorem dX9_freezes_55 : decode cX9_freezes 55 = .ok (.getfield 49, 3) := by decide +kernel
theorem dX9_freezes_58 : decode cX9_freezes 58 = .ok (.iload_n 1, 1) := by decide +kernel
theorem dX9_freezes_59 : decode cX9_freezes 59 = .ok (.iconst 0, 1) := by decide +kernel
theorem dX9_freezes_60 : decode cX9_freezes 60 = .ok (.iastore, 1) := by decide +kernel
theorem dX9_freezes_61 : decode cX9_freezes 61 = .ok (.aload_n 0, 1) := by decide +kernel
theorem dX9_freezes_62 : decode cX9_freezes 62 = .ok (.getfield 22, 3) := by decide +kernel
theorem dX9_freezes_65 : decode cX9_freezes 65 = .ok (.iload_n 2, 1) := by decide +kernel
theorem dX9_freezes_66 : decode cX9_freezes 66 = .ok (.dup2, 1) := by decide +kernel
theorem dX9_freezes_67 : decode cX9_freezes 67 = .ok (.iaload, 1) := by decide +kernel
theorem dX9_freezes_68 : decode cX9_freezes 68 = .ok (.iconst 2, 1) := by decide +kernel
theorem dX9_freezes_69 : decode cX9_freezes 69 = .ok (.iadd, 1) := by decide +kernel
theorem dX9_freezes_70 : decode cX9_freezes 70 = .ok (.iastore, 1) := by decide +kernel
theorem dX9_freezes_71 : decode cX9_freezes 71 = .ok (.aload_n 0, 1) := by decide +kernel
theorem dX9_freezes_72 : decode cX9_freezes 72 = .ok (.getfield 28, 3) := by decide +kernel
theorem dX9_freezes_75 : decode cX9_freezes 75 = .ok (.iconst 3, 1) := by decide +kernel
theorem dX9_freezes_76 : decode cX9_freezes 76 = .ok (.iaload, 1) := by decide +kernel
theorem dX9_freezes_77 : decode cX9_freezes 77 = .ok (.istore_n 3, 1) := by decide +kernel
theorem dX9_freezes_78 : decode cX9_freezes 78 = .ok (.iload_n 3, 1) := by decide +kernel
theorem dX9_freezes_79 : decode cX9_freezes 79 = .ok (.iconst (-1), 1) := by decide +kernel
theorem dX9_freezes_80 : decode cX9_freezes 80 = .ok (.if_icmp .eq 19, 3) := by decide +kernel
theorem dX9_freezes_83 : decode cX9_freezes 83 = .ok (.aload_n 0, 1) := by decide +kernel
theorem dX9_freezes_84 : decode cX9_freezes 84 = .ok (.iload_n 2, 1) := by decide +kernel
theorem dX9_freezes_85 : decode cX9_freezes 85 = .ok (.invokevirtual 105, 3) := by decide +kernel
theorem dX9_freezes_88 : decode cX9_freezes 88 = .ok (.iload_n 3, 1) := by decide +kernel
theorem dX9_freezes_89 : decode cX9_freezes 89 = .ok (.if_icmp .le 10, 3) := by decide +kernel
theorem dX9_freezes_92 : decode cX9_freezes 92 = .ok (.aload_n 0, 1) := by decide +kernel
theorem dX9_freezes_93 : decode cX9_freezes 93 = .ok (.iload_n 2, 1) := by decide +kernel
theorem dX9_freezes_94 : decode cX9_freezes 94 = .ok (.iconst 3, 1) := by decide +kernel
theorem dX9_freezes_95 : decode cX9_freezes 95 = .ok (.iload_n 1, 1) := by decide +kernel
theorem dX9_freezes_96 : decode cX9_freezes 96 = .ok (.invokevirtual 139, 3) := by decide +kernel
theorem dX9_freezes_99 : decode cX9_freezes 99 = .ok (.iconst 1, 1) := by decide +kernel
theorem dX9_freezes_100 : decode cX9_freezes 100 = .ok (.ireturn, 1) := by decide +kernel
theorem dX9_takes_0 : decode cX9_takes 0 = .ok (.aload_n 0, 1) := by decide +kernel
theorem dX9_takes_1 : decode cX9_takes 1 = .ok (.iload_n 1, 1) := by decide +kernel
theorem dX9_takes_2 : decode cX9_takes 2 = .ok (.invokevirtual 99, 3) := by decide +kernel
theorem dX9_takes_5 : decode cX9_takes 5 = .ok (.ifCond .eq 24, 3) := by decide +kernel
theorem dX9_takes_8 : decode cX9_takes 8 = .ok (.aload_n 0, 1) := by decide +kernel
theorem dX9_takes_9 : decode cX9_takes 9 = .ok (.iload_n 2, 1) := by decide +kernel
theorem dX9_takes_10 : decode cX9_takes 10 = .ok (.invokevirtual 99, 3) := by decide +kernel
theorem dX9_takes_13 : decode cX9_takes 13 = .ok (.ifCond .eq 16, 3) := by decide +kernel
theorem dX9_takes_16 : decode cX9_takes 16 = .ok (.aload_n 0, 1) := by decide +kernel
theorem dX9_takes_17 : decode cX9_takes 17 = .ok (.iload_n 1, 1) := by decide +kernel
theorem dX9_takes_18 : decode cX9_takes 18 = .ok (.invokevirtual 102, 3) := by decide +kernel
theorem dX9_takes_21 : decode cX9_takes 21 = .ok (.aload_n 0, 1) := by decide +kernel
theorem dX9_takes_22 : decode cX9_takes 22 = .ok (.iload_n 2, 1) := by decide +kernel
theorem dX9_takes_23 : decode cX9_takes 23 = .ok (.invokevirtual 102, 3) := by decide +kernel
theorem dX9_takes_26 : decode cX9_takes 26 = .ok (.if_icmp .ne 5, 3) := by decide +kernel
theorem dX9_takes_29 : decode cX9_takes 29 = .ok (.iconst 0, 1) := by decide +kernel
theorem dX9_takes_30 : decode cX9_takes 30 = .ok (.ireturn, 1) := by decide +kernel
theorem dX9_takes_31 : decode cX9_takes 31 = .ok (.aload_n 0, 1) := by decide +kernel
theorem dX9_takes_32 : decode cX9_takes 32 = .ok (.iload_n 1, 1) := by decide +kernel
theorem dX9_takes_33 : decode cX9_takes 33 = .ok (.invokevirtual 102, 3) := by decide +kernel
theorem dX9_takes_36 : decode cX9_takes 36 = .ok (.istore 4, 2) := by decide +kernel
theorem dX9_takes_38 : decode cX9_takes 38 = .ok (.iload_n 3, 1) := by decide +kernel
theorem dX9_takes_39 : decode cX9_takes 39 = .ok (.iconst 2, 1) := by decide +kernel
theorem dX9_takes_40 : decode cX9_takes 40 = .ok (.aload_n 0, 1) := by decide +kernel
theorem dX9_takes_41 : decode cX9_takes 41 = .ok (.iload 4, 2) := by decide +kernel
theorem dX9_takes_43 : decode cX9_takes 43 = .ok (.invokevirtual 129, 3) := by decide +kernel
theorem dX9_takes_46 : decode cX9_takes 46 = .ok (.imul, 1) := by decide +kernel
theorem dX9_takes_47 : decode cX9_takes 47 = .ok (.invokestatic 126, 3) := by decide +kernel
theorem dX9_takes_50 : decode cX9_takes 50 = .ok (.aload_n 0, 1) := by decide +kernel
theorem dX9_takes_51 : decode cX9_takes 51 = .ok (.getfield 34, 3) := by decide +kernel
theorem dX9_takes_54 : decode cX9_takes 54 = .ok (.iload_n 2, 1) := by decide +kernel
theorem dX9_takes_55 : decode cX9_takes 55 = .ok (.iaload, 1) := by decide +kernel
theorem dX9_takes_56 : decode cX9_takes 56 = .ok (.invokestatic 126, 3) := by decide +kernel
theorem dX9_takes_59 : decode cX9_takes 59 = .ok (.istore 5, 2) := by decide +kernel
theorem dX9_takes_61 : decode cX9_takes 61 = .ok (.iload 5, 2) := by decide +kernel
theorem dX9_takes_63 : decode cX9_takes 63 = .ok (.ifCond .gt 5, 3) := by decide +kernel
theorem dX9_takes_66 : decode cX9_takes 66 = .ok (.iconst 0, 1) := by decide +kernel
theorem dX9_takes_67 : decode cX9_takes 67 = .ok (.ireturn, 1) := by decide +kernel
theorem dX9_takes_68 : decode cX9_takes 68 = .ok (.iload 5, 2) := by decide +kernel
theorem dX9_takes_70 : decode cX9_takes 70 = .ok (.iconst 1, 1) := by decide +kernel
theorem dX9_takes_71 : decode cX9_takes 71 = .ok (.iadd, 1) := by decide +kernel
theorem dX9_takes_72 : decode cX9_takes 72 = .ok (.iconst 2, 1) := by decide +kernel
theorem dX9_takes_73 : decode cX9_takes 73 = .ok (.idiv, 1) := by decide +kernel
theorem dX9_takes_74 : decode cX9_takes 74 = .ok (.istore 6, 2) := by decide +kernel
theorem dX9_takes_76 : decode cX9_takes 76 = .ok (.iconst 0, 1) := by decide +kernel
theorem dX9_takes_77 : decode cX9_takes 77 = .ok (.istore 7, 2) := by decide +kernel
theorem dX9_takes_79 : decode cX9_takes 79 = .ok (.iload 7, 2) := by decide +kernel
theorem dX9_takes_81 : decode cX9_takes 81 = .ok (.iload 6, 2) := by decide +kernel
theorem dX9_takes_83 : decode cX9_takes 83 = .ok (.if_icmp .ge 27, 3) := by decide +kernel
theorem dX9_takes_86 : decode cX9_takes 86 = .ok (.aload_n 0, 1) := by decide +kernel
theorem dX9_takes_87 : decode cX9_takes 87 = .ok (.getfield 28, 3) := by decide +kernel
theorem dX9_takes_90 : decode cX9_takes 90 = .ok (.iconst 2, 1) := by decide +kernel
theorem dX9_takes_91 : decode cX9_takes 91 = .ok (.iaload, 1) := by decide +kernel
theorem dX9_takes_92 : decode cX9_takes 92 = .ok (.iconst (-1), 1) := by decide +kernel
theorem dX9_takes_93 : decode cX9_takes 93 = .ok (.if_icmp .eq 17, 3) := by decide +kernel
theorem dX9_takes_96 : decode cX9_takes 96 = .ok (.aload_n 0, 1) := by decide +kernel
theorem dX9_takes_97 : decode cX9_takes 97 = .ok (.iload 4, 2) := by decide +kernel
theorem dX9_takes_99 : decode cX9_takes 99 = .ok (.iconst 2, 1) := by decide +kernel
theorem dX9_takes_100 : decode cX9_takes 100 = .ok (.iload_n 2, 1) := by decide +kernel
theorem dX9_takes_101 : decode cX9_takes 101 = .ok (.invokevirtual 139, 3) := by decide +kernel
theorem dX9_takes_104 : decode cX9_takes 104 = .ok (.iinc 7 1, 3) := by decide +kernel
theorem dX9_takes_107 : decode cX9_takes 107 = .ok (.goto (-28), 3) := by decide +kernel
theorem dX9_takes_110 : decode cX9_takes 110 = .ok (.aload_n 0, 1) := by decide +kernel
theorem dX9_takes_111 : decode cX9_takes 111 = .ok (.getfield 22, 3) := by decide +kernel
theorem dX9_takes_114 : decode cX9_takes 114 = .ok (.iload 4, 2) := by decide +kernel
theorem dX9_takes_116 : decode cX9_takes 116 = .ok (.dup2, 1) := by decide +kernel
theorem dX9_takes_117 : decode cX9_takes 117 = .ok (.iaload, 1) := by decide +kernel
theorem dX9_takes_118 : decode cX9_takes 118 = .ok (.iload 6, 2) := by decide +kernel
theorem dX9_takes_120 : decode cX9_takes 120 = .ok (.iadd, 1) := by decide +kernel
theorem dX9_takes_121 : decode cX9_takes 121 = .ok (.iastore, 1) := by decide +kernel
theorem dX9_takes_122 : decode cX9_takes 122 = .ok (.aload_n 0, 1) := by decide +kernel
theorem dX9_takes_123 : decode cX9_takes 123 = .ok (.getfield 34, 3) := by decide +kernel
theorem dX9_takes_126 : decode cX9_takes 126 = .ok (.iload_n 2, 1) := by decide +kernel
theorem dX9_takes_127 : decode cX9_takes 127 = .ok (.dup2, 1) := by decide +kernel
theorem dX9_takes_128 : decode cX9_takes 128 = .ok (.iaload, 1) := by decide +kernel
theorem dX9_takes_129 : decode cX9_takes 129 = .ok (.iload 5, 2) := by decide +kernel
theorem dX9_takes_131 : decode cX9_takes 131 = .ok (.isub, 1) := by decide +kernel
theorem dX9_takes_132 : decode cX9_takes 132 = .ok (.iastore, 1) := by decide +kernel
theorem dX9_takes_133 : decode cX9_takes 133 = .ok (.aload_n 0, 1) := by decide +kernel
theorem dX9_takes_134 : decode cX9_takes 134 = .ok (.iload_n 1, 1) := by decide +kernel
theorem dX9_takes_135 : decode cX9_takes 135 = .ok (.iload 5, 2) := by decide +kernel
theorem dX9_takes_137 : decode cX9_takes 137 = .ok (.invokevirtual 114, 3) := by decide +kernel
theorem dX9_takes_140 : decode cX9_takes 140 = .ok (.pop, 1) := by decide +kernel
theorem dX9_takes_141 : decode cX9_takes 141 = .ok (.aload_n 0, 1) := by decide +kernel
theorem dX9_takes_142 : decode cX9_takes 142 = .ok (.getfield 49, 3) := by decide +kernel
theorem dX9_takes_145 : decode cX9_takes 145 = .ok (.iload_n 1, 1) := by decide +kernel
theorem dX9_takes_146 : decode cX9_takes 146 = .ok (.iconst 0, 1) := by decide +kernel
theorem dX9_takes_147 : decode cX9_takes 147 = .ok (.iastore, 1) := by decide +kernel
theorem dX9_takes_148 : decode cX9_takes 148 = .ok (.aload_n 0, 1) := by decide +kernel
theorem dX9_takes_149 : decode cX9_takes 149 = .ok (.getfield 49, 3) := by decide +kernel
theorem dX9_takes_152 : decode cX9_takes 152 = .ok (.iload_n 2, 1) := by decide +kernel
theorem dX9_takes_153 : decode cX9_takes 153 = .ok (.iconst 0, 1) := by decide +kernel
theorem dX9_takes_154 : decode cX9_takes 154 = .ok (.iastore, 1) := by decide +kernel
theorem dX9_takes_155 : decode cX9_takes 155 = .ok (.iload 5, 2) := by decide +kernel
theorem dX9_takes_157 : decode cX9_takes 157 = .ok (.ireturn, 1) := by decide +kernel
theorem dX9_sleeps_0 : decode cX9_sleeps 0 = .ok (.aload_n 0, 1) := by decide +kernel
theorem dX9_sleeps_1 : decode cX9_sleeps 1 = .ok (.getfield 55, 3) := by decide +kernel
theorem dX9_sleeps_4 : decode cX9_sleeps 4 = .ok (.sipush 999, 3) := by decide +kernel
theorem dX9_sleeps_7 : decode cX9_sleeps 7 = .ok (.if_icmp .lt 5, 3) := by decide +kernel
theorem dX9_sleeps_10 : decode cX9_sleeps 10 = .ok (.iconst 0, 1) := by decide +kernel
theorem dX9_sleeps_11 : decode cX9_sleeps 11 = .ok (.ireturn, 1) := by decide +kernel
theorem dX9_sleeps_12 : decode cX9_sleeps 12 = .ok (.aload_n 0, 1) := by decide +kernel
theorem dX9_sleeps_13 : decode cX9_sleeps 13 = .ok (.dup, 1) := by decide +kernel
theorem dX9_sleeps_14 : decode cX9_sleeps 14 = .ok (.getfield 55, 3) := by decide +kernel
theorem dX9_sleeps_17 : decode cX9_sleeps 17 = .ok (.iconst 1, 1) := by decide +kernel
theorem dX9_sleeps_18 : decode cX9_sleeps 18 = .ok (.iadd, 1) := by decide +kernel
theorem dX9_sleeps_19 : decode cX9_sleeps 19 = .ok (.putfield 55, 3) := by decide +kernel
theorem dX9_sleeps_22 : decode cX9_sleeps 22 = .ok (.aload_n 0, 1) := by decide +kernel
theorem dX9_sleeps_23 : decode cX9_sleeps 23 = .ok (.getfield 22, 3) := by decide +kernel
theorem dX9_sleeps_26 : decode cX9_sleeps 26 = .ok (.iconst 0, 1) := by decide +kernel
theorem dX9_sleeps_27 : decode cX9_sleeps 27 = .ok (.invokestatic 67, 3) := by decide +kernel
theorem dX9_sleeps_30 : decode cX9_sleeps 30 = .ok (.aload_n 0, 1) := by decide +kernel
theorem dX9_sleeps_31 : decode cX9_sleeps 31 = .ok (.getfield 37, 3) := by decide +kernel
theorem dX9_sleeps_34 : decode cX9_sleeps 34 = .ok (.iconst 0, 1) := by decide +kernel
theorem dX9_sleeps_35 : decode cX9_sleeps 35 = .ok (.aload_n 0, 1) := by decide +kernel
theorem dX9_sleeps_36 : decode cX9_sleeps 36 = .ok (.getfield 43, 3) := by decide +kernel
theorem dX9_sleeps_39 : decode cX9_sleeps 39 = .ok (.iconst 0, 1) := by decide +kernel
theorem dX9_sleeps_40 : decode cX9_sleeps 40 = .ok (.bipush 36, 2) := by decide +kernel
theorem dX9_sleeps_42 : decode cX9_sleeps 42 = .ok (.invokestatic 73, 3) := by decide +kernel
theorem dX9_sleeps_45 : decode cX9_sleeps 45 = .ok (.iconst 1, 1) := by decide +kernel
theorem dX9_sleeps_46 : decode cX9_sleeps 46 = .ok (.ireturn, 1) := by decide +kernel
theorem dX9_wallLimit_0 : decode cX9_wallLimit 0 = .ok (.aload_n 0, 1) := by decide +kernel
theorem dX9_wallLimit_1 : decode cX9_wallLimit 1 = .ok (.getfield 28, 3) := by decide +kernel
theorem dX9_wallLimit_4 : decode cX9_wallLimit 4 = .ok (.iconst 0, 1) := by decide +kernel
theorem dX9_wallLimit_5 : decode cX9_wallLimit 5 = .ok (.iaload, 1) := by decide +kernel
theorem dX9_wallLimit_6 : decode cX9_wallLimit 6 = .ok (.istore_n 2, 1) := by decide +kernel
theorem dX9_wallLimit_7 : decode cX9_wallLimit 7 = .ok (.iload_n 2, 1) := by decide +kernel
theorem dX9_wallLimit_8 : decode cX9_wallLimit 8 = .ok (.iconst (-1), 1) := by decide +kernel
theorem dX9_wallLimit_9 : decode cX9_wallLimit 9 = .ok (.if_icmp .ne 8, 3) := by decide +kernel
theorem dX9_wallLimit_12 : decode cX9_wallLimit 12 = .ok (.ldc 145, 2) := by decide +kernel
theorem dX9_wallLimit_14 : decode cX9_wallLimit 14 = .ok (.goto 15, 3) := by decide +kernel
theorem dX9_wallLimit_17 : decode cX9_wallLimit 17 = .ok (.aload_n 0, 1) := by decide +kernel
theorem dX9_wallLimit_18 : decode cX9_wallLimit 18 = .ok (.getfield 43, 3) := by decide +kernel
theorem dX9_wallLimit_21 : decode cX9_wallLimit 21 = .ok (.aload_n 0, 1) := by decide +kernel
theorem dX9_wallLimit_22 : decode cX9_wallLimit 22 = .ok (.iload_n 1, 1) := by decide +kernel
theorem dX9_wallLimit_23 : decode cX9_wallLimit 23 = .ok (.invokevirtual 146, 3) := by decide +kernel
theorem dX9_wallLimit_26 : decode cX9_wallLimit 26 = .ok (.iaload, 1) := by decide +kernel
theorem dX9_wallLimit_27 : decode cX9_wallLimit 27 = .ok (.iload_n 2, 1) := by decide +kernel
theorem dX9_wallLimit_28 : decode cX9_wallLimit 28 = .ok (.iadd, 1) := by decide +kernel
theorem dX9_wallLimit_29 : decode cX9_wallLimit 29 = .ok (.ireturn, 1) := by decide +kernel
theorem dX9_lawfulHands_0 : decode cX9_lawfulHands 0 = .ok (.aload_n 0, 1) := by decide +kernel
theorem dX9_lawfulHands_1 : decode cX9_lawfulHands 1 = .ok (.getfield 28, 3) := by decide +kernel
theorem dX9_lawfulHands_4 : decode cX9_lawfulHands 4 = .ok (.iconst 1, 1) := by decide +kernel
theorem dX9_lawfulHands_5 : decode cX9_lawfulHands 5 = .ok (.iaload, 1) := by decide +kernel
theorem dX9_lawfulHands_6 : decode cX9_lawfulHands 6 = .ok (.istore_n 2, 1) := by decide +kernel
theorem dX9_lawfulHands_7 : decode cX9_lawfulHands 7 = .ok (.iload_n 2, 1) := by decide +kernel
theorem dX9_lawfulHands_8 : decode cX9_lawfulHands 8 = .ok (.iconst (-1), 1) := by decide +kernel
theorem dX9_lawfulHands_9 : decode cX9_lawfulHands 9 = .ok (.if_icmp .ne 8, 3) := by decide +kernel
theorem dX9_lawfulHands_12 : decode cX9_lawfulHands 12 = .ok (.ldc 145, 2) := by decide +kernel
theorem dX9_lawfulHands_14 : decode cX9_lawfulHands 14 = .ok (.goto 15, 3) := by decide +kernel
theorem dX9_lawfulHands_17 : decode cX9_lawfulHands 17 = .ok (.iconst 0, 1) := by decide +kernel
theorem dX9_lawfulHands_18 : decode cX9_lawfulHands 18 = .ok (.iload_n 2, 1) := by decide +kernel
theorem dX9_lawfulHands_19 : decode cX9_lawfulHands 19 = .ok (.aload_n 0, 1) := by decide +kernel
theorem dX9_lawfulHands_20 : decode cX9_lawfulHands 20 = .ok (.getfield 22, 3) := by decide +kernel
theorem dX9_lawfulHands_23 : decode cX9_lawfulHands 23 = .ok (.iload_n 1, 1) := by decide +kernel
theorem dX9_lawfulHands_24 : decode cX9_lawfulHands 24 = .ok (.iaload, 1) := by decide +kernel
theorem dX9_lawfulHands_25 : decode cX9_lawfulHands 25 = .ok (.isub, 1) := by decide +kernel
theorem dX9_lawfulHands_26 : decode cX9_lawfulHands 26 = .ok (.invokestatic 118, 3) := by decide +kernel
theorem dX9_lawfulHands_29 : decode cX9_lawfulHands 29 = .ok (.ireturn, 1) := by decide +kernel
theorem dX9_fitsIn_0 : decode cX9_fitsIn 0 = .ok (.bipush 99, 2) := by decide +kernel
theorem dX9_fitsIn_2 : decode cX9_fitsIn 2 = .ok (.aload_n 0, 1) := by decide +kernel
theorem dX9_fitsIn_3 : decode cX9_fitsIn 3 = .ok (.iload_n 1, 1) := by decide +kernel
theorem dX9_fitsIn_4 : decode cX9_fitsIn 4 = .ok (.invokevirtual 132, 3) := by decide +kernel
theorem dX9_fitsIn_7 : decode cX9_fitsIn 7 = .ok (.invokestatic 126, 3) := by decide +kernel
theorem dX9_fitsIn_10 : decode cX9_fitsIn 10 = .ok (.istore_n 2, 1) := by decide +kernel
theorem dX9_fitsIn_11 : decode cX9_fitsIn 11 = .ok (.iconst 0, 1) := by decide +kernel
theorem dX9_fitsIn_12 : decode cX9_fitsIn 12 = .ok (.aload_n 0, 1) := by decide +kernel
theorem dX9_fitsIn_13 : decode cX9_fitsIn 13 = .ok (.getfield 34, 3) := by decide +kernel
theorem dX9_fitsIn_16 : decode cX9_fitsIn 16 = .ok (.iload_n 1, 1) := by decide +kernel
theorem dX9_fitsIn_17 : decode cX9_fitsIn 17 = .ok (.iaload, 1) := by decide +kernel
theorem dX9_fitsIn_18 : decode cX9_fitsIn 18 = .ok (.iload_n 2, 1) := by decide +kernel
theorem dX9_fitsIn_19 : decode cX9_fitsIn 19 = .ok (.aload_n 0, 1) := by decide +kernel
theorem dX9_fitsIn_20 : decode cX9_fitsIn 20 = .ok (.getfield 37, 3) := by decide +kernel
theorem dX9_fitsIn_23 : decode cX9_fitsIn 23 = .ok (.iload_n 1, 1) := by decide +kernel
theorem dX9_fitsIn_24 : decode cX9_fitsIn 24 = .ok (.iaload, 1) := by decide +kernel
theorem dX9_fitsIn_25 : decode cX9_fitsIn 25 = .ok (.isub, 1) := by decide +kernel
theorem dX9_fitsIn_26 : decode cX9_fitsIn 26 = .ok (.invokestatic 126, 3) := by decide +kernel
theorem dX9_fitsIn_29 : decode cX9_fitsIn 29 = .ok (.invokestatic 118, 3) := by decide +kernel
theorem dX9_fitsIn_32 : decode cX9_fitsIn 32 = .ok (.ireturn, 1) := by decide +kernel
theorem dX9_roomAt_0 : decode cX9_roomAt 0 = .ok (.aload_n 0, 1) := by decide +kernel
theorem dX9_roomAt_1 : decode cX9_roomAt 1 = .ok (.iload_n 1, 1) := by decide +kernel
theorem dX9_roomAt_2 : decode cX9_roomAt 2 = .ok (.invokevirtual 99, 3) := by decide +kernel
theorem dX9_roomAt_5 : decode cX9_roomAt 5 = .ok (.ifCond .eq 23, 3) := by decide +kernel
theorem dX9_roomAt_8 : decode cX9_roomAt 8 = .ok (.aload_n 0, 1) := by decide +kernel
theorem dX9_roomAt_9 : decode cX9_roomAt 9 = .ok (.iload_n 1, 1) := by decide +kernel
theorem dX9_roomAt_10 : decode cX9_roomAt 10 = .ok (.invokevirtual 149, 3) := by decide +kernel
theorem dX9_roomAt_13 : decode cX9_roomAt 13 = .ok (.aload_n 0, 1) := by decide +kernel
theorem dX9_roomAt_14 : decode cX9_roomAt 14 = .ok (.aload_n 0, 1) := by decide +kernel
theorem dX9_roomAt_15 : decode cX9_roomAt 15 = .ok (.iload_n 1, 1) := by decide +kernel
theorem dX9_roomAt_16 : decode cX9_roomAt 16 = .ok (.invokevirtual 102, 3) := by decide +kernel
theorem dX9_roomAt_19 : decode cX9_roomAt 19 = .ok (.invokevirtual 142, 3) := by decide +kernel
theorem dX9_roomAt_22 : decode cX9_roomAt 22 = .ok (.invokestatic 126, 3) := by decide +kernel
theorem dX9_roomAt_25 : decode cX9_roomAt 25 = .ok (.goto 4, 3) := by decide +kernel
theorem dX9_roomAt_28 : decode cX9_roomAt 28 = .ok (.iconst 0, 1) := by decide +kernel
theorem dX9_roomAt_29 : decode cX9_roomAt 29 = .ok (.ireturn, 1) := by decide +kernel
theorem dX9_mostOf_0 : decode cX9_mostOf 0 = .ok (.aload_n 0, 1) := by decide +kernel
theorem dX9_mostOf_1 : decode cX9_mostOf 1 = .ok (.iload_n 1, 1) := by decide +kernel
theorem dX9_mostOf_2 : decode cX9_mostOf 2 = .ok (.invokevirtual 87, 3) := by decide +kernel
theorem dX9_mostOf_5 : decode cX9_mostOf 5 = .ok (.ifCond .ne 5, 3) := by decide +kernel
theorem dX9_mostOf_8 : decode cX9_mostOf 8 = .ok (.iconst 0, 1) := by decide +kernel
theorem dX9_mostOf_9 : decode cX9_mostOf 9 = .ok (.ireturn, 1) := by decide +kernel
theorem dX9_mostOf_10 : decode cX9_mostOf 10 = .ok (.iconst 0, 1) := by decide +kernel
theorem dX9_mostOf_11 : decode cX9_mostOf 11 = .ok (.istore_n 2, 1) := by decide +kernel
theorem dX9_mostOf_12 : decode cX9_mostOf 12 = .ok (.iconst 0, 1) := by decide +kernel
theorem dX9_mostOf_13 : decode cX9_mostOf 13 = .ok (.istore_n 3, 1) := by decide +kernel
theorem dX9_mostOf_14 : decode cX9_mostOf 14 = .ok (.iload_n 3, 1) := by decide +kernel
theorem dX9_mostOf_15 : decode cX9_mostOf 15 = .ok (.bipush 36, 2) := by decide +kernel
theorem dX9_mostOf_17 : decode cX9_mostOf 17 = .ok (.if_icmp .ge 26, 3) := by decide +kernel
theorem dX9_mostOf_20 : decode cX9_mostOf 20 = .ok (.aload_n 0, 1) := by decide +kernel
theorem dX9_mostOf_21 : decode cX9_mostOf 21 = .ok (.iload_n 1, 1) := by decide +kernel
theorem dX9_mostOf_22 : decode cX9_mostOf 22 = .ok (.iload_n 3, 1) := by decide +kernel
theorem dX9_mostOf_23 : decode cX9_mostOf 23 = .ok (.invokevirtual 111, 3) := by decide +kernel
theorem dX9_mostOf_26 : decode cX9_mostOf 26 = .ok (.ifCond .eq 11, 3) := by decide +kernel
theorem dX9_mostOf_29 : decode cX9_mostOf 29 = .ok (.iload_n 2, 1) := by decide +kernel
theorem dX9_mostOf_30 : decode cX9_mostOf 30 = .ok (.aload_n 0, 1) := by decide +kernel
theorem dX9_mostOf_31 : decode cX9_mostOf 31 = .ok (.iload_n 3, 1) := by decide +kernel
theorem dX9_mostOf_32 : decode cX9_mostOf 32 = .ok (.invokevirtual 149, 3) := by decide +kernel
theorem dX9_mostOf_35 : decode cX9_mostOf 35 = .ok (.iadd, 1) := by decide +kernel
theorem dX9_mostOf_36 : decode cX9_mostOf 36 = .ok (.istore_n 2, 1) := by decide +kernel
theorem dX9_mostOf_37 : decode cX9_mostOf 37 = .ok (.iinc 3 1, 3) := by decide +kernel
theorem dX9_mostOf_40 : decode cX9_mostOf 40 = .ok (.goto (-26), 3) := by decide +kernel
theorem dX9_mostOf_43 : decode cX9_mostOf 43 = .ok (.iload_n 2, 1) := by decide +kernel
theorem dX9_mostOf_44 : decode cX9_mostOf 44 = .ok (.aload_n 0, 1) := by decide +kernel
theorem dX9_mostOf_45 : decode cX9_mostOf 45 = .ok (.iload_n 1, 1) := by decide +kernel
theorem dX9_mostOf_46 : decode cX9_mostOf 46 = .ok (.invokevirtual 129, 3) := by decide +kernel
theorem dX9_mostOf_49 : decode cX9_mostOf 49 = .ok (.aload_n 0, 1) := by decide +kernel
theorem dX9_mostOf_50 : decode cX9_mostOf 50 = .ok (.iload_n 1, 1) := by decide +kernel
theorem dX9_mostOf_51 : decode cX9_mostOf 51 = .ok (.invokevirtual 142, 3) := by decide +kernel
theorem dX9_mostOf_54 : decode cX9_mostOf 54 = .ok (.invokestatic 126, 3) := by decide +kernel
theorem dX9_mostOf_57 : decode cX9_mostOf 57 = .ok (.invokestatic 126, 3) := by decide +kernel
theorem dX9_mostOf_60 : decode cX9_mostOf 60 = .ok (.ireturn, 1) := by decide +kernel
theorem dX9_lastingWalls_0 : decode cX9_lastingWalls 0 = .ok (.iconst 0, 1) := by decide +kernel
theorem dX9_lastingWalls_1 : decode cX9_lastingWalls 1 = .ok (.istore 4, 2) := by decide +kernel
theorem dX9_lastingWalls_3 : decode cX9_lastingWalls 3 = .ok (.iconst 0, 1) := by decide +kernel
theorem dX9_lastingWalls_4 : decode cX9_lastingWalls 4 = .ok (.istore 5, 2) := by decide +kernel
theorem dX9_lastingWalls_6 : decode cX9_lastingWalls 6 = .ok (.iload 5, 2) := by decide +kernel
theorem dX9_lastingWalls_8 : decode cX9_lastingWalls 8 = .ok (.bipush 36, 2) := by decide +kernel
theorem dX9_lastingWalls_10 : decode cX9_lastingWalls 10 = .ok (.if_icmp .ge 40, 3) := by decide +kernel
theorem dX9_lastingWalls_13 : decode cX9_lastingWalls 13 = .ok (.aload_n 0, 1) := by decide +kernel
theorem dX9_lastingWalls_14 : decode cX9_lastingWalls 14 = .ok (.iload_n 1, 1) := by decide +kernel
theorem dX9_lastingWalls_15 : decode cX9_lastingWalls 15 = .ok (.iload 5, 2) := by decide +kernel
theorem dX9_lastingWalls_17 : decode cX9_lastingWalls 17 = .ok (.invokevirtual 111, 3) := by decide +kernel
theorem dX9_lastingWalls_20 : decode cX9_lastingWalls 20 = .ok (.ifCond .eq 24, 3) := by decide +kernel
theorem dX9_lastingWalls_23 : decode cX9_lastingWalls 23 = .ok (.iload 4, 2) := by decide +kernel
theorem dX9_lastingWalls_25 : decode cX9_lastingWalls 25 = .ok (.aload_n 0, 1) := by decide +kernel
theorem dX9_lastingWalls_26 : decode cX9_lastingWalls 26 = .ok (.iload 5, 2) := by decide +kernel
theorem dX9_lastingWalls_28 : decode cX9_lastingWalls 28 = .ok (.iload_n 2, 1) := by decide +kernel
theorem dX9_lastingWalls_29 : decode cX9_lastingWalls 29 = .ok (.iload_n 3, 1) := by decide +kernel
theorem dX9_lastingWalls_30 : decode cX9_lastingWalls 30 = .ok (.aload_n 0, 1) := by decide +kernel
theorem dX9_lastingWalls_31 : decode cX9_lastingWalls 31 = .ok (.getfield 40, 3) := by decide +kernel
theorem dX9_lastingWalls_34 : decode cX9_lastingWalls 34 = .ok (.iload 5, 2) := by decide +kernel
theorem dX9_lastingWalls_36 : decode cX9_lastingWalls 36 = .ok (.iaload, 1) := by decide +kernel
theorem dX9_lastingWalls_37 : decode cX9_lastingWalls 37 = .ok (.iadd, 1) := by decide +kernel
theorem dX9_lastingWalls_38 : decode cX9_lastingWalls 38 = .ok (.invokevirtual 168, 3) := by decide +kernel
theorem dX9_lastingWalls_41 : decode cX9_lastingWalls 41 = .ok (.iadd, 1) := by decide +kernel
theorem dX9_lastingWalls_42 : decode cX9_lastingWalls 42 = .ok (.istore 4, 2) := by decide +kernel
theorem dX9_lastingWalls_44 : decode cX9_lastingWalls 44 = .ok (.iinc 5 1, 3) := by decide +kernel
theorem dX9_lastingWalls_47 : decode cX9_lastingWalls 47 = .ok (.goto (-41), 3) := by decide +kernel
theorem dX9_lastingWalls_50 : decode cX9_lastingWalls 50 = .ok (.iload 4, 2) := by decide +kernel
theorem dX9_lastingWalls_52 : decode cX9_lastingWalls 52 = .ok (.ireturn, 1) := by decide +kernel
theorem dX9_lastingWall_0 : decode cX9_lastingWall 0 = .ok (.aload_n 0, 1) := by decide +kernel
theorem dX9_lastingWall_1 : decode cX9_lastingWall 1 = .ok (.getfield 34, 3) := by decide +kernel
theorem dX9_lastingWall_4 : decode cX9_lastingWall 4 = .ok (.iload_n 1, 1) := by decide +kernel
theorem dX9_lastingWall_5 : decode cX9_lastingWall 5 = .ok (.iaload, 1) := by decide +kernel
theorem dX9_lastingWall_6 : decode cX9_lastingWall 6 = .ok (.istore 4, 2) := by decide +kernel
theorem dX9_lastingWall_8 : decode cX9_lastingWall 8 = .ok (.aload_n 0, 1) := by decide +kernel
theorem dX9_lastingWall_9 : decode cX9_lastingWall 9 = .ok (.getfield 37, 3) := by decide +kernel
theorem dX9_lastingWall_12 : decode cX9_lastingWall 12 = .ok (.iload_n 1, 1) := by decide +kernel
theorem dX9_lastingWall_13 : decode cX9_lastingWall 13 = .ok (.iaload, 1) := by decide +kernel
theorem dX9_lastingWall_14 : decode cX9_lastingWall 14 = .ok (.istore 5, 2) := by decide +kernel
theorem dX9_lastingWall_16 : decode cX9_lastingWall 16 = .ok (.iconst 0, 1) := by decide +kernel
theorem dX9_lastingWall_17 : decode cX9_lastingWall 17 = .ok (.istore 6, 2) := by decide +kernel
theorem dX9_lastingWall_19 : decode cX9_lastingWall 19 = .ok (.iload 6, 2) := by decide +kernel
theorem dX9_lastingWall_21 : decode cX9_lastingWall 21 = .ok (.iload_n 2, 1) := by decide +kernel
theorem dX9_lastingWall_22 : decode cX9_lastingWall 22 = .ok (.if_icmp .ge 69, 3) := by decide +kernel
theorem dX9_lastingWall_25 : decode cX9_lastingWall 25 = .ok (.iload_n 3, 1) := by decide +kernel
theorem dX9_lastingWall_26 : decode cX9_lastingWall 26 = .ok (.iload 4, 2) := by decide +kernel
theorem dX9_lastingWall_28 : decode cX9_lastingWall 28 = .ok (.invokestatic 126, 3) := by decide +kernel
theorem dX9_lastingWall_31 : decode cX9_lastingWall 31 = .ok (.istore 7, 2) := by decide +kernel
theorem dX9_lastingWall_33 : decode cX9_lastingWall 33 = .ok (.iload 6, 2) := by decide +kernel
theorem dX9_lastingWall_35 : decode cX9_lastingWall 35 = .ok (.ifCond .ne 17, 3) := by decide +kernel
theorem dX9_lastingWall_38 : decode cX9_lastingWall 38 = .ok (.aload_n 0, 1) := by decide +kernel
theorem dX9_lastingWall_39 : decode cX9_lastingWall 39 = .ok (.getfield 46, 3) := by decide +kernel
theorem dX9_lastingWall_42 : decode cX9_lastingWall 42 = .ok (.iload_n 1, 1) := by decide +kernel
theorem dX9_lastingWall_43 : decode cX9_lastingWall 43 = .ok (.iaload, 1) := by decide +kernel
theorem dX9_lastingWall_44 : decode cX9_lastingWall 44 = .ok (.iconst 1, 1) := by decide +kernel
theorem dX9_lastingWall_45 : decode cX9_lastingWall 45 = .ok (.if_icmp .ne 7, 3) := by decide +kernel
theorem dX9_lastingWall_48 : decode cX9_lastingWall 48 = .ok (.iconst 1, 1) := by decide +kernel
theorem dX9_lastingWall_49 : decode cX9_lastingWall 49 = .ok (.goto 4, 3) := by decide +kernel
theorem dX9_lastingWall_52 : decode cX9_lastingWall 52 = .ok (.iconst 0, 1) := by decide +kernel
theorem dX9_lastingWall_53 : decode cX9_lastingWall 53 = .ok (.istore 8, 2) := by decide +kernel
theorem dX9_lastingWall_55 : decode cX9_lastingWall 55 = .ok (.iload 4, 2) := by decide +kernel
theorem dX9_lastingWall_57 : decode cX9_lastingWall 57 = .ok (.iload 7, 2) := by decide +kernel
theorem dX9_lastingWall_59 : decode cX9_lastingWall 59 = .ok (.isub, 1) := by decide +kernel
theorem dX9_lastingWall_60 : decode cX9_lastingWall 60 = .ok (.istore 4, 2) := by decide +kernel
theorem dX9_lastingWall_62 : decode cX9_lastingWall 62 = .ok (.iload 5, 2) := by decide +kernel
theorem dX9_lastingWall_64 : decode cX9_lastingWall 64 = .ok (.iload 8, 2) := by decide +kernel
theorem dX9_lastingWall_66 : decode cX9_lastingWall 66 = .ok (.ifCond .eq 7, 3) := by decide +kernel
theorem dX9_lastingWall_69 : decode cX9_lastingWall 69 = .ok (.iconst 0, 1) := by decide +kernel
theorem dX9_lastingWall_70 : decode cX9_lastingWall 70 = .ok (.goto 12, 3) := by decide +kernel
theorem dX9_lastingWall_73 : decode cX9_lastingWall 73 = .ok (.iload_n 3, 1) := by decide +kernel
theorem dX9_lastingWall_74 : decode cX9_lastingWall 74 = .ok (.iload 7, 2) := by decide +kernel
theorem dX9_lastingWall_76 : decode cX9_lastingWall 76 = .ok (.isub, 1) := by decide +kernel
theorem dX9_lastingWall_77 : decode cX9_lastingWall 77 = .ok (.iload 5, 2) := by decide +kernel
theorem dX9_lastingWall_79 : decode cX9_lastingWall 79 = .ok (.invokestatic 126, 3) := by decide +kernel
theorem dX9_lastingWall_82 : decode cX9_lastingWall 82 = .ok (.isub, 1) := by decide +kernel
theorem dX9_lastingWall_83 : decode cX9_lastingWall 83 = .ok (.istore 5, 2) := by decide +kernel
theorem dX9_lastingWall_85 : decode cX9_lastingWall 85 = .ok (.iinc 6 1, 3) := by decide +kernel
theorem dX9_lastingWall_88 : decode cX9_lastingWall 88 = .ok (.goto (-69), 3) := by decide +kernel
theorem dX9_lastingWall_91 : decode cX9_lastingWall 91 = .ok (.iload 5, 2) := by decide +kernel
theorem dX9_lastingWall_93 : decode cX9_lastingWall 93 = .ok (.ireturn, 1) := by decide +kernel
theorem dX10_init_0 : decode cX10_init 0 = .ok (.aload_n 0, 1) := by decide +kernel
theorem dX10_init_1 : decode cX10_init 1 = .ok (.invokespecial 3, 3) := by decide +kernel
theorem dX10_init_4 : decode cX10_init 4 = .ok (.aload_n 0, 1) := by decide +kernel
theorem dX10_init_5 : decode cX10_init 5 = .ok (.bipush 36, 2) := by decide +kernel
theorem dX10_init_7 : decode cX10_init 7 = .ok (.newarray .int, 2) := by decide +kernel
theorem dX10_init_9 : decode cX10_init 9 = .ok (.putfield 9, 3) := by decide +kernel
theorem dX10_init_12 : decode cX10_init 12 = .ok (.aload_n 0, 1) := by decide +kernel
theorem dX10_init_13 : decode cX10_init 13 = .ok (.bipush 36, 2) := by decide +kernel
theorem dX10_init_15 : decode cX10_init 15 = .ok (.newarray .int, 2) := by decide +kernel
theorem dX10_init_17 : decode cX10_init 17 = .ok (.putfield 15, 3) := by decide +kernel
theorem dX10_init_20 : decode cX10_init 20 = .ok (.aload_n 0, 1) := by decide +kernel
theorem dX10_init_21 : decode cX10_init 21 = .ok (.bipush 36, 2) := by decide +kernel
theorem dX10_init_23 : decode cX10_init 23 = .ok (.newarray .int, 2) := by decide +kernel
theorem dX10_init_25 : decode cX10_init 25 = .ok (.putfield 18, 3) := by decide +kernel
theorem dX10_init_28 : decode cX10_init 28 = .ok (.aload_n 0, 1) := by decide +kernel
theorem dX10_init_29 : decode cX10_init 29 = .ok (.aload_n 1, 1) := by decide +kernel
theorem dX10_init_30 : decode cX10_init 30 = .ok (.putfield 21, 3) := by decide +kernel
theorem dX10_init_33 : decode cX10_init 33 = .ok (.return_, 1) := by decide +kernel
theorem dX10_parse_0 : decode cX10_parse 0 = .ok (.aload_n 2, 1) := by decide +kernel
theorem dX10_parse_1 : decode cX10_parse 1 = .ok (.invokevirtual 25, 3) := by decide +kernel
theorem dX10_parse_4 : decode cX10_parse 4 = .ok (.aload_n 0, 1) := by decide +kernel
theorem dX10_parse_5 : decode cX10_parse 5 = .ok (.getfield 9, 3) := by decide +kernel
theorem dX10_parse_8 : decode cX10_parse 8 = .ok (.iconst 0, 1) := by decide +kernel
theorem dX10_parse_9 : decode cX10_parse 9 = .ok (.invokestatic 30, 3) := by decide +kernel
theorem dX10_parse_12 : decode cX10_parse 12 = .ok (.aload_n 0, 1) := by decide +kernel
theorem dX10_parse_13 : decode cX10_parse 13 = .ok (.getfield 15, 3) := by decide +kernel
theorem dX10_parse_16 : decode cX10_parse 16 = .ok (.iconst 0, 1) := by decide +kernel
theorem dX10_parse_17 : decode cX10_parse 17 = .ok (.invokestatic 30, 3) := by decide +kernel
theorem dX10_parse_20 : decode cX10_parse 20 = .ok (.aload_n 0, 1) := by decide +kernel
theorem dX10_parse_21 : decode cX10_parse 21 = .ok (.getfield 18, 3) := by decide +kernel
theorem dX10_parse_24 : decode cX10_parse 24 = .ok (.iconst 0, 1) := by decide +kernel
theorem dX10_parse_25 : decode cX10_parse 25 = .ok (.invokestatic 30, 3) := by decide +kernel
theorem dX10_parse_28 : decode cX10_parse 28 = .ok (.aload_n 0, 1) := by decide +kernel
theorem dX10_parse_29 : decode cX10_parse 29 = .ok (.getfield 21, 3) := by decide +kernel
theorem dX10_parse_32 : decode cX10_parse 32 = .ok (.iload_n 1, 1) := by decide +kernel
theorem dX10_parse_33 : decode cX10_parse 33 = .ok (.invokevirtual 36, 3) := by decide +kernel
theorem dX10_parse_36 : decode cX10_parse 36 = .ok (.aload_n 0, 1) := by decide +kernel
theorem dX10_parse_37 : decode cX10_parse 37 = .ok (.aload_n 2, 1) := by decide +kernel
theorem dX10_parse_38 : decode cX10_parse 38 = .ok (.invokevirtual 42, 3) := by decide +kernel
theorem dX10_parse_41 : decode cX10_parse 41 = .ok (.ifCond .ne 5, 3) := by decide +kernel
theorem dX10_parse_44 : decode cX10_parse 44 = .ok (.iconst 0, 1) := by decide +kernel
theorem dX10_parse_45 : decode cX10_parse 45 = .ok (.ireturn, 1) := by decide +kernel
theorem dX10_parse_46 : decode cX10_parse 46 = .ok (.iconst 0, 1) := by decide +kernel
theorem dX10_parse_47 : decode cX10_parse 47 = .ok (.istore_n 3, 1) := by decide +kernel
theorem dX10_parse_48 : decode cX10_parse 48 = .ok (.iload_n 3, 1) := by decide +kernel
theorem dX10_parse_49 : decode cX10_parse 49 = .ok (.sipush 900, 3) := by decide +kernel
theorem dX10_parse_52 : decode cX10_parse 52 = .ok (.if_icmp .ge 41, 3) := by decide +kernel
theorem dX10_parse_55 : decode cX10_parse 55 = .ok (.aload_n 0, 1) := by decide +kernel
theorem dX10_parse_56 : decode cX10_parse 56 = .ok (.getfield 21, 3) := by decide +kernel
theorem dX10_parse_59 : decode cX10_parse 59 = .ok (.getfield 46, 3) := by decide +kernel
theorem dX10_parse_62 : decode cX10_parse 62 = .ok (.ifCond .eq 31, 3) := by decide +kernel
theorem dX10_parse_65 : decode cX10_parse 65 = .ok (.aload_n 0, 1) := by decide +kernel
theorem dX10_parse_66 : decode cX10_parse 66 = .ok (.aload_n 2, 1) := by decide +kernel
theorem dX10_parse_67 : decode cX10_parse 67 = .ok (.invokevirtual 50, 3) := by decide +kernel
theorem dX10_parse_70 : decode cX10_parse 70 = .ok (.ifCond .eq 15, 3) := by decide +kernel
theorem dX10_parse_73 : decode cX10_parse 73 = .ok (.aload_n 0, 1) := by decide +kernel
theorem dX10_parse_74 : decode cX10_parse 74 = .ok (.getfield 21, 3) := by decide +kernel
theorem dX10_parse_77 : decode cX10_parse 77 = .ok (.bipush 59, 2) := by decide +kernel
theorem dX10_parse_79 : decode cX10_parse 79 = .ok (.invokevirtual 53, 3) := by decide +kernel
theorem dX10_parse_82 : decode cX10_parse 82 = .ok (.ifCond .ne 5, 3) := by decide +kernel
theorem dX10_parse_85 : decode cX10_parse 85 = .ok (.iconst 0, 1) := by decide +kernel
theorem dX10_parse_86 : decode cX10_parse 86 = .ok (.ireturn, 1) := by decide +kernel
theorem dX10_parse_87 : decode cX10_parse 87 = .ok (.iinc 3 1, 3) := by decide +kernel
theorem dX10_parse_90 : decode cX10_parse 90 = .ok (.goto (-42), 3) := by decide +kernel
theorem dX10_parse_93 : decode cX10_parse 93 = .ok (.aload_n 2, 1) := by decide +kernel
theorem dX10_parse_94 : decode cX10_parse 94 = .ok (.getfield 57, 3) := by decide +kernel
theorem dX10_parse_97 : decode cX10_parse 97 = .ok (.iconst 0, 1) := by decide +kernel
theorem dX10_parse_98 : decode cX10_parse 98 = .ok (.aload_n 2, 1) := by decide +kernel
theorem dX10_parse_99 : decode cX10_parse 99 = .ok (.getfield 60, 3) := by decide +kernel
theorem dX10_parse_102 : decode cX10_parse 102 = .ok (.iconst 0, 1) := by decide +kernel
theorem dX10_parse_103 : decode cX10_parse 103 = .ok (.bipush 36, 2) := by decide +kernel
theorem dX10_parse_105 : decode cX10_parse 105 = .ok (.invokestatic 63, 3) := by decide +kernel
theorem dX10_parse_108 : decode cX10_parse 108 = .ok (.iconst 1, 1) := by decide +kernel
theorem dX10_parse_109 : decode cX10_parse 109 = .ok (.ireturn, 1) := by decide +kernel
theorem dX10_takeSize_0 : decode cX10_takeSize 0 = .ok (.aload_n 0, 1) := by decide +kernel
theorem dX10_takeSize_1 : decode cX10_takeSize 1 = .ok (.getfield 21, 3) := by decide +kernel
theorem dX10_takeSize_4 : decode cX10_takeSize 4 = .ok (.getstatic 69, 3) := by decide +kernel
theorem dX10_takeSize_7 : decode cX10_takeSize 7 = .ok (.invokevirtual 75, 3) := by decide +kernel
theorem dX10_takeSize_10 : decode cX10_takeSize 10 = .ok (.ifCond .eq 16, 3) := by decide +kernel
theorem dX10_takeSize_13 : decode cX10_takeSize 13 = .ok (.aload_n 0, 1) := by decide +kernel
theorem dX10_takeSize_14 : decode cX10_takeSize 14 = .ok (.getfield 21, 3) := by decide +kernel
theorem dX10_takeSize_17 : decode cX10_takeSize 17 = .ok (.iconst 2, 1) := by decide +kernel
theorem dX10_takeSize_18 : decode cX10_takeSize 18 = .ok (.bipush 6, 2) := by decide +kernel
theorem dX10_takeSize_20 : decode cX10_takeSize 20 = .ok (.invokevirtual 79, 3) := by decide +kernel
theorem dX10_takeSize_23 : decode cX10_takeSize 23 = .ok (.ifCond .ne 5, 3) := by decide +kernel
theorem dX10_takeSize_26 : decode cX10_takeSize 26 = .ok (.iconst 0, 1) := by decide +kernel
theorem dX10_takeSize_27 : decode cX10_takeSize 27 = .ok (.ireturn, 1) := by decide +kernel
theorem dX10_takeSize_28 : decode cX10_takeSize 28 = .ok (.aload_n 0, 1) := by decide +kernel
theorem dX10_takeSize_29 : decode cX10_takeSize 29 = .ok (.getfield 21, 3) := by decide +kernel
theorem dX10_takeSize_32 : decode cX10_takeSize 32 = .ok (.getfield 83, 3) := by decide +kernel
theorem dX10_takeSize_35 : decode cX10_takeSize 35 = .ok (.iconst 2, 1) := by decide +kernel
theorem dX10_takeSize_36 : decode cX10_takeSize 36 = .ok (.irem, 1) := by decide +kernel
theorem dX10_takeSize_37 : decode cX10_takeSize 37 = .ok (.ifCond .eq 19, 3) := by decide +kernel
theorem dX10_takeSize_40 : decode cX10_takeSize 40 = .ok (.aload_n 0, 1) := by decide +kernel
theorem dX10_takeSize_41 : decode cX10_takeSize 41 = .ok (.getfield 21, 3) := by decide +kernel
theorem dX10_takeSize_44 : decode cX10_takeSize 44 = .ok (.iconst 4, 1) := by decide +kernel
theorem dX10_takeSize_45 : decode cX10_takeSize 45 = .ok (.aload_n 0, 1) := by decide +kernel
theorem dX10_takeSize_46 : decode cX10_takeSize 46 = .ok (.getfield 21, 3) := by decide +kernel
theorem dX10_takeSize_49 : decode cX10_takeSize 49 = .ok (.getfield 86, 3) := by decide +kernel
theorem dX10_takeSize_52 : decode cX10_takeSize 52 = .ok (.invokevirtual 89, 3) := by decide +kernel
theorem dX10_takeSize_55 : decode cX10_takeSize 55 = .ok (.ireturn, 1) := by decide +kernel
theorem dX10_takeSize_56 : decode cX10_takeSize 56 = .ok (.aload_n 1, 1) := by decide +kernel
theorem dX10_takeSize_57 : decode cX10_takeSize 57 = .ok (.aload_n 0, 1) := by decide +kernel
theorem dX10_takeSize_58 : decode cX10_takeSize 58 = .ok (.getfield 21, 3) := by decide +kernel
theorem dX10_takeSize_61 : decode cX10_takeSize 61 = .ok (.getfield 83, 3) := by decide +kernel
theorem dX10_takeSize_64 : decode cX10_takeSize 64 = .ok (.putfield 92, 3) := by decide +kernel
theorem dX10_takeSize_67 : decode cX10_takeSize 67 = .ok (.aload_n 0, 1) := by decide +kernel
theorem dX10_takeSize_68 : decode cX10_takeSize 68 = .ok (.getfield 21, 3) := by decide +kernel
theorem dX10_takeSize_71 : decode cX10_takeSize 71 = .ok (.getstatic 95, 3) := by decide +kernel
theorem dX10_takeSize_74 : decode cX10_takeSize 74 = .ok (.invokevirtual 75, 3) := by decide +kernel
theorem dX10_takeSize_77 : decode cX10_takeSize 77 = .ok (.ifCond .eq 16, 3) := by decide +kernel
theorem dX10_takeSize_80 : decode cX10_takeSize 80 = .ok (.aload_n 0, 1) := by decide +kernel
theorem dX10_takeSize_81 : decode cX10_takeSize 81 = .ok (.getfield 21, 3) := by decide +kernel
theorem dX10_takeSize_84 : decode cX10_takeSize 84 = .ok (.iconst 1, 1) := by decide +kernel
theorem dX10_takeSize_85 : decode cX10_takeSize 85 = .ok (.bipush 6, 2) := by decide +kernel
theorem dX10_takeSize_87 : decode cX10_takeSize 87 = .ok (.invokevirtual 79, 3) := by decide +kernel
theorem dX10_takeSize_90 : decode cX10_takeSize 90 = .ok (.ifCond .ne 5, 3) := by decide +kernel
theorem dX10_takeSize_93 : decode cX10_takeSize 93 = .ok (.iconst 0, 1) := by decide +kernel
theorem dX10_takeSize_94 : decode cX10_takeSize 94 = .ok (.ireturn, 1) := by decide +kernel
theorem dX10_takeSize_95 : decode cX10_takeSize 95 = .ok (.aload_n 1, 1) := by decide +kernel
theorem dX10_takeSize_96 : decode cX10_takeSize 96 = .ok (.aload_n 0, 1) := by decide +kernel
theorem dX10_takeSize_97 : decode cX10_takeSize 97 = .ok (.getfield 21, 3) := by decide +kernel
theorem dX10_takeSize_100 : decode cX10_takeSize 100 = .ok (.getfield 83, 3) := by decide +kernel
theorem dX10_takeSize_103 : decode cX10_takeSize 103 = .ok (.putfield 98, 3) := by decide +kernel
theorem dX10_takeSize_106 : decode cX10_takeSize 106 = .ok (.aload_n 0, 1) := by decide +kernel
theorem dX10_takeSize_107 : decode cX10_takeSize 107 = .ok (.getfield 21, 3) := by decide +kernel
theorem dX10_takeSize_110 : decode cX10_takeSize 110 = .ok (.bipush 59, 2) := by decide +kernel
theorem dX10_takeSize_112 : decode cX10_takeSize 112 = .ok (.invokevirtual 53, 3) := by decide +kernel
theorem dX10_takeSize_115 : decode cX10_takeSize 115 = .ok (.ireturn, 1) := by decide +kernel
theorem dX10_takePart_0 : decode cX10_takePart 0 = .ok (.aload_n 0, 1) := by decide +kernel
theorem dX10_takePart_1 : decode cX10_takePart 1 = .ok (.getfield 21, 3) := by decide +kernel
theorem dX10_takePart_4 : decode cX10_takePart 4 = .ok (.getfield 101, 3) := by decide +kernel
theorem dX10_takePart_7 : decode cX10_takePart 7 = .ok (.getstatic 104, 3) := by decide +kernel
theorem dX10_takePart_10 : decode cX10_takePart 10 = .ok (.if_acmp .ne 9, 3) := by decide +kernel
theorem dX10_takePart_13 : decode cX10_takePart 13 = .ok (.aload_n 0, 1) := by decide +kernel
theorem dX10_takePart_14 : decode cX10_takePart 14 = .ok (.aload_n 1, 1) := by decide +kernel
theorem dX10_takePart_15 : decode cX10_takePart 15 = .ok (.invokevirtual 107, 3) := by decide +kernel
theorem dX10_takePart_18 : decode cX10_takePart 18 = .ok (.ireturn, 1) := by decide +kernel
theorem dX10_takePart_19 : decode cX10_takePart 19 = .ok (.aload_n 0, 1) := by decide +kernel
theorem dX10_takePart_20 : decode cX10_takePart 20 = .ok (.getfield 21, 3) := by decide +kernel
theorem dX10_takePart_23 : decode cX10_takePart 23 = .ok (.getfield 101, 3) := by decide +kernel
theorem dX10_takePart_26 : decode cX10_takePart 26 = .ok (.getstatic 110, 3) := by decide +kernel
theorem dX10_takePart_29 : decode cX10_takePart 29 = .ok (.if_acmp .ne 22, 3) := by decide +kernel
theorem dX10_takePart_32 : decode cX10_takePart 32 = .ok (.aload_n 0, 1) := by decide +kernel
theorem dX10_takePart_33 : decode cX10_takePart 33 = .ok (.aload_n 1, 1) := by decide +kernel
theorem dX10_takePart_34 : decode cX10_takePart 34 = .ok (.aload_n 1, 1) := by decide +kernel
theorem dX10_takePart_35 : decode cX10_takePart 35 = .ok (.getfield 113, 3) := by decide +kernel
theorem dX10_takePart_38 : decode cX10_takePart 38 = .ok (.aload_n 0, 1) := by decide +kernel
theorem dX10_takePart_39 : decode cX10_takePart 39 = .ok (.getfield 9, 3) := by decide +kernel
theorem dX10_takePart_42 : decode cX10_takePart 42 = .ok (.getstatic 116, 3) := by decide +kernel
theorem dX10_takePart_45 : decode cX10_takePart 45 = .ok (.bipush 99, 2) := by decide +kernel
theorem dX10_takePart_47 : decode cX10_takePart 47 = .ok (.invokevirtual 119, 3) := by decide +kernel
theorem dX10_takePart_50 : decode cX10_takePart 50 = .ok (.ireturn, 1) := by decide +kernel
theorem dX10_takePart_51 : decode cX10_takePart 51 = .ok (.aload_n 0, 1) := by decide +kernel
theorem dX10_takePart_52 : decode cX10_takePart 52 = .ok (.getfield 21, 3) := by decide +kernel
theorem dX10_takePart_55 : decode cX10_takePart 55 = .ok (.getfield 101, 3) := by decide +kernel
theorem dX10_takePart_58 : decode cX10_takePart 58 = .ok (.getstatic 123, 3) := by decide +kernel
theorem dX10_takePart_61 : decode cX10_takePart 61 = .ok (.if_acmp .ne 22, 3) := by decide +kernel
theorem dX10_takePart_64 : decode cX10_takePart 64 = .ok (.aload_n 0, 1) := by decide +kernel
theorem dX10_takePart_65 : decode cX10_takePart 65 = .ok (.aload_n 1, 1) := by decide +kernel
theorem dX10_takePart_66 : decode cX10_takePart 66 = .ok (.aload_n 1, 1) := by decide +kernel
theorem dX10_takePart_67 : decode cX10_takePart 67 = .ok (.getfield 57, 3) := by decide +kernel
theorem dX10_takePart_70 : decode cX10_takePart 70 = .ok (.aload_n 0, 1) := by decide +kernel
theorem dX10_takePart_71 : decode cX10_takePart 71 = .ok (.getfield 15, 3) := by decide +kernel
theorem dX10_takePart_74 : decode cX10_takePart 74 = .ok (.getstatic 126, 3) := by decide +kernel
theorem dX10_takePart_77 : decode cX10_takePart 77 = .ok (.bipush 99, 2) := by decide +kernel
theorem dX10_takePart_79 : decode cX10_takePart 79 = .ok (.invokevirtual 119, 3) := by decide +kernel
theorem dX10_takePart_82 : decode cX10_takePart 82 = .ok (.ireturn, 1) := by decide +kernel
theorem dX10_takePart_83 : decode cX10_takePart 83 = .ok (.aload_n 0, 1) := by decide +kernel
theorem dX10_takePart_84 : decode cX10_takePart 84 = .ok (.getfield 21, 3) := by decide +kernel
theorem dX10_takePart_87 : decode cX10_takePart 87 = .ok (.getfield 101, 3) := by decide +kernel
theorem dX10_takePart_90 : decode cX10_takePart 90 = .ok (.getstatic 129, 3) := by decide +kernel
theorem dX10_takePart_93 : decode cX10_takePart 93 = .ok (.if_acmp .ne 22, 3) := by decide +kernel
theorem dX10_takePart_96 : decode cX10_takePart 96 = .ok (.aload_n 0, 1) := by decide +kernel
theorem dX10_takePart_97 : decode cX10_takePart 97 = .ok (.aload_n 1, 1) := by decide +kernel
theorem dX10_takePart_98 : decode cX10_takePart 98 = .ok (.aload_n 1, 1) := by decide +kernel
theorem dX10_takePart_99 : decode cX10_takePart 99 = .ok (.getfield 132, 3) := by decide +kernel
theorem dX10_takePart_102 : decode cX10_takePart 102 = .ok (.aload_n 0, 1) := by decide +kernel
theorem dX10_takePart_103 : decode cX10_takePart 103 = .ok (.getfield 18, 3) := by decide +kernel
theorem dX10_takePart_106 : decode cX10_takePart 106 = .ok (.getstatic 135, 3) := by decide +kernel
theorem dX10_takePart_109 : decode cX10_takePart 109 = .ok (.bipush 9, 2) := by decide +kernel
theorem dX10_takePart_111 : decode cX10_takePart 111 = .ok (.invokevirtual 119, 3) := by decide +kernel
theorem dX10_takePart_114 : decode cX10_takePart 114 = .ok (.ireturn, 1) := by decide +kernel
theorem dX10_takePart_115 : decode cX10_takePart 115 = .ok (.aload_n 0, 1) := by decide +kernel
theorem dX10_takePart_116 : decode cX10_takePart 116 = .ok (.getfield 21, 3) := by decide +kernel
theorem dX10_takePart_119 : decode cX10_takePart 119 = .ok (.getstatic 138, 3) := by decide +kernel
theorem dX10_takePart_122 : decode cX10_takePart 122 = .ok (.invokevirtual 75, 3) := by decide +kernel
theorem dX10_takePart_125 : decode cX10_takePart 125 = .ok (.ifCond .eq 15, 3) := by decide +kernel
theorem dX10_takePart_128 : decode cX10_takePart 128 = .ok (.aload_n 0, 1) := by decide +kernel
theorem dX10_takePart_129 : decode cX10_takePart 129 = .ok (.aload_n 1, 1) := by decide +kernel
theorem dX10_takePart_130 : decode cX10_takePart 130 = .ok (.invokevirtual 141, 3) := by decide +kernel
theorem dX10_takePart_133 : decode cX10_takePart 133 = .ok (.ifCond .eq 7, 3) := by decide +kernel
theorem dX10_takePart_136 : decode cX10_takePart 136 = .ok (.iconst 1, 1) := by decide +kernel
theorem dX10_takePart_137 : decode cX10_takePart 137 = .ok (.goto 4, 3) := by decide +kernel
theorem dX10_takePart_140 : decode cX10_takePart 140 = .ok (.iconst 0, 1) := by decide +kernel
theorem dX10_takePart_141 : decode cX10_takePart 141 = .ok (.ireturn, 1) := by decide +kernel
theorem dX10_takeSchool_0 : decode cX10_takeSchool 0 = .ok (.aload_n 1, 1) := by decide +kernel
theorem dX10_takeSchool_1 : decode cX10_takeSchool 1 = .ok (.getfield 144, 3) := by decide +kernel
theorem dX10_takeSchool_4 : decode cX10_takeSchool 4 = .ok (.istore_n 2, 1) := by decide +kernel
theorem dX10_takeSchool_5 : decode cX10_takeSchool 5 = .ok (.iload_n 2, 1) := by decide +kernel
theorem dX10_takeSchool_6 : decode cX10_takeSchool 6 = .ok (.i2l, 1) := by decide +kernel
theorem dX10_takeSchool_7 : decode cX10_takeSchool 7 = .ok (.iconst 0, 1) := by decide +kernel
theorem dX10_takeSchool_8 : decode cX10_takeSchool 8 = .ok (.iconst 1, 1) := by decide +kernel
theorem dX10_takeSchool_9 : decode cX10_takeSchool 9 = .ok (.invokestatic 147, 3) := by decide +kernel
theorem dX10_takeSchool_12 : decode cX10_takeSchool 12 = .ok (.ifCond .ne 20, 3) := by decide +kernel
theorem dX10_takeSchool_15 : decode cX10_takeSchool 15 = .ok (.aload_n 0, 1) := by decide +kernel
theorem dX10_takeSchool_16 : decode cX10_takeSchool 16 = .ok (.getfield 21, 3) := by decide +kernel
theorem dX10_takeSchool_19 : decode cX10_takeSchool 19 = .ok (.bipush 6, 2) := by decide +kernel
theorem dX10_takeSchool_21 : decode cX10_takeSchool 21 = .ok (.aload_n 0, 1) := by decide +kernel
theorem dX10_takeSchool_22 : decode cX10_takeSchool 22 = .ok (.getfield 21, 3) := by decide +kernel
theorem dX10_takeSchool_25 : decode cX10_takeSchool 25 = .ok (.getfield 151, 3) := by decide +kernel
theorem dX10_takeSchool_28 : decode cX10_takeSchool 28 = .ok (.invokevirtual 89, 3) := by decide +kernel
theorem dX10_takeSchool_31 : decode cX10_takeSchool 31 = .ok (.ireturn, 1) := by decide +kernel
theorem dX10_takeSchool_32 : decode cX10_takeSchool 32 = .ok (.aload_n 0, 1) := by decide +kernel
theorem dX10_takeSchool_33 : decode cX10_takeSchool 33 = .ok (.getfield 21, 3) := by decide +kernel
theorem dX10_takeSchool_36 : decode cX10_takeSchool 36 = .ok (.invokevirtual 154, 3) := by decide +kernel
theorem dX10_takeSchool_39 : decode cX10_takeSchool 39 = .ok (.aload_n 0, 1) := by decide +kernel
theorem dX10_takeSchool_40 : decode cX10_takeSchool 40 = .ok (.getfield 21, 3) := by decide +kernel
theorem dX10_takeSchool_43 : decode cX10_takeSchool 43 = .ok (.invokevirtual 157, 3) := by decide +kernel
theorem dX10_takeSchool_46 : decode cX10_takeSchool 46 = .ok (.ifCond .ne 11, 3) := by decide +kernel
theorem dX10_takeSchool_49 : decode cX10_takeSchool 49 = .ok (.aload_n 0, 1) := by decide +kernel
theorem dX10_takeSchool_50 : decode cX10_takeSchool 50 = .ok (.getfield 21, 3) := by decide +kernel
theorem dX10_takeSchool_53 : decode cX10_takeSchool 53 = .ok (.invokevirtual 161, 3) := by decide +kernel
theorem dX10_takeSchool_56 : decode cX10_takeSchool 56 = .ok (.ireturn, 1) := by decide +kernel
theorem dX10_takeSchool_57 : decode cX10_takeSchool 57 = .ok (.iload_n 2, 1) := by decide +kernel
theorem dX10_takeSchool_58 : decode cX10_takeSchool 58 = .ok (.ifCond .ne 17, 3) := by decide +kernel
theorem dX10_takeSchool_61 : decode cX10_takeSchool 61 = .ok (.aload_n 0, 1) := by decide +kernel
theorem dX10_takeSchool_62 : decode cX10_takeSchool 62 = .ok (.aload_n 0, 1) := by decide +kernel
theorem dX10_takeSchool_63 : decode cX10_takeSchool 63 = .ok (.getfield 21, 3) := by decide +kernel
theorem dX10_takeSchool_66 : decode cX10_takeSchool 66 = .ok (.getfield 164, 3) := by decide +kernel
theorem dX10_takeSchool_69 : decode cX10_takeSchool 69 = .ok (.putfield 168, 3) := by decide +kernel
theorem dX10_takeSchool_72 : decode cX10_takeSchool 72 = .ok (.goto 34, 3) := by decide +kernel
theorem dX10_takeSchool_75 : decode cX10_takeSchool 75 = .ok (.aload_n 0, 1) := by decide +kernel
theorem dX10_takeSchool_76 : decode cX10_takeSchool 76 = .ok (.getfield 168, 3) := by decide +kernel
theorem dX10_takeSchool_79 : decode cX10_takeSchool 79 = .ok (.aload_n 0, 1) := by decide +kernel
theorem dX10_takeSchool_80 : decode cX10_takeSchool 80 = .ok (.getfield 21, 3) := by decide +kernel
theorem dX10_takeSchool_83 : decode cX10_takeSchool 83 = .ok (.getfield 164, 3) := by decide +kernel
theorem dX10_takeSchool_86 : decode cX10_takeSchool 86 = .ok (.lcmp, 1) := by decide +kernel
theorem dX10_takeSchool_87 : decode cX10_takeSchool 87 = .ok (.ifCond .ne 19, 3) := by decide +kernel
theorem dX10_takeSchool_90 : decode cX10_takeSchool 90 = .ok (.aload_n 0, 1) := by decide +kernel
theorem dX10_takeSchool_91 : decode cX10_takeSchool 91 = .ok (.getfield 21, 3) := by decide +kernel
theorem dX10_takeSchool_94 : decode cX10_takeSchool 94 = .ok (.iconst 3, 1) := by decide +kernel
theorem dX10_takeSchool_95 : decode cX10_takeSchool 95 = .ok (.aload_n 0, 1) := by decide +kernel
theorem dX10_takeSchool_96 : decode cX10_takeSchool 96 = .ok (.getfield 21, 3) := by decide +kernel
theorem dX10_takeSchool_99 : decode cX10_takeSchool 99 = .ok (.getfield 151, 3) := by decide +kernel
theorem dX10_takeSchool_102 : decode cX10_takeSchool 102 = .ok (.invokevirtual 89, 3) := by decide +kernel
theorem dX10_takeSchool_105 : decode cX10_takeSchool 105 = .ok (.ireturn, 1) := by decide +kernel
theorem dX10_takeSchool_106 : decode cX10_takeSchool 106 = .ok (.aload_n 0, 1) := by decide +kernel
theorem dX10_takeSchool_107 : decode cX10_takeSchool 107 = .ok (.getfield 21, 3) := by decide +kernel
theorem dX10_takeSchool_110 : decode cX10_takeSchool 110 = .ok (.invokevirtual 154, 3) := by decide +kernel
theorem dX10_takeSchool_113 : decode cX10_takeSchool 113 = .ok (.aload_n 0, 1) := by decide +kernel
theorem dX10_takeSchool_114 : decode cX10_takeSchool 114 = .ok (.getfield 21, 3) := by decide +kernel
theorem dX10_takeSchool_117 : decode cX10_takeSchool 117 = .ok (.getstatic 171, 3) := by decide +kernel
theorem dX10_takeSchool_120 : decode cX10_takeSchool 120 = .ok (.invokevirtual 75, 3) := by decide +kernel
theorem dX10_takeSchool_123 : decode cX10_takeSchool 123 = .ok (.ifCond .eq 16, 3) := by decide +kernel
theorem dX10_takeSchool_126 : decode cX10_takeSchool 126 = .ok (.aload_n 0, 1) := by decide +kernel
theorem dX10_takeSchool_127 : decode cX10_takeSchool 127 = .ok (.getfield 21, 3) := by decide +kernel
theorem dX10_takeSchool_130 : decode cX10_takeSchool 130 = .ok (.iconst 0, 1) := by decide +kernel
theorem dX10_takeSchool_131 : decode cX10_takeSchool 131 = .ok (.bipush 40, 2) := by decide +kernel
theorem dX10_takeSchool_133 : decode cX10_takeSchool 133 = .ok (.invokevirtual 79, 3) := by decide +kernel
theorem dX10_takeSchool_136 : decode cX10_takeSchool 136 = .ok (.ifCond .ne 5, 3) := by decide +kernel
theorem dX10_takeSchool_139 : decode cX10_takeSchool 139 = .ok (.iconst 0, 1) := by decide +kernel
theorem dX10_takeSchool_140 : decode cX10_takeSchool 140 = .ok (.ireturn, 1) := by decide +kernel
theorem dX10_takeSchool_141 : decode cX10_takeSchool 141 = .ok (.aload_n 1, 1) := by decide +kernel
theorem dX10_takeSchool_142 : decode cX10_takeSchool 142 = .ok (.getfield 174, 3) := by decide +kernel
theorem dX10_takeSchool_145 : decode cX10_takeSchool 145 = .ok (.iload_n 2, 1) := by decide +kernel
theorem dX10_takeSchool_146 : decode cX10_takeSchool 146 = .ok (.aload_n 0, 1) := by decide +kernel
theorem dX10_takeSchool_147 : decode cX10_takeSchool 147 = .ok (.getfield 21, 3) := by decide +kernel
theorem dX10_takeSchool_150 : decode cX10_takeSchool 150 = .ok (.getfield 83, 3) := by decide +kernel
theorem dX10_takeSchool_153 : decode cX10_takeSchool 153 = .ok (.iastore, 1) := by decide +kernel
theorem dX10_takeSchool_154 : decode cX10_takeSchool 154 = .ok (.aload_n 1, 1) := by decide +kernel
theorem dX10_takeSchool_155 : decode cX10_takeSchool 155 = .ok (.dup, 1) := by decide +kernel
theorem dX10_takeSchool_156 : decode cX10_takeSchool 156 = .ok (.getfield 144, 3) := by decide +kernel
theorem dX10_takeSchool_159 : decode cX10_takeSchool 159 = .ok (.iconst 1, 1) := by decide +kernel
theorem dX10_takeSchool_160 : decode cX10_takeSchool 160 = .ok (.iadd, 1) := by decide +kernel
theorem dX10_takeSchool_161 : decode cX10_takeSchool 161 = .ok (.putfield 144, 3) := by decide +kernel
theorem dX10_takeSchool_164 : decode cX10_takeSchool 164 = .ok (.iconst 1, 1) := by decide +kernel
theorem dX10_takeSchool_165 : decode cX10_takeSchool 165 = .ok (.ireturn, 1) := by decide +kernel
theorem dX10_takeHeap_0 : decode cX10_takeHeap 0 = .ok (.aload_n 0, 1) := by decide +kernel
theorem dX10_takeHeap_1 : decode cX10_takeHeap 1 = .ok (.getfield 21, 3) := by decide +kernel
theorem dX10_takeHeap_4 : decode cX10_takeHeap 4 = .ok (.invokevirtual 154, 3) := by decide +kernel
theorem dX10_takeHeap_7 : decode cX10_takeHeap 7 = .ok (.aload_n 0, 1) := by decide +kernel
theorem dX10_takeHeap_8 : decode cX10_takeHeap 8 = .ok (.getfield 21, 3) := by decide +kernel
theorem dX10_takeHeap_11 : decode cX10_takeHeap 11 = .ok (.iconst 0, 1) := by decide +kernel
theorem dX10_takeHeap_12 : decode cX10_takeHeap 12 = .ok (.aload_n 1, 1) := by decide +kernel
theorem dX10_takeHeap_13 : decode cX10_takeHeap 13 = .ok (.getfield 92, 3) := by decide +kernel
theorem dX10_takeHeap_16 : decode cX10_takeHeap 16 = .ok (.iconst 1, 1) := by decide +kernel
theorem dX10_takeHeap_17 : decode cX10_takeHeap 17 = .ok (.isub, 1) := by decide +kernel
theorem dX10_takeHeap_18 : decode cX10_takeHeap 18 = .ok (.invokevirtual 79, 3) := by decide +kernel
theorem dX10_takeHeap_21 : decode cX10_takeHeap 21 = .ok (.ifCond .ne 5, 3) := by decide +kernel
theorem dX10_takeHeap_24 : decode cX10_takeHeap 24 = .ok (.iconst 0, 1) := by decide +kernel
theorem dX10_takeHeap_25 : decode cX10_takeHeap 25 = .ok (.ireturn, 1) := by decide +kernel
theorem dX10_takeHeap_26 : decode cX10_takeHeap 26 = .ok (.aload_n 0, 1) := by decide +kernel
theorem dX10_takeHeap_27 : decode cX10_takeHeap 27 = .ok (.getfield 21, 3) := by decide +kernel
theorem dX10_takeHeap_30 : decode cX10_takeHeap 30 = .ok (.getfield 83, 3) := by decide +kernel
theorem dX10_takeHeap_33 : decode cX10_takeHeap 33 = .ok (.istore 6, 2) := by decide +kernel
theorem dX10_takeHeap_35 : decode cX10_takeHeap 35 = .ok (.aload_n 0, 1) := by decide +kernel
theorem dX10_takeHeap_36 : decode cX10_takeHeap 36 = .ok (.getfield 21, 3) := by decide +kernel
theorem dX10_takeHeap_39 : decode cX10_takeHeap 39 = .ok (.iconst 0, 1) := by decide +kernel
theorem dX10_takeHeap_40 : decode cX10_takeHeap 40 = .ok (.aload_n 1, 1) := by decide +kernel
theorem dX10_takeHeap_41 : decode cX10_takeHeap 41 = .ok (.getfield 98, 3) := by decide +kernel
theorem dX10_takeHeap_44 : decode cX10_takeHeap 44 = .ok (.iconst 1, 1) := by decide +kernel
theorem dX10_takeHeap_45 : decode cX10_takeHeap 45 = .ok (.isub, 1) := by decide +kernel
theorem dX10_takeHeap_46 : decode cX10_takeHeap 46 = .ok (.invokevirtual 79, 3) := by decide +kernel
theorem dX10_takeHeap_49 : decode cX10_takeHeap 49 = .ok (.ifCond .ne 5, 3) := by decide +kernel
theorem dX10_takeHeap_52 : decode cX10_takeHeap 52 = .ok (.iconst 0, 1) := by decide +kernel
theorem dX10_takeHeap_53 : decode cX10_takeHeap 53 = .ok (.ireturn, 1) := by decide +kernel
theorem dX10_takeHeap_54 : decode cX10_takeHeap 54 = .ok (.aload_n 0, 1) := by decide +kernel
theorem dX10_takeHeap_55 : decode cX10_takeHeap 55 = .ok (.getfield 21, 3) := by decide +kernel
theorem dX10_takeHeap_58 : decode cX10_takeHeap 58 = .ok (.getfield 83, 3) := by decide +kernel
theorem dX10_takeHeap_61 : decode cX10_takeHeap 61 = .ok (.bipush 6, 2) := by decide +kernel
theorem dX10_takeHeap_63 : decode cX10_takeHeap 63 = .ok (.imul, 1) := by decide +kernel
theorem dX10_takeHeap_64 : decode cX10_takeHeap 64 = .ok (.iload 6, 2) := by decide +kernel
theorem dX10_takeHeap_66 : decode cX10_takeHeap 66 = .ok (.iadd, 1) := by decide +kernel
theorem dX10_takeHeap_67 : decode cX10_takeHeap 67 = .ok (.istore 7, 2) := by decide +kernel
theorem dX10_takeHeap_69 : decode cX10_takeHeap 69 = .ok (.iload 7, 2) := by decide +kernel
theorem dX10_takeHeap_71 : decode cX10_takeHeap 71 = .ok (.i2l, 1) := by decide +kernel
theorem dX10_takeHeap_72 : decode cX10_takeHeap 72 = .ok (.iconst 0, 1) := by decide +kernel
theorem dX10_takeHeap_73 : decode cX10_takeHeap 73 = .ok (.bipush 35, 2) := by decide +kernel
theorem dX10_takeHeap_75 : decode cX10_takeHeap 75 = .ok (.invokestatic 147, 3) := by decide +kernel
theorem dX10_takeHeap_78 : decode cX10_takeHeap 78 = .ok (.ifCond .eq 10, 3) := by decide +kernel
theorem dX10_takeHeap_81 : decode cX10_takeHeap 81 = .ok (.aload_n 3, 1) := by decide +kernel
theorem dX10_takeHeap_82 : decode cX10_takeHeap 82 = .ok (.iload 7, 2) := by decide +kernel
theorem dX10_takeHeap_84 : decode cX10_takeHeap 84 = .ok (.iaload, 1) := by decide +kernel
theorem dX10_takeHeap_85 : decode cX10_takeHeap 85 = .ok (.ifCond .eq 19, 3) := by decide +kernel
theorem dX10_takeHeap_88 : decode cX10_takeHeap 88 = .ok (.aload_n 0, 1) := by decide +kernel
theorem dX10_takeHeap_89 : decode cX10_takeHeap 89 = .ok (.getfield 21, 3) := by decide +kernel
theorem dX10_takeHeap_92 : decode cX10_takeHeap 92 = .ok (.iconst 5, 1) := by decide +kernel
theorem dX10_takeHeap_93 : decode cX10_takeHeap 93 = .ok (.aload_n 0, 1) := by decide +kernel
theorem dX10_takeHeap_94 : decode cX10_takeHeap 94 = .ok (.getfield 21, 3) := by decide +kernel
theorem dX10_takeHeap_97 : decode cX10_takeHeap 97 = .ok (.getfield 86, 3) := by decide +kernel
theorem dX10_takeHeap_100 : decode cX10_takeHeap 100 = .ok (.invokevirtual 89, 3) := by decide +kernel
theorem dX10_takeHeap_103 : decode cX10_takeHeap 103 = .ok (.ireturn, 1) := by decide +kernel
theorem dX10_takeHeap_104 : decode cX10_takeHeap 104 = .ok (.aload_n 0, 1) := by decide +kernel
theorem dX10_takeHeap_105 : decode cX10_takeHeap 105 = .ok (.getfield 21, 3) := by decide +kernel
theorem dX10_takeHeap_108 : decode cX10_takeHeap 108 = .ok (.aload 4, 2) := by decide +kernel
theorem dX10_takeHeap_110 : decode cX10_takeHeap 110 = .ok (.invokevirtual 75, 3) := by decide +kernel
theorem dX10_takeHeap_113 : decode cX10_takeHeap 113 = .ok (.ifCond .eq 16, 3) := by decide +kernel
theorem dX10_takeHeap_116 : decode cX10_takeHeap 116 = .ok (.aload_n 0, 1) := by decide +kernel
theorem dX10_takeHeap_117 : decode cX10_takeHeap 117 = .ok (.getfield 21, 3) := by decide +kernel
theorem dX10_takeHeap_120 : decode cX10_takeHeap 120 = .ok (.iconst 0, 1) := by decide +kernel
theorem dX10_takeHeap_121 : decode cX10_takeHeap 121 = .ok (.iload 5, 2) := by decide +kernel
theorem dX10_takeHeap_123 : decode cX10_takeHeap 123 = .ok (.invokevirtual 79, 3) := by decide +kernel
theorem dX10_takeHeap_126 : decode cX10_takeHeap 126 = .ok (.ifCond .ne 5, 3) := by decide +kernel
theorem dX10_takeHeap_129 : decode cX10_takeHeap 129 = .ok (.iconst 0, 1) := by decide +kernel
theorem dX10_takeHeap_130 : decode cX10_takeHeap 130 = .ok (.ireturn, 1) := by decide +kernel
theorem dX10_takeHeap_131 : decode cX10_takeHeap 131 = .ok (.aload_n 3, 1) := by decide +kernel
theorem dX10_takeHeap_132 : decode cX10_takeHeap 132 = .ok (.iload 7, 2) := by decide +kernel
theorem dX10_takeHeap_134 : decode cX10_takeHeap 134 = .ok (.iconst 1, 1) := by decide +kernel
theorem dX10_takeHeap_135 : decode cX10_takeHeap 135 = .ok (.iastore, 1) := by decide +kernel
theorem dX10_takeHeap_136 : decode cX10_takeHeap 136 = .ok (.aload_n 2, 1) := by decide +kernel
theorem dX10_takeHeap_137 : decode cX10_takeHeap 137 = .ok (.iload 7, 2) := by decide +kernel
theorem dX10_takeHeap_139 : decode cX10_takeHeap 139 = .ok (.aload_n 0, 1) := by decide +kernel
theorem dX10_takeHeap_140 : decode cX10_takeHeap 140 = .ok (.getfield 21, 3) := by decide +kernel
theorem dX10_takeHeap_143 : decode cX10_takeHeap 143 = .ok (.getfield 83, 3) := by decide +kernel
theorem dX10_takeHeap_146 : decode cX10_takeHeap 146 = .ok (.iastore, 1) := by decide +kernel
theorem dX10_takeHeap_147 : decode cX10_takeHeap 147 = .ok (.iconst 1, 1) := by decide +kernel
theorem dX10_takeHeap_148 : decode cX10_takeHeap 148 = .ok (.ireturn, 1) := by decide +kernel
theorem dX10_takeArticle_0 : decode cX10_takeArticle 0 = .ok (.aload_n 0, 1) := by decide +kernel
theorem dX10_takeArticle_1 : decode cX10_takeArticle 1 = .ok (.getfield 21, 3) := by decide +kernel
theorem dX10_takeArticle_4 : decode cX10_takeArticle 4 = .ok (.getfield 101, 3) := by decide +kernel
theorem dX10_takeArticle_7 : decode cX10_takeArticle 7 = .ok (.getstatic 123, 3) := by decide +kernel
theorem dX10_takeArticle_10 : decode cX10_takeArticle 10 = .ok (.if_acmp .ne 32, 3) := by decide +kernel
theorem dX10_takeArticle_13 : decode cX10_takeArticle 13 = .ok (.aload_n 0, 1) := by decide +kernel
theorem dX10_takeArticle_14 : decode cX10_takeArticle 14 = .ok (.aload_n 1, 1) := by decide +kernel
theorem dX10_takeArticle_15 : decode cX10_takeArticle 15 = .ok (.iconst 0, 1) := by decide +kernel
theorem dX10_takeArticle_16 : decode cX10_takeArticle 16 = .ok (.invokevirtual 177, 3) := by decide +kernel
theorem dX10_takeArticle_19 : decode cX10_takeArticle 19 = .ok (.ifCond .eq 21, 3) := by decide +kernel
theorem dX10_takeArticle_22 : decode cX10_takeArticle 22 = .ok (.aload_n 0, 1) := by decide +kernel
theorem dX10_takeArticle_23 : decode cX10_takeArticle 23 = .ok (.aload_n 1, 1) := by decide +kernel
theorem dX10_takeArticle_24 : decode cX10_takeArticle 24 = .ok (.iconst 0, 1) := by decide +kernel
theorem dX10_takeArticle_25 : decode cX10_takeArticle 25 = .ok (.getstatic 181, 3) := by decide +kernel
theorem dX10_takeArticle_28 : decode cX10_takeArticle 28 = .ok (.bipush 20, 2) := by decide +kernel
theorem dX10_takeArticle_30 : decode cX10_takeArticle 30 = .ok (.invokevirtual 184, 3) := by decide +kernel
theorem dX10_takeArticle_33 : decode cX10_takeArticle 33 = .ok (.ifCond .eq 7, 3) := by decide +kernel
theorem dX10_takeArticle_36 : decode cX10_takeArticle 36 = .ok (.iconst 1, 1) := by decide +kernel
theorem dX10_takeArticle_37 : decode cX10_takeArticle 37 = .ok (.goto 4, 3) := by decide +kernel
theorem dX10_takeArticle_40 : decode cX10_takeArticle 40 = .ok (.iconst 0, 1) := by decide +kernel
theorem dX10_takeArticle_41 : decode cX10_takeArticle 41 = .ok (.ireturn, 1) := by decide +kernel
theorem dX10_takeArticle_42 : decode cX10_takeArticle 42 = .ok (.aload_n 0, 1) := by decide +kernel
theorem dX10_takeArticle_43 : decode cX10_takeArticle 43 = .ok (.getfield 21, 3) := by decide +kernel
theorem dX10_takeArticle_46 : decode cX10_takeArticle 46 = .ok (.getfield 101, 3) := by decide +kernel
theorem dX10_takeArticle_49 : decode cX10_takeArticle 49 = .ok (.getstatic 188, 3) := by decide +kernel
theorem dX10_takeArticle_52 : decode cX10_takeArticle 52 = .ok (.if_acmp .ne 32, 3) := by decide +kernel
theorem dX10_takeArticle_55 : decode cX10_takeArticle 55 = .ok (.aload_n 0, 1) := by decide +kernel
theorem dX10_takeArticle_56 : decode cX10_takeArticle 56 = .ok (.aload_n 1, 1) := by decide +kernel
theorem dX10_takeArticle_57 : decode cX10_takeArticle 57 = .ok (.iconst 1, 1) := by decide +kernel
theorem dX10_takeArticle_58 : decode cX10_takeArticle 58 = .ok (.invokevirtual 177, 3) := by decide +kernel
theorem dX10_takeArticle_61 : decode cX10_takeArticle 61 = .ok (.ifCond .eq 21, 3) := by decide +kernel
theorem dX10_takeArticle_64 : decode cX10_takeArticle 64 = .ok (.aload_n 0, 1) := by decide +kernel
theorem dX10_takeArticle_65 : decode cX10_takeArticle 65 = .ok (.aload_n 1, 1) := by decide +kernel
theorem dX10_takeArticle_66 : decode cX10_takeArticle 66 = .ok (.iconst 1, 1) := by decide +kernel
theorem dX10_takeArticle_67 : decode cX10_takeArticle 67 = .ok (.getstatic 191, 3) := by decide +kernel
theorem dX10_takeArticle_70 : decode cX10_takeArticle 70 = .ok (.bipush 40, 2) := by decide +kernel
theorem dX10_takeArticle_72 : decode cX10_takeArticle 72 = .ok (.invokevirtual 184, 3) := by decide +kernel
theorem dX10_takeArticle_75 : decode cX10_takeArticle 75 = .ok (.ifCond .eq 7, 3) := by decide +kernel
theorem dX10_takeArticle_78 : decode cX10_takeArticle 78 = .ok (.iconst 1, 1) := by decide +kernel
theorem dX10_takeArticle_79 : decode cX10_takeArticle 79 = .ok (.goto 4, 3) := by decide +kernel
theorem dX10_takeArticle_82 : decode cX10_takeArticle 82 = .ok (.iconst 0, 1) := by decide +kernel
theorem dX10_takeArticle_83 : decode cX10_takeArticle 83 = .ok (.ireturn, 1) := by decide +kernel
theorem dX10_takeArticle_84 : decode cX10_takeArticle 84 = .ok (.aload_n 0, 1) := by decide +kernel
theorem dX10_takeArticle_85 : decode cX10_takeArticle 85 = .ok (.getfield 21, 3) := by decide +kernel
theorem dX10_takeArticle_88 : decode cX10_takeArticle 88 = .ok (.getfield 101, 3) := by decide +kernel
theorem dX10_takeArticle_91 : decode cX10_takeArticle 91 = .ok (.getstatic 194, 3) := by decide +kernel
theorem dX10_takeArticle_94 : decode cX10_takeArticle 94 = .ok (.if_acmp .ne 32, 3) := by decide +kernel
theorem dX10_takeArticle_97 : decode cX10_takeArticle 97 = .ok (.aload_n 0, 1) := by decide +kernel
theorem dX10_takeArticle_98 : decode cX10_takeArticle 98 = .ok (.aload_n 1, 1) := by decide +kernel
theorem dX10_takeArticle_99 : decode cX10_takeArticle 99 = .ok (.iconst 3, 1) := by decide +kernel
theorem dX10_takeArticle_100 : decode cX10_takeArticle 100 = .ok (.invokevirtual 177, 3) := by decide +kernel
theorem dX10_takeArticle_103 : decode cX10_takeArticle 103 = .ok (.ifCond .eq 21, 3) := by decide +kernel
theorem dX10_takeArticle_106 : decode cX10_takeArticle 106 = .ok (.aload_n 0, 1) := by decide +kernel
theorem dX10_takeArticle_107 : decode cX10_takeArticle 107 = .ok (.aload_n 1, 1) := by decide +kernel
theorem dX10_takeArticle_108 : decode cX10_takeArticle 108 = .ok (.iconst 3, 1) := by decide +kernel
theorem dX10_takeArticle_109 : decode cX10_takeArticle 109 = .ok (.getstatic 181, 3) := by decide +kernel
theorem dX10_takeArticle_112 : decode cX10_takeArticle 112 = .ok (.bipush 18, 2) := by decide +kernel
theorem dX10_takeArticle_114 : decode cX10_takeArticle 114 = .ok (.invokevirtual 184, 3) := by decide +kernel
theorem dX10_takeArticle_117 : decode cX10_takeArticle 117 = .ok (.ifCond .eq 7, 3) := by decide +kernel
theorem dX10_takeArticle_120 : decode cX10_takeArticle 120 = .ok (.iconst 1, 1) := by decide +kernel
theorem dX10_takeArticle_121 : decode cX10_takeArticle 121 = .ok (.goto 4, 3) := by decide +kernel
theorem dX10_takeArticle_124 : decode cX10_takeArticle 124 = .ok (.iconst 0, 1) := by decide +kernel
theorem dX10_takeArticle_125 : decode cX10_takeArticle 125 = .ok (.ireturn, 1) := by decide +kernel
theorem dX10_takeArticle_126 : decode cX10_takeArticle 126 = .ok (.aload_n 0, 1) := by decide +kernel
theorem dX10_takeArticle_127 : decode cX10_takeArticle 127 = .ok (.getfield 21, 3) := by decide +kernel
theorem dX10_takeArticle_130 : decode cX10_takeArticle 130 = .ok (.getfield 101, 3) := by decide +kernel
theorem dX10_takeArticle_133 : decode cX10_takeArticle 133 = .ok (.getstatic 197, 3) := by decide +kernel
theorem dX10_takeArticle_136 : decode cX10_takeArticle 136 = .ok (.if_acmp .eq 11, 3) := by decide +kernel
theorem dX10_takeArticle_139 : decode cX10_takeArticle 139 = .ok (.aload_n 0, 1) := by decide +kernel
theorem dX10_takeArticle_140 : decode cX10_takeArticle 140 = .ok (.getfield 21, 3) := by decide +kernel
theorem dX10_takeArticle_143 : decode cX10_takeArticle 143 = .ok (.invokevirtual 161, 3) := by decide +kernel
theorem dX10_takeArticle_146 : decode cX10_takeArticle 146 = .ok (.ireturn, 1) := by decide +kernel
theorem dX10_takeArticle_147 : decode cX10_takeArticle 147 = .ok (.aload_n 0, 1) := by decide +kernel
theorem dX10_takeArticle_148 : decode cX10_takeArticle 148 = .ok (.aload_n 1, 1) := by decide +kernel
theorem dX10_takeArticle_149 : decode cX10_takeArticle 149 = .ok (.iconst 2, 1) := by decide +kernel
theorem dX10_takeArticle_150 : decode cX10_takeArticle 150 = .ok (.invokevirtual 177, 3) := by decide +kernel
theorem dX10_takeArticle_153 : decode cX10_takeArticle 153 = .ok (.ifCond .ne 5, 3) := by decide +kernel
theorem dX10_takeArticle_156 : decode cX10_takeArticle 156 = .ok (.iconst 0, 1) := by decide +kernel
theorem dX10_takeArticle_157 : decode cX10_takeArticle 157 = .ok (.ireturn, 1) := by decide +kernel
theorem dX10_takeArticle_158 : decode cX10_takeArticle 158 = .ok (.aload_n 1, 1) := by decide +kernel
theorem dX10_takeArticle_159 : decode cX10_takeArticle 159 = .ok (.getfield 200, 3) := by decide +kernel
theorem dX10_takeArticle_162 : decode cX10_takeArticle 162 = .ok (.iconst 2, 1) := by decide +kernel
theorem dX10_takeArticle_163 : decode cX10_takeArticle 163 = .ok (.iconst 0, 1) := by decide +kernel
theorem dX10_takeArticle_164 : decode cX10_takeArticle 164 = .ok (.iastore, 1) := by decide +kernel
theorem dX10_takeArticle_165 : decode cX10_takeArticle 165 = .ok (.aload_n 0, 1) := by decide +kernel
theorem dX10_takeArticle_166 : decode cX10_takeArticle 166 = .ok (.getfield 21, 3) := by decide +kernel
theorem dX10_takeArticle_169 : decode cX10_takeArticle 169 = .ok (.invokevirtual 154, 3) := by decide +kernel
theorem dX10_takeArticle_172 : decode cX10_takeArticle 172 = .ok (.iconst 1, 1) := by decide +kernel
theorem dX10_takeArticle_173 : decode cX10_takeArticle 173 = .ok (.ireturn, 1) := by decide +kernel
theorem dX10_isNew_0 : decode cX10_isNew 0 = .ok (.iload_n 2, 1) := by decide +kernel
theorem dX10_isNew_1 : decode cX10_isNew 1 = .ok (.i2l, 1) := by decide +kernel
theorem dX10_isNew_2 : decode cX10_isNew 2 = .ok (.iconst 0, 1) := by decide +kernel
theorem dX10_isNew_3 : decode cX10_isNew 3 = .ok (.iconst 3, 1) := by decide +kernel
theorem dX10_isNew_4 : decode cX10_isNew 4 = .ok (.invokestatic 147, 3) := by decide +kernel
theorem dX10_isNew_7 : decode cX10_isNew 7 = .ok (.ifCond .eq 13, 3) := by decide +kernel
theorem dX10_isNew_10 : decode cX10_isNew 10 = .ok (.aload_n 1, 1) := by decide +kernel
theorem dX10_isNew_11 : decode cX10_isNew 11 = .ok (.getfield 200, 3) := by decide +kernel
theorem dX10_isNew_14 : decode cX10_isNew 14 = .ok (.iload_n 2, 1) := by decide +kernel
theorem dX10_isNew_15 : decode cX10_isNew 15 = .ok (.iaload, 1) := by decide +kernel
theorem dX10_isNew_16 : decode cX10_isNew 16 = .ok (.iconst (-1), 1) := by decide +kernel
theorem dX10_isNew_17 : decode cX10_isNew 17 = .ok (.if_icmp .eq 7, 3) := by decide +kernel
theorem dX10_isNew_20 : decode cX10_isNew 20 = .ok (.iconst 1, 1) := by decide +kernel
theorem dX10_isNew_21 : decode cX10_isNew 21 = .ok (.goto 4, 3) := by decide +kernel
theorem dX10_isNew_24 : decode cX10_isNew 24 = .ok (.iconst 0, 1) := by decide +kernel
theorem dX10_isNew_25 : decode cX10_isNew 25 = .ok (.istore_n 3, 1) := by decide +kernel
theorem dX10_isNew_26 : decode cX10_isNew 26 = .ok (.iload_n 3, 1) := by decide +kernel
theorem dX10_isNew_27 : decode cX10_isNew 27 = .ok (.ifCond .eq 21, 3) := by decide +kernel
theorem dX10_isNew_30 : decode cX10_isNew 30 = .ok (.aload_n 0, 1) := by decide +kernel
theorem dX10_isNew_31 : decode cX10_isNew 31 = .ok (.getfield 21, 3) := by decide +kernel
theorem dX10_isNew_34 : decode cX10_isNew 34 = .ok (.iconst 5, 1) := by decide +kernel
theorem dX10_isNew_35 : decode cX10_isNew 35 = .ok (.aload_n 0, 1) := by decide +kernel
theorem dX10_isNew_36 : decode cX10_isNew 36 = .ok (.getfield 21, 3) := by decide +kernel
theorem dX10_isNew_39 : decode cX10_isNew 39 = .ok (.getfield 151, 3) := by decide +kernel
theorem dX10_isNew_42 : decode cX10_isNew 42 = .ok (.invokevirtual 89, 3) := by decide +kernel
theorem dX10_isNew_45 : decode cX10_isNew 45 = .ok (.ifCond .eq 7, 3) := by decide +kernel
theorem dX10_isNew_48 : decode cX10_isNew 48 = .ok (.iconst 1, 1) := by decide +kernel
theorem dX10_isNew_49 : decode cX10_isNew 49 = .ok (.goto 4, 3) := by decide +kernel
theorem dX10_isNew_52 : decode cX10_isNew 52 = .ok (.iconst 0, 1) := by decide +kernel
theorem dX10_isNew_53 : decode cX10_isNew 53 = .ok (.ireturn, 1) := by decide +kernel
theorem dX10_takeLimit_0 : decode cX10_takeLimit 0 = .ok (.aload_n 0, 1) := by decide +kernel
theorem dX10_takeLimit_1 : decode cX10_takeLimit 1 = .ok (.getfield 21, 3) := by decide +kernel
theorem dX10_takeLimit_4 : decode cX10_takeLimit 4 = .ok (.invokevirtual 154, 3) := by decide +kernel
theorem dX10_takeLimit_7 : decode cX10_takeLimit 7 = .ok (.aload_n 0, 1) := by decide +kernel
theorem dX10_takeLimit_8 : decode cX10_takeLimit 8 = .ok (.getfield 21, 3) := by decide +kernel
theorem dX10_takeLimit_11 : decode cX10_takeLimit 11 = .ok (.aload_n 3, 1) := by decide +kernel
theorem dX10_takeLimit_12 : decode cX10_takeLimit 12 = .ok (.invokevirtual 75, 3) := by decide +kernel
theorem dX10_takeLimit_15 : decode cX10_takeLimit 15 = .ok (.ifCond .eq 26, 3) := by decide +kernel
theorem dX10_takeLimit_18 : decode cX10_takeLimit 18 = .ok (.aload_n 0, 1) := by decide +kernel
theorem dX10_takeLimit_19 : decode cX10_takeLimit 19 = .ok (.getfield 21, 3) := by decide +kernel
theorem dX10_takeLimit_22 : decode cX10_takeLimit 22 = .ok (.iconst 0, 1) := by decide +kernel
theorem dX10_takeLimit_23 : decode cX10_takeLimit 23 = .ok (.iload 4, 2) := by decide +kernel
theorem dX10_takeLimit_25 : decode cX10_takeLimit 25 = .ok (.invokevirtual 79, 3) := by decide +kernel
theorem dX10_takeLimit_28 : decode cX10_takeLimit 28 = .ok (.ifCond .eq 13, 3) := by decide +kernel
theorem dX10_takeLimit_31 : decode cX10_takeLimit 31 = .ok (.iload_n 2, 1) := by decide +kernel
theorem dX10_takeLimit_32 : decode cX10_takeLimit 32 = .ok (.i2l, 1) := by decide +kernel
theorem dX10_takeLimit_33 : decode cX10_takeLimit 33 = .ok (.iconst 0, 1) := by decide +kernel
theorem dX10_takeLimit_34 : decode cX10_takeLimit 34 = .ok (.iconst 3, 1) := by decide +kernel
theorem dX10_takeLimit_35 : decode cX10_takeLimit 35 = .ok (.invokestatic 147, 3) := by decide +kernel
theorem dX10_takeLimit_38 : decode cX10_takeLimit 38 = .ok (.ifCond .ne 5, 3) := by decide +kernel
theorem dX10_takeLimit_41 : decode cX10_takeLimit 41 = .ok (.iconst 0, 1) := by decide +kernel
theorem dX10_takeLimit_42 : decode cX10_takeLimit 42 = .ok (.ireturn, 1) := by decide +kernel
theorem dX10_takeLimit_43 : decode cX10_takeLimit 43 = .ok (.aload_n 1, 1) := by decide +kernel
theorem dX10_takeLimit_44 : decode cX10_takeLimit 44 = .ok (.getfield 200, 3) := by decide +kernel
theorem dX10_takeLimit_47 : decode cX10_takeLimit 47 = .ok (.iload_n 2, 1) := by decide +kernel
theorem dX10_takeLimit_48 : decode cX10_takeLimit 48 = .ok (.aload_n 0, 1) := by decide +kernel
theorem dX10_takeLimit_49 : decode cX10_takeLimit 49 = .ok (.getfield 21, 3) := by decide +kernel
theorem dX10_takeLimit_52 : decode cX10_takeLimit 52 = .ok (.getfield 83, 3) := by decide +kernel
theorem dX10_takeLimit_55 : decode cX10_takeLimit 55 = .ok (.iastore, 1) := by decide +kernel
theorem dX10_takeLimit_56 : decode cX10_takeLimit 56 = .ok (.iconst 1, 1) := by decide +kernel
theorem dX10_takeLimit_57 : decode cX10_takeLimit 57 = .ok (.ireturn, 1) := by decide +kernel
theorem dX11_init_0 : decode cX11_init 0 = .ok (.aload_n 0, 1) := by decide +kernel
theorem dX11_init_1 : decode cX11_init 1 = .ok (.invokespecial 1, 3) := by decide +kernel
theorem dX11_init_4 : decode cX11_init 4 = .ok (.aload_n 0, 1) := by decide +kernel
theorem dX11_init_5 : decode cX11_init 5 = .ok (.iconst 4, 1) := by decide +kernel
theorem dX11_init_6 : decode cX11_init 6 = .ok (.anewarray 7, 3) := by decide +kernel
theorem dX11_init_9 : decode cX11_init 9 = .ok (.dup, 1) := by decide +kernel
theorem dX11_init_10 : decode cX11_init 10 = .ok (.iconst 0, 1) := by decide +kernel
theorem dX11_init_11 : decode cX11_init 11 = .ok (.new 7, 3) := by decide +kernel
theorem dX11_init_14 : decode cX11_init 14 = .ok (.dup, 1) := by decide +kernel
theorem dX11_init_15 : decode cX11_init 15 = .ok (.invokespecial 9, 3) := by decide +kernel
theorem dX11_init_18 : decode cX11_init 18 = .ok (.aastore, 1) := by decide +kernel
theorem dX11_init_19 : decode cX11_init 19 = .ok (.dup, 1) := by decide +kernel
theorem dX11_init_20 : decode cX11_init 20 = .ok (.iconst 1, 1) := by decide +kernel
theorem dX11_init_21 : decode cX11_init 21 = .ok (.new 7, 3) := by decide +kernel
theorem dX11_init_24 : decode cX11_init 24 = .ok (.dup, 1) := by decide +kernel
theorem dX11_init_25 : decode cX11_init 25 = .ok (.invokespecial 9, 3) := by decide +kernel
theorem dX11_init_28 : decode cX11_init 28 = .ok (.aastore, 1) := by decide +kernel
theorem dX11_init_29 : decode cX11_init 29 = .ok (.dup, 1) := by decide +kernel
theorem dX11_init_30 : decode cX11_init 30 = .ok (.iconst 2, 1) := by decide +kernel
theorem dX11_init_31 : decode cX11_init 31 = .ok (.new 7, 3) := by decide +kernel
theorem dX11_init_34 : decode cX11_init 34 = .ok (.dup, 1) := by decide +kernel
theorem dX11_init_35 : decode cX11_init 35 = .ok (.invokespecial 9, 3) := by decide +kernel
theorem dX11_init_38 : decode cX11_init 38 = .ok (.aastore, 1) := by decide +kernel
theorem dX11_init_39 : decode cX11_init 39 = .ok (.dup, 1) := by decide +kernel
theorem dX11_init_40 : decode cX11_init 40 = .ok (.iconst 3, 1) := by decide +kernel
theorem dX11_init_41 : decode cX11_init 41 = .ok (.new 7, 3) := by decide +kernel
theorem dX11_init_44 : decode cX11_init 44 = .ok (.dup, 1) := by decide +kernel
theorem dX11_init_45 : decode cX11_init 45 = .ok (.invokespecial 9, 3) := by decide +kernel
theorem dX11_init_48 : decode cX11_init 48 = .ok (.aastore, 1) := by decide +kernel
theorem dX11_init_49 : decode cX11_init 49 = .ok (.putfield 10, 3) := by decide +kernel
theorem dX11_init_52 : decode cX11_init 52 = .ok (.aload_n 0, 1) := by decide +kernel
theorem dX11_init_53 : decode cX11_init 53 = .ok (.new 16, 3) := by decide +kernel
theorem dX11_init_56 : decode cX11_init 56 = .ok (.dup, 1) := by decide +kernel
theorem dX11_init_57 : decode cX11_init 57 = .ok (.invokespecial 18, 3) := by decide +kernel
theorem dX11_init_60 : decode cX11_init 60 = .ok (.putfield 19, 3) := by decide +kernel
theorem dX11_init_63 : decode cX11_init 63 = .ok (.aload_n 0, 1) := by decide +kernel
theorem dX11_init_64 : decode cX11_init 64 = .ok (.new 23, 3) := by decide +kernel
theorem dX11_init_67 : decode cX11_init 67 = .ok (.dup, 1) := by decide +kernel
theorem dX11_init_68 : decode cX11_init 68 = .ok (.aload_n 0, 1) := by decide +kernel
theorem dX11_init_69 : decode cX11_init 69 = .ok (.getfield 19, 3) := by decide +kernel
theorem dX11_init_72 : decode cX11_init 72 = .ok (.invokespecial 25, 3) := by decide +kernel
theorem dX11_init_75 : decode cX11_init 75 = .ok (.putfield 28, 3) := by decide +kernel
theorem dX11_init_78 : decode cX11_init 78 = .ok (.aload_n 0, 1) := by decide +kernel
theorem dX11_init_79 : decode cX11_init 79 = .ok (.new 32, 3) := by decide +kernel
theorem dX11_init_82 : decode cX11_init 82 = .ok (.dup, 1) := by decide +kernel
theorem dX11_init_83 : decode cX11_init 83 = .ok (.aload_n 0, 1) := by decide +kernel
theorem dX11_init_84 : decode cX11_init 84 = .ok (.getfield 19, 3) := by decide +kernel
theorem dX11_init_87 : decode cX11_init 87 = .ok (.invokespecial 34, 3) := by decide +kernel
theorem dX11_init_90 : decode cX11_init 90 = .ok (.putfield 35, 3) := by decide +kernel
theorem dX11_init_93 : decode cX11_init 93 = .ok (.aload_n 0, 1) := by decide +kernel
theorem dX11_init_94 : decode cX11_init 94 = .ok (.new 39, 3) := by decide +kernel
theorem dX11_init_97 : decode cX11_init 97 = .ok (.dup, 1) := by decide +kernel
theorem dX11_init_98 : decode cX11_init 98 = .ok (.invokespecial 41, 3) := by decide +kernel
theorem dX11_init_101 : decode cX11_init 101 = .ok (.putfield 42, 3) := by decide +kernel
theorem dX11_init_104 : decode cX11_init 104 = .ok (.aload_n 0, 1) := by decide +kernel
theorem dX11_init_105 : decode cX11_init 105 = .ok (.new 39, 3) := by decide +kernel
theorem dX11_init_108 : decode cX11_init 108 = .ok (.dup, 1) := by decide +kernel
theorem dX11_init_109 : decode cX11_init 109 = .ok (.invokespecial 41, 3) := by decide +kernel
theorem dX11_init_112 : decode cX11_init 112 = .ok (.putfield 46, 3) := by decide +kernel
theorem dX11_init_115 : decode cX11_init 115 = .ok (.aload_n 0, 1) := by decide +kernel
theorem dX11_init_116 : decode cX11_init 116 = .ok (.new 49, 3) := by decide +kernel
theorem dX11_init_119 : decode cX11_init 119 = .ok (.dup, 1) := by decide +kernel
theorem dX11_init_120 : decode cX11_init 120 = .ok (.invokespecial 51, 3) := by decide +kernel
theorem dX11_init_123 : decode cX11_init 123 = .ok (.putfield 52, 3) := by decide +kernel
theorem dX11_init_126 : decode cX11_init 126 = .ok (.aload_n 0, 1) := by decide +kernel
theorem dX11_init_127 : decode cX11_init 127 = .ok (.new 49, 3) := by decide +kernel
theorem dX11_init_130 : decode cX11_init 130 = .ok (.dup, 1) := by decide +kernel
theorem dX11_init_131 : decode cX11_init 131 = .ok (.invokespecial 51, 3) := by decide +kernel
theorem dX11_init_134 : decode cX11_init 134 = .ok (.putfield 56, 3) := by decide +kernel
theorem dX11_init_137 : decode cX11_init 137 = .ok (.aload_n 0, 1) := by decide +kernel
theorem dX11_init_138 : decode cX11_init 138 = .ok (.iconst 3, 1) := by decide +kernel
theorem dX11_init_139 : decode cX11_init 139 = .ok (.anewarray 39, 3) := by decide +kernel
theorem dX11_init_142 : decode cX11_init 142 = .ok (.dup, 1) := by decide +kernel
theorem dX11_init_143 : decode cX11_init 143 = .ok (.iconst 0, 1) := by decide +kernel
theorem dX11_init_144 : decode cX11_init 144 = .ok (.new 39, 3) := by decide +kernel
theorem dX11_init_147 : decode cX11_init 147 = .ok (.dup, 1) := by decide +kernel
theorem dX11_init_148 : decode cX11_init 148 = .ok (.invokespecial 41, 3) := by decide +kernel
theorem dX11_init_151 : decode cX11_init 151 = .ok (.aastore, 1) := by decide +kernel
theorem dX11_init_152 : decode cX11_init 152 = .ok (.dup, 1) := by decide +kernel
theorem dX11_init_153 : decode cX11_init 153 = .ok (.iconst 1, 1) := by decide +kernel
theorem dX11_init_154 : decode cX11_init 154 = .ok (.new 39, 3) := by decide +kernel
theorem dX11_init_157 : decode cX11_init 157 = .ok (.dup, 1) := by decide +kernel
theorem dX11_init_158 : decode cX11_init 158 = .ok (.invokespecial 41, 3) := by decide +kernel
theorem dX11_init_161 : decode cX11_init 161 = .ok (.aastore, 1) := by decide +kernel
theorem dX11_init_162 : decode cX11_init 162 = .ok (.dup, 1) := by decide +kernel
theorem dX11_init_163 : decode cX11_init 163 = .ok (.iconst 2, 1) := by decide +kernel
theorem dX11_init_164 : decode cX11_init 164 = .ok (.new 39, 3) := by decide +kernel
theorem dX11_init_167 : decode cX11_init 167 = .ok (.dup, 1) := by decide +kernel
theorem dX11_init_168 : decode cX11_init 168 = .ok (.invokespecial 41, 3) := by decide +kernel
theorem dX11_init_171 : decode cX11_init 171 = .ok (.aastore, 1) := by decide +kernel
theorem dX11_init_172 : decode cX11_init 172 = .ok (.putfield 59, 3) := by decide +kernel
theorem dX11_init_175 : decode cX11_init 175 = .ok (.aload_n 0, 1) := by decide +kernel
theorem dX11_init_176 : decode cX11_init 176 = .ok (.iconst 3, 1) := by decide +kernel
theorem dX11_init_177 : decode cX11_init 177 = .ok (.anewarray 49, 3) := by decide +kernel
theorem dX11_init_180 : decode cX11_init 180 = .ok (.dup, 1) := by decide +kernel
theorem dX11_init_181 : decode cX11_init 181 = .ok (.iconst 0, 1) := by decide +kernel
theorem dX11_init_182 : decode cX11_init 182 = .ok (.new 49, 3) := by decide +kernel
theorem dX11_init_185 : decode cX11_init 185 = .ok (.dup, 1) := by decide +kernel
theorem dX11_init_186 : decode cX11_init 186 = .ok (.invokespecial 51, 3) := by decide +kernel
theorem dX11_init_189 : decode cX11_init 189 = .ok (.aastore, 1) := by decide +kernel
theorem dX11_init_190 : decode cX11_init 190 = .ok (.dup, 1) := by decide +kernel
theorem dX11_init_191 : decode cX11_init 191 = .ok (.iconst 1, 1) := by decide +kernel
theorem dX11_init_192 : decode cX11_init 192 = .ok (.new 49, 3) := by decide +kernel
theorem dX11_init_195 : decode cX11_init 195 = .ok (.dup, 1) := by decide +kernel
theorem dX11_init_196 : decode cX11_init 196 = .ok (.invokespecial 51, 3) := by decide +kernel
theorem dX11_init_199 : decode cX11_init 199 = .ok (.aastore, 1) := by decide +kernel
theorem dX11_init_200 : decode cX11_init 200 = .ok (.dup, 1) := by decide +kernel
theorem dX11_init_201 : decode cX11_init 201 = .ok (.iconst 2, 1) := by decide +kernel
theorem dX11_init_202 : decode cX11_init 202 = .ok (.new 49, 3) := by decide +kernel
theorem dX11_init_205 : decode cX11_init 205 = .ok (.dup, 1) := by decide +kernel
theorem dX11_init_206 : decode cX11_init 206 = .ok (.invokespecial 51, 3) := by decide +kernel
theorem dX11_init_209 : decode cX11_init 209 = .ok (.aastore, 1) := by decide +kernel
theorem dX11_init_210 : decode cX11_init 210 = .ok (.putfield 63, 3) := by decide +kernel
theorem dX11_init_213 : decode cX11_init 213 = .ok (.aload_n 0, 1) := by decide +kernel
theorem dX11_init_214 : decode cX11_init 214 = .ok (.new 67, 3) := by decide +kernel
theorem dX11_init_217 : decode cX11_init 217 = .ok (.dup, 1) := by decide +kernel
theorem dX11_init_218 : decode cX11_init 218 = .ok (.invokespecial 69, 3) := by decide +kernel
theorem dX11_init_221 : decode cX11_init 221 = .ok (.putfield 70, 3) := by decide +kernel
theorem dX11_init_224 : decode cX11_init 224 = .ok (.aload_n 0, 1) := by decide +kernel
theorem dX11_init_225 : decode cX11_init 225 = .ok (.new 74, 3) := by decide +kernel
theorem dX11_init_228 : decode cX11_init 228 = .ok (.dup, 1) := by decide +kernel
theorem dX11_init_229 : decode cX11_init 229 = .ok (.invokespecial 76, 3) := by decide +kernel
theorem dX11_init_232 : decode cX11_init 232 = .ok (.putfield 77, 3) := by decide +kernel
theorem dX11_init_235 : decode cX11_init 235 = .ok (.aload_n 0, 1) := by decide +kernel
theorem dX11_init_236 : decode cX11_init 236 = .ok (.new 81, 3) := by decide +kernel
theorem dX11_init_239 : decode cX11_init 239 = .ok (.dup, 1) := by decide +kernel
theorem dX11_init_240 : decode cX11_init 240 = .ok (.invokespecial 83, 3) := by decide +kernel
theorem dX11_init_243 : decode cX11_init 243 = .ok (.putfield 84, 3) := by decide +kernel
theorem dX11_init_246 : decode cX11_init 246 = .ok (.aload_n 0, 1) := by decide +kernel
theorem dX11_init_247 : decode cX11_init 247 = .ok (.sipush 169, 3) := by decide +kernel
theorem dX11_init_250 : decode cX11_init 250 = .ok (.newarray .boolean, 2) := by decide +kernel
theorem dX11_init_252 : decode cX11_init 252 = .ok (.putfield 88, 3) := by decide +kernel
theorem dX11_init_255 : decode cX11_init 255 = .ok (.aload_n 0, 1) := by decide +kernel
theorem dX11_init_256 : decode cX11_init 256 = .ok (.new 92, 3) := by decide +kernel
theorem dX11_init_259 : decode cX11_init 259 = .ok (.dup, 1) := by decide +kernel
theorem dX11_init_260 : decode cX11_init 260 = .ok (.invokespecial 94, 3) := by decide +kernel
theorem dX11_init_263 : decode cX11_init 263 = .ok (.putfield 95, 3) := by decide +kernel
theorem dX11_init_266 : decode cX11_init 266 = .ok (.aload_n 0, 1) := by decide +kernel
theorem dX11_init_267 : decode cX11_init 267 = .ok (.new 92, 3) := by decide +kernel
theorem dX11_init_270 : decode cX11_init 270 = .ok (.dup, 1) := by decide +kernel
theorem dX11_init_271 : decode cX11_init 271 = .ok (.invokespecial 94, 3) := by decide +kernel
theorem dX11_init_274 : decode cX11_init 274 = .ok (.putfield 99, 3) := by decide +kernel
theorem dX11_init_277 : decode cX11_init 277 = .ok (.return_, 1) := by decide +kernel
theorem dX11_refuse_0 : decode cX11_refuse 0 = .ok (.aload_n 0, 1) := by decide +kernel
theorem dX11_refuse_1 : decode cX11_refuse 1 = .ok (.iload_n 1, 1) := by decide +kernel
theorem dX11_refuse_2 : decode cX11_refuse 2 = .ok (.putfield 102, 3) := by decide +kernel
theorem dX11_refuse_5 : decode cX11_refuse 5 = .ok (.iconst (-1), 1) := by decide +kernel
theorem dX11_refuse_6 : decode cX11_refuse 6 = .ok (.ireturn, 1) := by decide +kernel
theorem dX11_deny_0 : decode cX11_deny 0 = .ok (.aload_n 0, 1) := by decide +kernel
theorem dX11_deny_1 : decode cX11_deny 1 = .ok (.iload_n 1, 1) := by decide +kernel
theorem dX11_deny_2 : decode cX11_deny 2 = .ok (.putfield 102, 3) := by decide +kernel
theorem dX11_deny_5 : decode cX11_deny 5 = .ok (.iconst 0, 1) := by decide +kernel
theorem dX11_deny_6 : decode cX11_deny 6 = .ok (.ireturn, 1) := by decide +kernel
theorem dX11_answer_0 : decode cX11_answer 0 = .ok (.aload_n 0, 1) := by decide +kernel
theorem dX11_answer_1 : decode cX11_answer 1 = .ok (.iconst 0, 1) := by decide +kernel
theorem dX11_answer_2 : decode cX11_answer 2 = .ok (.putfield 102, 3) := by decide +kernel
theorem dX11_answer_5 : decode cX11_answer 5 = .ok (.iload_n 1, 1) := by decide +kernel
theorem dX11_answer_6 : decode cX11_answer 6 = .ok (.ireturn, 1) := by decide +kernel
theorem dX11_grant_0 : decode cX11_grant 0 = .ok (.aload_n 0, 1) := by decide +kernel
theorem dX11_grant_1 : decode cX11_grant 1 = .ok (.iconst 0, 1) := by decide +kernel
theorem dX11_grant_2 : decode cX11_grant 2 = .ok (.putfield 102, 3) := by decide +kernel
theorem dX11_grant_5 : decode cX11_grant 5 = .ok (.iconst 1, 1) := by decide +kernel
theorem dX11_grant_6 : decode cX11_grant 6 = .ok (.ireturn, 1) := by decide +kernel
theorem dX11_isWithin_0 : decode cX11_isWithin 0 = .ok (.lload_n 0, 1) := by decide +kernel
theorem dX11_isWithin_1 : decode cX11_isWithin 1 = .ok (.iload_n 2, 1) := by decide +kernel
theorem dX11_isWithin_2 : decode cX11_isWithin 2 = .ok (.i2l, 1) := by decide +kernel
theorem dX11_isWithin_3 : decode cX11_isWithin 3 = .ok (.lcmp, 1) := by decide +kernel
theorem dX11_isWithin_4 : decode cX11_isWithin 4 = .ok (.ifCond .lt 14, 3) := by decide +kernel
theorem dX11_isWithin_7 : decode cX11_isWithin 7 = .ok (.lload_n 0, 1) := by decide +kernel
theorem dX11_isWithin_8 : decode cX11_isWithin 8 = .ok (.iload_n 3, 1) := by decide +kernel
theorem dX11_isWithin_9 : decode cX11_isWithin 9 = .ok (.i2l, 1) := by decide +kernel
theorem dX11_isWithin_10 : decode cX11_isWithin 10 = .ok (.lcmp, 1) := by decide +kernel
theorem dX11_isWithin_11 : decode cX11_isWithin 11 = .ok (.ifCond .gt 7, 3) := by decide +kernel
theorem dX11_isWithin_14 : decode cX11_isWithin 14 = .ok (.iconst 1, 1) := by decide +kernel
theorem dX11_isWithin_15 : decode cX11_isWithin 15 = .ok (.goto 4, 3) := by decide +kernel
theorem dX11_isWithin_18 : decode cX11_isWithin 18 = .ok (.iconst 0, 1) := by decide +kernel
theorem dX11_isWithin_19 : decode cX11_isWithin 19 = .ok (.ireturn, 1) := by decide +kernel
theorem dX11_feed_0 : decode cX11_feed 0 = .ok (.aload_n 0, 1) := by decide +kernel
theorem dX11_feed_1 : decode cX11_feed 1 = .ok (.getfield 19, 3) := by decide +kernel
theorem dX11_feed_4 : decode cX11_feed 4 = .ok (.getfield 171, 3) := by decide +kernel
theorem dX11_feed_7 : decode cX11_feed 7 = .ok (.sipush 880, 3) := by decide +kernel
theorem dX11_feed_10 : decode cX11_feed 10 = .ok (.if_icmp .le 5, 3) := by decide +kernel
theorem dX11_feed_13 : decode cX11_feed 13 = .ok (.iconst (-1), 1) := by decide +kernel
theorem dX11_feed_14 : decode cX11_feed 14 = .ok (.ireturn, 1) := by decide +kernel
theorem dX11_feed_15 : decode cX11_feed 15 = .ok (.aload_n 0, 1) := by decide +kernel
theorem dX11_feed_16 : decode cX11_feed 16 = .ok (.getfield 19, 3) := by decide +kernel
theorem dX11_feed_19 : decode cX11_feed 19 = .ok (.iload_n 1, 1) := by decide +kernel
theorem dX11_feed_20 : decode cX11_feed 20 = .ok (.invokevirtual 174, 3) := by decide +kernel
theorem dX11_feed_23 : decode cX11_feed 23 = .ok (.aload_n 0, 1) := by decide +kernel
theorem dX11_feed_24 : decode cX11_feed 24 = .ok (.getfield 19, 3) := by decide +kernel
theorem dX11_feed_27 : decode cX11_feed 27 = .ok (.iload_n 2, 1) := by decide +kernel
theorem dX11_feed_28 : decode cX11_feed 28 = .ok (.invokevirtual 174, 3) := by decide +kernel
theorem dX11_feed_31 : decode cX11_feed 31 = .ok (.aload_n 0, 1) := by decide +kernel
theorem dX11_feed_32 : decode cX11_feed 32 = .ok (.getfield 19, 3) := by decide +kernel
theorem dX11_feed_35 : decode cX11_feed 35 = .ok (.iload_n 3, 1) := by decide +kernel
theorem dX11_feed_36 : decode cX11_feed 36 = .ok (.invokevirtual 174, 3) := by decide +kernel
theorem dX11_feed_39 : decode cX11_feed 39 = .ok (.aload_n 0, 1) := by decide +kernel
theorem dX11_feed_40 : decode cX11_feed 40 = .ok (.getfield 19, 3) := by decide +kernel
theorem dX11_feed_43 : decode cX11_feed 43 = .ok (.iload 4, 2) := by decide +kernel
theorem dX11_feed_45 : decode cX11_feed 45 = .ok (.invokevirtual 174, 3) := by decide +kernel
theorem dX11_feed_48 : decode cX11_feed 48 = .ok (.aload_n 0, 1) := by decide +kernel
theorem dX11_feed_49 : decode cX11_feed 49 = .ok (.getfield 19, 3) := by decide +kernel
theorem dX11_feed_52 : decode cX11_feed 52 = .ok (.iload 5, 2) := by decide +kernel
theorem dX11_feed_54 : decode cX11_feed 54 = .ok (.invokevirtual 174, 3) := by decide +kernel
theorem dX11_feed_57 : decode cX11_feed 57 = .ok (.aload_n 0, 1) := by decide +kernel
theorem dX11_feed_58 : decode cX11_feed 58 = .ok (.getfield 19, 3) := by decide +kernel
theorem dX11_feed_61 : decode cX11_feed 61 = .ok (.getfield 171, 3) := by decide +kernel
theorem dX11_feed_64 : decode cX11_feed 64 = .ok (.ireturn, 1) := by decide +kernel
theorem dX11_yard_0 : decode cX11_yard 0 = .ok (.iload_n 1, 1) := by decide +kernel
theorem dX11_yard_1 : decode cX11_yard 1 = .ok (.i2l, 1) := by decide +kernel
theorem dX11_yard_2 : decode cX11_yard 2 = .ok (.iconst 0, 1) := by decide +kernel
theorem dX11_yard_3 : decode cX11_yard 3 = .ok (.aload_n 0, 1) := by decide +kernel
theorem dX11_yard_4 : decode cX11_yard 4 = .ok (.getfield 19, 3) := by decide +kernel
theorem dX11_yard_7 : decode cX11_yard 7 = .ok (.getfield 171, 3) := by decide +kernel
theorem dX11_yard_10 : decode cX11_yard 10 = .ok (.invokestatic 113, 3) := by decide +kernel
theorem dX11_yard_13 : decode cX11_yard 13 = .ok (.ifCond .ne 9, 3) := by decide +kernel
theorem dX11_yard_16 : decode cX11_yard 16 = .ok (.aload_n 0, 1) := by decide +kernel
theorem dX11_yard_17 : decode cX11_yard 17 = .ok (.iconst 5, 1) := by decide +kernel
theorem dX11_yard_18 : decode cX11_yard 18 = .ok (.invokevirtual 146, 3) := by decide +kernel
theorem dX11_yard_21 : decode cX11_yard 21 = .ok (.ireturn, 1) := by decide +kernel
theorem dX11_yard_22 : decode cX11_yard 22 = .ok (.aload_n 0, 1) := by decide +kernel
theorem dX11_yard_23 : decode cX11_yard 23 = .ok (.getfield 28, 3) := by decide +kernel
theorem dX11_yard_26 : decode cX11_yard 26 = .ok (.iload_n 1, 1) := by decide +kernel
theorem dX11_yard_27 : decode cX11_yard 27 = .ok (.aload_n 0, 1) := by decide +kernel
theorem dX11_yard_28 : decode cX11_yard 28 = .ok (.getfield 46, 3) := by decide +kernel
theorem dX11_yard_31 : decode cX11_yard 31 = .ok (.invokevirtual 178, 3) := by decide +kernel
theorem dX11_yard_34 : decode cX11_yard 34 = .ok (.istore_n 2, 1) := by decide +kernel
theorem dX11_yard_35 : decode cX11_yard 35 = .ok (.aload_n 0, 1) := by decide +kernel
theorem dX11_yard_36 : decode cX11_yard 36 = .ok (.getfield 19, 3) := by decide +kernel
theorem dX11_yard_39 : decode cX11_yard 39 = .ok (.iconst 0, 1) := by decide +kernel
theorem dX11_yard_40 : decode cX11_yard 40 = .ok (.putfield 171, 3) := by decide +kernel
theorem dX11_yard_43 : decode cX11_yard 43 = .ok (.iload_n 2, 1) := by decide +kernel
theorem dX11_yard_44 : decode cX11_yard 44 = .ok (.ifCond .ne 10, 3) := by decide +kernel
theorem dX11_yard_47 : decode cX11_yard 47 = .ok (.aload_n 0, 1) := by decide +kernel
theorem dX11_yard_48 : decode cX11_yard 48 = .ok (.bipush 10, 2) := by decide +kernel
theorem dX11_yard_50 : decode cX11_yard 50 = .ok (.invokevirtual 146, 3) := by decide +kernel
theorem dX11_yard_53 : decode cX11_yard 53 = .ok (.ireturn, 1) := by decide +kernel
theorem dX11_yard_54 : decode cX11_yard 54 = .ok (.aload_n 0, 1) := by decide +kernel
theorem dX11_yard_55 : decode cX11_yard 55 = .ok (.getfield 42, 3) := by decide +kernel
theorem dX11_yard_58 : decode cX11_yard 58 = .ok (.astore_n 3, 1) := by decide +kernel
theorem dX11_yard_59 : decode cX11_yard 59 = .ok (.aload_n 0, 1) := by decide +kernel
theorem dX11_yard_60 : decode cX11_yard 60 = .ok (.aload_n 0, 1) := by decide +kernel
theorem dX11_yard_61 : decode cX11_yard 61 = .ok (.getfield 46, 3) := by decide +kernel
theorem dX11_yard_64 : decode cX11_yard 64 = .ok (.putfield 42, 3) := by decide +kernel
theorem dX11_yard_67 : decode cX11_yard 67 = .ok (.aload_n 0, 1) := by decide +kernel
theorem dX11_yard_68 : decode cX11_yard 68 = .ok (.aload_n 3, 1) := by decide +kernel
theorem dX11_yard_69 : decode cX11_yard 69 = .ok (.putfield 46, 3) := by decide +kernel
theorem dX11_yard_72 : decode cX11_yard 72 = .ok (.aload_n 0, 1) := by decide +kernel
theorem dX11_yard_73 : decode cX11_yard 73 = .ok (.getfield 52, 3) := by decide +kernel
theorem dX11_yard_76 : decode cX11_yard 76 = .ok (.invokevirtual 182, 3) := by decide +kernel
theorem dX11_yard_79 : decode cX11_yard 79 = .ok (.aload_n 0, 1) := by decide +kernel
theorem dX11_yard_80 : decode cX11_yard 80 = .ok (.aload_n 0, 1) := by decide +kernel
theorem dX11_yard_81 : decode cX11_yard 81 = .ok (.getfield 42, 3) := by decide +kernel
theorem dX11_yard_84 : decode cX11_yard 84 = .ok (.getfield 185, 3) := by decide +kernel
theorem dX11_yard_87 : decode cX11_yard 87 = .ok (.aload_n 0, 1) := by decide +kernel
theorem dX11_yard_88 : decode cX11_yard 88 = .ok (.getfield 42, 3) := by decide +kernel
theorem dX11_yard_91 : decode cX11_yard 91 = .ok (.getfield 188, 3) := by decide +kernel
theorem dX11_yard_94 : decode cX11_yard 94 = .ok (.imul, 1) := by decide +kernel
theorem dX11_yard_95 : decode cX11_yard 95 = .ok (.invokevirtual 191, 3) := by decide +kernel
theorem dX11_yard_98 : decode cX11_yard 98 = .ok (.ireturn, 1) := by decide +kernel
theorem dX11_orders_0 : decode cX11_orders 0 = .ok (.iload_n 1, 1) := by decide +kernel
theorem dX11_orders_1 : decode cX11_orders 1 = .ok (.i2l, 1) := by decide +kernel
theorem dX11_orders_2 : decode cX11_orders 2 = .ok (.iconst 0, 1) := by decide +kernel
theorem dX11_orders_3 : decode cX11_orders 3 = .ok (.aload_n 0, 1) := by decide +kernel
theorem dX11_orders_4 : decode cX11_orders 4 = .ok (.getfield 19, 3) := by decide +kernel
theorem dX11_orders_7 : decode cX11_orders 7 = .ok (.getfield 171, 3) := by decide +kernel
theorem dX11_orders_10 : decode cX11_orders 10 = .ok (.invokestatic 113, 3) := by decide +kernel
theorem dX11_orders_13 : decode cX11_orders 13 = .ok (.ifCond .eq 10, 3) := by decide +kernel
theorem dX11_orders_16 : decode cX11_orders 16 = .ok (.iload_n 1, 1) := by decide +kernel
theorem dX11_orders_17 : decode cX11_orders 17 = .ok (.sipush 300, 3) := by decide +kernel
theorem dX11_orders_20 : decode cX11_orders 20 = .ok (.if_icmp .le 9, 3) := by decide +kernel
theorem dX11_orders_23 : decode cX11_orders 23 = .ok (.aload_n 0, 1) := by decide +kernel
theorem dX11_orders_24 : decode cX11_orders 24 = .ok (.iconst 5, 1) := by decide +kernel
theorem dX11_orders_25 : decode cX11_orders 25 = .ok (.invokevirtual 146, 3) := by decide +kernel
theorem dX11_orders_28 : decode cX11_orders 28 = .ok (.ireturn, 1) := by decide +kernel
theorem dX11_orders_29 : decode cX11_orders 29 = .ok (.aload_n 0, 1) := by decide +kernel
theorem dX11_orders_30 : decode cX11_orders 30 = .ok (.getfield 35, 3) := by decide +kernel
theorem dX11_orders_33 : decode cX11_orders 33 = .ok (.iload_n 1, 1) := by decide +kernel
theorem dX11_orders_34 : decode cX11_orders 34 = .ok (.aload_n 0, 1) := by decide +kernel
theorem dX11_orders_35 : decode cX11_orders 35 = .ok (.getfield 42, 3) := by decide +kernel
theorem dX11_orders_38 : decode cX11_orders 38 = .ok (.aload_n 0, 1) := by decide +kernel
theorem dX11_orders_39 : decode cX11_orders 39 = .ok (.getfield 56, 3) := by decide +kernel
theorem dX11_orders_42 : decode cX11_orders 42 = .ok (.invokevirtual 194, 3) := by decide +kernel
theorem dX11_orders_45 : decode cX11_orders 45 = .ok (.istore_n 2, 1) := by decide +kernel
theorem dX11_orders_46 : decode cX11_orders 46 = .ok (.aload_n 0, 1) := by decide +kernel
theorem dX11_orders_47 : decode cX11_orders 47 = .ok (.getfield 19, 3) := by decide +kernel
theorem dX11_orders_50 : decode cX11_orders 50 = .ok (.iconst 0, 1) := by decide +kernel
theorem dX11_orders_51 : decode cX11_orders 51 = .ok (.putfield 171, 3) := by decide +kernel
theorem dX11_orders_54 : decode cX11_orders 54 = .ok (.iload_n 2, 1) := by decide +kernel
theorem dX11_orders_55 : decode cX11_orders 55 = .ok (.ifCond .ne 10, 3) := by decide +kernel
theorem dX11_orders_58 : decode cX11_orders 58 = .ok (.aload_n 0, 1) := by decide +kernel
theorem dX11_orders_59 : decode cX11_orders 59 = .ok (.bipush 10, 2) := by decide +kernel
theorem dX11_orders_61 : decode cX11_orders 61 = .ok (.invokevirtual 146, 3) := by decide +kernel
theorem dX11_orders_64 : decode cX11_orders 64 = .ok (.ireturn, 1) := by decide +kernel
theorem dX11_orders_65 : decode cX11_orders 65 = .ok (.aload_n 0, 1) := by decide +kernel
theorem dX11_orders_66 : decode cX11_orders 66 = .ok (.getfield 52, 3) := by decide +kernel
theorem dX11_orders_69 : decode cX11_orders 69 = .ok (.astore_n 3, 1) := by decide +kernel
theorem dX11_orders_70 : decode cX11_orders 70 = .ok (.aload_n 0, 1) := by decide +kernel
theorem dX11_orders_71 : decode cX11_orders 71 = .ok (.aload_n 0, 1) := by decide +kernel
theorem dX11_orders_72 : decode cX11_orders 72 = .ok (.getfield 56, 3) := by decide +kernel
theorem dX11_orders_75 : decode cX11_orders 75 = .ok (.putfield 52, 3) := by decide +kernel
theorem dX11_orders_78 : decode cX11_orders 78 = .ok (.aload_n 0, 1) := by decide +kernel
theorem dX11_orders_79 : decode cX11_orders 79 = .ok (.aload_n 3, 1) := by decide +kernel
theorem dX11_orders_80 : decode cX11_orders 80 = .ok (.putfield 56, 3) := by decide +kernel
theorem dX11_orders_83 : decode cX11_orders 83 = .ok (.aload_n 0, 1) := by decide +kernel
theorem dX11_orders_84 : decode cX11_orders 84 = .ok (.aload_n 0, 1) := by decide +kernel
theorem dX11_orders_85 : decode cX11_orders 85 = .ok (.getfield 52, 3) := by decide +kernel
theorem dX11_orders_88 : decode cX11_orders 88 = .ok (.getfield 197, 3) := by decide +kernel
theorem dX11_orders_91 : decode cX11_orders 91 = .ok (.invokevirtual 191, 3) := by decide +kernel
theorem dX11_orders_94 : decode cX11_orders 94 = .ok (.ireturn, 1) := by decide +kernel
theorem dX11_many_0 : decode cX11_many 0 = .ok (.iload_n 1, 1) := by decide +kernel
theorem dX11_many_1 : decode cX11_many 1 = .ok (.i2l, 1) := by decide +kernel
theorem dX11_many_2 : decode cX11_many 2 = .ok (.iconst 0, 1) := by decide +kernel
theorem dX11_many_3 : decode cX11_many 3 = .ok (.bipush 9, 2) := by decide +kernel
theorem dX11_many_5 : decode cX11_many 5 = .ok (.invokestatic 113, 3) := by decide +kernel
theorem dX11_many_8 : decode cX11_many 8 = .ok (.ifCond .ne 9, 3) := by decide +kernel
theorem dX11_many_11 : decode cX11_many 11 = .ok (.aload_n 0, 1) := by decide +kernel
theorem dX11_many_12 : decode cX11_many 12 = .ok (.iconst 5, 1) := by decide +kernel
theorem dX11_many_13 : decode cX11_many 13 = .ok (.invokevirtual 146, 3) := by decide +kernel
theorem dX11_many_16 : decode cX11_many 16 = .ok (.ireturn, 1) := by decide +kernel
theorem dX11_many_17 : decode cX11_many 17 = .ok (.aload_n 0, 1) := by decide +kernel
theorem dX11_many_18 : decode cX11_many 18 = .ok (.aload_n 0, 1) := by decide +kernel
theorem dX11_many_19 : decode cX11_many 19 = .ok (.getfield 42, 3) := by decide +kernel
theorem dX11_many_22 : decode cX11_many 22 = .ok (.iload_n 1, 1) := by decide +kernel
theorem dX11_many_23 : decode cX11_many 23 = .ok (.invokevirtual 206, 3) := by decide +kernel
theorem dX11_many_26 : decode cX11_many 26 = .ok (.invokevirtual 191, 3) := by decide +kernel
theorem dX11_many_29 : decode cX11_many 29 = .ok (.ireturn, 1) := by decide +kernel
theorem dX11_cell_0 : decode cX11_cell 0 = .ok (.aload_n 0, 1) := by decide +kernel
theorem dX11_cell_1 : decode cX11_cell 1 = .ok (.getfield 42, 3) := by decide +kernel
theorem dX11_cell_4 : decode cX11_cell 4 = .ok (.iload_n 1, 1) := by decide +kernel
theorem dX11_cell_5 : decode cX11_cell 5 = .ok (.iload_n 2, 1) := by decide +kernel
theorem dX11_cell_6 : decode cX11_cell 6 = .ok (.invokevirtual 209, 3) := by decide +kernel
theorem dX11_cell_9 : decode cX11_cell 9 = .ok (.ifCond .ne 9, 3) := by decide +kernel
theorem dX11_cell_12 : decode cX11_cell 12 = .ok (.aload_n 0, 1) := by decide +kernel
theorem dX11_cell_13 : decode cX11_cell 13 = .ok (.iconst 2, 1) := by decide +kernel
theorem dX11_cell_14 : decode cX11_cell 14 = .ok (.invokevirtual 146, 3) := by decide +kernel
theorem dX11_cell_17 : decode cX11_cell 17 = .ok (.ireturn, 1) := by decide +kernel
theorem dX11_cell_18 : decode cX11_cell 18 = .ok (.iload_n 3, 1) := by decide +kernel
theorem dX11_cell_19 : decode cX11_cell 19 = .ok (.i2l, 1) := by decide +kernel
theorem dX11_cell_20 : decode cX11_cell 20 = .ok (.iconst 0, 1) := by decide +kernel
theorem dX11_cell_21 : decode cX11_cell 21 = .ok (.iconst 5, 1) := by decide +kernel
theorem dX11_cell_22 : decode cX11_cell 22 = .ok (.invokestatic 113, 3) := by decide +kernel
theorem dX11_cell_25 : decode cX11_cell 25 = .ok (.ifCond .ne 9, 3) := by decide +kernel
theorem dX11_cell_28 : decode cX11_cell 28 = .ok (.aload_n 0, 1) := by decide +kernel
theorem dX11_cell_29 : decode cX11_cell 29 = .ok (.iconst 5, 1) := by decide +kernel
theorem dX11_cell_30 : decode cX11_cell 30 = .ok (.invokevirtual 146, 3) := by decide +kernel
theorem dX11_cell_33 : decode cX11_cell 33 = .ok (.ireturn, 1) := by decide +kernel
theorem dX11_cell_34 : decode cX11_cell 34 = .ok (.aload_n 0, 1) := by decide +kernel
theorem dX11_cell_35 : decode cX11_cell 35 = .ok (.aload_n 0, 1) := by decide +kernel
theorem dX11_cell_36 : decode cX11_cell 36 = .ok (.getfield 42, 3) := by decide +kernel
theorem dX11_cell_39 : decode cX11_cell 39 = .ok (.iload_n 2, 1) := by decide +kernel
theorem dX11_cell_40 : decode cX11_cell 40 = .ok (.bipush 6, 2) := by decide +kernel
theorem dX11_cell_42 : decode cX11_cell 42 = .ok (.imul, 1) := by decide +kernel
theorem dX11_cell_43 : decode cX11_cell 43 = .ok (.iload_n 1, 1) := by decide +kernel
theorem dX11_cell_44 : decode cX11_cell 44 = .ok (.iadd, 1) := by decide +kernel
theorem dX11_cell_45 : decode cX11_cell 45 = .ok (.iload_n 3, 1) := by decide +kernel
theorem dX11_cell_46 : decode cX11_cell 46 = .ok (.invokevirtual 212, 3) := by decide +kernel
theorem dX11_cell_49 : decode cX11_cell 49 = .ok (.invokevirtual 191, 3) := by decide +kernel
theorem dX11_cell_52 : decode cX11_cell 52 = .ok (.ireturn, 1) := by decide +kernel
theorem dX11_school_0 : decode cX11_school 0 = .ok (.aload_n 0, 1) := by decide +kernel
theorem dX11_school_1 : decode cX11_school 1 = .ok (.getfield 42, 3) := by decide +kernel
theorem dX11_school_4 : decode cX11_school 4 = .ok (.iload_n 1, 1) := by decide +kernel
theorem dX11_school_5 : decode cX11_school 5 = .ok (.invokevirtual 215, 3) := by decide +kernel
theorem dX11_school_8 : decode cX11_school 8 = .ok (.ifCond .ne 9, 3) := by decide +kernel
theorem dX11_school_11 : decode cX11_school 11 = .ok (.aload_n 0, 1) := by decide +kernel
theorem dX11_school_12 : decode cX11_school 12 = .ok (.iconst 2, 1) := by decide +kernel
theorem dX11_school_13 : decode cX11_school 13 = .ok (.invokevirtual 146, 3) := by decide +kernel
theorem dX11_school_16 : decode cX11_school 16 = .ok (.ireturn, 1) := by decide +kernel
theorem dX11_school_17 : decode cX11_school 17 = .ok (.iload_n 2, 1) := by decide +kernel
theorem dX11_school_18 : decode cX11_school 18 = .ok (.i2l, 1) := by decide +kernel
theorem dX11_school_19 : decode cX11_school 19 = .ok (.iconst 0, 1) := by decide +kernel
theorem dX11_school_20 : decode cX11_school 20 = .ok (.iconst 4, 1) := by decide +kernel
theorem dX11_school_21 : decode cX11_school 21 = .ok (.invokestatic 113, 3) := by decide +kernel
theorem dX11_school_24 : decode cX11_school 24 = .ok (.ifCond .ne 9, 3) := by decide +kernel
theorem dX11_school_27 : decode cX11_school 27 = .ok (.aload_n 0, 1) := by decide +kernel
theorem dX11_school_28 : decode cX11_school 28 = .ok (.iconst 5, 1) := by decide +kernel
theorem dX11_school_29 : decode cX11_school 29 = .ok (.invokevirtual 146, 3) := by decide +kernel
theorem dX11_school_32 : decode cX11_school 32 = .ok (.ireturn, 1) := by decide +kernel
theorem dX11_school_33 : decode cX11_school 33 = .ok (.aload_n 0, 1) := by decide +kernel
theorem dX11_school_34 : decode cX11_school 34 = .ok (.aload_n 0, 1) := by decide +kernel
theorem dX11_school_35 : decode cX11_school 35 = .ok (.getfield 42, 3) := by decide +kernel
theorem dX11_school_38 : decode cX11_school 38 = .ok (.iload_n 1, 1) := by decide +kernel
theorem dX11_school_39 : decode cX11_school 39 = .ok (.iload_n 2, 1) := by decide +kernel
theorem dX11_school_40 : decode cX11_school 40 = .ok (.invokevirtual 218, 3) := by decide +kernel
theorem dX11_school_43 : decode cX11_school 43 = .ok (.invokevirtual 191, 3) := by decide +kernel
theorem dX11_school_46 : decode cX11_school 46 = .ok (.ireturn, 1) := by decide +kernel
theorem dX11_fall_0 : decode cX11_fall 0 = .ok (.iload_n 1, 1) := by decide +kernel
theorem dX11_fall_1 : decode cX11_fall 1 = .ok (.i2l, 1) := by decide +kernel
theorem dX11_fall_2 : decode cX11_fall 2 = .ok (.iconst 0, 1) := by decide +kernel
theorem dX11_fall_3 : decode cX11_fall 3 = .ok (.bipush 40, 2) := by decide +kernel
theorem dX11_fall_5 : decode cX11_fall 5 = .ok (.invokestatic 113, 3) := by decide +kernel
theorem dX11_fall_8 : decode cX11_fall 8 = .ok (.ifCond .eq 18, 3) := by decide +kernel
theorem dX11_fall_11 : decode cX11_fall 11 = .ok (.aload_n 0, 1) := by decide +kernel
theorem dX11_fall_12 : decode cX11_fall 12 = .ok (.aload_n 0, 1) := by decide +kernel
theorem dX11_fall_13 : decode cX11_fall 13 = .ok (.getfield 42, 3) := by decide +kernel
theorem dX11_fall_16 : decode cX11_fall 16 = .ok (.iload_n 1, 1) := by decide +kernel
theorem dX11_fall_17 : decode cX11_fall 17 = .ok (.invokevirtual 232, 3) := by decide +kernel
theorem dX11_fall_20 : decode cX11_fall 20 = .ok (.invokevirtual 191, 3) := by decide +kernel
theorem dX11_fall_23 : decode cX11_fall 23 = .ok (.goto 8, 3) := by decide +kernel
theorem dX11_fall_26 : decode cX11_fall 26 = .ok (.aload_n 0, 1) := by decide +kernel
theorem dX11_fall_27 : decode cX11_fall 27 = .ok (.iconst 5, 1) := by decide +kernel
theorem dX11_fall_28 : decode cX11_fall 28 = .ok (.invokevirtual 146, 3) := by decide +kernel
theorem dX11_fall_31 : decode cX11_fall 31 = .ok (.ireturn, 1) := by decide +kernel
theorem dX11_thaw_0 : decode cX11_thaw 0 = .ok (.iload_n 1, 1) := by decide +kernel
theorem dX11_thaw_1 : decode cX11_thaw 1 = .ok (.i2l, 1) := by decide +kernel
theorem dX11_thaw_2 : decode cX11_thaw 2 = .ok (.iconst 0, 1) := by decide +kernel
theorem dX11_thaw_3 : decode cX11_thaw 3 = .ok (.bipush 40, 2) := by decide +kernel
theorem dX11_thaw_5 : decode cX11_thaw 5 = .ok (.invokestatic 113, 3) := by decide +kernel
theorem dX11_thaw_8 : decode cX11_thaw 8 = .ok (.ifCond .eq 18, 3) := by decide +kernel
theorem dX11_thaw_11 : decode cX11_thaw 11 = .ok (.aload_n 0, 1) := by decide +kernel
theorem dX11_thaw_12 : decode cX11_thaw 12 = .ok (.aload_n 0, 1) := by decide +kernel
theorem dX11_thaw_13 : decode cX11_thaw 13 = .ok (.getfield 42, 3) := by decide +kernel
theorem dX11_thaw_16 : decode cX11_thaw 16 = .ok (.iload_n 1, 1) := by decide +kernel
theorem dX11_thaw_17 : decode cX11_thaw 17 = .ok (.invokevirtual 235, 3) := by decide +kernel
theorem dX11_thaw_20 : decode cX11_thaw 20 = .ok (.invokevirtual 191, 3) := by decide +kernel
theorem dX11_thaw_23 : decode cX11_thaw 23 = .ok (.goto 8, 3) := by decide +kernel
theorem dX11_thaw_26 : decode cX11_thaw 26 = .ok (.aload_n 0, 1) := by decide +kernel
theorem dX11_thaw_27 : decode cX11_thaw 27 = .ok (.iconst 5, 1) := by decide +kernel
theorem dX11_thaw_28 : decode cX11_thaw 28 = .ok (.invokevirtual 146, 3) := by decide +kernel
theorem dX11_thaw_31 : decode cX11_thaw 31 = .ok (.ireturn, 1) := by decide +kernel
theorem dX11_build_0 : decode cX11_build 0 = .ok (.aload_n 0, 1) := by decide +kernel
theorem dX11_build_1 : decode cX11_build 1 = .ok (.getfield 42, 3) := by decide +kernel
theorem dX11_build_4 : decode cX11_build 4 = .ok (.iload_n 1, 1) := by decide +kernel
theorem dX11_build_5 : decode cX11_build 5 = .ok (.iload_n 2, 1) := by decide +kernel
theorem dX11_build_6 : decode cX11_build 6 = .ok (.invokevirtual 238, 3) := by decide +kernel
theorem dX11_build_9 : decode cX11_build 9 = .ok (.ifCond .ne 9, 3) := by decide +kernel
theorem dX11_build_12 : decode cX11_build 12 = .ok (.aload_n 0, 1) := by decide +kernel
theorem dX11_build_13 : decode cX11_build 13 = .ok (.iconst 2, 1) := by decide +kernel
theorem dX11_build_14 : decode cX11_build 14 = .ok (.invokevirtual 146, 3) := by decide +kernel
theorem dX11_build_17 : decode cX11_build 17 = .ok (.ireturn, 1) := by decide +kernel
theorem dX11_build_18 : decode cX11_build 18 = .ok (.iload_n 3, 1) := by decide +kernel
theorem dX11_build_19 : decode cX11_build 19 = .ok (.i2l, 1) := by decide +kernel
theorem dX11_build_20 : decode cX11_build 20 = .ok (.iconst 1, 1) := by decide +kernel
theorem dX11_build_21 : decode cX11_build 21 = .ok (.bipush 40, 2) := by decide +kernel
theorem dX11_build_23 : decode cX11_build 23 = .ok (.invokestatic 113, 3) := by decide +kernel
theorem dX11_build_26 : decode cX11_build 26 = .ok (.ifCond .ne 9, 3) := by decide +kernel
theorem dX11_build_29 : decode cX11_build 29 = .ok (.aload_n 0, 1) := by decide +kernel
theorem dX11_build_30 : decode cX11_build 30 = .ok (.iconst 5, 1) := by decide +kernel
theorem dX11_build_31 : decode cX11_build 31 = .ok (.invokevirtual 146, 3) := by decide +kernel
theorem dX11_build_34 : decode cX11_build 34 = .ok (.ireturn, 1) := by decide +kernel
theorem dX11_build_35 : decode cX11_build 35 = .ok (.aload_n 0, 1) := by decide +kernel
theorem dX11_build_36 : decode cX11_build 36 = .ok (.getfield 42, 3) := by decide +kernel
theorem dX11_build_39 : decode cX11_build 39 = .ok (.iload_n 2, 1) := by decide +kernel
theorem dX11_build_40 : decode cX11_build 40 = .ok (.bipush 6, 2) := by decide +kernel
theorem dX11_build_42 : decode cX11_build 42 = .ok (.imul, 1) := by decide +kernel
theorem dX11_build_43 : decode cX11_build 43 = .ok (.iload_n 1, 1) := by decide +kernel
theorem dX11_build_44 : decode cX11_build 44 = .ok (.iadd, 1) := by decide +kernel
theorem dX11_build_45 : decode cX11_build 45 = .ok (.iload_n 3, 1) := by decide +kernel
theorem dX11_build_46 : decode cX11_build 46 = .ok (.invokevirtual 241, 3) := by decide +kernel
theorem dX11_build_49 : decode cX11_build 49 = .ok (.istore 4, 2) := by decide +kernel
theorem dX11_build_51 : decode cX11_build 51 = .ok (.iload 4, 2) := by decide +kernel
theorem dX11_build_53 : decode cX11_build 53 = .ok (.ifCond .ne 12, 3) := by decide +kernel
theorem dX11_build_56 : decode cX11_build 56 = .ok (.aload_n 0, 1) := by decide +kernel
theorem dX11_build_57 : decode cX11_build 57 = .ok (.bipush 9, 2) := by decide +kernel
theorem dX11_build_59 : decode cX11_build 59 = .ok (.invokevirtual 146, 3) := by decide +kernel
theorem dX11_build_62 : decode cX11_build 62 = .ok (.goto 9, 3) := by decide +kernel
theorem dX11_build_65 : decode cX11_build 65 = .ok (.aload_n 0, 1) := by decide +kernel
theorem dX11_build_66 : decode cX11_build 66 = .ok (.iload 4, 2) := by decide +kernel
theorem dX11_build_68 : decode cX11_build 68 = .ok (.invokevirtual 191, 3) := by decide +kernel
theorem dX11_build_71 : decode cX11_build 71 = .ok (.ireturn, 1) := by decide +kernel
theorem dX11_ice_0 : decode cX11_ice 0 = .ok (.aload_n 0, 1) := by decide +kernel
theorem dX11_ice_1 : decode cX11_ice 1 = .ok (.getfield 42, 3) := by decide +kernel
theorem dX11_ice_4 : decode cX11_ice 4 = .ok (.iload_n 1, 1) := by decide +kernel
theorem dX11_ice_5 : decode cX11_ice 5 = .ok (.iload_n 2, 1) := by decide +kernel
theorem dX11_ice_6 : decode cX11_ice 6 = .ok (.invokevirtual 238, 3) := by decide +kernel
theorem dX11_ice_9 : decode cX11_ice 9 = .ok (.ifCond .ne 9, 3) := by decide +kernel
theorem dX11_ice_12 : decode cX11_ice 12 = .ok (.aload_n 0, 1) := by decide +kernel
theorem dX11_ice_13 : decode cX11_ice 13 = .ok (.iconst 2, 1) := by decide +kernel
theorem dX11_ice_14 : decode cX11_ice 14 = .ok (.invokevirtual 128, 3) := by decide +kernel
theorem dX11_ice_17 : decode cX11_ice 17 = .ok (.ireturn, 1) := by decide +kernel
theorem dX11_ice_18 : decode cX11_ice 18 = .ok (.aload_n 0, 1) := by decide +kernel
theorem dX11_ice_19 : decode cX11_ice 19 = .ok (.getfield 42, 3) := by decide +kernel
theorem dX11_ice_22 : decode cX11_ice 22 = .ok (.iload_n 2, 1) := by decide +kernel
theorem dX11_ice_23 : decode cX11_ice 23 = .ok (.bipush 6, 2) := by decide +kernel
theorem dX11_ice_25 : decode cX11_ice 25 = .ok (.imul, 1) := by decide +kernel
theorem dX11_ice_26 : decode cX11_ice 26 = .ok (.iload_n 1, 1) := by decide +kernel
theorem dX11_ice_27 : decode cX11_ice 27 = .ok (.iadd, 1) := by decide +kernel
theorem dX11_ice_28 : decode cX11_ice 28 = .ok (.invokevirtual 244, 3) := by decide +kernel
theorem dX11_ice_31 : decode cX11_ice 31 = .ok (.ifCond .eq 10, 3) := by decide +kernel
theorem dX11_ice_34 : decode cX11_ice 34 = .ok (.aload_n 0, 1) := by decide +kernel
theorem dX11_ice_35 : decode cX11_ice 35 = .ok (.invokevirtual 135, 3) := by decide +kernel
theorem dX11_ice_38 : decode cX11_ice 38 = .ok (.goto 9, 3) := by decide +kernel
theorem dX11_ice_41 : decode cX11_ice 41 = .ok (.aload_n 0, 1) := by decide +kernel
theorem dX11_ice_42 : decode cX11_ice 42 = .ok (.bipush 9, 2) := by decide +kernel
theorem dX11_ice_44 : decode cX11_ice 44 = .ok (.invokevirtual 128, 3) := by decide +kernel
theorem dX11_ice_47 : decode cX11_ice 47 = .ok (.ireturn, 1) := by decide +kernel
theorem dX11_steal_0 : decode cX11_steal 0 = .ok (.aload_n 0, 1) := by decide +kernel
theorem dX11_steal_1 : decode cX11_steal 1 = .ok (.getfield 42, 3) := by decide +kernel
theorem dX11_steal_4 : decode cX11_steal 4 = .ok (.iload_n 1, 1) := by decide +kernel
theorem dX11_steal_5 : decode cX11_steal 5 = .ok (.iload_n 2, 1) := by decide +kernel
theorem dX11_steal_6 : decode cX11_steal 6 = .ok (.invokevirtual 238, 3) := by decide +kernel
theorem dX11_steal_9 : decode cX11_steal 9 = .ok (.ifCond .eq 16, 3) := by decide +kernel
theorem dX11_steal_12 : decode cX11_steal 12 = .ok (.aload_n 0, 1) := by decide +kernel
theorem dX11_steal_13 : decode cX11_steal 13 = .ok (.getfield 42, 3) := by decide +kernel
theorem dX11_steal_16 : decode cX11_steal 16 = .ok (.iload_n 3, 1) := by decide +kernel
theorem dX11_steal_17 : decode cX11_steal 17 = .ok (.iload 4, 2) := by decide +kernel
theorem dX11_steal_19 : decode cX11_steal 19 = .ok (.invokevirtual 209, 3) := by decide +kernel
theorem dX11_steal_22 : decode cX11_steal 22 = .ok (.ifCond .ne 9, 3) := by decide +kernel
theorem dX11_steal_25 : decode cX11_steal 25 = .ok (.aload_n 0, 1) := by decide +kernel
theorem dX11_steal_26 : decode cX11_steal 26 = .ok (.iconst 2, 1) := by decide +kernel
theorem dX11_steal_27 : decode cX11_steal 27 = .ok (.invokevirtual 146, 3) := by decide +kernel
theorem dX11_steal_30 : decode cX11_steal 30 = .ok (.ireturn, 1) := by decide +kernel
theorem dX11_steal_31 : decode cX11_steal 31 = .ok (.iload 5, 2) := by decide +kernel
theorem dX11_steal_33 : decode cX11_steal 33 = .ok (.i2l, 1) := by decide +kernel
theorem dX11_steal_34 : decode cX11_steal 34 = .ok (.iconst 1, 1) := by decide +kernel
theorem dX11_steal_35 : decode cX11_steal 35 = .ok (.bipush 40, 2) := by decide +kernel
theorem dX11_steal_37 : decode cX11_steal 37 = .ok (.invokestatic 113, 3) := by decide +kernel
theorem dX11_steal_40 : decode cX11_steal 40 = .ok (.ifCond .ne 9, 3) := by decide +kernel
theorem dX11_steal_43 : decode cX11_steal 43 = .ok (.aload_n 0, 1) := by decide +kernel
theorem dX11_steal_44 : decode cX11_steal 44 = .ok (.iconst 5, 1) := by decide +kernel
theorem dX11_steal_45 : decode cX11_steal 45 = .ok (.invokevirtual 146, 3) := by decide +kernel
theorem dX11_steal_48 : decode cX11_steal 48 = .ok (.ireturn, 1) := by decide +kernel
theorem dX11_steal_49 : decode cX11_steal 49 = .ok (.aload_n 0, 1) := by decide +kernel
theorem dX11_steal_50 : decode cX11_steal 50 = .ok (.getfield 42, 3) := by decide +kernel
theorem dX11_steal_53 : decode cX11_steal 53 = .ok (.iload_n 2, 1) := by decide +kernel
theorem dX11_steal_54 : decode cX11_steal 54 = .ok (.bipush 6, 2) := by decide +kernel
theorem dX11_steal_56 : decode cX11_steal 56 = .ok (.imul, 1) := by decide +kernel
theorem dX11_steal_57 : decode cX11_steal 57 = .ok (.iload_n 1, 1) := by decide +kernel
theorem dX11_steal_58 : decode cX11_steal 58 = .ok (.iadd, 1) := by decide +kernel
theorem dX11_steal_59 : decode cX11_steal 59 = .ok (.iload 4, 2) := by decide +kernel
theorem dX11_steal_61 : decode cX11_steal 61 = .ok (.bipush 6, 2) := by decide +kernel
theorem dX11_steal_63 : decode cX11_steal 63 = .ok (.imul, 1) := by decide +kernel
theorem dX11_steal_64 : decode cX11_steal 64 = .ok (.iload_n 3, 1) := by decide +kernel
theorem dX11_steal_65 : decode cX11_steal 65 = .ok (.iadd, 1) := by decide +kernel
theorem dX11_steal_66 : decode cX11_steal 66 = .ok (.iload 5, 2) := by decide +kernel
theorem dX11_steal_68 : decode cX11_steal 68 = .ok (.invokevirtual 247, 3) := by decide +kernel
theorem dX11_steal_71 : decode cX11_steal 71 = .ok (.istore 6, 2) := by decide +kernel
theorem dX11_steal_73 : decode cX11_steal 73 = .ok (.iload 6, 2) := by decide +kernel
theorem dX11_steal_75 : decode cX11_steal 75 = .ok (.ifCond .ne 12, 3) := by decide +kernel
theorem dX11_steal_78 : decode cX11_steal 78 = .ok (.aload_n 0, 1) := by decide +kernel
theorem dX11_steal_79 : decode cX11_steal 79 = .ok (.bipush 9, 2) := by decide +kernel
theorem dX11_steal_81 : decode cX11_steal 81 = .ok (.invokevirtual 146, 3) := by decide +kernel
theorem dX11_steal_84 : decode cX11_steal 84 = .ok (.goto 9, 3) := by decide +kernel
theorem dX11_steal_87 : decode cX11_steal 87 = .ok (.aload_n 0, 1) := by decide +kernel
theorem dX11_steal_88 : decode cX11_steal 88 = .ok (.iload 6, 2) := by decide +kernel
theorem dX11_steal_90 : decode cX11_steal 90 = .ok (.invokevirtual 191, 3) := by decide +kernel
theorem dX11_steal_93 : decode cX11_steal 93 = .ok (.ireturn, 1) := by decide +kernel
theorem dX11_night_0 : decode cX11_night 0 = .ok (.aload_n 0, 1) := by decide +kernel
theorem dX11_night_1 : decode cX11_night 1 = .ok (.getfield 42, 3) := by decide +kernel
theorem dX11_night_4 : decode cX11_night 4 = .ok (.invokevirtual 251, 3) := by decide +kernel
theorem dX11_night_7 : decode cX11_night 7 = .ok (.ifCond .eq 17, 3) := by decide +kernel
theorem dX11_night_10 : decode cX11_night 10 = .ok (.aload_n 0, 1) := by decide +kernel
theorem dX11_night_11 : decode cX11_night 11 = .ok (.aload_n 0, 1) := by decide +kernel
theorem dX11_night_12 : decode cX11_night 12 = .ok (.getfield 42, 3) := by decide +kernel
theorem dX11_night_15 : decode cX11_night 15 = .ok (.getfield 254, 3) := by decide +kernel
theorem dX11_night_18 : decode cX11_night 18 = .ok (.invokevirtual 191, 3) := by decide +kernel
theorem dX11_night_21 : decode cX11_night 21 = .ok (.goto 9, 3) := by decide +kernel
theorem dX11_night_24 : decode cX11_night 24 = .ok (.aload_n 0, 1) := by decide +kernel
theorem dX11_night_25 : decode cX11_night 25 = .ok (.bipush 7, 2) := by decide +kernel
theorem dX11_night_27 : decode cX11_night 27 = .ok (.invokevirtual 146, 3) := by decide +kernel
theorem dX11_night_30 : decode cX11_night 30 = .ok (.ireturn, 1) := by decide +kernel
theorem dX11_room_0 : decode cX11_room 0 = .ok (.aload_n 0, 1) := by decide +kernel
theorem dX11_room_1 : decode cX11_room 1 = .ok (.getfield 42, 3) := by decide +kernel
theorem dX11_room_4 : decode cX11_room 4 = .ok (.iload_n 1, 1) := by decide +kernel
theorem dX11_room_5 : decode cX11_room 5 = .ok (.iload_n 2, 1) := by decide +kernel
theorem dX11_room_6 : decode cX11_room 6 = .ok (.invokevirtual 238, 3) := by decide +kernel
theorem dX11_room_9 : decode cX11_room 9 = .ok (.ifCond .eq 23, 3) := by decide +kernel
theorem dX11_room_12 : decode cX11_room 12 = .ok (.aload_n 0, 1) := by decide +kernel
theorem dX11_room_13 : decode cX11_room 13 = .ok (.aload_n 0, 1) := by decide +kernel
theorem dX11_room_14 : decode cX11_room 14 = .ok (.getfield 42, 3) := by decide +kernel
theorem dX11_room_17 : decode cX11_room 17 = .ok (.iload_n 2, 1) := by decide +kernel
theorem dX11_room_18 : decode cX11_room 18 = .ok (.bipush 6, 2) := by decide +kernel
theorem dX11_room_20 : decode cX11_room 20 = .ok (.imul, 1) := by decide +kernel
theorem dX11_room_21 : decode cX11_room 21 = .ok (.iload_n 1, 1) := by decide +kernel
theorem dX11_room_22 : decode cX11_room 22 = .ok (.iadd, 1) := by decide +kernel
theorem dX11_room_23 : decode cX11_room 23 = .ok (.invokevirtual 257, 3) := by decide +kernel
theorem dX11_room_26 : decode cX11_room 26 = .ok (.invokevirtual 191, 3) := by decide +kernel
theorem dX11_room_29 : decode cX11_room 29 = .ok (.goto 8, 3) := by decide +kernel
theorem dX11_room_32 : decode cX11_room 32 = .ok (.aload_n 0, 1) := by decide +kernel
theorem dX11_room_33 : decode cX11_room 33 = .ok (.iconst 2, 1) := by decide +kernel
theorem dX11_room_34 : decode cX11_room 34 = .ok (.invokevirtual 146, 3) := by decide +kernel
theorem dX11_room_37 : decode cX11_room 37 = .ok (.ireturn, 1) := by decide +kernel
theorem dX11_most_0 : decode cX11_most 0 = .ok (.aload_n 0, 1) := by decide +kernel
theorem dX11_most_1 : decode cX11_most 1 = .ok (.getfield 42, 3) := by decide +kernel
theorem dX11_most_4 : decode cX11_most 4 = .ok (.iload_n 1, 1) := by decide +kernel
theorem dX11_most_5 : decode cX11_most 5 = .ok (.invokevirtual 215, 3) := by decide +kernel
theorem dX11_most_8 : decode cX11_most 8 = .ok (.ifCond .eq 18, 3) := by decide +kernel
theorem dX11_most_11 : decode cX11_most 11 = .ok (.aload_n 0, 1) := by decide +kernel
theorem dX11_most_12 : decode cX11_most 12 = .ok (.aload_n 0, 1) := by decide +kernel
theorem dX11_most_13 : decode cX11_most 13 = .ok (.getfield 42, 3) := by decide +kernel
theorem dX11_most_16 : decode cX11_most 16 = .ok (.iload_n 1, 1) := by decide +kernel
theorem dX11_most_17 : decode cX11_most 17 = .ok (.invokevirtual 260, 3) := by decide +kernel
theorem dX11_most_20 : decode cX11_most 20 = .ok (.invokevirtual 191, 3) := by decide +kernel
theorem dX11_most_23 : decode cX11_most 23 = .ok (.goto 8, 3) := by decide +kernel
theorem dX11_most_26 : decode cX11_most 26 = .ok (.aload_n 0, 1) := by decide +kernel
theorem dX11_most_27 : decode cX11_most 27 = .ok (.iconst 2, 1) := by decide +kernel
theorem dX11_most_28 : decode cX11_most 28 = .ok (.invokevirtual 146, 3) := by decide +kernel
theorem dX11_most_31 : decode cX11_most 31 = .ok (.ireturn, 1) := by decide +kernel
theorem dX11_lasting_0 : decode cX11_lasting 0 = .ok (.aload_n 0, 1) := by decide +kernel
theorem dX11_lasting_1 : decode cX11_lasting 1 = .ok (.getfield 42, 3) := by decide +kernel
theorem dX11_lasting_4 : decode cX11_lasting 4 = .ok (.iload_n 1, 1) := by decide +kernel
theorem dX11_lasting_5 : decode cX11_lasting 5 = .ok (.invokevirtual 215, 3) := by decide +kernel
theorem dX11_lasting_8 : decode cX11_lasting 8 = .ok (.ifCond .ne 9, 3) := by decide +kernel
theorem dX11_lasting_11 : decode cX11_lasting 11 = .ok (.aload_n 0, 1) := by decide +kernel
theorem dX11_lasting_12 : decode cX11_lasting 12 = .ok (.iconst 2, 1) := by decide +kernel
theorem dX11_lasting_13 : decode cX11_lasting 13 = .ok (.invokevirtual 146, 3) := by decide +kernel
theorem dX11_lasting_16 : decode cX11_lasting 16 = .ok (.ireturn, 1) := by decide +kernel
theorem dX11_lasting_17 : decode cX11_lasting 17 = .ok (.iload_n 2, 1) := by decide +kernel
theorem dX11_lasting_18 : decode cX11_lasting 18 = .ok (.i2l, 1) := by decide +kernel
theorem dX11_lasting_19 : decode cX11_lasting 19 = .ok (.iconst 0, 1) := by decide +kernel
theorem dX11_lasting_20 : decode cX11_lasting 20 = .ok (.bipush 30, 2) := by decide +kernel
theorem dX11_lasting_22 : decode cX11_lasting 22 = .ok (.invokestatic 113, 3) := by decide +kernel
theorem dX11_lasting_25 : decode cX11_lasting 25 = .ok (.ifCond .eq 14, 3) := by decide +kernel
theorem dX11_lasting_28 : decode cX11_lasting 28 = .ok (.iload_n 3, 1) := by decide +kernel
theorem dX11_lasting_29 : decode cX11_lasting 29 = .ok (.i2l, 1) := by decide +kernel
theorem dX11_lasting_30 : decode cX11_lasting 30 = .ok (.iconst 0, 1) := by decide +kernel
theorem dX11_lasting_31 : decode cX11_lasting 31 = .ok (.bipush 40, 2) := by decide +kernel
theorem dX11_lasting_33 : decode cX11_lasting 33 = .ok (.invokestatic 113, 3) := by decide +kernel
theorem dX11_lasting_36 : decode cX11_lasting 36 = .ok (.ifCond .ne 9, 3) := by decide +kernel
theorem dX11_lasting_39 : decode cX11_lasting 39 = .ok (.aload_n 0, 1) := by decide +kernel
theorem dX11_lasting_40 : decode cX11_lasting 40 = .ok (.iconst 5, 1) := by decide +kernel
theorem dX11_lasting_41 : decode cX11_lasting 41 = .ok (.invokevirtual 146, 3) := by decide +kernel
theorem dX11_lasting_44 : decode cX11_lasting 44 = .ok (.ireturn, 1) := by decide +kernel
theorem dX11_lasting_45 : decode cX11_lasting 45 = .ok (.aload_n 0, 1) := by decide +kernel
theorem dX11_lasting_46 : decode cX11_lasting 46 = .ok (.aload_n 0, 1) := by decide +kernel
theorem dX11_lasting_47 : decode cX11_lasting 47 = .ok (.getfield 42, 3) := by decide +kernel
theorem dX11_lasting_50 : decode cX11_lasting 50 = .ok (.iload_n 1, 1) := by decide +kernel
theorem dX11_lasting_51 : decode cX11_lasting 51 = .ok (.iload_n 2, 1) := by decide +kernel
theorem dX11_lasting_52 : decode cX11_lasting 52 = .ok (.iload_n 3, 1) := by decide +kernel
theorem dX11_lasting_53 : decode cX11_lasting 53 = .ok (.invokevirtual 281, 3) := by decide +kernel
theorem dX11_lasting_56 : decode cX11_lasting 56 = .ok (.invokevirtual 191, 3) := by decide +kernel
theorem dX11_lasting_59 : decode cX11_lasting 59 = .ok (.ireturn, 1) := by decide +kernel
theorem dX11_way_0 : decode cX11_way 0 = .ok (.aload_n 0, 1) := by decide +kernel
theorem dX11_way_1 : decode cX11_way 1 = .ok (.getfield 70, 3) := by decide +kernel
theorem dX11_way_4 : decode cX11_way 4 = .ok (.aload_n 0, 1) := by decide +kernel
theorem dX11_way_5 : decode cX11_way 5 = .ok (.getfield 42, 3) := by decide +kernel
theorem dX11_way_8 : decode cX11_way 8 = .ok (.invokevirtual 284, 3) := by decide +kernel
theorem dX11_way_11 : decode cX11_way 11 = .ok (.istore_n 1, 1) := by decide +kernel
theorem dX11_way_12 : decode cX11_way 12 = .ok (.aload_n 0, 1) := by decide +kernel
theorem dX11_way_13 : decode cX11_way 13 = .ok (.getfield 70, 3) := by decide +kernel
theorem dX11_way_16 : decode cX11_way 16 = .ok (.aload_n 0, 1) := by decide +kernel
theorem dX11_way_17 : decode cX11_way 17 = .ok (.getfield 42, 3) := by decide +kernel
theorem dX11_way_20 : decode cX11_way 20 = .ok (.invokevirtual 288, 3) := by decide +kernel
theorem dX11_way_23 : decode cX11_way 23 = .ok (.aload_n 0, 1) := by decide +kernel
theorem dX11_way_24 : decode cX11_way 24 = .ok (.iload_n 1, 1) := by decide +kernel
theorem dX11_way_25 : decode cX11_way 25 = .ok (.invokevirtual 191, 3) := by decide +kernel
theorem dX11_way_28 : decode cX11_way 28 = .ok (.ireturn, 1) := by decide +kernel
theorem dX11_wayAt_0 : decode cX11_wayAt 0 = .ok (.iload_n 2, 1) := by decide +kernel
theorem dX11_wayAt_1 : decode cX11_wayAt 1 = .ok (.i2l, 1) := by decide +kernel
theorem dX11_wayAt_2 : decode cX11_wayAt 2 = .ok (.iconst 0, 1) := by decide +kernel
theorem dX11_wayAt_3 : decode cX11_wayAt 3 = .ok (.iconst 1, 1) := by decide +kernel
theorem dX11_wayAt_4 : decode cX11_wayAt 4 = .ok (.invokestatic 113, 3) := by decide +kernel
theorem dX11_wayAt_7 : decode cX11_wayAt 7 = .ok (.ifCond .ne 9, 3) := by decide +kernel
theorem dX11_wayAt_10 : decode cX11_wayAt 10 = .ok (.aload_n 0, 1) := by decide +kernel
theorem dX11_wayAt_11 : decode cX11_wayAt 11 = .ok (.iconst 5, 1) := by decide +kernel
theorem dX11_wayAt_12 : decode cX11_wayAt 12 = .ok (.invokevirtual 146, 3) := by decide +kernel
theorem dX11_wayAt_15 : decode cX11_wayAt 15 = .ok (.ireturn, 1) := by decide +kernel
theorem dX11_wayAt_16 : decode cX11_wayAt 16 = .ok (.iload_n 1, 1) := by decide +kernel
theorem dX11_wayAt_17 : decode cX11_wayAt 17 = .ok (.i2l, 1) := by decide +kernel
theorem dX11_wayAt_18 : decode cX11_wayAt 18 = .ok (.iconst 0, 1) := by decide +kernel
theorem dX11_wayAt_19 : decode cX11_wayAt 19 = .ok (.aload_n 0, 1) := by decide +kernel
theorem dX11_wayAt_20 : decode cX11_wayAt 20 = .ok (.getfield 70, 3) := by decide +kernel
theorem dX11_wayAt_23 : decode cX11_wayAt 23 = .ok (.getfield 292, 3) := by decide +kernel
theorem dX11_wayAt_26 : decode cX11_wayAt 26 = .ok (.iconst 1, 1) := by decide +kernel
theorem dX11_wayAt_27 : decode cX11_wayAt 27 = .ok (.isub, 1) := by decide +kernel
theorem dX11_wayAt_28 : decode cX11_wayAt 28 = .ok (.invokestatic 113, 3) := by decide +kernel
theorem dX11_wayAt_31 : decode cX11_wayAt 31 = .ok (.ifCond .eq 9, 3) := by decide +kernel
theorem dX11_wayAt_34 : decode cX11_wayAt 34 = .ok (.iload_n 1, 1) := by decide +kernel
theorem dX11_wayAt_35 : decode cX11_wayAt 35 = .ok (.bipush 36, 2) := by decide +kernel
theorem dX11_wayAt_37 : decode cX11_wayAt 37 = .ok (.if_icmp .lt 10, 3) := by decide +kernel
theorem dX11_wayAt_40 : decode cX11_wayAt 40 = .ok (.aload_n 0, 1) := by decide +kernel
theorem dX11_wayAt_41 : decode cX11_wayAt 41 = .ok (.bipush 8, 2) := by decide +kernel
theorem dX11_wayAt_43 : decode cX11_wayAt 43 = .ok (.invokevirtual 146, 3) := by decide +kernel
theorem dX11_wayAt_46 : decode cX11_wayAt 46 = .ok (.ireturn, 1) := by decide +kernel
theorem dX11_wayAt_47 : decode cX11_wayAt 47 = .ok (.aload_n 0, 1) := by decide +kernel
theorem dX11_wayAt_48 : decode cX11_wayAt 48 = .ok (.getfield 70, 3) := by decide +kernel
theorem dX11_wayAt_51 : decode cX11_wayAt 51 = .ok (.getfield 295, 3) := by decide +kernel
theorem dX11_wayAt_54 : decode cX11_wayAt 54 = .ok (.iload_n 1, 1) := by decide +kernel
theorem dX11_wayAt_55 : decode cX11_wayAt 55 = .ok (.iaload, 1) := by decide +kernel
theorem dX11_wayAt_56 : decode cX11_wayAt 56 = .ok (.istore_n 3, 1) := by decide +kernel
theorem dX11_wayAt_57 : decode cX11_wayAt 57 = .ok (.aload_n 0, 1) := by decide +kernel
theorem dX11_wayAt_58 : decode cX11_wayAt 58 = .ok (.iload_n 2, 1) := by decide +kernel
theorem dX11_wayAt_59 : decode cX11_wayAt 59 = .ok (.ifCond .ne 10, 3) := by decide +kernel
theorem dX11_wayAt_62 : decode cX11_wayAt 62 = .ok (.iload_n 3, 1) := by decide +kernel
theorem dX11_wayAt_63 : decode cX11_wayAt 63 = .ok (.bipush 6, 2) := by decide +kernel
theorem dX11_wayAt_65 : decode cX11_wayAt 65 = .ok (.irem, 1) := by decide +kernel
theorem dX11_wayAt_66 : decode cX11_wayAt 66 = .ok (.goto 7, 3) := by decide +kernel
theorem dX11_wayAt_69 : decode cX11_wayAt 69 = .ok (.iload_n 3, 1) := by decide +kernel
theorem dX11_wayAt_70 : decode cX11_wayAt 70 = .ok (.bipush 6, 2) := by decide +kernel
theorem dX11_wayAt_72 : decode cX11_wayAt 72 = .ok (.idiv, 1) := by decide +kernel
theorem dX11_wayAt_73 : decode cX11_wayAt 73 = .ok (.invokevirtual 191, 3) := by decide +kernel
theorem dX11_wayAt_76 : decode cX11_wayAt 76 = .ok (.ireturn, 1) := by decide +kernel
theorem dX11_isPeace_0 : decode cX11_isPeace 0 = .ok (.aload_n 0, 1) := by decide +kernel
theorem dX11_isPeace_1 : decode cX11_isPeace 1 = .ok (.getfield 70, 3) := by decide +kernel
theorem dX11_isPeace_4 : decode cX11_isPeace 4 = .ok (.aload_n 0, 1) := by decide +kernel
theorem dX11_isPeace_5 : decode cX11_isPeace 5 = .ok (.getfield 42, 3) := by decide +kernel
theorem dX11_isPeace_8 : decode cX11_isPeace 8 = .ok (.invokevirtual 284, 3) := by decide +kernel
theorem dX11_isPeace_11 : decode cX11_isPeace 11 = .ok (.iconst 4, 1) := by decide +kernel
theorem dX11_isPeace_12 : decode cX11_isPeace 12 = .ok (.if_icmp .gt 7, 3) := by decide +kernel
theorem dX11_isPeace_15 : decode cX11_isPeace 15 = .ok (.iconst 1, 1) := by decide +kernel
theorem dX11_isPeace_16 : decode cX11_isPeace 16 = .ok (.goto 4, 3) := by decide +kernel
theorem dX11_isPeace_19 : decode cX11_isPeace 19 = .ok (.iconst 0, 1) := by decide +kernel
theorem dX11_isPeace_20 : decode cX11_isPeace 20 = .ok (.ireturn, 1) := by decide +kernel
theorem dX11_peace_0 : decode cX11_peace 0 = .ok (.aload_n 0, 1) := by decide +kernel
theorem dX11_peace_1 : decode cX11_peace 1 = .ok (.aload_n 0, 1) := by decide +kernel
theorem dX11_peace_2 : decode cX11_peace 2 = .ok (.invokevirtual 298, 3) := by decide +kernel
theorem dX11_peace_5 : decode cX11_peace 5 = .ok (.ifCond .eq 7, 3) := by decide +kernel
theorem dX11_peace_8 : decode cX11_peace 8 = .ok (.iconst 1, 1) := by decide +kernel
theorem dX11_peace_9 : decode cX11_peace 9 = .ok (.goto 4, 3) := by decide +kernel
theorem dX11_peace_12 : decode cX11_peace 12 = .ok (.iconst 0, 1) := by decide +kernel
theorem dX11_peace_13 : decode cX11_peace 13 = .ok (.invokevirtual 191, 3) := by decide +kernel
theorem dX11_peace_16 : decode cX11_peace 16 = .ok (.ireturn, 1) := by decide +kernel
theorem dJ9_max_7cf53_0 : decode cJ9_max_7cf53 0 = .ok (.iload_n 0, 1) := by decide +kernel
theorem dJ9_max_7cf53_1 : decode cJ9_max_7cf53 1 = .ok (.iload_n 1, 1) := by decide +kernel
theorem dJ9_max_7cf53_2 : decode cJ9_max_7cf53 2 = .ok (.if_icmp .lt 7, 3) := by decide +kernel
theorem dJ9_max_7cf53_5 : decode cJ9_max_7cf53 5 = .ok (.iload_n 0, 1) := by decide +kernel
theorem dJ9_max_7cf53_6 : decode cJ9_max_7cf53 6 = .ok (.goto 4, 3) := by decide +kernel
theorem dJ9_max_7cf53_9 : decode cJ9_max_7cf53 9 = .ok (.iload_n 1, 1) := by decide +kernel
theorem dJ9_max_7cf53_10 : decode cJ9_max_7cf53 10 = .ok (.ireturn, 1) := by decide +kernel
theorem dJ9_min_7cf53_0 : decode cJ9_min_7cf53 0 = .ok (.iload_n 0, 1) := by decide +kernel
theorem dJ9_min_7cf53_1 : decode cJ9_min_7cf53 1 = .ok (.iload_n 1, 1) := by decide +kernel
theorem dJ9_min_7cf53_2 : decode cJ9_min_7cf53 2 = .ok (.if_icmp .gt 7, 3) := by decide +kernel
theorem dJ9_min_7cf53_5 : decode cJ9_min_7cf53 5 = .ok (.iload_n 0, 1) := by decide +kernel
theorem dJ9_min_7cf53_6 : decode cJ9_min_7cf53 6 = .ok (.goto 4, 3) := by decide +kernel
theorem dJ9_min_7cf53_9 : decode cJ9_min_7cf53 9 = .ok (.iload_n 1, 1) := by decide +kernel
theorem dJ9_min_7cf53_10 : decode cJ9_min_7cf53 10 = .ok (.ireturn, 1) := by decide +kernel
theorem dJ0_length_8abf5_0 : decode cJ0_length_8abf5 0 = .ok (.aload_n 0, 1) := by decide +kernel
theorem dJ0_length_8abf5_1 : decode cJ0_length_8abf5 1 = .ok (.getfield 9, 3) := by decide +kernel
theorem dJ0_length_8abf5_4 : decode cJ0_length_8abf5 4 = .ok (.arraylength, 1) := by decide +kernel
theorem dJ0_length_8abf5_5 : decode cJ0_length_8abf5 5 = .ok (.aload_n 0, 1) := by decide +kernel
theorem dJ0_length_8abf5_6 : decode cJ0_length_8abf5 6 = .ok (.invokevirtual 335, 3) := by decide +kernel
theorem dJ0_length_8abf5_9 : decode cJ0_length_8abf5 9 = .ok (.ishr, 1) := by decide +kernel
theorem dJ0_length_8abf5_10 : decode cJ0_length_8abf5 10 = .ok (.ireturn, 1) := by decide +kernel
theorem dJ0_charAt_5068e_0 : decode cJ0_charAt_5068e 0 = .ok (.aload_n 0, 1) := by decide +kernel
theorem dJ0_charAt_5068e_1 : decode cJ0_charAt_5068e 1 = .ok (.invokevirtual 492, 3) := by decide +kernel
theorem dJ0_charAt_5068e_4 : decode cJ0_charAt_5068e 4 = .ok (.ifCond .eq 12, 3) := by decide +kernel
theorem dJ0_charAt_5068e_7 : decode cJ0_charAt_5068e 7 = .ok (.aload_n 0, 1) := by decide +kernel
theorem dJ0_charAt_5068e_8 : decode cJ0_charAt_5068e 8 = .ok (.getfield 9, 3) := by decide +kernel
theorem dJ0_charAt_5068e_11 : decode cJ0_charAt_5068e 11 = .ok (.iload_n 1, 1) := by decide +kernel
theorem dJ0_charAt_5068e_12 : decode cJ0_charAt_5068e 12 = .ok (.invokestatic 495, 3) := by decide +kernel
theorem dJ0_charAt_5068e_15 : decode cJ0_charAt_5068e 15 = .ok (.ireturn, 1) := by decide +kernel
theorem dJ0_charAt_5068e_16 : decode cJ0_charAt_5068e 16 = .ok (.aload_n 0, 1) := by decide +kernel
theorem dJ0_charAt_5068e_17 : decode cJ0_charAt_5068e 17 = .ok (.getfield 9, 3) := by decide +kernel
theorem dJ0_charAt_5068e_20 : decode cJ0_charAt_5068e 20 = .ok (.iload_n 1, 1) := by decide +kernel
theorem dJ0_charAt_5068e_21 : decode cJ0_charAt_5068e 21 = .ok (.invokestatic 498, 3) := by decide +kernel
theorem dJ0_charAt_5068e_24 : decode cJ0_charAt_5068e 24 = .ok (.ireturn, 1) := by decide +kernel
theorem dJ0_coder_7d493_0 : decode cJ0_coder_7d493 0 = .ok (.getstatic 38, 3) := by decide +kernel
theorem dJ0_coder_7d493_3 : decode cJ0_coder_7d493 3 = .ok (.ifCond .eq 10, 3) := by decide +kernel
theorem dJ0_coder_7d493_6 : decode cJ0_coder_7d493 6 = .ok (.aload_n 0, 1) := by decide +kernel
theorem dJ0_coder_7d493_7 : decode cJ0_coder_7d493 7 = .ok (.getfield 15, 3) := by decide +kernel
theorem dJ0_coder_7d493_10 : decode cJ0_coder_7d493 10 = .ok (.goto 4, 3) := by decide +kernel
theorem dJ0_coder_7d493_13 : decode cJ0_coder_7d493 13 = .ok (.iconst 1, 1) := by decide +kernel
theorem dJ0_coder_7d493_14 : decode cJ0_coder_7d493 14 = .ok (.ireturn, 1) := by decide +kernel
theorem dJ0_isLatin1_aae02_0 : decode cJ0_isLatin1_aae02 0 = .ok (.getstatic 38, 3) := by decide +kernel
theorem dJ0_isLatin1_aae02_3 : decode cJ0_isLatin1_aae02 3 = .ok (.ifCond .eq 14, 3) := by decide +kernel
theorem dJ0_isLatin1_aae02_6 : decode cJ0_isLatin1_aae02 6 = .ok (.aload_n 0, 1) := by decide +kernel
theorem dJ0_isLatin1_aae02_7 : decode cJ0_isLatin1_aae02 7 = .ok (.getfield 15, 3) := by decide +kernel
theorem dJ0_isLatin1_aae02_10 : decode cJ0_isLatin1_aae02 10 = .ok (.ifCond .ne 7, 3) := by decide +kernel
theorem dJ0_isLatin1_aae02_13 : decode cJ0_isLatin1_aae02 13 = .ok (.iconst 1, 1) := by decide +kernel
theorem dJ0_isLatin1_aae02_14 : decode cJ0_isLatin1_aae02 14 = .ok (.goto 4, 3) := by decide +kernel
theorem dJ0_isLatin1_aae02_17 : decode cJ0_isLatin1_aae02 17 = .ok (.iconst 0, 1) := by decide +kernel
theorem dJ0_isLatin1_aae02_18 : decode cJ0_isLatin1_aae02 18 = .ok (.ireturn, 1) := by decide +kernel
theorem dJ0_checkIndex_df160_0 : decode cJ0_checkIndex_df160 0 = .ok (.iload_n 0, 1) := by decide +kernel
theorem dJ0_checkIndex_df160_1 : decode cJ0_checkIndex_df160 1 = .ok (.iload_n 1, 1) := by decide +kernel
theorem dJ0_checkIndex_df160_2 : decode cJ0_checkIndex_df160 2 = .ok (.getstatic 1053, 3) := by decide +kernel
theorem dJ0_checkIndex_df160_5 : decode cJ0_checkIndex_df160 5 = .ok (.invokestatic 1059, 3) := by decide +kernel
theorem dJ0_checkIndex_df160_8 : decode cJ0_checkIndex_df160 8 = .ok (.pop, 1) := by decide +kernel
theorem dJ0_checkIndex_df160_9 : decode cJ0_checkIndex_df160 9 = .ok (.return_, 1) := by decide +kernel
theorem dJ1_charAt_3b067_0 : decode cJ1_charAt_3b067 0 = .ok (.iload_n 1, 1) := by decide +kernel
theorem dJ1_charAt_3b067_1 : decode cJ1_charAt_3b067 1 = .ok (.aload_n 0, 1) := by decide +kernel
theorem dJ1_charAt_3b067_2 : decode cJ1_charAt_3b067 2 = .ok (.arraylength, 1) := by decide +kernel
theorem dJ1_charAt_3b067_3 : decode cJ1_charAt_3b067 3 = .ok (.invokestatic 9, 3) := by decide +kernel
theorem dJ1_charAt_3b067_6 : decode cJ1_charAt_3b067 6 = .ok (.aload_n 0, 1) := by decide +kernel
theorem dJ1_charAt_3b067_7 : decode cJ1_charAt_3b067 7 = .ok (.iload_n 1, 1) := by decide +kernel
theorem dJ1_charAt_3b067_8 : decode cJ1_charAt_3b067 8 = .ok (.baload, 1) := by decide +kernel
theorem dJ1_charAt_3b067_9 : decode cJ1_charAt_3b067 9 = .ok (.sipush 255, 3) := by decide +kernel
theorem dJ1_charAt_3b067_12 : decode cJ1_charAt_3b067 12 = .ok (.iand, 1) := by decide +kernel
theorem dJ1_charAt_3b067_13 : decode cJ1_charAt_3b067 13 = .ok (.i2c, 1) := by decide +kernel
theorem dJ1_charAt_3b067_14 : decode cJ1_charAt_3b067 14 = .ok (.ireturn, 1) := by decide +kernel
theorem dJ2_getChar_3b067_0 : decode cJ2_getChar_3b067 0 = .ok (.getstatic 44, 3) := by decide +kernel
theorem dJ2_getChar_3b067_3 : decode cJ2_getChar_3b067 3 = .ok (.ifCond .ne 25, 3) := by decide +kernel
theorem dJ2_getChar_3b067_6 : decode cJ2_getChar_3b067 6 = .ok (.iload_n 1, 1) := by decide +kernel
theorem dJ2_getChar_3b067_7 : decode cJ2_getChar_3b067 7 = .ok (.ifCond .lt 11, 3) := by decide +kernel
theorem dJ2_getChar_3b067_10 : decode cJ2_getChar_3b067 10 = .ok (.iload_n 1, 1) := by decide +kernel
theorem dJ2_getChar_3b067_11 : decode cJ2_getChar_3b067 11 = .ok (.aload_n 0, 1) := by decide +kernel
theorem dJ2_getChar_3b067_12 : decode cJ2_getChar_3b067 12 = .ok (.invokestatic 48, 3) := by decide +kernel
theorem dJ2_getChar_3b067_15 : decode cJ2_getChar_3b067 15 = .ok (.if_icmp .lt 13, 3) := by decide +kernel
theorem dJ2_getChar_3b067_18 : decode cJ2_getChar_3b067 18 = .ok (.new 52, 3) := by decide +kernel
theorem dJ2_getChar_3b067_21 : decode cJ2_getChar_3b067 21 = .ok (.dup, 1) := by decide +kernel
theorem dJ2_getChar_3b067_22 : decode cJ2_getChar_3b067 22 = .ok (.ldc 54, 2) := by decide +kernel
theorem dJ2_getChar_3b067_24 : decode cJ2_getChar_3b067 24 = .ok (.invokespecial 56, 3) := by decide +kernel
theorem dJ2_getChar_3b067_27 : decode cJ2_getChar_3b067 27 = .ok (.athrow, 1) := by decide +kernel
theorem dJ2_getChar_3b067_28 : decode cJ2_getChar_3b067 28 = .ok (.iload_n 1, 1) := by decide +kernel
theorem dJ2_getChar_3b067_29 : decode cJ2_getChar_3b067 29 = .ok (.iconst 1, 1) := by decide +kernel
theorem dJ2_getChar_3b067_30 : decode cJ2_getChar_3b067 30 = .ok (.ishl, 1) := by decide +kernel
theorem dJ2_getChar_3b067_31 : decode cJ2_getChar_3b067 31 = .ok (.istore_n 1, 1) := by decide +kernel
theorem dJ2_getChar_3b067_32 : decode cJ2_getChar_3b067 32 = .ok (.aload_n 0, 1) := by decide +kernel
theorem dJ2_getChar_3b067_33 : decode cJ2_getChar_3b067 33 = .ok (.iload_n 1, 1) := by decide +kernel
theorem dJ2_getChar_3b067_34 : decode cJ2_getChar_3b067 34 = .ok (.iinc 1 1, 3) := by decide +kernel
theorem dJ2_getChar_3b067_37 : decode cJ2_getChar_3b067 37 = .ok (.baload, 1) := by decide +kernel
theorem dJ2_getChar_3b067_38 : decode cJ2_getChar_3b067 38 = .ok (.sipush 255, 3) := by decide +kernel
theorem dJ2_getChar_3b067_41 : decode cJ2_getChar_3b067 41 = .ok (.iand, 1) := by decide +kernel
theorem dJ2_getChar_3b067_42 : decode cJ2_getChar_3b067 42 = .ok (.getstatic 59, 3) := by decide +kernel
theorem dJ2_getChar_3b067_45 : decode cJ2_getChar_3b067 45 = .ok (.ishl, 1) := by decide +kernel
theorem dJ2_getChar_3b067_46 : decode cJ2_getChar_3b067 46 = .ok (.aload_n 0, 1) := by decide +kernel
theorem dJ2_getChar_3b067_47 : decode cJ2_getChar_3b067 47 = .ok (.iload_n 1, 1) := by decide +kernel
theorem dJ2_getChar_3b067_48 : decode cJ2_getChar_3b067 48 = .ok (.baload, 1) := by decide +kernel
theorem dJ2_getChar_3b067_49 : decode cJ2_getChar_3b067 49 = .ok (.sipush 255, 3) := by decide +kernel
theorem dJ2_getChar_3b067_52 : decode cJ2_getChar_3b067 52 = .ok (.iand, 1) := by decide +kernel
theorem dJ2_getChar_3b067_53 : decode cJ2_getChar_3b067 53 = .ok (.getstatic 63, 3) := by decide +kernel
theorem dJ2_getChar_3b067_56 : decode cJ2_getChar_3b067 56 = .ok (.ishl, 1) := by decide +kernel
theorem dJ2_getChar_3b067_57 : decode cJ2_getChar_3b067 57 = .ok (.ior, 1) := by decide +kernel
theorem dJ2_getChar_3b067_58 : decode cJ2_getChar_3b067 58 = .ok (.i2c, 1) := by decide +kernel
theorem dJ2_getChar_3b067_59 : decode cJ2_getChar_3b067 59 = .ok (.ireturn, 1) := by decide +kernel
theorem dJ2_length_9d52b_0 : decode cJ2_length_9d52b 0 = .ok (.aload_n 0, 1) := by decide +kernel
theorem dJ2_length_9d52b_1 : decode cJ2_length_9d52b 1 = .ok (.arraylength, 1) := by decide +kernel
theorem dJ2_length_9d52b_2 : decode cJ2_length_9d52b 2 = .ok (.iconst 1, 1) := by decide +kernel
theorem dJ2_length_9d52b_3 : decode cJ2_length_9d52b 3 = .ok (.ishr, 1) := by decide +kernel
theorem dJ2_length_9d52b_4 : decode cJ2_length_9d52b 4 = .ok (.ireturn, 1) := by decide +kernel
theorem dJ2_charAt_3b067_0 : decode cJ2_charAt_3b067 0 = .ok (.iload_n 1, 1) := by decide +kernel
theorem dJ2_charAt_3b067_1 : decode cJ2_charAt_3b067 1 = .ok (.aload_n 0, 1) := by decide +kernel
theorem dJ2_charAt_3b067_2 : decode cJ2_charAt_3b067 2 = .ok (.invokestatic 67, 3) := by decide +kernel
theorem dJ2_charAt_3b067_5 : decode cJ2_charAt_3b067 5 = .ok (.aload_n 0, 1) := by decide +kernel
theorem dJ2_charAt_3b067_6 : decode cJ2_charAt_3b067 6 = .ok (.iload_n 1, 1) := by decide +kernel
theorem dJ2_charAt_3b067_7 : decode cJ2_charAt_3b067 7 = .ok (.invokestatic 71, 3) := by decide +kernel
theorem dJ2_charAt_3b067_10 : decode cJ2_charAt_3b067 10 = .ok (.ireturn, 1) := by decide +kernel
theorem dJ2_checkIndex_2214a_0 : decode cJ2_checkIndex_2214a 0 = .ok (.iload_n 0, 1) := by decide +kernel
theorem dJ2_checkIndex_2214a_1 : decode cJ2_checkIndex_2214a 1 = .ok (.aload_n 1, 1) := by decide +kernel
theorem dJ2_checkIndex_2214a_2 : decode cJ2_checkIndex_2214a 2 = .ok (.invokestatic 48, 3) := by decide +kernel
theorem dJ2_checkIndex_2214a_5 : decode cJ2_checkIndex_2214a 5 = .ok (.invokestatic 414, 3) := by decide +kernel
theorem dJ2_checkIndex_2214a_8 : decode cJ2_checkIndex_2214a 8 = .ok (.return_, 1) := by decide +kernel
theorem dJ7_fill_53178_0 : decode cJ7_fill_53178 0 = .ok (.iconst 0, 1) := by decide +kernel
theorem dJ7_fill_53178_1 : decode cJ7_fill_53178 1 = .ok (.istore_n 2, 1) := by decide +kernel
theorem dJ7_fill_53178_2 : decode cJ7_fill_53178 2 = .ok (.aload_n 0, 1) := by decide +kernel
theorem dJ7_fill_53178_3 : decode cJ7_fill_53178 3 = .ok (.arraylength, 1) := by decide +kernel
theorem dJ7_fill_53178_4 : decode cJ7_fill_53178 4 = .ok (.istore_n 3, 1) := by decide +kernel
theorem dJ7_fill_53178_5 : decode cJ7_fill_53178 5 = .ok (.iload_n 2, 1) := by decide +kernel
theorem dJ7_fill_53178_6 : decode cJ7_fill_53178 6 = .ok (.iload_n 3, 1) := by decide +kernel
theorem dJ7_fill_53178_7 : decode cJ7_fill_53178 7 = .ok (.if_icmp .ge 13, 3) := by decide +kernel
theorem dJ7_fill_53178_10 : decode cJ7_fill_53178 10 = .ok (.aload_n 0, 1) := by decide +kernel
theorem dJ7_fill_53178_11 : decode cJ7_fill_53178 11 = .ok (.iload_n 2, 1) := by decide +kernel
theorem dJ7_fill_53178_12 : decode cJ7_fill_53178 12 = .ok (.iload_n 1, 1) := by decide +kernel
theorem dJ7_fill_53178_13 : decode cJ7_fill_53178 13 = .ok (.iastore, 1) := by decide +kernel
theorem dJ7_fill_53178_14 : decode cJ7_fill_53178 14 = .ok (.iinc 2 1, 3) := by decide +kernel
theorem dJ7_fill_53178_17 : decode cJ7_fill_53178 17 = .ok (.goto (-12), 3) := by decide +kernel
theorem dJ7_fill_53178_20 : decode cJ7_fill_53178 20 = .ok (.return_, 1) := by decide +kernel
theorem dJ3_checkIndex_8e157_0 : decode cJ3_checkIndex_8e157 0 = .ok (.iload_n 0, 1) := by decide +kernel
theorem dJ3_checkIndex_8e157_1 : decode cJ3_checkIndex_8e157 1 = .ok (.ifCond .lt 8, 3) := by decide +kernel
theorem dJ3_checkIndex_8e157_4 : decode cJ3_checkIndex_8e157 4 = .ok (.iload_n 0, 1) := by decide +kernel
theorem dJ3_checkIndex_8e157_5 : decode cJ3_checkIndex_8e157 5 = .ok (.iload_n 1, 1) := by decide +kernel
theorem dJ3_checkIndex_8e157_6 : decode cJ3_checkIndex_8e157 6 = .ok (.if_icmp .lt 10, 3) := by decide +kernel
theorem dJ3_checkIndex_8e157_9 : decode cJ3_checkIndex_8e157 9 = .ok (.aload_n 2, 1) := by decide +kernel
theorem dJ3_checkIndex_8e157_10 : decode cJ3_checkIndex_8e157 10 = .ok (.iload_n 0, 1) := by decide +kernel
theorem dJ3_checkIndex_8e157_11 : decode cJ3_checkIndex_8e157 11 = .ok (.iload_n 1, 1) := by decide +kernel
theorem dJ3_checkIndex_8e157_12 : decode cJ3_checkIndex_8e157 12 = .ok (.invokestatic 95, 3) := by decide +kernel
theorem dJ3_checkIndex_8e157_15 : decode cJ3_checkIndex_8e157 15 = .ok (.athrow, 1) := by decide +kernel
theorem dJ3_checkIndex_8e157_16 : decode cJ3_checkIndex_8e157 16 = .ok (.iload_n 0, 1) := by decide +kernel
theorem dJ3_checkIndex_8e157_17 : decode cJ3_checkIndex_8e157 17 = .ok (.ireturn, 1) := by decide +kernel
