theorem dL_put_0 : decode cL_put 0 = .ok (.aload_n 1, 1) := by decide +kernel
theorem dL_put_1 : decode cL_put 1 = .ok (.aload_n 1, 1) := by decide +kernel
theorem dL_put_2 : decode cL_put 2 = .ok (.bipush 20, 2) := by decide +kernel
theorem dL_put_4 : decode cL_put 4 = .ok (.iaload, 1) := by decide +kernel
theorem dL_put_5 : decode cL_put 5 = .ok (.iload_n 2, 1) := by decide +kernel
theorem dL_put_6 : decode cL_put 6 = .ok (.iastore, 1) := by decide +kernel
theorem dL_put_7 : decode cL_put 7 = .ok (.aload_n 1, 1) := by decide +kernel
theorem dL_put_8 : decode cL_put 8 = .ok (.bipush 20, 2) := by decide +kernel
theorem dL_put_10 : decode cL_put 10 = .ok (.dup2, 1) := by decide +kernel
theorem dL_put_11 : decode cL_put 11 = .ok (.iaload, 1) := by decide +kernel
theorem dL_put_12 : decode cL_put 12 = .ok (.iconst 1, 1) := by decide +kernel
theorem dL_put_13 : decode cL_put 13 = .ok (.iadd, 1) := by decide +kernel
theorem dL_put_14 : decode cL_put 14 = .ok (.iastore, 1) := by decide +kernel
theorem dL_put_15 : decode cL_put 15 = .ok (.aload_n 1, 1) := by decide +kernel
theorem dL_put_16 : decode cL_put 16 = .ok (.bipush 21, 2) := by decide +kernel
theorem dL_put_18 : decode cL_put 18 = .ok (.dup2, 1) := by decide +kernel
theorem dL_put_19 : decode cL_put 19 = .ok (.iaload, 1) := by decide +kernel
theorem dL_put_20 : decode cL_put 20 = .ok (.iconst 1, 1) := by decide +kernel
theorem dL_put_21 : decode cL_put 21 = .ok (.iadd, 1) := by decide +kernel
theorem dL_put_22 : decode cL_put 22 = .ok (.iastore, 1) := by decide +kernel
theorem dL_put_23 : decode cL_put 23 = .ok (.aload_n 1, 1) := by decide +kernel
theorem dL_put_24 : decode cL_put 24 = .ok (.bipush 20, 2) := by decide +kernel
theorem dL_put_26 : decode cL_put 26 = .ok (.iaload, 1) := by decide +kernel
theorem dL_put_27 : decode cL_put 27 = .ok (.bipush 20, 2) := by decide +kernel
theorem dL_put_29 : decode cL_put 29 = .ok (.if_icmp .ne 8, 3) := by decide +kernel
theorem dL_put_32 : decode cL_put 32 = .ok (.aload_n 0, 1) := by decide +kernel
theorem dL_put_33 : decode cL_put 33 = .ok (.aload_n 1, 1) := by decide +kernel
theorem dL_put_34 : decode cL_put 34 = .ok (.invokestatic 7, 3) := by decide +kernel
theorem dL_put_37 : decode cL_put 37 = .ok (.return_, 1) := by decide +kernel
theorem dL_feed_0 : decode cL_feed 0 = .ok (.aload_n 1, 1) := by decide +kernel
theorem dL_feed_1 : decode cL_feed 1 = .ok (.bipush 20, 2) := by decide +kernel
theorem dL_feed_3 : decode cL_feed 3 = .ok (.iaload, 1) := by decide +kernel
theorem dL_feed_4 : decode cL_feed 4 = .ok (.istore_n 2, 1) := by decide +kernel
theorem dL_feed_5 : decode cL_feed 5 = .ok (.iload_n 2, 1) := by decide +kernel
theorem dL_feed_6 : decode cL_feed 6 = .ok (.bipush 20, 2) := by decide +kernel
theorem dL_feed_8 : decode cL_feed 8 = .ok (.if_icmp .ge 14, 3) := by decide +kernel
theorem dL_feed_11 : decode cL_feed 11 = .ok (.aload_n 1, 1) := by decide +kernel
theorem dL_feed_12 : decode cL_feed 12 = .ok (.iload_n 2, 1) := by decide +kernel
theorem dL_feed_13 : decode cL_feed 13 = .ok (.bipush 32, 2) := by decide +kernel
theorem dL_feed_15 : decode cL_feed 15 = .ok (.iastore, 1) := by decide +kernel
theorem dL_feed_16 : decode cL_feed 16 = .ok (.iinc 2 1, 3) := by decide +kernel
theorem dL_feed_19 : decode cL_feed 19 = .ok (.goto (-14), 3) := by decide +kernel
theorem dL_feed_22 : decode cL_feed 22 = .ok (.aload_n 0, 1) := by decide +kernel
theorem dL_feed_23 : decode cL_feed 23 = .ok (.aload_n 1, 1) := by decide +kernel
theorem dL_feed_24 : decode cL_feed 24 = .ok (.iconst 0, 1) := by decide +kernel
theorem dL_feed_25 : decode cL_feed 25 = .ok (.invokestatic 13, 3) := by decide +kernel
theorem dL_feed_28 : decode cL_feed 28 = .ok (.aload_n 1, 1) := by decide +kernel
theorem dL_feed_29 : decode cL_feed 29 = .ok (.iconst 4, 1) := by decide +kernel
theorem dL_feed_30 : decode cL_feed 30 = .ok (.invokestatic 13, 3) := by decide +kernel
theorem dL_feed_33 : decode cL_feed 33 = .ok (.aload_n 1, 1) := by decide +kernel
theorem dL_feed_34 : decode cL_feed 34 = .ok (.bipush 8, 2) := by decide +kernel
theorem dL_feed_36 : decode cL_feed 36 = .ok (.invokestatic 13, 3) := by decide +kernel
theorem dL_feed_39 : decode cL_feed 39 = .ok (.aload_n 1, 1) := by decide +kernel
theorem dL_feed_40 : decode cL_feed 40 = .ok (.bipush 12, 2) := by decide +kernel
theorem dL_feed_42 : decode cL_feed 42 = .ok (.invokestatic 13, 3) := by decide +kernel
theorem dL_feed_45 : decode cL_feed 45 = .ok (.aload_n 1, 1) := by decide +kernel
theorem dL_feed_46 : decode cL_feed 46 = .ok (.bipush 16, 2) := by decide +kernel
theorem dL_feed_48 : decode cL_feed 48 = .ok (.invokestatic 13, 3) := by decide +kernel
theorem dL_feed_51 : decode cL_feed 51 = .ok (.invokevirtual 17, 3) := by decide +kernel
theorem dL_feed_54 : decode cL_feed 54 = .ok (.pop, 1) := by decide +kernel
theorem dL_feed_55 : decode cL_feed 55 = .ok (.aload_n 1, 1) := by decide +kernel
theorem dL_feed_56 : decode cL_feed 56 = .ok (.bipush 20, 2) := by decide +kernel
theorem dL_feed_58 : decode cL_feed 58 = .ok (.iconst 0, 1) := by decide +kernel
theorem dL_feed_59 : decode cL_feed 59 = .ok (.iastore, 1) := by decide +kernel
theorem dL_feed_60 : decode cL_feed 60 = .ok (.return_, 1) := by decide +kernel
theorem dL_four_0 : decode cL_four 0 = .ok (.aload_n 0, 1) := by decide +kernel
theorem dL_four_1 : decode cL_four 1 = .ok (.iload_n 1, 1) := by decide +kernel
theorem dL_four_2 : decode cL_four 2 = .ok (.iaload, 1) := by decide +kernel
theorem dL_four_3 : decode cL_four 3 = .ok (.bipush 24, 2) := by decide +kernel
theorem dL_four_5 : decode cL_four 5 = .ok (.ishl, 1) := by decide +kernel
theorem dL_four_6 : decode cL_four 6 = .ok (.aload_n 0, 1) := by decide +kernel
theorem dL_four_7 : decode cL_four 7 = .ok (.iload_n 1, 1) := by decide +kernel
theorem dL_four_8 : decode cL_four 8 = .ok (.iconst 1, 1) := by decide +kernel
theorem dL_four_9 : decode cL_four 9 = .ok (.iadd, 1) := by decide +kernel
theorem dL_four_10 : decode cL_four 10 = .ok (.iaload, 1) := by decide +kernel
theorem dL_four_11 : decode cL_four 11 = .ok (.bipush 16, 2) := by decide +kernel
theorem dL_four_13 : decode cL_four 13 = .ok (.ishl, 1) := by decide +kernel
theorem dL_four_14 : decode cL_four 14 = .ok (.ior, 1) := by decide +kernel
theorem dL_four_15 : decode cL_four 15 = .ok (.aload_n 0, 1) := by decide +kernel
theorem dL_four_16 : decode cL_four 16 = .ok (.iload_n 1, 1) := by decide +kernel
theorem dL_four_17 : decode cL_four 17 = .ok (.iconst 2, 1) := by decide +kernel
theorem dL_four_18 : decode cL_four 18 = .ok (.iadd, 1) := by decide +kernel
theorem dL_four_19 : decode cL_four 19 = .ok (.iaload, 1) := by decide +kernel
theorem dL_four_20 : decode cL_four 20 = .ok (.bipush 8, 2) := by decide +kernel
theorem dL_four_22 : decode cL_four 22 = .ok (.ishl, 1) := by decide +kernel
theorem dL_four_23 : decode cL_four 23 = .ok (.ior, 1) := by decide +kernel
theorem dL_four_24 : decode cL_four 24 = .ok (.aload_n 0, 1) := by decide +kernel
theorem dL_four_25 : decode cL_four 25 = .ok (.iload_n 1, 1) := by decide +kernel
theorem dL_four_26 : decode cL_four 26 = .ok (.iconst 3, 1) := by decide +kernel
theorem dL_four_27 : decode cL_four 27 = .ok (.iadd, 1) := by decide +kernel
theorem dL_four_28 : decode cL_four 28 = .ok (.iaload, 1) := by decide +kernel
theorem dL_four_29 : decode cL_four 29 = .ok (.ior, 1) := by decide +kernel
theorem dL_four_30 : decode cL_four 30 = .ok (.ireturn, 1) := by decide +kernel
theorem dL_say_0 : decode cL_say 0 = .ok (.iconst 0, 1) := by decide +kernel
theorem dL_say_1 : decode cL_say 1 = .ok (.istore_n 3, 1) := by decide +kernel
theorem dL_say_2 : decode cL_say 2 = .ok (.iload_n 3, 1) := by decide +kernel
theorem dL_say_3 : decode cL_say 3 = .ok (.aload_n 2, 1) := by decide +kernel
theorem dL_say_4 : decode cL_say 4 = .ok (.invokevirtual 22, 3) := by decide +kernel
theorem dL_say_7 : decode cL_say 7 = .ok (.if_icmp .ge 19, 3) := by decide +kernel
theorem dL_say_10 : decode cL_say 10 = .ok (.aload_n 0, 1) := by decide +kernel
theorem dL_say_11 : decode cL_say 11 = .ok (.aload_n 1, 1) := by decide +kernel
theorem dL_say_12 : decode cL_say 12 = .ok (.aload_n 2, 1) := by decide +kernel
theorem dL_say_13 : decode cL_say 13 = .ok (.iload_n 3, 1) := by decide +kernel
theorem dL_say_14 : decode cL_say 14 = .ok (.invokevirtual 28, 3) := by decide +kernel
theorem dL_say_17 : decode cL_say 17 = .ok (.invokestatic 32, 3) := by decide +kernel
theorem dL_say_20 : decode cL_say 20 = .ok (.iinc 3 1, 3) := by decide +kernel
theorem dL_say_23 : decode cL_say 23 = .ok (.goto (-21), 3) := by decide +kernel
theorem dL_say_26 : decode cL_say 26 = .ok (.return_, 1) := by decide +kernel
theorem dL_load_0 : decode cL_load 0 = .ok (.aload_n 1, 1) := by decide +kernel
theorem dL_load_1 : decode cL_load 1 = .ok (.bipush 21, 2) := by decide +kernel
theorem dL_load_3 : decode cL_load 3 = .ok (.iaload, 1) := by decide +kernel
theorem dL_load_4 : decode cL_load 4 = .ok (.istore_n 2, 1) := by decide +kernel
theorem dL_load_5 : decode cL_load 5 = .ok (.aload_n 1, 1) := by decide +kernel
theorem dL_load_6 : decode cL_load 6 = .ok (.bipush 20, 2) := by decide +kernel
theorem dL_load_8 : decode cL_load 8 = .ok (.iaload, 1) := by decide +kernel
theorem dL_load_9 : decode cL_load 9 = .ok (.ifCond .le 8, 3) := by decide +kernel
theorem dL_load_12 : decode cL_load 12 = .ok (.aload_n 0, 1) := by decide +kernel
theorem dL_load_13 : decode cL_load 13 = .ok (.aload_n 1, 1) := by decide +kernel
theorem dL_load_14 : decode cL_load 14 = .ok (.invokestatic 7, 3) := by decide +kernel
theorem dL_load_17 : decode cL_load 17 = .ok (.aload_n 1, 1) := by decide +kernel
theorem dL_load_18 : decode cL_load 18 = .ok (.bipush 21, 2) := by decide +kernel
theorem dL_load_20 : decode cL_load 20 = .ok (.iconst 0, 1) := by decide +kernel
theorem dL_load_21 : decode cL_load 21 = .ok (.iastore, 1) := by decide +kernel
theorem dL_load_22 : decode cL_load 22 = .ok (.aload_n 1, 1) := by decide +kernel
theorem dL_load_23 : decode cL_load 23 = .ok (.bipush 22, 2) := by decide +kernel
theorem dL_load_25 : decode cL_load 25 = .ok (.iaload, 1) := by decide +kernel
theorem dL_load_26 : decode cL_load 26 = .ok (.ifCond .ne 11, 3) := by decide +kernel
theorem dL_load_29 : decode cL_load 29 = .ok (.aload_n 0, 1) := by decide +kernel
theorem dL_load_30 : decode cL_load 30 = .ok (.iload_n 2, 1) := by decide +kernel
theorem dL_load_31 : decode cL_load 31 = .ok (.invokevirtual 36, 3) := by decide +kernel
theorem dL_load_34 : decode cL_load 34 = .ok (.goto 8, 3) := by decide +kernel
theorem dL_load_37 : decode cL_load 37 = .ok (.aload_n 0, 1) := by decide +kernel
theorem dL_load_38 : decode cL_load 38 = .ok (.iload_n 2, 1) := by decide +kernel
theorem dL_load_39 : decode cL_load 39 = .ok (.invokevirtual 40, 3) := by decide +kernel
theorem dL_load_42 : decode cL_load 42 = .ok (.ireturn, 1) := by decide +kernel
theorem dL_number_0 : decode cL_number 0 = .ok (.aload_n 0, 1) := by decide +kernel
theorem dL_number_1 : decode cL_number 1 = .ok (.aload_n 1, 1) := by decide +kernel
theorem dL_number_2 : decode cL_number 2 = .ok (.bipush 32, 2) := by decide +kernel
theorem dL_number_4 : decode cL_number 4 = .ok (.invokestatic 32, 3) := by decide +kernel
theorem dL_number_7 : decode cL_number 7 = .ok (.iload_n 2, 1) := by decide +kernel
theorem dL_number_8 : decode cL_number 8 = .ok (.bipush 99, 2) := by decide +kernel
theorem dL_number_10 : decode cL_number 10 = .ok (.if_icmp .le 15, 3) := by decide +kernel
theorem dL_number_13 : decode cL_number 13 = .ok (.aload_n 0, 1) := by decide +kernel
theorem dL_number_14 : decode cL_number 14 = .ok (.aload_n 1, 1) := by decide +kernel
theorem dL_number_15 : decode cL_number 15 = .ok (.bipush 48, 2) := by decide +kernel
theorem dL_number_17 : decode cL_number 17 = .ok (.iload_n 2, 1) := by decide +kernel
theorem dL_number_18 : decode cL_number 18 = .ok (.bipush 100, 2) := by decide +kernel
theorem dL_number_20 : decode cL_number 20 = .ok (.idiv, 1) := by decide +kernel
theorem dL_number_21 : decode cL_number 21 = .ok (.iadd, 1) := by decide +kernel
theorem dL_number_22 : decode cL_number 22 = .ok (.invokestatic 32, 3) := by decide +kernel
theorem dL_number_25 : decode cL_number 25 = .ok (.iload_n 2, 1) := by decide +kernel
theorem dL_number_26 : decode cL_number 26 = .ok (.bipush 9, 2) := by decide +kernel
theorem dL_number_28 : decode cL_number 28 = .ok (.if_icmp .le 18, 3) := by decide +kernel
theorem dL_number_31 : decode cL_number 31 = .ok (.aload_n 0, 1) := by decide +kernel
theorem dL_number_32 : decode cL_number 32 = .ok (.aload_n 1, 1) := by decide +kernel
theorem dL_number_33 : decode cL_number 33 = .ok (.bipush 48, 2) := by decide +kernel
theorem dL_number_35 : decode cL_number 35 = .ok (.iload_n 2, 1) := by decide +kernel
theorem dL_number_36 : decode cL_number 36 = .ok (.bipush 10, 2) := by decide +kernel
theorem dL_number_38 : decode cL_number 38 = .ok (.idiv, 1) := by decide +kernel
theorem dL_number_39 : decode cL_number 39 = .ok (.bipush 10, 2) := by decide +kernel
theorem dL_number_41 : decode cL_number 41 = .ok (.irem, 1) := by decide +kernel
theorem dL_number_42 : decode cL_number 42 = .ok (.iadd, 1) := by decide +kernel
theorem dL_number_43 : decode cL_number 43 = .ok (.invokestatic 32, 3) := by decide +kernel
theorem dL_number_46 : decode cL_number 46 = .ok (.aload_n 0, 1) := by decide +kernel
theorem dL_number_47 : decode cL_number 47 = .ok (.aload_n 1, 1) := by decide +kernel
theorem dL_number_48 : decode cL_number 48 = .ok (.bipush 48, 2) := by decide +kernel
theorem dL_number_50 : decode cL_number 50 = .ok (.iload_n 2, 1) := by decide +kernel
theorem dL_number_51 : decode cL_number 51 = .ok (.bipush 10, 2) := by decide +kernel
theorem dL_number_53 : decode cL_number 53 = .ok (.irem, 1) := by decide +kernel
theorem dL_number_54 : decode cL_number 54 = .ok (.iadd, 1) := by decide +kernel
theorem dL_number_55 : decode cL_number 55 = .ok (.invokestatic 32, 3) := by decide +kernel
theorem dL_number_58 : decode cL_number 58 = .ok (.return_, 1) := by decide +kernel
theorem dL_place_0 : decode cL_place 0 = .ok (.aload_n 0, 1) := by decide +kernel
theorem dL_place_1 : decode cL_place 1 = .ok (.aload_n 1, 1) := by decide +kernel
theorem dL_place_2 : decode cL_place 2 = .ok (.iload_n 2, 1) := by decide +kernel
theorem dL_place_3 : decode cL_place 3 = .ok (.bipush 6, 2) := by decide +kernel
theorem dL_place_5 : decode cL_place 5 = .ok (.irem, 1) := by decide +kernel
theorem dL_place_6 : decode cL_place 6 = .ok (.invokestatic 43, 3) := by decide +kernel
theorem dL_place_9 : decode cL_place 9 = .ok (.aload_n 0, 1) := by decide +kernel
theorem dL_place_10 : decode cL_place 10 = .ok (.aload_n 1, 1) := by decide +kernel
theorem dL_place_11 : decode cL_place 11 = .ok (.iload_n 2, 1) := by decide +kernel
theorem dL_place_12 : decode cL_place 12 = .ok (.bipush 6, 2) := by decide +kernel
theorem dL_place_14 : decode cL_place 14 = .ok (.idiv, 1) := by decide +kernel
theorem dL_place_15 : decode cL_place 15 = .ok (.invokestatic 43, 3) := by decide +kernel
theorem dL_place_18 : decode cL_place 18 = .ok (.return_, 1) := by decide +kernel
theorem dL_lay_0 : decode cL_lay 0 = .ok (.aload_n 1, 1) := by decide +kernel
theorem dL_lay_1 : decode cL_lay 1 = .ok (.bipush 22, 2) := by decide +kernel
theorem dL_lay_3 : decode cL_lay 3 = .ok (.iconst 0, 1) := by decide +kernel
theorem dL_lay_4 : decode cL_lay 4 = .ok (.iastore, 1) := by decide +kernel
theorem dL_lay_5 : decode cL_lay 5 = .ok (.aload_n 0, 1) := by decide +kernel
theorem dL_lay_6 : decode cL_lay 6 = .ok (.aload_n 1, 1) := by decide +kernel
theorem dL_lay_7 : decode cL_lay 7 = .ok (.ldc 46, 2) := by decide +kernel
theorem dL_lay_9 : decode cL_lay 9 = .ok (.invokestatic 48, 3) := by decide +kernel
theorem dL_lay_12 : decode cL_lay 12 = .ok (.aload_n 0, 1) := by decide +kernel
theorem dL_lay_13 : decode cL_lay 13 = .ok (.aload_n 1, 1) := by decide +kernel
theorem dL_lay_14 : decode cL_lay 14 = .ok (.aload_n 2, 1) := by decide +kernel
theorem dL_lay_15 : decode cL_lay 15 = .ok (.iconst 0, 1) := by decide +kernel
theorem dL_lay_16 : decode cL_lay 16 = .ok (.iaload, 1) := by decide +kernel
theorem dL_lay_17 : decode cL_lay 17 = .ok (.invokestatic 43, 3) := by decide +kernel
theorem dL_lay_20 : decode cL_lay 20 = .ok (.aload_n 0, 1) := by decide +kernel
theorem dL_lay_21 : decode cL_lay 21 = .ok (.aload_n 1, 1) := by decide +kernel
theorem dL_lay_22 : decode cL_lay 22 = .ok (.ldc 52, 2) := by decide +kernel
theorem dL_lay_24 : decode cL_lay 24 = .ok (.invokestatic 48, 3) := by decide +kernel
theorem dL_lay_27 : decode cL_lay 27 = .ok (.aload_n 0, 1) := by decide +kernel
theorem dL_lay_28 : decode cL_lay 28 = .ok (.aload_n 1, 1) := by decide +kernel
theorem dL_lay_29 : decode cL_lay 29 = .ok (.aload_n 2, 1) := by decide +kernel
theorem dL_lay_30 : decode cL_lay 30 = .ok (.iconst 1, 1) := by decide +kernel
theorem dL_lay_31 : decode cL_lay 31 = .ok (.iaload, 1) := by decide +kernel
theorem dL_lay_32 : decode cL_lay 32 = .ok (.invokestatic 43, 3) := by decide +kernel
theorem dL_lay_35 : decode cL_lay 35 = .ok (.aload_n 0, 1) := by decide +kernel
theorem dL_lay_36 : decode cL_lay 36 = .ok (.aload_n 1, 1) := by decide +kernel
theorem dL_lay_37 : decode cL_lay 37 = .ok (.ldc 54, 2) := by decide +kernel
theorem dL_lay_39 : decode cL_lay 39 = .ok (.invokestatic 48, 3) := by decide +kernel
theorem dL_lay_42 : decode cL_lay 42 = .ok (.iconst 0, 1) := by decide +kernel
theorem dL_lay_43 : decode cL_lay 43 = .ok (.istore_n 3, 1) := by decide +kernel
theorem dL_lay_44 : decode cL_lay 44 = .ok (.iload_n 3, 1) := by decide +kernel
theorem dL_lay_45 : decode cL_lay 45 = .ok (.aload_n 2, 1) := by decide +kernel
theorem dL_lay_46 : decode cL_lay 46 = .ok (.iconst 2, 1) := by decide +kernel
theorem dL_lay_47 : decode cL_lay 47 = .ok (.iaload, 1) := by decide +kernel
theorem dL_lay_48 : decode cL_lay 48 = .ok (.if_icmp .ge 42, 3) := by decide +kernel
theorem dL_lay_51 : decode cL_lay 51 = .ok (.aload_n 0, 1) := by decide +kernel
theorem dL_lay_52 : decode cL_lay 52 = .ok (.aload_n 1, 1) := by decide +kernel
theorem dL_lay_53 : decode cL_lay 53 = .ok (.iload_n 3, 1) := by decide +kernel
theorem dL_lay_54 : decode cL_lay 54 = .ok (.ifCond .ne 8, 3) := by decide +kernel
theorem dL_lay_57 : decode cL_lay 57 = .ok (.ldc 56, 2) := by decide +kernel
theorem dL_lay_59 : decode cL_lay 59 = .ok (.goto 5, 3) := by decide +kernel
theorem dL_lay_62 : decode cL_lay 62 = .ok (.ldc 58, 2) := by decide +kernel
theorem dL_lay_64 : decode cL_lay 64 = .ok (.invokestatic 48, 3) := by decide +kernel
theorem dL_lay_67 : decode cL_lay 67 = .ok (.aload_n 0, 1) := by decide +kernel
theorem dL_lay_68 : decode cL_lay 68 = .ok (.aload_n 1, 1) := by decide +kernel
theorem dL_lay_69 : decode cL_lay 69 = .ok (.aload_n 2, 1) := by decide +kernel
theorem dL_lay_70 : decode cL_lay 70 = .ok (.iconst 3, 1) := by decide +kernel
theorem dL_lay_71 : decode cL_lay 71 = .ok (.iload_n 3, 1) := by decide +kernel
theorem dL_lay_72 : decode cL_lay 72 = .ok (.iadd, 1) := by decide +kernel
theorem dL_lay_73 : decode cL_lay 73 = .ok (.iaload, 1) := by decide +kernel
theorem dL_lay_74 : decode cL_lay 74 = .ok (.invokestatic 43, 3) := by decide +kernel
theorem dL_lay_77 : decode cL_lay 77 = .ok (.aload_n 0, 1) := by decide +kernel
theorem dL_lay_78 : decode cL_lay 78 = .ok (.aload_n 1, 1) := by decide +kernel
theorem dL_lay_79 : decode cL_lay 79 = .ok (.ldc 54, 2) := by decide +kernel
theorem dL_lay_81 : decode cL_lay 81 = .ok (.invokestatic 48, 3) := by decide +kernel
theorem dL_lay_84 : decode cL_lay 84 = .ok (.iinc 3 1, 3) := by decide +kernel
theorem dL_lay_87 : decode cL_lay 87 = .ok (.goto (-43), 3) := by decide +kernel
theorem dL_lay_90 : decode cL_lay 90 = .ok (.iconst 0, 1) := by decide +kernel
theorem dL_lay_91 : decode cL_lay 91 = .ok (.istore_n 3, 1) := by decide +kernel
theorem dL_lay_92 : decode cL_lay 92 = .ok (.iload_n 3, 1) := by decide +kernel
theorem dL_lay_93 : decode cL_lay 93 = .ok (.aload_n 2, 1) := by decide +kernel
theorem dL_lay_94 : decode cL_lay 94 = .ok (.iconst 1, 1) := by decide +kernel
theorem dL_lay_95 : decode cL_lay 95 = .ok (.iaload, 1) := by decide +kernel
theorem dL_lay_96 : decode cL_lay 96 = .ok (.if_icmp .ge 89, 3) := by decide +kernel
theorem dL_lay_99 : decode cL_lay 99 = .ok (.iconst 0, 1) := by decide +kernel
theorem dL_lay_100 : decode cL_lay 100 = .ok (.istore 4, 2) := by decide +kernel
theorem dL_lay_102 : decode cL_lay 102 = .ok (.iload 4, 2) := by decide +kernel
theorem dL_lay_104 : decode cL_lay 104 = .ok (.aload_n 2, 1) := by decide +kernel
theorem dL_lay_105 : decode cL_lay 105 = .ok (.iconst 0, 1) := by decide +kernel
theorem dL_lay_106 : decode cL_lay 106 = .ok (.iaload, 1) := by decide +kernel
theorem dL_lay_107 : decode cL_lay 107 = .ok (.if_icmp .ge 72, 3) := by decide +kernel
theorem dL_lay_110 : decode cL_lay 110 = .ok (.bipush 6, 2) := by decide +kernel
theorem dL_lay_112 : decode cL_lay 112 = .ok (.iload_n 3, 1) := by decide +kernel
theorem dL_lay_113 : decode cL_lay 113 = .ok (.imul, 1) := by decide +kernel
theorem dL_lay_114 : decode cL_lay 114 = .ok (.iload 4, 2) := by decide +kernel
theorem dL_lay_116 : decode cL_lay 116 = .ok (.iadd, 1) := by decide +kernel
theorem dL_lay_117 : decode cL_lay 117 = .ok (.istore 5, 2) := by decide +kernel
theorem dL_lay_119 : decode cL_lay 119 = .ok (.aload_n 0, 1) := by decide +kernel
theorem dL_lay_120 : decode cL_lay 120 = .ok (.aload_n 1, 1) := by decide +kernel
theorem dL_lay_121 : decode cL_lay 121 = .ok (.ldc 60, 2) := by decide +kernel
theorem dL_lay_123 : decode cL_lay 123 = .ok (.iload 5, 2) := by decide +kernel
theorem dL_lay_125 : decode cL_lay 125 = .ok (.ldc 62, 2) := by decide +kernel
theorem dL_lay_127 : decode cL_lay 127 = .ok (.aload_n 2, 1) := by decide +kernel
theorem dL_lay_128 : decode cL_lay 128 = .ok (.bipush 10, 2) := by decide +kernel
theorem dL_lay_130 : decode cL_lay 130 = .ok (.iload 5, 2) := by decide +kernel
theorem dL_lay_132 : decode cL_lay 132 = .ok (.iadd, 1) := by decide +kernel
theorem dL_lay_133 : decode cL_lay 133 = .ok (.iaload, 1) := by decide +kernel
theorem dL_lay_134 : decode cL_lay 134 = .ok (.invokestatic 64, 3) := by decide +kernel
theorem dL_lay_137 : decode cL_lay 137 = .ok (.aload_n 0, 1) := by decide +kernel
theorem dL_lay_138 : decode cL_lay 138 = .ok (.aload_n 1, 1) := by decide +kernel
theorem dL_lay_139 : decode cL_lay 139 = .ok (.ldc 68, 2) := by decide +kernel
theorem dL_lay_141 : decode cL_lay 141 = .ok (.iload 5, 2) := by decide +kernel
theorem dL_lay_143 : decode cL_lay 143 = .ok (.ldc 70, 2) := by decide +kernel
theorem dL_lay_145 : decode cL_lay 145 = .ok (.aload_n 2, 1) := by decide +kernel
theorem dL_lay_146 : decode cL_lay 146 = .ok (.bipush 46, 2) := by decide +kernel
theorem dL_lay_148 : decode cL_lay 148 = .ok (.iload 5, 2) := by decide +kernel
theorem dL_lay_150 : decode cL_lay 150 = .ok (.iadd, 1) := by decide +kernel
theorem dL_lay_151 : decode cL_lay 151 = .ok (.iaload, 1) := by decide +kernel
theorem dL_lay_152 : decode cL_lay 152 = .ok (.invokestatic 64, 3) := by decide +kernel
theorem dL_lay_155 : decode cL_lay 155 = .ok (.aload_n 0, 1) := by decide +kernel
theorem dL_lay_156 : decode cL_lay 156 = .ok (.aload_n 1, 1) := by decide +kernel
theorem dL_lay_157 : decode cL_lay 157 = .ok (.ldc 72, 2) := by decide +kernel
theorem dL_lay_159 : decode cL_lay 159 = .ok (.iload 5, 2) := by decide +kernel
theorem dL_lay_161 : decode cL_lay 161 = .ok (.ldc 74, 2) := by decide +kernel
theorem dL_lay_163 : decode cL_lay 163 = .ok (.aload_n 2, 1) := by decide +kernel
theorem dL_lay_164 : decode cL_lay 164 = .ok (.bipush 82, 2) := by decide +kernel
theorem dL_lay_166 : decode cL_lay 166 = .ok (.iload 5, 2) := by decide +kernel
theorem dL_lay_168 : decode cL_lay 168 = .ok (.iadd, 1) := by decide +kernel
theorem dL_lay_169 : decode cL_lay 169 = .ok (.iaload, 1) := by decide +kernel
theorem dL_lay_170 : decode cL_lay 170 = .ok (.invokestatic 64, 3) := by decide +kernel
theorem dL_lay_173 : decode cL_lay 173 = .ok (.iinc 4 1, 3) := by decide +kernel
theorem dL_lay_176 : decode cL_lay 176 = .ok (.goto (-74), 3) := by decide +kernel
theorem dL_lay_179 : decode cL_lay 179 = .ok (.iinc 3 1, 3) := by decide +kernel
theorem dL_lay_182 : decode cL_lay 182 = .ok (.goto (-90), 3) := by decide +kernel
theorem dL_lay_185 : decode cL_lay 185 = .ok (.aload_n 2, 1) := by decide +kernel
theorem dL_lay_186 : decode cL_lay 186 = .ok (.iconst 5, 1) := by decide +kernel
theorem dL_lay_187 : decode cL_lay 187 = .ok (.iaload, 1) := by decide +kernel
theorem dL_lay_188 : decode cL_lay 188 = .ok (.iconst 1, 1) := by decide +kernel
theorem dL_lay_189 : decode cL_lay 189 = .ok (.iand, 1) := by decide +kernel
theorem dL_lay_190 : decode cL_lay 190 = .ok (.iconst 1, 1) := by decide +kernel
theorem dL_lay_191 : decode cL_lay 191 = .ok (.if_icmp .ne 26, 3) := by decide +kernel
theorem dL_lay_194 : decode cL_lay 194 = .ok (.aload_n 0, 1) := by decide +kernel
theorem dL_lay_195 : decode cL_lay 195 = .ok (.aload_n 1, 1) := by decide +kernel
theorem dL_lay_196 : decode cL_lay 196 = .ok (.ldc 76, 2) := by decide +kernel
theorem dL_lay_198 : decode cL_lay 198 = .ok (.invokestatic 48, 3) := by decide +kernel
theorem dL_lay_201 : decode cL_lay 201 = .ok (.aload_n 0, 1) := by decide +kernel
theorem dL_lay_202 : decode cL_lay 202 = .ok (.aload_n 1, 1) := by decide +kernel
theorem dL_lay_203 : decode cL_lay 203 = .ok (.aload_n 2, 1) := by decide +kernel
theorem dL_lay_204 : decode cL_lay 204 = .ok (.bipush 6, 2) := by decide +kernel
theorem dL_lay_206 : decode cL_lay 206 = .ok (.iaload, 1) := by decide +kernel
theorem dL_lay_207 : decode cL_lay 207 = .ok (.invokestatic 43, 3) := by decide +kernel
theorem dL_lay_210 : decode cL_lay 210 = .ok (.aload_n 0, 1) := by decide +kernel
theorem dL_lay_211 : decode cL_lay 211 = .ok (.aload_n 1, 1) := by decide +kernel
theorem dL_lay_212 : decode cL_lay 212 = .ok (.ldc 54, 2) := by decide +kernel
theorem dL_lay_214 : decode cL_lay 214 = .ok (.invokestatic 48, 3) := by decide +kernel
theorem dL_lay_217 : decode cL_lay 217 = .ok (.aload_n 2, 1) := by decide +kernel
theorem dL_lay_218 : decode cL_lay 218 = .ok (.iconst 5, 1) := by decide +kernel
theorem dL_lay_219 : decode cL_lay 219 = .ok (.iaload, 1) := by decide +kernel
theorem dL_lay_220 : decode cL_lay 220 = .ok (.iconst 1, 1) := by decide +kernel
theorem dL_lay_221 : decode cL_lay 221 = .ok (.ishr, 1) := by decide +kernel
theorem dL_lay_222 : decode cL_lay 222 = .ok (.iconst 1, 1) := by decide +kernel
theorem dL_lay_223 : decode cL_lay 223 = .ok (.iand, 1) := by decide +kernel
theorem dL_lay_224 : decode cL_lay 224 = .ok (.iconst 1, 1) := by decide +kernel
theorem dL_lay_225 : decode cL_lay 225 = .ok (.if_icmp .ne 26, 3) := by decide +kernel
theorem dL_lay_228 : decode cL_lay 228 = .ok (.aload_n 0, 1) := by decide +kernel
theorem dL_lay_229 : decode cL_lay 229 = .ok (.aload_n 1, 1) := by decide +kernel
theorem dL_lay_230 : decode cL_lay 230 = .ok (.ldc 78, 2) := by decide +kernel
theorem dL_lay_232 : decode cL_lay 232 = .ok (.invokestatic 48, 3) := by decide +kernel
theorem dL_lay_235 : decode cL_lay 235 = .ok (.aload_n 0, 1) := by decide +kernel
theorem dL_lay_236 : decode cL_lay 236 = .ok (.aload_n 1, 1) := by decide +kernel
theorem dL_lay_237 : decode cL_lay 237 = .ok (.aload_n 2, 1) := by decide +kernel
theorem dL_lay_238 : decode cL_lay 238 = .ok (.bipush 7, 2) := by decide +kernel
theorem dL_lay_240 : decode cL_lay 240 = .ok (.iaload, 1) := by decide +kernel
theorem dL_lay_241 : decode cL_lay 241 = .ok (.invokestatic 43, 3) := by decide +kernel
theorem dL_lay_244 : decode cL_lay 244 = .ok (.aload_n 0, 1) := by decide +kernel
theorem dL_lay_245 : decode cL_lay 245 = .ok (.aload_n 1, 1) := by decide +kernel
theorem dL_lay_246 : decode cL_lay 246 = .ok (.ldc 54, 2) := by decide +kernel
theorem dL_lay_248 : decode cL_lay 248 = .ok (.invokestatic 48, 3) := by decide +kernel
theorem dL_lay_251 : decode cL_lay 251 = .ok (.aload_n 2, 1) := by decide +kernel
theorem dL_lay_252 : decode cL_lay 252 = .ok (.iconst 5, 1) := by decide +kernel
theorem dL_lay_253 : decode cL_lay 253 = .ok (.iaload, 1) := by decide +kernel
theorem dL_lay_254 : decode cL_lay 254 = .ok (.iconst 2, 1) := by decide +kernel
theorem dL_lay_255 : decode cL_lay 255 = .ok (.ishr, 1) := by decide +kernel
theorem dL_lay_256 : decode cL_lay 256 = .ok (.iconst 1, 1) := by decide +kernel
theorem dL_lay_257 : decode cL_lay 257 = .ok (.iand, 1) := by decide +kernel
theorem dL_lay_258 : decode cL_lay 258 = .ok (.iconst 1, 1) := by decide +kernel
theorem dL_lay_259 : decode cL_lay 259 = .ok (.if_icmp .ne 10, 3) := by decide +kernel
theorem dL_lay_262 : decode cL_lay 262 = .ok (.aload_n 0, 1) := by decide +kernel
theorem dL_lay_263 : decode cL_lay 263 = .ok (.aload_n 1, 1) := by decide +kernel
theorem dL_lay_264 : decode cL_lay 264 = .ok (.ldc 80, 2) := by decide +kernel
theorem dL_lay_266 : decode cL_lay 266 = .ok (.invokestatic 48, 3) := by decide +kernel
theorem dL_lay_269 : decode cL_lay 269 = .ok (.aload_n 2, 1) := by decide +kernel
theorem dL_lay_270 : decode cL_lay 270 = .ok (.iconst 5, 1) := by decide +kernel
theorem dL_lay_271 : decode cL_lay 271 = .ok (.iaload, 1) := by decide +kernel
theorem dL_lay_272 : decode cL_lay 272 = .ok (.iconst 3, 1) := by decide +kernel
theorem dL_lay_273 : decode cL_lay 273 = .ok (.ishr, 1) := by decide +kernel
theorem dL_lay_274 : decode cL_lay 274 = .ok (.iconst 1, 1) := by decide +kernel
theorem dL_lay_275 : decode cL_lay 275 = .ok (.iand, 1) := by decide +kernel
theorem dL_lay_276 : decode cL_lay 276 = .ok (.iconst 1, 1) := by decide +kernel
theorem dL_lay_277 : decode cL_lay 277 = .ok (.if_icmp .ne 26, 3) := by decide +kernel
theorem dL_lay_280 : decode cL_lay 280 = .ok (.aload_n 0, 1) := by decide +kernel
theorem dL_lay_281 : decode cL_lay 281 = .ok (.aload_n 1, 1) := by decide +kernel
theorem dL_lay_282 : decode cL_lay 282 = .ok (.ldc 82, 2) := by decide +kernel
theorem dL_lay_284 : decode cL_lay 284 = .ok (.invokestatic 48, 3) := by decide +kernel
theorem dL_lay_287 : decode cL_lay 287 = .ok (.aload_n 0, 1) := by decide +kernel
theorem dL_lay_288 : decode cL_lay 288 = .ok (.aload_n 1, 1) := by decide +kernel
theorem dL_lay_289 : decode cL_lay 289 = .ok (.aload_n 2, 1) := by decide +kernel
theorem dL_lay_290 : decode cL_lay 290 = .ok (.bipush 9, 2) := by decide +kernel
theorem dL_lay_292 : decode cL_lay 292 = .ok (.iaload, 1) := by decide +kernel
theorem dL_lay_293 : decode cL_lay 293 = .ok (.invokestatic 43, 3) := by decide +kernel
theorem dL_lay_296 : decode cL_lay 296 = .ok (.aload_n 0, 1) := by decide +kernel
theorem dL_lay_297 : decode cL_lay 297 = .ok (.aload_n 1, 1) := by decide +kernel
theorem dL_lay_298 : decode cL_lay 298 = .ok (.ldc 54, 2) := by decide +kernel
theorem dL_lay_300 : decode cL_lay 300 = .ok (.invokestatic 48, 3) := by decide +kernel
theorem dL_lay_303 : decode cL_lay 303 = .ok (.aload_n 0, 1) := by decide +kernel
theorem dL_lay_304 : decode cL_lay 304 = .ok (.aload_n 1, 1) := by decide +kernel
theorem dL_lay_305 : decode cL_lay 305 = .ok (.invokestatic 84, 3) := by decide +kernel
theorem dL_lay_308 : decode cL_lay 308 = .ok (.aload_n 2, 1) := by decide +kernel
theorem dL_lay_309 : decode cL_lay 309 = .ok (.iconst 0, 1) := by decide +kernel
theorem dL_lay_310 : decode cL_lay 310 = .ok (.iaload, 1) := by decide +kernel
theorem dL_lay_311 : decode cL_lay 311 = .ok (.aload_n 2, 1) := by decide +kernel
theorem dL_lay_312 : decode cL_lay 312 = .ok (.iconst 1, 1) := by decide +kernel
theorem dL_lay_313 : decode cL_lay 313 = .ok (.iaload, 1) := by decide +kernel
theorem dL_lay_314 : decode cL_lay 314 = .ok (.imul, 1) := by decide +kernel
theorem dL_lay_315 : decode cL_lay 315 = .ok (.if_icmp .ne 7, 3) := by decide +kernel
theorem dL_lay_318 : decode cL_lay 318 = .ok (.iconst 1, 1) := by decide +kernel
theorem dL_lay_319 : decode cL_lay 319 = .ok (.goto 4, 3) := by decide +kernel
theorem dL_lay_322 : decode cL_lay 322 = .ok (.iconst 0, 1) := by decide +kernel
theorem dL_lay_323 : decode cL_lay 323 = .ok (.ireturn, 1) := by decide +kernel
theorem dL_row_0 : decode cL_row 0 = .ok (.iload 5, 2) := by decide +kernel
theorem dL_row_2 : decode cL_row 2 = .ok (.ifCond .ne 4, 3) := by decide +kernel
theorem dL_row_5 : decode cL_row 5 = .ok (.return_, 1) := by decide +kernel
theorem dL_row_6 : decode cL_row 6 = .ok (.aload_n 0, 1) := by decide +kernel
theorem dL_row_7 : decode cL_row 7 = .ok (.aload_n 1, 1) := by decide +kernel
theorem dL_row_8 : decode cL_row 8 = .ok (.aload_n 2, 1) := by decide +kernel
theorem dL_row_9 : decode cL_row 9 = .ok (.invokestatic 48, 3) := by decide +kernel
theorem dL_row_12 : decode cL_row 12 = .ok (.aload_n 0, 1) := by decide +kernel
theorem dL_row_13 : decode cL_row 13 = .ok (.aload_n 1, 1) := by decide +kernel
theorem dL_row_14 : decode cL_row 14 = .ok (.iload_n 3, 1) := by decide +kernel
theorem dL_row_15 : decode cL_row 15 = .ok (.invokestatic 88, 3) := by decide +kernel
theorem dL_row_18 : decode cL_row 18 = .ok (.aload_n 0, 1) := by decide +kernel
theorem dL_row_19 : decode cL_row 19 = .ok (.aload_n 1, 1) := by decide +kernel
theorem dL_row_20 : decode cL_row 20 = .ok (.aload 4, 2) := by decide +kernel
theorem dL_row_22 : decode cL_row 22 = .ok (.invokestatic 48, 3) := by decide +kernel
theorem dL_row_25 : decode cL_row 25 = .ok (.aload_n 0, 1) := by decide +kernel
theorem dL_row_26 : decode cL_row 26 = .ok (.aload_n 1, 1) := by decide +kernel
theorem dL_row_27 : decode cL_row 27 = .ok (.iload 5, 2) := by decide +kernel
theorem dL_row_29 : decode cL_row 29 = .ok (.invokestatic 43, 3) := by decide +kernel
theorem dL_row_32 : decode cL_row 32 = .ok (.aload_n 0, 1) := by decide +kernel
theorem dL_row_33 : decode cL_row 33 = .ok (.aload_n 1, 1) := by decide +kernel
theorem dL_row_34 : decode cL_row 34 = .ok (.ldc 54, 2) := by decide +kernel
theorem dL_row_36 : decode cL_row 36 = .ok (.invokestatic 48, 3) := by decide +kernel
theorem dL_row_39 : decode cL_row 39 = .ok (.return_, 1) := by decide +kernel
theorem dL_draw_0 : decode cL_draw 0 = .ok (.aload_n 0, 1) := by decide +kernel
theorem dL_draw_1 : decode cL_draw 1 = .ok (.arraylength, 1) := by decide +kernel
theorem dL_draw_2 : decode cL_draw 2 = .ok (.ifCond .ne 9, 3) := by decide +kernel
theorem dL_draw_5 : decode cL_draw 5 = .ok (.sipush 7919, 3) := by decide +kernel
theorem dL_draw_8 : decode cL_draw 8 = .ok (.goto 6, 3) := by decide +kernel
theorem dL_draw_11 : decode cL_draw 11 = .ok (.aload_n 0, 1) := by decide +kernel
theorem dL_draw_12 : decode cL_draw 12 = .ok (.iconst 0, 1) := by decide +kernel
theorem dL_draw_13 : decode cL_draw 13 = .ok (.iaload, 1) := by decide +kernel
theorem dL_draw_14 : decode cL_draw 14 = .ok (.istore 4, 2) := by decide +kernel
theorem dL_draw_16 : decode cL_draw 16 = .ok (.aload_n 3, 1) := by decide +kernel
theorem dL_draw_17 : decode cL_draw 17 = .ok (.iconst 0, 1) := by decide +kernel
theorem dL_draw_18 : decode cL_draw 18 = .ok (.iconst 2, 1) := by decide +kernel
theorem dL_draw_19 : decode cL_draw 19 = .ok (.iconst 2, 1) := by decide +kernel
theorem dL_draw_20 : decode cL_draw 20 = .ok (.iload 4, 2) := by decide +kernel
theorem dL_draw_22 : decode cL_draw 22 = .ok (.iconst 3, 1) := by decide +kernel
theorem dL_draw_23 : decode cL_draw 23 = .ok (.iand, 1) := by decide +kernel
theorem dL_draw_24 : decode cL_draw 24 = .ok (.iconst 2, 1) := by decide +kernel
theorem dL_draw_25 : decode cL_draw 25 = .ok (.irem, 1) := by decide +kernel
theorem dL_draw_26 : decode cL_draw 26 = .ok (.imul, 1) := by decide +kernel
theorem dL_draw_27 : decode cL_draw 27 = .ok (.iadd, 1) := by decide +kernel
theorem dL_draw_28 : decode cL_draw 28 = .ok (.iastore, 1) := by decide +kernel
theorem dL_draw_29 : decode cL_draw 29 = .ok (.aload_n 3, 1) := by decide +kernel
theorem dL_draw_30 : decode cL_draw 30 = .ok (.iconst 1, 1) := by decide +kernel
theorem dL_draw_31 : decode cL_draw 31 = .ok (.iconst 1, 1) := by decide +kernel
theorem dL_draw_32 : decode cL_draw 32 = .ok (.iload 4, 2) := by decide +kernel
theorem dL_draw_34 : decode cL_draw 34 = .ok (.iconst 2, 1) := by decide +kernel
theorem dL_draw_35 : decode cL_draw 35 = .ok (.ishr, 1) := by decide +kernel
theorem dL_draw_36 : decode cL_draw 36 = .ok (.bipush 7, 2) := by decide +kernel
theorem dL_draw_38 : decode cL_draw 38 = .ok (.iand, 1) := by decide +kernel
theorem dL_draw_39 : decode cL_draw 39 = .ok (.iload_n 1, 1) := by decide +kernel
theorem dL_draw_40 : decode cL_draw 40 = .ok (.irem, 1) := by decide +kernel
theorem dL_draw_41 : decode cL_draw 41 = .ok (.iadd, 1) := by decide +kernel
theorem dL_draw_42 : decode cL_draw 42 = .ok (.iastore, 1) := by decide +kernel
theorem dL_draw_43 : decode cL_draw 43 = .ok (.aload_n 3, 1) := by decide +kernel
theorem dL_draw_44 : decode cL_draw 44 = .ok (.iconst 2, 1) := by decide +kernel
theorem dL_draw_45 : decode cL_draw 45 = .ok (.iload 4, 2) := by decide +kernel
theorem dL_draw_47 : decode cL_draw 47 = .ok (.iconst 5, 1) := by decide +kernel
theorem dL_draw_48 : decode cL_draw 48 = .ok (.ishr, 1) := by decide +kernel
theorem dL_draw_49 : decode cL_draw 49 = .ok (.bipush 7, 2) := by decide +kernel
theorem dL_draw_51 : decode cL_draw 51 = .ok (.iand, 1) := by decide +kernel
theorem dL_draw_52 : decode cL_draw 52 = .ok (.ifCond .ne 7, 3) := by decide +kernel
theorem dL_draw_55 : decode cL_draw 55 = .ok (.iconst 1, 1) := by decide +kernel
theorem dL_draw_56 : decode cL_draw 56 = .ok (.goto 4, 3) := by decide +kernel
theorem dL_draw_59 : decode cL_draw 59 = .ok (.iconst 2, 1) := by decide +kernel
theorem dL_draw_60 : decode cL_draw 60 = .ok (.iastore, 1) := by decide +kernel
theorem dL_draw_61 : decode cL_draw 61 = .ok (.aload_n 3, 1) := by decide +kernel
theorem dL_draw_62 : decode cL_draw 62 = .ok (.iconst 3, 1) := by decide +kernel
theorem dL_draw_63 : decode cL_draw 63 = .ok (.iload 4, 2) := by decide +kernel
theorem dL_draw_65 : decode cL_draw 65 = .ok (.bipush 8, 2) := by decide +kernel
theorem dL_draw_67 : decode cL_draw 67 = .ok (.ishr, 1) := by decide +kernel
theorem dL_draw_68 : decode cL_draw 68 = .ok (.bipush 63, 2) := by decide +kernel
theorem dL_draw_70 : decode cL_draw 70 = .ok (.iand, 1) := by decide +kernel
theorem dL_draw_71 : decode cL_draw 71 = .ok (.bipush 41, 2) := by decide +kernel
theorem dL_draw_73 : decode cL_draw 73 = .ok (.irem, 1) := by decide +kernel
theorem dL_draw_74 : decode cL_draw 74 = .ok (.iastore, 1) := by decide +kernel
theorem dL_draw_75 : decode cL_draw 75 = .ok (.aload_n 3, 1) := by decide +kernel
theorem dL_draw_76 : decode cL_draw 76 = .ok (.iconst 4, 1) := by decide +kernel
theorem dL_draw_77 : decode cL_draw 77 = .ok (.iload 4, 2) := by decide +kernel
theorem dL_draw_79 : decode cL_draw 79 = .ok (.bipush 14, 2) := by decide +kernel
theorem dL_draw_81 : decode cL_draw 81 = .ok (.ishr, 1) := by decide +kernel
theorem dL_draw_82 : decode cL_draw 82 = .ok (.bipush 63, 2) := by decide +kernel
theorem dL_draw_84 : decode cL_draw 84 = .ok (.iand, 1) := by decide +kernel
theorem dL_draw_85 : decode cL_draw 85 = .ok (.bipush 41, 2) := by decide +kernel
theorem dL_draw_87 : decode cL_draw 87 = .ok (.irem, 1) := by decide +kernel
theorem dL_draw_88 : decode cL_draw 88 = .ok (.iastore, 1) := by decide +kernel
theorem dL_draw_89 : decode cL_draw 89 = .ok (.aload_n 0, 1) := by decide +kernel
theorem dL_draw_90 : decode cL_draw 90 = .ok (.arraylength, 1) := by decide +kernel
theorem dL_draw_91 : decode cL_draw 91 = .ok (.iconst 2, 1) := by decide +kernel
theorem dL_draw_92 : decode cL_draw 92 = .ok (.if_icmp .ge 8, 3) := by decide +kernel
theorem dL_draw_95 : decode cL_draw 95 = .ok (.bipush 61, 2) := by decide +kernel
theorem dL_draw_97 : decode cL_draw 97 = .ok (.goto 6, 3) := by decide +kernel
theorem dL_draw_100 : decode cL_draw 100 = .ok (.aload_n 0, 1) := by decide +kernel
theorem dL_draw_101 : decode cL_draw 101 = .ok (.iconst 1, 1) := by decide +kernel
theorem dL_draw_102 : decode cL_draw 102 = .ok (.iaload, 1) := by decide +kernel
theorem dL_draw_103 : decode cL_draw 103 = .ok (.istore 5, 2) := by decide +kernel
theorem dL_draw_105 : decode cL_draw 105 = .ok (.aload_n 3, 1) := by decide +kernel
theorem dL_draw_106 : decode cL_draw 106 = .ok (.iconst 5, 1) := by decide +kernel
theorem dL_draw_107 : decode cL_draw 107 = .ok (.iload 5, 2) := by decide +kernel
theorem dL_draw_109 : decode cL_draw 109 = .ok (.bipush 15, 2) := by decide +kernel
theorem dL_draw_111 : decode cL_draw 111 = .ok (.iand, 1) := by decide +kernel
theorem dL_draw_112 : decode cL_draw 112 = .ok (.iastore, 1) := by decide +kernel
theorem dL_draw_113 : decode cL_draw 113 = .ok (.aload_n 3, 1) := by decide +kernel
theorem dL_draw_114 : decode cL_draw 114 = .ok (.bipush 6, 2) := by decide +kernel
theorem dL_draw_116 : decode cL_draw 116 = .ok (.iload 5, 2) := by decide +kernel
theorem dL_draw_118 : decode cL_draw 118 = .ok (.iconst 4, 1) := by decide +kernel
theorem dL_draw_119 : decode cL_draw 119 = .ok (.ishr, 1) := by decide +kernel
theorem dL_draw_120 : decode cL_draw 120 = .ok (.bipush 7, 2) := by decide +kernel
theorem dL_draw_122 : decode cL_draw 122 = .ok (.iand, 1) := by decide +kernel
theorem dL_draw_123 : decode cL_draw 123 = .ok (.iastore, 1) := by decide +kernel
theorem dL_draw_124 : decode cL_draw 124 = .ok (.aload_n 3, 1) := by decide +kernel
theorem dL_draw_125 : decode cL_draw 125 = .ok (.bipush 7, 2) := by decide +kernel
theorem dL_draw_127 : decode cL_draw 127 = .ok (.iload 5, 2) := by decide +kernel
theorem dL_draw_129 : decode cL_draw 129 = .ok (.bipush 7, 2) := by decide +kernel
theorem dL_draw_131 : decode cL_draw 131 = .ok (.ishr, 1) := by decide +kernel
theorem dL_draw_132 : decode cL_draw 132 = .ok (.bipush 15, 2) := by decide +kernel
theorem dL_draw_134 : decode cL_draw 134 = .ok (.iand, 1) := by decide +kernel
theorem dL_draw_135 : decode cL_draw 135 = .ok (.iastore, 1) := by decide +kernel
theorem dL_draw_136 : decode cL_draw 136 = .ok (.aload_n 3, 1) := by decide +kernel
theorem dL_draw_137 : decode cL_draw 137 = .ok (.bipush 8, 2) := by decide +kernel
theorem dL_draw_139 : decode cL_draw 139 = .ok (.iconst 0, 1) := by decide +kernel
theorem dL_draw_140 : decode cL_draw 140 = .ok (.iastore, 1) := by decide +kernel
theorem dL_draw_141 : decode cL_draw 141 = .ok (.aload_n 3, 1) := by decide +kernel
theorem dL_draw_142 : decode cL_draw 142 = .ok (.bipush 9, 2) := by decide +kernel
theorem dL_draw_144 : decode cL_draw 144 = .ok (.iload 5, 2) := by decide +kernel
theorem dL_draw_146 : decode cL_draw 146 = .ok (.bipush 11, 2) := by decide +kernel
theorem dL_draw_148 : decode cL_draw 148 = .ok (.ishr, 1) := by decide +kernel
theorem dL_draw_149 : decode cL_draw 149 = .ok (.iconst 3, 1) := by decide +kernel
theorem dL_draw_150 : decode cL_draw 150 = .ok (.iand, 1) := by decide +kernel
theorem dL_draw_151 : decode cL_draw 151 = .ok (.iastore, 1) := by decide +kernel
theorem dL_draw_152 : decode cL_draw 152 = .ok (.iconst 0, 1) := by decide +kernel
theorem dL_draw_153 : decode cL_draw 153 = .ok (.istore 6, 2) := by decide +kernel
theorem dL_draw_155 : decode cL_draw 155 = .ok (.iload 6, 2) := by decide +kernel
theorem dL_draw_157 : decode cL_draw 157 = .ok (.aload_n 3, 1) := by decide +kernel
theorem dL_draw_158 : decode cL_draw 158 = .ok (.iconst 1, 1) := by decide +kernel
theorem dL_draw_159 : decode cL_draw 159 = .ok (.iaload, 1) := by decide +kernel
theorem dL_draw_160 : decode cL_draw 160 = .ok (.if_icmp .ge 152, 3) := by decide +kernel
theorem dL_draw_163 : decode cL_draw 163 = .ok (.iconst 0, 1) := by decide +kernel
theorem dL_draw_164 : decode cL_draw 164 = .ok (.istore 7, 2) := by decide +kernel
theorem dL_draw_166 : decode cL_draw 166 = .ok (.iload 7, 2) := by decide +kernel
theorem dL_draw_168 : decode cL_draw 168 = .ok (.aload_n 3, 1) := by decide +kernel
theorem dL_draw_169 : decode cL_draw 169 = .ok (.iconst 0, 1) := by decide +kernel
theorem dL_draw_170 : decode cL_draw 170 = .ok (.iaload, 1) := by decide +kernel
theorem dL_draw_171 : decode cL_draw 171 = .ok (.if_icmp .ge 135, 3) := by decide +kernel
theorem dL_draw_174 : decode cL_draw 174 = .ok (.bipush 6, 2) := by decide +kernel
theorem dL_draw_176 : decode cL_draw 176 = .ok (.iload 6, 2) := by decide +kernel
theorem dL_draw_178 : decode cL_draw 178 = .ok (.imul, 1) := by decide +kernel
theorem dL_draw_179 : decode cL_draw 179 = .ok (.iload 7, 2) := by decide +kernel
theorem dL_draw_181 : decode cL_draw 181 = .ok (.iadd, 1) := by decide +kernel
theorem dL_draw_182 : decode cL_draw 182 = .ok (.istore 8, 2) := by decide +kernel
theorem dL_draw_184 : decode cL_draw 184 = .ok (.iload 8, 2) := by decide +kernel
theorem dL_draw_186 : decode cL_draw 186 = .ok (.bipush 7, 2) := by decide +kernel
theorem dL_draw_188 : decode cL_draw 188 = .ok (.irem, 1) := by decide +kernel
theorem dL_draw_189 : decode cL_draw 189 = .ok (.iconst 2, 1) := by decide +kernel
theorem dL_draw_190 : decode cL_draw 190 = .ok (.iadd, 1) := by decide +kernel
theorem dL_draw_191 : decode cL_draw 191 = .ok (.aload_n 0, 1) := by decide +kernel
theorem dL_draw_192 : decode cL_draw 192 = .ok (.arraylength, 1) := by decide +kernel
theorem dL_draw_193 : decode cL_draw 193 = .ok (.if_icmp .ge 20, 3) := by decide +kernel
theorem dL_draw_196 : decode cL_draw 196 = .ok (.aload_n 0, 1) := by decide +kernel
theorem dL_draw_197 : decode cL_draw 197 = .ok (.iload 8, 2) := by decide +kernel
theorem dL_draw_199 : decode cL_draw 199 = .ok (.bipush 7, 2) := by decide +kernel
theorem dL_draw_201 : decode cL_draw 201 = .ok (.irem, 1) := by decide +kernel
theorem dL_draw_202 : decode cL_draw 202 = .ok (.iconst 2, 1) := by decide +kernel
theorem dL_draw_203 : decode cL_draw 203 = .ok (.iadd, 1) := by decide +kernel
theorem dL_draw_204 : decode cL_draw 204 = .ok (.iaload, 1) := by decide +kernel
theorem dL_draw_205 : decode cL_draw 205 = .ok (.iload 8, 2) := by decide +kernel
theorem dL_draw_207 : decode cL_draw 207 = .ok (.iconst 5, 1) := by decide +kernel
theorem dL_draw_208 : decode cL_draw 208 = .ok (.irem, 1) := by decide +kernel
theorem dL_draw_209 : decode cL_draw 209 = .ok (.ishr, 1) := by decide +kernel
theorem dL_draw_210 : decode cL_draw 210 = .ok (.goto 11, 3) := by decide +kernel
theorem dL_draw_213 : decode cL_draw 213 = .ok (.sipush 1231, 3) := by decide +kernel
theorem dL_draw_216 : decode cL_draw 216 = .ok (.iload 8, 2) := by decide +kernel
theorem dL_draw_218 : decode cL_draw 218 = .ok (.imul, 1) := by decide +kernel
theorem dL_draw_219 : decode cL_draw 219 = .ok (.iconst 5, 1) := by decide +kernel
theorem dL_draw_220 : decode cL_draw 220 = .ok (.iadd, 1) := by decide +kernel
theorem dL_draw_221 : decode cL_draw 221 = .ok (.istore 9, 2) := by decide +kernel
theorem dL_draw_223 : decode cL_draw 223 = .ok (.aload_n 3, 1) := by decide +kernel
theorem dL_draw_224 : decode cL_draw 224 = .ok (.bipush 10, 2) := by decide +kernel
theorem dL_draw_226 : decode cL_draw 226 = .ok (.iload 8, 2) := by decide +kernel
theorem dL_draw_228 : decode cL_draw 228 = .ok (.iadd, 1) := by decide +kernel
theorem dL_draw_229 : decode cL_draw 229 = .ok (.iload 9, 2) := by decide +kernel
theorem dL_draw_231 : decode cL_draw 231 = .ok (.bipush 127, 2) := by decide +kernel
theorem dL_draw_233 : decode cL_draw 233 = .ok (.iand, 1) := by decide +kernel
theorem dL_draw_234 : decode cL_draw 234 = .ok (.iload_n 2, 1) := by decide +kernel
theorem dL_draw_235 : decode cL_draw 235 = .ok (.irem, 1) := by decide +kernel
theorem dL_draw_236 : decode cL_draw 236 = .ok (.iastore, 1) := by decide +kernel
theorem dL_draw_237 : decode cL_draw 237 = .ok (.aload_n 3, 1) := by decide +kernel
theorem dL_draw_238 : decode cL_draw 238 = .ok (.bipush 46, 2) := by decide +kernel
theorem dL_draw_240 : decode cL_draw 240 = .ok (.iload 8, 2) := by decide +kernel
theorem dL_draw_242 : decode cL_draw 242 = .ok (.iadd, 1) := by decide +kernel
theorem dL_draw_243 : decode cL_draw 243 = .ok (.iload 9, 2) := by decide +kernel
theorem dL_draw_245 : decode cL_draw 245 = .ok (.bipush 7, 2) := by decide +kernel
theorem dL_draw_247 : decode cL_draw 247 = .ok (.ishr, 1) := by decide +kernel
theorem dL_draw_248 : decode cL_draw 248 = .ok (.iconst 3, 1) := by decide +kernel
theorem dL_draw_249 : decode cL_draw 249 = .ok (.iand, 1) := by decide +kernel
theorem dL_draw_250 : decode cL_draw 250 = .ok (.ifCond .ne 7, 3) := by decide +kernel
theorem dL_draw_253 : decode cL_draw 253 = .ok (.iconst 0, 1) := by decide +kernel
theorem dL_draw_254 : decode cL_draw 254 = .ok (.goto 13, 3) := by decide +kernel
theorem dL_draw_257 : decode cL_draw 257 = .ok (.iload 9, 2) := by decide +kernel
theorem dL_draw_259 : decode cL_draw 259 = .ok (.bipush 9, 2) := by decide +kernel
theorem dL_draw_261 : decode cL_draw 261 = .ok (.ishr, 1) := by decide +kernel
theorem dL_draw_262 : decode cL_draw 262 = .ok (.bipush 127, 2) := by decide +kernel
theorem dL_draw_264 : decode cL_draw 264 = .ok (.iand, 1) := by decide +kernel
theorem dL_draw_265 : decode cL_draw 265 = .ok (.iload_n 2, 1) := by decide +kernel
theorem dL_draw_266 : decode cL_draw 266 = .ok (.irem, 1) := by decide +kernel
theorem dL_draw_267 : decode cL_draw 267 = .ok (.iastore, 1) := by decide +kernel
theorem dL_draw_268 : decode cL_draw 268 = .ok (.aload_n 3, 1) := by decide +kernel
theorem dL_draw_269 : decode cL_draw 269 = .ok (.bipush 82, 2) := by decide +kernel
theorem dL_draw_271 : decode cL_draw 271 = .ok (.iload 8, 2) := by decide +kernel
theorem dL_draw_273 : decode cL_draw 273 = .ok (.iadd, 1) := by decide +kernel
theorem dL_draw_274 : decode cL_draw 274 = .ok (.iload 9, 2) := by decide +kernel
theorem dL_draw_276 : decode cL_draw 276 = .ok (.bipush 16, 2) := by decide +kernel
theorem dL_draw_278 : decode cL_draw 278 = .ok (.ishr, 1) := by decide +kernel
theorem dL_draw_279 : decode cL_draw 279 = .ok (.iconst 3, 1) := by decide +kernel
theorem dL_draw_280 : decode cL_draw 280 = .ok (.iand, 1) := by decide +kernel
theorem dL_draw_281 : decode cL_draw 281 = .ok (.ifCond .ne 17, 3) := by decide +kernel
theorem dL_draw_284 : decode cL_draw 284 = .ok (.iload 9, 2) := by decide +kernel
theorem dL_draw_286 : decode cL_draw 286 = .ok (.bipush 18, 2) := by decide +kernel
theorem dL_draw_288 : decode cL_draw 288 = .ok (.ishr, 1) := by decide +kernel
theorem dL_draw_289 : decode cL_draw 289 = .ok (.bipush 15, 2) := by decide +kernel
theorem dL_draw_291 : decode cL_draw 291 = .ok (.iand, 1) := by decide +kernel
theorem dL_draw_292 : decode cL_draw 292 = .ok (.bipush 10, 2) := by decide +kernel
theorem dL_draw_294 : decode cL_draw 294 = .ok (.irem, 1) := by decide +kernel
theorem dL_draw_295 : decode cL_draw 295 = .ok (.goto 4, 3) := by decide +kernel
theorem dL_draw_298 : decode cL_draw 298 = .ok (.iconst 0, 1) := by decide +kernel
theorem dL_draw_299 : decode cL_draw 299 = .ok (.iastore, 1) := by decide +kernel
theorem dL_draw_300 : decode cL_draw 300 = .ok (.iinc 7 1, 3) := by decide +kernel
theorem dL_draw_303 : decode cL_draw 303 = .ok (.goto (-137), 3) := by decide +kernel
theorem dL_draw_306 : decode cL_draw 306 = .ok (.iinc 6 1, 3) := by decide +kernel
theorem dL_draw_309 : decode cL_draw 309 = .ok (.goto (-154), 3) := by decide +kernel
theorem dL_draw_312 : decode cL_draw 312 = .ok (.return_, 1) := by decide +kernel
theorem dL_law_0 : decode cL_law 0 = .ok (.new 18, 3) := by decide +kernel
theorem dL_law_3 : decode cL_law 3 = .ok (.dup, 1) := by decide +kernel
theorem dL_law_4 : decode cL_law 4 = .ok (.invokespecial 91, 3) := by decide +kernel
theorem dL_law_7 : decode cL_law 7 = .ok (.astore_n 1, 1) := by decide +kernel
theorem dL_law_8 : decode cL_law 8 = .ok (.bipush 24, 2) := by decide +kernel
theorem dL_law_10 : decode cL_law 10 = .ok (.newarray .int, 2) := by decide +kernel
theorem dL_law_12 : decode cL_law 12 = .ok (.astore_n 2, 1) := by decide +kernel
theorem dL_law_13 : decode cL_law 13 = .ok (.bipush 120, 2) := by decide +kernel
theorem dL_law_15 : decode cL_law 15 = .ok (.newarray .int, 2) := by decide +kernel
theorem dL_law_17 : decode cL_law 17 = .ok (.astore_n 3, 1) := by decide +kernel
theorem dL_law_18 : decode cL_law 18 = .ok (.aload_n 0, 1) := by decide +kernel
theorem dL_law_19 : decode cL_law 19 = .ok (.arraylength, 1) := by decide +kernel
theorem dL_law_20 : decode cL_law 20 = .ok (.ifCond .ne 7, 3) := by decide +kernel
theorem dL_law_23 : decode cL_law 23 = .ok (.iconst 5, 1) := by decide +kernel
theorem dL_law_24 : decode cL_law 24 = .ok (.goto 9, 3) := by decide +kernel
theorem dL_law_27 : decode cL_law 27 = .ok (.aload_n 0, 1) := by decide +kernel
theorem dL_law_28 : decode cL_law 28 = .ok (.aload_n 0, 1) := by decide +kernel
theorem dL_law_29 : decode cL_law 29 = .ok (.arraylength, 1) := by decide +kernel
theorem dL_law_30 : decode cL_law 30 = .ok (.iconst 1, 1) := by decide +kernel
theorem dL_law_31 : decode cL_law 31 = .ok (.isub, 1) := by decide +kernel
theorem dL_law_32 : decode cL_law 32 = .ok (.iaload, 1) := by decide +kernel
theorem dL_law_33 : decode cL_law 33 = .ok (.istore 4, 2) := by decide +kernel
theorem dL_law_35 : decode cL_law 35 = .ok (.aload_n 0, 1) := by decide +kernel
theorem dL_law_36 : decode cL_law 36 = .ok (.iconst 3, 1) := by decide +kernel
theorem dL_law_37 : decode cL_law 37 = .ok (.bipush 25, 2) := by decide +kernel
theorem dL_law_39 : decode cL_law 39 = .ok (.aload_n 3, 1) := by decide +kernel
theorem dL_law_40 : decode cL_law 40 = .ok (.invokestatic 92, 3) := by decide +kernel
theorem dL_law_43 : decode cL_law 43 = .ok (.aload_n 1, 1) := by decide +kernel
theorem dL_law_44 : decode cL_law 44 = .ok (.aload_n 2, 1) := by decide +kernel
theorem dL_law_45 : decode cL_law 45 = .ok (.aload_n 3, 1) := by decide +kernel
theorem dL_law_46 : decode cL_law 46 = .ok (.invokestatic 96, 3) := by decide +kernel
theorem dL_law_49 : decode cL_law 49 = .ok (.ifCond .ne 5, 3) := by decide +kernel
theorem dL_law_52 : decode cL_law 52 = .ok (.iconst 0, 1) := by decide +kernel
theorem dL_law_53 : decode cL_law 53 = .ok (.ireturn, 1) := by decide +kernel
theorem dL_law_54 : decode cL_law 54 = .ok (.aload_n 1, 1) := by decide +kernel
theorem dL_law_55 : decode cL_law 55 = .ok (.iconst 5, 1) := by decide +kernel
theorem dL_law_56 : decode cL_law 56 = .ok (.invokevirtual 100, 3) := by decide +kernel
theorem dL_law_59 : decode cL_law 59 = .ok (.aload_n 1, 1) := by decide +kernel
theorem dL_law_60 : decode cL_law 60 = .ok (.bipush 6, 2) := by decide +kernel
theorem dL_law_62 : decode cL_law 62 = .ok (.invokevirtual 100, 3) := by decide +kernel
theorem dL_law_65 : decode cL_law 65 = .ok (.iadd, 1) := by decide +kernel
theorem dL_law_66 : decode cL_law 66 = .ok (.istore 5, 2) := by decide +kernel
theorem dL_law_68 : decode cL_law 68 = .ok (.iconst 0, 1) := by decide +kernel
theorem dL_law_69 : decode cL_law 69 = .ok (.istore 6, 2) := by decide +kernel
theorem dL_law_71 : decode cL_law 71 = .ok (.iload 6, 2) := by decide +kernel
theorem dL_law_73 : decode cL_law 73 = .ok (.iconst 5, 1) := by decide +kernel
theorem dL_law_74 : decode cL_law 74 = .ok (.if_icmp .ge 810, 3) := by decide +kernel
theorem dL_law_77 : decode cL_law 77 = .ok (.iload 6, 2) := by decide +kernel
theorem dL_law_79 : decode cL_law 79 = .ok (.aload_n 0, 1) := by decide +kernel
theorem dL_law_80 : decode cL_law 80 = .ok (.arraylength, 1) := by decide +kernel
theorem dL_law_81 : decode cL_law 81 = .ok (.if_icmp .ge 18, 3) := by decide +kernel
theorem dL_law_84 : decode cL_law 84 = .ok (.aload_n 0, 1) := by decide +kernel
theorem dL_law_85 : decode cL_law 85 = .ok (.iload 6, 2) := by decide +kernel
theorem dL_law_87 : decode cL_law 87 = .ok (.iaload, 1) := by decide +kernel
theorem dL_law_88 : decode cL_law 88 = .ok (.iconst 3, 1) := by decide +kernel
theorem dL_law_89 : decode cL_law 89 = .ok (.ishr, 1) := by decide +kernel
theorem dL_law_90 : decode cL_law 90 = .ok (.bipush 7, 2) := by decide +kernel
theorem dL_law_92 : decode cL_law 92 = .ok (.iload 6, 2) := by decide +kernel
theorem dL_law_94 : decode cL_law 94 = .ok (.imul, 1) := by decide +kernel
theorem dL_law_95 : decode cL_law 95 = .ok (.ixor, 1) := by decide +kernel
theorem dL_law_96 : decode cL_law 96 = .ok (.goto 11, 3) := by decide +kernel
theorem dL_law_99 : decode cL_law 99 = .ok (.bipush 91, 2) := by decide +kernel
theorem dL_law_101 : decode cL_law 101 = .ok (.iload 6, 2) := by decide +kernel
theorem dL_law_103 : decode cL_law 103 = .ok (.imul, 1) := by decide +kernel
theorem dL_law_104 : decode cL_law 104 = .ok (.iload 4, 2) := by decide +kernel
theorem dL_law_106 : decode cL_law 106 = .ok (.iadd, 1) := by decide +kernel
theorem dL_law_107 : decode cL_law 107 = .ok (.istore 7, 2) := by decide +kernel
theorem dL_law_109 : decode cL_law 109 = .ok (.iconst 0, 1) := by decide +kernel
theorem dL_law_110 : decode cL_law 110 = .ok (.istore 8, 2) := by decide +kernel
theorem dL_law_112 : decode cL_law 112 = .ok (.iload 8, 2) := by decide +kernel
theorem dL_law_114 : decode cL_law 114 = .ok (.aload_n 3, 1) := by decide +kernel
theorem dL_law_115 : decode cL_law 115 = .ok (.iconst 2, 1) := by decide +kernel
theorem dL_law_116 : decode cL_law 116 = .ok (.iaload, 1) := by decide +kernel
theorem dL_law_117 : decode cL_law 117 = .ok (.if_icmp .ge 209, 3) := by decide +kernel
theorem dL_law_120 : decode cL_law 120 = .ok (.aload_n 1, 1) := by decide +kernel
theorem dL_law_121 : decode cL_law 121 = .ok (.iconst 4, 1) := by decide +kernel
theorem dL_law_122 : decode cL_law 122 = .ok (.invokevirtual 100, 3) := by decide +kernel
theorem dL_law_125 : decode cL_law 125 = .ok (.istore 9, 2) := by decide +kernel
theorem dL_law_127 : decode cL_law 127 = .ok (.aload_n 1, 1) := by decide +kernel
theorem dL_law_128 : decode cL_law 128 = .ok (.iload 8, 2) := by decide +kernel
theorem dL_law_130 : decode cL_law 130 = .ok (.invokevirtual 103, 3) := by decide +kernel
theorem dL_law_133 : decode cL_law 133 = .ok (.istore 10, 2) := by decide +kernel
theorem dL_law_135 : decode cL_law 135 = .ok (.iconst 0, 1) := by decide +kernel
theorem dL_law_136 : decode cL_law 136 = .ok (.istore 11, 2) := by decide +kernel
theorem dL_law_138 : decode cL_law 138 = .ok (.iconst 0, 1) := by decide +kernel
theorem dL_law_139 : decode cL_law 139 = .ok (.istore 12, 2) := by decide +kernel
theorem dL_law_141 : decode cL_law 141 = .ok (.iload 12, 2) := by decide +kernel
theorem dL_law_143 : decode cL_law 143 = .ok (.aload_n 3, 1) := by decide +kernel
theorem dL_law_144 : decode cL_law 144 = .ok (.iconst 1, 1) := by decide +kernel
theorem dL_law_145 : decode cL_law 145 = .ok (.iaload, 1) := by decide +kernel
theorem dL_law_146 : decode cL_law 146 = .ok (.if_icmp .ge 113, 3) := by decide +kernel
theorem dL_law_149 : decode cL_law 149 = .ok (.iconst 0, 1) := by decide +kernel
theorem dL_law_150 : decode cL_law 150 = .ok (.istore 13, 2) := by decide +kernel
theorem dL_law_152 : decode cL_law 152 = .ok (.iload 13, 2) := by decide +kernel
theorem dL_law_154 : decode cL_law 154 = .ok (.aload_n 3, 1) := by decide +kernel
theorem dL_law_155 : decode cL_law 155 = .ok (.iconst 0, 1) := by decide +kernel
theorem dL_law_156 : decode cL_law 156 = .ok (.iaload, 1) := by decide +kernel
theorem dL_law_157 : decode cL_law 157 = .ok (.if_icmp .ge 96, 3) := by decide +kernel
theorem dL_law_160 : decode cL_law 160 = .ok (.aload_n 1, 1) := by decide +kernel
theorem dL_law_161 : decode cL_law 161 = .ok (.iload 13, 2) := by decide +kernel
theorem dL_law_163 : decode cL_law 163 = .ok (.iload 12, 2) := by decide +kernel
theorem dL_law_165 : decode cL_law 165 = .ok (.iconst 4, 1) := by decide +kernel
theorem dL_law_166 : decode cL_law 166 = .ok (.invokevirtual 106, 3) := by decide +kernel
theorem dL_law_169 : decode cL_law 169 = .ok (.iload 8, 2) := by decide +kernel
theorem dL_law_171 : decode cL_law 171 = .ok (.if_icmp .eq 6, 3) := by decide +kernel
theorem dL_law_174 : decode cL_law 174 = .ok (.goto 73, 3) := by decide +kernel
theorem dL_law_177 : decode cL_law 177 = .ok (.aload_n 1, 1) := by decide +kernel
theorem dL_law_178 : decode cL_law 178 = .ok (.iload 13, 2) := by decide +kernel
theorem dL_law_180 : decode cL_law 180 = .ok (.iload 12, 2) := by decide +kernel
theorem dL_law_182 : decode cL_law 182 = .ok (.invokevirtual 110, 3) := by decide +kernel
theorem dL_law_185 : decode cL_law 185 = .ok (.istore 14, 2) := by decide +kernel
theorem dL_law_187 : decode cL_law 187 = .ok (.iload 14, 2) := by decide +kernel
theorem dL_law_189 : decode cL_law 189 = .ok (.ifCond .le 32, 3) := by decide +kernel
theorem dL_law_192 : decode cL_law 192 = .ok (.iload 14, 2) := by decide +kernel
theorem dL_law_194 : decode cL_law 194 = .ok (.bipush 40, 2) := by decide +kernel
theorem dL_law_196 : decode cL_law 196 = .ok (.if_icmp .gt 25, 3) := by decide +kernel
theorem dL_law_199 : decode cL_law 199 = .ok (.iload 11, 2) := by decide +kernel
theorem dL_law_201 : decode cL_law 201 = .ok (.iconst 0, 1) := by decide +kernel
theorem dL_law_202 : decode cL_law 202 = .ok (.aload_n 1, 1) := by decide +kernel
theorem dL_law_203 : decode cL_law 203 = .ok (.iload 13, 2) := by decide +kernel
theorem dL_law_205 : decode cL_law 205 = .ok (.iload 12, 2) := by decide +kernel
theorem dL_law_207 : decode cL_law 207 = .ok (.iload 14, 2) := by decide +kernel
theorem dL_law_209 : decode cL_law 209 = .ok (.invokevirtual 114, 3) := by decide +kernel
theorem dL_law_212 : decode cL_law 212 = .ok (.invokestatic 117, 3) := by decide +kernel
theorem dL_law_215 : decode cL_law 215 = .ok (.iadd, 1) := by decide +kernel
theorem dL_law_216 : decode cL_law 216 = .ok (.istore 11, 2) := by decide +kernel
theorem dL_law_218 : decode cL_law 218 = .ok (.goto 29, 3) := by decide +kernel
theorem dL_law_221 : decode cL_law 221 = .ok (.iload 14, 2) := by decide +kernel
theorem dL_law_223 : decode cL_law 223 = .ok (.bipush 40, 2) := by decide +kernel
theorem dL_law_225 : decode cL_law 225 = .ok (.if_icmp .le 22, 3) := by decide +kernel
theorem dL_law_228 : decode cL_law 228 = .ok (.iload 11, 2) := by decide +kernel
theorem dL_law_230 : decode cL_law 230 = .ok (.iconst 0, 1) := by decide +kernel
theorem dL_law_231 : decode cL_law 231 = .ok (.aload_n 1, 1) := by decide +kernel
theorem dL_law_232 : decode cL_law 232 = .ok (.iload 13, 2) := by decide +kernel
theorem dL_law_234 : decode cL_law 234 = .ok (.iload 12, 2) := by decide +kernel
theorem dL_law_236 : decode cL_law 236 = .ok (.bipush 40, 2) := by decide +kernel
theorem dL_law_238 : decode cL_law 238 = .ok (.invokevirtual 114, 3) := by decide +kernel
theorem dL_law_241 : decode cL_law 241 = .ok (.invokestatic 117, 3) := by decide +kernel
theorem dL_law_244 : decode cL_law 244 = .ok (.iadd, 1) := by decide +kernel
theorem dL_law_245 : decode cL_law 245 = .ok (.istore 11, 2) := by decide +kernel
theorem dL_law_247 : decode cL_law 247 = .ok (.iinc 13 1, 3) := by decide +kernel
theorem dL_law_250 : decode cL_law 250 = .ok (.goto (-98), 3) := by decide +kernel
theorem dL_law_253 : decode cL_law 253 = .ok (.iinc 12 1, 3) := by decide +kernel
theorem dL_law_256 : decode cL_law 256 = .ok (.goto (-115), 3) := by decide +kernel
theorem dL_law_259 : decode cL_law 259 = .ok (.aload_n 1, 1) := by decide +kernel
theorem dL_law_260 : decode cL_law 260 = .ok (.iconst 4, 1) := by decide +kernel
theorem dL_law_261 : decode cL_law 261 = .ok (.invokevirtual 100, 3) := by decide +kernel
theorem dL_law_264 : decode cL_law 264 = .ok (.iload 9, 2) := by decide +kernel
theorem dL_law_266 : decode cL_law 266 = .ok (.if_icmp .ne 27, 3) := by decide +kernel
theorem dL_law_269 : decode cL_law 269 = .ok (.iload 11, 2) := by decide +kernel
theorem dL_law_271 : decode cL_law 271 = .ok (.iload 10, 2) := by decide +kernel
theorem dL_law_273 : decode cL_law 273 = .ok (.if_icmp .gt 20, 3) := by decide +kernel
theorem dL_law_276 : decode cL_law 276 = .ok (.aload_n 1, 1) := by decide +kernel
theorem dL_law_277 : decode cL_law 277 = .ok (.iload 8, 2) := by decide +kernel
theorem dL_law_279 : decode cL_law 279 = .ok (.iconst 1, 1) := by decide +kernel
theorem dL_law_280 : decode cL_law 280 = .ok (.invokevirtual 122, 3) := by decide +kernel
theorem dL_law_283 : decode cL_law 283 = .ok (.aload_n 1, 1) := by decide +kernel
theorem dL_law_284 : decode cL_law 284 = .ok (.iload 8, 2) := by decide +kernel
theorem dL_law_286 : decode cL_law 286 = .ok (.iconst 0, 1) := by decide +kernel
theorem dL_law_287 : decode cL_law 287 = .ok (.invokevirtual 122, 3) := by decide +kernel
theorem dL_law_290 : decode cL_law 290 = .ok (.if_icmp .le 5, 3) := by decide +kernel
theorem dL_law_293 : decode cL_law 293 = .ok (.iconst 0, 1) := by decide +kernel
theorem dL_law_294 : decode cL_law 294 = .ok (.ireturn, 1) := by decide +kernel
theorem dL_law_295 : decode cL_law 295 = .ok (.iload 10, 2) := by decide +kernel
theorem dL_law_297 : decode cL_law 297 = .ok (.bipush 40, 2) := by decide +kernel
theorem dL_law_299 : decode cL_law 299 = .ok (.if_icmp .ge 21, 3) := by decide +kernel
theorem dL_law_302 : decode cL_law 302 = .ok (.iload 11, 2) := by decide +kernel
theorem dL_law_304 : decode cL_law 304 = .ok (.iload 10, 2) := by decide +kernel
theorem dL_law_306 : decode cL_law 306 = .ok (.if_icmp .eq 14, 3) := by decide +kernel
theorem dL_law_309 : decode cL_law 309 = .ok (.aload_n 1, 1) := by decide +kernel
theorem dL_law_310 : decode cL_law 310 = .ok (.iload 8, 2) := by decide +kernel
theorem dL_law_312 : decode cL_law 312 = .ok (.invokevirtual 103, 3) := by decide +kernel
theorem dL_law_315 : decode cL_law 315 = .ok (.ifCond .ne 5, 3) := by decide +kernel
theorem dL_law_318 : decode cL_law 318 = .ok (.iconst 0, 1) := by decide +kernel
theorem dL_law_319 : decode cL_law 319 = .ok (.ireturn, 1) := by decide +kernel
theorem dL_law_320 : decode cL_law 320 = .ok (.iinc 8 1, 3) := by decide +kernel
theorem dL_law_323 : decode cL_law 323 = .ok (.goto (-211), 3) := by decide +kernel
theorem dL_law_326 : decode cL_law 326 = .ok (.iconst 0, 1) := by decide +kernel
theorem dL_law_327 : decode cL_law 327 = .ok (.istore 8, 2) := by decide +kernel
theorem dL_law_329 : decode cL_law 329 = .ok (.iload 8, 2) := by decide +kernel
theorem dL_law_331 : decode cL_law 331 = .ok (.aload_n 3, 1) := by decide +kernel
theorem dL_law_332 : decode cL_law 332 = .ok (.iconst 2, 1) := by decide +kernel
theorem dL_law_333 : decode cL_law 333 = .ok (.iaload, 1) := by decide +kernel
theorem dL_law_334 : decode cL_law 334 = .ok (.if_icmp .ge 141, 3) := by decide +kernel
theorem dL_law_337 : decode cL_law 337 = .ok (.aload_n 1, 1) := by decide +kernel
theorem dL_law_338 : decode cL_law 338 = .ok (.iload 8, 2) := by decide +kernel
theorem dL_law_340 : decode cL_law 340 = .ok (.iconst 0, 1) := by decide +kernel
theorem dL_law_341 : decode cL_law 341 = .ok (.iconst 5, 1) := by decide +kernel
theorem dL_law_342 : decode cL_law 342 = .ok (.invokevirtual 125, 3) := by decide +kernel
theorem dL_law_345 : decode cL_law 345 = .ok (.aload_n 1, 1) := by decide +kernel
theorem dL_law_346 : decode cL_law 346 = .ok (.iload 8, 2) := by decide +kernel
theorem dL_law_348 : decode cL_law 348 = .ok (.iconst 4, 1) := by decide +kernel
theorem dL_law_349 : decode cL_law 349 = .ok (.invokevirtual 122, 3) := by decide +kernel
theorem dL_law_352 : decode cL_law 352 = .ok (.if_icmp .eq 5, 3) := by decide +kernel
theorem dL_law_355 : decode cL_law 355 = .ok (.iconst 0, 1) := by decide +kernel
theorem dL_law_356 : decode cL_law 356 = .ok (.ireturn, 1) := by decide +kernel
theorem dL_law_357 : decode cL_law 357 = .ok (.iconst 0, 1) := by decide +kernel
theorem dL_law_358 : decode cL_law 358 = .ok (.istore 9, 2) := by decide +kernel
theorem dL_law_360 : decode cL_law 360 = .ok (.iload 9, 2) := by decide +kernel
theorem dL_law_362 : decode cL_law 362 = .ok (.iconst 4, 1) := by decide +kernel
theorem dL_law_363 : decode cL_law 363 = .ok (.if_icmp .ge 55, 3) := by decide +kernel
theorem dL_law_366 : decode cL_law 366 = .ok (.aload_n 1, 1) := by decide +kernel
theorem dL_law_367 : decode cL_law 367 = .ok (.iload 8, 2) := by decide +kernel
theorem dL_law_369 : decode cL_law 369 = .ok (.iload 9, 2) := by decide +kernel
theorem dL_law_371 : decode cL_law 371 = .ok (.iconst 1, 1) := by decide +kernel
theorem dL_law_372 : decode cL_law 372 = .ok (.iadd, 1) := by decide +kernel
theorem dL_law_373 : decode cL_law 373 = .ok (.iconst 3, 1) := by decide +kernel
theorem dL_law_374 : decode cL_law 374 = .ok (.invokevirtual 125, 3) := by decide +kernel
theorem dL_law_377 : decode cL_law 377 = .ok (.aload_n 1, 1) := by decide +kernel
theorem dL_law_378 : decode cL_law 378 = .ok (.iload 8, 2) := by decide +kernel
theorem dL_law_380 : decode cL_law 380 = .ok (.iload 9, 2) := by decide +kernel
theorem dL_law_382 : decode cL_law 382 = .ok (.iconst 3, 1) := by decide +kernel
theorem dL_law_383 : decode cL_law 383 = .ok (.invokevirtual 125, 3) := by decide +kernel
theorem dL_law_386 : decode cL_law 386 = .ok (.if_icmp .gt 24, 3) := by decide +kernel
theorem dL_law_389 : decode cL_law 389 = .ok (.aload_n 1, 1) := by decide +kernel
theorem dL_law_390 : decode cL_law 390 = .ok (.iload 8, 2) := by decide +kernel
theorem dL_law_392 : decode cL_law 392 = .ok (.iload 9, 2) := by decide +kernel
theorem dL_law_394 : decode cL_law 394 = .ok (.iconst 4, 1) := by decide +kernel
theorem dL_law_395 : decode cL_law 395 = .ok (.invokevirtual 125, 3) := by decide +kernel
theorem dL_law_398 : decode cL_law 398 = .ok (.aload_n 1, 1) := by decide +kernel
theorem dL_law_399 : decode cL_law 399 = .ok (.iload 8, 2) := by decide +kernel
theorem dL_law_401 : decode cL_law 401 = .ok (.iload 9, 2) := by decide +kernel
theorem dL_law_403 : decode cL_law 403 = .ok (.iconst 3, 1) := by decide +kernel
theorem dL_law_404 : decode cL_law 404 = .ok (.invokevirtual 125, 3) := by decide +kernel
theorem dL_law_407 : decode cL_law 407 = .ok (.if_icmp .le 5, 3) := by decide +kernel
theorem dL_law_410 : decode cL_law 410 = .ok (.iconst 0, 1) := by decide +kernel
theorem dL_law_411 : decode cL_law 411 = .ok (.ireturn, 1) := by decide +kernel
theorem dL_law_412 : decode cL_law 412 = .ok (.iinc 9 1, 3) := by decide +kernel
theorem dL_law_415 : decode cL_law 415 = .ok (.goto (-55), 3) := by decide +kernel
theorem dL_law_418 : decode cL_law 418 = .ok (.aload_n 1, 1) := by decide +kernel
theorem dL_law_419 : decode cL_law 419 = .ok (.iload 8, 2) := by decide +kernel
theorem dL_law_421 : decode cL_law 421 = .ok (.iconst 2, 1) := by decide +kernel
theorem dL_law_422 : decode cL_law 422 = .ok (.iconst 3, 1) := by decide +kernel
theorem dL_law_423 : decode cL_law 423 = .ok (.invokevirtual 125, 3) := by decide +kernel
theorem dL_law_426 : decode cL_law 426 = .ok (.istore 9, 2) := by decide +kernel
theorem dL_law_428 : decode cL_law 428 = .ok (.iload 8, 2) := by decide +kernel
theorem dL_law_430 : decode cL_law 430 = .ok (.ifCond .ne 7, 3) := by decide +kernel
theorem dL_law_433 : decode cL_law 433 = .ok (.iconst 0, 1) := by decide +kernel
theorem dL_law_434 : decode cL_law 434 = .ok (.goto 8, 3) := by decide +kernel
theorem dL_law_437 : decode cL_law 437 = .ok (.aload_n 3, 1) := by decide +kernel
theorem dL_law_438 : decode cL_law 438 = .ok (.iconst 0, 1) := by decide +kernel
theorem dL_law_439 : decode cL_law 439 = .ok (.iaload, 1) := by decide +kernel
theorem dL_law_440 : decode cL_law 440 = .ok (.iconst 1, 1) := by decide +kernel
theorem dL_law_441 : decode cL_law 441 = .ok (.isub, 1) := by decide +kernel
theorem dL_law_442 : decode cL_law 442 = .ok (.istore 10, 2) := by decide +kernel
theorem dL_law_444 : decode cL_law 444 = .ok (.aload_n 1, 1) := by decide +kernel
theorem dL_law_445 : decode cL_law 445 = .ok (.iload 10, 2) := by decide +kernel
theorem dL_law_447 : decode cL_law 447 = .ok (.iconst 0, 1) := by decide +kernel
theorem dL_law_448 : decode cL_law 448 = .ok (.invokevirtual 128, 3) := by decide +kernel
theorem dL_law_451 : decode cL_law 451 = .ok (.ifCond .eq 18, 3) := by decide +kernel
theorem dL_law_454 : decode cL_law 454 = .ok (.aload_n 1, 1) := by decide +kernel
theorem dL_law_455 : decode cL_law 455 = .ok (.iload 8, 2) := by decide +kernel
theorem dL_law_457 : decode cL_law 457 = .ok (.iconst 2, 1) := by decide +kernel
theorem dL_law_458 : decode cL_law 458 = .ok (.iconst 3, 1) := by decide +kernel
theorem dL_law_459 : decode cL_law 459 = .ok (.invokevirtual 125, 3) := by decide +kernel
theorem dL_law_462 : decode cL_law 462 = .ok (.iload 9, 2) := by decide +kernel
theorem dL_law_464 : decode cL_law 464 = .ok (.if_icmp .ge 5, 3) := by decide +kernel
theorem dL_law_467 : decode cL_law 467 = .ok (.iconst 0, 1) := by decide +kernel
theorem dL_law_468 : decode cL_law 468 = .ok (.ireturn, 1) := by decide +kernel
theorem dL_law_469 : decode cL_law 469 = .ok (.iinc 8 1, 3) := by decide +kernel
theorem dL_law_472 : decode cL_law 472 = .ok (.goto (-143), 3) := by decide +kernel
theorem dL_law_475 : decode cL_law 475 = .ok (.iconst 0, 1) := by decide +kernel
theorem dL_law_476 : decode cL_law 476 = .ok (.istore 8, 2) := by decide +kernel
theorem dL_law_478 : decode cL_law 478 = .ok (.iconst 0, 1) := by decide +kernel
theorem dL_law_479 : decode cL_law 479 = .ok (.istore 9, 2) := by decide +kernel
theorem dL_law_481 : decode cL_law 481 = .ok (.iload 9, 2) := by decide +kernel
theorem dL_law_483 : decode cL_law 483 = .ok (.aload_n 3, 1) := by decide +kernel
theorem dL_law_484 : decode cL_law 484 = .ok (.iconst 0, 1) := by decide +kernel
theorem dL_law_485 : decode cL_law 485 = .ok (.iaload, 1) := by decide +kernel
theorem dL_law_486 : decode cL_law 486 = .ok (.if_icmp .ge 66, 3) := by decide +kernel
theorem dL_law_489 : decode cL_law 489 = .ok (.sipush 999, 3) := by decide +kernel
theorem dL_law_492 : decode cL_law 492 = .ok (.istore 10, 2) := by decide +kernel
theorem dL_law_494 : decode cL_law 494 = .ok (.iconst 0, 1) := by decide +kernel
theorem dL_law_495 : decode cL_law 495 = .ok (.istore 11, 2) := by decide +kernel
theorem dL_law_497 : decode cL_law 497 = .ok (.iload 11, 2) := by decide +kernel
theorem dL_law_499 : decode cL_law 499 = .ok (.aload_n 3, 1) := by decide +kernel
theorem dL_law_500 : decode cL_law 500 = .ok (.iconst 1, 1) := by decide +kernel
theorem dL_law_501 : decode cL_law 501 = .ok (.iaload, 1) := by decide +kernel
theorem dL_law_502 : decode cL_law 502 = .ok (.if_icmp .ge 35, 3) := by decide +kernel
theorem dL_law_505 : decode cL_law 505 = .ok (.iload 10, 2) := by decide +kernel
theorem dL_law_507 : decode cL_law 507 = .ok (.aload_n 1, 1) := by decide +kernel
theorem dL_law_508 : decode cL_law 508 = .ok (.iload 9, 2) := by decide +kernel
theorem dL_law_510 : decode cL_law 510 = .ok (.iload 11, 2) := by decide +kernel
theorem dL_law_512 : decode cL_law 512 = .ok (.iconst 0, 1) := by decide +kernel
theorem dL_law_513 : decode cL_law 513 = .ok (.invokevirtual 106, 3) := by decide +kernel
theorem dL_law_516 : decode cL_law 516 = .ok (.aload_n 1, 1) := by decide +kernel
theorem dL_law_517 : decode cL_law 517 = .ok (.iload 9, 2) := by decide +kernel
theorem dL_law_519 : decode cL_law 519 = .ok (.iload 11, 2) := by decide +kernel
theorem dL_law_521 : decode cL_law 521 = .ok (.iconst 1, 1) := by decide +kernel
theorem dL_law_522 : decode cL_law 522 = .ok (.invokevirtual 106, 3) := by decide +kernel
theorem dL_law_525 : decode cL_law 525 = .ok (.iadd, 1) := by decide +kernel
theorem dL_law_526 : decode cL_law 526 = .ok (.invokestatic 132, 3) := by decide +kernel
theorem dL_law_529 : decode cL_law 529 = .ok (.istore 10, 2) := by decide +kernel
theorem dL_law_531 : decode cL_law 531 = .ok (.iinc 11 1, 3) := by decide +kernel
theorem dL_law_534 : decode cL_law 534 = .ok (.goto (-37), 3) := by decide +kernel
theorem dL_law_537 : decode cL_law 537 = .ok (.iload 8, 2) := by decide +kernel
theorem dL_law_539 : decode cL_law 539 = .ok (.iload 10, 2) := by decide +kernel
theorem dL_law_541 : decode cL_law 541 = .ok (.invokestatic 117, 3) := by decide +kernel
theorem dL_law_544 : decode cL_law 544 = .ok (.istore 8, 2) := by decide +kernel
theorem dL_law_546 : decode cL_law 546 = .ok (.iinc 9 1, 3) := by decide +kernel
theorem dL_law_549 : decode cL_law 549 = .ok (.goto (-68), 3) := by decide +kernel
theorem dL_law_552 : decode cL_law 552 = .ok (.aload_n 1, 1) := by decide +kernel
theorem dL_law_553 : decode cL_law 553 = .ok (.invokevirtual 135, 3) := by decide +kernel
theorem dL_law_556 : decode cL_law 556 = .ok (.istore 9, 2) := by decide +kernel
theorem dL_law_558 : decode cL_law 558 = .ok (.iload 9, 2) := by decide +kernel
theorem dL_law_560 : decode cL_law 560 = .ok (.iload 8, 2) := by decide +kernel
theorem dL_law_562 : decode cL_law 562 = .ok (.if_icmp .lt 30, 3) := by decide +kernel
theorem dL_law_565 : decode cL_law 565 = .ok (.aload_n 1, 1) := by decide +kernel
theorem dL_law_566 : decode cL_law 566 = .ok (.invokevirtual 138, 3) := by decide +kernel
theorem dL_law_569 : decode cL_law 569 = .ok (.iload 9, 2) := by decide +kernel
theorem dL_law_571 : decode cL_law 571 = .ok (.iconst 5, 1) := by decide +kernel
theorem dL_law_572 : decode cL_law 572 = .ok (.if_icmp .ge 7, 3) := by decide +kernel
theorem dL_law_575 : decode cL_law 575 = .ok (.iconst 1, 1) := by decide +kernel
theorem dL_law_576 : decode cL_law 576 = .ok (.goto 4, 3) := by decide +kernel
theorem dL_law_579 : decode cL_law 579 = .ok (.iconst 0, 1) := by decide +kernel
theorem dL_law_580 : decode cL_law 580 = .ok (.if_icmp .ne 12, 3) := by decide +kernel
theorem dL_law_583 : decode cL_law 583 = .ok (.aload_n 1, 1) := by decide +kernel
theorem dL_law_584 : decode cL_law 584 = .ok (.iconst 0, 1) := by decide +kernel
theorem dL_law_585 : decode cL_law 585 = .ok (.iconst 0, 1) := by decide +kernel
theorem dL_law_586 : decode cL_law 586 = .ok (.invokevirtual 141, 3) := by decide +kernel
theorem dL_law_589 : decode cL_law 589 = .ok (.ifCond .eq 5, 3) := by decide +kernel
theorem dL_law_592 : decode cL_law 592 = .ok (.iconst 0, 1) := by decide +kernel
theorem dL_law_593 : decode cL_law 593 = .ok (.ireturn, 1) := by decide +kernel
theorem dL_law_594 : decode cL_law 594 = .ok (.iconst 0, 1) := by decide +kernel
theorem dL_law_595 : decode cL_law 595 = .ok (.istore 10, 2) := by decide +kernel
theorem dL_law_597 : decode cL_law 597 = .ok (.iconst 0, 1) := by decide +kernel
theorem dL_law_598 : decode cL_law 598 = .ok (.istore 11, 2) := by decide +kernel
theorem dL_law_600 : decode cL_law 600 = .ok (.iconst 0, 1) := by decide +kernel
theorem dL_law_601 : decode cL_law 601 = .ok (.istore 12, 2) := by decide +kernel
theorem dL_law_603 : decode cL_law 603 = .ok (.iconst 0, 1) := by decide +kernel
theorem dL_law_604 : decode cL_law 604 = .ok (.istore 13, 2) := by decide +kernel
theorem dL_law_606 : decode cL_law 606 = .ok (.aload_n 1, 1) := by decide +kernel
theorem dL_law_607 : decode cL_law 607 = .ok (.iload 12, 2) := by decide +kernel
theorem dL_law_609 : decode cL_law 609 = .ok (.iconst 0, 1) := by decide +kernel
theorem dL_law_610 : decode cL_law 610 = .ok (.invokevirtual 141, 3) := by decide +kernel
theorem dL_law_613 : decode cL_law 613 = .ok (.ifCond .lt 87, 3) := by decide +kernel
theorem dL_law_616 : decode cL_law 616 = .ok (.aload_n 1, 1) := by decide +kernel
theorem dL_law_617 : decode cL_law 617 = .ok (.iload 12, 2) := by decide +kernel
theorem dL_law_619 : decode cL_law 619 = .ok (.iconst 0, 1) := by decide +kernel
theorem dL_law_620 : decode cL_law 620 = .ok (.invokevirtual 141, 3) := by decide +kernel
theorem dL_law_623 : decode cL_law 623 = .ok (.istore 13, 2) := by decide +kernel
theorem dL_law_625 : decode cL_law 625 = .ok (.aload_n 1, 1) := by decide +kernel
theorem dL_law_626 : decode cL_law 626 = .ok (.iload 13, 2) := by decide +kernel
theorem dL_law_628 : decode cL_law 628 = .ok (.aload_n 1, 1) := by decide +kernel
theorem dL_law_629 : decode cL_law 629 = .ok (.iload 12, 2) := by decide +kernel
theorem dL_law_631 : decode cL_law 631 = .ok (.iconst 1, 1) := by decide +kernel
theorem dL_law_632 : decode cL_law 632 = .ok (.invokevirtual 141, 3) := by decide +kernel
theorem dL_law_635 : decode cL_law 635 = .ok (.iconst 0, 1) := by decide +kernel
theorem dL_law_636 : decode cL_law 636 = .ok (.invokevirtual 106, 3) := by decide +kernel
theorem dL_law_639 : decode cL_law 639 = .ok (.aload_n 1, 1) := by decide +kernel
theorem dL_law_640 : decode cL_law 640 = .ok (.iload 13, 2) := by decide +kernel
theorem dL_law_642 : decode cL_law 642 = .ok (.aload_n 1, 1) := by decide +kernel
theorem dL_law_643 : decode cL_law 643 = .ok (.iload 12, 2) := by decide +kernel
theorem dL_law_645 : decode cL_law 645 = .ok (.iconst 1, 1) := by decide +kernel
theorem dL_law_646 : decode cL_law 646 = .ok (.invokevirtual 141, 3) := by decide +kernel
theorem dL_law_649 : decode cL_law 649 = .ok (.iconst 1, 1) := by decide +kernel
theorem dL_law_650 : decode cL_law 650 = .ok (.invokevirtual 106, 3) := by decide +kernel
theorem dL_law_653 : decode cL_law 653 = .ok (.iadd, 1) := by decide +kernel
theorem dL_law_654 : decode cL_law 654 = .ok (.istore 14, 2) := by decide +kernel
theorem dL_law_656 : decode cL_law 656 = .ok (.iload 10, 2) := by decide +kernel
theorem dL_law_658 : decode cL_law 658 = .ok (.iload 14, 2) := by decide +kernel
theorem dL_law_660 : decode cL_law 660 = .ok (.iload 11, 2) := by decide +kernel
theorem dL_law_662 : decode cL_law 662 = .ok (.if_icmp .le 11, 3) := by decide +kernel
theorem dL_law_665 : decode cL_law 665 = .ok (.iload 14, 2) := by decide +kernel
theorem dL_law_667 : decode cL_law 667 = .ok (.iload 11, 2) := by decide +kernel
theorem dL_law_669 : decode cL_law 669 = .ok (.isub, 1) := by decide +kernel
theorem dL_law_670 : decode cL_law 670 = .ok (.goto 17, 3) := by decide +kernel
theorem dL_law_673 : decode cL_law 673 = .ok (.iload 11, 2) := by decide +kernel
theorem dL_law_675 : decode cL_law 675 = .ok (.iload 14, 2) := by decide +kernel
theorem dL_law_677 : decode cL_law 677 = .ok (.isub, 1) := by decide +kernel
theorem dL_law_678 : decode cL_law 678 = .ok (.iconst 3, 1) := by decide +kernel
theorem dL_law_679 : decode cL_law 679 = .ok (.if_icmp .le 7, 3) := by decide +kernel
theorem dL_law_682 : decode cL_law 682 = .ok (.iconst 2, 1) := by decide +kernel
theorem dL_law_683 : decode cL_law 683 = .ok (.goto 4, 3) := by decide +kernel
theorem dL_law_686 : decode cL_law 686 = .ok (.iconst 0, 1) := by decide +kernel
theorem dL_law_687 : decode cL_law 687 = .ok (.iadd, 1) := by decide +kernel
theorem dL_law_688 : decode cL_law 688 = .ok (.istore 10, 2) := by decide +kernel
theorem dL_law_690 : decode cL_law 690 = .ok (.iload 14, 2) := by decide +kernel
theorem dL_law_692 : decode cL_law 692 = .ok (.istore 11, 2) := by decide +kernel
theorem dL_law_694 : decode cL_law 694 = .ok (.iinc 12 1, 3) := by decide +kernel
theorem dL_law_697 : decode cL_law 697 = .ok (.goto (-91), 3) := by decide +kernel
theorem dL_law_700 : decode cL_law 700 = .ok (.iload 13, 2) := by decide +kernel
theorem dL_law_702 : decode cL_law 702 = .ok (.aload_n 3, 1) := by decide +kernel
theorem dL_law_703 : decode cL_law 703 = .ok (.iconst 0, 1) := by decide +kernel
theorem dL_law_704 : decode cL_law 704 = .ok (.iaload, 1) := by decide +kernel
theorem dL_law_705 : decode cL_law 705 = .ok (.iconst 1, 1) := by decide +kernel
theorem dL_law_706 : decode cL_law 706 = .ok (.isub, 1) := by decide +kernel
theorem dL_law_707 : decode cL_law 707 = .ok (.if_icmp .ne 22, 3) := by decide +kernel
theorem dL_law_710 : decode cL_law 710 = .ok (.iload 10, 2) := by decide +kernel
theorem dL_law_712 : decode cL_law 712 = .ok (.iload 11, 2) := by decide +kernel
theorem dL_law_714 : decode cL_law 714 = .ok (.iconst 3, 1) := by decide +kernel
theorem dL_law_715 : decode cL_law 715 = .ok (.if_icmp .le 7, 3) := by decide +kernel
theorem dL_law_718 : decode cL_law 718 = .ok (.iconst 2, 1) := by decide +kernel
theorem dL_law_719 : decode cL_law 719 = .ok (.goto 4, 3) := by decide +kernel
theorem dL_law_722 : decode cL_law 722 = .ok (.iconst 0, 1) := by decide +kernel
theorem dL_law_723 : decode cL_law 723 = .ok (.iadd, 1) := by decide +kernel
theorem dL_law_724 : decode cL_law 724 = .ok (.iload 9, 2) := by decide +kernel
theorem dL_law_726 : decode cL_law 726 = .ok (.if_icmp .eq 5, 3) := by decide +kernel
theorem dL_law_729 : decode cL_law 729 = .ok (.iconst 0, 1) := by decide +kernel
theorem dL_law_730 : decode cL_law 730 = .ok (.ireturn, 1) := by decide +kernel
theorem dL_law_731 : decode cL_law 731 = .ok (.aload_n 1, 1) := by decide +kernel
theorem dL_law_732 : decode cL_law 732 = .ok (.iload 7, 2) := by decide +kernel
theorem dL_law_734 : decode cL_law 734 = .ok (.bipush 15, 2) := by decide +kernel
theorem dL_law_736 : decode cL_law 736 = .ok (.iand, 1) := by decide +kernel
theorem dL_law_737 : decode cL_law 737 = .ok (.invokevirtual 144, 3) := by decide +kernel
theorem dL_law_740 : decode cL_law 740 = .ok (.ifCond .lt 35, 3) := by decide +kernel
theorem dL_law_743 : decode cL_law 743 = .ok (.aload_n 1, 1) := by decide +kernel
theorem dL_law_744 : decode cL_law 744 = .ok (.iload 7, 2) := by decide +kernel
theorem dL_law_746 : decode cL_law 746 = .ok (.iconst 4, 1) := by decide +kernel
theorem dL_law_747 : decode cL_law 747 = .ok (.ishr, 1) := by decide +kernel
theorem dL_law_748 : decode cL_law 748 = .ok (.bipush 7, 2) := by decide +kernel
theorem dL_law_750 : decode cL_law 750 = .ok (.iand, 1) := by decide +kernel
theorem dL_law_751 : decode cL_law 751 = .ok (.invokevirtual 147, 3) := by decide +kernel
theorem dL_law_754 : decode cL_law 754 = .ok (.ifCond .lt 21, 3) := by decide +kernel
theorem dL_law_757 : decode cL_law 757 = .ok (.iload 7, 2) := by decide +kernel
theorem dL_law_759 : decode cL_law 759 = .ok (.bipush 7, 2) := by decide +kernel
theorem dL_law_761 : decode cL_law 761 = .ok (.ishr, 1) := by decide +kernel
theorem dL_law_762 : decode cL_law 762 = .ok (.iconst 1, 1) := by decide +kernel
theorem dL_law_763 : decode cL_law 763 = .ok (.iand, 1) := by decide +kernel
theorem dL_law_764 : decode cL_law 764 = .ok (.ifCond .ne 13, 3) := by decide +kernel
theorem dL_law_767 : decode cL_law 767 = .ok (.aload_n 1, 1) := by decide +kernel
theorem dL_law_768 : decode cL_law 768 = .ok (.invokevirtual 150, 3) := by decide +kernel
theorem dL_law_771 : decode cL_law 771 = .ok (.iconst 1, 1) := by decide +kernel
theorem dL_law_772 : decode cL_law 772 = .ok (.if_icmp .ge 5, 3) := by decide +kernel
theorem dL_law_775 : decode cL_law 775 = .ok (.iconst 0, 1) := by decide +kernel
theorem dL_law_776 : decode cL_law 776 = .ok (.ireturn, 1) := by decide +kernel
theorem dL_law_777 : decode cL_law 777 = .ok (.aload_n 1, 1) := by decide +kernel
theorem dL_law_778 : decode cL_law 778 = .ok (.iconst 0, 1) := by decide +kernel
theorem dL_law_779 : decode cL_law 779 = .ok (.iconst 0, 1) := by decide +kernel
theorem dL_law_780 : decode cL_law 780 = .ok (.aload_n 3, 1) := by decide +kernel
theorem dL_law_781 : decode cL_law 781 = .ok (.iconst 0, 1) := by decide +kernel
theorem dL_law_782 : decode cL_law 782 = .ok (.iaload, 1) := by decide +kernel
theorem dL_law_783 : decode cL_law 783 = .ok (.iconst 1, 1) := by decide +kernel
theorem dL_law_784 : decode cL_law 784 = .ok (.isub, 1) := by decide +kernel
theorem dL_law_785 : decode cL_law 785 = .ok (.aload_n 3, 1) := by decide +kernel
theorem dL_law_786 : decode cL_law 786 = .ok (.iconst 1, 1) := by decide +kernel
theorem dL_law_787 : decode cL_law 787 = .ok (.iaload, 1) := by decide +kernel
theorem dL_law_788 : decode cL_law 788 = .ok (.iconst 1, 1) := by decide +kernel
theorem dL_law_789 : decode cL_law 789 = .ok (.isub, 1) := by decide +kernel
theorem dL_law_790 : decode cL_law 790 = .ok (.iconst 1, 1) := by decide +kernel
theorem dL_law_791 : decode cL_law 791 = .ok (.iload 7, 2) := by decide +kernel
theorem dL_law_793 : decode cL_law 793 = .ok (.bipush 8, 2) := by decide +kernel
theorem dL_law_795 : decode cL_law 795 = .ok (.ishr, 1) := by decide +kernel
theorem dL_law_796 : decode cL_law 796 = .ok (.bipush 15, 2) := by decide +kernel
theorem dL_law_798 : decode cL_law 798 = .ok (.iand, 1) := by decide +kernel
theorem dL_law_799 : decode cL_law 799 = .ok (.iadd, 1) := by decide +kernel
theorem dL_law_800 : decode cL_law 800 = .ok (.invokevirtual 153, 3) := by decide +kernel
theorem dL_law_803 : decode cL_law 803 = .ok (.pop, 1) := by decide +kernel
theorem dL_law_804 : decode cL_law 804 = .ok (.aload_n 1, 1) := by decide +kernel
theorem dL_law_805 : decode cL_law 805 = .ok (.iconst 5, 1) := by decide +kernel
theorem dL_law_806 : decode cL_law 806 = .ok (.invokevirtual 100, 3) := by decide +kernel
theorem dL_law_809 : decode cL_law 809 = .ok (.aload_n 1, 1) := by decide +kernel
theorem dL_law_810 : decode cL_law 810 = .ok (.bipush 6, 2) := by decide +kernel
theorem dL_law_812 : decode cL_law 812 = .ok (.invokevirtual 100, 3) := by decide +kernel
theorem dL_law_815 : decode cL_law 815 = .ok (.iadd, 1) := by decide +kernel
theorem dL_law_816 : decode cL_law 816 = .ok (.aload_n 1, 1) := by decide +kernel
theorem dL_law_817 : decode cL_law 817 = .ok (.bipush 7, 2) := by decide +kernel
theorem dL_law_819 : decode cL_law 819 = .ok (.invokevirtual 100, 3) := by decide +kernel
theorem dL_law_822 : decode cL_law 822 = .ok (.iadd, 1) := by decide +kernel
theorem dL_law_823 : decode cL_law 823 = .ok (.aload_n 1, 1) := by decide +kernel
theorem dL_law_824 : decode cL_law 824 = .ok (.bipush 8, 2) := by decide +kernel
theorem dL_law_826 : decode cL_law 826 = .ok (.invokevirtual 100, 3) := by decide +kernel
theorem dL_law_829 : decode cL_law 829 = .ok (.iadd, 1) := by decide +kernel
theorem dL_law_830 : decode cL_law 830 = .ok (.iload 5, 2) := by decide +kernel
theorem dL_law_832 : decode cL_law 832 = .ok (.aload_n 1, 1) := by decide +kernel
theorem dL_law_833 : decode cL_law 833 = .ok (.bipush 9, 2) := by decide +kernel
theorem dL_law_835 : decode cL_law 835 = .ok (.invokevirtual 100, 3) := by decide +kernel
theorem dL_law_838 : decode cL_law 838 = .ok (.iadd, 1) := by decide +kernel
theorem dL_law_839 : decode cL_law 839 = .ok (.if_icmp .eq 5, 3) := by decide +kernel
theorem dL_law_842 : decode cL_law 842 = .ok (.iconst 0, 1) := by decide +kernel
theorem dL_law_843 : decode cL_law 843 = .ok (.ireturn, 1) := by decide +kernel
theorem dL_law_844 : decode cL_law 844 = .ok (.aload_n 1, 1) := by decide +kernel
theorem dL_law_845 : decode cL_law 845 = .ok (.iconst 4, 1) := by decide +kernel
theorem dL_law_846 : decode cL_law 846 = .ok (.invokevirtual 100, 3) := by decide +kernel
theorem dL_law_849 : decode cL_law 849 = .ok (.aload_n 1, 1) := by decide +kernel
theorem dL_law_850 : decode cL_law 850 = .ok (.iconst 0, 1) := by decide +kernel
theorem dL_law_851 : decode cL_law 851 = .ok (.iconst 2, 1) := by decide +kernel
theorem dL_law_852 : decode cL_law 852 = .ok (.invokevirtual 122, 3) := by decide +kernel
theorem dL_law_855 : decode cL_law 855 = .ok (.aload_n 3, 1) := by decide +kernel
theorem dL_law_856 : decode cL_law 856 = .ok (.iconst 2, 1) := by decide +kernel
theorem dL_law_857 : decode cL_law 857 = .ok (.iaload, 1) := by decide +kernel
theorem dL_law_858 : decode cL_law 858 = .ok (.iconst 1, 1) := by decide +kernel
theorem dL_law_859 : decode cL_law 859 = .ok (.if_icmp .le 12, 3) := by decide +kernel
theorem dL_law_862 : decode cL_law 862 = .ok (.aload_n 1, 1) := by decide +kernel
theorem dL_law_863 : decode cL_law 863 = .ok (.iconst 1, 1) := by decide +kernel
theorem dL_law_864 : decode cL_law 864 = .ok (.iconst 2, 1) := by decide +kernel
theorem dL_law_865 : decode cL_law 865 = .ok (.invokevirtual 122, 3) := by decide +kernel
theorem dL_law_868 : decode cL_law 868 = .ok (.goto 4, 3) := by decide +kernel
theorem dL_law_871 : decode cL_law 871 = .ok (.iconst 0, 1) := by decide +kernel
theorem dL_law_872 : decode cL_law 872 = .ok (.iadd, 1) := by decide +kernel
theorem dL_law_873 : decode cL_law 873 = .ok (.if_icmp .eq 5, 3) := by decide +kernel
theorem dL_law_876 : decode cL_law 876 = .ok (.iconst 0, 1) := by decide +kernel
theorem dL_law_877 : decode cL_law 877 = .ok (.ireturn, 1) := by decide +kernel
theorem dL_law_878 : decode cL_law 878 = .ok (.iinc 6 1, 3) := by decide +kernel
theorem dL_law_881 : decode cL_law 881 = .ok (.goto (-810), 3) := by decide +kernel
theorem dL_law_884 : decode cL_law 884 = .ok (.iconst 1, 1) := by decide +kernel
theorem dL_law_885 : decode cL_law 885 = .ok (.ireturn, 1) := by decide +kernel
