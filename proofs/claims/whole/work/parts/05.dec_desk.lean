theorem dX7_init_0 : decode cX7_init 0 = .ok (.aload_n 0, 1) := by decide +kernel
theorem dX7_init_1 : decode cX7_init 1 = .ok (.invokespecial 1, 3) := by decide +kernel
theorem dX7_init_4 : decode cX7_init 4 = .ok (.aload_n 0, 1) := by decide +kernel
theorem dX7_init_5 : decode cX7_init 5 = .ok (.bipush 10, 2) := by decide +kernel
theorem dX7_init_7 : decode cX7_init 7 = .ok (.newarray .int, 2) := by decide +kernel
theorem dX7_init_9 : decode cX7_init 9 = .ok (.putfield 9, 3) := by decide +kernel
theorem dX7_init_12 : decode cX7_init 12 = .ok (.aload_n 0, 1) := by decide +kernel
theorem dX7_init_13 : decode cX7_init 13 = .ok (.new 13, 3) := by decide +kernel
theorem dX7_init_16 : decode cX7_init 16 = .ok (.dup, 1) := by decide +kernel
theorem dX7_init_17 : decode cX7_init 17 = .ok (.invokespecial 15, 3) := by decide +kernel
theorem dX7_init_20 : decode cX7_init 20 = .ok (.putfield 16, 3) := by decide +kernel
theorem dX7_init_23 : decode cX7_init 23 = .ok (.aload_n 0, 1) := by decide +kernel
theorem dX7_init_24 : decode cX7_init 24 = .ok (.new 13, 3) := by decide +kernel
theorem dX7_init_27 : decode cX7_init 27 = .ok (.dup, 1) := by decide +kernel
theorem dX7_init_28 : decode cX7_init 28 = .ok (.invokespecial 15, 3) := by decide +kernel
theorem dX7_init_31 : decode cX7_init 31 = .ok (.putfield 20, 3) := by decide +kernel
theorem dX7_init_34 : decode cX7_init 34 = .ok (.aload_n 0, 1) := by decide +kernel
theorem dX7_init_35 : decode cX7_init 35 = .ok (.new 23, 3) := by decide +kernel
theorem dX7_init_38 : decode cX7_init 38 = .ok (.dup, 1) := by decide +kernel
theorem dX7_init_39 : decode cX7_init 39 = .ok (.invokespecial 25, 3) := by decide +kernel
theorem dX7_init_42 : decode cX7_init 42 = .ok (.putfield 26, 3) := by decide +kernel
theorem dX7_init_45 : decode cX7_init 45 = .ok (.aload_n 0, 1) := by decide +kernel
theorem dX7_init_46 : decode cX7_init 46 = .ok (.new 30, 3) := by decide +kernel
theorem dX7_init_49 : decode cX7_init 49 = .ok (.dup, 1) := by decide +kernel
theorem dX7_init_50 : decode cX7_init 50 = .ok (.invokespecial 32, 3) := by decide +kernel
theorem dX7_init_53 : decode cX7_init 53 = .ok (.putfield 33, 3) := by decide +kernel
theorem dX7_init_56 : decode cX7_init 56 = .ok (.aload_n 0, 1) := by decide +kernel
theorem dX7_init_57 : decode cX7_init 57 = .ok (.new 37, 3) := by decide +kernel
theorem dX7_init_60 : decode cX7_init 60 = .ok (.dup, 1) := by decide +kernel
theorem dX7_init_61 : decode cX7_init 61 = .ok (.invokespecial 39, 3) := by decide +kernel
theorem dX7_init_64 : decode cX7_init 64 = .ok (.putfield 40, 3) := by decide +kernel
theorem dX7_init_67 : decode cX7_init 67 = .ok (.aload_n 0, 1) := by decide +kernel
theorem dX7_init_68 : decode cX7_init 68 = .ok (.new 44, 3) := by decide +kernel
theorem dX7_init_71 : decode cX7_init 71 = .ok (.dup, 1) := by decide +kernel
theorem dX7_init_72 : decode cX7_init 72 = .ok (.invokespecial 46, 3) := by decide +kernel
theorem dX7_init_75 : decode cX7_init 75 = .ok (.putfield 47, 3) := by decide +kernel
theorem dX7_init_78 : decode cX7_init 78 = .ok (.aload_n 0, 1) := by decide +kernel
theorem dX7_init_79 : decode cX7_init 79 = .ok (.new 51, 3) := by decide +kernel
theorem dX7_init_82 : decode cX7_init 82 = .ok (.dup, 1) := by decide +kernel
theorem dX7_init_83 : decode cX7_init 83 = .ok (.invokespecial 53, 3) := by decide +kernel
theorem dX7_init_86 : decode cX7_init 86 = .ok (.putfield 54, 3) := by decide +kernel
theorem dX7_init_89 : decode cX7_init 89 = .ok (.aload_n 0, 1) := by decide +kernel
theorem dX7_init_90 : decode cX7_init 90 = .ok (.new 58, 3) := by decide +kernel
theorem dX7_init_93 : decode cX7_init 93 = .ok (.dup, 1) := by decide +kernel
theorem dX7_init_94 : decode cX7_init 94 = .ok (.invokespecial 60, 3) := by decide +kernel
theorem dX7_init_97 : decode cX7_init 97 = .ok (.putfield 61, 3) := by decide +kernel
theorem dX7_init_100 : decode cX7_init 100 = .ok (.aload_n 0, 1) := by decide +kernel
theorem dX7_init_101 : decode cX7_init 101 = .ok (.iconst 0, 1) := by decide +kernel
theorem dX7_init_102 : decode cX7_init 102 = .ok (.putfield 65, 3) := by decide +kernel
theorem dX7_init_105 : decode cX7_init 105 = .ok (.aload_n 0, 1) := by decide +kernel
theorem dX7_init_106 : decode cX7_init 106 = .ok (.iconst (-1), 1) := by decide +kernel
theorem dX7_init_107 : decode cX7_init 107 = .ok (.putfield 69, 3) := by decide +kernel
theorem dX7_init_110 : decode cX7_init 110 = .ok (.return_, 1) := by decide +kernel
theorem dX7_part_0 : decode cX7_part 0 = .ok (.aload_n 0, 1) := by decide +kernel
theorem dX7_part_1 : decode cX7_part 1 = .ok (.invokevirtual 72, 3) := by decide +kernel
theorem dX7_part_4 : decode cX7_part 4 = .ok (.ifCond .ne 19, 3) := by decide +kernel
theorem dX7_part_7 : decode cX7_part 7 = .ok (.aload_n 0, 1) := by decide +kernel
theorem dX7_part_8 : decode cX7_part 8 = .ok (.getfield 65, 3) := by decide +kernel
theorem dX7_part_11 : decode cX7_part 11 = .ok (.bipush 10, 2) := by decide +kernel
theorem dX7_part_13 : decode cX7_part 13 = .ok (.if_icmp .ge 10, 3) := by decide +kernel
theorem dX7_part_16 : decode cX7_part 16 = .ok (.iload_n 1, 1) := by decide +kernel
theorem dX7_part_17 : decode cX7_part 17 = .ok (.invokestatic 76, 3) := by decide +kernel
theorem dX7_part_20 : decode cX7_part 20 = .ok (.ifCond .ne 5, 3) := by decide +kernel
theorem dX7_part_23 : decode cX7_part 23 = .ok (.iconst (-1), 1) := by decide +kernel
theorem dX7_part_24 : decode cX7_part 24 = .ok (.ireturn, 1) := by decide +kernel
theorem dX7_part_25 : decode cX7_part 25 = .ok (.aload_n 0, 1) := by decide +kernel
theorem dX7_part_26 : decode cX7_part 26 = .ok (.getfield 9, 3) := by decide +kernel
theorem dX7_part_29 : decode cX7_part 29 = .ok (.aload_n 0, 1) := by decide +kernel
theorem dX7_part_30 : decode cX7_part 30 = .ok (.getfield 65, 3) := by decide +kernel
theorem dX7_part_33 : decode cX7_part 33 = .ok (.iload_n 1, 1) := by decide +kernel
theorem dX7_part_34 : decode cX7_part 34 = .ok (.iastore, 1) := by decide +kernel
theorem dX7_part_35 : decode cX7_part 35 = .ok (.aload_n 0, 1) := by decide +kernel
theorem dX7_part_36 : decode cX7_part 36 = .ok (.dup, 1) := by decide +kernel
theorem dX7_part_37 : decode cX7_part 37 = .ok (.getfield 65, 3) := by decide +kernel
theorem dX7_part_40 : decode cX7_part 40 = .ok (.iconst 1, 1) := by decide +kernel
theorem dX7_part_41 : decode cX7_part 41 = .ok (.iadd, 1) := by decide +kernel
theorem dX7_part_42 : decode cX7_part 42 = .ok (.putfield 65, 3) := by decide +kernel
theorem dX7_part_45 : decode cX7_part 45 = .ok (.aload_n 0, 1) := by decide +kernel
theorem dX7_part_46 : decode cX7_part 46 = .ok (.getfield 65, 3) := by decide +kernel
theorem dX7_part_49 : decode cX7_part 49 = .ok (.iconst 1, 1) := by decide +kernel
theorem dX7_part_50 : decode cX7_part 50 = .ok (.isub, 1) := by decide +kernel
theorem dX7_part_51 : decode cX7_part 51 = .ok (.ireturn, 1) := by decide +kernel
theorem dX7_offer_0 : decode cX7_offer 0 = .ok (.aload_n 0, 1) := by decide +kernel
theorem dX7_offer_1 : decode cX7_offer 1 = .ok (.iload_n 1, 1) := by decide +kernel
theorem dX7_offer_2 : decode cX7_offer 2 = .ok (.invokevirtual 80, 3) := by decide +kernel
theorem dX7_offer_5 : decode cX7_offer 5 = .ok (.ifCond .eq 26, 3) := by decide +kernel
theorem dX7_offer_8 : decode cX7_offer 8 = .ok (.iload_n 2, 1) := by decide +kernel
theorem dX7_offer_9 : decode cX7_offer 9 = .ok (.invokestatic 76, 3) := by decide +kernel
theorem dX7_offer_12 : decode cX7_offer 12 = .ok (.ifCond .eq 19, 3) := by decide +kernel
theorem dX7_offer_15 : decode cX7_offer 15 = .ok (.iload_n 3, 1) := by decide +kernel
theorem dX7_offer_16 : decode cX7_offer 16 = .ok (.invokestatic 83, 3) := by decide +kernel
theorem dX7_offer_19 : decode cX7_offer 19 = .ok (.ifCond .eq 12, 3) := by decide +kernel
theorem dX7_offer_22 : decode cX7_offer 22 = .ok (.iload_n 2, 1) := by decide +kernel
theorem dX7_offer_23 : decode cX7_offer 23 = .ok (.aload_n 0, 1) := by decide +kernel
theorem dX7_offer_24 : decode cX7_offer 24 = .ok (.iload_n 1, 1) := by decide +kernel
theorem dX7_offer_25 : decode cX7_offer 25 = .ok (.invokevirtual 86, 3) := by decide +kernel
theorem dX7_offer_28 : decode cX7_offer 28 = .ok (.if_icmp .ne 5, 3) := by decide +kernel
theorem dX7_offer_31 : decode cX7_offer 31 = .ok (.iconst 0, 1) := by decide +kernel
theorem dX7_offer_32 : decode cX7_offer 32 = .ok (.ireturn, 1) := by decide +kernel
theorem dX7_offer_33 : decode cX7_offer 33 = .ok (.aload_n 0, 1) := by decide +kernel
theorem dX7_offer_34 : decode cX7_offer 34 = .ok (.invokevirtual 90, 3) := by decide +kernel
theorem dX7_offer_37 : decode cX7_offer 37 = .ok (.iload_n 1, 1) := by decide +kernel
theorem dX7_offer_38 : decode cX7_offer 38 = .ok (.iload_n 2, 1) := by decide +kernel
theorem dX7_offer_39 : decode cX7_offer 39 = .ok (.iload_n 3, 1) := by decide +kernel
theorem dX7_offer_40 : decode cX7_offer 40 = .ok (.invokevirtual 94, 3) := by decide +kernel
theorem dX7_offer_43 : decode cX7_offer 43 = .ok (.iconst 1, 1) := by decide +kernel
theorem dX7_offer_44 : decode cX7_offer 44 = .ok (.ireturn, 1) := by decide +kernel
theorem dX7_withdraw_0 : decode cX7_withdraw 0 = .ok (.aload_n 0, 1) := by decide +kernel
theorem dX7_withdraw_1 : decode cX7_withdraw 1 = .ok (.iload_n 1, 1) := by decide +kernel
theorem dX7_withdraw_2 : decode cX7_withdraw 2 = .ok (.invokevirtual 80, 3) := by decide +kernel
theorem dX7_withdraw_5 : decode cX7_withdraw 5 = .ok (.ifCond .eq 14, 3) := by decide +kernel
theorem dX7_withdraw_8 : decode cX7_withdraw 8 = .ok (.aload_n 0, 1) := by decide +kernel
theorem dX7_withdraw_9 : decode cX7_withdraw 9 = .ok (.invokevirtual 90, 3) := by decide +kernel
theorem dX7_withdraw_12 : decode cX7_withdraw 12 = .ok (.iload_n 1, 1) := by decide +kernel
theorem dX7_withdraw_13 : decode cX7_withdraw 13 = .ok (.invokevirtual 98, 3) := by decide +kernel
theorem dX7_withdraw_16 : decode cX7_withdraw 16 = .ok (.ifCond .ne 5, 3) := by decide +kernel
theorem dX7_withdraw_19 : decode cX7_withdraw 19 = .ok (.iconst 0, 1) := by decide +kernel
theorem dX7_withdraw_20 : decode cX7_withdraw 20 = .ok (.ireturn, 1) := by decide +kernel
theorem dX7_withdraw_21 : decode cX7_withdraw 21 = .ok (.aload_n 0, 1) := by decide +kernel
theorem dX7_withdraw_22 : decode cX7_withdraw 22 = .ok (.invokevirtual 90, 3) := by decide +kernel
theorem dX7_withdraw_25 : decode cX7_withdraw 25 = .ok (.iload_n 1, 1) := by decide +kernel
theorem dX7_withdraw_26 : decode cX7_withdraw 26 = .ok (.invokevirtual 101, 3) := by decide +kernel
theorem dX7_withdraw_29 : decode cX7_withdraw 29 = .ok (.iconst 1, 1) := by decide +kernel
theorem dX7_withdraw_30 : decode cX7_withdraw 30 = .ok (.ireturn, 1) := by decide +kernel
theorem dX7_need_0 : decode cX7_need 0 = .ok (.aload_n 0, 1) := by decide +kernel
theorem dX7_need_1 : decode cX7_need 1 = .ok (.invokevirtual 72, 3) := by decide +kernel
theorem dX7_need_4 : decode cX7_need 4 = .ok (.ifCond .ne 24, 3) := by decide +kernel
theorem dX7_need_7 : decode cX7_need 7 = .ok (.aload_n 0, 1) := by decide +kernel
theorem dX7_need_8 : decode cX7_need 8 = .ok (.iload_n 1, 1) := by decide +kernel
theorem dX7_need_9 : decode cX7_need 9 = .ok (.invokevirtual 80, 3) := by decide +kernel
theorem dX7_need_12 : decode cX7_need 12 = .ok (.ifCond .eq 16, 3) := by decide +kernel
theorem dX7_need_15 : decode cX7_need 15 = .ok (.aload_n 0, 1) := by decide +kernel
theorem dX7_need_16 : decode cX7_need 16 = .ok (.iload_n 3, 1) := by decide +kernel
theorem dX7_need_17 : decode cX7_need 17 = .ok (.invokevirtual 80, 3) := by decide +kernel
theorem dX7_need_20 : decode cX7_need 20 = .ok (.ifCond .eq 8, 3) := by decide +kernel
theorem dX7_need_23 : decode cX7_need 23 = .ok (.iload_n 1, 1) := by decide +kernel
theorem dX7_need_24 : decode cX7_need 24 = .ok (.iload_n 3, 1) := by decide +kernel
theorem dX7_need_25 : decode cX7_need 25 = .ok (.if_icmp .ne 5, 3) := by decide +kernel
theorem dX7_need_28 : decode cX7_need 28 = .ok (.iconst (-1), 1) := by decide +kernel
theorem dX7_need_29 : decode cX7_need 29 = .ok (.ireturn, 1) := by decide +kernel
theorem dX7_need_30 : decode cX7_need 30 = .ok (.iload_n 2, 1) := by decide +kernel
theorem dX7_need_31 : decode cX7_need 31 = .ok (.invokestatic 76, 3) := by decide +kernel
theorem dX7_need_34 : decode cX7_need 34 = .ok (.ifCond .eq 26, 3) := by decide +kernel
theorem dX7_need_37 : decode cX7_need 37 = .ok (.iload 4, 2) := by decide +kernel
theorem dX7_need_39 : decode cX7_need 39 = .ok (.invokestatic 76, 3) := by decide +kernel
theorem dX7_need_42 : decode cX7_need 42 = .ok (.ifCond .eq 18, 3) := by decide +kernel
theorem dX7_need_45 : decode cX7_need 45 = .ok (.iload 5, 2) := by decide +kernel
theorem dX7_need_47 : decode cX7_need 47 = .ok (.invokestatic 76, 3) := by decide +kernel
theorem dX7_need_50 : decode cX7_need 50 = .ok (.ifCond .eq 10, 3) := by decide +kernel
theorem dX7_need_53 : decode cX7_need 53 = .ok (.iload 4, 2) := by decide +kernel
theorem dX7_need_55 : decode cX7_need 55 = .ok (.iload 5, 2) := by decide +kernel
theorem dX7_need_57 : decode cX7_need 57 = .ok (.if_icmp .le 5, 3) := by decide +kernel
theorem dX7_need_60 : decode cX7_need 60 = .ok (.iconst (-1), 1) := by decide +kernel
theorem dX7_need_61 : decode cX7_need 61 = .ok (.ireturn, 1) := by decide +kernel
theorem dX7_need_62 : decode cX7_need 62 = .ok (.aload_n 0, 1) := by decide +kernel
theorem dX7_need_63 : decode cX7_need 63 = .ok (.getfield 26, 3) := by decide +kernel
theorem dX7_need_66 : decode cX7_need 66 = .ok (.iload_n 1, 1) := by decide +kernel
theorem dX7_need_67 : decode cX7_need 67 = .ok (.iload_n 2, 1) := by decide +kernel
theorem dX7_need_68 : decode cX7_need 68 = .ok (.iload_n 3, 1) := by decide +kernel
theorem dX7_need_69 : decode cX7_need 69 = .ok (.iload 4, 2) := by decide +kernel
theorem dX7_need_71 : decode cX7_need 71 = .ok (.iload 5, 2) := by decide +kernel
theorem dX7_need_73 : decode cX7_need 73 = .ok (.invokevirtual 105, 3) := by decide +kernel
theorem dX7_need_76 : decode cX7_need 76 = .ok (.ireturn, 1) := by decide +kernel
theorem dX7_test_0 : decode cX7_test 0 = .ok (.aload_n 0, 1) := by decide +kernel
theorem dX7_test_1 : decode cX7_test 1 = .ok (.invokevirtual 72, 3) := by decide +kernel
theorem dX7_test_4 : decode cX7_test 4 = .ok (.ifCond .ne 15, 3) := by decide +kernel
theorem dX7_test_7 : decode cX7_test 7 = .ok (.iload_n 1, 1) := by decide +kernel
theorem dX7_test_8 : decode cX7_test 8 = .ok (.ifCond .eq 11, 3) := by decide +kernel
theorem dX7_test_11 : decode cX7_test 11 = .ok (.aload_n 0, 1) := by decide +kernel
theorem dX7_test_12 : decode cX7_test 12 = .ok (.iload_n 1, 1) := by decide +kernel
theorem dX7_test_13 : decode cX7_test 13 = .ok (.invokevirtual 109, 3) := by decide +kernel
theorem dX7_test_16 : decode cX7_test 16 = .ok (.ifCond .ne 5, 3) := by decide +kernel
theorem dX7_test_19 : decode cX7_test 19 = .ok (.iconst (-1), 1) := by decide +kernel
theorem dX7_test_20 : decode cX7_test 20 = .ok (.ireturn, 1) := by decide +kernel
theorem dX7_test_21 : decode cX7_test 21 = .ok (.aload_n 0, 1) := by decide +kernel
theorem dX7_test_22 : decode cX7_test 22 = .ok (.getfield 33, 3) := by decide +kernel
theorem dX7_test_25 : decode cX7_test 25 = .ok (.iload_n 1, 1) := by decide +kernel
theorem dX7_test_26 : decode cX7_test 26 = .ok (.invokevirtual 112, 3) := by decide +kernel
theorem dX7_test_29 : decode cX7_test 29 = .ok (.ireturn, 1) := by decide +kernel
theorem dX7_fits_0 : decode cX7_fits 0 = .ok (.iload_n 1, 1) := by decide +kernel
theorem dX7_fits_1 : decode cX7_fits 1 = .ok (.aload_n 0, 1) := by decide +kernel
theorem dX7_fits_2 : decode cX7_fits 2 = .ok (.getfield 16, 3) := by decide +kernel
theorem dX7_fits_5 : decode cX7_fits 5 = .ok (.invokevirtual 114, 3) := by decide +kernel
theorem dX7_fits_8 : decode cX7_fits 8 = .ok (.iconst (-1), 1) := by decide +kernel
theorem dX7_fits_9 : decode cX7_fits 9 = .ok (.ixor, 1) := by decide +kernel
theorem dX7_fits_10 : decode cX7_fits 10 = .ok (.iand, 1) := by decide +kernel
theorem dX7_fits_11 : decode cX7_fits 11 = .ok (.ifCond .eq 5, 3) := by decide +kernel
theorem dX7_fits_14 : decode cX7_fits 14 = .ok (.iconst (-1), 1) := by decide +kernel
theorem dX7_fits_15 : decode cX7_fits 15 = .ok (.ireturn, 1) := by decide +kernel
theorem dX7_fits_16 : decode cX7_fits 16 = .ok (.aload_n 0, 1) := by decide +kernel
theorem dX7_fits_17 : decode cX7_fits 17 = .ok (.iload_n 1, 1) := by decide +kernel
theorem dX7_fits_18 : decode cX7_fits 18 = .ok (.invokevirtual 118, 3) := by decide +kernel
theorem dX7_fits_21 : decode cX7_fits 21 = .ok (.iconst (-1), 1) := by decide +kernel
theorem dX7_fits_22 : decode cX7_fits 22 = .ok (.if_icmp .ne 7, 3) := by decide +kernel
theorem dX7_fits_25 : decode cX7_fits 25 = .ok (.iconst 1, 1) := by decide +kernel
theorem dX7_fits_26 : decode cX7_fits 26 = .ok (.goto 4, 3) := by decide +kernel
theorem dX7_fits_29 : decode cX7_fits 29 = .ok (.iconst 0, 1) := by decide +kernel
theorem dX7_fits_30 : decode cX7_fits 30 = .ok (.ireturn, 1) := by decide +kernel
theorem dX7_red_0 : decode cX7_red 0 = .ok (.aload_n 0, 1) := by decide +kernel
theorem dX7_red_1 : decode cX7_red 1 = .ok (.iload_n 1, 1) := by decide +kernel
theorem dX7_red_2 : decode cX7_red 2 = .ok (.invokevirtual 109, 3) := by decide +kernel
theorem dX7_red_5 : decode cX7_red 5 = .ok (.ifCond .eq 14, 3) := by decide +kernel
theorem dX7_red_8 : decode cX7_red 8 = .ok (.aload_n 0, 1) := by decide +kernel
theorem dX7_red_9 : decode cX7_red 9 = .ok (.getfield 33, 3) := by decide +kernel
theorem dX7_red_12 : decode cX7_red 12 = .ok (.iload_n 1, 1) := by decide +kernel
theorem dX7_red_13 : decode cX7_red 13 = .ok (.invokevirtual 121, 3) := by decide +kernel
theorem dX7_red_16 : decode cX7_red 16 = .ok (.goto 4, 3) := by decide +kernel
theorem dX7_red_19 : decode cX7_red 19 = .ok (.iconst (-1), 1) := by decide +kernel
theorem dX7_red_20 : decode cX7_red 20 = .ok (.ireturn, 1) := by decide +kernel
theorem dX7_cut_0 : decode cX7_cut 0 = .ok (.aload_n 0, 1) := by decide +kernel
theorem dX7_cut_1 : decode cX7_cut 1 = .ok (.invokevirtual 72, 3) := by decide +kernel
theorem dX7_cut_4 : decode cX7_cut 4 = .ok (.ifCond .eq 5, 3) := by decide +kernel
theorem dX7_cut_7 : decode cX7_cut 7 = .ok (.iconst (-1), 1) := by decide +kernel
theorem dX7_cut_8 : decode cX7_cut 8 = .ok (.ireturn, 1) := by decide +kernel
theorem dX7_cut_9 : decode cX7_cut 9 = .ok (.aload_n 0, 1) := by decide +kernel
theorem dX7_cut_10 : decode cX7_cut 10 = .ok (.aload_n 0, 1) := by decide +kernel
theorem dX7_cut_11 : decode cX7_cut 11 = .ok (.getfield 16, 3) := by decide +kernel
theorem dX7_cut_14 : decode cX7_cut 14 = .ok (.invokevirtual 114, 3) := by decide +kernel
theorem dX7_cut_17 : decode cX7_cut 17 = .ok (.iconst 0, 1) := by decide +kernel
theorem dX7_cut_18 : decode cX7_cut 18 = .ok (.invokevirtual 124, 3) := by decide +kernel
theorem dX7_cut_21 : decode cX7_cut 21 = .ok (.istore_n 1, 1) := by decide +kernel
theorem dX7_cut_22 : decode cX7_cut 22 = .ok (.iload_n 1, 1) := by decide +kernel
theorem dX7_cut_23 : decode cX7_cut 23 = .ok (.iconst (-1), 1) := by decide +kernel
theorem dX7_cut_24 : decode cX7_cut 24 = .ok (.if_icmp .eq 8, 3) := by decide +kernel
theorem dX7_cut_27 : decode cX7_cut 27 = .ok (.aload_n 0, 1) := by decide +kernel
theorem dX7_cut_28 : decode cX7_cut 28 = .ok (.iload_n 1, 1) := by decide +kernel
theorem dX7_cut_29 : decode cX7_cut 29 = .ok (.invokevirtual 128, 3) := by decide +kernel
theorem dX7_cut_32 : decode cX7_cut 32 = .ok (.iload_n 1, 1) := by decide +kernel
theorem dX7_cut_33 : decode cX7_cut 33 = .ok (.ireturn, 1) := by decide +kernel
theorem dX7_chosen_0 : decode cX7_chosen 0 = .ok (.aload_n 0, 1) := by decide +kernel
theorem dX7_chosen_1 : decode cX7_chosen 1 = .ok (.getfield 69, 3) := by decide +kernel
theorem dX7_chosen_4 : decode cX7_chosen 4 = .ok (.ireturn, 1) := by decide +kernel
theorem dX7_worth_0 : decode cX7_worth 0 = .ok (.aload_n 0, 1) := by decide +kernel
theorem dX7_worth_1 : decode cX7_worth 1 = .ok (.invokevirtual 72, 3) := by decide +kernel
theorem dX7_worth_4 : decode cX7_worth 4 = .ok (.ifCond .eq 17, 3) := by decide +kernel
theorem dX7_worth_7 : decode cX7_worth 7 = .ok (.aload_n 0, 1) := by decide +kernel
theorem dX7_worth_8 : decode cX7_worth 8 = .ok (.getfield 16, 3) := by decide +kernel
theorem dX7_worth_11 : decode cX7_worth 11 = .ok (.aload_n 0, 1) := by decide +kernel
theorem dX7_worth_12 : decode cX7_worth 12 = .ok (.getfield 69, 3) := by decide +kernel
theorem dX7_worth_15 : decode cX7_worth 15 = .ok (.invokevirtual 131, 3) := by decide +kernel
theorem dX7_worth_18 : decode cX7_worth 18 = .ok (.goto 4, 3) := by decide +kernel
theorem dX7_worth_21 : decode cX7_worth 21 = .ok (.iconst (-1), 1) := by decide +kernel
theorem dX7_worth_22 : decode cX7_worth 22 = .ok (.ireturn, 1) := by decide +kernel
theorem dX7_why_0 : decode cX7_why 0 = .ok (.aload_n 0, 1) := by decide +kernel
theorem dX7_why_1 : decode cX7_why 1 = .ok (.invokevirtual 72, 3) := by decide +kernel
theorem dX7_why_4 : decode cX7_why 4 = .ok (.ifCond .eq 30, 3) := by decide +kernel
theorem dX7_why_7 : decode cX7_why 7 = .ok (.aload_n 0, 1) := by decide +kernel
theorem dX7_why_8 : decode cX7_why 8 = .ok (.iload_n 1, 1) := by decide +kernel
theorem dX7_why_9 : decode cX7_why 9 = .ok (.invokevirtual 80, 3) := by decide +kernel
theorem dX7_why_12 : decode cX7_why 12 = .ok (.ifCond .eq 22, 3) := by decide +kernel
theorem dX7_why_15 : decode cX7_why 15 = .ok (.aload_n 0, 1) := by decide +kernel
theorem dX7_why_16 : decode cX7_why 16 = .ok (.getfield 16, 3) := by decide +kernel
theorem dX7_why_19 : decode cX7_why 19 = .ok (.iload_n 1, 1) := by decide +kernel
theorem dX7_why_20 : decode cX7_why 20 = .ok (.invokevirtual 98, 3) := by decide +kernel
theorem dX7_why_23 : decode cX7_why 23 = .ok (.ifCond .eq 11, 3) := by decide +kernel
theorem dX7_why_26 : decode cX7_why 26 = .ok (.aload_n 0, 1) := by decide +kernel
theorem dX7_why_27 : decode cX7_why 27 = .ok (.iload_n 1, 1) := by decide +kernel
theorem dX7_why_28 : decode cX7_why 28 = .ok (.invokevirtual 134, 3) := by decide +kernel
theorem dX7_why_31 : decode cX7_why 31 = .ok (.ifCond .eq 5, 3) := by decide +kernel
theorem dX7_why_34 : decode cX7_why 34 = .ok (.iconst (-1), 1) := by decide +kernel
theorem dX7_why_35 : decode cX7_why 35 = .ok (.ireturn, 1) := by decide +kernel
theorem dX7_why_36 : decode cX7_why 36 = .ok (.aload_n 0, 1) := by decide +kernel
theorem dX7_why_37 : decode cX7_why 37 = .ok (.getfield 69, 3) := by decide +kernel
theorem dX7_why_40 : decode cX7_why 40 = .ok (.iconst 1, 1) := by decide +kernel
theorem dX7_why_41 : decode cX7_why 41 = .ok (.iload_n 1, 1) := by decide +kernel
theorem dX7_why_42 : decode cX7_why 42 = .ok (.ishl, 1) := by decide +kernel
theorem dX7_why_43 : decode cX7_why 43 = .ok (.ior, 1) := by decide +kernel
theorem dX7_why_44 : decode cX7_why 44 = .ok (.istore_n 2, 1) := by decide +kernel
theorem dX7_why_45 : decode cX7_why 45 = .ok (.aload_n 0, 1) := by decide +kernel
theorem dX7_why_46 : decode cX7_why 46 = .ok (.iload_n 2, 1) := by decide +kernel
theorem dX7_why_47 : decode cX7_why 47 = .ok (.invokevirtual 118, 3) := by decide +kernel
theorem dX7_why_50 : decode cX7_why 50 = .ok (.istore_n 3, 1) := by decide +kernel
theorem dX7_why_51 : decode cX7_why 51 = .ok (.iload_n 3, 1) := by decide +kernel
theorem dX7_why_52 : decode cX7_why 52 = .ok (.iconst (-1), 1) := by decide +kernel
theorem dX7_why_53 : decode cX7_why 53 = .ok (.if_icmp .eq 8, 3) := by decide +kernel
theorem dX7_why_56 : decode cX7_why 56 = .ok (.bipush 100, 2) := by decide +kernel
theorem dX7_why_58 : decode cX7_why 58 = .ok (.iload_n 3, 1) := by decide +kernel
theorem dX7_why_59 : decode cX7_why 59 = .ok (.iadd, 1) := by decide +kernel
theorem dX7_why_60 : decode cX7_why 60 = .ok (.ireturn, 1) := by decide +kernel
theorem dX7_why_61 : decode cX7_why 61 = .ok (.aload_n 0, 1) := by decide +kernel
theorem dX7_why_62 : decode cX7_why 62 = .ok (.getfield 33, 3) := by decide +kernel
theorem dX7_why_65 : decode cX7_why 65 = .ok (.iload_n 2, 1) := by decide +kernel
theorem dX7_why_66 : decode cX7_why 66 = .ok (.invokevirtual 121, 3) := by decide +kernel
theorem dX7_why_69 : decode cX7_why 69 = .ok (.istore 4, 2) := by decide +kernel
theorem dX7_why_71 : decode cX7_why 71 = .ok (.iload 4, 2) := by decide +kernel
theorem dX7_why_73 : decode cX7_why 73 = .ok (.iconst (-1), 1) := by decide +kernel
theorem dX7_why_74 : decode cX7_why 74 = .ok (.if_icmp .eq 12, 3) := by decide +kernel
theorem dX7_why_77 : decode cX7_why 77 = .ok (.sipush 200, 3) := by decide +kernel
theorem dX7_why_80 : decode cX7_why 80 = .ok (.iload 4, 2) := by decide +kernel
theorem dX7_why_82 : decode cX7_why 82 = .ok (.iadd, 1) := by decide +kernel
theorem dX7_why_83 : decode cX7_why 83 = .ok (.goto 4, 3) := by decide +kernel
theorem dX7_why_86 : decode cX7_why 86 = .ok (.iconst 0, 1) := by decide +kernel
theorem dX7_why_87 : decode cX7_why 87 = .ok (.ireturn, 1) := by decide +kernel
theorem dX7_fix_0 : decode cX7_fix 0 = .ok (.aload_n 0, 1) := by decide +kernel
theorem dX7_fix_1 : decode cX7_fix 1 = .ok (.iload_n 1, 1) := by decide +kernel
theorem dX7_fix_2 : decode cX7_fix 2 = .ok (.iload_n 2, 1) := by decide +kernel
theorem dX7_fix_3 : decode cX7_fix 3 = .ok (.iload_n 3, 1) := by decide +kernel
theorem dX7_fix_4 : decode cX7_fix 4 = .ok (.invokevirtual 137, 3) := by decide +kernel
theorem dX7_fix_7 : decode cX7_fix 7 = .ok (.ifCond .ne 5, 3) := by decide +kernel
theorem dX7_fix_10 : decode cX7_fix 10 = .ok (.iconst (-1), 1) := by decide +kernel
theorem dX7_fix_11 : decode cX7_fix 11 = .ok (.ireturn, 1) := by decide +kernel
theorem dX7_fix_12 : decode cX7_fix 12 = .ok (.aload_n 0, 1) := by decide +kernel
theorem dX7_fix_13 : decode cX7_fix 13 = .ok (.getfield 16, 3) := by decide +kernel
theorem dX7_fix_16 : decode cX7_fix 16 = .ok (.iload_n 1, 1) := by decide +kernel
theorem dX7_fix_17 : decode cX7_fix 17 = .ok (.invokevirtual 141, 3) := by decide +kernel
theorem dX7_fix_20 : decode cX7_fix 20 = .ok (.istore 4, 2) := by decide +kernel
theorem dX7_fix_22 : decode cX7_fix 22 = .ok (.aload_n 0, 1) := by decide +kernel
theorem dX7_fix_23 : decode cX7_fix 23 = .ok (.getfield 16, 3) := by decide +kernel
theorem dX7_fix_26 : decode cX7_fix 26 = .ok (.iload_n 1, 1) := by decide +kernel
theorem dX7_fix_27 : decode cX7_fix 27 = .ok (.invokevirtual 144, 3) := by decide +kernel
theorem dX7_fix_30 : decode cX7_fix 30 = .ok (.istore 5, 2) := by decide +kernel
theorem dX7_fix_32 : decode cX7_fix 32 = .ok (.aload_n 0, 1) := by decide +kernel
theorem dX7_fix_33 : decode cX7_fix 33 = .ok (.getfield 16, 3) := by decide +kernel
theorem dX7_fix_36 : decode cX7_fix 36 = .ok (.iload_n 1, 1) := by decide +kernel
theorem dX7_fix_37 : decode cX7_fix 37 = .ok (.iload_n 2, 1) := by decide +kernel
theorem dX7_fix_38 : decode cX7_fix 38 = .ok (.iload_n 3, 1) := by decide +kernel
theorem dX7_fix_39 : decode cX7_fix 39 = .ok (.invokevirtual 94, 3) := by decide +kernel
theorem dX7_fix_42 : decode cX7_fix 42 = .ok (.aload_n 0, 1) := by decide +kernel
theorem dX7_fix_43 : decode cX7_fix 43 = .ok (.getfield 26, 3) := by decide +kernel
theorem dX7_fix_46 : decode cX7_fix 46 = .ok (.aload_n 0, 1) := by decide +kernel
theorem dX7_fix_47 : decode cX7_fix 47 = .ok (.getfield 9, 3) := by decide +kernel
theorem dX7_fix_50 : decode cX7_fix 50 = .ok (.aload_n 0, 1) := by decide +kernel
theorem dX7_fix_51 : decode cX7_fix 51 = .ok (.getfield 16, 3) := by decide +kernel
theorem dX7_fix_54 : decode cX7_fix 54 = .ok (.invokevirtual 147, 3) := by decide +kernel
theorem dX7_fix_57 : decode cX7_fix 57 = .ok (.aload_n 0, 1) := by decide +kernel
theorem dX7_fix_58 : decode cX7_fix 58 = .ok (.getfield 69, 3) := by decide +kernel
theorem dX7_fix_61 : decode cX7_fix 61 = .ok (.iconst 1, 1) := by decide +kernel
theorem dX7_fix_62 : decode cX7_fix 62 = .ok (.iload_n 1, 1) := by decide +kernel
theorem dX7_fix_63 : decode cX7_fix 63 = .ok (.ishl, 1) := by decide +kernel
theorem dX7_fix_64 : decode cX7_fix 64 = .ok (.ior, 1) := by decide +kernel
theorem dX7_fix_65 : decode cX7_fix 65 = .ok (.istore 6, 2) := by decide +kernel
theorem dX7_fix_67 : decode cX7_fix 67 = .ok (.aload_n 0, 1) := by decide +kernel
theorem dX7_fix_68 : decode cX7_fix 68 = .ok (.iload 6, 2) := by decide +kernel
theorem dX7_fix_70 : decode cX7_fix 70 = .ok (.invokevirtual 151, 3) := by decide +kernel
theorem dX7_fix_73 : decode cX7_fix 73 = .ok (.ifCond .eq 11, 3) := by decide +kernel
theorem dX7_fix_76 : decode cX7_fix 76 = .ok (.aload_n 0, 1) := by decide +kernel
theorem dX7_fix_77 : decode cX7_fix 77 = .ok (.iload 6, 2) := by decide +kernel
theorem dX7_fix_79 : decode cX7_fix 79 = .ok (.invokevirtual 128, 3) := by decide +kernel
theorem dX7_fix_82 : decode cX7_fix 82 = .ok (.iconst 1, 1) := by decide +kernel
theorem dX7_fix_83 : decode cX7_fix 83 = .ok (.ireturn, 1) := by decide +kernel
theorem dX7_fix_84 : decode cX7_fix 84 = .ok (.aload_n 0, 1) := by decide +kernel
theorem dX7_fix_85 : decode cX7_fix 85 = .ok (.getfield 16, 3) := by decide +kernel
theorem dX7_fix_88 : decode cX7_fix 88 = .ok (.iload_n 1, 1) := by decide +kernel
theorem dX7_fix_89 : decode cX7_fix 89 = .ok (.iload 4, 2) := by decide +kernel
theorem dX7_fix_91 : decode cX7_fix 91 = .ok (.iload 5, 2) := by decide +kernel
theorem dX7_fix_93 : decode cX7_fix 93 = .ok (.invokevirtual 94, 3) := by decide +kernel
theorem dX7_fix_96 : decode cX7_fix 96 = .ok (.iconst 0, 1) := by decide +kernel
theorem dX7_fix_97 : decode cX7_fix 97 = .ok (.ireturn, 1) := by decide +kernel
theorem dX7_leave_0 : decode cX7_leave 0 = .ok (.aload_n 0, 1) := by decide +kernel
theorem dX7_leave_1 : decode cX7_leave 1 = .ok (.iload_n 1, 1) := by decide +kernel
theorem dX7_leave_2 : decode cX7_leave 2 = .ok (.iload_n 2, 1) := by decide +kernel
theorem dX7_leave_3 : decode cX7_leave 3 = .ok (.iload_n 3, 1) := by decide +kernel
theorem dX7_leave_4 : decode cX7_leave 4 = .ok (.invokevirtual 137, 3) := by decide +kernel
theorem dX7_leave_7 : decode cX7_leave 7 = .ok (.ifCond .ne 5, 3) := by decide +kernel
theorem dX7_leave_10 : decode cX7_leave 10 = .ok (.iconst (-1), 1) := by decide +kernel
theorem dX7_leave_11 : decode cX7_leave 11 = .ok (.ireturn, 1) := by decide +kernel
theorem dX7_leave_12 : decode cX7_leave 12 = .ok (.aload_n 0, 1) := by decide +kernel
theorem dX7_leave_13 : decode cX7_leave 13 = .ok (.getfield 16, 3) := by decide +kernel
theorem dX7_leave_16 : decode cX7_leave 16 = .ok (.iload_n 1, 1) := by decide +kernel
theorem dX7_leave_17 : decode cX7_leave 17 = .ok (.invokevirtual 141, 3) := by decide +kernel
theorem dX7_leave_20 : decode cX7_leave 20 = .ok (.istore 4, 2) := by decide +kernel
theorem dX7_leave_22 : decode cX7_leave 22 = .ok (.aload_n 0, 1) := by decide +kernel
theorem dX7_leave_23 : decode cX7_leave 23 = .ok (.getfield 16, 3) := by decide +kernel
theorem dX7_leave_26 : decode cX7_leave 26 = .ok (.iload_n 1, 1) := by decide +kernel
theorem dX7_leave_27 : decode cX7_leave 27 = .ok (.invokevirtual 144, 3) := by decide +kernel
theorem dX7_leave_30 : decode cX7_leave 30 = .ok (.istore 5, 2) := by decide +kernel
theorem dX7_leave_32 : decode cX7_leave 32 = .ok (.aload_n 0, 1) := by decide +kernel
theorem dX7_leave_33 : decode cX7_leave 33 = .ok (.getfield 16, 3) := by decide +kernel
theorem dX7_leave_36 : decode cX7_leave 36 = .ok (.iload_n 1, 1) := by decide +kernel
theorem dX7_leave_37 : decode cX7_leave 37 = .ok (.iload_n 2, 1) := by decide +kernel
theorem dX7_leave_38 : decode cX7_leave 38 = .ok (.iload_n 3, 1) := by decide +kernel
theorem dX7_leave_39 : decode cX7_leave 39 = .ok (.invokevirtual 94, 3) := by decide +kernel
theorem dX7_leave_42 : decode cX7_leave 42 = .ok (.aload_n 0, 1) := by decide +kernel
theorem dX7_leave_43 : decode cX7_leave 43 = .ok (.aload_n 0, 1) := by decide +kernel
theorem dX7_leave_44 : decode cX7_leave 44 = .ok (.getfield 69, 3) := by decide +kernel
theorem dX7_leave_47 : decode cX7_leave 47 = .ok (.iconst 1, 1) := by decide +kernel
theorem dX7_leave_48 : decode cX7_leave 48 = .ok (.iload_n 1, 1) := by decide +kernel
theorem dX7_leave_49 : decode cX7_leave 49 = .ok (.ishl, 1) := by decide +kernel
theorem dX7_leave_50 : decode cX7_leave 50 = .ok (.ior, 1) := by decide +kernel
theorem dX7_leave_51 : decode cX7_leave 51 = .ok (.iconst 1, 1) := by decide +kernel
theorem dX7_leave_52 : decode cX7_leave 52 = .ok (.iload_n 1, 1) := by decide +kernel
theorem dX7_leave_53 : decode cX7_leave 53 = .ok (.ishl, 1) := by decide +kernel
theorem dX7_leave_54 : decode cX7_leave 54 = .ok (.invokevirtual 124, 3) := by decide +kernel
theorem dX7_leave_57 : decode cX7_leave 57 = .ok (.istore 6, 2) := by decide +kernel
theorem dX7_leave_59 : decode cX7_leave 59 = .ok (.aload_n 0, 1) := by decide +kernel
theorem dX7_leave_60 : decode cX7_leave 60 = .ok (.getfield 16, 3) := by decide +kernel
theorem dX7_leave_63 : decode cX7_leave 63 = .ok (.iload_n 1, 1) := by decide +kernel
theorem dX7_leave_64 : decode cX7_leave 64 = .ok (.iload 4, 2) := by decide +kernel
theorem dX7_leave_66 : decode cX7_leave 66 = .ok (.iload 5, 2) := by decide +kernel
theorem dX7_leave_68 : decode cX7_leave 68 = .ok (.invokevirtual 94, 3) := by decide +kernel
theorem dX7_leave_71 : decode cX7_leave 71 = .ok (.iload 6, 2) := by decide +kernel
theorem dX7_leave_73 : decode cX7_leave 73 = .ok (.iconst (-1), 1) := by decide +kernel
theorem dX7_leave_74 : decode cX7_leave 74 = .ok (.if_icmp .ne 7, 3) := by decide +kernel
theorem dX7_leave_77 : decode cX7_leave 77 = .ok (.iconst (-1), 1) := by decide +kernel
theorem dX7_leave_78 : decode cX7_leave 78 = .ok (.goto 12, 3) := by decide +kernel
theorem dX7_leave_81 : decode cX7_leave 81 = .ok (.aload_n 0, 1) := by decide +kernel
theorem dX7_leave_82 : decode cX7_leave 82 = .ok (.getfield 69, 3) := by decide +kernel
theorem dX7_leave_85 : decode cX7_leave 85 = .ok (.iload 6, 2) := by decide +kernel
theorem dX7_leave_87 : decode cX7_leave 87 = .ok (.iconst (-1), 1) := by decide +kernel
theorem dX7_leave_88 : decode cX7_leave 88 = .ok (.ixor, 1) := by decide +kernel
theorem dX7_leave_89 : decode cX7_leave 89 = .ok (.iand, 1) := by decide +kernel
theorem dX7_leave_90 : decode cX7_leave 90 = .ok (.ireturn, 1) := by decide +kernel
theorem dX7_order_0 : decode cX7_order 0 = .ok (.aload_n 0, 1) := by decide +kernel
theorem dX7_order_1 : decode cX7_order 1 = .ok (.invokevirtual 72, 3) := by decide +kernel
theorem dX7_order_4 : decode cX7_order 4 = .ok (.ifCond .eq 14, 3) := by decide +kernel
theorem dX7_order_7 : decode cX7_order 7 = .ok (.aload_n 0, 1) := by decide +kernel
theorem dX7_order_8 : decode cX7_order 8 = .ok (.getfield 40, 3) := by decide +kernel
theorem dX7_order_11 : decode cX7_order 11 = .ok (.iload_n 1, 1) := by decide +kernel
theorem dX7_order_12 : decode cX7_order 12 = .ok (.invokevirtual 154, 3) := by decide +kernel
theorem dX7_order_15 : decode cX7_order 15 = .ok (.goto 4, 3) := by decide +kernel
theorem dX7_order_18 : decode cX7_order 18 = .ok (.iconst (-1), 1) := by decide +kernel
theorem dX7_order_19 : decode cX7_order 19 = .ok (.ireturn, 1) := by decide +kernel
theorem dX7_send_0 : decode cX7_send 0 = .ok (.aload_n 0, 1) := by decide +kernel
theorem dX7_send_1 : decode cX7_send 1 = .ok (.invokevirtual 72, 3) := by decide +kernel
theorem dX7_send_4 : decode cX7_send 4 = .ok (.ifCond .eq 25, 3) := by decide +kernel
theorem dX7_send_7 : decode cX7_send 7 = .ok (.aload_n 0, 1) := by decide +kernel
theorem dX7_send_8 : decode cX7_send 8 = .ok (.getfield 40, 3) := by decide +kernel
theorem dX7_send_11 : decode cX7_send 11 = .ok (.invokevirtual 157, 3) := by decide +kernel
theorem dX7_send_14 : decode cX7_send 14 = .ok (.ifCond .eq 15, 3) := by decide +kernel
theorem dX7_send_17 : decode cX7_send 17 = .ok (.aload_n 0, 1) := by decide +kernel
theorem dX7_send_18 : decode cX7_send 18 = .ok (.getfield 61, 3) := by decide +kernel
theorem dX7_send_21 : decode cX7_send 21 = .ok (.invokevirtual 160, 3) := by decide +kernel
theorem dX7_send_24 : decode cX7_send 24 = .ok (.bipush 60, 2) := by decide +kernel
theorem dX7_send_26 : decode cX7_send 26 = .ok (.if_icmp .lt 5, 3) := by decide +kernel
theorem dX7_send_29 : decode cX7_send 29 = .ok (.iconst (-1), 1) := by decide +kernel
theorem dX7_send_30 : decode cX7_send 30 = .ok (.ireturn, 1) := by decide +kernel
theorem dX7_send_31 : decode cX7_send 31 = .ok (.aload_n 0, 1) := by decide +kernel
theorem dX7_send_32 : decode cX7_send 32 = .ok (.getfield 9, 3) := by decide +kernel
theorem dX7_send_35 : decode cX7_send 35 = .ok (.aload_n 0, 1) := by decide +kernel
theorem dX7_send_36 : decode cX7_send 36 = .ok (.getfield 65, 3) := by decide +kernel
theorem dX7_send_39 : decode cX7_send 39 = .ok (.invokestatic 163, 3) := by decide +kernel
theorem dX7_send_42 : decode cX7_send 42 = .ok (.astore_n 1, 1) := by decide +kernel
theorem dX7_send_43 : decode cX7_send 43 = .ok (.iconst 0, 1) := by decide +kernel
theorem dX7_send_44 : decode cX7_send 44 = .ok (.istore_n 2, 1) := by decide +kernel
theorem dX7_send_45 : decode cX7_send 45 = .ok (.iload_n 2, 1) := by decide +kernel
theorem dX7_send_46 : decode cX7_send 46 = .ok (.aload_n 0, 1) := by decide +kernel
theorem dX7_send_47 : decode cX7_send 47 = .ok (.getfield 65, 3) := by decide +kernel
theorem dX7_send_50 : decode cX7_send 50 = .ok (.if_icmp .ge 39, 3) := by decide +kernel
theorem dX7_send_53 : decode cX7_send 53 = .ok (.aload_n 0, 1) := by decide +kernel
theorem dX7_send_54 : decode cX7_send 54 = .ok (.iload_n 2, 1) := by decide +kernel
theorem dX7_send_55 : decode cX7_send 55 = .ok (.invokevirtual 134, 3) := by decide +kernel
theorem dX7_send_58 : decode cX7_send 58 = .ok (.ifCond .eq 25, 3) := by decide +kernel
theorem dX7_send_61 : decode cX7_send 61 = .ok (.aload_n 0, 1) := by decide +kernel
theorem dX7_send_62 : decode cX7_send 62 = .ok (.getfield 9, 3) := by decide +kernel
theorem dX7_send_65 : decode cX7_send 65 = .ok (.iload_n 2, 1) := by decide +kernel
theorem dX7_send_66 : decode cX7_send 66 = .ok (.aload_n 0, 1) := by decide +kernel
theorem dX7_send_67 : decode cX7_send 67 = .ok (.getfield 16, 3) := by decide +kernel
theorem dX7_send_70 : decode cX7_send 70 = .ok (.iload_n 2, 1) := by decide +kernel
theorem dX7_send_71 : decode cX7_send 71 = .ok (.invokevirtual 141, 3) := by decide +kernel
theorem dX7_send_74 : decode cX7_send 74 = .ok (.iastore, 1) := by decide +kernel
theorem dX7_send_75 : decode cX7_send 75 = .ok (.aload_n 0, 1) := by decide +kernel
theorem dX7_send_76 : decode cX7_send 76 = .ok (.getfield 16, 3) := by decide +kernel
theorem dX7_send_79 : decode cX7_send 79 = .ok (.iload_n 2, 1) := by decide +kernel
theorem dX7_send_80 : decode cX7_send 80 = .ok (.invokevirtual 101, 3) := by decide +kernel
theorem dX7_send_83 : decode cX7_send 83 = .ok (.iinc 2 1, 3) := by decide +kernel
theorem dX7_send_86 : decode cX7_send 86 = .ok (.goto (-41), 3) := by decide +kernel
theorem dX7_send_89 : decode cX7_send 89 = .ok (.aload_n 0, 1) := by decide +kernel
theorem dX7_send_90 : decode cX7_send 90 = .ok (.getfield 61, 3) := by decide +kernel
theorem dX7_send_93 : decode cX7_send 93 = .ok (.new 169, 3) := by decide +kernel
theorem dX7_send_96 : decode cX7_send 96 = .ok (.dup, 1) := by decide +kernel
theorem dX7_send_97 : decode cX7_send 97 = .ok (.aload_n 1, 1) := by decide +kernel
theorem dX7_send_98 : decode cX7_send 98 = .ok (.aload_n 0, 1) := by decide +kernel
theorem dX7_send_99 : decode cX7_send 99 = .ok (.getfield 9, 3) := by decide +kernel
theorem dX7_send_102 : decode cX7_send 102 = .ok (.aload_n 0, 1) := by decide +kernel
theorem dX7_send_103 : decode cX7_send 103 = .ok (.getfield 65, 3) := by decide +kernel
theorem dX7_send_106 : decode cX7_send 106 = .ok (.invokestatic 163, 3) := by decide +kernel
theorem dX7_send_109 : decode cX7_send 109 = .ok (.aload_n 0, 1) := by decide +kernel
theorem dX7_send_110 : decode cX7_send 110 = .ok (.getfield 69, 3) := by decide +kernel
theorem dX7_send_113 : decode cX7_send 113 = .ok (.invokespecial 171, 3) := by decide +kernel
theorem dX7_send_116 : decode cX7_send 116 = .ok (.invokevirtual 174, 3) := by decide +kernel
theorem dX7_send_119 : decode cX7_send 119 = .ok (.pop, 1) := by decide +kernel
theorem dX7_send_120 : decode cX7_send 120 = .ok (.aload_n 0, 1) := by decide +kernel
theorem dX7_send_121 : decode cX7_send 121 = .ok (.invokevirtual 177, 3) := by decide +kernel
theorem dX7_send_124 : decode cX7_send 124 = .ok (.aload_n 0, 1) := by decide +kernel
theorem dX7_send_125 : decode cX7_send 125 = .ok (.getfield 61, 3) := by decide +kernel
theorem dX7_send_128 : decode cX7_send 128 = .ok (.invokevirtual 160, 3) := by decide +kernel
theorem dX7_send_131 : decode cX7_send 131 = .ok (.iconst 1, 1) := by decide +kernel
theorem dX7_send_132 : decode cX7_send 132 = .ok (.isub, 1) := by decide +kernel
theorem dX7_send_133 : decode cX7_send 133 = .ok (.ireturn, 1) := by decide +kernel
theorem dX7_giveUp_0 : decode cX7_giveUp 0 = .ok (.aload_n 0, 1) := by decide +kernel
theorem dX7_giveUp_1 : decode cX7_giveUp 1 = .ok (.invokevirtual 72, 3) := by decide +kernel
theorem dX7_giveUp_4 : decode cX7_giveUp 4 = .ok (.ifCond .ne 5, 3) := by decide +kernel
theorem dX7_giveUp_7 : decode cX7_giveUp 7 = .ok (.iconst 0, 1) := by decide +kernel
theorem dX7_giveUp_8 : decode cX7_giveUp 8 = .ok (.ireturn, 1) := by decide +kernel
theorem dX7_giveUp_9 : decode cX7_giveUp 9 = .ok (.aload_n 0, 1) := by decide +kernel
theorem dX7_giveUp_10 : decode cX7_giveUp 10 = .ok (.invokevirtual 177, 3) := by decide +kernel
theorem dX7_giveUp_13 : decode cX7_giveUp 13 = .ok (.iconst 1, 1) := by decide +kernel
theorem dX7_giveUp_14 : decode cX7_giveUp 14 = .ok (.ireturn, 1) := by decide +kernel
theorem dX7_oneWay_0 : decode cX7_oneWay 0 = .ok (.aload_n 0, 1) := by decide +kernel
theorem dX7_oneWay_1 : decode cX7_oneWay 1 = .ok (.iload_n 1, 1) := by decide +kernel
theorem dX7_oneWay_2 : decode cX7_oneWay 2 = .ok (.invokevirtual 80, 3) := by decide +kernel
theorem dX7_oneWay_5 : decode cX7_oneWay 5 = .ok (.ifCond .eq 10, 3) := by decide +kernel
theorem dX7_oneWay_8 : decode cX7_oneWay 8 = .ok (.iload_n 2, 1) := by decide +kernel
theorem dX7_oneWay_9 : decode cX7_oneWay 9 = .ok (.invokestatic 76, 3) := by decide +kernel
theorem dX7_oneWay_12 : decode cX7_oneWay 12 = .ok (.ifCond .ne 5, 3) := by decide +kernel
theorem dX7_oneWay_15 : decode cX7_oneWay 15 = .ok (.iconst 0, 1) := by decide +kernel
theorem dX7_oneWay_16 : decode cX7_oneWay 16 = .ok (.ireturn, 1) := by decide +kernel
theorem dX7_oneWay_17 : decode cX7_oneWay 17 = .ok (.iload_n 3, 1) := by decide +kernel
theorem dX7_oneWay_18 : decode cX7_oneWay 18 = .ok (.ifCond .eq 15, 3) := by decide +kernel
theorem dX7_oneWay_21 : decode cX7_oneWay 21 = .ok (.aload_n 0, 1) := by decide +kernel
theorem dX7_oneWay_22 : decode cX7_oneWay 22 = .ok (.getfield 54, 3) := by decide +kernel
theorem dX7_oneWay_25 : decode cX7_oneWay 25 = .ok (.iload_n 1, 1) := by decide +kernel
theorem dX7_oneWay_26 : decode cX7_oneWay 26 = .ok (.iload_n 2, 1) := by decide +kernel
theorem dX7_oneWay_27 : decode cX7_oneWay 27 = .ok (.invokevirtual 180, 3) := by decide +kernel
theorem dX7_oneWay_30 : decode cX7_oneWay 30 = .ok (.goto 12, 3) := by decide +kernel
theorem dX7_oneWay_33 : decode cX7_oneWay 33 = .ok (.aload_n 0, 1) := by decide +kernel
theorem dX7_oneWay_34 : decode cX7_oneWay 34 = .ok (.getfield 54, 3) := by decide +kernel
theorem dX7_oneWay_37 : decode cX7_oneWay 37 = .ok (.iload_n 1, 1) := by decide +kernel
theorem dX7_oneWay_38 : decode cX7_oneWay 38 = .ok (.iload_n 2, 1) := by decide +kernel
theorem dX7_oneWay_39 : decode cX7_oneWay 39 = .ok (.invokevirtual 183, 3) := by decide +kernel
theorem dX7_oneWay_42 : decode cX7_oneWay 42 = .ok (.ireturn, 1) := by decide +kernel
theorem dX7_back_0 : decode cX7_back 0 = .ok (.aload_n 0, 1) := by decide +kernel
theorem dX7_back_1 : decode cX7_back 1 = .ok (.invokevirtual 186, 3) := by decide +kernel
theorem dX7_back_4 : decode cX7_back 4 = .ok (.istore_n 1, 1) := by decide +kernel
theorem dX7_back_5 : decode cX7_back 5 = .ok (.aload_n 0, 1) := by decide +kernel
theorem dX7_back_6 : decode cX7_back 6 = .ok (.invokevirtual 72, 3) := by decide +kernel
theorem dX7_back_9 : decode cX7_back 9 = .ok (.ifCond .ne 8, 3) := by decide +kernel
theorem dX7_back_12 : decode cX7_back 12 = .ok (.iload_n 1, 1) := by decide +kernel
theorem dX7_back_13 : decode cX7_back 13 = .ok (.iconst (-1), 1) := by decide +kernel
theorem dX7_back_14 : decode cX7_back 14 = .ok (.if_icmp .ne 5, 3) := by decide +kernel
theorem dX7_back_17 : decode cX7_back 17 = .ok (.iconst (-1), 1) := by decide +kernel
theorem dX7_back_18 : decode cX7_back 18 = .ok (.ireturn, 1) := by decide +kernel
theorem dX7_back_19 : decode cX7_back 19 = .ok (.aload_n 0, 1) := by decide +kernel
theorem dX7_back_20 : decode cX7_back 20 = .ok (.getfield 61, 3) := by decide +kernel
theorem dX7_back_23 : decode cX7_back 23 = .ok (.iload_n 1, 1) := by decide +kernel
theorem dX7_back_24 : decode cX7_back 24 = .ok (.invokevirtual 189, 3) := by decide +kernel
theorem dX7_back_27 : decode cX7_back 27 = .ok (.checkcast 169, 3) := by decide +kernel
theorem dX7_back_30 : decode cX7_back 30 = .ok (.astore_n 2, 1) := by decide +kernel
theorem dX7_back_31 : decode cX7_back 31 = .ok (.aload_n 0, 1) := by decide +kernel
theorem dX7_back_32 : decode cX7_back 32 = .ok (.aload_n 2, 1) := by decide +kernel
theorem dX7_back_33 : decode cX7_back 33 = .ok (.getfield 193, 3) := by decide +kernel
theorem dX7_back_36 : decode cX7_back 36 = .ok (.invokevirtual 196, 3) := by decide +kernel
theorem dX7_back_39 : decode cX7_back 39 = .ok (.ifCond .eq 5, 3) := by decide +kernel
theorem dX7_back_42 : decode cX7_back 42 = .ok (.iconst (-1), 1) := by decide +kernel
theorem dX7_back_43 : decode cX7_back 43 = .ok (.ireturn, 1) := by decide +kernel
theorem dX7_back_44 : decode cX7_back 44 = .ok (.aload_n 0, 1) := by decide +kernel
theorem dX7_back_45 : decode cX7_back 45 = .ok (.aload_n 2, 1) := by decide +kernel
theorem dX7_back_46 : decode cX7_back 46 = .ok (.getfield 199, 3) := by decide +kernel
theorem dX7_back_49 : decode cX7_back 49 = .ok (.aload_n 2, 1) := by decide +kernel
theorem dX7_back_50 : decode cX7_back 50 = .ok (.getfield 193, 3) := by decide +kernel
theorem dX7_back_53 : decode cX7_back 53 = .ok (.invokevirtual 202, 3) := by decide +kernel
theorem dX7_back_56 : decode cX7_back 56 = .ok (.aload_n 0, 1) := by decide +kernel
theorem dX7_back_57 : decode cX7_back 57 = .ok (.iconst 0, 1) := by decide +kernel
theorem dX7_back_58 : decode cX7_back 58 = .ok (.invokevirtual 118, 3) := by decide +kernel
theorem dX7_back_61 : decode cX7_back 61 = .ok (.iconst (-1), 1) := by decide +kernel
theorem dX7_back_62 : decode cX7_back 62 = .ok (.if_icmp .eq 17, 3) := by decide +kernel
theorem dX7_back_65 : decode cX7_back 65 = .ok (.aload_n 0, 1) := by decide +kernel
theorem dX7_back_66 : decode cX7_back 66 = .ok (.aload_n 2, 1) := by decide +kernel
theorem dX7_back_67 : decode cX7_back 67 = .ok (.getfield 206, 3) := by decide +kernel
theorem dX7_back_70 : decode cX7_back 70 = .ok (.aload_n 2, 1) := by decide +kernel
theorem dX7_back_71 : decode cX7_back 71 = .ok (.getfield 193, 3) := by decide +kernel
theorem dX7_back_74 : decode cX7_back 74 = .ok (.invokevirtual 202, 3) := by decide +kernel
theorem dX7_back_77 : decode cX7_back 77 = .ok (.iconst (-1), 1) := by decide +kernel
theorem dX7_back_78 : decode cX7_back 78 = .ok (.ireturn, 1) := by decide +kernel
theorem dX7_back_79 : decode cX7_back 79 = .ok (.aload_n 2, 1) := by decide +kernel
theorem dX7_back_80 : decode cX7_back 80 = .ok (.iconst 1, 1) := by decide +kernel
theorem dX7_back_81 : decode cX7_back 81 = .ok (.putfield 209, 3) := by decide +kernel
theorem dX7_back_84 : decode cX7_back 84 = .ok (.aload_n 0, 1) := by decide +kernel
theorem dX7_back_85 : decode cX7_back 85 = .ok (.invokevirtual 213, 3) := by decide +kernel
theorem dX7_back_88 : decode cX7_back 88 = .ok (.iload_n 1, 1) := by decide +kernel
theorem dX7_back_89 : decode cX7_back 89 = .ok (.ireturn, 1) := by decide +kernel
theorem dX7_blame_0 : decode cX7_blame 0 = .ok (.aload_n 0, 1) := by decide +kernel
theorem dX7_blame_1 : decode cX7_blame 1 = .ok (.iload_n 1, 1) := by decide +kernel
theorem dX7_blame_2 : decode cX7_blame 2 = .ok (.invokevirtual 109, 3) := by decide +kernel
theorem dX7_blame_5 : decode cX7_blame 5 = .ok (.ifCond .ne 5, 3) := by decide +kernel
theorem dX7_blame_8 : decode cX7_blame 8 = .ok (.iconst (-1), 1) := by decide +kernel
theorem dX7_blame_9 : decode cX7_blame 9 = .ok (.ireturn, 1) := by decide +kernel
theorem dX7_blame_10 : decode cX7_blame 10 = .ok (.aload_n 0, 1) := by decide +kernel
theorem dX7_blame_11 : decode cX7_blame 11 = .ok (.getfield 47, 3) := by decide +kernel
theorem dX7_blame_14 : decode cX7_blame 14 = .ok (.aload_n 0, 1) := by decide +kernel
theorem dX7_blame_15 : decode cX7_blame 15 = .ok (.getfield 33, 3) := by decide +kernel
theorem dX7_blame_18 : decode cX7_blame 18 = .ok (.iload_n 1, 1) := by decide +kernel
theorem dX7_blame_19 : decode cX7_blame 19 = .ok (.invokevirtual 216, 3) := by decide +kernel
theorem dX7_blame_22 : decode cX7_blame 22 = .ok (.aload_n 0, 1) := by decide +kernel
theorem dX7_blame_23 : decode cX7_blame 23 = .ok (.getfield 47, 3) := by decide +kernel
theorem dX7_blame_26 : decode cX7_blame 26 = .ok (.getfield 220, 3) := by decide +kernel
theorem dX7_blame_29 : decode cX7_blame 29 = .ok (.ireturn, 1) := by decide +kernel
theorem dX7_runs_0 : decode cX7_runs 0 = .ok (.aload_n 0, 1) := by decide +kernel
theorem dX7_runs_1 : decode cX7_runs 1 = .ok (.iload_n 1, 1) := by decide +kernel
theorem dX7_runs_2 : decode cX7_runs 2 = .ok (.invokevirtual 109, 3) := by decide +kernel
theorem dX7_runs_5 : decode cX7_runs 5 = .ok (.ifCond .ne 5, 3) := by decide +kernel
theorem dX7_runs_8 : decode cX7_runs 8 = .ok (.iconst (-1), 1) := by decide +kernel
theorem dX7_runs_9 : decode cX7_runs 9 = .ok (.ireturn, 1) := by decide +kernel
theorem dX7_runs_10 : decode cX7_runs 10 = .ok (.aload_n 0, 1) := by decide +kernel
theorem dX7_runs_11 : decode cX7_runs 11 = .ok (.getfield 47, 3) := by decide +kernel
theorem dX7_runs_14 : decode cX7_runs 14 = .ok (.aload_n 0, 1) := by decide +kernel
theorem dX7_runs_15 : decode cX7_runs 15 = .ok (.getfield 33, 3) := by decide +kernel
theorem dX7_runs_18 : decode cX7_runs 18 = .ok (.iload_n 1, 1) := by decide +kernel
theorem dX7_runs_19 : decode cX7_runs 19 = .ok (.invokevirtual 216, 3) := by decide +kernel
theorem dX7_runs_22 : decode cX7_runs 22 = .ok (.aload_n 0, 1) := by decide +kernel
theorem dX7_runs_23 : decode cX7_runs 23 = .ok (.getfield 47, 3) := by decide +kernel
theorem dX7_runs_26 : decode cX7_runs 26 = .ok (.getfield 223, 3) := by decide +kernel
theorem dX7_runs_29 : decode cX7_runs 29 = .ok (.ireturn, 1) := by decide +kernel
theorem dX7_told_0 : decode cX7_told 0 = .ok (.aload_n 0, 1) := by decide +kernel
theorem dX7_told_1 : decode cX7_told 1 = .ok (.iload_n 1, 1) := by decide +kernel
theorem dX7_told_2 : decode cX7_told 2 = .ok (.invokevirtual 80, 3) := by decide +kernel
theorem dX7_told_5 : decode cX7_told 5 = .ok (.ifCond .ne 5, 3) := by decide +kernel
theorem dX7_told_8 : decode cX7_told 8 = .ok (.iconst (-1), 1) := by decide +kernel
theorem dX7_told_9 : decode cX7_told 9 = .ok (.ireturn, 1) := by decide +kernel
theorem dX7_told_10 : decode cX7_told 10 = .ok (.iload_n 2, 1) := by decide +kernel
theorem dX7_told_11 : decode cX7_told 11 = .ok (.tableswitch 76 0 4 #[33, 40, 49, 58, 67], 33) := by decide +kernel
theorem dX7_told_44 : decode cX7_told 44 = .ok (.aload_n 0, 1) := by decide +kernel
theorem dX7_told_45 : decode cX7_told 45 = .ok (.getfield 9, 3) := by decide +kernel
theorem dX7_told_48 : decode cX7_told 48 = .ok (.iload_n 1, 1) := by decide +kernel
theorem dX7_told_49 : decode cX7_told 49 = .ok (.iaload, 1) := by decide +kernel
theorem dX7_told_50 : decode cX7_told 50 = .ok (.ireturn, 1) := by decide +kernel
theorem dX7_told_51 : decode cX7_told 51 = .ok (.aload_n 0, 1) := by decide +kernel
theorem dX7_told_52 : decode cX7_told 52 = .ok (.getfield 16, 3) := by decide +kernel
theorem dX7_told_55 : decode cX7_told 55 = .ok (.iload_n 1, 1) := by decide +kernel
theorem dX7_told_56 : decode cX7_told 56 = .ok (.invokevirtual 141, 3) := by decide +kernel
theorem dX7_told_59 : decode cX7_told 59 = .ok (.ireturn, 1) := by decide +kernel
theorem dX7_told_60 : decode cX7_told 60 = .ok (.aload_n 0, 1) := by decide +kernel
theorem dX7_told_61 : decode cX7_told 61 = .ok (.getfield 16, 3) := by decide +kernel
theorem dX7_told_64 : decode cX7_told 64 = .ok (.iload_n 1, 1) := by decide +kernel
theorem dX7_told_65 : decode cX7_told 65 = .ok (.invokevirtual 144, 3) := by decide +kernel
theorem dX7_told_68 : decode cX7_told 68 = .ok (.ireturn, 1) := by decide +kernel
theorem dX7_told_69 : decode cX7_told 69 = .ok (.aload_n 0, 1) := by decide +kernel
theorem dX7_told_70 : decode cX7_told 70 = .ok (.getfield 20, 3) := by decide +kernel
theorem dX7_told_73 : decode cX7_told 73 = .ok (.iload_n 1, 1) := by decide +kernel
theorem dX7_told_74 : decode cX7_told 74 = .ok (.invokevirtual 141, 3) := by decide +kernel
theorem dX7_told_77 : decode cX7_told 77 = .ok (.ireturn, 1) := by decide +kernel
theorem dX7_told_78 : decode cX7_told 78 = .ok (.aload_n 0, 1) := by decide +kernel
theorem dX7_told_79 : decode cX7_told 79 = .ok (.getfield 20, 3) := by decide +kernel
theorem dX7_told_82 : decode cX7_told 82 = .ok (.iload_n 1, 1) := by decide +kernel
theorem dX7_told_83 : decode cX7_told 83 = .ok (.invokevirtual 144, 3) := by decide +kernel
theorem dX7_told_86 : decode cX7_told 86 = .ok (.ireturn, 1) := by decide +kernel
theorem dX7_told_87 : decode cX7_told 87 = .ok (.iconst (-1), 1) := by decide +kernel
theorem dX7_told_88 : decode cX7_told 88 = .ok (.ireturn, 1) := by decide +kernel
theorem dX7_was_0 : decode cX7_was 0 = .ok (.aload_n 0, 1) := by decide +kernel
theorem dX7_was_1 : decode cX7_was 1 = .ok (.iload_n 1, 1) := by decide +kernel
theorem dX7_was_2 : decode cX7_was 2 = .ok (.invokevirtual 226, 3) := by decide +kernel
theorem dX7_was_5 : decode cX7_was 5 = .ok (.ifCond .ne 13, 3) := by decide +kernel
theorem dX7_was_8 : decode cX7_was 8 = .ok (.new 229, 3) := by decide +kernel
theorem dX7_was_11 : decode cX7_was 11 = .ok (.dup, 1) := by decide +kernel
theorem dX7_was_12 : decode cX7_was 12 = .ok (.ldc 231, 2) := by decide +kernel
theorem dX7_was_14 : decode cX7_was 14 = .ok (.invokespecial 233, 3) := by decide +kernel
theorem dX7_was_17 : decode cX7_was 17 = .ok (.athrow, 1) := by decide +kernel
theorem dX7_was_18 : decode cX7_was 18 = .ok (.aload_n 0, 1) := by decide +kernel
theorem dX7_was_19 : decode cX7_was 19 = .ok (.getfield 61, 3) := by decide +kernel
theorem dX7_was_22 : decode cX7_was 22 = .ok (.iload_n 1, 1) := by decide +kernel
theorem dX7_was_23 : decode cX7_was 23 = .ok (.invokevirtual 189, 3) := by decide +kernel
theorem dX7_was_26 : decode cX7_was 26 = .ok (.checkcast 169, 3) := by decide +kernel
theorem dX7_was_29 : decode cX7_was 29 = .ok (.astore 4, 2) := by decide +kernel
theorem dX7_was_31 : decode cX7_was 31 = .ok (.iload_n 3, 1) := by decide +kernel
theorem dX7_was_32 : decode cX7_was 32 = .ok (.ifCond .eq 11, 3) := by decide +kernel
theorem dX7_was_35 : decode cX7_was 35 = .ok (.aload 4, 2) := by decide +kernel
theorem dX7_was_37 : decode cX7_was 37 = .ok (.getfield 206, 3) := by decide +kernel
theorem dX7_was_40 : decode cX7_was 40 = .ok (.goto 8, 3) := by decide +kernel
theorem dX7_was_43 : decode cX7_was 43 = .ok (.aload 4, 2) := by decide +kernel
theorem dX7_was_45 : decode cX7_was 45 = .ok (.getfield 199, 3) := by decide +kernel
theorem dX7_was_48 : decode cX7_was 48 = .ok (.astore 5, 2) := by decide +kernel
theorem dX7_was_50 : decode cX7_was 50 = .ok (.iload_n 2, 1) := by decide +kernel
theorem dX7_was_51 : decode cX7_was 51 = .ok (.ifCond .lt 10, 3) := by decide +kernel
theorem dX7_was_54 : decode cX7_was 54 = .ok (.iload_n 2, 1) := by decide +kernel
theorem dX7_was_55 : decode cX7_was 55 = .ok (.aload 5, 2) := by decide +kernel
theorem dX7_was_57 : decode cX7_was 57 = .ok (.arraylength, 1) := by decide +kernel
theorem dX7_was_58 : decode cX7_was 58 = .ok (.if_icmp .lt 13, 3) := by decide +kernel
theorem dX7_was_61 : decode cX7_was 61 = .ok (.new 229, 3) := by decide +kernel
theorem dX7_was_64 : decode cX7_was 64 = .ok (.dup, 1) := by decide +kernel
theorem dX7_was_65 : decode cX7_was 65 = .ok (.ldc 236, 2) := by decide +kernel
theorem dX7_was_67 : decode cX7_was 67 = .ok (.invokespecial 233, 3) := by decide +kernel
theorem dX7_was_70 : decode cX7_was 70 = .ok (.athrow, 1) := by decide +kernel
theorem dX7_was_71 : decode cX7_was 71 = .ok (.aload 5, 2) := by decide +kernel
theorem dX7_was_73 : decode cX7_was 73 = .ok (.iload_n 2, 1) := by decide +kernel
theorem dX7_was_74 : decode cX7_was 74 = .ok (.iaload, 1) := by decide +kernel
theorem dX7_was_75 : decode cX7_was 75 = .ok (.ireturn, 1) := by decide +kernel
theorem dX7_brought_0 : decode cX7_brought 0 = .ok (.aload_n 0, 1) := by decide +kernel
theorem dX7_brought_1 : decode cX7_brought 1 = .ok (.iload_n 1, 1) := by decide +kernel
theorem dX7_brought_2 : decode cX7_brought 2 = .ok (.invokevirtual 226, 3) := by decide +kernel
theorem dX7_brought_5 : decode cX7_brought 5 = .ok (.ifCond .eq 20, 3) := by decide +kernel
theorem dX7_brought_8 : decode cX7_brought 8 = .ok (.aload_n 0, 1) := by decide +kernel
theorem dX7_brought_9 : decode cX7_brought 9 = .ok (.getfield 61, 3) := by decide +kernel
theorem dX7_brought_12 : decode cX7_brought 12 = .ok (.iload_n 1, 1) := by decide +kernel
theorem dX7_brought_13 : decode cX7_brought 13 = .ok (.invokevirtual 189, 3) := by decide +kernel
theorem dX7_brought_16 : decode cX7_brought 16 = .ok (.checkcast 169, 3) := by decide +kernel
theorem dX7_brought_19 : decode cX7_brought 19 = .ok (.getfield 193, 3) := by decide +kernel
theorem dX7_brought_22 : decode cX7_brought 22 = .ok (.goto 4, 3) := by decide +kernel
theorem dX7_brought_25 : decode cX7_brought 25 = .ok (.iconst (-1), 1) := by decide +kernel
theorem dX7_brought_26 : decode cX7_brought 26 = .ok (.ireturn, 1) := by decide +kernel
theorem dX7_count_0 : decode cX7_count 0 = .ok (.iload_n 1, 1) := by decide +kernel
theorem dX7_count_1 : decode cX7_count 1 = .ok (.tableswitch 132 0 8 #[51, 56, 64, 72, 80, 85, 96, 104, 117], 51) := by decide +kernel
theorem dX7_count_52 : decode cX7_count 52 = .ok (.aload_n 0, 1) := by decide +kernel
theorem dX7_count_53 : decode cX7_count 53 = .ok (.getfield 65, 3) := by decide +kernel
theorem dX7_count_56 : decode cX7_count 56 = .ok (.ireturn, 1) := by decide +kernel
theorem dX7_count_57 : decode cX7_count 57 = .ok (.aload_n 0, 1) := by decide +kernel
theorem dX7_count_58 : decode cX7_count 58 = .ok (.getfield 26, 3) := by decide +kernel
theorem dX7_count_61 : decode cX7_count 61 = .ok (.getfield 238, 3) := by decide +kernel
theorem dX7_count_64 : decode cX7_count 64 = .ok (.ireturn, 1) := by decide +kernel
theorem dX7_count_65 : decode cX7_count 65 = .ok (.aload_n 0, 1) := by decide +kernel
theorem dX7_count_66 : decode cX7_count 66 = .ok (.getfield 33, 3) := by decide +kernel
theorem dX7_count_69 : decode cX7_count 69 = .ok (.getfield 240, 3) := by decide +kernel
theorem dX7_count_72 : decode cX7_count 72 = .ok (.ireturn, 1) := by decide +kernel
theorem dX7_count_73 : decode cX7_count 73 = .ok (.aload_n 0, 1) := by decide +kernel
theorem dX7_count_74 : decode cX7_count 74 = .ok (.getfield 61, 3) := by decide +kernel
theorem dX7_count_77 : decode cX7_count 77 = .ok (.invokevirtual 160, 3) := by decide +kernel
theorem dX7_count_80 : decode cX7_count 80 = .ok (.ireturn, 1) := by decide +kernel
theorem dX7_count_81 : decode cX7_count 81 = .ok (.aload_n 0, 1) := by decide +kernel
theorem dX7_count_82 : decode cX7_count 82 = .ok (.invokevirtual 241, 3) := by decide +kernel
theorem dX7_count_85 : decode cX7_count 85 = .ok (.ireturn, 1) := by decide +kernel
theorem dX7_count_86 : decode cX7_count 86 = .ok (.aload_n 0, 1) := by decide +kernel
theorem dX7_count_87 : decode cX7_count 87 = .ok (.getfield 16, 3) := by decide +kernel
theorem dX7_count_90 : decode cX7_count 90 = .ok (.invokevirtual 114, 3) := by decide +kernel
theorem dX7_count_93 : decode cX7_count 93 = .ok (.invokestatic 244, 3) := by decide +kernel
theorem dX7_count_96 : decode cX7_count 96 = .ok (.ireturn, 1) := by decide +kernel
theorem dX7_count_97 : decode cX7_count 97 = .ok (.aload_n 0, 1) := by decide +kernel
theorem dX7_count_98 : decode cX7_count 98 = .ok (.getfield 54, 3) := by decide +kernel
theorem dX7_count_101 : decode cX7_count 101 = .ok (.getfield 249, 3) := by decide +kernel
theorem dX7_count_104 : decode cX7_count 104 = .ok (.ireturn, 1) := by decide +kernel
theorem dX7_count_105 : decode cX7_count 105 = .ok (.aload_n 0, 1) := by decide +kernel
theorem dX7_count_106 : decode cX7_count 106 = .ok (.invokevirtual 72, 3) := by decide +kernel
theorem dX7_count_109 : decode cX7_count 109 = .ok (.ifCond .eq 7, 3) := by decide +kernel
theorem dX7_count_112 : decode cX7_count 112 = .ok (.iconst 1, 1) := by decide +kernel
theorem dX7_count_113 : decode cX7_count 113 = .ok (.goto 4, 3) := by decide +kernel
theorem dX7_count_116 : decode cX7_count 116 = .ok (.iconst 0, 1) := by decide +kernel
theorem dX7_count_117 : decode cX7_count 117 = .ok (.ireturn, 1) := by decide +kernel
theorem dX7_count_118 : decode cX7_count 118 = .ok (.aload_n 0, 1) := by decide +kernel
theorem dX7_count_119 : decode cX7_count 119 = .ok (.iconst 0, 1) := by decide +kernel
theorem dX7_count_120 : decode cX7_count 120 = .ok (.invokevirtual 118, 3) := by decide +kernel
theorem dX7_count_123 : decode cX7_count 123 = .ok (.iconst (-1), 1) := by decide +kernel
theorem dX7_count_124 : decode cX7_count 124 = .ok (.if_icmp .ne 7, 3) := by decide +kernel
theorem dX7_count_127 : decode cX7_count 127 = .ok (.iconst 1, 1) := by decide +kernel
theorem dX7_count_128 : decode cX7_count 128 = .ok (.goto 4, 3) := by decide +kernel
theorem dX7_count_131 : decode cX7_count 131 = .ok (.iconst 0, 1) := by decide +kernel
theorem dX7_count_132 : decode cX7_count 132 = .ok (.ireturn, 1) := by decide +kernel
theorem dX7_count_133 : decode cX7_count 133 = .ok (.iconst (-1), 1) := by decide +kernel
theorem dX7_count_134 : decode cX7_count 134 = .ok (.ireturn, 1) := by decide +kernel
theorem dX7_isVersion_0 : decode cX7_isVersion 0 = .ok (.iload_n 0, 1) := by decide +kernel
theorem dX7_isVersion_1 : decode cX7_isVersion 1 = .ok (.ifCond .lt 14, 3) := by decide +kernel
theorem dX7_isVersion_4 : decode cX7_isVersion 4 = .ok (.iload_n 0, 1) := by decide +kernel
theorem dX7_isVersion_5 : decode cX7_isVersion 5 = .ok (.sipush 1000, 3) := by decide +kernel
theorem dX7_isVersion_8 : decode cX7_isVersion 8 = .ok (.if_icmp .gt 7, 3) := by decide +kernel
theorem dX7_isVersion_11 : decode cX7_isVersion 11 = .ok (.iconst 1, 1) := by decide +kernel
theorem dX7_isVersion_12 : decode cX7_isVersion 12 = .ok (.goto 4, 3) := by decide +kernel
theorem dX7_isVersion_15 : decode cX7_isVersion 15 = .ok (.iconst 0, 1) := by decide +kernel
theorem dX7_isVersion_16 : decode cX7_isVersion 16 = .ok (.ireturn, 1) := by decide +kernel
theorem dX7_isWorth_0 : decode cX7_isWorth 0 = .ok (.iload_n 0, 1) := by decide +kernel
theorem dX7_isWorth_1 : decode cX7_isWorth 1 = .ok (.iconst 1, 1) := by decide +kernel
theorem dX7_isWorth_2 : decode cX7_isWorth 2 = .ok (.if_icmp .lt 14, 3) := by decide +kernel
theorem dX7_isWorth_5 : decode cX7_isWorth 5 = .ok (.iload_n 0, 1) := by decide +kernel
theorem dX7_isWorth_6 : decode cX7_isWorth 6 = .ok (.sipush 1000, 3) := by decide +kernel
theorem dX7_isWorth_9 : decode cX7_isWorth 9 = .ok (.if_icmp .gt 7, 3) := by decide +kernel
theorem dX7_isWorth_12 : decode cX7_isWorth 12 = .ok (.iconst 1, 1) := by decide +kernel
theorem dX7_isWorth_13 : decode cX7_isWorth 13 = .ok (.goto 4, 3) := by decide +kernel
theorem dX7_isWorth_16 : decode cX7_isWorth 16 = .ok (.iconst 0, 1) := by decide +kernel
theorem dX7_isWorth_17 : decode cX7_isWorth 17 = .ok (.ireturn, 1) := by decide +kernel
theorem dX7_isPart_0 : decode cX7_isPart 0 = .ok (.iload_n 1, 1) := by decide +kernel
theorem dX7_isPart_1 : decode cX7_isPart 1 = .ok (.ifCond .lt 15, 3) := by decide +kernel
theorem dX7_isPart_4 : decode cX7_isPart 4 = .ok (.iload_n 1, 1) := by decide +kernel
theorem dX7_isPart_5 : decode cX7_isPart 5 = .ok (.aload_n 0, 1) := by decide +kernel
theorem dX7_isPart_6 : decode cX7_isPart 6 = .ok (.getfield 65, 3) := by decide +kernel
theorem dX7_isPart_9 : decode cX7_isPart 9 = .ok (.if_icmp .ge 7, 3) := by decide +kernel
theorem dX7_isPart_12 : decode cX7_isPart 12 = .ok (.iconst 1, 1) := by decide +kernel
theorem dX7_isPart_13 : decode cX7_isPart 13 = .ok (.goto 4, 3) := by decide +kernel
theorem dX7_isPart_16 : decode cX7_isPart 16 = .ok (.iconst 0, 1) := by decide +kernel
theorem dX7_isPart_17 : decode cX7_isPart 17 = .ok (.ireturn, 1) := by decide +kernel
theorem dX7_areParts_0 : decode cX7_areParts 0 = .ok (.iload_n 1, 1) := by decide +kernel
theorem dX7_areParts_1 : decode cX7_areParts 1 = .ok (.iconst 1, 1) := by decide +kernel
theorem dX7_areParts_2 : decode cX7_areParts 2 = .ok (.aload_n 0, 1) := by decide +kernel
theorem dX7_areParts_3 : decode cX7_areParts 3 = .ok (.getfield 65, 3) := by decide +kernel
theorem dX7_areParts_6 : decode cX7_areParts 6 = .ok (.ishl, 1) := by decide +kernel
theorem dX7_areParts_7 : decode cX7_areParts 7 = .ok (.iconst 1, 1) := by decide +kernel
theorem dX7_areParts_8 : decode cX7_areParts 8 = .ok (.isub, 1) := by decide +kernel
theorem dX7_areParts_9 : decode cX7_areParts 9 = .ok (.iconst (-1), 1) := by decide +kernel
theorem dX7_areParts_10 : decode cX7_areParts 10 = .ok (.ixor, 1) := by decide +kernel
theorem dX7_areParts_11 : decode cX7_areParts 11 = .ok (.iand, 1) := by decide +kernel
theorem dX7_areParts_12 : decode cX7_areParts 12 = .ok (.ifCond .ne 7, 3) := by decide +kernel
theorem dX7_areParts_15 : decode cX7_areParts 15 = .ok (.iconst 1, 1) := by decide +kernel
theorem dX7_areParts_16 : decode cX7_areParts 16 = .ok (.goto 4, 3) := by decide +kernel
theorem dX7_areParts_19 : decode cX7_areParts 19 = .ok (.iconst 0, 1) := by decide +kernel
theorem dX7_areParts_20 : decode cX7_areParts 20 = .ok (.ireturn, 1) := by decide +kernel
theorem dX7_isTrain_0 : decode cX7_isTrain 0 = .ok (.iload_n 1, 1) := by decide +kernel
theorem dX7_isTrain_1 : decode cX7_isTrain 1 = .ok (.ifCond .lt 18, 3) := by decide +kernel
theorem dX7_isTrain_4 : decode cX7_isTrain 4 = .ok (.iload_n 1, 1) := by decide +kernel
theorem dX7_isTrain_5 : decode cX7_isTrain 5 = .ok (.aload_n 0, 1) := by decide +kernel
theorem dX7_isTrain_6 : decode cX7_isTrain 6 = .ok (.getfield 61, 3) := by decide +kernel
theorem dX7_isTrain_9 : decode cX7_isTrain 9 = .ok (.invokevirtual 160, 3) := by decide +kernel
theorem dX7_isTrain_12 : decode cX7_isTrain 12 = .ok (.if_icmp .ge 7, 3) := by decide +kernel
theorem dX7_isTrain_15 : decode cX7_isTrain 15 = .ok (.iconst 1, 1) := by decide +kernel
theorem dX7_isTrain_16 : decode cX7_isTrain 16 = .ok (.goto 4, 3) := by decide +kernel
theorem dX7_isTrain_19 : decode cX7_isTrain 19 = .ok (.iconst 0, 1) := by decide +kernel
theorem dX7_isTrain_20 : decode cX7_isTrain 20 = .ok (.ireturn, 1) := by decide +kernel
theorem dX7_isCutAtHand_0 : decode cX7_isCutAtHand 0 = .ok (.aload_n 0, 1) := by decide +kernel
theorem dX7_isCutAtHand_1 : decode cX7_isCutAtHand 1 = .ok (.getfield 69, 3) := by decide +kernel
theorem dX7_isCutAtHand_4 : decode cX7_isCutAtHand 4 = .ok (.iconst (-1), 1) := by decide +kernel
theorem dX7_isCutAtHand_5 : decode cX7_isCutAtHand 5 = .ok (.if_icmp .eq 7, 3) := by decide +kernel
theorem dX7_isCutAtHand_8 : decode cX7_isCutAtHand 8 = .ok (.iconst 1, 1) := by decide +kernel
theorem dX7_isCutAtHand_9 : decode cX7_isCutAtHand 9 = .ok (.goto 4, 3) := by decide +kernel
theorem dX7_isCutAtHand_12 : decode cX7_isCutAtHand 12 = .ok (.iconst 0, 1) := by decide +kernel
theorem dX7_isCutAtHand_13 : decode cX7_isCutAtHand 13 = .ok (.ireturn, 1) := by decide +kernel
theorem dX7_isChosen_0 : decode cX7_isChosen 0 = .ok (.aload_n 0, 1) := by decide +kernel
theorem dX7_isChosen_1 : decode cX7_isChosen 1 = .ok (.invokevirtual 72, 3) := by decide +kernel
theorem dX7_isChosen_4 : decode cX7_isChosen 4 = .ok (.ifCond .eq 18, 3) := by decide +kernel
theorem dX7_isChosen_7 : decode cX7_isChosen 7 = .ok (.aload_n 0, 1) := by decide +kernel
theorem dX7_isChosen_8 : decode cX7_isChosen 8 = .ok (.getfield 69, 3) := by decide +kernel
theorem dX7_isChosen_11 : decode cX7_isChosen 11 = .ok (.iload_n 1, 1) := by decide +kernel
theorem dX7_isChosen_12 : decode cX7_isChosen 12 = .ok (.ishr, 1) := by decide +kernel
theorem dX7_isChosen_13 : decode cX7_isChosen 13 = .ok (.iconst 1, 1) := by decide +kernel
theorem dX7_isChosen_14 : decode cX7_isChosen 14 = .ok (.iand, 1) := by decide +kernel
theorem dX7_isChosen_15 : decode cX7_isChosen 15 = .ok (.ifCond .eq 7, 3) := by decide +kernel
theorem dX7_isChosen_18 : decode cX7_isChosen 18 = .ok (.iconst 1, 1) := by decide +kernel
theorem dX7_isChosen_19 : decode cX7_isChosen 19 = .ok (.goto 4, 3) := by decide +kernel
theorem dX7_isChosen_22 : decode cX7_isChosen 22 = .ok (.iconst 0, 1) := by decide +kernel
theorem dX7_isChosen_23 : decode cX7_isChosen 23 = .ok (.ireturn, 1) := by decide +kernel
theorem dX7_homeToCome_0 : decode cX7_homeToCome 0 = .ok (.aload_n 0, 1) := by decide +kernel
theorem dX7_homeToCome_1 : decode cX7_homeToCome 1 = .ok (.iload_n 1, 1) := by decide +kernel
theorem dX7_homeToCome_2 : decode cX7_homeToCome 2 = .ok (.invokevirtual 134, 3) := by decide +kernel
theorem dX7_homeToCome_5 : decode cX7_homeToCome 5 = .ok (.ifCond .eq 14, 3) := by decide +kernel
theorem dX7_homeToCome_8 : decode cX7_homeToCome 8 = .ok (.aload_n 0, 1) := by decide +kernel
theorem dX7_homeToCome_9 : decode cX7_homeToCome 9 = .ok (.getfield 16, 3) := by decide +kernel
theorem dX7_homeToCome_12 : decode cX7_homeToCome 12 = .ok (.iload_n 1, 1) := by decide +kernel
theorem dX7_homeToCome_13 : decode cX7_homeToCome 13 = .ok (.invokevirtual 141, 3) := by decide +kernel
theorem dX7_homeToCome_16 : decode cX7_homeToCome 16 = .ok (.goto 9, 3) := by decide +kernel
theorem dX7_homeToCome_19 : decode cX7_homeToCome 19 = .ok (.aload_n 0, 1) := by decide +kernel
theorem dX7_homeToCome_20 : decode cX7_homeToCome 20 = .ok (.getfield 9, 3) := by decide +kernel
theorem dX7_homeToCome_23 : decode cX7_homeToCome 23 = .ok (.iload_n 1, 1) := by decide +kernel
theorem dX7_homeToCome_24 : decode cX7_homeToCome 24 = .ok (.iaload, 1) := by decide +kernel
theorem dX7_homeToCome_25 : decode cX7_homeToCome 25 = .ok (.ireturn, 1) := by decide +kernel
theorem dX7_openOffers_0 : decode cX7_openOffers 0 = .ok (.aload_n 0, 1) := by decide +kernel
theorem dX7_openOffers_1 : decode cX7_openOffers 1 = .ok (.invokevirtual 72, 3) := by decide +kernel
theorem dX7_openOffers_4 : decode cX7_openOffers 4 = .ok (.ifCond .eq 10, 3) := by decide +kernel
theorem dX7_openOffers_7 : decode cX7_openOffers 7 = .ok (.aload_n 0, 1) := by decide +kernel
theorem dX7_openOffers_8 : decode cX7_openOffers 8 = .ok (.getfield 20, 3) := by decide +kernel
theorem dX7_openOffers_11 : decode cX7_openOffers 11 = .ok (.goto 7, 3) := by decide +kernel
theorem dX7_openOffers_14 : decode cX7_openOffers 14 = .ok (.aload_n 0, 1) := by decide +kernel
theorem dX7_openOffers_15 : decode cX7_openOffers 15 = .ok (.getfield 16, 3) := by decide +kernel
theorem dX7_openOffers_18 : decode cX7_openOffers 18 = .ok (.areturn, 1) := by decide +kernel
theorem dX7_mayFix_0 : decode cX7_mayFix 0 = .ok (.aload_n 0, 1) := by decide +kernel
theorem dX7_mayFix_1 : decode cX7_mayFix 1 = .ok (.invokevirtual 72, 3) := by decide +kernel
theorem dX7_mayFix_4 : decode cX7_mayFix 4 = .ok (.ifCond .eq 47, 3) := by decide +kernel
theorem dX7_mayFix_7 : decode cX7_mayFix 7 = .ok (.aload_n 0, 1) := by decide +kernel
theorem dX7_mayFix_8 : decode cX7_mayFix 8 = .ok (.iload_n 1, 1) := by decide +kernel
theorem dX7_mayFix_9 : decode cX7_mayFix 9 = .ok (.invokevirtual 80, 3) := by decide +kernel
theorem dX7_mayFix_12 : decode cX7_mayFix 12 = .ok (.ifCond .eq 39, 3) := by decide +kernel
theorem dX7_mayFix_15 : decode cX7_mayFix 15 = .ok (.iload_n 2, 1) := by decide +kernel
theorem dX7_mayFix_16 : decode cX7_mayFix 16 = .ok (.invokestatic 76, 3) := by decide +kernel
theorem dX7_mayFix_19 : decode cX7_mayFix 19 = .ok (.ifCond .eq 32, 3) := by decide +kernel
theorem dX7_mayFix_22 : decode cX7_mayFix 22 = .ok (.iload_n 3, 1) := by decide +kernel
theorem dX7_mayFix_23 : decode cX7_mayFix 23 = .ok (.invokestatic 83, 3) := by decide +kernel
theorem dX7_mayFix_26 : decode cX7_mayFix 26 = .ok (.ifCond .eq 25, 3) := by decide +kernel
theorem dX7_mayFix_29 : decode cX7_mayFix 29 = .ok (.aload_n 0, 1) := by decide +kernel
theorem dX7_mayFix_30 : decode cX7_mayFix 30 = .ok (.iload_n 1, 1) := by decide +kernel
theorem dX7_mayFix_31 : decode cX7_mayFix 31 = .ok (.invokevirtual 134, 3) := by decide +kernel
theorem dX7_mayFix_34 : decode cX7_mayFix 34 = .ok (.ifCond .ne 17, 3) := by decide +kernel
theorem dX7_mayFix_37 : decode cX7_mayFix 37 = .ok (.iload_n 2, 1) := by decide +kernel
theorem dX7_mayFix_38 : decode cX7_mayFix 38 = .ok (.aload_n 0, 1) := by decide +kernel
theorem dX7_mayFix_39 : decode cX7_mayFix 39 = .ok (.getfield 9, 3) := by decide +kernel
theorem dX7_mayFix_42 : decode cX7_mayFix 42 = .ok (.iload_n 1, 1) := by decide +kernel
theorem dX7_mayFix_43 : decode cX7_mayFix 43 = .ok (.iaload, 1) := by decide +kernel
theorem dX7_mayFix_44 : decode cX7_mayFix 44 = .ok (.if_icmp .eq 7, 3) := by decide +kernel
theorem dX7_mayFix_47 : decode cX7_mayFix 47 = .ok (.iconst 1, 1) := by decide +kernel
theorem dX7_mayFix_48 : decode cX7_mayFix 48 = .ok (.goto 4, 3) := by decide +kernel
theorem dX7_mayFix_51 : decode cX7_mayFix 51 = .ok (.iconst 0, 1) := by decide +kernel
theorem dX7_mayFix_52 : decode cX7_mayFix 52 = .ok (.ireturn, 1) := by decide +kernel
theorem dX7_firstBroken_0 : decode cX7_firstBroken 0 = .ok (.aload_n 0, 1) := by decide +kernel
theorem dX7_firstBroken_1 : decode cX7_firstBroken 1 = .ok (.getfield 26, 3) := by decide +kernel
theorem dX7_firstBroken_4 : decode cX7_firstBroken 4 = .ok (.aload_n 0, 1) := by decide +kernel
theorem dX7_firstBroken_5 : decode cX7_firstBroken 5 = .ok (.getfield 9, 3) := by decide +kernel
theorem dX7_firstBroken_8 : decode cX7_firstBroken 8 = .ok (.aload_n 0, 1) := by decide +kernel
theorem dX7_firstBroken_9 : decode cX7_firstBroken 9 = .ok (.getfield 16, 3) := by decide +kernel
theorem dX7_firstBroken_12 : decode cX7_firstBroken 12 = .ok (.invokevirtual 147, 3) := by decide +kernel
theorem dX7_firstBroken_15 : decode cX7_firstBroken 15 = .ok (.aload_n 0, 1) := by decide +kernel
theorem dX7_firstBroken_16 : decode cX7_firstBroken 16 = .ok (.getfield 26, 3) := by decide +kernel
theorem dX7_firstBroken_19 : decode cX7_firstBroken 19 = .ok (.iload_n 1, 1) := by decide +kernel
theorem dX7_firstBroken_20 : decode cX7_firstBroken 20 = .ok (.invokevirtual 250, 3) := by decide +kernel
theorem dX7_firstBroken_23 : decode cX7_firstBroken 23 = .ok (.ireturn, 1) := by decide +kernel
theorem dX7_goes_0 : decode cX7_goes 0 = .ok (.aload_n 0, 1) := by decide +kernel
theorem dX7_goes_1 : decode cX7_goes 1 = .ok (.getfield 26, 3) := by decide +kernel
theorem dX7_goes_4 : decode cX7_goes 4 = .ok (.iload_n 1, 1) := by decide +kernel
theorem dX7_goes_5 : decode cX7_goes 5 = .ok (.invokevirtual 250, 3) := by decide +kernel
theorem dX7_goes_8 : decode cX7_goes 8 = .ok (.iconst (-1), 1) := by decide +kernel
theorem dX7_goes_9 : decode cX7_goes 9 = .ok (.if_icmp .ne 19, 3) := by decide +kernel
theorem dX7_goes_12 : decode cX7_goes 12 = .ok (.aload_n 0, 1) := by decide +kernel
theorem dX7_goes_13 : decode cX7_goes 13 = .ok (.getfield 33, 3) := by decide +kernel
theorem dX7_goes_16 : decode cX7_goes 16 = .ok (.iload_n 1, 1) := by decide +kernel
theorem dX7_goes_17 : decode cX7_goes 17 = .ok (.invokevirtual 121, 3) := by decide +kernel
theorem dX7_goes_20 : decode cX7_goes 20 = .ok (.iconst (-1), 1) := by decide +kernel
theorem dX7_goes_21 : decode cX7_goes 21 = .ok (.if_icmp .ne 7, 3) := by decide +kernel
theorem dX7_goes_24 : decode cX7_goes 24 = .ok (.iconst 1, 1) := by decide +kernel
theorem dX7_goes_25 : decode cX7_goes 25 = .ok (.goto 4, 3) := by decide +kernel
theorem dX7_goes_28 : decode cX7_goes 28 = .ok (.iconst 0, 1) := by decide +kernel
theorem dX7_goes_29 : decode cX7_goes 29 = .ok (.ireturn, 1) := by decide +kernel
theorem dX7_greatest_0 : decode cX7_greatest 0 = .ok (.aload_n 0, 1) := by decide +kernel
theorem dX7_greatest_1 : decode cX7_greatest 1 = .ok (.getfield 26, 3) := by decide +kernel
theorem dX7_greatest_4 : decode cX7_greatest 4 = .ok (.aload_n 0, 1) := by decide +kernel
theorem dX7_greatest_5 : decode cX7_greatest 5 = .ok (.getfield 9, 3) := by decide +kernel
theorem dX7_greatest_8 : decode cX7_greatest 8 = .ok (.aload_n 0, 1) := by decide +kernel
theorem dX7_greatest_9 : decode cX7_greatest 9 = .ok (.getfield 16, 3) := by decide +kernel
theorem dX7_greatest_12 : decode cX7_greatest 12 = .ok (.invokevirtual 147, 3) := by decide +kernel
theorem dX7_greatest_15 : decode cX7_greatest 15 = .ok (.iconst (-1), 1) := by decide +kernel
theorem dX7_greatest_16 : decode cX7_greatest 16 = .ok (.istore_n 3, 1) := by decide +kernel
theorem dX7_greatest_17 : decode cX7_greatest 17 = .ok (.iconst (-1), 1) := by decide +kernel
theorem dX7_greatest_18 : decode cX7_greatest 18 = .ok (.istore 4, 2) := by decide +kernel
theorem dX7_greatest_20 : decode cX7_greatest 20 = .ok (.iload_n 1, 1) := by decide +kernel
theorem dX7_greatest_21 : decode cX7_greatest 21 = .ok (.istore 5, 2) := by decide +kernel
theorem dX7_greatest_23 : decode cX7_greatest 23 = .ok (.iload 5, 2) := by decide +kernel
theorem dX7_greatest_25 : decode cX7_greatest 25 = .ok (.iload_n 2, 1) := by decide +kernel
theorem dX7_greatest_26 : decode cX7_greatest 26 = .ok (.if_icmp .lt 88, 3) := by decide +kernel
theorem dX7_greatest_29 : decode cX7_greatest 29 = .ok (.iload 5, 2) := by decide +kernel
theorem dX7_greatest_31 : decode cX7_greatest 31 = .ok (.iload_n 1, 1) := by decide +kernel
theorem dX7_greatest_32 : decode cX7_greatest 32 = .ok (.iconst (-1), 1) := by decide +kernel
theorem dX7_greatest_33 : decode cX7_greatest 33 = .ok (.ixor, 1) := by decide +kernel
theorem dX7_greatest_34 : decode cX7_greatest 34 = .ok (.iand, 1) := by decide +kernel
theorem dX7_greatest_35 : decode cX7_greatest 35 = .ok (.ifCond .ne 73, 3) := by decide +kernel
theorem dX7_greatest_38 : decode cX7_greatest 38 = .ok (.iload 5, 2) := by decide +kernel
theorem dX7_greatest_40 : decode cX7_greatest 40 = .ok (.iload_n 2, 1) := by decide +kernel
theorem dX7_greatest_41 : decode cX7_greatest 41 = .ok (.iand, 1) := by decide +kernel
theorem dX7_greatest_42 : decode cX7_greatest 42 = .ok (.iload_n 2, 1) := by decide +kernel
theorem dX7_greatest_43 : decode cX7_greatest 43 = .ok (.if_icmp .ne 65, 3) := by decide +kernel
theorem dX7_greatest_46 : decode cX7_greatest 46 = .ok (.aload_n 0, 1) := by decide +kernel
theorem dX7_greatest_47 : decode cX7_greatest 47 = .ok (.getfield 16, 3) := by decide +kernel
theorem dX7_greatest_50 : decode cX7_greatest 50 = .ok (.iload 5, 2) := by decide +kernel
theorem dX7_greatest_52 : decode cX7_greatest 52 = .ok (.invokevirtual 131, 3) := by decide +kernel
theorem dX7_greatest_55 : decode cX7_greatest 55 = .ok (.istore 6, 2) := by decide +kernel
theorem dX7_greatest_57 : decode cX7_greatest 57 = .ok (.iload 6, 2) := by decide +kernel
theorem dX7_greatest_59 : decode cX7_greatest 59 = .ok (.iload 4, 2) := by decide +kernel
theorem dX7_greatest_61 : decode cX7_greatest 61 = .ok (.if_icmp .gt 19, 3) := by decide +kernel
theorem dX7_greatest_64 : decode cX7_greatest 64 = .ok (.iload 6, 2) := by decide +kernel
theorem dX7_greatest_66 : decode cX7_greatest 66 = .ok (.iload 4, 2) := by decide +kernel
theorem dX7_greatest_68 : decode cX7_greatest 68 = .ok (.if_icmp .ne 16, 3) := by decide +kernel
theorem dX7_greatest_71 : decode cX7_greatest 71 = .ok (.iload 5, 2) := by decide +kernel
theorem dX7_greatest_73 : decode cX7_greatest 73 = .ok (.iload_n 3, 1) := by decide +kernel
theorem dX7_greatest_74 : decode cX7_greatest 74 = .ok (.invokestatic 251, 3) := by decide +kernel
theorem dX7_greatest_77 : decode cX7_greatest 77 = .ok (.ifCond .eq 7, 3) := by decide +kernel
theorem dX7_greatest_80 : decode cX7_greatest 80 = .ok (.iconst 1, 1) := by decide +kernel
theorem dX7_greatest_81 : decode cX7_greatest 81 = .ok (.goto 4, 3) := by decide +kernel
theorem dX7_greatest_84 : decode cX7_greatest 84 = .ok (.iconst 0, 1) := by decide +kernel
theorem dX7_greatest_85 : decode cX7_greatest 85 = .ok (.istore 7, 2) := by decide +kernel
theorem dX7_greatest_87 : decode cX7_greatest 87 = .ok (.iload 7, 2) := by decide +kernel
theorem dX7_greatest_89 : decode cX7_greatest 89 = .ok (.ifCond .eq 19, 3) := by decide +kernel
theorem dX7_greatest_92 : decode cX7_greatest 92 = .ok (.aload_n 0, 1) := by decide +kernel
theorem dX7_greatest_93 : decode cX7_greatest 93 = .ok (.iload 5, 2) := by decide +kernel
theorem dX7_greatest_95 : decode cX7_greatest 95 = .ok (.invokevirtual 151, 3) := by decide +kernel
theorem dX7_greatest_98 : decode cX7_greatest 98 = .ok (.ifCond .eq 10, 3) := by decide +kernel
theorem dX7_greatest_101 : decode cX7_greatest 101 = .ok (.iload 5, 2) := by decide +kernel
theorem dX7_greatest_103 : decode cX7_greatest 103 = .ok (.istore_n 3, 1) := by decide +kernel
theorem dX7_greatest_104 : decode cX7_greatest 104 = .ok (.iload 6, 2) := by decide +kernel
theorem dX7_greatest_106 : decode cX7_greatest 106 = .ok (.istore 4, 2) := by decide +kernel
theorem dX7_greatest_108 : decode cX7_greatest 108 = .ok (.iinc 5 (-1), 3) := by decide +kernel
theorem dX7_greatest_111 : decode cX7_greatest 111 = .ok (.goto (-88), 3) := by decide +kernel
theorem dX7_greatest_114 : decode cX7_greatest 114 = .ok (.iload_n 3, 1) := by decide +kernel
theorem dX7_greatest_115 : decode cX7_greatest 115 = .ok (.ireturn, 1) := by decide +kernel
theorem dX7_hasLowerPart_0 : decode cX7_hasLowerPart 0 = .ok (.iload_n 0, 1) := by decide +kernel
theorem dX7_hasLowerPart_1 : decode cX7_hasLowerPart 1 = .ok (.iload_n 0, 1) := by decide +kernel
theorem dX7_hasLowerPart_2 : decode cX7_hasLowerPart 2 = .ok (.iload_n 1, 1) := by decide +kernel
theorem dX7_hasLowerPart_3 : decode cX7_hasLowerPart 3 = .ok (.ixor, 1) := by decide +kernel
theorem dX7_hasLowerPart_4 : decode cX7_hasLowerPart 4 = .ok (.invokestatic 254, 3) := by decide +kernel
theorem dX7_hasLowerPart_7 : decode cX7_hasLowerPart 7 = .ok (.iand, 1) := by decide +kernel
theorem dX7_hasLowerPart_8 : decode cX7_hasLowerPart 8 = .ok (.ifCond .eq 7, 3) := by decide +kernel
theorem dX7_hasLowerPart_11 : decode cX7_hasLowerPart 11 = .ok (.iconst 1, 1) := by decide +kernel
theorem dX7_hasLowerPart_12 : decode cX7_hasLowerPart 12 = .ok (.goto 4, 3) := by decide +kernel
theorem dX7_hasLowerPart_15 : decode cX7_hasLowerPart 15 = .ok (.iconst 0, 1) := by decide +kernel
theorem dX7_hasLowerPart_16 : decode cX7_hasLowerPart 16 = .ok (.ireturn, 1) := by decide +kernel
theorem dX7_choose_0 : decode cX7_choose 0 = .ok (.aload_n 0, 1) := by decide +kernel
theorem dX7_choose_1 : decode cX7_choose 1 = .ok (.iload_n 1, 1) := by decide +kernel
theorem dX7_choose_2 : decode cX7_choose 2 = .ok (.putfield 69, 3) := by decide +kernel
theorem dX7_choose_5 : decode cX7_choose 5 = .ok (.aload_n 0, 1) := by decide +kernel
theorem dX7_choose_6 : decode cX7_choose 6 = .ok (.getfield 26, 3) := by decide +kernel
theorem dX7_choose_9 : decode cX7_choose 9 = .ok (.aload_n 0, 1) := by decide +kernel
theorem dX7_choose_10 : decode cX7_choose 10 = .ok (.getfield 9, 3) := by decide +kernel
theorem dX7_choose_13 : decode cX7_choose 13 = .ok (.aload_n 0, 1) := by decide +kernel
theorem dX7_choose_14 : decode cX7_choose 14 = .ok (.getfield 16, 3) := by decide +kernel
theorem dX7_choose_17 : decode cX7_choose 17 = .ok (.invokevirtual 147, 3) := by decide +kernel
theorem dX7_choose_20 : decode cX7_choose 20 = .ok (.aload_n 0, 1) := by decide +kernel
theorem dX7_choose_21 : decode cX7_choose 21 = .ok (.getfield 40, 3) := by decide +kernel
theorem dX7_choose_24 : decode cX7_choose 24 = .ok (.aload_n 0, 1) := by decide +kernel
theorem dX7_choose_25 : decode cX7_choose 25 = .ok (.getfield 26, 3) := by decide +kernel
theorem dX7_choose_28 : decode cX7_choose 28 = .ok (.iload_n 1, 1) := by decide +kernel
theorem dX7_choose_29 : decode cX7_choose 29 = .ok (.invokevirtual 257, 3) := by decide +kernel
theorem dX7_choose_32 : decode cX7_choose 32 = .ok (.return_, 1) := by decide +kernel
theorem dX7_endCut_0 : decode cX7_endCut 0 = .ok (.aload_n 0, 1) := by decide +kernel
theorem dX7_endCut_1 : decode cX7_endCut 1 = .ok (.iconst (-1), 1) := by decide +kernel
theorem dX7_endCut_2 : decode cX7_endCut 2 = .ok (.putfield 69, 3) := by decide +kernel
theorem dX7_endCut_5 : decode cX7_endCut 5 = .ok (.iconst 0, 1) := by decide +kernel
theorem dX7_endCut_6 : decode cX7_endCut 6 = .ok (.istore_n 1, 1) := by decide +kernel
theorem dX7_endCut_7 : decode cX7_endCut 7 = .ok (.iload_n 1, 1) := by decide +kernel
theorem dX7_endCut_8 : decode cX7_endCut 8 = .ok (.aload_n 0, 1) := by decide +kernel
theorem dX7_endCut_9 : decode cX7_endCut 9 = .ok (.getfield 65, 3) := by decide +kernel
theorem dX7_endCut_12 : decode cX7_endCut 12 = .ok (.if_icmp .ge 69, 3) := by decide +kernel
theorem dX7_endCut_15 : decode cX7_endCut 15 = .ok (.aload_n 0, 1) := by decide +kernel
theorem dX7_endCut_16 : decode cX7_endCut 16 = .ok (.getfield 20, 3) := by decide +kernel
theorem dX7_endCut_19 : decode cX7_endCut 19 = .ok (.iload_n 1, 1) := by decide +kernel
theorem dX7_endCut_20 : decode cX7_endCut 20 = .ok (.invokevirtual 98, 3) := by decide +kernel
theorem dX7_endCut_23 : decode cX7_endCut 23 = .ok (.ifCond .eq 44, 3) := by decide +kernel
theorem dX7_endCut_26 : decode cX7_endCut 26 = .ok (.aload_n 0, 1) := by decide +kernel
theorem dX7_endCut_27 : decode cX7_endCut 27 = .ok (.getfield 20, 3) := by decide +kernel
theorem dX7_endCut_30 : decode cX7_endCut 30 = .ok (.iload_n 1, 1) := by decide +kernel
theorem dX7_endCut_31 : decode cX7_endCut 31 = .ok (.invokevirtual 141, 3) := by decide +kernel
theorem dX7_endCut_34 : decode cX7_endCut 34 = .ok (.aload_n 0, 1) := by decide +kernel
theorem dX7_endCut_35 : decode cX7_endCut 35 = .ok (.getfield 9, 3) := by decide +kernel
theorem dX7_endCut_38 : decode cX7_endCut 38 = .ok (.iload_n 1, 1) := by decide +kernel
theorem dX7_endCut_39 : decode cX7_endCut 39 = .ok (.iaload, 1) := by decide +kernel
theorem dX7_endCut_40 : decode cX7_endCut 40 = .ok (.if_icmp .eq 27, 3) := by decide +kernel
theorem dX7_endCut_43 : decode cX7_endCut 43 = .ok (.aload_n 0, 1) := by decide +kernel
theorem dX7_endCut_44 : decode cX7_endCut 44 = .ok (.getfield 16, 3) := by decide +kernel
theorem dX7_endCut_47 : decode cX7_endCut 47 = .ok (.iload_n 1, 1) := by decide +kernel
theorem dX7_endCut_48 : decode cX7_endCut 48 = .ok (.aload_n 0, 1) := by decide +kernel
theorem dX7_endCut_49 : decode cX7_endCut 49 = .ok (.getfield 20, 3) := by decide +kernel
theorem dX7_endCut_52 : decode cX7_endCut 52 = .ok (.iload_n 1, 1) := by decide +kernel
theorem dX7_endCut_53 : decode cX7_endCut 53 = .ok (.invokevirtual 141, 3) := by decide +kernel
theorem dX7_endCut_56 : decode cX7_endCut 56 = .ok (.aload_n 0, 1) := by decide +kernel
theorem dX7_endCut_57 : decode cX7_endCut 57 = .ok (.getfield 20, 3) := by decide +kernel
theorem dX7_endCut_60 : decode cX7_endCut 60 = .ok (.iload_n 1, 1) := by decide +kernel
theorem dX7_endCut_61 : decode cX7_endCut 61 = .ok (.invokevirtual 144, 3) := by decide +kernel
theorem dX7_endCut_64 : decode cX7_endCut 64 = .ok (.invokevirtual 94, 3) := by decide +kernel
theorem dX7_endCut_67 : decode cX7_endCut 67 = .ok (.aload_n 0, 1) := by decide +kernel
theorem dX7_endCut_68 : decode cX7_endCut 68 = .ok (.getfield 20, 3) := by decide +kernel
theorem dX7_endCut_71 : decode cX7_endCut 71 = .ok (.iload_n 1, 1) := by decide +kernel
theorem dX7_endCut_72 : decode cX7_endCut 72 = .ok (.invokevirtual 101, 3) := by decide +kernel
theorem dX7_endCut_75 : decode cX7_endCut 75 = .ok (.iinc 1 1, 3) := by decide +kernel
theorem dX7_endCut_78 : decode cX7_endCut 78 = .ok (.goto (-71), 3) := by decide +kernel
theorem dX7_endCut_81 : decode cX7_endCut 81 = .ok (.return_, 1) := by decide +kernel
theorem dX7_latestOut_0 : decode cX7_latestOut 0 = .ok (.aload_n 0, 1) := by decide +kernel
theorem dX7_latestOut_1 : decode cX7_latestOut 1 = .ok (.getfield 61, 3) := by decide +kernel
theorem dX7_latestOut_4 : decode cX7_latestOut 4 = .ok (.invokevirtual 160, 3) := by decide +kernel
theorem dX7_latestOut_7 : decode cX7_latestOut 7 = .ok (.iconst 1, 1) := by decide +kernel
theorem dX7_latestOut_8 : decode cX7_latestOut 8 = .ok (.isub, 1) := by decide +kernel
theorem dX7_latestOut_9 : decode cX7_latestOut 9 = .ok (.istore_n 1, 1) := by decide +kernel
theorem dX7_latestOut_10 : decode cX7_latestOut 10 = .ok (.iload_n 1, 1) := by decide +kernel
theorem dX7_latestOut_11 : decode cX7_latestOut 11 = .ok (.ifCond .lt 28, 3) := by decide +kernel
theorem dX7_latestOut_14 : decode cX7_latestOut 14 = .ok (.aload_n 0, 1) := by decide +kernel
theorem dX7_latestOut_15 : decode cX7_latestOut 15 = .ok (.getfield 61, 3) := by decide +kernel
theorem dX7_latestOut_18 : decode cX7_latestOut 18 = .ok (.iload_n 1, 1) := by decide +kernel
theorem dX7_latestOut_19 : decode cX7_latestOut 19 = .ok (.invokevirtual 189, 3) := by decide +kernel
theorem dX7_latestOut_22 : decode cX7_latestOut 22 = .ok (.checkcast 169, 3) := by decide +kernel
theorem dX7_latestOut_25 : decode cX7_latestOut 25 = .ok (.getfield 209, 3) := by decide +kernel
theorem dX7_latestOut_28 : decode cX7_latestOut 28 = .ok (.ifCond .ne 5, 3) := by decide +kernel
theorem dX7_latestOut_31 : decode cX7_latestOut 31 = .ok (.iload_n 1, 1) := by decide +kernel
theorem dX7_latestOut_32 : decode cX7_latestOut 32 = .ok (.ireturn, 1) := by decide +kernel
theorem dX7_latestOut_33 : decode cX7_latestOut 33 = .ok (.iinc 1 (-1), 3) := by decide +kernel
theorem dX7_latestOut_36 : decode cX7_latestOut 36 = .ok (.goto (-26), 3) := by decide +kernel
theorem dX7_latestOut_39 : decode cX7_latestOut 39 = .ok (.iconst (-1), 1) := by decide +kernel
theorem dX7_latestOut_40 : decode cX7_latestOut 40 = .ok (.ireturn, 1) := by decide +kernel
theorem dX7_trainsOut_0 : decode cX7_trainsOut 0 = .ok (.iconst 0, 1) := by decide +kernel
theorem dX7_trainsOut_1 : decode cX7_trainsOut 1 = .ok (.istore_n 1, 1) := by decide +kernel
theorem dX7_trainsOut_2 : decode cX7_trainsOut 2 = .ok (.iconst 0, 1) := by decide +kernel
theorem dX7_trainsOut_3 : decode cX7_trainsOut 3 = .ok (.istore_n 2, 1) := by decide +kernel
theorem dX7_trainsOut_4 : decode cX7_trainsOut 4 = .ok (.iload_n 2, 1) := by decide +kernel
theorem dX7_trainsOut_5 : decode cX7_trainsOut 5 = .ok (.aload_n 0, 1) := by decide +kernel
theorem dX7_trainsOut_6 : decode cX7_trainsOut 6 = .ok (.getfield 61, 3) := by decide +kernel
theorem dX7_trainsOut_9 : decode cX7_trainsOut 9 = .ok (.invokevirtual 160, 3) := by decide +kernel
theorem dX7_trainsOut_12 : decode cX7_trainsOut 12 = .ok (.if_icmp .ge 29, 3) := by decide +kernel
theorem dX7_trainsOut_15 : decode cX7_trainsOut 15 = .ok (.aload_n 0, 1) := by decide +kernel
theorem dX7_trainsOut_16 : decode cX7_trainsOut 16 = .ok (.getfield 61, 3) := by decide +kernel
theorem dX7_trainsOut_19 : decode cX7_trainsOut 19 = .ok (.iload_n 2, 1) := by decide +kernel
theorem dX7_trainsOut_20 : decode cX7_trainsOut 20 = .ok (.invokevirtual 189, 3) := by decide +kernel
theorem dX7_trainsOut_23 : decode cX7_trainsOut 23 = .ok (.checkcast 169, 3) := by decide +kernel
theorem dX7_trainsOut_26 : decode cX7_trainsOut 26 = .ok (.getfield 209, 3) := by decide +kernel
theorem dX7_trainsOut_29 : decode cX7_trainsOut 29 = .ok (.ifCond .ne 6, 3) := by decide +kernel
theorem dX7_trainsOut_32 : decode cX7_trainsOut 32 = .ok (.iinc 1 1, 3) := by decide +kernel
theorem dX7_trainsOut_35 : decode cX7_trainsOut 35 = .ok (.iinc 2 1, 3) := by decide +kernel
theorem dX7_trainsOut_38 : decode cX7_trainsOut 38 = .ok (.goto (-34), 3) := by decide +kernel
theorem dX7_trainsOut_41 : decode cX7_trainsOut 41 = .ok (.iload_n 1, 1) := by decide +kernel
theorem dX7_trainsOut_42 : decode cX7_trainsOut 42 = .ok (.ireturn, 1) := by decide +kernel
theorem dX7_isStuck_0 : decode cX7_isStuck 0 = .ok (.iconst 0, 1) := by decide +kernel
theorem dX7_isStuck_1 : decode cX7_isStuck 1 = .ok (.istore_n 2, 1) := by decide +kernel
theorem dX7_isStuck_2 : decode cX7_isStuck 2 = .ok (.iload_n 2, 1) := by decide +kernel
theorem dX7_isStuck_3 : decode cX7_isStuck 3 = .ok (.aload_n 0, 1) := by decide +kernel
theorem dX7_isStuck_4 : decode cX7_isStuck 4 = .ok (.getfield 65, 3) := by decide +kernel
theorem dX7_isStuck_7 : decode cX7_isStuck 7 = .ok (.if_icmp .ge 37, 3) := by decide +kernel
theorem dX7_isStuck_10 : decode cX7_isStuck 10 = .ok (.iload_n 1, 1) := by decide +kernel
theorem dX7_isStuck_11 : decode cX7_isStuck 11 = .ok (.iload_n 2, 1) := by decide +kernel
theorem dX7_isStuck_12 : decode cX7_isStuck 12 = .ok (.ishr, 1) := by decide +kernel
theorem dX7_isStuck_13 : decode cX7_isStuck 13 = .ok (.iconst 1, 1) := by decide +kernel
theorem dX7_isStuck_14 : decode cX7_isStuck 14 = .ok (.iand, 1) := by decide +kernel
theorem dX7_isStuck_15 : decode cX7_isStuck 15 = .ok (.ifCond .eq 23, 3) := by decide +kernel
theorem dX7_isStuck_18 : decode cX7_isStuck 18 = .ok (.aload_n 0, 1) := by decide +kernel
theorem dX7_isStuck_19 : decode cX7_isStuck 19 = .ok (.getfield 54, 3) := by decide +kernel
theorem dX7_isStuck_22 : decode cX7_isStuck 22 = .ok (.iload_n 2, 1) := by decide +kernel
theorem dX7_isStuck_23 : decode cX7_isStuck 23 = .ok (.aload_n 0, 1) := by decide +kernel
theorem dX7_isStuck_24 : decode cX7_isStuck 24 = .ok (.getfield 9, 3) := by decide +kernel
theorem dX7_isStuck_27 : decode cX7_isStuck 27 = .ok (.iload_n 2, 1) := by decide +kernel
theorem dX7_isStuck_28 : decode cX7_isStuck 28 = .ok (.iaload, 1) := by decide +kernel
theorem dX7_isStuck_29 : decode cX7_isStuck 29 = .ok (.invokevirtual 261, 3) := by decide +kernel
theorem dX7_isStuck_32 : decode cX7_isStuck 32 = .ok (.iconst (-1), 1) := by decide +kernel
theorem dX7_isStuck_33 : decode cX7_isStuck 33 = .ok (.if_icmp .eq 5, 3) := by decide +kernel
theorem dX7_isStuck_36 : decode cX7_isStuck 36 = .ok (.iconst 1, 1) := by decide +kernel
theorem dX7_isStuck_37 : decode cX7_isStuck 37 = .ok (.ireturn, 1) := by decide +kernel
theorem dX7_isStuck_38 : decode cX7_isStuck 38 = .ok (.iinc 2 1, 3) := by decide +kernel
theorem dX7_isStuck_41 : decode cX7_isStuck 41 = .ok (.goto (-39), 3) := by decide +kernel
theorem dX7_isStuck_44 : decode cX7_isStuck 44 = .ok (.iconst 0, 1) := by decide +kernel
theorem dX7_isStuck_45 : decode cX7_isStuck 45 = .ok (.ireturn, 1) := by decide +kernel
theorem dX7_bringHome_0 : decode cX7_bringHome 0 = .ok (.iconst 0, 1) := by decide +kernel
theorem dX7_bringHome_1 : decode cX7_bringHome 1 = .ok (.istore_n 3, 1) := by decide +kernel
theorem dX7_bringHome_2 : decode cX7_bringHome 2 = .ok (.iload_n 3, 1) := by decide +kernel
theorem dX7_bringHome_3 : decode cX7_bringHome 3 = .ok (.aload_n 1, 1) := by decide +kernel
theorem dX7_bringHome_4 : decode cX7_bringHome 4 = .ok (.arraylength, 1) := by decide +kernel
theorem dX7_bringHome_5 : decode cX7_bringHome 5 = .ok (.if_icmp .ge 32, 3) := by decide +kernel
theorem dX7_bringHome_8 : decode cX7_bringHome 8 = .ok (.iload_n 3, 1) := by decide +kernel
theorem dX7_bringHome_9 : decode cX7_bringHome 9 = .ok (.bipush 10, 2) := by decide +kernel
theorem dX7_bringHome_11 : decode cX7_bringHome 11 = .ok (.if_icmp .ge 26, 3) := by decide +kernel
theorem dX7_bringHome_14 : decode cX7_bringHome 14 = .ok (.iload_n 2, 1) := by decide +kernel
theorem dX7_bringHome_15 : decode cX7_bringHome 15 = .ok (.iload_n 3, 1) := by decide +kernel
theorem dX7_bringHome_16 : decode cX7_bringHome 16 = .ok (.ishr, 1) := by decide +kernel
theorem dX7_bringHome_17 : decode cX7_bringHome 17 = .ok (.iconst 1, 1) := by decide +kernel
theorem dX7_bringHome_18 : decode cX7_bringHome 18 = .ok (.iand, 1) := by decide +kernel
theorem dX7_bringHome_19 : decode cX7_bringHome 19 = .ok (.ifCond .eq 12, 3) := by decide +kernel
theorem dX7_bringHome_22 : decode cX7_bringHome 22 = .ok (.aload_n 0, 1) := by decide +kernel
theorem dX7_bringHome_23 : decode cX7_bringHome 23 = .ok (.getfield 9, 3) := by decide +kernel
theorem dX7_bringHome_26 : decode cX7_bringHome 26 = .ok (.iload_n 3, 1) := by decide +kernel
theorem dX7_bringHome_27 : decode cX7_bringHome 27 = .ok (.aload_n 1, 1) := by decide +kernel
theorem dX7_bringHome_28 : decode cX7_bringHome 28 = .ok (.iload_n 3, 1) := by decide +kernel
theorem dX7_bringHome_29 : decode cX7_bringHome 29 = .ok (.iaload, 1) := by decide +kernel
theorem dX7_bringHome_30 : decode cX7_bringHome 30 = .ok (.iastore, 1) := by decide +kernel
theorem dX7_bringHome_31 : decode cX7_bringHome 31 = .ok (.iinc 3 1, 3) := by decide +kernel
theorem dX7_bringHome_34 : decode cX7_bringHome 34 = .ok (.goto (-32), 3) := by decide +kernel
theorem dX7_bringHome_37 : decode cX7_bringHome 37 = .ok (.return_, 1) := by decide +kernel
theorem dX7_dropOffersAtHome_0 : decode cX7_dropOffersAtHome 0 = .ok (.iconst 0, 1) := by decide +kernel
theorem dX7_dropOffersAtHome_1 : decode cX7_dropOffersAtHome 1 = .ok (.istore_n 1, 1) := by decide +kernel
theorem dX7_dropOffersAtHome_2 : decode cX7_dropOffersAtHome 2 = .ok (.iload_n 1, 1) := by decide +kernel
theorem dX7_dropOffersAtHome_3 : decode cX7_dropOffersAtHome 3 = .ok (.aload_n 0, 1) := by decide +kernel
theorem dX7_dropOffersAtHome_4 : decode cX7_dropOffersAtHome 4 = .ok (.getfield 65, 3) := by decide +kernel
theorem dX7_dropOffersAtHome_7 : decode cX7_dropOffersAtHome 7 = .ok (.if_icmp .ge 34, 3) := by decide +kernel
theorem dX7_dropOffersAtHome_10 : decode cX7_dropOffersAtHome 10 = .ok (.aload_n 0, 1) := by decide +kernel
theorem dX7_dropOffersAtHome_11 : decode cX7_dropOffersAtHome 11 = .ok (.getfield 16, 3) := by decide +kernel
theorem dX7_dropOffersAtHome_14 : decode cX7_dropOffersAtHome 14 = .ok (.iload_n 1, 1) := by decide +kernel
theorem dX7_dropOffersAtHome_15 : decode cX7_dropOffersAtHome 15 = .ok (.invokevirtual 141, 3) := by decide +kernel
theorem dX7_dropOffersAtHome_18 : decode cX7_dropOffersAtHome 18 = .ok (.aload_n 0, 1) := by decide +kernel
theorem dX7_dropOffersAtHome_19 : decode cX7_dropOffersAtHome 19 = .ok (.getfield 9, 3) := by decide +kernel
theorem dX7_dropOffersAtHome_22 : decode cX7_dropOffersAtHome 22 = .ok (.iload_n 1, 1) := by decide +kernel
theorem dX7_dropOffersAtHome_23 : decode cX7_dropOffersAtHome 23 = .ok (.iaload, 1) := by decide +kernel
theorem dX7_dropOffersAtHome_24 : decode cX7_dropOffersAtHome 24 = .ok (.if_icmp .ne 11, 3) := by decide +kernel
theorem dX7_dropOffersAtHome_27 : decode cX7_dropOffersAtHome 27 = .ok (.aload_n 0, 1) := by decide +kernel
theorem dX7_dropOffersAtHome_28 : decode cX7_dropOffersAtHome 28 = .ok (.getfield 16, 3) := by decide +kernel
theorem dX7_dropOffersAtHome_31 : decode cX7_dropOffersAtHome 31 = .ok (.iload_n 1, 1) := by decide +kernel
theorem dX7_dropOffersAtHome_32 : decode cX7_dropOffersAtHome 32 = .ok (.invokevirtual 101, 3) := by decide +kernel
theorem dX7_dropOffersAtHome_35 : decode cX7_dropOffersAtHome 35 = .ok (.iinc 1 1, 3) := by decide +kernel
theorem dX7_dropOffersAtHome_38 : decode cX7_dropOffersAtHome 38 = .ok (.goto (-36), 3) := by decide +kernel
theorem dX7_dropOffersAtHome_41 : decode cX7_dropOffersAtHome 41 = .ok (.return_, 1) := by decide +kernel
