theorem dX0_init_0 : decode cX0_init 0 = .ok (.aload_n 0, 1) := by decide +kernel
theorem dX0_init_1 : decode cX0_init 1 = .ok (.invokespecial 3, 3) := by decide +kernel
theorem dX0_init_4 : decode cX0_init 4 = .ok (.return_, 1) := by decide +kernel
theorem dX0_follow_0 : decode cX0_follow 0 = .ok (.aload_n 0, 1) := by decide +kernel
theorem dX0_follow_1 : decode cX0_follow 1 = .ok (.iconst 0, 1) := by decide +kernel
theorem dX0_follow_2 : decode cX0_follow 2 = .ok (.putfield 9, 3) := by decide +kernel
theorem dX0_follow_5 : decode cX0_follow 5 = .ok (.aload_n 0, 1) := by decide +kernel
theorem dX0_follow_6 : decode cX0_follow 6 = .ok (.aload_n 0, 1) := by decide +kernel
theorem dX0_follow_7 : decode cX0_follow 7 = .ok (.aload_n 1, 1) := by decide +kernel
theorem dX0_follow_8 : decode cX0_follow 8 = .ok (.iload_n 2, 1) := by decide +kernel
theorem dX0_follow_9 : decode cX0_follow 9 = .ok (.invokevirtual 15, 3) := by decide +kernel
theorem dX0_follow_12 : decode cX0_follow 12 = .ok (.ifCond .eq 7, 3) := by decide +kernel
theorem dX0_follow_15 : decode cX0_follow 15 = .ok (.iload_n 2, 1) := by decide +kernel
theorem dX0_follow_16 : decode cX0_follow 16 = .ok (.goto 4, 3) := by decide +kernel
theorem dX0_follow_19 : decode cX0_follow 19 = .ok (.iconst 0, 1) := by decide +kernel
theorem dX0_follow_20 : decode cX0_follow 20 = .ok (.putfield 19, 3) := by decide +kernel
theorem dX0_follow_23 : decode cX0_follow 23 = .ok (.iconst 2, 1) := by decide +kernel
theorem dX0_follow_24 : decode cX0_follow 24 = .ok (.istore_n 3, 1) := by decide +kernel
theorem dX0_follow_25 : decode cX0_follow 25 = .ok (.iconst 0, 1) := by decide +kernel
theorem dX0_follow_26 : decode cX0_follow 26 = .ok (.istore 4, 2) := by decide +kernel
theorem dX0_follow_28 : decode cX0_follow 28 = .ok (.iconst 0, 1) := by decide +kernel
theorem dX0_follow_29 : decode cX0_follow 29 = .ok (.istore 5, 2) := by decide +kernel
theorem dX0_follow_31 : decode cX0_follow 31 = .ok (.iload 5, 2) := by decide +kernel
theorem dX0_follow_33 : decode cX0_follow 33 = .ok (.sipush 1000, 3) := by decide +kernel
theorem dX0_follow_36 : decode cX0_follow 36 = .ok (.if_icmp .ge 87, 3) := by decide +kernel
theorem dX0_follow_39 : decode cX0_follow 39 = .ok (.iload 4, 2) := by decide +kernel
theorem dX0_follow_41 : decode cX0_follow 41 = .ok (.ifCond .ne 82, 3) := by decide +kernel
theorem dX0_follow_44 : decode cX0_follow 44 = .ok (.aload_n 0, 1) := by decide +kernel
theorem dX0_follow_45 : decode cX0_follow 45 = .ok (.getfield 19, 3) := by decide +kernel
theorem dX0_follow_48 : decode cX0_follow 48 = .ok (.invokestatic 22, 3) := by decide +kernel
theorem dX0_follow_51 : decode cX0_follow 51 = .ok (.iconst 1, 1) := by decide +kernel
theorem dX0_follow_52 : decode cX0_follow 52 = .ok (.if_icmp .le 71, 3) := by decide +kernel
theorem dX0_follow_55 : decode cX0_follow 55 = .ok (.aload_n 0, 1) := by decide +kernel
theorem dX0_follow_56 : decode cX0_follow 56 = .ok (.aload_n 1, 1) := by decide +kernel
theorem dX0_follow_57 : decode cX0_follow 57 = .ok (.iload_n 3, 1) := by decide +kernel
theorem dX0_follow_58 : decode cX0_follow 58 = .ok (.invokevirtual 28, 3) := by decide +kernel
theorem dX0_follow_61 : decode cX0_follow 61 = .ok (.istore 6, 2) := by decide +kernel
theorem dX0_follow_63 : decode cX0_follow 63 = .ok (.iload 6, 2) := by decide +kernel
theorem dX0_follow_65 : decode cX0_follow 65 = .ok (.iconst (-1), 1) := by decide +kernel
theorem dX0_follow_66 : decode cX0_follow 66 = .ok (.if_icmp .eq 20, 3) := by decide +kernel
theorem dX0_follow_69 : decode cX0_follow 69 = .ok (.aload_n 0, 1) := by decide +kernel
theorem dX0_follow_70 : decode cX0_follow 70 = .ok (.iload 6, 2) := by decide +kernel
theorem dX0_follow_72 : decode cX0_follow 72 = .ok (.putfield 19, 3) := by decide +kernel
theorem dX0_follow_75 : decode cX0_follow 75 = .ok (.iload_n 3, 1) := by decide +kernel
theorem dX0_follow_76 : decode cX0_follow 76 = .ok (.iconst 1, 1) := by decide +kernel
theorem dX0_follow_77 : decode cX0_follow 77 = .ok (.isub, 1) := by decide +kernel
theorem dX0_follow_78 : decode cX0_follow 78 = .ok (.iconst 2, 1) := by decide +kernel
theorem dX0_follow_79 : decode cX0_follow 79 = .ok (.invokestatic 32, 3) := by decide +kernel
theorem dX0_follow_82 : decode cX0_follow 82 = .ok (.istore_n 3, 1) := by decide +kernel
theorem dX0_follow_83 : decode cX0_follow 83 = .ok (.goto 34, 3) := by decide +kernel
theorem dX0_follow_86 : decode cX0_follow 86 = .ok (.aload_n 0, 1) := by decide +kernel
theorem dX0_follow_87 : decode cX0_follow 87 = .ok (.getfield 19, 3) := by decide +kernel
theorem dX0_follow_90 : decode cX0_follow 90 = .ok (.invokestatic 22, 3) := by decide +kernel
theorem dX0_follow_93 : decode cX0_follow 93 = .ok (.istore 7, 2) := by decide +kernel
theorem dX0_follow_95 : decode cX0_follow 95 = .ok (.iload_n 3, 1) := by decide +kernel
theorem dX0_follow_96 : decode cX0_follow 96 = .ok (.iload 7, 2) := by decide +kernel
theorem dX0_follow_98 : decode cX0_follow 98 = .ok (.if_icmp .lt 7, 3) := by decide +kernel
theorem dX0_follow_101 : decode cX0_follow 101 = .ok (.iconst 1, 1) := by decide +kernel
theorem dX0_follow_102 : decode cX0_follow 102 = .ok (.goto 4, 3) := by decide +kernel
theorem dX0_follow_105 : decode cX0_follow 105 = .ok (.iconst 0, 1) := by decide +kernel
theorem dX0_follow_106 : decode cX0_follow 106 = .ok (.istore 4, 2) := by decide +kernel
theorem dX0_follow_108 : decode cX0_follow 108 = .ok (.iload_n 3, 1) := by decide +kernel
theorem dX0_follow_109 : decode cX0_follow 109 = .ok (.iconst 2, 1) := by decide +kernel
theorem dX0_follow_110 : decode cX0_follow 110 = .ok (.imul, 1) := by decide +kernel
theorem dX0_follow_111 : decode cX0_follow 111 = .ok (.iload 7, 2) := by decide +kernel
theorem dX0_follow_113 : decode cX0_follow 113 = .ok (.invokestatic 38, 3) := by decide +kernel
theorem dX0_follow_116 : decode cX0_follow 116 = .ok (.istore_n 3, 1) := by decide +kernel
theorem dX0_follow_117 : decode cX0_follow 117 = .ok (.iinc 5 1, 3) := by decide +kernel
theorem dX0_follow_120 : decode cX0_follow 120 = .ok (.goto (-89), 3) := by decide +kernel
theorem dX0_follow_123 : decode cX0_follow 123 = .ok (.return_, 1) := by decide +kernel
theorem dX0_isRed_0 : decode cX0_isRed 0 = .ok (.aload_n 0, 1) := by decide +kernel
theorem dX0_isRed_1 : decode cX0_isRed 1 = .ok (.dup, 1) := by decide +kernel
theorem dX0_isRed_2 : decode cX0_isRed 2 = .ok (.getfield 9, 3) := by decide +kernel
theorem dX0_isRed_5 : decode cX0_isRed 5 = .ok (.iconst 1, 1) := by decide +kernel
theorem dX0_isRed_6 : decode cX0_isRed 6 = .ok (.iadd, 1) := by decide +kernel
theorem dX0_isRed_7 : decode cX0_isRed 7 = .ok (.putfield 9, 3) := by decide +kernel
theorem dX0_isRed_10 : decode cX0_isRed 10 = .ok (.aload_n 1, 1) := by decide +kernel
theorem dX0_isRed_11 : decode cX0_isRed 11 = .ok (.iload_n 2, 1) := by decide +kernel
theorem dX0_isRed_12 : decode cX0_isRed 12 = .ok (.invokevirtual 41, 3) := by decide +kernel
theorem dX0_isRed_15 : decode cX0_isRed 15 = .ok (.iconst (-1), 1) := by decide +kernel
theorem dX0_isRed_16 : decode cX0_isRed 16 = .ok (.if_icmp .eq 7, 3) := by decide +kernel
theorem dX0_isRed_19 : decode cX0_isRed 19 = .ok (.iconst 1, 1) := by decide +kernel
theorem dX0_isRed_20 : decode cX0_isRed 20 = .ok (.goto 4, 3) := by decide +kernel
theorem dX0_isRed_23 : decode cX0_isRed 23 = .ok (.iconst 0, 1) := by decide +kernel
theorem dX0_isRed_24 : decode cX0_isRed 24 = .ok (.ireturn, 1) := by decide +kernel
theorem dX0_withoutPiece_0 : decode cX0_withoutPiece 0 = .ok (.iload_n 2, 1) := by decide +kernel
theorem dX0_withoutPiece_1 : decode cX0_withoutPiece 1 = .ok (.iconst 1, 1) := by decide +kernel
theorem dX0_withoutPiece_2 : decode cX0_withoutPiece 2 = .ok (.if_icmp .ge 5, 3) := by decide +kernel
theorem dX0_withoutPiece_5 : decode cX0_withoutPiece 5 = .ok (.iconst (-1), 1) := by decide +kernel
theorem dX0_withoutPiece_6 : decode cX0_withoutPiece 6 = .ok (.ireturn, 1) := by decide +kernel
theorem dX0_withoutPiece_7 : decode cX0_withoutPiece 7 = .ok (.aload_n 0, 1) := by decide +kernel
theorem dX0_withoutPiece_8 : decode cX0_withoutPiece 8 = .ok (.getfield 19, 3) := by decide +kernel
theorem dX0_withoutPiece_11 : decode cX0_withoutPiece 11 = .ok (.invokestatic 22, 3) := by decide +kernel
theorem dX0_withoutPiece_14 : decode cX0_withoutPiece 14 = .ok (.istore_n 3, 1) := by decide +kernel
theorem dX0_withoutPiece_15 : decode cX0_withoutPiece 15 = .ok (.iload_n 3, 1) := by decide +kernel
theorem dX0_withoutPiece_16 : decode cX0_withoutPiece 16 = .ok (.iload_n 2, 1) := by decide +kernel
theorem dX0_withoutPiece_17 : decode cX0_withoutPiece 17 = .ok (.irem, 1) := by decide +kernel
theorem dX0_withoutPiece_18 : decode cX0_withoutPiece 18 = .ok (.istore 4, 2) := by decide +kernel
theorem dX0_withoutPiece_20 : decode cX0_withoutPiece 20 = .ok (.aload_n 0, 1) := by decide +kernel
theorem dX0_withoutPiece_21 : decode cX0_withoutPiece 21 = .ok (.getfield 19, 3) := by decide +kernel
theorem dX0_withoutPiece_24 : decode cX0_withoutPiece 24 = .ok (.istore 5, 2) := by decide +kernel
theorem dX0_withoutPiece_26 : decode cX0_withoutPiece 26 = .ok (.iconst 0, 1) := by decide +kernel
theorem dX0_withoutPiece_27 : decode cX0_withoutPiece 27 = .ok (.istore 6, 2) := by decide +kernel
theorem dX0_withoutPiece_29 : decode cX0_withoutPiece 29 = .ok (.iload 6, 2) := by decide +kernel
theorem dX0_withoutPiece_31 : decode cX0_withoutPiece 31 = .ok (.iload_n 2, 1) := by decide +kernel
theorem dX0_withoutPiece_32 : decode cX0_withoutPiece 32 = .ok (.if_icmp .ge 72, 3) := by decide +kernel
theorem dX0_withoutPiece_35 : decode cX0_withoutPiece 35 = .ok (.iload 5, 2) := by decide +kernel
theorem dX0_withoutPiece_37 : decode cX0_withoutPiece 37 = .ok (.iload_n 3, 1) := by decide +kernel
theorem dX0_withoutPiece_38 : decode cX0_withoutPiece 38 = .ok (.iload_n 2, 1) := by decide +kernel
theorem dX0_withoutPiece_39 : decode cX0_withoutPiece 39 = .ok (.idiv, 1) := by decide +kernel
theorem dX0_withoutPiece_40 : decode cX0_withoutPiece 40 = .ok (.iload 6, 2) := by decide +kernel
theorem dX0_withoutPiece_42 : decode cX0_withoutPiece 42 = .ok (.iload 4, 2) := by decide +kernel
theorem dX0_withoutPiece_44 : decode cX0_withoutPiece 44 = .ok (.if_icmp .ge 7, 3) := by decide +kernel
theorem dX0_withoutPiece_47 : decode cX0_withoutPiece 47 = .ok (.iconst 1, 1) := by decide +kernel
theorem dX0_withoutPiece_48 : decode cX0_withoutPiece 48 = .ok (.goto 4, 3) := by decide +kernel
theorem dX0_withoutPiece_51 : decode cX0_withoutPiece 51 = .ok (.iconst 0, 1) := by decide +kernel
theorem dX0_withoutPiece_52 : decode cX0_withoutPiece 52 = .ok (.iadd, 1) := by decide +kernel
theorem dX0_withoutPiece_53 : decode cX0_withoutPiece 53 = .ok (.invokestatic 46, 3) := by decide +kernel
theorem dX0_withoutPiece_56 : decode cX0_withoutPiece 56 = .ok (.istore 7, 2) := by decide +kernel
theorem dX0_withoutPiece_58 : decode cX0_withoutPiece 58 = .ok (.iload 5, 2) := by decide +kernel
theorem dX0_withoutPiece_60 : decode cX0_withoutPiece 60 = .ok (.iload 7, 2) := by decide +kernel
theorem dX0_withoutPiece_62 : decode cX0_withoutPiece 62 = .ok (.iconst (-1), 1) := by decide +kernel
theorem dX0_withoutPiece_63 : decode cX0_withoutPiece 63 = .ok (.ixor, 1) := by decide +kernel
theorem dX0_withoutPiece_64 : decode cX0_withoutPiece 64 = .ok (.iand, 1) := by decide +kernel
theorem dX0_withoutPiece_65 : decode cX0_withoutPiece 65 = .ok (.istore 8, 2) := by decide +kernel
theorem dX0_withoutPiece_67 : decode cX0_withoutPiece 67 = .ok (.aload_n 0, 1) := by decide +kernel
theorem dX0_withoutPiece_68 : decode cX0_withoutPiece 68 = .ok (.aload_n 1, 1) := by decide +kernel
theorem dX0_withoutPiece_69 : decode cX0_withoutPiece 69 = .ok (.aload_n 0, 1) := by decide +kernel
theorem dX0_withoutPiece_70 : decode cX0_withoutPiece 70 = .ok (.getfield 19, 3) := by decide +kernel
theorem dX0_withoutPiece_73 : decode cX0_withoutPiece 73 = .ok (.iload 8, 2) := by decide +kernel
theorem dX0_withoutPiece_75 : decode cX0_withoutPiece 75 = .ok (.iconst (-1), 1) := by decide +kernel
theorem dX0_withoutPiece_76 : decode cX0_withoutPiece 76 = .ok (.ixor, 1) := by decide +kernel
theorem dX0_withoutPiece_77 : decode cX0_withoutPiece 77 = .ok (.iand, 1) := by decide +kernel
theorem dX0_withoutPiece_78 : decode cX0_withoutPiece 78 = .ok (.invokevirtual 15, 3) := by decide +kernel
theorem dX0_withoutPiece_81 : decode cX0_withoutPiece 81 = .ok (.ifCond .eq 13, 3) := by decide +kernel
theorem dX0_withoutPiece_84 : decode cX0_withoutPiece 84 = .ok (.aload_n 0, 1) := by decide +kernel
theorem dX0_withoutPiece_85 : decode cX0_withoutPiece 85 = .ok (.getfield 19, 3) := by decide +kernel
theorem dX0_withoutPiece_88 : decode cX0_withoutPiece 88 = .ok (.iload 8, 2) := by decide +kernel
theorem dX0_withoutPiece_90 : decode cX0_withoutPiece 90 = .ok (.iconst (-1), 1) := by decide +kernel
theorem dX0_withoutPiece_91 : decode cX0_withoutPiece 91 = .ok (.ixor, 1) := by decide +kernel
theorem dX0_withoutPiece_92 : decode cX0_withoutPiece 92 = .ok (.iand, 1) := by decide +kernel
theorem dX0_withoutPiece_93 : decode cX0_withoutPiece 93 = .ok (.ireturn, 1) := by decide +kernel
theorem dX0_withoutPiece_94 : decode cX0_withoutPiece 94 = .ok (.iload 7, 2) := by decide +kernel
theorem dX0_withoutPiece_96 : decode cX0_withoutPiece 96 = .ok (.istore 5, 2) := by decide +kernel
theorem dX0_withoutPiece_98 : decode cX0_withoutPiece 98 = .ok (.iinc 6 1, 3) := by decide +kernel
theorem dX0_withoutPiece_101 : decode cX0_withoutPiece 101 = .ok (.goto (-72), 3) := by decide +kernel
theorem dX0_withoutPiece_104 : decode cX0_withoutPiece 104 = .ok (.iconst (-1), 1) := by decide +kernel
theorem dX0_withoutPiece_105 : decode cX0_withoutPiece 105 = .ok (.ireturn, 1) := by decide +kernel
theorem dX0_withoutLowest_0 : decode cX0_withoutLowest 0 = .ok (.iload_n 0, 1) := by decide +kernel
theorem dX0_withoutLowest_1 : decode cX0_withoutLowest 1 = .ok (.istore_n 2, 1) := by decide +kernel
theorem dX0_withoutLowest_2 : decode cX0_withoutLowest 2 = .ok (.iconst 0, 1) := by decide +kernel
theorem dX0_withoutLowest_3 : decode cX0_withoutLowest 3 = .ok (.istore_n 3, 1) := by decide +kernel
theorem dX0_withoutLowest_4 : decode cX0_withoutLowest 4 = .ok (.iload_n 3, 1) := by decide +kernel
theorem dX0_withoutLowest_5 : decode cX0_withoutLowest 5 = .ok (.iload_n 1, 1) := by decide +kernel
theorem dX0_withoutLowest_6 : decode cX0_withoutLowest 6 = .ok (.if_icmp .ge 18, 3) := by decide +kernel
theorem dX0_withoutLowest_9 : decode cX0_withoutLowest 9 = .ok (.iload_n 2, 1) := by decide +kernel
theorem dX0_withoutLowest_10 : decode cX0_withoutLowest 10 = .ok (.iload_n 2, 1) := by decide +kernel
theorem dX0_withoutLowest_11 : decode cX0_withoutLowest 11 = .ok (.invokestatic 49, 3) := by decide +kernel
theorem dX0_withoutLowest_14 : decode cX0_withoutLowest 14 = .ok (.iconst (-1), 1) := by decide +kernel
theorem dX0_withoutLowest_15 : decode cX0_withoutLowest 15 = .ok (.ixor, 1) := by decide +kernel
theorem dX0_withoutLowest_16 : decode cX0_withoutLowest 16 = .ok (.iand, 1) := by decide +kernel
theorem dX0_withoutLowest_17 : decode cX0_withoutLowest 17 = .ok (.istore_n 2, 1) := by decide +kernel
theorem dX0_withoutLowest_18 : decode cX0_withoutLowest 18 = .ok (.iinc 3 1, 3) := by decide +kernel
theorem dX0_withoutLowest_21 : decode cX0_withoutLowest 21 = .ok (.goto (-17), 3) := by decide +kernel
theorem dX0_withoutLowest_24 : decode cX0_withoutLowest 24 = .ok (.iload_n 2, 1) := by decide +kernel
theorem dX0_withoutLowest_25 : decode cX0_withoutLowest 25 = .ok (.ireturn, 1) := by decide +kernel
theorem dX1_init_0 : decode cX1_init 0 = .ok (.aload_n 0, 1) := by decide +kernel
theorem dX1_init_1 : decode cX1_init 1 = .ok (.invokespecial 3, 3) := by decide +kernel
theorem dX1_init_4 : decode cX1_init 4 = .ok (.aload_n 0, 1) := by decide +kernel
theorem dX1_init_5 : decode cX1_init 5 = .ok (.bipush 30, 2) := by decide +kernel
theorem dX1_init_7 : decode cX1_init 7 = .ok (.newarray .int, 2) := by decide +kernel
theorem dX1_init_9 : decode cX1_init 9 = .ok (.putfield 9, 3) := by decide +kernel
theorem dX1_init_12 : decode cX1_init 12 = .ok (.aload_n 0, 1) := by decide +kernel
theorem dX1_init_13 : decode cX1_init 13 = .ok (.bipush 30, 2) := by decide +kernel
theorem dX1_init_15 : decode cX1_init 15 = .ok (.newarray .int, 2) := by decide +kernel
theorem dX1_init_17 : decode cX1_init 17 = .ok (.putfield 15, 3) := by decide +kernel
theorem dX1_init_20 : decode cX1_init 20 = .ok (.aload_n 0, 1) := by decide +kernel
theorem dX1_init_21 : decode cX1_init 21 = .ok (.bipush 30, 2) := by decide +kernel
theorem dX1_init_23 : decode cX1_init 23 = .ok (.newarray .int, 2) := by decide +kernel
theorem dX1_init_25 : decode cX1_init 25 = .ok (.putfield 18, 3) := by decide +kernel
theorem dX1_init_28 : decode cX1_init 28 = .ok (.aload_n 0, 1) := by decide +kernel
theorem dX1_init_29 : decode cX1_init 29 = .ok (.bipush 30, 2) := by decide +kernel
theorem dX1_init_31 : decode cX1_init 31 = .ok (.newarray .int, 2) := by decide +kernel
theorem dX1_init_33 : decode cX1_init 33 = .ok (.putfield 21, 3) := by decide +kernel
theorem dX1_init_36 : decode cX1_init 36 = .ok (.aload_n 0, 1) := by decide +kernel
theorem dX1_init_37 : decode cX1_init 37 = .ok (.bipush 30, 2) := by decide +kernel
theorem dX1_init_39 : decode cX1_init 39 = .ok (.newarray .int, 2) := by decide +kernel
theorem dX1_init_41 : decode cX1_init 41 = .ok (.putfield 24, 3) := by decide +kernel
theorem dX1_init_44 : decode cX1_init 44 = .ok (.aload_n 0, 1) := by decide +kernel
theorem dX1_init_45 : decode cX1_init 45 = .ok (.bipush 30, 2) := by decide +kernel
theorem dX1_init_47 : decode cX1_init 47 = .ok (.newarray .int, 2) := by decide +kernel
theorem dX1_init_49 : decode cX1_init 49 = .ok (.putfield 27, 3) := by decide +kernel
theorem dX1_init_52 : decode cX1_init 52 = .ok (.aload_n 0, 1) := by decide +kernel
theorem dX1_init_53 : decode cX1_init 53 = .ok (.bipush 30, 2) := by decide +kernel
theorem dX1_init_55 : decode cX1_init 55 = .ok (.newarray .int, 2) := by decide +kernel
theorem dX1_init_57 : decode cX1_init 57 = .ok (.putfield 30, 3) := by decide +kernel
theorem dX1_init_60 : decode cX1_init 60 = .ok (.aload_n 0, 1) := by decide +kernel
theorem dX1_init_61 : decode cX1_init 61 = .ok (.iconst 0, 1) := by decide +kernel
theorem dX1_init_62 : decode cX1_init 62 = .ok (.putfield 33, 3) := by decide +kernel
theorem dX1_init_65 : decode cX1_init 65 = .ok (.return_, 1) := by decide +kernel
theorem dX1_add_0 : decode cX1_add 0 = .ok (.aload_n 0, 1) := by decide +kernel
theorem dX1_add_1 : decode cX1_add 1 = .ok (.getfield 33, 3) := by decide +kernel
theorem dX1_add_4 : decode cX1_add 4 = .ok (.bipush 30, 2) := by decide +kernel
theorem dX1_add_6 : decode cX1_add 6 = .ok (.if_icmp .lt 5, 3) := by decide +kernel
theorem dX1_add_9 : decode cX1_add 9 = .ok (.iconst (-1), 1) := by decide +kernel
theorem dX1_add_10 : decode cX1_add 10 = .ok (.ireturn, 1) := by decide +kernel
theorem dX1_add_11 : decode cX1_add 11 = .ok (.aload_n 0, 1) := by decide +kernel
theorem dX1_add_12 : decode cX1_add 12 = .ok (.getfield 9, 3) := by decide +kernel
theorem dX1_add_15 : decode cX1_add 15 = .ok (.aload_n 0, 1) := by decide +kernel
theorem dX1_add_16 : decode cX1_add 16 = .ok (.getfield 33, 3) := by decide +kernel
theorem dX1_add_19 : decode cX1_add 19 = .ok (.iload_n 1, 1) := by decide +kernel
theorem dX1_add_20 : decode cX1_add 20 = .ok (.iastore, 1) := by decide +kernel
theorem dX1_add_21 : decode cX1_add 21 = .ok (.aload_n 0, 1) := by decide +kernel
theorem dX1_add_22 : decode cX1_add 22 = .ok (.getfield 15, 3) := by decide +kernel
theorem dX1_add_25 : decode cX1_add 25 = .ok (.aload_n 0, 1) := by decide +kernel
theorem dX1_add_26 : decode cX1_add 26 = .ok (.getfield 33, 3) := by decide +kernel
theorem dX1_add_29 : decode cX1_add 29 = .ok (.iload_n 2, 1) := by decide +kernel
theorem dX1_add_30 : decode cX1_add 30 = .ok (.iastore, 1) := by decide +kernel
theorem dX1_add_31 : decode cX1_add 31 = .ok (.aload_n 0, 1) := by decide +kernel
theorem dX1_add_32 : decode cX1_add 32 = .ok (.getfield 18, 3) := by decide +kernel
theorem dX1_add_35 : decode cX1_add 35 = .ok (.aload_n 0, 1) := by decide +kernel
theorem dX1_add_36 : decode cX1_add 36 = .ok (.getfield 33, 3) := by decide +kernel
theorem dX1_add_39 : decode cX1_add 39 = .ok (.iload_n 3, 1) := by decide +kernel
theorem dX1_add_40 : decode cX1_add 40 = .ok (.iastore, 1) := by decide +kernel
theorem dX1_add_41 : decode cX1_add 41 = .ok (.aload_n 0, 1) := by decide +kernel
theorem dX1_add_42 : decode cX1_add 42 = .ok (.getfield 21, 3) := by decide +kernel
theorem dX1_add_45 : decode cX1_add 45 = .ok (.aload_n 0, 1) := by decide +kernel
theorem dX1_add_46 : decode cX1_add 46 = .ok (.getfield 33, 3) := by decide +kernel
theorem dX1_add_49 : decode cX1_add 49 = .ok (.iload 4, 2) := by decide +kernel
theorem dX1_add_51 : decode cX1_add 51 = .ok (.iastore, 1) := by decide +kernel
theorem dX1_add_52 : decode cX1_add 52 = .ok (.aload_n 0, 1) := by decide +kernel
theorem dX1_add_53 : decode cX1_add 53 = .ok (.getfield 24, 3) := by decide +kernel
theorem dX1_add_56 : decode cX1_add 56 = .ok (.aload_n 0, 1) := by decide +kernel
theorem dX1_add_57 : decode cX1_add 57 = .ok (.getfield 33, 3) := by decide +kernel
theorem dX1_add_60 : decode cX1_add 60 = .ok (.iload 5, 2) := by decide +kernel
theorem dX1_add_62 : decode cX1_add 62 = .ok (.iastore, 1) := by decide +kernel
theorem dX1_add_63 : decode cX1_add 63 = .ok (.aload_n 0, 1) := by decide +kernel
theorem dX1_add_64 : decode cX1_add 64 = .ok (.dup, 1) := by decide +kernel
theorem dX1_add_65 : decode cX1_add 65 = .ok (.getfield 33, 3) := by decide +kernel
theorem dX1_add_68 : decode cX1_add 68 = .ok (.iconst 1, 1) := by decide +kernel
theorem dX1_add_69 : decode cX1_add 69 = .ok (.iadd, 1) := by decide +kernel
theorem dX1_add_70 : decode cX1_add 70 = .ok (.putfield 33, 3) := by decide +kernel
theorem dX1_add_73 : decode cX1_add 73 = .ok (.aload_n 0, 1) := by decide +kernel
theorem dX1_add_74 : decode cX1_add 74 = .ok (.getfield 33, 3) := by decide +kernel
theorem dX1_add_77 : decode cX1_add 77 = .ok (.iconst 1, 1) := by decide +kernel
theorem dX1_add_78 : decode cX1_add 78 = .ok (.isub, 1) := by decide +kernel
theorem dX1_add_79 : decode cX1_add 79 = .ok (.ireturn, 1) := by decide +kernel
theorem dX1_weigh_0 : decode cX1_weigh 0 = .ok (.iconst 0, 1) := by decide +kernel
theorem dX1_weigh_1 : decode cX1_weigh 1 = .ok (.istore_n 3, 1) := by decide +kernel
theorem dX1_weigh_2 : decode cX1_weigh 2 = .ok (.iload_n 3, 1) := by decide +kernel
theorem dX1_weigh_3 : decode cX1_weigh 3 = .ok (.aload_n 0, 1) := by decide +kernel
theorem dX1_weigh_4 : decode cX1_weigh 4 = .ok (.getfield 33, 3) := by decide +kernel
theorem dX1_weigh_7 : decode cX1_weigh 7 = .ok (.if_icmp .ge 16, 3) := by decide +kernel
theorem dX1_weigh_10 : decode cX1_weigh 10 = .ok (.aload_n 0, 1) := by decide +kernel
theorem dX1_weigh_11 : decode cX1_weigh 11 = .ok (.iload_n 3, 1) := by decide +kernel
theorem dX1_weigh_12 : decode cX1_weigh 12 = .ok (.aload_n 1, 1) := by decide +kernel
theorem dX1_weigh_13 : decode cX1_weigh 13 = .ok (.aload_n 2, 1) := by decide +kernel
theorem dX1_weigh_14 : decode cX1_weigh 14 = .ok (.invokevirtual 37, 3) := by decide +kernel
theorem dX1_weigh_17 : decode cX1_weigh 17 = .ok (.iinc 3 1, 3) := by decide +kernel
theorem dX1_weigh_20 : decode cX1_weigh 20 = .ok (.goto (-18), 3) := by decide +kernel
theorem dX1_weigh_23 : decode cX1_weigh 23 = .ok (.return_, 1) := by decide +kernel
theorem dX1_weighOne_0 : decode cX1_weighOne 0 = .ok (.aload_n 0, 1) := by decide +kernel
theorem dX1_weighOne_1 : decode cX1_weighOne 1 = .ok (.getfield 9, 3) := by decide +kernel
theorem dX1_weighOne_4 : decode cX1_weighOne 4 = .ok (.iload_n 1, 1) := by decide +kernel
theorem dX1_weighOne_5 : decode cX1_weighOne 5 = .ok (.iaload, 1) := by decide +kernel
theorem dX1_weighOne_6 : decode cX1_weighOne 6 = .ok (.istore 4, 2) := by decide +kernel
theorem dX1_weighOne_8 : decode cX1_weighOne 8 = .ok (.aload_n 0, 1) := by decide +kernel
theorem dX1_weighOne_9 : decode cX1_weighOne 9 = .ok (.getfield 18, 3) := by decide +kernel
theorem dX1_weighOne_12 : decode cX1_weighOne 12 = .ok (.iload_n 1, 1) := by decide +kernel
theorem dX1_weighOne_13 : decode cX1_weighOne 13 = .ok (.iaload, 1) := by decide +kernel
theorem dX1_weighOne_14 : decode cX1_weighOne 14 = .ok (.istore 5, 2) := by decide +kernel
theorem dX1_weighOne_16 : decode cX1_weighOne 16 = .ok (.aload_n 2, 1) := by decide +kernel
theorem dX1_weighOne_17 : decode cX1_weighOne 17 = .ok (.iload 4, 2) := by decide +kernel
theorem dX1_weighOne_19 : decode cX1_weighOne 19 = .ok (.iaload, 1) := by decide +kernel
theorem dX1_weighOne_20 : decode cX1_weighOne 20 = .ok (.aload_n 0, 1) := by decide +kernel
theorem dX1_weighOne_21 : decode cX1_weighOne 21 = .ok (.getfield 15, 3) := by decide +kernel
theorem dX1_weighOne_24 : decode cX1_weighOne 24 = .ok (.iload_n 1, 1) := by decide +kernel
theorem dX1_weighOne_25 : decode cX1_weighOne 25 = .ok (.iaload, 1) := by decide +kernel
theorem dX1_weighOne_26 : decode cX1_weighOne 26 = .ok (.if_icmp .ne 7, 3) := by decide +kernel
theorem dX1_weighOne_29 : decode cX1_weighOne 29 = .ok (.iconst 1, 1) := by decide +kernel
theorem dX1_weighOne_30 : decode cX1_weighOne 30 = .ok (.goto 4, 3) := by decide +kernel
theorem dX1_weighOne_33 : decode cX1_weighOne 33 = .ok (.iconst 0, 1) := by decide +kernel
theorem dX1_weighOne_34 : decode cX1_weighOne 34 = .ok (.istore 6, 2) := by decide +kernel
theorem dX1_weighOne_36 : decode cX1_weighOne 36 = .ok (.aload_n 3, 1) := by decide +kernel
theorem dX1_weighOne_37 : decode cX1_weighOne 37 = .ok (.iload 4, 2) := by decide +kernel
theorem dX1_weighOne_39 : decode cX1_weighOne 39 = .ok (.invokevirtual 41, 3) := by decide +kernel
theorem dX1_weighOne_42 : decode cX1_weighOne 42 = .ok (.ifCond .eq 26, 3) := by decide +kernel
theorem dX1_weighOne_45 : decode cX1_weighOne 45 = .ok (.aload_n 3, 1) := by decide +kernel
theorem dX1_weighOne_46 : decode cX1_weighOne 46 = .ok (.iload 4, 2) := by decide +kernel
theorem dX1_weighOne_48 : decode cX1_weighOne 48 = .ok (.invokevirtual 47, 3) := by decide +kernel
theorem dX1_weighOne_51 : decode cX1_weighOne 51 = .ok (.aload_n 0, 1) := by decide +kernel
theorem dX1_weighOne_52 : decode cX1_weighOne 52 = .ok (.getfield 15, 3) := by decide +kernel
theorem dX1_weighOne_55 : decode cX1_weighOne 55 = .ok (.iload_n 1, 1) := by decide +kernel
theorem dX1_weighOne_56 : decode cX1_weighOne 56 = .ok (.iaload, 1) := by decide +kernel
theorem dX1_weighOne_57 : decode cX1_weighOne 57 = .ok (.if_icmp .ne 7, 3) := by decide +kernel
theorem dX1_weighOne_60 : decode cX1_weighOne 60 = .ok (.iconst 1, 1) := by decide +kernel
theorem dX1_weighOne_61 : decode cX1_weighOne 61 = .ok (.goto 9, 3) := by decide +kernel
theorem dX1_weighOne_64 : decode cX1_weighOne 64 = .ok (.iconst 0, 1) := by decide +kernel
theorem dX1_weighOne_65 : decode cX1_weighOne 65 = .ok (.goto 5, 3) := by decide +kernel
theorem dX1_weighOne_68 : decode cX1_weighOne 68 = .ok (.iload 6, 2) := by decide +kernel
theorem dX1_weighOne_70 : decode cX1_weighOne 70 = .ok (.istore 7, 2) := by decide +kernel
theorem dX1_weighOne_72 : decode cX1_weighOne 72 = .ok (.aload_n 0, 1) := by decide +kernel
theorem dX1_weighOne_73 : decode cX1_weighOne 73 = .ok (.iload_n 1, 1) := by decide +kernel
theorem dX1_weighOne_74 : decode cX1_weighOne 74 = .ok (.aload_n 2, 1) := by decide +kernel
theorem dX1_weighOne_75 : decode cX1_weighOne 75 = .ok (.iload 5, 2) := by decide +kernel
theorem dX1_weighOne_77 : decode cX1_weighOne 77 = .ok (.iaload, 1) := by decide +kernel
theorem dX1_weighOne_78 : decode cX1_weighOne 78 = .ok (.invokevirtual 51, 3) := by decide +kernel
theorem dX1_weighOne_81 : decode cX1_weighOne 81 = .ok (.istore 8, 2) := by decide +kernel
theorem dX1_weighOne_83 : decode cX1_weighOne 83 = .ok (.aload_n 3, 1) := by decide +kernel
theorem dX1_weighOne_84 : decode cX1_weighOne 84 = .ok (.iload 5, 2) := by decide +kernel
theorem dX1_weighOne_86 : decode cX1_weighOne 86 = .ok (.invokevirtual 41, 3) := by decide +kernel
theorem dX1_weighOne_89 : decode cX1_weighOne 89 = .ok (.ifCond .eq 17, 3) := by decide +kernel
theorem dX1_weighOne_92 : decode cX1_weighOne 92 = .ok (.aload_n 0, 1) := by decide +kernel
theorem dX1_weighOne_93 : decode cX1_weighOne 93 = .ok (.iload_n 1, 1) := by decide +kernel
theorem dX1_weighOne_94 : decode cX1_weighOne 94 = .ok (.aload_n 3, 1) := by decide +kernel
theorem dX1_weighOne_95 : decode cX1_weighOne 95 = .ok (.iload 5, 2) := by decide +kernel
theorem dX1_weighOne_97 : decode cX1_weighOne 97 = .ok (.invokevirtual 47, 3) := by decide +kernel
theorem dX1_weighOne_100 : decode cX1_weighOne 100 = .ok (.invokevirtual 51, 3) := by decide +kernel
theorem dX1_weighOne_103 : decode cX1_weighOne 103 = .ok (.goto 5, 3) := by decide +kernel
theorem dX1_weighOne_106 : decode cX1_weighOne 106 = .ok (.iload 8, 2) := by decide +kernel
theorem dX1_weighOne_108 : decode cX1_weighOne 108 = .ok (.istore 9, 2) := by decide +kernel
theorem dX1_weighOne_110 : decode cX1_weighOne 110 = .ok (.iload 6, 2) := by decide +kernel
theorem dX1_weighOne_112 : decode cX1_weighOne 112 = .ok (.ifCond .ne 8, 3) := by decide +kernel
theorem dX1_weighOne_115 : decode cX1_weighOne 115 = .ok (.iload 7, 2) := by decide +kernel
theorem dX1_weighOne_117 : decode cX1_weighOne 117 = .ok (.ifCond .eq 13, 3) := by decide +kernel
theorem dX1_weighOne_120 : decode cX1_weighOne 120 = .ok (.iload 8, 2) := by decide +kernel
theorem dX1_weighOne_122 : decode cX1_weighOne 122 = .ok (.ifCond .eq 14, 3) := by decide +kernel
theorem dX1_weighOne_125 : decode cX1_weighOne 125 = .ok (.iload 9, 2) := by decide +kernel
theorem dX1_weighOne_127 : decode cX1_weighOne 127 = .ok (.ifCond .eq 9, 3) := by decide +kernel
theorem dX1_weighOne_130 : decode cX1_weighOne 130 = .ok (.aload_n 0, 1) := by decide +kernel
theorem dX1_weighOne_131 : decode cX1_weighOne 131 = .ok (.iload_n 1, 1) := by decide +kernel
theorem dX1_weighOne_132 : decode cX1_weighOne 132 = .ok (.invokevirtual 55, 3) := by decide +kernel
theorem dX1_weighOne_135 : decode cX1_weighOne 135 = .ok (.return_, 1) := by decide +kernel
theorem dX1_weighOne_136 : decode cX1_weighOne 136 = .ok (.aload_n 0, 1) := by decide +kernel
theorem dX1_weighOne_137 : decode cX1_weighOne 137 = .ok (.getfield 27, 3) := by decide +kernel
theorem dX1_weighOne_140 : decode cX1_weighOne 140 = .ok (.iload_n 1, 1) := by decide +kernel
theorem dX1_weighOne_141 : decode cX1_weighOne 141 = .ok (.iconst 0, 1) := by decide +kernel
theorem dX1_weighOne_142 : decode cX1_weighOne 142 = .ok (.iastore, 1) := by decide +kernel
theorem dX1_weighOne_143 : decode cX1_weighOne 143 = .ok (.aload_n 0, 1) := by decide +kernel
theorem dX1_weighOne_144 : decode cX1_weighOne 144 = .ok (.getfield 30, 3) := by decide +kernel
theorem dX1_weighOne_147 : decode cX1_weighOne 147 = .ok (.iload_n 1, 1) := by decide +kernel
theorem dX1_weighOne_148 : decode cX1_weighOne 148 = .ok (.iconst 0, 1) := by decide +kernel
theorem dX1_weighOne_149 : decode cX1_weighOne 149 = .ok (.iastore, 1) := by decide +kernel
theorem dX1_weighOne_150 : decode cX1_weighOne 150 = .ok (.iload 6, 2) := by decide +kernel
theorem dX1_weighOne_152 : decode cX1_weighOne 152 = .ok (.iload 7, 2) := by decide +kernel
theorem dX1_weighOne_154 : decode cX1_weighOne 154 = .ok (.if_icmp .eq 38, 3) := by decide +kernel
theorem dX1_weighOne_157 : decode cX1_weighOne 157 = .ok (.aload_n 0, 1) := by decide +kernel
theorem dX1_weighOne_158 : decode cX1_weighOne 158 = .ok (.getfield 27, 3) := by decide +kernel
theorem dX1_weighOne_161 : decode cX1_weighOne 161 = .ok (.iload_n 1, 1) := by decide +kernel
theorem dX1_weighOne_162 : decode cX1_weighOne 162 = .ok (.dup2, 1) := by decide +kernel
theorem dX1_weighOne_163 : decode cX1_weighOne 163 = .ok (.iaload, 1) := by decide +kernel
theorem dX1_weighOne_164 : decode cX1_weighOne 164 = .ok (.iconst 1, 1) := by decide +kernel
theorem dX1_weighOne_165 : decode cX1_weighOne 165 = .ok (.iload 4, 2) := by decide +kernel
theorem dX1_weighOne_167 : decode cX1_weighOne 167 = .ok (.ishl, 1) := by decide +kernel
theorem dX1_weighOne_168 : decode cX1_weighOne 168 = .ok (.ior, 1) := by decide +kernel
theorem dX1_weighOne_169 : decode cX1_weighOne 169 = .ok (.iastore, 1) := by decide +kernel
theorem dX1_weighOne_170 : decode cX1_weighOne 170 = .ok (.aload_n 0, 1) := by decide +kernel
theorem dX1_weighOne_171 : decode cX1_weighOne 171 = .ok (.getfield 30, 3) := by decide +kernel
theorem dX1_weighOne_174 : decode cX1_weighOne 174 = .ok (.iload_n 1, 1) := by decide +kernel
theorem dX1_weighOne_175 : decode cX1_weighOne 175 = .ok (.dup2, 1) := by decide +kernel
theorem dX1_weighOne_176 : decode cX1_weighOne 176 = .ok (.iaload, 1) := by decide +kernel
theorem dX1_weighOne_177 : decode cX1_weighOne 177 = .ok (.iload 7, 2) := by decide +kernel
theorem dX1_weighOne_179 : decode cX1_weighOne 179 = .ok (.ifCond .eq 10, 3) := by decide +kernel
theorem dX1_weighOne_182 : decode cX1_weighOne 182 = .ok (.iconst 1, 1) := by decide +kernel
theorem dX1_weighOne_183 : decode cX1_weighOne 183 = .ok (.iload 4, 2) := by decide +kernel
theorem dX1_weighOne_185 : decode cX1_weighOne 185 = .ok (.ishl, 1) := by decide +kernel
theorem dX1_weighOne_186 : decode cX1_weighOne 186 = .ok (.goto 4, 3) := by decide +kernel
theorem dX1_weighOne_189 : decode cX1_weighOne 189 = .ok (.iconst 0, 1) := by decide +kernel
theorem dX1_weighOne_190 : decode cX1_weighOne 190 = .ok (.ior, 1) := by decide +kernel
theorem dX1_weighOne_191 : decode cX1_weighOne 191 = .ok (.iastore, 1) := by decide +kernel
theorem dX1_weighOne_192 : decode cX1_weighOne 192 = .ok (.iload 8, 2) := by decide +kernel
theorem dX1_weighOne_194 : decode cX1_weighOne 194 = .ok (.iload 9, 2) := by decide +kernel
theorem dX1_weighOne_196 : decode cX1_weighOne 196 = .ok (.if_icmp .eq 38, 3) := by decide +kernel
theorem dX1_weighOne_199 : decode cX1_weighOne 199 = .ok (.aload_n 0, 1) := by decide +kernel
theorem dX1_weighOne_200 : decode cX1_weighOne 200 = .ok (.getfield 27, 3) := by decide +kernel
theorem dX1_weighOne_203 : decode cX1_weighOne 203 = .ok (.iload_n 1, 1) := by decide +kernel
theorem dX1_weighOne_204 : decode cX1_weighOne 204 = .ok (.dup2, 1) := by decide +kernel
theorem dX1_weighOne_205 : decode cX1_weighOne 205 = .ok (.iaload, 1) := by decide +kernel
theorem dX1_weighOne_206 : decode cX1_weighOne 206 = .ok (.iconst 1, 1) := by decide +kernel
theorem dX1_weighOne_207 : decode cX1_weighOne 207 = .ok (.iload 5, 2) := by decide +kernel
theorem dX1_weighOne_209 : decode cX1_weighOne 209 = .ok (.ishl, 1) := by decide +kernel
theorem dX1_weighOne_210 : decode cX1_weighOne 210 = .ok (.ior, 1) := by decide +kernel
theorem dX1_weighOne_211 : decode cX1_weighOne 211 = .ok (.iastore, 1) := by decide +kernel
theorem dX1_weighOne_212 : decode cX1_weighOne 212 = .ok (.aload_n 0, 1) := by decide +kernel
theorem dX1_weighOne_213 : decode cX1_weighOne 213 = .ok (.getfield 30, 3) := by decide +kernel
theorem dX1_weighOne_216 : decode cX1_weighOne 216 = .ok (.iload_n 1, 1) := by decide +kernel
theorem dX1_weighOne_217 : decode cX1_weighOne 217 = .ok (.dup2, 1) := by decide +kernel
theorem dX1_weighOne_218 : decode cX1_weighOne 218 = .ok (.iaload, 1) := by decide +kernel
theorem dX1_weighOne_219 : decode cX1_weighOne 219 = .ok (.iload 8, 2) := by decide +kernel
theorem dX1_weighOne_221 : decode cX1_weighOne 221 = .ok (.ifCond .eq 10, 3) := by decide +kernel
theorem dX1_weighOne_224 : decode cX1_weighOne 224 = .ok (.iconst 1, 1) := by decide +kernel
theorem dX1_weighOne_225 : decode cX1_weighOne 225 = .ok (.iload 5, 2) := by decide +kernel
theorem dX1_weighOne_227 : decode cX1_weighOne 227 = .ok (.ishl, 1) := by decide +kernel
theorem dX1_weighOne_228 : decode cX1_weighOne 228 = .ok (.goto 4, 3) := by decide +kernel
theorem dX1_weighOne_231 : decode cX1_weighOne 231 = .ok (.iconst 0, 1) := by decide +kernel
theorem dX1_weighOne_232 : decode cX1_weighOne 232 = .ok (.ior, 1) := by decide +kernel
theorem dX1_weighOne_233 : decode cX1_weighOne 233 = .ok (.iastore, 1) := by decide +kernel
theorem dX1_weighOne_234 : decode cX1_weighOne 234 = .ok (.return_, 1) := by decide +kernel
theorem dX1_holds_0 : decode cX1_holds 0 = .ok (.iload_n 2, 1) := by decide +kernel
theorem dX1_holds_1 : decode cX1_holds 1 = .ok (.aload_n 0, 1) := by decide +kernel
theorem dX1_holds_2 : decode cX1_holds 2 = .ok (.getfield 21, 3) := by decide +kernel
theorem dX1_holds_5 : decode cX1_holds 5 = .ok (.iload_n 1, 1) := by decide +kernel
theorem dX1_holds_6 : decode cX1_holds 6 = .ok (.iaload, 1) := by decide +kernel
theorem dX1_holds_7 : decode cX1_holds 7 = .ok (.if_icmp .lt 17, 3) := by decide +kernel
theorem dX1_holds_10 : decode cX1_holds 10 = .ok (.iload_n 2, 1) := by decide +kernel
theorem dX1_holds_11 : decode cX1_holds 11 = .ok (.aload_n 0, 1) := by decide +kernel
theorem dX1_holds_12 : decode cX1_holds 12 = .ok (.getfield 24, 3) := by decide +kernel
theorem dX1_holds_15 : decode cX1_holds 15 = .ok (.iload_n 1, 1) := by decide +kernel
theorem dX1_holds_16 : decode cX1_holds 16 = .ok (.iaload, 1) := by decide +kernel
theorem dX1_holds_17 : decode cX1_holds 17 = .ok (.if_icmp .gt 7, 3) := by decide +kernel
theorem dX1_holds_20 : decode cX1_holds 20 = .ok (.iconst 1, 1) := by decide +kernel
theorem dX1_holds_21 : decode cX1_holds 21 = .ok (.goto 4, 3) := by decide +kernel
theorem dX1_holds_24 : decode cX1_holds 24 = .ok (.iconst 0, 1) := by decide +kernel
theorem dX1_holds_25 : decode cX1_holds 25 = .ok (.ireturn, 1) := by decide +kernel
theorem dX1_neverBreaks_0 : decode cX1_neverBreaks 0 = .ok (.aload_n 0, 1) := by decide +kernel
theorem dX1_neverBreaks_1 : decode cX1_neverBreaks 1 = .ok (.getfield 27, 3) := by decide +kernel
theorem dX1_neverBreaks_4 : decode cX1_neverBreaks 4 = .ok (.iload_n 1, 1) := by decide +kernel
theorem dX1_neverBreaks_5 : decode cX1_neverBreaks 5 = .ok (.iconst 0, 1) := by decide +kernel
theorem dX1_neverBreaks_6 : decode cX1_neverBreaks 6 = .ok (.iastore, 1) := by decide +kernel
theorem dX1_neverBreaks_7 : decode cX1_neverBreaks 7 = .ok (.aload_n 0, 1) := by decide +kernel
theorem dX1_neverBreaks_8 : decode cX1_neverBreaks 8 = .ok (.getfield 30, 3) := by decide +kernel
theorem dX1_neverBreaks_11 : decode cX1_neverBreaks 11 = .ok (.iload_n 1, 1) := by decide +kernel
theorem dX1_neverBreaks_12 : decode cX1_neverBreaks 12 = .ok (.iconst 1, 1) := by decide +kernel
theorem dX1_neverBreaks_13 : decode cX1_neverBreaks 13 = .ok (.iastore, 1) := by decide +kernel
theorem dX1_neverBreaks_14 : decode cX1_neverBreaks 14 = .ok (.return_, 1) := by decide +kernel
theorem dX1_firstBroken_0 : decode cX1_firstBroken 0 = .ok (.iconst 0, 1) := by decide +kernel
theorem dX1_firstBroken_1 : decode cX1_firstBroken 1 = .ok (.istore_n 2, 1) := by decide +kernel
theorem dX1_firstBroken_2 : decode cX1_firstBroken 2 = .ok (.iload_n 2, 1) := by decide +kernel
theorem dX1_firstBroken_3 : decode cX1_firstBroken 3 = .ok (.aload_n 0, 1) := by decide +kernel
theorem dX1_firstBroken_4 : decode cX1_firstBroken 4 = .ok (.getfield 33, 3) := by decide +kernel
theorem dX1_firstBroken_7 : decode cX1_firstBroken 7 = .ok (.if_icmp .ge 28, 3) := by decide +kernel
theorem dX1_firstBroken_10 : decode cX1_firstBroken 10 = .ok (.iload_n 1, 1) := by decide +kernel
theorem dX1_firstBroken_11 : decode cX1_firstBroken 11 = .ok (.aload_n 0, 1) := by decide +kernel
theorem dX1_firstBroken_12 : decode cX1_firstBroken 12 = .ok (.getfield 27, 3) := by decide +kernel
theorem dX1_firstBroken_15 : decode cX1_firstBroken 15 = .ok (.iload_n 2, 1) := by decide +kernel
theorem dX1_firstBroken_16 : decode cX1_firstBroken 16 = .ok (.iaload, 1) := by decide +kernel
theorem dX1_firstBroken_17 : decode cX1_firstBroken 17 = .ok (.iand, 1) := by decide +kernel
theorem dX1_firstBroken_18 : decode cX1_firstBroken 18 = .ok (.aload_n 0, 1) := by decide +kernel
theorem dX1_firstBroken_19 : decode cX1_firstBroken 19 = .ok (.getfield 30, 3) := by decide +kernel
theorem dX1_firstBroken_22 : decode cX1_firstBroken 22 = .ok (.iload_n 2, 1) := by decide +kernel
theorem dX1_firstBroken_23 : decode cX1_firstBroken 23 = .ok (.iaload, 1) := by decide +kernel
theorem dX1_firstBroken_24 : decode cX1_firstBroken 24 = .ok (.if_icmp .ne 5, 3) := by decide +kernel
theorem dX1_firstBroken_27 : decode cX1_firstBroken 27 = .ok (.iload_n 2, 1) := by decide +kernel
theorem dX1_firstBroken_28 : decode cX1_firstBroken 28 = .ok (.ireturn, 1) := by decide +kernel
theorem dX1_firstBroken_29 : decode cX1_firstBroken 29 = .ok (.iinc 2 1, 3) := by decide +kernel
theorem dX1_firstBroken_32 : decode cX1_firstBroken 32 = .ok (.goto (-30), 3) := by decide +kernel
theorem dX1_firstBroken_35 : decode cX1_firstBroken 35 = .ok (.iconst (-1), 1) := by decide +kernel
theorem dX1_firstBroken_36 : decode cX1_firstBroken 36 = .ok (.ireturn, 1) := by decide +kernel
theorem dX2_init_0 : decode cX2_init 0 = .ok (.aload_n 0, 1) := by decide +kernel
theorem dX2_init_1 : decode cX2_init 1 = .ok (.invokespecial 3, 3) := by decide +kernel
theorem dX2_init_4 : decode cX2_init 4 = .ok (.aload_n 0, 1) := by decide +kernel
theorem dX2_init_5 : decode cX2_init 5 = .ok (.bipush 10, 2) := by decide +kernel
theorem dX2_init_7 : decode cX2_init 7 = .ok (.newarray .int, 2) := by decide +kernel
theorem dX2_init_9 : decode cX2_init 9 = .ok (.putfield 9, 3) := by decide +kernel
theorem dX2_init_12 : decode cX2_init 12 = .ok (.aload_n 0, 1) := by decide +kernel
theorem dX2_init_13 : decode cX2_init 13 = .ok (.bipush 10, 2) := by decide +kernel
theorem dX2_init_15 : decode cX2_init 15 = .ok (.newarray .int, 2) := by decide +kernel
theorem dX2_init_17 : decode cX2_init 17 = .ok (.putfield 15, 3) := by decide +kernel
theorem dX2_init_20 : decode cX2_init 20 = .ok (.aload_n 0, 1) := by decide +kernel
theorem dX2_init_21 : decode cX2_init 21 = .ok (.getfield 9, 3) := by decide +kernel
theorem dX2_init_24 : decode cX2_init 24 = .ok (.iconst (-1), 1) := by decide +kernel
theorem dX2_init_25 : decode cX2_init 25 = .ok (.invokestatic 18, 3) := by decide +kernel
theorem dX2_init_28 : decode cX2_init 28 = .ok (.aload_n 0, 1) := by decide +kernel
theorem dX2_init_29 : decode cX2_init 29 = .ok (.getfield 15, 3) := by decide +kernel
theorem dX2_init_32 : decode cX2_init 32 = .ok (.iconst (-1), 1) := by decide +kernel
theorem dX2_init_33 : decode cX2_init 33 = .ok (.invokestatic 18, 3) := by decide +kernel
theorem dX2_init_36 : decode cX2_init 36 = .ok (.return_, 1) := by decide +kernel
theorem dX2_has_0 : decode cX2_has 0 = .ok (.aload_n 0, 1) := by decide +kernel
theorem dX2_has_1 : decode cX2_has 1 = .ok (.iload_n 1, 1) := by decide +kernel
theorem dX2_has_2 : decode cX2_has 2 = .ok (.invokevirtual 24, 3) := by decide +kernel
theorem dX2_has_5 : decode cX2_has 5 = .ok (.iconst (-1), 1) := by decide +kernel
theorem dX2_has_6 : decode cX2_has 6 = .ok (.if_icmp .eq 7, 3) := by decide +kernel
theorem dX2_has_9 : decode cX2_has 9 = .ok (.iconst 1, 1) := by decide +kernel
theorem dX2_has_10 : decode cX2_has 10 = .ok (.goto 4, 3) := by decide +kernel
theorem dX2_has_13 : decode cX2_has 13 = .ok (.iconst 0, 1) := by decide +kernel
theorem dX2_has_14 : decode cX2_has 14 = .ok (.ireturn, 1) := by decide +kernel
theorem dX2_versionOf_0 : decode cX2_versionOf 0 = .ok (.iload_n 1, 1) := by decide +kernel
theorem dX2_versionOf_1 : decode cX2_versionOf 1 = .ok (.ifCond .lt 18, 3) := by decide +kernel
theorem dX2_versionOf_4 : decode cX2_versionOf 4 = .ok (.iload_n 1, 1) := by decide +kernel
theorem dX2_versionOf_5 : decode cX2_versionOf 5 = .ok (.bipush 10, 2) := by decide +kernel
theorem dX2_versionOf_7 : decode cX2_versionOf 7 = .ok (.if_icmp .ge 12, 3) := by decide +kernel
theorem dX2_versionOf_10 : decode cX2_versionOf 10 = .ok (.aload_n 0, 1) := by decide +kernel
theorem dX2_versionOf_11 : decode cX2_versionOf 11 = .ok (.getfield 9, 3) := by decide +kernel
theorem dX2_versionOf_14 : decode cX2_versionOf 14 = .ok (.iload_n 1, 1) := by decide +kernel
theorem dX2_versionOf_15 : decode cX2_versionOf 15 = .ok (.iaload, 1) := by decide +kernel
theorem dX2_versionOf_16 : decode cX2_versionOf 16 = .ok (.goto 4, 3) := by decide +kernel
theorem dX2_versionOf_19 : decode cX2_versionOf 19 = .ok (.iconst (-1), 1) := by decide +kernel
theorem dX2_versionOf_20 : decode cX2_versionOf 20 = .ok (.ireturn, 1) := by decide +kernel
theorem dX2_worthOf_0 : decode cX2_worthOf 0 = .ok (.iload_n 1, 1) := by decide +kernel
theorem dX2_worthOf_1 : decode cX2_worthOf 1 = .ok (.ifCond .lt 18, 3) := by decide +kernel
theorem dX2_worthOf_4 : decode cX2_worthOf 4 = .ok (.iload_n 1, 1) := by decide +kernel
theorem dX2_worthOf_5 : decode cX2_worthOf 5 = .ok (.bipush 10, 2) := by decide +kernel
theorem dX2_worthOf_7 : decode cX2_worthOf 7 = .ok (.if_icmp .ge 12, 3) := by decide +kernel
theorem dX2_worthOf_10 : decode cX2_worthOf 10 = .ok (.aload_n 0, 1) := by decide +kernel
theorem dX2_worthOf_11 : decode cX2_worthOf 11 = .ok (.getfield 15, 3) := by decide +kernel
theorem dX2_worthOf_14 : decode cX2_worthOf 14 = .ok (.iload_n 1, 1) := by decide +kernel
theorem dX2_worthOf_15 : decode cX2_worthOf 15 = .ok (.iaload, 1) := by decide +kernel
theorem dX2_worthOf_16 : decode cX2_worthOf 16 = .ok (.goto 4, 3) := by decide +kernel
theorem dX2_worthOf_19 : decode cX2_worthOf 19 = .ok (.iconst (-1), 1) := by decide +kernel
theorem dX2_worthOf_20 : decode cX2_worthOf 20 = .ok (.ireturn, 1) := by decide +kernel
theorem dX2_put_0 : decode cX2_put 0 = .ok (.iload_n 1, 1) := by decide +kernel
theorem dX2_put_1 : decode cX2_put 1 = .ok (.ifCond .lt 23, 3) := by decide +kernel
theorem dX2_put_4 : decode cX2_put 4 = .ok (.iload_n 1, 1) := by decide +kernel
theorem dX2_put_5 : decode cX2_put 5 = .ok (.bipush 10, 2) := by decide +kernel
theorem dX2_put_7 : decode cX2_put 7 = .ok (.if_icmp .ge 17, 3) := by decide +kernel
theorem dX2_put_10 : decode cX2_put 10 = .ok (.aload_n 0, 1) := by decide +kernel
theorem dX2_put_11 : decode cX2_put 11 = .ok (.getfield 9, 3) := by decide +kernel
theorem dX2_put_14 : decode cX2_put 14 = .ok (.iload_n 1, 1) := by decide +kernel
theorem dX2_put_15 : decode cX2_put 15 = .ok (.iload_n 2, 1) := by decide +kernel
theorem dX2_put_16 : decode cX2_put 16 = .ok (.iastore, 1) := by decide +kernel
theorem dX2_put_17 : decode cX2_put 17 = .ok (.aload_n 0, 1) := by decide +kernel
theorem dX2_put_18 : decode cX2_put 18 = .ok (.getfield 15, 3) := by decide +kernel
theorem dX2_put_21 : decode cX2_put 21 = .ok (.iload_n 1, 1) := by decide +kernel
theorem dX2_put_22 : decode cX2_put 22 = .ok (.iload_n 3, 1) := by decide +kernel
theorem dX2_put_23 : decode cX2_put 23 = .ok (.iastore, 1) := by decide +kernel
theorem dX2_put_24 : decode cX2_put 24 = .ok (.return_, 1) := by decide +kernel
theorem dX2_drop_0 : decode cX2_drop 0 = .ok (.aload_n 0, 1) := by decide +kernel
theorem dX2_drop_1 : decode cX2_drop 1 = .ok (.iload_n 1, 1) := by decide +kernel
theorem dX2_drop_2 : decode cX2_drop 2 = .ok (.iconst (-1), 1) := by decide +kernel
theorem dX2_drop_3 : decode cX2_drop 3 = .ok (.iconst (-1), 1) := by decide +kernel
theorem dX2_drop_4 : decode cX2_drop 4 = .ok (.invokevirtual 28, 3) := by decide +kernel
theorem dX2_drop_7 : decode cX2_drop 7 = .ok (.return_, 1) := by decide +kernel
theorem dX2_mask_0 : decode cX2_mask 0 = .ok (.iconst 0, 1) := by decide +kernel
theorem dX2_mask_1 : decode cX2_mask 1 = .ok (.istore_n 1, 1) := by decide +kernel
theorem dX2_mask_2 : decode cX2_mask 2 = .ok (.iconst 0, 1) := by decide +kernel
theorem dX2_mask_3 : decode cX2_mask 3 = .ok (.istore_n 2, 1) := by decide +kernel
theorem dX2_mask_4 : decode cX2_mask 4 = .ok (.iload_n 2, 1) := by decide +kernel
theorem dX2_mask_5 : decode cX2_mask 5 = .ok (.bipush 10, 2) := by decide +kernel
theorem dX2_mask_7 : decode cX2_mask 7 = .ok (.if_icmp .ge 25, 3) := by decide +kernel
theorem dX2_mask_10 : decode cX2_mask 10 = .ok (.aload_n 0, 1) := by decide +kernel
theorem dX2_mask_11 : decode cX2_mask 11 = .ok (.getfield 9, 3) := by decide +kernel
theorem dX2_mask_14 : decode cX2_mask 14 = .ok (.iload_n 2, 1) := by decide +kernel
theorem dX2_mask_15 : decode cX2_mask 15 = .ok (.iaload, 1) := by decide +kernel
theorem dX2_mask_16 : decode cX2_mask 16 = .ok (.iconst (-1), 1) := by decide +kernel
theorem dX2_mask_17 : decode cX2_mask 17 = .ok (.if_icmp .eq 9, 3) := by decide +kernel
theorem dX2_mask_20 : decode cX2_mask 20 = .ok (.iload_n 1, 1) := by decide +kernel
theorem dX2_mask_21 : decode cX2_mask 21 = .ok (.iconst 1, 1) := by decide +kernel
theorem dX2_mask_22 : decode cX2_mask 22 = .ok (.iload_n 2, 1) := by decide +kernel
theorem dX2_mask_23 : decode cX2_mask 23 = .ok (.ishl, 1) := by decide +kernel
theorem dX2_mask_24 : decode cX2_mask 24 = .ok (.ior, 1) := by decide +kernel
theorem dX2_mask_25 : decode cX2_mask 25 = .ok (.istore_n 1, 1) := by decide +kernel
theorem dX2_mask_26 : decode cX2_mask 26 = .ok (.iinc 2 1, 3) := by decide +kernel
theorem dX2_mask_29 : decode cX2_mask 29 = .ok (.goto (-25), 3) := by decide +kernel
theorem dX2_mask_32 : decode cX2_mask 32 = .ok (.iload_n 1, 1) := by decide +kernel
theorem dX2_mask_33 : decode cX2_mask 33 = .ok (.ireturn, 1) := by decide +kernel
theorem dX2_sum_0 : decode cX2_sum 0 = .ok (.iconst 0, 1) := by decide +kernel
theorem dX2_sum_1 : decode cX2_sum 1 = .ok (.istore_n 2, 1) := by decide +kernel
theorem dX2_sum_2 : decode cX2_sum 2 = .ok (.iconst 0, 1) := by decide +kernel
theorem dX2_sum_3 : decode cX2_sum 3 = .ok (.istore_n 3, 1) := by decide +kernel
theorem dX2_sum_4 : decode cX2_sum 4 = .ok (.iload_n 3, 1) := by decide +kernel
theorem dX2_sum_5 : decode cX2_sum 5 = .ok (.bipush 10, 2) := by decide +kernel
theorem dX2_sum_7 : decode cX2_sum 7 = .ok (.if_icmp .ge 26, 3) := by decide +kernel
theorem dX2_sum_10 : decode cX2_sum 10 = .ok (.iload_n 1, 1) := by decide +kernel
theorem dX2_sum_11 : decode cX2_sum 11 = .ok (.iload_n 3, 1) := by decide +kernel
theorem dX2_sum_12 : decode cX2_sum 12 = .ok (.ishr, 1) := by decide +kernel
theorem dX2_sum_13 : decode cX2_sum 13 = .ok (.iconst 1, 1) := by decide +kernel
theorem dX2_sum_14 : decode cX2_sum 14 = .ok (.iand, 1) := by decide +kernel
theorem dX2_sum_15 : decode cX2_sum 15 = .ok (.ifCond .eq 12, 3) := by decide +kernel
theorem dX2_sum_18 : decode cX2_sum 18 = .ok (.iload_n 2, 1) := by decide +kernel
theorem dX2_sum_19 : decode cX2_sum 19 = .ok (.aload_n 0, 1) := by decide +kernel
theorem dX2_sum_20 : decode cX2_sum 20 = .ok (.getfield 15, 3) := by decide +kernel
theorem dX2_sum_23 : decode cX2_sum 23 = .ok (.iload_n 3, 1) := by decide +kernel
theorem dX2_sum_24 : decode cX2_sum 24 = .ok (.iaload, 1) := by decide +kernel
theorem dX2_sum_25 : decode cX2_sum 25 = .ok (.iadd, 1) := by decide +kernel
theorem dX2_sum_26 : decode cX2_sum 26 = .ok (.istore_n 2, 1) := by decide +kernel
theorem dX2_sum_27 : decode cX2_sum 27 = .ok (.iinc 3 1, 3) := by decide +kernel
theorem dX2_sum_30 : decode cX2_sum 30 = .ok (.goto (-26), 3) := by decide +kernel
theorem dX2_sum_33 : decode cX2_sum 33 = .ok (.iload_n 2, 1) := by decide +kernel
theorem dX2_sum_34 : decode cX2_sum 34 = .ok (.ireturn, 1) := by decide +kernel
theorem dX3_init_0 : decode cX3_init 0 = .ok (.aload_n 0, 1) := by decide +kernel
theorem dX3_init_1 : decode cX3_init 1 = .ok (.invokespecial 3, 3) := by decide +kernel
theorem dX3_init_4 : decode cX3_init 4 = .ok (.aload_n 0, 1) := by decide +kernel
theorem dX3_init_5 : decode cX3_init 5 = .ok (.bipush 60, 2) := by decide +kernel
theorem dX3_init_7 : decode cX3_init 7 = .ok (.newarray .int, 2) := by decide +kernel
theorem dX3_init_9 : decode cX3_init 9 = .ok (.putfield 9, 3) := by decide +kernel
theorem dX3_init_12 : decode cX3_init 12 = .ok (.aload_n 0, 1) := by decide +kernel
theorem dX3_init_13 : decode cX3_init 13 = .ok (.bipush 60, 2) := by decide +kernel
theorem dX3_init_15 : decode cX3_init 15 = .ok (.newarray .int, 2) := by decide +kernel
theorem dX3_init_17 : decode cX3_init 17 = .ok (.putfield 15, 3) := by decide +kernel
theorem dX3_init_20 : decode cX3_init 20 = .ok (.aload_n 0, 1) := by decide +kernel
theorem dX3_init_21 : decode cX3_init 21 = .ok (.iconst 0, 1) := by decide +kernel
theorem dX3_init_22 : decode cX3_init 22 = .ok (.putfield 18, 3) := by decide +kernel
theorem dX3_init_25 : decode cX3_init 25 = .ok (.return_, 1) := by decide +kernel
theorem dX3_find_0 : decode cX3_find 0 = .ok (.iconst 0, 1) := by decide +kernel
theorem dX3_find_1 : decode cX3_find 1 = .ok (.istore_n 3, 1) := by decide +kernel
theorem dX3_find_2 : decode cX3_find 2 = .ok (.iload_n 3, 1) := by decide +kernel
theorem dX3_find_3 : decode cX3_find 3 = .ok (.aload_n 0, 1) := by decide +kernel
theorem dX3_find_4 : decode cX3_find 4 = .ok (.getfield 18, 3) := by decide +kernel
theorem dX3_find_7 : decode cX3_find 7 = .ok (.if_icmp .ge 31, 3) := by decide +kernel
theorem dX3_find_10 : decode cX3_find 10 = .ok (.aload_n 0, 1) := by decide +kernel
theorem dX3_find_11 : decode cX3_find 11 = .ok (.getfield 9, 3) := by decide +kernel
theorem dX3_find_14 : decode cX3_find 14 = .ok (.iload_n 3, 1) := by decide +kernel
theorem dX3_find_15 : decode cX3_find 15 = .ok (.iaload, 1) := by decide +kernel
theorem dX3_find_16 : decode cX3_find 16 = .ok (.iload_n 1, 1) := by decide +kernel
theorem dX3_find_17 : decode cX3_find 17 = .ok (.if_icmp .ne 15, 3) := by decide +kernel
theorem dX3_find_20 : decode cX3_find 20 = .ok (.aload_n 0, 1) := by decide +kernel
theorem dX3_find_21 : decode cX3_find 21 = .ok (.getfield 15, 3) := by decide +kernel
theorem dX3_find_24 : decode cX3_find 24 = .ok (.iload_n 3, 1) := by decide +kernel
theorem dX3_find_25 : decode cX3_find 25 = .ok (.iaload, 1) := by decide +kernel
theorem dX3_find_26 : decode cX3_find 26 = .ok (.iload_n 2, 1) := by decide +kernel
theorem dX3_find_27 : decode cX3_find 27 = .ok (.if_icmp .ne 5, 3) := by decide +kernel
theorem dX3_find_30 : decode cX3_find 30 = .ok (.iload_n 3, 1) := by decide +kernel
theorem dX3_find_31 : decode cX3_find 31 = .ok (.ireturn, 1) := by decide +kernel
theorem dX3_find_32 : decode cX3_find 32 = .ok (.iinc 3 1, 3) := by decide +kernel
theorem dX3_find_35 : decode cX3_find 35 = .ok (.goto (-33), 3) := by decide +kernel
theorem dX3_find_38 : decode cX3_find 38 = .ok (.iconst (-1), 1) := by decide +kernel
theorem dX3_find_39 : decode cX3_find 39 = .ok (.ireturn, 1) := by decide +kernel
theorem dX3_add_0 : decode cX3_add 0 = .ok (.aload_n 0, 1) := by decide +kernel
theorem dX3_add_1 : decode cX3_add 1 = .ok (.getfield 18, 3) := by decide +kernel
theorem dX3_add_4 : decode cX3_add 4 = .ok (.bipush 60, 2) := by decide +kernel
theorem dX3_add_6 : decode cX3_add 6 = .ok (.if_icmp .ge 13, 3) := by decide +kernel
theorem dX3_add_9 : decode cX3_add 9 = .ok (.aload_n 0, 1) := by decide +kernel
theorem dX3_add_10 : decode cX3_add 10 = .ok (.iload_n 1, 1) := by decide +kernel
theorem dX3_add_11 : decode cX3_add 11 = .ok (.iload_n 2, 1) := by decide +kernel
theorem dX3_add_12 : decode cX3_add 12 = .ok (.invokevirtual 22, 3) := by decide +kernel
theorem dX3_add_15 : decode cX3_add 15 = .ok (.iconst (-1), 1) := by decide +kernel
theorem dX3_add_16 : decode cX3_add 16 = .ok (.if_icmp .eq 5, 3) := by decide +kernel
theorem dX3_add_19 : decode cX3_add 19 = .ok (.iconst 0, 1) := by decide +kernel
theorem dX3_add_20 : decode cX3_add 20 = .ok (.ireturn, 1) := by decide +kernel
theorem dX3_add_21 : decode cX3_add 21 = .ok (.aload_n 0, 1) := by decide +kernel
theorem dX3_add_22 : decode cX3_add 22 = .ok (.getfield 9, 3) := by decide +kernel
theorem dX3_add_25 : decode cX3_add 25 = .ok (.aload_n 0, 1) := by decide +kernel
theorem dX3_add_26 : decode cX3_add 26 = .ok (.getfield 18, 3) := by decide +kernel
theorem dX3_add_29 : decode cX3_add 29 = .ok (.iload_n 1, 1) := by decide +kernel
theorem dX3_add_30 : decode cX3_add 30 = .ok (.iastore, 1) := by decide +kernel
theorem dX3_add_31 : decode cX3_add 31 = .ok (.aload_n 0, 1) := by decide +kernel
theorem dX3_add_32 : decode cX3_add 32 = .ok (.getfield 15, 3) := by decide +kernel
theorem dX3_add_35 : decode cX3_add 35 = .ok (.aload_n 0, 1) := by decide +kernel
theorem dX3_add_36 : decode cX3_add 36 = .ok (.getfield 18, 3) := by decide +kernel
theorem dX3_add_39 : decode cX3_add 39 = .ok (.iload_n 2, 1) := by decide +kernel
theorem dX3_add_40 : decode cX3_add 40 = .ok (.iastore, 1) := by decide +kernel
theorem dX3_add_41 : decode cX3_add 41 = .ok (.aload_n 0, 1) := by decide +kernel
theorem dX3_add_42 : decode cX3_add 42 = .ok (.dup, 1) := by decide +kernel
theorem dX3_add_43 : decode cX3_add 43 = .ok (.getfield 18, 3) := by decide +kernel
theorem dX3_add_46 : decode cX3_add 46 = .ok (.iconst 1, 1) := by decide +kernel
theorem dX3_add_47 : decode cX3_add 47 = .ok (.iadd, 1) := by decide +kernel
theorem dX3_add_48 : decode cX3_add 48 = .ok (.putfield 18, 3) := by decide +kernel
theorem dX3_add_51 : decode cX3_add 51 = .ok (.iconst 1, 1) := by decide +kernel
theorem dX3_add_52 : decode cX3_add 52 = .ok (.ireturn, 1) := by decide +kernel
theorem dX3_remove_0 : decode cX3_remove 0 = .ok (.aload_n 0, 1) := by decide +kernel
theorem dX3_remove_1 : decode cX3_remove 1 = .ok (.iload_n 1, 1) := by decide +kernel
theorem dX3_remove_2 : decode cX3_remove 2 = .ok (.iload_n 2, 1) := by decide +kernel
theorem dX3_remove_3 : decode cX3_remove 3 = .ok (.invokevirtual 22, 3) := by decide +kernel
theorem dX3_remove_6 : decode cX3_remove 6 = .ok (.istore_n 3, 1) := by decide +kernel
theorem dX3_remove_7 : decode cX3_remove 7 = .ok (.iload_n 3, 1) := by decide +kernel
theorem dX3_remove_8 : decode cX3_remove 8 = .ok (.iconst (-1), 1) := by decide +kernel
theorem dX3_remove_9 : decode cX3_remove 9 = .ok (.if_icmp .ne 5, 3) := by decide +kernel
theorem dX3_remove_12 : decode cX3_remove 12 = .ok (.iconst 0, 1) := by decide +kernel
theorem dX3_remove_13 : decode cX3_remove 13 = .ok (.ireturn, 1) := by decide +kernel
theorem dX3_remove_14 : decode cX3_remove 14 = .ok (.aload_n 0, 1) := by decide +kernel
theorem dX3_remove_15 : decode cX3_remove 15 = .ok (.dup, 1) := by decide +kernel
theorem dX3_remove_16 : decode cX3_remove 16 = .ok (.getfield 18, 3) := by decide +kernel
theorem dX3_remove_19 : decode cX3_remove 19 = .ok (.iconst 1, 1) := by decide +kernel
theorem dX3_remove_20 : decode cX3_remove 20 = .ok (.isub, 1) := by decide +kernel
theorem dX3_remove_21 : decode cX3_remove 21 = .ok (.putfield 18, 3) := by decide +kernel
theorem dX3_remove_24 : decode cX3_remove 24 = .ok (.aload_n 0, 1) := by decide +kernel
theorem dX3_remove_25 : decode cX3_remove 25 = .ok (.getfield 9, 3) := by decide +kernel
theorem dX3_remove_28 : decode cX3_remove 28 = .ok (.iload_n 3, 1) := by decide +kernel
theorem dX3_remove_29 : decode cX3_remove 29 = .ok (.aload_n 0, 1) := by decide +kernel
theorem dX3_remove_30 : decode cX3_remove 30 = .ok (.getfield 9, 3) := by decide +kernel
theorem dX3_remove_33 : decode cX3_remove 33 = .ok (.aload_n 0, 1) := by decide +kernel
theorem dX3_remove_34 : decode cX3_remove 34 = .ok (.getfield 18, 3) := by decide +kernel
theorem dX3_remove_37 : decode cX3_remove 37 = .ok (.iaload, 1) := by decide +kernel
theorem dX3_remove_38 : decode cX3_remove 38 = .ok (.iastore, 1) := by decide +kernel
theorem dX3_remove_39 : decode cX3_remove 39 = .ok (.aload_n 0, 1) := by decide +kernel
theorem dX3_remove_40 : decode cX3_remove 40 = .ok (.getfield 15, 3) := by decide +kernel
theorem dX3_remove_43 : decode cX3_remove 43 = .ok (.iload_n 3, 1) := by decide +kernel
theorem dX3_remove_44 : decode cX3_remove 44 = .ok (.aload_n 0, 1) := by decide +kernel
theorem dX3_remove_45 : decode cX3_remove 45 = .ok (.getfield 15, 3) := by decide +kernel
theorem dX3_remove_48 : decode cX3_remove 48 = .ok (.aload_n 0, 1) := by decide +kernel
theorem dX3_remove_49 : decode cX3_remove 49 = .ok (.getfield 18, 3) := by decide +kernel
theorem dX3_remove_52 : decode cX3_remove 52 = .ok (.iaload, 1) := by decide +kernel
theorem dX3_remove_53 : decode cX3_remove 53 = .ok (.iastore, 1) := by decide +kernel
theorem dX3_remove_54 : decode cX3_remove 54 = .ok (.iconst 1, 1) := by decide +kernel
theorem dX3_remove_55 : decode cX3_remove 55 = .ok (.ireturn, 1) := by decide +kernel
theorem dX4_init_0 : decode cX4_init 0 = .ok (.aload_n 0, 1) := by decide +kernel
theorem dX4_init_1 : decode cX4_init 1 = .ok (.invokespecial 3, 3) := by decide +kernel
theorem dX4_init_4 : decode cX4_init 4 = .ok (.aload_n 0, 1) := by decide +kernel
theorem dX4_init_5 : decode cX4_init 5 = .ok (.bipush 10, 2) := by decide +kernel
theorem dX4_init_7 : decode cX4_init 7 = .ok (.newarray .int, 2) := by decide +kernel
theorem dX4_init_9 : decode cX4_init 9 = .ok (.putfield 9, 3) := by decide +kernel
theorem dX4_init_12 : decode cX4_init 12 = .ok (.aload_n 0, 1) := by decide +kernel
theorem dX4_init_13 : decode cX4_init 13 = .ok (.iconst (-1), 1) := by decide +kernel
theorem dX4_init_14 : decode cX4_init 14 = .ok (.putfield 15, 3) := by decide +kernel
theorem dX4_init_17 : decode cX4_init 17 = .ok (.return_, 1) := by decide +kernel
theorem dX4_isFound_0 : decode cX4_isFound 0 = .ok (.aload_n 0, 1) := by decide +kernel
theorem dX4_isFound_1 : decode cX4_isFound 1 = .ok (.getfield 15, 3) := by decide +kernel
theorem dX4_isFound_4 : decode cX4_isFound 4 = .ok (.iconst (-1), 1) := by decide +kernel
theorem dX4_isFound_5 : decode cX4_isFound 5 = .ok (.if_icmp .eq 7, 3) := by decide +kernel
theorem dX4_isFound_8 : decode cX4_isFound 8 = .ok (.iconst 1, 1) := by decide +kernel
theorem dX4_isFound_9 : decode cX4_isFound 9 = .ok (.goto 4, 3) := by decide +kernel
theorem dX4_isFound_12 : decode cX4_isFound 12 = .ok (.iconst 0, 1) := by decide +kernel
theorem dX4_isFound_13 : decode cX4_isFound 13 = .ok (.ireturn, 1) := by decide +kernel
theorem dX4_partAt_0 : decode cX4_partAt 0 = .ok (.iload_n 1, 1) := by decide +kernel
theorem dX4_partAt_1 : decode cX4_partAt 1 = .ok (.ifCond .lt 26, 3) := by decide +kernel
theorem dX4_partAt_4 : decode cX4_partAt 4 = .ok (.iload_n 1, 1) := by decide +kernel
theorem dX4_partAt_5 : decode cX4_partAt 5 = .ok (.aload_n 0, 1) := by decide +kernel
theorem dX4_partAt_6 : decode cX4_partAt 6 = .ok (.getfield 15, 3) := by decide +kernel
theorem dX4_partAt_9 : decode cX4_partAt 9 = .ok (.if_icmp .ge 18, 3) := by decide +kernel
theorem dX4_partAt_12 : decode cX4_partAt 12 = .ok (.iload_n 1, 1) := by decide +kernel
theorem dX4_partAt_13 : decode cX4_partAt 13 = .ok (.bipush 10, 2) := by decide +kernel
theorem dX4_partAt_15 : decode cX4_partAt 15 = .ok (.if_icmp .ge 12, 3) := by decide +kernel
theorem dX4_partAt_18 : decode cX4_partAt 18 = .ok (.aload_n 0, 1) := by decide +kernel
theorem dX4_partAt_19 : decode cX4_partAt 19 = .ok (.getfield 9, 3) := by decide +kernel
theorem dX4_partAt_22 : decode cX4_partAt 22 = .ok (.iload_n 1, 1) := by decide +kernel
theorem dX4_partAt_23 : decode cX4_partAt 23 = .ok (.iaload, 1) := by decide +kernel
theorem dX4_partAt_24 : decode cX4_partAt 24 = .ok (.goto 4, 3) := by decide +kernel
theorem dX4_partAt_27 : decode cX4_partAt 27 = .ok (.iconst (-1), 1) := by decide +kernel
theorem dX4_partAt_28 : decode cX4_partAt 28 = .ok (.ireturn, 1) := by decide +kernel
theorem dX4_plan_0 : decode cX4_plan 0 = .ok (.iload_n 2, 1) := by decide +kernel
theorem dX4_plan_1 : decode cX4_plan 1 = .ok (.invokestatic 19, 3) := by decide +kernel
theorem dX4_plan_4 : decode cX4_plan 4 = .ok (.istore_n 3, 1) := by decide +kernel
theorem dX4_plan_5 : decode cX4_plan 5 = .ok (.aload_n 1, 1) := by decide +kernel
theorem dX4_plan_6 : decode cX4_plan 6 = .ok (.iconst 0, 1) := by decide +kernel
theorem dX4_plan_7 : decode cX4_plan 7 = .ok (.invokevirtual 25, 3) := by decide +kernel
theorem dX4_plan_10 : decode cX4_plan 10 = .ok (.iconst (-1), 1) := by decide +kernel
theorem dX4_plan_11 : decode cX4_plan 11 = .ok (.if_icmp .ne 7, 3) := by decide +kernel
theorem dX4_plan_14 : decode cX4_plan 14 = .ok (.iconst 0, 1) := by decide +kernel
theorem dX4_plan_15 : decode cX4_plan 15 = .ok (.goto 4, 3) := by decide +kernel
theorem dX4_plan_18 : decode cX4_plan 18 = .ok (.iconst (-1), 1) := by decide +kernel
theorem dX4_plan_19 : decode cX4_plan 19 = .ok (.istore 4, 2) := by decide +kernel
theorem dX4_plan_21 : decode cX4_plan 21 = .ok (.iconst 0, 1) := by decide +kernel
theorem dX4_plan_22 : decode cX4_plan 22 = .ok (.istore 5, 2) := by decide +kernel
theorem dX4_plan_24 : decode cX4_plan 24 = .ok (.iload 5, 2) := by decide +kernel
theorem dX4_plan_26 : decode cX4_plan 26 = .ok (.iload_n 3, 1) := by decide +kernel
theorem dX4_plan_27 : decode cX4_plan 27 = .ok (.if_icmp .ge 65, 3) := by decide +kernel
theorem dX4_plan_30 : decode cX4_plan 30 = .ok (.iload 5, 2) := by decide +kernel
theorem dX4_plan_32 : decode cX4_plan 32 = .ok (.bipush 10, 2) := by decide +kernel
theorem dX4_plan_34 : decode cX4_plan 34 = .ok (.if_icmp .ge 58, 3) := by decide +kernel
theorem dX4_plan_37 : decode cX4_plan 37 = .ok (.iload 4, 2) := by decide +kernel
theorem dX4_plan_39 : decode cX4_plan 39 = .ok (.iconst (-1), 1) := by decide +kernel
theorem dX4_plan_40 : decode cX4_plan 40 = .ok (.if_icmp .eq 52, 3) := by decide +kernel
theorem dX4_plan_43 : decode cX4_plan 43 = .ok (.aload_n 0, 1) := by decide +kernel
theorem dX4_plan_44 : decode cX4_plan 44 = .ok (.getfield 9, 3) := by decide +kernel
theorem dX4_plan_47 : decode cX4_plan 47 = .ok (.iload 5, 2) := by decide +kernel
theorem dX4_plan_49 : decode cX4_plan 49 = .ok (.aload_n 1, 1) := by decide +kernel
theorem dX4_plan_50 : decode cX4_plan 50 = .ok (.iload_n 2, 1) := by decide +kernel
theorem dX4_plan_51 : decode cX4_plan 51 = .ok (.iload 4, 2) := by decide +kernel
theorem dX4_plan_53 : decode cX4_plan 53 = .ok (.invokestatic 30, 3) := by decide +kernel
theorem dX4_plan_56 : decode cX4_plan 56 = .ok (.iastore, 1) := by decide +kernel
theorem dX4_plan_57 : decode cX4_plan 57 = .ok (.aload_n 0, 1) := by decide +kernel
theorem dX4_plan_58 : decode cX4_plan 58 = .ok (.getfield 9, 3) := by decide +kernel
theorem dX4_plan_61 : decode cX4_plan 61 = .ok (.iload 5, 2) := by decide +kernel
theorem dX4_plan_63 : decode cX4_plan 63 = .ok (.iaload, 1) := by decide +kernel
theorem dX4_plan_64 : decode cX4_plan 64 = .ok (.iconst (-1), 1) := by decide +kernel
theorem dX4_plan_65 : decode cX4_plan 65 = .ok (.if_icmp .eq 18, 3) := by decide +kernel
theorem dX4_plan_68 : decode cX4_plan 68 = .ok (.iload 4, 2) := by decide +kernel
theorem dX4_plan_70 : decode cX4_plan 70 = .ok (.iconst 1, 1) := by decide +kernel
theorem dX4_plan_71 : decode cX4_plan 71 = .ok (.aload_n 0, 1) := by decide +kernel
theorem dX4_plan_72 : decode cX4_plan 72 = .ok (.getfield 9, 3) := by decide +kernel
theorem dX4_plan_75 : decode cX4_plan 75 = .ok (.iload 5, 2) := by decide +kernel
theorem dX4_plan_77 : decode cX4_plan 77 = .ok (.iaload, 1) := by decide +kernel
theorem dX4_plan_78 : decode cX4_plan 78 = .ok (.ishl, 1) := by decide +kernel
theorem dX4_plan_79 : decode cX4_plan 79 = .ok (.ior, 1) := by decide +kernel
theorem dX4_plan_80 : decode cX4_plan 80 = .ok (.goto 4, 3) := by decide +kernel
theorem dX4_plan_83 : decode cX4_plan 83 = .ok (.iconst (-1), 1) := by decide +kernel
theorem dX4_plan_84 : decode cX4_plan 84 = .ok (.istore 4, 2) := by decide +kernel
theorem dX4_plan_86 : decode cX4_plan 86 = .ok (.iinc 5 1, 3) := by decide +kernel
theorem dX4_plan_89 : decode cX4_plan 89 = .ok (.goto (-65), 3) := by decide +kernel
theorem dX4_plan_92 : decode cX4_plan 92 = .ok (.aload_n 0, 1) := by decide +kernel
theorem dX4_plan_93 : decode cX4_plan 93 = .ok (.iload 4, 2) := by decide +kernel
theorem dX4_plan_95 : decode cX4_plan 95 = .ok (.iconst (-1), 1) := by decide +kernel
theorem dX4_plan_96 : decode cX4_plan 96 = .ok (.if_icmp .eq 7, 3) := by decide +kernel
theorem dX4_plan_99 : decode cX4_plan 99 = .ok (.iload_n 3, 1) := by decide +kernel
theorem dX4_plan_100 : decode cX4_plan 100 = .ok (.goto 4, 3) := by decide +kernel
theorem dX4_plan_103 : decode cX4_plan 103 = .ok (.iconst (-1), 1) := by decide +kernel
theorem dX4_plan_104 : decode cX4_plan 104 = .ok (.putfield 15, 3) := by decide +kernel
theorem dX4_plan_107 : decode cX4_plan 107 = .ok (.return_, 1) := by decide +kernel
theorem dX4_firstOpen_0 : decode cX4_firstOpen 0 = .ok (.iconst 0, 1) := by decide +kernel
theorem dX4_firstOpen_1 : decode cX4_firstOpen 1 = .ok (.istore_n 3, 1) := by decide +kernel
theorem dX4_firstOpen_2 : decode cX4_firstOpen 2 = .ok (.iload_n 3, 1) := by decide +kernel
theorem dX4_firstOpen_3 : decode cX4_firstOpen 3 = .ok (.bipush 10, 2) := by decide +kernel
theorem dX4_firstOpen_5 : decode cX4_firstOpen 5 = .ok (.if_icmp .ge 42, 3) := by decide +kernel
theorem dX4_firstOpen_8 : decode cX4_firstOpen 8 = .ok (.iload_n 2, 1) := by decide +kernel
theorem dX4_firstOpen_9 : decode cX4_firstOpen 9 = .ok (.iconst 1, 1) := by decide +kernel
theorem dX4_firstOpen_10 : decode cX4_firstOpen 10 = .ok (.iload_n 3, 1) := by decide +kernel
theorem dX4_firstOpen_11 : decode cX4_firstOpen 11 = .ok (.ishl, 1) := by decide +kernel
theorem dX4_firstOpen_12 : decode cX4_firstOpen 12 = .ok (.ior, 1) := by decide +kernel
theorem dX4_firstOpen_13 : decode cX4_firstOpen 13 = .ok (.istore 4, 2) := by decide +kernel
theorem dX4_firstOpen_15 : decode cX4_firstOpen 15 = .ok (.iload_n 1, 1) := by decide +kernel
theorem dX4_firstOpen_16 : decode cX4_firstOpen 16 = .ok (.iload_n 3, 1) := by decide +kernel
theorem dX4_firstOpen_17 : decode cX4_firstOpen 17 = .ok (.ishr, 1) := by decide +kernel
theorem dX4_firstOpen_18 : decode cX4_firstOpen 18 = .ok (.iconst 1, 1) := by decide +kernel
theorem dX4_firstOpen_19 : decode cX4_firstOpen 19 = .ok (.iand, 1) := by decide +kernel
theorem dX4_firstOpen_20 : decode cX4_firstOpen 20 = .ok (.ifCond .eq 21, 3) := by decide +kernel
theorem dX4_firstOpen_23 : decode cX4_firstOpen 23 = .ok (.iload 4, 2) := by decide +kernel
theorem dX4_firstOpen_25 : decode cX4_firstOpen 25 = .ok (.iload_n 2, 1) := by decide +kernel
theorem dX4_firstOpen_26 : decode cX4_firstOpen 26 = .ok (.if_icmp .eq 15, 3) := by decide +kernel
theorem dX4_firstOpen_29 : decode cX4_firstOpen 29 = .ok (.aload_n 0, 1) := by decide +kernel
theorem dX4_firstOpen_30 : decode cX4_firstOpen 30 = .ok (.iload 4, 2) := by decide +kernel
theorem dX4_firstOpen_32 : decode cX4_firstOpen 32 = .ok (.invokevirtual 25, 3) := by decide +kernel
theorem dX4_firstOpen_35 : decode cX4_firstOpen 35 = .ok (.iconst (-1), 1) := by decide +kernel
theorem dX4_firstOpen_36 : decode cX4_firstOpen 36 = .ok (.if_icmp .ne 5, 3) := by decide +kernel
theorem dX4_firstOpen_39 : decode cX4_firstOpen 39 = .ok (.iload_n 3, 1) := by decide +kernel
theorem dX4_firstOpen_40 : decode cX4_firstOpen 40 = .ok (.ireturn, 1) := by decide +kernel
theorem dX4_firstOpen_41 : decode cX4_firstOpen 41 = .ok (.iinc 3 1, 3) := by decide +kernel
theorem dX4_firstOpen_44 : decode cX4_firstOpen 44 = .ok (.goto (-42), 3) := by decide +kernel
theorem dX4_firstOpen_47 : decode cX4_firstOpen 47 = .ok (.iconst (-1), 1) := by decide +kernel
theorem dX4_firstOpen_48 : decode cX4_firstOpen 48 = .ok (.ireturn, 1) := by decide +kernel
theorem dX5_init_0 : decode cX5_init 0 = .ok (.aload_n 0, 1) := by decide +kernel
theorem dX5_init_1 : decode cX5_init 1 = .ok (.invokespecial 3, 3) := by decide +kernel
theorem dX5_init_4 : decode cX5_init 4 = .ok (.aload_n 0, 1) := by decide +kernel
theorem dX5_init_5 : decode cX5_init 5 = .ok (.bipush 12, 2) := by decide +kernel
theorem dX5_init_7 : decode cX5_init 7 = .ok (.newarray .int, 2) := by decide +kernel
theorem dX5_init_9 : decode cX5_init 9 = .ok (.putfield 9, 3) := by decide +kernel
theorem dX5_init_12 : decode cX5_init 12 = .ok (.aload_n 0, 1) := by decide +kernel
theorem dX5_init_13 : decode cX5_init 13 = .ok (.iconst 0, 1) := by decide +kernel
theorem dX5_init_14 : decode cX5_init 14 = .ok (.putfield 15, 3) := by decide +kernel
theorem dX5_init_17 : decode cX5_init 17 = .ok (.return_, 1) := by decide +kernel
theorem dX5_add_0 : decode cX5_add 0 = .ok (.aload_n 0, 1) := by decide +kernel
theorem dX5_add_1 : decode cX5_add 1 = .ok (.getfield 15, 3) := by decide +kernel
theorem dX5_add_4 : decode cX5_add 4 = .ok (.bipush 12, 2) := by decide +kernel
theorem dX5_add_6 : decode cX5_add 6 = .ok (.if_icmp .lt 5, 3) := by decide +kernel
theorem dX5_add_9 : decode cX5_add 9 = .ok (.iconst (-1), 1) := by decide +kernel
theorem dX5_add_10 : decode cX5_add 10 = .ok (.ireturn, 1) := by decide +kernel
theorem dX5_add_11 : decode cX5_add 11 = .ok (.aload_n 0, 1) := by decide +kernel
theorem dX5_add_12 : decode cX5_add 12 = .ok (.getfield 9, 3) := by decide +kernel
theorem dX5_add_15 : decode cX5_add 15 = .ok (.aload_n 0, 1) := by decide +kernel
theorem dX5_add_16 : decode cX5_add 16 = .ok (.getfield 15, 3) := by decide +kernel
theorem dX5_add_19 : decode cX5_add 19 = .ok (.iload_n 1, 1) := by decide +kernel
theorem dX5_add_20 : decode cX5_add 20 = .ok (.iastore, 1) := by decide +kernel
theorem dX5_add_21 : decode cX5_add 21 = .ok (.aload_n 0, 1) := by decide +kernel
theorem dX5_add_22 : decode cX5_add 22 = .ok (.dup, 1) := by decide +kernel
theorem dX5_add_23 : decode cX5_add 23 = .ok (.getfield 15, 3) := by decide +kernel
theorem dX5_add_26 : decode cX5_add 26 = .ok (.iconst 1, 1) := by decide +kernel
theorem dX5_add_27 : decode cX5_add 27 = .ok (.iadd, 1) := by decide +kernel
theorem dX5_add_28 : decode cX5_add 28 = .ok (.putfield 15, 3) := by decide +kernel
theorem dX5_add_31 : decode cX5_add 31 = .ok (.aload_n 0, 1) := by decide +kernel
theorem dX5_add_32 : decode cX5_add 32 = .ok (.getfield 15, 3) := by decide +kernel
theorem dX5_add_35 : decode cX5_add 35 = .ok (.iconst 1, 1) := by decide +kernel
theorem dX5_add_36 : decode cX5_add 36 = .ok (.isub, 1) := by decide +kernel
theorem dX5_add_37 : decode cX5_add 37 = .ok (.ireturn, 1) := by decide +kernel
theorem dX5_firstRed_0 : decode cX5_firstRed 0 = .ok (.iconst 0, 1) := by decide +kernel
theorem dX5_firstRed_1 : decode cX5_firstRed 1 = .ok (.istore_n 2, 1) := by decide +kernel
theorem dX5_firstRed_2 : decode cX5_firstRed 2 = .ok (.iload_n 2, 1) := by decide +kernel
theorem dX5_firstRed_3 : decode cX5_firstRed 3 = .ok (.aload_n 0, 1) := by decide +kernel
theorem dX5_firstRed_4 : decode cX5_firstRed 4 = .ok (.getfield 15, 3) := by decide +kernel
theorem dX5_firstRed_7 : decode cX5_firstRed 7 = .ok (.if_icmp .ge 24, 3) := by decide +kernel
theorem dX5_firstRed_10 : decode cX5_firstRed 10 = .ok (.aload_n 0, 1) := by decide +kernel
theorem dX5_firstRed_11 : decode cX5_firstRed 11 = .ok (.getfield 9, 3) := by decide +kernel
theorem dX5_firstRed_14 : decode cX5_firstRed 14 = .ok (.iload_n 2, 1) := by decide +kernel
theorem dX5_firstRed_15 : decode cX5_firstRed 15 = .ok (.iaload, 1) := by decide +kernel
theorem dX5_firstRed_16 : decode cX5_firstRed 16 = .ok (.iload_n 1, 1) := by decide +kernel
theorem dX5_firstRed_17 : decode cX5_firstRed 17 = .ok (.iconst (-1), 1) := by decide +kernel
theorem dX5_firstRed_18 : decode cX5_firstRed 18 = .ok (.ixor, 1) := by decide +kernel
theorem dX5_firstRed_19 : decode cX5_firstRed 19 = .ok (.iand, 1) := by decide +kernel
theorem dX5_firstRed_20 : decode cX5_firstRed 20 = .ok (.ifCond .ne 5, 3) := by decide +kernel
theorem dX5_firstRed_23 : decode cX5_firstRed 23 = .ok (.iload_n 2, 1) := by decide +kernel
theorem dX5_firstRed_24 : decode cX5_firstRed 24 = .ok (.ireturn, 1) := by decide +kernel
theorem dX5_firstRed_25 : decode cX5_firstRed 25 = .ok (.iinc 2 1, 3) := by decide +kernel
theorem dX5_firstRed_28 : decode cX5_firstRed 28 = .ok (.goto (-26), 3) := by decide +kernel
theorem dX5_firstRed_31 : decode cX5_firstRed 31 = .ok (.iconst (-1), 1) := by decide +kernel
theorem dX5_firstRed_32 : decode cX5_firstRed 32 = .ok (.ireturn, 1) := by decide +kernel
theorem dX6_init_0 : decode cX6_init 0 = .ok (.aload_n 0, 1) := by decide +kernel
theorem dX6_init_1 : decode cX6_init 1 = .ok (.invokespecial 1, 3) := by decide +kernel
theorem dX6_init_4 : decode cX6_init 4 = .ok (.aload_n 0, 1) := by decide +kernel
theorem dX6_init_5 : decode cX6_init 5 = .ok (.aload_n 1, 1) := by decide +kernel
theorem dX6_init_6 : decode cX6_init 6 = .ok (.putfield 7, 3) := by decide +kernel
theorem dX6_init_9 : decode cX6_init 9 = .ok (.aload_n 0, 1) := by decide +kernel
theorem dX6_init_10 : decode cX6_init 10 = .ok (.aload_n 2, 1) := by decide +kernel
theorem dX6_init_11 : decode cX6_init 11 = .ok (.putfield 13, 3) := by decide +kernel
theorem dX6_init_14 : decode cX6_init 14 = .ok (.aload_n 0, 1) := by decide +kernel
theorem dX6_init_15 : decode cX6_init 15 = .ok (.iload_n 3, 1) := by decide +kernel
theorem dX6_init_16 : decode cX6_init 16 = .ok (.putfield 16, 3) := by decide +kernel
theorem dX6_init_19 : decode cX6_init 19 = .ok (.aload_n 0, 1) := by decide +kernel
theorem dX6_init_20 : decode cX6_init 20 = .ok (.iconst 0, 1) := by decide +kernel
theorem dX6_init_21 : decode cX6_init 21 = .ok (.putfield 20, 3) := by decide +kernel
theorem dX6_init_24 : decode cX6_init 24 = .ok (.return_, 1) := by decide +kernel
