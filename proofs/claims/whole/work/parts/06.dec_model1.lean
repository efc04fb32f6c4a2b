theorem dX8_init_0 : decode cX8_init 0 = .ok (.aload_n 0, 1) := by decide +kernel
theorem dX8_init_1 : decode cX8_init 1 = .ok (.invokespecial 3, 3) := by decide +kernel
theorem dX8_init_4 : decode cX8_init 4 = .ok (.aload_n 0, 1) := by decide +kernel
theorem dX8_init_5 : decode cX8_init 5 = .ok (.bipush 10, 2) := by decide +kernel
theorem dX8_init_7 : decode cX8_init 7 = .ok (.newarray .int, 2) := by decide +kernel
theorem dX8_init_9 : decode cX8_init 9 = .ok (.putfield 9, 3) := by decide +kernel
theorem dX8_init_12 : decode cX8_init 12 = .ok (.aload_n 0, 1) := by decide +kernel
theorem dX8_init_13 : decode cX8_init 13 = .ok (.bipush 10, 2) := by decide +kernel
theorem dX8_init_15 : decode cX8_init 15 = .ok (.newarray .int, 2) := by decide +kernel
theorem dX8_init_17 : decode cX8_init 17 = .ok (.putfield 13, 3) := by decide +kernel
theorem dX8_init_20 : decode cX8_init 20 = .ok (.aload_n 0, 1) := by decide +kernel
theorem dX8_init_21 : decode cX8_init 21 = .ok (.bipush 10, 2) := by decide +kernel
theorem dX8_init_23 : decode cX8_init 23 = .ok (.newarray .int, 2) := by decide +kernel
theorem dX8_init_25 : decode cX8_init 25 = .ok (.putfield 16, 3) := by decide +kernel
theorem dX8_init_28 : decode cX8_init 28 = .ok (.aload_n 0, 1) := by decide +kernel
theorem dX8_init_29 : decode cX8_init 29 = .ok (.bipush 10, 2) := by decide +kernel
theorem dX8_init_31 : decode cX8_init 31 = .ok (.newarray .int, 2) := by decide +kernel
theorem dX8_init_33 : decode cX8_init 33 = .ok (.putfield 19, 3) := by decide +kernel
theorem dX8_init_36 : decode cX8_init 36 = .ok (.aload_n 0, 1) := by decide +kernel
theorem dX8_init_37 : decode cX8_init 37 = .ok (.bipush 10, 2) := by decide +kernel
theorem dX8_init_39 : decode cX8_init 39 = .ok (.newarray .int, 2) := by decide +kernel
theorem dX8_init_41 : decode cX8_init 41 = .ok (.putfield 22, 3) := by decide +kernel
theorem dX8_init_44 : decode cX8_init 44 = .ok (.aload_n 0, 1) := by decide +kernel
theorem dX8_init_45 : decode cX8_init 45 = .ok (.bipush 30, 2) := by decide +kernel
theorem dX8_init_47 : decode cX8_init 47 = .ok (.newarray .int, 2) := by decide +kernel
theorem dX8_init_49 : decode cX8_init 49 = .ok (.putfield 25, 3) := by decide +kernel
theorem dX8_init_52 : decode cX8_init 52 = .ok (.aload_n 0, 1) := by decide +kernel
theorem dX8_init_53 : decode cX8_init 53 = .ok (.bipush 30, 2) := by decide +kernel
theorem dX8_init_55 : decode cX8_init 55 = .ok (.newarray .int, 2) := by decide +kernel
theorem dX8_init_57 : decode cX8_init 57 = .ok (.putfield 28, 3) := by decide +kernel
theorem dX8_init_60 : decode cX8_init 60 = .ok (.aload_n 0, 1) := by decide +kernel
theorem dX8_init_61 : decode cX8_init 61 = .ok (.bipush 30, 2) := by decide +kernel
theorem dX8_init_63 : decode cX8_init 63 = .ok (.newarray .int, 2) := by decide +kernel
theorem dX8_init_65 : decode cX8_init 65 = .ok (.putfield 31, 3) := by decide +kernel
theorem dX8_init_68 : decode cX8_init 68 = .ok (.aload_n 0, 1) := by decide +kernel
theorem dX8_init_69 : decode cX8_init 69 = .ok (.bipush 30, 2) := by decide +kernel
theorem dX8_init_71 : decode cX8_init 71 = .ok (.newarray .int, 2) := by decide +kernel
theorem dX8_init_73 : decode cX8_init 73 = .ok (.putfield 34, 3) := by decide +kernel
theorem dX8_init_76 : decode cX8_init 76 = .ok (.aload_n 0, 1) := by decide +kernel
theorem dX8_init_77 : decode cX8_init 77 = .ok (.bipush 30, 2) := by decide +kernel
theorem dX8_init_79 : decode cX8_init 79 = .ok (.newarray .int, 2) := by decide +kernel
theorem dX8_init_81 : decode cX8_init 81 = .ok (.putfield 37, 3) := by decide +kernel
theorem dX8_init_84 : decode cX8_init 84 = .ok (.aload_n 0, 1) := by decide +kernel
theorem dX8_init_85 : decode cX8_init 85 = .ok (.bipush 12, 2) := by decide +kernel
theorem dX8_init_87 : decode cX8_init 87 = .ok (.newarray .int, 2) := by decide +kernel
theorem dX8_init_89 : decode cX8_init 89 = .ok (.putfield 40, 3) := by decide +kernel
theorem dX8_init_92 : decode cX8_init 92 = .ok (.aload_n 0, 1) := by decide +kernel
theorem dX8_init_93 : decode cX8_init 93 = .ok (.bipush 60, 2) := by decide +kernel
theorem dX8_init_95 : decode cX8_init 95 = .ok (.newarray .int, 2) := by decide +kernel
theorem dX8_init_97 : decode cX8_init 97 = .ok (.putfield 43, 3) := by decide +kernel
theorem dX8_init_100 : decode cX8_init 100 = .ok (.aload_n 0, 1) := by decide +kernel
theorem dX8_init_101 : decode cX8_init 101 = .ok (.bipush 60, 2) := by decide +kernel
theorem dX8_init_103 : decode cX8_init 103 = .ok (.newarray .int, 2) := by decide +kernel
theorem dX8_init_105 : decode cX8_init 105 = .ok (.putfield 46, 3) := by decide +kernel
theorem dX8_init_108 : decode cX8_init 108 = .ok (.aload_n 0, 1) := by decide +kernel
theorem dX8_init_109 : decode cX8_init 109 = .ok (.bipush 60, 2) := by decide +kernel
theorem dX8_init_111 : decode cX8_init 111 = .ok (.newarray .int, 2) := by decide +kernel
theorem dX8_init_113 : decode cX8_init 113 = .ok (.putfield 49, 3) := by decide +kernel
theorem dX8_init_116 : decode cX8_init 116 = .ok (.aload_n 0, 1) := by decide +kernel
theorem dX8_init_117 : decode cX8_init 117 = .ok (.bipush 60, 2) := by decide +kernel
theorem dX8_init_119 : decode cX8_init 119 = .ok (.newarray .int, 2) := by decide +kernel
theorem dX8_init_121 : decode cX8_init 121 = .ok (.putfield 52, 3) := by decide +kernel
theorem dX8_init_124 : decode cX8_init 124 = .ok (.aload_n 0, 1) := by decide +kernel
theorem dX8_init_125 : decode cX8_init 125 = .ok (.sipush 600, 3) := by decide +kernel
theorem dX8_init_128 : decode cX8_init 128 = .ok (.newarray .int, 2) := by decide +kernel
theorem dX8_init_130 : decode cX8_init 130 = .ok (.putfield 55, 3) := by decide +kernel
theorem dX8_init_133 : decode cX8_init 133 = .ok (.aload_n 0, 1) := by decide +kernel
theorem dX8_init_134 : decode cX8_init 134 = .ok (.sipush 600, 3) := by decide +kernel
theorem dX8_init_137 : decode cX8_init 137 = .ok (.newarray .int, 2) := by decide +kernel
theorem dX8_init_139 : decode cX8_init 139 = .ok (.putfield 58, 3) := by decide +kernel
theorem dX8_init_142 : decode cX8_init 142 = .ok (.aload_n 0, 1) := by decide +kernel
theorem dX8_init_143 : decode cX8_init 143 = .ok (.bipush 60, 2) := by decide +kernel
theorem dX8_init_145 : decode cX8_init 145 = .ok (.newarray .boolean, 2) := by decide +kernel
theorem dX8_init_147 : decode cX8_init 147 = .ok (.putfield 61, 3) := by decide +kernel
theorem dX8_init_150 : decode cX8_init 150 = .ok (.aload_n 0, 1) := by decide +kernel
theorem dX8_init_151 : decode cX8_init 151 = .ok (.sipush 1024, 3) := by decide +kernel
theorem dX8_init_154 : decode cX8_init 154 = .ok (.newarray .boolean, 2) := by decide +kernel
theorem dX8_init_156 : decode cX8_init 156 = .ok (.putfield 65, 3) := by decide +kernel
theorem dX8_init_159 : decode cX8_init 159 = .ok (.aload_n 0, 1) := by decide +kernel
theorem dX8_init_160 : decode cX8_init 160 = .ok (.bipush 10, 2) := by decide +kernel
theorem dX8_init_162 : decode cX8_init 162 = .ok (.newarray .int, 2) := by decide +kernel
theorem dX8_init_164 : decode cX8_init 164 = .ok (.putfield 68, 3) := by decide +kernel
theorem dX8_init_167 : decode cX8_init 167 = .ok (.return_, 1) := by decide +kernel
theorem dX8_thrown_0 : decode cX8_thrown 0 = .ok (.aload_n 0, 1) := by decide +kernel
theorem dX8_thrown_1 : decode cX8_thrown 1 = .ok (.getfield 71, 3) := by decide +kernel
theorem dX8_thrown_4 : decode cX8_thrown 4 = .ok (.ireturn, 1) := by decide +kernel
theorem dX8_isIn_0 : decode cX8_isIn 0 = .ok (.iload_n 0, 1) := by decide +kernel
theorem dX8_isIn_1 : decode cX8_isIn 1 = .ok (.iload_n 1, 1) := by decide +kernel
theorem dX8_isIn_2 : decode cX8_isIn 2 = .ok (.if_icmp .lt 12, 3) := by decide +kernel
theorem dX8_isIn_5 : decode cX8_isIn 5 = .ok (.iload_n 0, 1) := by decide +kernel
theorem dX8_isIn_6 : decode cX8_isIn 6 = .ok (.iload_n 2, 1) := by decide +kernel
theorem dX8_isIn_7 : decode cX8_isIn 7 = .ok (.if_icmp .gt 7, 3) := by decide +kernel
theorem dX8_isIn_10 : decode cX8_isIn 10 = .ok (.iconst 1, 1) := by decide +kernel
theorem dX8_isIn_11 : decode cX8_isIn 11 = .ok (.goto 4, 3) := by decide +kernel
theorem dX8_isIn_14 : decode cX8_isIn 14 = .ok (.iconst 0, 1) := by decide +kernel
theorem dX8_isIn_15 : decode cX8_isIn 15 = .ok (.ireturn, 1) := by decide +kernel
theorem dX8_isPart_0 : decode cX8_isPart 0 = .ok (.iload_n 1, 1) := by decide +kernel
theorem dX8_isPart_1 : decode cX8_isPart 1 = .ok (.ifCond .lt 15, 3) := by decide +kernel
theorem dX8_isPart_4 : decode cX8_isPart 4 = .ok (.iload_n 1, 1) := by decide +kernel
theorem dX8_isPart_5 : decode cX8_isPart 5 = .ok (.aload_n 0, 1) := by decide +kernel
theorem dX8_isPart_6 : decode cX8_isPart 6 = .ok (.getfield 75, 3) := by decide +kernel
theorem dX8_isPart_9 : decode cX8_isPart 9 = .ok (.if_icmp .ge 7, 3) := by decide +kernel
theorem dX8_isPart_12 : decode cX8_isPart 12 = .ok (.iconst 1, 1) := by decide +kernel
theorem dX8_isPart_13 : decode cX8_isPart 13 = .ok (.goto 4, 3) := by decide +kernel
theorem dX8_isPart_16 : decode cX8_isPart 16 = .ok (.iconst 0, 1) := by decide +kernel
theorem dX8_isPart_17 : decode cX8_isPart 17 = .ok (.ireturn, 1) := by decide +kernel
theorem dX8_isOf_0 : decode cX8_isOf 0 = .ok (.iload_n 0, 1) := by decide +kernel
theorem dX8_isOf_1 : decode cX8_isOf 1 = .ok (.iload_n 1, 1) := by decide +kernel
theorem dX8_isOf_2 : decode cX8_isOf 2 = .ok (.ishr, 1) := by decide +kernel
theorem dX8_isOf_3 : decode cX8_isOf 3 = .ok (.iconst 1, 1) := by decide +kernel
theorem dX8_isOf_4 : decode cX8_isOf 4 = .ok (.iand, 1) := by decide +kernel
theorem dX8_isOf_5 : decode cX8_isOf 5 = .ok (.iconst 1, 1) := by decide +kernel
theorem dX8_isOf_6 : decode cX8_isOf 6 = .ok (.if_icmp .ne 7, 3) := by decide +kernel
theorem dX8_isOf_9 : decode cX8_isOf 9 = .ok (.iconst 1, 1) := by decide +kernel
theorem dX8_isOf_10 : decode cX8_isOf 10 = .ok (.goto 4, 3) := by decide +kernel
theorem dX8_isOf_13 : decode cX8_isOf 13 = .ok (.iconst 0, 1) := by decide +kernel
theorem dX8_isOf_14 : decode cX8_isOf 14 = .ok (.ireturn, 1) := by decide +kernel
theorem dX8_part_0 : decode cX8_part 0 = .ok (.aload_n 0, 1) := by decide +kernel
theorem dX8_part_1 : decode cX8_part 1 = .ok (.iconst 0, 1) := by decide +kernel
theorem dX8_part_2 : decode cX8_part 2 = .ok (.putfield 71, 3) := by decide +kernel
theorem dX8_part_5 : decode cX8_part 5 = .ok (.aload_n 0, 1) := by decide +kernel
theorem dX8_part_6 : decode cX8_part 6 = .ok (.getfield 78, 3) := by decide +kernel
theorem dX8_part_9 : decode cX8_part 9 = .ok (.ifCond .ne 23, 3) := by decide +kernel
theorem dX8_part_12 : decode cX8_part 12 = .ok (.aload_n 0, 1) := by decide +kernel
theorem dX8_part_13 : decode cX8_part 13 = .ok (.getfield 75, 3) := by decide +kernel
theorem dX8_part_16 : decode cX8_part 16 = .ok (.bipush 10, 2) := by decide +kernel
theorem dX8_part_18 : decode cX8_part 18 = .ok (.if_icmp .eq 14, 3) := by decide +kernel
theorem dX8_part_21 : decode cX8_part 21 = .ok (.iload_n 1, 1) := by decide +kernel
theorem dX8_part_22 : decode cX8_part 22 = .ok (.iconst 0, 1) := by decide +kernel
theorem dX8_part_23 : decode cX8_part 23 = .ok (.sipush 1000, 3) := by decide +kernel
theorem dX8_part_26 : decode cX8_part 26 = .ok (.invokestatic 82, 3) := by decide +kernel
theorem dX8_part_29 : decode cX8_part 29 = .ok (.ifCond .ne 5, 3) := by decide +kernel
theorem dX8_part_32 : decode cX8_part 32 = .ok (.iconst (-1), 1) := by decide +kernel
theorem dX8_part_33 : decode cX8_part 33 = .ok (.ireturn, 1) := by decide +kernel
theorem dX8_part_34 : decode cX8_part 34 = .ok (.aload_n 0, 1) := by decide +kernel
theorem dX8_part_35 : decode cX8_part 35 = .ok (.getfield 9, 3) := by decide +kernel
theorem dX8_part_38 : decode cX8_part 38 = .ok (.aload_n 0, 1) := by decide +kernel
theorem dX8_part_39 : decode cX8_part 39 = .ok (.getfield 75, 3) := by decide +kernel
theorem dX8_part_42 : decode cX8_part 42 = .ok (.iload_n 1, 1) := by decide +kernel
theorem dX8_part_43 : decode cX8_part 43 = .ok (.iastore, 1) := by decide +kernel
theorem dX8_part_44 : decode cX8_part 44 = .ok (.aload_n 0, 1) := by decide +kernel
theorem dX8_part_45 : decode cX8_part 45 = .ok (.getfield 13, 3) := by decide +kernel
theorem dX8_part_48 : decode cX8_part 48 = .ok (.aload_n 0, 1) := by decide +kernel
theorem dX8_part_49 : decode cX8_part 49 = .ok (.getfield 75, 3) := by decide +kernel
theorem dX8_part_52 : decode cX8_part 52 = .ok (.iconst (-1), 1) := by decide +kernel
theorem dX8_part_53 : decode cX8_part 53 = .ok (.iastore, 1) := by decide +kernel
theorem dX8_part_54 : decode cX8_part 54 = .ok (.aload_n 0, 1) := by decide +kernel
theorem dX8_part_55 : decode cX8_part 55 = .ok (.getfield 19, 3) := by decide +kernel
theorem dX8_part_58 : decode cX8_part 58 = .ok (.aload_n 0, 1) := by decide +kernel
theorem dX8_part_59 : decode cX8_part 59 = .ok (.getfield 75, 3) := by decide +kernel
theorem dX8_part_62 : decode cX8_part 62 = .ok (.iconst (-1), 1) := by decide +kernel
theorem dX8_part_63 : decode cX8_part 63 = .ok (.iastore, 1) := by decide +kernel
theorem dX8_part_64 : decode cX8_part 64 = .ok (.aload_n 0, 1) := by decide +kernel
theorem dX8_part_65 : decode cX8_part 65 = .ok (.dup, 1) := by decide +kernel
theorem dX8_part_66 : decode cX8_part 66 = .ok (.getfield 75, 3) := by decide +kernel
theorem dX8_part_69 : decode cX8_part 69 = .ok (.iconst 1, 1) := by decide +kernel
theorem dX8_part_70 : decode cX8_part 70 = .ok (.iadd, 1) := by decide +kernel
theorem dX8_part_71 : decode cX8_part 71 = .ok (.putfield 75, 3) := by decide +kernel
theorem dX8_part_74 : decode cX8_part 74 = .ok (.aload_n 0, 1) := by decide +kernel
theorem dX8_part_75 : decode cX8_part 75 = .ok (.getfield 75, 3) := by decide +kernel
theorem dX8_part_78 : decode cX8_part 78 = .ok (.iconst 1, 1) := by decide +kernel
theorem dX8_part_79 : decode cX8_part 79 = .ok (.isub, 1) := by decide +kernel
theorem dX8_part_80 : decode cX8_part 80 = .ok (.ireturn, 1) := by decide +kernel
theorem dX8_offer_0 : decode cX8_offer 0 = .ok (.aload_n 0, 1) := by decide +kernel
theorem dX8_offer_1 : decode cX8_offer 1 = .ok (.iconst 0, 1) := by decide +kernel
theorem dX8_offer_2 : decode cX8_offer 2 = .ok (.putfield 71, 3) := by decide +kernel
theorem dX8_offer_5 : decode cX8_offer 5 = .ok (.aload_n 0, 1) := by decide +kernel
theorem dX8_offer_6 : decode cX8_offer 6 = .ok (.iload_n 1, 1) := by decide +kernel
theorem dX8_offer_7 : decode cX8_offer 7 = .ok (.invokevirtual 86, 3) := by decide +kernel
theorem dX8_offer_10 : decode cX8_offer 10 = .ok (.ifCond .eq 25, 3) := by decide +kernel
theorem dX8_offer_13 : decode cX8_offer 13 = .ok (.iload_n 2, 1) := by decide +kernel
theorem dX8_offer_14 : decode cX8_offer 14 = .ok (.iconst 0, 1) := by decide +kernel
theorem dX8_offer_15 : decode cX8_offer 15 = .ok (.sipush 1000, 3) := by decide +kernel
theorem dX8_offer_18 : decode cX8_offer 18 = .ok (.invokestatic 82, 3) := by decide +kernel
theorem dX8_offer_21 : decode cX8_offer 21 = .ok (.ifCond .eq 14, 3) := by decide +kernel
theorem dX8_offer_24 : decode cX8_offer 24 = .ok (.iload_n 3, 1) := by decide +kernel
theorem dX8_offer_25 : decode cX8_offer 25 = .ok (.iconst 1, 1) := by decide +kernel
theorem dX8_offer_26 : decode cX8_offer 26 = .ok (.sipush 1000, 3) := by decide +kernel
theorem dX8_offer_29 : decode cX8_offer 29 = .ok (.invokestatic 82, 3) := by decide +kernel
theorem dX8_offer_32 : decode cX8_offer 32 = .ok (.ifCond .ne 5, 3) := by decide +kernel
theorem dX8_offer_35 : decode cX8_offer 35 = .ok (.iconst 0, 1) := by decide +kernel
theorem dX8_offer_36 : decode cX8_offer 36 = .ok (.ireturn, 1) := by decide +kernel
theorem dX8_offer_37 : decode cX8_offer 37 = .ok (.aload_n 0, 1) := by decide +kernel
theorem dX8_offer_38 : decode cX8_offer 38 = .ok (.getfield 78, 3) := by decide +kernel
theorem dX8_offer_41 : decode cX8_offer 41 = .ok (.ifCond .ne 31, 3) := by decide +kernel
theorem dX8_offer_44 : decode cX8_offer 44 = .ok (.iload_n 2, 1) := by decide +kernel
theorem dX8_offer_45 : decode cX8_offer 45 = .ok (.aload_n 0, 1) := by decide +kernel
theorem dX8_offer_46 : decode cX8_offer 46 = .ok (.getfield 9, 3) := by decide +kernel
theorem dX8_offer_49 : decode cX8_offer 49 = .ok (.iload_n 1, 1) := by decide +kernel
theorem dX8_offer_50 : decode cX8_offer 50 = .ok (.iaload, 1) := by decide +kernel
theorem dX8_offer_51 : decode cX8_offer 51 = .ok (.if_icmp .ne 5, 3) := by decide +kernel
theorem dX8_offer_54 : decode cX8_offer 54 = .ok (.iconst 0, 1) := by decide +kernel
theorem dX8_offer_55 : decode cX8_offer 55 = .ok (.ireturn, 1) := by decide +kernel
theorem dX8_offer_56 : decode cX8_offer 56 = .ok (.aload_n 0, 1) := by decide +kernel
theorem dX8_offer_57 : decode cX8_offer 57 = .ok (.getfield 13, 3) := by decide +kernel
theorem dX8_offer_60 : decode cX8_offer 60 = .ok (.iload_n 1, 1) := by decide +kernel
theorem dX8_offer_61 : decode cX8_offer 61 = .ok (.iload_n 2, 1) := by decide +kernel
theorem dX8_offer_62 : decode cX8_offer 62 = .ok (.iastore, 1) := by decide +kernel
theorem dX8_offer_63 : decode cX8_offer 63 = .ok (.aload_n 0, 1) := by decide +kernel
theorem dX8_offer_64 : decode cX8_offer 64 = .ok (.getfield 16, 3) := by decide +kernel
theorem dX8_offer_67 : decode cX8_offer 67 = .ok (.iload_n 1, 1) := by decide +kernel
theorem dX8_offer_68 : decode cX8_offer 68 = .ok (.iload_n 3, 1) := by decide +kernel
theorem dX8_offer_69 : decode cX8_offer 69 = .ok (.iastore, 1) := by decide +kernel
theorem dX8_offer_70 : decode cX8_offer 70 = .ok (.iconst 1, 1) := by decide +kernel
theorem dX8_offer_71 : decode cX8_offer 71 = .ok (.ireturn, 1) := by decide +kernel
theorem dX8_offer_72 : decode cX8_offer 72 = .ok (.iload_n 2, 1) := by decide +kernel
theorem dX8_offer_73 : decode cX8_offer 73 = .ok (.aload_n 0, 1) := by decide +kernel
theorem dX8_offer_74 : decode cX8_offer 74 = .ok (.getfield 90, 3) := by decide +kernel
theorem dX8_offer_77 : decode cX8_offer 77 = .ok (.iload_n 1, 1) := by decide +kernel
theorem dX8_offer_78 : decode cX8_offer 78 = .ok (.invokestatic 93, 3) := by decide +kernel
theorem dX8_offer_81 : decode cX8_offer 81 = .ok (.ifCond .eq 12, 3) := by decide +kernel
theorem dX8_offer_84 : decode cX8_offer 84 = .ok (.aload_n 0, 1) := by decide +kernel
theorem dX8_offer_85 : decode cX8_offer 85 = .ok (.getfield 13, 3) := by decide +kernel
theorem dX8_offer_88 : decode cX8_offer 88 = .ok (.iload_n 1, 1) := by decide +kernel
theorem dX8_offer_89 : decode cX8_offer 89 = .ok (.iaload, 1) := by decide +kernel
theorem dX8_offer_90 : decode cX8_offer 90 = .ok (.goto 9, 3) := by decide +kernel
theorem dX8_offer_93 : decode cX8_offer 93 = .ok (.aload_n 0, 1) := by decide +kernel
theorem dX8_offer_94 : decode cX8_offer 94 = .ok (.getfield 9, 3) := by decide +kernel
theorem dX8_offer_97 : decode cX8_offer 97 = .ok (.iload_n 1, 1) := by decide +kernel
theorem dX8_offer_98 : decode cX8_offer 98 = .ok (.iaload, 1) := by decide +kernel
theorem dX8_offer_99 : decode cX8_offer 99 = .ok (.if_icmp .ne 5, 3) := by decide +kernel
theorem dX8_offer_102 : decode cX8_offer 102 = .ok (.iconst 0, 1) := by decide +kernel
theorem dX8_offer_103 : decode cX8_offer 103 = .ok (.ireturn, 1) := by decide +kernel
theorem dX8_offer_104 : decode cX8_offer 104 = .ok (.aload_n 0, 1) := by decide +kernel
theorem dX8_offer_105 : decode cX8_offer 105 = .ok (.getfield 19, 3) := by decide +kernel
theorem dX8_offer_108 : decode cX8_offer 108 = .ok (.iload_n 1, 1) := by decide +kernel
theorem dX8_offer_109 : decode cX8_offer 109 = .ok (.iload_n 2, 1) := by decide +kernel
theorem dX8_offer_110 : decode cX8_offer 110 = .ok (.iastore, 1) := by decide +kernel
theorem dX8_offer_111 : decode cX8_offer 111 = .ok (.aload_n 0, 1) := by decide +kernel
theorem dX8_offer_112 : decode cX8_offer 112 = .ok (.getfield 22, 3) := by decide +kernel
theorem dX8_offer_115 : decode cX8_offer 115 = .ok (.iload_n 1, 1) := by decide +kernel
theorem dX8_offer_116 : decode cX8_offer 116 = .ok (.iload_n 3, 1) := by decide +kernel
theorem dX8_offer_117 : decode cX8_offer 117 = .ok (.iastore, 1) := by decide +kernel
theorem dX8_offer_118 : decode cX8_offer 118 = .ok (.iconst 1, 1) := by decide +kernel
theorem dX8_offer_119 : decode cX8_offer 119 = .ok (.ireturn, 1) := by decide +kernel
theorem dX8_withdraw_0 : decode cX8_withdraw 0 = .ok (.aload_n 0, 1) := by decide +kernel
theorem dX8_withdraw_1 : decode cX8_withdraw 1 = .ok (.iconst 0, 1) := by decide +kernel
theorem dX8_withdraw_2 : decode cX8_withdraw 2 = .ok (.putfield 71, 3) := by decide +kernel
theorem dX8_withdraw_5 : decode cX8_withdraw 5 = .ok (.aload_n 0, 1) := by decide +kernel
theorem dX8_withdraw_6 : decode cX8_withdraw 6 = .ok (.iload_n 1, 1) := by decide +kernel
theorem dX8_withdraw_7 : decode cX8_withdraw 7 = .ok (.invokevirtual 86, 3) := by decide +kernel
theorem dX8_withdraw_10 : decode cX8_withdraw 10 = .ok (.ifCond .eq 29, 3) := by decide +kernel
theorem dX8_withdraw_13 : decode cX8_withdraw 13 = .ok (.aload_n 0, 1) := by decide +kernel
theorem dX8_withdraw_14 : decode cX8_withdraw 14 = .ok (.getfield 78, 3) := by decide +kernel
theorem dX8_withdraw_17 : decode cX8_withdraw 17 = .ok (.ifCond .eq 12, 3) := by decide +kernel
theorem dX8_withdraw_20 : decode cX8_withdraw 20 = .ok (.aload_n 0, 1) := by decide +kernel
theorem dX8_withdraw_21 : decode cX8_withdraw 21 = .ok (.getfield 19, 3) := by decide +kernel
theorem dX8_withdraw_24 : decode cX8_withdraw 24 = .ok (.iload_n 1, 1) := by decide +kernel
theorem dX8_withdraw_25 : decode cX8_withdraw 25 = .ok (.iaload, 1) := by decide +kernel
theorem dX8_withdraw_26 : decode cX8_withdraw 26 = .ok (.goto 9, 3) := by decide +kernel
theorem dX8_withdraw_29 : decode cX8_withdraw 29 = .ok (.aload_n 0, 1) := by decide +kernel
theorem dX8_withdraw_30 : decode cX8_withdraw 30 = .ok (.getfield 13, 3) := by decide +kernel
theorem dX8_withdraw_33 : decode cX8_withdraw 33 = .ok (.iload_n 1, 1) := by decide +kernel
theorem dX8_withdraw_34 : decode cX8_withdraw 34 = .ok (.iaload, 1) := by decide +kernel
theorem dX8_withdraw_35 : decode cX8_withdraw 35 = .ok (.iconst (-1), 1) := by decide +kernel
theorem dX8_withdraw_36 : decode cX8_withdraw 36 = .ok (.if_icmp .ne 5, 3) := by decide +kernel
theorem dX8_withdraw_39 : decode cX8_withdraw 39 = .ok (.iconst 0, 1) := by decide +kernel
theorem dX8_withdraw_40 : decode cX8_withdraw 40 = .ok (.ireturn, 1) := by decide +kernel
theorem dX8_withdraw_41 : decode cX8_withdraw 41 = .ok (.aload_n 0, 1) := by decide +kernel
theorem dX8_withdraw_42 : decode cX8_withdraw 42 = .ok (.getfield 78, 3) := by decide +kernel
theorem dX8_withdraw_45 : decode cX8_withdraw 45 = .ok (.ifCond .eq 13, 3) := by decide +kernel
theorem dX8_withdraw_48 : decode cX8_withdraw 48 = .ok (.aload_n 0, 1) := by decide +kernel
theorem dX8_withdraw_49 : decode cX8_withdraw 49 = .ok (.getfield 19, 3) := by decide +kernel
theorem dX8_withdraw_52 : decode cX8_withdraw 52 = .ok (.iload_n 1, 1) := by decide +kernel
theorem dX8_withdraw_53 : decode cX8_withdraw 53 = .ok (.iconst (-1), 1) := by decide +kernel
theorem dX8_withdraw_54 : decode cX8_withdraw 54 = .ok (.iastore, 1) := by decide +kernel
theorem dX8_withdraw_55 : decode cX8_withdraw 55 = .ok (.goto 10, 3) := by decide +kernel
theorem dX8_withdraw_58 : decode cX8_withdraw 58 = .ok (.aload_n 0, 1) := by decide +kernel
theorem dX8_withdraw_59 : decode cX8_withdraw 59 = .ok (.getfield 13, 3) := by decide +kernel
theorem dX8_withdraw_62 : decode cX8_withdraw 62 = .ok (.iload_n 1, 1) := by decide +kernel
theorem dX8_withdraw_63 : decode cX8_withdraw 63 = .ok (.iconst (-1), 1) := by decide +kernel
theorem dX8_withdraw_64 : decode cX8_withdraw 64 = .ok (.iastore, 1) := by decide +kernel
theorem dX8_withdraw_65 : decode cX8_withdraw 65 = .ok (.iconst 1, 1) := by decide +kernel
theorem dX8_withdraw_66 : decode cX8_withdraw 66 = .ok (.ireturn, 1) := by decide +kernel
theorem dX8_need_0 : decode cX8_need 0 = .ok (.aload_n 0, 1) := by decide +kernel
theorem dX8_need_1 : decode cX8_need 1 = .ok (.iconst 0, 1) := by decide +kernel
theorem dX8_need_2 : decode cX8_need 2 = .ok (.putfield 71, 3) := by decide +kernel
theorem dX8_need_5 : decode cX8_need 5 = .ok (.aload_n 0, 1) := by decide +kernel
theorem dX8_need_6 : decode cX8_need 6 = .ok (.getfield 78, 3) := by decide +kernel
theorem dX8_need_9 : decode cX8_need 9 = .ok (.ifCond .ne 69, 3) := by decide +kernel
theorem dX8_need_12 : decode cX8_need 12 = .ok (.aload_n 0, 1) := by decide +kernel
theorem dX8_need_13 : decode cX8_need 13 = .ok (.getfield 97, 3) := by decide +kernel
theorem dX8_need_16 : decode cX8_need 16 = .ok (.bipush 30, 2) := by decide +kernel
theorem dX8_need_18 : decode cX8_need 18 = .ok (.if_icmp .eq 60, 3) := by decide +kernel
theorem dX8_need_21 : decode cX8_need 21 = .ok (.aload_n 0, 1) := by decide +kernel
theorem dX8_need_22 : decode cX8_need 22 = .ok (.iload_n 1, 1) := by decide +kernel
theorem dX8_need_23 : decode cX8_need 23 = .ok (.invokevirtual 86, 3) := by decide +kernel
theorem dX8_need_26 : decode cX8_need 26 = .ok (.ifCond .eq 52, 3) := by decide +kernel
theorem dX8_need_29 : decode cX8_need 29 = .ok (.aload_n 0, 1) := by decide +kernel
theorem dX8_need_30 : decode cX8_need 30 = .ok (.iload_n 3, 1) := by decide +kernel
theorem dX8_need_31 : decode cX8_need 31 = .ok (.invokevirtual 86, 3) := by decide +kernel
theorem dX8_need_34 : decode cX8_need 34 = .ok (.ifCond .eq 44, 3) := by decide +kernel
theorem dX8_need_37 : decode cX8_need 37 = .ok (.iload_n 1, 1) := by decide +kernel
theorem dX8_need_38 : decode cX8_need 38 = .ok (.iload_n 3, 1) := by decide +kernel
theorem dX8_need_39 : decode cX8_need 39 = .ok (.if_icmp .eq 39, 3) := by decide +kernel
theorem dX8_need_42 : decode cX8_need 42 = .ok (.iload_n 2, 1) := by decide +kernel
theorem dX8_need_43 : decode cX8_need 43 = .ok (.iconst 0, 1) := by decide +kernel
theorem dX8_need_44 : decode cX8_need 44 = .ok (.sipush 1000, 3) := by decide +kernel
theorem dX8_need_47 : decode cX8_need 47 = .ok (.invokestatic 82, 3) := by decide +kernel
theorem dX8_need_50 : decode cX8_need 50 = .ok (.ifCond .eq 28, 3) := by decide +kernel
theorem dX8_need_53 : decode cX8_need 53 = .ok (.iload 4, 2) := by decide +kernel
theorem dX8_need_55 : decode cX8_need 55 = .ok (.iconst 0, 1) := by decide +kernel
theorem dX8_need_56 : decode cX8_need 56 = .ok (.sipush 1000, 3) := by decide +kernel
theorem dX8_need_59 : decode cX8_need 59 = .ok (.invokestatic 82, 3) := by decide +kernel
theorem dX8_need_62 : decode cX8_need 62 = .ok (.ifCond .eq 16, 3) := by decide +kernel
theorem dX8_need_65 : decode cX8_need 65 = .ok (.iload 5, 2) := by decide +kernel
theorem dX8_need_67 : decode cX8_need 67 = .ok (.iload 4, 2) := by decide +kernel
theorem dX8_need_69 : decode cX8_need 69 = .ok (.sipush 1000, 3) := by decide +kernel
theorem dX8_need_72 : decode cX8_need 72 = .ok (.invokestatic 82, 3) := by decide +kernel
theorem dX8_need_75 : decode cX8_need 75 = .ok (.ifCond .ne 5, 3) := by decide +kernel
theorem dX8_need_78 : decode cX8_need 78 = .ok (.iconst (-1), 1) := by decide +kernel
theorem dX8_need_79 : decode cX8_need 79 = .ok (.ireturn, 1) := by decide +kernel
theorem dX8_need_80 : decode cX8_need 80 = .ok (.aload_n 0, 1) := by decide +kernel
theorem dX8_need_81 : decode cX8_need 81 = .ok (.getfield 25, 3) := by decide +kernel
theorem dX8_need_84 : decode cX8_need 84 = .ok (.aload_n 0, 1) := by decide +kernel
theorem dX8_need_85 : decode cX8_need 85 = .ok (.getfield 97, 3) := by decide +kernel
theorem dX8_need_88 : decode cX8_need 88 = .ok (.iload_n 1, 1) := by decide +kernel
theorem dX8_need_89 : decode cX8_need 89 = .ok (.iastore, 1) := by decide +kernel
theorem dX8_need_90 : decode cX8_need 90 = .ok (.aload_n 0, 1) := by decide +kernel
theorem dX8_need_91 : decode cX8_need 91 = .ok (.getfield 28, 3) := by decide +kernel
theorem dX8_need_94 : decode cX8_need 94 = .ok (.aload_n 0, 1) := by decide +kernel
theorem dX8_need_95 : decode cX8_need 95 = .ok (.getfield 97, 3) := by decide +kernel
theorem dX8_need_98 : decode cX8_need 98 = .ok (.iload_n 2, 1) := by decide +kernel
theorem dX8_need_99 : decode cX8_need 99 = .ok (.iastore, 1) := by decide +kernel
theorem dX8_need_100 : decode cX8_need 100 = .ok (.aload_n 0, 1) := by decide +kernel
theorem dX8_need_101 : decode cX8_need 101 = .ok (.getfield 31, 3) := by decide +kernel
theorem dX8_need_104 : decode cX8_need 104 = .ok (.aload_n 0, 1) := by decide +kernel
theorem dX8_need_105 : decode cX8_need 105 = .ok (.getfield 97, 3) := by decide +kernel
theorem dX8_need_108 : decode cX8_need 108 = .ok (.iload_n 3, 1) := by decide +kernel
theorem dX8_need_109 : decode cX8_need 109 = .ok (.iastore, 1) := by decide +kernel
theorem dX8_need_110 : decode cX8_need 110 = .ok (.aload_n 0, 1) := by decide +kernel
theorem dX8_need_111 : decode cX8_need 111 = .ok (.getfield 34, 3) := by decide +kernel
theorem dX8_need_114 : decode cX8_need 114 = .ok (.aload_n 0, 1) := by decide +kernel
theorem dX8_need_115 : decode cX8_need 115 = .ok (.getfield 97, 3) := by decide +kernel
theorem dX8_need_118 : decode cX8_need 118 = .ok (.iload 4, 2) := by decide +kernel
theorem dX8_need_120 : decode cX8_need 120 = .ok (.iastore, 1) := by decide +kernel
theorem dX8_need_121 : decode cX8_need 121 = .ok (.aload_n 0, 1) := by decide +kernel
theorem dX8_need_122 : decode cX8_need 122 = .ok (.getfield 37, 3) := by decide +kernel
theorem dX8_need_125 : decode cX8_need 125 = .ok (.aload_n 0, 1) := by decide +kernel
theorem dX8_need_126 : decode cX8_need 126 = .ok (.getfield 97, 3) := by decide +kernel
theorem dX8_need_129 : decode cX8_need 129 = .ok (.iload 5, 2) := by decide +kernel
theorem dX8_need_131 : decode cX8_need 131 = .ok (.iastore, 1) := by decide +kernel
theorem dX8_need_132 : decode cX8_need 132 = .ok (.aload_n 0, 1) := by decide +kernel
theorem dX8_need_133 : decode cX8_need 133 = .ok (.dup, 1) := by decide +kernel
theorem dX8_need_134 : decode cX8_need 134 = .ok (.getfield 97, 3) := by decide +kernel
theorem dX8_need_137 : decode cX8_need 137 = .ok (.iconst 1, 1) := by decide +kernel
theorem dX8_need_138 : decode cX8_need 138 = .ok (.iadd, 1) := by decide +kernel
theorem dX8_need_139 : decode cX8_need 139 = .ok (.putfield 97, 3) := by decide +kernel
theorem dX8_need_142 : decode cX8_need 142 = .ok (.aload_n 0, 1) := by decide +kernel
theorem dX8_need_143 : decode cX8_need 143 = .ok (.getfield 97, 3) := by decide +kernel
theorem dX8_need_146 : decode cX8_need 146 = .ok (.iconst 1, 1) := by decide +kernel
theorem dX8_need_147 : decode cX8_need 147 = .ok (.isub, 1) := by decide +kernel
theorem dX8_need_148 : decode cX8_need 148 = .ok (.ireturn, 1) := by decide +kernel
theorem dX8_isSet_0 : decode cX8_isSet 0 = .ok (.iload_n 1, 1) := by decide +kernel
theorem dX8_isSet_1 : decode cX8_isSet 1 = .ok (.iconst 0, 1) := by decide +kernel
theorem dX8_isSet_2 : decode cX8_isSet 2 = .ok (.iconst 1, 1) := by decide +kernel
theorem dX8_isSet_3 : decode cX8_isSet 3 = .ok (.aload_n 0, 1) := by decide +kernel
theorem dX8_isSet_4 : decode cX8_isSet 4 = .ok (.getfield 75, 3) := by decide +kernel
theorem dX8_isSet_7 : decode cX8_isSet 7 = .ok (.ishl, 1) := by decide +kernel
theorem dX8_isSet_8 : decode cX8_isSet 8 = .ok (.iconst 1, 1) := by decide +kernel
theorem dX8_isSet_9 : decode cX8_isSet 9 = .ok (.isub, 1) := by decide +kernel
theorem dX8_isSet_10 : decode cX8_isSet 10 = .ok (.invokestatic 82, 3) := by decide +kernel
theorem dX8_isSet_13 : decode cX8_isSet 13 = .ok (.ireturn, 1) := by decide +kernel
theorem dX8_test_0 : decode cX8_test 0 = .ok (.aload_n 0, 1) := by decide +kernel
theorem dX8_test_1 : decode cX8_test 1 = .ok (.iconst 0, 1) := by decide +kernel
theorem dX8_test_2 : decode cX8_test 2 = .ok (.putfield 71, 3) := by decide +kernel
theorem dX8_test_5 : decode cX8_test 5 = .ok (.aload_n 0, 1) := by decide +kernel
theorem dX8_test_6 : decode cX8_test 6 = .ok (.getfield 78, 3) := by decide +kernel
theorem dX8_test_9 : decode cX8_test 9 = .ok (.ifCond .ne 24, 3) := by decide +kernel
theorem dX8_test_12 : decode cX8_test 12 = .ok (.aload_n 0, 1) := by decide +kernel
theorem dX8_test_13 : decode cX8_test 13 = .ok (.getfield 100, 3) := by decide +kernel
theorem dX8_test_16 : decode cX8_test 16 = .ok (.bipush 12, 2) := by decide +kernel
theorem dX8_test_18 : decode cX8_test 18 = .ok (.if_icmp .eq 15, 3) := by decide +kernel
theorem dX8_test_21 : decode cX8_test 21 = .ok (.aload_n 0, 1) := by decide +kernel
theorem dX8_test_22 : decode cX8_test 22 = .ok (.iload_n 1, 1) := by decide +kernel
theorem dX8_test_23 : decode cX8_test 23 = .ok (.invokevirtual 103, 3) := by decide +kernel
theorem dX8_test_26 : decode cX8_test 26 = .ok (.ifCond .eq 7, 3) := by decide +kernel
theorem dX8_test_29 : decode cX8_test 29 = .ok (.iload_n 1, 1) := by decide +kernel
theorem dX8_test_30 : decode cX8_test 30 = .ok (.ifCond .ne 5, 3) := by decide +kernel
theorem dX8_test_33 : decode cX8_test 33 = .ok (.iconst (-1), 1) := by decide +kernel
theorem dX8_test_34 : decode cX8_test 34 = .ok (.ireturn, 1) := by decide +kernel
theorem dX8_test_35 : decode cX8_test 35 = .ok (.aload_n 0, 1) := by decide +kernel
theorem dX8_test_36 : decode cX8_test 36 = .ok (.getfield 40, 3) := by decide +kernel
theorem dX8_test_39 : decode cX8_test 39 = .ok (.aload_n 0, 1) := by decide +kernel
theorem dX8_test_40 : decode cX8_test 40 = .ok (.getfield 100, 3) := by decide +kernel
theorem dX8_test_43 : decode cX8_test 43 = .ok (.iload_n 1, 1) := by decide +kernel
theorem dX8_test_44 : decode cX8_test 44 = .ok (.iastore, 1) := by decide +kernel
theorem dX8_test_45 : decode cX8_test 45 = .ok (.aload_n 0, 1) := by decide +kernel
theorem dX8_test_46 : decode cX8_test 46 = .ok (.dup, 1) := by decide +kernel
theorem dX8_test_47 : decode cX8_test 47 = .ok (.getfield 100, 3) := by decide +kernel
theorem dX8_test_50 : decode cX8_test 50 = .ok (.iconst 1, 1) := by decide +kernel
theorem dX8_test_51 : decode cX8_test 51 = .ok (.iadd, 1) := by decide +kernel
theorem dX8_test_52 : decode cX8_test 52 = .ok (.putfield 100, 3) := by decide +kernel
theorem dX8_test_55 : decode cX8_test 55 = .ok (.aload_n 0, 1) := by decide +kernel
theorem dX8_test_56 : decode cX8_test 56 = .ok (.getfield 100, 3) := by decide +kernel
theorem dX8_test_59 : decode cX8_test 59 = .ok (.iconst 1, 1) := by decide +kernel
theorem dX8_test_60 : decode cX8_test 60 = .ok (.isub, 1) := by decide +kernel
theorem dX8_test_61 : decode cX8_test 61 = .ok (.ireturn, 1) := by decide +kernel
theorem dX8_version_0 : decode cX8_version 0 = .ok (.iload_n 2, 1) := by decide +kernel
theorem dX8_version_1 : decode cX8_version 1 = .ok (.iload_n 1, 1) := by decide +kernel
theorem dX8_version_2 : decode cX8_version 2 = .ok (.invokestatic 93, 3) := by decide +kernel
theorem dX8_version_5 : decode cX8_version 5 = .ok (.ifCond .eq 12, 3) := by decide +kernel
theorem dX8_version_8 : decode cX8_version 8 = .ok (.aload_n 0, 1) := by decide +kernel
theorem dX8_version_9 : decode cX8_version 9 = .ok (.getfield 13, 3) := by decide +kernel
theorem dX8_version_12 : decode cX8_version 12 = .ok (.iload_n 1, 1) := by decide +kernel
theorem dX8_version_13 : decode cX8_version 13 = .ok (.iaload, 1) := by decide +kernel
theorem dX8_version_14 : decode cX8_version 14 = .ok (.goto 9, 3) := by decide +kernel
theorem dX8_version_17 : decode cX8_version 17 = .ok (.aload_n 0, 1) := by decide +kernel
theorem dX8_version_18 : decode cX8_version 18 = .ok (.getfield 9, 3) := by decide +kernel
theorem dX8_version_21 : decode cX8_version 21 = .ok (.iload_n 1, 1) := by decide +kernel
theorem dX8_version_22 : decode cX8_version 22 = .ok (.iaload, 1) := by decide +kernel
theorem dX8_version_23 : decode cX8_version 23 = .ok (.ireturn, 1) := by decide +kernel
theorem dX8_broken_0 : decode cX8_broken 0 = .ok (.iconst 0, 1) := by decide +kernel
theorem dX8_broken_1 : decode cX8_broken 1 = .ok (.istore_n 2, 1) := by decide +kernel
theorem dX8_broken_2 : decode cX8_broken 2 = .ok (.iload_n 2, 1) := by decide +kernel
theorem dX8_broken_3 : decode cX8_broken 3 = .ok (.aload_n 0, 1) := by decide +kernel
theorem dX8_broken_4 : decode cX8_broken 4 = .ok (.getfield 97, 3) := by decide +kernel
theorem dX8_broken_7 : decode cX8_broken 7 = .ok (.if_icmp .ge 60, 3) := by decide +kernel
theorem dX8_broken_10 : decode cX8_broken 10 = .ok (.aload_n 0, 1) := by decide +kernel
theorem dX8_broken_11 : decode cX8_broken 11 = .ok (.aload_n 0, 1) := by decide +kernel
theorem dX8_broken_12 : decode cX8_broken 12 = .ok (.getfield 25, 3) := by decide +kernel
theorem dX8_broken_15 : decode cX8_broken 15 = .ok (.iload_n 2, 1) := by decide +kernel
theorem dX8_broken_16 : decode cX8_broken 16 = .ok (.iaload, 1) := by decide +kernel
theorem dX8_broken_17 : decode cX8_broken 17 = .ok (.iload_n 1, 1) := by decide +kernel
theorem dX8_broken_18 : decode cX8_broken 18 = .ok (.invokevirtual 106, 3) := by decide +kernel
theorem dX8_broken_21 : decode cX8_broken 21 = .ok (.aload_n 0, 1) := by decide +kernel
theorem dX8_broken_22 : decode cX8_broken 22 = .ok (.getfield 28, 3) := by decide +kernel
theorem dX8_broken_25 : decode cX8_broken 25 = .ok (.iload_n 2, 1) := by decide +kernel
theorem dX8_broken_26 : decode cX8_broken 26 = .ok (.iaload, 1) := by decide +kernel
theorem dX8_broken_27 : decode cX8_broken 27 = .ok (.if_icmp .ne 34, 3) := by decide +kernel
theorem dX8_broken_30 : decode cX8_broken 30 = .ok (.aload_n 0, 1) := by decide +kernel
theorem dX8_broken_31 : decode cX8_broken 31 = .ok (.aload_n 0, 1) := by decide +kernel
theorem dX8_broken_32 : decode cX8_broken 32 = .ok (.getfield 31, 3) := by decide +kernel
theorem dX8_broken_35 : decode cX8_broken 35 = .ok (.iload_n 2, 1) := by decide +kernel
theorem dX8_broken_36 : decode cX8_broken 36 = .ok (.iaload, 1) := by decide +kernel
theorem dX8_broken_37 : decode cX8_broken 37 = .ok (.iload_n 1, 1) := by decide +kernel
theorem dX8_broken_38 : decode cX8_broken 38 = .ok (.invokevirtual 106, 3) := by decide +kernel
theorem dX8_broken_41 : decode cX8_broken 41 = .ok (.aload_n 0, 1) := by decide +kernel
theorem dX8_broken_42 : decode cX8_broken 42 = .ok (.getfield 34, 3) := by decide +kernel
theorem dX8_broken_45 : decode cX8_broken 45 = .ok (.iload_n 2, 1) := by decide +kernel
theorem dX8_broken_46 : decode cX8_broken 46 = .ok (.iaload, 1) := by decide +kernel
theorem dX8_broken_47 : decode cX8_broken 47 = .ok (.aload_n 0, 1) := by decide +kernel
theorem dX8_broken_48 : decode cX8_broken 48 = .ok (.getfield 37, 3) := by decide +kernel
theorem dX8_broken_51 : decode cX8_broken 51 = .ok (.iload_n 2, 1) := by decide +kernel
theorem dX8_broken_52 : decode cX8_broken 52 = .ok (.iaload, 1) := by decide +kernel
theorem dX8_broken_53 : decode cX8_broken 53 = .ok (.invokestatic 82, 3) := by decide +kernel
theorem dX8_broken_56 : decode cX8_broken 56 = .ok (.ifCond .ne 5, 3) := by decide +kernel
theorem dX8_broken_59 : decode cX8_broken 59 = .ok (.iload_n 2, 1) := by decide +kernel
theorem dX8_broken_60 : decode cX8_broken 60 = .ok (.ireturn, 1) := by decide +kernel
theorem dX8_broken_61 : decode cX8_broken 61 = .ok (.iinc 2 1, 3) := by decide +kernel
theorem dX8_broken_64 : decode cX8_broken 64 = .ok (.goto (-62), 3) := by decide +kernel
theorem dX8_broken_67 : decode cX8_broken 67 = .ok (.iconst (-1), 1) := by decide +kernel
theorem dX8_broken_68 : decode cX8_broken 68 = .ok (.ireturn, 1) := by decide +kernel
theorem dX8_redOf_0 : decode cX8_redOf 0 = .ok (.iconst 0, 1) := by decide +kernel
theorem dX8_redOf_1 : decode cX8_redOf 1 = .ok (.istore_n 2, 1) := by decide +kernel
theorem dX8_redOf_2 : decode cX8_redOf 2 = .ok (.iload_n 2, 1) := by decide +kernel
theorem dX8_redOf_3 : decode cX8_redOf 3 = .ok (.aload_n 0, 1) := by decide +kernel
theorem dX8_redOf_4 : decode cX8_redOf 4 = .ok (.getfield 100, 3) := by decide +kernel
theorem dX8_redOf_7 : decode cX8_redOf 7 = .ok (.if_icmp .ge 28, 3) := by decide +kernel
theorem dX8_redOf_10 : decode cX8_redOf 10 = .ok (.aload_n 0, 1) := by decide +kernel
theorem dX8_redOf_11 : decode cX8_redOf 11 = .ok (.getfield 40, 3) := by decide +kernel
theorem dX8_redOf_14 : decode cX8_redOf 14 = .ok (.iload_n 2, 1) := by decide +kernel
theorem dX8_redOf_15 : decode cX8_redOf 15 = .ok (.iaload, 1) := by decide +kernel
theorem dX8_redOf_16 : decode cX8_redOf 16 = .ok (.iload_n 1, 1) := by decide +kernel
theorem dX8_redOf_17 : decode cX8_redOf 17 = .ok (.iand, 1) := by decide +kernel
theorem dX8_redOf_18 : decode cX8_redOf 18 = .ok (.aload_n 0, 1) := by decide +kernel
theorem dX8_redOf_19 : decode cX8_redOf 19 = .ok (.getfield 40, 3) := by decide +kernel
theorem dX8_redOf_22 : decode cX8_redOf 22 = .ok (.iload_n 2, 1) := by decide +kernel
theorem dX8_redOf_23 : decode cX8_redOf 23 = .ok (.iaload, 1) := by decide +kernel
theorem dX8_redOf_24 : decode cX8_redOf 24 = .ok (.if_icmp .ne 5, 3) := by decide +kernel
theorem dX8_redOf_27 : decode cX8_redOf 27 = .ok (.iload_n 2, 1) := by decide +kernel
theorem dX8_redOf_28 : decode cX8_redOf 28 = .ok (.ireturn, 1) := by decide +kernel
theorem dX8_redOf_29 : decode cX8_redOf 29 = .ok (.iinc 2 1, 3) := by decide +kernel
theorem dX8_redOf_32 : decode cX8_redOf 32 = .ok (.goto (-30), 3) := by decide +kernel
theorem dX8_redOf_35 : decode cX8_redOf 35 = .ok (.iconst (-1), 1) := by decide +kernel
theorem dX8_redOf_36 : decode cX8_redOf 36 = .ok (.ireturn, 1) := by decide +kernel
theorem dX8_offered_0 : decode cX8_offered 0 = .ok (.iconst 0, 1) := by decide +kernel
theorem dX8_offered_1 : decode cX8_offered 1 = .ok (.istore_n 1, 1) := by decide +kernel
theorem dX8_offered_2 : decode cX8_offered 2 = .ok (.iconst 0, 1) := by decide +kernel
theorem dX8_offered_3 : decode cX8_offered 3 = .ok (.istore_n 2, 1) := by decide +kernel
theorem dX8_offered_4 : decode cX8_offered 4 = .ok (.iload_n 2, 1) := by decide +kernel
theorem dX8_offered_5 : decode cX8_offered 5 = .ok (.aload_n 0, 1) := by decide +kernel
theorem dX8_offered_6 : decode cX8_offered 6 = .ok (.getfield 75, 3) := by decide +kernel
theorem dX8_offered_9 : decode cX8_offered 9 = .ok (.if_icmp .ge 29, 3) := by decide +kernel
theorem dX8_offered_12 : decode cX8_offered 12 = .ok (.iload_n 1, 1) := by decide +kernel
theorem dX8_offered_13 : decode cX8_offered 13 = .ok (.aload_n 0, 1) := by decide +kernel
theorem dX8_offered_14 : decode cX8_offered 14 = .ok (.getfield 13, 3) := by decide +kernel
theorem dX8_offered_17 : decode cX8_offered 17 = .ok (.iload_n 2, 1) := by decide +kernel
theorem dX8_offered_18 : decode cX8_offered 18 = .ok (.iaload, 1) := by decide +kernel
theorem dX8_offered_19 : decode cX8_offered 19 = .ok (.iconst (-1), 1) := by decide +kernel
theorem dX8_offered_20 : decode cX8_offered 20 = .ok (.if_icmp .eq 9, 3) := by decide +kernel
theorem dX8_offered_23 : decode cX8_offered 23 = .ok (.iconst 1, 1) := by decide +kernel
theorem dX8_offered_24 : decode cX8_offered 24 = .ok (.iload_n 2, 1) := by decide +kernel
theorem dX8_offered_25 : decode cX8_offered 25 = .ok (.ishl, 1) := by decide +kernel
theorem dX8_offered_26 : decode cX8_offered 26 = .ok (.goto 4, 3) := by decide +kernel
theorem dX8_offered_29 : decode cX8_offered 29 = .ok (.iconst 0, 1) := by decide +kernel
theorem dX8_offered_30 : decode cX8_offered 30 = .ok (.ior, 1) := by decide +kernel
theorem dX8_offered_31 : decode cX8_offered 31 = .ok (.istore_n 1, 1) := by decide +kernel
theorem dX8_offered_32 : decode cX8_offered 32 = .ok (.iinc 2 1, 3) := by decide +kernel
theorem dX8_offered_35 : decode cX8_offered 35 = .ok (.goto (-31), 3) := by decide +kernel
theorem dX8_offered_38 : decode cX8_offered 38 = .ok (.iload_n 1, 1) := by decide +kernel
theorem dX8_offered_39 : decode cX8_offered 39 = .ok (.ireturn, 1) := by decide +kernel
theorem dX8_goes_0 : decode cX8_goes 0 = .ok (.iload_n 1, 1) := by decide +kernel
theorem dX8_goes_1 : decode cX8_goes 1 = .ok (.aload_n 0, 1) := by decide +kernel
theorem dX8_goes_2 : decode cX8_goes 2 = .ok (.invokevirtual 110, 3) := by decide +kernel
theorem dX8_goes_5 : decode cX8_goes 5 = .ok (.iconst (-1), 1) := by decide +kernel
theorem dX8_goes_6 : decode cX8_goes 6 = .ok (.ixor, 1) := by decide +kernel
theorem dX8_goes_7 : decode cX8_goes 7 = .ok (.iand, 1) := by decide +kernel
theorem dX8_goes_8 : decode cX8_goes 8 = .ok (.ifCond .ne 25, 3) := by decide +kernel
theorem dX8_goes_11 : decode cX8_goes 11 = .ok (.aload_n 0, 1) := by decide +kernel
theorem dX8_goes_12 : decode cX8_goes 12 = .ok (.iload_n 1, 1) := by decide +kernel
theorem dX8_goes_13 : decode cX8_goes 13 = .ok (.invokevirtual 114, 3) := by decide +kernel
theorem dX8_goes_16 : decode cX8_goes 16 = .ok (.iconst (-1), 1) := by decide +kernel
theorem dX8_goes_17 : decode cX8_goes 17 = .ok (.if_icmp .ne 16, 3) := by decide +kernel
theorem dX8_goes_20 : decode cX8_goes 20 = .ok (.aload_n 0, 1) := by decide +kernel
theorem dX8_goes_21 : decode cX8_goes 21 = .ok (.iload_n 1, 1) := by decide +kernel
theorem dX8_goes_22 : decode cX8_goes 22 = .ok (.invokevirtual 118, 3) := by decide +kernel
theorem dX8_goes_25 : decode cX8_goes 25 = .ok (.iconst (-1), 1) := by decide +kernel
theorem dX8_goes_26 : decode cX8_goes 26 = .ok (.if_icmp .ne 7, 3) := by decide +kernel
theorem dX8_goes_29 : decode cX8_goes 29 = .ok (.iconst 1, 1) := by decide +kernel
theorem dX8_goes_30 : decode cX8_goes 30 = .ok (.goto 4, 3) := by decide +kernel
theorem dX8_goes_33 : decode cX8_goes 33 = .ok (.iconst 0, 1) := by decide +kernel
theorem dX8_goes_34 : decode cX8_goes 34 = .ok (.ireturn, 1) := by decide +kernel
theorem dX8_worthOf_0 : decode cX8_worthOf 0 = .ok (.iconst 0, 1) := by decide +kernel
theorem dX8_worthOf_1 : decode cX8_worthOf 1 = .ok (.istore_n 2, 1) := by decide +kernel
theorem dX8_worthOf_2 : decode cX8_worthOf 2 = .ok (.iconst 0, 1) := by decide +kernel
theorem dX8_worthOf_3 : decode cX8_worthOf 3 = .ok (.istore_n 3, 1) := by decide +kernel
theorem dX8_worthOf_4 : decode cX8_worthOf 4 = .ok (.iload_n 3, 1) := by decide +kernel
theorem dX8_worthOf_5 : decode cX8_worthOf 5 = .ok (.aload_n 0, 1) := by decide +kernel
theorem dX8_worthOf_6 : decode cX8_worthOf 6 = .ok (.getfield 75, 3) := by decide +kernel
theorem dX8_worthOf_9 : decode cX8_worthOf 9 = .ok (.if_icmp .ge 30, 3) := by decide +kernel
theorem dX8_worthOf_12 : decode cX8_worthOf 12 = .ok (.iload_n 2, 1) := by decide +kernel
theorem dX8_worthOf_13 : decode cX8_worthOf 13 = .ok (.iload_n 1, 1) := by decide +kernel
theorem dX8_worthOf_14 : decode cX8_worthOf 14 = .ok (.iload_n 3, 1) := by decide +kernel
theorem dX8_worthOf_15 : decode cX8_worthOf 15 = .ok (.invokestatic 93, 3) := by decide +kernel
theorem dX8_worthOf_18 : decode cX8_worthOf 18 = .ok (.ifCond .eq 12, 3) := by decide +kernel
theorem dX8_worthOf_21 : decode cX8_worthOf 21 = .ok (.aload_n 0, 1) := by decide +kernel
theorem dX8_worthOf_22 : decode cX8_worthOf 22 = .ok (.getfield 16, 3) := by decide +kernel
theorem dX8_worthOf_25 : decode cX8_worthOf 25 = .ok (.iload_n 3, 1) := by decide +kernel
theorem dX8_worthOf_26 : decode cX8_worthOf 26 = .ok (.iaload, 1) := by decide +kernel
theorem dX8_worthOf_27 : decode cX8_worthOf 27 = .ok (.goto 4, 3) := by decide +kernel
theorem dX8_worthOf_30 : decode cX8_worthOf 30 = .ok (.iconst 0, 1) := by decide +kernel
theorem dX8_worthOf_31 : decode cX8_worthOf 31 = .ok (.iadd, 1) := by decide +kernel
theorem dX8_worthOf_32 : decode cX8_worthOf 32 = .ok (.istore_n 2, 1) := by decide +kernel
theorem dX8_worthOf_33 : decode cX8_worthOf 33 = .ok (.iinc 3 1, 3) := by decide +kernel
theorem dX8_worthOf_36 : decode cX8_worthOf 36 = .ok (.goto (-32), 3) := by decide +kernel
theorem dX8_worthOf_39 : decode cX8_worthOf 39 = .ok (.iload_n 2, 1) := by decide +kernel
theorem dX8_worthOf_40 : decode cX8_worthOf 40 = .ok (.ireturn, 1) := by decide +kernel
theorem dX8_best_0 : decode cX8_best 0 = .ok (.iconst (-1), 1) := by decide +kernel
theorem dX8_best_1 : decode cX8_best 1 = .ok (.istore_n 3, 1) := by decide +kernel
theorem dX8_best_2 : decode cX8_best 2 = .ok (.iconst 0, 1) := by decide +kernel
theorem dX8_best_3 : decode cX8_best 3 = .ok (.istore 4, 2) := by decide +kernel
theorem dX8_best_5 : decode cX8_best 5 = .ok (.iload 4, 2) := by decide +kernel
theorem dX8_best_7 : decode cX8_best 7 = .ok (.iconst 1, 1) := by decide +kernel
theorem dX8_best_8 : decode cX8_best 8 = .ok (.aload_n 0, 1) := by decide +kernel
theorem dX8_best_9 : decode cX8_best 9 = .ok (.getfield 75, 3) := by decide +kernel
theorem dX8_best_12 : decode cX8_best 12 = .ok (.ishl, 1) := by decide +kernel
theorem dX8_best_13 : decode cX8_best 13 = .ok (.if_icmp .ge 100, 3) := by decide +kernel
theorem dX8_best_16 : decode cX8_best 16 = .ok (.iload 4, 2) := by decide +kernel
theorem dX8_best_18 : decode cX8_best 18 = .ok (.iload_n 1, 1) := by decide +kernel
theorem dX8_best_19 : decode cX8_best 19 = .ok (.iand, 1) := by decide +kernel
theorem dX8_best_20 : decode cX8_best 20 = .ok (.iload_n 1, 1) := by decide +kernel
theorem dX8_best_21 : decode cX8_best 21 = .ok (.if_icmp .ne 86, 3) := by decide +kernel
theorem dX8_best_24 : decode cX8_best 24 = .ok (.iload 4, 2) := by decide +kernel
theorem dX8_best_26 : decode cX8_best 26 = .ok (.iload_n 2, 1) := by decide +kernel
theorem dX8_best_27 : decode cX8_best 27 = .ok (.iconst (-1), 1) := by decide +kernel
theorem dX8_best_28 : decode cX8_best 28 = .ok (.ixor, 1) := by decide +kernel
theorem dX8_best_29 : decode cX8_best 29 = .ok (.iand, 1) := by decide +kernel
theorem dX8_best_30 : decode cX8_best 30 = .ok (.ifCond .ne 77, 3) := by decide +kernel
theorem dX8_best_33 : decode cX8_best 33 = .ok (.aload_n 0, 1) := by decide +kernel
theorem dX8_best_34 : decode cX8_best 34 = .ok (.iload 4, 2) := by decide +kernel
theorem dX8_best_36 : decode cX8_best 36 = .ok (.invokevirtual 121, 3) := by decide +kernel
theorem dX8_best_39 : decode cX8_best 39 = .ok (.ifCond .ne 6, 3) := by decide +kernel
theorem dX8_best_42 : decode cX8_best 42 = .ok (.goto 65, 3) := by decide +kernel
theorem dX8_best_45 : decode cX8_best 45 = .ok (.iload_n 3, 1) := by decide +kernel
theorem dX8_best_46 : decode cX8_best 46 = .ok (.iconst (-1), 1) := by decide +kernel
theorem dX8_best_47 : decode cX8_best 47 = .ok (.if_icmp .eq 17, 3) := by decide +kernel
theorem dX8_best_50 : decode cX8_best 50 = .ok (.aload_n 0, 1) := by decide +kernel
theorem dX8_best_51 : decode cX8_best 51 = .ok (.iload 4, 2) := by decide +kernel
theorem dX8_best_53 : decode cX8_best 53 = .ok (.invokevirtual 124, 3) := by decide +kernel
theorem dX8_best_56 : decode cX8_best 56 = .ok (.aload_n 0, 1) := by decide +kernel
theorem dX8_best_57 : decode cX8_best 57 = .ok (.iload_n 3, 1) := by decide +kernel
theorem dX8_best_58 : decode cX8_best 58 = .ok (.invokevirtual 124, 3) := by decide +kernel
theorem dX8_best_61 : decode cX8_best 61 = .ok (.if_icmp .le 9, 3) := by decide +kernel
theorem dX8_best_64 : decode cX8_best 64 = .ok (.iload 4, 2) := by decide +kernel
theorem dX8_best_66 : decode cX8_best 66 = .ok (.istore_n 3, 1) := by decide +kernel
theorem dX8_best_67 : decode cX8_best 67 = .ok (.goto 40, 3) := by decide +kernel
theorem dX8_best_70 : decode cX8_best 70 = .ok (.iload 4, 2) := by decide +kernel
theorem dX8_best_72 : decode cX8_best 72 = .ok (.iload_n 3, 1) := by decide +kernel
theorem dX8_best_73 : decode cX8_best 73 = .ok (.ixor, 1) := by decide +kernel
theorem dX8_best_74 : decode cX8_best 74 = .ok (.iload 4, 2) := by decide +kernel
theorem dX8_best_76 : decode cX8_best 76 = .ok (.iload_n 3, 1) := by decide +kernel
theorem dX8_best_77 : decode cX8_best 77 = .ok (.ixor, 1) := by decide +kernel
theorem dX8_best_78 : decode cX8_best 78 = .ok (.ineg, 1) := by decide +kernel
theorem dX8_best_79 : decode cX8_best 79 = .ok (.iand, 1) := by decide +kernel
theorem dX8_best_80 : decode cX8_best 80 = .ok (.istore 5, 2) := by decide +kernel
theorem dX8_best_82 : decode cX8_best 82 = .ok (.aload_n 0, 1) := by decide +kernel
theorem dX8_best_83 : decode cX8_best 83 = .ok (.iload 4, 2) := by decide +kernel
theorem dX8_best_85 : decode cX8_best 85 = .ok (.invokevirtual 124, 3) := by decide +kernel
theorem dX8_best_88 : decode cX8_best 88 = .ok (.aload_n 0, 1) := by decide +kernel
theorem dX8_best_89 : decode cX8_best 89 = .ok (.iload_n 3, 1) := by decide +kernel
theorem dX8_best_90 : decode cX8_best 90 = .ok (.invokevirtual 124, 3) := by decide +kernel
theorem dX8_best_93 : decode cX8_best 93 = .ok (.if_icmp .ne 14, 3) := by decide +kernel
theorem dX8_best_96 : decode cX8_best 96 = .ok (.iload 4, 2) := by decide +kernel
theorem dX8_best_98 : decode cX8_best 98 = .ok (.iload 5, 2) := by decide +kernel
theorem dX8_best_100 : decode cX8_best 100 = .ok (.iand, 1) := by decide +kernel
theorem dX8_best_101 : decode cX8_best 101 = .ok (.ifCond .eq 6, 3) := by decide +kernel
theorem dX8_best_104 : decode cX8_best 104 = .ok (.iload 4, 2) := by decide +kernel
theorem dX8_best_106 : decode cX8_best 106 = .ok (.istore_n 3, 1) := by decide +kernel
theorem dX8_best_107 : decode cX8_best 107 = .ok (.iinc 4 1, 3) := by decide +kernel
theorem dX8_best_110 : decode cX8_best 110 = .ok (.goto (-105), 3) := by decide +kernel
theorem dX8_best_113 : decode cX8_best 113 = .ok (.iload_n 3, 1) := by decide +kernel
theorem dX8_best_114 : decode cX8_best 114 = .ok (.ireturn, 1) := by decide +kernel
theorem dX8_fits_0 : decode cX8_fits 0 = .ok (.aload_n 0, 1) := by decide +kernel
theorem dX8_fits_1 : decode cX8_fits 1 = .ok (.iconst 0, 1) := by decide +kernel
theorem dX8_fits_2 : decode cX8_fits 2 = .ok (.putfield 71, 3) := by decide +kernel
theorem dX8_fits_5 : decode cX8_fits 5 = .ok (.aload_n 0, 1) := by decide +kernel
theorem dX8_fits_6 : decode cX8_fits 6 = .ok (.iload_n 1, 1) := by decide +kernel
theorem dX8_fits_7 : decode cX8_fits 7 = .ok (.invokevirtual 103, 3) := by decide +kernel
theorem dX8_fits_10 : decode cX8_fits 10 = .ok (.ifCond .eq 31, 3) := by decide +kernel
theorem dX8_fits_13 : decode cX8_fits 13 = .ok (.iload_n 1, 1) := by decide +kernel
theorem dX8_fits_14 : decode cX8_fits 14 = .ok (.aload_n 0, 1) := by decide +kernel
theorem dX8_fits_15 : decode cX8_fits 15 = .ok (.invokevirtual 110, 3) := by decide +kernel
theorem dX8_fits_18 : decode cX8_fits 18 = .ok (.iconst (-1), 1) := by decide +kernel
theorem dX8_fits_19 : decode cX8_fits 19 = .ok (.ixor, 1) := by decide +kernel
theorem dX8_fits_20 : decode cX8_fits 20 = .ok (.iand, 1) := by decide +kernel
theorem dX8_fits_21 : decode cX8_fits 21 = .ok (.ifCond .ne 20, 3) := by decide +kernel
theorem dX8_fits_24 : decode cX8_fits 24 = .ok (.aload_n 0, 1) := by decide +kernel
theorem dX8_fits_25 : decode cX8_fits 25 = .ok (.iload_n 1, 1) := by decide +kernel
theorem dX8_fits_26 : decode cX8_fits 26 = .ok (.invokevirtual 114, 3) := by decide +kernel
theorem dX8_fits_29 : decode cX8_fits 29 = .ok (.iconst (-1), 1) := by decide +kernel
theorem dX8_fits_30 : decode cX8_fits 30 = .ok (.if_icmp .ne 7, 3) := by decide +kernel
theorem dX8_fits_33 : decode cX8_fits 33 = .ok (.iconst 1, 1) := by decide +kernel
theorem dX8_fits_34 : decode cX8_fits 34 = .ok (.goto 8, 3) := by decide +kernel
theorem dX8_fits_37 : decode cX8_fits 37 = .ok (.iconst 0, 1) := by decide +kernel
theorem dX8_fits_38 : decode cX8_fits 38 = .ok (.goto 4, 3) := by decide +kernel
theorem dX8_fits_41 : decode cX8_fits 41 = .ok (.iconst (-1), 1) := by decide +kernel
theorem dX8_fits_42 : decode cX8_fits 42 = .ok (.ireturn, 1) := by decide +kernel
theorem dX8_red_0 : decode cX8_red 0 = .ok (.aload_n 0, 1) := by decide +kernel
theorem dX8_red_1 : decode cX8_red 1 = .ok (.iconst 0, 1) := by decide +kernel
theorem dX8_red_2 : decode cX8_red 2 = .ok (.putfield 71, 3) := by decide +kernel
theorem dX8_red_5 : decode cX8_red 5 = .ok (.aload_n 0, 1) := by decide +kernel
theorem dX8_red_6 : decode cX8_red 6 = .ok (.iload_n 1, 1) := by decide +kernel
theorem dX8_red_7 : decode cX8_red 7 = .ok (.invokevirtual 103, 3) := by decide +kernel
theorem dX8_red_10 : decode cX8_red 10 = .ok (.ifCond .eq 11, 3) := by decide +kernel
theorem dX8_red_13 : decode cX8_red 13 = .ok (.aload_n 0, 1) := by decide +kernel
theorem dX8_red_14 : decode cX8_red 14 = .ok (.iload_n 1, 1) := by decide +kernel
theorem dX8_red_15 : decode cX8_red 15 = .ok (.invokevirtual 118, 3) := by decide +kernel
theorem dX8_red_18 : decode cX8_red 18 = .ok (.goto 4, 3) := by decide +kernel
theorem dX8_red_21 : decode cX8_red 21 = .ok (.iconst (-1), 1) := by decide +kernel
theorem dX8_red_22 : decode cX8_red 22 = .ok (.ireturn, 1) := by decide +kernel
theorem dX8_cut_0 : decode cX8_cut 0 = .ok (.aload_n 0, 1) := by decide +kernel
theorem dX8_cut_1 : decode cX8_cut 1 = .ok (.iconst 0, 1) := by decide +kernel
theorem dX8_cut_2 : decode cX8_cut 2 = .ok (.putfield 71, 3) := by decide +kernel
theorem dX8_cut_5 : decode cX8_cut 5 = .ok (.aload_n 0, 1) := by decide +kernel
theorem dX8_cut_6 : decode cX8_cut 6 = .ok (.getfield 78, 3) := by decide +kernel
theorem dX8_cut_9 : decode cX8_cut 9 = .ok (.ifCond .eq 5, 3) := by decide +kernel
theorem dX8_cut_12 : decode cX8_cut 12 = .ok (.iconst (-1), 1) := by decide +kernel
theorem dX8_cut_13 : decode cX8_cut 13 = .ok (.ireturn, 1) := by decide +kernel
theorem dX8_cut_14 : decode cX8_cut 14 = .ok (.aload_n 0, 1) := by decide +kernel
theorem dX8_cut_15 : decode cX8_cut 15 = .ok (.iconst 0, 1) := by decide +kernel
theorem dX8_cut_16 : decode cX8_cut 16 = .ok (.aload_n 0, 1) := by decide +kernel
theorem dX8_cut_17 : decode cX8_cut 17 = .ok (.invokevirtual 110, 3) := by decide +kernel
theorem dX8_cut_20 : decode cX8_cut 20 = .ok (.invokevirtual 127, 3) := by decide +kernel
theorem dX8_cut_23 : decode cX8_cut 23 = .ok (.istore_n 1, 1) := by decide +kernel
theorem dX8_cut_24 : decode cX8_cut 24 = .ok (.iload_n 1, 1) := by decide +kernel
theorem dX8_cut_25 : decode cX8_cut 25 = .ok (.iconst (-1), 1) := by decide +kernel
theorem dX8_cut_26 : decode cX8_cut 26 = .ok (.if_icmp .ne 5, 3) := by decide +kernel
theorem dX8_cut_29 : decode cX8_cut 29 = .ok (.iconst (-1), 1) := by decide +kernel
theorem dX8_cut_30 : decode cX8_cut 30 = .ok (.ireturn, 1) := by decide +kernel
theorem dX8_cut_31 : decode cX8_cut 31 = .ok (.aload_n 0, 1) := by decide +kernel
theorem dX8_cut_32 : decode cX8_cut 32 = .ok (.iload_n 1, 1) := by decide +kernel
theorem dX8_cut_33 : decode cX8_cut 33 = .ok (.putfield 90, 3) := by decide +kernel
theorem dX8_cut_36 : decode cX8_cut 36 = .ok (.aload_n 0, 1) := by decide +kernel
theorem dX8_cut_37 : decode cX8_cut 37 = .ok (.iconst 1, 1) := by decide +kernel
theorem dX8_cut_38 : decode cX8_cut 38 = .ok (.putfield 78, 3) := by decide +kernel
theorem dX8_cut_41 : decode cX8_cut 41 = .ok (.aload_n 0, 1) := by decide +kernel
theorem dX8_cut_42 : decode cX8_cut 42 = .ok (.getfield 90, 3) := by decide +kernel
theorem dX8_cut_45 : decode cX8_cut 45 = .ok (.ireturn, 1) := by decide +kernel
theorem dX8_chosen_0 : decode cX8_chosen 0 = .ok (.aload_n 0, 1) := by decide +kernel
theorem dX8_chosen_1 : decode cX8_chosen 1 = .ok (.iconst 0, 1) := by decide +kernel
theorem dX8_chosen_2 : decode cX8_chosen 2 = .ok (.putfield 71, 3) := by decide +kernel
theorem dX8_chosen_5 : decode cX8_chosen 5 = .ok (.aload_n 0, 1) := by decide +kernel
theorem dX8_chosen_6 : decode cX8_chosen 6 = .ok (.getfield 78, 3) := by decide +kernel
theorem dX8_chosen_9 : decode cX8_chosen 9 = .ok (.ifCond .eq 10, 3) := by decide +kernel
theorem dX8_chosen_12 : decode cX8_chosen 12 = .ok (.aload_n 0, 1) := by decide +kernel
theorem dX8_chosen_13 : decode cX8_chosen 13 = .ok (.getfield 90, 3) := by decide +kernel
theorem dX8_chosen_16 : decode cX8_chosen 16 = .ok (.goto 4, 3) := by decide +kernel
theorem dX8_chosen_19 : decode cX8_chosen 19 = .ok (.iconst (-1), 1) := by decide +kernel
theorem dX8_chosen_20 : decode cX8_chosen 20 = .ok (.ireturn, 1) := by decide +kernel
