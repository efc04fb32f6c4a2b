theorem dX8_worth_0 : decode cX8_worth 0 = .ok (.aload_n 0, 1) := by decide +kernel
theorem dX8_worth_1 : decode cX8_worth 1 = .ok (.iconst 0, 1) := by decide +kernel
theorem dX8_worth_2 : decode cX8_worth 2 = .ok (.putfield 71, 3) := by decide +kernel
theorem dX8_worth_5 : decode cX8_worth 5 = .ok (.aload_n 0, 1) := by decide +kernel
theorem dX8_worth_6 : decode cX8_worth 6 = .ok (.getfield 78, 3) := by decide +kernel
theorem dX8_worth_9 : decode cX8_worth 9 = .ok (.ifCond .eq 14, 3) := by decide +kernel
theorem dX8_worth_12 : decode cX8_worth 12 = .ok (.aload_n 0, 1) := by decide +kernel
theorem dX8_worth_13 : decode cX8_worth 13 = .ok (.aload_n 0, 1) := by decide +kernel
theorem dX8_worth_14 : decode cX8_worth 14 = .ok (.getfield 90, 3) := by decide +kernel
theorem dX8_worth_17 : decode cX8_worth 17 = .ok (.invokevirtual 124, 3) := by decide +kernel
theorem dX8_worth_20 : decode cX8_worth 20 = .ok (.goto 4, 3) := by decide +kernel
theorem dX8_worth_23 : decode cX8_worth 23 = .ok (.iconst (-1), 1) := by decide +kernel
theorem dX8_worth_24 : decode cX8_worth 24 = .ok (.ireturn, 1) := by decide +kernel
theorem dX8_why_0 : decode cX8_why 0 = .ok (.aload_n 0, 1) := by decide +kernel
theorem dX8_why_1 : decode cX8_why 1 = .ok (.iconst 0, 1) := by decide +kernel
theorem dX8_why_2 : decode cX8_why 2 = .ok (.putfield 71, 3) := by decide +kernel
theorem dX8_why_5 : decode cX8_why 5 = .ok (.aload_n 0, 1) := by decide +kernel
theorem dX8_why_6 : decode cX8_why 6 = .ok (.getfield 78, 3) := by decide +kernel
theorem dX8_why_9 : decode cX8_why 9 = .ok (.ifCond .eq 32, 3) := by decide +kernel
theorem dX8_why_12 : decode cX8_why 12 = .ok (.aload_n 0, 1) := by decide +kernel
theorem dX8_why_13 : decode cX8_why 13 = .ok (.iload_n 1, 1) := by decide +kernel
theorem dX8_why_14 : decode cX8_why 14 = .ok (.invokevirtual 86, 3) := by decide +kernel
theorem dX8_why_17 : decode cX8_why 17 = .ok (.ifCond .eq 24, 3) := by decide +kernel
theorem dX8_why_20 : decode cX8_why 20 = .ok (.aload_n 0, 1) := by decide +kernel
theorem dX8_why_21 : decode cX8_why 21 = .ok (.getfield 13, 3) := by decide +kernel
theorem dX8_why_24 : decode cX8_why 24 = .ok (.iload_n 1, 1) := by decide +kernel
theorem dX8_why_25 : decode cX8_why 25 = .ok (.iaload, 1) := by decide +kernel
theorem dX8_why_26 : decode cX8_why 26 = .ok (.iconst (-1), 1) := by decide +kernel
theorem dX8_why_27 : decode cX8_why 27 = .ok (.if_icmp .eq 14, 3) := by decide +kernel
theorem dX8_why_30 : decode cX8_why 30 = .ok (.aload_n 0, 1) := by decide +kernel
theorem dX8_why_31 : decode cX8_why 31 = .ok (.getfield 90, 3) := by decide +kernel
theorem dX8_why_34 : decode cX8_why 34 = .ok (.iload_n 1, 1) := by decide +kernel
theorem dX8_why_35 : decode cX8_why 35 = .ok (.invokestatic 93, 3) := by decide +kernel
theorem dX8_why_38 : decode cX8_why 38 = .ok (.ifCond .eq 5, 3) := by decide +kernel
theorem dX8_why_41 : decode cX8_why 41 = .ok (.iconst (-1), 1) := by decide +kernel
theorem dX8_why_42 : decode cX8_why 42 = .ok (.ireturn, 1) := by decide +kernel
theorem dX8_why_43 : decode cX8_why 43 = .ok (.aload_n 0, 1) := by decide +kernel
theorem dX8_why_44 : decode cX8_why 44 = .ok (.getfield 90, 3) := by decide +kernel
theorem dX8_why_47 : decode cX8_why 47 = .ok (.iconst 1, 1) := by decide +kernel
theorem dX8_why_48 : decode cX8_why 48 = .ok (.iload_n 1, 1) := by decide +kernel
theorem dX8_why_49 : decode cX8_why 49 = .ok (.ishl, 1) := by decide +kernel
theorem dX8_why_50 : decode cX8_why 50 = .ok (.ior, 1) := by decide +kernel
theorem dX8_why_51 : decode cX8_why 51 = .ok (.istore_n 2, 1) := by decide +kernel
theorem dX8_why_52 : decode cX8_why 52 = .ok (.aload_n 0, 1) := by decide +kernel
theorem dX8_why_53 : decode cX8_why 53 = .ok (.iload_n 2, 1) := by decide +kernel
theorem dX8_why_54 : decode cX8_why 54 = .ok (.invokevirtual 114, 3) := by decide +kernel
theorem dX8_why_57 : decode cX8_why 57 = .ok (.iconst (-1), 1) := by decide +kernel
theorem dX8_why_58 : decode cX8_why 58 = .ok (.if_icmp .eq 12, 3) := by decide +kernel
theorem dX8_why_61 : decode cX8_why 61 = .ok (.bipush 100, 2) := by decide +kernel
theorem dX8_why_63 : decode cX8_why 63 = .ok (.aload_n 0, 1) := by decide +kernel
theorem dX8_why_64 : decode cX8_why 64 = .ok (.iload_n 2, 1) := by decide +kernel
theorem dX8_why_65 : decode cX8_why 65 = .ok (.invokevirtual 114, 3) := by decide +kernel
theorem dX8_why_68 : decode cX8_why 68 = .ok (.iadd, 1) := by decide +kernel
theorem dX8_why_69 : decode cX8_why 69 = .ok (.ireturn, 1) := by decide +kernel
theorem dX8_why_70 : decode cX8_why 70 = .ok (.aload_n 0, 1) := by decide +kernel
theorem dX8_why_71 : decode cX8_why 71 = .ok (.iload_n 2, 1) := by decide +kernel
theorem dX8_why_72 : decode cX8_why 72 = .ok (.invokevirtual 118, 3) := by decide +kernel
theorem dX8_why_75 : decode cX8_why 75 = .ok (.iconst (-1), 1) := by decide +kernel
theorem dX8_why_76 : decode cX8_why 76 = .ok (.if_icmp .eq 15, 3) := by decide +kernel
theorem dX8_why_79 : decode cX8_why 79 = .ok (.sipush 200, 3) := by decide +kernel
theorem dX8_why_82 : decode cX8_why 82 = .ok (.aload_n 0, 1) := by decide +kernel
theorem dX8_why_83 : decode cX8_why 83 = .ok (.iload_n 2, 1) := by decide +kernel
theorem dX8_why_84 : decode cX8_why 84 = .ok (.invokevirtual 118, 3) := by decide +kernel
theorem dX8_why_87 : decode cX8_why 87 = .ok (.iadd, 1) := by decide +kernel
theorem dX8_why_88 : decode cX8_why 88 = .ok (.goto 4, 3) := by decide +kernel
theorem dX8_why_91 : decode cX8_why 91 = .ok (.iconst 0, 1) := by decide +kernel
theorem dX8_why_92 : decode cX8_why 92 = .ok (.ireturn, 1) := by decide +kernel
theorem dX8_tries_0 : decode cX8_tries 0 = .ok (.aload_n 0, 1) := by decide +kernel
theorem dX8_tries_1 : decode cX8_tries 1 = .ok (.iconst 0, 1) := by decide +kernel
theorem dX8_tries_2 : decode cX8_tries 2 = .ok (.putfield 71, 3) := by decide +kernel
theorem dX8_tries_5 : decode cX8_tries 5 = .ok (.aload_n 0, 1) := by decide +kernel
theorem dX8_tries_6 : decode cX8_tries 6 = .ok (.getfield 78, 3) := by decide +kernel
theorem dX8_tries_9 : decode cX8_tries 9 = .ok (.ifCond .eq 54, 3) := by decide +kernel
theorem dX8_tries_12 : decode cX8_tries 12 = .ok (.aload_n 0, 1) := by decide +kernel
theorem dX8_tries_13 : decode cX8_tries 13 = .ok (.iload_n 1, 1) := by decide +kernel
theorem dX8_tries_14 : decode cX8_tries 14 = .ok (.invokevirtual 86, 3) := by decide +kernel
theorem dX8_tries_17 : decode cX8_tries 17 = .ok (.ifCond .eq 46, 3) := by decide +kernel
theorem dX8_tries_20 : decode cX8_tries 20 = .ok (.iload_n 2, 1) := by decide +kernel
theorem dX8_tries_21 : decode cX8_tries 21 = .ok (.iconst 0, 1) := by decide +kernel
theorem dX8_tries_22 : decode cX8_tries 22 = .ok (.sipush 1000, 3) := by decide +kernel
theorem dX8_tries_25 : decode cX8_tries 25 = .ok (.invokestatic 82, 3) := by decide +kernel
theorem dX8_tries_28 : decode cX8_tries 28 = .ok (.ifCond .eq 35, 3) := by decide +kernel
theorem dX8_tries_31 : decode cX8_tries 31 = .ok (.iload_n 3, 1) := by decide +kernel
theorem dX8_tries_32 : decode cX8_tries 32 = .ok (.iconst 1, 1) := by decide +kernel
theorem dX8_tries_33 : decode cX8_tries 33 = .ok (.sipush 1000, 3) := by decide +kernel
theorem dX8_tries_36 : decode cX8_tries 36 = .ok (.invokestatic 82, 3) := by decide +kernel
theorem dX8_tries_39 : decode cX8_tries 39 = .ok (.ifCond .eq 24, 3) := by decide +kernel
theorem dX8_tries_42 : decode cX8_tries 42 = .ok (.aload_n 0, 1) := by decide +kernel
theorem dX8_tries_43 : decode cX8_tries 43 = .ok (.getfield 90, 3) := by decide +kernel
theorem dX8_tries_46 : decode cX8_tries 46 = .ok (.iload_n 1, 1) := by decide +kernel
theorem dX8_tries_47 : decode cX8_tries 47 = .ok (.invokestatic 93, 3) := by decide +kernel
theorem dX8_tries_50 : decode cX8_tries 50 = .ok (.ifCond .ne 13, 3) := by decide +kernel
theorem dX8_tries_53 : decode cX8_tries 53 = .ok (.iload_n 2, 1) := by decide +kernel
theorem dX8_tries_54 : decode cX8_tries 54 = .ok (.aload_n 0, 1) := by decide +kernel
theorem dX8_tries_55 : decode cX8_tries 55 = .ok (.getfield 9, 3) := by decide +kernel
theorem dX8_tries_58 : decode cX8_tries 58 = .ok (.iload_n 1, 1) := by decide +kernel
theorem dX8_tries_59 : decode cX8_tries 59 = .ok (.iaload, 1) := by decide +kernel
theorem dX8_tries_60 : decode cX8_tries 60 = .ok (.if_icmp .ne 5, 3) := by decide +kernel
theorem dX8_tries_63 : decode cX8_tries 63 = .ok (.iconst 0, 1) := by decide +kernel
theorem dX8_tries_64 : decode cX8_tries 64 = .ok (.ireturn, 1) := by decide +kernel
theorem dX8_tries_65 : decode cX8_tries 65 = .ok (.aload_n 0, 1) := by decide +kernel
theorem dX8_tries_66 : decode cX8_tries 66 = .ok (.aload_n 0, 1) := by decide +kernel
theorem dX8_tries_67 : decode cX8_tries 67 = .ok (.getfield 13, 3) := by decide +kernel
theorem dX8_tries_70 : decode cX8_tries 70 = .ok (.iload_n 1, 1) := by decide +kernel
theorem dX8_tries_71 : decode cX8_tries 71 = .ok (.iaload, 1) := by decide +kernel
theorem dX8_tries_72 : decode cX8_tries 72 = .ok (.putfield 130, 3) := by decide +kernel
theorem dX8_tries_75 : decode cX8_tries 75 = .ok (.aload_n 0, 1) := by decide +kernel
theorem dX8_tries_76 : decode cX8_tries 76 = .ok (.aload_n 0, 1) := by decide +kernel
theorem dX8_tries_77 : decode cX8_tries 77 = .ok (.getfield 16, 3) := by decide +kernel
theorem dX8_tries_80 : decode cX8_tries 80 = .ok (.iload_n 1, 1) := by decide +kernel
theorem dX8_tries_81 : decode cX8_tries 81 = .ok (.iaload, 1) := by decide +kernel
theorem dX8_tries_82 : decode cX8_tries 82 = .ok (.putfield 133, 3) := by decide +kernel
theorem dX8_tries_85 : decode cX8_tries 85 = .ok (.aload_n 0, 1) := by decide +kernel
theorem dX8_tries_86 : decode cX8_tries 86 = .ok (.getfield 13, 3) := by decide +kernel
theorem dX8_tries_89 : decode cX8_tries 89 = .ok (.iload_n 1, 1) := by decide +kernel
theorem dX8_tries_90 : decode cX8_tries 90 = .ok (.iload_n 2, 1) := by decide +kernel
theorem dX8_tries_91 : decode cX8_tries 91 = .ok (.iastore, 1) := by decide +kernel
theorem dX8_tries_92 : decode cX8_tries 92 = .ok (.aload_n 0, 1) := by decide +kernel
theorem dX8_tries_93 : decode cX8_tries 93 = .ok (.getfield 16, 3) := by decide +kernel
theorem dX8_tries_96 : decode cX8_tries 96 = .ok (.iload_n 1, 1) := by decide +kernel
theorem dX8_tries_97 : decode cX8_tries 97 = .ok (.iload_n 3, 1) := by decide +kernel
theorem dX8_tries_98 : decode cX8_tries 98 = .ok (.iastore, 1) := by decide +kernel
theorem dX8_tries_99 : decode cX8_tries 99 = .ok (.iconst 1, 1) := by decide +kernel
theorem dX8_tries_100 : decode cX8_tries 100 = .ok (.ireturn, 1) := by decide +kernel
theorem dX8_fix_0 : decode cX8_fix 0 = .ok (.aload_n 0, 1) := by decide +kernel
theorem dX8_fix_1 : decode cX8_fix 1 = .ok (.iload_n 1, 1) := by decide +kernel
theorem dX8_fix_2 : decode cX8_fix 2 = .ok (.iload_n 2, 1) := by decide +kernel
theorem dX8_fix_3 : decode cX8_fix 3 = .ok (.iload_n 3, 1) := by decide +kernel
theorem dX8_fix_4 : decode cX8_fix 4 = .ok (.invokevirtual 136, 3) := by decide +kernel
theorem dX8_fix_7 : decode cX8_fix 7 = .ok (.ifCond .ne 5, 3) := by decide +kernel
theorem dX8_fix_10 : decode cX8_fix 10 = .ok (.iconst (-1), 1) := by decide +kernel
theorem dX8_fix_11 : decode cX8_fix 11 = .ok (.ireturn, 1) := by decide +kernel
theorem dX8_fix_12 : decode cX8_fix 12 = .ok (.aload_n 0, 1) := by decide +kernel
theorem dX8_fix_13 : decode cX8_fix 13 = .ok (.aload_n 0, 1) := by decide +kernel
theorem dX8_fix_14 : decode cX8_fix 14 = .ok (.getfield 90, 3) := by decide +kernel
theorem dX8_fix_17 : decode cX8_fix 17 = .ok (.iconst 1, 1) := by decide +kernel
theorem dX8_fix_18 : decode cX8_fix 18 = .ok (.iload_n 1, 1) := by decide +kernel
theorem dX8_fix_19 : decode cX8_fix 19 = .ok (.ishl, 1) := by decide +kernel
theorem dX8_fix_20 : decode cX8_fix 20 = .ok (.ior, 1) := by decide +kernel
theorem dX8_fix_21 : decode cX8_fix 21 = .ok (.invokevirtual 121, 3) := by decide +kernel
theorem dX8_fix_24 : decode cX8_fix 24 = .ok (.ifCond .eq 17, 3) := by decide +kernel
theorem dX8_fix_27 : decode cX8_fix 27 = .ok (.aload_n 0, 1) := by decide +kernel
theorem dX8_fix_28 : decode cX8_fix 28 = .ok (.dup, 1) := by decide +kernel
theorem dX8_fix_29 : decode cX8_fix 29 = .ok (.getfield 90, 3) := by decide +kernel
theorem dX8_fix_32 : decode cX8_fix 32 = .ok (.iconst 1, 1) := by decide +kernel
theorem dX8_fix_33 : decode cX8_fix 33 = .ok (.iload_n 1, 1) := by decide +kernel
theorem dX8_fix_34 : decode cX8_fix 34 = .ok (.ishl, 1) := by decide +kernel
theorem dX8_fix_35 : decode cX8_fix 35 = .ok (.ior, 1) := by decide +kernel
theorem dX8_fix_36 : decode cX8_fix 36 = .ok (.putfield 90, 3) := by decide +kernel
theorem dX8_fix_39 : decode cX8_fix 39 = .ok (.iconst 1, 1) := by decide +kernel
theorem dX8_fix_40 : decode cX8_fix 40 = .ok (.ireturn, 1) := by decide +kernel
theorem dX8_fix_41 : decode cX8_fix 41 = .ok (.aload_n 0, 1) := by decide +kernel
theorem dX8_fix_42 : decode cX8_fix 42 = .ok (.getfield 13, 3) := by decide +kernel
theorem dX8_fix_45 : decode cX8_fix 45 = .ok (.iload_n 1, 1) := by decide +kernel
theorem dX8_fix_46 : decode cX8_fix 46 = .ok (.aload_n 0, 1) := by decide +kernel
theorem dX8_fix_47 : decode cX8_fix 47 = .ok (.getfield 130, 3) := by decide +kernel
theorem dX8_fix_50 : decode cX8_fix 50 = .ok (.iastore, 1) := by decide +kernel
theorem dX8_fix_51 : decode cX8_fix 51 = .ok (.aload_n 0, 1) := by decide +kernel
theorem dX8_fix_52 : decode cX8_fix 52 = .ok (.getfield 16, 3) := by decide +kernel
theorem dX8_fix_55 : decode cX8_fix 55 = .ok (.iload_n 1, 1) := by decide +kernel
theorem dX8_fix_56 : decode cX8_fix 56 = .ok (.aload_n 0, 1) := by decide +kernel
theorem dX8_fix_57 : decode cX8_fix 57 = .ok (.getfield 133, 3) := by decide +kernel
theorem dX8_fix_60 : decode cX8_fix 60 = .ok (.iastore, 1) := by decide +kernel
theorem dX8_fix_61 : decode cX8_fix 61 = .ok (.iconst 0, 1) := by decide +kernel
theorem dX8_fix_62 : decode cX8_fix 62 = .ok (.ireturn, 1) := by decide +kernel
theorem dX8_leave_0 : decode cX8_leave 0 = .ok (.aload_n 0, 1) := by decide +kernel
theorem dX8_leave_1 : decode cX8_leave 1 = .ok (.iload_n 1, 1) := by decide +kernel
theorem dX8_leave_2 : decode cX8_leave 2 = .ok (.iload_n 2, 1) := by decide +kernel
theorem dX8_leave_3 : decode cX8_leave 3 = .ok (.iload_n 3, 1) := by decide +kernel
theorem dX8_leave_4 : decode cX8_leave 4 = .ok (.invokevirtual 136, 3) := by decide +kernel
theorem dX8_leave_7 : decode cX8_leave 7 = .ok (.ifCond .ne 5, 3) := by decide +kernel
theorem dX8_leave_10 : decode cX8_leave 10 = .ok (.iconst (-1), 1) := by decide +kernel
theorem dX8_leave_11 : decode cX8_leave 11 = .ok (.ireturn, 1) := by decide +kernel
theorem dX8_leave_12 : decode cX8_leave 12 = .ok (.aload_n 0, 1) := by decide +kernel
theorem dX8_leave_13 : decode cX8_leave 13 = .ok (.iconst 1, 1) := by decide +kernel
theorem dX8_leave_14 : decode cX8_leave 14 = .ok (.iload_n 1, 1) := by decide +kernel
theorem dX8_leave_15 : decode cX8_leave 15 = .ok (.ishl, 1) := by decide +kernel
theorem dX8_leave_16 : decode cX8_leave 16 = .ok (.aload_n 0, 1) := by decide +kernel
theorem dX8_leave_17 : decode cX8_leave 17 = .ok (.getfield 90, 3) := by decide +kernel
theorem dX8_leave_20 : decode cX8_leave 20 = .ok (.iconst 1, 1) := by decide +kernel
theorem dX8_leave_21 : decode cX8_leave 21 = .ok (.iload_n 1, 1) := by decide +kernel
theorem dX8_leave_22 : decode cX8_leave 22 = .ok (.ishl, 1) := by decide +kernel
theorem dX8_leave_23 : decode cX8_leave 23 = .ok (.ior, 1) := by decide +kernel
theorem dX8_leave_24 : decode cX8_leave 24 = .ok (.invokevirtual 127, 3) := by decide +kernel
theorem dX8_leave_27 : decode cX8_leave 27 = .ok (.istore 4, 2) := by decide +kernel
theorem dX8_leave_29 : decode cX8_leave 29 = .ok (.aload_n 0, 1) := by decide +kernel
theorem dX8_leave_30 : decode cX8_leave 30 = .ok (.getfield 13, 3) := by decide +kernel
theorem dX8_leave_33 : decode cX8_leave 33 = .ok (.iload_n 1, 1) := by decide +kernel
theorem dX8_leave_34 : decode cX8_leave 34 = .ok (.aload_n 0, 1) := by decide +kernel
theorem dX8_leave_35 : decode cX8_leave 35 = .ok (.getfield 130, 3) := by decide +kernel
theorem dX8_leave_38 : decode cX8_leave 38 = .ok (.iastore, 1) := by decide +kernel
theorem dX8_leave_39 : decode cX8_leave 39 = .ok (.aload_n 0, 1) := by decide +kernel
theorem dX8_leave_40 : decode cX8_leave 40 = .ok (.getfield 16, 3) := by decide +kernel
theorem dX8_leave_43 : decode cX8_leave 43 = .ok (.iload_n 1, 1) := by decide +kernel
theorem dX8_leave_44 : decode cX8_leave 44 = .ok (.aload_n 0, 1) := by decide +kernel
theorem dX8_leave_45 : decode cX8_leave 45 = .ok (.getfield 133, 3) := by decide +kernel
theorem dX8_leave_48 : decode cX8_leave 48 = .ok (.iastore, 1) := by decide +kernel
theorem dX8_leave_49 : decode cX8_leave 49 = .ok (.iload 4, 2) := by decide +kernel
theorem dX8_leave_51 : decode cX8_leave 51 = .ok (.iconst (-1), 1) := by decide +kernel
theorem dX8_leave_52 : decode cX8_leave 52 = .ok (.if_icmp .ne 7, 3) := by decide +kernel
theorem dX8_leave_55 : decode cX8_leave 55 = .ok (.iconst (-1), 1) := by decide +kernel
theorem dX8_leave_56 : decode cX8_leave 56 = .ok (.goto 12, 3) := by decide +kernel
theorem dX8_leave_59 : decode cX8_leave 59 = .ok (.aload_n 0, 1) := by decide +kernel
theorem dX8_leave_60 : decode cX8_leave 60 = .ok (.getfield 90, 3) := by decide +kernel
theorem dX8_leave_63 : decode cX8_leave 63 = .ok (.iload 4, 2) := by decide +kernel
theorem dX8_leave_65 : decode cX8_leave 65 = .ok (.iconst (-1), 1) := by decide +kernel
theorem dX8_leave_66 : decode cX8_leave 66 = .ok (.ixor, 1) := by decide +kernel
theorem dX8_leave_67 : decode cX8_leave 67 = .ok (.iand, 1) := by decide +kernel
theorem dX8_leave_68 : decode cX8_leave 68 = .ok (.ireturn, 1) := by decide +kernel
theorem dX8_goesOut_0 : decode cX8_goesOut 0 = .ok (.iload_n 1, 1) := by decide +kernel
theorem dX8_goesOut_1 : decode cX8_goesOut 1 = .ok (.aload_n 0, 1) := by decide +kernel
theorem dX8_goesOut_2 : decode cX8_goesOut 2 = .ok (.getfield 90, 3) := by decide +kernel
theorem dX8_goesOut_5 : decode cX8_goesOut 5 = .ok (.if_icmp .ne 10, 3) := by decide +kernel
theorem dX8_goesOut_8 : decode cX8_goesOut 8 = .ok (.aload_n 0, 1) := by decide +kernel
theorem dX8_goesOut_9 : decode cX8_goesOut 9 = .ok (.iload_n 2, 1) := by decide +kernel
theorem dX8_goesOut_10 : decode cX8_goesOut 10 = .ok (.putfield 139, 3) := by decide +kernel
theorem dX8_goesOut_13 : decode cX8_goesOut 13 = .ok (.iconst 1, 1) := by decide +kernel
theorem dX8_goesOut_14 : decode cX8_goesOut 14 = .ok (.ireturn, 1) := by decide +kernel
theorem dX8_goesOut_15 : decode cX8_goesOut 15 = .ok (.aload_n 0, 1) := by decide +kernel
theorem dX8_goesOut_16 : decode cX8_goesOut 16 = .ok (.getfield 65, 3) := by decide +kernel
theorem dX8_goesOut_19 : decode cX8_goesOut 19 = .ok (.iload_n 1, 1) := by decide +kernel
theorem dX8_goesOut_20 : decode cX8_goesOut 20 = .ok (.baload, 1) := by decide +kernel
theorem dX8_goesOut_21 : decode cX8_goesOut 21 = .ok (.ifCond .eq 5, 3) := by decide +kernel
theorem dX8_goesOut_24 : decode cX8_goesOut 24 = .ok (.iconst 0, 1) := by decide +kernel
theorem dX8_goesOut_25 : decode cX8_goesOut 25 = .ok (.ireturn, 1) := by decide +kernel
theorem dX8_goesOut_26 : decode cX8_goesOut 26 = .ok (.aload_n 0, 1) := by decide +kernel
theorem dX8_goesOut_27 : decode cX8_goesOut 27 = .ok (.getfield 65, 3) := by decide +kernel
theorem dX8_goesOut_30 : decode cX8_goesOut 30 = .ok (.iload_n 1, 1) := by decide +kernel
theorem dX8_goesOut_31 : decode cX8_goesOut 31 = .ok (.iconst 1, 1) := by decide +kernel
theorem dX8_goesOut_32 : decode cX8_goesOut 32 = .ok (.bastore, 1) := by decide +kernel
theorem dX8_goesOut_33 : decode cX8_goesOut 33 = .ok (.iconst 0, 1) := by decide +kernel
theorem dX8_goesOut_34 : decode cX8_goesOut 34 = .ok (.istore_n 3, 1) := by decide +kernel
theorem dX8_goesOut_35 : decode cX8_goesOut 35 = .ok (.iload_n 3, 1) := by decide +kernel
theorem dX8_goesOut_36 : decode cX8_goesOut 36 = .ok (.aload_n 0, 1) := by decide +kernel
theorem dX8_goesOut_37 : decode cX8_goesOut 37 = .ok (.getfield 75, 3) := by decide +kernel
theorem dX8_goesOut_40 : decode cX8_goesOut 40 = .ok (.if_icmp .ge 68, 3) := by decide +kernel
theorem dX8_goesOut_43 : decode cX8_goesOut 43 = .ok (.aload_n 0, 1) := by decide +kernel
theorem dX8_goesOut_44 : decode cX8_goesOut 44 = .ok (.getfield 90, 3) := by decide +kernel
theorem dX8_goesOut_47 : decode cX8_goesOut 47 = .ok (.iload_n 3, 1) := by decide +kernel
theorem dX8_goesOut_48 : decode cX8_goesOut 48 = .ok (.invokestatic 93, 3) := by decide +kernel
theorem dX8_goesOut_51 : decode cX8_goesOut 51 = .ok (.ifCond .eq 51, 3) := by decide +kernel
theorem dX8_goesOut_54 : decode cX8_goesOut 54 = .ok (.iload_n 1, 1) := by decide +kernel
theorem dX8_goesOut_55 : decode cX8_goesOut 55 = .ok (.iload_n 3, 1) := by decide +kernel
theorem dX8_goesOut_56 : decode cX8_goesOut 56 = .ok (.invokestatic 93, 3) := by decide +kernel
theorem dX8_goesOut_59 : decode cX8_goesOut 59 = .ok (.ifCond .ne 43, 3) := by decide +kernel
theorem dX8_goesOut_62 : decode cX8_goesOut 62 = .ok (.aload_n 0, 1) := by decide +kernel
theorem dX8_goesOut_63 : decode cX8_goesOut 63 = .ok (.iload_n 1, 1) := by decide +kernel
theorem dX8_goesOut_64 : decode cX8_goesOut 64 = .ok (.iconst 1, 1) := by decide +kernel
theorem dX8_goesOut_65 : decode cX8_goesOut 65 = .ok (.iload_n 3, 1) := by decide +kernel
theorem dX8_goesOut_66 : decode cX8_goesOut 66 = .ok (.ishl, 1) := by decide +kernel
theorem dX8_goesOut_67 : decode cX8_goesOut 67 = .ok (.ior, 1) := by decide +kernel
theorem dX8_goesOut_68 : decode cX8_goesOut 68 = .ok (.invokevirtual 114, 3) := by decide +kernel
theorem dX8_goesOut_71 : decode cX8_goesOut 71 = .ok (.iconst (-1), 1) := by decide +kernel
theorem dX8_goesOut_72 : decode cX8_goesOut 72 = .ok (.if_icmp .eq 6, 3) := by decide +kernel
theorem dX8_goesOut_75 : decode cX8_goesOut 75 = .ok (.goto 27, 3) := by decide +kernel
theorem dX8_goesOut_78 : decode cX8_goesOut 78 = .ok (.aload_n 0, 1) := by decide +kernel
theorem dX8_goesOut_79 : decode cX8_goesOut 79 = .ok (.getfield 68, 3) := by decide +kernel
theorem dX8_goesOut_82 : decode cX8_goesOut 82 = .ok (.iload_n 2, 1) := by decide +kernel
theorem dX8_goesOut_83 : decode cX8_goesOut 83 = .ok (.iload_n 3, 1) := by decide +kernel
theorem dX8_goesOut_84 : decode cX8_goesOut 84 = .ok (.iastore, 1) := by decide +kernel
theorem dX8_goesOut_85 : decode cX8_goesOut 85 = .ok (.aload_n 0, 1) := by decide +kernel
theorem dX8_goesOut_86 : decode cX8_goesOut 86 = .ok (.iload_n 1, 1) := by decide +kernel
theorem dX8_goesOut_87 : decode cX8_goesOut 87 = .ok (.iconst 1, 1) := by decide +kernel
theorem dX8_goesOut_88 : decode cX8_goesOut 88 = .ok (.iload_n 3, 1) := by decide +kernel
theorem dX8_goesOut_89 : decode cX8_goesOut 89 = .ok (.ishl, 1) := by decide +kernel
theorem dX8_goesOut_90 : decode cX8_goesOut 90 = .ok (.ior, 1) := by decide +kernel
theorem dX8_goesOut_91 : decode cX8_goesOut 91 = .ok (.iload_n 2, 1) := by decide +kernel
theorem dX8_goesOut_92 : decode cX8_goesOut 92 = .ok (.iconst 1, 1) := by decide +kernel
theorem dX8_goesOut_93 : decode cX8_goesOut 93 = .ok (.iadd, 1) := by decide +kernel
theorem dX8_goesOut_94 : decode cX8_goesOut 94 = .ok (.invokevirtual 142, 3) := by decide +kernel
theorem dX8_goesOut_97 : decode cX8_goesOut 97 = .ok (.ifCond .eq 5, 3) := by decide +kernel
theorem dX8_goesOut_100 : decode cX8_goesOut 100 = .ok (.iconst 1, 1) := by decide +kernel
theorem dX8_goesOut_101 : decode cX8_goesOut 101 = .ok (.ireturn, 1) := by decide +kernel
theorem dX8_goesOut_102 : decode cX8_goesOut 102 = .ok (.iinc 3 1, 3) := by decide +kernel
theorem dX8_goesOut_105 : decode cX8_goesOut 105 = .ok (.goto (-70), 3) := by decide +kernel
theorem dX8_goesOut_108 : decode cX8_goesOut 108 = .ok (.iconst 0, 1) := by decide +kernel
theorem dX8_goesOut_109 : decode cX8_goesOut 109 = .ok (.ireturn, 1) := by decide +kernel
theorem dX8_orders_0 : decode cX8_orders 0 = .ok (.aload_n 0, 1) := by decide +kernel
theorem dX8_orders_1 : decode cX8_orders 1 = .ok (.getfield 78, 3) := by decide +kernel
theorem dX8_orders_4 : decode cX8_orders 4 = .ok (.ifCond .eq 12, 3) := by decide +kernel
theorem dX8_orders_7 : decode cX8_orders 7 = .ok (.aload_n 0, 1) := by decide +kernel
theorem dX8_orders_8 : decode cX8_orders 8 = .ok (.iconst 0, 1) := by decide +kernel
theorem dX8_orders_9 : decode cX8_orders 9 = .ok (.invokevirtual 114, 3) := by decide +kernel
theorem dX8_orders_12 : decode cX8_orders 12 = .ok (.iconst (-1), 1) := by decide +kernel
theorem dX8_orders_13 : decode cX8_orders 13 = .ok (.if_icmp .eq 5, 3) := by decide +kernel
theorem dX8_orders_16 : decode cX8_orders 16 = .ok (.iconst 0, 1) := by decide +kernel
theorem dX8_orders_17 : decode cX8_orders 17 = .ok (.ireturn, 1) := by decide +kernel
theorem dX8_orders_18 : decode cX8_orders 18 = .ok (.iconst 0, 1) := by decide +kernel
theorem dX8_orders_19 : decode cX8_orders 19 = .ok (.istore_n 1, 1) := by decide +kernel
theorem dX8_orders_20 : decode cX8_orders 20 = .ok (.iload_n 1, 1) := by decide +kernel
theorem dX8_orders_21 : decode cX8_orders 21 = .ok (.sipush 1024, 3) := by decide +kernel
theorem dX8_orders_24 : decode cX8_orders 24 = .ok (.if_icmp .ge 16, 3) := by decide +kernel
theorem dX8_orders_27 : decode cX8_orders 27 = .ok (.aload_n 0, 1) := by decide +kernel
theorem dX8_orders_28 : decode cX8_orders 28 = .ok (.getfield 65, 3) := by decide +kernel
theorem dX8_orders_31 : decode cX8_orders 31 = .ok (.iload_n 1, 1) := by decide +kernel
theorem dX8_orders_32 : decode cX8_orders 32 = .ok (.iconst 0, 1) := by decide +kernel
theorem dX8_orders_33 : decode cX8_orders 33 = .ok (.bastore, 1) := by decide +kernel
theorem dX8_orders_34 : decode cX8_orders 34 = .ok (.iinc 1 1, 3) := by decide +kernel
theorem dX8_orders_37 : decode cX8_orders 37 = .ok (.goto (-17), 3) := by decide +kernel
theorem dX8_orders_40 : decode cX8_orders 40 = .ok (.aload_n 0, 1) := by decide +kernel
theorem dX8_orders_41 : decode cX8_orders 41 = .ok (.iconst 0, 1) := by decide +kernel
theorem dX8_orders_42 : decode cX8_orders 42 = .ok (.iconst 0, 1) := by decide +kernel
theorem dX8_orders_43 : decode cX8_orders 43 = .ok (.invokevirtual 142, 3) := by decide +kernel
theorem dX8_orders_46 : decode cX8_orders 46 = .ok (.ireturn, 1) := by decide +kernel
theorem dX8_order_0 : decode cX8_order 0 = .ok (.aload_n 0, 1) := by decide +kernel
theorem dX8_order_1 : decode cX8_order 1 = .ok (.iconst 0, 1) := by decide +kernel
theorem dX8_order_2 : decode cX8_order 2 = .ok (.putfield 71, 3) := by decide +kernel
theorem dX8_order_5 : decode cX8_order 5 = .ok (.aload_n 0, 1) := by decide +kernel
theorem dX8_order_6 : decode cX8_order 6 = .ok (.invokevirtual 145, 3) := by decide +kernel
theorem dX8_order_9 : decode cX8_order 9 = .ok (.ifCond .eq 24, 3) := by decide +kernel
theorem dX8_order_12 : decode cX8_order 12 = .ok (.iload_n 1, 1) := by decide +kernel
theorem dX8_order_13 : decode cX8_order 13 = .ok (.ifCond .lt 20, 3) := by decide +kernel
theorem dX8_order_16 : decode cX8_order 16 = .ok (.iload_n 1, 1) := by decide +kernel
theorem dX8_order_17 : decode cX8_order 17 = .ok (.aload_n 0, 1) := by decide +kernel
theorem dX8_order_18 : decode cX8_order 18 = .ok (.getfield 139, 3) := by decide +kernel
theorem dX8_order_21 : decode cX8_order 21 = .ok (.if_icmp .ge 12, 3) := by decide +kernel
theorem dX8_order_24 : decode cX8_order 24 = .ok (.aload_n 0, 1) := by decide +kernel
theorem dX8_order_25 : decode cX8_order 25 = .ok (.getfield 68, 3) := by decide +kernel
theorem dX8_order_28 : decode cX8_order 28 = .ok (.iload_n 1, 1) := by decide +kernel
theorem dX8_order_29 : decode cX8_order 29 = .ok (.iaload, 1) := by decide +kernel
theorem dX8_order_30 : decode cX8_order 30 = .ok (.goto 4, 3) := by decide +kernel
theorem dX8_order_33 : decode cX8_order 33 = .ok (.iconst (-1), 1) := by decide +kernel
theorem dX8_order_34 : decode cX8_order 34 = .ok (.ireturn, 1) := by decide +kernel
theorem dX8_next_0 : decode cX8_next 0 = .ok (.aload_n 0, 1) := by decide +kernel
theorem dX8_next_1 : decode cX8_next 1 = .ok (.iconst 0, 1) := by decide +kernel
theorem dX8_next_2 : decode cX8_next 2 = .ok (.putfield 78, 3) := by decide +kernel
theorem dX8_next_5 : decode cX8_next 5 = .ok (.iconst 0, 1) := by decide +kernel
theorem dX8_next_6 : decode cX8_next 6 = .ok (.istore_n 1, 1) := by decide +kernel
theorem dX8_next_7 : decode cX8_next 7 = .ok (.iload_n 1, 1) := by decide +kernel
theorem dX8_next_8 : decode cX8_next 8 = .ok (.aload_n 0, 1) := by decide +kernel
theorem dX8_next_9 : decode cX8_next 9 = .ok (.getfield 75, 3) := by decide +kernel
theorem dX8_next_12 : decode cX8_next 12 = .ok (.if_icmp .ge 65, 3) := by decide +kernel
theorem dX8_next_15 : decode cX8_next 15 = .ok (.aload_n 0, 1) := by decide +kernel
theorem dX8_next_16 : decode cX8_next 16 = .ok (.getfield 19, 3) := by decide +kernel
theorem dX8_next_19 : decode cX8_next 19 = .ok (.iload_n 1, 1) := by decide +kernel
theorem dX8_next_20 : decode cX8_next 20 = .ok (.iaload, 1) := by decide +kernel
theorem dX8_next_21 : decode cX8_next 21 = .ok (.iconst (-1), 1) := by decide +kernel
theorem dX8_next_22 : decode cX8_next 22 = .ok (.if_icmp .eq 42, 3) := by decide +kernel
theorem dX8_next_25 : decode cX8_next 25 = .ok (.aload_n 0, 1) := by decide +kernel
theorem dX8_next_26 : decode cX8_next 26 = .ok (.getfield 19, 3) := by decide +kernel
theorem dX8_next_29 : decode cX8_next 29 = .ok (.iload_n 1, 1) := by decide +kernel
theorem dX8_next_30 : decode cX8_next 30 = .ok (.iaload, 1) := by decide +kernel
theorem dX8_next_31 : decode cX8_next 31 = .ok (.aload_n 0, 1) := by decide +kernel
theorem dX8_next_32 : decode cX8_next 32 = .ok (.getfield 9, 3) := by decide +kernel
theorem dX8_next_35 : decode cX8_next 35 = .ok (.iload_n 1, 1) := by decide +kernel
theorem dX8_next_36 : decode cX8_next 36 = .ok (.iaload, 1) := by decide +kernel
theorem dX8_next_37 : decode cX8_next 37 = .ok (.if_icmp .eq 27, 3) := by decide +kernel
theorem dX8_next_40 : decode cX8_next 40 = .ok (.aload_n 0, 1) := by decide +kernel
theorem dX8_next_41 : decode cX8_next 41 = .ok (.getfield 13, 3) := by decide +kernel
theorem dX8_next_44 : decode cX8_next 44 = .ok (.iload_n 1, 1) := by decide +kernel
theorem dX8_next_45 : decode cX8_next 45 = .ok (.aload_n 0, 1) := by decide +kernel
theorem dX8_next_46 : decode cX8_next 46 = .ok (.getfield 19, 3) := by decide +kernel
theorem dX8_next_49 : decode cX8_next 49 = .ok (.iload_n 1, 1) := by decide +kernel
theorem dX8_next_50 : decode cX8_next 50 = .ok (.iaload, 1) := by decide +kernel
theorem dX8_next_51 : decode cX8_next 51 = .ok (.iastore, 1) := by decide +kernel
theorem dX8_next_52 : decode cX8_next 52 = .ok (.aload_n 0, 1) := by decide +kernel
theorem dX8_next_53 : decode cX8_next 53 = .ok (.getfield 16, 3) := by decide +kernel
theorem dX8_next_56 : decode cX8_next 56 = .ok (.iload_n 1, 1) := by decide +kernel
theorem dX8_next_57 : decode cX8_next 57 = .ok (.aload_n 0, 1) := by decide +kernel
theorem dX8_next_58 : decode cX8_next 58 = .ok (.getfield 22, 3) := by decide +kernel
theorem dX8_next_61 : decode cX8_next 61 = .ok (.iload_n 1, 1) := by decide +kernel
theorem dX8_next_62 : decode cX8_next 62 = .ok (.iaload, 1) := by decide +kernel
theorem dX8_next_63 : decode cX8_next 63 = .ok (.iastore, 1) := by decide +kernel
theorem dX8_next_64 : decode cX8_next 64 = .ok (.aload_n 0, 1) := by decide +kernel
theorem dX8_next_65 : decode cX8_next 65 = .ok (.getfield 19, 3) := by decide +kernel
theorem dX8_next_68 : decode cX8_next 68 = .ok (.iload_n 1, 1) := by decide +kernel
theorem dX8_next_69 : decode cX8_next 69 = .ok (.iconst (-1), 1) := by decide +kernel
theorem dX8_next_70 : decode cX8_next 70 = .ok (.iastore, 1) := by decide +kernel
theorem dX8_next_71 : decode cX8_next 71 = .ok (.iinc 1 1, 3) := by decide +kernel
theorem dX8_next_74 : decode cX8_next 74 = .ok (.goto (-67), 3) := by decide +kernel
theorem dX8_next_77 : decode cX8_next 77 = .ok (.return_, 1) := by decide +kernel
theorem dX8_send_0 : decode cX8_send 0 = .ok (.aload_n 0, 1) := by decide +kernel
theorem dX8_send_1 : decode cX8_send 1 = .ok (.iconst 0, 1) := by decide +kernel
theorem dX8_send_2 : decode cX8_send 2 = .ok (.putfield 71, 3) := by decide +kernel
theorem dX8_send_5 : decode cX8_send 5 = .ok (.aload_n 0, 1) := by decide +kernel
theorem dX8_send_6 : decode cX8_send 6 = .ok (.getfield 149, 3) := by decide +kernel
theorem dX8_send_9 : decode cX8_send 9 = .ok (.bipush 60, 2) := by decide +kernel
theorem dX8_send_11 : decode cX8_send 11 = .ok (.if_icmp .eq 10, 3) := by decide +kernel
theorem dX8_send_14 : decode cX8_send 14 = .ok (.aload_n 0, 1) := by decide +kernel
theorem dX8_send_15 : decode cX8_send 15 = .ok (.invokevirtual 145, 3) := by decide +kernel
theorem dX8_send_18 : decode cX8_send 18 = .ok (.ifCond .ne 5, 3) := by decide +kernel
theorem dX8_send_21 : decode cX8_send 21 = .ok (.iconst (-1), 1) := by decide +kernel
theorem dX8_send_22 : decode cX8_send 22 = .ok (.ireturn, 1) := by decide +kernel
theorem dX8_send_23 : decode cX8_send 23 = .ok (.aload_n 0, 1) := by decide +kernel
theorem dX8_send_24 : decode cX8_send 24 = .ok (.getfield 49, 3) := by decide +kernel
theorem dX8_send_27 : decode cX8_send 27 = .ok (.aload_n 0, 1) := by decide +kernel
theorem dX8_send_28 : decode cX8_send 28 = .ok (.getfield 149, 3) := by decide +kernel
theorem dX8_send_31 : decode cX8_send 31 = .ok (.aload_n 0, 1) := by decide +kernel
theorem dX8_send_32 : decode cX8_send 32 = .ok (.getfield 75, 3) := by decide +kernel
theorem dX8_send_35 : decode cX8_send 35 = .ok (.iastore, 1) := by decide +kernel
theorem dX8_send_36 : decode cX8_send 36 = .ok (.aload_n 0, 1) := by decide +kernel
theorem dX8_send_37 : decode cX8_send 37 = .ok (.getfield 52, 3) := by decide +kernel
theorem dX8_send_40 : decode cX8_send 40 = .ok (.aload_n 0, 1) := by decide +kernel
theorem dX8_send_41 : decode cX8_send 41 = .ok (.getfield 149, 3) := by decide +kernel
theorem dX8_send_44 : decode cX8_send 44 = .ok (.aload_n 0, 1) := by decide +kernel
theorem dX8_send_45 : decode cX8_send 45 = .ok (.getfield 90, 3) := by decide +kernel
theorem dX8_send_48 : decode cX8_send 48 = .ok (.iastore, 1) := by decide +kernel
theorem dX8_send_49 : decode cX8_send 49 = .ok (.aload_n 0, 1) := by decide +kernel
theorem dX8_send_50 : decode cX8_send 50 = .ok (.getfield 61, 3) := by decide +kernel
theorem dX8_send_53 : decode cX8_send 53 = .ok (.aload_n 0, 1) := by decide +kernel
theorem dX8_send_54 : decode cX8_send 54 = .ok (.getfield 149, 3) := by decide +kernel
theorem dX8_send_57 : decode cX8_send 57 = .ok (.iconst 0, 1) := by decide +kernel
theorem dX8_send_58 : decode cX8_send 58 = .ok (.bastore, 1) := by decide +kernel
theorem dX8_send_59 : decode cX8_send 59 = .ok (.iconst 0, 1) := by decide +kernel
theorem dX8_send_60 : decode cX8_send 60 = .ok (.istore_n 1, 1) := by decide +kernel
theorem dX8_send_61 : decode cX8_send 61 = .ok (.iload_n 1, 1) := by decide +kernel
theorem dX8_send_62 : decode cX8_send 62 = .ok (.aload_n 0, 1) := by decide +kernel
theorem dX8_send_63 : decode cX8_send 63 = .ok (.getfield 75, 3) := by decide +kernel
theorem dX8_send_66 : decode cX8_send 66 = .ok (.if_icmp .ge 79, 3) := by decide +kernel
theorem dX8_send_69 : decode cX8_send 69 = .ok (.aload_n 0, 1) := by decide +kernel
theorem dX8_send_70 : decode cX8_send 70 = .ok (.getfield 55, 3) := by decide +kernel
theorem dX8_send_73 : decode cX8_send 73 = .ok (.bipush 10, 2) := by decide +kernel
theorem dX8_send_75 : decode cX8_send 75 = .ok (.aload_n 0, 1) := by decide +kernel
theorem dX8_send_76 : decode cX8_send 76 = .ok (.getfield 149, 3) := by decide +kernel
theorem dX8_send_79 : decode cX8_send 79 = .ok (.imul, 1) := by decide +kernel
theorem dX8_send_80 : decode cX8_send 80 = .ok (.iload_n 1, 1) := by decide +kernel
theorem dX8_send_81 : decode cX8_send 81 = .ok (.iadd, 1) := by decide +kernel
theorem dX8_send_82 : decode cX8_send 82 = .ok (.aload_n 0, 1) := by decide +kernel
theorem dX8_send_83 : decode cX8_send 83 = .ok (.getfield 9, 3) := by decide +kernel
theorem dX8_send_86 : decode cX8_send 86 = .ok (.iload_n 1, 1) := by decide +kernel
theorem dX8_send_87 : decode cX8_send 87 = .ok (.iaload, 1) := by decide +kernel
theorem dX8_send_88 : decode cX8_send 88 = .ok (.iastore, 1) := by decide +kernel
theorem dX8_send_89 : decode cX8_send 89 = .ok (.aload_n 0, 1) := by decide +kernel
theorem dX8_send_90 : decode cX8_send 90 = .ok (.getfield 90, 3) := by decide +kernel
theorem dX8_send_93 : decode cX8_send 93 = .ok (.iload_n 1, 1) := by decide +kernel
theorem dX8_send_94 : decode cX8_send 94 = .ok (.invokestatic 93, 3) := by decide +kernel
theorem dX8_send_97 : decode cX8_send 97 = .ok (.ifCond .eq 22, 3) := by decide +kernel
theorem dX8_send_100 : decode cX8_send 100 = .ok (.aload_n 0, 1) := by decide +kernel
theorem dX8_send_101 : decode cX8_send 101 = .ok (.getfield 9, 3) := by decide +kernel
theorem dX8_send_104 : decode cX8_send 104 = .ok (.iload_n 1, 1) := by decide +kernel
theorem dX8_send_105 : decode cX8_send 105 = .ok (.aload_n 0, 1) := by decide +kernel
theorem dX8_send_106 : decode cX8_send 106 = .ok (.getfield 13, 3) := by decide +kernel
theorem dX8_send_109 : decode cX8_send 109 = .ok (.iload_n 1, 1) := by decide +kernel
theorem dX8_send_110 : decode cX8_send 110 = .ok (.iaload, 1) := by decide +kernel
theorem dX8_send_111 : decode cX8_send 111 = .ok (.iastore, 1) := by decide +kernel
theorem dX8_send_112 : decode cX8_send 112 = .ok (.aload_n 0, 1) := by decide +kernel
theorem dX8_send_113 : decode cX8_send 113 = .ok (.getfield 13, 3) := by decide +kernel
theorem dX8_send_116 : decode cX8_send 116 = .ok (.iload_n 1, 1) := by decide +kernel
theorem dX8_send_117 : decode cX8_send 117 = .ok (.iconst (-1), 1) := by decide +kernel
theorem dX8_send_118 : decode cX8_send 118 = .ok (.iastore, 1) := by decide +kernel
theorem dX8_send_119 : decode cX8_send 119 = .ok (.aload_n 0, 1) := by decide +kernel
theorem dX8_send_120 : decode cX8_send 120 = .ok (.getfield 58, 3) := by decide +kernel
theorem dX8_send_123 : decode cX8_send 123 = .ok (.bipush 10, 2) := by decide +kernel
theorem dX8_send_125 : decode cX8_send 125 = .ok (.aload_n 0, 1) := by decide +kernel
theorem dX8_send_126 : decode cX8_send 126 = .ok (.getfield 149, 3) := by decide +kernel
theorem dX8_send_129 : decode cX8_send 129 = .ok (.imul, 1) := by decide +kernel
theorem dX8_send_130 : decode cX8_send 130 = .ok (.iload_n 1, 1) := by decide +kernel
theorem dX8_send_131 : decode cX8_send 131 = .ok (.iadd, 1) := by decide +kernel
theorem dX8_send_132 : decode cX8_send 132 = .ok (.aload_n 0, 1) := by decide +kernel
theorem dX8_send_133 : decode cX8_send 133 = .ok (.getfield 9, 3) := by decide +kernel
theorem dX8_send_136 : decode cX8_send 136 = .ok (.iload_n 1, 1) := by decide +kernel
theorem dX8_send_137 : decode cX8_send 137 = .ok (.iaload, 1) := by decide +kernel
theorem dX8_send_138 : decode cX8_send 138 = .ok (.iastore, 1) := by decide +kernel
theorem dX8_send_139 : decode cX8_send 139 = .ok (.iinc 1 1, 3) := by decide +kernel
theorem dX8_send_142 : decode cX8_send 142 = .ok (.goto (-81), 3) := by decide +kernel
theorem dX8_send_145 : decode cX8_send 145 = .ok (.aload_n 0, 1) := by decide +kernel
theorem dX8_send_146 : decode cX8_send 146 = .ok (.dup, 1) := by decide +kernel
theorem dX8_send_147 : decode cX8_send 147 = .ok (.getfield 149, 3) := by decide +kernel
theorem dX8_send_150 : decode cX8_send 150 = .ok (.iconst 1, 1) := by decide +kernel
theorem dX8_send_151 : decode cX8_send 151 = .ok (.iadd, 1) := by decide +kernel
theorem dX8_send_152 : decode cX8_send 152 = .ok (.putfield 149, 3) := by decide +kernel
theorem dX8_send_155 : decode cX8_send 155 = .ok (.aload_n 0, 1) := by decide +kernel
theorem dX8_send_156 : decode cX8_send 156 = .ok (.invokevirtual 152, 3) := by decide +kernel
theorem dX8_send_159 : decode cX8_send 159 = .ok (.aload_n 0, 1) := by decide +kernel
theorem dX8_send_160 : decode cX8_send 160 = .ok (.getfield 149, 3) := by decide +kernel
theorem dX8_send_163 : decode cX8_send 163 = .ok (.iconst 1, 1) := by decide +kernel
theorem dX8_send_164 : decode cX8_send 164 = .ok (.isub, 1) := by decide +kernel
theorem dX8_send_165 : decode cX8_send 165 = .ok (.ireturn, 1) := by decide +kernel
theorem dX8_giveUp_0 : decode cX8_giveUp 0 = .ok (.aload_n 0, 1) := by decide +kernel
theorem dX8_giveUp_1 : decode cX8_giveUp 1 = .ok (.iconst 0, 1) := by decide +kernel
theorem dX8_giveUp_2 : decode cX8_giveUp 2 = .ok (.putfield 71, 3) := by decide +kernel
theorem dX8_giveUp_5 : decode cX8_giveUp 5 = .ok (.aload_n 0, 1) := by decide +kernel
theorem dX8_giveUp_6 : decode cX8_giveUp 6 = .ok (.getfield 78, 3) := by decide +kernel
theorem dX8_giveUp_9 : decode cX8_giveUp 9 = .ok (.ifCond .ne 5, 3) := by decide +kernel
theorem dX8_giveUp_12 : decode cX8_giveUp 12 = .ok (.iconst 0, 1) := by decide +kernel
theorem dX8_giveUp_13 : decode cX8_giveUp 13 = .ok (.ireturn, 1) := by decide +kernel
theorem dX8_giveUp_14 : decode cX8_giveUp 14 = .ok (.aload_n 0, 1) := by decide +kernel
theorem dX8_giveUp_15 : decode cX8_giveUp 15 = .ok (.invokevirtual 152, 3) := by decide +kernel
theorem dX8_giveUp_18 : decode cX8_giveUp 18 = .ok (.iconst 1, 1) := by decide +kernel
theorem dX8_giveUp_19 : decode cX8_giveUp 19 = .ok (.ireturn, 1) := by decide +kernel
theorem dX8_way_0 : decode cX8_way 0 = .ok (.iconst 0, 1) := by decide +kernel
theorem dX8_way_1 : decode cX8_way 1 = .ok (.istore_n 3, 1) := by decide +kernel
theorem dX8_way_2 : decode cX8_way 2 = .ok (.iload_n 3, 1) := by decide +kernel
theorem dX8_way_3 : decode cX8_way 3 = .ok (.aload_n 0, 1) := by decide +kernel
theorem dX8_way_4 : decode cX8_way 4 = .ok (.getfield 155, 3) := by decide +kernel
theorem dX8_way_7 : decode cX8_way 7 = .ok (.if_icmp .ge 31, 3) := by decide +kernel
theorem dX8_way_10 : decode cX8_way 10 = .ok (.aload_n 0, 1) := by decide +kernel
theorem dX8_way_11 : decode cX8_way 11 = .ok (.getfield 43, 3) := by decide +kernel
theorem dX8_way_14 : decode cX8_way 14 = .ok (.iload_n 3, 1) := by decide +kernel
theorem dX8_way_15 : decode cX8_way 15 = .ok (.iaload, 1) := by decide +kernel
theorem dX8_way_16 : decode cX8_way 16 = .ok (.iload_n 1, 1) := by decide +kernel
theorem dX8_way_17 : decode cX8_way 17 = .ok (.if_icmp .ne 15, 3) := by decide +kernel
theorem dX8_way_20 : decode cX8_way 20 = .ok (.aload_n 0, 1) := by decide +kernel
theorem dX8_way_21 : decode cX8_way 21 = .ok (.getfield 46, 3) := by decide +kernel
theorem dX8_way_24 : decode cX8_way 24 = .ok (.iload_n 3, 1) := by decide +kernel
theorem dX8_way_25 : decode cX8_way 25 = .ok (.iaload, 1) := by decide +kernel
theorem dX8_way_26 : decode cX8_way 26 = .ok (.iload_n 2, 1) := by decide +kernel
theorem dX8_way_27 : decode cX8_way 27 = .ok (.if_icmp .ne 5, 3) := by decide +kernel
theorem dX8_way_30 : decode cX8_way 30 = .ok (.iload_n 3, 1) := by decide +kernel
theorem dX8_way_31 : decode cX8_way 31 = .ok (.ireturn, 1) := by decide +kernel
theorem dX8_way_32 : decode cX8_way 32 = .ok (.iinc 3 1, 3) := by decide +kernel
theorem dX8_way_35 : decode cX8_way 35 = .ok (.goto (-33), 3) := by decide +kernel
theorem dX8_way_38 : decode cX8_way 38 = .ok (.iconst (-1), 1) := by decide +kernel
theorem dX8_way_39 : decode cX8_way 39 = .ok (.ireturn, 1) := by decide +kernel
theorem dX8_oneWay_0 : decode cX8_oneWay 0 = .ok (.aload_n 0, 1) := by decide +kernel
theorem dX8_oneWay_1 : decode cX8_oneWay 1 = .ok (.iconst 0, 1) := by decide +kernel
theorem dX8_oneWay_2 : decode cX8_oneWay 2 = .ok (.putfield 71, 3) := by decide +kernel
theorem dX8_oneWay_5 : decode cX8_oneWay 5 = .ok (.aload_n 0, 1) := by decide +kernel
theorem dX8_oneWay_6 : decode cX8_oneWay 6 = .ok (.iload_n 1, 1) := by decide +kernel
theorem dX8_oneWay_7 : decode cX8_oneWay 7 = .ok (.invokevirtual 86, 3) := by decide +kernel
theorem dX8_oneWay_10 : decode cX8_oneWay 10 = .ok (.ifCond .eq 14, 3) := by decide +kernel
theorem dX8_oneWay_13 : decode cX8_oneWay 13 = .ok (.iload_n 2, 1) := by decide +kernel
theorem dX8_oneWay_14 : decode cX8_oneWay 14 = .ok (.iconst 0, 1) := by decide +kernel
theorem dX8_oneWay_15 : decode cX8_oneWay 15 = .ok (.sipush 1000, 3) := by decide +kernel
theorem dX8_oneWay_18 : decode cX8_oneWay 18 = .ok (.invokestatic 82, 3) := by decide +kernel
theorem dX8_oneWay_21 : decode cX8_oneWay 21 = .ok (.ifCond .ne 5, 3) := by decide +kernel
theorem dX8_oneWay_24 : decode cX8_oneWay 24 = .ok (.iconst 0, 1) := by decide +kernel
theorem dX8_oneWay_25 : decode cX8_oneWay 25 = .ok (.ireturn, 1) := by decide +kernel
theorem dX8_oneWay_26 : decode cX8_oneWay 26 = .ok (.aload_n 0, 1) := by decide +kernel
theorem dX8_oneWay_27 : decode cX8_oneWay 27 = .ok (.iload_n 1, 1) := by decide +kernel
theorem dX8_oneWay_28 : decode cX8_oneWay 28 = .ok (.iload_n 2, 1) := by decide +kernel
theorem dX8_oneWay_29 : decode cX8_oneWay 29 = .ok (.invokevirtual 158, 3) := by decide +kernel
theorem dX8_oneWay_32 : decode cX8_oneWay 32 = .ok (.istore 4, 2) := by decide +kernel
theorem dX8_oneWay_34 : decode cX8_oneWay 34 = .ok (.iload 4, 2) := by decide +kernel
theorem dX8_oneWay_36 : decode cX8_oneWay 36 = .ok (.iconst (-1), 1) := by decide +kernel
theorem dX8_oneWay_37 : decode cX8_oneWay 37 = .ok (.if_icmp .eq 7, 3) := by decide +kernel
theorem dX8_oneWay_40 : decode cX8_oneWay 40 = .ok (.iconst 1, 1) := by decide +kernel
theorem dX8_oneWay_41 : decode cX8_oneWay 41 = .ok (.goto 4, 3) := by decide +kernel
theorem dX8_oneWay_44 : decode cX8_oneWay 44 = .ok (.iconst 0, 1) := by decide +kernel
theorem dX8_oneWay_45 : decode cX8_oneWay 45 = .ok (.iload_n 3, 1) := by decide +kernel
theorem dX8_oneWay_46 : decode cX8_oneWay 46 = .ok (.if_icmp .eq 16, 3) := by decide +kernel
theorem dX8_oneWay_49 : decode cX8_oneWay 49 = .ok (.iload_n 3, 1) := by decide +kernel
theorem dX8_oneWay_50 : decode cX8_oneWay 50 = .ok (.ifCond .eq 14, 3) := by decide +kernel
theorem dX8_oneWay_53 : decode cX8_oneWay 53 = .ok (.aload_n 0, 1) := by decide +kernel
theorem dX8_oneWay_54 : decode cX8_oneWay 54 = .ok (.getfield 155, 3) := by decide +kernel
theorem dX8_oneWay_57 : decode cX8_oneWay 57 = .ok (.bipush 60, 2) := by decide +kernel
theorem dX8_oneWay_59 : decode cX8_oneWay 59 = .ok (.if_icmp .ne 5, 3) := by decide +kernel
theorem dX8_oneWay_62 : decode cX8_oneWay 62 = .ok (.iconst 0, 1) := by decide +kernel
theorem dX8_oneWay_63 : decode cX8_oneWay 63 = .ok (.ireturn, 1) := by decide +kernel
theorem dX8_oneWay_64 : decode cX8_oneWay 64 = .ok (.iload_n 3, 1) := by decide +kernel
theorem dX8_oneWay_65 : decode cX8_oneWay 65 = .ok (.ifCond .eq 35, 3) := by decide +kernel
theorem dX8_oneWay_68 : decode cX8_oneWay 68 = .ok (.aload_n 0, 1) := by decide +kernel
theorem dX8_oneWay_69 : decode cX8_oneWay 69 = .ok (.getfield 43, 3) := by decide +kernel
theorem dX8_oneWay_72 : decode cX8_oneWay 72 = .ok (.aload_n 0, 1) := by decide +kernel
theorem dX8_oneWay_73 : decode cX8_oneWay 73 = .ok (.getfield 155, 3) := by decide +kernel
theorem dX8_oneWay_76 : decode cX8_oneWay 76 = .ok (.iload_n 1, 1) := by decide +kernel
theorem dX8_oneWay_77 : decode cX8_oneWay 77 = .ok (.iastore, 1) := by decide +kernel
theorem dX8_oneWay_78 : decode cX8_oneWay 78 = .ok (.aload_n 0, 1) := by decide +kernel
theorem dX8_oneWay_79 : decode cX8_oneWay 79 = .ok (.getfield 46, 3) := by decide +kernel
theorem dX8_oneWay_82 : decode cX8_oneWay 82 = .ok (.aload_n 0, 1) := by decide +kernel
theorem dX8_oneWay_83 : decode cX8_oneWay 83 = .ok (.getfield 155, 3) := by decide +kernel
theorem dX8_oneWay_86 : decode cX8_oneWay 86 = .ok (.iload_n 2, 1) := by decide +kernel
theorem dX8_oneWay_87 : decode cX8_oneWay 87 = .ok (.iastore, 1) := by decide +kernel
theorem dX8_oneWay_88 : decode cX8_oneWay 88 = .ok (.aload_n 0, 1) := by decide +kernel
theorem dX8_oneWay_89 : decode cX8_oneWay 89 = .ok (.dup, 1) := by decide +kernel
theorem dX8_oneWay_90 : decode cX8_oneWay 90 = .ok (.getfield 155, 3) := by decide +kernel
theorem dX8_oneWay_93 : decode cX8_oneWay 93 = .ok (.iconst 1, 1) := by decide +kernel
theorem dX8_oneWay_94 : decode cX8_oneWay 94 = .ok (.iadd, 1) := by decide +kernel
theorem dX8_oneWay_95 : decode cX8_oneWay 95 = .ok (.putfield 155, 3) := by decide +kernel
theorem dX8_oneWay_98 : decode cX8_oneWay 98 = .ok (.iconst 1, 1) := by decide +kernel
theorem dX8_oneWay_99 : decode cX8_oneWay 99 = .ok (.ireturn, 1) := by decide +kernel
theorem dX8_oneWay_100 : decode cX8_oneWay 100 = .ok (.aload_n 0, 1) := by decide +kernel
theorem dX8_oneWay_101 : decode cX8_oneWay 101 = .ok (.dup, 1) := by decide +kernel
theorem dX8_oneWay_102 : decode cX8_oneWay 102 = .ok (.getfield 155, 3) := by decide +kernel
theorem dX8_oneWay_105 : decode cX8_oneWay 105 = .ok (.iconst 1, 1) := by decide +kernel
theorem dX8_oneWay_106 : decode cX8_oneWay 106 = .ok (.isub, 1) := by decide +kernel
theorem dX8_oneWay_107 : decode cX8_oneWay 107 = .ok (.putfield 155, 3) := by decide +kernel
theorem dX8_oneWay_110 : decode cX8_oneWay 110 = .ok (.aload_n 0, 1) := by decide +kernel
theorem dX8_oneWay_111 : decode cX8_oneWay 111 = .ok (.getfield 43, 3) := by decide +kernel
theorem dX8_oneWay_114 : decode cX8_oneWay 114 = .ok (.iload 4, 2) := by decide +kernel
theorem dX8_oneWay_116 : decode cX8_oneWay 116 = .ok (.aload_n 0, 1) := by decide +kernel
theorem dX8_oneWay_117 : decode cX8_oneWay 117 = .ok (.getfield 43, 3) := by decide +kernel
theorem dX8_oneWay_120 : decode cX8_oneWay 120 = .ok (.aload_n 0, 1) := by decide +kernel
theorem dX8_oneWay_121 : decode cX8_oneWay 121 = .ok (.getfield 155, 3) := by decide +kernel
theorem dX8_oneWay_124 : decode cX8_oneWay 124 = .ok (.iaload, 1) := by decide +kernel
theorem dX8_oneWay_125 : decode cX8_oneWay 125 = .ok (.iastore, 1) := by decide +kernel
theorem dX8_oneWay_126 : decode cX8_oneWay 126 = .ok (.aload_n 0, 1) := by decide +kernel
theorem dX8_oneWay_127 : decode cX8_oneWay 127 = .ok (.getfield 46, 3) := by decide +kernel
theorem dX8_oneWay_130 : decode cX8_oneWay 130 = .ok (.iload 4, 2) := by decide +kernel
theorem dX8_oneWay_132 : decode cX8_oneWay 132 = .ok (.aload_n 0, 1) := by decide +kernel
theorem dX8_oneWay_133 : decode cX8_oneWay 133 = .ok (.getfield 46, 3) := by decide +kernel
theorem dX8_oneWay_136 : decode cX8_oneWay 136 = .ok (.aload_n 0, 1) := by decide +kernel
theorem dX8_oneWay_137 : decode cX8_oneWay 137 = .ok (.getfield 155, 3) := by decide +kernel
theorem dX8_oneWay_140 : decode cX8_oneWay 140 = .ok (.iaload, 1) := by decide +kernel
theorem dX8_oneWay_141 : decode cX8_oneWay 141 = .ok (.iastore, 1) := by decide +kernel
theorem dX8_oneWay_142 : decode cX8_oneWay 142 = .ok (.iconst 1, 1) := by decide +kernel
theorem dX8_oneWay_143 : decode cX8_oneWay 143 = .ok (.ireturn, 1) := by decide +kernel
theorem dX8_back_0 : decode cX8_back 0 = .ok (.aload_n 0, 1) := by decide +kernel
theorem dX8_back_1 : decode cX8_back 1 = .ok (.iconst 0, 1) := by decide +kernel
theorem dX8_back_2 : decode cX8_back 2 = .ok (.putfield 71, 3) := by decide +kernel
theorem dX8_back_5 : decode cX8_back 5 = .ok (.aload_n 0, 1) := by decide +kernel
theorem dX8_back_6 : decode cX8_back 6 = .ok (.getfield 149, 3) := by decide +kernel
theorem dX8_back_9 : decode cX8_back 9 = .ok (.iconst 1, 1) := by decide +kernel
theorem dX8_back_10 : decode cX8_back 10 = .ok (.isub, 1) := by decide +kernel
theorem dX8_back_11 : decode cX8_back 11 = .ok (.istore_n 1, 1) := by decide +kernel
theorem dX8_back_12 : decode cX8_back 12 = .ok (.iload_n 1, 1) := by decide +kernel
theorem dX8_back_13 : decode cX8_back 13 = .ok (.ifCond .lt 18, 3) := by decide +kernel
theorem dX8_back_16 : decode cX8_back 16 = .ok (.aload_n 0, 1) := by decide +kernel
theorem dX8_back_17 : decode cX8_back 17 = .ok (.getfield 61, 3) := by decide +kernel
theorem dX8_back_20 : decode cX8_back 20 = .ok (.iload_n 1, 1) := by decide +kernel
theorem dX8_back_21 : decode cX8_back 21 = .ok (.baload, 1) := by decide +kernel
theorem dX8_back_22 : decode cX8_back 22 = .ok (.ifCond .eq 9, 3) := by decide +kernel
theorem dX8_back_25 : decode cX8_back 25 = .ok (.iinc 1 (-1), 3) := by decide +kernel
theorem dX8_back_28 : decode cX8_back 28 = .ok (.goto (-16), 3) := by decide +kernel
theorem dX8_back_31 : decode cX8_back 31 = .ok (.aload_n 0, 1) := by decide +kernel
theorem dX8_back_32 : decode cX8_back 32 = .ok (.getfield 78, 3) := by decide +kernel
theorem dX8_back_35 : decode cX8_back 35 = .ok (.ifCond .ne 7, 3) := by decide +kernel
theorem dX8_back_38 : decode cX8_back 38 = .ok (.iload_n 1, 1) := by decide +kernel
theorem dX8_back_39 : decode cX8_back 39 = .ok (.ifCond .ge 5, 3) := by decide +kernel
theorem dX8_back_42 : decode cX8_back 42 = .ok (.iconst (-1), 1) := by decide +kernel
theorem dX8_back_43 : decode cX8_back 43 = .ok (.ireturn, 1) := by decide +kernel
theorem dX8_back_44 : decode cX8_back 44 = .ok (.iconst 0, 1) := by decide +kernel
theorem dX8_back_45 : decode cX8_back 45 = .ok (.istore_n 2, 1) := by decide +kernel
theorem dX8_back_46 : decode cX8_back 46 = .ok (.iload_n 2, 1) := by decide +kernel
theorem dX8_back_47 : decode cX8_back 47 = .ok (.aload_n 0, 1) := by decide +kernel
theorem dX8_back_48 : decode cX8_back 48 = .ok (.getfield 75, 3) := by decide +kernel
theorem dX8_back_51 : decode cX8_back 51 = .ok (.if_icmp .ge 39, 3) := by decide +kernel
theorem dX8_back_54 : decode cX8_back 54 = .ok (.aload_n 0, 1) := by decide +kernel
theorem dX8_back_55 : decode cX8_back 55 = .ok (.getfield 52, 3) := by decide +kernel
theorem dX8_back_58 : decode cX8_back 58 = .ok (.iload_n 1, 1) := by decide +kernel
theorem dX8_back_59 : decode cX8_back 59 = .ok (.iaload, 1) := by decide +kernel
theorem dX8_back_60 : decode cX8_back 60 = .ok (.iload_n 2, 1) := by decide +kernel
theorem dX8_back_61 : decode cX8_back 61 = .ok (.invokestatic 93, 3) := by decide +kernel
theorem dX8_back_64 : decode cX8_back 64 = .ok (.ifCond .eq 20, 3) := by decide +kernel
theorem dX8_back_67 : decode cX8_back 67 = .ok (.aload_n 0, 1) := by decide +kernel
theorem dX8_back_68 : decode cX8_back 68 = .ok (.iload_n 2, 1) := by decide +kernel
theorem dX8_back_69 : decode cX8_back 69 = .ok (.aload_n 0, 1) := by decide +kernel
theorem dX8_back_70 : decode cX8_back 70 = .ok (.getfield 9, 3) := by decide +kernel
theorem dX8_back_73 : decode cX8_back 73 = .ok (.iload_n 2, 1) := by decide +kernel
theorem dX8_back_74 : decode cX8_back 74 = .ok (.iaload, 1) := by decide +kernel
theorem dX8_back_75 : decode cX8_back 75 = .ok (.invokevirtual 158, 3) := by decide +kernel
theorem dX8_back_78 : decode cX8_back 78 = .ok (.iconst (-1), 1) := by decide +kernel
theorem dX8_back_79 : decode cX8_back 79 = .ok (.if_icmp .eq 5, 3) := by decide +kernel
theorem dX8_back_82 : decode cX8_back 82 = .ok (.iconst (-1), 1) := by decide +kernel
theorem dX8_back_83 : decode cX8_back 83 = .ok (.ireturn, 1) := by decide +kernel
theorem dX8_back_84 : decode cX8_back 84 = .ok (.iinc 2 1, 3) := by decide +kernel
theorem dX8_back_87 : decode cX8_back 87 = .ok (.goto (-41), 3) := by decide +kernel
theorem dX8_back_90 : decode cX8_back 90 = .ok (.aload_n 0, 1) := by decide +kernel
theorem dX8_back_91 : decode cX8_back 91 = .ok (.getfield 9, 3) := by decide +kernel
theorem dX8_back_94 : decode cX8_back 94 = .ok (.invokevirtual 161, 3) := by decide +kernel
theorem dX8_back_97 : decode cX8_back 97 = .ok (.checkcast 162, 3) := by decide +kernel
theorem dX8_back_100 : decode cX8_back 100 = .ok (.astore_n 2, 1) := by decide +kernel
theorem dX8_back_101 : decode cX8_back 101 = .ok (.iconst 0, 1) := by decide +kernel
theorem dX8_back_102 : decode cX8_back 102 = .ok (.istore_n 3, 1) := by decide +kernel
theorem dX8_back_103 : decode cX8_back 103 = .ok (.iload_n 3, 1) := by decide +kernel
theorem dX8_back_104 : decode cX8_back 104 = .ok (.aload_n 0, 1) := by decide +kernel
theorem dX8_back_105 : decode cX8_back 105 = .ok (.getfield 75, 3) := by decide +kernel
theorem dX8_back_108 : decode cX8_back 108 = .ok (.if_icmp .ge 39, 3) := by decide +kernel
theorem dX8_back_111 : decode cX8_back 111 = .ok (.aload_n 0, 1) := by decide +kernel
theorem dX8_back_112 : decode cX8_back 112 = .ok (.getfield 52, 3) := by decide +kernel
theorem dX8_back_115 : decode cX8_back 115 = .ok (.iload_n 1, 1) := by decide +kernel
theorem dX8_back_116 : decode cX8_back 116 = .ok (.iaload, 1) := by decide +kernel
theorem dX8_back_117 : decode cX8_back 117 = .ok (.iload_n 3, 1) := by decide +kernel
theorem dX8_back_118 : decode cX8_back 118 = .ok (.invokestatic 93, 3) := by decide +kernel
theorem dX8_back_121 : decode cX8_back 121 = .ok (.ifCond .eq 20, 3) := by decide +kernel
theorem dX8_back_124 : decode cX8_back 124 = .ok (.aload_n 0, 1) := by decide +kernel
theorem dX8_back_125 : decode cX8_back 125 = .ok (.getfield 9, 3) := by decide +kernel
theorem dX8_back_128 : decode cX8_back 128 = .ok (.iload_n 3, 1) := by decide +kernel
theorem dX8_back_129 : decode cX8_back 129 = .ok (.aload_n 0, 1) := by decide +kernel
theorem dX8_back_130 : decode cX8_back 130 = .ok (.getfield 55, 3) := by decide +kernel
theorem dX8_back_133 : decode cX8_back 133 = .ok (.bipush 10, 2) := by decide +kernel
theorem dX8_back_135 : decode cX8_back 135 = .ok (.iload_n 1, 1) := by decide +kernel
theorem dX8_back_136 : decode cX8_back 136 = .ok (.imul, 1) := by decide +kernel
theorem dX8_back_137 : decode cX8_back 137 = .ok (.iload_n 3, 1) := by decide +kernel
theorem dX8_back_138 : decode cX8_back 138 = .ok (.iadd, 1) := by decide +kernel
theorem dX8_back_139 : decode cX8_back 139 = .ok (.iaload, 1) := by decide +kernel
theorem dX8_back_140 : decode cX8_back 140 = .ok (.iastore, 1) := by decide +kernel
theorem dX8_back_141 : decode cX8_back 141 = .ok (.iinc 3 1, 3) := by decide +kernel
theorem dX8_back_144 : decode cX8_back 144 = .ok (.goto (-41), 3) := by decide +kernel
theorem dX8_back_147 : decode cX8_back 147 = .ok (.aload_n 0, 1) := by decide +kernel
theorem dX8_back_148 : decode cX8_back 148 = .ok (.iconst 0, 1) := by decide +kernel
theorem dX8_back_149 : decode cX8_back 149 = .ok (.invokevirtual 114, 3) := by decide +kernel
theorem dX8_back_152 : decode cX8_back 152 = .ok (.iconst (-1), 1) := by decide +kernel
theorem dX8_back_153 : decode cX8_back 153 = .ok (.if_icmp .eq 30, 3) := by decide +kernel
theorem dX8_back_156 : decode cX8_back 156 = .ok (.iconst 0, 1) := by decide +kernel
theorem dX8_back_157 : decode cX8_back 157 = .ok (.istore_n 3, 1) := by decide +kernel
theorem dX8_back_158 : decode cX8_back 158 = .ok (.iload_n 3, 1) := by decide +kernel
theorem dX8_back_159 : decode cX8_back 159 = .ok (.aload_n 0, 1) := by decide +kernel
theorem dX8_back_160 : decode cX8_back 160 = .ok (.getfield 75, 3) := by decide +kernel
theorem dX8_back_163 : decode cX8_back 163 = .ok (.if_icmp .ge 18, 3) := by decide +kernel
theorem dX8_back_166 : decode cX8_back 166 = .ok (.aload_n 0, 1) := by decide +kernel
theorem dX8_back_167 : decode cX8_back 167 = .ok (.getfield 9, 3) := by decide +kernel
theorem dX8_back_170 : decode cX8_back 170 = .ok (.iload_n 3, 1) := by decide +kernel
theorem dX8_back_171 : decode cX8_back 171 = .ok (.aload_n 2, 1) := by decide +kernel
theorem dX8_back_172 : decode cX8_back 172 = .ok (.iload_n 3, 1) := by decide +kernel
theorem dX8_back_173 : decode cX8_back 173 = .ok (.iaload, 1) := by decide +kernel
theorem dX8_back_174 : decode cX8_back 174 = .ok (.iastore, 1) := by decide +kernel
theorem dX8_back_175 : decode cX8_back 175 = .ok (.iinc 3 1, 3) := by decide +kernel
theorem dX8_back_178 : decode cX8_back 178 = .ok (.goto (-20), 3) := by decide +kernel
theorem dX8_back_181 : decode cX8_back 181 = .ok (.iconst (-1), 1) := by decide +kernel
theorem dX8_back_182 : decode cX8_back 182 = .ok (.ireturn, 1) := by decide +kernel
theorem dX8_back_183 : decode cX8_back 183 = .ok (.iconst 0, 1) := by decide +kernel
theorem dX8_back_184 : decode cX8_back 184 = .ok (.istore_n 3, 1) := by decide +kernel
theorem dX8_back_185 : decode cX8_back 185 = .ok (.iload_n 3, 1) := by decide +kernel
theorem dX8_back_186 : decode cX8_back 186 = .ok (.aload_n 0, 1) := by decide +kernel
theorem dX8_back_187 : decode cX8_back 187 = .ok (.getfield 75, 3) := by decide +kernel
theorem dX8_back_190 : decode cX8_back 190 = .ok (.if_icmp .ge 44, 3) := by decide +kernel
theorem dX8_back_193 : decode cX8_back 193 = .ok (.aload_n 0, 1) := by decide +kernel
theorem dX8_back_194 : decode cX8_back 194 = .ok (.getfield 52, 3) := by decide +kernel
theorem dX8_back_197 : decode cX8_back 197 = .ok (.iload_n 1, 1) := by decide +kernel
theorem dX8_back_198 : decode cX8_back 198 = .ok (.iaload, 1) := by decide +kernel
theorem dX8_back_199 : decode cX8_back 199 = .ok (.iload_n 3, 1) := by decide +kernel
theorem dX8_back_200 : decode cX8_back 200 = .ok (.invokestatic 93, 3) := by decide +kernel
theorem dX8_back_203 : decode cX8_back 203 = .ok (.ifCond .eq 25, 3) := by decide +kernel
theorem dX8_back_206 : decode cX8_back 206 = .ok (.aload_n 0, 1) := by decide +kernel
theorem dX8_back_207 : decode cX8_back 207 = .ok (.getfield 13, 3) := by decide +kernel
theorem dX8_back_210 : decode cX8_back 210 = .ok (.iload_n 3, 1) := by decide +kernel
theorem dX8_back_211 : decode cX8_back 211 = .ok (.iaload, 1) := by decide +kernel
theorem dX8_back_212 : decode cX8_back 212 = .ok (.aload_n 0, 1) := by decide +kernel
theorem dX8_back_213 : decode cX8_back 213 = .ok (.getfield 9, 3) := by decide +kernel
theorem dX8_back_216 : decode cX8_back 216 = .ok (.iload_n 3, 1) := by decide +kernel
theorem dX8_back_217 : decode cX8_back 217 = .ok (.iaload, 1) := by decide +kernel
theorem dX8_back_218 : decode cX8_back 218 = .ok (.if_icmp .ne 10, 3) := by decide +kernel
theorem dX8_back_221 : decode cX8_back 221 = .ok (.aload_n 0, 1) := by decide +kernel
theorem dX8_back_222 : decode cX8_back 222 = .ok (.getfield 13, 3) := by decide +kernel
theorem dX8_back_225 : decode cX8_back 225 = .ok (.iload_n 3, 1) := by decide +kernel
theorem dX8_back_226 : decode cX8_back 226 = .ok (.iconst (-1), 1) := by decide +kernel
theorem dX8_back_227 : decode cX8_back 227 = .ok (.iastore, 1) := by decide +kernel
theorem dX8_back_228 : decode cX8_back 228 = .ok (.iinc 3 1, 3) := by decide +kernel
theorem dX8_back_231 : decode cX8_back 231 = .ok (.goto (-46), 3) := by decide +kernel
theorem dX8_back_234 : decode cX8_back 234 = .ok (.aload_n 0, 1) := by decide +kernel
theorem dX8_back_235 : decode cX8_back 235 = .ok (.getfield 61, 3) := by decide +kernel
theorem dX8_back_238 : decode cX8_back 238 = .ok (.iload_n 1, 1) := by decide +kernel
theorem dX8_back_239 : decode cX8_back 239 = .ok (.iconst 1, 1) := by decide +kernel
theorem dX8_back_240 : decode cX8_back 240 = .ok (.bastore, 1) := by decide +kernel
theorem dX8_back_241 : decode cX8_back 241 = .ok (.iload_n 1, 1) := by decide +kernel
theorem dX8_back_242 : decode cX8_back 242 = .ok (.ireturn, 1) := by decide +kernel
theorem dX8_isRed_0 : decode cX8_isRed 0 = .ok (.aload_n 0, 1) := by decide +kernel
theorem dX8_isRed_1 : decode cX8_isRed 1 = .ok (.dup, 1) := by decide +kernel
theorem dX8_isRed_2 : decode cX8_isRed 2 = .ok (.getfield 166, 3) := by decide +kernel
theorem dX8_isRed_5 : decode cX8_isRed 5 = .ok (.iconst 1, 1) := by decide +kernel
theorem dX8_isRed_6 : decode cX8_isRed 6 = .ok (.iadd, 1) := by decide +kernel
theorem dX8_isRed_7 : decode cX8_isRed 7 = .ok (.putfield 166, 3) := by decide +kernel
theorem dX8_isRed_10 : decode cX8_isRed 10 = .ok (.aload_n 0, 1) := by decide +kernel
theorem dX8_isRed_11 : decode cX8_isRed 11 = .ok (.iload_n 1, 1) := by decide +kernel
theorem dX8_isRed_12 : decode cX8_isRed 12 = .ok (.invokevirtual 118, 3) := by decide +kernel
theorem dX8_isRed_15 : decode cX8_isRed 15 = .ok (.iconst (-1), 1) := by decide +kernel
theorem dX8_isRed_16 : decode cX8_isRed 16 = .ok (.if_icmp .eq 7, 3) := by decide +kernel
theorem dX8_isRed_19 : decode cX8_isRed 19 = .ok (.iconst 1, 1) := by decide +kernel
theorem dX8_isRed_20 : decode cX8_isRed 20 = .ok (.goto 4, 3) := by decide +kernel
theorem dX8_isRed_23 : decode cX8_isRed 23 = .ok (.iconst 0, 1) := by decide +kernel
theorem dX8_isRed_24 : decode cX8_isRed 24 = .ok (.ireturn, 1) := by decide +kernel
theorem dX8_piece_0 : decode cX8_piece 0 = .ok (.iload_n 1, 1) := by decide +kernel
theorem dX8_piece_1 : decode cX8_piece 1 = .ok (.invokestatic 169, 3) := by decide +kernel
theorem dX8_piece_4 : decode cX8_piece 4 = .ok (.istore 4, 2) := by decide +kernel
theorem dX8_piece_6 : decode cX8_piece 6 = .ok (.iload_n 2, 1) := by decide +kernel
theorem dX8_piece_7 : decode cX8_piece 7 = .ok (.iload 4, 2) := by decide +kernel
theorem dX8_piece_9 : decode cX8_piece 9 = .ok (.iload_n 3, 1) := by decide +kernel
theorem dX8_piece_10 : decode cX8_piece 10 = .ok (.idiv, 1) := by decide +kernel
theorem dX8_piece_11 : decode cX8_piece 11 = .ok (.imul, 1) := by decide +kernel
theorem dX8_piece_12 : decode cX8_piece 12 = .ok (.iload_n 2, 1) := by decide +kernel
theorem dX8_piece_13 : decode cX8_piece 13 = .ok (.iload 4, 2) := by decide +kernel
theorem dX8_piece_15 : decode cX8_piece 15 = .ok (.iload_n 3, 1) := by decide +kernel
theorem dX8_piece_16 : decode cX8_piece 16 = .ok (.irem, 1) := by decide +kernel
theorem dX8_piece_17 : decode cX8_piece 17 = .ok (.invokestatic 174, 3) := by decide +kernel
theorem dX8_piece_20 : decode cX8_piece 20 = .ok (.iadd, 1) := by decide +kernel
theorem dX8_piece_21 : decode cX8_piece 21 = .ok (.istore 5, 2) := by decide +kernel
theorem dX8_piece_23 : decode cX8_piece 23 = .ok (.iload 4, 2) := by decide +kernel
theorem dX8_piece_25 : decode cX8_piece 25 = .ok (.iload_n 3, 1) := by decide +kernel
theorem dX8_piece_26 : decode cX8_piece 26 = .ok (.idiv, 1) := by decide +kernel
theorem dX8_piece_27 : decode cX8_piece 27 = .ok (.iload_n 2, 1) := by decide +kernel
theorem dX8_piece_28 : decode cX8_piece 28 = .ok (.iload 4, 2) := by decide +kernel
theorem dX8_piece_30 : decode cX8_piece 30 = .ok (.iload_n 3, 1) := by decide +kernel
theorem dX8_piece_31 : decode cX8_piece 31 = .ok (.irem, 1) := by decide +kernel
theorem dX8_piece_32 : decode cX8_piece 32 = .ok (.if_icmp .ge 7, 3) := by decide +kernel
theorem dX8_piece_35 : decode cX8_piece 35 = .ok (.iconst 1, 1) := by decide +kernel
theorem dX8_piece_36 : decode cX8_piece 36 = .ok (.goto 4, 3) := by decide +kernel
theorem dX8_piece_39 : decode cX8_piece 39 = .ok (.iconst 0, 1) := by decide +kernel
theorem dX8_piece_40 : decode cX8_piece 40 = .ok (.iadd, 1) := by decide +kernel
theorem dX8_piece_41 : decode cX8_piece 41 = .ok (.istore 6, 2) := by decide +kernel
theorem dX8_piece_43 : decode cX8_piece 43 = .ok (.iconst 0, 1) := by decide +kernel
theorem dX8_piece_44 : decode cX8_piece 44 = .ok (.istore 7, 2) := by decide +kernel
theorem dX8_piece_46 : decode cX8_piece 46 = .ok (.iconst 0, 1) := by decide +kernel
theorem dX8_piece_47 : decode cX8_piece 47 = .ok (.istore 8, 2) := by decide +kernel
theorem dX8_piece_49 : decode cX8_piece 49 = .ok (.iconst 0, 1) := by decide +kernel
theorem dX8_piece_50 : decode cX8_piece 50 = .ok (.istore 9, 2) := by decide +kernel
theorem dX8_piece_52 : decode cX8_piece 52 = .ok (.iload 9, 2) := by decide +kernel
theorem dX8_piece_54 : decode cX8_piece 54 = .ok (.aload_n 0, 1) := by decide +kernel
theorem dX8_piece_55 : decode cX8_piece 55 = .ok (.getfield 75, 3) := by decide +kernel
theorem dX8_piece_58 : decode cX8_piece 58 = .ok (.if_icmp .ge 50, 3) := by decide +kernel
theorem dX8_piece_61 : decode cX8_piece 61 = .ok (.iload_n 1, 1) := by decide +kernel
theorem dX8_piece_62 : decode cX8_piece 62 = .ok (.iload 9, 2) := by decide +kernel
theorem dX8_piece_64 : decode cX8_piece 64 = .ok (.invokestatic 93, 3) := by decide +kernel
theorem dX8_piece_67 : decode cX8_piece 67 = .ok (.ifCond .ne 6, 3) := by decide +kernel
theorem dX8_piece_70 : decode cX8_piece 70 = .ok (.goto 32, 3) := by decide +kernel
theorem dX8_piece_73 : decode cX8_piece 73 = .ok (.iload 8, 2) := by decide +kernel
theorem dX8_piece_75 : decode cX8_piece 75 = .ok (.iload 5, 2) := by decide +kernel
theorem dX8_piece_77 : decode cX8_piece 77 = .ok (.if_icmp .lt 22, 3) := by decide +kernel
theorem dX8_piece_80 : decode cX8_piece 80 = .ok (.iload 8, 2) := by decide +kernel
theorem dX8_piece_82 : decode cX8_piece 82 = .ok (.iload 5, 2) := by decide +kernel
theorem dX8_piece_84 : decode cX8_piece 84 = .ok (.iload 6, 2) := by decide +kernel
theorem dX8_piece_86 : decode cX8_piece 86 = .ok (.iadd, 1) := by decide +kernel
theorem dX8_piece_87 : decode cX8_piece 87 = .ok (.if_icmp .ge 12, 3) := by decide +kernel
theorem dX8_piece_90 : decode cX8_piece 90 = .ok (.iload 7, 2) := by decide +kernel
theorem dX8_piece_92 : decode cX8_piece 92 = .ok (.iconst 1, 1) := by decide +kernel
theorem dX8_piece_93 : decode cX8_piece 93 = .ok (.iload 9, 2) := by decide +kernel
theorem dX8_piece_95 : decode cX8_piece 95 = .ok (.ishl, 1) := by decide +kernel
theorem dX8_piece_96 : decode cX8_piece 96 = .ok (.ior, 1) := by decide +kernel
theorem dX8_piece_97 : decode cX8_piece 97 = .ok (.istore 7, 2) := by decide +kernel
theorem dX8_piece_99 : decode cX8_piece 99 = .ok (.iinc 8 1, 3) := by decide +kernel
theorem dX8_piece_102 : decode cX8_piece 102 = .ok (.iinc 9 1, 3) := by decide +kernel
theorem dX8_piece_105 : decode cX8_piece 105 = .ok (.goto (-53), 3) := by decide +kernel
theorem dX8_piece_108 : decode cX8_piece 108 = .ok (.iload 7, 2) := by decide +kernel
theorem dX8_piece_110 : decode cX8_piece 110 = .ok (.ireturn, 1) := by decide +kernel
theorem dX8_blames_0 : decode cX8_blames 0 = .ok (.aload_n 0, 1) := by decide +kernel
theorem dX8_blames_1 : decode cX8_blames 1 = .ok (.iconst 0, 1) := by decide +kernel
theorem dX8_blames_2 : decode cX8_blames 2 = .ok (.putfield 166, 3) := by decide +kernel
theorem dX8_blames_5 : decode cX8_blames 5 = .ok (.aload_n 0, 1) := by decide +kernel
theorem dX8_blames_6 : decode cX8_blames 6 = .ok (.iconst 0, 1) := by decide +kernel
theorem dX8_blames_7 : decode cX8_blames 7 = .ok (.putfield 179, 3) := by decide +kernel
theorem dX8_blames_10 : decode cX8_blames 10 = .ok (.aload_n 0, 1) := by decide +kernel
theorem dX8_blames_11 : decode cX8_blames 11 = .ok (.iload_n 1, 1) := by decide +kernel
theorem dX8_blames_12 : decode cX8_blames 12 = .ok (.invokevirtual 182, 3) := by decide +kernel
theorem dX8_blames_15 : decode cX8_blames 15 = .ok (.ifCond .ne 4, 3) := by decide +kernel
theorem dX8_blames_18 : decode cX8_blames 18 = .ok (.return_, 1) := by decide +kernel
theorem dX8_blames_19 : decode cX8_blames 19 = .ok (.aload_n 0, 1) := by decide +kernel
theorem dX8_blames_20 : decode cX8_blames 20 = .ok (.iload_n 1, 1) := by decide +kernel
theorem dX8_blames_21 : decode cX8_blames 21 = .ok (.putfield 179, 3) := by decide +kernel
theorem dX8_blames_24 : decode cX8_blames 24 = .ok (.iconst 2, 1) := by decide +kernel
theorem dX8_blames_25 : decode cX8_blames 25 = .ok (.istore_n 2, 1) := by decide +kernel
theorem dX8_blames_26 : decode cX8_blames 26 = .ok (.iconst 1, 1) := by decide +kernel
theorem dX8_blames_27 : decode cX8_blames 27 = .ok (.istore_n 3, 1) := by decide +kernel
theorem dX8_blames_28 : decode cX8_blames 28 = .ok (.iload_n 3, 1) := by decide +kernel
theorem dX8_blames_29 : decode cX8_blames 29 = .ok (.ifCond .eq 127, 3) := by decide +kernel
theorem dX8_blames_32 : decode cX8_blames 32 = .ok (.aload_n 0, 1) := by decide +kernel
theorem dX8_blames_33 : decode cX8_blames 33 = .ok (.getfield 179, 3) := by decide +kernel
theorem dX8_blames_36 : decode cX8_blames 36 = .ok (.invokestatic 169, 3) := by decide +kernel
theorem dX8_blames_39 : decode cX8_blames 39 = .ok (.iconst 1, 1) := by decide +kernel
theorem dX8_blames_40 : decode cX8_blames 40 = .ok (.if_icmp .le 116, 3) := by decide +kernel
theorem dX8_blames_43 : decode cX8_blames 43 = .ok (.iconst (-1), 1) := by decide +kernel
theorem dX8_blames_44 : decode cX8_blames 44 = .ok (.istore 4, 2) := by decide +kernel
theorem dX8_blames_46 : decode cX8_blames 46 = .ok (.iconst 0, 1) := by decide +kernel
theorem dX8_blames_47 : decode cX8_blames 47 = .ok (.istore 5, 2) := by decide +kernel
theorem dX8_blames_49 : decode cX8_blames 49 = .ok (.iload 5, 2) := by decide +kernel
theorem dX8_blames_51 : decode cX8_blames 51 = .ok (.iload_n 2, 1) := by decide +kernel
theorem dX8_blames_52 : decode cX8_blames 52 = .ok (.if_icmp .ge 48, 3) := by decide +kernel
theorem dX8_blames_55 : decode cX8_blames 55 = .ok (.iload 4, 2) := by decide +kernel
theorem dX8_blames_57 : decode cX8_blames 57 = .ok (.iconst (-1), 1) := by decide +kernel
theorem dX8_blames_58 : decode cX8_blames 58 = .ok (.if_icmp .ne 42, 3) := by decide +kernel
theorem dX8_blames_61 : decode cX8_blames 61 = .ok (.aload_n 0, 1) := by decide +kernel
theorem dX8_blames_62 : decode cX8_blames 62 = .ok (.getfield 179, 3) := by decide +kernel
theorem dX8_blames_65 : decode cX8_blames 65 = .ok (.aload_n 0, 1) := by decide +kernel
theorem dX8_blames_66 : decode cX8_blames 66 = .ok (.aload_n 0, 1) := by decide +kernel
theorem dX8_blames_67 : decode cX8_blames 67 = .ok (.getfield 179, 3) := by decide +kernel
theorem dX8_blames_70 : decode cX8_blames 70 = .ok (.iload 5, 2) := by decide +kernel
theorem dX8_blames_72 : decode cX8_blames 72 = .ok (.iload_n 2, 1) := by decide +kernel
theorem dX8_blames_73 : decode cX8_blames 73 = .ok (.invokevirtual 185, 3) := by decide +kernel
theorem dX8_blames_76 : decode cX8_blames 76 = .ok (.iconst (-1), 1) := by decide +kernel
theorem dX8_blames_77 : decode cX8_blames 77 = .ok (.ixor, 1) := by decide +kernel
theorem dX8_blames_78 : decode cX8_blames 78 = .ok (.iand, 1) := by decide +kernel
theorem dX8_blames_79 : decode cX8_blames 79 = .ok (.istore 6, 2) := by decide +kernel
theorem dX8_blames_81 : decode cX8_blames 81 = .ok (.aload_n 0, 1) := by decide +kernel
theorem dX8_blames_82 : decode cX8_blames 82 = .ok (.iload 6, 2) := by decide +kernel
theorem dX8_blames_84 : decode cX8_blames 84 = .ok (.invokevirtual 182, 3) := by decide +kernel
theorem dX8_blames_87 : decode cX8_blames 87 = .ok (.ifCond .eq 7, 3) := by decide +kernel
theorem dX8_blames_90 : decode cX8_blames 90 = .ok (.iload 6, 2) := by decide +kernel
theorem dX8_blames_92 : decode cX8_blames 92 = .ok (.istore 4, 2) := by decide +kernel
theorem dX8_blames_94 : decode cX8_blames 94 = .ok (.iinc 5 1, 3) := by decide +kernel
theorem dX8_blames_97 : decode cX8_blames 97 = .ok (.goto (-48), 3) := by decide +kernel
theorem dX8_blames_100 : decode cX8_blames 100 = .ok (.aload_n 0, 1) := by decide +kernel
theorem dX8_blames_101 : decode cX8_blames 101 = .ok (.getfield 179, 3) := by decide +kernel
theorem dX8_blames_104 : decode cX8_blames 104 = .ok (.invokestatic 169, 3) := by decide +kernel
theorem dX8_blames_107 : decode cX8_blames 107 = .ok (.istore 5, 2) := by decide +kernel
theorem dX8_blames_109 : decode cX8_blames 109 = .ok (.iload 4, 2) := by decide +kernel
theorem dX8_blames_111 : decode cX8_blames 111 = .ok (.iconst (-1), 1) := by decide +kernel
theorem dX8_blames_112 : decode cX8_blames 112 = .ok (.if_icmp .eq 20, 3) := by decide +kernel
theorem dX8_blames_115 : decode cX8_blames 115 = .ok (.aload_n 0, 1) := by decide +kernel
theorem dX8_blames_116 : decode cX8_blames 116 = .ok (.iload 4, 2) := by decide +kernel
theorem dX8_blames_118 : decode cX8_blames 118 = .ok (.putfield 179, 3) := by decide +kernel
theorem dX8_blames_121 : decode cX8_blames 121 = .ok (.iconst 2, 1) := by decide +kernel
theorem dX8_blames_122 : decode cX8_blames 122 = .ok (.iload_n 2, 1) := by decide +kernel
theorem dX8_blames_123 : decode cX8_blames 123 = .ok (.iconst 1, 1) := by decide +kernel
theorem dX8_blames_124 : decode cX8_blames 124 = .ok (.isub, 1) := by decide +kernel
theorem dX8_blames_125 : decode cX8_blames 125 = .ok (.invokestatic 189, 3) := by decide +kernel
theorem dX8_blames_128 : decode cX8_blames 128 = .ok (.istore_n 2, 1) := by decide +kernel
theorem dX8_blames_129 : decode cX8_blames 129 = .ok (.goto 24, 3) := by decide +kernel
theorem dX8_blames_132 : decode cX8_blames 132 = .ok (.iload_n 2, 1) := by decide +kernel
theorem dX8_blames_133 : decode cX8_blames 133 = .ok (.iload 5, 2) := by decide +kernel
theorem dX8_blames_135 : decode cX8_blames 135 = .ok (.if_icmp .ge 7, 3) := by decide +kernel
theorem dX8_blames_138 : decode cX8_blames 138 = .ok (.iconst 1, 1) := by decide +kernel
theorem dX8_blames_139 : decode cX8_blames 139 = .ok (.goto 4, 3) := by decide +kernel
theorem dX8_blames_142 : decode cX8_blames 142 = .ok (.iconst 0, 1) := by decide +kernel
theorem dX8_blames_143 : decode cX8_blames 143 = .ok (.istore_n 3, 1) := by decide +kernel
theorem dX8_blames_144 : decode cX8_blames 144 = .ok (.iconst 2, 1) := by decide +kernel
theorem dX8_blames_145 : decode cX8_blames 145 = .ok (.iload_n 2, 1) := by decide +kernel
theorem dX8_blames_146 : decode cX8_blames 146 = .ok (.imul, 1) := by decide +kernel
theorem dX8_blames_147 : decode cX8_blames 147 = .ok (.iload 5, 2) := by decide +kernel
theorem dX8_blames_149 : decode cX8_blames 149 = .ok (.invokestatic 174, 3) := by decide +kernel
theorem dX8_blames_152 : decode cX8_blames 152 = .ok (.istore_n 2, 1) := by decide +kernel
theorem dX8_blames_153 : decode cX8_blames 153 = .ok (.goto (-125), 3) := by decide +kernel
theorem dX8_blames_156 : decode cX8_blames 156 = .ok (.return_, 1) := by decide +kernel
theorem dX8_blame_0 : decode cX8_blame 0 = .ok (.aload_n 0, 1) := by decide +kernel
theorem dX8_blame_1 : decode cX8_blame 1 = .ok (.iconst 0, 1) := by decide +kernel
theorem dX8_blame_2 : decode cX8_blame 2 = .ok (.putfield 71, 3) := by decide +kernel
theorem dX8_blame_5 : decode cX8_blame 5 = .ok (.aload_n 0, 1) := by decide +kernel
theorem dX8_blame_6 : decode cX8_blame 6 = .ok (.iload_n 1, 1) := by decide +kernel
theorem dX8_blame_7 : decode cX8_blame 7 = .ok (.invokevirtual 103, 3) := by decide +kernel
theorem dX8_blame_10 : decode cX8_blame 10 = .ok (.ifCond .ne 5, 3) := by decide +kernel
theorem dX8_blame_13 : decode cX8_blame 13 = .ok (.iconst (-1), 1) := by decide +kernel
theorem dX8_blame_14 : decode cX8_blame 14 = .ok (.ireturn, 1) := by decide +kernel
theorem dX8_blame_15 : decode cX8_blame 15 = .ok (.aload_n 0, 1) := by decide +kernel
theorem dX8_blame_16 : decode cX8_blame 16 = .ok (.iload_n 1, 1) := by decide +kernel
theorem dX8_blame_17 : decode cX8_blame 17 = .ok (.invokevirtual 192, 3) := by decide +kernel
theorem dX8_blame_20 : decode cX8_blame 20 = .ok (.aload_n 0, 1) := by decide +kernel
theorem dX8_blame_21 : decode cX8_blame 21 = .ok (.getfield 179, 3) := by decide +kernel
theorem dX8_blame_24 : decode cX8_blame 24 = .ok (.ireturn, 1) := by decide +kernel
theorem dX8_runs_0 : decode cX8_runs 0 = .ok (.aload_n 0, 1) := by decide +kernel
theorem dX8_runs_1 : decode cX8_runs 1 = .ok (.iconst 0, 1) := by decide +kernel
theorem dX8_runs_2 : decode cX8_runs 2 = .ok (.putfield 71, 3) := by decide +kernel
theorem dX8_runs_5 : decode cX8_runs 5 = .ok (.aload_n 0, 1) := by decide +kernel
theorem dX8_runs_6 : decode cX8_runs 6 = .ok (.iload_n 1, 1) := by decide +kernel
theorem dX8_runs_7 : decode cX8_runs 7 = .ok (.invokevirtual 103, 3) := by decide +kernel
theorem dX8_runs_10 : decode cX8_runs 10 = .ok (.ifCond .ne 5, 3) := by decide +kernel
theorem dX8_runs_13 : decode cX8_runs 13 = .ok (.iconst (-1), 1) := by decide +kernel
theorem dX8_runs_14 : decode cX8_runs 14 = .ok (.ireturn, 1) := by decide +kernel
theorem dX8_runs_15 : decode cX8_runs 15 = .ok (.aload_n 0, 1) := by decide +kernel
theorem dX8_runs_16 : decode cX8_runs 16 = .ok (.iload_n 1, 1) := by decide +kernel
theorem dX8_runs_17 : decode cX8_runs 17 = .ok (.invokevirtual 192, 3) := by decide +kernel
theorem dX8_runs_20 : decode cX8_runs 20 = .ok (.aload_n 0, 1) := by decide +kernel
theorem dX8_runs_21 : decode cX8_runs 21 = .ok (.getfield 166, 3) := by decide +kernel
theorem dX8_runs_24 : decode cX8_runs 24 = .ok (.ireturn, 1) := by decide +kernel
theorem dX8_told_0 : decode cX8_told 0 = .ok (.aload_n 0, 1) := by decide +kernel
theorem dX8_told_1 : decode cX8_told 1 = .ok (.iconst 0, 1) := by decide +kernel
theorem dX8_told_2 : decode cX8_told 2 = .ok (.putfield 71, 3) := by decide +kernel
theorem dX8_told_5 : decode cX8_told 5 = .ok (.aload_n 0, 1) := by decide +kernel
theorem dX8_told_6 : decode cX8_told 6 = .ok (.iload_n 1, 1) := by decide +kernel
theorem dX8_told_7 : decode cX8_told 7 = .ok (.invokevirtual 86, 3) := by decide +kernel
theorem dX8_told_10 : decode cX8_told 10 = .ok (.ifCond .ne 5, 3) := by decide +kernel
theorem dX8_told_13 : decode cX8_told 13 = .ok (.iconst (-1), 1) := by decide +kernel
theorem dX8_told_14 : decode cX8_told 14 = .ok (.ireturn, 1) := by decide +kernel
theorem dX8_told_15 : decode cX8_told 15 = .ok (.iload_n 2, 1) := by decide +kernel
theorem dX8_told_16 : decode cX8_told 16 = .ok (.tableswitch 99 0 4 #[36, 43, 50, 71, 78], 36) := by decide +kernel
theorem dX8_told_52 : decode cX8_told 52 = .ok (.aload_n 0, 1) := by decide +kernel
theorem dX8_told_53 : decode cX8_told 53 = .ok (.getfield 9, 3) := by decide +kernel
theorem dX8_told_56 : decode cX8_told 56 = .ok (.iload_n 1, 1) := by decide +kernel
theorem dX8_told_57 : decode cX8_told 57 = .ok (.iaload, 1) := by decide +kernel
theorem dX8_told_58 : decode cX8_told 58 = .ok (.ireturn, 1) := by decide +kernel
theorem dX8_told_59 : decode cX8_told 59 = .ok (.aload_n 0, 1) := by decide +kernel
theorem dX8_told_60 : decode cX8_told 60 = .ok (.getfield 13, 3) := by decide +kernel
theorem dX8_told_63 : decode cX8_told 63 = .ok (.iload_n 1, 1) := by decide +kernel
theorem dX8_told_64 : decode cX8_told 64 = .ok (.iaload, 1) := by decide +kernel
theorem dX8_told_65 : decode cX8_told 65 = .ok (.ireturn, 1) := by decide +kernel
theorem dX8_told_66 : decode cX8_told 66 = .ok (.aload_n 0, 1) := by decide +kernel
theorem dX8_told_67 : decode cX8_told 67 = .ok (.getfield 13, 3) := by decide +kernel
theorem dX8_told_70 : decode cX8_told 70 = .ok (.iload_n 1, 1) := by decide +kernel
theorem dX8_told_71 : decode cX8_told 71 = .ok (.iaload, 1) := by decide +kernel
theorem dX8_told_72 : decode cX8_told 72 = .ok (.iconst (-1), 1) := by decide +kernel
theorem dX8_told_73 : decode cX8_told 73 = .ok (.if_icmp .ne 7, 3) := by decide +kernel
theorem dX8_told_76 : decode cX8_told 76 = .ok (.iconst (-1), 1) := by decide +kernel
theorem dX8_told_77 : decode cX8_told 77 = .ok (.goto 9, 3) := by decide +kernel
theorem dX8_told_80 : decode cX8_told 80 = .ok (.aload_n 0, 1) := by decide +kernel
theorem dX8_told_81 : decode cX8_told 81 = .ok (.getfield 16, 3) := by decide +kernel
theorem dX8_told_84 : decode cX8_told 84 = .ok (.iload_n 1, 1) := by decide +kernel
theorem dX8_told_85 : decode cX8_told 85 = .ok (.iaload, 1) := by decide +kernel
theorem dX8_told_86 : decode cX8_told 86 = .ok (.ireturn, 1) := by decide +kernel
theorem dX8_told_87 : decode cX8_told 87 = .ok (.aload_n 0, 1) := by decide +kernel
theorem dX8_told_88 : decode cX8_told 88 = .ok (.getfield 19, 3) := by decide +kernel
theorem dX8_told_91 : decode cX8_told 91 = .ok (.iload_n 1, 1) := by decide +kernel
theorem dX8_told_92 : decode cX8_told 92 = .ok (.iaload, 1) := by decide +kernel
theorem dX8_told_93 : decode cX8_told 93 = .ok (.ireturn, 1) := by decide +kernel
theorem dX8_told_94 : decode cX8_told 94 = .ok (.aload_n 0, 1) := by decide +kernel
theorem dX8_told_95 : decode cX8_told 95 = .ok (.getfield 19, 3) := by decide +kernel
theorem dX8_told_98 : decode cX8_told 98 = .ok (.iload_n 1, 1) := by decide +kernel
theorem dX8_told_99 : decode cX8_told 99 = .ok (.iaload, 1) := by decide +kernel
theorem dX8_told_100 : decode cX8_told 100 = .ok (.iconst (-1), 1) := by decide +kernel
theorem dX8_told_101 : decode cX8_told 101 = .ok (.if_icmp .ne 7, 3) := by decide +kernel
theorem dX8_told_104 : decode cX8_told 104 = .ok (.iconst (-1), 1) := by decide +kernel
theorem dX8_told_105 : decode cX8_told 105 = .ok (.goto 9, 3) := by decide +kernel
theorem dX8_told_108 : decode cX8_told 108 = .ok (.aload_n 0, 1) := by decide +kernel
theorem dX8_told_109 : decode cX8_told 109 = .ok (.getfield 22, 3) := by decide +kernel
theorem dX8_told_112 : decode cX8_told 112 = .ok (.iload_n 1, 1) := by decide +kernel
theorem dX8_told_113 : decode cX8_told 113 = .ok (.iaload, 1) := by decide +kernel
theorem dX8_told_114 : decode cX8_told 114 = .ok (.ireturn, 1) := by decide +kernel
theorem dX8_told_115 : decode cX8_told 115 = .ok (.iconst (-1), 1) := by decide +kernel
theorem dX8_told_116 : decode cX8_told 116 = .ok (.ireturn, 1) := by decide +kernel
theorem dX8_was_0 : decode cX8_was 0 = .ok (.aload_n 0, 1) := by decide +kernel
theorem dX8_was_1 : decode cX8_was 1 = .ok (.iload_n 1, 1) := by decide +kernel
theorem dX8_was_2 : decode cX8_was 2 = .ok (.ifCond .lt 25, 3) := by decide +kernel
theorem dX8_was_5 : decode cX8_was 5 = .ok (.iload_n 1, 1) := by decide +kernel
theorem dX8_was_6 : decode cX8_was 6 = .ok (.aload_n 0, 1) := by decide +kernel
theorem dX8_was_7 : decode cX8_was 7 = .ok (.getfield 149, 3) := by decide +kernel
theorem dX8_was_10 : decode cX8_was 10 = .ok (.if_icmp .ge 17, 3) := by decide +kernel
theorem dX8_was_13 : decode cX8_was 13 = .ok (.iload_n 2, 1) := by decide +kernel
theorem dX8_was_14 : decode cX8_was 14 = .ok (.ifCond .lt 13, 3) := by decide +kernel
theorem dX8_was_17 : decode cX8_was 17 = .ok (.iload_n 2, 1) := by decide +kernel
theorem dX8_was_18 : decode cX8_was 18 = .ok (.aload_n 0, 1) := by decide +kernel
theorem dX8_was_19 : decode cX8_was 19 = .ok (.getfield 49, 3) := by decide +kernel
theorem dX8_was_22 : decode cX8_was 22 = .ok (.iload_n 1, 1) := by decide +kernel
theorem dX8_was_23 : decode cX8_was 23 = .ok (.iaload, 1) := by decide +kernel
theorem dX8_was_24 : decode cX8_was 24 = .ok (.if_icmp .lt 7, 3) := by decide +kernel
theorem dX8_was_27 : decode cX8_was 27 = .ok (.iconst 1, 1) := by decide +kernel
theorem dX8_was_28 : decode cX8_was 28 = .ok (.goto 4, 3) := by decide +kernel
theorem dX8_was_31 : decode cX8_was 31 = .ok (.iconst 0, 1) := by decide +kernel
theorem dX8_was_32 : decode cX8_was 32 = .ok (.putfield 71, 3) := by decide +kernel
theorem dX8_was_35 : decode cX8_was 35 = .ok (.aload_n 0, 1) := by decide +kernel
theorem dX8_was_36 : decode cX8_was 36 = .ok (.getfield 71, 3) := by decide +kernel
theorem dX8_was_39 : decode cX8_was 39 = .ok (.ifCond .le 7, 3) := by decide +kernel
theorem dX8_was_42 : decode cX8_was 42 = .ok (.iconst 0, 1) := by decide +kernel
theorem dX8_was_43 : decode cX8_was 43 = .ok (.goto 32, 3) := by decide +kernel
theorem dX8_was_46 : decode cX8_was 46 = .ok (.iload_n 3, 1) := by decide +kernel
theorem dX8_was_47 : decode cX8_was 47 = .ok (.ifCond .eq 17, 3) := by decide +kernel
theorem dX8_was_50 : decode cX8_was 50 = .ok (.aload_n 0, 1) := by decide +kernel
theorem dX8_was_51 : decode cX8_was 51 = .ok (.getfield 58, 3) := by decide +kernel
theorem dX8_was_54 : decode cX8_was 54 = .ok (.bipush 10, 2) := by decide +kernel
theorem dX8_was_56 : decode cX8_was 56 = .ok (.iload_n 1, 1) := by decide +kernel
theorem dX8_was_57 : decode cX8_was 57 = .ok (.imul, 1) := by decide +kernel
theorem dX8_was_58 : decode cX8_was 58 = .ok (.iload_n 2, 1) := by decide +kernel
theorem dX8_was_59 : decode cX8_was 59 = .ok (.iadd, 1) := by decide +kernel
theorem dX8_was_60 : decode cX8_was 60 = .ok (.iaload, 1) := by decide +kernel
theorem dX8_was_61 : decode cX8_was 61 = .ok (.goto 14, 3) := by decide +kernel
theorem dX8_was_64 : decode cX8_was 64 = .ok (.aload_n 0, 1) := by decide +kernel
theorem dX8_was_65 : decode cX8_was 65 = .ok (.getfield 55, 3) := by decide +kernel
theorem dX8_was_68 : decode cX8_was 68 = .ok (.bipush 10, 2) := by decide +kernel
theorem dX8_was_70 : decode cX8_was 70 = .ok (.iload_n 1, 1) := by decide +kernel
theorem dX8_was_71 : decode cX8_was 71 = .ok (.imul, 1) := by decide +kernel
theorem dX8_was_72 : decode cX8_was 72 = .ok (.iload_n 2, 1) := by decide +kernel
theorem dX8_was_73 : decode cX8_was 73 = .ok (.iadd, 1) := by decide +kernel
theorem dX8_was_74 : decode cX8_was 74 = .ok (.iaload, 1) := by decide +kernel
theorem dX8_was_75 : decode cX8_was 75 = .ok (.ireturn, 1) := by decide +kernel
theorem dX8_brought_0 : decode cX8_brought 0 = .ok (.aload_n 0, 1) := by decide +kernel
theorem dX8_brought_1 : decode cX8_brought 1 = .ok (.iconst 0, 1) := by decide +kernel
theorem dX8_brought_2 : decode cX8_brought 2 = .ok (.putfield 71, 3) := by decide +kernel
theorem dX8_brought_5 : decode cX8_brought 5 = .ok (.iload_n 1, 1) := by decide +kernel
theorem dX8_brought_6 : decode cX8_brought 6 = .ok (.ifCond .lt 20, 3) := by decide +kernel
theorem dX8_brought_9 : decode cX8_brought 9 = .ok (.iload_n 1, 1) := by decide +kernel
theorem dX8_brought_10 : decode cX8_brought 10 = .ok (.aload_n 0, 1) := by decide +kernel
theorem dX8_brought_11 : decode cX8_brought 11 = .ok (.getfield 149, 3) := by decide +kernel
theorem dX8_brought_14 : decode cX8_brought 14 = .ok (.if_icmp .ge 12, 3) := by decide +kernel
theorem dX8_brought_17 : decode cX8_brought 17 = .ok (.aload_n 0, 1) := by decide +kernel
theorem dX8_brought_18 : decode cX8_brought 18 = .ok (.getfield 52, 3) := by decide +kernel
theorem dX8_brought_21 : decode cX8_brought 21 = .ok (.iload_n 1, 1) := by decide +kernel
theorem dX8_brought_22 : decode cX8_brought 22 = .ok (.iaload, 1) := by decide +kernel
theorem dX8_brought_23 : decode cX8_brought 23 = .ok (.goto 4, 3) := by decide +kernel
theorem dX8_brought_26 : decode cX8_brought 26 = .ok (.iconst (-1), 1) := by decide +kernel
theorem dX8_brought_27 : decode cX8_brought 27 = .ok (.ireturn, 1) := by decide +kernel
theorem dX8_count_0 : decode cX8_count 0 = .ok (.aload_n 0, 1) := by decide +kernel
theorem dX8_count_1 : decode cX8_count 1 = .ok (.iconst 0, 1) := by decide +kernel
theorem dX8_count_2 : decode cX8_count 2 = .ok (.putfield 71, 3) := by decide +kernel
theorem dX8_count_5 : decode cX8_count 5 = .ok (.iconst 0, 1) := by decide +kernel
theorem dX8_count_6 : decode cX8_count 6 = .ok (.istore_n 2, 1) := by decide +kernel
theorem dX8_count_7 : decode cX8_count 7 = .ok (.iload_n 1, 1) := by decide +kernel
theorem dX8_count_8 : decode cX8_count 8 = .ok (.tableswitch 148 0 8 #[52, 57, 62, 67, 72, 107, 115, 120, 133], 52) := by decide +kernel
theorem dX8_count_60 : decode cX8_count 60 = .ok (.aload_n 0, 1) := by decide +kernel
theorem dX8_count_61 : decode cX8_count 61 = .ok (.getfield 75, 3) := by decide +kernel
theorem dX8_count_64 : decode cX8_count 64 = .ok (.ireturn, 1) := by decide +kernel
theorem dX8_count_65 : decode cX8_count 65 = .ok (.aload_n 0, 1) := by decide +kernel
theorem dX8_count_66 : decode cX8_count 66 = .ok (.getfield 97, 3) := by decide +kernel
theorem dX8_count_69 : decode cX8_count 69 = .ok (.ireturn, 1) := by decide +kernel
theorem dX8_count_70 : decode cX8_count 70 = .ok (.aload_n 0, 1) := by decide +kernel
theorem dX8_count_71 : decode cX8_count 71 = .ok (.getfield 100, 3) := by decide +kernel
theorem dX8_count_74 : decode cX8_count 74 = .ok (.ireturn, 1) := by decide +kernel
theorem dX8_count_75 : decode cX8_count 75 = .ok (.aload_n 0, 1) := by decide +kernel
theorem dX8_count_76 : decode cX8_count 76 = .ok (.getfield 149, 3) := by decide +kernel
theorem dX8_count_79 : decode cX8_count 79 = .ok (.ireturn, 1) := by decide +kernel
theorem dX8_count_80 : decode cX8_count 80 = .ok (.iconst 0, 1) := by decide +kernel
theorem dX8_count_81 : decode cX8_count 81 = .ok (.istore_n 3, 1) := by decide +kernel
theorem dX8_count_82 : decode cX8_count 82 = .ok (.iload_n 3, 1) := by decide +kernel
theorem dX8_count_83 : decode cX8_count 83 = .ok (.aload_n 0, 1) := by decide +kernel
theorem dX8_count_84 : decode cX8_count 84 = .ok (.getfield 149, 3) := by decide +kernel
theorem dX8_count_87 : decode cX8_count 87 = .ok (.if_icmp .ge 26, 3) := by decide +kernel
theorem dX8_count_90 : decode cX8_count 90 = .ok (.iload_n 2, 1) := by decide +kernel
theorem dX8_count_91 : decode cX8_count 91 = .ok (.aload_n 0, 1) := by decide +kernel
theorem dX8_count_92 : decode cX8_count 92 = .ok (.getfield 61, 3) := by decide +kernel
theorem dX8_count_95 : decode cX8_count 95 = .ok (.iload_n 3, 1) := by decide +kernel
theorem dX8_count_96 : decode cX8_count 96 = .ok (.baload, 1) := by decide +kernel
theorem dX8_count_97 : decode cX8_count 97 = .ok (.ifCond .eq 7, 3) := by decide +kernel
theorem dX8_count_100 : decode cX8_count 100 = .ok (.iconst 0, 1) := by decide +kernel
theorem dX8_count_101 : decode cX8_count 101 = .ok (.goto 4, 3) := by decide +kernel
theorem dX8_count_104 : decode cX8_count 104 = .ok (.iconst 1, 1) := by decide +kernel
theorem dX8_count_105 : decode cX8_count 105 = .ok (.iadd, 1) := by decide +kernel
theorem dX8_count_106 : decode cX8_count 106 = .ok (.istore_n 2, 1) := by decide +kernel
theorem dX8_count_107 : decode cX8_count 107 = .ok (.iinc 3 1, 3) := by decide +kernel
theorem dX8_count_110 : decode cX8_count 110 = .ok (.goto (-28), 3) := by decide +kernel
theorem dX8_count_113 : decode cX8_count 113 = .ok (.iload_n 2, 1) := by decide +kernel
theorem dX8_count_114 : decode cX8_count 114 = .ok (.ireturn, 1) := by decide +kernel
theorem dX8_count_115 : decode cX8_count 115 = .ok (.aload_n 0, 1) := by decide +kernel
theorem dX8_count_116 : decode cX8_count 116 = .ok (.invokevirtual 110, 3) := by decide +kernel
theorem dX8_count_119 : decode cX8_count 119 = .ok (.invokestatic 169, 3) := by decide +kernel
theorem dX8_count_122 : decode cX8_count 122 = .ok (.ireturn, 1) := by decide +kernel
theorem dX8_count_123 : decode cX8_count 123 = .ok (.aload_n 0, 1) := by decide +kernel
theorem dX8_count_124 : decode cX8_count 124 = .ok (.getfield 155, 3) := by decide +kernel
theorem dX8_count_127 : decode cX8_count 127 = .ok (.ireturn, 1) := by decide +kernel
theorem dX8_count_128 : decode cX8_count 128 = .ok (.aload_n 0, 1) := by decide +kernel
theorem dX8_count_129 : decode cX8_count 129 = .ok (.getfield 78, 3) := by decide +kernel
theorem dX8_count_132 : decode cX8_count 132 = .ok (.ifCond .eq 7, 3) := by decide +kernel
theorem dX8_count_135 : decode cX8_count 135 = .ok (.iconst 1, 1) := by decide +kernel
theorem dX8_count_136 : decode cX8_count 136 = .ok (.goto 4, 3) := by decide +kernel
theorem dX8_count_139 : decode cX8_count 139 = .ok (.iconst 0, 1) := by decide +kernel
theorem dX8_count_140 : decode cX8_count 140 = .ok (.ireturn, 1) := by decide +kernel
theorem dX8_count_141 : decode cX8_count 141 = .ok (.aload_n 0, 1) := by decide +kernel
theorem dX8_count_142 : decode cX8_count 142 = .ok (.iconst 0, 1) := by decide +kernel
theorem dX8_count_143 : decode cX8_count 143 = .ok (.invokevirtual 114, 3) := by decide +kernel
theorem dX8_count_146 : decode cX8_count 146 = .ok (.iconst (-1), 1) := by decide +kernel
theorem dX8_count_147 : decode cX8_count 147 = .ok (.if_icmp .ne 7, 3) := by decide +kernel
theorem dX8_count_150 : decode cX8_count 150 = .ok (.iconst 1, 1) := by decide +kernel
theorem dX8_count_151 : decode cX8_count 151 = .ok (.goto 4, 3) := by decide +kernel
theorem dX8_count_154 : decode cX8_count 154 = .ok (.iconst 0, 1) := by decide +kernel
theorem dX8_count_155 : decode cX8_count 155 = .ok (.ireturn, 1) := by decide +kernel
theorem dX8_count_156 : decode cX8_count 156 = .ok (.iconst (-1), 1) := by decide +kernel
theorem dX8_count_157 : decode cX8_count 157 = .ok (.ireturn, 1) := by decide +kernel
