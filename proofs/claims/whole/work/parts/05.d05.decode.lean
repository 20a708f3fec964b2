theorem dX5_group_86 : decode cX5_group 86 = .ok (.iadd, 1) := by decide +kernel
theorem dX5_group_87 : decode cX5_group 87 = .ok (.iload_n 3, 1) := by decide +kernel
theorem dX5_group_88 : decode cX5_group 88 = .ok (.iastore, 1) := by decide +kernel
theorem dX5_group_89 : decode cX5_group 89 = .ok (.iload 4, 2) := by decide +kernel
theorem dX5_group_91 : decode cX5_group 91 = .ok (.ireturn, 1) := by decide +kernel
theorem dX5_isUnit_0 : decode cX5_isUnit 0 = .ok (.iload_n 1, 1) := by decide +kernel
theorem dX5_isUnit_1 : decode cX5_isUnit 1 = .ok (.iconst 0, 1) := by decide +kernel
theorem dX5_isUnit_2 : decode cX5_isUnit 2 = .ok (.aload_n 0, 1) := by decide +kernel
theorem dX5_isUnit_3 : decode cX5_isUnit 3 = .ok (.getfield 63, 3) := by decide +kernel
theorem dX5_isUnit_6 : decode cX5_isUnit 6 = .ok (.iconst 1, 1) := by decide +kernel
theorem dX5_isUnit_7 : decode cX5_isUnit 7 = .ok (.isub, 1) := by decide +kernel
theorem dX5_isUnit_8 : decode cX5_isUnit 8 = .ok (.invokestatic 59, 3) := by decide +kernel
theorem dX5_isUnit_11 : decode cX5_isUnit 11 = .ok (.ireturn, 1) := by decide +kernel
theorem dX5_change_0 : decode cX5_change 0 = .ok (.aload_n 0, 1) := by decide +kernel
theorem dX5_change_1 : decode cX5_change 1 = .ok (.aload_n 0, 1) := by decide +kernel
theorem dX5_change_2 : decode cX5_change 2 = .ok (.iload_n 1, 1) := by decide +kernel
theorem dX5_change_3 : decode cX5_change 3 = .ok (.invokevirtual 66, 3) := by decide +kernel
theorem dX5_change_6 : decode cX5_change 6 = .ok (.ifCond .ne 7, 3) := by decide +kernel
theorem dX5_change_9 : decode cX5_change 9 = .ok (.iconst 1, 1) := by decide +kernel
theorem dX5_change_10 : decode cX5_change 10 = .ok (.goto 19, 3) := by decide +kernel
theorem dX5_change_13 : decode cX5_change 13 = .ok (.iload_n 2, 1) := by decide +kernel
theorem dX5_change_14 : decode cX5_change 14 = .ok (.iconst 0, 1) := by decide +kernel
theorem dX5_change_15 : decode cX5_change 15 = .ok (.sipush 1000, 3) := by decide +kernel
theorem dX5_change_18 : decode cX5_change 18 = .ok (.invokestatic 59, 3) := by decide +kernel
theorem dX5_change_21 : decode cX5_change 21 = .ok (.ifCond .ne 7, 3) := by decide +kernel
theorem dX5_change_24 : decode cX5_change 24 = .ok (.iconst 2, 1) := by decide +kernel
theorem dX5_change_25 : decode cX5_change 25 = .ok (.goto 4, 3) := by decide +kernel
theorem dX5_change_28 : decode cX5_change 28 = .ok (.iconst 0, 1) := by decide +kernel
theorem dX5_change_29 : decode cX5_change 29 = .ok (.putfield 53, 3) := by decide +kernel
theorem dX5_change_32 : decode cX5_change 32 = .ok (.aload_n 0, 1) := by decide +kernel
theorem dX5_change_33 : decode cX5_change 33 = .ok (.getfield 53, 3) := by decide +kernel
theorem dX5_change_36 : decode cX5_change 36 = .ok (.ifCond .le 5, 3) := by decide +kernel
theorem dX5_change_39 : decode cX5_change 39 = .ok (.iconst 0, 1) := by decide +kernel
theorem dX5_change_40 : decode cX5_change 40 = .ok (.ireturn, 1) := by decide +kernel
theorem dX5_change_41 : decode cX5_change 41 = .ok (.aload_n 0, 1) := by decide +kernel
theorem dX5_change_42 : decode cX5_change 42 = .ok (.getfield 25, 3) := by decide +kernel
theorem dX5_change_45 : decode cX5_change 45 = .ok (.iload_n 1, 1) := by decide +kernel
theorem dX5_change_46 : decode cX5_change 46 = .ok (.iaload, 1) := by decide +kernel
theorem dX5_change_47 : decode cX5_change 47 = .ok (.istore_n 3, 1) := by decide +kernel
theorem dX5_change_48 : decode cX5_change 48 = .ok (.aload_n 0, 1) := by decide +kernel
theorem dX5_change_49 : decode cX5_change 49 = .ok (.getfield 25, 3) := by decide +kernel
theorem dX5_change_52 : decode cX5_change 52 = .ok (.iload_n 1, 1) := by decide +kernel
theorem dX5_change_53 : decode cX5_change 53 = .ok (.iload_n 2, 1) := by decide +kernel
theorem dX5_change_54 : decode cX5_change 54 = .ok (.iastore, 1) := by decide +kernel
theorem dX5_change_55 : decode cX5_change 55 = .ok (.iload_n 3, 1) := by decide +kernel
theorem dX5_change_56 : decode cX5_change 56 = .ok (.ireturn, 1) := by decide +kernel
theorem dX5_slack_0 : decode cX5_slack 0 = .ok (.aload_n 0, 1) := by decide +kernel
theorem dX5_slack_1 : decode cX5_slack 1 = .ok (.iload_n 1, 1) := by decide +kernel
theorem dX5_slack_2 : decode cX5_slack 2 = .ok (.iconst 0, 1) := by decide +kernel
theorem dX5_slack_3 : decode cX5_slack 3 = .ok (.sipush 1000, 3) := by decide +kernel
theorem dX5_slack_6 : decode cX5_slack 6 = .ok (.invokestatic 59, 3) := by decide +kernel
theorem dX5_slack_9 : decode cX5_slack 9 = .ok (.ifCond .eq 7, 3) := by decide +kernel
theorem dX5_slack_12 : decode cX5_slack 12 = .ok (.iconst 0, 1) := by decide +kernel
theorem dX5_slack_13 : decode cX5_slack 13 = .ok (.goto 4, 3) := by decide +kernel
theorem dX5_slack_16 : decode cX5_slack 16 = .ok (.iconst 1, 1) := by decide +kernel
theorem dX5_slack_17 : decode cX5_slack 17 = .ok (.putfield 53, 3) := by decide +kernel
theorem dX5_slack_20 : decode cX5_slack 20 = .ok (.aload_n 0, 1) := by decide +kernel
theorem dX5_slack_21 : decode cX5_slack 21 = .ok (.getfield 53, 3) := by decide +kernel
theorem dX5_slack_24 : decode cX5_slack 24 = .ok (.ifCond .ne 8, 3) := by decide +kernel
theorem dX5_slack_27 : decode cX5_slack 27 = .ok (.aload_n 0, 1) := by decide +kernel
theorem dX5_slack_28 : decode cX5_slack 28 = .ok (.iload_n 1, 1) := by decide +kernel
theorem dX5_slack_29 : decode cX5_slack 29 = .ok (.putfield 70, 3) := by decide +kernel
theorem dX5_slack_32 : decode cX5_slack 32 = .ok (.return_, 1) := by decide +kernel
theorem dX5_choose_0 : decode cX5_choose 0 = .ok (.aload_n 0, 1) := by decide +kernel
theorem dX5_choose_1 : decode cX5_choose 1 = .ok (.iload_n 1, 1) := by decide +kernel
theorem dX5_choose_2 : decode cX5_choose 2 = .ok (.iconst 0, 1) := by decide +kernel
theorem dX5_choose_3 : decode cX5_choose 3 = .ok (.bipush 6, 2) := by decide +kernel
theorem dX5_choose_5 : decode cX5_choose 5 = .ok (.invokestatic 59, 3) := by decide +kernel
theorem dX5_choose_8 : decode cX5_choose 8 = .ok (.ifCond .eq 7, 3) := by decide +kernel
theorem dX5_choose_11 : decode cX5_choose 11 = .ok (.iconst 0, 1) := by decide +kernel
theorem dX5_choose_12 : decode cX5_choose 12 = .ok (.goto 4, 3) := by decide +kernel
theorem dX5_choose_15 : decode cX5_choose 15 = .ok (.iconst 1, 1) := by decide +kernel
theorem dX5_choose_16 : decode cX5_choose 16 = .ok (.putfield 53, 3) := by decide +kernel
theorem dX5_choose_19 : decode cX5_choose 19 = .ok (.aload_n 0, 1) := by decide +kernel
theorem dX5_choose_20 : decode cX5_choose 20 = .ok (.getfield 53, 3) := by decide +kernel
theorem dX5_choose_23 : decode cX5_choose 23 = .ok (.ifCond .le 5, 3) := by decide +kernel
theorem dX5_choose_26 : decode cX5_choose 26 = .ok (.iconst 0, 1) := by decide +kernel
theorem dX5_choose_27 : decode cX5_choose 27 = .ok (.ireturn, 1) := by decide +kernel
theorem dX5_choose_28 : decode cX5_choose 28 = .ok (.aload_n 0, 1) := by decide +kernel
theorem dX5_choose_29 : decode cX5_choose 29 = .ok (.iconst (-1), 1) := by decide +kernel
theorem dX5_choose_30 : decode cX5_choose 30 = .ok (.putfield 34, 3) := by decide +kernel
theorem dX5_choose_33 : decode cX5_choose 33 = .ok (.aload_n 0, 1) := by decide +kernel
theorem dX5_choose_34 : decode cX5_choose 34 = .ok (.getfield 63, 3) := by decide +kernel
theorem dX5_choose_37 : decode cX5_choose 37 = .ok (.iload_n 1, 1) := by decide +kernel
theorem dX5_choose_38 : decode cX5_choose 38 = .ok (.if_icmp .gt 7, 3) := by decide +kernel
theorem dX5_choose_41 : decode cX5_choose 41 = .ok (.iconst 1, 1) := by decide +kernel
theorem dX5_choose_42 : decode cX5_choose 42 = .ok (.goto 4, 3) := by decide +kernel
theorem dX5_choose_45 : decode cX5_choose 45 = .ok (.iconst 0, 1) := by decide +kernel
theorem dX5_choose_46 : decode cX5_choose 46 = .ok (.istore_n 2, 1) := by decide +kernel
theorem dX5_choose_47 : decode cX5_choose 47 = .ok (.iload_n 2, 1) := by decide +kernel
theorem dX5_choose_48 : decode cX5_choose 48 = .ok (.ifCond .eq 10, 3) := by decide +kernel
theorem dX5_choose_51 : decode cX5_choose 51 = .ok (.aload_n 0, 1) := by decide +kernel
theorem dX5_choose_52 : decode cX5_choose 52 = .ok (.invokevirtual 125, 3) := by decide +kernel
theorem dX5_choose_55 : decode cX5_choose 55 = .ok (.goto 7, 3) := by decide +kernel
theorem dX5_choose_58 : decode cX5_choose 58 = .ok (.aload_n 0, 1) := by decide +kernel
theorem dX5_choose_59 : decode cX5_choose 59 = .ok (.invokevirtual 128, 3) := by decide +kernel
theorem dX5_choose_62 : decode cX5_choose 62 = .ok (.aload_n 0, 1) := by decide +kernel
theorem dX5_choose_63 : decode cX5_choose 63 = .ok (.iload_n 2, 1) := by decide +kernel
theorem dX5_choose_64 : decode cX5_choose 64 = .ok (.ifCond .eq 15, 3) := by decide +kernel
theorem dX5_choose_67 : decode cX5_choose 67 = .ok (.aload_n 0, 1) := by decide +kernel
theorem dX5_choose_68 : decode cX5_choose 68 = .ok (.getfield 34, 3) := by decide +kernel
theorem dX5_choose_71 : decode cX5_choose 71 = .ok (.iconst (-1), 1) := by decide +kernel
theorem dX5_choose_72 : decode cX5_choose 72 = .ok (.if_icmp .eq 7, 3) := by decide +kernel
theorem dX5_choose_75 : decode cX5_choose 75 = .ok (.iconst 1, 1) := by decide +kernel
theorem dX5_choose_76 : decode cX5_choose 76 = .ok (.goto 4, 3) := by decide +kernel
theorem dX5_choose_79 : decode cX5_choose 79 = .ok (.iconst 0, 1) := by decide +kernel
theorem dX5_choose_80 : decode cX5_choose 80 = .ok (.putfield 131, 3) := by decide +kernel
theorem dX5_choose_83 : decode cX5_choose 83 = .ok (.aload_n 0, 1) := by decide +kernel
theorem dX5_choose_84 : decode cX5_choose 84 = .ok (.getfield 34, 3) := by decide +kernel
theorem dX5_choose_87 : decode cX5_choose 87 = .ok (.iconst (-1), 1) := by decide +kernel
theorem dX5_choose_88 : decode cX5_choose 88 = .ok (.if_icmp .ne 7, 3) := by decide +kernel
theorem dX5_choose_91 : decode cX5_choose 91 = .ok (.iconst (-1), 1) := by decide +kernel
theorem dX5_choose_92 : decode cX5_choose 92 = .ok (.goto 15, 3) := by decide +kernel
theorem dX5_choose_95 : decode cX5_choose 95 = .ok (.aload_n 0, 1) := by decide +kernel
theorem dX5_choose_96 : decode cX5_choose 96 = .ok (.aload_n 0, 1) := by decide +kernel
theorem dX5_choose_97 : decode cX5_choose 97 = .ok (.getfield 38, 3) := by decide +kernel
theorem dX5_choose_100 : decode cX5_choose 100 = .ok (.aload_n 0, 1) := by decide +kernel
theorem dX5_choose_101 : decode cX5_choose 101 = .ok (.getfield 34, 3) := by decide +kernel
theorem dX5_choose_104 : decode cX5_choose 104 = .ok (.invokevirtual 102, 3) := by decide +kernel
theorem dX5_choose_107 : decode cX5_choose 107 = .ok (.ireturn, 1) := by decide +kernel
theorem dX5_exactly_0 : decode cX5_exactly 0 = .ok (.iconst 0, 1) := by decide +kernel
theorem dX5_exactly_1 : decode cX5_exactly 1 = .ok (.istore_n 1, 1) := by decide +kernel
theorem dX5_exactly_2 : decode cX5_exactly 2 = .ok (.iload_n 1, 1) := by decide +kernel
theorem dX5_exactly_3 : decode cX5_exactly 3 = .ok (.aload_n 0, 1) := by decide +kernel
theorem dX5_exactly_4 : decode cX5_exactly 4 = .ok (.getfield 63, 3) := by decide +kernel
theorem dX5_exactly_7 : decode cX5_exactly 7 = .ok (.if_icmp .ge 16, 3) := by decide +kernel
theorem dX5_exactly_10 : decode cX5_exactly 10 = .ok (.aload_n 0, 1) := by decide +kernel
theorem dX5_exactly_11 : decode cX5_exactly 11 = .ok (.getfield 50, 3) := by decide +kernel
theorem dX5_exactly_14 : decode cX5_exactly 14 = .ok (.iload_n 1, 1) := by decide +kernel
theorem dX5_exactly_15 : decode cX5_exactly 15 = .ok (.iconst 0, 1) := by decide +kernel
theorem dX5_exactly_16 : decode cX5_exactly 16 = .ok (.iastore, 1) := by decide +kernel
theorem dX5_exactly_17 : decode cX5_exactly 17 = .ok (.iinc 1 1, 3) := by decide +kernel
theorem dX5_exactly_20 : decode cX5_exactly 20 = .ok (.goto (-18), 3) := by decide +kernel
theorem dX5_exactly_23 : decode cX5_exactly 23 = .ok (.iconst 1, 1) := by decide +kernel
theorem dX5_exactly_24 : decode cX5_exactly 24 = .ok (.istore_n 1, 1) := by decide +kernel
theorem dX5_exactly_25 : decode cX5_exactly 25 = .ok (.iload_n 1, 1) := by decide +kernel
theorem dX5_exactly_26 : decode cX5_exactly 26 = .ok (.ifCond .eq 29, 3) := by decide +kernel
theorem dX5_exactly_29 : decode cX5_exactly 29 = .ok (.aload_n 0, 1) := by decide +kernel
theorem dX5_exactly_30 : decode cX5_exactly 30 = .ok (.invokevirtual 109, 3) := by decide +kernel
theorem dX5_exactly_33 : decode cX5_exactly 33 = .ok (.ifCond .eq 14, 3) := by decide +kernel
theorem dX5_exactly_36 : decode cX5_exactly 36 = .ok (.aload_n 0, 1) := by decide +kernel
theorem dX5_exactly_37 : decode cX5_exactly 37 = .ok (.invokevirtual 113, 3) := by decide +kernel
theorem dX5_exactly_40 : decode cX5_exactly 40 = .ok (.ifCond .eq 7, 3) := by decide +kernel
theorem dX5_exactly_43 : decode cX5_exactly 43 = .ok (.aload_n 0, 1) := by decide +kernel
theorem dX5_exactly_44 : decode cX5_exactly 44 = .ok (.invokevirtual 116, 3) := by decide +kernel
theorem dX5_exactly_47 : decode cX5_exactly 47 = .ok (.aload_n 0, 1) := by decide +kernel
theorem dX5_exactly_48 : decode cX5_exactly 48 = .ok (.invokevirtual 119, 3) := by decide +kernel
theorem dX5_exactly_51 : decode cX5_exactly 51 = .ok (.istore_n 1, 1) := by decide +kernel
theorem dX5_exactly_52 : decode cX5_exactly 52 = .ok (.goto (-27), 3) := by decide +kernel
theorem dX5_exactly_55 : decode cX5_exactly 55 = .ok (.return_, 1) := by decide +kernel
theorem dX5_isWay_0 : decode cX5_isWay 0 = .ok (.aload_n 0, 1) := by decide +kernel
theorem dX5_isWay_1 : decode cX5_isWay 1 = .ok (.iconst 0, 1) := by decide +kernel
theorem dX5_isWay_2 : decode cX5_isWay 2 = .ok (.putfield 99, 3) := by decide +kernel
theorem dX5_isWay_5 : decode cX5_isWay 5 = .ok (.iconst 0, 1) := by decide +kernel
theorem dX5_isWay_6 : decode cX5_isWay 6 = .ok (.istore_n 1, 1) := by decide +kernel
theorem dX5_isWay_7 : decode cX5_isWay 7 = .ok (.iload_n 1, 1) := by decide +kernel
theorem dX5_isWay_8 : decode cX5_isWay 8 = .ok (.bipush 8, 2) := by decide +kernel
theorem dX5_isWay_10 : decode cX5_isWay 10 = .ok (.if_icmp .ge 16, 3) := by decide +kernel
theorem dX5_isWay_13 : decode cX5_isWay 13 = .ok (.aload_n 0, 1) := by decide +kernel
theorem dX5_isWay_14 : decode cX5_isWay 14 = .ok (.getfield 47, 3) := by decide +kernel
theorem dX5_isWay_17 : decode cX5_isWay 17 = .ok (.iload_n 1, 1) := by decide +kernel
theorem dX5_isWay_18 : decode cX5_isWay 18 = .ok (.iconst 0, 1) := by decide +kernel
theorem dX5_isWay_19 : decode cX5_isWay 19 = .ok (.iastore, 1) := by decide +kernel
theorem dX5_isWay_20 : decode cX5_isWay 20 = .ok (.iinc 1 1, 3) := by decide +kernel
theorem dX5_isWay_23 : decode cX5_isWay 23 = .ok (.goto (-16), 3) := by decide +kernel
theorem dX5_isWay_26 : decode cX5_isWay 26 = .ok (.iconst 0, 1) := by decide +kernel
theorem dX5_isWay_27 : decode cX5_isWay 27 = .ok (.istore_n 1, 1) := by decide +kernel
theorem dX5_isWay_28 : decode cX5_isWay 28 = .ok (.iload_n 1, 1) := by decide +kernel
theorem dX5_isWay_29 : decode cX5_isWay 29 = .ok (.aload_n 0, 1) := by decide +kernel
theorem dX5_isWay_30 : decode cX5_isWay 30 = .ok (.getfield 63, 3) := by decide +kernel
theorem dX5_isWay_33 : decode cX5_isWay 33 = .ok (.if_icmp .ge 60, 3) := by decide +kernel
theorem dX5_isWay_36 : decode cX5_isWay 36 = .ok (.aload_n 0, 1) := by decide +kernel
theorem dX5_isWay_37 : decode cX5_isWay 37 = .ok (.getfield 47, 3) := by decide +kernel
theorem dX5_isWay_40 : decode cX5_isWay 40 = .ok (.aload_n 0, 1) := by decide +kernel
theorem dX5_isWay_41 : decode cX5_isWay 41 = .ok (.getfield 50, 3) := by decide +kernel
theorem dX5_isWay_44 : decode cX5_isWay 44 = .ok (.iload_n 1, 1) := by decide +kernel
theorem dX5_isWay_45 : decode cX5_isWay 45 = .ok (.iaload, 1) := by decide +kernel
theorem dX5_isWay_46 : decode cX5_isWay 46 = .ok (.dup2, 1) := by decide +kernel
theorem dX5_isWay_47 : decode cX5_isWay 47 = .ok (.iaload, 1) := by decide +kernel
theorem dX5_isWay_48 : decode cX5_isWay 48 = .ok (.iconst 1, 1) := by decide +kernel
theorem dX5_isWay_49 : decode cX5_isWay 49 = .ok (.iload_n 1, 1) := by decide +kernel
theorem dX5_isWay_50 : decode cX5_isWay 50 = .ok (.ishl, 1) := by decide +kernel
theorem dX5_isWay_51 : decode cX5_isWay 51 = .ok (.ior, 1) := by decide +kernel
theorem dX5_isWay_52 : decode cX5_isWay 52 = .ok (.iastore, 1) := by decide +kernel
theorem dX5_isWay_53 : decode cX5_isWay 53 = .ok (.aload_n 0, 1) := by decide +kernel
theorem dX5_isWay_54 : decode cX5_isWay 54 = .ok (.aload_n 0, 1) := by decide +kernel
theorem dX5_isWay_55 : decode cX5_isWay 55 = .ok (.getfield 50, 3) := by decide +kernel
theorem dX5_isWay_58 : decode cX5_isWay 58 = .ok (.iload_n 1, 1) := by decide +kernel
theorem dX5_isWay_59 : decode cX5_isWay 59 = .ok (.iaload, 1) := by decide +kernel
theorem dX5_isWay_60 : decode cX5_isWay 60 = .ok (.iconst 1, 1) := by decide +kernel
theorem dX5_isWay_61 : decode cX5_isWay 61 = .ok (.iadd, 1) := by decide +kernel
theorem dX5_isWay_62 : decode cX5_isWay 62 = .ok (.aload_n 0, 1) := by decide +kernel
theorem dX5_isWay_63 : decode cX5_isWay 63 = .ok (.getfield 99, 3) := by decide +kernel
theorem dX5_isWay_66 : decode cX5_isWay 66 = .ok (.if_icmp .le 14, 3) := by decide +kernel
theorem dX5_isWay_69 : decode cX5_isWay 69 = .ok (.aload_n 0, 1) := by decide +kernel
theorem dX5_isWay_70 : decode cX5_isWay 70 = .ok (.getfield 50, 3) := by decide +kernel
theorem dX5_isWay_73 : decode cX5_isWay 73 = .ok (.iload_n 1, 1) := by decide +kernel
theorem dX5_isWay_74 : decode cX5_isWay 74 = .ok (.iaload, 1) := by decide +kernel
theorem dX5_isWay_75 : decode cX5_isWay 75 = .ok (.iconst 1, 1) := by decide +kernel
theorem dX5_isWay_76 : decode cX5_isWay 76 = .ok (.iadd, 1) := by decide +kernel
theorem dX5_isWay_77 : decode cX5_isWay 77 = .ok (.goto 7, 3) := by decide +kernel
theorem dX5_isWay_80 : decode cX5_isWay 80 = .ok (.aload_n 0, 1) := by decide +kernel
theorem dX5_isWay_81 : decode cX5_isWay 81 = .ok (.getfield 99, 3) := by decide +kernel
theorem dX5_isWay_84 : decode cX5_isWay 84 = .ok (.putfield 99, 3) := by decide +kernel
theorem dX5_isWay_87 : decode cX5_isWay 87 = .ok (.iinc 1 1, 3) := by decide +kernel
theorem dX5_isWay_90 : decode cX5_isWay 90 = .ok (.goto (-62), 3) := by decide +kernel
theorem dX5_isWay_93 : decode cX5_isWay 93 = .ok (.iconst 0, 1) := by decide +kernel
theorem dX5_isWay_94 : decode cX5_isWay 94 = .ok (.istore_n 1, 1) := by decide +kernel
theorem dX5_isWay_95 : decode cX5_isWay 95 = .ok (.iload_n 1, 1) := by decide +kernel
theorem dX5_isWay_96 : decode cX5_isWay 96 = .ok (.aload_n 0, 1) := by decide +kernel
theorem dX5_isWay_97 : decode cX5_isWay 97 = .ok (.getfield 99, 3) := by decide +kernel
theorem dX5_isWay_100 : decode cX5_isWay 100 = .ok (.if_icmp .ge 37, 3) := by decide +kernel
theorem dX5_isWay_103 : decode cX5_isWay 103 = .ok (.aload_n 0, 1) := by decide +kernel
theorem dX5_isWay_104 : decode cX5_isWay 104 = .ok (.getfield 44, 3) := by decide +kernel
theorem dX5_isWay_107 : decode cX5_isWay 107 = .ok (.iload_n 1, 1) := by decide +kernel
theorem dX5_isWay_108 : decode cX5_isWay 108 = .ok (.aload_n 0, 1) := by decide +kernel
theorem dX5_isWay_109 : decode cX5_isWay 109 = .ok (.aload_n 0, 1) := by decide +kernel
theorem dX5_isWay_110 : decode cX5_isWay 110 = .ok (.getfield 47, 3) := by decide +kernel
theorem dX5_isWay_113 : decode cX5_isWay 113 = .ok (.iload_n 1, 1) := by decide +kernel
theorem dX5_isWay_114 : decode cX5_isWay 114 = .ok (.iaload, 1) := by decide +kernel
theorem dX5_isWay_115 : decode cX5_isWay 115 = .ok (.invokevirtual 106, 3) := by decide +kernel
theorem dX5_isWay_118 : decode cX5_isWay 118 = .ok (.iastore, 1) := by decide +kernel
theorem dX5_isWay_119 : decode cX5_isWay 119 = .ok (.aload_n 0, 1) := by decide +kernel
theorem dX5_isWay_120 : decode cX5_isWay 120 = .ok (.getfield 44, 3) := by decide +kernel
theorem dX5_isWay_123 : decode cX5_isWay 123 = .ok (.iload_n 1, 1) := by decide +kernel
theorem dX5_isWay_124 : decode cX5_isWay 124 = .ok (.iaload, 1) := by decide +kernel
theorem dX5_isWay_125 : decode cX5_isWay 125 = .ok (.iconst (-1), 1) := by decide +kernel
theorem dX5_isWay_126 : decode cX5_isWay 126 = .ok (.if_icmp .ne 5, 3) := by decide +kernel
theorem dX5_isWay_129 : decode cX5_isWay 129 = .ok (.iconst 0, 1) := by decide +kernel
theorem dX5_isWay_130 : decode cX5_isWay 130 = .ok (.ireturn, 1) := by decide +kernel
theorem dX5_isWay_131 : decode cX5_isWay 131 = .ok (.iinc 1 1, 3) := by decide +kernel
theorem dX5_isWay_134 : decode cX5_isWay 134 = .ok (.goto (-39), 3) := by decide +kernel
theorem dX5_isWay_137 : decode cX5_isWay 137 = .ok (.iconst 1, 1) := by decide +kernel
theorem dX5_isWay_138 : decode cX5_isWay 138 = .ok (.ireturn, 1) := by decide +kernel
theorem dX5_cheapest_0 : decode cX5_cheapest 0 = .ok (.iconst (-1), 1) := by decide +kernel
theorem dX5_cheapest_1 : decode cX5_cheapest 1 = .ok (.istore_n 2, 1) := by decide +kernel
theorem dX5_cheapest_2 : decode cX5_cheapest 2 = .ok (.iconst 0, 1) := by decide +kernel
theorem dX5_cheapest_3 : decode cX5_cheapest 3 = .ok (.istore_n 3, 1) := by decide +kernel
theorem dX5_cheapest_4 : decode cX5_cheapest 4 = .ok (.iload_n 3, 1) := by decide +kernel
theorem dX5_cheapest_5 : decode cX5_cheapest 5 = .ok (.aload_n 0, 1) := by decide +kernel
theorem dX5_cheapest_6 : decode cX5_cheapest 6 = .ok (.getfield 56, 3) := by decide +kernel
theorem dX5_cheapest_9 : decode cX5_cheapest 9 = .ok (.if_icmp .ge 40, 3) := by decide +kernel
theorem dX5_cheapest_12 : decode cX5_cheapest 12 = .ok (.aload_n 0, 1) := by decide +kernel
theorem dX5_cheapest_13 : decode cX5_cheapest 13 = .ok (.iload_n 3, 1) := by decide +kernel
theorem dX5_cheapest_14 : decode cX5_cheapest 14 = .ok (.iload_n 1, 1) := by decide +kernel
theorem dX5_cheapest_15 : decode cX5_cheapest 15 = .ok (.invokevirtual 96, 3) := by decide +kernel
theorem dX5_cheapest_18 : decode cX5_cheapest 18 = .ok (.ifCond .eq 25, 3) := by decide +kernel
theorem dX5_cheapest_21 : decode cX5_cheapest 21 = .ok (.iload_n 2, 1) := by decide +kernel
theorem dX5_cheapest_22 : decode cX5_cheapest 22 = .ok (.iconst (-1), 1) := by decide +kernel
theorem dX5_cheapest_23 : decode cX5_cheapest 23 = .ok (.if_icmp .eq 18, 3) := by decide +kernel
theorem dX5_cheapest_26 : decode cX5_cheapest 26 = .ok (.aload_n 0, 1) := by decide +kernel
theorem dX5_cheapest_27 : decode cX5_cheapest 27 = .ok (.getfield 16, 3) := by decide +kernel
theorem dX5_cheapest_30 : decode cX5_cheapest 30 = .ok (.iload_n 3, 1) := by decide +kernel
theorem dX5_cheapest_31 : decode cX5_cheapest 31 = .ok (.iaload, 1) := by decide +kernel
theorem dX5_cheapest_32 : decode cX5_cheapest 32 = .ok (.aload_n 0, 1) := by decide +kernel
theorem dX5_cheapest_33 : decode cX5_cheapest 33 = .ok (.getfield 16, 3) := by decide +kernel
theorem dX5_cheapest_36 : decode cX5_cheapest 36 = .ok (.iload_n 2, 1) := by decide +kernel
theorem dX5_cheapest_37 : decode cX5_cheapest 37 = .ok (.iaload, 1) := by decide +kernel
theorem dX5_cheapest_38 : decode cX5_cheapest 38 = .ok (.if_icmp .ge 5, 3) := by decide +kernel
theorem dX5_cheapest_41 : decode cX5_cheapest 41 = .ok (.iload_n 3, 1) := by decide +kernel
theorem dX5_cheapest_42 : decode cX5_cheapest 42 = .ok (.istore_n 2, 1) := by decide +kernel
theorem dX5_cheapest_43 : decode cX5_cheapest 43 = .ok (.iinc 3 1, 3) := by decide +kernel
theorem dX5_cheapest_46 : decode cX5_cheapest 46 = .ok (.goto (-42), 3) := by decide +kernel
theorem dX5_cheapest_49 : decode cX5_cheapest 49 = .ok (.iload_n 2, 1) := by decide +kernel
theorem dX5_cheapest_50 : decode cX5_cheapest 50 = .ok (.ireturn, 1) := by decide +kernel
theorem dX5_fitsSet_0 : decode cX5_fitsSet 0 = .ok (.aload_n 0, 1) := by decide +kernel
theorem dX5_fitsSet_1 : decode cX5_fitsSet 1 = .ok (.iload_n 1, 1) := by decide +kernel
theorem dX5_fitsSet_2 : decode cX5_fitsSet 2 = .ok (.iload_n 2, 1) := by decide +kernel
theorem dX5_fitsSet_3 : decode cX5_fitsSet 3 = .ok (.iconst 3, 1) := by decide +kernel
theorem dX5_fitsSet_4 : decode cX5_fitsSet 4 = .ok (.invokevirtual 87, 3) := by decide +kernel
theorem dX5_fitsSet_7 : decode cX5_fitsSet 7 = .ok (.ifCond .eq 23, 3) := by decide +kernel
theorem dX5_fitsSet_10 : decode cX5_fitsSet 10 = .ok (.aload_n 0, 1) := by decide +kernel
theorem dX5_fitsSet_11 : decode cX5_fitsSet 11 = .ok (.iload_n 2, 1) := by decide +kernel
theorem dX5_fitsSet_12 : decode cX5_fitsSet 12 = .ok (.invokevirtual 90, 3) := by decide +kernel
theorem dX5_fitsSet_15 : decode cX5_fitsSet 15 = .ok (.ifCond .ne 15, 3) := by decide +kernel
theorem dX5_fitsSet_18 : decode cX5_fitsSet 18 = .ok (.aload_n 0, 1) := by decide +kernel
theorem dX5_fitsSet_19 : decode cX5_fitsSet 19 = .ok (.iload_n 2, 1) := by decide +kernel
theorem dX5_fitsSet_20 : decode cX5_fitsSet 20 = .ok (.invokevirtual 93, 3) := by decide +kernel
theorem dX5_fitsSet_23 : decode cX5_fitsSet 23 = .ok (.ifCond .eq 7, 3) := by decide +kernel
theorem dX5_fitsSet_26 : decode cX5_fitsSet 26 = .ok (.iconst 1, 1) := by decide +kernel
theorem dX5_fitsSet_27 : decode cX5_fitsSet 27 = .ok (.goto 4, 3) := by decide +kernel
theorem dX5_fitsSet_30 : decode cX5_fitsSet 30 = .ok (.iconst 0, 1) := by decide +kernel
theorem dX5_fitsSet_31 : decode cX5_fitsSet 31 = .ok (.ireturn, 1) := by decide +kernel
theorem dX5_passes_0 : decode cX5_passes 0 = .ok (.iload_n 3, 1) := by decide +kernel
theorem dX5_passes_1 : decode cX5_passes 1 = .ok (.ifCond .le 14, 3) := by decide +kernel
theorem dX5_passes_4 : decode cX5_passes 4 = .ok (.aload_n 0, 1) := by decide +kernel
theorem dX5_passes_5 : decode cX5_passes 5 = .ok (.iload_n 1, 1) := by decide +kernel
theorem dX5_passes_6 : decode cX5_passes 6 = .ok (.iload_n 2, 1) := by decide +kernel
theorem dX5_passes_7 : decode cX5_passes 7 = .ok (.invokevirtual 77, 3) := by decide +kernel
theorem dX5_passes_10 : decode cX5_passes 10 = .ok (.ifCond .ne 5, 3) := by decide +kernel
theorem dX5_passes_13 : decode cX5_passes 13 = .ok (.iconst 0, 1) := by decide +kernel
theorem dX5_passes_14 : decode cX5_passes 14 = .ok (.ireturn, 1) := by decide +kernel
theorem dX5_passes_15 : decode cX5_passes 15 = .ok (.iload_n 3, 1) := by decide +kernel
theorem dX5_passes_16 : decode cX5_passes 16 = .ok (.iconst 1, 1) := by decide +kernel
theorem dX5_passes_17 : decode cX5_passes 17 = .ok (.if_icmp .le 24, 3) := by decide +kernel
theorem dX5_passes_20 : decode cX5_passes 20 = .ok (.aload_n 0, 1) := by decide +kernel
theorem dX5_passes_21 : decode cX5_passes 21 = .ok (.iload_n 2, 1) := by decide +kernel
theorem dX5_passes_22 : decode cX5_passes 22 = .ok (.invokevirtual 80, 3) := by decide +kernel
theorem dX5_passes_25 : decode cX5_passes 25 = .ok (.aload_n 0, 1) := by decide +kernel
theorem dX5_passes_26 : decode cX5_passes 26 = .ok (.getfield 7, 3) := by decide +kernel
theorem dX5_passes_29 : decode cX5_passes 29 = .ok (.iload_n 1, 1) := by decide +kernel
theorem dX5_passes_30 : decode cX5_passes 30 = .ok (.iaload, 1) := by decide +kernel
theorem dX5_passes_31 : decode cX5_passes 31 = .ok (.aload_n 0, 1) := by decide +kernel
theorem dX5_passes_32 : decode cX5_passes 32 = .ok (.getfield 70, 3) := by decide +kernel
theorem dX5_passes_35 : decode cX5_passes 35 = .ok (.isub, 1) := by decide +kernel
theorem dX5_passes_36 : decode cX5_passes 36 = .ok (.if_icmp .le 5, 3) := by decide +kernel
theorem dX5_passes_39 : decode cX5_passes 39 = .ok (.iconst 0, 1) := by decide +kernel
theorem dX5_passes_40 : decode cX5_passes 40 = .ok (.ireturn, 1) := by decide +kernel
theorem dX5_passes_41 : decode cX5_passes 41 = .ok (.iload_n 3, 1) := by decide +kernel
theorem dX5_passes_42 : decode cX5_passes 42 = .ok (.iconst 3, 1) := by decide +kernel
theorem dX5_passes_43 : decode cX5_passes 43 = .ok (.if_icmp .lt 17, 3) := by decide +kernel
theorem dX5_passes_46 : decode cX5_passes 46 = .ok (.aload_n 0, 1) := by decide +kernel
theorem dX5_passes_47 : decode cX5_passes 47 = .ok (.iload_n 2, 1) := by decide +kernel
theorem dX5_passes_48 : decode cX5_passes 48 = .ok (.invokevirtual 84, 3) := by decide +kernel
theorem dX5_passes_51 : decode cX5_passes 51 = .ok (.aload_n 0, 1) := by decide +kernel
theorem dX5_passes_52 : decode cX5_passes 52 = .ok (.getfield 13, 3) := by decide +kernel
theorem dX5_passes_55 : decode cX5_passes 55 = .ok (.iload_n 1, 1) := by decide +kernel
theorem dX5_passes_56 : decode cX5_passes 56 = .ok (.iaload, 1) := by decide +kernel
theorem dX5_passes_57 : decode cX5_passes 57 = .ok (.if_icmp .gt 7, 3) := by decide +kernel
theorem dX5_passes_60 : decode cX5_passes 60 = .ok (.iconst 1, 1) := by decide +kernel
theorem dX5_passes_61 : decode cX5_passes 61 = .ok (.goto 4, 3) := by decide +kernel
theorem dX5_passes_64 : decode cX5_passes 64 = .ok (.iconst 0, 1) := by decide +kernel
theorem dX5_passes_65 : decode cX5_passes 65 = .ok (.ireturn, 1) := by decide +kernel
theorem dX5_takesKinds_0 : decode cX5_takesKinds 0 = .ok (.iconst 0, 1) := by decide +kernel
theorem dX5_takesKinds_1 : decode cX5_takesKinds 1 = .ok (.istore_n 3, 1) := by decide +kernel
theorem dX5_takesKinds_2 : decode cX5_takesKinds 2 = .ok (.iload_n 3, 1) := by decide +kernel
theorem dX5_takesKinds_3 : decode cX5_takesKinds 3 = .ok (.aload_n 0, 1) := by decide +kernel
theorem dX5_takesKinds_4 : decode cX5_takesKinds 4 = .ok (.getfield 63, 3) := by decide +kernel
theorem dX5_takesKinds_7 : decode cX5_takesKinds 7 = .ok (.if_icmp .ge 37, 3) := by decide +kernel
theorem dX5_takesKinds_10 : decode cX5_takesKinds 10 = .ok (.iload_n 2, 1) := by decide +kernel
theorem dX5_takesKinds_11 : decode cX5_takesKinds 11 = .ok (.iload_n 3, 1) := by decide +kernel
theorem dX5_takesKinds_12 : decode cX5_takesKinds 12 = .ok (.invokestatic 73, 3) := by decide +kernel
theorem dX5_takesKinds_15 : decode cX5_takesKinds 15 = .ok (.ifCond .eq 23, 3) := by decide +kernel
theorem dX5_takesKinds_18 : decode cX5_takesKinds 18 = .ok (.aload_n 0, 1) := by decide +kernel
theorem dX5_takesKinds_19 : decode cX5_takesKinds 19 = .ok (.getfield 19, 3) := by decide +kernel
theorem dX5_takesKinds_22 : decode cX5_takesKinds 22 = .ok (.iload_n 1, 1) := by decide +kernel
theorem dX5_takesKinds_23 : decode cX5_takesKinds 23 = .ok (.iaload, 1) := by decide +kernel
theorem dX5_takesKinds_24 : decode cX5_takesKinds 24 = .ok (.aload_n 0, 1) := by decide +kernel
theorem dX5_takesKinds_25 : decode cX5_takesKinds 25 = .ok (.getfield 28, 3) := by decide +kernel
theorem dX5_takesKinds_28 : decode cX5_takesKinds 28 = .ok (.iload_n 3, 1) := by decide +kernel
theorem dX5_takesKinds_29 : decode cX5_takesKinds 29 = .ok (.iaload, 1) := by decide +kernel
theorem dX5_takesKinds_30 : decode cX5_takesKinds 30 = .ok (.ishr, 1) := by decide +kernel
theorem dX5_takesKinds_31 : decode cX5_takesKinds 31 = .ok (.iconst 1, 1) := by decide +kernel
theorem dX5_takesKinds_32 : decode cX5_takesKinds 32 = .ok (.iand, 1) := by decide +kernel
theorem dX5_takesKinds_33 : decode cX5_takesKinds 33 = .ok (.ifCond .ne 5, 3) := by decide +kernel
theorem dX5_takesKinds_36 : decode cX5_takesKinds 36 = .ok (.iconst 0, 1) := by decide +kernel
theorem dX5_takesKinds_37 : decode cX5_takesKinds 37 = .ok (.ireturn, 1) := by decide +kernel
theorem dX5_takesKinds_38 : decode cX5_takesKinds 38 = .ok (.iinc 3 1, 3) := by decide +kernel
theorem dX5_takesKinds_41 : decode cX5_takesKinds 41 = .ok (.goto (-39), 3) := by decide +kernel
theorem dX5_takesKinds_44 : decode cX5_takesKinds 44 = .ok (.iconst 1, 1) := by decide +kernel
theorem dX5_takesKinds_45 : decode cX5_takesKinds 45 = .ok (.ireturn, 1) := by decide +kernel
theorem dX5_has_0 : decode cX5_has 0 = .ok (.iload_n 0, 1) := by decide +kernel
theorem dX5_has_1 : decode cX5_has 1 = .ok (.iload_n 1, 1) := by decide +kernel
theorem dX5_has_2 : decode cX5_has 2 = .ok (.ishr, 1) := by decide +kernel
theorem dX5_has_3 : decode cX5_has 3 = .ok (.iconst 1, 1) := by decide +kernel
theorem dX5_has_4 : decode cX5_has 4 = .ok (.iand, 1) := by decide +kernel
theorem dX5_has_5 : decode cX5_has 5 = .ok (.iconst 1, 1) := by decide +kernel
theorem dX5_has_6 : decode cX5_has 6 = .ok (.if_icmp .ne 7, 3) := by decide +kernel
theorem dX5_has_9 : decode cX5_has 9 = .ok (.iconst 1, 1) := by decide +kernel
theorem dX5_has_10 : decode cX5_has 10 = .ok (.goto 4, 3) := by decide +kernel
theorem dX5_has_13 : decode cX5_has 13 = .ok (.iconst 0, 1) := by decide +kernel
theorem dX5_has_14 : decode cX5_has 14 = .ok (.ireturn, 1) := by decide +kernel
theorem dX5_sizes_0 : decode cX5_sizes 0 = .ok (.iconst 0, 1) := by decide +kernel
theorem dX5_sizes_1 : decode cX5_sizes 1 = .ok (.istore_n 2, 1) := by decide +kernel
theorem dX5_sizes_2 : decode cX5_sizes 2 = .ok (.iconst 0, 1) := by decide +kernel
theorem dX5_sizes_3 : decode cX5_sizes 3 = .ok (.istore_n 3, 1) := by decide +kernel
theorem dX5_sizes_4 : decode cX5_sizes 4 = .ok (.iload_n 3, 1) := by decide +kernel
theorem dX5_sizes_5 : decode cX5_sizes 5 = .ok (.aload_n 0, 1) := by decide +kernel
theorem dX5_sizes_6 : decode cX5_sizes 6 = .ok (.getfield 63, 3) := by decide +kernel
theorem dX5_sizes_9 : decode cX5_sizes 9 = .ok (.if_icmp .ge 30, 3) := by decide +kernel
theorem dX5_sizes_12 : decode cX5_sizes 12 = .ok (.iload_n 2, 1) := by decide +kernel
theorem dX5_sizes_13 : decode cX5_sizes 13 = .ok (.iload_n 1, 1) := by decide +kernel
theorem dX5_sizes_14 : decode cX5_sizes 14 = .ok (.iload_n 3, 1) := by decide +kernel
theorem dX5_sizes_15 : decode cX5_sizes 15 = .ok (.invokestatic 73, 3) := by decide +kernel
theorem dX5_sizes_18 : decode cX5_sizes 18 = .ok (.ifCond .eq 12, 3) := by decide +kernel
theorem dX5_sizes_21 : decode cX5_sizes 21 = .ok (.aload_n 0, 1) := by decide +kernel
theorem dX5_sizes_22 : decode cX5_sizes 22 = .ok (.getfield 22, 3) := by decide +kernel
theorem dX5_sizes_25 : decode cX5_sizes 25 = .ok (.iload_n 3, 1) := by decide +kernel
theorem dX5_sizes_26 : decode cX5_sizes 26 = .ok (.iaload, 1) := by decide +kernel
theorem dX5_sizes_27 : decode cX5_sizes 27 = .ok (.goto 4, 3) := by decide +kernel
theorem dX5_sizes_30 : decode cX5_sizes 30 = .ok (.iconst 0, 1) := by decide +kernel
theorem dX5_sizes_31 : decode cX5_sizes 31 = .ok (.iadd, 1) := by decide +kernel
theorem dX5_sizes_32 : decode cX5_sizes 32 = .ok (.istore_n 2, 1) := by decide +kernel
theorem dX5_sizes_33 : decode cX5_sizes 33 = .ok (.iinc 3 1, 3) := by decide +kernel
theorem dX5_sizes_36 : decode cX5_sizes 36 = .ok (.goto (-32), 3) := by decide +kernel
theorem dX5_sizes_39 : decode cX5_sizes 39 = .ok (.iload_n 2, 1) := by decide +kernel
theorem dX5_sizes_40 : decode cX5_sizes 40 = .ok (.ireturn, 1) := by decide +kernel
theorem dX5_weights_0 : decode cX5_weights 0 = .ok (.iconst 0, 1) := by decide +kernel
theorem dX5_weights_1 : decode cX5_weights 1 = .ok (.istore_n 2, 1) := by decide +kernel
theorem dX5_weights_2 : decode cX5_weights 2 = .ok (.iconst 0, 1) := by decide +kernel
theorem dX5_weights_3 : decode cX5_weights 3 = .ok (.istore_n 3, 1) := by decide +kernel
theorem dX5_weights_4 : decode cX5_weights 4 = .ok (.iload_n 3, 1) := by decide +kernel
theorem dX5_weights_5 : decode cX5_weights 5 = .ok (.aload_n 0, 1) := by decide +kernel
theorem dX5_weights_6 : decode cX5_weights 6 = .ok (.getfield 63, 3) := by decide +kernel
theorem dX5_weights_9 : decode cX5_weights 9 = .ok (.if_icmp .ge 30, 3) := by decide +kernel
theorem dX5_weights_12 : decode cX5_weights 12 = .ok (.iload_n 2, 1) := by decide +kernel
theorem dX5_weights_13 : decode cX5_weights 13 = .ok (.iload_n 1, 1) := by decide +kernel
theorem dX5_weights_14 : decode cX5_weights 14 = .ok (.iload_n 3, 1) := by decide +kernel
theorem dX5_weights_15 : decode cX5_weights 15 = .ok (.invokestatic 73, 3) := by decide +kernel
theorem dX5_weights_18 : decode cX5_weights 18 = .ok (.ifCond .eq 12, 3) := by decide +kernel
theorem dX5_weights_21 : decode cX5_weights 21 = .ok (.aload_n 0, 1) := by decide +kernel
theorem dX5_weights_22 : decode cX5_weights 22 = .ok (.getfield 25, 3) := by decide +kernel
theorem dX5_weights_25 : decode cX5_weights 25 = .ok (.iload_n 3, 1) := by decide +kernel
theorem dX5_weights_26 : decode cX5_weights 26 = .ok (.iaload, 1) := by decide +kernel
theorem dX5_weights_27 : decode cX5_weights 27 = .ok (.goto 4, 3) := by decide +kernel
theorem dX5_weights_30 : decode cX5_weights 30 = .ok (.iconst 0, 1) := by decide +kernel
theorem dX5_weights_31 : decode cX5_weights 31 = .ok (.iadd, 1) := by decide +kernel
theorem dX5_weights_32 : decode cX5_weights 32 = .ok (.istore_n 2, 1) := by decide +kernel
theorem dX5_weights_33 : decode cX5_weights 33 = .ok (.iinc 3 1, 3) := by decide +kernel
theorem dX5_weights_36 : decode cX5_weights 36 = .ok (.goto (-32), 3) := by decide +kernel
theorem dX5_weights_39 : decode cX5_weights 39 = .ok (.iload_n 2, 1) := by decide +kernel
theorem dX5_weights_40 : decode cX5_weights 40 = .ok (.ireturn, 1) := by decide +kernel
theorem dX5_hasApart_0 : decode cX5_hasApart 0 = .ok (.iconst 0, 1) := by decide +kernel
theorem dX5_hasApart_1 : decode cX5_hasApart 1 = .ok (.istore_n 2, 1) := by decide +kernel
theorem dX5_hasApart_2 : decode cX5_hasApart 2 = .ok (.iload_n 2, 1) := by decide +kernel
theorem dX5_hasApart_3 : decode cX5_hasApart 3 = .ok (.aload_n 0, 1) := by decide +kernel
theorem dX5_hasApart_4 : decode cX5_hasApart 4 = .ok (.getfield 63, 3) := by decide +kernel
theorem dX5_hasApart_7 : decode cX5_hasApart 7 = .ok (.if_icmp .ge 55, 3) := by decide +kernel
theorem dX5_hasApart_10 : decode cX5_hasApart 10 = .ok (.iconst 0, 1) := by decide +kernel
theorem dX5_hasApart_11 : decode cX5_hasApart 11 = .ok (.istore_n 3, 1) := by decide +kernel
