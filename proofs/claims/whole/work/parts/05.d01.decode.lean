theorem dX3_add_44 : decode cX3_add 44 = .ok (.iconst 1, 1) := by decide +kernel
theorem dX3_add_45 : decode cX3_add 45 = .ok (.iadd, 1) := by decide +kernel
theorem dX3_add_46 : decode cX3_add 46 = .ok (.putfield 27, 3) := by decide +kernel
theorem dX3_add_49 : decode cX3_add 49 = .ok (.iload 4, 2) := by decide +kernel
theorem dX3_add_51 : decode cX3_add 51 = .ok (.ireturn, 1) := by decide +kernel
theorem dL_group_0 : decode cL_group 0 = .ok (.aload 4, 2) := by decide +kernel
theorem dL_group_2 : decode cL_group 2 = .ok (.iconst 0, 1) := by decide +kernel
theorem dL_group_3 : decode cL_group 3 = .ok (.aload_n 0, 1) := by decide +kernel
theorem dL_group_4 : decode cL_group 4 = .ok (.iload_n 1, 1) := by decide +kernel
theorem dL_group_5 : decode cL_group 5 = .ok (.iload_n 2, 1) := by decide +kernel
theorem dL_group_6 : decode cL_group 6 = .ok (.iload_n 3, 1) := by decide +kernel
theorem dL_group_7 : decode cL_group 7 = .ok (.invokevirtual 21, 3) := by decide +kernel
theorem dL_group_10 : decode cL_group 10 = .ok (.i2l, 1) := by decide +kernel
theorem dL_group_11 : decode cL_group 11 = .ok (.lastore, 1) := by decide +kernel
theorem dL_group_12 : decode cL_group 12 = .ok (.goto 11, 3) := by decide +kernel
theorem dL_group_15 : decode cL_group 15 = .ok (.astore 5, 2) := by decide +kernel
theorem dL_group_17 : decode cL_group 17 = .ok (.iconst 1, 1) := by decide +kernel
theorem dL_group_18 : decode cL_group 18 = .ok (.ireturn, 1) := by decide +kernel
theorem dL_group_19 : decode cL_group 19 = .ok (.astore 5, 2) := by decide +kernel
theorem dL_group_21 : decode cL_group 21 = .ok (.iconst 2, 1) := by decide +kernel
theorem dL_group_22 : decode cL_group 22 = .ok (.ireturn, 1) := by decide +kernel
theorem dL_group_23 : decode cL_group 23 = .ok (.iconst 0, 1) := by decide +kernel
theorem dL_group_24 : decode cL_group 24 = .ok (.ireturn, 1) := by decide +kernel
theorem dX4_group_0 : decode cX4_group 0 = .ok (.aload_n 0, 1) := by decide +kernel
theorem dX4_group_1 : decode cX4_group 1 = .ok (.iload_n 1, 1) := by decide +kernel
theorem dX4_group_2 : decode cX4_group 2 = .ok (.invokevirtual 62, 3) := by decide +kernel
theorem dX4_group_5 : decode cX4_group 5 = .ok (.aload_n 0, 1) := by decide +kernel
theorem dX4_group_6 : decode cX4_group 6 = .ok (.iload_n 2, 1) := by decide +kernel
theorem dX4_group_7 : decode cX4_group 7 = .ok (.invokevirtual 62, 3) := by decide +kernel
theorem dX4_group_10 : decode cX4_group 10 = .ok (.iload_n 3, 1) := by decide +kernel
theorem dX4_group_11 : decode cX4_group 11 = .ok (.iconst 0, 1) := by decide +kernel
theorem dX4_group_12 : decode cX4_group 12 = .ok (.iconst 2, 1) := by decide +kernel
theorem dX4_group_13 : decode cX4_group 13 = .ok (.invokestatic 37, 3) := by decide +kernel
theorem dX4_group_16 : decode cX4_group 16 = .ok (.iload_n 1, 1) := by decide +kernel
theorem dX4_group_17 : decode cX4_group 17 = .ok (.iload_n 2, 1) := by decide +kernel
theorem dX4_group_18 : decode cX4_group 18 = .ok (.if_icmp .ne 13, 3) := by decide +kernel
theorem dX4_group_21 : decode cX4_group 21 = .ok (.new 66, 3) := by decide +kernel
theorem dX4_group_24 : decode cX4_group 24 = .ok (.dup, 1) := by decide +kernel
theorem dX4_group_25 : decode cX4_group 25 = .ok (.ldc 68, 2) := by decide +kernel
theorem dX4_group_27 : decode cX4_group 27 = .ok (.invokespecial 70, 3) := by decide +kernel
theorem dX4_group_30 : decode cX4_group 30 = .ok (.athrow, 1) := by decide +kernel
theorem dX4_group_31 : decode cX4_group 31 = .ok (.aload_n 0, 1) := by decide +kernel
theorem dX4_group_32 : decode cX4_group 32 = .ok (.getfield 19, 3) := by decide +kernel
theorem dX4_group_35 : decode cX4_group 35 = .ok (.iload_n 1, 1) := by decide +kernel
theorem dX4_group_36 : decode cX4_group 36 = .ok (.iload_n 2, 1) := by decide +kernel
theorem dX4_group_37 : decode cX4_group 37 = .ok (.invokevirtual 71, 3) := by decide +kernel
theorem dX4_group_40 : decode cX4_group 40 = .ok (.istore 4, 2) := by decide +kernel
theorem dX4_group_42 : decode cX4_group 42 = .ok (.aload_n 0, 1) := by decide +kernel
theorem dX4_group_43 : decode cX4_group 43 = .ok (.getfield 19, 3) := by decide +kernel
theorem dX4_group_46 : decode cX4_group 46 = .ok (.iload_n 1, 1) := by decide +kernel
theorem dX4_group_47 : decode cX4_group 47 = .ok (.iload_n 2, 1) := by decide +kernel
theorem dX4_group_48 : decode cX4_group 48 = .ok (.iload_n 3, 1) := by decide +kernel
theorem dX4_group_49 : decode cX4_group 49 = .ok (.invokevirtual 75, 3) := by decide +kernel
theorem dX4_group_52 : decode cX4_group 52 = .ok (.iload 4, 2) := by decide +kernel
theorem dX4_group_54 : decode cX4_group 54 = .ok (.ireturn, 1) := by decide +kernel
theorem dX4_needUnit_0 : decode cX4_needUnit 0 = .ok (.aload_n 0, 1) := by decide +kernel
theorem dX4_needUnit_1 : decode cX4_needUnit 1 = .ok (.getfield 19, 3) := by decide +kernel
theorem dX4_needUnit_4 : decode cX4_needUnit 4 = .ok (.iload_n 1, 1) := by decide +kernel
theorem dX4_needUnit_5 : decode cX4_needUnit 5 = .ok (.invokevirtual 192, 3) := by decide +kernel
theorem dX4_needUnit_8 : decode cX4_needUnit 8 = .ok (.ifCond .ne 13, 3) := by decide +kernel
theorem dX4_needUnit_11 : decode cX4_needUnit 11 = .ok (.new 116, 3) := by decide +kernel
theorem dX4_needUnit_14 : decode cX4_needUnit 14 = .ok (.dup, 1) := by decide +kernel
theorem dX4_needUnit_15 : decode cX4_needUnit 15 = .ok (.ldc 193, 2) := by decide +kernel
theorem dX4_needUnit_17 : decode cX4_needUnit 17 = .ok (.invokespecial 120, 3) := by decide +kernel
theorem dX4_needUnit_20 : decode cX4_needUnit 20 = .ok (.athrow, 1) := by decide +kernel
theorem dX4_needUnit_21 : decode cX4_needUnit 21 = .ok (.return_, 1) := by decide +kernel
theorem dX3_relate_0 : decode cX3_relate 0 = .ok (.aload_n 0, 1) := by decide +kernel
theorem dX3_relate_1 : decode cX3_relate 1 = .ok (.iload_n 1, 1) := by decide +kernel
theorem dX3_relate_2 : decode cX3_relate 2 = .ok (.iload_n 2, 1) := by decide +kernel
theorem dX3_relate_3 : decode cX3_relate 3 = .ok (.iload_n 3, 1) := by decide +kernel
theorem dX3_relate_4 : decode cX3_relate 4 = .ok (.invokevirtual 43, 3) := by decide +kernel
theorem dX3_relate_7 : decode cX3_relate 7 = .ok (.aload_n 0, 1) := by decide +kernel
theorem dX3_relate_8 : decode cX3_relate 8 = .ok (.iload_n 2, 1) := by decide +kernel
theorem dX3_relate_9 : decode cX3_relate 9 = .ok (.iload_n 1, 1) := by decide +kernel
theorem dX3_relate_10 : decode cX3_relate 10 = .ok (.iload_n 3, 1) := by decide +kernel
theorem dX3_relate_11 : decode cX3_relate 11 = .ok (.invokevirtual 43, 3) := by decide +kernel
theorem dX3_relate_14 : decode cX3_relate 14 = .ok (.return_, 1) := by decide +kernel
theorem dX3_relateOneWay_0 : decode cX3_relateOneWay 0 = .ok (.aload_n 0, 1) := by decide +kernel
theorem dX3_relateOneWay_1 : decode cX3_relateOneWay 1 = .ok (.iload_n 1, 1) := by decide +kernel
theorem dX3_relateOneWay_2 : decode cX3_relateOneWay 2 = .ok (.invokevirtual 35, 3) := by decide +kernel
theorem dX3_relateOneWay_5 : decode cX3_relateOneWay 5 = .ok (.ifCond .eq 11, 3) := by decide +kernel
theorem dX3_relateOneWay_8 : decode cX3_relateOneWay 8 = .ok (.aload_n 0, 1) := by decide +kernel
theorem dX3_relateOneWay_9 : decode cX3_relateOneWay 9 = .ok (.iload_n 2, 1) := by decide +kernel
theorem dX3_relateOneWay_10 : decode cX3_relateOneWay 10 = .ok (.invokevirtual 35, 3) := by decide +kernel
theorem dX3_relateOneWay_13 : decode cX3_relateOneWay 13 = .ok (.ifCond .ne 4, 3) := by decide +kernel
theorem dX3_relateOneWay_16 : decode cX3_relateOneWay 16 = .ok (.return_, 1) := by decide +kernel
theorem dX3_relateOneWay_17 : decode cX3_relateOneWay 17 = .ok (.iconst 1, 1) := by decide +kernel
theorem dX3_relateOneWay_18 : decode cX3_relateOneWay 18 = .ok (.iload_n 2, 1) := by decide +kernel
theorem dX3_relateOneWay_19 : decode cX3_relateOneWay 19 = .ok (.ishl, 1) := by decide +kernel
theorem dX3_relateOneWay_20 : decode cX3_relateOneWay 20 = .ok (.istore 4, 2) := by decide +kernel
theorem dX3_relateOneWay_22 : decode cX3_relateOneWay 22 = .ok (.aload_n 0, 1) := by decide +kernel
theorem dX3_relateOneWay_23 : decode cX3_relateOneWay 23 = .ok (.getfield 21, 3) := by decide +kernel
theorem dX3_relateOneWay_26 : decode cX3_relateOneWay 26 = .ok (.iload_n 1, 1) := by decide +kernel
theorem dX3_relateOneWay_27 : decode cX3_relateOneWay 27 = .ok (.dup2, 1) := by decide +kernel
theorem dX3_relateOneWay_28 : decode cX3_relateOneWay 28 = .ok (.iaload, 1) := by decide +kernel
theorem dX3_relateOneWay_29 : decode cX3_relateOneWay 29 = .ok (.iload 4, 2) := by decide +kernel
theorem dX3_relateOneWay_31 : decode cX3_relateOneWay 31 = .ok (.iconst (-1), 1) := by decide +kernel
theorem dX3_relateOneWay_32 : decode cX3_relateOneWay 32 = .ok (.ixor, 1) := by decide +kernel
theorem dX3_relateOneWay_33 : decode cX3_relateOneWay 33 = .ok (.iand, 1) := by decide +kernel
theorem dX3_relateOneWay_34 : decode cX3_relateOneWay 34 = .ok (.iastore, 1) := by decide +kernel
theorem dX3_relateOneWay_35 : decode cX3_relateOneWay 35 = .ok (.aload_n 0, 1) := by decide +kernel
theorem dX3_relateOneWay_36 : decode cX3_relateOneWay 36 = .ok (.getfield 24, 3) := by decide +kernel
theorem dX3_relateOneWay_39 : decode cX3_relateOneWay 39 = .ok (.iload_n 1, 1) := by decide +kernel
theorem dX3_relateOneWay_40 : decode cX3_relateOneWay 40 = .ok (.dup2, 1) := by decide +kernel
theorem dX3_relateOneWay_41 : decode cX3_relateOneWay 41 = .ok (.iaload, 1) := by decide +kernel
theorem dX3_relateOneWay_42 : decode cX3_relateOneWay 42 = .ok (.iload 4, 2) := by decide +kernel
theorem dX3_relateOneWay_44 : decode cX3_relateOneWay 44 = .ok (.iconst (-1), 1) := by decide +kernel
theorem dX3_relateOneWay_45 : decode cX3_relateOneWay 45 = .ok (.ixor, 1) := by decide +kernel
theorem dX3_relateOneWay_46 : decode cX3_relateOneWay 46 = .ok (.iand, 1) := by decide +kernel
theorem dX3_relateOneWay_47 : decode cX3_relateOneWay 47 = .ok (.iastore, 1) := by decide +kernel
theorem dX3_relateOneWay_48 : decode cX3_relateOneWay 48 = .ok (.iload_n 3, 1) := by decide +kernel
theorem dX3_relateOneWay_49 : decode cX3_relateOneWay 49 = .ok (.iconst 1, 1) := by decide +kernel
theorem dX3_relateOneWay_50 : decode cX3_relateOneWay 50 = .ok (.if_icmp .ne 17, 3) := by decide +kernel
theorem dX3_relateOneWay_53 : decode cX3_relateOneWay 53 = .ok (.aload_n 0, 1) := by decide +kernel
theorem dX3_relateOneWay_54 : decode cX3_relateOneWay 54 = .ok (.getfield 21, 3) := by decide +kernel
theorem dX3_relateOneWay_57 : decode cX3_relateOneWay 57 = .ok (.iload_n 1, 1) := by decide +kernel
theorem dX3_relateOneWay_58 : decode cX3_relateOneWay 58 = .ok (.dup2, 1) := by decide +kernel
theorem dX3_relateOneWay_59 : decode cX3_relateOneWay 59 = .ok (.iaload, 1) := by decide +kernel
theorem dX3_relateOneWay_60 : decode cX3_relateOneWay 60 = .ok (.iload 4, 2) := by decide +kernel
theorem dX3_relateOneWay_62 : decode cX3_relateOneWay 62 = .ok (.ior, 1) := by decide +kernel
theorem dX3_relateOneWay_63 : decode cX3_relateOneWay 63 = .ok (.iastore, 1) := by decide +kernel
theorem dX3_relateOneWay_64 : decode cX3_relateOneWay 64 = .ok (.goto 19, 3) := by decide +kernel
theorem dX3_relateOneWay_67 : decode cX3_relateOneWay 67 = .ok (.iload_n 3, 1) := by decide +kernel
theorem dX3_relateOneWay_68 : decode cX3_relateOneWay 68 = .ok (.iconst 2, 1) := by decide +kernel
theorem dX3_relateOneWay_69 : decode cX3_relateOneWay 69 = .ok (.if_icmp .ne 14, 3) := by decide +kernel
theorem dX3_relateOneWay_72 : decode cX3_relateOneWay 72 = .ok (.aload_n 0, 1) := by decide +kernel
theorem dX3_relateOneWay_73 : decode cX3_relateOneWay 73 = .ok (.getfield 24, 3) := by decide +kernel
theorem dX3_relateOneWay_76 : decode cX3_relateOneWay 76 = .ok (.iload_n 1, 1) := by decide +kernel
theorem dX3_relateOneWay_77 : decode cX3_relateOneWay 77 = .ok (.dup2, 1) := by decide +kernel
theorem dX3_relateOneWay_78 : decode cX3_relateOneWay 78 = .ok (.iaload, 1) := by decide +kernel
theorem dX3_relateOneWay_79 : decode cX3_relateOneWay 79 = .ok (.iload 4, 2) := by decide +kernel
theorem dX3_relateOneWay_81 : decode cX3_relateOneWay 81 = .ok (.ior, 1) := by decide +kernel
theorem dX3_relateOneWay_82 : decode cX3_relateOneWay 82 = .ok (.iastore, 1) := by decide +kernel
theorem dX3_relateOneWay_83 : decode cX3_relateOneWay 83 = .ok (.return_, 1) := by decide +kernel
theorem dL_change_0 : decode cL_change 0 = .ok (.aload_n 3, 1) := by decide +kernel
theorem dL_change_1 : decode cL_change 1 = .ok (.iconst 0, 1) := by decide +kernel
theorem dL_change_2 : decode cL_change 2 = .ok (.aload_n 0, 1) := by decide +kernel
theorem dL_change_3 : decode cL_change 3 = .ok (.iload_n 1, 1) := by decide +kernel
theorem dL_change_4 : decode cL_change 4 = .ok (.iload_n 2, 1) := by decide +kernel
theorem dL_change_5 : decode cL_change 5 = .ok (.invokevirtual 26, 3) := by decide +kernel
theorem dL_change_8 : decode cL_change 8 = .ok (.i2l, 1) := by decide +kernel
theorem dL_change_9 : decode cL_change 9 = .ok (.lastore, 1) := by decide +kernel
theorem dL_change_10 : decode cL_change 10 = .ok (.goto 11, 3) := by decide +kernel
theorem dL_change_13 : decode cL_change 13 = .ok (.astore 4, 2) := by decide +kernel
theorem dL_change_15 : decode cL_change 15 = .ok (.iconst 1, 1) := by decide +kernel
theorem dL_change_16 : decode cL_change 16 = .ok (.ireturn, 1) := by decide +kernel
theorem dL_change_17 : decode cL_change 17 = .ok (.astore 4, 2) := by decide +kernel
theorem dL_change_19 : decode cL_change 19 = .ok (.iconst 2, 1) := by decide +kernel
theorem dL_change_20 : decode cL_change 20 = .ok (.ireturn, 1) := by decide +kernel
theorem dL_change_21 : decode cL_change 21 = .ok (.iconst 0, 1) := by decide +kernel
theorem dL_change_22 : decode cL_change 22 = .ok (.ireturn, 1) := by decide +kernel
theorem dX4_change_0 : decode cX4_change 0 = .ok (.aload_n 0, 1) := by decide +kernel
theorem dX4_change_1 : decode cX4_change 1 = .ok (.iload_n 1, 1) := by decide +kernel
theorem dX4_change_2 : decode cX4_change 2 = .ok (.invokevirtual 62, 3) := by decide +kernel
theorem dX4_change_5 : decode cX4_change 5 = .ok (.iload_n 2, 1) := by decide +kernel
theorem dX4_change_6 : decode cX4_change 6 = .ok (.iconst 0, 1) := by decide +kernel
theorem dX4_change_7 : decode cX4_change 7 = .ok (.sipush 1000, 3) := by decide +kernel
theorem dX4_change_10 : decode cX4_change 10 = .ok (.invokestatic 37, 3) := by decide +kernel
theorem dX4_change_13 : decode cX4_change 13 = .ok (.aload_n 0, 1) := by decide +kernel
theorem dX4_change_14 : decode cX4_change 14 = .ok (.getfield 19, 3) := by decide +kernel
theorem dX4_change_17 : decode cX4_change 17 = .ok (.iload_n 1, 1) := by decide +kernel
theorem dX4_change_18 : decode cX4_change 18 = .ok (.iload_n 2, 1) := by decide +kernel
theorem dX4_change_19 : decode cX4_change 19 = .ok (.invokevirtual 78, 3) := by decide +kernel
theorem dX4_change_22 : decode cX4_change 22 = .ok (.ireturn, 1) := by decide +kernel
theorem dX3_reweigh_0 : decode cX3_reweigh 0 = .ok (.aload_n 0, 1) := by decide +kernel
theorem dX3_reweigh_1 : decode cX3_reweigh 1 = .ok (.iload_n 1, 1) := by decide +kernel
theorem dX3_reweigh_2 : decode cX3_reweigh 2 = .ok (.invokevirtual 35, 3) := by decide +kernel
theorem dX3_reweigh_5 : decode cX3_reweigh 5 = .ok (.ifCond .ne 5, 3) := by decide +kernel
theorem dX3_reweigh_8 : decode cX3_reweigh 8 = .ok (.iconst (-1), 1) := by decide +kernel
theorem dX3_reweigh_9 : decode cX3_reweigh 9 = .ok (.ireturn, 1) := by decide +kernel
theorem dX3_reweigh_10 : decode cX3_reweigh 10 = .ok (.aload_n 0, 1) := by decide +kernel
theorem dX3_reweigh_11 : decode cX3_reweigh 11 = .ok (.getfield 15, 3) := by decide +kernel
theorem dX3_reweigh_14 : decode cX3_reweigh 14 = .ok (.iload_n 1, 1) := by decide +kernel
theorem dX3_reweigh_15 : decode cX3_reweigh 15 = .ok (.iaload, 1) := by decide +kernel
theorem dX3_reweigh_16 : decode cX3_reweigh 16 = .ok (.istore_n 3, 1) := by decide +kernel
theorem dX3_reweigh_17 : decode cX3_reweigh 17 = .ok (.aload_n 0, 1) := by decide +kernel
theorem dX3_reweigh_18 : decode cX3_reweigh 18 = .ok (.getfield 15, 3) := by decide +kernel
theorem dX3_reweigh_21 : decode cX3_reweigh 21 = .ok (.iload_n 1, 1) := by decide +kernel
theorem dX3_reweigh_22 : decode cX3_reweigh 22 = .ok (.iload_n 2, 1) := by decide +kernel
theorem dX3_reweigh_23 : decode cX3_reweigh 23 = .ok (.iastore, 1) := by decide +kernel
theorem dX3_reweigh_24 : decode cX3_reweigh 24 = .ok (.iload_n 3, 1) := by decide +kernel
theorem dX3_reweigh_25 : decode cX3_reweigh 25 = .ok (.ireturn, 1) := by decide +kernel
theorem dL_slack_0 : decode cL_slack 0 = .ok (.aload_n 0, 1) := by decide +kernel
theorem dL_slack_1 : decode cL_slack 1 = .ok (.iload_n 1, 1) := by decide +kernel
theorem dL_slack_2 : decode cL_slack 2 = .ok (.invokevirtual 30, 3) := by decide +kernel
theorem dL_slack_5 : decode cL_slack 5 = .ok (.goto 6, 3) := by decide +kernel
theorem dL_slack_8 : decode cL_slack 8 = .ok (.astore_n 2, 1) := by decide +kernel
theorem dL_slack_9 : decode cL_slack 9 = .ok (.iconst 1, 1) := by decide +kernel
theorem dL_slack_10 : decode cL_slack 10 = .ok (.ireturn, 1) := by decide +kernel
theorem dL_slack_11 : decode cL_slack 11 = .ok (.iconst 0, 1) := by decide +kernel
theorem dL_slack_12 : decode cL_slack 12 = .ok (.ireturn, 1) := by decide +kernel
theorem dX4_slack_0 : decode cX4_slack 0 = .ok (.iload_n 1, 1) := by decide +kernel
theorem dX4_slack_1 : decode cX4_slack 1 = .ok (.iconst 0, 1) := by decide +kernel
theorem dX4_slack_2 : decode cX4_slack 2 = .ok (.sipush 1000, 3) := by decide +kernel
theorem dX4_slack_5 : decode cX4_slack 5 = .ok (.invokestatic 37, 3) := by decide +kernel
theorem dX4_slack_8 : decode cX4_slack 8 = .ok (.aload_n 0, 1) := by decide +kernel
theorem dX4_slack_9 : decode cX4_slack 9 = .ok (.getfield 12, 3) := by decide +kernel
theorem dX4_slack_12 : decode cX4_slack 12 = .ok (.iload_n 1, 1) := by decide +kernel
theorem dX4_slack_13 : decode cX4_slack 13 = .ok (.invokevirtual 81, 3) := by decide +kernel
theorem dX4_slack_16 : decode cX4_slack 16 = .ok (.return_, 1) := by decide +kernel
theorem dX0_keepSlack_0 : decode cX0_keepSlack 0 = .ok (.aload_n 0, 1) := by decide +kernel
theorem dX0_keepSlack_1 : decode cX0_keepSlack 1 = .ok (.iload_n 1, 1) := by decide +kernel
theorem dX0_keepSlack_2 : decode cX0_keepSlack 2 = .ok (.putfield 32, 3) := by decide +kernel
theorem dX0_keepSlack_5 : decode cX0_keepSlack 5 = .ok (.return_, 1) := by decide +kernel
theorem dL_choose_0 : decode cL_choose 0 = .ok (.aload_n 2, 1) := by decide +kernel
theorem dL_choose_1 : decode cL_choose 1 = .ok (.iconst 0, 1) := by decide +kernel
theorem dL_choose_2 : decode cL_choose 2 = .ok (.aload_n 0, 1) := by decide +kernel
theorem dL_choose_3 : decode cL_choose 3 = .ok (.iload_n 1, 1) := by decide +kernel
theorem dL_choose_4 : decode cL_choose 4 = .ok (.invokevirtual 34, 3) := by decide +kernel
theorem dL_choose_7 : decode cL_choose 7 = .ok (.i2l, 1) := by decide +kernel
theorem dL_choose_8 : decode cL_choose 8 = .ok (.lastore, 1) := by decide +kernel
theorem dL_choose_9 : decode cL_choose 9 = .ok (.goto 6, 3) := by decide +kernel
theorem dL_choose_12 : decode cL_choose 12 = .ok (.astore_n 3, 1) := by decide +kernel
theorem dL_choose_13 : decode cL_choose 13 = .ok (.iconst 1, 1) := by decide +kernel
theorem dL_choose_14 : decode cL_choose 14 = .ok (.ireturn, 1) := by decide +kernel
theorem dL_choose_15 : decode cL_choose 15 = .ok (.iconst 0, 1) := by decide +kernel
theorem dL_choose_16 : decode cL_choose 16 = .ok (.ireturn, 1) := by decide +kernel
theorem dX4_choose_0 : decode cX4_choose 0 = .ok (.iload_n 1, 1) := by decide +kernel
theorem dX4_choose_1 : decode cX4_choose 1 = .ok (.iconst 0, 1) := by decide +kernel
theorem dX4_choose_2 : decode cX4_choose 2 = .ok (.bipush 6, 2) := by decide +kernel
theorem dX4_choose_4 : decode cX4_choose 4 = .ok (.invokestatic 37, 3) := by decide +kernel
theorem dX4_choose_7 : decode cX4_choose 7 = .ok (.aload_n 0, 1) := by decide +kernel
theorem dX4_choose_8 : decode cX4_choose 8 = .ok (.getfield 19, 3) := by decide +kernel
theorem dX4_choose_11 : decode cX4_choose 11 = .ok (.getfield 84, 3) := by decide +kernel
theorem dX4_choose_14 : decode cX4_choose 14 = .ok (.iload_n 1, 1) := by decide +kernel
theorem dX4_choose_15 : decode cX4_choose 15 = .ok (.if_icmp .gt 7, 3) := by decide +kernel
theorem dX4_choose_18 : decode cX4_choose 18 = .ok (.iconst 1, 1) := by decide +kernel
theorem dX4_choose_19 : decode cX4_choose 19 = .ok (.goto 4, 3) := by decide +kernel
theorem dX4_choose_22 : decode cX4_choose 22 = .ok (.iconst 0, 1) := by decide +kernel
theorem dX4_choose_23 : decode cX4_choose 23 = .ok (.istore_n 2, 1) := by decide +kernel
theorem dX4_choose_24 : decode cX4_choose 24 = .ok (.aload_n 0, 1) := by decide +kernel
theorem dX4_choose_25 : decode cX4_choose 25 = .ok (.getfield 26, 3) := by decide +kernel
theorem dX4_choose_28 : decode cX4_choose 28 = .ok (.invokevirtual 88, 3) := by decide +kernel
theorem dX4_choose_31 : decode cX4_choose 31 = .ok (.iload_n 2, 1) := by decide +kernel
theorem dX4_choose_32 : decode cX4_choose 32 = .ok (.ifCond .eq 10, 3) := by decide +kernel
theorem dX4_choose_35 : decode cX4_choose 35 = .ok (.aload_n 0, 1) := by decide +kernel
theorem dX4_choose_36 : decode cX4_choose 36 = .ok (.invokevirtual 91, 3) := by decide +kernel
theorem dX4_choose_39 : decode cX4_choose 39 = .ok (.goto 7, 3) := by decide +kernel
theorem dX4_choose_42 : decode cX4_choose 42 = .ok (.aload_n 0, 1) := by decide +kernel
theorem dX4_choose_43 : decode cX4_choose 43 = .ok (.invokevirtual 94, 3) := by decide +kernel
theorem dX4_choose_46 : decode cX4_choose 46 = .ok (.istore_n 3, 1) := by decide +kernel
theorem dX4_choose_47 : decode cX4_choose 47 = .ok (.iload_n 3, 1) := by decide +kernel
theorem dX4_choose_48 : decode cX4_choose 48 = .ok (.ifCond .ne 12, 3) := by decide +kernel
theorem dX4_choose_51 : decode cX4_choose 51 = .ok (.aload_n 0, 1) := by decide +kernel
theorem dX4_choose_52 : decode cX4_choose 52 = .ok (.getfield 26, 3) := by decide +kernel
theorem dX4_choose_55 : decode cX4_choose 55 = .ok (.invokevirtual 88, 3) := by decide +kernel
theorem dX4_choose_58 : decode cX4_choose 58 = .ok (.iconst (-1), 1) := by decide +kernel
theorem dX4_choose_59 : decode cX4_choose 59 = .ok (.ireturn, 1) := by decide +kernel
theorem dX4_choose_60 : decode cX4_choose 60 = .ok (.aload_n 0, 1) := by decide +kernel
theorem dX4_choose_61 : decode cX4_choose 61 = .ok (.getfield 26, 3) := by decide +kernel
theorem dX4_choose_64 : decode cX4_choose 64 = .ok (.iload_n 2, 1) := by decide +kernel
theorem dX4_choose_65 : decode cX4_choose 65 = .ok (.invokevirtual 97, 3) := by decide +kernel
theorem dX4_choose_68 : decode cX4_choose 68 = .ok (.aload_n 0, 1) := by decide +kernel
theorem dX4_choose_69 : decode cX4_choose 69 = .ok (.getfield 26, 3) := by decide +kernel
theorem dX4_choose_72 : decode cX4_choose 72 = .ok (.getfield 101, 3) := by decide +kernel
theorem dX4_choose_75 : decode cX4_choose 75 = .ok (.ireturn, 1) := by decide +kernel
theorem dX1_clear_0 : decode cX1_clear 0 = .ok (.aload_n 0, 1) := by decide +kernel
theorem dX1_clear_1 : decode cX1_clear 1 = .ok (.iconst 0, 1) := by decide +kernel
theorem dX1_clear_2 : decode cX1_clear 2 = .ok (.putfield 18, 3) := by decide +kernel
theorem dX1_clear_5 : decode cX1_clear 5 = .ok (.aload_n 0, 1) := by decide +kernel
theorem dX1_clear_6 : decode cX1_clear 6 = .ok (.iconst 0, 1) := by decide +kernel
theorem dX1_clear_7 : decode cX1_clear 7 = .ok (.putfield 22, 3) := by decide +kernel
theorem dX1_clear_10 : decode cX1_clear 10 = .ok (.aload_n 0, 1) := by decide +kernel
theorem dX1_clear_11 : decode cX1_clear 11 = .ok (.iconst 0, 1) := by decide +kernel
theorem dX1_clear_12 : decode cX1_clear 12 = .ok (.putfield 25, 3) := by decide +kernel
theorem dX1_clear_15 : decode cX1_clear 15 = .ok (.aload_n 0, 1) := by decide +kernel
theorem dX1_clear_16 : decode cX1_clear 16 = .ok (.iconst 0, 1) := by decide +kernel
theorem dX1_clear_17 : decode cX1_clear 17 = .ok (.putfield 29, 3) := by decide +kernel
theorem dX1_clear_20 : decode cX1_clear 20 = .ok (.return_, 1) := by decide +kernel
theorem dX4_putExactly_0 : decode cX4_putExactly 0 = .ok (.aload_n 0, 1) := by decide +kernel
theorem dX4_putExactly_1 : decode cX4_putExactly 1 = .ok (.getfield 19, 3) := by decide +kernel
theorem dX4_putExactly_4 : decode cX4_putExactly 4 = .ok (.invokevirtual 200, 3) := by decide +kernel
theorem dX4_putExactly_7 : decode cX4_putExactly 7 = .ok (.istore_n 1, 1) := by decide +kernel
theorem dX4_putExactly_8 : decode cX4_putExactly 8 = .ok (.aload_n 0, 1) := by decide +kernel
theorem dX4_putExactly_9 : decode cX4_putExactly 9 = .ok (.getfield 33, 3) := by decide +kernel
theorem dX4_putExactly_12 : decode cX4_putExactly 12 = .ok (.invokevirtual 204, 3) := by decide +kernel
theorem dX4_putExactly_15 : decode cX4_putExactly 15 = .ok (.iconst 1, 1) := by decide +kernel
theorem dX4_putExactly_16 : decode cX4_putExactly 16 = .ok (.istore_n 2, 1) := by decide +kernel
theorem dX4_putExactly_17 : decode cX4_putExactly 17 = .ok (.iload_n 2, 1) := by decide +kernel
theorem dX4_putExactly_18 : decode cX4_putExactly 18 = .ok (.iload_n 1, 1) := by decide +kernel
theorem dX4_putExactly_19 : decode cX4_putExactly 19 = .ok (.if_icmp .gt 44, 3) := by decide +kernel
theorem dX4_putExactly_22 : decode cX4_putExactly 22 = .ok (.aload_n 0, 1) := by decide +kernel
theorem dX4_putExactly_23 : decode cX4_putExactly 23 = .ok (.getfield 12, 3) := by decide +kernel
theorem dX4_putExactly_26 : decode cX4_putExactly 26 = .ok (.aload_n 0, 1) := by decide +kernel
theorem dX4_putExactly_27 : decode cX4_putExactly 27 = .ok (.iload_n 2, 1) := by decide +kernel
theorem dX4_putExactly_28 : decode cX4_putExactly 28 = .ok (.invokevirtual 205, 3) := by decide +kernel
theorem dX4_putExactly_31 : decode cX4_putExactly 31 = .ok (.invokevirtual 208, 3) := by decide +kernel
theorem dX4_putExactly_34 : decode cX4_putExactly 34 = .ok (.istore_n 3, 1) := by decide +kernel
theorem dX4_putExactly_35 : decode cX4_putExactly 35 = .ok (.iload_n 3, 1) := by decide +kernel
theorem dX4_putExactly_36 : decode cX4_putExactly 36 = .ok (.iconst (-1), 1) := by decide +kernel
theorem dX4_putExactly_37 : decode cX4_putExactly 37 = .ok (.if_icmp .eq 20, 3) := by decide +kernel
theorem dX4_putExactly_40 : decode cX4_putExactly 40 = .ok (.aload_n 0, 1) := by decide +kernel
theorem dX4_putExactly_41 : decode cX4_putExactly 41 = .ok (.getfield 33, 3) := by decide +kernel
theorem dX4_putExactly_44 : decode cX4_putExactly 44 = .ok (.iload_n 2, 1) := by decide +kernel
theorem dX4_putExactly_45 : decode cX4_putExactly 45 = .ok (.iload_n 3, 1) := by decide +kernel
theorem dX4_putExactly_46 : decode cX4_putExactly 46 = .ok (.aload_n 0, 1) := by decide +kernel
theorem dX4_putExactly_47 : decode cX4_putExactly 47 = .ok (.getfield 12, 3) := by decide +kernel
theorem dX4_putExactly_50 : decode cX4_putExactly 50 = .ok (.iload_n 3, 1) := by decide +kernel
theorem dX4_putExactly_51 : decode cX4_putExactly 51 = .ok (.invokevirtual 211, 3) := by decide +kernel
theorem dX4_putExactly_54 : decode cX4_putExactly 54 = .ok (.invokevirtual 214, 3) := by decide +kernel
theorem dX4_putExactly_57 : decode cX4_putExactly 57 = .ok (.iinc 2 1, 3) := by decide +kernel
theorem dX4_putExactly_60 : decode cX4_putExactly 60 = .ok (.goto (-43), 3) := by decide +kernel
theorem dX4_putExactly_63 : decode cX4_putExactly 63 = .ok (.aload_n 0, 1) := by decide +kernel
theorem dX4_putExactly_64 : decode cX4_putExactly 64 = .ok (.getfield 33, 3) := by decide +kernel
theorem dX4_putExactly_67 : decode cX4_putExactly 67 = .ok (.iload_n 1, 1) := by decide +kernel
theorem dX4_putExactly_68 : decode cX4_putExactly 68 = .ok (.aload_n 0, 1) := by decide +kernel
theorem dX4_putExactly_69 : decode cX4_putExactly 69 = .ok (.getfield 26, 3) := by decide +kernel
theorem dX4_putExactly_72 : decode cX4_putExactly 72 = .ok (.invokevirtual 217, 3) := by decide +kernel
theorem dX4_putExactly_75 : decode cX4_putExactly 75 = .ok (.ireturn, 1) := by decide +kernel
theorem dX3_all_0 : decode cX3_all 0 = .ok (.iconst 1, 1) := by decide +kernel
theorem dX3_all_1 : decode cX3_all 1 = .ok (.aload_n 0, 1) := by decide +kernel
theorem dX3_all_2 : decode cX3_all 2 = .ok (.getfield 27, 3) := by decide +kernel
theorem dX3_all_5 : decode cX3_all 5 = .ok (.ishl, 1) := by decide +kernel
theorem dX3_all_6 : decode cX3_all 6 = .ok (.iconst 1, 1) := by decide +kernel
theorem dX3_all_7 : decode cX3_all 7 = .ok (.isub, 1) := by decide +kernel
theorem dX3_all_8 : decode cX3_all 8 = .ok (.ireturn, 1) := by decide +kernel
theorem dX2_clear_0 : decode cX2_clear 0 = .ok (.iconst 0, 1) := by decide +kernel
theorem dX2_clear_1 : decode cX2_clear 1 = .ok (.istore_n 1, 1) := by decide +kernel
theorem dX2_clear_2 : decode cX2_clear 2 = .ok (.iload_n 1, 1) := by decide +kernel
theorem dX2_clear_3 : decode cX2_clear 3 = .ok (.bipush 64, 2) := by decide +kernel
theorem dX2_clear_5 : decode cX2_clear 5 = .ok (.if_icmp .ge 23, 3) := by decide +kernel
theorem dX2_clear_8 : decode cX2_clear 8 = .ok (.aload_n 0, 1) := by decide +kernel
theorem dX2_clear_9 : decode cX2_clear 9 = .ok (.getfield 9, 3) := by decide +kernel
theorem dX2_clear_12 : decode cX2_clear 12 = .ok (.iload_n 1, 1) := by decide +kernel
theorem dX2_clear_13 : decode cX2_clear 13 = .ok (.iconst (-1), 1) := by decide +kernel
theorem dX2_clear_14 : decode cX2_clear 14 = .ok (.iastore, 1) := by decide +kernel
theorem dX2_clear_15 : decode cX2_clear 15 = .ok (.aload_n 0, 1) := by decide +kernel
theorem dX2_clear_16 : decode cX2_clear 16 = .ok (.getfield 18, 3) := by decide +kernel
theorem dX2_clear_19 : decode cX2_clear 19 = .ok (.iload_n 1, 1) := by decide +kernel
theorem dX2_clear_20 : decode cX2_clear 20 = .ok (.iconst (-1), 1) := by decide +kernel
theorem dX2_clear_21 : decode cX2_clear 21 = .ok (.iastore, 1) := by decide +kernel
theorem dX2_clear_22 : decode cX2_clear 22 = .ok (.iinc 1 1, 3) := by decide +kernel
theorem dX2_clear_25 : decode cX2_clear 25 = .ok (.goto (-23), 3) := by decide +kernel
theorem dX2_clear_28 : decode cX2_clear 28 = .ok (.aload_n 0, 1) := by decide +kernel
theorem dX2_clear_29 : decode cX2_clear 29 = .ok (.getfield 18, 3) := by decide +kernel
theorem dX2_clear_32 : decode cX2_clear 32 = .ok (.iconst 0, 1) := by decide +kernel
theorem dX2_clear_33 : decode cX2_clear 33 = .ok (.iconst 0, 1) := by decide +kernel
theorem dX2_clear_34 : decode cX2_clear 34 = .ok (.iastore, 1) := by decide +kernel
theorem dX2_clear_35 : decode cX2_clear 35 = .ok (.aload_n 0, 1) := by decide +kernel
theorem dX2_clear_36 : decode cX2_clear 36 = .ok (.getfield 21, 3) := by decide +kernel
theorem dX2_clear_39 : decode cX2_clear 39 = .ok (.iconst 0, 1) := by decide +kernel
theorem dX2_clear_40 : decode cX2_clear 40 = .ok (.iconst 0, 1) := by decide +kernel
theorem dX2_clear_41 : decode cX2_clear 41 = .ok (.iastore, 1) := by decide +kernel
theorem dX2_clear_42 : decode cX2_clear 42 = .ok (.return_, 1) := by decide +kernel
theorem dX4_boxesFor_0 : decode cX4_boxesFor 0 = .ok (.aload_n 0, 1) := by decide +kernel
theorem dX4_boxesFor_1 : decode cX4_boxesFor 1 = .ok (.getfield 19, 3) := by decide +kernel
theorem dX4_boxesFor_4 : decode cX4_boxesFor 4 = .ok (.iload_n 1, 1) := by decide +kernel
theorem dX4_boxesFor_5 : decode cX4_boxesFor 5 = .ok (.invokevirtual 154, 3) := by decide +kernel
theorem dX4_boxesFor_8 : decode cX4_boxesFor 8 = .ok (.ifCond .ne 14, 3) := by decide +kernel
theorem dX4_boxesFor_11 : decode cX4_boxesFor 11 = .ok (.aload_n 0, 1) := by decide +kernel
theorem dX4_boxesFor_12 : decode cX4_boxesFor 12 = .ok (.getfield 19, 3) := by decide +kernel
theorem dX4_boxesFor_15 : decode cX4_boxesFor 15 = .ok (.iload_n 1, 1) := by decide +kernel
theorem dX4_boxesFor_16 : decode cX4_boxesFor 16 = .ok (.invokevirtual 197, 3) := by decide +kernel
theorem dX4_boxesFor_19 : decode cX4_boxesFor 19 = .ok (.ifCond .ne 5, 3) := by decide +kernel
theorem dX4_boxesFor_22 : decode cX4_boxesFor 22 = .ok (.iconst 0, 1) := by decide +kernel
theorem dX4_boxesFor_23 : decode cX4_boxesFor 23 = .ok (.ireturn, 1) := by decide +kernel
theorem dX4_boxesFor_24 : decode cX4_boxesFor 24 = .ok (.aload_n 0, 1) := by decide +kernel
theorem dX4_boxesFor_25 : decode cX4_boxesFor 25 = .ok (.iload_n 1, 1) := by decide +kernel
theorem dX4_boxesFor_26 : decode cX4_boxesFor 26 = .ok (.invokevirtual 160, 3) := by decide +kernel
theorem dX4_boxesFor_29 : decode cX4_boxesFor 29 = .ok (.ireturn, 1) := by decide +kernel
theorem dX3_anyApart_0 : decode cX3_anyApart 0 = .ok (.iconst 0, 1) := by decide +kernel
theorem dX3_anyApart_1 : decode cX3_anyApart 1 = .ok (.istore_n 2, 1) := by decide +kernel
theorem dX3_anyApart_2 : decode cX3_anyApart 2 = .ok (.iload_n 2, 1) := by decide +kernel
theorem dX3_anyApart_3 : decode cX3_anyApart 3 = .ok (.aload_n 0, 1) := by decide +kernel
theorem dX3_anyApart_4 : decode cX3_anyApart 4 = .ok (.getfield 27, 3) := by decide +kernel
theorem dX3_anyApart_7 : decode cX3_anyApart 7 = .ok (.if_icmp .ge 30, 3) := by decide +kernel
theorem dX3_anyApart_10 : decode cX3_anyApart 10 = .ok (.iload_n 1, 1) := by decide +kernel
theorem dX3_anyApart_11 : decode cX3_anyApart 11 = .ok (.iload_n 2, 1) := by decide +kernel
theorem dX3_anyApart_12 : decode cX3_anyApart 12 = .ok (.invokestatic 39, 3) := by decide +kernel
theorem dX3_anyApart_15 : decode cX3_anyApart 15 = .ok (.ifCond .eq 16, 3) := by decide +kernel
theorem dX3_anyApart_18 : decode cX3_anyApart 18 = .ok (.aload_n 0, 1) := by decide +kernel
theorem dX3_anyApart_19 : decode cX3_anyApart 19 = .ok (.getfield 21, 3) := by decide +kernel
theorem dX3_anyApart_22 : decode cX3_anyApart 22 = .ok (.iload_n 2, 1) := by decide +kernel
theorem dX3_anyApart_23 : decode cX3_anyApart 23 = .ok (.iaload, 1) := by decide +kernel
theorem dX3_anyApart_24 : decode cX3_anyApart 24 = .ok (.iload_n 1, 1) := by decide +kernel
theorem dX3_anyApart_25 : decode cX3_anyApart 25 = .ok (.iand, 1) := by decide +kernel
theorem dX3_anyApart_26 : decode cX3_anyApart 26 = .ok (.ifCond .eq 5, 3) := by decide +kernel
theorem dX3_anyApart_29 : decode cX3_anyApart 29 = .ok (.iconst 1, 1) := by decide +kernel
theorem dX3_anyApart_30 : decode cX3_anyApart 30 = .ok (.ireturn, 1) := by decide +kernel
theorem dX3_anyApart_31 : decode cX3_anyApart 31 = .ok (.iinc 2 1, 3) := by decide +kernel
theorem dX3_anyApart_34 : decode cX3_anyApart 34 = .ok (.goto (-32), 3) := by decide +kernel
theorem dX3_anyApart_37 : decode cX3_anyApart 37 = .ok (.iconst 0, 1) := by decide +kernel
theorem dX3_anyApart_38 : decode cX3_anyApart 38 = .ok (.ireturn, 1) := by decide +kernel
theorem dX3_isWhole_0 : decode cX3_isWhole 0 = .ok (.iconst 0, 1) := by decide +kernel
theorem dX3_isWhole_1 : decode cX3_isWhole 1 = .ok (.istore_n 2, 1) := by decide +kernel
theorem dX3_isWhole_2 : decode cX3_isWhole 2 = .ok (.iload_n 2, 1) := by decide +kernel
theorem dX3_isWhole_3 : decode cX3_isWhole 3 = .ok (.aload_n 0, 1) := by decide +kernel
theorem dX3_isWhole_4 : decode cX3_isWhole 4 = .ok (.getfield 27, 3) := by decide +kernel
theorem dX3_isWhole_7 : decode cX3_isWhole 7 = .ok (.if_icmp .ge 32, 3) := by decide +kernel
theorem dX3_isWhole_10 : decode cX3_isWhole 10 = .ok (.iload_n 1, 1) := by decide +kernel
theorem dX3_isWhole_11 : decode cX3_isWhole 11 = .ok (.iload_n 2, 1) := by decide +kernel
theorem dX3_isWhole_12 : decode cX3_isWhole 12 = .ok (.invokestatic 39, 3) := by decide +kernel
theorem dX3_isWhole_15 : decode cX3_isWhole 15 = .ok (.ifCond .eq 18, 3) := by decide +kernel
theorem dX3_isWhole_18 : decode cX3_isWhole 18 = .ok (.aload_n 0, 1) := by decide +kernel
theorem dX3_isWhole_19 : decode cX3_isWhole 19 = .ok (.getfield 24, 3) := by decide +kernel
theorem dX3_isWhole_22 : decode cX3_isWhole 22 = .ok (.iload_n 2, 1) := by decide +kernel
theorem dX3_isWhole_23 : decode cX3_isWhole 23 = .ok (.iaload, 1) := by decide +kernel
theorem dX3_isWhole_24 : decode cX3_isWhole 24 = .ok (.iload_n 1, 1) := by decide +kernel
theorem dX3_isWhole_25 : decode cX3_isWhole 25 = .ok (.iconst (-1), 1) := by decide +kernel
theorem dX3_isWhole_26 : decode cX3_isWhole 26 = .ok (.ixor, 1) := by decide +kernel
theorem dX3_isWhole_27 : decode cX3_isWhole 27 = .ok (.iand, 1) := by decide +kernel
theorem dX3_isWhole_28 : decode cX3_isWhole 28 = .ok (.ifCond .eq 5, 3) := by decide +kernel
theorem dX3_isWhole_31 : decode cX3_isWhole 31 = .ok (.iconst 0, 1) := by decide +kernel
theorem dX3_isWhole_32 : decode cX3_isWhole 32 = .ok (.ireturn, 1) := by decide +kernel
theorem dX3_isWhole_33 : decode cX3_isWhole 33 = .ok (.iinc 2 1, 3) := by decide +kernel
theorem dX3_isWhole_36 : decode cX3_isWhole 36 = .ok (.goto (-34), 3) := by decide +kernel
theorem dX3_isWhole_39 : decode cX3_isWhole 39 = .ok (.iconst 1, 1) := by decide +kernel
theorem dX3_isWhole_40 : decode cX3_isWhole 40 = .ok (.ireturn, 1) := by decide +kernel
theorem dX4_boxesThatCarry_0 : decode cX4_boxesThatCarry 0 = .ok (.aload_n 0, 1) := by decide +kernel
theorem dX4_boxesThatCarry_1 : decode cX4_boxesThatCarry 1 = .ok (.getfield 12, 3) := by decide +kernel
theorem dX4_boxesThatCarry_4 : decode cX4_boxesThatCarry 4 = .ok (.aload_n 0, 1) := by decide +kernel
theorem dX4_boxesThatCarry_5 : decode cX4_boxesThatCarry 5 = .ok (.getfield 19, 3) := by decide +kernel
theorem dX4_boxesThatCarry_8 : decode cX4_boxesThatCarry 8 = .ok (.iload_n 1, 1) := by decide +kernel
theorem dX4_boxesThatCarry_9 : decode cX4_boxesThatCarry 9 = .ok (.invokevirtual 142, 3) := by decide +kernel
theorem dX4_boxesThatCarry_12 : decode cX4_boxesThatCarry 12 = .ok (.invokevirtual 145, 3) := by decide +kernel
theorem dX4_boxesThatCarry_15 : decode cX4_boxesThatCarry 15 = .ok (.aload_n 0, 1) := by decide +kernel
theorem dX4_boxesThatCarry_16 : decode cX4_boxesThatCarry 16 = .ok (.getfield 12, 3) := by decide +kernel
theorem dX4_boxesThatCarry_19 : decode cX4_boxesThatCarry 19 = .ok (.aload_n 0, 1) := by decide +kernel
theorem dX4_boxesThatCarry_20 : decode cX4_boxesThatCarry 20 = .ok (.getfield 19, 3) := by decide +kernel
theorem dX4_boxesThatCarry_23 : decode cX4_boxesThatCarry 23 = .ok (.iload_n 1, 1) := by decide +kernel
