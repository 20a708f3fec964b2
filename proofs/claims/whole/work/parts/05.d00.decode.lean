theorem dX4_init_0 : decode cX4_init 0 = .ok (.aload_n 0, 1) := by decide +kernel
theorem dX4_init_1 : decode cX4_init 1 = .ok (.invokespecial 3, 3) := by decide +kernel
theorem dX4_init_4 : decode cX4_init 4 = .ok (.aload_n 0, 1) := by decide +kernel
theorem dX4_init_5 : decode cX4_init 5 = .ok (.new 9, 3) := by decide +kernel
theorem dX4_init_8 : decode cX4_init 8 = .ok (.dup, 1) := by decide +kernel
theorem dX4_init_9 : decode cX4_init 9 = .ok (.invokespecial 11, 3) := by decide +kernel
theorem dX4_init_12 : decode cX4_init 12 = .ok (.putfield 12, 3) := by decide +kernel
theorem dX4_init_15 : decode cX4_init 15 = .ok (.aload_n 0, 1) := by decide +kernel
theorem dX4_init_16 : decode cX4_init 16 = .ok (.new 16, 3) := by decide +kernel
theorem dX4_init_19 : decode cX4_init 19 = .ok (.dup, 1) := by decide +kernel
theorem dX4_init_20 : decode cX4_init 20 = .ok (.invokespecial 18, 3) := by decide +kernel
theorem dX4_init_23 : decode cX4_init 23 = .ok (.putfield 19, 3) := by decide +kernel
theorem dX4_init_26 : decode cX4_init 26 = .ok (.aload_n 0, 1) := by decide +kernel
theorem dX4_init_27 : decode cX4_init 27 = .ok (.new 23, 3) := by decide +kernel
theorem dX4_init_30 : decode cX4_init 30 = .ok (.dup, 1) := by decide +kernel
theorem dX4_init_31 : decode cX4_init 31 = .ok (.invokespecial 25, 3) := by decide +kernel
theorem dX4_init_34 : decode cX4_init 34 = .ok (.putfield 26, 3) := by decide +kernel
theorem dX4_init_37 : decode cX4_init 37 = .ok (.aload_n 0, 1) := by decide +kernel
theorem dX4_init_38 : decode cX4_init 38 = .ok (.new 30, 3) := by decide +kernel
theorem dX4_init_41 : decode cX4_init 41 = .ok (.dup, 1) := by decide +kernel
theorem dX4_init_42 : decode cX4_init 42 = .ok (.invokespecial 32, 3) := by decide +kernel
theorem dX4_init_45 : decode cX4_init 45 = .ok (.putfield 33, 3) := by decide +kernel
theorem dX4_init_48 : decode cX4_init 48 = .ok (.return_, 1) := by decide +kernel
theorem dX0_init_0 : decode cX0_init 0 = .ok (.aload_n 0, 1) := by decide +kernel
theorem dX0_init_1 : decode cX0_init 1 = .ok (.invokespecial 3, 3) := by decide +kernel
theorem dX0_init_4 : decode cX0_init 4 = .ok (.aload_n 0, 1) := by decide +kernel
theorem dX0_init_5 : decode cX0_init 5 = .ok (.bipush 6, 2) := by decide +kernel
theorem dX0_init_7 : decode cX0_init 7 = .ok (.newarray .int, 2) := by decide +kernel
theorem dX0_init_9 : decode cX0_init 9 = .ok (.putfield 9, 3) := by decide +kernel
theorem dX0_init_12 : decode cX0_init 12 = .ok (.aload_n 0, 1) := by decide +kernel
theorem dX0_init_13 : decode cX0_init 13 = .ok (.bipush 6, 2) := by decide +kernel
theorem dX0_init_15 : decode cX0_init 15 = .ok (.newarray .int, 2) := by decide +kernel
theorem dX0_init_17 : decode cX0_init 17 = .ok (.putfield 15, 3) := by decide +kernel
theorem dX0_init_20 : decode cX0_init 20 = .ok (.aload_n 0, 1) := by decide +kernel
theorem dX0_init_21 : decode cX0_init 21 = .ok (.bipush 6, 2) := by decide +kernel
theorem dX0_init_23 : decode cX0_init 23 = .ok (.newarray .int, 2) := by decide +kernel
theorem dX0_init_25 : decode cX0_init 25 = .ok (.putfield 18, 3) := by decide +kernel
theorem dX0_init_28 : decode cX0_init 28 = .ok (.aload_n 0, 1) := by decide +kernel
theorem dX0_init_29 : decode cX0_init 29 = .ok (.bipush 6, 2) := by decide +kernel
theorem dX0_init_31 : decode cX0_init 31 = .ok (.newarray .int, 2) := by decide +kernel
theorem dX0_init_33 : decode cX0_init 33 = .ok (.putfield 21, 3) := by decide +kernel
theorem dX0_init_36 : decode cX0_init 36 = .ok (.return_, 1) := by decide +kernel
theorem dX3_init_0 : decode cX3_init 0 = .ok (.aload_n 0, 1) := by decide +kernel
theorem dX3_init_1 : decode cX3_init 1 = .ok (.invokespecial 3, 3) := by decide +kernel
theorem dX3_init_4 : decode cX3_init 4 = .ok (.aload_n 0, 1) := by decide +kernel
theorem dX3_init_5 : decode cX3_init 5 = .ok (.bipush 8, 2) := by decide +kernel
theorem dX3_init_7 : decode cX3_init 7 = .ok (.newarray .int, 2) := by decide +kernel
theorem dX3_init_9 : decode cX3_init 9 = .ok (.putfield 9, 3) := by decide +kernel
theorem dX3_init_12 : decode cX3_init 12 = .ok (.aload_n 0, 1) := by decide +kernel
theorem dX3_init_13 : decode cX3_init 13 = .ok (.bipush 8, 2) := by decide +kernel
theorem dX3_init_15 : decode cX3_init 15 = .ok (.newarray .int, 2) := by decide +kernel
theorem dX3_init_17 : decode cX3_init 17 = .ok (.putfield 15, 3) := by decide +kernel
theorem dX3_init_20 : decode cX3_init 20 = .ok (.aload_n 0, 1) := by decide +kernel
theorem dX3_init_21 : decode cX3_init 21 = .ok (.bipush 8, 2) := by decide +kernel
theorem dX3_init_23 : decode cX3_init 23 = .ok (.newarray .int, 2) := by decide +kernel
theorem dX3_init_25 : decode cX3_init 25 = .ok (.putfield 18, 3) := by decide +kernel
theorem dX3_init_28 : decode cX3_init 28 = .ok (.aload_n 0, 1) := by decide +kernel
theorem dX3_init_29 : decode cX3_init 29 = .ok (.bipush 8, 2) := by decide +kernel
theorem dX3_init_31 : decode cX3_init 31 = .ok (.newarray .int, 2) := by decide +kernel
theorem dX3_init_33 : decode cX3_init 33 = .ok (.putfield 21, 3) := by decide +kernel
theorem dX3_init_36 : decode cX3_init 36 = .ok (.aload_n 0, 1) := by decide +kernel
theorem dX3_init_37 : decode cX3_init 37 = .ok (.bipush 8, 2) := by decide +kernel
theorem dX3_init_39 : decode cX3_init 39 = .ok (.newarray .int, 2) := by decide +kernel
theorem dX3_init_41 : decode cX3_init 41 = .ok (.putfield 24, 3) := by decide +kernel
theorem dX3_init_44 : decode cX3_init 44 = .ok (.return_, 1) := by decide +kernel
theorem dX1_init_0 : decode cX1_init 0 = .ok (.aload_n 0, 1) := by decide +kernel
theorem dX1_init_1 : decode cX1_init 1 = .ok (.invokespecial 3, 3) := by decide +kernel
theorem dX1_init_4 : decode cX1_init 4 = .ok (.aload_n 0, 1) := by decide +kernel
theorem dX1_init_5 : decode cX1_init 5 = .ok (.bipush 8, 2) := by decide +kernel
theorem dX1_init_7 : decode cX1_init 7 = .ok (.newarray .int, 2) := by decide +kernel
theorem dX1_init_9 : decode cX1_init 9 = .ok (.putfield 9, 3) := by decide +kernel
theorem dX1_init_12 : decode cX1_init 12 = .ok (.aload_n 0, 1) := by decide +kernel
theorem dX1_init_13 : decode cX1_init 13 = .ok (.bipush 8, 2) := by decide +kernel
theorem dX1_init_15 : decode cX1_init 15 = .ok (.newarray .int, 2) := by decide +kernel
theorem dX1_init_17 : decode cX1_init 17 = .ok (.putfield 15, 3) := by decide +kernel
theorem dX1_init_20 : decode cX1_init 20 = .ok (.return_, 1) := by decide +kernel
theorem dX2_init_0 : decode cX2_init 0 = .ok (.aload_n 0, 1) := by decide +kernel
theorem dX2_init_1 : decode cX2_init 1 = .ok (.invokespecial 3, 3) := by decide +kernel
theorem dX2_init_4 : decode cX2_init 4 = .ok (.aload_n 0, 1) := by decide +kernel
theorem dX2_init_5 : decode cX2_init 5 = .ok (.bipush 64, 2) := by decide +kernel
theorem dX2_init_7 : decode cX2_init 7 = .ok (.newarray .int, 2) := by decide +kernel
theorem dX2_init_9 : decode cX2_init 9 = .ok (.putfield 9, 3) := by decide +kernel
theorem dX2_init_12 : decode cX2_init 12 = .ok (.aload_n 0, 1) := by decide +kernel
theorem dX2_init_13 : decode cX2_init 13 = .ok (.bipush 64, 2) := by decide +kernel
theorem dX2_init_15 : decode cX2_init 15 = .ok (.newarray .int, 2) := by decide +kernel
theorem dX2_init_17 : decode cX2_init 17 = .ok (.putfield 15, 3) := by decide +kernel
theorem dX2_init_20 : decode cX2_init 20 = .ok (.aload_n 0, 1) := by decide +kernel
theorem dX2_init_21 : decode cX2_init 21 = .ok (.bipush 64, 2) := by decide +kernel
theorem dX2_init_23 : decode cX2_init 23 = .ok (.newarray .int, 2) := by decide +kernel
theorem dX2_init_25 : decode cX2_init 25 = .ok (.putfield 18, 3) := by decide +kernel
theorem dX2_init_28 : decode cX2_init 28 = .ok (.aload_n 0, 1) := by decide +kernel
theorem dX2_init_29 : decode cX2_init 29 = .ok (.bipush 64, 2) := by decide +kernel
theorem dX2_init_31 : decode cX2_init 31 = .ok (.newarray .int, 2) := by decide +kernel
theorem dX2_init_33 : decode cX2_init 33 = .ok (.putfield 21, 3) := by decide +kernel
theorem dX2_init_36 : decode cX2_init 36 = .ok (.aload_n 0, 1) := by decide +kernel
theorem dX2_init_37 : decode cX2_init 37 = .ok (.bipush 64, 2) := by decide +kernel
theorem dX2_init_39 : decode cX2_init 39 = .ok (.newarray .int, 2) := by decide +kernel
theorem dX2_init_41 : decode cX2_init 41 = .ok (.putfield 24, 3) := by decide +kernel
theorem dX2_init_44 : decode cX2_init 44 = .ok (.return_, 1) := by decide +kernel
theorem dX4_exact_0 : decode cX4_exact 0 = .ok (.aload_n 0, 1) := by decide +kernel
theorem dX4_exact_1 : decode cX4_exact 1 = .ok (.getfield 26, 3) := by decide +kernel
theorem dX4_exact_4 : decode cX4_exact 4 = .ok (.getfield 104, 3) := by decide +kernel
theorem dX4_exact_7 : decode cX4_exact 7 = .ok (.ifCond .eq 17, 3) := by decide +kernel
theorem dX4_exact_10 : decode cX4_exact 10 = .ok (.aload_n 0, 1) := by decide +kernel
theorem dX4_exact_11 : decode cX4_exact 11 = .ok (.getfield 26, 3) := by decide +kernel
theorem dX4_exact_14 : decode cX4_exact 14 = .ok (.getfield 108, 3) := by decide +kernel
theorem dX4_exact_17 : decode cX4_exact 17 = .ok (.ifCond .eq 7, 3) := by decide +kernel
theorem dX4_exact_20 : decode cX4_exact 20 = .ok (.iconst 1, 1) := by decide +kernel
theorem dX4_exact_21 : decode cX4_exact 21 = .ok (.goto 4, 3) := by decide +kernel
theorem dX4_exact_24 : decode cX4_exact 24 = .ok (.iconst 0, 1) := by decide +kernel
theorem dX4_exact_25 : decode cX4_exact 25 = .ok (.ireturn, 1) := by decide +kernel
theorem dX4_boxes_0 : decode cX4_boxes 0 = .ok (.aload_n 0, 1) := by decide +kernel
theorem dX4_boxes_1 : decode cX4_boxes 1 = .ok (.getfield 26, 3) := by decide +kernel
theorem dX4_boxes_4 : decode cX4_boxes 4 = .ok (.getfield 104, 3) := by decide +kernel
theorem dX4_boxes_7 : decode cX4_boxes 7 = .ok (.ifCond .eq 13, 3) := by decide +kernel
theorem dX4_boxes_10 : decode cX4_boxes 10 = .ok (.aload_n 0, 1) := by decide +kernel
theorem dX4_boxes_11 : decode cX4_boxes 11 = .ok (.getfield 26, 3) := by decide +kernel
theorem dX4_boxes_14 : decode cX4_boxes 14 = .ok (.getfield 111, 3) := by decide +kernel
theorem dX4_boxes_17 : decode cX4_boxes 17 = .ok (.goto 4, 3) := by decide +kernel
theorem dX4_boxes_20 : decode cX4_boxes 20 = .ok (.iconst (-1), 1) := by decide +kernel
theorem dX4_boxes_21 : decode cX4_boxes 21 = .ok (.ireturn, 1) := by decide +kernel
theorem dX4_count_0 : decode cX4_count 0 = .ok (.iload_n 1, 1) := by decide +kernel
theorem dX4_count_1 : decode cX4_count 1 = .ok (.tableswitch 91 0 4 #[35, 43, 51, 60, 69], 35) := by decide +kernel
theorem dX4_count_36 : decode cX4_count 36 = .ok (.aload_n 0, 1) := by decide +kernel
theorem dX4_count_37 : decode cX4_count 37 = .ok (.getfield 12, 3) := by decide +kernel
theorem dX4_count_40 : decode cX4_count 40 = .ok (.getfield 185, 3) := by decide +kernel
theorem dX4_count_43 : decode cX4_count 43 = .ok (.ireturn, 1) := by decide +kernel
theorem dX4_count_44 : decode cX4_count 44 = .ok (.aload_n 0, 1) := by decide +kernel
theorem dX4_count_45 : decode cX4_count 45 = .ok (.getfield 19, 3) := by decide +kernel
theorem dX4_count_48 : decode cX4_count 48 = .ok (.getfield 84, 3) := by decide +kernel
theorem dX4_count_51 : decode cX4_count 51 = .ok (.ireturn, 1) := by decide +kernel
theorem dX4_count_52 : decode cX4_count 52 = .ok (.aload_n 0, 1) := by decide +kernel
theorem dX4_count_53 : decode cX4_count 53 = .ok (.getfield 19, 3) := by decide +kernel
theorem dX4_count_56 : decode cX4_count 56 = .ok (.iconst 1, 1) := by decide +kernel
theorem dX4_count_57 : decode cX4_count 57 = .ok (.invokevirtual 186, 3) := by decide +kernel
theorem dX4_count_60 : decode cX4_count 60 = .ok (.ireturn, 1) := by decide +kernel
theorem dX4_count_61 : decode cX4_count 61 = .ok (.aload_n 0, 1) := by decide +kernel
theorem dX4_count_62 : decode cX4_count 62 = .ok (.getfield 19, 3) := by decide +kernel
theorem dX4_count_65 : decode cX4_count 65 = .ok (.iconst 2, 1) := by decide +kernel
theorem dX4_count_66 : decode cX4_count 66 = .ok (.invokevirtual 186, 3) := by decide +kernel
theorem dX4_count_69 : decode cX4_count 69 = .ok (.ireturn, 1) := by decide +kernel
theorem dX4_count_70 : decode cX4_count 70 = .ok (.aload_n 0, 1) := by decide +kernel
theorem dX4_count_71 : decode cX4_count 71 = .ok (.getfield 26, 3) := by decide +kernel
theorem dX4_count_74 : decode cX4_count 74 = .ok (.getfield 104, 3) := by decide +kernel
theorem dX4_count_77 : decode cX4_count 77 = .ok (.ifCond .eq 13, 3) := by decide +kernel
theorem dX4_count_80 : decode cX4_count 80 = .ok (.aload_n 0, 1) := by decide +kernel
theorem dX4_count_81 : decode cX4_count 81 = .ok (.getfield 26, 3) := by decide +kernel
theorem dX4_count_84 : decode cX4_count 84 = .ok (.getfield 101, 3) := by decide +kernel
theorem dX4_count_87 : decode cX4_count 87 = .ok (.goto 4, 3) := by decide +kernel
theorem dX4_count_90 : decode cX4_count 90 = .ok (.iconst (-1), 1) := by decide +kernel
theorem dX4_count_91 : decode cX4_count 91 = .ok (.ireturn, 1) := by decide +kernel
theorem dX4_count_92 : decode cX4_count 92 = .ok (.iconst (-1), 1) := by decide +kernel
theorem dX4_count_93 : decode cX4_count 93 = .ok (.ireturn, 1) := by decide +kernel
theorem dX3_pairsOf_0 : decode cX3_pairsOf 0 = .ok (.iconst 0, 1) := by decide +kernel
theorem dX3_pairsOf_1 : decode cX3_pairsOf 1 = .ok (.istore_n 2, 1) := by decide +kernel
theorem dX3_pairsOf_2 : decode cX3_pairsOf 2 = .ok (.iconst 0, 1) := by decide +kernel
theorem dX3_pairsOf_3 : decode cX3_pairsOf 3 = .ok (.istore_n 3, 1) := by decide +kernel
theorem dX3_pairsOf_4 : decode cX3_pairsOf 4 = .ok (.iload_n 3, 1) := by decide +kernel
theorem dX3_pairsOf_5 : decode cX3_pairsOf 5 = .ok (.aload_n 0, 1) := by decide +kernel
theorem dX3_pairsOf_6 : decode cX3_pairsOf 6 = .ok (.getfield 27, 3) := by decide +kernel
theorem dX3_pairsOf_9 : decode cX3_pairsOf 9 = .ok (.if_icmp .ge 43, 3) := by decide +kernel
theorem dX3_pairsOf_12 : decode cX3_pairsOf 12 = .ok (.iload_n 3, 1) := by decide +kernel
theorem dX3_pairsOf_13 : decode cX3_pairsOf 13 = .ok (.iconst 1, 1) := by decide +kernel
theorem dX3_pairsOf_14 : decode cX3_pairsOf 14 = .ok (.iadd, 1) := by decide +kernel
theorem dX3_pairsOf_15 : decode cX3_pairsOf 15 = .ok (.istore 4, 2) := by decide +kernel
theorem dX3_pairsOf_17 : decode cX3_pairsOf 17 = .ok (.iload 4, 2) := by decide +kernel
theorem dX3_pairsOf_19 : decode cX3_pairsOf 19 = .ok (.aload_n 0, 1) := by decide +kernel
theorem dX3_pairsOf_20 : decode cX3_pairsOf 20 = .ok (.getfield 27, 3) := by decide +kernel
theorem dX3_pairsOf_23 : decode cX3_pairsOf 23 = .ok (.if_icmp .ge 23, 3) := by decide +kernel
theorem dX3_pairsOf_26 : decode cX3_pairsOf 26 = .ok (.aload_n 0, 1) := by decide +kernel
theorem dX3_pairsOf_27 : decode cX3_pairsOf 27 = .ok (.iload_n 3, 1) := by decide +kernel
theorem dX3_pairsOf_28 : decode cX3_pairsOf 28 = .ok (.iload 4, 2) := by decide +kernel
theorem dX3_pairsOf_30 : decode cX3_pairsOf 30 = .ok (.invokevirtual 47, 3) := by decide +kernel
theorem dX3_pairsOf_33 : decode cX3_pairsOf 33 = .ok (.iload_n 1, 1) := by decide +kernel
theorem dX3_pairsOf_34 : decode cX3_pairsOf 34 = .ok (.if_icmp .ne 6, 3) := by decide +kernel
theorem dX3_pairsOf_37 : decode cX3_pairsOf 37 = .ok (.iinc 2 1, 3) := by decide +kernel
theorem dX3_pairsOf_40 : decode cX3_pairsOf 40 = .ok (.iinc 4 1, 3) := by decide +kernel
theorem dX3_pairsOf_43 : decode cX3_pairsOf 43 = .ok (.goto (-26), 3) := by decide +kernel
theorem dX3_pairsOf_46 : decode cX3_pairsOf 46 = .ok (.iinc 3 1, 3) := by decide +kernel
theorem dX3_pairsOf_49 : decode cX3_pairsOf 49 = .ok (.goto (-45), 3) := by decide +kernel
theorem dX3_pairsOf_52 : decode cX3_pairsOf 52 = .ok (.iload_n 2, 1) := by decide +kernel
theorem dX3_pairsOf_53 : decode cX3_pairsOf 53 = .ok (.ireturn, 1) := by decide +kernel
theorem dX3_relationOf_0 : decode cX3_relationOf 0 = .ok (.aload_n 0, 1) := by decide +kernel
theorem dX3_relationOf_1 : decode cX3_relationOf 1 = .ok (.iload_n 1, 1) := by decide +kernel
theorem dX3_relationOf_2 : decode cX3_relationOf 2 = .ok (.invokevirtual 35, 3) := by decide +kernel
theorem dX3_relationOf_5 : decode cX3_relationOf 5 = .ok (.ifCond .eq 11, 3) := by decide +kernel
theorem dX3_relationOf_8 : decode cX3_relationOf 8 = .ok (.aload_n 0, 1) := by decide +kernel
theorem dX3_relationOf_9 : decode cX3_relationOf 9 = .ok (.iload_n 2, 1) := by decide +kernel
theorem dX3_relationOf_10 : decode cX3_relationOf 10 = .ok (.invokevirtual 35, 3) := by decide +kernel
theorem dX3_relationOf_13 : decode cX3_relationOf 13 = .ok (.ifCond .ne 5, 3) := by decide +kernel
theorem dX3_relationOf_16 : decode cX3_relationOf 16 = .ok (.iconst 0, 1) := by decide +kernel
theorem dX3_relationOf_17 : decode cX3_relationOf 17 = .ok (.ireturn, 1) := by decide +kernel
theorem dX3_relationOf_18 : decode cX3_relationOf 18 = .ok (.aload_n 0, 1) := by decide +kernel
theorem dX3_relationOf_19 : decode cX3_relationOf 19 = .ok (.getfield 21, 3) := by decide +kernel
theorem dX3_relationOf_22 : decode cX3_relationOf 22 = .ok (.iload_n 1, 1) := by decide +kernel
theorem dX3_relationOf_23 : decode cX3_relationOf 23 = .ok (.iaload, 1) := by decide +kernel
theorem dX3_relationOf_24 : decode cX3_relationOf 24 = .ok (.iload_n 2, 1) := by decide +kernel
theorem dX3_relationOf_25 : decode cX3_relationOf 25 = .ok (.invokestatic 39, 3) := by decide +kernel
theorem dX3_relationOf_28 : decode cX3_relationOf 28 = .ok (.ifCond .eq 5, 3) := by decide +kernel
theorem dX3_relationOf_31 : decode cX3_relationOf 31 = .ok (.iconst 1, 1) := by decide +kernel
theorem dX3_relationOf_32 : decode cX3_relationOf 32 = .ok (.ireturn, 1) := by decide +kernel
theorem dX3_relationOf_33 : decode cX3_relationOf 33 = .ok (.aload_n 0, 1) := by decide +kernel
theorem dX3_relationOf_34 : decode cX3_relationOf 34 = .ok (.getfield 24, 3) := by decide +kernel
theorem dX3_relationOf_37 : decode cX3_relationOf 37 = .ok (.iload_n 1, 1) := by decide +kernel
theorem dX3_relationOf_38 : decode cX3_relationOf 38 = .ok (.iaload, 1) := by decide +kernel
theorem dX3_relationOf_39 : decode cX3_relationOf 39 = .ok (.iload_n 2, 1) := by decide +kernel
theorem dX3_relationOf_40 : decode cX3_relationOf 40 = .ok (.invokestatic 39, 3) := by decide +kernel
theorem dX3_relationOf_43 : decode cX3_relationOf 43 = .ok (.ifCond .eq 7, 3) := by decide +kernel
theorem dX3_relationOf_46 : decode cX3_relationOf 46 = .ok (.iconst 2, 1) := by decide +kernel
theorem dX3_relationOf_47 : decode cX3_relationOf 47 = .ok (.goto 4, 3) := by decide +kernel
theorem dX3_relationOf_50 : decode cX3_relationOf 50 = .ok (.iconst 0, 1) := by decide +kernel
theorem dX3_relationOf_51 : decode cX3_relationOf 51 = .ok (.ireturn, 1) := by decide +kernel
theorem dX3_has_0 : decode cX3_has 0 = .ok (.iload_n 1, 1) := by decide +kernel
theorem dX3_has_1 : decode cX3_has 1 = .ok (.ifCond .lt 15, 3) := by decide +kernel
theorem dX3_has_4 : decode cX3_has 4 = .ok (.iload_n 1, 1) := by decide +kernel
theorem dX3_has_5 : decode cX3_has 5 = .ok (.aload_n 0, 1) := by decide +kernel
theorem dX3_has_6 : decode cX3_has 6 = .ok (.getfield 27, 3) := by decide +kernel
theorem dX3_has_9 : decode cX3_has 9 = .ok (.if_icmp .ge 7, 3) := by decide +kernel
theorem dX3_has_12 : decode cX3_has 12 = .ok (.iconst 1, 1) := by decide +kernel
theorem dX3_has_13 : decode cX3_has 13 = .ok (.goto 4, 3) := by decide +kernel
theorem dX3_has_16 : decode cX3_has 16 = .ok (.iconst 0, 1) := by decide +kernel
theorem dX3_has_17 : decode cX3_has 17 = .ok (.ireturn, 1) := by decide +kernel
theorem dX4_holds_0 : decode cX4_holds 0 = .ok (.iload_n 0, 1) := by decide +kernel
theorem dX4_holds_1 : decode cX4_holds 1 = .ok (.iload_n 1, 1) := by decide +kernel
theorem dX4_holds_2 : decode cX4_holds 2 = .ok (.ishr, 1) := by decide +kernel
theorem dX4_holds_3 : decode cX4_holds 3 = .ok (.iconst 1, 1) := by decide +kernel
theorem dX4_holds_4 : decode cX4_holds 4 = .ok (.iand, 1) := by decide +kernel
theorem dX4_holds_5 : decode cX4_holds 5 = .ok (.ifCond .eq 7, 3) := by decide +kernel
theorem dX4_holds_8 : decode cX4_holds 8 = .ok (.iconst 1, 1) := by decide +kernel
theorem dX4_holds_9 : decode cX4_holds 9 = .ok (.goto 4, 3) := by decide +kernel
theorem dX4_holds_12 : decode cX4_holds 12 = .ok (.iconst 0, 1) := by decide +kernel
theorem dX4_holds_13 : decode cX4_holds 13 = .ok (.ireturn, 1) := by decide +kernel
theorem dL_box_0 : decode cL_box 0 = .ok (.aload 5, 2) := by decide +kernel
theorem dL_box_2 : decode cL_box 2 = .ok (.iconst 0, 1) := by decide +kernel
theorem dL_box_3 : decode cL_box 3 = .ok (.aload_n 0, 1) := by decide +kernel
theorem dL_box_4 : decode cL_box 4 = .ok (.iload_n 1, 1) := by decide +kernel
theorem dL_box_5 : decode cL_box 5 = .ok (.iload_n 2, 1) := by decide +kernel
theorem dL_box_6 : decode cL_box 6 = .ok (.iload_n 3, 1) := by decide +kernel
theorem dL_box_7 : decode cL_box 7 = .ok (.iload 4, 2) := by decide +kernel
theorem dL_box_9 : decode cL_box 9 = .ok (.invokevirtual 7, 3) := by decide +kernel
theorem dL_box_12 : decode cL_box 12 = .ok (.i2l, 1) := by decide +kernel
theorem dL_box_13 : decode cL_box 13 = .ok (.lastore, 1) := by decide +kernel
theorem dL_box_14 : decode cL_box 14 = .ok (.goto 11, 3) := by decide +kernel
theorem dL_box_17 : decode cL_box 17 = .ok (.astore 6, 2) := by decide +kernel
theorem dL_box_19 : decode cL_box 19 = .ok (.iconst 1, 1) := by decide +kernel
theorem dL_box_20 : decode cL_box 20 = .ok (.ireturn, 1) := by decide +kernel
theorem dL_box_21 : decode cL_box 21 = .ok (.astore 6, 2) := by decide +kernel
theorem dL_box_23 : decode cL_box 23 = .ok (.iconst 2, 1) := by decide +kernel
theorem dL_box_24 : decode cL_box 24 = .ok (.ireturn, 1) := by decide +kernel
theorem dL_box_25 : decode cL_box 25 = .ok (.iconst 0, 1) := by decide +kernel
theorem dL_box_26 : decode cL_box 26 = .ok (.ireturn, 1) := by decide +kernel
theorem dX4_box_0 : decode cX4_box 0 = .ok (.iload_n 1, 1) := by decide +kernel
theorem dX4_box_1 : decode cX4_box 1 = .ok (.iconst 1, 1) := by decide +kernel
theorem dX4_box_2 : decode cX4_box 2 = .ok (.sipush 1000, 3) := by decide +kernel
theorem dX4_box_5 : decode cX4_box 5 = .ok (.invokestatic 37, 3) := by decide +kernel
theorem dX4_box_8 : decode cX4_box 8 = .ok (.iload_n 2, 1) := by decide +kernel
theorem dX4_box_9 : decode cX4_box 9 = .ok (.iconst 1, 1) := by decide +kernel
theorem dX4_box_10 : decode cX4_box 10 = .ok (.sipush 1000, 3) := by decide +kernel
theorem dX4_box_13 : decode cX4_box 13 = .ok (.invokestatic 37, 3) := by decide +kernel
theorem dX4_box_16 : decode cX4_box 16 = .ok (.iload_n 3, 1) := by decide +kernel
theorem dX4_box_17 : decode cX4_box 17 = .ok (.iconst 0, 1) := by decide +kernel
theorem dX4_box_18 : decode cX4_box 18 = .ok (.sipush 1000, 3) := by decide +kernel
theorem dX4_box_21 : decode cX4_box 21 = .ok (.invokestatic 37, 3) := by decide +kernel
theorem dX4_box_24 : decode cX4_box 24 = .ok (.iload 4, 2) := by decide +kernel
theorem dX4_box_26 : decode cX4_box 26 = .ok (.iconst 0, 1) := by decide +kernel
theorem dX4_box_27 : decode cX4_box 27 = .ok (.sipush 255, 3) := by decide +kernel
theorem dX4_box_30 : decode cX4_box 30 = .ok (.invokestatic 37, 3) := by decide +kernel
theorem dX4_box_33 : decode cX4_box 33 = .ok (.aload_n 0, 1) := by decide +kernel
theorem dX4_box_34 : decode cX4_box 34 = .ok (.getfield 12, 3) := by decide +kernel
theorem dX4_box_37 : decode cX4_box 37 = .ok (.invokevirtual 41, 3) := by decide +kernel
theorem dX4_box_40 : decode cX4_box 40 = .ok (.ifCond .eq 13, 3) := by decide +kernel
theorem dX4_box_43 : decode cX4_box 43 = .ok (.new 45, 3) := by decide +kernel
theorem dX4_box_46 : decode cX4_box 46 = .ok (.dup, 1) := by decide +kernel
theorem dX4_box_47 : decode cX4_box 47 = .ok (.ldc 47, 2) := by decide +kernel
theorem dX4_box_49 : decode cX4_box 49 = .ok (.invokespecial 49, 3) := by decide +kernel
theorem dX4_box_52 : decode cX4_box 52 = .ok (.athrow, 1) := by decide +kernel
theorem dX4_box_53 : decode cX4_box 53 = .ok (.aload_n 0, 1) := by decide +kernel
theorem dX4_box_54 : decode cX4_box 54 = .ok (.getfield 12, 3) := by decide +kernel
theorem dX4_box_57 : decode cX4_box 57 = .ok (.iload_n 1, 1) := by decide +kernel
theorem dX4_box_58 : decode cX4_box 58 = .ok (.iload_n 2, 1) := by decide +kernel
theorem dX4_box_59 : decode cX4_box 59 = .ok (.iload_n 3, 1) := by decide +kernel
theorem dX4_box_60 : decode cX4_box 60 = .ok (.iload 4, 2) := by decide +kernel
theorem dX4_box_62 : decode cX4_box 62 = .ok (.invokevirtual 52, 3) := by decide +kernel
theorem dX4_box_65 : decode cX4_box 65 = .ok (.ireturn, 1) := by decide +kernel
theorem dX4_needRange_0 : decode cX4_needRange 0 = .ok (.iload_n 0, 1) := by decide +kernel
theorem dX4_needRange_1 : decode cX4_needRange 1 = .ok (.iload_n 1, 1) := by decide +kernel
theorem dX4_needRange_2 : decode cX4_needRange 2 = .ok (.if_icmp .lt 8, 3) := by decide +kernel
theorem dX4_needRange_5 : decode cX4_needRange 5 = .ok (.iload_n 0, 1) := by decide +kernel
theorem dX4_needRange_6 : decode cX4_needRange 6 = .ok (.iload_n 2, 1) := by decide +kernel
theorem dX4_needRange_7 : decode cX4_needRange 7 = .ok (.if_icmp .le 13, 3) := by decide +kernel
theorem dX4_needRange_10 : decode cX4_needRange 10 = .ok (.new 66, 3) := by decide +kernel
theorem dX4_needRange_13 : decode cX4_needRange 13 = .ok (.dup, 1) := by decide +kernel
theorem dX4_needRange_14 : decode cX4_needRange 14 = .ok (.ldc 195, 2) := by decide +kernel
theorem dX4_needRange_16 : decode cX4_needRange 16 = .ok (.invokespecial 70, 3) := by decide +kernel
theorem dX4_needRange_19 : decode cX4_needRange 19 = .ok (.athrow, 1) := by decide +kernel
theorem dX4_needRange_20 : decode cX4_needRange 20 = .ok (.return_, 1) := by decide +kernel
theorem dX0_isFull_0 : decode cX0_isFull 0 = .ok (.aload_n 0, 1) := by decide +kernel
theorem dX0_isFull_1 : decode cX0_isFull 1 = .ok (.getfield 24, 3) := by decide +kernel
theorem dX0_isFull_4 : decode cX0_isFull 4 = .ok (.bipush 6, 2) := by decide +kernel
theorem dX0_isFull_6 : decode cX0_isFull 6 = .ok (.if_icmp .lt 7, 3) := by decide +kernel
theorem dX0_isFull_9 : decode cX0_isFull 9 = .ok (.iconst 1, 1) := by decide +kernel
theorem dX0_isFull_10 : decode cX0_isFull 10 = .ok (.goto 4, 3) := by decide +kernel
theorem dX0_isFull_13 : decode cX0_isFull 13 = .ok (.iconst 0, 1) := by decide +kernel
theorem dX0_isFull_14 : decode cX0_isFull 14 = .ok (.ireturn, 1) := by decide +kernel
theorem dX0_add_0 : decode cX0_add 0 = .ok (.aload_n 0, 1) := by decide +kernel
theorem dX0_add_1 : decode cX0_add 1 = .ok (.invokevirtual 28, 3) := by decide +kernel
theorem dX0_add_4 : decode cX0_add 4 = .ok (.ifCond .eq 5, 3) := by decide +kernel
theorem dX0_add_7 : decode cX0_add 7 = .ok (.iconst (-1), 1) := by decide +kernel
theorem dX0_add_8 : decode cX0_add 8 = .ok (.ireturn, 1) := by decide +kernel
theorem dX0_add_9 : decode cX0_add 9 = .ok (.aload_n 0, 1) := by decide +kernel
theorem dX0_add_10 : decode cX0_add 10 = .ok (.getfield 24, 3) := by decide +kernel
theorem dX0_add_13 : decode cX0_add 13 = .ok (.istore 5, 2) := by decide +kernel
theorem dX0_add_15 : decode cX0_add 15 = .ok (.aload_n 0, 1) := by decide +kernel
theorem dX0_add_16 : decode cX0_add 16 = .ok (.getfield 9, 3) := by decide +kernel
theorem dX0_add_19 : decode cX0_add 19 = .ok (.iload 5, 2) := by decide +kernel
theorem dX0_add_21 : decode cX0_add 21 = .ok (.iload_n 1, 1) := by decide +kernel
theorem dX0_add_22 : decode cX0_add 22 = .ok (.iastore, 1) := by decide +kernel
theorem dX0_add_23 : decode cX0_add 23 = .ok (.aload_n 0, 1) := by decide +kernel
theorem dX0_add_24 : decode cX0_add 24 = .ok (.getfield 15, 3) := by decide +kernel
theorem dX0_add_27 : decode cX0_add 27 = .ok (.iload 5, 2) := by decide +kernel
theorem dX0_add_29 : decode cX0_add 29 = .ok (.iload_n 2, 1) := by decide +kernel
theorem dX0_add_30 : decode cX0_add 30 = .ok (.iastore, 1) := by decide +kernel
theorem dX0_add_31 : decode cX0_add 31 = .ok (.aload_n 0, 1) := by decide +kernel
theorem dX0_add_32 : decode cX0_add 32 = .ok (.getfield 18, 3) := by decide +kernel
theorem dX0_add_35 : decode cX0_add 35 = .ok (.iload 5, 2) := by decide +kernel
theorem dX0_add_37 : decode cX0_add 37 = .ok (.iload_n 3, 1) := by decide +kernel
theorem dX0_add_38 : decode cX0_add 38 = .ok (.iastore, 1) := by decide +kernel
theorem dX0_add_39 : decode cX0_add 39 = .ok (.aload_n 0, 1) := by decide +kernel
theorem dX0_add_40 : decode cX0_add 40 = .ok (.getfield 21, 3) := by decide +kernel
theorem dX0_add_43 : decode cX0_add 43 = .ok (.iload 5, 2) := by decide +kernel
theorem dX0_add_45 : decode cX0_add 45 = .ok (.iload 4, 2) := by decide +kernel
theorem dX0_add_47 : decode cX0_add 47 = .ok (.iastore, 1) := by decide +kernel
theorem dX0_add_48 : decode cX0_add 48 = .ok (.aload_n 0, 1) := by decide +kernel
theorem dX0_add_49 : decode cX0_add 49 = .ok (.dup, 1) := by decide +kernel
theorem dX0_add_50 : decode cX0_add 50 = .ok (.getfield 24, 3) := by decide +kernel
theorem dX0_add_53 : decode cX0_add 53 = .ok (.iconst 1, 1) := by decide +kernel
theorem dX0_add_54 : decode cX0_add 54 = .ok (.iadd, 1) := by decide +kernel
theorem dX0_add_55 : decode cX0_add 55 = .ok (.putfield 24, 3) := by decide +kernel
theorem dX0_add_58 : decode cX0_add 58 = .ok (.iload 5, 2) := by decide +kernel
theorem dX0_add_60 : decode cX0_add 60 = .ok (.ireturn, 1) := by decide +kernel
theorem dL_unit_0 : decode cL_unit 0 = .ok (.aload 4, 2) := by decide +kernel
theorem dL_unit_2 : decode cL_unit 2 = .ok (.iconst 0, 1) := by decide +kernel
theorem dL_unit_3 : decode cL_unit 3 = .ok (.aload_n 0, 1) := by decide +kernel
theorem dL_unit_4 : decode cL_unit 4 = .ok (.iload_n 1, 1) := by decide +kernel
theorem dL_unit_5 : decode cL_unit 5 = .ok (.iload_n 2, 1) := by decide +kernel
theorem dL_unit_6 : decode cL_unit 6 = .ok (.iload_n 3, 1) := by decide +kernel
theorem dL_unit_7 : decode cL_unit 7 = .ok (.invokevirtual 17, 3) := by decide +kernel
theorem dL_unit_10 : decode cL_unit 10 = .ok (.i2l, 1) := by decide +kernel
theorem dL_unit_11 : decode cL_unit 11 = .ok (.lastore, 1) := by decide +kernel
theorem dL_unit_12 : decode cL_unit 12 = .ok (.goto 11, 3) := by decide +kernel
theorem dL_unit_15 : decode cL_unit 15 = .ok (.astore 5, 2) := by decide +kernel
theorem dL_unit_17 : decode cL_unit 17 = .ok (.iconst 1, 1) := by decide +kernel
theorem dL_unit_18 : decode cL_unit 18 = .ok (.ireturn, 1) := by decide +kernel
theorem dL_unit_19 : decode cL_unit 19 = .ok (.astore 5, 2) := by decide +kernel
theorem dL_unit_21 : decode cL_unit 21 = .ok (.iconst 2, 1) := by decide +kernel
theorem dL_unit_22 : decode cL_unit 22 = .ok (.ireturn, 1) := by decide +kernel
theorem dL_unit_23 : decode cL_unit 23 = .ok (.iconst 0, 1) := by decide +kernel
theorem dL_unit_24 : decode cL_unit 24 = .ok (.ireturn, 1) := by decide +kernel
theorem dX4_unit_0 : decode cX4_unit 0 = .ok (.iload_n 1, 1) := by decide +kernel
theorem dX4_unit_1 : decode cX4_unit 1 = .ok (.iconst 1, 1) := by decide +kernel
theorem dX4_unit_2 : decode cX4_unit 2 = .ok (.sipush 1000, 3) := by decide +kernel
theorem dX4_unit_5 : decode cX4_unit 5 = .ok (.invokestatic 37, 3) := by decide +kernel
theorem dX4_unit_8 : decode cX4_unit 8 = .ok (.iload_n 2, 1) := by decide +kernel
theorem dX4_unit_9 : decode cX4_unit 9 = .ok (.iconst 0, 1) := by decide +kernel
theorem dX4_unit_10 : decode cX4_unit 10 = .ok (.sipush 1000, 3) := by decide +kernel
theorem dX4_unit_13 : decode cX4_unit 13 = .ok (.invokestatic 37, 3) := by decide +kernel
theorem dX4_unit_16 : decode cX4_unit 16 = .ok (.iload_n 3, 1) := by decide +kernel
theorem dX4_unit_17 : decode cX4_unit 17 = .ok (.iconst 0, 1) := by decide +kernel
theorem dX4_unit_18 : decode cX4_unit 18 = .ok (.bipush 7, 2) := by decide +kernel
theorem dX4_unit_20 : decode cX4_unit 20 = .ok (.invokestatic 37, 3) := by decide +kernel
theorem dX4_unit_23 : decode cX4_unit 23 = .ok (.aload_n 0, 1) := by decide +kernel
theorem dX4_unit_24 : decode cX4_unit 24 = .ok (.getfield 19, 3) := by decide +kernel
theorem dX4_unit_27 : decode cX4_unit 27 = .ok (.invokevirtual 56, 3) := by decide +kernel
theorem dX4_unit_30 : decode cX4_unit 30 = .ok (.ifCond .eq 13, 3) := by decide +kernel
theorem dX4_unit_33 : decode cX4_unit 33 = .ok (.new 45, 3) := by decide +kernel
theorem dX4_unit_36 : decode cX4_unit 36 = .ok (.dup, 1) := by decide +kernel
theorem dX4_unit_37 : decode cX4_unit 37 = .ok (.ldc 57, 2) := by decide +kernel
theorem dX4_unit_39 : decode cX4_unit 39 = .ok (.invokespecial 49, 3) := by decide +kernel
theorem dX4_unit_42 : decode cX4_unit 42 = .ok (.athrow, 1) := by decide +kernel
theorem dX4_unit_43 : decode cX4_unit 43 = .ok (.aload_n 0, 1) := by decide +kernel
theorem dX4_unit_44 : decode cX4_unit 44 = .ok (.getfield 19, 3) := by decide +kernel
theorem dX4_unit_47 : decode cX4_unit 47 = .ok (.iload_n 1, 1) := by decide +kernel
theorem dX4_unit_48 : decode cX4_unit 48 = .ok (.iload_n 2, 1) := by decide +kernel
theorem dX4_unit_49 : decode cX4_unit 49 = .ok (.iload_n 3, 1) := by decide +kernel
theorem dX4_unit_50 : decode cX4_unit 50 = .ok (.invokevirtual 59, 3) := by decide +kernel
theorem dX4_unit_53 : decode cX4_unit 53 = .ok (.ireturn, 1) := by decide +kernel
theorem dX3_isFull_0 : decode cX3_isFull 0 = .ok (.aload_n 0, 1) := by decide +kernel
theorem dX3_isFull_1 : decode cX3_isFull 1 = .ok (.getfield 27, 3) := by decide +kernel
theorem dX3_isFull_4 : decode cX3_isFull 4 = .ok (.bipush 8, 2) := by decide +kernel
theorem dX3_isFull_6 : decode cX3_isFull 6 = .ok (.if_icmp .lt 7, 3) := by decide +kernel
theorem dX3_isFull_9 : decode cX3_isFull 9 = .ok (.iconst 1, 1) := by decide +kernel
theorem dX3_isFull_10 : decode cX3_isFull 10 = .ok (.goto 4, 3) := by decide +kernel
theorem dX3_isFull_13 : decode cX3_isFull 13 = .ok (.iconst 0, 1) := by decide +kernel
theorem dX3_isFull_14 : decode cX3_isFull 14 = .ok (.ireturn, 1) := by decide +kernel
theorem dX3_add_0 : decode cX3_add 0 = .ok (.aload_n 0, 1) := by decide +kernel
theorem dX3_add_1 : decode cX3_add 1 = .ok (.invokevirtual 31, 3) := by decide +kernel
theorem dX3_add_4 : decode cX3_add 4 = .ok (.ifCond .eq 5, 3) := by decide +kernel
theorem dX3_add_7 : decode cX3_add 7 = .ok (.iconst (-1), 1) := by decide +kernel
theorem dX3_add_8 : decode cX3_add 8 = .ok (.ireturn, 1) := by decide +kernel
theorem dX3_add_9 : decode cX3_add 9 = .ok (.aload_n 0, 1) := by decide +kernel
theorem dX3_add_10 : decode cX3_add 10 = .ok (.getfield 27, 3) := by decide +kernel
theorem dX3_add_13 : decode cX3_add 13 = .ok (.istore 4, 2) := by decide +kernel
theorem dX3_add_15 : decode cX3_add 15 = .ok (.aload_n 0, 1) := by decide +kernel
theorem dX3_add_16 : decode cX3_add 16 = .ok (.getfield 9, 3) := by decide +kernel
theorem dX3_add_19 : decode cX3_add 19 = .ok (.iload 4, 2) := by decide +kernel
theorem dX3_add_21 : decode cX3_add 21 = .ok (.iload_n 1, 1) := by decide +kernel
theorem dX3_add_22 : decode cX3_add 22 = .ok (.iastore, 1) := by decide +kernel
theorem dX3_add_23 : decode cX3_add 23 = .ok (.aload_n 0, 1) := by decide +kernel
theorem dX3_add_24 : decode cX3_add 24 = .ok (.getfield 15, 3) := by decide +kernel
theorem dX3_add_27 : decode cX3_add 27 = .ok (.iload 4, 2) := by decide +kernel
theorem dX3_add_29 : decode cX3_add 29 = .ok (.iload_n 2, 1) := by decide +kernel
theorem dX3_add_30 : decode cX3_add 30 = .ok (.iastore, 1) := by decide +kernel
theorem dX3_add_31 : decode cX3_add 31 = .ok (.aload_n 0, 1) := by decide +kernel
theorem dX3_add_32 : decode cX3_add 32 = .ok (.getfield 18, 3) := by decide +kernel
theorem dX3_add_35 : decode cX3_add 35 = .ok (.iload 4, 2) := by decide +kernel
theorem dX3_add_37 : decode cX3_add 37 = .ok (.iload_n 3, 1) := by decide +kernel
theorem dX3_add_38 : decode cX3_add 38 = .ok (.iastore, 1) := by decide +kernel
theorem dX3_add_39 : decode cX3_add 39 = .ok (.aload_n 0, 1) := by decide +kernel
theorem dX3_add_40 : decode cX3_add 40 = .ok (.dup, 1) := by decide +kernel
theorem dX3_add_41 : decode cX3_add 41 = .ok (.getfield 27, 3) := by decide +kernel
