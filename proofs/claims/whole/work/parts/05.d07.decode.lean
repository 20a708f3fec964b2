theorem dX5_boxes_0 : decode cX5_boxes 0 = .ok (.aload_n 0, 1) := by decide +kernel
theorem dX5_boxes_1 : decode cX5_boxes 1 = .ok (.iconst 0, 1) := by decide +kernel
theorem dX5_boxes_2 : decode cX5_boxes 2 = .ok (.putfield 53, 3) := by decide +kernel
theorem dX5_boxes_5 : decode cX5_boxes 5 = .ok (.aload_n 0, 1) := by decide +kernel
theorem dX5_boxes_6 : decode cX5_boxes 6 = .ok (.getfield 34, 3) := by decide +kernel
theorem dX5_boxes_9 : decode cX5_boxes 9 = .ok (.ireturn, 1) := by decide +kernel
theorem dX5_chosen_0 : decode cX5_chosen 0 = .ok (.aload_n 0, 1) := by decide +kernel
theorem dX5_chosen_1 : decode cX5_chosen 1 = .ok (.iload_n 1, 1) := by decide +kernel
theorem dX5_chosen_2 : decode cX5_chosen 2 = .ok (.iconst 0, 1) := by decide +kernel
theorem dX5_chosen_3 : decode cX5_chosen 3 = .ok (.aload_n 0, 1) := by decide +kernel
theorem dX5_chosen_4 : decode cX5_chosen 4 = .ok (.getfield 34, 3) := by decide +kernel
theorem dX5_chosen_7 : decode cX5_chosen 7 = .ok (.iconst 1, 1) := by decide +kernel
theorem dX5_chosen_8 : decode cX5_chosen 8 = .ok (.isub, 1) := by decide +kernel
theorem dX5_chosen_9 : decode cX5_chosen 9 = .ok (.invokestatic 59, 3) := by decide +kernel
theorem dX5_chosen_12 : decode cX5_chosen 12 = .ok (.ifCond .ne 7, 3) := by decide +kernel
theorem dX5_chosen_15 : decode cX5_chosen 15 = .ok (.iconst 1, 1) := by decide +kernel
theorem dX5_chosen_16 : decode cX5_chosen 16 = .ok (.goto 17, 3) := by decide +kernel
theorem dX5_chosen_19 : decode cX5_chosen 19 = .ok (.iload_n 2, 1) := by decide +kernel
theorem dX5_chosen_20 : decode cX5_chosen 20 = .ok (.iconst 0, 1) := by decide +kernel
theorem dX5_chosen_21 : decode cX5_chosen 21 = .ok (.iconst 3, 1) := by decide +kernel
theorem dX5_chosen_22 : decode cX5_chosen 22 = .ok (.invokestatic 59, 3) := by decide +kernel
theorem dX5_chosen_25 : decode cX5_chosen 25 = .ok (.ifCond .ne 7, 3) := by decide +kernel
theorem dX5_chosen_28 : decode cX5_chosen 28 = .ok (.iconst 2, 1) := by decide +kernel
theorem dX5_chosen_29 : decode cX5_chosen 29 = .ok (.goto 4, 3) := by decide +kernel
theorem dX5_chosen_32 : decode cX5_chosen 32 = .ok (.iconst 0, 1) := by decide +kernel
theorem dX5_chosen_33 : decode cX5_chosen 33 = .ok (.putfield 53, 3) := by decide +kernel
theorem dX5_chosen_36 : decode cX5_chosen 36 = .ok (.aload_n 0, 1) := by decide +kernel
theorem dX5_chosen_37 : decode cX5_chosen 37 = .ok (.getfield 53, 3) := by decide +kernel
theorem dX5_chosen_40 : decode cX5_chosen 40 = .ok (.ifCond .le 5, 3) := by decide +kernel
theorem dX5_chosen_43 : decode cX5_chosen 43 = .ok (.iconst 0, 1) := by decide +kernel
theorem dX5_chosen_44 : decode cX5_chosen 44 = .ok (.ireturn, 1) := by decide +kernel
theorem dX5_chosen_45 : decode cX5_chosen 45 = .ok (.iload_n 2, 1) := by decide +kernel
theorem dX5_chosen_46 : decode cX5_chosen 46 = .ok (.ifCond .ne 12, 3) := by decide +kernel
theorem dX5_chosen_49 : decode cX5_chosen 49 = .ok (.aload_n 0, 1) := by decide +kernel
theorem dX5_chosen_50 : decode cX5_chosen 50 = .ok (.getfield 38, 3) := by decide +kernel
theorem dX5_chosen_53 : decode cX5_chosen 53 = .ok (.iload_n 1, 1) := by decide +kernel
theorem dX5_chosen_54 : decode cX5_chosen 54 = .ok (.iaload, 1) := by decide +kernel
theorem dX5_chosen_55 : decode cX5_chosen 55 = .ok (.goto 45, 3) := by decide +kernel
theorem dX5_chosen_58 : decode cX5_chosen 58 = .ok (.iload_n 2, 1) := by decide +kernel
theorem dX5_chosen_59 : decode cX5_chosen 59 = .ok (.iconst 1, 1) := by decide +kernel
theorem dX5_chosen_60 : decode cX5_chosen 60 = .ok (.if_icmp .ne 12, 3) := by decide +kernel
theorem dX5_chosen_63 : decode cX5_chosen 63 = .ok (.aload_n 0, 1) := by decide +kernel
theorem dX5_chosen_64 : decode cX5_chosen 64 = .ok (.getfield 41, 3) := by decide +kernel
theorem dX5_chosen_67 : decode cX5_chosen 67 = .ok (.iload_n 1, 1) := by decide +kernel
theorem dX5_chosen_68 : decode cX5_chosen 68 = .ok (.iaload, 1) := by decide +kernel
theorem dX5_chosen_69 : decode cX5_chosen 69 = .ok (.goto 31, 3) := by decide +kernel
theorem dX5_chosen_72 : decode cX5_chosen 72 = .ok (.iload_n 2, 1) := by decide +kernel
theorem dX5_chosen_73 : decode cX5_chosen 73 = .ok (.iconst 2, 1) := by decide +kernel
theorem dX5_chosen_74 : decode cX5_chosen 74 = .ok (.if_icmp .ne 16, 3) := by decide +kernel
theorem dX5_chosen_77 : decode cX5_chosen 77 = .ok (.aload_n 0, 1) := by decide +kernel
theorem dX5_chosen_78 : decode cX5_chosen 78 = .ok (.aload_n 0, 1) := by decide +kernel
theorem dX5_chosen_79 : decode cX5_chosen 79 = .ok (.getfield 41, 3) := by decide +kernel
theorem dX5_chosen_82 : decode cX5_chosen 82 = .ok (.iload_n 1, 1) := by decide +kernel
theorem dX5_chosen_83 : decode cX5_chosen 83 = .ok (.iaload, 1) := by decide +kernel
theorem dX5_chosen_84 : decode cX5_chosen 84 = .ok (.invokevirtual 80, 3) := by decide +kernel
theorem dX5_chosen_87 : decode cX5_chosen 87 = .ok (.goto 13, 3) := by decide +kernel
theorem dX5_chosen_90 : decode cX5_chosen 90 = .ok (.aload_n 0, 1) := by decide +kernel
theorem dX5_chosen_91 : decode cX5_chosen 91 = .ok (.aload_n 0, 1) := by decide +kernel
theorem dX5_chosen_92 : decode cX5_chosen 92 = .ok (.getfield 41, 3) := by decide +kernel
theorem dX5_chosen_95 : decode cX5_chosen 95 = .ok (.iload_n 1, 1) := by decide +kernel
theorem dX5_chosen_96 : decode cX5_chosen 96 = .ok (.iaload, 1) := by decide +kernel
theorem dX5_chosen_97 : decode cX5_chosen 97 = .ok (.invokevirtual 84, 3) := by decide +kernel
theorem dX5_chosen_100 : decode cX5_chosen 100 = .ok (.ireturn, 1) := by decide +kernel
theorem dX5_where_0 : decode cX5_where 0 = .ok (.aload_n 0, 1) := by decide +kernel
theorem dX5_where_1 : decode cX5_where 1 = .ok (.aload_n 0, 1) := by decide +kernel
theorem dX5_where_2 : decode cX5_where 2 = .ok (.iload_n 1, 1) := by decide +kernel
theorem dX5_where_3 : decode cX5_where 3 = .ok (.invokevirtual 66, 3) := by decide +kernel
theorem dX5_where_6 : decode cX5_where 6 = .ok (.ifCond .eq 7, 3) := by decide +kernel
theorem dX5_where_9 : decode cX5_where 9 = .ok (.iconst 0, 1) := by decide +kernel
theorem dX5_where_10 : decode cX5_where 10 = .ok (.goto 4, 3) := by decide +kernel
theorem dX5_where_13 : decode cX5_where 13 = .ok (.iconst 1, 1) := by decide +kernel
theorem dX5_where_14 : decode cX5_where 14 = .ok (.putfield 53, 3) := by decide +kernel
theorem dX5_where_17 : decode cX5_where 17 = .ok (.iconst 0, 1) := by decide +kernel
theorem dX5_where_18 : decode cX5_where 18 = .ok (.istore_n 2, 1) := by decide +kernel
theorem dX5_where_19 : decode cX5_where 19 = .ok (.iload_n 2, 1) := by decide +kernel
theorem dX5_where_20 : decode cX5_where 20 = .ok (.aload_n 0, 1) := by decide +kernel
theorem dX5_where_21 : decode cX5_where 21 = .ok (.getfield 34, 3) := by decide +kernel
theorem dX5_where_24 : decode cX5_where 24 = .ok (.if_icmp .ge 31, 3) := by decide +kernel
theorem dX5_where_27 : decode cX5_where 27 = .ok (.aload_n 0, 1) := by decide +kernel
theorem dX5_where_28 : decode cX5_where 28 = .ok (.getfield 53, 3) := by decide +kernel
theorem dX5_where_31 : decode cX5_where 31 = .ok (.ifCond .ne 24, 3) := by decide +kernel
theorem dX5_where_34 : decode cX5_where 34 = .ok (.aload_n 0, 1) := by decide +kernel
theorem dX5_where_35 : decode cX5_where 35 = .ok (.getfield 41, 3) := by decide +kernel
theorem dX5_where_38 : decode cX5_where 38 = .ok (.iload_n 2, 1) := by decide +kernel
theorem dX5_where_39 : decode cX5_where 39 = .ok (.iaload, 1) := by decide +kernel
theorem dX5_where_40 : decode cX5_where 40 = .ok (.iload_n 1, 1) := by decide +kernel
theorem dX5_where_41 : decode cX5_where 41 = .ok (.invokestatic 73, 3) := by decide +kernel
theorem dX5_where_44 : decode cX5_where 44 = .ok (.ifCond .eq 5, 3) := by decide +kernel
theorem dX5_where_47 : decode cX5_where 47 = .ok (.iload_n 2, 1) := by decide +kernel
theorem dX5_where_48 : decode cX5_where 48 = .ok (.ireturn, 1) := by decide +kernel
theorem dX5_where_49 : decode cX5_where 49 = .ok (.iinc 2 1, 3) := by decide +kernel
theorem dX5_where_52 : decode cX5_where 52 = .ok (.goto (-33), 3) := by decide +kernel
theorem dX5_where_55 : decode cX5_where 55 = .ok (.aload_n 0, 1) := by decide +kernel
theorem dX5_where_56 : decode cX5_where 56 = .ok (.getfield 53, 3) := by decide +kernel
theorem dX5_where_59 : decode cX5_where 59 = .ok (.ifCond .le 7, 3) := by decide +kernel
theorem dX5_where_62 : decode cX5_where 62 = .ok (.iconst 0, 1) := by decide +kernel
theorem dX5_where_63 : decode cX5_where 63 = .ok (.goto 4, 3) := by decide +kernel
theorem dX5_where_66 : decode cX5_where 66 = .ok (.iconst (-1), 1) := by decide +kernel
theorem dX5_where_67 : decode cX5_where 67 = .ok (.ireturn, 1) := by decide +kernel
theorem dX5_bar_0 : decode cX5_bar 0 = .ok (.aload_n 0, 1) := by decide +kernel
theorem dX5_bar_1 : decode cX5_bar 1 = .ok (.aload_n 0, 1) := by decide +kernel
theorem dX5_bar_2 : decode cX5_bar 2 = .ok (.iload_n 1, 1) := by decide +kernel
theorem dX5_bar_3 : decode cX5_bar 3 = .ok (.invokevirtual 66, 3) := by decide +kernel
theorem dX5_bar_6 : decode cX5_bar 6 = .ok (.ifCond .eq 7, 3) := by decide +kernel
theorem dX5_bar_9 : decode cX5_bar 9 = .ok (.iconst 0, 1) := by decide +kernel
theorem dX5_bar_10 : decode cX5_bar 10 = .ok (.goto 4, 3) := by decide +kernel
theorem dX5_bar_13 : decode cX5_bar 13 = .ok (.iconst 1, 1) := by decide +kernel
theorem dX5_bar_14 : decode cX5_bar 14 = .ok (.putfield 53, 3) := by decide +kernel
theorem dX5_bar_17 : decode cX5_bar 17 = .ok (.aload_n 0, 1) := by decide +kernel
theorem dX5_bar_18 : decode cX5_bar 18 = .ok (.getfield 53, 3) := by decide +kernel
theorem dX5_bar_21 : decode cX5_bar 21 = .ok (.ifCond .le 5, 3) := by decide +kernel
theorem dX5_bar_24 : decode cX5_bar 24 = .ok (.iconst 0, 1) := by decide +kernel
theorem dX5_bar_25 : decode cX5_bar 25 = .ok (.ireturn, 1) := by decide +kernel
theorem dX5_bar_26 : decode cX5_bar 26 = .ok (.aload_n 0, 1) := by decide +kernel
theorem dX5_bar_27 : decode cX5_bar 27 = .ok (.iload_n 1, 1) := by decide +kernel
theorem dX5_bar_28 : decode cX5_bar 28 = .ok (.invokevirtual 122, 3) := by decide +kernel
theorem dX5_bar_31 : decode cX5_bar 31 = .ok (.istore_n 2, 1) := by decide +kernel
theorem dX5_bar_32 : decode cX5_bar 32 = .ok (.iconst 1, 1) := by decide +kernel
theorem dX5_bar_33 : decode cX5_bar 33 = .ok (.istore_n 3, 1) := by decide +kernel
theorem dX5_bar_34 : decode cX5_bar 34 = .ok (.iload_n 3, 1) := by decide +kernel
theorem dX5_bar_35 : decode cX5_bar 35 = .ok (.iconst 4, 1) := by decide +kernel
theorem dX5_bar_36 : decode cX5_bar 36 = .ok (.if_icmp .ge 60, 3) := by decide +kernel
theorem dX5_bar_39 : decode cX5_bar 39 = .ok (.iconst 0, 1) := by decide +kernel
theorem dX5_bar_40 : decode cX5_bar 40 = .ok (.istore 4, 2) := by decide +kernel
theorem dX5_bar_42 : decode cX5_bar 42 = .ok (.iconst 0, 1) := by decide +kernel
theorem dX5_bar_43 : decode cX5_bar 43 = .ok (.istore 5, 2) := by decide +kernel
theorem dX5_bar_45 : decode cX5_bar 45 = .ok (.iload 5, 2) := by decide +kernel
theorem dX5_bar_47 : decode cX5_bar 47 = .ok (.aload_n 0, 1) := by decide +kernel
theorem dX5_bar_48 : decode cX5_bar 48 = .ok (.getfield 56, 3) := by decide +kernel
theorem dX5_bar_51 : decode cX5_bar 51 = .ok (.if_icmp .ge 32, 3) := by decide +kernel
theorem dX5_bar_54 : decode cX5_bar 54 = .ok (.iload 4, 2) := by decide +kernel
theorem dX5_bar_56 : decode cX5_bar 56 = .ok (.ifCond .ne 14, 3) := by decide +kernel
theorem dX5_bar_59 : decode cX5_bar 59 = .ok (.aload_n 0, 1) := by decide +kernel
theorem dX5_bar_60 : decode cX5_bar 60 = .ok (.iload 5, 2) := by decide +kernel
theorem dX5_bar_62 : decode cX5_bar 62 = .ok (.iload_n 2, 1) := by decide +kernel
theorem dX5_bar_63 : decode cX5_bar 63 = .ok (.iload_n 3, 1) := by decide +kernel
theorem dX5_bar_64 : decode cX5_bar 64 = .ok (.invokevirtual 87, 3) := by decide +kernel
theorem dX5_bar_67 : decode cX5_bar 67 = .ok (.ifCond .eq 7, 3) := by decide +kernel
theorem dX5_bar_70 : decode cX5_bar 70 = .ok (.iconst 1, 1) := by decide +kernel
theorem dX5_bar_71 : decode cX5_bar 71 = .ok (.goto 4, 3) := by decide +kernel
theorem dX5_bar_74 : decode cX5_bar 74 = .ok (.iconst 0, 1) := by decide +kernel
theorem dX5_bar_75 : decode cX5_bar 75 = .ok (.istore 4, 2) := by decide +kernel
theorem dX5_bar_77 : decode cX5_bar 77 = .ok (.iinc 5 1, 3) := by decide +kernel
theorem dX5_bar_80 : decode cX5_bar 80 = .ok (.goto (-35), 3) := by decide +kernel
theorem dX5_bar_83 : decode cX5_bar 83 = .ok (.iload 4, 2) := by decide +kernel
theorem dX5_bar_85 : decode cX5_bar 85 = .ok (.ifCond .ne 5, 3) := by decide +kernel
theorem dX5_bar_88 : decode cX5_bar 88 = .ok (.iload_n 3, 1) := by decide +kernel
theorem dX5_bar_89 : decode cX5_bar 89 = .ok (.ireturn, 1) := by decide +kernel
theorem dX5_bar_90 : decode cX5_bar 90 = .ok (.iinc 3 1, 3) := by decide +kernel
theorem dX5_bar_93 : decode cX5_bar 93 = .ok (.goto (-59), 3) := by decide +kernel
theorem dX5_bar_96 : decode cX5_bar 96 = .ok (.aload_n 0, 1) := by decide +kernel
theorem dX5_bar_97 : decode cX5_bar 97 = .ok (.iload_n 2, 1) := by decide +kernel
theorem dX5_bar_98 : decode cX5_bar 98 = .ok (.invokevirtual 90, 3) := by decide +kernel
theorem dX5_bar_101 : decode cX5_bar 101 = .ok (.ifCond .eq 7, 3) := by decide +kernel
theorem dX5_bar_104 : decode cX5_bar 104 = .ok (.iconst 4, 1) := by decide +kernel
theorem dX5_bar_105 : decode cX5_bar 105 = .ok (.goto 4, 3) := by decide +kernel
theorem dX5_bar_108 : decode cX5_bar 108 = .ok (.iconst 0, 1) := by decide +kernel
theorem dX5_bar_109 : decode cX5_bar 109 = .ok (.ireturn, 1) := by decide +kernel
theorem dX5_fits_0 : decode cX5_fits 0 = .ok (.aload_n 0, 1) := by decide +kernel
theorem dX5_fits_1 : decode cX5_fits 1 = .ok (.aload_n 0, 1) := by decide +kernel
theorem dX5_fits_2 : decode cX5_fits 2 = .ok (.iload_n 1, 1) := by decide +kernel
theorem dX5_fits_3 : decode cX5_fits 3 = .ok (.invokevirtual 135, 3) := by decide +kernel
theorem dX5_fits_6 : decode cX5_fits 6 = .ok (.ifCond .eq 11, 3) := by decide +kernel
theorem dX5_fits_9 : decode cX5_fits 9 = .ok (.aload_n 0, 1) := by decide +kernel
theorem dX5_fits_10 : decode cX5_fits 10 = .ok (.iload_n 2, 1) := by decide +kernel
theorem dX5_fits_11 : decode cX5_fits 11 = .ok (.invokevirtual 66, 3) := by decide +kernel
theorem dX5_fits_14 : decode cX5_fits 14 = .ok (.ifCond .ne 7, 3) := by decide +kernel
theorem dX5_fits_17 : decode cX5_fits 17 = .ok (.iconst 1, 1) := by decide +kernel
theorem dX5_fits_18 : decode cX5_fits 18 = .ok (.goto 4, 3) := by decide +kernel
theorem dX5_fits_21 : decode cX5_fits 21 = .ok (.iconst 0, 1) := by decide +kernel
theorem dX5_fits_22 : decode cX5_fits 22 = .ok (.putfield 53, 3) := by decide +kernel
theorem dX5_fits_25 : decode cX5_fits 25 = .ok (.aload_n 0, 1) := by decide +kernel
theorem dX5_fits_26 : decode cX5_fits 26 = .ok (.getfield 53, 3) := by decide +kernel
theorem dX5_fits_29 : decode cX5_fits 29 = .ok (.ifCond .ne 19, 3) := by decide +kernel
theorem dX5_fits_32 : decode cX5_fits 32 = .ok (.aload_n 0, 1) := by decide +kernel
theorem dX5_fits_33 : decode cX5_fits 33 = .ok (.iload_n 1, 1) := by decide +kernel
theorem dX5_fits_34 : decode cX5_fits 34 = .ok (.iconst 1, 1) := by decide +kernel
theorem dX5_fits_35 : decode cX5_fits 35 = .ok (.iload_n 2, 1) := by decide +kernel
theorem dX5_fits_36 : decode cX5_fits 36 = .ok (.ishl, 1) := by decide +kernel
theorem dX5_fits_37 : decode cX5_fits 37 = .ok (.iconst 3, 1) := by decide +kernel
theorem dX5_fits_38 : decode cX5_fits 38 = .ok (.invokevirtual 87, 3) := by decide +kernel
theorem dX5_fits_41 : decode cX5_fits 41 = .ok (.ifCond .eq 7, 3) := by decide +kernel
theorem dX5_fits_44 : decode cX5_fits 44 = .ok (.iconst 1, 1) := by decide +kernel
theorem dX5_fits_45 : decode cX5_fits 45 = .ok (.goto 4, 3) := by decide +kernel
theorem dX5_fits_48 : decode cX5_fits 48 = .ok (.iconst 0, 1) := by decide +kernel
theorem dX5_fits_49 : decode cX5_fits 49 = .ok (.ireturn, 1) := by decide +kernel
theorem dX5_isBox_0 : decode cX5_isBox 0 = .ok (.iload_n 1, 1) := by decide +kernel
theorem dX5_isBox_1 : decode cX5_isBox 1 = .ok (.iconst 0, 1) := by decide +kernel
theorem dX5_isBox_2 : decode cX5_isBox 2 = .ok (.aload_n 0, 1) := by decide +kernel
theorem dX5_isBox_3 : decode cX5_isBox 3 = .ok (.getfield 56, 3) := by decide +kernel
theorem dX5_isBox_6 : decode cX5_isBox 6 = .ok (.iconst 1, 1) := by decide +kernel
theorem dX5_isBox_7 : decode cX5_isBox 7 = .ok (.isub, 1) := by decide +kernel
theorem dX5_isBox_8 : decode cX5_isBox 8 = .ok (.invokestatic 59, 3) := by decide +kernel
theorem dX5_isBox_11 : decode cX5_isBox 11 = .ok (.ireturn, 1) := by decide +kernel
theorem dX5_used_0 : decode cX5_used 0 = .ok (.aload_n 0, 1) := by decide +kernel
theorem dX5_used_1 : decode cX5_used 1 = .ok (.iload_n 1, 1) := by decide +kernel
theorem dX5_used_2 : decode cX5_used 2 = .ok (.iconst 0, 1) := by decide +kernel
theorem dX5_used_3 : decode cX5_used 3 = .ok (.iconst 1, 1) := by decide +kernel
theorem dX5_used_4 : decode cX5_used 4 = .ok (.invokestatic 59, 3) := by decide +kernel
theorem dX5_used_7 : decode cX5_used 7 = .ok (.ifCond .ne 7, 3) := by decide +kernel
theorem dX5_used_10 : decode cX5_used 10 = .ok (.iconst 1, 1) := by decide +kernel
theorem dX5_used_11 : decode cX5_used 11 = .ok (.goto 27, 3) := by decide +kernel
theorem dX5_used_14 : decode cX5_used 14 = .ok (.aload_n 0, 1) := by decide +kernel
theorem dX5_used_15 : decode cX5_used 15 = .ok (.getfield 34, 3) := by decide +kernel
theorem dX5_used_18 : decode cX5_used 18 = .ok (.iconst (-1), 1) := by decide +kernel
theorem dX5_used_19 : decode cX5_used 19 = .ok (.if_icmp .ne 7, 3) := by decide +kernel
theorem dX5_used_22 : decode cX5_used 22 = .ok (.iconst 2, 1) := by decide +kernel
theorem dX5_used_23 : decode cX5_used 23 = .ok (.goto 15, 3) := by decide +kernel
theorem dX5_used_26 : decode cX5_used 26 = .ok (.aload_n 0, 1) := by decide +kernel
theorem dX5_used_27 : decode cX5_used 27 = .ok (.getfield 34, 3) := by decide +kernel
theorem dX5_used_30 : decode cX5_used 30 = .ok (.ifCond .ne 7, 3) := by decide +kernel
theorem dX5_used_33 : decode cX5_used 33 = .ok (.iconst 3, 1) := by decide +kernel
theorem dX5_used_34 : decode cX5_used 34 = .ok (.goto 4, 3) := by decide +kernel
theorem dX5_used_37 : decode cX5_used 37 = .ok (.iconst 0, 1) := by decide +kernel
theorem dX5_used_38 : decode cX5_used 38 = .ok (.putfield 53, 3) := by decide +kernel
theorem dX5_used_41 : decode cX5_used 41 = .ok (.aload_n 0, 1) := by decide +kernel
theorem dX5_used_42 : decode cX5_used 42 = .ok (.getfield 53, 3) := by decide +kernel
theorem dX5_used_45 : decode cX5_used 45 = .ok (.ifCond .le 5, 3) := by decide +kernel
theorem dX5_used_48 : decode cX5_used 48 = .ok (.iconst 0, 1) := by decide +kernel
theorem dX5_used_49 : decode cX5_used 49 = .ok (.ireturn, 1) := by decide +kernel
theorem dX5_used_50 : decode cX5_used 50 = .ok (.iconst 0, 1) := by decide +kernel
theorem dX5_used_51 : decode cX5_used 51 = .ok (.istore_n 2, 1) := by decide +kernel
theorem dX5_used_52 : decode cX5_used 52 = .ok (.iconst 0, 1) := by decide +kernel
theorem dX5_used_53 : decode cX5_used 53 = .ok (.istore_n 3, 1) := by decide +kernel
theorem dX5_used_54 : decode cX5_used 54 = .ok (.iconst 0, 1) := by decide +kernel
theorem dX5_used_55 : decode cX5_used 55 = .ok (.istore 4, 2) := by decide +kernel
theorem dX5_used_57 : decode cX5_used 57 = .ok (.iload 4, 2) := by decide +kernel
theorem dX5_used_59 : decode cX5_used 59 = .ok (.aload_n 0, 1) := by decide +kernel
theorem dX5_used_60 : decode cX5_used 60 = .ok (.getfield 34, 3) := by decide +kernel
theorem dX5_used_63 : decode cX5_used 63 = .ok (.if_icmp .ge 38, 3) := by decide +kernel
theorem dX5_used_66 : decode cX5_used 66 = .ok (.iload_n 2, 1) := by decide +kernel
theorem dX5_used_67 : decode cX5_used 67 = .ok (.aload_n 0, 1) := by decide +kernel
theorem dX5_used_68 : decode cX5_used 68 = .ok (.aload_n 0, 1) := by decide +kernel
theorem dX5_used_69 : decode cX5_used 69 = .ok (.getfield 41, 3) := by decide +kernel
theorem dX5_used_72 : decode cX5_used 72 = .ok (.iload 4, 2) := by decide +kernel
theorem dX5_used_74 : decode cX5_used 74 = .ok (.iaload, 1) := by decide +kernel
theorem dX5_used_75 : decode cX5_used 75 = .ok (.invokevirtual 80, 3) := by decide +kernel
theorem dX5_used_78 : decode cX5_used 78 = .ok (.iadd, 1) := by decide +kernel
theorem dX5_used_79 : decode cX5_used 79 = .ok (.istore_n 2, 1) := by decide +kernel
theorem dX5_used_80 : decode cX5_used 80 = .ok (.iload_n 3, 1) := by decide +kernel
theorem dX5_used_81 : decode cX5_used 81 = .ok (.aload_n 0, 1) := by decide +kernel
theorem dX5_used_82 : decode cX5_used 82 = .ok (.getfield 7, 3) := by decide +kernel
theorem dX5_used_85 : decode cX5_used 85 = .ok (.aload_n 0, 1) := by decide +kernel
theorem dX5_used_86 : decode cX5_used 86 = .ok (.getfield 38, 3) := by decide +kernel
theorem dX5_used_89 : decode cX5_used 89 = .ok (.iload 4, 2) := by decide +kernel
theorem dX5_used_91 : decode cX5_used 91 = .ok (.iaload, 1) := by decide +kernel
theorem dX5_used_92 : decode cX5_used 92 = .ok (.iaload, 1) := by decide +kernel
theorem dX5_used_93 : decode cX5_used 93 = .ok (.iadd, 1) := by decide +kernel
theorem dX5_used_94 : decode cX5_used 94 = .ok (.istore_n 3, 1) := by decide +kernel
theorem dX5_used_95 : decode cX5_used 95 = .ok (.iinc 4 1, 3) := by decide +kernel
theorem dX5_used_98 : decode cX5_used 98 = .ok (.goto (-41), 3) := by decide +kernel
theorem dX5_used_101 : decode cX5_used 101 = .ok (.iload_n 2, 1) := by decide +kernel
theorem dX5_used_102 : decode cX5_used 102 = .ok (.iload_n 3, 1) := by decide +kernel
theorem dX5_used_103 : decode cX5_used 103 = .ok (.invokestatic 138, 3) := by decide +kernel
theorem dX5_used_106 : decode cX5_used 106 = .ok (.istore 4, 2) := by decide +kernel
theorem dX5_used_108 : decode cX5_used 108 = .ok (.iload_n 1, 1) := by decide +kernel
theorem dX5_used_109 : decode cX5_used 109 = .ok (.ifCond .ne 10, 3) := by decide +kernel
theorem dX5_used_112 : decode cX5_used 112 = .ok (.iload_n 2, 1) := by decide +kernel
theorem dX5_used_113 : decode cX5_used 113 = .ok (.iload 4, 2) := by decide +kernel
theorem dX5_used_115 : decode cX5_used 115 = .ok (.idiv, 1) := by decide +kernel
theorem dX5_used_116 : decode cX5_used 116 = .ok (.goto 7, 3) := by decide +kernel
theorem dX5_used_119 : decode cX5_used 119 = .ok (.iload_n 3, 1) := by decide +kernel
theorem dX5_used_120 : decode cX5_used 120 = .ok (.iload 4, 2) := by decide +kernel
theorem dX5_used_122 : decode cX5_used 122 = .ok (.idiv, 1) := by decide +kernel
theorem dX5_used_123 : decode cX5_used 123 = .ok (.ireturn, 1) := by decide +kernel
theorem dX5_divisor_0 : decode cX5_divisor 0 = .ok (.iload_n 0, 1) := by decide +kernel
theorem dX5_divisor_1 : decode cX5_divisor 1 = .ok (.istore_n 2, 1) := by decide +kernel
theorem dX5_divisor_2 : decode cX5_divisor 2 = .ok (.iload_n 1, 1) := by decide +kernel
theorem dX5_divisor_3 : decode cX5_divisor 3 = .ok (.istore_n 3, 1) := by decide +kernel
theorem dX5_divisor_4 : decode cX5_divisor 4 = .ok (.iload_n 3, 1) := by decide +kernel
theorem dX5_divisor_5 : decode cX5_divisor 5 = .ok (.ifCond .le 16, 3) := by decide +kernel
theorem dX5_divisor_8 : decode cX5_divisor 8 = .ok (.iload_n 2, 1) := by decide +kernel
theorem dX5_divisor_9 : decode cX5_divisor 9 = .ok (.iload_n 3, 1) := by decide +kernel
theorem dX5_divisor_10 : decode cX5_divisor 10 = .ok (.irem, 1) := by decide +kernel
theorem dX5_divisor_11 : decode cX5_divisor 11 = .ok (.istore 4, 2) := by decide +kernel
theorem dX5_divisor_13 : decode cX5_divisor 13 = .ok (.iload_n 3, 1) := by decide +kernel
theorem dX5_divisor_14 : decode cX5_divisor 14 = .ok (.istore_n 2, 1) := by decide +kernel
theorem dX5_divisor_15 : decode cX5_divisor 15 = .ok (.iload 4, 2) := by decide +kernel
theorem dX5_divisor_17 : decode cX5_divisor 17 = .ok (.istore_n 3, 1) := by decide +kernel
theorem dX5_divisor_18 : decode cX5_divisor 18 = .ok (.goto (-14), 3) := by decide +kernel
theorem dX5_divisor_21 : decode cX5_divisor 21 = .ok (.iload_n 2, 1) := by decide +kernel
theorem dX5_divisor_22 : decode cX5_divisor 22 = .ok (.ireturn, 1) := by decide +kernel
theorem dX5_dimensional_0 : decode cX5_dimensional 0 = .ok (.aload_n 0, 1) := by decide +kernel
theorem dX5_dimensional_1 : decode cX5_dimensional 1 = .ok (.aload_n 0, 1) := by decide +kernel
theorem dX5_dimensional_2 : decode cX5_dimensional 2 = .ok (.iload_n 1, 1) := by decide +kernel
theorem dX5_dimensional_3 : decode cX5_dimensional 3 = .ok (.invokevirtual 135, 3) := by decide +kernel
theorem dX5_dimensional_6 : decode cX5_dimensional 6 = .ok (.ifCond .ne 7, 3) := by decide +kernel
theorem dX5_dimensional_9 : decode cX5_dimensional 9 = .ok (.iconst 1, 1) := by decide +kernel
theorem dX5_dimensional_10 : decode cX5_dimensional 10 = .ok (.goto 20, 3) := by decide +kernel
theorem dX5_dimensional_13 : decode cX5_dimensional 13 = .ok (.iload_n 2, 1) := by decide +kernel
theorem dX5_dimensional_14 : decode cX5_dimensional 14 = .ok (.ifCond .ge 7, 3) := by decide +kernel
theorem dX5_dimensional_17 : decode cX5_dimensional 17 = .ok (.iconst 2, 1) := by decide +kernel
theorem dX5_dimensional_18 : decode cX5_dimensional 18 = .ok (.goto 12, 3) := by decide +kernel
theorem dX5_dimensional_21 : decode cX5_dimensional 21 = .ok (.iload_n 2, 1) := by decide +kernel
theorem dX5_dimensional_22 : decode cX5_dimensional 22 = .ok (.ifCond .ne 7, 3) := by decide +kernel
theorem dX5_dimensional_25 : decode cX5_dimensional 25 = .ok (.iconst 3, 1) := by decide +kernel
theorem dX5_dimensional_26 : decode cX5_dimensional 26 = .ok (.goto 4, 3) := by decide +kernel
theorem dX5_dimensional_29 : decode cX5_dimensional 29 = .ok (.iconst 0, 1) := by decide +kernel
theorem dX5_dimensional_30 : decode cX5_dimensional 30 = .ok (.putfield 53, 3) := by decide +kernel
theorem dX5_dimensional_33 : decode cX5_dimensional 33 = .ok (.aload_n 0, 1) := by decide +kernel
theorem dX5_dimensional_34 : decode cX5_dimensional 34 = .ok (.getfield 53, 3) := by decide +kernel
theorem dX5_dimensional_37 : decode cX5_dimensional 37 = .ok (.ifCond .le 7, 3) := by decide +kernel
theorem dX5_dimensional_40 : decode cX5_dimensional 40 = .ok (.iconst 0, 1) := by decide +kernel
theorem dX5_dimensional_41 : decode cX5_dimensional 41 = .ok (.goto 28, 3) := by decide +kernel
theorem dX5_dimensional_44 : decode cX5_dimensional 44 = .ok (.aload_n 0, 1) := by decide +kernel
theorem dX5_dimensional_45 : decode cX5_dimensional 45 = .ok (.getfield 7, 3) := by decide +kernel
theorem dX5_dimensional_48 : decode cX5_dimensional 48 = .ok (.iload_n 1, 1) := by decide +kernel
theorem dX5_dimensional_49 : decode cX5_dimensional 49 = .ok (.iaload, 1) := by decide +kernel
theorem dX5_dimensional_50 : decode cX5_dimensional 50 = .ok (.iload_n 2, 1) := by decide +kernel
theorem dX5_dimensional_51 : decode cX5_dimensional 51 = .ok (.idiv, 1) := by decide +kernel
theorem dX5_dimensional_52 : decode cX5_dimensional 52 = .ok (.aload_n 0, 1) := by decide +kernel
theorem dX5_dimensional_53 : decode cX5_dimensional 53 = .ok (.getfield 7, 3) := by decide +kernel
theorem dX5_dimensional_56 : decode cX5_dimensional 56 = .ok (.iload_n 1, 1) := by decide +kernel
theorem dX5_dimensional_57 : decode cX5_dimensional 57 = .ok (.iaload, 1) := by decide +kernel
theorem dX5_dimensional_58 : decode cX5_dimensional 58 = .ok (.iload_n 2, 1) := by decide +kernel
theorem dX5_dimensional_59 : decode cX5_dimensional 59 = .ok (.irem, 1) := by decide +kernel
theorem dX5_dimensional_60 : decode cX5_dimensional 60 = .ok (.ifCond .le 7, 3) := by decide +kernel
theorem dX5_dimensional_63 : decode cX5_dimensional 63 = .ok (.iconst 1, 1) := by decide +kernel
theorem dX5_dimensional_64 : decode cX5_dimensional 64 = .ok (.goto 4, 3) := by decide +kernel
theorem dX5_dimensional_67 : decode cX5_dimensional 67 = .ok (.iconst 0, 1) := by decide +kernel
theorem dX5_dimensional_68 : decode cX5_dimensional 68 = .ok (.iadd, 1) := by decide +kernel
theorem dX5_dimensional_69 : decode cX5_dimensional 69 = .ok (.ireturn, 1) := by decide +kernel
theorem dX5_count_0 : decode cX5_count 0 = .ok (.aload_n 0, 1) := by decide +kernel
theorem dX5_count_1 : decode cX5_count 1 = .ok (.iconst 0, 1) := by decide +kernel
theorem dX5_count_2 : decode cX5_count 2 = .ok (.putfield 53, 3) := by decide +kernel
theorem dX5_count_5 : decode cX5_count 5 = .ok (.iload_n 1, 1) := by decide +kernel
theorem dX5_count_6 : decode cX5_count 6 = .ok (.ifCond .ne 8, 3) := by decide +kernel
theorem dX5_count_9 : decode cX5_count 9 = .ok (.aload_n 0, 1) := by decide +kernel
theorem dX5_count_10 : decode cX5_count 10 = .ok (.getfield 56, 3) := by decide +kernel
theorem dX5_count_13 : decode cX5_count 13 = .ok (.ireturn, 1) := by decide +kernel
theorem dX5_count_14 : decode cX5_count 14 = .ok (.iload_n 1, 1) := by decide +kernel
theorem dX5_count_15 : decode cX5_count 15 = .ok (.iconst 1, 1) := by decide +kernel
theorem dX5_count_16 : decode cX5_count 16 = .ok (.if_icmp .ne 8, 3) := by decide +kernel
theorem dX5_count_19 : decode cX5_count 19 = .ok (.aload_n 0, 1) := by decide +kernel
theorem dX5_count_20 : decode cX5_count 20 = .ok (.getfield 63, 3) := by decide +kernel
theorem dX5_count_23 : decode cX5_count 23 = .ok (.ireturn, 1) := by decide +kernel
theorem dX5_count_24 : decode cX5_count 24 = .ok (.iload_n 1, 1) := by decide +kernel
theorem dX5_count_25 : decode cX5_count 25 = .ok (.iconst 4, 1) := by decide +kernel
theorem dX5_count_26 : decode cX5_count 26 = .ok (.if_icmp .ne 28, 3) := by decide +kernel
theorem dX5_count_29 : decode cX5_count 29 = .ok (.aload_n 0, 1) := by decide +kernel
theorem dX5_count_30 : decode cX5_count 30 = .ok (.getfield 34, 3) := by decide +kernel
theorem dX5_count_33 : decode cX5_count 33 = .ok (.iconst (-1), 1) := by decide +kernel
theorem dX5_count_34 : decode cX5_count 34 = .ok (.if_icmp .ne 7, 3) := by decide +kernel
theorem dX5_count_37 : decode cX5_count 37 = .ok (.iconst (-1), 1) := by decide +kernel
theorem dX5_count_38 : decode cX5_count 38 = .ok (.goto 15, 3) := by decide +kernel
theorem dX5_count_41 : decode cX5_count 41 = .ok (.aload_n 0, 1) := by decide +kernel
theorem dX5_count_42 : decode cX5_count 42 = .ok (.aload_n 0, 1) := by decide +kernel
theorem dX5_count_43 : decode cX5_count 43 = .ok (.getfield 38, 3) := by decide +kernel
theorem dX5_count_46 : decode cX5_count 46 = .ok (.aload_n 0, 1) := by decide +kernel
theorem dX5_count_47 : decode cX5_count 47 = .ok (.getfield 34, 3) := by decide +kernel
theorem dX5_count_50 : decode cX5_count 50 = .ok (.invokevirtual 102, 3) := by decide +kernel
theorem dX5_count_53 : decode cX5_count 53 = .ok (.ireturn, 1) := by decide +kernel
theorem dX5_count_54 : decode cX5_count 54 = .ok (.iconst 0, 1) := by decide +kernel
theorem dX5_count_55 : decode cX5_count 55 = .ok (.istore_n 2, 1) := by decide +kernel
theorem dX5_count_56 : decode cX5_count 56 = .ok (.iconst 0, 1) := by decide +kernel
theorem dX5_count_57 : decode cX5_count 57 = .ok (.istore_n 3, 1) := by decide +kernel
theorem dX5_count_58 : decode cX5_count 58 = .ok (.iload_n 3, 1) := by decide +kernel
theorem dX5_count_59 : decode cX5_count 59 = .ok (.aload_n 0, 1) := by decide +kernel
theorem dX5_count_60 : decode cX5_count 60 = .ok (.getfield 63, 3) := by decide +kernel
theorem dX5_count_63 : decode cX5_count 63 = .ok (.if_icmp .ge 50, 3) := by decide +kernel
theorem dX5_count_66 : decode cX5_count 66 = .ok (.iconst 0, 1) := by decide +kernel
theorem dX5_count_67 : decode cX5_count 67 = .ok (.istore 4, 2) := by decide +kernel
theorem dX5_count_69 : decode cX5_count 69 = .ok (.iload 4, 2) := by decide +kernel
theorem dX5_count_71 : decode cX5_count 71 = .ok (.iload_n 3, 1) := by decide +kernel
theorem dX5_count_72 : decode cX5_count 72 = .ok (.if_icmp .ge 35, 3) := by decide +kernel
theorem dX5_count_75 : decode cX5_count 75 = .ok (.iload_n 2, 1) := by decide +kernel
theorem dX5_count_76 : decode cX5_count 76 = .ok (.aload_n 0, 1) := by decide +kernel
theorem dX5_count_77 : decode cX5_count 77 = .ok (.getfield 31, 3) := by decide +kernel
theorem dX5_count_80 : decode cX5_count 80 = .ok (.bipush 8, 2) := by decide +kernel
theorem dX5_count_82 : decode cX5_count 82 = .ok (.iload_n 3, 1) := by decide +kernel
theorem dX5_count_83 : decode cX5_count 83 = .ok (.imul, 1) := by decide +kernel
theorem dX5_count_84 : decode cX5_count 84 = .ok (.iload 4, 2) := by decide +kernel
theorem dX5_count_86 : decode cX5_count 86 = .ok (.iadd, 1) := by decide +kernel
theorem dX5_count_87 : decode cX5_count 87 = .ok (.iaload, 1) := by decide +kernel
theorem dX5_count_88 : decode cX5_count 88 = .ok (.iload_n 1, 1) := by decide +kernel
theorem dX5_count_89 : decode cX5_count 89 = .ok (.iconst 1, 1) := by decide +kernel
theorem dX5_count_90 : decode cX5_count 90 = .ok (.isub, 1) := by decide +kernel
theorem dX5_count_91 : decode cX5_count 91 = .ok (.if_icmp .ne 7, 3) := by decide +kernel
theorem dX5_count_94 : decode cX5_count 94 = .ok (.iconst 1, 1) := by decide +kernel
theorem dX5_count_95 : decode cX5_count 95 = .ok (.goto 4, 3) := by decide +kernel
theorem dX5_count_98 : decode cX5_count 98 = .ok (.iconst 0, 1) := by decide +kernel
theorem dX5_count_99 : decode cX5_count 99 = .ok (.iadd, 1) := by decide +kernel
theorem dX5_count_100 : decode cX5_count 100 = .ok (.istore_n 2, 1) := by decide +kernel
theorem dX5_count_101 : decode cX5_count 101 = .ok (.iinc 4 1, 3) := by decide +kernel
theorem dX5_count_104 : decode cX5_count 104 = .ok (.goto (-35), 3) := by decide +kernel
theorem dX5_count_107 : decode cX5_count 107 = .ok (.iinc 3 1, 3) := by decide +kernel
theorem dX5_count_110 : decode cX5_count 110 = .ok (.goto (-52), 3) := by decide +kernel
theorem dX5_count_113 : decode cX5_count 113 = .ok (.iload_n 1, 1) := by decide +kernel
theorem dX5_count_114 : decode cX5_count 114 = .ok (.iconst 2, 1) := by decide +kernel
theorem dX5_count_115 : decode cX5_count 115 = .ok (.if_icmp .eq 8, 3) := by decide +kernel
theorem dX5_count_118 : decode cX5_count 118 = .ok (.iload_n 1, 1) := by decide +kernel
theorem dX5_count_119 : decode cX5_count 119 = .ok (.iconst 3, 1) := by decide +kernel
theorem dX5_count_120 : decode cX5_count 120 = .ok (.if_icmp .ne 7, 3) := by decide +kernel
theorem dX5_count_123 : decode cX5_count 123 = .ok (.iload_n 2, 1) := by decide +kernel
theorem dX5_count_124 : decode cX5_count 124 = .ok (.goto 4, 3) := by decide +kernel
theorem dX5_count_127 : decode cX5_count 127 = .ok (.iconst (-1), 1) := by decide +kernel
theorem dX5_count_128 : decode cX5_count 128 = .ok (.ireturn, 1) := by decide +kernel
theorem dL_law_0 : decode cL_law 0 = .ok (.new 8, 3) := by decide +kernel
theorem dL_law_3 : decode cL_law 3 = .ok (.dup, 1) := by decide +kernel
theorem dL_law_4 : decode cL_law 4 = .ok (.invokespecial 61, 3) := by decide +kernel
theorem dL_law_7 : decode cL_law 7 = .ok (.astore_n 1, 1) := by decide +kernel
theorem dL_law_8 : decode cL_law 8 = .ok (.new 62, 3) := by decide +kernel
theorem dL_law_11 : decode cL_law 11 = .ok (.dup, 1) := by decide +kernel
theorem dL_law_12 : decode cL_law 12 = .ok (.invokespecial 64, 3) := by decide +kernel
theorem dL_law_15 : decode cL_law 15 = .ok (.astore_n 2, 1) := by decide +kernel
theorem dL_law_16 : decode cL_law 16 = .ok (.iconst 1, 1) := by decide +kernel
theorem dL_law_17 : decode cL_law 17 = .ok (.newarray .long, 2) := by decide +kernel
theorem dL_law_19 : decode cL_law 19 = .ok (.astore_n 3, 1) := by decide +kernel
theorem dL_law_20 : decode cL_law 20 = .ok (.iconst 0, 1) := by decide +kernel
theorem dL_law_21 : decode cL_law 21 = .ok (.istore 4, 2) := by decide +kernel
theorem dL_law_23 : decode cL_law 23 = .ok (.iload 4, 2) := by decide +kernel
theorem dL_law_25 : decode cL_law 25 = .ok (.aload_n 0, 1) := by decide +kernel
theorem dL_law_26 : decode cL_law 26 = .ok (.arraylength, 1) := by decide +kernel
theorem dL_law_27 : decode cL_law 27 = .ok (.iconst 5, 1) := by decide +kernel
theorem dL_law_28 : decode cL_law 28 = .ok (.isub, 1) := by decide +kernel
theorem dL_law_29 : decode cL_law 29 = .ok (.if_icmp .gt 931, 3) := by decide +kernel
theorem dL_law_32 : decode cL_law 32 = .ok (.aload_n 0, 1) := by decide +kernel
theorem dL_law_33 : decode cL_law 33 = .ok (.iload 4, 2) := by decide +kernel
theorem dL_law_35 : decode cL_law 35 = .ok (.iaload, 1) := by decide +kernel
theorem dL_law_36 : decode cL_law 36 = .ok (.bipush 15, 2) := by decide +kernel
