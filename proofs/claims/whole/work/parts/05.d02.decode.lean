theorem dX4_boxesThatCarry_24 : decode cX4_boxesThatCarry 24 = .ok (.invokevirtual 128, 3) := by decide +kernel
theorem dX4_boxesThatCarry_27 : decode cX4_boxesThatCarry 27 = .ok (.invokevirtual 148, 3) := by decide +kernel
theorem dX4_boxesThatCarry_30 : decode cX4_boxesThatCarry 30 = .ok (.iand, 1) := by decide +kernel
theorem dX4_boxesThatCarry_31 : decode cX4_boxesThatCarry 31 = .ok (.aload_n 0, 1) := by decide +kernel
theorem dX4_boxesThatCarry_32 : decode cX4_boxesThatCarry 32 = .ok (.getfield 12, 3) := by decide +kernel
theorem dX4_boxesThatCarry_35 : decode cX4_boxesThatCarry 35 = .ok (.aload_n 0, 1) := by decide +kernel
theorem dX4_boxesThatCarry_36 : decode cX4_boxesThatCarry 36 = .ok (.getfield 19, 3) := by decide +kernel
theorem dX4_boxesThatCarry_39 : decode cX4_boxesThatCarry 39 = .ok (.iload_n 1, 1) := by decide +kernel
theorem dX4_boxesThatCarry_40 : decode cX4_boxesThatCarry 40 = .ok (.invokevirtual 131, 3) := by decide +kernel
theorem dX4_boxesThatCarry_43 : decode cX4_boxesThatCarry 43 = .ok (.invokevirtual 151, 3) := by decide +kernel
theorem dX4_boxesThatCarry_46 : decode cX4_boxesThatCarry 46 = .ok (.iand, 1) := by decide +kernel
theorem dX4_boxesThatCarry_47 : decode cX4_boxesThatCarry 47 = .ok (.ireturn, 1) := by decide +kernel
theorem dX3_kindsOf_0 : decode cX3_kindsOf 0 = .ok (.iconst 0, 1) := by decide +kernel
theorem dX3_kindsOf_1 : decode cX3_kindsOf 1 = .ok (.istore_n 2, 1) := by decide +kernel
theorem dX3_kindsOf_2 : decode cX3_kindsOf 2 = .ok (.iconst 0, 1) := by decide +kernel
theorem dX3_kindsOf_3 : decode cX3_kindsOf 3 = .ok (.istore_n 3, 1) := by decide +kernel
theorem dX3_kindsOf_4 : decode cX3_kindsOf 4 = .ok (.iload_n 3, 1) := by decide +kernel
theorem dX3_kindsOf_5 : decode cX3_kindsOf 5 = .ok (.aload_n 0, 1) := by decide +kernel
theorem dX3_kindsOf_6 : decode cX3_kindsOf 6 = .ok (.getfield 27, 3) := by decide +kernel
theorem dX3_kindsOf_9 : decode cX3_kindsOf 9 = .ok (.if_icmp .ge 28, 3) := by decide +kernel
theorem dX3_kindsOf_12 : decode cX3_kindsOf 12 = .ok (.iload_n 1, 1) := by decide +kernel
theorem dX3_kindsOf_13 : decode cX3_kindsOf 13 = .ok (.iload_n 3, 1) := by decide +kernel
theorem dX3_kindsOf_14 : decode cX3_kindsOf 14 = .ok (.invokestatic 39, 3) := by decide +kernel
theorem dX3_kindsOf_17 : decode cX3_kindsOf 17 = .ok (.ifCond .eq 14, 3) := by decide +kernel
theorem dX3_kindsOf_20 : decode cX3_kindsOf 20 = .ok (.iload_n 2, 1) := by decide +kernel
theorem dX3_kindsOf_21 : decode cX3_kindsOf 21 = .ok (.iconst 1, 1) := by decide +kernel
theorem dX3_kindsOf_22 : decode cX3_kindsOf 22 = .ok (.aload_n 0, 1) := by decide +kernel
theorem dX3_kindsOf_23 : decode cX3_kindsOf 23 = .ok (.getfield 18, 3) := by decide +kernel
theorem dX3_kindsOf_26 : decode cX3_kindsOf 26 = .ok (.iload_n 3, 1) := by decide +kernel
theorem dX3_kindsOf_27 : decode cX3_kindsOf 27 = .ok (.iaload, 1) := by decide +kernel
theorem dX3_kindsOf_28 : decode cX3_kindsOf 28 = .ok (.ishl, 1) := by decide +kernel
theorem dX3_kindsOf_29 : decode cX3_kindsOf 29 = .ok (.ior, 1) := by decide +kernel
theorem dX3_kindsOf_30 : decode cX3_kindsOf 30 = .ok (.istore_n 2, 1) := by decide +kernel
theorem dX3_kindsOf_31 : decode cX3_kindsOf 31 = .ok (.iinc 3 1, 3) := by decide +kernel
theorem dX3_kindsOf_34 : decode cX3_kindsOf 34 = .ok (.goto (-30), 3) := by decide +kernel
theorem dX3_kindsOf_37 : decode cX3_kindsOf 37 = .ok (.iload_n 2, 1) := by decide +kernel
theorem dX3_kindsOf_38 : decode cX3_kindsOf 38 = .ok (.ireturn, 1) := by decide +kernel
theorem dX0_thatTake_0 : decode cX0_thatTake 0 = .ok (.iconst 0, 1) := by decide +kernel
theorem dX0_thatTake_1 : decode cX0_thatTake 1 = .ok (.istore_n 2, 1) := by decide +kernel
theorem dX0_thatTake_2 : decode cX0_thatTake 2 = .ok (.iconst 0, 1) := by decide +kernel
theorem dX0_thatTake_3 : decode cX0_thatTake 3 = .ok (.istore_n 3, 1) := by decide +kernel
theorem dX0_thatTake_4 : decode cX0_thatTake 4 = .ok (.iload_n 3, 1) := by decide +kernel
theorem dX0_thatTake_5 : decode cX0_thatTake 5 = .ok (.aload_n 0, 1) := by decide +kernel
theorem dX0_thatTake_6 : decode cX0_thatTake 6 = .ok (.getfield 24, 3) := by decide +kernel
theorem dX0_thatTake_9 : decode cX0_thatTake 9 = .ok (.if_icmp .ge 28, 3) := by decide +kernel
theorem dX0_thatTake_12 : decode cX0_thatTake 12 = .ok (.iload_n 1, 1) := by decide +kernel
theorem dX0_thatTake_13 : decode cX0_thatTake 13 = .ok (.aload_n 0, 1) := by decide +kernel
theorem dX0_thatTake_14 : decode cX0_thatTake 14 = .ok (.getfield 21, 3) := by decide +kernel
theorem dX0_thatTake_17 : decode cX0_thatTake 17 = .ok (.iload_n 3, 1) := by decide +kernel
theorem dX0_thatTake_18 : decode cX0_thatTake 18 = .ok (.iaload, 1) := by decide +kernel
theorem dX0_thatTake_19 : decode cX0_thatTake 19 = .ok (.iconst (-1), 1) := by decide +kernel
theorem dX0_thatTake_20 : decode cX0_thatTake 20 = .ok (.ixor, 1) := by decide +kernel
theorem dX0_thatTake_21 : decode cX0_thatTake 21 = .ok (.iand, 1) := by decide +kernel
theorem dX0_thatTake_22 : decode cX0_thatTake 22 = .ok (.ifCond .ne 9, 3) := by decide +kernel
theorem dX0_thatTake_25 : decode cX0_thatTake 25 = .ok (.iload_n 2, 1) := by decide +kernel
theorem dX0_thatTake_26 : decode cX0_thatTake 26 = .ok (.iconst 1, 1) := by decide +kernel
theorem dX0_thatTake_27 : decode cX0_thatTake 27 = .ok (.iload_n 3, 1) := by decide +kernel
theorem dX0_thatTake_28 : decode cX0_thatTake 28 = .ok (.ishl, 1) := by decide +kernel
theorem dX0_thatTake_29 : decode cX0_thatTake 29 = .ok (.ior, 1) := by decide +kernel
theorem dX0_thatTake_30 : decode cX0_thatTake 30 = .ok (.istore_n 2, 1) := by decide +kernel
theorem dX0_thatTake_31 : decode cX0_thatTake 31 = .ok (.iinc 3 1, 3) := by decide +kernel
theorem dX0_thatTake_34 : decode cX0_thatTake 34 = .ok (.goto (-30), 3) := by decide +kernel
theorem dX0_thatTake_37 : decode cX0_thatTake 37 = .ok (.iload_n 2, 1) := by decide +kernel
theorem dX0_thatTake_38 : decode cX0_thatTake 38 = .ok (.ireturn, 1) := by decide +kernel
theorem dX3_sizeOf_0 : decode cX3_sizeOf 0 = .ok (.aload_n 0, 1) := by decide +kernel
theorem dX3_sizeOf_1 : decode cX3_sizeOf 1 = .ok (.aload_n 0, 1) := by decide +kernel
theorem dX3_sizeOf_2 : decode cX3_sizeOf 2 = .ok (.getfield 9, 3) := by decide +kernel
theorem dX3_sizeOf_5 : decode cX3_sizeOf 5 = .ok (.iload_n 1, 1) := by decide +kernel
theorem dX3_sizeOf_6 : decode cX3_sizeOf 6 = .ok (.invokevirtual 51, 3) := by decide +kernel
theorem dX3_sizeOf_9 : decode cX3_sizeOf 9 = .ok (.ireturn, 1) := by decide +kernel
theorem dX3_sumOf_0 : decode cX3_sumOf 0 = .ok (.iconst 0, 1) := by decide +kernel
theorem dX3_sumOf_1 : decode cX3_sumOf 1 = .ok (.istore_n 3, 1) := by decide +kernel
theorem dX3_sumOf_2 : decode cX3_sumOf 2 = .ok (.iconst 0, 1) := by decide +kernel
theorem dX3_sumOf_3 : decode cX3_sumOf 3 = .ok (.istore 4, 2) := by decide +kernel
theorem dX3_sumOf_5 : decode cX3_sumOf 5 = .ok (.iload 4, 2) := by decide +kernel
theorem dX3_sumOf_7 : decode cX3_sumOf 7 = .ok (.aload_n 0, 1) := by decide +kernel
theorem dX3_sumOf_8 : decode cX3_sumOf 8 = .ok (.getfield 27, 3) := by decide +kernel
theorem dX3_sumOf_11 : decode cX3_sumOf 11 = .ok (.if_icmp .ge 25, 3) := by decide +kernel
theorem dX3_sumOf_14 : decode cX3_sumOf 14 = .ok (.iload_n 2, 1) := by decide +kernel
theorem dX3_sumOf_15 : decode cX3_sumOf 15 = .ok (.iload 4, 2) := by decide +kernel
theorem dX3_sumOf_17 : decode cX3_sumOf 17 = .ok (.invokestatic 39, 3) := by decide +kernel
theorem dX3_sumOf_20 : decode cX3_sumOf 20 = .ok (.ifCond .eq 10, 3) := by decide +kernel
theorem dX3_sumOf_23 : decode cX3_sumOf 23 = .ok (.iload_n 3, 1) := by decide +kernel
theorem dX3_sumOf_24 : decode cX3_sumOf 24 = .ok (.aload_n 1, 1) := by decide +kernel
theorem dX3_sumOf_25 : decode cX3_sumOf 25 = .ok (.iload 4, 2) := by decide +kernel
theorem dX3_sumOf_27 : decode cX3_sumOf 27 = .ok (.iaload, 1) := by decide +kernel
theorem dX3_sumOf_28 : decode cX3_sumOf 28 = .ok (.iadd, 1) := by decide +kernel
theorem dX3_sumOf_29 : decode cX3_sumOf 29 = .ok (.istore_n 3, 1) := by decide +kernel
theorem dX3_sumOf_30 : decode cX3_sumOf 30 = .ok (.iinc 4 1, 3) := by decide +kernel
theorem dX3_sumOf_33 : decode cX3_sumOf 33 = .ok (.goto (-28), 3) := by decide +kernel
theorem dX3_sumOf_36 : decode cX3_sumOf 36 = .ok (.iload_n 3, 1) := by decide +kernel
theorem dX3_sumOf_37 : decode cX3_sumOf 37 = .ok (.ireturn, 1) := by decide +kernel
theorem dX0_withRoomFor_0 : decode cX0_withRoomFor 0 = .ok (.aload_n 0, 1) := by decide +kernel
theorem dX0_withRoomFor_1 : decode cX0_withRoomFor 1 = .ok (.aload_n 0, 1) := by decide +kernel
theorem dX0_withRoomFor_2 : decode cX0_withRoomFor 2 = .ok (.getfield 9, 3) := by decide +kernel
theorem dX0_withRoomFor_5 : decode cX0_withRoomFor 5 = .ok (.iload_n 1, 1) := by decide +kernel
theorem dX0_withRoomFor_6 : decode cX0_withRoomFor 6 = .ok (.aload_n 0, 1) := by decide +kernel
theorem dX0_withRoomFor_7 : decode cX0_withRoomFor 7 = .ok (.getfield 32, 3) := by decide +kernel
theorem dX0_withRoomFor_10 : decode cX0_withRoomFor 10 = .ok (.iadd, 1) := by decide +kernel
theorem dX0_withRoomFor_11 : decode cX0_withRoomFor 11 = .ok (.invokevirtual 39, 3) := by decide +kernel
theorem dX0_withRoomFor_14 : decode cX0_withRoomFor 14 = .ok (.ireturn, 1) := by decide +kernel
theorem dX0_withAtLeast_0 : decode cX0_withAtLeast 0 = .ok (.iconst 0, 1) := by decide +kernel
theorem dX0_withAtLeast_1 : decode cX0_withAtLeast 1 = .ok (.istore_n 3, 1) := by decide +kernel
theorem dX0_withAtLeast_2 : decode cX0_withAtLeast 2 = .ok (.iconst 0, 1) := by decide +kernel
theorem dX0_withAtLeast_3 : decode cX0_withAtLeast 3 = .ok (.istore 4, 2) := by decide +kernel
theorem dX0_withAtLeast_5 : decode cX0_withAtLeast 5 = .ok (.iload 4, 2) := by decide +kernel
theorem dX0_withAtLeast_7 : decode cX0_withAtLeast 7 = .ok (.aload_n 0, 1) := by decide +kernel
theorem dX0_withAtLeast_8 : decode cX0_withAtLeast 8 = .ok (.getfield 24, 3) := by decide +kernel
theorem dX0_withAtLeast_11 : decode cX0_withAtLeast 11 = .ok (.if_icmp .ge 24, 3) := by decide +kernel
theorem dX0_withAtLeast_14 : decode cX0_withAtLeast 14 = .ok (.aload_n 1, 1) := by decide +kernel
theorem dX0_withAtLeast_15 : decode cX0_withAtLeast 15 = .ok (.iload 4, 2) := by decide +kernel
theorem dX0_withAtLeast_17 : decode cX0_withAtLeast 17 = .ok (.iaload, 1) := by decide +kernel
theorem dX0_withAtLeast_18 : decode cX0_withAtLeast 18 = .ok (.iload_n 2, 1) := by decide +kernel
theorem dX0_withAtLeast_19 : decode cX0_withAtLeast 19 = .ok (.if_icmp .lt 10, 3) := by decide +kernel
theorem dX0_withAtLeast_22 : decode cX0_withAtLeast 22 = .ok (.iload_n 3, 1) := by decide +kernel
theorem dX0_withAtLeast_23 : decode cX0_withAtLeast 23 = .ok (.iconst 1, 1) := by decide +kernel
theorem dX0_withAtLeast_24 : decode cX0_withAtLeast 24 = .ok (.iload 4, 2) := by decide +kernel
theorem dX0_withAtLeast_26 : decode cX0_withAtLeast 26 = .ok (.ishl, 1) := by decide +kernel
theorem dX0_withAtLeast_27 : decode cX0_withAtLeast 27 = .ok (.ior, 1) := by decide +kernel
theorem dX0_withAtLeast_28 : decode cX0_withAtLeast 28 = .ok (.istore_n 3, 1) := by decide +kernel
theorem dX0_withAtLeast_29 : decode cX0_withAtLeast 29 = .ok (.iinc 4 1, 3) := by decide +kernel
theorem dX0_withAtLeast_32 : decode cX0_withAtLeast 32 = .ok (.goto (-27), 3) := by decide +kernel
theorem dX0_withAtLeast_35 : decode cX0_withAtLeast 35 = .ok (.iload_n 3, 1) := by decide +kernel
theorem dX0_withAtLeast_36 : decode cX0_withAtLeast 36 = .ok (.ireturn, 1) := by decide +kernel
theorem dX3_weightOf_0 : decode cX3_weightOf 0 = .ok (.aload_n 0, 1) := by decide +kernel
theorem dX3_weightOf_1 : decode cX3_weightOf 1 = .ok (.aload_n 0, 1) := by decide +kernel
theorem dX3_weightOf_2 : decode cX3_weightOf 2 = .ok (.getfield 15, 3) := by decide +kernel
theorem dX3_weightOf_5 : decode cX3_weightOf 5 = .ok (.iload_n 1, 1) := by decide +kernel
theorem dX3_weightOf_6 : decode cX3_weightOf 6 = .ok (.invokevirtual 51, 3) := by decide +kernel
theorem dX3_weightOf_9 : decode cX3_weightOf 9 = .ok (.ireturn, 1) := by decide +kernel
theorem dX0_thatBear_0 : decode cX0_thatBear 0 = .ok (.aload_n 0, 1) := by decide +kernel
theorem dX0_thatBear_1 : decode cX0_thatBear 1 = .ok (.aload_n 0, 1) := by decide +kernel
theorem dX0_thatBear_2 : decode cX0_thatBear 2 = .ok (.getfield 15, 3) := by decide +kernel
theorem dX0_thatBear_5 : decode cX0_thatBear 5 = .ok (.iload_n 1, 1) := by decide +kernel
theorem dX0_thatBear_6 : decode cX0_thatBear 6 = .ok (.invokevirtual 39, 3) := by decide +kernel
theorem dX0_thatBear_9 : decode cX0_thatBear 9 = .ok (.ireturn, 1) := by decide +kernel
theorem dX0_cheapestOf_0 : decode cX0_cheapestOf 0 = .ok (.iconst (-1), 1) := by decide +kernel
theorem dX0_cheapestOf_1 : decode cX0_cheapestOf 1 = .ok (.istore_n 2, 1) := by decide +kernel
theorem dX0_cheapestOf_2 : decode cX0_cheapestOf 2 = .ok (.iconst 0, 1) := by decide +kernel
theorem dX0_cheapestOf_3 : decode cX0_cheapestOf 3 = .ok (.istore_n 3, 1) := by decide +kernel
theorem dX0_cheapestOf_4 : decode cX0_cheapestOf 4 = .ok (.iload_n 3, 1) := by decide +kernel
theorem dX0_cheapestOf_5 : decode cX0_cheapestOf 5 = .ok (.aload_n 0, 1) := by decide +kernel
theorem dX0_cheapestOf_6 : decode cX0_cheapestOf 6 = .ok (.getfield 24, 3) := by decide +kernel
theorem dX0_cheapestOf_9 : decode cX0_cheapestOf 9 = .ok (.if_icmp .ge 38, 3) := by decide +kernel
theorem dX0_cheapestOf_12 : decode cX0_cheapestOf 12 = .ok (.iload_n 1, 1) := by decide +kernel
theorem dX0_cheapestOf_13 : decode cX0_cheapestOf 13 = .ok (.iload_n 3, 1) := by decide +kernel
theorem dX0_cheapestOf_14 : decode cX0_cheapestOf 14 = .ok (.invokestatic 43, 3) := by decide +kernel
theorem dX0_cheapestOf_17 : decode cX0_cheapestOf 17 = .ok (.ifCond .eq 24, 3) := by decide +kernel
theorem dX0_cheapestOf_20 : decode cX0_cheapestOf 20 = .ok (.iload_n 2, 1) := by decide +kernel
theorem dX0_cheapestOf_21 : decode cX0_cheapestOf 21 = .ok (.iconst (-1), 1) := by decide +kernel
theorem dX0_cheapestOf_22 : decode cX0_cheapestOf 22 = .ok (.if_icmp .eq 17, 3) := by decide +kernel
theorem dX0_cheapestOf_25 : decode cX0_cheapestOf 25 = .ok (.aload_n 0, 1) := by decide +kernel
theorem dX0_cheapestOf_26 : decode cX0_cheapestOf 26 = .ok (.getfield 18, 3) := by decide +kernel
theorem dX0_cheapestOf_29 : decode cX0_cheapestOf 29 = .ok (.iload_n 3, 1) := by decide +kernel
theorem dX0_cheapestOf_30 : decode cX0_cheapestOf 30 = .ok (.iaload, 1) := by decide +kernel
theorem dX0_cheapestOf_31 : decode cX0_cheapestOf 31 = .ok (.aload_n 0, 1) := by decide +kernel
theorem dX0_cheapestOf_32 : decode cX0_cheapestOf 32 = .ok (.iload_n 2, 1) := by decide +kernel
theorem dX0_cheapestOf_33 : decode cX0_cheapestOf 33 = .ok (.invokevirtual 47, 3) := by decide +kernel
theorem dX0_cheapestOf_36 : decode cX0_cheapestOf 36 = .ok (.if_icmp .ge 5, 3) := by decide +kernel
theorem dX0_cheapestOf_39 : decode cX0_cheapestOf 39 = .ok (.iload_n 3, 1) := by decide +kernel
theorem dX0_cheapestOf_40 : decode cX0_cheapestOf 40 = .ok (.istore_n 2, 1) := by decide +kernel
theorem dX0_cheapestOf_41 : decode cX0_cheapestOf 41 = .ok (.iinc 3 1, 3) := by decide +kernel
theorem dX0_cheapestOf_44 : decode cX0_cheapestOf 44 = .ok (.goto (-40), 3) := by decide +kernel
theorem dX0_cheapestOf_47 : decode cX0_cheapestOf 47 = .ok (.iload_n 2, 1) := by decide +kernel
theorem dX0_cheapestOf_48 : decode cX0_cheapestOf 48 = .ok (.ireturn, 1) := by decide +kernel
theorem dX0_costOf_0 : decode cX0_costOf 0 = .ok (.aload_n 0, 1) := by decide +kernel
theorem dX0_costOf_1 : decode cX0_costOf 1 = .ok (.iload_n 1, 1) := by decide +kernel
theorem dX0_costOf_2 : decode cX0_costOf 2 = .ok (.invokevirtual 35, 3) := by decide +kernel
theorem dX0_costOf_5 : decode cX0_costOf 5 = .ok (.ifCond .eq 12, 3) := by decide +kernel
theorem dX0_costOf_8 : decode cX0_costOf 8 = .ok (.aload_n 0, 1) := by decide +kernel
theorem dX0_costOf_9 : decode cX0_costOf 9 = .ok (.getfield 18, 3) := by decide +kernel
theorem dX0_costOf_12 : decode cX0_costOf 12 = .ok (.iload_n 1, 1) := by decide +kernel
theorem dX0_costOf_13 : decode cX0_costOf 13 = .ok (.iaload, 1) := by decide +kernel
theorem dX0_costOf_14 : decode cX0_costOf 14 = .ok (.goto 4, 3) := by decide +kernel
theorem dX0_costOf_17 : decode cX0_costOf 17 = .ok (.iconst 0, 1) := by decide +kernel
theorem dX0_costOf_18 : decode cX0_costOf 18 = .ok (.ireturn, 1) := by decide +kernel
theorem dX0_has_0 : decode cX0_has 0 = .ok (.iload_n 1, 1) := by decide +kernel
theorem dX0_has_1 : decode cX0_has 1 = .ok (.ifCond .lt 15, 3) := by decide +kernel
theorem dX0_has_4 : decode cX0_has 4 = .ok (.iload_n 1, 1) := by decide +kernel
theorem dX0_has_5 : decode cX0_has 5 = .ok (.aload_n 0, 1) := by decide +kernel
theorem dX0_has_6 : decode cX0_has 6 = .ok (.getfield 24, 3) := by decide +kernel
theorem dX0_has_9 : decode cX0_has 9 = .ok (.if_icmp .ge 7, 3) := by decide +kernel
theorem dX0_has_12 : decode cX0_has 12 = .ok (.iconst 1, 1) := by decide +kernel
theorem dX0_has_13 : decode cX0_has 13 = .ok (.goto 4, 3) := by decide +kernel
theorem dX0_has_16 : decode cX0_has 16 = .ok (.iconst 0, 1) := by decide +kernel
theorem dX0_has_17 : decode cX0_has 17 = .ok (.ireturn, 1) := by decide +kernel
theorem dX2_offer_0 : decode cX2_offer 0 = .ok (.iload_n 1, 1) := by decide +kernel
theorem dX2_offer_1 : decode cX2_offer 1 = .ok (.ifCond .le 23, 3) := by decide +kernel
theorem dX2_offer_4 : decode cX2_offer 4 = .ok (.iload_n 1, 1) := by decide +kernel
theorem dX2_offer_5 : decode cX2_offer 5 = .ok (.bipush 64, 2) := by decide +kernel
theorem dX2_offer_7 : decode cX2_offer 7 = .ok (.if_icmp .ge 17, 3) := by decide +kernel
theorem dX2_offer_10 : decode cX2_offer 10 = .ok (.aload_n 0, 1) := by decide +kernel
theorem dX2_offer_11 : decode cX2_offer 11 = .ok (.getfield 9, 3) := by decide +kernel
theorem dX2_offer_14 : decode cX2_offer 14 = .ok (.iload_n 1, 1) := by decide +kernel
theorem dX2_offer_15 : decode cX2_offer 15 = .ok (.iload_n 2, 1) := by decide +kernel
theorem dX2_offer_16 : decode cX2_offer 16 = .ok (.iastore, 1) := by decide +kernel
theorem dX2_offer_17 : decode cX2_offer 17 = .ok (.aload_n 0, 1) := by decide +kernel
theorem dX2_offer_18 : decode cX2_offer 18 = .ok (.getfield 15, 3) := by decide +kernel
theorem dX2_offer_21 : decode cX2_offer 21 = .ok (.iload_n 1, 1) := by decide +kernel
theorem dX2_offer_22 : decode cX2_offer 22 = .ok (.iload_n 3, 1) := by decide +kernel
theorem dX2_offer_23 : decode cX2_offer 23 = .ok (.iastore, 1) := by decide +kernel
theorem dX2_offer_24 : decode cX2_offer 24 = .ok (.return_, 1) := by decide +kernel
theorem dX2_putBest_0 : decode cX2_putBest 0 = .ok (.iload_n 1, 1) := by decide +kernel
theorem dX2_putBest_1 : decode cX2_putBest 1 = .ok (.ifCond .lt 13, 3) := by decide +kernel
theorem dX2_putBest_4 : decode cX2_putBest 4 = .ok (.iload_n 1, 1) := by decide +kernel
theorem dX2_putBest_5 : decode cX2_putBest 5 = .ok (.bipush 64, 2) := by decide +kernel
theorem dX2_putBest_7 : decode cX2_putBest 7 = .ok (.if_icmp .ge 7, 3) := by decide +kernel
theorem dX2_putBest_10 : decode cX2_putBest 10 = .ok (.aload_n 2, 1) := by decide +kernel
theorem dX2_putBest_11 : decode cX2_putBest 11 = .ok (.ifnonnull 5, 3) := by decide +kernel
theorem dX2_putBest_14 : decode cX2_putBest 14 = .ok (.iconst 0, 1) := by decide +kernel
theorem dX2_putBest_15 : decode cX2_putBest 15 = .ok (.ireturn, 1) := by decide +kernel
theorem dX2_putBest_16 : decode cX2_putBest 16 = .ok (.iconst 1, 1) := by decide +kernel
theorem dX2_putBest_17 : decode cX2_putBest 17 = .ok (.istore_n 3, 1) := by decide +kernel
theorem dX2_putBest_18 : decode cX2_putBest 18 = .ok (.iload_n 3, 1) := by decide +kernel
theorem dX2_putBest_19 : decode cX2_putBest 19 = .ok (.iload_n 1, 1) := by decide +kernel
theorem dX2_putBest_20 : decode cX2_putBest 20 = .ok (.if_icmp .gt 14, 3) := by decide +kernel
theorem dX2_putBest_23 : decode cX2_putBest 23 = .ok (.aload_n 0, 1) := by decide +kernel
theorem dX2_putBest_24 : decode cX2_putBest 24 = .ok (.iload_n 3, 1) := by decide +kernel
theorem dX2_putBest_25 : decode cX2_putBest 25 = .ok (.invokevirtual 27, 3) := by decide +kernel
theorem dX2_putBest_28 : decode cX2_putBest 28 = .ok (.iinc 3 1, 3) := by decide +kernel
theorem dX2_putBest_31 : decode cX2_putBest 31 = .ok (.goto (-13), 3) := by decide +kernel
theorem dX2_putBest_34 : decode cX2_putBest 34 = .ok (.aload_n 0, 1) := by decide +kernel
theorem dX2_putBest_35 : decode cX2_putBest 35 = .ok (.getfield 18, 3) := by decide +kernel
theorem dX2_putBest_38 : decode cX2_putBest 38 = .ok (.iload_n 1, 1) := by decide +kernel
theorem dX2_putBest_39 : decode cX2_putBest 39 = .ok (.iaload, 1) := by decide +kernel
theorem dX2_putBest_40 : decode cX2_putBest 40 = .ok (.iconst (-1), 1) := by decide +kernel
theorem dX2_putBest_41 : decode cX2_putBest 41 = .ok (.if_icmp .ne 5, 3) := by decide +kernel
theorem dX2_putBest_44 : decode cX2_putBest 44 = .ok (.iconst 0, 1) := by decide +kernel
theorem dX2_putBest_45 : decode cX2_putBest 45 = .ok (.ireturn, 1) := by decide +kernel
theorem dX2_putBest_46 : decode cX2_putBest 46 = .ok (.iload_n 1, 1) := by decide +kernel
theorem dX2_putBest_47 : decode cX2_putBest 47 = .ok (.istore_n 3, 1) := by decide +kernel
theorem dX2_putBest_48 : decode cX2_putBest 48 = .ok (.iconst 0, 1) := by decide +kernel
theorem dX2_putBest_49 : decode cX2_putBest 49 = .ok (.istore 4, 2) := by decide +kernel
theorem dX2_putBest_51 : decode cX2_putBest 51 = .ok (.iload 4, 2) := by decide +kernel
theorem dX2_putBest_53 : decode cX2_putBest 53 = .ok (.bipush 6, 2) := by decide +kernel
theorem dX2_putBest_55 : decode cX2_putBest 55 = .ok (.if_icmp .ge 48, 3) := by decide +kernel
theorem dX2_putBest_58 : decode cX2_putBest 58 = .ok (.iload_n 3, 1) := by decide +kernel
theorem dX2_putBest_59 : decode cX2_putBest 59 = .ok (.ifCond .le 44, 3) := by decide +kernel
theorem dX2_putBest_62 : decode cX2_putBest 62 = .ok (.aload_n 0, 1) := by decide +kernel
theorem dX2_putBest_63 : decode cX2_putBest 63 = .ok (.getfield 24, 3) := by decide +kernel
theorem dX2_putBest_66 : decode cX2_putBest 66 = .ok (.iload_n 3, 1) := by decide +kernel
theorem dX2_putBest_67 : decode cX2_putBest 67 = .ok (.iaload, 1) := by decide +kernel
theorem dX2_putBest_68 : decode cX2_putBest 68 = .ok (.istore 5, 2) := by decide +kernel
theorem dX2_putBest_70 : decode cX2_putBest 70 = .ok (.aload_n 2, 1) := by decide +kernel
theorem dX2_putBest_71 : decode cX2_putBest 71 = .ok (.aload_n 0, 1) := by decide +kernel
theorem dX2_putBest_72 : decode cX2_putBest 72 = .ok (.getfield 9, 3) := by decide +kernel
theorem dX2_putBest_75 : decode cX2_putBest 75 = .ok (.iload 5, 2) := by decide +kernel
theorem dX2_putBest_77 : decode cX2_putBest 77 = .ok (.iaload, 1) := by decide +kernel
theorem dX2_putBest_78 : decode cX2_putBest 78 = .ok (.iload 5, 2) := by decide +kernel
theorem dX2_putBest_80 : decode cX2_putBest 80 = .ok (.aload_n 0, 1) := by decide +kernel
theorem dX2_putBest_81 : decode cX2_putBest 81 = .ok (.getfield 15, 3) := by decide +kernel
theorem dX2_putBest_84 : decode cX2_putBest 84 = .ok (.iload 5, 2) := by decide +kernel
theorem dX2_putBest_86 : decode cX2_putBest 86 = .ok (.iaload, 1) := by decide +kernel
theorem dX2_putBest_87 : decode cX2_putBest 87 = .ok (.invokevirtual 31, 3) := by decide +kernel
theorem dX2_putBest_90 : decode cX2_putBest 90 = .ok (.iload_n 3, 1) := by decide +kernel
theorem dX2_putBest_91 : decode cX2_putBest 91 = .ok (.iload 5, 2) := by decide +kernel
theorem dX2_putBest_93 : decode cX2_putBest 93 = .ok (.iconst (-1), 1) := by decide +kernel
theorem dX2_putBest_94 : decode cX2_putBest 94 = .ok (.ixor, 1) := by decide +kernel
theorem dX2_putBest_95 : decode cX2_putBest 95 = .ok (.iand, 1) := by decide +kernel
theorem dX2_putBest_96 : decode cX2_putBest 96 = .ok (.istore_n 3, 1) := by decide +kernel
theorem dX2_putBest_97 : decode cX2_putBest 97 = .ok (.iinc 4 1, 3) := by decide +kernel
theorem dX2_putBest_100 : decode cX2_putBest 100 = .ok (.goto (-49), 3) := by decide +kernel
theorem dX2_putBest_103 : decode cX2_putBest 103 = .ok (.iconst 1, 1) := by decide +kernel
theorem dX2_putBest_104 : decode cX2_putBest 104 = .ok (.ireturn, 1) := by decide +kernel
theorem dX2_findBest_0 : decode cX2_findBest 0 = .ok (.iload_n 1, 1) := by decide +kernel
theorem dX2_findBest_1 : decode cX2_findBest 1 = .ok (.iload_n 1, 1) := by decide +kernel
theorem dX2_findBest_2 : decode cX2_findBest 2 = .ok (.ineg, 1) := by decide +kernel
theorem dX2_findBest_3 : decode cX2_findBest 3 = .ok (.iand, 1) := by decide +kernel
theorem dX2_findBest_4 : decode cX2_findBest 4 = .ok (.istore_n 2, 1) := by decide +kernel
theorem dX2_findBest_5 : decode cX2_findBest 5 = .ok (.iload_n 2, 1) := by decide +kernel
theorem dX2_findBest_6 : decode cX2_findBest 6 = .ok (.istore_n 3, 1) := by decide +kernel
theorem dX2_findBest_7 : decode cX2_findBest 7 = .ok (.iload_n 3, 1) := by decide +kernel
theorem dX2_findBest_8 : decode cX2_findBest 8 = .ok (.iload_n 1, 1) := by decide +kernel
theorem dX2_findBest_9 : decode cX2_findBest 9 = .ok (.if_icmp .gt 39, 3) := by decide +kernel
theorem dX2_findBest_12 : decode cX2_findBest 12 = .ok (.iload_n 3, 1) := by decide +kernel
theorem dX2_findBest_13 : decode cX2_findBest 13 = .ok (.iload_n 1, 1) := by decide +kernel
theorem dX2_findBest_14 : decode cX2_findBest 14 = .ok (.iconst (-1), 1) := by decide +kernel
theorem dX2_findBest_15 : decode cX2_findBest 15 = .ok (.ixor, 1) := by decide +kernel
theorem dX2_findBest_16 : decode cX2_findBest 16 = .ok (.iand, 1) := by decide +kernel
theorem dX2_findBest_17 : decode cX2_findBest 17 = .ok (.ifCond .ne 25, 3) := by decide +kernel
theorem dX2_findBest_20 : decode cX2_findBest 20 = .ok (.iload_n 3, 1) := by decide +kernel
theorem dX2_findBest_21 : decode cX2_findBest 21 = .ok (.iload_n 2, 1) := by decide +kernel
theorem dX2_findBest_22 : decode cX2_findBest 22 = .ok (.iand, 1) := by decide +kernel
theorem dX2_findBest_23 : decode cX2_findBest 23 = .ok (.ifCond .eq 19, 3) := by decide +kernel
theorem dX2_findBest_26 : decode cX2_findBest 26 = .ok (.aload_n 0, 1) := by decide +kernel
theorem dX2_findBest_27 : decode cX2_findBest 27 = .ok (.getfield 9, 3) := by decide +kernel
theorem dX2_findBest_30 : decode cX2_findBest 30 = .ok (.iload_n 3, 1) := by decide +kernel
theorem dX2_findBest_31 : decode cX2_findBest 31 = .ok (.iaload, 1) := by decide +kernel
theorem dX2_findBest_32 : decode cX2_findBest 32 = .ok (.iconst (-1), 1) := by decide +kernel
theorem dX2_findBest_33 : decode cX2_findBest 33 = .ok (.if_icmp .eq 9, 3) := by decide +kernel
theorem dX2_findBest_36 : decode cX2_findBest 36 = .ok (.aload_n 0, 1) := by decide +kernel
theorem dX2_findBest_37 : decode cX2_findBest 37 = .ok (.iload_n 1, 1) := by decide +kernel
theorem dX2_findBest_38 : decode cX2_findBest 38 = .ok (.iload_n 3, 1) := by decide +kernel
theorem dX2_findBest_39 : decode cX2_findBest 39 = .ok (.invokevirtual 37, 3) := by decide +kernel
theorem dX2_findBest_42 : decode cX2_findBest 42 = .ok (.iinc 3 1, 3) := by decide +kernel
theorem dX2_findBest_45 : decode cX2_findBest 45 = .ok (.goto (-38), 3) := by decide +kernel
theorem dX2_findBest_48 : decode cX2_findBest 48 = .ok (.return_, 1) := by decide +kernel
theorem dX2_tryFirst_0 : decode cX2_tryFirst 0 = .ok (.iload_n 1, 1) := by decide +kernel
theorem dX2_tryFirst_1 : decode cX2_tryFirst 1 = .ok (.iload_n 2, 1) := by decide +kernel
theorem dX2_tryFirst_2 : decode cX2_tryFirst 2 = .ok (.iconst (-1), 1) := by decide +kernel
theorem dX2_tryFirst_3 : decode cX2_tryFirst 3 = .ok (.ixor, 1) := by decide +kernel
theorem dX2_tryFirst_4 : decode cX2_tryFirst 4 = .ok (.iand, 1) := by decide +kernel
theorem dX2_tryFirst_5 : decode cX2_tryFirst 5 = .ok (.istore_n 3, 1) := by decide +kernel
theorem dX2_tryFirst_6 : decode cX2_tryFirst 6 = .ok (.aload_n 0, 1) := by decide +kernel
theorem dX2_tryFirst_7 : decode cX2_tryFirst 7 = .ok (.getfield 18, 3) := by decide +kernel
theorem dX2_tryFirst_10 : decode cX2_tryFirst 10 = .ok (.iload_n 3, 1) := by decide +kernel
theorem dX2_tryFirst_11 : decode cX2_tryFirst 11 = .ok (.iaload, 1) := by decide +kernel
theorem dX2_tryFirst_12 : decode cX2_tryFirst 12 = .ok (.iconst (-1), 1) := by decide +kernel
theorem dX2_tryFirst_13 : decode cX2_tryFirst 13 = .ok (.if_icmp .ne 4, 3) := by decide +kernel
theorem dX2_tryFirst_16 : decode cX2_tryFirst 16 = .ok (.return_, 1) := by decide +kernel
theorem dX2_tryFirst_17 : decode cX2_tryFirst 17 = .ok (.aload_n 0, 1) := by decide +kernel
theorem dX2_tryFirst_18 : decode cX2_tryFirst 18 = .ok (.getfield 15, 3) := by decide +kernel
theorem dX2_tryFirst_21 : decode cX2_tryFirst 21 = .ok (.iload_n 2, 1) := by decide +kernel
theorem dX2_tryFirst_22 : decode cX2_tryFirst 22 = .ok (.iaload, 1) := by decide +kernel
theorem dX2_tryFirst_23 : decode cX2_tryFirst 23 = .ok (.aload_n 0, 1) := by decide +kernel
theorem dX2_tryFirst_24 : decode cX2_tryFirst 24 = .ok (.getfield 18, 3) := by decide +kernel
theorem dX2_tryFirst_27 : decode cX2_tryFirst 27 = .ok (.iload_n 3, 1) := by decide +kernel
theorem dX2_tryFirst_28 : decode cX2_tryFirst 28 = .ok (.iaload, 1) := by decide +kernel
theorem dX2_tryFirst_29 : decode cX2_tryFirst 29 = .ok (.iadd, 1) := by decide +kernel
theorem dX2_tryFirst_30 : decode cX2_tryFirst 30 = .ok (.istore 4, 2) := by decide +kernel
theorem dX2_tryFirst_32 : decode cX2_tryFirst 32 = .ok (.iconst 1, 1) := by decide +kernel
theorem dX2_tryFirst_33 : decode cX2_tryFirst 33 = .ok (.aload_n 0, 1) := by decide +kernel
theorem dX2_tryFirst_34 : decode cX2_tryFirst 34 = .ok (.getfield 21, 3) := by decide +kernel
theorem dX2_tryFirst_37 : decode cX2_tryFirst 37 = .ok (.iload_n 3, 1) := by decide +kernel
theorem dX2_tryFirst_38 : decode cX2_tryFirst 38 = .ok (.iaload, 1) := by decide +kernel
theorem dX2_tryFirst_39 : decode cX2_tryFirst 39 = .ok (.iadd, 1) := by decide +kernel
theorem dX2_tryFirst_40 : decode cX2_tryFirst 40 = .ok (.istore 5, 2) := by decide +kernel
theorem dX2_tryFirst_42 : decode cX2_tryFirst 42 = .ok (.aload_n 0, 1) := by decide +kernel
theorem dX2_tryFirst_43 : decode cX2_tryFirst 43 = .ok (.iload_n 1, 1) := by decide +kernel
theorem dX2_tryFirst_44 : decode cX2_tryFirst 44 = .ok (.iload_n 2, 1) := by decide +kernel
theorem dX2_tryFirst_45 : decode cX2_tryFirst 45 = .ok (.iload 4, 2) := by decide +kernel
theorem dX2_tryFirst_47 : decode cX2_tryFirst 47 = .ok (.iload 5, 2) := by decide +kernel
theorem dX2_tryFirst_49 : decode cX2_tryFirst 49 = .ok (.invokevirtual 41, 3) := by decide +kernel
theorem dX2_tryFirst_52 : decode cX2_tryFirst 52 = .ok (.ifCond .eq 26, 3) := by decide +kernel
theorem dX2_tryFirst_55 : decode cX2_tryFirst 55 = .ok (.aload_n 0, 1) := by decide +kernel
theorem dX2_tryFirst_56 : decode cX2_tryFirst 56 = .ok (.getfield 18, 3) := by decide +kernel
theorem dX2_tryFirst_59 : decode cX2_tryFirst 59 = .ok (.iload_n 1, 1) := by decide +kernel
theorem dX2_tryFirst_60 : decode cX2_tryFirst 60 = .ok (.iload 4, 2) := by decide +kernel
theorem dX2_tryFirst_62 : decode cX2_tryFirst 62 = .ok (.iastore, 1) := by decide +kernel
theorem dX2_tryFirst_63 : decode cX2_tryFirst 63 = .ok (.aload_n 0, 1) := by decide +kernel
theorem dX2_tryFirst_64 : decode cX2_tryFirst 64 = .ok (.getfield 21, 3) := by decide +kernel
theorem dX2_tryFirst_67 : decode cX2_tryFirst 67 = .ok (.iload_n 1, 1) := by decide +kernel
theorem dX2_tryFirst_68 : decode cX2_tryFirst 68 = .ok (.iload 5, 2) := by decide +kernel
theorem dX2_tryFirst_70 : decode cX2_tryFirst 70 = .ok (.iastore, 1) := by decide +kernel
theorem dX2_tryFirst_71 : decode cX2_tryFirst 71 = .ok (.aload_n 0, 1) := by decide +kernel
theorem dX2_tryFirst_72 : decode cX2_tryFirst 72 = .ok (.getfield 24, 3) := by decide +kernel
theorem dX2_tryFirst_75 : decode cX2_tryFirst 75 = .ok (.iload_n 1, 1) := by decide +kernel
theorem dX2_tryFirst_76 : decode cX2_tryFirst 76 = .ok (.iload_n 2, 1) := by decide +kernel
theorem dX2_tryFirst_77 : decode cX2_tryFirst 77 = .ok (.iastore, 1) := by decide +kernel
theorem dX2_tryFirst_78 : decode cX2_tryFirst 78 = .ok (.return_, 1) := by decide +kernel
theorem dX2_isBetter_0 : decode cX2_isBetter 0 = .ok (.aload_n 0, 1) := by decide +kernel
theorem dX2_isBetter_1 : decode cX2_isBetter 1 = .ok (.getfield 18, 3) := by decide +kernel
theorem dX2_isBetter_4 : decode cX2_isBetter 4 = .ok (.iload_n 1, 1) := by decide +kernel
theorem dX2_isBetter_5 : decode cX2_isBetter 5 = .ok (.iaload, 1) := by decide +kernel
theorem dX2_isBetter_6 : decode cX2_isBetter 6 = .ok (.iconst (-1), 1) := by decide +kernel
theorem dX2_isBetter_7 : decode cX2_isBetter 7 = .ok (.if_icmp .ne 5, 3) := by decide +kernel
theorem dX2_isBetter_10 : decode cX2_isBetter 10 = .ok (.iconst 1, 1) := by decide +kernel
theorem dX2_isBetter_11 : decode cX2_isBetter 11 = .ok (.ireturn, 1) := by decide +kernel
theorem dX2_isBetter_12 : decode cX2_isBetter 12 = .ok (.iload_n 3, 1) := by decide +kernel
theorem dX2_isBetter_13 : decode cX2_isBetter 13 = .ok (.aload_n 0, 1) := by decide +kernel
theorem dX2_isBetter_14 : decode cX2_isBetter 14 = .ok (.getfield 18, 3) := by decide +kernel
theorem dX2_isBetter_17 : decode cX2_isBetter 17 = .ok (.iload_n 1, 1) := by decide +kernel
theorem dX2_isBetter_18 : decode cX2_isBetter 18 = .ok (.iaload, 1) := by decide +kernel
theorem dX2_isBetter_19 : decode cX2_isBetter 19 = .ok (.if_icmp .eq 19, 3) := by decide +kernel
theorem dX2_isBetter_22 : decode cX2_isBetter 22 = .ok (.iload_n 3, 1) := by decide +kernel
theorem dX2_isBetter_23 : decode cX2_isBetter 23 = .ok (.aload_n 0, 1) := by decide +kernel
theorem dX2_isBetter_24 : decode cX2_isBetter 24 = .ok (.getfield 18, 3) := by decide +kernel
theorem dX2_isBetter_27 : decode cX2_isBetter 27 = .ok (.iload_n 1, 1) := by decide +kernel
theorem dX2_isBetter_28 : decode cX2_isBetter 28 = .ok (.iaload, 1) := by decide +kernel
theorem dX2_isBetter_29 : decode cX2_isBetter 29 = .ok (.if_icmp .ge 7, 3) := by decide +kernel
theorem dX2_isBetter_32 : decode cX2_isBetter 32 = .ok (.iconst 1, 1) := by decide +kernel
theorem dX2_isBetter_33 : decode cX2_isBetter 33 = .ok (.goto 4, 3) := by decide +kernel
theorem dX2_isBetter_36 : decode cX2_isBetter 36 = .ok (.iconst 0, 1) := by decide +kernel
theorem dX2_isBetter_37 : decode cX2_isBetter 37 = .ok (.ireturn, 1) := by decide +kernel
theorem dX2_isBetter_38 : decode cX2_isBetter 38 = .ok (.iload 4, 2) := by decide +kernel
theorem dX2_isBetter_40 : decode cX2_isBetter 40 = .ok (.aload_n 0, 1) := by decide +kernel
theorem dX2_isBetter_41 : decode cX2_isBetter 41 = .ok (.getfield 21, 3) := by decide +kernel
theorem dX2_isBetter_44 : decode cX2_isBetter 44 = .ok (.iload_n 1, 1) := by decide +kernel
theorem dX2_isBetter_45 : decode cX2_isBetter 45 = .ok (.iaload, 1) := by decide +kernel
theorem dX2_isBetter_46 : decode cX2_isBetter 46 = .ok (.if_icmp .eq 20, 3) := by decide +kernel
theorem dX2_isBetter_49 : decode cX2_isBetter 49 = .ok (.iload 4, 2) := by decide +kernel
theorem dX2_isBetter_51 : decode cX2_isBetter 51 = .ok (.aload_n 0, 1) := by decide +kernel
theorem dX2_isBetter_52 : decode cX2_isBetter 52 = .ok (.getfield 21, 3) := by decide +kernel
theorem dX2_isBetter_55 : decode cX2_isBetter 55 = .ok (.iload_n 1, 1) := by decide +kernel
theorem dX2_isBetter_56 : decode cX2_isBetter 56 = .ok (.iaload, 1) := by decide +kernel
theorem dX2_isBetter_57 : decode cX2_isBetter 57 = .ok (.if_icmp .ge 7, 3) := by decide +kernel
theorem dX2_isBetter_60 : decode cX2_isBetter 60 = .ok (.iconst 1, 1) := by decide +kernel
theorem dX2_isBetter_61 : decode cX2_isBetter 61 = .ok (.goto 4, 3) := by decide +kernel
theorem dX2_isBetter_64 : decode cX2_isBetter 64 = .ok (.iconst 0, 1) := by decide +kernel
theorem dX2_isBetter_65 : decode cX2_isBetter 65 = .ok (.ireturn, 1) := by decide +kernel
theorem dX2_isBetter_66 : decode cX2_isBetter 66 = .ok (.aload_n 0, 1) := by decide +kernel
theorem dX2_isBetter_67 : decode cX2_isBetter 67 = .ok (.getfield 9, 3) := by decide +kernel
theorem dX2_isBetter_70 : decode cX2_isBetter 70 = .ok (.iload_n 2, 1) := by decide +kernel
theorem dX2_isBetter_71 : decode cX2_isBetter 71 = .ok (.iaload, 1) := by decide +kernel
theorem dX2_isBetter_72 : decode cX2_isBetter 72 = .ok (.istore 5, 2) := by decide +kernel
theorem dX2_isBetter_74 : decode cX2_isBetter 74 = .ok (.aload_n 0, 1) := by decide +kernel
theorem dX2_isBetter_75 : decode cX2_isBetter 75 = .ok (.getfield 9, 3) := by decide +kernel
theorem dX2_isBetter_78 : decode cX2_isBetter 78 = .ok (.aload_n 0, 1) := by decide +kernel
theorem dX2_isBetter_79 : decode cX2_isBetter 79 = .ok (.getfield 24, 3) := by decide +kernel
theorem dX2_isBetter_82 : decode cX2_isBetter 82 = .ok (.iload_n 1, 1) := by decide +kernel
theorem dX2_isBetter_83 : decode cX2_isBetter 83 = .ok (.iaload, 1) := by decide +kernel
theorem dX2_isBetter_84 : decode cX2_isBetter 84 = .ok (.iaload, 1) := by decide +kernel
theorem dX2_isBetter_85 : decode cX2_isBetter 85 = .ok (.istore 6, 2) := by decide +kernel
theorem dX2_isBetter_87 : decode cX2_isBetter 87 = .ok (.iload 5, 2) := by decide +kernel
theorem dX2_isBetter_89 : decode cX2_isBetter 89 = .ok (.iload 6, 2) := by decide +kernel
theorem dX2_isBetter_91 : decode cX2_isBetter 91 = .ok (.if_icmp .eq 18, 3) := by decide +kernel
theorem dX2_isBetter_94 : decode cX2_isBetter 94 = .ok (.iload 5, 2) := by decide +kernel
theorem dX2_isBetter_96 : decode cX2_isBetter 96 = .ok (.iload 6, 2) := by decide +kernel
theorem dX2_isBetter_98 : decode cX2_isBetter 98 = .ok (.if_icmp .ge 7, 3) := by decide +kernel
theorem dX2_isBetter_101 : decode cX2_isBetter 101 = .ok (.iconst 1, 1) := by decide +kernel
theorem dX2_isBetter_102 : decode cX2_isBetter 102 = .ok (.goto 22, 3) := by decide +kernel
theorem dX2_isBetter_105 : decode cX2_isBetter 105 = .ok (.iconst 0, 1) := by decide +kernel
theorem dX2_isBetter_106 : decode cX2_isBetter 106 = .ok (.goto 18, 3) := by decide +kernel
theorem dX2_isBetter_109 : decode cX2_isBetter 109 = .ok (.iload_n 2, 1) := by decide +kernel
theorem dX2_isBetter_110 : decode cX2_isBetter 110 = .ok (.aload_n 0, 1) := by decide +kernel
theorem dX2_isBetter_111 : decode cX2_isBetter 111 = .ok (.getfield 24, 3) := by decide +kernel
theorem dX2_isBetter_114 : decode cX2_isBetter 114 = .ok (.iload_n 1, 1) := by decide +kernel
theorem dX2_isBetter_115 : decode cX2_isBetter 115 = .ok (.iaload, 1) := by decide +kernel
theorem dX2_isBetter_116 : decode cX2_isBetter 116 = .ok (.if_icmp .ge 7, 3) := by decide +kernel
theorem dX2_isBetter_119 : decode cX2_isBetter 119 = .ok (.iconst 1, 1) := by decide +kernel
