theorem dL_used_0 : decode cL_used 0 = .ok (.aload_n 2, 1) := by decide +kernel
theorem dL_used_1 : decode cL_used 1 = .ok (.iconst 0, 1) := by decide +kernel
theorem dL_used_2 : decode cL_used 2 = .ok (.aload_n 0, 1) := by decide +kernel
theorem dL_used_3 : decode cL_used 3 = .ok (.iload_n 1, 1) := by decide +kernel
theorem dL_used_4 : decode cL_used 4 = .ok (.invokevirtual 51, 3) := by decide +kernel
theorem dL_used_7 : decode cL_used 7 = .ok (.i2l, 1) := by decide +kernel
theorem dL_used_8 : decode cL_used 8 = .ok (.lastore, 1) := by decide +kernel
theorem dL_used_9 : decode cL_used 9 = .ok (.goto 12, 3) := by decide +kernel
theorem dL_used_12 : decode cL_used 12 = .ok (.astore_n 3, 1) := by decide +kernel
theorem dL_used_13 : decode cL_used 13 = .ok (.iconst 1, 1) := by decide +kernel
theorem dL_used_14 : decode cL_used 14 = .ok (.ireturn, 1) := by decide +kernel
theorem dL_used_15 : decode cL_used 15 = .ok (.astore_n 3, 1) := by decide +kernel
theorem dL_used_16 : decode cL_used 16 = .ok (.iconst 2, 1) := by decide +kernel
theorem dL_used_17 : decode cL_used 17 = .ok (.ireturn, 1) := by decide +kernel
theorem dL_used_18 : decode cL_used 18 = .ok (.astore_n 3, 1) := by decide +kernel
theorem dL_used_19 : decode cL_used 19 = .ok (.iconst 3, 1) := by decide +kernel
theorem dL_used_20 : decode cL_used 20 = .ok (.ireturn, 1) := by decide +kernel
theorem dL_used_21 : decode cL_used 21 = .ok (.iconst 0, 1) := by decide +kernel
theorem dL_used_22 : decode cL_used 22 = .ok (.ireturn, 1) := by decide +kernel
theorem dX4_used_0 : decode cX4_used 0 = .ok (.iload_n 1, 1) := by decide +kernel
theorem dX4_used_1 : decode cX4_used 1 = .ok (.iconst 0, 1) := by decide +kernel
theorem dX4_used_2 : decode cX4_used 2 = .ok (.iconst 1, 1) := by decide +kernel
theorem dX4_used_3 : decode cX4_used 3 = .ok (.invokestatic 37, 3) := by decide +kernel
theorem dX4_used_6 : decode cX4_used 6 = .ok (.aload_n 0, 1) := by decide +kernel
theorem dX4_used_7 : decode cX4_used 7 = .ok (.getfield 26, 3) := by decide +kernel
theorem dX4_used_10 : decode cX4_used 10 = .ok (.getfield 104, 3) := by decide +kernel
theorem dX4_used_13 : decode cX4_used 13 = .ok (.ifCond .ne 13, 3) := by decide +kernel
theorem dX4_used_16 : decode cX4_used 16 = .ok (.new 167, 3) := by decide +kernel
theorem dX4_used_19 : decode cX4_used 19 = .ok (.dup, 1) := by decide +kernel
theorem dX4_used_20 : decode cX4_used 20 = .ok (.ldc 169, 2) := by decide +kernel
theorem dX4_used_22 : decode cX4_used 22 = .ok (.invokespecial 171, 3) := by decide +kernel
theorem dX4_used_25 : decode cX4_used 25 = .ok (.athrow, 1) := by decide +kernel
theorem dX4_used_26 : decode cX4_used 26 = .ok (.iconst 0, 1) := by decide +kernel
theorem dX4_used_27 : decode cX4_used 27 = .ok (.istore_n 2, 1) := by decide +kernel
theorem dX4_used_28 : decode cX4_used 28 = .ok (.iconst 0, 1) := by decide +kernel
theorem dX4_used_29 : decode cX4_used 29 = .ok (.istore_n 3, 1) := by decide +kernel
theorem dX4_used_30 : decode cX4_used 30 = .ok (.iconst 0, 1) := by decide +kernel
theorem dX4_used_31 : decode cX4_used 31 = .ok (.istore 4, 2) := by decide +kernel
theorem dX4_used_33 : decode cX4_used 33 = .ok (.iload 4, 2) := by decide +kernel
theorem dX4_used_35 : decode cX4_used 35 = .ok (.aload_n 0, 1) := by decide +kernel
theorem dX4_used_36 : decode cX4_used 36 = .ok (.getfield 26, 3) := by decide +kernel
theorem dX4_used_39 : decode cX4_used 39 = .ok (.getfield 111, 3) := by decide +kernel
theorem dX4_used_42 : decode cX4_used 42 = .ok (.if_icmp .ge 47, 3) := by decide +kernel
theorem dX4_used_45 : decode cX4_used 45 = .ok (.iload_n 2, 1) := by decide +kernel
theorem dX4_used_46 : decode cX4_used 46 = .ok (.aload_n 0, 1) := by decide +kernel
theorem dX4_used_47 : decode cX4_used 47 = .ok (.getfield 19, 3) := by decide +kernel
theorem dX4_used_50 : decode cX4_used 50 = .ok (.aload_n 0, 1) := by decide +kernel
theorem dX4_used_51 : decode cX4_used 51 = .ok (.getfield 26, 3) := by decide +kernel
theorem dX4_used_54 : decode cX4_used 54 = .ok (.iload 4, 2) := by decide +kernel
theorem dX4_used_56 : decode cX4_used 56 = .ok (.invokevirtual 125, 3) := by decide +kernel
theorem dX4_used_59 : decode cX4_used 59 = .ok (.invokevirtual 128, 3) := by decide +kernel
theorem dX4_used_62 : decode cX4_used 62 = .ok (.iadd, 1) := by decide +kernel
theorem dX4_used_63 : decode cX4_used 63 = .ok (.istore_n 2, 1) := by decide +kernel
theorem dX4_used_64 : decode cX4_used 64 = .ok (.iload_n 3, 1) := by decide +kernel
theorem dX4_used_65 : decode cX4_used 65 = .ok (.aload_n 0, 1) := by decide +kernel
theorem dX4_used_66 : decode cX4_used 66 = .ok (.getfield 12, 3) := by decide +kernel
theorem dX4_used_69 : decode cX4_used 69 = .ok (.aload_n 0, 1) := by decide +kernel
theorem dX4_used_70 : decode cX4_used 70 = .ok (.getfield 26, 3) := by decide +kernel
theorem dX4_used_73 : decode cX4_used 73 = .ok (.iload 4, 2) := by decide +kernel
theorem dX4_used_75 : decode cX4_used 75 = .ok (.invokevirtual 121, 3) := by decide +kernel
theorem dX4_used_78 : decode cX4_used 78 = .ok (.invokevirtual 172, 3) := by decide +kernel
theorem dX4_used_81 : decode cX4_used 81 = .ok (.iadd, 1) := by decide +kernel
theorem dX4_used_82 : decode cX4_used 82 = .ok (.istore_n 3, 1) := by decide +kernel
theorem dX4_used_83 : decode cX4_used 83 = .ok (.iinc 4 1, 3) := by decide +kernel
theorem dX4_used_86 : decode cX4_used 86 = .ok (.goto (-53), 3) := by decide +kernel
theorem dX4_used_89 : decode cX4_used 89 = .ok (.iload_n 2, 1) := by decide +kernel
theorem dX4_used_90 : decode cX4_used 90 = .ok (.iload_n 3, 1) := by decide +kernel
theorem dX4_used_91 : decode cX4_used 91 = .ok (.invokestatic 175, 3) := by decide +kernel
theorem dX4_used_94 : decode cX4_used 94 = .ok (.istore 4, 2) := by decide +kernel
theorem dX4_used_96 : decode cX4_used 96 = .ok (.iload 4, 2) := by decide +kernel
theorem dX4_used_98 : decode cX4_used 98 = .ok (.ifCond .ne 13, 3) := by decide +kernel
theorem dX4_used_101 : decode cX4_used 101 = .ok (.new 178, 3) := by decide +kernel
theorem dX4_used_104 : decode cX4_used 104 = .ok (.dup, 1) := by decide +kernel
theorem dX4_used_105 : decode cX4_used 105 = .ok (.ldc 180, 2) := by decide +kernel
theorem dX4_used_107 : decode cX4_used 107 = .ok (.invokespecial 182, 3) := by decide +kernel
theorem dX4_used_110 : decode cX4_used 110 = .ok (.athrow, 1) := by decide +kernel
theorem dX4_used_111 : decode cX4_used 111 = .ok (.iload_n 1, 1) := by decide +kernel
theorem dX4_used_112 : decode cX4_used 112 = .ok (.ifCond .ne 7, 3) := by decide +kernel
theorem dX4_used_115 : decode cX4_used 115 = .ok (.iload_n 2, 1) := by decide +kernel
theorem dX4_used_116 : decode cX4_used 116 = .ok (.goto 4, 3) := by decide +kernel
theorem dX4_used_119 : decode cX4_used 119 = .ok (.iload_n 3, 1) := by decide +kernel
theorem dX4_used_120 : decode cX4_used 120 = .ok (.iload 4, 2) := by decide +kernel
theorem dX4_used_122 : decode cX4_used 122 = .ok (.idiv, 1) := by decide +kernel
theorem dX4_used_123 : decode cX4_used 123 = .ok (.ireturn, 1) := by decide +kernel
theorem dX0_roomOf_0 : decode cX0_roomOf 0 = .ok (.aload_n 0, 1) := by decide +kernel
theorem dX0_roomOf_1 : decode cX0_roomOf 1 = .ok (.iload_n 1, 1) := by decide +kernel
theorem dX0_roomOf_2 : decode cX0_roomOf 2 = .ok (.invokevirtual 35, 3) := by decide +kernel
theorem dX0_roomOf_5 : decode cX0_roomOf 5 = .ok (.ifCond .eq 12, 3) := by decide +kernel
theorem dX0_roomOf_8 : decode cX0_roomOf 8 = .ok (.aload_n 0, 1) := by decide +kernel
theorem dX0_roomOf_9 : decode cX0_roomOf 9 = .ok (.getfield 9, 3) := by decide +kernel
theorem dX0_roomOf_12 : decode cX0_roomOf 12 = .ok (.iload_n 1, 1) := by decide +kernel
theorem dX0_roomOf_13 : decode cX0_roomOf 13 = .ok (.iaload, 1) := by decide +kernel
theorem dX0_roomOf_14 : decode cX0_roomOf 14 = .ok (.goto 4, 3) := by decide +kernel
theorem dX0_roomOf_17 : decode cX0_roomOf 17 = .ok (.iconst 0, 1) := by decide +kernel
theorem dX0_roomOf_18 : decode cX0_roomOf 18 = .ok (.ireturn, 1) := by decide +kernel
theorem dX4_commonDivisor_0 : decode cX4_commonDivisor 0 = .ok (.iload_n 0, 1) := by decide +kernel
theorem dX4_commonDivisor_1 : decode cX4_commonDivisor 1 = .ok (.istore_n 2, 1) := by decide +kernel
theorem dX4_commonDivisor_2 : decode cX4_commonDivisor 2 = .ok (.iload_n 1, 1) := by decide +kernel
theorem dX4_commonDivisor_3 : decode cX4_commonDivisor 3 = .ok (.istore_n 3, 1) := by decide +kernel
theorem dX4_commonDivisor_4 : decode cX4_commonDivisor 4 = .ok (.iconst 0, 1) := by decide +kernel
theorem dX4_commonDivisor_5 : decode cX4_commonDivisor 5 = .ok (.istore 4, 2) := by decide +kernel
theorem dX4_commonDivisor_7 : decode cX4_commonDivisor 7 = .ok (.iload 4, 2) := by decide +kernel
theorem dX4_commonDivisor_9 : decode cX4_commonDivisor 9 = .ok (.sipush 1000, 3) := by decide +kernel
theorem dX4_commonDivisor_12 : decode cX4_commonDivisor 12 = .ok (.if_icmp .ge 23, 3) := by decide +kernel
theorem dX4_commonDivisor_15 : decode cX4_commonDivisor 15 = .ok (.iload_n 3, 1) := by decide +kernel
theorem dX4_commonDivisor_16 : decode cX4_commonDivisor 16 = .ok (.ifCond .le 19, 3) := by decide +kernel
theorem dX4_commonDivisor_19 : decode cX4_commonDivisor 19 = .ok (.iload_n 2, 1) := by decide +kernel
theorem dX4_commonDivisor_20 : decode cX4_commonDivisor 20 = .ok (.iload_n 3, 1) := by decide +kernel
theorem dX4_commonDivisor_21 : decode cX4_commonDivisor 21 = .ok (.irem, 1) := by decide +kernel
theorem dX4_commonDivisor_22 : decode cX4_commonDivisor 22 = .ok (.istore 5, 2) := by decide +kernel
theorem dX4_commonDivisor_24 : decode cX4_commonDivisor 24 = .ok (.iload_n 3, 1) := by decide +kernel
theorem dX4_commonDivisor_25 : decode cX4_commonDivisor 25 = .ok (.istore_n 2, 1) := by decide +kernel
theorem dX4_commonDivisor_26 : decode cX4_commonDivisor 26 = .ok (.iload 5, 2) := by decide +kernel
theorem dX4_commonDivisor_28 : decode cX4_commonDivisor 28 = .ok (.istore_n 3, 1) := by decide +kernel
theorem dX4_commonDivisor_29 : decode cX4_commonDivisor 29 = .ok (.iinc 4 1, 3) := by decide +kernel
theorem dX4_commonDivisor_32 : decode cX4_commonDivisor 32 = .ok (.goto (-25), 3) := by decide +kernel
theorem dX4_commonDivisor_35 : decode cX4_commonDivisor 35 = .ok (.iload_n 2, 1) := by decide +kernel
theorem dX4_commonDivisor_36 : decode cX4_commonDivisor 36 = .ok (.ireturn, 1) := by decide +kernel
theorem dL_dimensional_0 : decode cL_dimensional 0 = .ok (.aload_n 3, 1) := by decide +kernel
theorem dL_dimensional_1 : decode cL_dimensional 1 = .ok (.iconst 0, 1) := by decide +kernel
theorem dL_dimensional_2 : decode cL_dimensional 2 = .ok (.aload_n 0, 1) := by decide +kernel
theorem dL_dimensional_3 : decode cL_dimensional 3 = .ok (.iload_n 1, 1) := by decide +kernel
theorem dL_dimensional_4 : decode cL_dimensional 4 = .ok (.iload_n 2, 1) := by decide +kernel
theorem dL_dimensional_5 : decode cL_dimensional 5 = .ok (.invokevirtual 58, 3) := by decide +kernel
theorem dL_dimensional_8 : decode cL_dimensional 8 = .ok (.i2l, 1) := by decide +kernel
theorem dL_dimensional_9 : decode cL_dimensional 9 = .ok (.lastore, 1) := by decide +kernel
theorem dL_dimensional_10 : decode cL_dimensional 10 = .ok (.goto 15, 3) := by decide +kernel
theorem dL_dimensional_13 : decode cL_dimensional 13 = .ok (.astore 4, 2) := by decide +kernel
theorem dL_dimensional_15 : decode cL_dimensional 15 = .ok (.iconst 1, 1) := by decide +kernel
theorem dL_dimensional_16 : decode cL_dimensional 16 = .ok (.ireturn, 1) := by decide +kernel
theorem dL_dimensional_17 : decode cL_dimensional 17 = .ok (.astore 4, 2) := by decide +kernel
theorem dL_dimensional_19 : decode cL_dimensional 19 = .ok (.iconst 2, 1) := by decide +kernel
theorem dL_dimensional_20 : decode cL_dimensional 20 = .ok (.ireturn, 1) := by decide +kernel
theorem dL_dimensional_21 : decode cL_dimensional 21 = .ok (.astore 4, 2) := by decide +kernel
theorem dL_dimensional_23 : decode cL_dimensional 23 = .ok (.iconst 3, 1) := by decide +kernel
theorem dL_dimensional_24 : decode cL_dimensional 24 = .ok (.ireturn, 1) := by decide +kernel
theorem dL_dimensional_25 : decode cL_dimensional 25 = .ok (.iconst 0, 1) := by decide +kernel
theorem dL_dimensional_26 : decode cL_dimensional 26 = .ok (.ireturn, 1) := by decide +kernel
theorem dX4_dimensional_0 : decode cX4_dimensional 0 = .ok (.aload_n 0, 1) := by decide +kernel
theorem dX4_dimensional_1 : decode cX4_dimensional 1 = .ok (.iload_n 1, 1) := by decide +kernel
theorem dX4_dimensional_2 : decode cX4_dimensional 2 = .ok (.invokevirtual 157, 3) := by decide +kernel
theorem dX4_dimensional_5 : decode cX4_dimensional 5 = .ok (.iload_n 2, 1) := by decide +kernel
theorem dX4_dimensional_6 : decode cX4_dimensional 6 = .ok (.ifCond .ge 13, 3) := by decide +kernel
theorem dX4_dimensional_9 : decode cX4_dimensional 9 = .ok (.new 66, 3) := by decide +kernel
theorem dX4_dimensional_12 : decode cX4_dimensional 12 = .ok (.dup, 1) := by decide +kernel
theorem dX4_dimensional_13 : decode cX4_dimensional 13 = .ok (.ldc 183, 2) := by decide +kernel
theorem dX4_dimensional_15 : decode cX4_dimensional 15 = .ok (.invokespecial 70, 3) := by decide +kernel
theorem dX4_dimensional_18 : decode cX4_dimensional 18 = .ok (.athrow, 1) := by decide +kernel
theorem dX4_dimensional_19 : decode cX4_dimensional 19 = .ok (.iload_n 2, 1) := by decide +kernel
theorem dX4_dimensional_20 : decode cX4_dimensional 20 = .ok (.ifCond .ne 13, 3) := by decide +kernel
theorem dX4_dimensional_23 : decode cX4_dimensional 23 = .ok (.new 178, 3) := by decide +kernel
theorem dX4_dimensional_26 : decode cX4_dimensional 26 = .ok (.dup, 1) := by decide +kernel
theorem dX4_dimensional_27 : decode cX4_dimensional 27 = .ok (.ldc 180, 2) := by decide +kernel
theorem dX4_dimensional_29 : decode cX4_dimensional 29 = .ok (.invokespecial 182, 3) := by decide +kernel
theorem dX4_dimensional_32 : decode cX4_dimensional 32 = .ok (.athrow, 1) := by decide +kernel
theorem dX4_dimensional_33 : decode cX4_dimensional 33 = .ok (.aload_n 0, 1) := by decide +kernel
theorem dX4_dimensional_34 : decode cX4_dimensional 34 = .ok (.getfield 12, 3) := by decide +kernel
theorem dX4_dimensional_37 : decode cX4_dimensional 37 = .ok (.iload_n 1, 1) := by decide +kernel
theorem dX4_dimensional_38 : decode cX4_dimensional 38 = .ok (.invokevirtual 172, 3) := by decide +kernel
theorem dX4_dimensional_41 : decode cX4_dimensional 41 = .ok (.iconst 1, 1) := by decide +kernel
theorem dX4_dimensional_42 : decode cX4_dimensional 42 = .ok (.isub, 1) := by decide +kernel
theorem dX4_dimensional_43 : decode cX4_dimensional 43 = .ok (.iload_n 2, 1) := by decide +kernel
theorem dX4_dimensional_44 : decode cX4_dimensional 44 = .ok (.idiv, 1) := by decide +kernel
theorem dX4_dimensional_45 : decode cX4_dimensional 45 = .ok (.iconst 1, 1) := by decide +kernel
theorem dX4_dimensional_46 : decode cX4_dimensional 46 = .ok (.iadd, 1) := by decide +kernel
theorem dX4_dimensional_47 : decode cX4_dimensional 47 = .ok (.ireturn, 1) := by decide +kernel
theorem dX5_init_0 : decode cX5_init 0 = .ok (.aload_n 0, 1) := by decide +kernel
theorem dX5_init_1 : decode cX5_init 1 = .ok (.invokespecial 1, 3) := by decide +kernel
theorem dX5_init_4 : decode cX5_init 4 = .ok (.aload_n 0, 1) := by decide +kernel
theorem dX5_init_5 : decode cX5_init 5 = .ok (.bipush 6, 2) := by decide +kernel
theorem dX5_init_7 : decode cX5_init 7 = .ok (.newarray .int, 2) := by decide +kernel
theorem dX5_init_9 : decode cX5_init 9 = .ok (.putfield 7, 3) := by decide +kernel
theorem dX5_init_12 : decode cX5_init 12 = .ok (.aload_n 0, 1) := by decide +kernel
theorem dX5_init_13 : decode cX5_init 13 = .ok (.bipush 6, 2) := by decide +kernel
theorem dX5_init_15 : decode cX5_init 15 = .ok (.newarray .int, 2) := by decide +kernel
theorem dX5_init_17 : decode cX5_init 17 = .ok (.putfield 13, 3) := by decide +kernel
theorem dX5_init_20 : decode cX5_init 20 = .ok (.aload_n 0, 1) := by decide +kernel
theorem dX5_init_21 : decode cX5_init 21 = .ok (.bipush 6, 2) := by decide +kernel
theorem dX5_init_23 : decode cX5_init 23 = .ok (.newarray .int, 2) := by decide +kernel
theorem dX5_init_25 : decode cX5_init 25 = .ok (.putfield 16, 3) := by decide +kernel
theorem dX5_init_28 : decode cX5_init 28 = .ok (.aload_n 0, 1) := by decide +kernel
theorem dX5_init_29 : decode cX5_init 29 = .ok (.bipush 6, 2) := by decide +kernel
theorem dX5_init_31 : decode cX5_init 31 = .ok (.newarray .int, 2) := by decide +kernel
theorem dX5_init_33 : decode cX5_init 33 = .ok (.putfield 19, 3) := by decide +kernel
theorem dX5_init_36 : decode cX5_init 36 = .ok (.aload_n 0, 1) := by decide +kernel
theorem dX5_init_37 : decode cX5_init 37 = .ok (.bipush 8, 2) := by decide +kernel
theorem dX5_init_39 : decode cX5_init 39 = .ok (.newarray .int, 2) := by decide +kernel
theorem dX5_init_41 : decode cX5_init 41 = .ok (.putfield 22, 3) := by decide +kernel
theorem dX5_init_44 : decode cX5_init 44 = .ok (.aload_n 0, 1) := by decide +kernel
theorem dX5_init_45 : decode cX5_init 45 = .ok (.bipush 8, 2) := by decide +kernel
theorem dX5_init_47 : decode cX5_init 47 = .ok (.newarray .int, 2) := by decide +kernel
theorem dX5_init_49 : decode cX5_init 49 = .ok (.putfield 25, 3) := by decide +kernel
theorem dX5_init_52 : decode cX5_init 52 = .ok (.aload_n 0, 1) := by decide +kernel
theorem dX5_init_53 : decode cX5_init 53 = .ok (.bipush 8, 2) := by decide +kernel
theorem dX5_init_55 : decode cX5_init 55 = .ok (.newarray .int, 2) := by decide +kernel
theorem dX5_init_57 : decode cX5_init 57 = .ok (.putfield 28, 3) := by decide +kernel
theorem dX5_init_60 : decode cX5_init 60 = .ok (.aload_n 0, 1) := by decide +kernel
theorem dX5_init_61 : decode cX5_init 61 = .ok (.bipush 64, 2) := by decide +kernel
theorem dX5_init_63 : decode cX5_init 63 = .ok (.newarray .int, 2) := by decide +kernel
theorem dX5_init_65 : decode cX5_init 65 = .ok (.putfield 31, 3) := by decide +kernel
theorem dX5_init_68 : decode cX5_init 68 = .ok (.aload_n 0, 1) := by decide +kernel
theorem dX5_init_69 : decode cX5_init 69 = .ok (.iconst (-1), 1) := by decide +kernel
theorem dX5_init_70 : decode cX5_init 70 = .ok (.putfield 34, 3) := by decide +kernel
theorem dX5_init_73 : decode cX5_init 73 = .ok (.aload_n 0, 1) := by decide +kernel
theorem dX5_init_74 : decode cX5_init 74 = .ok (.bipush 8, 2) := by decide +kernel
theorem dX5_init_76 : decode cX5_init 76 = .ok (.newarray .int, 2) := by decide +kernel
theorem dX5_init_78 : decode cX5_init 78 = .ok (.putfield 38, 3) := by decide +kernel
theorem dX5_init_81 : decode cX5_init 81 = .ok (.aload_n 0, 1) := by decide +kernel
theorem dX5_init_82 : decode cX5_init 82 = .ok (.bipush 8, 2) := by decide +kernel
theorem dX5_init_84 : decode cX5_init 84 = .ok (.newarray .int, 2) := by decide +kernel
theorem dX5_init_86 : decode cX5_init 86 = .ok (.putfield 41, 3) := by decide +kernel
theorem dX5_init_89 : decode cX5_init 89 = .ok (.aload_n 0, 1) := by decide +kernel
theorem dX5_init_90 : decode cX5_init 90 = .ok (.bipush 8, 2) := by decide +kernel
theorem dX5_init_92 : decode cX5_init 92 = .ok (.newarray .int, 2) := by decide +kernel
theorem dX5_init_94 : decode cX5_init 94 = .ok (.putfield 44, 3) := by decide +kernel
theorem dX5_init_97 : decode cX5_init 97 = .ok (.aload_n 0, 1) := by decide +kernel
theorem dX5_init_98 : decode cX5_init 98 = .ok (.bipush 8, 2) := by decide +kernel
theorem dX5_init_100 : decode cX5_init 100 = .ok (.newarray .int, 2) := by decide +kernel
theorem dX5_init_102 : decode cX5_init 102 = .ok (.putfield 47, 3) := by decide +kernel
theorem dX5_init_105 : decode cX5_init 105 = .ok (.aload_n 0, 1) := by decide +kernel
theorem dX5_init_106 : decode cX5_init 106 = .ok (.bipush 8, 2) := by decide +kernel
theorem dX5_init_108 : decode cX5_init 108 = .ok (.newarray .int, 2) := by decide +kernel
theorem dX5_init_110 : decode cX5_init 110 = .ok (.putfield 50, 3) := by decide +kernel
theorem dX5_init_113 : decode cX5_init 113 = .ok (.return_, 1) := by decide +kernel
theorem dX5_thrown_0 : decode cX5_thrown 0 = .ok (.aload_n 0, 1) := by decide +kernel
theorem dX5_thrown_1 : decode cX5_thrown 1 = .ok (.getfield 53, 3) := by decide +kernel
theorem dX5_thrown_4 : decode cX5_thrown 4 = .ok (.ireturn, 1) := by decide +kernel
theorem dX5_box_0 : decode cX5_box 0 = .ok (.aload_n 0, 1) := by decide +kernel
theorem dX5_box_1 : decode cX5_box 1 = .ok (.iload_n 1, 1) := by decide +kernel
theorem dX5_box_2 : decode cX5_box 2 = .ok (.iconst 1, 1) := by decide +kernel
theorem dX5_box_3 : decode cX5_box 3 = .ok (.sipush 1000, 3) := by decide +kernel
theorem dX5_box_6 : decode cX5_box 6 = .ok (.invokestatic 59, 3) := by decide +kernel
theorem dX5_box_9 : decode cX5_box 9 = .ok (.ifCond .eq 37, 3) := by decide +kernel
theorem dX5_box_12 : decode cX5_box 12 = .ok (.iload_n 2, 1) := by decide +kernel
theorem dX5_box_13 : decode cX5_box 13 = .ok (.iconst 1, 1) := by decide +kernel
theorem dX5_box_14 : decode cX5_box 14 = .ok (.sipush 1000, 3) := by decide +kernel
theorem dX5_box_17 : decode cX5_box 17 = .ok (.invokestatic 59, 3) := by decide +kernel
theorem dX5_box_20 : decode cX5_box 20 = .ok (.ifCond .eq 26, 3) := by decide +kernel
theorem dX5_box_23 : decode cX5_box 23 = .ok (.iload_n 3, 1) := by decide +kernel
theorem dX5_box_24 : decode cX5_box 24 = .ok (.iconst 0, 1) := by decide +kernel
theorem dX5_box_25 : decode cX5_box 25 = .ok (.sipush 1000, 3) := by decide +kernel
theorem dX5_box_28 : decode cX5_box 28 = .ok (.invokestatic 59, 3) := by decide +kernel
theorem dX5_box_31 : decode cX5_box 31 = .ok (.ifCond .eq 15, 3) := by decide +kernel
theorem dX5_box_34 : decode cX5_box 34 = .ok (.iload 4, 2) := by decide +kernel
theorem dX5_box_36 : decode cX5_box 36 = .ok (.iconst 0, 1) := by decide +kernel
theorem dX5_box_37 : decode cX5_box 37 = .ok (.sipush 255, 3) := by decide +kernel
theorem dX5_box_40 : decode cX5_box 40 = .ok (.invokestatic 59, 3) := by decide +kernel
theorem dX5_box_43 : decode cX5_box 43 = .ok (.ifCond .ne 7, 3) := by decide +kernel
theorem dX5_box_46 : decode cX5_box 46 = .ok (.iconst 1, 1) := by decide +kernel
theorem dX5_box_47 : decode cX5_box 47 = .ok (.goto 17, 3) := by decide +kernel
theorem dX5_box_50 : decode cX5_box 50 = .ok (.aload_n 0, 1) := by decide +kernel
theorem dX5_box_51 : decode cX5_box 51 = .ok (.getfield 56, 3) := by decide +kernel
theorem dX5_box_54 : decode cX5_box 54 = .ok (.bipush 6, 2) := by decide +kernel
theorem dX5_box_56 : decode cX5_box 56 = .ok (.if_icmp .ne 7, 3) := by decide +kernel
theorem dX5_box_59 : decode cX5_box 59 = .ok (.iconst 2, 1) := by decide +kernel
theorem dX5_box_60 : decode cX5_box 60 = .ok (.goto 4, 3) := by decide +kernel
theorem dX5_box_63 : decode cX5_box 63 = .ok (.iconst 0, 1) := by decide +kernel
theorem dX5_box_64 : decode cX5_box 64 = .ok (.putfield 53, 3) := by decide +kernel
theorem dX5_box_67 : decode cX5_box 67 = .ok (.aload_n 0, 1) := by decide +kernel
theorem dX5_box_68 : decode cX5_box 68 = .ok (.getfield 53, 3) := by decide +kernel
theorem dX5_box_71 : decode cX5_box 71 = .ok (.ifCond .le 5, 3) := by decide +kernel
theorem dX5_box_74 : decode cX5_box 74 = .ok (.iconst 0, 1) := by decide +kernel
theorem dX5_box_75 : decode cX5_box 75 = .ok (.ireturn, 1) := by decide +kernel
theorem dX5_box_76 : decode cX5_box 76 = .ok (.aload_n 0, 1) := by decide +kernel
theorem dX5_box_77 : decode cX5_box 77 = .ok (.getfield 7, 3) := by decide +kernel
theorem dX5_box_80 : decode cX5_box 80 = .ok (.aload_n 0, 1) := by decide +kernel
theorem dX5_box_81 : decode cX5_box 81 = .ok (.getfield 56, 3) := by decide +kernel
theorem dX5_box_84 : decode cX5_box 84 = .ok (.iload_n 1, 1) := by decide +kernel
theorem dX5_box_85 : decode cX5_box 85 = .ok (.iastore, 1) := by decide +kernel
theorem dX5_box_86 : decode cX5_box 86 = .ok (.aload_n 0, 1) := by decide +kernel
theorem dX5_box_87 : decode cX5_box 87 = .ok (.getfield 13, 3) := by decide +kernel
theorem dX5_box_90 : decode cX5_box 90 = .ok (.aload_n 0, 1) := by decide +kernel
theorem dX5_box_91 : decode cX5_box 91 = .ok (.getfield 56, 3) := by decide +kernel
theorem dX5_box_94 : decode cX5_box 94 = .ok (.iload_n 2, 1) := by decide +kernel
theorem dX5_box_95 : decode cX5_box 95 = .ok (.iastore, 1) := by decide +kernel
theorem dX5_box_96 : decode cX5_box 96 = .ok (.aload_n 0, 1) := by decide +kernel
theorem dX5_box_97 : decode cX5_box 97 = .ok (.getfield 16, 3) := by decide +kernel
theorem dX5_box_100 : decode cX5_box 100 = .ok (.aload_n 0, 1) := by decide +kernel
theorem dX5_box_101 : decode cX5_box 101 = .ok (.getfield 56, 3) := by decide +kernel
theorem dX5_box_104 : decode cX5_box 104 = .ok (.iload_n 3, 1) := by decide +kernel
theorem dX5_box_105 : decode cX5_box 105 = .ok (.iastore, 1) := by decide +kernel
theorem dX5_box_106 : decode cX5_box 106 = .ok (.aload_n 0, 1) := by decide +kernel
theorem dX5_box_107 : decode cX5_box 107 = .ok (.getfield 19, 3) := by decide +kernel
theorem dX5_box_110 : decode cX5_box 110 = .ok (.aload_n 0, 1) := by decide +kernel
theorem dX5_box_111 : decode cX5_box 111 = .ok (.getfield 56, 3) := by decide +kernel
theorem dX5_box_114 : decode cX5_box 114 = .ok (.iload 4, 2) := by decide +kernel
theorem dX5_box_116 : decode cX5_box 116 = .ok (.iastore, 1) := by decide +kernel
theorem dX5_box_117 : decode cX5_box 117 = .ok (.aload_n 0, 1) := by decide +kernel
theorem dX5_box_118 : decode cX5_box 118 = .ok (.dup, 1) := by decide +kernel
theorem dX5_box_119 : decode cX5_box 119 = .ok (.getfield 56, 3) := by decide +kernel
theorem dX5_box_122 : decode cX5_box 122 = .ok (.iconst 1, 1) := by decide +kernel
theorem dX5_box_123 : decode cX5_box 123 = .ok (.iadd, 1) := by decide +kernel
theorem dX5_box_124 : decode cX5_box 124 = .ok (.putfield 56, 3) := by decide +kernel
theorem dX5_box_127 : decode cX5_box 127 = .ok (.aload_n 0, 1) := by decide +kernel
theorem dX5_box_128 : decode cX5_box 128 = .ok (.getfield 56, 3) := by decide +kernel
theorem dX5_box_131 : decode cX5_box 131 = .ok (.iconst 1, 1) := by decide +kernel
theorem dX5_box_132 : decode cX5_box 132 = .ok (.isub, 1) := by decide +kernel
theorem dX5_box_133 : decode cX5_box 133 = .ok (.ireturn, 1) := by decide +kernel
theorem dX5_in_0 : decode cX5_in 0 = .ok (.iload_n 0, 1) := by decide +kernel
theorem dX5_in_1 : decode cX5_in 1 = .ok (.iload_n 1, 1) := by decide +kernel
theorem dX5_in_2 : decode cX5_in 2 = .ok (.if_icmp .lt 12, 3) := by decide +kernel
theorem dX5_in_5 : decode cX5_in 5 = .ok (.iload_n 0, 1) := by decide +kernel
theorem dX5_in_6 : decode cX5_in 6 = .ok (.iload_n 2, 1) := by decide +kernel
theorem dX5_in_7 : decode cX5_in 7 = .ok (.if_icmp .gt 7, 3) := by decide +kernel
theorem dX5_in_10 : decode cX5_in 10 = .ok (.iconst 1, 1) := by decide +kernel
theorem dX5_in_11 : decode cX5_in 11 = .ok (.goto 4, 3) := by decide +kernel
theorem dX5_in_14 : decode cX5_in 14 = .ok (.iconst 0, 1) := by decide +kernel
theorem dX5_in_15 : decode cX5_in 15 = .ok (.ireturn, 1) := by decide +kernel
theorem dX5_unit_0 : decode cX5_unit 0 = .ok (.aload_n 0, 1) := by decide +kernel
theorem dX5_unit_1 : decode cX5_unit 1 = .ok (.iload_n 1, 1) := by decide +kernel
theorem dX5_unit_2 : decode cX5_unit 2 = .ok (.iconst 1, 1) := by decide +kernel
theorem dX5_unit_3 : decode cX5_unit 3 = .ok (.sipush 1000, 3) := by decide +kernel
theorem dX5_unit_6 : decode cX5_unit 6 = .ok (.invokestatic 59, 3) := by decide +kernel
theorem dX5_unit_9 : decode cX5_unit 9 = .ok (.ifCond .eq 24, 3) := by decide +kernel
theorem dX5_unit_12 : decode cX5_unit 12 = .ok (.iload_n 2, 1) := by decide +kernel
theorem dX5_unit_13 : decode cX5_unit 13 = .ok (.iconst 0, 1) := by decide +kernel
theorem dX5_unit_14 : decode cX5_unit 14 = .ok (.sipush 1000, 3) := by decide +kernel
theorem dX5_unit_17 : decode cX5_unit 17 = .ok (.invokestatic 59, 3) := by decide +kernel
theorem dX5_unit_20 : decode cX5_unit 20 = .ok (.ifCond .eq 13, 3) := by decide +kernel
theorem dX5_unit_23 : decode cX5_unit 23 = .ok (.iload_n 3, 1) := by decide +kernel
theorem dX5_unit_24 : decode cX5_unit 24 = .ok (.iconst 0, 1) := by decide +kernel
theorem dX5_unit_25 : decode cX5_unit 25 = .ok (.bipush 7, 2) := by decide +kernel
theorem dX5_unit_27 : decode cX5_unit 27 = .ok (.invokestatic 59, 3) := by decide +kernel
theorem dX5_unit_30 : decode cX5_unit 30 = .ok (.ifCond .ne 7, 3) := by decide +kernel
theorem dX5_unit_33 : decode cX5_unit 33 = .ok (.iconst 1, 1) := by decide +kernel
theorem dX5_unit_34 : decode cX5_unit 34 = .ok (.goto 17, 3) := by decide +kernel
theorem dX5_unit_37 : decode cX5_unit 37 = .ok (.aload_n 0, 1) := by decide +kernel
theorem dX5_unit_38 : decode cX5_unit 38 = .ok (.getfield 63, 3) := by decide +kernel
theorem dX5_unit_41 : decode cX5_unit 41 = .ok (.bipush 8, 2) := by decide +kernel
theorem dX5_unit_43 : decode cX5_unit 43 = .ok (.if_icmp .ne 7, 3) := by decide +kernel
theorem dX5_unit_46 : decode cX5_unit 46 = .ok (.iconst 2, 1) := by decide +kernel
theorem dX5_unit_47 : decode cX5_unit 47 = .ok (.goto 4, 3) := by decide +kernel
theorem dX5_unit_50 : decode cX5_unit 50 = .ok (.iconst 0, 1) := by decide +kernel
theorem dX5_unit_51 : decode cX5_unit 51 = .ok (.putfield 53, 3) := by decide +kernel
theorem dX5_unit_54 : decode cX5_unit 54 = .ok (.aload_n 0, 1) := by decide +kernel
theorem dX5_unit_55 : decode cX5_unit 55 = .ok (.getfield 53, 3) := by decide +kernel
theorem dX5_unit_58 : decode cX5_unit 58 = .ok (.ifCond .le 5, 3) := by decide +kernel
theorem dX5_unit_61 : decode cX5_unit 61 = .ok (.iconst 0, 1) := by decide +kernel
theorem dX5_unit_62 : decode cX5_unit 62 = .ok (.ireturn, 1) := by decide +kernel
theorem dX5_unit_63 : decode cX5_unit 63 = .ok (.aload_n 0, 1) := by decide +kernel
theorem dX5_unit_64 : decode cX5_unit 64 = .ok (.getfield 22, 3) := by decide +kernel
theorem dX5_unit_67 : decode cX5_unit 67 = .ok (.aload_n 0, 1) := by decide +kernel
theorem dX5_unit_68 : decode cX5_unit 68 = .ok (.getfield 63, 3) := by decide +kernel
theorem dX5_unit_71 : decode cX5_unit 71 = .ok (.iload_n 1, 1) := by decide +kernel
theorem dX5_unit_72 : decode cX5_unit 72 = .ok (.iastore, 1) := by decide +kernel
theorem dX5_unit_73 : decode cX5_unit 73 = .ok (.aload_n 0, 1) := by decide +kernel
theorem dX5_unit_74 : decode cX5_unit 74 = .ok (.getfield 25, 3) := by decide +kernel
theorem dX5_unit_77 : decode cX5_unit 77 = .ok (.aload_n 0, 1) := by decide +kernel
theorem dX5_unit_78 : decode cX5_unit 78 = .ok (.getfield 63, 3) := by decide +kernel
theorem dX5_unit_81 : decode cX5_unit 81 = .ok (.iload_n 2, 1) := by decide +kernel
theorem dX5_unit_82 : decode cX5_unit 82 = .ok (.iastore, 1) := by decide +kernel
theorem dX5_unit_83 : decode cX5_unit 83 = .ok (.aload_n 0, 1) := by decide +kernel
theorem dX5_unit_84 : decode cX5_unit 84 = .ok (.getfield 28, 3) := by decide +kernel
theorem dX5_unit_87 : decode cX5_unit 87 = .ok (.aload_n 0, 1) := by decide +kernel
theorem dX5_unit_88 : decode cX5_unit 88 = .ok (.getfield 63, 3) := by decide +kernel
theorem dX5_unit_91 : decode cX5_unit 91 = .ok (.iload_n 3, 1) := by decide +kernel
theorem dX5_unit_92 : decode cX5_unit 92 = .ok (.iastore, 1) := by decide +kernel
theorem dX5_unit_93 : decode cX5_unit 93 = .ok (.aload_n 0, 1) := by decide +kernel
theorem dX5_unit_94 : decode cX5_unit 94 = .ok (.dup, 1) := by decide +kernel
theorem dX5_unit_95 : decode cX5_unit 95 = .ok (.getfield 63, 3) := by decide +kernel
theorem dX5_unit_98 : decode cX5_unit 98 = .ok (.iconst 1, 1) := by decide +kernel
theorem dX5_unit_99 : decode cX5_unit 99 = .ok (.iadd, 1) := by decide +kernel
theorem dX5_unit_100 : decode cX5_unit 100 = .ok (.putfield 63, 3) := by decide +kernel
theorem dX5_unit_103 : decode cX5_unit 103 = .ok (.aload_n 0, 1) := by decide +kernel
theorem dX5_unit_104 : decode cX5_unit 104 = .ok (.getfield 63, 3) := by decide +kernel
theorem dX5_unit_107 : decode cX5_unit 107 = .ok (.iconst 1, 1) := by decide +kernel
theorem dX5_unit_108 : decode cX5_unit 108 = .ok (.isub, 1) := by decide +kernel
theorem dX5_unit_109 : decode cX5_unit 109 = .ok (.ireturn, 1) := by decide +kernel
theorem dX5_group_0 : decode cX5_group 0 = .ok (.aload_n 0, 1) := by decide +kernel
theorem dX5_group_1 : decode cX5_group 1 = .ok (.aload_n 0, 1) := by decide +kernel
theorem dX5_group_2 : decode cX5_group 2 = .ok (.iload_n 1, 1) := by decide +kernel
theorem dX5_group_3 : decode cX5_group 3 = .ok (.invokevirtual 66, 3) := by decide +kernel
theorem dX5_group_6 : decode cX5_group 6 = .ok (.ifCond .eq 11, 3) := by decide +kernel
theorem dX5_group_9 : decode cX5_group 9 = .ok (.aload_n 0, 1) := by decide +kernel
theorem dX5_group_10 : decode cX5_group 10 = .ok (.iload_n 2, 1) := by decide +kernel
theorem dX5_group_11 : decode cX5_group 11 = .ok (.invokevirtual 66, 3) := by decide +kernel
theorem dX5_group_14 : decode cX5_group 14 = .ok (.ifCond .ne 7, 3) := by decide +kernel
theorem dX5_group_17 : decode cX5_group 17 = .ok (.iconst 1, 1) := by decide +kernel
theorem dX5_group_18 : decode cX5_group 18 = .ok (.goto 22, 3) := by decide +kernel
theorem dX5_group_21 : decode cX5_group 21 = .ok (.iload_n 3, 1) := by decide +kernel
theorem dX5_group_22 : decode cX5_group 22 = .ok (.iconst 0, 1) := by decide +kernel
theorem dX5_group_23 : decode cX5_group 23 = .ok (.iconst 2, 1) := by decide +kernel
theorem dX5_group_24 : decode cX5_group 24 = .ok (.invokestatic 59, 3) := by decide +kernel
theorem dX5_group_27 : decode cX5_group 27 = .ok (.ifCond .eq 8, 3) := by decide +kernel
theorem dX5_group_30 : decode cX5_group 30 = .ok (.iload_n 1, 1) := by decide +kernel
theorem dX5_group_31 : decode cX5_group 31 = .ok (.iload_n 2, 1) := by decide +kernel
theorem dX5_group_32 : decode cX5_group 32 = .ok (.if_icmp .ne 7, 3) := by decide +kernel
theorem dX5_group_35 : decode cX5_group 35 = .ok (.iconst 2, 1) := by decide +kernel
theorem dX5_group_36 : decode cX5_group 36 = .ok (.goto 4, 3) := by decide +kernel
theorem dX5_group_39 : decode cX5_group 39 = .ok (.iconst 0, 1) := by decide +kernel
theorem dX5_group_40 : decode cX5_group 40 = .ok (.putfield 53, 3) := by decide +kernel
theorem dX5_group_43 : decode cX5_group 43 = .ok (.aload_n 0, 1) := by decide +kernel
theorem dX5_group_44 : decode cX5_group 44 = .ok (.getfield 53, 3) := by decide +kernel
theorem dX5_group_47 : decode cX5_group 47 = .ok (.ifCond .le 5, 3) := by decide +kernel
theorem dX5_group_50 : decode cX5_group 50 = .ok (.iconst 0, 1) := by decide +kernel
theorem dX5_group_51 : decode cX5_group 51 = .ok (.ireturn, 1) := by decide +kernel
theorem dX5_group_52 : decode cX5_group 52 = .ok (.aload_n 0, 1) := by decide +kernel
theorem dX5_group_53 : decode cX5_group 53 = .ok (.getfield 31, 3) := by decide +kernel
theorem dX5_group_56 : decode cX5_group 56 = .ok (.bipush 8, 2) := by decide +kernel
theorem dX5_group_58 : decode cX5_group 58 = .ok (.iload_n 1, 1) := by decide +kernel
theorem dX5_group_59 : decode cX5_group 59 = .ok (.imul, 1) := by decide +kernel
theorem dX5_group_60 : decode cX5_group 60 = .ok (.iload_n 2, 1) := by decide +kernel
theorem dX5_group_61 : decode cX5_group 61 = .ok (.iadd, 1) := by decide +kernel
theorem dX5_group_62 : decode cX5_group 62 = .ok (.iaload, 1) := by decide +kernel
theorem dX5_group_63 : decode cX5_group 63 = .ok (.istore 4, 2) := by decide +kernel
theorem dX5_group_65 : decode cX5_group 65 = .ok (.aload_n 0, 1) := by decide +kernel
theorem dX5_group_66 : decode cX5_group 66 = .ok (.getfield 31, 3) := by decide +kernel
theorem dX5_group_69 : decode cX5_group 69 = .ok (.bipush 8, 2) := by decide +kernel
theorem dX5_group_71 : decode cX5_group 71 = .ok (.iload_n 1, 1) := by decide +kernel
theorem dX5_group_72 : decode cX5_group 72 = .ok (.imul, 1) := by decide +kernel
theorem dX5_group_73 : decode cX5_group 73 = .ok (.iload_n 2, 1) := by decide +kernel
theorem dX5_group_74 : decode cX5_group 74 = .ok (.iadd, 1) := by decide +kernel
theorem dX5_group_75 : decode cX5_group 75 = .ok (.iload_n 3, 1) := by decide +kernel
theorem dX5_group_76 : decode cX5_group 76 = .ok (.iastore, 1) := by decide +kernel
theorem dX5_group_77 : decode cX5_group 77 = .ok (.aload_n 0, 1) := by decide +kernel
theorem dX5_group_78 : decode cX5_group 78 = .ok (.getfield 31, 3) := by decide +kernel
theorem dX5_group_81 : decode cX5_group 81 = .ok (.bipush 8, 2) := by decide +kernel
theorem dX5_group_83 : decode cX5_group 83 = .ok (.iload_n 2, 1) := by decide +kernel
theorem dX5_group_84 : decode cX5_group 84 = .ok (.imul, 1) := by decide +kernel
theorem dX5_group_85 : decode cX5_group 85 = .ok (.iload_n 1, 1) := by decide +kernel
