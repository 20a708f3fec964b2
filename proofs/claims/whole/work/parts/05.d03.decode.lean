theorem dX2_isBetter_120 : decode cX2_isBetter 120 = .ok (.goto 4, 3) := by decide +kernel
theorem dX2_isBetter_123 : decode cX2_isBetter 123 = .ok (.iconst 0, 1) := by decide +kernel
theorem dX2_isBetter_124 : decode cX2_isBetter 124 = .ok (.ireturn, 1) := by decide +kernel
theorem dX1_append_0 : decode cX1_append 0 = .ok (.aload_n 0, 1) := by decide +kernel
theorem dX1_append_1 : decode cX1_append 1 = .ok (.getfield 18, 3) := by decide +kernel
theorem dX1_append_4 : decode cX1_append 4 = .ok (.bipush 8, 2) := by decide +kernel
theorem dX1_append_6 : decode cX1_append 6 = .ok (.if_icmp .lt 4, 3) := by decide +kernel
theorem dX1_append_9 : decode cX1_append 9 = .ok (.return_, 1) := by decide +kernel
theorem dX1_append_10 : decode cX1_append 10 = .ok (.aload_n 0, 1) := by decide +kernel
theorem dX1_append_11 : decode cX1_append 11 = .ok (.getfield 9, 3) := by decide +kernel
theorem dX1_append_14 : decode cX1_append 14 = .ok (.aload_n 0, 1) := by decide +kernel
theorem dX1_append_15 : decode cX1_append 15 = .ok (.getfield 18, 3) := by decide +kernel
theorem dX1_append_18 : decode cX1_append 18 = .ok (.iload_n 1, 1) := by decide +kernel
theorem dX1_append_19 : decode cX1_append 19 = .ok (.iastore, 1) := by decide +kernel
theorem dX1_append_20 : decode cX1_append 20 = .ok (.aload_n 0, 1) := by decide +kernel
theorem dX1_append_21 : decode cX1_append 21 = .ok (.getfield 15, 3) := by decide +kernel
theorem dX1_append_24 : decode cX1_append 24 = .ok (.aload_n 0, 1) := by decide +kernel
theorem dX1_append_25 : decode cX1_append 25 = .ok (.getfield 18, 3) := by decide +kernel
theorem dX1_append_28 : decode cX1_append 28 = .ok (.iload_n 2, 1) := by decide +kernel
theorem dX1_append_29 : decode cX1_append 29 = .ok (.iastore, 1) := by decide +kernel
theorem dX1_append_30 : decode cX1_append 30 = .ok (.aload_n 0, 1) := by decide +kernel
theorem dX1_append_31 : decode cX1_append 31 = .ok (.dup, 1) := by decide +kernel
theorem dX1_append_32 : decode cX1_append 32 = .ok (.getfield 18, 3) := by decide +kernel
theorem dX1_append_35 : decode cX1_append 35 = .ok (.iconst 1, 1) := by decide +kernel
theorem dX1_append_36 : decode cX1_append 36 = .ok (.iadd, 1) := by decide +kernel
theorem dX1_append_37 : decode cX1_append 37 = .ok (.putfield 18, 3) := by decide +kernel
theorem dX1_append_40 : decode cX1_append 40 = .ok (.aload_n 0, 1) := by decide +kernel
theorem dX1_append_41 : decode cX1_append 41 = .ok (.dup, 1) := by decide +kernel
theorem dX1_append_42 : decode cX1_append 42 = .ok (.getfield 22, 3) := by decide +kernel
theorem dX1_append_45 : decode cX1_append 45 = .ok (.iload_n 3, 1) := by decide +kernel
theorem dX1_append_46 : decode cX1_append 46 = .ok (.iadd, 1) := by decide +kernel
theorem dX1_append_47 : decode cX1_append 47 = .ok (.putfield 22, 3) := by decide +kernel
theorem dX1_append_50 : decode cX1_append 50 = .ok (.return_, 1) := by decide +kernel
theorem dX4_putByRule_0 : decode cX4_putByRule 0 = .ok (.iconst 0, 1) := by decide +kernel
theorem dX4_putByRule_1 : decode cX4_putByRule 1 = .ok (.istore_n 1, 1) := by decide +kernel
theorem dX4_putByRule_2 : decode cX4_putByRule 2 = .ok (.iconst 0, 1) := by decide +kernel
theorem dX4_putByRule_3 : decode cX4_putByRule 3 = .ok (.istore_n 2, 1) := by decide +kernel
theorem dX4_putByRule_4 : decode cX4_putByRule 4 = .ok (.iload_n 2, 1) := by decide +kernel
theorem dX4_putByRule_5 : decode cX4_putByRule 5 = .ok (.aload_n 0, 1) := by decide +kernel
theorem dX4_putByRule_6 : decode cX4_putByRule 6 = .ok (.getfield 19, 3) := by decide +kernel
theorem dX4_putByRule_9 : decode cX4_putByRule 9 = .ok (.getfield 84, 3) := by decide +kernel
theorem dX4_putByRule_12 : decode cX4_putByRule 12 = .ok (.if_icmp .ge 40, 3) := by decide +kernel
theorem dX4_putByRule_15 : decode cX4_putByRule 15 = .ok (.iload_n 1, 1) := by decide +kernel
theorem dX4_putByRule_16 : decode cX4_putByRule 16 = .ok (.iload_n 2, 1) := by decide +kernel
theorem dX4_putByRule_17 : decode cX4_putByRule 17 = .ok (.invokestatic 163, 3) := by decide +kernel
theorem dX4_putByRule_20 : decode cX4_putByRule 20 = .ok (.ifCond .ne 26, 3) := by decide +kernel
theorem dX4_putByRule_23 : decode cX4_putByRule 23 = .ok (.aload_n 0, 1) := by decide +kernel
theorem dX4_putByRule_24 : decode cX4_putByRule 24 = .ok (.getfield 19, 3) := by decide +kernel
theorem dX4_putByRule_27 : decode cX4_putByRule 27 = .ok (.iload_n 2, 1) := by decide +kernel
theorem dX4_putByRule_28 : decode cX4_putByRule 28 = .ok (.invokevirtual 139, 3) := by decide +kernel
theorem dX4_putByRule_31 : decode cX4_putByRule 31 = .ok (.istore_n 3, 1) := by decide +kernel
theorem dX4_putByRule_32 : decode cX4_putByRule 32 = .ok (.aload_n 0, 1) := by decide +kernel
theorem dX4_putByRule_33 : decode cX4_putByRule 33 = .ok (.iload_n 3, 1) := by decide +kernel
theorem dX4_putByRule_34 : decode cX4_putByRule 34 = .ok (.invokevirtual 221, 3) := by decide +kernel
theorem dX4_putByRule_37 : decode cX4_putByRule 37 = .ok (.ifCond .ne 5, 3) := by decide +kernel
theorem dX4_putByRule_40 : decode cX4_putByRule 40 = .ok (.iconst 0, 1) := by decide +kernel
theorem dX4_putByRule_41 : decode cX4_putByRule 41 = .ok (.ireturn, 1) := by decide +kernel
theorem dX4_putByRule_42 : decode cX4_putByRule 42 = .ok (.iload_n 1, 1) := by decide +kernel
theorem dX4_putByRule_43 : decode cX4_putByRule 43 = .ok (.iload_n 3, 1) := by decide +kernel
theorem dX4_putByRule_44 : decode cX4_putByRule 44 = .ok (.ior, 1) := by decide +kernel
theorem dX4_putByRule_45 : decode cX4_putByRule 45 = .ok (.istore_n 1, 1) := by decide +kernel
theorem dX4_putByRule_46 : decode cX4_putByRule 46 = .ok (.iinc 2 1, 3) := by decide +kernel
theorem dX4_putByRule_49 : decode cX4_putByRule 49 = .ok (.goto (-45), 3) := by decide +kernel
theorem dX4_putByRule_52 : decode cX4_putByRule 52 = .ok (.iconst 1, 1) := by decide +kernel
theorem dX4_putByRule_53 : decode cX4_putByRule 53 = .ok (.ireturn, 1) := by decide +kernel
theorem dX3_companyOf_0 : decode cX3_companyOf 0 = .ok (.aload_n 0, 1) := by decide +kernel
theorem dX3_companyOf_1 : decode cX3_companyOf 1 = .ok (.iload_n 1, 1) := by decide +kernel
theorem dX3_companyOf_2 : decode cX3_companyOf 2 = .ok (.invokevirtual 35, 3) := by decide +kernel
theorem dX3_companyOf_5 : decode cX3_companyOf 5 = .ok (.ifCond .ne 5, 3) := by decide +kernel
theorem dX3_companyOf_8 : decode cX3_companyOf 8 = .ok (.iconst 0, 1) := by decide +kernel
theorem dX3_companyOf_9 : decode cX3_companyOf 9 = .ok (.ireturn, 1) := by decide +kernel
theorem dX3_companyOf_10 : decode cX3_companyOf 10 = .ok (.iconst 1, 1) := by decide +kernel
theorem dX3_companyOf_11 : decode cX3_companyOf 11 = .ok (.iload_n 1, 1) := by decide +kernel
theorem dX3_companyOf_12 : decode cX3_companyOf 12 = .ok (.ishl, 1) := by decide +kernel
theorem dX3_companyOf_13 : decode cX3_companyOf 13 = .ok (.istore_n 2, 1) := by decide +kernel
theorem dX3_companyOf_14 : decode cX3_companyOf 14 = .ok (.iconst 0, 1) := by decide +kernel
theorem dX3_companyOf_15 : decode cX3_companyOf 15 = .ok (.istore_n 3, 1) := by decide +kernel
theorem dX3_companyOf_16 : decode cX3_companyOf 16 = .ok (.iload_n 3, 1) := by decide +kernel
theorem dX3_companyOf_17 : decode cX3_companyOf 17 = .ok (.aload_n 0, 1) := by decide +kernel
theorem dX3_companyOf_18 : decode cX3_companyOf 18 = .ok (.getfield 27, 3) := by decide +kernel
theorem dX3_companyOf_21 : decode cX3_companyOf 21 = .ok (.if_icmp .ge 46, 3) := by decide +kernel
theorem dX3_companyOf_24 : decode cX3_companyOf 24 = .ok (.iconst 0, 1) := by decide +kernel
theorem dX3_companyOf_25 : decode cX3_companyOf 25 = .ok (.istore 4, 2) := by decide +kernel
theorem dX3_companyOf_27 : decode cX3_companyOf 27 = .ok (.iload 4, 2) := by decide +kernel
theorem dX3_companyOf_29 : decode cX3_companyOf 29 = .ok (.aload_n 0, 1) := by decide +kernel
theorem dX3_companyOf_30 : decode cX3_companyOf 30 = .ok (.getfield 27, 3) := by decide +kernel
theorem dX3_companyOf_33 : decode cX3_companyOf 33 = .ok (.if_icmp .ge 28, 3) := by decide +kernel
theorem dX3_companyOf_36 : decode cX3_companyOf 36 = .ok (.iload_n 2, 1) := by decide +kernel
theorem dX3_companyOf_37 : decode cX3_companyOf 37 = .ok (.iload 4, 2) := by decide +kernel
theorem dX3_companyOf_39 : decode cX3_companyOf 39 = .ok (.invokestatic 39, 3) := by decide +kernel
theorem dX3_companyOf_42 : decode cX3_companyOf 42 = .ok (.ifCond .eq 13, 3) := by decide +kernel
theorem dX3_companyOf_45 : decode cX3_companyOf 45 = .ok (.iload_n 2, 1) := by decide +kernel
theorem dX3_companyOf_46 : decode cX3_companyOf 46 = .ok (.aload_n 0, 1) := by decide +kernel
theorem dX3_companyOf_47 : decode cX3_companyOf 47 = .ok (.getfield 24, 3) := by decide +kernel
theorem dX3_companyOf_50 : decode cX3_companyOf 50 = .ok (.iload 4, 2) := by decide +kernel
theorem dX3_companyOf_52 : decode cX3_companyOf 52 = .ok (.iaload, 1) := by decide +kernel
theorem dX3_companyOf_53 : decode cX3_companyOf 53 = .ok (.ior, 1) := by decide +kernel
theorem dX3_companyOf_54 : decode cX3_companyOf 54 = .ok (.istore_n 2, 1) := by decide +kernel
theorem dX3_companyOf_55 : decode cX3_companyOf 55 = .ok (.iinc 4 1, 3) := by decide +kernel
theorem dX3_companyOf_58 : decode cX3_companyOf 58 = .ok (.goto (-31), 3) := by decide +kernel
theorem dX3_companyOf_61 : decode cX3_companyOf 61 = .ok (.iinc 3 1, 3) := by decide +kernel
theorem dX3_companyOf_64 : decode cX3_companyOf 64 = .ok (.goto (-48), 3) := by decide +kernel
theorem dX3_companyOf_67 : decode cX3_companyOf 67 = .ok (.iload_n 2, 1) := by decide +kernel
theorem dX3_companyOf_68 : decode cX3_companyOf 68 = .ok (.ireturn, 1) := by decide +kernel
theorem dX4_putCompany_0 : decode cX4_putCompany 0 = .ok (.iconst 0, 1) := by decide +kernel
theorem dX4_putCompany_1 : decode cX4_putCompany 1 = .ok (.istore_n 2, 1) := by decide +kernel
theorem dX4_putCompany_2 : decode cX4_putCompany 2 = .ok (.iload_n 2, 1) := by decide +kernel
theorem dX4_putCompany_3 : decode cX4_putCompany 3 = .ok (.aload_n 0, 1) := by decide +kernel
theorem dX4_putCompany_4 : decode cX4_putCompany 4 = .ok (.getfield 26, 3) := by decide +kernel
theorem dX4_putCompany_7 : decode cX4_putCompany 7 = .ok (.getfield 111, 3) := by decide +kernel
theorem dX4_putCompany_10 : decode cX4_putCompany 10 = .ok (.if_icmp .ge 50, 3) := by decide +kernel
theorem dX4_putCompany_13 : decode cX4_putCompany 13 = .ok (.aload_n 0, 1) := by decide +kernel
theorem dX4_putCompany_14 : decode cX4_putCompany 14 = .ok (.getfield 26, 3) := by decide +kernel
theorem dX4_putCompany_17 : decode cX4_putCompany 17 = .ok (.iload_n 2, 1) := by decide +kernel
theorem dX4_putCompany_18 : decode cX4_putCompany 18 = .ok (.invokevirtual 125, 3) := by decide +kernel
theorem dX4_putCompany_21 : decode cX4_putCompany 21 = .ok (.iload_n 1, 1) := by decide +kernel
theorem dX4_putCompany_22 : decode cX4_putCompany 22 = .ok (.ior, 1) := by decide +kernel
theorem dX4_putCompany_23 : decode cX4_putCompany 23 = .ok (.istore_n 3, 1) := by decide +kernel
theorem dX4_putCompany_24 : decode cX4_putCompany 24 = .ok (.aload_n 0, 1) := by decide +kernel
theorem dX4_putCompany_25 : decode cX4_putCompany 25 = .ok (.iload_n 3, 1) := by decide +kernel
theorem dX4_putCompany_26 : decode cX4_putCompany 26 = .ok (.invokevirtual 205, 3) := by decide +kernel
theorem dX4_putCompany_29 : decode cX4_putCompany 29 = .ok (.aload_n 0, 1) := by decide +kernel
theorem dX4_putCompany_30 : decode cX4_putCompany 30 = .ok (.getfield 26, 3) := by decide +kernel
theorem dX4_putCompany_33 : decode cX4_putCompany 33 = .ok (.iload_n 2, 1) := by decide +kernel
theorem dX4_putCompany_34 : decode cX4_putCompany 34 = .ok (.invokevirtual 121, 3) := by decide +kernel
theorem dX4_putCompany_37 : decode cX4_putCompany 37 = .ok (.invokestatic 163, 3) := by decide +kernel
theorem dX4_putCompany_40 : decode cX4_putCompany 40 = .ok (.ifCond .eq 14, 3) := by decide +kernel
theorem dX4_putCompany_43 : decode cX4_putCompany 43 = .ok (.aload_n 0, 1) := by decide +kernel
theorem dX4_putCompany_44 : decode cX4_putCompany 44 = .ok (.getfield 26, 3) := by decide +kernel
theorem dX4_putCompany_47 : decode cX4_putCompany 47 = .ok (.iload_n 2, 1) := by decide +kernel
theorem dX4_putCompany_48 : decode cX4_putCompany 48 = .ok (.iload_n 3, 1) := by decide +kernel
theorem dX4_putCompany_49 : decode cX4_putCompany 49 = .ok (.invokevirtual 224, 3) := by decide +kernel
theorem dX4_putCompany_52 : decode cX4_putCompany 52 = .ok (.iconst 1, 1) := by decide +kernel
theorem dX4_putCompany_53 : decode cX4_putCompany 53 = .ok (.ireturn, 1) := by decide +kernel
theorem dX4_putCompany_54 : decode cX4_putCompany 54 = .ok (.iinc 2 1, 3) := by decide +kernel
theorem dX4_putCompany_57 : decode cX4_putCompany 57 = .ok (.goto (-55), 3) := by decide +kernel
theorem dX4_putCompany_60 : decode cX4_putCompany 60 = .ok (.aload_n 0, 1) := by decide +kernel
theorem dX4_putCompany_61 : decode cX4_putCompany 61 = .ok (.getfield 12, 3) := by decide +kernel
theorem dX4_putCompany_64 : decode cX4_putCompany 64 = .ok (.aload_n 0, 1) := by decide +kernel
theorem dX4_putCompany_65 : decode cX4_putCompany 65 = .ok (.iload_n 1, 1) := by decide +kernel
theorem dX4_putCompany_66 : decode cX4_putCompany 66 = .ok (.invokevirtual 205, 3) := by decide +kernel
theorem dX4_putCompany_69 : decode cX4_putCompany 69 = .ok (.invokevirtual 208, 3) := by decide +kernel
theorem dX4_putCompany_72 : decode cX4_putCompany 72 = .ok (.istore_n 2, 1) := by decide +kernel
theorem dX4_putCompany_73 : decode cX4_putCompany 73 = .ok (.iload_n 2, 1) := by decide +kernel
theorem dX4_putCompany_74 : decode cX4_putCompany 74 = .ok (.iconst (-1), 1) := by decide +kernel
theorem dX4_putCompany_75 : decode cX4_putCompany 75 = .ok (.if_icmp .ne 5, 3) := by decide +kernel
theorem dX4_putCompany_78 : decode cX4_putCompany 78 = .ok (.iconst 0, 1) := by decide +kernel
theorem dX4_putCompany_79 : decode cX4_putCompany 79 = .ok (.ireturn, 1) := by decide +kernel
theorem dX4_putCompany_80 : decode cX4_putCompany 80 = .ok (.aload_n 0, 1) := by decide +kernel
theorem dX4_putCompany_81 : decode cX4_putCompany 81 = .ok (.getfield 26, 3) := by decide +kernel
theorem dX4_putCompany_84 : decode cX4_putCompany 84 = .ok (.iload_n 2, 1) := by decide +kernel
theorem dX4_putCompany_85 : decode cX4_putCompany 85 = .ok (.iload_n 1, 1) := by decide +kernel
theorem dX4_putCompany_86 : decode cX4_putCompany 86 = .ok (.aload_n 0, 1) := by decide +kernel
theorem dX4_putCompany_87 : decode cX4_putCompany 87 = .ok (.getfield 12, 3) := by decide +kernel
theorem dX4_putCompany_90 : decode cX4_putCompany 90 = .ok (.iload_n 2, 1) := by decide +kernel
theorem dX4_putCompany_91 : decode cX4_putCompany 91 = .ok (.invokevirtual 211, 3) := by decide +kernel
theorem dX4_putCompany_94 : decode cX4_putCompany 94 = .ok (.invokevirtual 228, 3) := by decide +kernel
theorem dX4_putCompany_97 : decode cX4_putCompany 97 = .ok (.iconst 1, 1) := by decide +kernel
theorem dX4_putCompany_98 : decode cX4_putCompany 98 = .ok (.ireturn, 1) := by decide +kernel
theorem dX1_setAt_0 : decode cX1_setAt 0 = .ok (.aload_n 0, 1) := by decide +kernel
theorem dX1_setAt_1 : decode cX1_setAt 1 = .ok (.iload_n 1, 1) := by decide +kernel
theorem dX1_setAt_2 : decode cX1_setAt 2 = .ok (.invokevirtual 32, 3) := by decide +kernel
theorem dX1_setAt_5 : decode cX1_setAt 5 = .ok (.ifCond .eq 12, 3) := by decide +kernel
theorem dX1_setAt_8 : decode cX1_setAt 8 = .ok (.aload_n 0, 1) := by decide +kernel
theorem dX1_setAt_9 : decode cX1_setAt 9 = .ok (.getfield 15, 3) := by decide +kernel
theorem dX1_setAt_12 : decode cX1_setAt 12 = .ok (.iload_n 1, 1) := by decide +kernel
theorem dX1_setAt_13 : decode cX1_setAt 13 = .ok (.iaload, 1) := by decide +kernel
theorem dX1_setAt_14 : decode cX1_setAt 14 = .ok (.goto 4, 3) := by decide +kernel
theorem dX1_setAt_17 : decode cX1_setAt 17 = .ok (.iconst 0, 1) := by decide +kernel
theorem dX1_setAt_18 : decode cX1_setAt 18 = .ok (.ireturn, 1) := by decide +kernel
theorem dX1_has_0 : decode cX1_has 0 = .ok (.iload_n 1, 1) := by decide +kernel
theorem dX1_has_1 : decode cX1_has 1 = .ok (.ifCond .lt 15, 3) := by decide +kernel
theorem dX1_has_4 : decode cX1_has 4 = .ok (.iload_n 1, 1) := by decide +kernel
theorem dX1_has_5 : decode cX1_has 5 = .ok (.aload_n 0, 1) := by decide +kernel
theorem dX1_has_6 : decode cX1_has 6 = .ok (.getfield 18, 3) := by decide +kernel
theorem dX1_has_9 : decode cX1_has 9 = .ok (.if_icmp .ge 7, 3) := by decide +kernel
theorem dX1_has_12 : decode cX1_has 12 = .ok (.iconst 1, 1) := by decide +kernel
theorem dX1_has_13 : decode cX1_has 13 = .ok (.goto 4, 3) := by decide +kernel
theorem dX1_has_16 : decode cX1_has 16 = .ok (.iconst 0, 1) := by decide +kernel
theorem dX1_has_17 : decode cX1_has 17 = .ok (.ireturn, 1) := by decide +kernel
theorem dX1_boxAt_0 : decode cX1_boxAt 0 = .ok (.aload_n 0, 1) := by decide +kernel
theorem dX1_boxAt_1 : decode cX1_boxAt 1 = .ok (.iload_n 1, 1) := by decide +kernel
theorem dX1_boxAt_2 : decode cX1_boxAt 2 = .ok (.invokevirtual 32, 3) := by decide +kernel
theorem dX1_boxAt_5 : decode cX1_boxAt 5 = .ok (.ifCond .eq 12, 3) := by decide +kernel
theorem dX1_boxAt_8 : decode cX1_boxAt 8 = .ok (.aload_n 0, 1) := by decide +kernel
theorem dX1_boxAt_9 : decode cX1_boxAt 9 = .ok (.getfield 9, 3) := by decide +kernel
theorem dX1_boxAt_12 : decode cX1_boxAt 12 = .ok (.iload_n 1, 1) := by decide +kernel
theorem dX1_boxAt_13 : decode cX1_boxAt 13 = .ok (.iaload, 1) := by decide +kernel
theorem dX1_boxAt_14 : decode cX1_boxAt 14 = .ok (.goto 4, 3) := by decide +kernel
theorem dX1_boxAt_17 : decode cX1_boxAt 17 = .ok (.iconst (-1), 1) := by decide +kernel
theorem dX1_boxAt_18 : decode cX1_boxAt 18 = .ok (.ireturn, 1) := by decide +kernel
theorem dX1_replaceSet_0 : decode cX1_replaceSet 0 = .ok (.aload_n 0, 1) := by decide +kernel
theorem dX1_replaceSet_1 : decode cX1_replaceSet 1 = .ok (.iload_n 1, 1) := by decide +kernel
theorem dX1_replaceSet_2 : decode cX1_replaceSet 2 = .ok (.invokevirtual 32, 3) := by decide +kernel
theorem dX1_replaceSet_5 : decode cX1_replaceSet 5 = .ok (.ifCond .eq 10, 3) := by decide +kernel
theorem dX1_replaceSet_8 : decode cX1_replaceSet 8 = .ok (.aload_n 0, 1) := by decide +kernel
theorem dX1_replaceSet_9 : decode cX1_replaceSet 9 = .ok (.getfield 15, 3) := by decide +kernel
theorem dX1_replaceSet_12 : decode cX1_replaceSet 12 = .ok (.iload_n 1, 1) := by decide +kernel
theorem dX1_replaceSet_13 : decode cX1_replaceSet 13 = .ok (.iload_n 2, 1) := by decide +kernel
theorem dX1_replaceSet_14 : decode cX1_replaceSet 14 = .ok (.iastore, 1) := by decide +kernel
theorem dX1_replaceSet_15 : decode cX1_replaceSet 15 = .ok (.return_, 1) := by decide +kernel
theorem dX1_finish_0 : decode cX1_finish 0 = .ok (.aload_n 0, 1) := by decide +kernel
theorem dX1_finish_1 : decode cX1_finish 1 = .ok (.iconst 1, 1) := by decide +kernel
theorem dX1_finish_2 : decode cX1_finish 2 = .ok (.putfield 25, 3) := by decide +kernel
theorem dX1_finish_5 : decode cX1_finish 5 = .ok (.aload_n 0, 1) := by decide +kernel
theorem dX1_finish_6 : decode cX1_finish 6 = .ok (.iload_n 1, 1) := by decide +kernel
theorem dX1_finish_7 : decode cX1_finish 7 = .ok (.putfield 29, 3) := by decide +kernel
theorem dX1_finish_10 : decode cX1_finish 10 = .ok (.return_, 1) := by decide +kernel
theorem dL_chosen_0 : decode cL_chosen 0 = .ok (.aload_n 3, 1) := by decide +kernel
theorem dL_chosen_1 : decode cL_chosen 1 = .ok (.iconst 0, 1) := by decide +kernel
theorem dL_chosen_2 : decode cL_chosen 2 = .ok (.aload_n 0, 1) := by decide +kernel
theorem dL_chosen_3 : decode cL_chosen 3 = .ok (.iload_n 1, 1) := by decide +kernel
theorem dL_chosen_4 : decode cL_chosen 4 = .ok (.iload_n 2, 1) := by decide +kernel
theorem dL_chosen_5 : decode cL_chosen 5 = .ok (.invokevirtual 38, 3) := by decide +kernel
theorem dL_chosen_8 : decode cL_chosen 8 = .ok (.i2l, 1) := by decide +kernel
theorem dL_chosen_9 : decode cL_chosen 9 = .ok (.lastore, 1) := by decide +kernel
theorem dL_chosen_10 : decode cL_chosen 10 = .ok (.goto 11, 3) := by decide +kernel
theorem dL_chosen_13 : decode cL_chosen 13 = .ok (.astore 4, 2) := by decide +kernel
theorem dL_chosen_15 : decode cL_chosen 15 = .ok (.iconst 1, 1) := by decide +kernel
theorem dL_chosen_16 : decode cL_chosen 16 = .ok (.ireturn, 1) := by decide +kernel
theorem dL_chosen_17 : decode cL_chosen 17 = .ok (.astore 4, 2) := by decide +kernel
theorem dL_chosen_19 : decode cL_chosen 19 = .ok (.iconst 2, 1) := by decide +kernel
theorem dL_chosen_20 : decode cL_chosen 20 = .ok (.ireturn, 1) := by decide +kernel
theorem dL_chosen_21 : decode cL_chosen 21 = .ok (.iconst 0, 1) := by decide +kernel
theorem dL_chosen_22 : decode cL_chosen 22 = .ok (.ireturn, 1) := by decide +kernel
theorem dX4_chosen_0 : decode cX4_chosen 0 = .ok (.aload_n 0, 1) := by decide +kernel
theorem dX4_chosen_1 : decode cX4_chosen 1 = .ok (.getfield 26, 3) := by decide +kernel
theorem dX4_chosen_4 : decode cX4_chosen 4 = .ok (.iload_n 1, 1) := by decide +kernel
theorem dX4_chosen_5 : decode cX4_chosen 5 = .ok (.invokevirtual 112, 3) := by decide +kernel
theorem dX4_chosen_8 : decode cX4_chosen 8 = .ok (.ifCond .ne 13, 3) := by decide +kernel
theorem dX4_chosen_11 : decode cX4_chosen 11 = .ok (.new 116, 3) := by decide +kernel
theorem dX4_chosen_14 : decode cX4_chosen 14 = .ok (.dup, 1) := by decide +kernel
theorem dX4_chosen_15 : decode cX4_chosen 15 = .ok (.ldc 118, 2) := by decide +kernel
theorem dX4_chosen_17 : decode cX4_chosen 17 = .ok (.invokespecial 120, 3) := by decide +kernel
theorem dX4_chosen_20 : decode cX4_chosen 20 = .ok (.athrow, 1) := by decide +kernel
theorem dX4_chosen_21 : decode cX4_chosen 21 = .ok (.iload_n 2, 1) := by decide +kernel
theorem dX4_chosen_22 : decode cX4_chosen 22 = .ok (.tableswitch 80 0 3 #[30, 39, 48, 64], 30) := by decide +kernel
theorem dX4_chosen_52 : decode cX4_chosen 52 = .ok (.aload_n 0, 1) := by decide +kernel
theorem dX4_chosen_53 : decode cX4_chosen 53 = .ok (.getfield 26, 3) := by decide +kernel
theorem dX4_chosen_56 : decode cX4_chosen 56 = .ok (.iload_n 1, 1) := by decide +kernel
theorem dX4_chosen_57 : decode cX4_chosen 57 = .ok (.invokevirtual 121, 3) := by decide +kernel
theorem dX4_chosen_60 : decode cX4_chosen 60 = .ok (.ireturn, 1) := by decide +kernel
theorem dX4_chosen_61 : decode cX4_chosen 61 = .ok (.aload_n 0, 1) := by decide +kernel
theorem dX4_chosen_62 : decode cX4_chosen 62 = .ok (.getfield 26, 3) := by decide +kernel
theorem dX4_chosen_65 : decode cX4_chosen 65 = .ok (.iload_n 1, 1) := by decide +kernel
theorem dX4_chosen_66 : decode cX4_chosen 66 = .ok (.invokevirtual 125, 3) := by decide +kernel
theorem dX4_chosen_69 : decode cX4_chosen 69 = .ok (.ireturn, 1) := by decide +kernel
theorem dX4_chosen_70 : decode cX4_chosen 70 = .ok (.aload_n 0, 1) := by decide +kernel
theorem dX4_chosen_71 : decode cX4_chosen 71 = .ok (.getfield 19, 3) := by decide +kernel
theorem dX4_chosen_74 : decode cX4_chosen 74 = .ok (.aload_n 0, 1) := by decide +kernel
theorem dX4_chosen_75 : decode cX4_chosen 75 = .ok (.getfield 26, 3) := by decide +kernel
theorem dX4_chosen_78 : decode cX4_chosen 78 = .ok (.iload_n 1, 1) := by decide +kernel
theorem dX4_chosen_79 : decode cX4_chosen 79 = .ok (.invokevirtual 125, 3) := by decide +kernel
theorem dX4_chosen_82 : decode cX4_chosen 82 = .ok (.invokevirtual 128, 3) := by decide +kernel
theorem dX4_chosen_85 : decode cX4_chosen 85 = .ok (.ireturn, 1) := by decide +kernel
theorem dX4_chosen_86 : decode cX4_chosen 86 = .ok (.aload_n 0, 1) := by decide +kernel
theorem dX4_chosen_87 : decode cX4_chosen 87 = .ok (.getfield 19, 3) := by decide +kernel
theorem dX4_chosen_90 : decode cX4_chosen 90 = .ok (.aload_n 0, 1) := by decide +kernel
theorem dX4_chosen_91 : decode cX4_chosen 91 = .ok (.getfield 26, 3) := by decide +kernel
theorem dX4_chosen_94 : decode cX4_chosen 94 = .ok (.iload_n 1, 1) := by decide +kernel
theorem dX4_chosen_95 : decode cX4_chosen 95 = .ok (.invokevirtual 125, 3) := by decide +kernel
theorem dX4_chosen_98 : decode cX4_chosen 98 = .ok (.invokevirtual 131, 3) := by decide +kernel
theorem dX4_chosen_101 : decode cX4_chosen 101 = .ok (.ireturn, 1) := by decide +kernel
theorem dX4_chosen_102 : decode cX4_chosen 102 = .ok (.new 66, 3) := by decide +kernel
theorem dX4_chosen_105 : decode cX4_chosen 105 = .ok (.dup, 1) := by decide +kernel
theorem dX4_chosen_106 : decode cX4_chosen 106 = .ok (.ldc 134, 2) := by decide +kernel
theorem dX4_chosen_108 : decode cX4_chosen 108 = .ok (.invokespecial 70, 3) := by decide +kernel
theorem dX4_chosen_111 : decode cX4_chosen 111 = .ok (.athrow, 1) := by decide +kernel
theorem dL_where_0 : decode cL_where 0 = .ok (.aload_n 2, 1) := by decide +kernel
theorem dL_where_1 : decode cL_where 1 = .ok (.iconst 0, 1) := by decide +kernel
theorem dL_where_2 : decode cL_where 2 = .ok (.aload_n 0, 1) := by decide +kernel
theorem dL_where_3 : decode cL_where 3 = .ok (.iload_n 1, 1) := by decide +kernel
theorem dL_where_4 : decode cL_where 4 = .ok (.invokevirtual 41, 3) := by decide +kernel
theorem dL_where_7 : decode cL_where 7 = .ok (.i2l, 1) := by decide +kernel
theorem dL_where_8 : decode cL_where 8 = .ok (.lastore, 1) := by decide +kernel
theorem dL_where_9 : decode cL_where 9 = .ok (.goto 6, 3) := by decide +kernel
theorem dL_where_12 : decode cL_where 12 = .ok (.astore_n 3, 1) := by decide +kernel
theorem dL_where_13 : decode cL_where 13 = .ok (.iconst 1, 1) := by decide +kernel
theorem dL_where_14 : decode cL_where 14 = .ok (.ireturn, 1) := by decide +kernel
theorem dL_where_15 : decode cL_where 15 = .ok (.iconst 0, 1) := by decide +kernel
theorem dL_where_16 : decode cL_where 16 = .ok (.ireturn, 1) := by decide +kernel
theorem dX4_where_0 : decode cX4_where 0 = .ok (.aload_n 0, 1) := by decide +kernel
theorem dX4_where_1 : decode cX4_where 1 = .ok (.iload_n 1, 1) := by decide +kernel
theorem dX4_where_2 : decode cX4_where 2 = .ok (.invokevirtual 62, 3) := by decide +kernel
theorem dX4_where_5 : decode cX4_where 5 = .ok (.aload_n 0, 1) := by decide +kernel
theorem dX4_where_6 : decode cX4_where 6 = .ok (.getfield 26, 3) := by decide +kernel
theorem dX4_where_9 : decode cX4_where 9 = .ok (.iload_n 1, 1) := by decide +kernel
theorem dX4_where_10 : decode cX4_where 10 = .ok (.invokevirtual 136, 3) := by decide +kernel
theorem dX4_where_13 : decode cX4_where 13 = .ok (.ireturn, 1) := by decide +kernel
theorem dX1_holderOf_0 : decode cX1_holderOf 0 = .ok (.iconst 0, 1) := by decide +kernel
theorem dX1_holderOf_1 : decode cX1_holderOf 1 = .ok (.istore_n 2, 1) := by decide +kernel
theorem dX1_holderOf_2 : decode cX1_holderOf 2 = .ok (.iload_n 2, 1) := by decide +kernel
theorem dX1_holderOf_3 : decode cX1_holderOf 3 = .ok (.aload_n 0, 1) := by decide +kernel
theorem dX1_holderOf_4 : decode cX1_holderOf 4 = .ok (.getfield 18, 3) := by decide +kernel
theorem dX1_holderOf_7 : decode cX1_holderOf 7 = .ok (.if_icmp .ge 24, 3) := by decide +kernel
theorem dX1_holderOf_10 : decode cX1_holderOf 10 = .ok (.aload_n 0, 1) := by decide +kernel
theorem dX1_holderOf_11 : decode cX1_holderOf 11 = .ok (.getfield 15, 3) := by decide +kernel
theorem dX1_holderOf_14 : decode cX1_holderOf 14 = .ok (.iload_n 2, 1) := by decide +kernel
theorem dX1_holderOf_15 : decode cX1_holderOf 15 = .ok (.iaload, 1) := by decide +kernel
theorem dX1_holderOf_16 : decode cX1_holderOf 16 = .ok (.iload_n 1, 1) := by decide +kernel
theorem dX1_holderOf_17 : decode cX1_holderOf 17 = .ok (.invokestatic 36, 3) := by decide +kernel
theorem dX1_holderOf_20 : decode cX1_holderOf 20 = .ok (.ifCond .eq 5, 3) := by decide +kernel
theorem dX1_holderOf_23 : decode cX1_holderOf 23 = .ok (.iload_n 2, 1) := by decide +kernel
theorem dX1_holderOf_24 : decode cX1_holderOf 24 = .ok (.ireturn, 1) := by decide +kernel
theorem dX1_holderOf_25 : decode cX1_holderOf 25 = .ok (.iinc 2 1, 3) := by decide +kernel
theorem dX1_holderOf_28 : decode cX1_holderOf 28 = .ok (.goto (-26), 3) := by decide +kernel
theorem dX1_holderOf_31 : decode cX1_holderOf 31 = .ok (.iconst (-1), 1) := by decide +kernel
theorem dX1_holderOf_32 : decode cX1_holderOf 32 = .ok (.ireturn, 1) := by decide +kernel
theorem dL_bar_0 : decode cL_bar 0 = .ok (.aload_n 2, 1) := by decide +kernel
theorem dL_bar_1 : decode cL_bar 1 = .ok (.iconst 0, 1) := by decide +kernel
theorem dL_bar_2 : decode cL_bar 2 = .ok (.aload_n 0, 1) := by decide +kernel
theorem dL_bar_3 : decode cL_bar 3 = .ok (.iload_n 1, 1) := by decide +kernel
theorem dL_bar_4 : decode cL_bar 4 = .ok (.invokevirtual 44, 3) := by decide +kernel
theorem dL_bar_7 : decode cL_bar 7 = .ok (.i2l, 1) := by decide +kernel
theorem dL_bar_8 : decode cL_bar 8 = .ok (.lastore, 1) := by decide +kernel
theorem dL_bar_9 : decode cL_bar 9 = .ok (.goto 6, 3) := by decide +kernel
theorem dL_bar_12 : decode cL_bar 12 = .ok (.astore_n 3, 1) := by decide +kernel
theorem dL_bar_13 : decode cL_bar 13 = .ok (.iconst 1, 1) := by decide +kernel
theorem dL_bar_14 : decode cL_bar 14 = .ok (.ireturn, 1) := by decide +kernel
theorem dL_bar_15 : decode cL_bar 15 = .ok (.iconst 0, 1) := by decide +kernel
theorem dL_bar_16 : decode cL_bar 16 = .ok (.ireturn, 1) := by decide +kernel
theorem dX4_bar_0 : decode cX4_bar 0 = .ok (.aload_n 0, 1) := by decide +kernel
theorem dX4_bar_1 : decode cX4_bar 1 = .ok (.iload_n 1, 1) := by decide +kernel
theorem dX4_bar_2 : decode cX4_bar 2 = .ok (.invokevirtual 62, 3) := by decide +kernel
theorem dX4_bar_5 : decode cX4_bar 5 = .ok (.aload_n 0, 1) := by decide +kernel
theorem dX4_bar_6 : decode cX4_bar 6 = .ok (.getfield 19, 3) := by decide +kernel
theorem dX4_bar_9 : decode cX4_bar 9 = .ok (.iload_n 1, 1) := by decide +kernel
theorem dX4_bar_10 : decode cX4_bar 10 = .ok (.invokevirtual 139, 3) := by decide +kernel
theorem dX4_bar_13 : decode cX4_bar 13 = .ok (.istore_n 2, 1) := by decide +kernel
theorem dX4_bar_14 : decode cX4_bar 14 = .ok (.aload_n 0, 1) := by decide +kernel
theorem dX4_bar_15 : decode cX4_bar 15 = .ok (.getfield 12, 3) := by decide +kernel
theorem dX4_bar_18 : decode cX4_bar 18 = .ok (.aload_n 0, 1) := by decide +kernel
theorem dX4_bar_19 : decode cX4_bar 19 = .ok (.getfield 19, 3) := by decide +kernel
theorem dX4_bar_22 : decode cX4_bar 22 = .ok (.iload_n 2, 1) := by decide +kernel
theorem dX4_bar_23 : decode cX4_bar 23 = .ok (.invokevirtual 142, 3) := by decide +kernel
theorem dX4_bar_26 : decode cX4_bar 26 = .ok (.invokevirtual 145, 3) := by decide +kernel
theorem dX4_bar_29 : decode cX4_bar 29 = .ok (.istore_n 3, 1) := by decide +kernel
theorem dX4_bar_30 : decode cX4_bar 30 = .ok (.iload_n 3, 1) := by decide +kernel
theorem dX4_bar_31 : decode cX4_bar 31 = .ok (.ifCond .ne 5, 3) := by decide +kernel
theorem dX4_bar_34 : decode cX4_bar 34 = .ok (.iconst 1, 1) := by decide +kernel
theorem dX4_bar_35 : decode cX4_bar 35 = .ok (.ireturn, 1) := by decide +kernel
theorem dX4_bar_36 : decode cX4_bar 36 = .ok (.iload_n 3, 1) := by decide +kernel
theorem dX4_bar_37 : decode cX4_bar 37 = .ok (.aload_n 0, 1) := by decide +kernel
theorem dX4_bar_38 : decode cX4_bar 38 = .ok (.getfield 12, 3) := by decide +kernel
theorem dX4_bar_41 : decode cX4_bar 41 = .ok (.aload_n 0, 1) := by decide +kernel
theorem dX4_bar_42 : decode cX4_bar 42 = .ok (.getfield 19, 3) := by decide +kernel
theorem dX4_bar_45 : decode cX4_bar 45 = .ok (.iload_n 2, 1) := by decide +kernel
theorem dX4_bar_46 : decode cX4_bar 46 = .ok (.invokevirtual 128, 3) := by decide +kernel
theorem dX4_bar_49 : decode cX4_bar 49 = .ok (.invokevirtual 148, 3) := by decide +kernel
theorem dX4_bar_52 : decode cX4_bar 52 = .ok (.iand, 1) := by decide +kernel
theorem dX4_bar_53 : decode cX4_bar 53 = .ok (.istore_n 3, 1) := by decide +kernel
theorem dX4_bar_54 : decode cX4_bar 54 = .ok (.iload_n 3, 1) := by decide +kernel
theorem dX4_bar_55 : decode cX4_bar 55 = .ok (.ifCond .ne 5, 3) := by decide +kernel
theorem dX4_bar_58 : decode cX4_bar 58 = .ok (.iconst 2, 1) := by decide +kernel
theorem dX4_bar_59 : decode cX4_bar 59 = .ok (.ireturn, 1) := by decide +kernel
theorem dX4_bar_60 : decode cX4_bar 60 = .ok (.iload_n 3, 1) := by decide +kernel
theorem dX4_bar_61 : decode cX4_bar 61 = .ok (.aload_n 0, 1) := by decide +kernel
theorem dX4_bar_62 : decode cX4_bar 62 = .ok (.getfield 12, 3) := by decide +kernel
theorem dX4_bar_65 : decode cX4_bar 65 = .ok (.aload_n 0, 1) := by decide +kernel
theorem dX4_bar_66 : decode cX4_bar 66 = .ok (.getfield 19, 3) := by decide +kernel
theorem dX4_bar_69 : decode cX4_bar 69 = .ok (.iload_n 2, 1) := by decide +kernel
theorem dX4_bar_70 : decode cX4_bar 70 = .ok (.invokevirtual 131, 3) := by decide +kernel
theorem dX4_bar_73 : decode cX4_bar 73 = .ok (.invokevirtual 151, 3) := by decide +kernel
theorem dX4_bar_76 : decode cX4_bar 76 = .ok (.iand, 1) := by decide +kernel
theorem dX4_bar_77 : decode cX4_bar 77 = .ok (.istore_n 3, 1) := by decide +kernel
theorem dX4_bar_78 : decode cX4_bar 78 = .ok (.iload_n 3, 1) := by decide +kernel
theorem dX4_bar_79 : decode cX4_bar 79 = .ok (.ifCond .ne 5, 3) := by decide +kernel
theorem dX4_bar_82 : decode cX4_bar 82 = .ok (.iconst 3, 1) := by decide +kernel
theorem dX4_bar_83 : decode cX4_bar 83 = .ok (.ireturn, 1) := by decide +kernel
theorem dX4_bar_84 : decode cX4_bar 84 = .ok (.aload_n 0, 1) := by decide +kernel
theorem dX4_bar_85 : decode cX4_bar 85 = .ok (.getfield 19, 3) := by decide +kernel
theorem dX4_bar_88 : decode cX4_bar 88 = .ok (.iload_n 2, 1) := by decide +kernel
theorem dX4_bar_89 : decode cX4_bar 89 = .ok (.invokevirtual 154, 3) := by decide +kernel
theorem dX4_bar_92 : decode cX4_bar 92 = .ok (.ifCond .eq 7, 3) := by decide +kernel
theorem dX4_bar_95 : decode cX4_bar 95 = .ok (.iconst 4, 1) := by decide +kernel
theorem dX4_bar_96 : decode cX4_bar 96 = .ok (.goto 4, 3) := by decide +kernel
theorem dX4_bar_99 : decode cX4_bar 99 = .ok (.iconst 0, 1) := by decide +kernel
theorem dX4_bar_100 : decode cX4_bar 100 = .ok (.ireturn, 1) := by decide +kernel
theorem dL_fits_0 : decode cL_fits 0 = .ok (.aload_n 3, 1) := by decide +kernel
theorem dL_fits_1 : decode cL_fits 1 = .ok (.iconst 0, 1) := by decide +kernel
theorem dL_fits_2 : decode cL_fits 2 = .ok (.aload_n 0, 1) := by decide +kernel
theorem dL_fits_3 : decode cL_fits 3 = .ok (.iload_n 1, 1) := by decide +kernel
theorem dL_fits_4 : decode cL_fits 4 = .ok (.iload_n 2, 1) := by decide +kernel
theorem dL_fits_5 : decode cL_fits 5 = .ok (.invokevirtual 47, 3) := by decide +kernel
theorem dL_fits_8 : decode cL_fits 8 = .ok (.ifCond .eq 7, 3) := by decide +kernel
theorem dL_fits_11 : decode cL_fits 11 = .ok (.lconst 1, 1) := by decide +kernel
theorem dL_fits_12 : decode cL_fits 12 = .ok (.goto 4, 3) := by decide +kernel
theorem dL_fits_15 : decode cL_fits 15 = .ok (.lconst 0, 1) := by decide +kernel
theorem dL_fits_16 : decode cL_fits 16 = .ok (.lastore, 1) := by decide +kernel
theorem dL_fits_17 : decode cL_fits 17 = .ok (.goto 7, 3) := by decide +kernel
theorem dL_fits_20 : decode cL_fits 20 = .ok (.astore 4, 2) := by decide +kernel
theorem dL_fits_22 : decode cL_fits 22 = .ok (.iconst 1, 1) := by decide +kernel
theorem dL_fits_23 : decode cL_fits 23 = .ok (.ireturn, 1) := by decide +kernel
theorem dL_fits_24 : decode cL_fits 24 = .ok (.iconst 0, 1) := by decide +kernel
theorem dL_fits_25 : decode cL_fits 25 = .ok (.ireturn, 1) := by decide +kernel
theorem dX4_fits_0 : decode cX4_fits 0 = .ok (.aload_n 0, 1) := by decide +kernel
theorem dX4_fits_1 : decode cX4_fits 1 = .ok (.iload_n 1, 1) := by decide +kernel
theorem dX4_fits_2 : decode cX4_fits 2 = .ok (.invokevirtual 157, 3) := by decide +kernel
theorem dX4_fits_5 : decode cX4_fits 5 = .ok (.aload_n 0, 1) := by decide +kernel
theorem dX4_fits_6 : decode cX4_fits 6 = .ok (.iload_n 2, 1) := by decide +kernel
theorem dX4_fits_7 : decode cX4_fits 7 = .ok (.invokevirtual 62, 3) := by decide +kernel
theorem dX4_fits_10 : decode cX4_fits 10 = .ok (.aload_n 0, 1) := by decide +kernel
theorem dX4_fits_11 : decode cX4_fits 11 = .ok (.iconst 1, 1) := by decide +kernel
theorem dX4_fits_12 : decode cX4_fits 12 = .ok (.iload_n 2, 1) := by decide +kernel
theorem dX4_fits_13 : decode cX4_fits 13 = .ok (.ishl, 1) := by decide +kernel
theorem dX4_fits_14 : decode cX4_fits 14 = .ok (.invokevirtual 160, 3) := by decide +kernel
theorem dX4_fits_17 : decode cX4_fits 17 = .ok (.iload_n 1, 1) := by decide +kernel
theorem dX4_fits_18 : decode cX4_fits 18 = .ok (.invokestatic 163, 3) := by decide +kernel
theorem dX4_fits_21 : decode cX4_fits 21 = .ok (.ireturn, 1) := by decide +kernel
theorem dX4_needBox_0 : decode cX4_needBox 0 = .ok (.aload_n 0, 1) := by decide +kernel
theorem dX4_needBox_1 : decode cX4_needBox 1 = .ok (.getfield 12, 3) := by decide +kernel
theorem dX4_needBox_4 : decode cX4_needBox 4 = .ok (.iload_n 1, 1) := by decide +kernel
theorem dX4_needBox_5 : decode cX4_needBox 5 = .ok (.invokevirtual 189, 3) := by decide +kernel
theorem dX4_needBox_8 : decode cX4_needBox 8 = .ok (.ifCond .ne 13, 3) := by decide +kernel
theorem dX4_needBox_11 : decode cX4_needBox 11 = .ok (.new 116, 3) := by decide +kernel
theorem dX4_needBox_14 : decode cX4_needBox 14 = .ok (.dup, 1) := by decide +kernel
theorem dX4_needBox_15 : decode cX4_needBox 15 = .ok (.ldc 190, 2) := by decide +kernel
theorem dX4_needBox_17 : decode cX4_needBox 17 = .ok (.invokespecial 120, 3) := by decide +kernel
theorem dX4_needBox_20 : decode cX4_needBox 20 = .ok (.athrow, 1) := by decide +kernel
theorem dX4_needBox_21 : decode cX4_needBox 21 = .ok (.return_, 1) := by decide +kernel
