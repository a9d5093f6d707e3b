theorem d_B_leastFor_35 : decode c_B_leastFor 35 = .ok (.getfield 15, 3) := by decide +kernel
theorem d_B_leastFor_38 : decode c_B_leastFor 38 = .ok (.iload_n 1, 1) := by decide +kernel
theorem d_B_leastFor_39 : decode c_B_leastFor 39 = .ok (.iload 5, 2) := by decide +kernel
theorem d_B_leastFor_41 : decode c_B_leastFor 41 = .ok (.ixor, 1) := by decide +kernel
theorem d_B_leastFor_42 : decode c_B_leastFor 42 = .ok (.iaload, 1) := by decide +kernel
theorem d_B_leastFor_43 : decode c_B_leastFor 43 = .ok (.aload_n 0, 1) := by decide +kernel
theorem d_B_leastFor_44 : decode c_B_leastFor 44 = .ok (.getfield 9, 3) := by decide +kernel
theorem d_B_leastFor_47 : decode c_B_leastFor 47 = .ok (.iload_n 2, 1) := by decide +kernel
theorem d_B_leastFor_48 : decode c_B_leastFor 48 = .ok (.iaload, 1) := by decide +kernel
theorem d_B_leastFor_49 : decode c_B_leastFor 49 = .ok (.iload 4, 2) := by decide +kernel
theorem d_B_leastFor_51 : decode c_B_leastFor 51 = .ok (.invokestatic 40, 3) := by decide +kernel
theorem d_B_leastFor_54 : decode c_B_leastFor 54 = .ok (.iadd, 1) := by decide +kernel
theorem d_B_leastFor_55 : decode c_B_leastFor 55 = .ok (.istore 6, 2) := by decide +kernel
theorem d_B_leastFor_57 : decode c_B_leastFor 57 = .ok (.iload_n 3, 1) := by decide +kernel
theorem d_B_leastFor_58 : decode c_B_leastFor 58 = .ok (.iconst (-1), 1) := by decide +kernel
theorem d_B_leastFor_59 : decode c_B_leastFor 59 = .ok (.if_icmp .ne 8, 3) := by decide +kernel
theorem d_B_leastFor_62 : decode c_B_leastFor 62 = .ok (.iload 6, 2) := by decide +kernel
theorem d_B_leastFor_64 : decode c_B_leastFor 64 = .ok (.goto 9, 3) := by decide +kernel
theorem d_B_leastFor_67 : decode c_B_leastFor 67 = .ok (.iload_n 3, 1) := by decide +kernel
theorem d_B_leastFor_68 : decode c_B_leastFor 68 = .ok (.iload 6, 2) := by decide +kernel
theorem d_B_leastFor_70 : decode c_B_leastFor 70 = .ok (.invokestatic 44, 3) := by decide +kernel
theorem d_B_leastFor_73 : decode c_B_leastFor 73 = .ok (.istore_n 3, 1) := by decide +kernel
theorem d_B_leastFor_74 : decode c_B_leastFor 74 = .ok (.iinc 4 1, 3) := by decide +kernel
theorem d_B_leastFor_77 : decode c_B_leastFor 77 = .ok (.goto (-65), 3) := by decide +kernel
theorem d_B_leastFor_80 : decode c_B_leastFor 80 = .ok (.iload_n 3, 1) := by decide +kernel
theorem d_B_leastFor_81 : decode c_B_leastFor 81 = .ok (.ireturn, 1) := by decide +kernel
theorem d_In_bitCount_0 : decode c_In_bitCount 0 = .ok (.iload_n 0, 1) := by decide +kernel
theorem d_In_bitCount_1 : decode c_In_bitCount 1 = .ok (.iload_n 0, 1) := by decide +kernel
theorem d_In_bitCount_2 : decode c_In_bitCount 2 = .ok (.iconst 1, 1) := by decide +kernel
theorem d_In_bitCount_3 : decode c_In_bitCount 3 = .ok (.iushr, 1) := by decide +kernel
theorem d_In_bitCount_4 : decode c_In_bitCount 4 = .ok (.ldc_w 265, 3) := by decide +kernel
theorem d_In_bitCount_7 : decode c_In_bitCount 7 = .ok (.iand, 1) := by decide +kernel
theorem d_In_bitCount_8 : decode c_In_bitCount 8 = .ok (.isub, 1) := by decide +kernel
theorem d_In_bitCount_9 : decode c_In_bitCount 9 = .ok (.istore_n 0, 1) := by decide +kernel
theorem d_In_bitCount_10 : decode c_In_bitCount 10 = .ok (.iload_n 0, 1) := by decide +kernel
theorem d_In_bitCount_11 : decode c_In_bitCount 11 = .ok (.ldc_w 266, 3) := by decide +kernel
theorem d_In_bitCount_14 : decode c_In_bitCount 14 = .ok (.iand, 1) := by decide +kernel
theorem d_In_bitCount_15 : decode c_In_bitCount 15 = .ok (.iload_n 0, 1) := by decide +kernel
theorem d_In_bitCount_16 : decode c_In_bitCount 16 = .ok (.iconst 2, 1) := by decide +kernel
theorem d_In_bitCount_17 : decode c_In_bitCount 17 = .ok (.iushr, 1) := by decide +kernel
theorem d_In_bitCount_18 : decode c_In_bitCount 18 = .ok (.ldc_w 266, 3) := by decide +kernel
theorem d_In_bitCount_21 : decode c_In_bitCount 21 = .ok (.iand, 1) := by decide +kernel
theorem d_In_bitCount_22 : decode c_In_bitCount 22 = .ok (.iadd, 1) := by decide +kernel
theorem d_In_bitCount_23 : decode c_In_bitCount 23 = .ok (.istore_n 0, 1) := by decide +kernel
theorem d_In_bitCount_24 : decode c_In_bitCount 24 = .ok (.iload_n 0, 1) := by decide +kernel
theorem d_In_bitCount_25 : decode c_In_bitCount 25 = .ok (.iload_n 0, 1) := by decide +kernel
theorem d_In_bitCount_26 : decode c_In_bitCount 26 = .ok (.iconst 4, 1) := by decide +kernel
theorem d_In_bitCount_27 : decode c_In_bitCount 27 = .ok (.iushr, 1) := by decide +kernel
theorem d_In_bitCount_28 : decode c_In_bitCount 28 = .ok (.iadd, 1) := by decide +kernel
theorem d_In_bitCount_29 : decode c_In_bitCount 29 = .ok (.ldc_w 267, 3) := by decide +kernel
theorem d_In_bitCount_32 : decode c_In_bitCount 32 = .ok (.iand, 1) := by decide +kernel
theorem d_In_bitCount_33 : decode c_In_bitCount 33 = .ok (.istore_n 0, 1) := by decide +kernel
theorem d_In_bitCount_34 : decode c_In_bitCount 34 = .ok (.iload_n 0, 1) := by decide +kernel
theorem d_In_bitCount_35 : decode c_In_bitCount 35 = .ok (.iload_n 0, 1) := by decide +kernel
theorem d_In_bitCount_36 : decode c_In_bitCount 36 = .ok (.bipush 8, 2) := by decide +kernel
theorem d_In_bitCount_38 : decode c_In_bitCount 38 = .ok (.iushr, 1) := by decide +kernel
theorem d_In_bitCount_39 : decode c_In_bitCount 39 = .ok (.iadd, 1) := by decide +kernel
theorem d_In_bitCount_40 : decode c_In_bitCount 40 = .ok (.istore_n 0, 1) := by decide +kernel
theorem d_In_bitCount_41 : decode c_In_bitCount 41 = .ok (.iload_n 0, 1) := by decide +kernel
theorem d_In_bitCount_42 : decode c_In_bitCount 42 = .ok (.iload_n 0, 1) := by decide +kernel
theorem d_In_bitCount_43 : decode c_In_bitCount 43 = .ok (.bipush 16, 2) := by decide +kernel
theorem d_In_bitCount_45 : decode c_In_bitCount 45 = .ok (.iushr, 1) := by decide +kernel
theorem d_In_bitCount_46 : decode c_In_bitCount 46 = .ok (.iadd, 1) := by decide +kernel
theorem d_In_bitCount_47 : decode c_In_bitCount 47 = .ok (.istore_n 0, 1) := by decide +kernel
theorem d_In_bitCount_48 : decode c_In_bitCount 48 = .ok (.iload_n 0, 1) := by decide +kernel
theorem d_In_bitCount_49 : decode c_In_bitCount 49 = .ok (.bipush 63, 2) := by decide +kernel
theorem d_In_bitCount_51 : decode c_In_bitCount 51 = .ok (.iand, 1) := by decide +kernel
theorem d_In_bitCount_52 : decode c_In_bitCount 52 = .ok (.ireturn, 1) := by decide +kernel
theorem d_L_look_0 : decode c_L_look 0 = .ok (.aload_n 3, 1) := by decide +kernel
theorem d_L_look_1 : decode c_L_look 1 = .ok (.iconst 0, 1) := by decide +kernel
theorem d_L_look_2 : decode c_L_look 2 = .ok (.aload_n 0, 1) := by decide +kernel
theorem d_L_look_3 : decode c_L_look 3 = .ok (.iload_n 1, 1) := by decide +kernel
theorem d_L_look_4 : decode c_L_look 4 = .ok (.iload_n 2, 1) := by decide +kernel
theorem d_L_look_5 : decode c_L_look 5 = .ok (.invokevirtual 35, 3) := by decide +kernel
theorem d_L_look_8 : decode c_L_look 8 = .ok (.i2l, 1) := by decide +kernel
theorem d_L_look_9 : decode c_L_look 9 = .ok (.lastore, 1) := by decide +kernel
theorem d_L_look_10 : decode c_L_look 10 = .ok (.goto 7, 3) := by decide +kernel
theorem d_L_look_13 : decode c_L_look 13 = .ok (.astore 4, 2) := by decide +kernel
theorem d_L_look_15 : decode c_L_look 15 = .ok (.iconst 1, 1) := by decide +kernel
theorem d_L_look_16 : decode c_L_look 16 = .ok (.ireturn, 1) := by decide +kernel
theorem d_L_look_17 : decode c_L_look 17 = .ok (.iconst 0, 1) := by decide +kernel
theorem d_L_look_18 : decode c_L_look 18 = .ok (.ireturn, 1) := by decide +kernel
theorem d_X_look_0 : decode c_X_look 0 = .ok (.aload_n 0, 1) := by decide +kernel
theorem d_X_look_1 : decode c_X_look 1 = .ok (.getfield 10, 3) := by decide +kernel
theorem d_X_look_4 : decode c_X_look 4 = .ok (.iload_n 1, 1) := by decide +kernel
theorem d_X_look_5 : decode c_X_look 5 = .ok (.invokevirtual 110, 3) := by decide +kernel
theorem d_X_look_8 : decode c_X_look 8 = .ok (.ifCond .ne 13, 3) := by decide +kernel
theorem d_X_look_11 : decode c_X_look 11 = .ok (.new 113, 3) := by decide +kernel
theorem d_X_look_14 : decode c_X_look 14 = .ok (.dup, 1) := by decide +kernel
theorem d_X_look_15 : decode c_X_look 15 = .ok (.ldc 115, 2) := by decide +kernel
theorem d_X_look_17 : decode c_X_look 17 = .ok (.invokespecial 117, 3) := by decide +kernel
theorem d_X_look_20 : decode c_X_look 20 = .ok (.athrow, 1) := by decide +kernel
theorem d_X_look_21 : decode c_X_look 21 = .ok (.iload_n 2, 1) := by decide +kernel
theorem d_X_look_22 : decode c_X_look 22 = .ok (.tableswitch 109 0 5 #[38, 48, 58, 68, 78, 88], 38) := by decide +kernel
theorem d_X_look_60 : decode c_X_look 60 = .ok (.aload_n 0, 1) := by decide +kernel
theorem d_X_look_61 : decode c_X_look 61 = .ok (.getfield 10, 3) := by decide +kernel
theorem d_X_look_64 : decode c_X_look 64 = .ok (.getfield 120, 3) := by decide +kernel
theorem d_X_look_67 : decode c_X_look 67 = .ok (.iload_n 1, 1) := by decide +kernel
theorem d_X_look_68 : decode c_X_look 68 = .ok (.iaload, 1) := by decide +kernel
theorem d_X_look_69 : decode c_X_look 69 = .ok (.ireturn, 1) := by decide +kernel
theorem d_X_look_70 : decode c_X_look 70 = .ok (.aload_n 0, 1) := by decide +kernel
theorem d_X_look_71 : decode c_X_look 71 = .ok (.getfield 10, 3) := by decide +kernel
theorem d_X_look_74 : decode c_X_look 74 = .ok (.getfield 123, 3) := by decide +kernel
theorem d_X_look_77 : decode c_X_look 77 = .ok (.iload_n 1, 1) := by decide +kernel
theorem d_X_look_78 : decode c_X_look 78 = .ok (.iaload, 1) := by decide +kernel
theorem d_X_look_79 : decode c_X_look 79 = .ok (.ireturn, 1) := by decide +kernel
theorem d_X_look_80 : decode c_X_look 80 = .ok (.aload_n 0, 1) := by decide +kernel
theorem d_X_look_81 : decode c_X_look 81 = .ok (.getfield 10, 3) := by decide +kernel
theorem d_X_look_84 : decode c_X_look 84 = .ok (.getfield 126, 3) := by decide +kernel
theorem d_X_look_87 : decode c_X_look 87 = .ok (.iload_n 1, 1) := by decide +kernel
theorem d_X_look_88 : decode c_X_look 88 = .ok (.iaload, 1) := by decide +kernel
theorem d_X_look_89 : decode c_X_look 89 = .ok (.ireturn, 1) := by decide +kernel
theorem d_X_look_90 : decode c_X_look 90 = .ok (.aload_n 0, 1) := by decide +kernel
theorem d_X_look_91 : decode c_X_look 91 = .ok (.getfield 10, 3) := by decide +kernel
theorem d_X_look_94 : decode c_X_look 94 = .ok (.getfield 129, 3) := by decide +kernel
theorem d_X_look_97 : decode c_X_look 97 = .ok (.iload_n 1, 1) := by decide +kernel
theorem d_X_look_98 : decode c_X_look 98 = .ok (.iaload, 1) := by decide +kernel
theorem d_X_look_99 : decode c_X_look 99 = .ok (.ireturn, 1) := by decide +kernel
theorem d_X_look_100 : decode c_X_look 100 = .ok (.aload_n 0, 1) := by decide +kernel
theorem d_X_look_101 : decode c_X_look 101 = .ok (.getfield 10, 3) := by decide +kernel
theorem d_X_look_104 : decode c_X_look 104 = .ok (.getfield 132, 3) := by decide +kernel
theorem d_X_look_107 : decode c_X_look 107 = .ok (.iload_n 1, 1) := by decide +kernel
theorem d_X_look_108 : decode c_X_look 108 = .ok (.iaload, 1) := by decide +kernel
theorem d_X_look_109 : decode c_X_look 109 = .ok (.ireturn, 1) := by decide +kernel
theorem d_X_look_110 : decode c_X_look 110 = .ok (.aload_n 0, 1) := by decide +kernel
theorem d_X_look_111 : decode c_X_look 111 = .ok (.getfield 10, 3) := by decide +kernel
theorem d_X_look_114 : decode c_X_look 114 = .ok (.iload_n 1, 1) := by decide +kernel
theorem d_X_look_115 : decode c_X_look 115 = .ok (.aload_n 0, 1) := by decide +kernel
theorem d_X_look_116 : decode c_X_look 116 = .ok (.getfield 47, 3) := by decide +kernel
theorem d_X_look_119 : decode c_X_look 119 = .ok (.invokevirtual 135, 3) := by decide +kernel
theorem d_X_look_122 : decode c_X_look 122 = .ok (.ifCond .eq 7, 3) := by decide +kernel
theorem d_X_look_125 : decode c_X_look 125 = .ok (.iconst 1, 1) := by decide +kernel
theorem d_X_look_126 : decode c_X_look 126 = .ok (.goto 4, 3) := by decide +kernel
theorem d_X_look_129 : decode c_X_look 129 = .ok (.iconst 0, 1) := by decide +kernel
theorem d_X_look_130 : decode c_X_look 130 = .ok (.ireturn, 1) := by decide +kernel
theorem d_X_look_131 : decode c_X_look 131 = .ok (.new 113, 3) := by decide +kernel
theorem d_X_look_134 : decode c_X_look 134 = .ok (.dup, 1) := by decide +kernel
theorem d_X_look_135 : decode c_X_look 135 = .ok (.ldc 139, 2) := by decide +kernel
theorem d_X_look_137 : decode c_X_look 137 = .ok (.invokespecial 117, 3) := by decide +kernel
theorem d_X_look_140 : decode c_X_look 140 = .ok (.athrow, 1) := by decide +kernel
theorem d_L_changed_0 : decode c_L_changed 0 = .ok (.aload 4, 2) := by decide +kernel
theorem d_L_changed_2 : decode c_L_changed 2 = .ok (.iconst 0, 1) := by decide +kernel
theorem d_L_changed_3 : decode c_L_changed 3 = .ok (.aload_n 0, 1) := by decide +kernel
theorem d_L_changed_4 : decode c_L_changed 4 = .ok (.iload_n 1, 1) := by decide +kernel
theorem d_L_changed_5 : decode c_L_changed 5 = .ok (.iload_n 2, 1) := by decide +kernel
theorem d_L_changed_6 : decode c_L_changed 6 = .ok (.iload_n 3, 1) := by decide +kernel
theorem d_L_changed_7 : decode c_L_changed 7 = .ok (.invokevirtual 40, 3) := by decide +kernel
theorem d_L_changed_10 : decode c_L_changed 10 = .ok (.i2l, 1) := by decide +kernel
theorem d_L_changed_11 : decode c_L_changed 11 = .ok (.lastore, 1) := by decide +kernel
theorem d_L_changed_12 : decode c_L_changed 12 = .ok (.goto 7, 3) := by decide +kernel
theorem d_L_changed_15 : decode c_L_changed 15 = .ok (.astore 5, 2) := by decide +kernel
theorem d_L_changed_17 : decode c_L_changed 17 = .ok (.iconst 1, 1) := by decide +kernel
theorem d_L_changed_18 : decode c_L_changed 18 = .ok (.ireturn, 1) := by decide +kernel
theorem d_L_changed_19 : decode c_L_changed 19 = .ok (.iconst 0, 1) := by decide +kernel
theorem d_L_changed_20 : decode c_L_changed 20 = .ok (.ireturn, 1) := by decide +kernel
theorem d_X_changed_0 : decode c_X_changed 0 = .ok (.aload_n 0, 1) := by decide +kernel
theorem d_X_changed_1 : decode c_X_changed 1 = .ok (.aload_n 0, 1) := by decide +kernel
theorem d_X_changed_2 : decode c_X_changed 2 = .ok (.getfield 26, 3) := by decide +kernel
theorem d_X_changed_5 : decode c_X_changed 5 = .ok (.iload_n 1, 1) := by decide +kernel
theorem d_X_changed_6 : decode c_X_changed 6 = .ok (.iload_n 2, 1) := by decide +kernel
theorem d_X_changed_7 : decode c_X_changed 7 = .ok (.invokevirtual 74, 3) := by decide +kernel
theorem d_X_changed_10 : decode c_X_changed 10 = .ok (.aload_n 0, 1) := by decide +kernel
theorem d_X_changed_11 : decode c_X_changed 11 = .ok (.aload_n 0, 1) := by decide +kernel
theorem d_X_changed_12 : decode c_X_changed 12 = .ok (.getfield 30, 3) := by decide +kernel
theorem d_X_changed_15 : decode c_X_changed 15 = .ok (.iload_n 1, 1) := by decide +kernel
theorem d_X_changed_16 : decode c_X_changed 16 = .ok (.iload_n 3, 1) := by decide +kernel
theorem d_X_changed_17 : decode c_X_changed 17 = .ok (.invokevirtual 74, 3) := by decide +kernel
theorem d_X_changed_20 : decode c_X_changed 20 = .ok (.aload_n 0, 1) := by decide +kernel
theorem d_X_changed_21 : decode c_X_changed 21 = .ok (.getfield 26, 3) := by decide +kernel
theorem d_X_changed_24 : decode c_X_changed 24 = .ok (.aload_n 0, 1) := by decide +kernel
theorem d_X_changed_25 : decode c_X_changed 25 = .ok (.getfield 30, 3) := by decide +kernel
theorem d_X_changed_28 : decode c_X_changed 28 = .ok (.invokevirtual 141, 3) := by decide +kernel
theorem d_X_changed_31 : decode c_X_changed 31 = .ok (.ireturn, 1) := by decide +kernel
theorem d_P_differencesFrom_0 : decode c_P_differencesFrom 0 = .ok (.iconst 0, 1) := by decide +kernel
theorem d_P_differencesFrom_1 : decode c_P_differencesFrom 1 = .ok (.istore_n 2, 1) := by decide +kernel
theorem d_P_differencesFrom_2 : decode c_P_differencesFrom 2 = .ok (.iconst 0, 1) := by decide +kernel
theorem d_P_differencesFrom_3 : decode c_P_differencesFrom 3 = .ok (.istore_n 3, 1) := by decide +kernel
theorem d_P_differencesFrom_4 : decode c_P_differencesFrom 4 = .ok (.iload_n 3, 1) := by decide +kernel
theorem d_P_differencesFrom_5 : decode c_P_differencesFrom 5 = .ok (.bipush 20, 2) := by decide +kernel
theorem d_P_differencesFrom_7 : decode c_P_differencesFrom 7 = .ok (.if_icmp .ge 27, 3) := by decide +kernel
theorem d_P_differencesFrom_10 : decode c_P_differencesFrom 10 = .ok (.aload_n 0, 1) := by decide +kernel
theorem d_P_differencesFrom_11 : decode c_P_differencesFrom 11 = .ok (.getfield 9, 3) := by decide +kernel
theorem d_P_differencesFrom_14 : decode c_P_differencesFrom 14 = .ok (.iload_n 3, 1) := by decide +kernel
theorem d_P_differencesFrom_15 : decode c_P_differencesFrom 15 = .ok (.iaload, 1) := by decide +kernel
theorem d_P_differencesFrom_16 : decode c_P_differencesFrom 16 = .ok (.aload_n 1, 1) := by decide +kernel
theorem d_P_differencesFrom_17 : decode c_P_differencesFrom 17 = .ok (.getfield 9, 3) := by decide +kernel
theorem d_P_differencesFrom_20 : decode c_P_differencesFrom 20 = .ok (.iload_n 3, 1) := by decide +kernel
theorem d_P_differencesFrom_21 : decode c_P_differencesFrom 21 = .ok (.iaload, 1) := by decide +kernel
theorem d_P_differencesFrom_22 : decode c_P_differencesFrom 22 = .ok (.if_icmp .eq 6, 3) := by decide +kernel
theorem d_P_differencesFrom_25 : decode c_P_differencesFrom 25 = .ok (.iinc 2 1, 3) := by decide +kernel
theorem d_P_differencesFrom_28 : decode c_P_differencesFrom 28 = .ok (.iinc 3 1, 3) := by decide +kernel
theorem d_P_differencesFrom_31 : decode c_P_differencesFrom 31 = .ok (.goto (-27), 3) := by decide +kernel
theorem d_P_differencesFrom_34 : decode c_P_differencesFrom 34 = .ok (.iconst 0, 1) := by decide +kernel
theorem d_P_differencesFrom_35 : decode c_P_differencesFrom 35 = .ok (.istore_n 3, 1) := by decide +kernel
theorem d_P_differencesFrom_36 : decode c_P_differencesFrom 36 = .ok (.iload_n 3, 1) := by decide +kernel
theorem d_P_differencesFrom_37 : decode c_P_differencesFrom 37 = .ok (.bipush 10, 2) := by decide +kernel
theorem d_P_differencesFrom_39 : decode c_P_differencesFrom 39 = .ok (.if_icmp .ge 42, 3) := by decide +kernel
theorem d_P_differencesFrom_42 : decode c_P_differencesFrom 42 = .ok (.aload_n 0, 1) := by decide +kernel
theorem d_P_differencesFrom_43 : decode c_P_differencesFrom 43 = .ok (.getfield 15, 3) := by decide +kernel
theorem d_P_differencesFrom_46 : decode c_P_differencesFrom 46 = .ok (.iload_n 3, 1) := by decide +kernel
theorem d_P_differencesFrom_47 : decode c_P_differencesFrom 47 = .ok (.iaload, 1) := by decide +kernel
theorem d_P_differencesFrom_48 : decode c_P_differencesFrom 48 = .ok (.aload_n 1, 1) := by decide +kernel
theorem d_P_differencesFrom_49 : decode c_P_differencesFrom 49 = .ok (.getfield 15, 3) := by decide +kernel
theorem d_P_differencesFrom_52 : decode c_P_differencesFrom 52 = .ok (.iload_n 3, 1) := by decide +kernel
theorem d_P_differencesFrom_53 : decode c_P_differencesFrom 53 = .ok (.iaload, 1) := by decide +kernel
theorem d_P_differencesFrom_54 : decode c_P_differencesFrom 54 = .ok (.if_icmp .ne 18, 3) := by decide +kernel
theorem d_P_differencesFrom_57 : decode c_P_differencesFrom 57 = .ok (.aload_n 0, 1) := by decide +kernel
theorem d_P_differencesFrom_58 : decode c_P_differencesFrom 58 = .ok (.getfield 18, 3) := by decide +kernel
theorem d_P_differencesFrom_61 : decode c_P_differencesFrom 61 = .ok (.iload_n 3, 1) := by decide +kernel
theorem d_P_differencesFrom_62 : decode c_P_differencesFrom 62 = .ok (.iaload, 1) := by decide +kernel
theorem d_P_differencesFrom_63 : decode c_P_differencesFrom 63 = .ok (.aload_n 1, 1) := by decide +kernel
theorem d_P_differencesFrom_64 : decode c_P_differencesFrom 64 = .ok (.getfield 18, 3) := by decide +kernel
theorem d_P_differencesFrom_67 : decode c_P_differencesFrom 67 = .ok (.iload_n 3, 1) := by decide +kernel
theorem d_P_differencesFrom_68 : decode c_P_differencesFrom 68 = .ok (.iaload, 1) := by decide +kernel
theorem d_P_differencesFrom_69 : decode c_P_differencesFrom 69 = .ok (.if_icmp .eq 6, 3) := by decide +kernel
theorem d_P_differencesFrom_72 : decode c_P_differencesFrom 72 = .ok (.iinc 2 1, 3) := by decide +kernel
theorem d_P_differencesFrom_75 : decode c_P_differencesFrom 75 = .ok (.iinc 3 1, 3) := by decide +kernel
theorem d_P_differencesFrom_78 : decode c_P_differencesFrom 78 = .ok (.goto (-42), 3) := by decide +kernel
theorem d_P_differencesFrom_81 : decode c_P_differencesFrom 81 = .ok (.iload_n 2, 1) := by decide +kernel
theorem d_P_differencesFrom_82 : decode c_P_differencesFrom 82 = .ok (.ireturn, 1) := by decide +kernel
theorem d_M_init_0 : decode c_M_init 0 = .ok (.aload_n 0, 1) := by decide +kernel
theorem d_M_init_1 : decode c_M_init 1 = .ok (.invokespecial 1, 3) := by decide +kernel
theorem d_M_init_4 : decode c_M_init 4 = .ok (.aload_n 0, 1) := by decide +kernel
theorem d_M_init_5 : decode c_M_init 5 = .ok (.bipush 80, 2) := by decide +kernel
theorem d_M_init_7 : decode c_M_init 7 = .ok (.newarray .int, 2) := by decide +kernel
theorem d_M_init_9 : decode c_M_init 9 = .ok (.putfield 7, 3) := by decide +kernel
theorem d_M_init_12 : decode c_M_init 12 = .ok (.aload_n 0, 1) := by decide +kernel
theorem d_M_init_13 : decode c_M_init 13 = .ok (.bipush 80, 2) := by decide +kernel
theorem d_M_init_15 : decode c_M_init 15 = .ok (.newarray .int, 2) := by decide +kernel
theorem d_M_init_17 : decode c_M_init 17 = .ok (.putfield 13, 3) := by decide +kernel
theorem d_M_init_20 : decode c_M_init 20 = .ok (.aload_n 0, 1) := by decide +kernel
theorem d_M_init_21 : decode c_M_init 21 = .ok (.bipush 80, 2) := by decide +kernel
theorem d_M_init_23 : decode c_M_init 23 = .ok (.newarray .int, 2) := by decide +kernel
theorem d_M_init_25 : decode c_M_init 25 = .ok (.putfield 16, 3) := by decide +kernel
theorem d_M_init_28 : decode c_M_init 28 = .ok (.aload_n 0, 1) := by decide +kernel
theorem d_M_init_29 : decode c_M_init 29 = .ok (.bipush 80, 2) := by decide +kernel
theorem d_M_init_31 : decode c_M_init 31 = .ok (.newarray .int, 2) := by decide +kernel
theorem d_M_init_33 : decode c_M_init 33 = .ok (.putfield 19, 3) := by decide +kernel
theorem d_M_init_36 : decode c_M_init 36 = .ok (.aload_n 0, 1) := by decide +kernel
theorem d_M_init_37 : decode c_M_init 37 = .ok (.bipush 80, 2) := by decide +kernel
theorem d_M_init_39 : decode c_M_init 39 = .ok (.newarray .int, 2) := by decide +kernel
theorem d_M_init_41 : decode c_M_init 41 = .ok (.putfield 22, 3) := by decide +kernel
theorem d_M_init_44 : decode c_M_init 44 = .ok (.aload_n 0, 1) := by decide +kernel
theorem d_M_init_45 : decode c_M_init 45 = .ok (.bipush 20, 2) := by decide +kernel
theorem d_M_init_47 : decode c_M_init 47 = .ok (.newarray .int, 2) := by decide +kernel
theorem d_M_init_49 : decode c_M_init 49 = .ok (.putfield 25, 3) := by decide +kernel
theorem d_M_init_52 : decode c_M_init 52 = .ok (.aload_n 0, 1) := by decide +kernel
theorem d_M_init_53 : decode c_M_init 53 = .ok (.bipush 10, 2) := by decide +kernel
theorem d_M_init_55 : decode c_M_init 55 = .ok (.newarray .int, 2) := by decide +kernel
theorem d_M_init_57 : decode c_M_init 57 = .ok (.putfield 28, 3) := by decide +kernel
theorem d_M_init_60 : decode c_M_init 60 = .ok (.aload_n 0, 1) := by decide +kernel
theorem d_M_init_61 : decode c_M_init 61 = .ok (.bipush 10, 2) := by decide +kernel
theorem d_M_init_63 : decode c_M_init 63 = .ok (.newarray .int, 2) := by decide +kernel
theorem d_M_init_65 : decode c_M_init 65 = .ok (.putfield 31, 3) := by decide +kernel
theorem d_M_init_68 : decode c_M_init 68 = .ok (.aload_n 0, 1) := by decide +kernel
theorem d_M_init_69 : decode c_M_init 69 = .ok (.bipush 10, 2) := by decide +kernel
theorem d_M_init_71 : decode c_M_init 71 = .ok (.newarray .int, 2) := by decide +kernel
theorem d_M_init_73 : decode c_M_init 73 = .ok (.putfield 34, 3) := by decide +kernel
theorem d_M_init_76 : decode c_M_init 76 = .ok (.aload_n 0, 1) := by decide +kernel
theorem d_M_init_77 : decode c_M_init 77 = .ok (.bipush 64, 2) := by decide +kernel
theorem d_M_init_79 : decode c_M_init 79 = .ok (.newarray .int, 2) := by decide +kernel
theorem d_M_init_81 : decode c_M_init 81 = .ok (.putfield 37, 3) := by decide +kernel
theorem d_M_init_84 : decode c_M_init 84 = .ok (.return_, 1) := by decide +kernel
theorem d_M_thrown_0 : decode c_M_thrown 0 = .ok (.aload_n 0, 1) := by decide +kernel
theorem d_M_thrown_1 : decode c_M_thrown 1 = .ok (.getfield 40, 3) := by decide +kernel
theorem d_M_thrown_4 : decode c_M_thrown 4 = .ok (.ireturn, 1) := by decide +kernel
theorem d_M_event_0 : decode c_M_event 0 = .ok (.aload_n 0, 1) := by decide +kernel
theorem d_M_event_1 : decode c_M_event 1 = .ok (.iconst 0, 1) := by decide +kernel
theorem d_M_event_2 : decode c_M_event 2 = .ok (.putfield 40, 3) := by decide +kernel
theorem d_M_event_5 : decode c_M_event 5 = .ok (.aload_n 0, 1) := by decide +kernel
theorem d_M_event_6 : decode c_M_event 6 = .ok (.iload_n 1, 1) := by decide +kernel
theorem d_M_event_7 : decode c_M_event 7 = .ok (.iload_n 2, 1) := by decide +kernel
theorem d_M_event_8 : decode c_M_event 8 = .ok (.iload_n 3, 1) := by decide +kernel
theorem d_M_event_9 : decode c_M_event 9 = .ok (.invokevirtual 53, 3) := by decide +kernel
theorem d_M_event_12 : decode c_M_event 12 = .ok (.ifCond .eq 20, 3) := by decide +kernel
theorem d_M_event_15 : decode c_M_event 15 = .ok (.iload 4, 2) := by decide +kernel
theorem d_M_event_17 : decode c_M_event 17 = .ok (.invokestatic 56, 3) := by decide +kernel
theorem d_M_event_20 : decode c_M_event 20 = .ok (.ifCond .eq 12, 3) := by decide +kernel
theorem d_M_event_23 : decode c_M_event 23 = .ok (.aload_n 0, 1) := by decide +kernel
theorem d_M_event_24 : decode c_M_event 24 = .ok (.getfield 50, 3) := by decide +kernel
theorem d_M_event_27 : decode c_M_event 27 = .ok (.bipush 80, 2) := by decide +kernel
theorem d_M_event_29 : decode c_M_event 29 = .ok (.if_icmp .ne 15, 3) := by decide +kernel
theorem d_M_event_32 : decode c_M_event 32 = .ok (.aload_n 0, 1) := by decide +kernel
theorem d_M_event_33 : decode c_M_event 33 = .ok (.dup, 1) := by decide +kernel
theorem d_M_event_34 : decode c_M_event 34 = .ok (.getfield 60, 3) := by decide +kernel
theorem d_M_event_37 : decode c_M_event 37 = .ok (.iconst 1, 1) := by decide +kernel
theorem d_M_event_38 : decode c_M_event 38 = .ok (.iadd, 1) := by decide +kernel
theorem d_M_event_39 : decode c_M_event 39 = .ok (.putfield 60, 3) := by decide +kernel
theorem d_M_event_42 : decode c_M_event 42 = .ok (.iconst (-1), 1) := by decide +kernel
theorem d_M_event_43 : decode c_M_event 43 = .ok (.ireturn, 1) := by decide +kernel
theorem d_M_event_44 : decode c_M_event 44 = .ok (.aload_n 0, 1) := by decide +kernel
theorem d_M_event_45 : decode c_M_event 45 = .ok (.getfield 7, 3) := by decide +kernel
theorem d_M_event_48 : decode c_M_event 48 = .ok (.aload_n 0, 1) := by decide +kernel
theorem d_M_event_49 : decode c_M_event 49 = .ok (.getfield 50, 3) := by decide +kernel
theorem d_M_event_52 : decode c_M_event 52 = .ok (.iload_n 1, 1) := by decide +kernel
theorem d_M_event_53 : decode c_M_event 53 = .ok (.iastore, 1) := by decide +kernel
theorem d_M_event_54 : decode c_M_event 54 = .ok (.aload_n 0, 1) := by decide +kernel
theorem d_M_event_55 : decode c_M_event 55 = .ok (.getfield 13, 3) := by decide +kernel
theorem d_M_event_58 : decode c_M_event 58 = .ok (.aload_n 0, 1) := by decide +kernel
theorem d_M_event_59 : decode c_M_event 59 = .ok (.getfield 50, 3) := by decide +kernel
theorem d_M_event_62 : decode c_M_event 62 = .ok (.iload_n 2, 1) := by decide +kernel
theorem d_M_event_63 : decode c_M_event 63 = .ok (.iastore, 1) := by decide +kernel
theorem d_M_event_64 : decode c_M_event 64 = .ok (.aload_n 0, 1) := by decide +kernel
theorem d_M_event_65 : decode c_M_event 65 = .ok (.getfield 16, 3) := by decide +kernel
theorem d_M_event_68 : decode c_M_event 68 = .ok (.aload_n 0, 1) := by decide +kernel
theorem d_M_event_69 : decode c_M_event 69 = .ok (.getfield 50, 3) := by decide +kernel
theorem d_M_event_72 : decode c_M_event 72 = .ok (.iload_n 3, 1) := by decide +kernel
theorem d_M_event_73 : decode c_M_event 73 = .ok (.iastore, 1) := by decide +kernel
theorem d_M_event_74 : decode c_M_event 74 = .ok (.aload_n 0, 1) := by decide +kernel
theorem d_M_event_75 : decode c_M_event 75 = .ok (.getfield 19, 3) := by decide +kernel
theorem d_M_event_78 : decode c_M_event 78 = .ok (.aload_n 0, 1) := by decide +kernel
theorem d_M_event_79 : decode c_M_event 79 = .ok (.getfield 50, 3) := by decide +kernel
theorem d_M_event_82 : decode c_M_event 82 = .ok (.iload 4, 2) := by decide +kernel
theorem d_M_event_84 : decode c_M_event 84 = .ok (.iastore, 1) := by decide +kernel
theorem d_M_event_85 : decode c_M_event 85 = .ok (.aload_n 0, 1) := by decide +kernel
theorem d_M_event_86 : decode c_M_event 86 = .ok (.getfield 22, 3) := by decide +kernel
theorem d_M_event_89 : decode c_M_event 89 = .ok (.aload_n 0, 1) := by decide +kernel
theorem d_M_event_90 : decode c_M_event 90 = .ok (.getfield 50, 3) := by decide +kernel
theorem d_M_event_93 : decode c_M_event 93 = .ok (.aload_n 0, 1) := by decide +kernel
theorem d_M_event_94 : decode c_M_event 94 = .ok (.getfield 63, 3) := by decide +kernel
theorem d_M_event_97 : decode c_M_event 97 = .ok (.iastore, 1) := by decide +kernel
theorem d_M_event_98 : decode c_M_event 98 = .ok (.aload_n 0, 1) := by decide +kernel
theorem d_M_event_99 : decode c_M_event 99 = .ok (.dup, 1) := by decide +kernel
theorem d_M_event_100 : decode c_M_event 100 = .ok (.getfield 50, 3) := by decide +kernel
theorem d_M_event_103 : decode c_M_event 103 = .ok (.iconst 1, 1) := by decide +kernel
theorem d_M_event_104 : decode c_M_event 104 = .ok (.iadd, 1) := by decide +kernel
theorem d_M_event_105 : decode c_M_event 105 = .ok (.putfield 50, 3) := by decide +kernel
theorem d_M_event_108 : decode c_M_event 108 = .ok (.aload_n 0, 1) := by decide +kernel
theorem d_M_event_109 : decode c_M_event 109 = .ok (.getfield 50, 3) := by decide +kernel
theorem d_M_event_112 : decode c_M_event 112 = .ok (.iconst 1, 1) := by decide +kernel
theorem d_M_event_113 : decode c_M_event 113 = .ok (.isub, 1) := by decide +kernel
theorem d_M_event_114 : decode c_M_event 114 = .ok (.ireturn, 1) := by decide +kernel
theorem d_M_fits_0 : decode c_M_fits 0 = .ok (.iload_n 1, 1) := by decide +kernel
theorem d_M_fits_1 : decode c_M_fits 1 = .ok (.tableswitch 212 0 5 #[39, 65, 85, 110, 137, 164], 39) := by decide +kernel
theorem d_M_fits_40 : decode c_M_fits 40 = .ok (.iload_n 2, 1) := by decide +kernel
theorem d_M_fits_41 : decode c_M_fits 41 = .ok (.iconst 0, 1) := by decide +kernel
theorem d_M_fits_42 : decode c_M_fits 42 = .ok (.bipush 19, 2) := by decide +kernel
theorem d_M_fits_44 : decode c_M_fits 44 = .ok (.invokestatic 44, 3) := by decide +kernel
theorem d_M_fits_47 : decode c_M_fits 47 = .ok (.ifCond .eq 17, 3) := by decide +kernel
theorem d_M_fits_50 : decode c_M_fits 50 = .ok (.iload_n 3, 1) := by decide +kernel
theorem d_M_fits_51 : decode c_M_fits 51 = .ok (.iconst 0, 1) := by decide +kernel
theorem d_M_fits_52 : decode c_M_fits 52 = .ok (.bipush 99, 2) := by decide +kernel
theorem d_M_fits_54 : decode c_M_fits 54 = .ok (.invokestatic 44, 3) := by decide +kernel
theorem d_M_fits_57 : decode c_M_fits 57 = .ok (.ifCond .eq 7, 3) := by decide +kernel
theorem d_M_fits_60 : decode c_M_fits 60 = .ok (.iconst 1, 1) := by decide +kernel
theorem d_M_fits_61 : decode c_M_fits 61 = .ok (.goto 4, 3) := by decide +kernel
theorem d_M_fits_64 : decode c_M_fits 64 = .ok (.iconst 0, 1) := by decide +kernel
theorem d_M_fits_65 : decode c_M_fits 65 = .ok (.ireturn, 1) := by decide +kernel
theorem d_M_fits_66 : decode c_M_fits 66 = .ok (.iload_n 2, 1) := by decide +kernel
theorem d_M_fits_67 : decode c_M_fits 67 = .ok (.iconst 0, 1) := by decide +kernel
theorem d_M_fits_68 : decode c_M_fits 68 = .ok (.bipush 19, 2) := by decide +kernel
theorem d_M_fits_70 : decode c_M_fits 70 = .ok (.invokestatic 44, 3) := by decide +kernel
theorem d_M_fits_73 : decode c_M_fits 73 = .ok (.ifCond .eq 11, 3) := by decide +kernel
theorem d_M_fits_76 : decode c_M_fits 76 = .ok (.iload_n 3, 1) := by decide +kernel
theorem d_M_fits_77 : decode c_M_fits 77 = .ok (.ifCond .ne 7, 3) := by decide +kernel
theorem d_M_fits_80 : decode c_M_fits 80 = .ok (.iconst 1, 1) := by decide +kernel
theorem d_M_fits_81 : decode c_M_fits 81 = .ok (.goto 4, 3) := by decide +kernel
theorem d_M_fits_84 : decode c_M_fits 84 = .ok (.iconst 0, 1) := by decide +kernel
theorem d_M_fits_85 : decode c_M_fits 85 = .ok (.ireturn, 1) := by decide +kernel
theorem d_M_fits_86 : decode c_M_fits 86 = .ok (.iload_n 2, 1) := by decide +kernel
theorem d_M_fits_87 : decode c_M_fits 87 = .ok (.iconst 0, 1) := by decide +kernel
theorem d_M_fits_88 : decode c_M_fits 88 = .ok (.bipush 9, 2) := by decide +kernel
theorem d_M_fits_90 : decode c_M_fits 90 = .ok (.invokestatic 44, 3) := by decide +kernel
theorem d_M_fits_93 : decode c_M_fits 93 = .ok (.ifCond .eq 16, 3) := by decide +kernel
theorem d_M_fits_96 : decode c_M_fits 96 = .ok (.iload_n 3, 1) := by decide +kernel
theorem d_M_fits_97 : decode c_M_fits 97 = .ok (.iconst 0, 1) := by decide +kernel
theorem d_M_fits_98 : decode c_M_fits 98 = .ok (.iconst 5, 1) := by decide +kernel
theorem d_M_fits_99 : decode c_M_fits 99 = .ok (.invokestatic 44, 3) := by decide +kernel
theorem d_M_fits_102 : decode c_M_fits 102 = .ok (.ifCond .eq 7, 3) := by decide +kernel
theorem d_M_fits_105 : decode c_M_fits 105 = .ok (.iconst 1, 1) := by decide +kernel
theorem d_M_fits_106 : decode c_M_fits 106 = .ok (.goto 4, 3) := by decide +kernel
theorem d_M_fits_109 : decode c_M_fits 109 = .ok (.iconst 0, 1) := by decide +kernel
theorem d_M_fits_110 : decode c_M_fits 110 = .ok (.ireturn, 1) := by decide +kernel
theorem d_M_fits_111 : decode c_M_fits 111 = .ok (.iload_n 2, 1) := by decide +kernel
theorem d_M_fits_112 : decode c_M_fits 112 = .ok (.iconst 0, 1) := by decide +kernel
theorem d_M_fits_113 : decode c_M_fits 113 = .ok (.bipush 9, 2) := by decide +kernel
theorem d_M_fits_115 : decode c_M_fits 115 = .ok (.invokestatic 44, 3) := by decide +kernel
theorem d_M_fits_118 : decode c_M_fits 118 = .ok (.ifCond .eq 18, 3) := by decide +kernel
theorem d_M_fits_121 : decode c_M_fits 121 = .ok (.iload_n 3, 1) := by decide +kernel
theorem d_M_fits_122 : decode c_M_fits 122 = .ok (.ldc 48, 2) := by decide +kernel
theorem d_M_fits_124 : decode c_M_fits 124 = .ok (.ldc 49, 2) := by decide +kernel
theorem d_M_fits_126 : decode c_M_fits 126 = .ok (.invokestatic 44, 3) := by decide +kernel
theorem d_M_fits_129 : decode c_M_fits 129 = .ok (.ifCond .eq 7, 3) := by decide +kernel
theorem d_M_fits_132 : decode c_M_fits 132 = .ok (.iconst 1, 1) := by decide +kernel
theorem d_M_fits_133 : decode c_M_fits 133 = .ok (.goto 4, 3) := by decide +kernel
theorem d_M_fits_136 : decode c_M_fits 136 = .ok (.iconst 0, 1) := by decide +kernel
theorem d_M_fits_137 : decode c_M_fits 137 = .ok (.ireturn, 1) := by decide +kernel
theorem d_M_fits_138 : decode c_M_fits 138 = .ok (.iload_n 2, 1) := by decide +kernel
theorem d_M_fits_139 : decode c_M_fits 139 = .ok (.iconst 0, 1) := by decide +kernel
theorem d_M_fits_140 : decode c_M_fits 140 = .ok (.bipush 9, 2) := by decide +kernel
theorem d_M_fits_142 : decode c_M_fits 142 = .ok (.invokestatic 44, 3) := by decide +kernel
theorem d_M_fits_145 : decode c_M_fits 145 = .ok (.ifCond .eq 18, 3) := by decide +kernel
theorem d_M_fits_148 : decode c_M_fits 148 = .ok (.iload_n 3, 1) := by decide +kernel
theorem d_M_fits_149 : decode c_M_fits 149 = .ok (.iconst 1, 1) := by decide +kernel
theorem d_M_fits_150 : decode c_M_fits 150 = .ok (.sipush 1000, 3) := by decide +kernel
theorem d_M_fits_153 : decode c_M_fits 153 = .ok (.invokestatic 44, 3) := by decide +kernel
theorem d_M_fits_156 : decode c_M_fits 156 = .ok (.ifCond .eq 7, 3) := by decide +kernel
theorem d_M_fits_159 : decode c_M_fits 159 = .ok (.iconst 1, 1) := by decide +kernel
theorem d_M_fits_160 : decode c_M_fits 160 = .ok (.goto 4, 3) := by decide +kernel
theorem d_M_fits_163 : decode c_M_fits 163 = .ok (.iconst 0, 1) := by decide +kernel
theorem d_M_fits_164 : decode c_M_fits 164 = .ok (.ireturn, 1) := by decide +kernel
theorem d_M_fits_165 : decode c_M_fits 165 = .ok (.iload_n 2, 1) := by decide +kernel
theorem d_M_fits_166 : decode c_M_fits 166 = .ok (.ifCond .lt 45, 3) := by decide +kernel
theorem d_M_fits_169 : decode c_M_fits 169 = .ok (.iload_n 2, 1) := by decide +kernel
theorem d_M_fits_170 : decode c_M_fits 170 = .ok (.aload_n 0, 1) := by decide +kernel
theorem d_M_fits_171 : decode c_M_fits 171 = .ok (.getfield 50, 3) := by decide +kernel
theorem d_M_fits_174 : decode c_M_fits 174 = .ok (.if_icmp .ge 37, 3) := by decide +kernel
theorem d_M_fits_177 : decode c_M_fits 177 = .ok (.aload_n 0, 1) := by decide +kernel
theorem d_M_fits_178 : decode c_M_fits 178 = .ok (.getfield 7, 3) := by decide +kernel
theorem d_M_fits_181 : decode c_M_fits 181 = .ok (.iload_n 2, 1) := by decide +kernel
theorem d_M_fits_182 : decode c_M_fits 182 = .ok (.ifCond .lt 15, 3) := by decide +kernel
theorem d_M_fits_185 : decode c_M_fits 185 = .ok (.iload_n 2, 1) := by decide +kernel
theorem d_M_fits_186 : decode c_M_fits 186 = .ok (.aload_n 0, 1) := by decide +kernel
theorem d_M_fits_187 : decode c_M_fits 187 = .ok (.getfield 50, 3) := by decide +kernel
theorem d_M_fits_190 : decode c_M_fits 190 = .ok (.if_icmp .ge 7, 3) := by decide +kernel
theorem d_M_fits_193 : decode c_M_fits 193 = .ok (.iload_n 2, 1) := by decide +kernel
theorem d_M_fits_194 : decode c_M_fits 194 = .ok (.goto 4, 3) := by decide +kernel
theorem d_M_fits_197 : decode c_M_fits 197 = .ok (.iconst 0, 1) := by decide +kernel
theorem d_M_fits_198 : decode c_M_fits 198 = .ok (.iaload, 1) := by decide +kernel
theorem d_M_fits_199 : decode c_M_fits 199 = .ok (.iconst 5, 1) := by decide +kernel
