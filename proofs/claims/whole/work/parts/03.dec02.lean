theorem d_S_serveAll_1 : decode c_S_serveAll 1 = .ok (.getfield 9, 3) := by decide +kernel
theorem d_S_serveAll_4 : decode c_S_serveAll 4 = .ok (.iconst 0, 1) := by decide +kernel
theorem d_S_serveAll_5 : decode c_S_serveAll 5 = .ok (.invokestatic 22, 3) := by decide +kernel
theorem d_S_serveAll_8 : decode c_S_serveAll 8 = .ok (.aload_n 0, 1) := by decide +kernel
theorem d_S_serveAll_9 : decode c_S_serveAll 9 = .ok (.aload_n 1, 1) := by decide +kernel
theorem d_S_serveAll_10 : decode c_S_serveAll 10 = .ok (.aload_n 2, 1) := by decide +kernel
theorem d_S_serveAll_11 : decode c_S_serveAll 11 = .ok (.invokevirtual 28, 3) := by decide +kernel
theorem d_S_serveAll_14 : decode c_S_serveAll 14 = .ok (.sipush 1000, 3) := by decide +kernel
theorem d_S_serveAll_17 : decode c_S_serveAll 17 = .ok (.istore_n 3, 1) := by decide +kernel
theorem d_S_serveAll_18 : decode c_S_serveAll 18 = .ok (.iconst 0, 1) := by decide +kernel
theorem d_S_serveAll_19 : decode c_S_serveAll 19 = .ok (.istore 4, 2) := by decide +kernel
theorem d_S_serveAll_21 : decode c_S_serveAll 21 = .ok (.iload 4, 2) := by decide +kernel
theorem d_S_serveAll_23 : decode c_S_serveAll 23 = .ok (.aload_n 0, 1) := by decide +kernel
theorem d_S_serveAll_24 : decode c_S_serveAll 24 = .ok (.getfield 18, 3) := by decide +kernel
theorem d_S_serveAll_27 : decode c_S_serveAll 27 = .ok (.if_icmp .ge 37, 3) := by decide +kernel
theorem d_S_serveAll_30 : decode c_S_serveAll 30 = .ok (.aload_n 0, 1) := by decide +kernel
theorem d_S_serveAll_31 : decode c_S_serveAll 31 = .ok (.aload_n 1, 1) := by decide +kernel
theorem d_S_serveAll_32 : decode c_S_serveAll 32 = .ok (.iload 4, 2) := by decide +kernel
theorem d_S_serveAll_34 : decode c_S_serveAll 34 = .ok (.invokevirtual 32, 3) := by decide +kernel
theorem d_S_serveAll_37 : decode c_S_serveAll 37 = .ok (.ifCond .eq 21, 3) := by decide +kernel
theorem d_S_serveAll_40 : decode c_S_serveAll 40 = .ok (.iload_n 3, 1) := by decide +kernel
theorem d_S_serveAll_41 : decode c_S_serveAll 41 = .ok (.aload_n 0, 1) := by decide +kernel
theorem d_S_serveAll_42 : decode c_S_serveAll 42 = .ok (.aload_n 1, 1) := by decide +kernel
theorem d_S_serveAll_43 : decode c_S_serveAll 43 = .ok (.iload 4, 2) := by decide +kernel
theorem d_S_serveAll_45 : decode c_S_serveAll 45 = .ok (.aload_n 0, 1) := by decide +kernel
theorem d_S_serveAll_46 : decode c_S_serveAll 46 = .ok (.aload_n 1, 1) := by decide +kernel
theorem d_S_serveAll_47 : decode c_S_serveAll 47 = .ok (.iload 4, 2) := by decide +kernel
theorem d_S_serveAll_49 : decode c_S_serveAll 49 = .ok (.invokevirtual 36, 3) := by decide +kernel
theorem d_S_serveAll_52 : decode c_S_serveAll 52 = .ok (.iload_n 3, 1) := by decide +kernel
theorem d_S_serveAll_53 : decode c_S_serveAll 53 = .ok (.invokevirtual 40, 3) := by decide +kernel
theorem d_S_serveAll_56 : decode c_S_serveAll 56 = .ok (.isub, 1) := by decide +kernel
theorem d_S_serveAll_57 : decode c_S_serveAll 57 = .ok (.istore_n 3, 1) := by decide +kernel
theorem d_S_serveAll_58 : decode c_S_serveAll 58 = .ok (.iinc 4 1, 3) := by decide +kernel
theorem d_S_serveAll_61 : decode c_S_serveAll 61 = .ok (.goto (-40), 3) := by decide +kernel
theorem d_S_serveAll_64 : decode c_S_serveAll 64 = .ok (.return_, 1) := by decide +kernel
theorem d_S_gatherAsks_0 : decode c_S_gatherAsks 0 = .ok (.aload_n 0, 1) := by decide +kernel
theorem d_S_gatherAsks_1 : decode c_S_gatherAsks 1 = .ok (.iconst 0, 1) := by decide +kernel
theorem d_S_gatherAsks_2 : decode c_S_gatherAsks 2 = .ok (.putfield 18, 3) := by decide +kernel
theorem d_S_gatherAsks_5 : decode c_S_gatherAsks 5 = .ok (.iconst 0, 1) := by decide +kernel
theorem d_S_gatherAsks_6 : decode c_S_gatherAsks 6 = .ok (.istore_n 3, 1) := by decide +kernel
theorem d_S_gatherAsks_7 : decode c_S_gatherAsks 7 = .ok (.iload_n 3, 1) := by decide +kernel
theorem d_S_gatherAsks_8 : decode c_S_gatherAsks 8 = .ok (.aload_n 2, 1) := by decide +kernel
theorem d_S_gatherAsks_9 : decode c_S_gatherAsks 9 = .ok (.getfield 44, 3) := by decide +kernel
theorem d_S_gatherAsks_12 : decode c_S_gatherAsks 12 = .ok (.if_icmp .ge 49, 3) := by decide +kernel
theorem d_S_gatherAsks_15 : decode c_S_gatherAsks 15 = .ok (.aload_n 1, 1) := by decide +kernel
theorem d_S_gatherAsks_16 : decode c_S_gatherAsks 16 = .ok (.getfield 47, 3) := by decide +kernel
theorem d_S_gatherAsks_19 : decode c_S_gatherAsks 19 = .ok (.aload_n 2, 1) := by decide +kernel
theorem d_S_gatherAsks_20 : decode c_S_gatherAsks 20 = .ok (.getfield 52, 3) := by decide +kernel
theorem d_S_gatherAsks_23 : decode c_S_gatherAsks 23 = .ok (.iload_n 3, 1) := by decide +kernel
theorem d_S_gatherAsks_24 : decode c_S_gatherAsks 24 = .ok (.iaload, 1) := by decide +kernel
theorem d_S_gatherAsks_25 : decode c_S_gatherAsks 25 = .ok (.iaload, 1) := by decide +kernel
theorem d_S_gatherAsks_26 : decode c_S_gatherAsks 26 = .ok (.iconst 4, 1) := by decide +kernel
theorem d_S_gatherAsks_27 : decode c_S_gatherAsks 27 = .ok (.if_icmp .ne 28, 3) := by decide +kernel
theorem d_S_gatherAsks_30 : decode c_S_gatherAsks 30 = .ok (.aload_n 0, 1) := by decide +kernel
theorem d_S_gatherAsks_31 : decode c_S_gatherAsks 31 = .ok (.getfield 15, 3) := by decide +kernel
theorem d_S_gatherAsks_34 : decode c_S_gatherAsks 34 = .ok (.aload_n 0, 1) := by decide +kernel
theorem d_S_gatherAsks_35 : decode c_S_gatherAsks 35 = .ok (.getfield 18, 3) := by decide +kernel
theorem d_S_gatherAsks_38 : decode c_S_gatherAsks 38 = .ok (.aload_n 2, 1) := by decide +kernel
theorem d_S_gatherAsks_39 : decode c_S_gatherAsks 39 = .ok (.getfield 52, 3) := by decide +kernel
theorem d_S_gatherAsks_42 : decode c_S_gatherAsks 42 = .ok (.iload_n 3, 1) := by decide +kernel
theorem d_S_gatherAsks_43 : decode c_S_gatherAsks 43 = .ok (.iaload, 1) := by decide +kernel
theorem d_S_gatherAsks_44 : decode c_S_gatherAsks 44 = .ok (.iastore, 1) := by decide +kernel
theorem d_S_gatherAsks_45 : decode c_S_gatherAsks 45 = .ok (.aload_n 0, 1) := by decide +kernel
theorem d_S_gatherAsks_46 : decode c_S_gatherAsks 46 = .ok (.dup, 1) := by decide +kernel
theorem d_S_gatherAsks_47 : decode c_S_gatherAsks 47 = .ok (.getfield 18, 3) := by decide +kernel
theorem d_S_gatherAsks_50 : decode c_S_gatherAsks 50 = .ok (.iconst 1, 1) := by decide +kernel
theorem d_S_gatherAsks_51 : decode c_S_gatherAsks 51 = .ok (.iadd, 1) := by decide +kernel
theorem d_S_gatherAsks_52 : decode c_S_gatherAsks 52 = .ok (.putfield 18, 3) := by decide +kernel
theorem d_S_gatherAsks_55 : decode c_S_gatherAsks 55 = .ok (.iinc 3 1, 3) := by decide +kernel
theorem d_S_gatherAsks_58 : decode c_S_gatherAsks 58 = .ok (.goto (-51), 3) := by decide +kernel
theorem d_S_gatherAsks_61 : decode c_S_gatherAsks 61 = .ok (.return_, 1) := by decide +kernel
theorem d_S_startsTime_0 : decode c_S_startsTime 0 = .ok (.iload_n 2, 1) := by decide +kernel
theorem d_S_startsTime_1 : decode c_S_startsTime 1 = .ok (.ifCond .eq 30, 3) := by decide +kernel
theorem d_S_startsTime_4 : decode c_S_startsTime 4 = .ok (.aload_n 1, 1) := by decide +kernel
theorem d_S_startsTime_5 : decode c_S_startsTime 5 = .ok (.getfield 55, 3) := by decide +kernel
theorem d_S_startsTime_8 : decode c_S_startsTime 8 = .ok (.aload_n 0, 1) := by decide +kernel
theorem d_S_startsTime_9 : decode c_S_startsTime 9 = .ok (.getfield 15, 3) := by decide +kernel
theorem d_S_startsTime_12 : decode c_S_startsTime 12 = .ok (.iload_n 2, 1) := by decide +kernel
theorem d_S_startsTime_13 : decode c_S_startsTime 13 = .ok (.iaload, 1) := by decide +kernel
theorem d_S_startsTime_14 : decode c_S_startsTime 14 = .ok (.iaload, 1) := by decide +kernel
theorem d_S_startsTime_15 : decode c_S_startsTime 15 = .ok (.aload_n 1, 1) := by decide +kernel
theorem d_S_startsTime_16 : decode c_S_startsTime 16 = .ok (.getfield 55, 3) := by decide +kernel
theorem d_S_startsTime_19 : decode c_S_startsTime 19 = .ok (.aload_n 0, 1) := by decide +kernel
theorem d_S_startsTime_20 : decode c_S_startsTime 20 = .ok (.getfield 15, 3) := by decide +kernel
theorem d_S_startsTime_23 : decode c_S_startsTime 23 = .ok (.iload_n 2, 1) := by decide +kernel
theorem d_S_startsTime_24 : decode c_S_startsTime 24 = .ok (.iconst 1, 1) := by decide +kernel
theorem d_S_startsTime_25 : decode c_S_startsTime 25 = .ok (.isub, 1) := by decide +kernel
theorem d_S_startsTime_26 : decode c_S_startsTime 26 = .ok (.iaload, 1) := by decide +kernel
theorem d_S_startsTime_27 : decode c_S_startsTime 27 = .ok (.iaload, 1) := by decide +kernel
theorem d_S_startsTime_28 : decode c_S_startsTime 28 = .ok (.if_icmp .eq 7, 3) := by decide +kernel
theorem d_S_startsTime_31 : decode c_S_startsTime 31 = .ok (.iconst 1, 1) := by decide +kernel
theorem d_S_startsTime_32 : decode c_S_startsTime 32 = .ok (.goto 4, 3) := by decide +kernel
theorem d_S_startsTime_35 : decode c_S_startsTime 35 = .ok (.iconst 0, 1) := by decide +kernel
theorem d_S_startsTime_36 : decode c_S_startsTime 36 = .ok (.ireturn, 1) := by decide +kernel
theorem d_S_endOfTime_0 : decode c_S_endOfTime 0 = .ok (.iload_n 2, 1) := by decide +kernel
theorem d_S_endOfTime_1 : decode c_S_endOfTime 1 = .ok (.iconst 1, 1) := by decide +kernel
theorem d_S_endOfTime_2 : decode c_S_endOfTime 2 = .ok (.iadd, 1) := by decide +kernel
theorem d_S_endOfTime_3 : decode c_S_endOfTime 3 = .ok (.istore_n 3, 1) := by decide +kernel
theorem d_S_endOfTime_4 : decode c_S_endOfTime 4 = .ok (.iload_n 3, 1) := by decide +kernel
theorem d_S_endOfTime_5 : decode c_S_endOfTime 5 = .ok (.aload_n 0, 1) := by decide +kernel
theorem d_S_endOfTime_6 : decode c_S_endOfTime 6 = .ok (.getfield 18, 3) := by decide +kernel
theorem d_S_endOfTime_9 : decode c_S_endOfTime 9 = .ok (.if_icmp .ge 18, 3) := by decide +kernel
theorem d_S_endOfTime_12 : decode c_S_endOfTime 12 = .ok (.aload_n 0, 1) := by decide +kernel
theorem d_S_endOfTime_13 : decode c_S_endOfTime 13 = .ok (.aload_n 1, 1) := by decide +kernel
theorem d_S_endOfTime_14 : decode c_S_endOfTime 14 = .ok (.iload_n 3, 1) := by decide +kernel
theorem d_S_endOfTime_15 : decode c_S_endOfTime 15 = .ok (.invokevirtual 32, 3) := by decide +kernel
theorem d_S_endOfTime_18 : decode c_S_endOfTime 18 = .ok (.ifCond .ne 9, 3) := by decide +kernel
theorem d_S_endOfTime_21 : decode c_S_endOfTime 21 = .ok (.iinc 3 1, 3) := by decide +kernel
theorem d_S_endOfTime_24 : decode c_S_endOfTime 24 = .ok (.goto (-20), 3) := by decide +kernel
theorem d_S_endOfTime_27 : decode c_S_endOfTime 27 = .ok (.iload_n 3, 1) := by decide +kernel
theorem d_S_endOfTime_28 : decode c_S_endOfTime 28 = .ok (.ireturn, 1) := by decide +kernel
theorem d_S_serveTime_0 : decode c_S_serveTime 0 = .ok (.iconst 0, 1) := by decide +kernel
theorem d_S_serveTime_1 : decode c_S_serveTime 1 = .ok (.istore 5, 2) := by decide +kernel
theorem d_S_serveTime_3 : decode c_S_serveTime 3 = .ok (.iload_n 2, 1) := by decide +kernel
theorem d_S_serveTime_4 : decode c_S_serveTime 4 = .ok (.istore 6, 2) := by decide +kernel
theorem d_S_serveTime_6 : decode c_S_serveTime 6 = .ok (.iload 6, 2) := by decide +kernel
theorem d_S_serveTime_8 : decode c_S_serveTime 8 = .ok (.iload_n 3, 1) := by decide +kernel
theorem d_S_serveTime_9 : decode c_S_serveTime 9 = .ok (.if_icmp .ge 26, 3) := by decide +kernel
theorem d_S_serveTime_12 : decode c_S_serveTime 12 = .ok (.iload 5, 2) := by decide +kernel
theorem d_S_serveTime_14 : decode c_S_serveTime 14 = .ok (.aload_n 1, 1) := by decide +kernel
theorem d_S_serveTime_15 : decode c_S_serveTime 15 = .ok (.getfield 58, 3) := by decide +kernel
theorem d_S_serveTime_18 : decode c_S_serveTime 18 = .ok (.aload_n 0, 1) := by decide +kernel
theorem d_S_serveTime_19 : decode c_S_serveTime 19 = .ok (.getfield 15, 3) := by decide +kernel
theorem d_S_serveTime_22 : decode c_S_serveTime 22 = .ok (.iload 6, 2) := by decide +kernel
theorem d_S_serveTime_24 : decode c_S_serveTime 24 = .ok (.iaload, 1) := by decide +kernel
theorem d_S_serveTime_25 : decode c_S_serveTime 25 = .ok (.iaload, 1) := by decide +kernel
theorem d_S_serveTime_26 : decode c_S_serveTime 26 = .ok (.iadd, 1) := by decide +kernel
theorem d_S_serveTime_27 : decode c_S_serveTime 27 = .ok (.istore 5, 2) := by decide +kernel
theorem d_S_serveTime_29 : decode c_S_serveTime 29 = .ok (.iinc 6 1, 3) := by decide +kernel
theorem d_S_serveTime_32 : decode c_S_serveTime 32 = .ok (.goto (-26), 3) := by decide +kernel
theorem d_S_serveTime_35 : decode c_S_serveTime 35 = .ok (.iconst 0, 1) := by decide +kernel
theorem d_S_serveTime_36 : decode c_S_serveTime 36 = .ok (.istore 6, 2) := by decide +kernel
theorem d_S_serveTime_38 : decode c_S_serveTime 38 = .ok (.iload_n 2, 1) := by decide +kernel
theorem d_S_serveTime_39 : decode c_S_serveTime 39 = .ok (.istore 7, 2) := by decide +kernel
theorem d_S_serveTime_41 : decode c_S_serveTime 41 = .ok (.iload 7, 2) := by decide +kernel
theorem d_S_serveTime_43 : decode c_S_serveTime 43 = .ok (.iload_n 3, 1) := by decide +kernel
theorem d_S_serveTime_44 : decode c_S_serveTime 44 = .ok (.if_icmp .ge 59, 3) := by decide +kernel
theorem d_S_serveTime_47 : decode c_S_serveTime 47 = .ok (.aload_n 1, 1) := by decide +kernel
theorem d_S_serveTime_48 : decode c_S_serveTime 48 = .ok (.getfield 58, 3) := by decide +kernel
theorem d_S_serveTime_51 : decode c_S_serveTime 51 = .ok (.aload_n 0, 1) := by decide +kernel
theorem d_S_serveTime_52 : decode c_S_serveTime 52 = .ok (.getfield 15, 3) := by decide +kernel
theorem d_S_serveTime_55 : decode c_S_serveTime 55 = .ok (.iload 7, 2) := by decide +kernel
theorem d_S_serveTime_57 : decode c_S_serveTime 57 = .ok (.iaload, 1) := by decide +kernel
theorem d_S_serveTime_58 : decode c_S_serveTime 58 = .ok (.iaload, 1) := by decide +kernel
theorem d_S_serveTime_59 : decode c_S_serveTime 59 = .ok (.iload 4, 2) := by decide +kernel
theorem d_S_serveTime_61 : decode c_S_serveTime 61 = .ok (.iload 5, 2) := by decide +kernel
theorem d_S_serveTime_63 : decode c_S_serveTime 63 = .ok (.invokestatic 61, 3) := by decide +kernel
theorem d_S_serveTime_66 : decode c_S_serveTime 66 = .ok (.istore 8, 2) := by decide +kernel
theorem d_S_serveTime_68 : decode c_S_serveTime 68 = .ok (.aload_n 0, 1) := by decide +kernel
theorem d_S_serveTime_69 : decode c_S_serveTime 69 = .ok (.getfield 9, 3) := by decide +kernel
theorem d_S_serveTime_72 : decode c_S_serveTime 72 = .ok (.aload_n 1, 1) := by decide +kernel
theorem d_S_serveTime_73 : decode c_S_serveTime 73 = .ok (.getfield 65, 3) := by decide +kernel
theorem d_S_serveTime_76 : decode c_S_serveTime 76 = .ok (.aload_n 0, 1) := by decide +kernel
theorem d_S_serveTime_77 : decode c_S_serveTime 77 = .ok (.getfield 15, 3) := by decide +kernel
theorem d_S_serveTime_80 : decode c_S_serveTime 80 = .ok (.iload 7, 2) := by decide +kernel
theorem d_S_serveTime_82 : decode c_S_serveTime 82 = .ok (.iaload, 1) := by decide +kernel
theorem d_S_serveTime_83 : decode c_S_serveTime 83 = .ok (.iaload, 1) := by decide +kernel
theorem d_S_serveTime_84 : decode c_S_serveTime 84 = .ok (.dup2, 1) := by decide +kernel
theorem d_S_serveTime_85 : decode c_S_serveTime 85 = .ok (.iaload, 1) := by decide +kernel
theorem d_S_serveTime_86 : decode c_S_serveTime 86 = .ok (.iload 8, 2) := by decide +kernel
theorem d_S_serveTime_88 : decode c_S_serveTime 88 = .ok (.iadd, 1) := by decide +kernel
theorem d_S_serveTime_89 : decode c_S_serveTime 89 = .ok (.iastore, 1) := by decide +kernel
theorem d_S_serveTime_90 : decode c_S_serveTime 90 = .ok (.iload 6, 2) := by decide +kernel
theorem d_S_serveTime_92 : decode c_S_serveTime 92 = .ok (.iload 8, 2) := by decide +kernel
theorem d_S_serveTime_94 : decode c_S_serveTime 94 = .ok (.iadd, 1) := by decide +kernel
theorem d_S_serveTime_95 : decode c_S_serveTime 95 = .ok (.istore 6, 2) := by decide +kernel
theorem d_S_serveTime_97 : decode c_S_serveTime 97 = .ok (.iinc 7 1, 3) := by decide +kernel
theorem d_S_serveTime_100 : decode c_S_serveTime 100 = .ok (.goto (-59), 3) := by decide +kernel
theorem d_S_serveTime_103 : decode c_S_serveTime 103 = .ok (.iload 4, 2) := by decide +kernel
theorem d_S_serveTime_105 : decode c_S_serveTime 105 = .ok (.iload 5, 2) := by decide +kernel
theorem d_S_serveTime_107 : decode c_S_serveTime 107 = .ok (.invokestatic 68, 3) := by decide +kernel
theorem d_S_serveTime_110 : decode c_S_serveTime 110 = .ok (.istore 7, 2) := by decide +kernel
theorem d_S_serveTime_112 : decode c_S_serveTime 112 = .ok (.iload_n 2, 1) := by decide +kernel
theorem d_S_serveTime_113 : decode c_S_serveTime 113 = .ok (.istore 8, 2) := by decide +kernel
theorem d_S_serveTime_115 : decode c_S_serveTime 115 = .ok (.iload 8, 2) := by decide +kernel
theorem d_S_serveTime_117 : decode c_S_serveTime 117 = .ok (.iload_n 3, 1) := by decide +kernel
theorem d_S_serveTime_118 : decode c_S_serveTime 118 = .ok (.if_icmp .ge 40, 3) := by decide +kernel
theorem d_S_serveTime_121 : decode c_S_serveTime 121 = .ok (.iload 6, 2) := by decide +kernel
theorem d_S_serveTime_123 : decode c_S_serveTime 123 = .ok (.iload 7, 2) := by decide +kernel
theorem d_S_serveTime_125 : decode c_S_serveTime 125 = .ok (.if_icmp .ge 33, 3) := by decide +kernel
theorem d_S_serveTime_128 : decode c_S_serveTime 128 = .ok (.aload_n 0, 1) := by decide +kernel
theorem d_S_serveTime_129 : decode c_S_serveTime 129 = .ok (.getfield 9, 3) := by decide +kernel
theorem d_S_serveTime_132 : decode c_S_serveTime 132 = .ok (.aload_n 1, 1) := by decide +kernel
theorem d_S_serveTime_133 : decode c_S_serveTime 133 = .ok (.getfield 65, 3) := by decide +kernel
theorem d_S_serveTime_136 : decode c_S_serveTime 136 = .ok (.aload_n 0, 1) := by decide +kernel
theorem d_S_serveTime_137 : decode c_S_serveTime 137 = .ok (.getfield 15, 3) := by decide +kernel
theorem d_S_serveTime_140 : decode c_S_serveTime 140 = .ok (.iload 8, 2) := by decide +kernel
theorem d_S_serveTime_142 : decode c_S_serveTime 142 = .ok (.iaload, 1) := by decide +kernel
theorem d_S_serveTime_143 : decode c_S_serveTime 143 = .ok (.iaload, 1) := by decide +kernel
theorem d_S_serveTime_144 : decode c_S_serveTime 144 = .ok (.dup2, 1) := by decide +kernel
theorem d_S_serveTime_145 : decode c_S_serveTime 145 = .ok (.iaload, 1) := by decide +kernel
theorem d_S_serveTime_146 : decode c_S_serveTime 146 = .ok (.iconst 1, 1) := by decide +kernel
theorem d_S_serveTime_147 : decode c_S_serveTime 147 = .ok (.iadd, 1) := by decide +kernel
theorem d_S_serveTime_148 : decode c_S_serveTime 148 = .ok (.iastore, 1) := by decide +kernel
theorem d_S_serveTime_149 : decode c_S_serveTime 149 = .ok (.iinc 6 1, 3) := by decide +kernel
theorem d_S_serveTime_152 : decode c_S_serveTime 152 = .ok (.iinc 8 1, 3) := by decide +kernel
theorem d_S_serveTime_155 : decode c_S_serveTime 155 = .ok (.goto (-40), 3) := by decide +kernel
theorem d_S_serveTime_158 : decode c_S_serveTime 158 = .ok (.iload 6, 2) := by decide +kernel
theorem d_S_serveTime_160 : decode c_S_serveTime 160 = .ok (.ireturn, 1) := by decide +kernel
theorem d_S_share_0 : decode c_S_share 0 = .ok (.iload_n 2, 1) := by decide +kernel
theorem d_S_share_1 : decode c_S_share 1 = .ok (.iload_n 1, 1) := by decide +kernel
theorem d_S_share_2 : decode c_S_share 2 = .ok (.if_icmp .le 7, 3) := by decide +kernel
theorem d_S_share_5 : decode c_S_share 5 = .ok (.iload_n 2, 1) := by decide +kernel
theorem d_S_share_6 : decode c_S_share 6 = .ok (.ifCond .gt 5, 3) := by decide +kernel
theorem d_S_share_9 : decode c_S_share 9 = .ok (.iload_n 0, 1) := by decide +kernel
theorem d_S_share_10 : decode c_S_share 10 = .ok (.ireturn, 1) := by decide +kernel
theorem d_S_share_11 : decode c_S_share 11 = .ok (.iload_n 0, 1) := by decide +kernel
theorem d_S_share_12 : decode c_S_share 12 = .ok (.iload_n 1, 1) := by decide +kernel
theorem d_S_share_13 : decode c_S_share 13 = .ok (.imul, 1) := by decide +kernel
theorem d_S_share_14 : decode c_S_share 14 = .ok (.iload_n 2, 1) := by decide +kernel
theorem d_S_share_15 : decode c_S_share 15 = .ok (.idiv, 1) := by decide +kernel
theorem d_S_share_16 : decode c_S_share 16 = .ok (.ireturn, 1) := by decide +kernel
theorem d_Ma_min_0 : decode c_Ma_min 0 = .ok (.iload_n 0, 1) := by decide +kernel
theorem d_Ma_min_1 : decode c_Ma_min 1 = .ok (.iload_n 1, 1) := by decide +kernel
theorem d_Ma_min_2 : decode c_Ma_min 2 = .ok (.if_icmp .gt 7, 3) := by decide +kernel
theorem d_Ma_min_5 : decode c_Ma_min 5 = .ok (.iload_n 0, 1) := by decide +kernel
theorem d_Ma_min_6 : decode c_Ma_min 6 = .ok (.goto 4, 3) := by decide +kernel
theorem d_Ma_min_9 : decode c_Ma_min 9 = .ok (.iload_n 1, 1) := by decide +kernel
theorem d_Ma_min_10 : decode c_Ma_min 10 = .ok (.ireturn, 1) := by decide +kernel
theorem d_L_apart_0 : decode c_L_apart 0 = .ok (.aload 5, 2) := by decide +kernel
theorem d_L_apart_2 : decode c_L_apart 2 = .ok (.iconst 0, 1) := by decide +kernel
theorem d_L_apart_3 : decode c_L_apart 3 = .ok (.aload_n 0, 1) := by decide +kernel
theorem d_L_apart_4 : decode c_L_apart 4 = .ok (.iload_n 1, 1) := by decide +kernel
theorem d_L_apart_5 : decode c_L_apart 5 = .ok (.iload_n 2, 1) := by decide +kernel
theorem d_L_apart_6 : decode c_L_apart 6 = .ok (.iload_n 3, 1) := by decide +kernel
theorem d_L_apart_7 : decode c_L_apart 7 = .ok (.iload 4, 2) := by decide +kernel
theorem d_L_apart_9 : decode c_L_apart 9 = .ok (.invokevirtual 27, 3) := by decide +kernel
theorem d_L_apart_12 : decode c_L_apart 12 = .ok (.i2l, 1) := by decide +kernel
theorem d_L_apart_13 : decode c_L_apart 13 = .ok (.lastore, 1) := by decide +kernel
theorem d_L_apart_14 : decode c_L_apart 14 = .ok (.goto 7, 3) := by decide +kernel
theorem d_L_apart_17 : decode c_L_apart 17 = .ok (.astore 6, 2) := by decide +kernel
theorem d_L_apart_19 : decode c_L_apart 19 = .ok (.iconst 1, 1) := by decide +kernel
theorem d_L_apart_20 : decode c_L_apart 20 = .ok (.ireturn, 1) := by decide +kernel
theorem d_L_apart_21 : decode c_L_apart 21 = .ok (.iconst 0, 1) := by decide +kernel
theorem d_L_apart_22 : decode c_L_apart 22 = .ok (.ireturn, 1) := by decide +kernel
theorem d_X_apart_0 : decode c_X_apart 0 = .ok (.iload_n 1, 1) := by decide +kernel
theorem d_X_apart_1 : decode c_X_apart 1 = .ok (.bipush 20, 2) := by decide +kernel
theorem d_X_apart_3 : decode c_X_apart 3 = .ok (.invokestatic 70, 3) := by decide +kernel
theorem d_X_apart_6 : decode c_X_apart 6 = .ok (.iload_n 2, 1) := by decide +kernel
theorem d_X_apart_7 : decode c_X_apart 7 = .ok (.bipush 20, 2) := by decide +kernel
theorem d_X_apart_9 : decode c_X_apart 9 = .ok (.invokestatic 70, 3) := by decide +kernel
theorem d_X_apart_12 : decode c_X_apart 12 = .ok (.aload_n 0, 1) := by decide +kernel
theorem d_X_apart_13 : decode c_X_apart 13 = .ok (.aload_n 0, 1) := by decide +kernel
theorem d_X_apart_14 : decode c_X_apart 14 = .ok (.getfield 26, 3) := by decide +kernel
theorem d_X_apart_17 : decode c_X_apart 17 = .ok (.iload_n 3, 1) := by decide +kernel
theorem d_X_apart_18 : decode c_X_apart 18 = .ok (.iload 4, 2) := by decide +kernel
theorem d_X_apart_20 : decode c_X_apart 20 = .ok (.invokevirtual 74, 3) := by decide +kernel
theorem d_X_apart_23 : decode c_X_apart 23 = .ok (.aload_n 0, 1) := by decide +kernel
theorem d_X_apart_24 : decode c_X_apart 24 = .ok (.getfield 26, 3) := by decide +kernel
theorem d_X_apart_27 : decode c_X_apart 27 = .ok (.getfield 78, 3) := by decide +kernel
theorem d_X_apart_30 : decode c_X_apart 30 = .ok (.iload_n 1, 1) := by decide +kernel
theorem d_X_apart_31 : decode c_X_apart 31 = .ok (.iaload, 1) := by decide +kernel
theorem d_X_apart_32 : decode c_X_apart 32 = .ok (.istore 5, 2) := by decide +kernel
theorem d_X_apart_34 : decode c_X_apart 34 = .ok (.aload_n 0, 1) := by decide +kernel
theorem d_X_apart_35 : decode c_X_apart 35 = .ok (.getfield 26, 3) := by decide +kernel
theorem d_X_apart_38 : decode c_X_apart 38 = .ok (.getfield 78, 3) := by decide +kernel
theorem d_X_apart_41 : decode c_X_apart 41 = .ok (.iload_n 2, 1) := by decide +kernel
theorem d_X_apart_42 : decode c_X_apart 42 = .ok (.iaload, 1) := by decide +kernel
theorem d_X_apart_43 : decode c_X_apart 43 = .ok (.istore 6, 2) := by decide +kernel
theorem d_X_apart_45 : decode c_X_apart 45 = .ok (.iload 5, 2) := by decide +kernel
theorem d_X_apart_47 : decode c_X_apart 47 = .ok (.iconst (-1), 1) := by decide +kernel
theorem d_X_apart_48 : decode c_X_apart 48 = .ok (.if_icmp .eq 9, 3) := by decide +kernel
theorem d_X_apart_51 : decode c_X_apart 51 = .ok (.iload 6, 2) := by decide +kernel
theorem d_X_apart_53 : decode c_X_apart 53 = .ok (.iconst (-1), 1) := by decide +kernel
theorem d_X_apart_54 : decode c_X_apart 54 = .ok (.if_icmp .ne 7, 3) := by decide +kernel
theorem d_X_apart_57 : decode c_X_apart 57 = .ok (.iconst (-1), 1) := by decide +kernel
theorem d_X_apart_58 : decode c_X_apart 58 = .ok (.goto 10, 3) := by decide +kernel
theorem d_X_apart_61 : decode c_X_apart 61 = .ok (.iload 5, 2) := by decide +kernel
theorem d_X_apart_63 : decode c_X_apart 63 = .ok (.iload 6, 2) := by decide +kernel
theorem d_X_apart_65 : decode c_X_apart 65 = .ok (.invokestatic 102, 3) := by decide +kernel
theorem d_X_apart_68 : decode c_X_apart 68 = .ok (.ireturn, 1) := by decide +kernel
theorem d_X_distance_0 : decode c_X_distance 0 = .ok (.iload_n 0, 1) := by decide +kernel
theorem d_X_distance_1 : decode c_X_distance 1 = .ok (.bipush 10, 2) := by decide +kernel
theorem d_X_distance_3 : decode c_X_distance 3 = .ok (.idiv, 1) := by decide +kernel
theorem d_X_distance_4 : decode c_X_distance 4 = .ok (.iload_n 1, 1) := by decide +kernel
theorem d_X_distance_5 : decode c_X_distance 5 = .ok (.bipush 10, 2) := by decide +kernel
theorem d_X_distance_7 : decode c_X_distance 7 = .ok (.idiv, 1) := by decide +kernel
theorem d_X_distance_8 : decode c_X_distance 8 = .ok (.isub, 1) := by decide +kernel
theorem d_X_distance_9 : decode c_X_distance 9 = .ok (.invokestatic 165, 3) := by decide +kernel
theorem d_X_distance_12 : decode c_X_distance 12 = .ok (.iload_n 0, 1) := by decide +kernel
theorem d_X_distance_13 : decode c_X_distance 13 = .ok (.bipush 10, 2) := by decide +kernel
theorem d_X_distance_15 : decode c_X_distance 15 = .ok (.irem, 1) := by decide +kernel
theorem d_X_distance_16 : decode c_X_distance 16 = .ok (.iload_n 1, 1) := by decide +kernel
theorem d_X_distance_17 : decode c_X_distance 17 = .ok (.bipush 10, 2) := by decide +kernel
theorem d_X_distance_19 : decode c_X_distance 19 = .ok (.irem, 1) := by decide +kernel
theorem d_X_distance_20 : decode c_X_distance 20 = .ok (.isub, 1) := by decide +kernel
theorem d_X_distance_21 : decode c_X_distance 21 = .ok (.invokestatic 165, 3) := by decide +kernel
theorem d_X_distance_24 : decode c_X_distance 24 = .ok (.iadd, 1) := by decide +kernel
theorem d_X_distance_25 : decode c_X_distance 25 = .ok (.ireturn, 1) := by decide +kernel
theorem d_Ma_abs_0 : decode c_Ma_abs 0 = .ok (.iload_n 0, 1) := by decide +kernel
theorem d_Ma_abs_1 : decode c_Ma_abs 1 = .ok (.ifCond .ge 8, 3) := by decide +kernel
theorem d_Ma_abs_4 : decode c_Ma_abs 4 = .ok (.iload_n 0, 1) := by decide +kernel
theorem d_Ma_abs_5 : decode c_Ma_abs 5 = .ok (.ineg, 1) := by decide +kernel
theorem d_Ma_abs_6 : decode c_Ma_abs 6 = .ok (.goto 4, 3) := by decide +kernel
theorem d_Ma_abs_9 : decode c_Ma_abs 9 = .ok (.iload_n 0, 1) := by decide +kernel
theorem d_Ma_abs_10 : decode c_Ma_abs 10 = .ok (.ireturn, 1) := by decide +kernel
theorem d_L_least_0 : decode c_L_least 0 = .ok (.aload_n 3, 1) := by decide +kernel
theorem d_L_least_1 : decode c_L_least 1 = .ok (.iconst 0, 1) := by decide +kernel
theorem d_L_least_2 : decode c_L_least 2 = .ok (.aload_n 0, 1) := by decide +kernel
theorem d_L_least_3 : decode c_L_least 3 = .ok (.iload_n 1, 1) := by decide +kernel
theorem d_L_least_4 : decode c_L_least 4 = .ok (.iload_n 2, 1) := by decide +kernel
theorem d_L_least_5 : decode c_L_least 5 = .ok (.invokevirtual 31, 3) := by decide +kernel
theorem d_L_least_8 : decode c_L_least 8 = .ok (.i2l, 1) := by decide +kernel
theorem d_L_least_9 : decode c_L_least 9 = .ok (.lastore, 1) := by decide +kernel
theorem d_L_least_10 : decode c_L_least 10 = .ok (.goto 7, 3) := by decide +kernel
theorem d_L_least_13 : decode c_L_least 13 = .ok (.astore 4, 2) := by decide +kernel
theorem d_L_least_15 : decode c_L_least 15 = .ok (.iconst 1, 1) := by decide +kernel
theorem d_L_least_16 : decode c_L_least 16 = .ok (.ireturn, 1) := by decide +kernel
theorem d_L_least_17 : decode c_L_least 17 = .ok (.iconst 0, 1) := by decide +kernel
theorem d_L_least_18 : decode c_L_least 18 = .ok (.ireturn, 1) := by decide +kernel
theorem d_X_least_0 : decode c_X_least 0 = .ok (.aload_n 0, 1) := by decide +kernel
theorem d_X_least_1 : decode c_X_least 1 = .ok (.aload_n 0, 1) := by decide +kernel
theorem d_X_least_2 : decode c_X_least 2 = .ok (.getfield 26, 3) := by decide +kernel
theorem d_X_least_5 : decode c_X_least 5 = .ok (.iload_n 1, 1) := by decide +kernel
theorem d_X_least_6 : decode c_X_least 6 = .ok (.iload_n 2, 1) := by decide +kernel
theorem d_X_least_7 : decode c_X_least 7 = .ok (.invokevirtual 74, 3) := by decide +kernel
theorem d_X_least_10 : decode c_X_least 10 = .ok (.aload_n 0, 1) := by decide +kernel
theorem d_X_least_11 : decode c_X_least 11 = .ok (.getfield 43, 3) := by decide +kernel
theorem d_X_least_14 : decode c_X_least 14 = .ok (.aload_n 0, 1) := by decide +kernel
theorem d_X_least_15 : decode c_X_least 15 = .ok (.getfield 26, 3) := by decide +kernel
theorem d_X_least_18 : decode c_X_least 18 = .ok (.invokevirtual 106, 3) := by decide +kernel
theorem d_X_least_21 : decode c_X_least 21 = .ok (.ireturn, 1) := by decide +kernel
theorem d_B_leastWay_0 : decode c_B_leastWay 0 = .ok (.aload_n 0, 1) := by decide +kernel
theorem d_B_leastWay_1 : decode c_B_leastWay 1 = .ok (.aload_n 1, 1) := by decide +kernel
theorem d_B_leastWay_2 : decode c_B_leastWay 2 = .ok (.invokevirtual 22, 3) := by decide +kernel
theorem d_B_leastWay_5 : decode c_B_leastWay 5 = .ok (.ifCond .ne 5, 3) := by decide +kernel
theorem d_B_leastWay_8 : decode c_B_leastWay 8 = .ok (.iconst (-1), 1) := by decide +kernel
theorem d_B_leastWay_9 : decode c_B_leastWay 9 = .ok (.ireturn, 1) := by decide +kernel
theorem d_B_leastWay_10 : decode c_B_leastWay 10 = .ok (.iconst 1, 1) := by decide +kernel
theorem d_B_leastWay_11 : decode c_B_leastWay 11 = .ok (.aload_n 0, 1) := by decide +kernel
theorem d_B_leastWay_12 : decode c_B_leastWay 12 = .ok (.getfield 18, 3) := by decide +kernel
theorem d_B_leastWay_15 : decode c_B_leastWay 15 = .ok (.ishl, 1) := by decide +kernel
theorem d_B_leastWay_16 : decode c_B_leastWay 16 = .ok (.iconst 1, 1) := by decide +kernel
theorem d_B_leastWay_17 : decode c_B_leastWay 17 = .ok (.isub, 1) := by decide +kernel
theorem d_B_leastWay_18 : decode c_B_leastWay 18 = .ok (.istore_n 2, 1) := by decide +kernel
theorem d_B_leastWay_19 : decode c_B_leastWay 19 = .ok (.aload_n 0, 1) := by decide +kernel
theorem d_B_leastWay_20 : decode c_B_leastWay 20 = .ok (.getfield 15, 3) := by decide +kernel
theorem d_B_leastWay_23 : decode c_B_leastWay 23 = .ok (.iconst 0, 1) := by decide +kernel
theorem d_B_leastWay_24 : decode c_B_leastWay 24 = .ok (.iconst 0, 1) := by decide +kernel
theorem d_B_leastWay_25 : decode c_B_leastWay 25 = .ok (.iastore, 1) := by decide +kernel
theorem d_B_leastWay_26 : decode c_B_leastWay 26 = .ok (.iconst 1, 1) := by decide +kernel
theorem d_B_leastWay_27 : decode c_B_leastWay 27 = .ok (.istore_n 3, 1) := by decide +kernel
theorem d_B_leastWay_28 : decode c_B_leastWay 28 = .ok (.iload_n 3, 1) := by decide +kernel
theorem d_B_leastWay_29 : decode c_B_leastWay 29 = .ok (.iload_n 2, 1) := by decide +kernel
theorem d_B_leastWay_30 : decode c_B_leastWay 30 = .ok (.if_icmp .gt 20, 3) := by decide +kernel
theorem d_B_leastWay_33 : decode c_B_leastWay 33 = .ok (.aload_n 0, 1) := by decide +kernel
theorem d_B_leastWay_34 : decode c_B_leastWay 34 = .ok (.getfield 15, 3) := by decide +kernel
theorem d_B_leastWay_37 : decode c_B_leastWay 37 = .ok (.iload_n 3, 1) := by decide +kernel
theorem d_B_leastWay_38 : decode c_B_leastWay 38 = .ok (.aload_n 0, 1) := by decide +kernel
theorem d_B_leastWay_39 : decode c_B_leastWay 39 = .ok (.iload_n 3, 1) := by decide +kernel
theorem d_B_leastWay_40 : decode c_B_leastWay 40 = .ok (.invokevirtual 26, 3) := by decide +kernel
theorem d_B_leastWay_43 : decode c_B_leastWay 43 = .ok (.iastore, 1) := by decide +kernel
theorem d_B_leastWay_44 : decode c_B_leastWay 44 = .ok (.iinc 3 1, 3) := by decide +kernel
theorem d_B_leastWay_47 : decode c_B_leastWay 47 = .ok (.goto (-19), 3) := by decide +kernel
theorem d_B_leastWay_50 : decode c_B_leastWay 50 = .ok (.aload_n 0, 1) := by decide +kernel
theorem d_B_leastWay_51 : decode c_B_leastWay 51 = .ok (.getfield 15, 3) := by decide +kernel
theorem d_B_leastWay_54 : decode c_B_leastWay 54 = .ok (.iload_n 2, 1) := by decide +kernel
theorem d_B_leastWay_55 : decode c_B_leastWay 55 = .ok (.iaload, 1) := by decide +kernel
theorem d_B_leastWay_56 : decode c_B_leastWay 56 = .ok (.ireturn, 1) := by decide +kernel
theorem d_B_gatherBoxes_0 : decode c_B_gatherBoxes 0 = .ok (.aload_n 0, 1) := by decide +kernel
theorem d_B_gatherBoxes_1 : decode c_B_gatherBoxes 1 = .ok (.iconst 0, 1) := by decide +kernel
theorem d_B_gatherBoxes_2 : decode c_B_gatherBoxes 2 = .ok (.putfield 18, 3) := by decide +kernel
theorem d_B_gatherBoxes_5 : decode c_B_gatherBoxes 5 = .ok (.iconst 0, 1) := by decide +kernel
theorem d_B_gatherBoxes_6 : decode c_B_gatherBoxes 6 = .ok (.istore_n 2, 1) := by decide +kernel
theorem d_B_gatherBoxes_7 : decode c_B_gatherBoxes 7 = .ok (.iload_n 2, 1) := by decide +kernel
theorem d_B_gatherBoxes_8 : decode c_B_gatherBoxes 8 = .ok (.bipush 20, 2) := by decide +kernel
theorem d_B_gatherBoxes_10 : decode c_B_gatherBoxes 10 = .ok (.if_icmp .ge 55, 3) := by decide +kernel
theorem d_B_gatherBoxes_13 : decode c_B_gatherBoxes 13 = .ok (.aload_n 1, 1) := by decide +kernel
theorem d_B_gatherBoxes_14 : decode c_B_gatherBoxes 14 = .ok (.getfield 30, 3) := by decide +kernel
theorem d_B_gatherBoxes_17 : decode c_B_gatherBoxes 17 = .ok (.iload_n 2, 1) := by decide +kernel
theorem d_B_gatherBoxes_18 : decode c_B_gatherBoxes 18 = .ok (.iaload, 1) := by decide +kernel
theorem d_B_gatherBoxes_19 : decode c_B_gatherBoxes 19 = .ok (.iconst (-1), 1) := by decide +kernel
theorem d_B_gatherBoxes_20 : decode c_B_gatherBoxes 20 = .ok (.if_icmp .eq 39, 3) := by decide +kernel
theorem d_B_gatherBoxes_23 : decode c_B_gatherBoxes 23 = .ok (.aload_n 0, 1) := by decide +kernel
theorem d_B_gatherBoxes_24 : decode c_B_gatherBoxes 24 = .ok (.getfield 18, 3) := by decide +kernel
theorem d_B_gatherBoxes_27 : decode c_B_gatherBoxes 27 = .ok (.bipush 6, 2) := by decide +kernel
theorem d_B_gatherBoxes_29 : decode c_B_gatherBoxes 29 = .ok (.if_icmp .lt 5, 3) := by decide +kernel
theorem d_B_gatherBoxes_32 : decode c_B_gatherBoxes 32 = .ok (.iconst 0, 1) := by decide +kernel
theorem d_B_gatherBoxes_33 : decode c_B_gatherBoxes 33 = .ok (.ireturn, 1) := by decide +kernel
theorem d_B_gatherBoxes_34 : decode c_B_gatherBoxes 34 = .ok (.aload_n 0, 1) := by decide +kernel
theorem d_B_gatherBoxes_35 : decode c_B_gatherBoxes 35 = .ok (.getfield 9, 3) := by decide +kernel
theorem d_B_gatherBoxes_38 : decode c_B_gatherBoxes 38 = .ok (.aload_n 0, 1) := by decide +kernel
theorem d_B_gatherBoxes_39 : decode c_B_gatherBoxes 39 = .ok (.getfield 18, 3) := by decide +kernel
theorem d_B_gatherBoxes_42 : decode c_B_gatherBoxes 42 = .ok (.aload_n 1, 1) := by decide +kernel
theorem d_B_gatherBoxes_43 : decode c_B_gatherBoxes 43 = .ok (.getfield 30, 3) := by decide +kernel
theorem d_B_gatherBoxes_46 : decode c_B_gatherBoxes 46 = .ok (.iload_n 2, 1) := by decide +kernel
theorem d_B_gatherBoxes_47 : decode c_B_gatherBoxes 47 = .ok (.iaload, 1) := by decide +kernel
theorem d_B_gatherBoxes_48 : decode c_B_gatherBoxes 48 = .ok (.iastore, 1) := by decide +kernel
theorem d_B_gatherBoxes_49 : decode c_B_gatherBoxes 49 = .ok (.aload_n 0, 1) := by decide +kernel
theorem d_B_gatherBoxes_50 : decode c_B_gatherBoxes 50 = .ok (.dup, 1) := by decide +kernel
theorem d_B_gatherBoxes_51 : decode c_B_gatherBoxes 51 = .ok (.getfield 18, 3) := by decide +kernel
theorem d_B_gatherBoxes_54 : decode c_B_gatherBoxes 54 = .ok (.iconst 1, 1) := by decide +kernel
theorem d_B_gatherBoxes_55 : decode c_B_gatherBoxes 55 = .ok (.iadd, 1) := by decide +kernel
theorem d_B_gatherBoxes_56 : decode c_B_gatherBoxes 56 = .ok (.putfield 18, 3) := by decide +kernel
theorem d_B_gatherBoxes_59 : decode c_B_gatherBoxes 59 = .ok (.iinc 2 1, 3) := by decide +kernel
theorem d_B_gatherBoxes_62 : decode c_B_gatherBoxes 62 = .ok (.goto (-55), 3) := by decide +kernel
theorem d_B_gatherBoxes_65 : decode c_B_gatherBoxes 65 = .ok (.iconst 1, 1) := by decide +kernel
theorem d_B_gatherBoxes_66 : decode c_B_gatherBoxes 66 = .ok (.ireturn, 1) := by decide +kernel
theorem d_B_leastFor_0 : decode c_B_leastFor 0 = .ok (.iload_n 1, 1) := by decide +kernel
theorem d_B_leastFor_1 : decode c_B_leastFor 1 = .ok (.invokestatic 35, 3) := by decide +kernel
theorem d_B_leastFor_4 : decode c_B_leastFor 4 = .ok (.iconst 1, 1) := by decide +kernel
theorem d_B_leastFor_5 : decode c_B_leastFor 5 = .ok (.isub, 1) := by decide +kernel
theorem d_B_leastFor_6 : decode c_B_leastFor 6 = .ok (.istore_n 2, 1) := by decide +kernel
theorem d_B_leastFor_7 : decode c_B_leastFor 7 = .ok (.iconst (-1), 1) := by decide +kernel
theorem d_B_leastFor_8 : decode c_B_leastFor 8 = .ok (.istore_n 3, 1) := by decide +kernel
theorem d_B_leastFor_9 : decode c_B_leastFor 9 = .ok (.iconst 0, 1) := by decide +kernel
theorem d_B_leastFor_10 : decode c_B_leastFor 10 = .ok (.istore 4, 2) := by decide +kernel
theorem d_B_leastFor_12 : decode c_B_leastFor 12 = .ok (.iload 4, 2) := by decide +kernel
theorem d_B_leastFor_14 : decode c_B_leastFor 14 = .ok (.aload_n 0, 1) := by decide +kernel
theorem d_B_leastFor_15 : decode c_B_leastFor 15 = .ok (.getfield 18, 3) := by decide +kernel
theorem d_B_leastFor_18 : decode c_B_leastFor 18 = .ok (.if_icmp .ge 62, 3) := by decide +kernel
theorem d_B_leastFor_21 : decode c_B_leastFor 21 = .ok (.iconst 1, 1) := by decide +kernel
theorem d_B_leastFor_22 : decode c_B_leastFor 22 = .ok (.iload 4, 2) := by decide +kernel
theorem d_B_leastFor_24 : decode c_B_leastFor 24 = .ok (.ishl, 1) := by decide +kernel
theorem d_B_leastFor_25 : decode c_B_leastFor 25 = .ok (.istore 5, 2) := by decide +kernel
theorem d_B_leastFor_27 : decode c_B_leastFor 27 = .ok (.iload_n 1, 1) := by decide +kernel
theorem d_B_leastFor_28 : decode c_B_leastFor 28 = .ok (.iload 5, 2) := by decide +kernel
theorem d_B_leastFor_30 : decode c_B_leastFor 30 = .ok (.iand, 1) := by decide +kernel
theorem d_B_leastFor_31 : decode c_B_leastFor 31 = .ok (.ifCond .eq 43, 3) := by decide +kernel
theorem d_B_leastFor_34 : decode c_B_leastFor 34 = .ok (.aload_n 0, 1) := by decide +kernel
