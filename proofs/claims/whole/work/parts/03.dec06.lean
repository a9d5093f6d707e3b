theorem d_M_ones_15 : decode c_M_ones 15 = .ok (.iand, 1) := by decide +kernel
theorem d_M_ones_16 : decode c_M_ones 16 = .ok (.iadd, 1) := by decide +kernel
theorem d_M_ones_17 : decode c_M_ones 17 = .ok (.istore_n 1, 1) := by decide +kernel
theorem d_M_ones_18 : decode c_M_ones 18 = .ok (.iinc 2 1, 3) := by decide +kernel
theorem d_M_ones_21 : decode c_M_ones 21 = .ok (.goto (-17), 3) := by decide +kernel
theorem d_M_ones_24 : decode c_M_ones 24 = .ok (.iload_n 1, 1) := by decide +kernel
theorem d_M_ones_25 : decode c_M_ones 25 = .ok (.ireturn, 1) := by decide +kernel
theorem d_M_lying_0 : decode c_M_lying 0 = .ok (.iload_n 1, 1) := by decide +kernel
theorem d_M_lying_1 : decode c_M_lying 1 = .ok (.istore_n 2, 1) := by decide +kernel
theorem d_M_lying_2 : decode c_M_lying 2 = .ok (.iconst 0, 1) := by decide +kernel
theorem d_M_lying_3 : decode c_M_lying 3 = .ok (.istore_n 3, 1) := by decide +kernel
theorem d_M_lying_4 : decode c_M_lying 4 = .ok (.iload_n 3, 1) := by decide +kernel
theorem d_M_lying_5 : decode c_M_lying 5 = .ok (.bipush 20, 2) := by decide +kernel
theorem d_M_lying_7 : decode c_M_lying 7 = .ok (.if_icmp .ge 46, 3) := by decide +kernel
theorem d_M_lying_10 : decode c_M_lying 10 = .ok (.aload_n 0, 1) := by decide +kernel
theorem d_M_lying_11 : decode c_M_lying 11 = .ok (.getfield 25, 3) := by decide +kernel
theorem d_M_lying_14 : decode c_M_lying 14 = .ok (.iload_n 3, 1) := by decide +kernel
theorem d_M_lying_15 : decode c_M_lying 15 = .ok (.iaload, 1) := by decide +kernel
theorem d_M_lying_16 : decode c_M_lying 16 = .ok (.ifCond .lt 14, 3) := by decide +kernel
theorem d_M_lying_19 : decode c_M_lying 19 = .ok (.iload_n 2, 1) := by decide +kernel
theorem d_M_lying_20 : decode c_M_lying 20 = .ok (.ifCond .ne 10, 3) := by decide +kernel
theorem d_M_lying_23 : decode c_M_lying 23 = .ok (.aload_n 0, 1) := by decide +kernel
theorem d_M_lying_24 : decode c_M_lying 24 = .ok (.getfield 25, 3) := by decide +kernel
theorem d_M_lying_27 : decode c_M_lying 27 = .ok (.iload_n 3, 1) := by decide +kernel
theorem d_M_lying_28 : decode c_M_lying 28 = .ok (.iaload, 1) := by decide +kernel
theorem d_M_lying_29 : decode c_M_lying 29 = .ok (.ireturn, 1) := by decide +kernel
theorem d_M_lying_30 : decode c_M_lying 30 = .ok (.iload_n 2, 1) := by decide +kernel
theorem d_M_lying_31 : decode c_M_lying 31 = .ok (.aload_n 0, 1) := by decide +kernel
theorem d_M_lying_32 : decode c_M_lying 32 = .ok (.getfield 25, 3) := by decide +kernel
theorem d_M_lying_35 : decode c_M_lying 35 = .ok (.iload_n 3, 1) := by decide +kernel
theorem d_M_lying_36 : decode c_M_lying 36 = .ok (.iaload, 1) := by decide +kernel
theorem d_M_lying_37 : decode c_M_lying 37 = .ok (.ifCond .lt 7, 3) := by decide +kernel
theorem d_M_lying_40 : decode c_M_lying 40 = .ok (.iconst 1, 1) := by decide +kernel
theorem d_M_lying_41 : decode c_M_lying 41 = .ok (.goto 4, 3) := by decide +kernel
theorem d_M_lying_44 : decode c_M_lying 44 = .ok (.iconst 0, 1) := by decide +kernel
theorem d_M_lying_45 : decode c_M_lying 45 = .ok (.isub, 1) := by decide +kernel
theorem d_M_lying_46 : decode c_M_lying 46 = .ok (.istore_n 2, 1) := by decide +kernel
theorem d_M_lying_47 : decode c_M_lying 47 = .ok (.iinc 3 1, 3) := by decide +kernel
theorem d_M_lying_50 : decode c_M_lying 50 = .ok (.goto (-46), 3) := by decide +kernel
theorem d_M_lying_53 : decode c_M_lying 53 = .ok (.iconst (-1), 1) := by decide +kernel
theorem d_M_lying_54 : decode c_M_lying 54 = .ok (.ireturn, 1) := by decide +kernel
theorem d_M_look_0 : decode c_M_look 0 = .ok (.iload_n 1, 1) := by decide +kernel
theorem d_M_look_1 : decode c_M_look 1 = .ok (.ifCond .lt 20, 3) := by decide +kernel
theorem d_M_look_4 : decode c_M_look 4 = .ok (.iload_n 1, 1) := by decide +kernel
theorem d_M_look_5 : decode c_M_look 5 = .ok (.aload_n 0, 1) := by decide +kernel
theorem d_M_look_6 : decode c_M_look 6 = .ok (.getfield 50, 3) := by decide +kernel
theorem d_M_look_9 : decode c_M_look 9 = .ok (.if_icmp .ge 12, 3) := by decide +kernel
theorem d_M_look_12 : decode c_M_look 12 = .ok (.iload_n 2, 1) := by decide +kernel
theorem d_M_look_13 : decode c_M_look 13 = .ok (.iconst 0, 1) := by decide +kernel
theorem d_M_look_14 : decode c_M_look 14 = .ok (.iconst 5, 1) := by decide +kernel
theorem d_M_look_15 : decode c_M_look 15 = .ok (.invokestatic 44, 3) := by decide +kernel
theorem d_M_look_18 : decode c_M_look 18 = .ok (.ifCond .ne 9, 3) := by decide +kernel
theorem d_M_look_21 : decode c_M_look 21 = .ok (.aload_n 0, 1) := by decide +kernel
theorem d_M_look_22 : decode c_M_look 22 = .ok (.iconst 1, 1) := by decide +kernel
theorem d_M_look_23 : decode c_M_look 23 = .ok (.invokevirtual 121, 3) := by decide +kernel
theorem d_M_look_26 : decode c_M_look 26 = .ok (.ireturn, 1) := by decide +kernel
theorem d_M_look_27 : decode c_M_look 27 = .ok (.aload_n 0, 1) := by decide +kernel
theorem d_M_look_28 : decode c_M_look 28 = .ok (.iconst 0, 1) := by decide +kernel
theorem d_M_look_29 : decode c_M_look 29 = .ok (.putfield 40, 3) := by decide +kernel
theorem d_M_look_32 : decode c_M_look 32 = .ok (.iload_n 2, 1) := by decide +kernel
theorem d_M_look_33 : decode c_M_look 33 = .ok (.tableswitch 70 0 4 #[35, 42, 49, 56, 63], 35) := by decide +kernel
theorem d_M_look_68 : decode c_M_look 68 = .ok (.aload_n 0, 1) := by decide +kernel
theorem d_M_look_69 : decode c_M_look 69 = .ok (.getfield 7, 3) := by decide +kernel
theorem d_M_look_72 : decode c_M_look 72 = .ok (.iload_n 1, 1) := by decide +kernel
theorem d_M_look_73 : decode c_M_look 73 = .ok (.iaload, 1) := by decide +kernel
theorem d_M_look_74 : decode c_M_look 74 = .ok (.ireturn, 1) := by decide +kernel
theorem d_M_look_75 : decode c_M_look 75 = .ok (.aload_n 0, 1) := by decide +kernel
theorem d_M_look_76 : decode c_M_look 76 = .ok (.getfield 13, 3) := by decide +kernel
theorem d_M_look_79 : decode c_M_look 79 = .ok (.iload_n 1, 1) := by decide +kernel
theorem d_M_look_80 : decode c_M_look 80 = .ok (.iaload, 1) := by decide +kernel
theorem d_M_look_81 : decode c_M_look 81 = .ok (.ireturn, 1) := by decide +kernel
theorem d_M_look_82 : decode c_M_look 82 = .ok (.aload_n 0, 1) := by decide +kernel
theorem d_M_look_83 : decode c_M_look 83 = .ok (.getfield 16, 3) := by decide +kernel
theorem d_M_look_86 : decode c_M_look 86 = .ok (.iload_n 1, 1) := by decide +kernel
theorem d_M_look_87 : decode c_M_look 87 = .ok (.iaload, 1) := by decide +kernel
theorem d_M_look_88 : decode c_M_look 88 = .ok (.ireturn, 1) := by decide +kernel
theorem d_M_look_89 : decode c_M_look 89 = .ok (.aload_n 0, 1) := by decide +kernel
theorem d_M_look_90 : decode c_M_look 90 = .ok (.getfield 19, 3) := by decide +kernel
theorem d_M_look_93 : decode c_M_look 93 = .ok (.iload_n 1, 1) := by decide +kernel
theorem d_M_look_94 : decode c_M_look 94 = .ok (.iaload, 1) := by decide +kernel
theorem d_M_look_95 : decode c_M_look 95 = .ok (.ireturn, 1) := by decide +kernel
theorem d_M_look_96 : decode c_M_look 96 = .ok (.aload_n 0, 1) := by decide +kernel
theorem d_M_look_97 : decode c_M_look 97 = .ok (.getfield 22, 3) := by decide +kernel
theorem d_M_look_100 : decode c_M_look 100 = .ok (.iload_n 1, 1) := by decide +kernel
theorem d_M_look_101 : decode c_M_look 101 = .ok (.iaload, 1) := by decide +kernel
theorem d_M_look_102 : decode c_M_look 102 = .ok (.ireturn, 1) := by decide +kernel
theorem d_M_look_103 : decode c_M_look 103 = .ok (.aload_n 0, 1) := by decide +kernel
theorem d_M_look_104 : decode c_M_look 104 = .ok (.iload_n 1, 1) := by decide +kernel
theorem d_M_look_105 : decode c_M_look 105 = .ok (.aload_n 0, 1) := by decide +kernel
theorem d_M_look_106 : decode c_M_look 106 = .ok (.getfield 63, 3) := by decide +kernel
theorem d_M_look_109 : decode c_M_look 109 = .ok (.invokevirtual 66, 3) := by decide +kernel
theorem d_M_look_112 : decode c_M_look 112 = .ok (.ifCond .eq 7, 3) := by decide +kernel
theorem d_M_look_115 : decode c_M_look 115 = .ok (.iconst 1, 1) := by decide +kernel
theorem d_M_look_116 : decode c_M_look 116 = .ok (.goto 4, 3) := by decide +kernel
theorem d_M_look_119 : decode c_M_look 119 = .ok (.iconst 0, 1) := by decide +kernel
theorem d_M_look_120 : decode c_M_look 120 = .ok (.ireturn, 1) := by decide +kernel
theorem d_M_refuse_0 : decode c_M_refuse 0 = .ok (.aload_n 0, 1) := by decide +kernel
theorem d_M_refuse_1 : decode c_M_refuse 1 = .ok (.iload_n 1, 1) := by decide +kernel
theorem d_M_refuse_2 : decode c_M_refuse 2 = .ok (.putfield 40, 3) := by decide +kernel
theorem d_M_refuse_5 : decode c_M_refuse 5 = .ok (.iconst 0, 1) := by decide +kernel
theorem d_M_refuse_6 : decode c_M_refuse 6 = .ok (.ireturn, 1) := by decide +kernel
theorem d_M_changed_0 : decode c_M_changed 0 = .ok (.aload_n 0, 1) := by decide +kernel
theorem d_M_changed_1 : decode c_M_changed 1 = .ok (.iload_n 3, 1) := by decide +kernel
theorem d_M_changed_2 : decode c_M_changed 2 = .ok (.invokestatic 56, 3) := by decide +kernel
theorem d_M_changed_5 : decode c_M_changed 5 = .ok (.iload_n 1, 1) := by decide +kernel
theorem d_M_changed_6 : decode c_M_changed 6 = .ok (.iload_n 2, 1) := by decide +kernel
theorem d_M_changed_7 : decode c_M_changed 7 = .ok (.invokevirtual 88, 3) := by decide +kernel
theorem d_M_changed_10 : decode c_M_changed 10 = .ok (.ifCond .ne 5, 3) := by decide +kernel
theorem d_M_changed_13 : decode c_M_changed 13 = .ok (.iconst 0, 1) := by decide +kernel
theorem d_M_changed_14 : decode c_M_changed 14 = .ok (.ireturn, 1) := by decide +kernel
theorem d_M_changed_15 : decode c_M_changed 15 = .ok (.iconst 0, 1) := by decide +kernel
theorem d_M_changed_16 : decode c_M_changed 16 = .ok (.istore 4, 2) := by decide +kernel
theorem d_M_changed_18 : decode c_M_changed 18 = .ok (.iconst 0, 1) := by decide +kernel
theorem d_M_changed_19 : decode c_M_changed 19 = .ok (.istore 5, 2) := by decide +kernel
theorem d_M_changed_21 : decode c_M_changed 21 = .ok (.iload 5, 2) := by decide +kernel
theorem d_M_changed_23 : decode c_M_changed 23 = .ok (.bipush 20, 2) := by decide +kernel
theorem d_M_changed_25 : decode c_M_changed 25 = .ok (.if_icmp .ge 52, 3) := by decide +kernel
theorem d_M_changed_28 : decode c_M_changed 28 = .ok (.aload_n 0, 1) := by decide +kernel
theorem d_M_changed_29 : decode c_M_changed 29 = .ok (.iload_n 1, 1) := by decide +kernel
theorem d_M_changed_30 : decode c_M_changed 30 = .ok (.iload_n 2, 1) := by decide +kernel
theorem d_M_changed_31 : decode c_M_changed 31 = .ok (.invokevirtual 92, 3) := by decide +kernel
theorem d_M_changed_34 : decode c_M_changed 34 = .ok (.aload_n 0, 1) := by decide +kernel
theorem d_M_changed_35 : decode c_M_changed 35 = .ok (.getfield 25, 3) := by decide +kernel
theorem d_M_changed_38 : decode c_M_changed 38 = .ok (.iload 5, 2) := by decide +kernel
theorem d_M_changed_40 : decode c_M_changed 40 = .ok (.iaload, 1) := by decide +kernel
theorem d_M_changed_41 : decode c_M_changed 41 = .ok (.istore 6, 2) := by decide +kernel
theorem d_M_changed_43 : decode c_M_changed 43 = .ok (.aload_n 0, 1) := by decide +kernel
theorem d_M_changed_44 : decode c_M_changed 44 = .ok (.iload_n 1, 1) := by decide +kernel
theorem d_M_changed_45 : decode c_M_changed 45 = .ok (.iload_n 3, 1) := by decide +kernel
theorem d_M_changed_46 : decode c_M_changed 46 = .ok (.invokevirtual 92, 3) := by decide +kernel
theorem d_M_changed_49 : decode c_M_changed 49 = .ok (.iload 4, 2) := by decide +kernel
theorem d_M_changed_51 : decode c_M_changed 51 = .ok (.aload_n 0, 1) := by decide +kernel
theorem d_M_changed_52 : decode c_M_changed 52 = .ok (.getfield 25, 3) := by decide +kernel
theorem d_M_changed_55 : decode c_M_changed 55 = .ok (.iload 5, 2) := by decide +kernel
theorem d_M_changed_57 : decode c_M_changed 57 = .ok (.iaload, 1) := by decide +kernel
theorem d_M_changed_58 : decode c_M_changed 58 = .ok (.iload 6, 2) := by decide +kernel
theorem d_M_changed_60 : decode c_M_changed 60 = .ok (.if_icmp .eq 7, 3) := by decide +kernel
theorem d_M_changed_63 : decode c_M_changed 63 = .ok (.iconst 1, 1) := by decide +kernel
theorem d_M_changed_64 : decode c_M_changed 64 = .ok (.goto 4, 3) := by decide +kernel
theorem d_M_changed_67 : decode c_M_changed 67 = .ok (.iconst 0, 1) := by decide +kernel
theorem d_M_changed_68 : decode c_M_changed 68 = .ok (.iadd, 1) := by decide +kernel
theorem d_M_changed_69 : decode c_M_changed 69 = .ok (.istore 4, 2) := by decide +kernel
theorem d_M_changed_71 : decode c_M_changed 71 = .ok (.iinc 5 1, 3) := by decide +kernel
theorem d_M_changed_74 : decode c_M_changed 74 = .ok (.goto (-53), 3) := by decide +kernel
theorem d_M_changed_77 : decode c_M_changed 77 = .ok (.iconst 0, 1) := by decide +kernel
theorem d_M_changed_78 : decode c_M_changed 78 = .ok (.istore 5, 2) := by decide +kernel
theorem d_M_changed_80 : decode c_M_changed 80 = .ok (.iload 5, 2) := by decide +kernel
theorem d_M_changed_82 : decode c_M_changed 82 = .ok (.bipush 10, 2) := by decide +kernel
theorem d_M_changed_84 : decode c_M_changed 84 = .ok (.if_icmp .ge 73, 3) := by decide +kernel
theorem d_M_changed_87 : decode c_M_changed 87 = .ok (.aload_n 0, 1) := by decide +kernel
theorem d_M_changed_88 : decode c_M_changed 88 = .ok (.iload_n 1, 1) := by decide +kernel
theorem d_M_changed_89 : decode c_M_changed 89 = .ok (.iload_n 2, 1) := by decide +kernel
theorem d_M_changed_90 : decode c_M_changed 90 = .ok (.invokevirtual 92, 3) := by decide +kernel
theorem d_M_changed_93 : decode c_M_changed 93 = .ok (.aload_n 0, 1) := by decide +kernel
theorem d_M_changed_94 : decode c_M_changed 94 = .ok (.getfield 28, 3) := by decide +kernel
theorem d_M_changed_97 : decode c_M_changed 97 = .ok (.iload 5, 2) := by decide +kernel
theorem d_M_changed_99 : decode c_M_changed 99 = .ok (.iaload, 1) := by decide +kernel
theorem d_M_changed_100 : decode c_M_changed 100 = .ok (.istore 6, 2) := by decide +kernel
theorem d_M_changed_102 : decode c_M_changed 102 = .ok (.aload_n 0, 1) := by decide +kernel
theorem d_M_changed_103 : decode c_M_changed 103 = .ok (.getfield 31, 3) := by decide +kernel
theorem d_M_changed_106 : decode c_M_changed 106 = .ok (.iload 5, 2) := by decide +kernel
theorem d_M_changed_108 : decode c_M_changed 108 = .ok (.iaload, 1) := by decide +kernel
theorem d_M_changed_109 : decode c_M_changed 109 = .ok (.istore 7, 2) := by decide +kernel
theorem d_M_changed_111 : decode c_M_changed 111 = .ok (.aload_n 0, 1) := by decide +kernel
theorem d_M_changed_112 : decode c_M_changed 112 = .ok (.iload_n 1, 1) := by decide +kernel
theorem d_M_changed_113 : decode c_M_changed 113 = .ok (.iload_n 3, 1) := by decide +kernel
theorem d_M_changed_114 : decode c_M_changed 114 = .ok (.invokevirtual 92, 3) := by decide +kernel
theorem d_M_changed_117 : decode c_M_changed 117 = .ok (.iload 4, 2) := by decide +kernel
theorem d_M_changed_119 : decode c_M_changed 119 = .ok (.aload_n 0, 1) := by decide +kernel
theorem d_M_changed_120 : decode c_M_changed 120 = .ok (.getfield 28, 3) := by decide +kernel
theorem d_M_changed_123 : decode c_M_changed 123 = .ok (.iload 5, 2) := by decide +kernel
theorem d_M_changed_125 : decode c_M_changed 125 = .ok (.iaload, 1) := by decide +kernel
theorem d_M_changed_126 : decode c_M_changed 126 = .ok (.iload 6, 2) := by decide +kernel
theorem d_M_changed_128 : decode c_M_changed 128 = .ok (.if_icmp .ne 15, 3) := by decide +kernel
theorem d_M_changed_131 : decode c_M_changed 131 = .ok (.aload_n 0, 1) := by decide +kernel
theorem d_M_changed_132 : decode c_M_changed 132 = .ok (.getfield 31, 3) := by decide +kernel
theorem d_M_changed_135 : decode c_M_changed 135 = .ok (.iload 5, 2) := by decide +kernel
theorem d_M_changed_137 : decode c_M_changed 137 = .ok (.iaload, 1) := by decide +kernel
theorem d_M_changed_138 : decode c_M_changed 138 = .ok (.iload 7, 2) := by decide +kernel
theorem d_M_changed_140 : decode c_M_changed 140 = .ok (.if_icmp .eq 7, 3) := by decide +kernel
theorem d_M_changed_143 : decode c_M_changed 143 = .ok (.iconst 1, 1) := by decide +kernel
theorem d_M_changed_144 : decode c_M_changed 144 = .ok (.goto 4, 3) := by decide +kernel
theorem d_M_changed_147 : decode c_M_changed 147 = .ok (.iconst 0, 1) := by decide +kernel
theorem d_M_changed_148 : decode c_M_changed 148 = .ok (.iadd, 1) := by decide +kernel
theorem d_M_changed_149 : decode c_M_changed 149 = .ok (.istore 4, 2) := by decide +kernel
theorem d_M_changed_151 : decode c_M_changed 151 = .ok (.iinc 5 1, 3) := by decide +kernel
theorem d_M_changed_154 : decode c_M_changed 154 = .ok (.goto (-74), 3) := by decide +kernel
theorem d_M_changed_157 : decode c_M_changed 157 = .ok (.iload 4, 2) := by decide +kernel
theorem d_M_changed_159 : decode c_M_changed 159 = .ok (.ireturn, 1) := by decide +kernel
theorem d_M_count_0 : decode c_M_count 0 = .ok (.aload_n 0, 1) := by decide +kernel
theorem d_M_count_1 : decode c_M_count 1 = .ok (.iconst 0, 1) := by decide +kernel
theorem d_M_count_2 : decode c_M_count 2 = .ok (.putfield 40, 3) := by decide +kernel
theorem d_M_count_5 : decode c_M_count 5 = .ok (.iconst 0, 1) := by decide +kernel
theorem d_M_count_6 : decode c_M_count 6 = .ok (.istore_n 2, 1) := by decide +kernel
theorem d_M_count_7 : decode c_M_count 7 = .ok (.iconst 0, 1) := by decide +kernel
theorem d_M_count_8 : decode c_M_count 8 = .ok (.istore_n 3, 1) := by decide +kernel
theorem d_M_count_9 : decode c_M_count 9 = .ok (.iload_n 3, 1) := by decide +kernel
theorem d_M_count_10 : decode c_M_count 10 = .ok (.aload_n 0, 1) := by decide +kernel
theorem d_M_count_11 : decode c_M_count 11 = .ok (.getfield 50, 3) := by decide +kernel
theorem d_M_count_14 : decode c_M_count 14 = .ok (.if_icmp .ge 29, 3) := by decide +kernel
theorem d_M_count_17 : decode c_M_count 17 = .ok (.iload_n 2, 1) := by decide +kernel
theorem d_M_count_18 : decode c_M_count 18 = .ok (.aload_n 0, 1) := by decide +kernel
theorem d_M_count_19 : decode c_M_count 19 = .ok (.iload_n 3, 1) := by decide +kernel
theorem d_M_count_20 : decode c_M_count 20 = .ok (.aload_n 0, 1) := by decide +kernel
theorem d_M_count_21 : decode c_M_count 21 = .ok (.getfield 63, 3) := by decide +kernel
theorem d_M_count_24 : decode c_M_count 24 = .ok (.invokevirtual 66, 3) := by decide +kernel
theorem d_M_count_27 : decode c_M_count 27 = .ok (.ifCond .eq 7, 3) := by decide +kernel
theorem d_M_count_30 : decode c_M_count 30 = .ok (.iconst 1, 1) := by decide +kernel
theorem d_M_count_31 : decode c_M_count 31 = .ok (.goto 4, 3) := by decide +kernel
theorem d_M_count_34 : decode c_M_count 34 = .ok (.iconst 0, 1) := by decide +kernel
theorem d_M_count_35 : decode c_M_count 35 = .ok (.iadd, 1) := by decide +kernel
theorem d_M_count_36 : decode c_M_count 36 = .ok (.istore_n 2, 1) := by decide +kernel
theorem d_M_count_37 : decode c_M_count 37 = .ok (.iinc 3 1, 3) := by decide +kernel
theorem d_M_count_40 : decode c_M_count 40 = .ok (.goto (-31), 3) := by decide +kernel
theorem d_M_count_43 : decode c_M_count 43 = .ok (.iload_n 1, 1) := by decide +kernel
theorem d_M_count_44 : decode c_M_count 44 = .ok (.ifCond .ne 10, 3) := by decide +kernel
theorem d_M_count_47 : decode c_M_count 47 = .ok (.aload_n 0, 1) := by decide +kernel
theorem d_M_count_48 : decode c_M_count 48 = .ok (.getfield 50, 3) := by decide +kernel
theorem d_M_count_51 : decode c_M_count 51 = .ok (.goto 37, 3) := by decide +kernel
theorem d_M_count_54 : decode c_M_count 54 = .ok (.iload_n 1, 1) := by decide +kernel
theorem d_M_count_55 : decode c_M_count 55 = .ok (.iconst 1, 1) := by decide +kernel
theorem d_M_count_56 : decode c_M_count 56 = .ok (.if_icmp .ne 10, 3) := by decide +kernel
theorem d_M_count_59 : decode c_M_count 59 = .ok (.aload_n 0, 1) := by decide +kernel
theorem d_M_count_60 : decode c_M_count 60 = .ok (.getfield 63, 3) := by decide +kernel
theorem d_M_count_63 : decode c_M_count 63 = .ok (.goto 25, 3) := by decide +kernel
theorem d_M_count_66 : decode c_M_count 66 = .ok (.iload_n 1, 1) := by decide +kernel
theorem d_M_count_67 : decode c_M_count 67 = .ok (.iconst 2, 1) := by decide +kernel
theorem d_M_count_68 : decode c_M_count 68 = .ok (.if_icmp .ne 10, 3) := by decide +kernel
theorem d_M_count_71 : decode c_M_count 71 = .ok (.aload_n 0, 1) := by decide +kernel
theorem d_M_count_72 : decode c_M_count 72 = .ok (.getfield 60, 3) := by decide +kernel
theorem d_M_count_75 : decode c_M_count 75 = .ok (.goto 13, 3) := by decide +kernel
theorem d_M_count_78 : decode c_M_count 78 = .ok (.iload_n 1, 1) := by decide +kernel
theorem d_M_count_79 : decode c_M_count 79 = .ok (.iconst 3, 1) := by decide +kernel
theorem d_M_count_80 : decode c_M_count 80 = .ok (.if_icmp .ne 7, 3) := by decide +kernel
theorem d_M_count_83 : decode c_M_count 83 = .ok (.iload_n 2, 1) := by decide +kernel
theorem d_M_count_84 : decode c_M_count 84 = .ok (.goto 4, 3) := by decide +kernel
theorem d_M_count_87 : decode c_M_count 87 = .ok (.iconst (-1), 1) := by decide +kernel
theorem d_M_count_88 : decode c_M_count 88 = .ok (.ireturn, 1) := by decide +kernel
theorem d_L_law_0 : decode c_L_law 0 = .ok (.new 8, 3) := by decide +kernel
theorem d_L_law_3 : decode c_L_law 3 = .ok (.dup, 1) := by decide +kernel
theorem d_L_law_4 : decode c_L_law 4 = .ok (.invokespecial 43, 3) := by decide +kernel
theorem d_L_law_7 : decode c_L_law 7 = .ok (.astore_n 1, 1) := by decide +kernel
theorem d_L_law_8 : decode c_L_law 8 = .ok (.new 44, 3) := by decide +kernel
theorem d_L_law_11 : decode c_L_law 11 = .ok (.dup, 1) := by decide +kernel
theorem d_L_law_12 : decode c_L_law 12 = .ok (.invokespecial 46, 3) := by decide +kernel
theorem d_L_law_15 : decode c_L_law 15 = .ok (.astore_n 2, 1) := by decide +kernel
theorem d_L_law_16 : decode c_L_law 16 = .ok (.iconst 1, 1) := by decide +kernel
theorem d_L_law_17 : decode c_L_law 17 = .ok (.newarray .long, 2) := by decide +kernel
theorem d_L_law_19 : decode c_L_law 19 = .ok (.astore_n 3, 1) := by decide +kernel
theorem d_L_law_20 : decode c_L_law 20 = .ok (.iconst 0, 1) := by decide +kernel
theorem d_L_law_21 : decode c_L_law 21 = .ok (.istore 4, 2) := by decide +kernel
theorem d_L_law_23 : decode c_L_law 23 = .ok (.iload 4, 2) := by decide +kernel
theorem d_L_law_25 : decode c_L_law 25 = .ok (.aload_n 0, 1) := by decide +kernel
theorem d_L_law_26 : decode c_L_law 26 = .ok (.arraylength, 1) := by decide +kernel
theorem d_L_law_27 : decode c_L_law 27 = .ok (.iconst 5, 1) := by decide +kernel
theorem d_L_law_28 : decode c_L_law 28 = .ok (.isub, 1) := by decide +kernel
theorem d_L_law_29 : decode c_L_law 29 = .ok (.if_icmp .gt 896, 3) := by decide +kernel
theorem d_L_law_32 : decode c_L_law 32 = .ok (.aload_n 0, 1) := by decide +kernel
theorem d_L_law_33 : decode c_L_law 33 = .ok (.iload 4, 2) := by decide +kernel
theorem d_L_law_35 : decode c_L_law 35 = .ok (.iaload, 1) := by decide +kernel
theorem d_L_law_36 : decode c_L_law 36 = .ok (.bipush 15, 2) := by decide +kernel
theorem d_L_law_38 : decode c_L_law 38 = .ok (.iand, 1) := by decide +kernel
theorem d_L_law_39 : decode c_L_law 39 = .ok (.tableswitch 880 0 11 #[61, 122, 147, 227, 307, 387, 467, 547, 639, 707, 775, 855], 61) := by decide +kernel
theorem d_L_law_100 : decode c_L_law 100 = .ok (.aload_n 1, 1) := by decide +kernel
theorem d_L_law_101 : decode c_L_law 101 = .ok (.aload_n 0, 1) := by decide +kernel
theorem d_L_law_102 : decode c_L_law 102 = .ok (.iload 4, 2) := by decide +kernel
theorem d_L_law_104 : decode c_L_law 104 = .ok (.iconst 1, 1) := by decide +kernel
theorem d_L_law_105 : decode c_L_law 105 = .ok (.iadd, 1) := by decide +kernel
theorem d_L_law_106 : decode c_L_law 106 = .ok (.iaload, 1) := by decide +kernel
theorem d_L_law_107 : decode c_L_law 107 = .ok (.aload_n 0, 1) := by decide +kernel
theorem d_L_law_108 : decode c_L_law 108 = .ok (.iload 4, 2) := by decide +kernel
theorem d_L_law_110 : decode c_L_law 110 = .ok (.iconst 2, 1) := by decide +kernel
theorem d_L_law_111 : decode c_L_law 111 = .ok (.iadd, 1) := by decide +kernel
theorem d_L_law_112 : decode c_L_law 112 = .ok (.iaload, 1) := by decide +kernel
theorem d_L_law_113 : decode c_L_law 113 = .ok (.aload_n 0, 1) := by decide +kernel
theorem d_L_law_114 : decode c_L_law 114 = .ok (.iload 4, 2) := by decide +kernel
theorem d_L_law_116 : decode c_L_law 116 = .ok (.iconst 3, 1) := by decide +kernel
theorem d_L_law_117 : decode c_L_law 117 = .ok (.iadd, 1) := by decide +kernel
theorem d_L_law_118 : decode c_L_law 118 = .ok (.iaload, 1) := by decide +kernel
theorem d_L_law_119 : decode c_L_law 119 = .ok (.aload_n 0, 1) := by decide +kernel
theorem d_L_law_120 : decode c_L_law 120 = .ok (.iload 4, 2) := by decide +kernel
theorem d_L_law_122 : decode c_L_law 122 = .ok (.iconst 4, 1) := by decide +kernel
theorem d_L_law_123 : decode c_L_law 123 = .ok (.iadd, 1) := by decide +kernel
theorem d_L_law_124 : decode c_L_law 124 = .ok (.iaload, 1) := by decide +kernel
theorem d_L_law_125 : decode c_L_law 125 = .ok (.invokevirtual 47, 3) := by decide +kernel
theorem d_L_law_128 : decode c_L_law 128 = .ok (.aload_n 2, 1) := by decide +kernel
theorem d_L_law_129 : decode c_L_law 129 = .ok (.aload_n 0, 1) := by decide +kernel
theorem d_L_law_130 : decode c_L_law 130 = .ok (.iload 4, 2) := by decide +kernel
theorem d_L_law_132 : decode c_L_law 132 = .ok (.iconst 1, 1) := by decide +kernel
theorem d_L_law_133 : decode c_L_law 133 = .ok (.iadd, 1) := by decide +kernel
theorem d_L_law_134 : decode c_L_law 134 = .ok (.iaload, 1) := by decide +kernel
theorem d_L_law_135 : decode c_L_law 135 = .ok (.aload_n 0, 1) := by decide +kernel
theorem d_L_law_136 : decode c_L_law 136 = .ok (.iload 4, 2) := by decide +kernel
theorem d_L_law_138 : decode c_L_law 138 = .ok (.iconst 2, 1) := by decide +kernel
theorem d_L_law_139 : decode c_L_law 139 = .ok (.iadd, 1) := by decide +kernel
theorem d_L_law_140 : decode c_L_law 140 = .ok (.iaload, 1) := by decide +kernel
theorem d_L_law_141 : decode c_L_law 141 = .ok (.aload_n 0, 1) := by decide +kernel
theorem d_L_law_142 : decode c_L_law 142 = .ok (.iload 4, 2) := by decide +kernel
theorem d_L_law_144 : decode c_L_law 144 = .ok (.iconst 3, 1) := by decide +kernel
theorem d_L_law_145 : decode c_L_law 145 = .ok (.iadd, 1) := by decide +kernel
theorem d_L_law_146 : decode c_L_law 146 = .ok (.iaload, 1) := by decide +kernel
theorem d_L_law_147 : decode c_L_law 147 = .ok (.aload_n 0, 1) := by decide +kernel
theorem d_L_law_148 : decode c_L_law 148 = .ok (.iload 4, 2) := by decide +kernel
theorem d_L_law_150 : decode c_L_law 150 = .ok (.iconst 4, 1) := by decide +kernel
theorem d_L_law_151 : decode c_L_law 151 = .ok (.iadd, 1) := by decide +kernel
theorem d_L_law_152 : decode c_L_law 152 = .ok (.iaload, 1) := by decide +kernel
theorem d_L_law_153 : decode c_L_law 153 = .ok (.invokevirtual 50, 3) := by decide +kernel
theorem d_L_law_156 : decode c_L_law 156 = .ok (.if_icmp .eq 763, 3) := by decide +kernel
theorem d_L_law_159 : decode c_L_law 159 = .ok (.iconst 0, 1) := by decide +kernel
theorem d_L_law_160 : decode c_L_law 160 = .ok (.ireturn, 1) := by decide +kernel
theorem d_L_law_161 : decode c_L_law 161 = .ok (.aload_n 1, 1) := by decide +kernel
theorem d_L_law_162 : decode c_L_law 162 = .ok (.aload_n 0, 1) := by decide +kernel
theorem d_L_law_163 : decode c_L_law 163 = .ok (.iload 4, 2) := by decide +kernel
theorem d_L_law_165 : decode c_L_law 165 = .ok (.iconst 1, 1) := by decide +kernel
theorem d_L_law_166 : decode c_L_law 166 = .ok (.iadd, 1) := by decide +kernel
theorem d_L_law_167 : decode c_L_law 167 = .ok (.iaload, 1) := by decide +kernel
theorem d_L_law_168 : decode c_L_law 168 = .ok (.invokevirtual 51, 3) := by decide +kernel
theorem d_L_law_171 : decode c_L_law 171 = .ok (.aload_n 2, 1) := by decide +kernel
theorem d_L_law_172 : decode c_L_law 172 = .ok (.aload_n 0, 1) := by decide +kernel
theorem d_L_law_173 : decode c_L_law 173 = .ok (.iload 4, 2) := by decide +kernel
theorem d_L_law_175 : decode c_L_law 175 = .ok (.iconst 1, 1) := by decide +kernel
theorem d_L_law_176 : decode c_L_law 176 = .ok (.iadd, 1) := by decide +kernel
theorem d_L_law_177 : decode c_L_law 177 = .ok (.iaload, 1) := by decide +kernel
theorem d_L_law_178 : decode c_L_law 178 = .ok (.invokevirtual 55, 3) := by decide +kernel
theorem d_L_law_181 : decode c_L_law 181 = .ok (.if_icmp .eq 738, 3) := by decide +kernel
theorem d_L_law_184 : decode c_L_law 184 = .ok (.iconst 0, 1) := by decide +kernel
theorem d_L_law_185 : decode c_L_law 185 = .ok (.ireturn, 1) := by decide +kernel
theorem d_L_law_186 : decode c_L_law 186 = .ok (.aload_n 1, 1) := by decide +kernel
theorem d_L_law_187 : decode c_L_law 187 = .ok (.aload_n 0, 1) := by decide +kernel
theorem d_L_law_188 : decode c_L_law 188 = .ok (.iload 4, 2) := by decide +kernel
theorem d_L_law_190 : decode c_L_law 190 = .ok (.iconst 1, 1) := by decide +kernel
theorem d_L_law_191 : decode c_L_law 191 = .ok (.iadd, 1) := by decide +kernel
theorem d_L_law_192 : decode c_L_law 192 = .ok (.iaload, 1) := by decide +kernel
theorem d_L_law_193 : decode c_L_law 193 = .ok (.aload_n 0, 1) := by decide +kernel
theorem d_L_law_194 : decode c_L_law 194 = .ok (.iload 4, 2) := by decide +kernel
theorem d_L_law_196 : decode c_L_law 196 = .ok (.iconst 2, 1) := by decide +kernel
theorem d_L_law_197 : decode c_L_law 197 = .ok (.iadd, 1) := by decide +kernel
theorem d_L_law_198 : decode c_L_law 198 = .ok (.iaload, 1) := by decide +kernel
theorem d_L_law_199 : decode c_L_law 199 = .ok (.aload_n 0, 1) := by decide +kernel
theorem d_L_law_200 : decode c_L_law 200 = .ok (.iload 4, 2) := by decide +kernel
theorem d_L_law_202 : decode c_L_law 202 = .ok (.iconst 3, 1) := by decide +kernel
theorem d_L_law_203 : decode c_L_law 203 = .ok (.iadd, 1) := by decide +kernel
theorem d_L_law_204 : decode c_L_law 204 = .ok (.iaload, 1) := by decide +kernel
theorem d_L_law_205 : decode c_L_law 205 = .ok (.aload_n 3, 1) := by decide +kernel
theorem d_L_law_206 : decode c_L_law 206 = .ok (.invokestatic 56, 3) := by decide +kernel
theorem d_L_law_209 : decode c_L_law 209 = .ok (.istore 5, 2) := by decide +kernel
theorem d_L_law_211 : decode c_L_law 211 = .ok (.aload_n 2, 1) := by decide +kernel
theorem d_L_law_212 : decode c_L_law 212 = .ok (.aload_n 0, 1) := by decide +kernel
theorem d_L_law_213 : decode c_L_law 213 = .ok (.iload 4, 2) := by decide +kernel
theorem d_L_law_215 : decode c_L_law 215 = .ok (.iconst 1, 1) := by decide +kernel
theorem d_L_law_216 : decode c_L_law 216 = .ok (.iadd, 1) := by decide +kernel
theorem d_L_law_217 : decode c_L_law 217 = .ok (.iaload, 1) := by decide +kernel
theorem d_L_law_218 : decode c_L_law 218 = .ok (.aload_n 0, 1) := by decide +kernel
theorem d_L_law_219 : decode c_L_law 219 = .ok (.iload 4, 2) := by decide +kernel
theorem d_L_law_221 : decode c_L_law 221 = .ok (.iconst 2, 1) := by decide +kernel
theorem d_L_law_222 : decode c_L_law 222 = .ok (.iadd, 1) := by decide +kernel
theorem d_L_law_223 : decode c_L_law 223 = .ok (.iaload, 1) := by decide +kernel
theorem d_L_law_224 : decode c_L_law 224 = .ok (.aload_n 0, 1) := by decide +kernel
theorem d_L_law_225 : decode c_L_law 225 = .ok (.iload 4, 2) := by decide +kernel
theorem d_L_law_227 : decode c_L_law 227 = .ok (.iconst 3, 1) := by decide +kernel
theorem d_L_law_228 : decode c_L_law 228 = .ok (.iadd, 1) := by decide +kernel
theorem d_L_law_229 : decode c_L_law 229 = .ok (.iaload, 1) := by decide +kernel
theorem d_L_law_230 : decode c_L_law 230 = .ok (.invokevirtual 61, 3) := by decide +kernel
theorem d_L_law_233 : decode c_L_law 233 = .ok (.istore 6, 2) := by decide +kernel
theorem d_L_law_235 : decode c_L_law 235 = .ok (.aload_n 2, 1) := by decide +kernel
theorem d_L_law_236 : decode c_L_law 236 = .ok (.invokevirtual 62, 3) := by decide +kernel
theorem d_L_law_239 : decode c_L_law 239 = .ok (.iload 5, 2) := by decide +kernel
theorem d_L_law_241 : decode c_L_law 241 = .ok (.if_icmp .eq 5, 3) := by decide +kernel
theorem d_L_law_244 : decode c_L_law 244 = .ok (.iconst 0, 1) := by decide +kernel
theorem d_L_law_245 : decode c_L_law 245 = .ok (.ireturn, 1) := by decide +kernel
theorem d_L_law_246 : decode c_L_law 246 = .ok (.iload 5, 2) := by decide +kernel
theorem d_L_law_248 : decode c_L_law 248 = .ok (.ifCond .ne 15, 3) := by decide +kernel
theorem d_L_law_251 : decode c_L_law 251 = .ok (.aload_n 3, 1) := by decide +kernel
theorem d_L_law_252 : decode c_L_law 252 = .ok (.iconst 0, 1) := by decide +kernel
theorem d_L_law_253 : decode c_L_law 253 = .ok (.laload, 1) := by decide +kernel
theorem d_L_law_254 : decode c_L_law 254 = .ok (.iload 6, 2) := by decide +kernel
theorem d_L_law_256 : decode c_L_law 256 = .ok (.i2l, 1) := by decide +kernel
theorem d_L_law_257 : decode c_L_law 257 = .ok (.lcmp, 1) := by decide +kernel
theorem d_L_law_258 : decode c_L_law 258 = .ok (.ifCond .eq 5, 3) := by decide +kernel
theorem d_L_law_261 : decode c_L_law 261 = .ok (.iconst 0, 1) := by decide +kernel
theorem d_L_law_262 : decode c_L_law 262 = .ok (.ireturn, 1) := by decide +kernel
theorem d_L_law_263 : decode c_L_law 263 = .ok (.goto 656, 3) := by decide +kernel
theorem d_L_law_266 : decode c_L_law 266 = .ok (.aload_n 1, 1) := by decide +kernel
theorem d_L_law_267 : decode c_L_law 267 = .ok (.aload_n 0, 1) := by decide +kernel
theorem d_L_law_268 : decode c_L_law 268 = .ok (.iload 4, 2) := by decide +kernel
theorem d_L_law_270 : decode c_L_law 270 = .ok (.iconst 1, 1) := by decide +kernel
theorem d_L_law_271 : decode c_L_law 271 = .ok (.iadd, 1) := by decide +kernel
theorem d_L_law_272 : decode c_L_law 272 = .ok (.iaload, 1) := by decide +kernel
theorem d_L_law_273 : decode c_L_law 273 = .ok (.aload_n 0, 1) := by decide +kernel
theorem d_L_law_274 : decode c_L_law 274 = .ok (.iload 4, 2) := by decide +kernel
theorem d_L_law_276 : decode c_L_law 276 = .ok (.iconst 2, 1) := by decide +kernel
theorem d_L_law_277 : decode c_L_law 277 = .ok (.iadd, 1) := by decide +kernel
theorem d_L_law_278 : decode c_L_law 278 = .ok (.iaload, 1) := by decide +kernel
theorem d_L_law_279 : decode c_L_law 279 = .ok (.aload_n 0, 1) := by decide +kernel
theorem d_L_law_280 : decode c_L_law 280 = .ok (.iload 4, 2) := by decide +kernel
theorem d_L_law_282 : decode c_L_law 282 = .ok (.iconst 3, 1) := by decide +kernel
theorem d_L_law_283 : decode c_L_law 283 = .ok (.iadd, 1) := by decide +kernel
theorem d_L_law_284 : decode c_L_law 284 = .ok (.iaload, 1) := by decide +kernel
theorem d_L_law_285 : decode c_L_law 285 = .ok (.aload_n 3, 1) := by decide +kernel
theorem d_L_law_286 : decode c_L_law 286 = .ok (.invokestatic 66, 3) := by decide +kernel
theorem d_L_law_289 : decode c_L_law 289 = .ok (.istore 5, 2) := by decide +kernel
theorem d_L_law_291 : decode c_L_law 291 = .ok (.aload_n 2, 1) := by decide +kernel
theorem d_L_law_292 : decode c_L_law 292 = .ok (.aload_n 0, 1) := by decide +kernel
theorem d_L_law_293 : decode c_L_law 293 = .ok (.iload 4, 2) := by decide +kernel
theorem d_L_law_295 : decode c_L_law 295 = .ok (.iconst 1, 1) := by decide +kernel
theorem d_L_law_296 : decode c_L_law 296 = .ok (.iadd, 1) := by decide +kernel
theorem d_L_law_297 : decode c_L_law 297 = .ok (.iaload, 1) := by decide +kernel
theorem d_L_law_298 : decode c_L_law 298 = .ok (.aload_n 0, 1) := by decide +kernel
theorem d_L_law_299 : decode c_L_law 299 = .ok (.iload 4, 2) := by decide +kernel
theorem d_L_law_301 : decode c_L_law 301 = .ok (.iconst 2, 1) := by decide +kernel
theorem d_L_law_302 : decode c_L_law 302 = .ok (.iadd, 1) := by decide +kernel
theorem d_L_law_303 : decode c_L_law 303 = .ok (.iaload, 1) := by decide +kernel
theorem d_L_law_304 : decode c_L_law 304 = .ok (.aload_n 0, 1) := by decide +kernel
theorem d_L_law_305 : decode c_L_law 305 = .ok (.iload 4, 2) := by decide +kernel
theorem d_L_law_307 : decode c_L_law 307 = .ok (.iconst 3, 1) := by decide +kernel
theorem d_L_law_308 : decode c_L_law 308 = .ok (.iadd, 1) := by decide +kernel
theorem d_L_law_309 : decode c_L_law 309 = .ok (.iaload, 1) := by decide +kernel
theorem d_L_law_310 : decode c_L_law 310 = .ok (.invokevirtual 68, 3) := by decide +kernel
theorem d_L_law_313 : decode c_L_law 313 = .ok (.istore 6, 2) := by decide +kernel
theorem d_L_law_315 : decode c_L_law 315 = .ok (.aload_n 2, 1) := by decide +kernel
