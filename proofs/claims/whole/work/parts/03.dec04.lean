theorem d_M_fits_200 : decode c_M_fits 200 = .ok (.if_icmp .eq 11, 3) := by decide +kernel
theorem d_M_fits_203 : decode c_M_fits 203 = .ok (.iload_n 3, 1) := by decide +kernel
theorem d_M_fits_204 : decode c_M_fits 204 = .ok (.ifCond .ne 7, 3) := by decide +kernel
theorem d_M_fits_207 : decode c_M_fits 207 = .ok (.iconst 1, 1) := by decide +kernel
theorem d_M_fits_208 : decode c_M_fits 208 = .ok (.goto 4, 3) := by decide +kernel
theorem d_M_fits_211 : decode c_M_fits 211 = .ok (.iconst 0, 1) := by decide +kernel
theorem d_M_fits_212 : decode c_M_fits 212 = .ok (.ireturn, 1) := by decide +kernel
theorem d_M_fits_213 : decode c_M_fits 213 = .ok (.iconst 0, 1) := by decide +kernel
theorem d_M_fits_214 : decode c_M_fits 214 = .ok (.ireturn, 1) := by decide +kernel
theorem d_M_in_0 : decode c_M_in 0 = .ok (.iload_n 0, 1) := by decide +kernel
theorem d_M_in_1 : decode c_M_in 1 = .ok (.iload_n 1, 1) := by decide +kernel
theorem d_M_in_2 : decode c_M_in 2 = .ok (.if_icmp .lt 12, 3) := by decide +kernel
theorem d_M_in_5 : decode c_M_in 5 = .ok (.iload_n 0, 1) := by decide +kernel
theorem d_M_in_6 : decode c_M_in 6 = .ok (.iload_n 2, 1) := by decide +kernel
theorem d_M_in_7 : decode c_M_in 7 = .ok (.if_icmp .gt 7, 3) := by decide +kernel
theorem d_M_in_10 : decode c_M_in 10 = .ok (.iconst 1, 1) := by decide +kernel
theorem d_M_in_11 : decode c_M_in 11 = .ok (.goto 4, 3) := by decide +kernel
theorem d_M_in_14 : decode c_M_in 14 = .ok (.iconst 0, 1) := by decide +kernel
theorem d_M_in_15 : decode c_M_in 15 = .ok (.ireturn, 1) := by decide +kernel
theorem d_M_isTime_0 : decode c_M_isTime 0 = .ok (.iload_n 0, 1) := by decide +kernel
theorem d_M_isTime_1 : decode c_M_isTime 1 = .ok (.ifCond .lt 14, 3) := by decide +kernel
theorem d_M_isTime_4 : decode c_M_isTime 4 = .ok (.iload_n 0, 1) := by decide +kernel
theorem d_M_isTime_5 : decode c_M_isTime 5 = .ok (.sipush 10000, 3) := by decide +kernel
theorem d_M_isTime_8 : decode c_M_isTime 8 = .ok (.if_icmp .gt 7, 3) := by decide +kernel
theorem d_M_isTime_11 : decode c_M_isTime 11 = .ok (.iconst 1, 1) := by decide +kernel
theorem d_M_isTime_12 : decode c_M_isTime 12 = .ok (.goto 4, 3) := by decide +kernel
theorem d_M_isTime_15 : decode c_M_isTime 15 = .ok (.iconst 0, 1) := by decide +kernel
theorem d_M_isTime_16 : decode c_M_isTime 16 = .ok (.ireturn, 1) := by decide +kernel
theorem d_M_known_0 : decode c_M_known 0 = .ok (.aload_n 0, 1) := by decide +kernel
theorem d_M_known_1 : decode c_M_known 1 = .ok (.iconst 0, 1) := by decide +kernel
theorem d_M_known_2 : decode c_M_known 2 = .ok (.putfield 40, 3) := by decide +kernel
theorem d_M_known_5 : decode c_M_known 5 = .ok (.iload_n 1, 1) := by decide +kernel
theorem d_M_known_6 : decode c_M_known 6 = .ok (.aload_n 0, 1) := by decide +kernel
theorem d_M_known_7 : decode c_M_known 7 = .ok (.getfield 63, 3) := by decide +kernel
theorem d_M_known_10 : decode c_M_known 10 = .ok (.sipush 10000, 3) := by decide +kernel
theorem d_M_known_13 : decode c_M_known 13 = .ok (.invokestatic 44, 3) := by decide +kernel
theorem d_M_known_16 : decode c_M_known 16 = .ok (.ifCond .ne 15, 3) := by decide +kernel
theorem d_M_known_19 : decode c_M_known 19 = .ok (.aload_n 0, 1) := by decide +kernel
theorem d_M_known_20 : decode c_M_known 20 = .ok (.dup, 1) := by decide +kernel
theorem d_M_known_21 : decode c_M_known 21 = .ok (.getfield 60, 3) := by decide +kernel
theorem d_M_known_24 : decode c_M_known 24 = .ok (.iconst 1, 1) := by decide +kernel
theorem d_M_known_25 : decode c_M_known 25 = .ok (.iadd, 1) := by decide +kernel
theorem d_M_known_26 : decode c_M_known 26 = .ok (.putfield 60, 3) := by decide +kernel
theorem d_M_known_29 : decode c_M_known 29 = .ok (.iconst 0, 1) := by decide +kernel
theorem d_M_known_30 : decode c_M_known 30 = .ok (.ireturn, 1) := by decide +kernel
theorem d_M_known_31 : decode c_M_known 31 = .ok (.aload_n 0, 1) := by decide +kernel
theorem d_M_known_32 : decode c_M_known 32 = .ok (.iload_n 1, 1) := by decide +kernel
theorem d_M_known_33 : decode c_M_known 33 = .ok (.putfield 63, 3) := by decide +kernel
theorem d_M_known_36 : decode c_M_known 36 = .ok (.iconst 1, 1) := by decide +kernel
theorem d_M_known_37 : decode c_M_known 37 = .ok (.ireturn, 1) := by decide +kernel
theorem d_M_place_0 : decode c_M_place 0 = .ok (.aload_n 0, 1) := by decide +kernel
theorem d_M_place_1 : decode c_M_place 1 = .ok (.iload_n 1, 1) := by decide +kernel
theorem d_M_place_2 : decode c_M_place 2 = .ok (.iconst 0, 1) := by decide +kernel
theorem d_M_place_3 : decode c_M_place 3 = .ok (.bipush 19, 2) := by decide +kernel
theorem d_M_place_5 : decode c_M_place 5 = .ok (.invokestatic 44, 3) := by decide +kernel
theorem d_M_place_8 : decode c_M_place 8 = .ok (.iload_n 2, 1) := by decide +kernel
theorem d_M_place_9 : decode c_M_place 9 = .ok (.iload_n 3, 1) := by decide +kernel
theorem d_M_place_10 : decode c_M_place 10 = .ok (.invokevirtual 88, 3) := by decide +kernel
theorem d_M_place_13 : decode c_M_place 13 = .ok (.ifCond .ne 5, 3) := by decide +kernel
theorem d_M_place_16 : decode c_M_place 16 = .ok (.iconst 0, 1) := by decide +kernel
theorem d_M_place_17 : decode c_M_place 17 = .ok (.ireturn, 1) := by decide +kernel
theorem d_M_place_18 : decode c_M_place 18 = .ok (.aload_n 0, 1) := by decide +kernel
theorem d_M_place_19 : decode c_M_place 19 = .ok (.iload_n 2, 1) := by decide +kernel
theorem d_M_place_20 : decode c_M_place 20 = .ok (.iload_n 3, 1) := by decide +kernel
theorem d_M_place_21 : decode c_M_place 21 = .ok (.invokevirtual 92, 3) := by decide +kernel
theorem d_M_place_24 : decode c_M_place 24 = .ok (.aload_n 0, 1) := by decide +kernel
theorem d_M_place_25 : decode c_M_place 25 = .ok (.getfield 25, 3) := by decide +kernel
theorem d_M_place_28 : decode c_M_place 28 = .ok (.iload_n 1, 1) := by decide +kernel
theorem d_M_place_29 : decode c_M_place 29 = .ok (.iaload, 1) := by decide +kernel
theorem d_M_place_30 : decode c_M_place 30 = .ok (.ireturn, 1) := by decide +kernel
theorem d_M_isAsked_0 : decode c_M_isAsked 0 = .ok (.aload_n 0, 1) := by decide +kernel
theorem d_M_isAsked_1 : decode c_M_isAsked 1 = .ok (.iload_n 1, 1) := by decide +kernel
theorem d_M_isAsked_2 : decode c_M_isAsked 2 = .ok (.ifCond .eq 21, 3) := by decide +kernel
theorem d_M_isAsked_5 : decode c_M_isAsked 5 = .ok (.iload_n 2, 1) := by decide +kernel
theorem d_M_isAsked_6 : decode c_M_isAsked 6 = .ok (.invokestatic 56, 3) := by decide +kernel
theorem d_M_isAsked_9 : decode c_M_isAsked 9 = .ok (.ifCond .eq 14, 3) := by decide +kernel
theorem d_M_isAsked_12 : decode c_M_isAsked 12 = .ok (.iload_n 3, 1) := by decide +kernel
theorem d_M_isAsked_13 : decode c_M_isAsked 13 = .ok (.invokestatic 56, 3) := by decide +kernel
theorem d_M_isAsked_16 : decode c_M_isAsked 16 = .ok (.ifCond .eq 7, 3) := by decide +kernel
theorem d_M_isAsked_19 : decode c_M_isAsked 19 = .ok (.iconst 0, 1) := by decide +kernel
theorem d_M_isAsked_20 : decode c_M_isAsked 20 = .ok (.goto 4, 3) := by decide +kernel
theorem d_M_isAsked_23 : decode c_M_isAsked 23 = .ok (.iconst 1, 1) := by decide +kernel
theorem d_M_isAsked_24 : decode c_M_isAsked 24 = .ok (.putfield 40, 3) := by decide +kernel
theorem d_M_isAsked_27 : decode c_M_isAsked 27 = .ok (.aload_n 0, 1) := by decide +kernel
theorem d_M_isAsked_28 : decode c_M_isAsked 28 = .ok (.getfield 40, 3) := by decide +kernel
theorem d_M_isAsked_31 : decode c_M_isAsked 31 = .ok (.ifCond .ne 7, 3) := by decide +kernel
theorem d_M_isAsked_34 : decode c_M_isAsked 34 = .ok (.iconst 1, 1) := by decide +kernel
theorem d_M_isAsked_35 : decode c_M_isAsked 35 = .ok (.goto 4, 3) := by decide +kernel
theorem d_M_isAsked_38 : decode c_M_isAsked 38 = .ok (.iconst 0, 1) := by decide +kernel
theorem d_M_isAsked_39 : decode c_M_isAsked 39 = .ok (.ireturn, 1) := by decide +kernel
theorem d_M_finds_0 : decode c_M_finds 0 = .ok (.iconst 0, 1) := by decide +kernel
theorem d_M_finds_1 : decode c_M_finds 1 = .ok (.istore_n 3, 1) := by decide +kernel
theorem d_M_finds_2 : decode c_M_finds 2 = .ok (.iload_n 3, 1) := by decide +kernel
theorem d_M_finds_3 : decode c_M_finds 3 = .ok (.bipush 20, 2) := by decide +kernel
theorem d_M_finds_5 : decode c_M_finds 5 = .ok (.if_icmp .ge 16, 3) := by decide +kernel
theorem d_M_finds_8 : decode c_M_finds 8 = .ok (.aload_n 0, 1) := by decide +kernel
theorem d_M_finds_9 : decode c_M_finds 9 = .ok (.getfield 25, 3) := by decide +kernel
theorem d_M_finds_12 : decode c_M_finds 12 = .ok (.iload_n 3, 1) := by decide +kernel
theorem d_M_finds_13 : decode c_M_finds 13 = .ok (.iconst (-1), 1) := by decide +kernel
theorem d_M_finds_14 : decode c_M_finds 14 = .ok (.iastore, 1) := by decide +kernel
theorem d_M_finds_15 : decode c_M_finds 15 = .ok (.iinc 3 1, 3) := by decide +kernel
theorem d_M_finds_18 : decode c_M_finds 18 = .ok (.goto (-16), 3) := by decide +kernel
theorem d_M_finds_21 : decode c_M_finds 21 = .ok (.iconst 0, 1) := by decide +kernel
theorem d_M_finds_22 : decode c_M_finds 22 = .ok (.istore_n 3, 1) := by decide +kernel
theorem d_M_finds_23 : decode c_M_finds 23 = .ok (.iload_n 3, 1) := by decide +kernel
theorem d_M_finds_24 : decode c_M_finds 24 = .ok (.bipush 10, 2) := by decide +kernel
theorem d_M_finds_26 : decode c_M_finds 26 = .ok (.if_icmp .ge 23, 3) := by decide +kernel
theorem d_M_finds_29 : decode c_M_finds 29 = .ok (.aload_n 0, 1) := by decide +kernel
theorem d_M_finds_30 : decode c_M_finds 30 = .ok (.getfield 28, 3) := by decide +kernel
theorem d_M_finds_33 : decode c_M_finds 33 = .ok (.iload_n 3, 1) := by decide +kernel
theorem d_M_finds_34 : decode c_M_finds 34 = .ok (.iconst 0, 1) := by decide +kernel
theorem d_M_finds_35 : decode c_M_finds 35 = .ok (.iastore, 1) := by decide +kernel
theorem d_M_finds_36 : decode c_M_finds 36 = .ok (.aload_n 0, 1) := by decide +kernel
theorem d_M_finds_37 : decode c_M_finds 37 = .ok (.getfield 31, 3) := by decide +kernel
theorem d_M_finds_40 : decode c_M_finds 40 = .ok (.iload_n 3, 1) := by decide +kernel
theorem d_M_finds_41 : decode c_M_finds 41 = .ok (.iconst 0, 1) := by decide +kernel
theorem d_M_finds_42 : decode c_M_finds 42 = .ok (.iastore, 1) := by decide +kernel
theorem d_M_finds_43 : decode c_M_finds 43 = .ok (.iinc 3 1, 3) := by decide +kernel
theorem d_M_finds_46 : decode c_M_finds 46 = .ok (.goto (-23), 3) := by decide +kernel
theorem d_M_finds_49 : decode c_M_finds 49 = .ok (.aload_n 0, 1) := by decide +kernel
theorem d_M_finds_50 : decode c_M_finds 50 = .ok (.iconst (-1), 1) := by decide +kernel
theorem d_M_finds_51 : decode c_M_finds 51 = .ok (.iload_n 1, 1) := by decide +kernel
theorem d_M_finds_52 : decode c_M_finds 52 = .ok (.iload_n 2, 1) := by decide +kernel
theorem d_M_finds_53 : decode c_M_finds 53 = .ok (.invokevirtual 80, 3) := by decide +kernel
theorem d_M_finds_56 : decode c_M_finds 56 = .ok (.istore_n 3, 1) := by decide +kernel
theorem d_M_finds_57 : decode c_M_finds 57 = .ok (.iload_n 3, 1) := by decide +kernel
theorem d_M_finds_58 : decode c_M_finds 58 = .ok (.ifCond .lt 23, 3) := by decide +kernel
theorem d_M_finds_61 : decode c_M_finds 61 = .ok (.aload_n 0, 1) := by decide +kernel
theorem d_M_finds_62 : decode c_M_finds 62 = .ok (.iload_n 3, 1) := by decide +kernel
theorem d_M_finds_63 : decode c_M_finds 63 = .ok (.invokevirtual 84, 3) := by decide +kernel
theorem d_M_finds_66 : decode c_M_finds 66 = .ok (.aload_n 0, 1) := by decide +kernel
theorem d_M_finds_67 : decode c_M_finds 67 = .ok (.aload_n 0, 1) := by decide +kernel
theorem d_M_finds_68 : decode c_M_finds 68 = .ok (.iload_n 3, 1) := by decide +kernel
theorem d_M_finds_69 : decode c_M_finds 69 = .ok (.invokevirtual 73, 3) := by decide +kernel
theorem d_M_finds_72 : decode c_M_finds 72 = .ok (.iload_n 1, 1) := by decide +kernel
theorem d_M_finds_73 : decode c_M_finds 73 = .ok (.iload_n 2, 1) := by decide +kernel
theorem d_M_finds_74 : decode c_M_finds 74 = .ok (.invokevirtual 80, 3) := by decide +kernel
theorem d_M_finds_77 : decode c_M_finds 77 = .ok (.istore_n 3, 1) := by decide +kernel
theorem d_M_finds_78 : decode c_M_finds 78 = .ok (.goto (-21), 3) := by decide +kernel
theorem d_M_finds_81 : decode c_M_finds 81 = .ok (.return_, 1) := by decide +kernel
theorem d_M_next_0 : decode c_M_next 0 = .ok (.iconst (-1), 1) := by decide +kernel
theorem d_M_next_1 : decode c_M_next 1 = .ok (.istore 4, 2) := by decide +kernel
theorem d_M_next_3 : decode c_M_next 3 = .ok (.iconst 0, 1) := by decide +kernel
theorem d_M_next_4 : decode c_M_next 4 = .ok (.istore 5, 2) := by decide +kernel
theorem d_M_next_6 : decode c_M_next 6 = .ok (.iload 5, 2) := by decide +kernel
theorem d_M_next_8 : decode c_M_next 8 = .ok (.aload_n 0, 1) := by decide +kernel
theorem d_M_next_9 : decode c_M_next 9 = .ok (.getfield 50, 3) := by decide +kernel
theorem d_M_next_12 : decode c_M_next 12 = .ok (.if_icmp .ge 73, 3) := by decide +kernel
theorem d_M_next_15 : decode c_M_next 15 = .ok (.iload 4, 2) := by decide +kernel
theorem d_M_next_17 : decode c_M_next 17 = .ok (.ifCond .ge 8, 3) := by decide +kernel
theorem d_M_next_20 : decode c_M_next 20 = .ok (.iload 5, 2) := by decide +kernel
theorem d_M_next_22 : decode c_M_next 22 = .ok (.goto 5, 3) := by decide +kernel
theorem d_M_next_25 : decode c_M_next 25 = .ok (.iload 4, 2) := by decide +kernel
theorem d_M_next_27 : decode c_M_next 27 = .ok (.istore 6, 2) := by decide +kernel
theorem d_M_next_29 : decode c_M_next 29 = .ok (.aload_n 0, 1) := by decide +kernel
theorem d_M_next_30 : decode c_M_next 30 = .ok (.iload 5, 2) := by decide +kernel
theorem d_M_next_32 : decode c_M_next 32 = .ok (.iload_n 2, 1) := by decide +kernel
theorem d_M_next_33 : decode c_M_next 33 = .ok (.iload_n 3, 1) := by decide +kernel
theorem d_M_next_34 : decode c_M_next 34 = .ok (.invokevirtual 70, 3) := by decide +kernel
theorem d_M_next_37 : decode c_M_next 37 = .ok (.ifCond .eq 38, 3) := by decide +kernel
theorem d_M_next_40 : decode c_M_next 40 = .ok (.aload_n 0, 1) := by decide +kernel
theorem d_M_next_41 : decode c_M_next 41 = .ok (.iload 5, 2) := by decide +kernel
theorem d_M_next_43 : decode c_M_next 43 = .ok (.invokevirtual 73, 3) := by decide +kernel
theorem d_M_next_46 : decode c_M_next 46 = .ok (.iload_n 1, 1) := by decide +kernel
theorem d_M_next_47 : decode c_M_next 47 = .ok (.if_icmp .le 28, 3) := by decide +kernel
theorem d_M_next_50 : decode c_M_next 50 = .ok (.iload 4, 2) := by decide +kernel
theorem d_M_next_52 : decode c_M_next 52 = .ok (.ifCond .lt 18, 3) := by decide +kernel
theorem d_M_next_55 : decode c_M_next 55 = .ok (.aload_n 0, 1) := by decide +kernel
theorem d_M_next_56 : decode c_M_next 56 = .ok (.iload 5, 2) := by decide +kernel
theorem d_M_next_58 : decode c_M_next 58 = .ok (.invokevirtual 73, 3) := by decide +kernel
theorem d_M_next_61 : decode c_M_next 61 = .ok (.aload_n 0, 1) := by decide +kernel
theorem d_M_next_62 : decode c_M_next 62 = .ok (.iload 6, 2) := by decide +kernel
theorem d_M_next_64 : decode c_M_next 64 = .ok (.invokevirtual 73, 3) := by decide +kernel
theorem d_M_next_67 : decode c_M_next 67 = .ok (.if_icmp .ge 8, 3) := by decide +kernel
theorem d_M_next_70 : decode c_M_next 70 = .ok (.iload 5, 2) := by decide +kernel
theorem d_M_next_72 : decode c_M_next 72 = .ok (.goto 5, 3) := by decide +kernel
theorem d_M_next_75 : decode c_M_next 75 = .ok (.iload 4, 2) := by decide +kernel
theorem d_M_next_77 : decode c_M_next 77 = .ok (.istore 4, 2) := by decide +kernel
theorem d_M_next_79 : decode c_M_next 79 = .ok (.iinc 5 1, 3) := by decide +kernel
theorem d_M_next_82 : decode c_M_next 82 = .ok (.goto (-76), 3) := by decide +kernel
theorem d_M_next_85 : decode c_M_next 85 = .ok (.iload 4, 2) := by decide +kernel
theorem d_M_next_87 : decode c_M_next 87 = .ok (.ireturn, 1) := by decide +kernel
theorem d_M_counts_0 : decode c_M_counts 0 = .ok (.aload_n 0, 1) := by decide +kernel
theorem d_M_counts_1 : decode c_M_counts 1 = .ok (.getfield 7, 3) := by decide +kernel
theorem d_M_counts_4 : decode c_M_counts 4 = .ok (.iload_n 1, 1) := by decide +kernel
theorem d_M_counts_5 : decode c_M_counts 5 = .ok (.iaload, 1) := by decide +kernel
theorem d_M_counts_6 : decode c_M_counts 6 = .ok (.iconst 5, 1) := by decide +kernel
theorem d_M_counts_7 : decode c_M_counts 7 = .ok (.if_icmp .eq 36, 3) := by decide +kernel
theorem d_M_counts_10 : decode c_M_counts 10 = .ok (.aload_n 0, 1) := by decide +kernel
theorem d_M_counts_11 : decode c_M_counts 11 = .ok (.getfield 19, 3) := by decide +kernel
theorem d_M_counts_14 : decode c_M_counts 14 = .ok (.iload_n 1, 1) := by decide +kernel
theorem d_M_counts_15 : decode c_M_counts 15 = .ok (.iaload, 1) := by decide +kernel
theorem d_M_counts_16 : decode c_M_counts 16 = .ok (.iload_n 2, 1) := by decide +kernel
theorem d_M_counts_17 : decode c_M_counts 17 = .ok (.if_icmp .gt 26, 3) := by decide +kernel
theorem d_M_counts_20 : decode c_M_counts 20 = .ok (.aload_n 0, 1) := by decide +kernel
theorem d_M_counts_21 : decode c_M_counts 21 = .ok (.getfield 22, 3) := by decide +kernel
theorem d_M_counts_24 : decode c_M_counts 24 = .ok (.iload_n 1, 1) := by decide +kernel
theorem d_M_counts_25 : decode c_M_counts 25 = .ok (.iaload, 1) := by decide +kernel
theorem d_M_counts_26 : decode c_M_counts 26 = .ok (.iload_n 3, 1) := by decide +kernel
theorem d_M_counts_27 : decode c_M_counts 27 = .ok (.if_icmp .gt 16, 3) := by decide +kernel
theorem d_M_counts_30 : decode c_M_counts 30 = .ok (.aload_n 0, 1) := by decide +kernel
theorem d_M_counts_31 : decode c_M_counts 31 = .ok (.iload_n 1, 1) := by decide +kernel
theorem d_M_counts_32 : decode c_M_counts 32 = .ok (.iload_n 3, 1) := by decide +kernel
theorem d_M_counts_33 : decode c_M_counts 33 = .ok (.invokevirtual 66, 3) := by decide +kernel
theorem d_M_counts_36 : decode c_M_counts 36 = .ok (.ifCond .ne 7, 3) := by decide +kernel
theorem d_M_counts_39 : decode c_M_counts 39 = .ok (.iconst 1, 1) := by decide +kernel
theorem d_M_counts_40 : decode c_M_counts 40 = .ok (.goto 4, 3) := by decide +kernel
theorem d_M_counts_43 : decode c_M_counts 43 = .ok (.iconst 0, 1) := by decide +kernel
theorem d_M_counts_44 : decode c_M_counts 44 = .ok (.ireturn, 1) := by decide +kernel
theorem d_M_isVoid_0 : decode c_M_isVoid 0 = .ok (.iconst 0, 1) := by decide +kernel
theorem d_M_isVoid_1 : decode c_M_isVoid 1 = .ok (.istore_n 3, 1) := by decide +kernel
theorem d_M_isVoid_2 : decode c_M_isVoid 2 = .ok (.iconst 0, 1) := by decide +kernel
theorem d_M_isVoid_3 : decode c_M_isVoid 3 = .ok (.istore 4, 2) := by decide +kernel
theorem d_M_isVoid_5 : decode c_M_isVoid 5 = .ok (.iload 4, 2) := by decide +kernel
theorem d_M_isVoid_7 : decode c_M_isVoid 7 = .ok (.aload_n 0, 1) := by decide +kernel
theorem d_M_isVoid_8 : decode c_M_isVoid 8 = .ok (.getfield 50, 3) := by decide +kernel
theorem d_M_isVoid_11 : decode c_M_isVoid 11 = .ok (.if_icmp .ge 52, 3) := by decide +kernel
theorem d_M_isVoid_14 : decode c_M_isVoid 14 = .ok (.iload_n 3, 1) := by decide +kernel
theorem d_M_isVoid_15 : decode c_M_isVoid 15 = .ok (.ifCond .ne 36, 3) := by decide +kernel
theorem d_M_isVoid_18 : decode c_M_isVoid 18 = .ok (.aload_n 0, 1) := by decide +kernel
theorem d_M_isVoid_19 : decode c_M_isVoid 19 = .ok (.getfield 7, 3) := by decide +kernel
theorem d_M_isVoid_22 : decode c_M_isVoid 22 = .ok (.iload 4, 2) := by decide +kernel
theorem d_M_isVoid_24 : decode c_M_isVoid 24 = .ok (.iaload, 1) := by decide +kernel
theorem d_M_isVoid_25 : decode c_M_isVoid 25 = .ok (.iconst 5, 1) := by decide +kernel
theorem d_M_isVoid_26 : decode c_M_isVoid 26 = .ok (.if_icmp .ne 29, 3) := by decide +kernel
theorem d_M_isVoid_29 : decode c_M_isVoid 29 = .ok (.aload_n 0, 1) := by decide +kernel
theorem d_M_isVoid_30 : decode c_M_isVoid 30 = .ok (.getfield 13, 3) := by decide +kernel
theorem d_M_isVoid_33 : decode c_M_isVoid 33 = .ok (.iload 4, 2) := by decide +kernel
theorem d_M_isVoid_35 : decode c_M_isVoid 35 = .ok (.iaload, 1) := by decide +kernel
theorem d_M_isVoid_36 : decode c_M_isVoid 36 = .ok (.iload_n 1, 1) := by decide +kernel
theorem d_M_isVoid_37 : decode c_M_isVoid 37 = .ok (.if_icmp .ne 18, 3) := by decide +kernel
theorem d_M_isVoid_40 : decode c_M_isVoid 40 = .ok (.aload_n 0, 1) := by decide +kernel
theorem d_M_isVoid_41 : decode c_M_isVoid 41 = .ok (.getfield 22, 3) := by decide +kernel
theorem d_M_isVoid_44 : decode c_M_isVoid 44 = .ok (.iload 4, 2) := by decide +kernel
theorem d_M_isVoid_46 : decode c_M_isVoid 46 = .ok (.iaload, 1) := by decide +kernel
theorem d_M_isVoid_47 : decode c_M_isVoid 47 = .ok (.iload_n 2, 1) := by decide +kernel
theorem d_M_isVoid_48 : decode c_M_isVoid 48 = .ok (.if_icmp .gt 7, 3) := by decide +kernel
theorem d_M_isVoid_51 : decode c_M_isVoid 51 = .ok (.iconst 1, 1) := by decide +kernel
theorem d_M_isVoid_52 : decode c_M_isVoid 52 = .ok (.goto 4, 3) := by decide +kernel
theorem d_M_isVoid_55 : decode c_M_isVoid 55 = .ok (.iconst 0, 1) := by decide +kernel
theorem d_M_isVoid_56 : decode c_M_isVoid 56 = .ok (.istore_n 3, 1) := by decide +kernel
theorem d_M_isVoid_57 : decode c_M_isVoid 57 = .ok (.iinc 4 1, 3) := by decide +kernel
theorem d_M_isVoid_60 : decode c_M_isVoid 60 = .ok (.goto (-55), 3) := by decide +kernel
theorem d_M_isVoid_63 : decode c_M_isVoid 63 = .ok (.iload_n 3, 1) := by decide +kernel
theorem d_M_isVoid_64 : decode c_M_isVoid 64 = .ok (.ireturn, 1) := by decide +kernel
theorem d_M_order_0 : decode c_M_order 0 = .ok (.aload_n 0, 1) := by decide +kernel
theorem d_M_order_1 : decode c_M_order 1 = .ok (.getfield 19, 3) := by decide +kernel
theorem d_M_order_4 : decode c_M_order 4 = .ok (.iload_n 1, 1) := by decide +kernel
theorem d_M_order_5 : decode c_M_order 5 = .ok (.iaload, 1) := by decide +kernel
theorem d_M_order_6 : decode c_M_order 6 = .ok (.bipush 8, 2) := by decide +kernel
theorem d_M_order_8 : decode c_M_order 8 = .ok (.imul, 1) := by decide +kernel
theorem d_M_order_9 : decode c_M_order 9 = .ok (.aload_n 0, 1) := by decide +kernel
theorem d_M_order_10 : decode c_M_order 10 = .ok (.getfield 7, 3) := by decide +kernel
theorem d_M_order_13 : decode c_M_order 13 = .ok (.iload_n 1, 1) := by decide +kernel
theorem d_M_order_14 : decode c_M_order 14 = .ok (.iaload, 1) := by decide +kernel
theorem d_M_order_15 : decode c_M_order 15 = .ok (.iadd, 1) := by decide +kernel
theorem d_M_order_16 : decode c_M_order 16 = .ok (.sipush 128, 3) := by decide +kernel
theorem d_M_order_19 : decode c_M_order 19 = .ok (.imul, 1) := by decide +kernel
theorem d_M_order_20 : decode c_M_order 20 = .ok (.iload_n 1, 1) := by decide +kernel
theorem d_M_order_21 : decode c_M_order 21 = .ok (.iadd, 1) := by decide +kernel
theorem d_M_order_22 : decode c_M_order 22 = .ok (.ireturn, 1) := by decide +kernel
theorem d_M_holds_0 : decode c_M_holds 0 = .ok (.aload_n 0, 1) := by decide +kernel
theorem d_M_holds_1 : decode c_M_holds 1 = .ok (.getfield 13, 3) := by decide +kernel
theorem d_M_holds_4 : decode c_M_holds 4 = .ok (.iload_n 1, 1) := by decide +kernel
theorem d_M_holds_5 : decode c_M_holds 5 = .ok (.iaload, 1) := by decide +kernel
theorem d_M_holds_6 : decode c_M_holds 6 = .ok (.istore_n 2, 1) := by decide +kernel
theorem d_M_holds_7 : decode c_M_holds 7 = .ok (.aload_n 0, 1) := by decide +kernel
theorem d_M_holds_8 : decode c_M_holds 8 = .ok (.getfield 16, 3) := by decide +kernel
theorem d_M_holds_11 : decode c_M_holds 11 = .ok (.iload_n 1, 1) := by decide +kernel
theorem d_M_holds_12 : decode c_M_holds 12 = .ok (.iaload, 1) := by decide +kernel
theorem d_M_holds_13 : decode c_M_holds 13 = .ok (.istore_n 3, 1) := by decide +kernel
theorem d_M_holds_14 : decode c_M_holds 14 = .ok (.aload_n 0, 1) := by decide +kernel
theorem d_M_holds_15 : decode c_M_holds 15 = .ok (.getfield 7, 3) := by decide +kernel
theorem d_M_holds_18 : decode c_M_holds 18 = .ok (.iload_n 1, 1) := by decide +kernel
theorem d_M_holds_19 : decode c_M_holds 19 = .ok (.iaload, 1) := by decide +kernel
theorem d_M_holds_20 : decode c_M_holds 20 = .ok (.tableswitch 111 0 3 #[32, 59, 69, 98], 32) := by decide +kernel
theorem d_M_holds_52 : decode c_M_holds 52 = .ok (.aload_n 0, 1) := by decide +kernel
theorem d_M_holds_53 : decode c_M_holds 53 = .ok (.getfield 25, 3) := by decide +kernel
theorem d_M_holds_56 : decode c_M_holds 56 = .ok (.iload_n 2, 1) := by decide +kernel
theorem d_M_holds_57 : decode c_M_holds 57 = .ok (.aload_n 0, 1) := by decide +kernel
theorem d_M_holds_58 : decode c_M_holds 58 = .ok (.iload_n 3, 1) := by decide +kernel
theorem d_M_holds_59 : decode c_M_holds 59 = .ok (.invokevirtual 77, 3) := by decide +kernel
theorem d_M_holds_62 : decode c_M_holds 62 = .ok (.ifCond .ge 7, 3) := by decide +kernel
theorem d_M_holds_65 : decode c_M_holds 65 = .ok (.iload_n 3, 1) := by decide +kernel
theorem d_M_holds_66 : decode c_M_holds 66 = .ok (.goto 9, 3) := by decide +kernel
theorem d_M_holds_69 : decode c_M_holds 69 = .ok (.aload_n 0, 1) := by decide +kernel
theorem d_M_holds_70 : decode c_M_holds 70 = .ok (.getfield 25, 3) := by decide +kernel
theorem d_M_holds_73 : decode c_M_holds 73 = .ok (.iload_n 2, 1) := by decide +kernel
theorem d_M_holds_74 : decode c_M_holds 74 = .ok (.iaload, 1) := by decide +kernel
theorem d_M_holds_75 : decode c_M_holds 75 = .ok (.iastore, 1) := by decide +kernel
theorem d_M_holds_76 : decode c_M_holds 76 = .ok (.goto 55, 3) := by decide +kernel
theorem d_M_holds_79 : decode c_M_holds 79 = .ok (.aload_n 0, 1) := by decide +kernel
theorem d_M_holds_80 : decode c_M_holds 80 = .ok (.getfield 25, 3) := by decide +kernel
theorem d_M_holds_83 : decode c_M_holds 83 = .ok (.iload_n 2, 1) := by decide +kernel
theorem d_M_holds_84 : decode c_M_holds 84 = .ok (.iconst (-1), 1) := by decide +kernel
theorem d_M_holds_85 : decode c_M_holds 85 = .ok (.iastore, 1) := by decide +kernel
theorem d_M_holds_86 : decode c_M_holds 86 = .ok (.goto 45, 3) := by decide +kernel
theorem d_M_holds_89 : decode c_M_holds 89 = .ok (.aload_n 0, 1) := by decide +kernel
theorem d_M_holds_90 : decode c_M_holds 90 = .ok (.getfield 28, 3) := by decide +kernel
theorem d_M_holds_93 : decode c_M_holds 93 = .ok (.iload_n 2, 1) := by decide +kernel
theorem d_M_holds_94 : decode c_M_holds 94 = .ok (.iload_n 3, 1) := by decide +kernel
theorem d_M_holds_95 : decode c_M_holds 95 = .ok (.aload_n 0, 1) := by decide +kernel
theorem d_M_holds_96 : decode c_M_holds 96 = .ok (.getfield 28, 3) := by decide +kernel
theorem d_M_holds_99 : decode c_M_holds 99 = .ok (.iload_n 2, 1) := by decide +kernel
theorem d_M_holds_100 : decode c_M_holds 100 = .ok (.iaload, 1) := by decide +kernel
theorem d_M_holds_101 : decode c_M_holds 101 = .ok (.if_icmp .le 7, 3) := by decide +kernel
theorem d_M_holds_104 : decode c_M_holds 104 = .ok (.iload_n 3, 1) := by decide +kernel
theorem d_M_holds_105 : decode c_M_holds 105 = .ok (.goto 9, 3) := by decide +kernel
theorem d_M_holds_108 : decode c_M_holds 108 = .ok (.aload_n 0, 1) := by decide +kernel
theorem d_M_holds_109 : decode c_M_holds 109 = .ok (.getfield 28, 3) := by decide +kernel
theorem d_M_holds_112 : decode c_M_holds 112 = .ok (.iload_n 2, 1) := by decide +kernel
theorem d_M_holds_113 : decode c_M_holds 113 = .ok (.iaload, 1) := by decide +kernel
theorem d_M_holds_114 : decode c_M_holds 114 = .ok (.iastore, 1) := by decide +kernel
theorem d_M_holds_115 : decode c_M_holds 115 = .ok (.goto 16, 3) := by decide +kernel
theorem d_M_holds_118 : decode c_M_holds 118 = .ok (.aload_n 0, 1) := by decide +kernel
theorem d_M_holds_119 : decode c_M_holds 119 = .ok (.getfield 31, 3) := by decide +kernel
theorem d_M_holds_122 : decode c_M_holds 122 = .ok (.iload_n 2, 1) := by decide +kernel
theorem d_M_holds_123 : decode c_M_holds 123 = .ok (.dup2, 1) := by decide +kernel
theorem d_M_holds_124 : decode c_M_holds 124 = .ok (.iaload, 1) := by decide +kernel
theorem d_M_holds_125 : decode c_M_holds 125 = .ok (.iload_n 3, 1) := by decide +kernel
theorem d_M_holds_126 : decode c_M_holds 126 = .ok (.iadd, 1) := by decide +kernel
theorem d_M_holds_127 : decode c_M_holds 127 = .ok (.iastore, 1) := by decide +kernel
theorem d_M_holds_128 : decode c_M_holds 128 = .ok (.goto 3, 3) := by decide +kernel
theorem d_M_holds_131 : decode c_M_holds 131 = .ok (.return_, 1) := by decide +kernel
theorem d_M_boxAt_0 : decode c_M_boxAt 0 = .ok (.iconst (-1), 1) := by decide +kernel
theorem d_M_boxAt_1 : decode c_M_boxAt 1 = .ok (.istore_n 2, 1) := by decide +kernel
theorem d_M_boxAt_2 : decode c_M_boxAt 2 = .ok (.iconst 0, 1) := by decide +kernel
theorem d_M_boxAt_3 : decode c_M_boxAt 3 = .ok (.istore_n 3, 1) := by decide +kernel
theorem d_M_boxAt_4 : decode c_M_boxAt 4 = .ok (.iload_n 3, 1) := by decide +kernel
theorem d_M_boxAt_5 : decode c_M_boxAt 5 = .ok (.bipush 20, 2) := by decide +kernel
theorem d_M_boxAt_7 : decode c_M_boxAt 7 = .ok (.if_icmp .ge 25, 3) := by decide +kernel
theorem d_M_boxAt_10 : decode c_M_boxAt 10 = .ok (.aload_n 0, 1) := by decide +kernel
theorem d_M_boxAt_11 : decode c_M_boxAt 11 = .ok (.getfield 25, 3) := by decide +kernel
theorem d_M_boxAt_14 : decode c_M_boxAt 14 = .ok (.iload_n 3, 1) := by decide +kernel
theorem d_M_boxAt_15 : decode c_M_boxAt 15 = .ok (.iaload, 1) := by decide +kernel
theorem d_M_boxAt_16 : decode c_M_boxAt 16 = .ok (.iload_n 1, 1) := by decide +kernel
theorem d_M_boxAt_17 : decode c_M_boxAt 17 = .ok (.if_icmp .ne 7, 3) := by decide +kernel
theorem d_M_boxAt_20 : decode c_M_boxAt 20 = .ok (.iload_n 3, 1) := by decide +kernel
theorem d_M_boxAt_21 : decode c_M_boxAt 21 = .ok (.goto 4, 3) := by decide +kernel
theorem d_M_boxAt_24 : decode c_M_boxAt 24 = .ok (.iload_n 2, 1) := by decide +kernel
theorem d_M_boxAt_25 : decode c_M_boxAt 25 = .ok (.istore_n 2, 1) := by decide +kernel
theorem d_M_boxAt_26 : decode c_M_boxAt 26 = .ok (.iinc 3 1, 3) := by decide +kernel
theorem d_M_boxAt_29 : decode c_M_boxAt 29 = .ok (.goto (-25), 3) := by decide +kernel
theorem d_M_boxAt_32 : decode c_M_boxAt 32 = .ok (.iload_n 2, 1) := by decide +kernel
theorem d_M_boxAt_33 : decode c_M_boxAt 33 = .ok (.ireturn, 1) := by decide +kernel
theorem d_M_at_0 : decode c_M_at 0 = .ok (.aload_n 0, 1) := by decide +kernel
theorem d_M_at_1 : decode c_M_at 1 = .ok (.iload_n 1, 1) := by decide +kernel
theorem d_M_at_2 : decode c_M_at 2 = .ok (.iconst 0, 1) := by decide +kernel
theorem d_M_at_3 : decode c_M_at 3 = .ok (.bipush 99, 2) := by decide +kernel
theorem d_M_at_5 : decode c_M_at 5 = .ok (.invokestatic 44, 3) := by decide +kernel
theorem d_M_at_8 : decode c_M_at 8 = .ok (.iload_n 2, 1) := by decide +kernel
theorem d_M_at_9 : decode c_M_at 9 = .ok (.iload_n 3, 1) := by decide +kernel
theorem d_M_at_10 : decode c_M_at 10 = .ok (.invokevirtual 88, 3) := by decide +kernel
theorem d_M_at_13 : decode c_M_at 13 = .ok (.ifCond .ne 5, 3) := by decide +kernel
theorem d_M_at_16 : decode c_M_at 16 = .ok (.iconst 0, 1) := by decide +kernel
theorem d_M_at_17 : decode c_M_at 17 = .ok (.ireturn, 1) := by decide +kernel
theorem d_M_at_18 : decode c_M_at 18 = .ok (.aload_n 0, 1) := by decide +kernel
theorem d_M_at_19 : decode c_M_at 19 = .ok (.iload_n 2, 1) := by decide +kernel
theorem d_M_at_20 : decode c_M_at 20 = .ok (.iload_n 3, 1) := by decide +kernel
theorem d_M_at_21 : decode c_M_at 21 = .ok (.invokevirtual 92, 3) := by decide +kernel
theorem d_M_at_24 : decode c_M_at 24 = .ok (.aload_n 0, 1) := by decide +kernel
theorem d_M_at_25 : decode c_M_at 25 = .ok (.iload_n 1, 1) := by decide +kernel
theorem d_M_at_26 : decode c_M_at 26 = .ok (.invokevirtual 77, 3) := by decide +kernel
theorem d_M_at_29 : decode c_M_at 29 = .ok (.ireturn, 1) := by decide +kernel
theorem d_M_state_0 : decode c_M_state 0 = .ok (.aload_n 0, 1) := by decide +kernel
theorem d_M_state_1 : decode c_M_state 1 = .ok (.iload_n 1, 1) := by decide +kernel
theorem d_M_state_2 : decode c_M_state 2 = .ok (.iconst 0, 1) := by decide +kernel
theorem d_M_state_3 : decode c_M_state 3 = .ok (.bipush 9, 2) := by decide +kernel
theorem d_M_state_5 : decode c_M_state 5 = .ok (.invokestatic 44, 3) := by decide +kernel
theorem d_M_state_8 : decode c_M_state 8 = .ok (.iload_n 2, 1) := by decide +kernel
theorem d_M_state_9 : decode c_M_state 9 = .ok (.iload_n 3, 1) := by decide +kernel
theorem d_M_state_10 : decode c_M_state 10 = .ok (.invokevirtual 88, 3) := by decide +kernel
theorem d_M_state_13 : decode c_M_state 13 = .ok (.ifCond .ne 5, 3) := by decide +kernel
theorem d_M_state_16 : decode c_M_state 16 = .ok (.iconst 0, 1) := by decide +kernel
theorem d_M_state_17 : decode c_M_state 17 = .ok (.ireturn, 1) := by decide +kernel
theorem d_M_state_18 : decode c_M_state 18 = .ok (.aload_n 0, 1) := by decide +kernel
theorem d_M_state_19 : decode c_M_state 19 = .ok (.iload_n 2, 1) := by decide +kernel
theorem d_M_state_20 : decode c_M_state 20 = .ok (.iload_n 3, 1) := by decide +kernel
theorem d_M_state_21 : decode c_M_state 21 = .ok (.invokevirtual 92, 3) := by decide +kernel
theorem d_M_state_24 : decode c_M_state 24 = .ok (.aload_n 0, 1) := by decide +kernel
theorem d_M_state_25 : decode c_M_state 25 = .ok (.getfield 28, 3) := by decide +kernel
theorem d_M_state_28 : decode c_M_state 28 = .ok (.iload_n 1, 1) := by decide +kernel
theorem d_M_state_29 : decode c_M_state 29 = .ok (.iaload, 1) := by decide +kernel
theorem d_M_state_30 : decode c_M_state 30 = .ok (.ireturn, 1) := by decide +kernel
theorem d_M_sum_0 : decode c_M_sum 0 = .ok (.aload_n 0, 1) := by decide +kernel
theorem d_M_sum_1 : decode c_M_sum 1 = .ok (.iload_n 1, 1) := by decide +kernel
theorem d_M_sum_2 : decode c_M_sum 2 = .ok (.iconst 0, 1) := by decide +kernel
theorem d_M_sum_3 : decode c_M_sum 3 = .ok (.bipush 9, 2) := by decide +kernel
theorem d_M_sum_5 : decode c_M_sum 5 = .ok (.invokestatic 44, 3) := by decide +kernel
theorem d_M_sum_8 : decode c_M_sum 8 = .ok (.iload_n 2, 1) := by decide +kernel
theorem d_M_sum_9 : decode c_M_sum 9 = .ok (.iload_n 3, 1) := by decide +kernel
theorem d_M_sum_10 : decode c_M_sum 10 = .ok (.invokevirtual 88, 3) := by decide +kernel
theorem d_M_sum_13 : decode c_M_sum 13 = .ok (.ifCond .ne 5, 3) := by decide +kernel
theorem d_M_sum_16 : decode c_M_sum 16 = .ok (.iconst 0, 1) := by decide +kernel
theorem d_M_sum_17 : decode c_M_sum 17 = .ok (.ireturn, 1) := by decide +kernel
theorem d_M_sum_18 : decode c_M_sum 18 = .ok (.aload_n 0, 1) := by decide +kernel
theorem d_M_sum_19 : decode c_M_sum 19 = .ok (.iload_n 2, 1) := by decide +kernel
theorem d_M_sum_20 : decode c_M_sum 20 = .ok (.iload_n 3, 1) := by decide +kernel
theorem d_M_sum_21 : decode c_M_sum 21 = .ok (.invokevirtual 92, 3) := by decide +kernel
theorem d_M_sum_24 : decode c_M_sum 24 = .ok (.aload_n 0, 1) := by decide +kernel
theorem d_M_sum_25 : decode c_M_sum 25 = .ok (.getfield 31, 3) := by decide +kernel
theorem d_M_sum_28 : decode c_M_sum 28 = .ok (.iload_n 1, 1) := by decide +kernel
theorem d_M_sum_29 : decode c_M_sum 29 = .ok (.iaload, 1) := by decide +kernel
theorem d_M_sum_30 : decode c_M_sum 30 = .ok (.ireturn, 1) := by decide +kernel
theorem d_M_quota_0 : decode c_M_quota 0 = .ok (.aload_n 0, 1) := by decide +kernel
theorem d_M_quota_1 : decode c_M_quota 1 = .ok (.iload_n 1, 1) := by decide +kernel
theorem d_M_quota_2 : decode c_M_quota 2 = .ok (.iconst 0, 1) := by decide +kernel
theorem d_M_quota_3 : decode c_M_quota 3 = .ok (.bipush 9, 2) := by decide +kernel
theorem d_M_quota_5 : decode c_M_quota 5 = .ok (.invokestatic 44, 3) := by decide +kernel
theorem d_M_quota_8 : decode c_M_quota 8 = .ok (.iload_n 2, 1) := by decide +kernel
theorem d_M_quota_9 : decode c_M_quota 9 = .ok (.iload_n 3, 1) := by decide +kernel
theorem d_M_quota_10 : decode c_M_quota 10 = .ok (.invokevirtual 88, 3) := by decide +kernel
theorem d_M_quota_13 : decode c_M_quota 13 = .ok (.ifCond .ne 5, 3) := by decide +kernel
theorem d_M_quota_16 : decode c_M_quota 16 = .ok (.iconst 0, 1) := by decide +kernel
theorem d_M_quota_17 : decode c_M_quota 17 = .ok (.ireturn, 1) := by decide +kernel
theorem d_M_quota_18 : decode c_M_quota 18 = .ok (.iconst 0, 1) := by decide +kernel
theorem d_M_quota_19 : decode c_M_quota 19 = .ok (.istore 4, 2) := by decide +kernel
theorem d_M_quota_21 : decode c_M_quota 21 = .ok (.iload 4, 2) := by decide +kernel
theorem d_M_quota_23 : decode c_M_quota 23 = .ok (.bipush 10, 2) := by decide +kernel
theorem d_M_quota_25 : decode c_M_quota 25 = .ok (.if_icmp .ge 17, 3) := by decide +kernel
