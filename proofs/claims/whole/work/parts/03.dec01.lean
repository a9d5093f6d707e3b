theorem d_X_place_8 : decode c_X_place 8 = .ok (.getfield 26, 3) := by decide +kernel
theorem d_X_place_11 : decode c_X_place 11 = .ok (.iload_n 2, 1) := by decide +kernel
theorem d_X_place_12 : decode c_X_place 12 = .ok (.iload_n 3, 1) := by decide +kernel
theorem d_X_place_13 : decode c_X_place 13 = .ok (.invokevirtual 74, 3) := by decide +kernel
theorem d_X_place_16 : decode c_X_place 16 = .ok (.aload_n 0, 1) := by decide +kernel
theorem d_X_place_17 : decode c_X_place 17 = .ok (.getfield 26, 3) := by decide +kernel
theorem d_X_place_20 : decode c_X_place 20 = .ok (.getfield 78, 3) := by decide +kernel
theorem d_X_place_23 : decode c_X_place 23 = .ok (.iload_n 1, 1) := by decide +kernel
theorem d_X_place_24 : decode c_X_place 24 = .ok (.iaload, 1) := by decide +kernel
theorem d_X_place_25 : decode c_X_place 25 = .ok (.ireturn, 1) := by decide +kernel
theorem d_X_requireBelow_0 : decode c_X_requireBelow 0 = .ok (.iload_n 0, 1) := by decide +kernel
theorem d_X_requireBelow_1 : decode c_X_requireBelow 1 = .ok (.iconst 0, 1) := by decide +kernel
theorem d_X_requireBelow_2 : decode c_X_requireBelow 2 = .ok (.iload_n 1, 1) := by decide +kernel
theorem d_X_requireBelow_3 : decode c_X_requireBelow 3 = .ok (.iconst 1, 1) := by decide +kernel
theorem d_X_requireBelow_4 : decode c_X_requireBelow 4 = .ok (.isub, 1) := by decide +kernel
theorem d_X_requireBelow_5 : decode c_X_requireBelow 5 = .ok (.invokestatic 160, 3) := by decide +kernel
theorem d_X_requireBelow_8 : decode c_X_requireBelow 8 = .ok (.ifCond .ne 13, 3) := by decide +kernel
theorem d_X_requireBelow_11 : decode c_X_requireBelow 11 = .ok (.new 152, 3) := by decide +kernel
theorem d_X_requireBelow_14 : decode c_X_requireBelow 14 = .ok (.dup, 1) := by decide +kernel
theorem d_X_requireBelow_15 : decode c_X_requireBelow 15 = .ok (.ldc 163, 2) := by decide +kernel
theorem d_X_requireBelow_17 : decode c_X_requireBelow 17 = .ok (.invokespecial 156, 3) := by decide +kernel
theorem d_X_requireBelow_20 : decode c_X_requireBelow 20 = .ok (.athrow, 1) := by decide +kernel
theorem d_X_requireBelow_21 : decode c_X_requireBelow 21 = .ok (.return_, 1) := by decide +kernel
theorem d_X_draw_0 : decode c_X_draw 0 = .ok (.aload_n 0, 1) := by decide +kernel
theorem d_X_draw_1 : decode c_X_draw 1 = .ok (.iload_n 2, 1) := by decide +kernel
theorem d_X_draw_2 : decode c_X_draw 2 = .ok (.iload_n 3, 1) := by decide +kernel
theorem d_X_draw_3 : decode c_X_draw 3 = .ok (.invokevirtual 92, 3) := by decide +kernel
theorem d_X_draw_6 : decode c_X_draw 6 = .ok (.aload_n 1, 1) := by decide +kernel
theorem d_X_draw_7 : decode c_X_draw 7 = .ok (.aload_n 0, 1) := by decide +kernel
theorem d_X_draw_8 : decode c_X_draw 8 = .ok (.getfield 10, 3) := by decide +kernel
theorem d_X_draw_11 : decode c_X_draw 11 = .ok (.aload_n 0, 1) := by decide +kernel
theorem d_X_draw_12 : decode c_X_draw 12 = .ok (.getfield 19, 3) := by decide +kernel
theorem d_X_draw_15 : decode c_X_draw 15 = .ok (.invokevirtual 150, 3) := by decide +kernel
theorem d_X_draw_18 : decode c_X_draw 18 = .ok (.return_, 1) := by decide +kernel
theorem d_X_gather_0 : decode c_X_gather 0 = .ok (.iload_n 1, 1) := by decide +kernel
theorem d_X_gather_1 : decode c_X_gather 1 = .ok (.invokestatic 58, 3) := by decide +kernel
theorem d_X_gather_4 : decode c_X_gather 4 = .ok (.ifCond .eq 10, 3) := by decide +kernel
theorem d_X_gather_7 : decode c_X_gather 7 = .ok (.iload_n 2, 1) := by decide +kernel
theorem d_X_gather_8 : decode c_X_gather 8 = .ok (.invokestatic 58, 3) := by decide +kernel
theorem d_X_gather_11 : decode c_X_gather 11 = .ok (.ifCond .ne 13, 3) := by decide +kernel
theorem d_X_gather_14 : decode c_X_gather 14 = .ok (.new 152, 3) := by decide +kernel
theorem d_X_gather_17 : decode c_X_gather 17 = .ok (.dup, 1) := by decide +kernel
theorem d_X_gather_18 : decode c_X_gather 18 = .ok (.ldc 154, 2) := by decide +kernel
theorem d_X_gather_20 : decode c_X_gather 20 = .ok (.invokespecial 156, 3) := by decide +kernel
theorem d_X_gather_23 : decode c_X_gather 23 = .ok (.athrow, 1) := by decide +kernel
theorem d_X_gather_24 : decode c_X_gather 24 = .ok (.aload_n 0, 1) := by decide +kernel
theorem d_X_gather_25 : decode c_X_gather 25 = .ok (.getfield 19, 3) := by decide +kernel
theorem d_X_gather_28 : decode c_X_gather 28 = .ok (.aload_n 0, 1) := by decide +kernel
theorem d_X_gather_29 : decode c_X_gather 29 = .ok (.getfield 10, 3) := by decide +kernel
theorem d_X_gather_32 : decode c_X_gather 32 = .ok (.iload_n 1, 1) := by decide +kernel
theorem d_X_gather_33 : decode c_X_gather 33 = .ok (.iload_n 2, 1) := by decide +kernel
theorem d_X_gather_34 : decode c_X_gather 34 = .ok (.invokevirtual 157, 3) := by decide +kernel
theorem d_X_gather_37 : decode c_X_gather 37 = .ok (.return_, 1) := by decide +kernel
theorem d_O_gather_0 : decode c_O_gather 0 = .ok (.aload_n 0, 1) := by decide +kernel
theorem d_O_gather_1 : decode c_O_gather 1 = .ok (.iconst 0, 1) := by decide +kernel
theorem d_O_gather_2 : decode c_O_gather 2 = .ok (.putfield 15, 3) := by decide +kernel
theorem d_O_gather_5 : decode c_O_gather 5 = .ok (.iconst 0, 1) := by decide +kernel
theorem d_O_gather_6 : decode c_O_gather 6 = .ok (.istore 4, 2) := by decide +kernel
theorem d_O_gather_8 : decode c_O_gather 8 = .ok (.iload 4, 2) := by decide +kernel
theorem d_O_gather_10 : decode c_O_gather 10 = .ok (.aload_n 1, 1) := by decide +kernel
theorem d_O_gather_11 : decode c_O_gather 11 = .ok (.getfield 19, 3) := by decide +kernel
theorem d_O_gather_14 : decode c_O_gather 14 = .ok (.if_icmp .ge 27, 3) := by decide +kernel
theorem d_O_gather_17 : decode c_O_gather 17 = .ok (.aload_n 1, 1) := by decide +kernel
theorem d_O_gather_18 : decode c_O_gather 18 = .ok (.iload 4, 2) := by decide +kernel
theorem d_O_gather_20 : decode c_O_gather 20 = .ok (.iload_n 2, 1) := by decide +kernel
theorem d_O_gather_21 : decode c_O_gather 21 = .ok (.iload_n 3, 1) := by decide +kernel
theorem d_O_gather_22 : decode c_O_gather 22 = .ok (.invokevirtual 22, 3) := by decide +kernel
theorem d_O_gather_25 : decode c_O_gather 25 = .ok (.ifCond .eq 10, 3) := by decide +kernel
theorem d_O_gather_28 : decode c_O_gather 28 = .ok (.aload_n 0, 1) := by decide +kernel
theorem d_O_gather_29 : decode c_O_gather 29 = .ok (.aload_n 1, 1) := by decide +kernel
theorem d_O_gather_30 : decode c_O_gather 30 = .ok (.iload 4, 2) := by decide +kernel
theorem d_O_gather_32 : decode c_O_gather 32 = .ok (.invokevirtual 26, 3) := by decide +kernel
theorem d_O_gather_35 : decode c_O_gather 35 = .ok (.iinc 4 1, 3) := by decide +kernel
theorem d_O_gather_38 : decode c_O_gather 38 = .ok (.goto (-30), 3) := by decide +kernel
theorem d_O_gather_41 : decode c_O_gather 41 = .ok (.return_, 1) := by decide +kernel
theorem d_A_holds_0 : decode c_A_holds 0 = .ok (.aload_n 0, 1) := by decide +kernel
theorem d_A_holds_1 : decode c_A_holds 1 = .ok (.getfield 9, 3) := by decide +kernel
theorem d_A_holds_4 : decode c_A_holds 4 = .ok (.iload_n 1, 1) := by decide +kernel
theorem d_A_holds_5 : decode c_A_holds 5 = .ok (.iaload, 1) := by decide +kernel
theorem d_A_holds_6 : decode c_A_holds 6 = .ok (.iconst 5, 1) := by decide +kernel
theorem d_A_holds_7 : decode c_A_holds 7 = .ok (.if_icmp .eq 36, 3) := by decide +kernel
theorem d_A_holds_10 : decode c_A_holds 10 = .ok (.aload_n 0, 1) := by decide +kernel
theorem d_A_holds_11 : decode c_A_holds 11 = .ok (.getfield 21, 3) := by decide +kernel
theorem d_A_holds_14 : decode c_A_holds 14 = .ok (.iload_n 1, 1) := by decide +kernel
theorem d_A_holds_15 : decode c_A_holds 15 = .ok (.iaload, 1) := by decide +kernel
theorem d_A_holds_16 : decode c_A_holds 16 = .ok (.iload_n 2, 1) := by decide +kernel
theorem d_A_holds_17 : decode c_A_holds 17 = .ok (.if_icmp .gt 26, 3) := by decide +kernel
theorem d_A_holds_20 : decode c_A_holds 20 = .ok (.aload_n 0, 1) := by decide +kernel
theorem d_A_holds_21 : decode c_A_holds 21 = .ok (.getfield 24, 3) := by decide +kernel
theorem d_A_holds_24 : decode c_A_holds 24 = .ok (.iload_n 1, 1) := by decide +kernel
theorem d_A_holds_25 : decode c_A_holds 25 = .ok (.iaload, 1) := by decide +kernel
theorem d_A_holds_26 : decode c_A_holds 26 = .ok (.iload_n 3, 1) := by decide +kernel
theorem d_A_holds_27 : decode c_A_holds 27 = .ok (.if_icmp .gt 16, 3) := by decide +kernel
theorem d_A_holds_30 : decode c_A_holds 30 = .ok (.aload_n 0, 1) := by decide +kernel
theorem d_A_holds_31 : decode c_A_holds 31 = .ok (.iload_n 1, 1) := by decide +kernel
theorem d_A_holds_32 : decode c_A_holds 32 = .ok (.iload_n 3, 1) := by decide +kernel
theorem d_A_holds_33 : decode c_A_holds 33 = .ok (.invokevirtual 45, 3) := by decide +kernel
theorem d_A_holds_36 : decode c_A_holds 36 = .ok (.ifCond .ne 7, 3) := by decide +kernel
theorem d_A_holds_39 : decode c_A_holds 39 = .ok (.iconst 1, 1) := by decide +kernel
theorem d_A_holds_40 : decode c_A_holds 40 = .ok (.goto 4, 3) := by decide +kernel
theorem d_A_holds_43 : decode c_A_holds 43 = .ok (.iconst 0, 1) := by decide +kernel
theorem d_A_holds_44 : decode c_A_holds 44 = .ok (.ireturn, 1) := by decide +kernel
theorem d_O_insert_0 : decode c_O_insert 0 = .ok (.aload_n 0, 1) := by decide +kernel
theorem d_O_insert_1 : decode c_O_insert 1 = .ok (.getfield 15, 3) := by decide +kernel
theorem d_O_insert_4 : decode c_O_insert 4 = .ok (.istore_n 3, 1) := by decide +kernel
theorem d_O_insert_5 : decode c_O_insert 5 = .ok (.iload_n 3, 1) := by decide +kernel
theorem d_O_insert_6 : decode c_O_insert 6 = .ok (.ifCond .le 39, 3) := by decide +kernel
theorem d_O_insert_9 : decode c_O_insert 9 = .ok (.aload_n 1, 1) := by decide +kernel
theorem d_O_insert_10 : decode c_O_insert 10 = .ok (.iload_n 2, 1) := by decide +kernel
theorem d_O_insert_11 : decode c_O_insert 11 = .ok (.aload_n 0, 1) := by decide +kernel
theorem d_O_insert_12 : decode c_O_insert 12 = .ok (.getfield 9, 3) := by decide +kernel
theorem d_O_insert_15 : decode c_O_insert 15 = .ok (.iload_n 3, 1) := by decide +kernel
theorem d_O_insert_16 : decode c_O_insert 16 = .ok (.iconst 1, 1) := by decide +kernel
theorem d_O_insert_17 : decode c_O_insert 17 = .ok (.isub, 1) := by decide +kernel
theorem d_O_insert_18 : decode c_O_insert 18 = .ok (.iaload, 1) := by decide +kernel
theorem d_O_insert_19 : decode c_O_insert 19 = .ok (.invokevirtual 30, 3) := by decide +kernel
theorem d_O_insert_22 : decode c_O_insert 22 = .ok (.ifCond .eq 23, 3) := by decide +kernel
theorem d_O_insert_25 : decode c_O_insert 25 = .ok (.aload_n 0, 1) := by decide +kernel
theorem d_O_insert_26 : decode c_O_insert 26 = .ok (.getfield 9, 3) := by decide +kernel
theorem d_O_insert_29 : decode c_O_insert 29 = .ok (.iload_n 3, 1) := by decide +kernel
theorem d_O_insert_30 : decode c_O_insert 30 = .ok (.aload_n 0, 1) := by decide +kernel
theorem d_O_insert_31 : decode c_O_insert 31 = .ok (.getfield 9, 3) := by decide +kernel
theorem d_O_insert_34 : decode c_O_insert 34 = .ok (.iload_n 3, 1) := by decide +kernel
theorem d_O_insert_35 : decode c_O_insert 35 = .ok (.iconst 1, 1) := by decide +kernel
theorem d_O_insert_36 : decode c_O_insert 36 = .ok (.isub, 1) := by decide +kernel
theorem d_O_insert_37 : decode c_O_insert 37 = .ok (.iaload, 1) := by decide +kernel
theorem d_O_insert_38 : decode c_O_insert 38 = .ok (.iastore, 1) := by decide +kernel
theorem d_O_insert_39 : decode c_O_insert 39 = .ok (.iinc 3 (-1), 3) := by decide +kernel
theorem d_O_insert_42 : decode c_O_insert 42 = .ok (.goto (-37), 3) := by decide +kernel
theorem d_O_insert_45 : decode c_O_insert 45 = .ok (.aload_n 0, 1) := by decide +kernel
theorem d_O_insert_46 : decode c_O_insert 46 = .ok (.getfield 9, 3) := by decide +kernel
theorem d_O_insert_49 : decode c_O_insert 49 = .ok (.iload_n 3, 1) := by decide +kernel
theorem d_O_insert_50 : decode c_O_insert 50 = .ok (.iload_n 2, 1) := by decide +kernel
theorem d_O_insert_51 : decode c_O_insert 51 = .ok (.iastore, 1) := by decide +kernel
theorem d_O_insert_52 : decode c_O_insert 52 = .ok (.aload_n 0, 1) := by decide +kernel
theorem d_O_insert_53 : decode c_O_insert 53 = .ok (.dup, 1) := by decide +kernel
theorem d_O_insert_54 : decode c_O_insert 54 = .ok (.getfield 15, 3) := by decide +kernel
theorem d_O_insert_57 : decode c_O_insert 57 = .ok (.iconst 1, 1) := by decide +kernel
theorem d_O_insert_58 : decode c_O_insert 58 = .ok (.iadd, 1) := by decide +kernel
theorem d_O_insert_59 : decode c_O_insert 59 = .ok (.putfield 15, 3) := by decide +kernel
theorem d_O_insert_62 : decode c_O_insert 62 = .ok (.return_, 1) := by decide +kernel
theorem d_A_goesAhead_0 : decode c_A_goesAhead 0 = .ok (.aload_n 0, 1) := by decide +kernel
theorem d_A_goesAhead_1 : decode c_A_goesAhead 1 = .ok (.getfield 21, 3) := by decide +kernel
theorem d_A_goesAhead_4 : decode c_A_goesAhead 4 = .ok (.iload_n 1, 1) := by decide +kernel
theorem d_A_goesAhead_5 : decode c_A_goesAhead 5 = .ok (.iaload, 1) := by decide +kernel
theorem d_A_goesAhead_6 : decode c_A_goesAhead 6 = .ok (.aload_n 0, 1) := by decide +kernel
theorem d_A_goesAhead_7 : decode c_A_goesAhead 7 = .ok (.getfield 21, 3) := by decide +kernel
theorem d_A_goesAhead_10 : decode c_A_goesAhead 10 = .ok (.iload_n 2, 1) := by decide +kernel
theorem d_A_goesAhead_11 : decode c_A_goesAhead 11 = .ok (.iaload, 1) := by decide +kernel
theorem d_A_goesAhead_12 : decode c_A_goesAhead 12 = .ok (.if_icmp .eq 24, 3) := by decide +kernel
theorem d_A_goesAhead_15 : decode c_A_goesAhead 15 = .ok (.aload_n 0, 1) := by decide +kernel
theorem d_A_goesAhead_16 : decode c_A_goesAhead 16 = .ok (.getfield 21, 3) := by decide +kernel
theorem d_A_goesAhead_19 : decode c_A_goesAhead 19 = .ok (.iload_n 1, 1) := by decide +kernel
theorem d_A_goesAhead_20 : decode c_A_goesAhead 20 = .ok (.iaload, 1) := by decide +kernel
theorem d_A_goesAhead_21 : decode c_A_goesAhead 21 = .ok (.aload_n 0, 1) := by decide +kernel
theorem d_A_goesAhead_22 : decode c_A_goesAhead 22 = .ok (.getfield 21, 3) := by decide +kernel
theorem d_A_goesAhead_25 : decode c_A_goesAhead 25 = .ok (.iload_n 2, 1) := by decide +kernel
theorem d_A_goesAhead_26 : decode c_A_goesAhead 26 = .ok (.iaload, 1) := by decide +kernel
theorem d_A_goesAhead_27 : decode c_A_goesAhead 27 = .ok (.if_icmp .ge 7, 3) := by decide +kernel
theorem d_A_goesAhead_30 : decode c_A_goesAhead 30 = .ok (.iconst 1, 1) := by decide +kernel
theorem d_A_goesAhead_31 : decode c_A_goesAhead 31 = .ok (.goto 4, 3) := by decide +kernel
theorem d_A_goesAhead_34 : decode c_A_goesAhead 34 = .ok (.iconst 0, 1) := by decide +kernel
theorem d_A_goesAhead_35 : decode c_A_goesAhead 35 = .ok (.ireturn, 1) := by decide +kernel
theorem d_A_goesAhead_36 : decode c_A_goesAhead 36 = .ok (.aload_n 0, 1) := by decide +kernel
theorem d_A_goesAhead_37 : decode c_A_goesAhead 37 = .ok (.getfield 9, 3) := by decide +kernel
theorem d_A_goesAhead_40 : decode c_A_goesAhead 40 = .ok (.iload_n 1, 1) := by decide +kernel
theorem d_A_goesAhead_41 : decode c_A_goesAhead 41 = .ok (.iaload, 1) := by decide +kernel
theorem d_A_goesAhead_42 : decode c_A_goesAhead 42 = .ok (.aload_n 0, 1) := by decide +kernel
theorem d_A_goesAhead_43 : decode c_A_goesAhead 43 = .ok (.getfield 9, 3) := by decide +kernel
theorem d_A_goesAhead_46 : decode c_A_goesAhead 46 = .ok (.iload_n 2, 1) := by decide +kernel
theorem d_A_goesAhead_47 : decode c_A_goesAhead 47 = .ok (.iaload, 1) := by decide +kernel
theorem d_A_goesAhead_48 : decode c_A_goesAhead 48 = .ok (.if_icmp .ge 7, 3) := by decide +kernel
theorem d_A_goesAhead_51 : decode c_A_goesAhead 51 = .ok (.iconst 1, 1) := by decide +kernel
theorem d_A_goesAhead_52 : decode c_A_goesAhead 52 = .ok (.goto 4, 3) := by decide +kernel
theorem d_A_goesAhead_55 : decode c_A_goesAhead 55 = .ok (.iconst 0, 1) := by decide +kernel
theorem d_A_goesAhead_56 : decode c_A_goesAhead 56 = .ok (.ireturn, 1) := by decide +kernel
theorem d_P_draw_0 : decode c_P_draw 0 = .ok (.aload_n 0, 1) := by decide +kernel
theorem d_P_draw_1 : decode c_P_draw 1 = .ok (.getfield 9, 3) := by decide +kernel
theorem d_P_draw_4 : decode c_P_draw 4 = .ok (.iconst (-1), 1) := by decide +kernel
theorem d_P_draw_5 : decode c_P_draw 5 = .ok (.invokestatic 21, 3) := by decide +kernel
theorem d_P_draw_8 : decode c_P_draw 8 = .ok (.aload_n 0, 1) := by decide +kernel
theorem d_P_draw_9 : decode c_P_draw 9 = .ok (.getfield 15, 3) := by decide +kernel
theorem d_P_draw_12 : decode c_P_draw 12 = .ok (.iconst 0, 1) := by decide +kernel
theorem d_P_draw_13 : decode c_P_draw 13 = .ok (.invokestatic 21, 3) := by decide +kernel
theorem d_P_draw_16 : decode c_P_draw 16 = .ok (.aload_n 0, 1) := by decide +kernel
theorem d_P_draw_17 : decode c_P_draw 17 = .ok (.getfield 18, 3) := by decide +kernel
theorem d_P_draw_20 : decode c_P_draw 20 = .ok (.iconst 0, 1) := by decide +kernel
theorem d_P_draw_21 : decode c_P_draw 21 = .ok (.invokestatic 21, 3) := by decide +kernel
theorem d_P_draw_24 : decode c_P_draw 24 = .ok (.iconst 0, 1) := by decide +kernel
theorem d_P_draw_25 : decode c_P_draw 25 = .ok (.istore_n 3, 1) := by decide +kernel
theorem d_P_draw_26 : decode c_P_draw 26 = .ok (.iload_n 3, 1) := by decide +kernel
theorem d_P_draw_27 : decode c_P_draw 27 = .ok (.aload_n 2, 1) := by decide +kernel
theorem d_P_draw_28 : decode c_P_draw 28 = .ok (.getfield 27, 3) := by decide +kernel
theorem d_P_draw_31 : decode c_P_draw 31 = .ok (.if_icmp .ge 42, 3) := by decide +kernel
theorem d_P_draw_34 : decode c_P_draw 34 = .ok (.aload_n 2, 1) := by decide +kernel
theorem d_P_draw_35 : decode c_P_draw 35 = .ok (.getfield 33, 3) := by decide +kernel
theorem d_P_draw_38 : decode c_P_draw 38 = .ok (.iload_n 3, 1) := by decide +kernel
theorem d_P_draw_39 : decode c_P_draw 39 = .ok (.iaload, 1) := by decide +kernel
theorem d_P_draw_40 : decode c_P_draw 40 = .ok (.istore 4, 2) := by decide +kernel
theorem d_P_draw_42 : decode c_P_draw 42 = .ok (.aload_n 0, 1) := by decide +kernel
theorem d_P_draw_43 : decode c_P_draw 43 = .ok (.aload_n 1, 1) := by decide +kernel
theorem d_P_draw_44 : decode c_P_draw 44 = .ok (.getfield 36, 3) := by decide +kernel
theorem d_P_draw_47 : decode c_P_draw 47 = .ok (.iload 4, 2) := by decide +kernel
theorem d_P_draw_49 : decode c_P_draw 49 = .ok (.iaload, 1) := by decide +kernel
theorem d_P_draw_50 : decode c_P_draw 50 = .ok (.aload_n 1, 1) := by decide +kernel
theorem d_P_draw_51 : decode c_P_draw 51 = .ok (.getfield 41, 3) := by decide +kernel
theorem d_P_draw_54 : decode c_P_draw 54 = .ok (.iload 4, 2) := by decide +kernel
theorem d_P_draw_56 : decode c_P_draw 56 = .ok (.iaload, 1) := by decide +kernel
theorem d_P_draw_57 : decode c_P_draw 57 = .ok (.aload_n 1, 1) := by decide +kernel
theorem d_P_draw_58 : decode c_P_draw 58 = .ok (.getfield 44, 3) := by decide +kernel
theorem d_P_draw_61 : decode c_P_draw 61 = .ok (.iload 4, 2) := by decide +kernel
theorem d_P_draw_63 : decode c_P_draw 63 = .ok (.iaload, 1) := by decide +kernel
theorem d_P_draw_64 : decode c_P_draw 64 = .ok (.invokevirtual 47, 3) := by decide +kernel
theorem d_P_draw_67 : decode c_P_draw 67 = .ok (.iinc 3 1, 3) := by decide +kernel
theorem d_P_draw_70 : decode c_P_draw 70 = .ok (.goto (-44), 3) := by decide +kernel
theorem d_P_draw_73 : decode c_P_draw 73 = .ok (.return_, 1) := by decide +kernel
theorem d_Ar_fill_0 : decode c_Ar_fill 0 = .ok (.iconst 0, 1) := by decide +kernel
theorem d_Ar_fill_1 : decode c_Ar_fill 1 = .ok (.istore_n 2, 1) := by decide +kernel
theorem d_Ar_fill_2 : decode c_Ar_fill 2 = .ok (.aload_n 0, 1) := by decide +kernel
theorem d_Ar_fill_3 : decode c_Ar_fill 3 = .ok (.arraylength, 1) := by decide +kernel
theorem d_Ar_fill_4 : decode c_Ar_fill 4 = .ok (.istore_n 3, 1) := by decide +kernel
theorem d_Ar_fill_5 : decode c_Ar_fill 5 = .ok (.iload_n 2, 1) := by decide +kernel
theorem d_Ar_fill_6 : decode c_Ar_fill 6 = .ok (.iload_n 3, 1) := by decide +kernel
theorem d_Ar_fill_7 : decode c_Ar_fill 7 = .ok (.if_icmp .ge 13, 3) := by decide +kernel
theorem d_Ar_fill_10 : decode c_Ar_fill 10 = .ok (.aload_n 0, 1) := by decide +kernel
theorem d_Ar_fill_11 : decode c_Ar_fill 11 = .ok (.iload_n 2, 1) := by decide +kernel
theorem d_Ar_fill_12 : decode c_Ar_fill 12 = .ok (.iload_n 1, 1) := by decide +kernel
theorem d_Ar_fill_13 : decode c_Ar_fill 13 = .ok (.iastore, 1) := by decide +kernel
theorem d_Ar_fill_14 : decode c_Ar_fill 14 = .ok (.iinc 2 1, 3) := by decide +kernel
theorem d_Ar_fill_17 : decode c_Ar_fill 17 = .ok (.goto (-12), 3) := by decide +kernel
theorem d_Ar_fill_20 : decode c_Ar_fill 20 = .ok (.return_, 1) := by decide +kernel
theorem d_P_apply_0 : decode c_P_apply 0 = .ok (.iload_n 1, 1) := by decide +kernel
theorem d_P_apply_1 : decode c_P_apply 1 = .ok (.tableswitch 92 0 3 #[31, 50, 60, 79], 31) := by decide +kernel
theorem d_P_apply_32 : decode c_P_apply 32 = .ok (.aload_n 0, 1) := by decide +kernel
theorem d_P_apply_33 : decode c_P_apply 33 = .ok (.iload_n 3, 1) := by decide +kernel
theorem d_P_apply_34 : decode c_P_apply 34 = .ok (.invokevirtual 51, 3) := by decide +kernel
theorem d_P_apply_37 : decode c_P_apply 37 = .ok (.iconst (-1), 1) := by decide +kernel
theorem d_P_apply_38 : decode c_P_apply 38 = .ok (.if_icmp .ne 55, 3) := by decide +kernel
theorem d_P_apply_41 : decode c_P_apply 41 = .ok (.aload_n 0, 1) := by decide +kernel
theorem d_P_apply_42 : decode c_P_apply 42 = .ok (.getfield 9, 3) := by decide +kernel
theorem d_P_apply_45 : decode c_P_apply 45 = .ok (.iload_n 2, 1) := by decide +kernel
theorem d_P_apply_46 : decode c_P_apply 46 = .ok (.iload_n 3, 1) := by decide +kernel
theorem d_P_apply_47 : decode c_P_apply 47 = .ok (.iastore, 1) := by decide +kernel
theorem d_P_apply_48 : decode c_P_apply 48 = .ok (.goto 45, 3) := by decide +kernel
theorem d_P_apply_51 : decode c_P_apply 51 = .ok (.aload_n 0, 1) := by decide +kernel
theorem d_P_apply_52 : decode c_P_apply 52 = .ok (.getfield 9, 3) := by decide +kernel
theorem d_P_apply_55 : decode c_P_apply 55 = .ok (.iload_n 2, 1) := by decide +kernel
theorem d_P_apply_56 : decode c_P_apply 56 = .ok (.iconst (-1), 1) := by decide +kernel
theorem d_P_apply_57 : decode c_P_apply 57 = .ok (.iastore, 1) := by decide +kernel
theorem d_P_apply_58 : decode c_P_apply 58 = .ok (.goto 35, 3) := by decide +kernel
theorem d_P_apply_61 : decode c_P_apply 61 = .ok (.aload_n 0, 1) := by decide +kernel
theorem d_P_apply_62 : decode c_P_apply 62 = .ok (.getfield 15, 3) := by decide +kernel
theorem d_P_apply_65 : decode c_P_apply 65 = .ok (.iload_n 2, 1) := by decide +kernel
theorem d_P_apply_66 : decode c_P_apply 66 = .ok (.aload_n 0, 1) := by decide +kernel
theorem d_P_apply_67 : decode c_P_apply 67 = .ok (.getfield 15, 3) := by decide +kernel
theorem d_P_apply_70 : decode c_P_apply 70 = .ok (.iload_n 2, 1) := by decide +kernel
theorem d_P_apply_71 : decode c_P_apply 71 = .ok (.iaload, 1) := by decide +kernel
theorem d_P_apply_72 : decode c_P_apply 72 = .ok (.iload_n 3, 1) := by decide +kernel
theorem d_P_apply_73 : decode c_P_apply 73 = .ok (.invokestatic 55, 3) := by decide +kernel
theorem d_P_apply_76 : decode c_P_apply 76 = .ok (.iastore, 1) := by decide +kernel
theorem d_P_apply_77 : decode c_P_apply 77 = .ok (.goto 16, 3) := by decide +kernel
theorem d_P_apply_80 : decode c_P_apply 80 = .ok (.aload_n 0, 1) := by decide +kernel
theorem d_P_apply_81 : decode c_P_apply 81 = .ok (.getfield 18, 3) := by decide +kernel
theorem d_P_apply_84 : decode c_P_apply 84 = .ok (.iload_n 2, 1) := by decide +kernel
theorem d_P_apply_85 : decode c_P_apply 85 = .ok (.dup2, 1) := by decide +kernel
theorem d_P_apply_86 : decode c_P_apply 86 = .ok (.iaload, 1) := by decide +kernel
theorem d_P_apply_87 : decode c_P_apply 87 = .ok (.iload_n 3, 1) := by decide +kernel
theorem d_P_apply_88 : decode c_P_apply 88 = .ok (.iadd, 1) := by decide +kernel
theorem d_P_apply_89 : decode c_P_apply 89 = .ok (.iastore, 1) := by decide +kernel
theorem d_P_apply_90 : decode c_P_apply 90 = .ok (.goto 3, 3) := by decide +kernel
theorem d_P_apply_93 : decode c_P_apply 93 = .ok (.return_, 1) := by decide +kernel
theorem d_P_boxIn_0 : decode c_P_boxIn 0 = .ok (.iconst 0, 1) := by decide +kernel
theorem d_P_boxIn_1 : decode c_P_boxIn 1 = .ok (.istore_n 2, 1) := by decide +kernel
theorem d_P_boxIn_2 : decode c_P_boxIn 2 = .ok (.iload_n 2, 1) := by decide +kernel
theorem d_P_boxIn_3 : decode c_P_boxIn 3 = .ok (.bipush 20, 2) := by decide +kernel
theorem d_P_boxIn_5 : decode c_P_boxIn 5 = .ok (.if_icmp .ge 21, 3) := by decide +kernel
theorem d_P_boxIn_8 : decode c_P_boxIn 8 = .ok (.aload_n 0, 1) := by decide +kernel
theorem d_P_boxIn_9 : decode c_P_boxIn 9 = .ok (.getfield 9, 3) := by decide +kernel
theorem d_P_boxIn_12 : decode c_P_boxIn 12 = .ok (.iload_n 2, 1) := by decide +kernel
theorem d_P_boxIn_13 : decode c_P_boxIn 13 = .ok (.iaload, 1) := by decide +kernel
theorem d_P_boxIn_14 : decode c_P_boxIn 14 = .ok (.iload_n 1, 1) := by decide +kernel
theorem d_P_boxIn_15 : decode c_P_boxIn 15 = .ok (.if_icmp .ne 5, 3) := by decide +kernel
theorem d_P_boxIn_18 : decode c_P_boxIn 18 = .ok (.iload_n 2, 1) := by decide +kernel
theorem d_P_boxIn_19 : decode c_P_boxIn 19 = .ok (.ireturn, 1) := by decide +kernel
theorem d_P_boxIn_20 : decode c_P_boxIn 20 = .ok (.iinc 2 1, 3) := by decide +kernel
theorem d_P_boxIn_23 : decode c_P_boxIn 23 = .ok (.goto (-21), 3) := by decide +kernel
theorem d_P_boxIn_26 : decode c_P_boxIn 26 = .ok (.iconst (-1), 1) := by decide +kernel
theorem d_P_boxIn_27 : decode c_P_boxIn 27 = .ok (.ireturn, 1) := by decide +kernel
theorem d_Ma_max_0 : decode c_Ma_max 0 = .ok (.iload_n 0, 1) := by decide +kernel
theorem d_Ma_max_1 : decode c_Ma_max 1 = .ok (.iload_n 1, 1) := by decide +kernel
theorem d_Ma_max_2 : decode c_Ma_max 2 = .ok (.if_icmp .lt 7, 3) := by decide +kernel
theorem d_Ma_max_5 : decode c_Ma_max 5 = .ok (.iload_n 0, 1) := by decide +kernel
theorem d_Ma_max_6 : decode c_Ma_max 6 = .ok (.goto 4, 3) := by decide +kernel
theorem d_Ma_max_9 : decode c_Ma_max 9 = .ok (.iload_n 1, 1) := by decide +kernel
theorem d_Ma_max_10 : decode c_Ma_max 10 = .ok (.ireturn, 1) := by decide +kernel
theorem d_L_at_0 : decode c_L_at 0 = .ok (.aload 4, 2) := by decide +kernel
theorem d_L_at_2 : decode c_L_at 2 = .ok (.iconst 0, 1) := by decide +kernel
theorem d_L_at_3 : decode c_L_at 3 = .ok (.aload_n 0, 1) := by decide +kernel
theorem d_L_at_4 : decode c_L_at 4 = .ok (.iload_n 1, 1) := by decide +kernel
theorem d_L_at_5 : decode c_L_at 5 = .ok (.iload_n 2, 1) := by decide +kernel
theorem d_L_at_6 : decode c_L_at 6 = .ok (.iload_n 3, 1) := by decide +kernel
theorem d_L_at_7 : decode c_L_at 7 = .ok (.invokevirtual 15, 3) := by decide +kernel
theorem d_L_at_10 : decode c_L_at 10 = .ok (.i2l, 1) := by decide +kernel
theorem d_L_at_11 : decode c_L_at 11 = .ok (.lastore, 1) := by decide +kernel
theorem d_L_at_12 : decode c_L_at 12 = .ok (.goto 7, 3) := by decide +kernel
theorem d_L_at_15 : decode c_L_at 15 = .ok (.astore 5, 2) := by decide +kernel
theorem d_L_at_17 : decode c_L_at 17 = .ok (.iconst 1, 1) := by decide +kernel
theorem d_L_at_18 : decode c_L_at 18 = .ok (.ireturn, 1) := by decide +kernel
theorem d_L_at_19 : decode c_L_at 19 = .ok (.iconst 0, 1) := by decide +kernel
theorem d_L_at_20 : decode c_L_at 20 = .ok (.ireturn, 1) := by decide +kernel
theorem d_X_at_0 : decode c_X_at 0 = .ok (.iload_n 1, 1) := by decide +kernel
theorem d_X_at_1 : decode c_X_at 1 = .ok (.bipush 100, 2) := by decide +kernel
theorem d_X_at_3 : decode c_X_at 3 = .ok (.invokestatic 70, 3) := by decide +kernel
theorem d_X_at_6 : decode c_X_at 6 = .ok (.aload_n 0, 1) := by decide +kernel
theorem d_X_at_7 : decode c_X_at 7 = .ok (.aload_n 0, 1) := by decide +kernel
theorem d_X_at_8 : decode c_X_at 8 = .ok (.getfield 26, 3) := by decide +kernel
theorem d_X_at_11 : decode c_X_at 11 = .ok (.iload_n 2, 1) := by decide +kernel
theorem d_X_at_12 : decode c_X_at 12 = .ok (.iload_n 3, 1) := by decide +kernel
theorem d_X_at_13 : decode c_X_at 13 = .ok (.invokevirtual 74, 3) := by decide +kernel
theorem d_X_at_16 : decode c_X_at 16 = .ok (.aload_n 0, 1) := by decide +kernel
theorem d_X_at_17 : decode c_X_at 17 = .ok (.getfield 26, 3) := by decide +kernel
theorem d_X_at_20 : decode c_X_at 20 = .ok (.iload_n 1, 1) := by decide +kernel
theorem d_X_at_21 : decode c_X_at 21 = .ok (.invokevirtual 82, 3) := by decide +kernel
theorem d_X_at_24 : decode c_X_at 24 = .ok (.ireturn, 1) := by decide +kernel
theorem d_L_state_0 : decode c_L_state 0 = .ok (.aload 4, 2) := by decide +kernel
theorem d_L_state_2 : decode c_L_state 2 = .ok (.iconst 0, 1) := by decide +kernel
theorem d_L_state_3 : decode c_L_state 3 = .ok (.aload_n 0, 1) := by decide +kernel
theorem d_L_state_4 : decode c_L_state 4 = .ok (.iload_n 1, 1) := by decide +kernel
theorem d_L_state_5 : decode c_L_state 5 = .ok (.iload_n 2, 1) := by decide +kernel
theorem d_L_state_6 : decode c_L_state 6 = .ok (.iload_n 3, 1) := by decide +kernel
theorem d_L_state_7 : decode c_L_state 7 = .ok (.invokevirtual 18, 3) := by decide +kernel
theorem d_L_state_10 : decode c_L_state 10 = .ok (.i2l, 1) := by decide +kernel
theorem d_L_state_11 : decode c_L_state 11 = .ok (.lastore, 1) := by decide +kernel
theorem d_L_state_12 : decode c_L_state 12 = .ok (.goto 7, 3) := by decide +kernel
theorem d_L_state_15 : decode c_L_state 15 = .ok (.astore 5, 2) := by decide +kernel
theorem d_L_state_17 : decode c_L_state 17 = .ok (.iconst 1, 1) := by decide +kernel
theorem d_L_state_18 : decode c_L_state 18 = .ok (.ireturn, 1) := by decide +kernel
theorem d_L_state_19 : decode c_L_state 19 = .ok (.iconst 0, 1) := by decide +kernel
theorem d_L_state_20 : decode c_L_state 20 = .ok (.ireturn, 1) := by decide +kernel
theorem d_X_state_0 : decode c_X_state 0 = .ok (.iload_n 1, 1) := by decide +kernel
theorem d_X_state_1 : decode c_X_state 1 = .ok (.bipush 10, 2) := by decide +kernel
theorem d_X_state_3 : decode c_X_state 3 = .ok (.invokestatic 70, 3) := by decide +kernel
theorem d_X_state_6 : decode c_X_state 6 = .ok (.aload_n 0, 1) := by decide +kernel
theorem d_X_state_7 : decode c_X_state 7 = .ok (.aload_n 0, 1) := by decide +kernel
theorem d_X_state_8 : decode c_X_state 8 = .ok (.getfield 26, 3) := by decide +kernel
theorem d_X_state_11 : decode c_X_state 11 = .ok (.iload_n 2, 1) := by decide +kernel
theorem d_X_state_12 : decode c_X_state 12 = .ok (.iload_n 3, 1) := by decide +kernel
theorem d_X_state_13 : decode c_X_state 13 = .ok (.invokevirtual 74, 3) := by decide +kernel
theorem d_X_state_16 : decode c_X_state 16 = .ok (.aload_n 0, 1) := by decide +kernel
theorem d_X_state_17 : decode c_X_state 17 = .ok (.getfield 26, 3) := by decide +kernel
theorem d_X_state_20 : decode c_X_state 20 = .ok (.getfield 86, 3) := by decide +kernel
theorem d_X_state_23 : decode c_X_state 23 = .ok (.iload_n 1, 1) := by decide +kernel
theorem d_X_state_24 : decode c_X_state 24 = .ok (.iaload, 1) := by decide +kernel
theorem d_X_state_25 : decode c_X_state 25 = .ok (.ireturn, 1) := by decide +kernel
theorem d_L_sum_0 : decode c_L_sum 0 = .ok (.aload 4, 2) := by decide +kernel
theorem d_L_sum_2 : decode c_L_sum 2 = .ok (.iconst 0, 1) := by decide +kernel
theorem d_L_sum_3 : decode c_L_sum 3 = .ok (.aload_n 0, 1) := by decide +kernel
theorem d_L_sum_4 : decode c_L_sum 4 = .ok (.iload_n 1, 1) := by decide +kernel
theorem d_L_sum_5 : decode c_L_sum 5 = .ok (.iload_n 2, 1) := by decide +kernel
theorem d_L_sum_6 : decode c_L_sum 6 = .ok (.iload_n 3, 1) := by decide +kernel
theorem d_L_sum_7 : decode c_L_sum 7 = .ok (.invokevirtual 21, 3) := by decide +kernel
theorem d_L_sum_10 : decode c_L_sum 10 = .ok (.i2l, 1) := by decide +kernel
theorem d_L_sum_11 : decode c_L_sum 11 = .ok (.lastore, 1) := by decide +kernel
theorem d_L_sum_12 : decode c_L_sum 12 = .ok (.goto 7, 3) := by decide +kernel
theorem d_L_sum_15 : decode c_L_sum 15 = .ok (.astore 5, 2) := by decide +kernel
theorem d_L_sum_17 : decode c_L_sum 17 = .ok (.iconst 1, 1) := by decide +kernel
theorem d_L_sum_18 : decode c_L_sum 18 = .ok (.ireturn, 1) := by decide +kernel
theorem d_L_sum_19 : decode c_L_sum 19 = .ok (.iconst 0, 1) := by decide +kernel
theorem d_L_sum_20 : decode c_L_sum 20 = .ok (.ireturn, 1) := by decide +kernel
theorem d_X_sum_0 : decode c_X_sum 0 = .ok (.iload_n 1, 1) := by decide +kernel
theorem d_X_sum_1 : decode c_X_sum 1 = .ok (.bipush 10, 2) := by decide +kernel
theorem d_X_sum_3 : decode c_X_sum 3 = .ok (.invokestatic 70, 3) := by decide +kernel
theorem d_X_sum_6 : decode c_X_sum 6 = .ok (.aload_n 0, 1) := by decide +kernel
theorem d_X_sum_7 : decode c_X_sum 7 = .ok (.aload_n 0, 1) := by decide +kernel
theorem d_X_sum_8 : decode c_X_sum 8 = .ok (.getfield 26, 3) := by decide +kernel
theorem d_X_sum_11 : decode c_X_sum 11 = .ok (.iload_n 2, 1) := by decide +kernel
theorem d_X_sum_12 : decode c_X_sum 12 = .ok (.iload_n 3, 1) := by decide +kernel
theorem d_X_sum_13 : decode c_X_sum 13 = .ok (.invokevirtual 74, 3) := by decide +kernel
theorem d_X_sum_16 : decode c_X_sum 16 = .ok (.aload_n 0, 1) := by decide +kernel
theorem d_X_sum_17 : decode c_X_sum 17 = .ok (.getfield 26, 3) := by decide +kernel
theorem d_X_sum_20 : decode c_X_sum 20 = .ok (.getfield 89, 3) := by decide +kernel
theorem d_X_sum_23 : decode c_X_sum 23 = .ok (.iload_n 1, 1) := by decide +kernel
theorem d_X_sum_24 : decode c_X_sum 24 = .ok (.iaload, 1) := by decide +kernel
theorem d_X_sum_25 : decode c_X_sum 25 = .ok (.ireturn, 1) := by decide +kernel
theorem d_L_quota_0 : decode c_L_quota 0 = .ok (.aload 4, 2) := by decide +kernel
theorem d_L_quota_2 : decode c_L_quota 2 = .ok (.iconst 0, 1) := by decide +kernel
theorem d_L_quota_3 : decode c_L_quota 3 = .ok (.aload_n 0, 1) := by decide +kernel
theorem d_L_quota_4 : decode c_L_quota 4 = .ok (.iload_n 1, 1) := by decide +kernel
theorem d_L_quota_5 : decode c_L_quota 5 = .ok (.iload_n 2, 1) := by decide +kernel
theorem d_L_quota_6 : decode c_L_quota 6 = .ok (.iload_n 3, 1) := by decide +kernel
theorem d_L_quota_7 : decode c_L_quota 7 = .ok (.invokevirtual 24, 3) := by decide +kernel
theorem d_L_quota_10 : decode c_L_quota 10 = .ok (.i2l, 1) := by decide +kernel
theorem d_L_quota_11 : decode c_L_quota 11 = .ok (.lastore, 1) := by decide +kernel
theorem d_L_quota_12 : decode c_L_quota 12 = .ok (.goto 7, 3) := by decide +kernel
theorem d_L_quota_15 : decode c_L_quota 15 = .ok (.astore 5, 2) := by decide +kernel
theorem d_L_quota_17 : decode c_L_quota 17 = .ok (.iconst 1, 1) := by decide +kernel
theorem d_L_quota_18 : decode c_L_quota 18 = .ok (.ireturn, 1) := by decide +kernel
theorem d_L_quota_19 : decode c_L_quota 19 = .ok (.iconst 0, 1) := by decide +kernel
theorem d_L_quota_20 : decode c_L_quota 20 = .ok (.ireturn, 1) := by decide +kernel
theorem d_X_quota_0 : decode c_X_quota 0 = .ok (.iload_n 1, 1) := by decide +kernel
theorem d_X_quota_1 : decode c_X_quota 1 = .ok (.bipush 10, 2) := by decide +kernel
theorem d_X_quota_3 : decode c_X_quota 3 = .ok (.invokestatic 70, 3) := by decide +kernel
theorem d_X_quota_6 : decode c_X_quota 6 = .ok (.aload_n 0, 1) := by decide +kernel
theorem d_X_quota_7 : decode c_X_quota 7 = .ok (.iload_n 2, 1) := by decide +kernel
theorem d_X_quota_8 : decode c_X_quota 8 = .ok (.iload_n 3, 1) := by decide +kernel
theorem d_X_quota_9 : decode c_X_quota 9 = .ok (.invokevirtual 92, 3) := by decide +kernel
theorem d_X_quota_12 : decode c_X_quota 12 = .ok (.aload_n 0, 1) := by decide +kernel
theorem d_X_quota_13 : decode c_X_quota 13 = .ok (.getfield 36, 3) := by decide +kernel
theorem d_X_quota_16 : decode c_X_quota 16 = .ok (.aload_n 0, 1) := by decide +kernel
theorem d_X_quota_17 : decode c_X_quota 17 = .ok (.getfield 10, 3) := by decide +kernel
theorem d_X_quota_20 : decode c_X_quota 20 = .ok (.aload_n 0, 1) := by decide +kernel
theorem d_X_quota_21 : decode c_X_quota 21 = .ok (.getfield 19, 3) := by decide +kernel
theorem d_X_quota_24 : decode c_X_quota 24 = .ok (.invokevirtual 95, 3) := by decide +kernel
theorem d_X_quota_27 : decode c_X_quota 27 = .ok (.aload_n 0, 1) := by decide +kernel
theorem d_X_quota_28 : decode c_X_quota 28 = .ok (.getfield 36, 3) := by decide +kernel
theorem d_X_quota_31 : decode c_X_quota 31 = .ok (.getfield 99, 3) := by decide +kernel
theorem d_X_quota_34 : decode c_X_quota 34 = .ok (.iload_n 1, 1) := by decide +kernel
theorem d_X_quota_35 : decode c_X_quota 35 = .ok (.iaload, 1) := by decide +kernel
theorem d_X_quota_36 : decode c_X_quota 36 = .ok (.ireturn, 1) := by decide +kernel
theorem d_S_serveAll_0 : decode c_S_serveAll 0 = .ok (.aload_n 0, 1) := by decide +kernel
