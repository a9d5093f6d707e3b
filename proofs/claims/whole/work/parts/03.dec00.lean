theorem d_X_init_0 : decode c_X_init 0 = .ok (.aload_n 0, 1) := by decide +kernel
theorem d_X_init_1 : decode c_X_init 1 = .ok (.invokespecial 1, 3) := by decide +kernel
theorem d_X_init_4 : decode c_X_init 4 = .ok (.aload_n 0, 1) := by decide +kernel
theorem d_X_init_5 : decode c_X_init 5 = .ok (.new 7, 3) := by decide +kernel
theorem d_X_init_8 : decode c_X_init 8 = .ok (.dup, 1) := by decide +kernel
theorem d_X_init_9 : decode c_X_init 9 = .ok (.invokespecial 9, 3) := by decide +kernel
theorem d_X_init_12 : decode c_X_init 12 = .ok (.putfield 10, 3) := by decide +kernel
theorem d_X_init_15 : decode c_X_init 15 = .ok (.aload_n 0, 1) := by decide +kernel
theorem d_X_init_16 : decode c_X_init 16 = .ok (.new 16, 3) := by decide +kernel
theorem d_X_init_19 : decode c_X_init 19 = .ok (.dup, 1) := by decide +kernel
theorem d_X_init_20 : decode c_X_init 20 = .ok (.invokespecial 18, 3) := by decide +kernel
theorem d_X_init_23 : decode c_X_init 23 = .ok (.putfield 19, 3) := by decide +kernel
theorem d_X_init_26 : decode c_X_init 26 = .ok (.aload_n 0, 1) := by decide +kernel
theorem d_X_init_27 : decode c_X_init 27 = .ok (.new 23, 3) := by decide +kernel
theorem d_X_init_30 : decode c_X_init 30 = .ok (.dup, 1) := by decide +kernel
theorem d_X_init_31 : decode c_X_init 31 = .ok (.invokespecial 25, 3) := by decide +kernel
theorem d_X_init_34 : decode c_X_init 34 = .ok (.putfield 26, 3) := by decide +kernel
theorem d_X_init_37 : decode c_X_init 37 = .ok (.aload_n 0, 1) := by decide +kernel
theorem d_X_init_38 : decode c_X_init 38 = .ok (.new 23, 3) := by decide +kernel
theorem d_X_init_41 : decode c_X_init 41 = .ok (.dup, 1) := by decide +kernel
theorem d_X_init_42 : decode c_X_init 42 = .ok (.invokespecial 25, 3) := by decide +kernel
theorem d_X_init_45 : decode c_X_init 45 = .ok (.putfield 30, 3) := by decide +kernel
theorem d_X_init_48 : decode c_X_init 48 = .ok (.aload_n 0, 1) := by decide +kernel
theorem d_X_init_49 : decode c_X_init 49 = .ok (.new 33, 3) := by decide +kernel
theorem d_X_init_52 : decode c_X_init 52 = .ok (.dup, 1) := by decide +kernel
theorem d_X_init_53 : decode c_X_init 53 = .ok (.invokespecial 35, 3) := by decide +kernel
theorem d_X_init_56 : decode c_X_init 56 = .ok (.putfield 36, 3) := by decide +kernel
theorem d_X_init_59 : decode c_X_init 59 = .ok (.aload_n 0, 1) := by decide +kernel
theorem d_X_init_60 : decode c_X_init 60 = .ok (.new 40, 3) := by decide +kernel
theorem d_X_init_63 : decode c_X_init 63 = .ok (.dup, 1) := by decide +kernel
theorem d_X_init_64 : decode c_X_init 64 = .ok (.invokespecial 42, 3) := by decide +kernel
theorem d_X_init_67 : decode c_X_init 67 = .ok (.putfield 43, 3) := by decide +kernel
theorem d_X_init_70 : decode c_X_init 70 = .ok (.aload_n 0, 1) := by decide +kernel
theorem d_X_init_71 : decode c_X_init 71 = .ok (.iconst 0, 1) := by decide +kernel
theorem d_X_init_72 : decode c_X_init 72 = .ok (.putfield 47, 3) := by decide +kernel
theorem d_X_init_75 : decode c_X_init 75 = .ok (.aload_n 0, 1) := by decide +kernel
theorem d_X_init_76 : decode c_X_init 76 = .ok (.iconst 0, 1) := by decide +kernel
theorem d_X_init_77 : decode c_X_init 77 = .ok (.putfield 51, 3) := by decide +kernel
theorem d_X_init_80 : decode c_X_init 80 = .ok (.return_, 1) := by decide +kernel
theorem d_A_init_0 : decode c_A_init 0 = .ok (.aload_n 0, 1) := by decide +kernel
theorem d_A_init_1 : decode c_A_init 1 = .ok (.invokespecial 3, 3) := by decide +kernel
theorem d_A_init_4 : decode c_A_init 4 = .ok (.aload_n 0, 1) := by decide +kernel
theorem d_A_init_5 : decode c_A_init 5 = .ok (.bipush 80, 2) := by decide +kernel
theorem d_A_init_7 : decode c_A_init 7 = .ok (.newarray .int, 2) := by decide +kernel
theorem d_A_init_9 : decode c_A_init 9 = .ok (.putfield 9, 3) := by decide +kernel
theorem d_A_init_12 : decode c_A_init 12 = .ok (.aload_n 0, 1) := by decide +kernel
theorem d_A_init_13 : decode c_A_init 13 = .ok (.bipush 80, 2) := by decide +kernel
theorem d_A_init_15 : decode c_A_init 15 = .ok (.newarray .int, 2) := by decide +kernel
theorem d_A_init_17 : decode c_A_init 17 = .ok (.putfield 15, 3) := by decide +kernel
theorem d_A_init_20 : decode c_A_init 20 = .ok (.aload_n 0, 1) := by decide +kernel
theorem d_A_init_21 : decode c_A_init 21 = .ok (.bipush 80, 2) := by decide +kernel
theorem d_A_init_23 : decode c_A_init 23 = .ok (.newarray .int, 2) := by decide +kernel
theorem d_A_init_25 : decode c_A_init 25 = .ok (.putfield 18, 3) := by decide +kernel
theorem d_A_init_28 : decode c_A_init 28 = .ok (.aload_n 0, 1) := by decide +kernel
theorem d_A_init_29 : decode c_A_init 29 = .ok (.bipush 80, 2) := by decide +kernel
theorem d_A_init_31 : decode c_A_init 31 = .ok (.newarray .int, 2) := by decide +kernel
theorem d_A_init_33 : decode c_A_init 33 = .ok (.putfield 21, 3) := by decide +kernel
theorem d_A_init_36 : decode c_A_init 36 = .ok (.aload_n 0, 1) := by decide +kernel
theorem d_A_init_37 : decode c_A_init 37 = .ok (.bipush 80, 2) := by decide +kernel
theorem d_A_init_39 : decode c_A_init 39 = .ok (.newarray .int, 2) := by decide +kernel
theorem d_A_init_41 : decode c_A_init 41 = .ok (.putfield 24, 3) := by decide +kernel
theorem d_A_init_44 : decode c_A_init 44 = .ok (.aload_n 0, 1) := by decide +kernel
theorem d_A_init_45 : decode c_A_init 45 = .ok (.iconst 0, 1) := by decide +kernel
theorem d_A_init_46 : decode c_A_init 46 = .ok (.putfield 27, 3) := by decide +kernel
theorem d_A_init_49 : decode c_A_init 49 = .ok (.return_, 1) := by decide +kernel
theorem d_O_init_0 : decode c_O_init 0 = .ok (.aload_n 0, 1) := by decide +kernel
theorem d_O_init_1 : decode c_O_init 1 = .ok (.invokespecial 3, 3) := by decide +kernel
theorem d_O_init_4 : decode c_O_init 4 = .ok (.aload_n 0, 1) := by decide +kernel
theorem d_O_init_5 : decode c_O_init 5 = .ok (.bipush 80, 2) := by decide +kernel
theorem d_O_init_7 : decode c_O_init 7 = .ok (.newarray .int, 2) := by decide +kernel
theorem d_O_init_9 : decode c_O_init 9 = .ok (.putfield 9, 3) := by decide +kernel
theorem d_O_init_12 : decode c_O_init 12 = .ok (.aload_n 0, 1) := by decide +kernel
theorem d_O_init_13 : decode c_O_init 13 = .ok (.iconst 0, 1) := by decide +kernel
theorem d_O_init_14 : decode c_O_init 14 = .ok (.putfield 15, 3) := by decide +kernel
theorem d_O_init_17 : decode c_O_init 17 = .ok (.return_, 1) := by decide +kernel
theorem d_P_init_0 : decode c_P_init 0 = .ok (.aload_n 0, 1) := by decide +kernel
theorem d_P_init_1 : decode c_P_init 1 = .ok (.invokespecial 3, 3) := by decide +kernel
theorem d_P_init_4 : decode c_P_init 4 = .ok (.aload_n 0, 1) := by decide +kernel
theorem d_P_init_5 : decode c_P_init 5 = .ok (.bipush 20, 2) := by decide +kernel
theorem d_P_init_7 : decode c_P_init 7 = .ok (.newarray .int, 2) := by decide +kernel
theorem d_P_init_9 : decode c_P_init 9 = .ok (.putfield 9, 3) := by decide +kernel
theorem d_P_init_12 : decode c_P_init 12 = .ok (.aload_n 0, 1) := by decide +kernel
theorem d_P_init_13 : decode c_P_init 13 = .ok (.bipush 10, 2) := by decide +kernel
theorem d_P_init_15 : decode c_P_init 15 = .ok (.newarray .int, 2) := by decide +kernel
theorem d_P_init_17 : decode c_P_init 17 = .ok (.putfield 15, 3) := by decide +kernel
theorem d_P_init_20 : decode c_P_init 20 = .ok (.aload_n 0, 1) := by decide +kernel
theorem d_P_init_21 : decode c_P_init 21 = .ok (.bipush 10, 2) := by decide +kernel
theorem d_P_init_23 : decode c_P_init 23 = .ok (.newarray .int, 2) := by decide +kernel
theorem d_P_init_25 : decode c_P_init 25 = .ok (.putfield 18, 3) := by decide +kernel
theorem d_P_init_28 : decode c_P_init 28 = .ok (.return_, 1) := by decide +kernel
theorem d_S_init_0 : decode c_S_init 0 = .ok (.aload_n 0, 1) := by decide +kernel
theorem d_S_init_1 : decode c_S_init 1 = .ok (.invokespecial 3, 3) := by decide +kernel
theorem d_S_init_4 : decode c_S_init 4 = .ok (.aload_n 0, 1) := by decide +kernel
theorem d_S_init_5 : decode c_S_init 5 = .ok (.bipush 10, 2) := by decide +kernel
theorem d_S_init_7 : decode c_S_init 7 = .ok (.newarray .int, 2) := by decide +kernel
theorem d_S_init_9 : decode c_S_init 9 = .ok (.putfield 9, 3) := by decide +kernel
theorem d_S_init_12 : decode c_S_init 12 = .ok (.aload_n 0, 1) := by decide +kernel
theorem d_S_init_13 : decode c_S_init 13 = .ok (.bipush 80, 2) := by decide +kernel
theorem d_S_init_15 : decode c_S_init 15 = .ok (.newarray .int, 2) := by decide +kernel
theorem d_S_init_17 : decode c_S_init 17 = .ok (.putfield 15, 3) := by decide +kernel
theorem d_S_init_20 : decode c_S_init 20 = .ok (.aload_n 0, 1) := by decide +kernel
theorem d_S_init_21 : decode c_S_init 21 = .ok (.iconst 0, 1) := by decide +kernel
theorem d_S_init_22 : decode c_S_init 22 = .ok (.putfield 18, 3) := by decide +kernel
theorem d_S_init_25 : decode c_S_init 25 = .ok (.return_, 1) := by decide +kernel
theorem d_B_init_0 : decode c_B_init 0 = .ok (.aload_n 0, 1) := by decide +kernel
theorem d_B_init_1 : decode c_B_init 1 = .ok (.invokespecial 3, 3) := by decide +kernel
theorem d_B_init_4 : decode c_B_init 4 = .ok (.aload_n 0, 1) := by decide +kernel
theorem d_B_init_5 : decode c_B_init 5 = .ok (.bipush 6, 2) := by decide +kernel
theorem d_B_init_7 : decode c_B_init 7 = .ok (.newarray .int, 2) := by decide +kernel
theorem d_B_init_9 : decode c_B_init 9 = .ok (.putfield 9, 3) := by decide +kernel
theorem d_B_init_12 : decode c_B_init 12 = .ok (.aload_n 0, 1) := by decide +kernel
theorem d_B_init_13 : decode c_B_init 13 = .ok (.bipush 64, 2) := by decide +kernel
theorem d_B_init_15 : decode c_B_init 15 = .ok (.newarray .int, 2) := by decide +kernel
theorem d_B_init_17 : decode c_B_init 17 = .ok (.putfield 15, 3) := by decide +kernel
theorem d_B_init_20 : decode c_B_init 20 = .ok (.aload_n 0, 1) := by decide +kernel
theorem d_B_init_21 : decode c_B_init 21 = .ok (.iconst 0, 1) := by decide +kernel
theorem d_B_init_22 : decode c_B_init 22 = .ok (.putfield 18, 3) := by decide +kernel
theorem d_B_init_25 : decode c_B_init 25 = .ok (.return_, 1) := by decide +kernel
theorem d_X_event_0 : decode c_X_event 0 = .ok (.aload_n 0, 1) := by decide +kernel
theorem d_X_event_1 : decode c_X_event 1 = .ok (.getfield 10, 3) := by decide +kernel
theorem d_X_event_4 : decode c_X_event 4 = .ok (.invokevirtual 54, 3) := by decide +kernel
theorem d_X_event_7 : decode c_X_event 7 = .ok (.ifCond .ne 24, 3) := by decide +kernel
theorem d_X_event_10 : decode c_X_event 10 = .ok (.iload 4, 2) := by decide +kernel
theorem d_X_event_12 : decode c_X_event 12 = .ok (.invokestatic 58, 3) := by decide +kernel
theorem d_X_event_15 : decode c_X_event 15 = .ok (.ifCond .eq 16, 3) := by decide +kernel
theorem d_X_event_18 : decode c_X_event 18 = .ok (.aload_n 0, 1) := by decide +kernel
theorem d_X_event_19 : decode c_X_event 19 = .ok (.getfield 10, 3) := by decide +kernel
theorem d_X_event_22 : decode c_X_event 22 = .ok (.iload_n 1, 1) := by decide +kernel
theorem d_X_event_23 : decode c_X_event 23 = .ok (.iload_n 2, 1) := by decide +kernel
theorem d_X_event_24 : decode c_X_event 24 = .ok (.iload_n 3, 1) := by decide +kernel
theorem d_X_event_25 : decode c_X_event 25 = .ok (.invokevirtual 62, 3) := by decide +kernel
theorem d_X_event_28 : decode c_X_event 28 = .ok (.ifCond .ne 15, 3) := by decide +kernel
theorem d_X_event_31 : decode c_X_event 31 = .ok (.aload_n 0, 1) := by decide +kernel
theorem d_X_event_32 : decode c_X_event 32 = .ok (.dup, 1) := by decide +kernel
theorem d_X_event_33 : decode c_X_event 33 = .ok (.getfield 51, 3) := by decide +kernel
theorem d_X_event_36 : decode c_X_event 36 = .ok (.iconst 1, 1) := by decide +kernel
theorem d_X_event_37 : decode c_X_event 37 = .ok (.iadd, 1) := by decide +kernel
theorem d_X_event_38 : decode c_X_event 38 = .ok (.putfield 51, 3) := by decide +kernel
theorem d_X_event_41 : decode c_X_event 41 = .ok (.iconst (-1), 1) := by decide +kernel
theorem d_X_event_42 : decode c_X_event 42 = .ok (.ireturn, 1) := by decide +kernel
theorem d_X_event_43 : decode c_X_event 43 = .ok (.aload_n 0, 1) := by decide +kernel
theorem d_X_event_44 : decode c_X_event 44 = .ok (.getfield 10, 3) := by decide +kernel
theorem d_X_event_47 : decode c_X_event 47 = .ok (.iload_n 1, 1) := by decide +kernel
theorem d_X_event_48 : decode c_X_event 48 = .ok (.iload_n 2, 1) := by decide +kernel
theorem d_X_event_49 : decode c_X_event 49 = .ok (.iload_n 3, 1) := by decide +kernel
theorem d_X_event_50 : decode c_X_event 50 = .ok (.iload 4, 2) := by decide +kernel
theorem d_X_event_52 : decode c_X_event 52 = .ok (.aload_n 0, 1) := by decide +kernel
theorem d_X_event_53 : decode c_X_event 53 = .ok (.getfield 47, 3) := by decide +kernel
theorem d_X_event_56 : decode c_X_event 56 = .ok (.invokevirtual 66, 3) := by decide +kernel
theorem d_X_event_59 : decode c_X_event 59 = .ok (.ireturn, 1) := by decide +kernel
theorem d_A_isFull_0 : decode c_A_isFull 0 = .ok (.aload_n 0, 1) := by decide +kernel
theorem d_A_isFull_1 : decode c_A_isFull 1 = .ok (.getfield 27, 3) := by decide +kernel
theorem d_A_isFull_4 : decode c_A_isFull 4 = .ok (.bipush 80, 2) := by decide +kernel
theorem d_A_isFull_6 : decode c_A_isFull 6 = .ok (.if_icmp .lt 7, 3) := by decide +kernel
theorem d_A_isFull_9 : decode c_A_isFull 9 = .ok (.iconst 1, 1) := by decide +kernel
theorem d_A_isFull_10 : decode c_A_isFull 10 = .ok (.goto 4, 3) := by decide +kernel
theorem d_A_isFull_13 : decode c_A_isFull 13 = .ok (.iconst 0, 1) := by decide +kernel
theorem d_A_isFull_14 : decode c_A_isFull 14 = .ok (.ireturn, 1) := by decide +kernel
theorem d_X_isTime_0 : decode c_X_isTime 0 = .ok (.iload_n 0, 1) := by decide +kernel
theorem d_X_isTime_1 : decode c_X_isTime 1 = .ok (.iconst 0, 1) := by decide +kernel
theorem d_X_isTime_2 : decode c_X_isTime 2 = .ok (.sipush 10000, 3) := by decide +kernel
theorem d_X_isTime_5 : decode c_X_isTime 5 = .ok (.invokestatic 160, 3) := by decide +kernel
theorem d_X_isTime_8 : decode c_X_isTime 8 = .ok (.ireturn, 1) := by decide +kernel
theorem d_X_isWithin_0 : decode c_X_isWithin 0 = .ok (.iload_n 0, 1) := by decide +kernel
theorem d_X_isWithin_1 : decode c_X_isWithin 1 = .ok (.iload_n 1, 1) := by decide +kernel
theorem d_X_isWithin_2 : decode c_X_isWithin 2 = .ok (.if_icmp .lt 12, 3) := by decide +kernel
theorem d_X_isWithin_5 : decode c_X_isWithin 5 = .ok (.iload_n 0, 1) := by decide +kernel
theorem d_X_isWithin_6 : decode c_X_isWithin 6 = .ok (.iload_n 2, 1) := by decide +kernel
theorem d_X_isWithin_7 : decode c_X_isWithin 7 = .ok (.if_icmp .gt 7, 3) := by decide +kernel
theorem d_X_isWithin_10 : decode c_X_isWithin 10 = .ok (.iconst 1, 1) := by decide +kernel
theorem d_X_isWithin_11 : decode c_X_isWithin 11 = .ok (.goto 4, 3) := by decide +kernel
theorem d_X_isWithin_14 : decode c_X_isWithin 14 = .ok (.iconst 0, 1) := by decide +kernel
theorem d_X_isWithin_15 : decode c_X_isWithin 15 = .ok (.ireturn, 1) := by decide +kernel
theorem d_A_canTell_0 : decode c_A_canTell 0 = .ok (.iload_n 1, 1) := by decide +kernel
theorem d_A_canTell_1 : decode c_A_canTell 1 = .ok (.tableswitch 192 0 5 #[39, 65, 85, 110, 137, 164], 39) := by decide +kernel
theorem d_A_canTell_40 : decode c_A_canTell 40 = .ok (.iload_n 2, 1) := by decide +kernel
theorem d_A_canTell_41 : decode c_A_canTell 41 = .ok (.iconst 0, 1) := by decide +kernel
theorem d_A_canTell_42 : decode c_A_canTell 42 = .ok (.bipush 19, 2) := by decide +kernel
theorem d_A_canTell_44 : decode c_A_canTell 44 = .ok (.invokestatic 31, 3) := by decide +kernel
theorem d_A_canTell_47 : decode c_A_canTell 47 = .ok (.ifCond .eq 17, 3) := by decide +kernel
theorem d_A_canTell_50 : decode c_A_canTell 50 = .ok (.iload_n 3, 1) := by decide +kernel
theorem d_A_canTell_51 : decode c_A_canTell 51 = .ok (.iconst 0, 1) := by decide +kernel
theorem d_A_canTell_52 : decode c_A_canTell 52 = .ok (.bipush 99, 2) := by decide +kernel
theorem d_A_canTell_54 : decode c_A_canTell 54 = .ok (.invokestatic 31, 3) := by decide +kernel
theorem d_A_canTell_57 : decode c_A_canTell 57 = .ok (.ifCond .eq 7, 3) := by decide +kernel
theorem d_A_canTell_60 : decode c_A_canTell 60 = .ok (.iconst 1, 1) := by decide +kernel
theorem d_A_canTell_61 : decode c_A_canTell 61 = .ok (.goto 4, 3) := by decide +kernel
theorem d_A_canTell_64 : decode c_A_canTell 64 = .ok (.iconst 0, 1) := by decide +kernel
theorem d_A_canTell_65 : decode c_A_canTell 65 = .ok (.ireturn, 1) := by decide +kernel
theorem d_A_canTell_66 : decode c_A_canTell 66 = .ok (.iload_n 2, 1) := by decide +kernel
theorem d_A_canTell_67 : decode c_A_canTell 67 = .ok (.iconst 0, 1) := by decide +kernel
theorem d_A_canTell_68 : decode c_A_canTell 68 = .ok (.bipush 19, 2) := by decide +kernel
theorem d_A_canTell_70 : decode c_A_canTell 70 = .ok (.invokestatic 31, 3) := by decide +kernel
theorem d_A_canTell_73 : decode c_A_canTell 73 = .ok (.ifCond .eq 11, 3) := by decide +kernel
theorem d_A_canTell_76 : decode c_A_canTell 76 = .ok (.iload_n 3, 1) := by decide +kernel
theorem d_A_canTell_77 : decode c_A_canTell 77 = .ok (.ifCond .ne 7, 3) := by decide +kernel
theorem d_A_canTell_80 : decode c_A_canTell 80 = .ok (.iconst 1, 1) := by decide +kernel
theorem d_A_canTell_81 : decode c_A_canTell 81 = .ok (.goto 4, 3) := by decide +kernel
theorem d_A_canTell_84 : decode c_A_canTell 84 = .ok (.iconst 0, 1) := by decide +kernel
theorem d_A_canTell_85 : decode c_A_canTell 85 = .ok (.ireturn, 1) := by decide +kernel
theorem d_A_canTell_86 : decode c_A_canTell 86 = .ok (.iload_n 2, 1) := by decide +kernel
theorem d_A_canTell_87 : decode c_A_canTell 87 = .ok (.iconst 0, 1) := by decide +kernel
theorem d_A_canTell_88 : decode c_A_canTell 88 = .ok (.bipush 9, 2) := by decide +kernel
theorem d_A_canTell_90 : decode c_A_canTell 90 = .ok (.invokestatic 31, 3) := by decide +kernel
theorem d_A_canTell_93 : decode c_A_canTell 93 = .ok (.ifCond .eq 16, 3) := by decide +kernel
theorem d_A_canTell_96 : decode c_A_canTell 96 = .ok (.iload_n 3, 1) := by decide +kernel
theorem d_A_canTell_97 : decode c_A_canTell 97 = .ok (.iconst 0, 1) := by decide +kernel
theorem d_A_canTell_98 : decode c_A_canTell 98 = .ok (.iconst 5, 1) := by decide +kernel
theorem d_A_canTell_99 : decode c_A_canTell 99 = .ok (.invokestatic 31, 3) := by decide +kernel
theorem d_A_canTell_102 : decode c_A_canTell 102 = .ok (.ifCond .eq 7, 3) := by decide +kernel
theorem d_A_canTell_105 : decode c_A_canTell 105 = .ok (.iconst 1, 1) := by decide +kernel
theorem d_A_canTell_106 : decode c_A_canTell 106 = .ok (.goto 4, 3) := by decide +kernel
theorem d_A_canTell_109 : decode c_A_canTell 109 = .ok (.iconst 0, 1) := by decide +kernel
theorem d_A_canTell_110 : decode c_A_canTell 110 = .ok (.ireturn, 1) := by decide +kernel
theorem d_A_canTell_111 : decode c_A_canTell 111 = .ok (.iload_n 2, 1) := by decide +kernel
theorem d_A_canTell_112 : decode c_A_canTell 112 = .ok (.iconst 0, 1) := by decide +kernel
theorem d_A_canTell_113 : decode c_A_canTell 113 = .ok (.bipush 9, 2) := by decide +kernel
theorem d_A_canTell_115 : decode c_A_canTell 115 = .ok (.invokestatic 31, 3) := by decide +kernel
theorem d_A_canTell_118 : decode c_A_canTell 118 = .ok (.ifCond .eq 18, 3) := by decide +kernel
theorem d_A_canTell_121 : decode c_A_canTell 121 = .ok (.iload_n 3, 1) := by decide +kernel
theorem d_A_canTell_122 : decode c_A_canTell 122 = .ok (.ldc 35, 2) := by decide +kernel
theorem d_A_canTell_124 : decode c_A_canTell 124 = .ok (.ldc 36, 2) := by decide +kernel
theorem d_A_canTell_126 : decode c_A_canTell 126 = .ok (.invokestatic 31, 3) := by decide +kernel
theorem d_A_canTell_129 : decode c_A_canTell 129 = .ok (.ifCond .eq 7, 3) := by decide +kernel
theorem d_A_canTell_132 : decode c_A_canTell 132 = .ok (.iconst 1, 1) := by decide +kernel
theorem d_A_canTell_133 : decode c_A_canTell 133 = .ok (.goto 4, 3) := by decide +kernel
theorem d_A_canTell_136 : decode c_A_canTell 136 = .ok (.iconst 0, 1) := by decide +kernel
theorem d_A_canTell_137 : decode c_A_canTell 137 = .ok (.ireturn, 1) := by decide +kernel
theorem d_A_canTell_138 : decode c_A_canTell 138 = .ok (.iload_n 2, 1) := by decide +kernel
theorem d_A_canTell_139 : decode c_A_canTell 139 = .ok (.iconst 0, 1) := by decide +kernel
theorem d_A_canTell_140 : decode c_A_canTell 140 = .ok (.bipush 9, 2) := by decide +kernel
theorem d_A_canTell_142 : decode c_A_canTell 142 = .ok (.invokestatic 31, 3) := by decide +kernel
theorem d_A_canTell_145 : decode c_A_canTell 145 = .ok (.ifCond .eq 18, 3) := by decide +kernel
theorem d_A_canTell_148 : decode c_A_canTell 148 = .ok (.iload_n 3, 1) := by decide +kernel
theorem d_A_canTell_149 : decode c_A_canTell 149 = .ok (.iconst 1, 1) := by decide +kernel
theorem d_A_canTell_150 : decode c_A_canTell 150 = .ok (.sipush 1000, 3) := by decide +kernel
theorem d_A_canTell_153 : decode c_A_canTell 153 = .ok (.invokestatic 31, 3) := by decide +kernel
theorem d_A_canTell_156 : decode c_A_canTell 156 = .ok (.ifCond .eq 7, 3) := by decide +kernel
theorem d_A_canTell_159 : decode c_A_canTell 159 = .ok (.iconst 1, 1) := by decide +kernel
theorem d_A_canTell_160 : decode c_A_canTell 160 = .ok (.goto 4, 3) := by decide +kernel
theorem d_A_canTell_163 : decode c_A_canTell 163 = .ok (.iconst 0, 1) := by decide +kernel
theorem d_A_canTell_164 : decode c_A_canTell 164 = .ok (.ireturn, 1) := by decide +kernel
theorem d_A_canTell_165 : decode c_A_canTell 165 = .ok (.aload_n 0, 1) := by decide +kernel
theorem d_A_canTell_166 : decode c_A_canTell 166 = .ok (.iload_n 2, 1) := by decide +kernel
theorem d_A_canTell_167 : decode c_A_canTell 167 = .ok (.invokevirtual 37, 3) := by decide +kernel
theorem d_A_canTell_170 : decode c_A_canTell 170 = .ok (.ifCond .eq 21, 3) := by decide +kernel
theorem d_A_canTell_173 : decode c_A_canTell 173 = .ok (.aload_n 0, 1) := by decide +kernel
theorem d_A_canTell_174 : decode c_A_canTell 174 = .ok (.getfield 9, 3) := by decide +kernel
theorem d_A_canTell_177 : decode c_A_canTell 177 = .ok (.iload_n 2, 1) := by decide +kernel
theorem d_A_canTell_178 : decode c_A_canTell 178 = .ok (.iaload, 1) := by decide +kernel
theorem d_A_canTell_179 : decode c_A_canTell 179 = .ok (.iconst 5, 1) := by decide +kernel
theorem d_A_canTell_180 : decode c_A_canTell 180 = .ok (.if_icmp .eq 11, 3) := by decide +kernel
theorem d_A_canTell_183 : decode c_A_canTell 183 = .ok (.iload_n 3, 1) := by decide +kernel
theorem d_A_canTell_184 : decode c_A_canTell 184 = .ok (.ifCond .ne 7, 3) := by decide +kernel
theorem d_A_canTell_187 : decode c_A_canTell 187 = .ok (.iconst 1, 1) := by decide +kernel
theorem d_A_canTell_188 : decode c_A_canTell 188 = .ok (.goto 4, 3) := by decide +kernel
theorem d_A_canTell_191 : decode c_A_canTell 191 = .ok (.iconst 0, 1) := by decide +kernel
theorem d_A_canTell_192 : decode c_A_canTell 192 = .ok (.ireturn, 1) := by decide +kernel
theorem d_A_canTell_193 : decode c_A_canTell 193 = .ok (.iconst 0, 1) := by decide +kernel
theorem d_A_canTell_194 : decode c_A_canTell 194 = .ok (.ireturn, 1) := by decide +kernel
theorem d_A_has_0 : decode c_A_has 0 = .ok (.iload_n 1, 1) := by decide +kernel
theorem d_A_has_1 : decode c_A_has 1 = .ok (.ifCond .lt 15, 3) := by decide +kernel
theorem d_A_has_4 : decode c_A_has 4 = .ok (.iload_n 1, 1) := by decide +kernel
theorem d_A_has_5 : decode c_A_has 5 = .ok (.aload_n 0, 1) := by decide +kernel
theorem d_A_has_6 : decode c_A_has 6 = .ok (.getfield 27, 3) := by decide +kernel
theorem d_A_has_9 : decode c_A_has 9 = .ok (.if_icmp .ge 7, 3) := by decide +kernel
theorem d_A_has_12 : decode c_A_has 12 = .ok (.iconst 1, 1) := by decide +kernel
theorem d_A_has_13 : decode c_A_has 13 = .ok (.goto 4, 3) := by decide +kernel
theorem d_A_has_16 : decode c_A_has 16 = .ok (.iconst 0, 1) := by decide +kernel
theorem d_A_has_17 : decode c_A_has 17 = .ok (.ireturn, 1) := by decide +kernel
theorem d_A_append_0 : decode c_A_append 0 = .ok (.aload_n 0, 1) := by decide +kernel
theorem d_A_append_1 : decode c_A_append 1 = .ok (.invokevirtual 41, 3) := by decide +kernel
theorem d_A_append_4 : decode c_A_append 4 = .ok (.ifCond .eq 5, 3) := by decide +kernel
theorem d_A_append_7 : decode c_A_append 7 = .ok (.iconst (-1), 1) := by decide +kernel
theorem d_A_append_8 : decode c_A_append 8 = .ok (.ireturn, 1) := by decide +kernel
theorem d_A_append_9 : decode c_A_append 9 = .ok (.aload_n 0, 1) := by decide +kernel
theorem d_A_append_10 : decode c_A_append 10 = .ok (.getfield 27, 3) := by decide +kernel
theorem d_A_append_13 : decode c_A_append 13 = .ok (.istore 6, 2) := by decide +kernel
theorem d_A_append_15 : decode c_A_append 15 = .ok (.aload_n 0, 1) := by decide +kernel
theorem d_A_append_16 : decode c_A_append 16 = .ok (.getfield 9, 3) := by decide +kernel
theorem d_A_append_19 : decode c_A_append 19 = .ok (.iload 6, 2) := by decide +kernel
theorem d_A_append_21 : decode c_A_append 21 = .ok (.iload_n 1, 1) := by decide +kernel
theorem d_A_append_22 : decode c_A_append 22 = .ok (.iastore, 1) := by decide +kernel
theorem d_A_append_23 : decode c_A_append 23 = .ok (.aload_n 0, 1) := by decide +kernel
theorem d_A_append_24 : decode c_A_append 24 = .ok (.getfield 15, 3) := by decide +kernel
theorem d_A_append_27 : decode c_A_append 27 = .ok (.iload 6, 2) := by decide +kernel
theorem d_A_append_29 : decode c_A_append 29 = .ok (.iload_n 2, 1) := by decide +kernel
theorem d_A_append_30 : decode c_A_append 30 = .ok (.iastore, 1) := by decide +kernel
theorem d_A_append_31 : decode c_A_append 31 = .ok (.aload_n 0, 1) := by decide +kernel
theorem d_A_append_32 : decode c_A_append 32 = .ok (.getfield 18, 3) := by decide +kernel
theorem d_A_append_35 : decode c_A_append 35 = .ok (.iload 6, 2) := by decide +kernel
theorem d_A_append_37 : decode c_A_append 37 = .ok (.iload_n 3, 1) := by decide +kernel
theorem d_A_append_38 : decode c_A_append 38 = .ok (.iastore, 1) := by decide +kernel
theorem d_A_append_39 : decode c_A_append 39 = .ok (.aload_n 0, 1) := by decide +kernel
theorem d_A_append_40 : decode c_A_append 40 = .ok (.getfield 21, 3) := by decide +kernel
theorem d_A_append_43 : decode c_A_append 43 = .ok (.iload 6, 2) := by decide +kernel
theorem d_A_append_45 : decode c_A_append 45 = .ok (.iload 4, 2) := by decide +kernel
theorem d_A_append_47 : decode c_A_append 47 = .ok (.iastore, 1) := by decide +kernel
theorem d_A_append_48 : decode c_A_append 48 = .ok (.aload_n 0, 1) := by decide +kernel
theorem d_A_append_49 : decode c_A_append 49 = .ok (.getfield 24, 3) := by decide +kernel
theorem d_A_append_52 : decode c_A_append 52 = .ok (.iload 6, 2) := by decide +kernel
theorem d_A_append_54 : decode c_A_append 54 = .ok (.iload 5, 2) := by decide +kernel
theorem d_A_append_56 : decode c_A_append 56 = .ok (.iastore, 1) := by decide +kernel
theorem d_A_append_57 : decode c_A_append 57 = .ok (.aload_n 0, 1) := by decide +kernel
theorem d_A_append_58 : decode c_A_append 58 = .ok (.iload 6, 2) := by decide +kernel
theorem d_A_append_60 : decode c_A_append 60 = .ok (.iconst 1, 1) := by decide +kernel
theorem d_A_append_61 : decode c_A_append 61 = .ok (.iadd, 1) := by decide +kernel
theorem d_A_append_62 : decode c_A_append 62 = .ok (.putfield 27, 3) := by decide +kernel
theorem d_A_append_65 : decode c_A_append 65 = .ok (.iload 6, 2) := by decide +kernel
theorem d_A_append_67 : decode c_A_append 67 = .ok (.ireturn, 1) := by decide +kernel
theorem d_X_known_0 : decode c_X_known 0 = .ok (.iload_n 1, 1) := by decide +kernel
theorem d_X_known_1 : decode c_X_known 1 = .ok (.invokestatic 58, 3) := by decide +kernel
theorem d_X_known_4 : decode c_X_known 4 = .ok (.ifCond .eq 11, 3) := by decide +kernel
theorem d_X_known_7 : decode c_X_known 7 = .ok (.iload_n 1, 1) := by decide +kernel
theorem d_X_known_8 : decode c_X_known 8 = .ok (.aload_n 0, 1) := by decide +kernel
theorem d_X_known_9 : decode c_X_known 9 = .ok (.getfield 47, 3) := by decide +kernel
theorem d_X_known_12 : decode c_X_known 12 = .ok (.if_icmp .ge 15, 3) := by decide +kernel
theorem d_X_known_15 : decode c_X_known 15 = .ok (.aload_n 0, 1) := by decide +kernel
theorem d_X_known_16 : decode c_X_known 16 = .ok (.dup, 1) := by decide +kernel
theorem d_X_known_17 : decode c_X_known 17 = .ok (.getfield 51, 3) := by decide +kernel
theorem d_X_known_20 : decode c_X_known 20 = .ok (.iconst 1, 1) := by decide +kernel
theorem d_X_known_21 : decode c_X_known 21 = .ok (.iadd, 1) := by decide +kernel
theorem d_X_known_22 : decode c_X_known 22 = .ok (.putfield 51, 3) := by decide +kernel
theorem d_X_known_25 : decode c_X_known 25 = .ok (.iconst 0, 1) := by decide +kernel
theorem d_X_known_26 : decode c_X_known 26 = .ok (.ireturn, 1) := by decide +kernel
theorem d_X_known_27 : decode c_X_known 27 = .ok (.aload_n 0, 1) := by decide +kernel
theorem d_X_known_28 : decode c_X_known 28 = .ok (.iload_n 1, 1) := by decide +kernel
theorem d_X_known_29 : decode c_X_known 29 = .ok (.putfield 47, 3) := by decide +kernel
theorem d_X_known_32 : decode c_X_known 32 = .ok (.iconst 1, 1) := by decide +kernel
theorem d_X_known_33 : decode c_X_known 33 = .ok (.ireturn, 1) := by decide +kernel
theorem d_X_count_0 : decode c_X_count 0 = .ok (.iload_n 1, 1) := by decide +kernel
theorem d_X_count_1 : decode c_X_count 1 = .ok (.tableswitch 61 0 3 #[31, 39, 44, 49], 31) := by decide +kernel
theorem d_X_count_32 : decode c_X_count 32 = .ok (.aload_n 0, 1) := by decide +kernel
theorem d_X_count_33 : decode c_X_count 33 = .ok (.getfield 10, 3) := by decide +kernel
theorem d_X_count_36 : decode c_X_count 36 = .ok (.getfield 144, 3) := by decide +kernel
theorem d_X_count_39 : decode c_X_count 39 = .ok (.ireturn, 1) := by decide +kernel
theorem d_X_count_40 : decode c_X_count 40 = .ok (.aload_n 0, 1) := by decide +kernel
theorem d_X_count_41 : decode c_X_count 41 = .ok (.getfield 47, 3) := by decide +kernel
theorem d_X_count_44 : decode c_X_count 44 = .ok (.ireturn, 1) := by decide +kernel
theorem d_X_count_45 : decode c_X_count 45 = .ok (.aload_n 0, 1) := by decide +kernel
theorem d_X_count_46 : decode c_X_count 46 = .ok (.getfield 51, 3) := by decide +kernel
theorem d_X_count_49 : decode c_X_count 49 = .ok (.ireturn, 1) := by decide +kernel
theorem d_X_count_50 : decode c_X_count 50 = .ok (.aload_n 0, 1) := by decide +kernel
theorem d_X_count_51 : decode c_X_count 51 = .ok (.getfield 10, 3) := by decide +kernel
theorem d_X_count_54 : decode c_X_count 54 = .ok (.aload_n 0, 1) := by decide +kernel
theorem d_X_count_55 : decode c_X_count 55 = .ok (.getfield 47, 3) := by decide +kernel
theorem d_X_count_58 : decode c_X_count 58 = .ok (.invokevirtual 147, 3) := by decide +kernel
theorem d_X_count_61 : decode c_X_count 61 = .ok (.ireturn, 1) := by decide +kernel
theorem d_X_count_62 : decode c_X_count 62 = .ok (.iconst (-1), 1) := by decide +kernel
theorem d_X_count_63 : decode c_X_count 63 = .ok (.ireturn, 1) := by decide +kernel
theorem d_A_voidsAsKnown_0 : decode c_A_voidsAsKnown 0 = .ok (.iconst 0, 1) := by decide +kernel
theorem d_A_voidsAsKnown_1 : decode c_A_voidsAsKnown 1 = .ok (.istore_n 2, 1) := by decide +kernel
theorem d_A_voidsAsKnown_2 : decode c_A_voidsAsKnown 2 = .ok (.iconst 0, 1) := by decide +kernel
theorem d_A_voidsAsKnown_3 : decode c_A_voidsAsKnown 3 = .ok (.istore_n 3, 1) := by decide +kernel
theorem d_A_voidsAsKnown_4 : decode c_A_voidsAsKnown 4 = .ok (.iload_n 3, 1) := by decide +kernel
theorem d_A_voidsAsKnown_5 : decode c_A_voidsAsKnown 5 = .ok (.aload_n 0, 1) := by decide +kernel
theorem d_A_voidsAsKnown_6 : decode c_A_voidsAsKnown 6 = .ok (.getfield 27, 3) := by decide +kernel
theorem d_A_voidsAsKnown_9 : decode c_A_voidsAsKnown 9 = .ok (.if_icmp .ge 21, 3) := by decide +kernel
theorem d_A_voidsAsKnown_12 : decode c_A_voidsAsKnown 12 = .ok (.aload_n 0, 1) := by decide +kernel
theorem d_A_voidsAsKnown_13 : decode c_A_voidsAsKnown 13 = .ok (.iload_n 3, 1) := by decide +kernel
theorem d_A_voidsAsKnown_14 : decode c_A_voidsAsKnown 14 = .ok (.iload_n 1, 1) := by decide +kernel
theorem d_A_voidsAsKnown_15 : decode c_A_voidsAsKnown 15 = .ok (.invokevirtual 45, 3) := by decide +kernel
theorem d_A_voidsAsKnown_18 : decode c_A_voidsAsKnown 18 = .ok (.ifCond .eq 6, 3) := by decide +kernel
theorem d_A_voidsAsKnown_21 : decode c_A_voidsAsKnown 21 = .ok (.iinc 2 1, 3) := by decide +kernel
theorem d_A_voidsAsKnown_24 : decode c_A_voidsAsKnown 24 = .ok (.iinc 3 1, 3) := by decide +kernel
theorem d_A_voidsAsKnown_27 : decode c_A_voidsAsKnown 27 = .ok (.goto (-23), 3) := by decide +kernel
theorem d_A_voidsAsKnown_30 : decode c_A_voidsAsKnown 30 = .ok (.iload_n 2, 1) := by decide +kernel
theorem d_A_voidsAsKnown_31 : decode c_A_voidsAsKnown 31 = .ok (.ireturn, 1) := by decide +kernel
theorem d_A_isVoid_0 : decode c_A_isVoid 0 = .ok (.iload_n 1, 1) := by decide +kernel
theorem d_A_isVoid_1 : decode c_A_isVoid 1 = .ok (.iconst 1, 1) := by decide +kernel
theorem d_A_isVoid_2 : decode c_A_isVoid 2 = .ok (.iadd, 1) := by decide +kernel
theorem d_A_isVoid_3 : decode c_A_isVoid 3 = .ok (.istore_n 3, 1) := by decide +kernel
theorem d_A_isVoid_4 : decode c_A_isVoid 4 = .ok (.iload_n 3, 1) := by decide +kernel
theorem d_A_isVoid_5 : decode c_A_isVoid 5 = .ok (.aload_n 0, 1) := by decide +kernel
theorem d_A_isVoid_6 : decode c_A_isVoid 6 = .ok (.getfield 27, 3) := by decide +kernel
theorem d_A_isVoid_9 : decode c_A_isVoid 9 = .ok (.if_icmp .ge 41, 3) := by decide +kernel
theorem d_A_isVoid_12 : decode c_A_isVoid 12 = .ok (.aload_n 0, 1) := by decide +kernel
theorem d_A_isVoid_13 : decode c_A_isVoid 13 = .ok (.getfield 9, 3) := by decide +kernel
theorem d_A_isVoid_16 : decode c_A_isVoid 16 = .ok (.iload_n 3, 1) := by decide +kernel
theorem d_A_isVoid_17 : decode c_A_isVoid 17 = .ok (.iaload, 1) := by decide +kernel
theorem d_A_isVoid_18 : decode c_A_isVoid 18 = .ok (.iconst 5, 1) := by decide +kernel
theorem d_A_isVoid_19 : decode c_A_isVoid 19 = .ok (.if_icmp .ne 25, 3) := by decide +kernel
theorem d_A_isVoid_22 : decode c_A_isVoid 22 = .ok (.aload_n 0, 1) := by decide +kernel
theorem d_A_isVoid_23 : decode c_A_isVoid 23 = .ok (.getfield 15, 3) := by decide +kernel
theorem d_A_isVoid_26 : decode c_A_isVoid 26 = .ok (.iload_n 3, 1) := by decide +kernel
theorem d_A_isVoid_27 : decode c_A_isVoid 27 = .ok (.iaload, 1) := by decide +kernel
theorem d_A_isVoid_28 : decode c_A_isVoid 28 = .ok (.iload_n 1, 1) := by decide +kernel
theorem d_A_isVoid_29 : decode c_A_isVoid 29 = .ok (.if_icmp .ne 15, 3) := by decide +kernel
theorem d_A_isVoid_32 : decode c_A_isVoid 32 = .ok (.aload_n 0, 1) := by decide +kernel
theorem d_A_isVoid_33 : decode c_A_isVoid 33 = .ok (.getfield 24, 3) := by decide +kernel
theorem d_A_isVoid_36 : decode c_A_isVoid 36 = .ok (.iload_n 3, 1) := by decide +kernel
theorem d_A_isVoid_37 : decode c_A_isVoid 37 = .ok (.iaload, 1) := by decide +kernel
theorem d_A_isVoid_38 : decode c_A_isVoid 38 = .ok (.iload_n 2, 1) := by decide +kernel
theorem d_A_isVoid_39 : decode c_A_isVoid 39 = .ok (.if_icmp .gt 5, 3) := by decide +kernel
theorem d_A_isVoid_42 : decode c_A_isVoid 42 = .ok (.iconst 1, 1) := by decide +kernel
theorem d_A_isVoid_43 : decode c_A_isVoid 43 = .ok (.ireturn, 1) := by decide +kernel
theorem d_A_isVoid_44 : decode c_A_isVoid 44 = .ok (.iinc 3 1, 3) := by decide +kernel
theorem d_A_isVoid_47 : decode c_A_isVoid 47 = .ok (.goto (-43), 3) := by decide +kernel
theorem d_A_isVoid_50 : decode c_A_isVoid 50 = .ok (.iconst 0, 1) := by decide +kernel
theorem d_A_isVoid_51 : decode c_A_isVoid 51 = .ok (.ireturn, 1) := by decide +kernel
theorem d_L_place_0 : decode c_L_place 0 = .ok (.aload 4, 2) := by decide +kernel
theorem d_L_place_2 : decode c_L_place 2 = .ok (.iconst 0, 1) := by decide +kernel
theorem d_L_place_3 : decode c_L_place 3 = .ok (.aload_n 0, 1) := by decide +kernel
theorem d_L_place_4 : decode c_L_place 4 = .ok (.iload_n 1, 1) := by decide +kernel
theorem d_L_place_5 : decode c_L_place 5 = .ok (.iload_n 2, 1) := by decide +kernel
theorem d_L_place_6 : decode c_L_place 6 = .ok (.iload_n 3, 1) := by decide +kernel
theorem d_L_place_7 : decode c_L_place 7 = .ok (.invokevirtual 7, 3) := by decide +kernel
theorem d_L_place_10 : decode c_L_place 10 = .ok (.i2l, 1) := by decide +kernel
theorem d_L_place_11 : decode c_L_place 11 = .ok (.lastore, 1) := by decide +kernel
theorem d_L_place_12 : decode c_L_place 12 = .ok (.goto 7, 3) := by decide +kernel
theorem d_L_place_15 : decode c_L_place 15 = .ok (.astore 5, 2) := by decide +kernel
theorem d_L_place_17 : decode c_L_place 17 = .ok (.iconst 1, 1) := by decide +kernel
theorem d_L_place_18 : decode c_L_place 18 = .ok (.ireturn, 1) := by decide +kernel
theorem d_L_place_19 : decode c_L_place 19 = .ok (.iconst 0, 1) := by decide +kernel
theorem d_L_place_20 : decode c_L_place 20 = .ok (.ireturn, 1) := by decide +kernel
theorem d_X_place_0 : decode c_X_place 0 = .ok (.iload_n 1, 1) := by decide +kernel
theorem d_X_place_1 : decode c_X_place 1 = .ok (.bipush 20, 2) := by decide +kernel
theorem d_X_place_3 : decode c_X_place 3 = .ok (.invokestatic 70, 3) := by decide +kernel
theorem d_X_place_6 : decode c_X_place 6 = .ok (.aload_n 0, 1) := by decide +kernel
theorem d_X_place_7 : decode c_X_place 7 = .ok (.aload_n 0, 1) := by decide +kernel
