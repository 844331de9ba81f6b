theorem dX2_init_0 : decode cX2_init 0 = .ok (.aload_n 0, 1) := by decide +kernel
theorem dX2_init_1 : decode cX2_init 1 = .ok (.invokespecial 3, 3) := by decide +kernel
theorem dX2_init_4 : decode cX2_init 4 = .ok (.aload_n 0, 1) := by decide +kernel
theorem dX2_init_5 : decode cX2_init 5 = .ok (.bipush 8, 2) := by decide +kernel
theorem dX2_init_7 : decode cX2_init 7 = .ok (.newarray .int, 2) := by decide +kernel
theorem dX2_init_9 : decode cX2_init 9 = .ok (.putfield 9, 3) := by decide +kernel
theorem dX2_init_12 : decode cX2_init 12 = .ok (.return_, 1) := by decide +kernel
theorem dX2_start_0 : decode cX2_start 0 = .ok (.aload_n 0, 1) := by decide +kernel
theorem dX2_start_1 : decode cX2_start 1 = .ok (.aload_n 1, 1) := by decide +kernel
theorem dX2_start_2 : decode cX2_start 2 = .ok (.invokevirtual 15, 3) := by decide +kernel
theorem dX2_start_5 : decode cX2_start 5 = .ok (.aload_n 0, 1) := by decide +kernel
theorem dX2_start_6 : decode cX2_start 6 = .ok (.aload_n 1, 1) := by decide +kernel
theorem dX2_start_7 : decode cX2_start 7 = .ok (.getfield 19, 3) := by decide +kernel
theorem dX2_start_10 : decode cX2_start 10 = .ok (.ifCond .eq 18, 3) := by decide +kernel
theorem dX2_start_13 : decode cX2_start 13 = .ok (.aload_n 1, 1) := by decide +kernel
theorem dX2_start_14 : decode cX2_start 14 = .ok (.getfield 25, 3) := by decide +kernel
theorem dX2_start_17 : decode cX2_start 17 = .ok (.aload_n 1, 1) := by decide +kernel
theorem dX2_start_18 : decode cX2_start 18 = .ok (.getfield 29, 3) := by decide +kernel
theorem dX2_start_21 : decode cX2_start 21 = .ok (.if_icmp .gt 7, 3) := by decide +kernel
theorem dX2_start_24 : decode cX2_start 24 = .ok (.iconst 1, 1) := by decide +kernel
theorem dX2_start_25 : decode cX2_start 25 = .ok (.goto 4, 3) := by decide +kernel
theorem dX2_start_28 : decode cX2_start 28 = .ok (.iconst 0, 1) := by decide +kernel
theorem dX2_start_29 : decode cX2_start 29 = .ok (.putfield 32, 3) := by decide +kernel
theorem dX2_start_32 : decode cX2_start 32 = .ok (.return_, 1) := by decide +kernel
theorem dX2_startWorking_0 : decode cX2_startWorking 0 = .ok (.aload_n 0, 1) := by decide +kernel
theorem dX2_startWorking_1 : decode cX2_startWorking 1 = .ok (.iconst 0, 1) := by decide +kernel
theorem dX2_startWorking_2 : decode cX2_startWorking 2 = .ok (.putfield 32, 3) := by decide +kernel
theorem dX2_startWorking_5 : decode cX2_startWorking 5 = .ok (.aload_n 0, 1) := by decide +kernel
theorem dX2_startWorking_6 : decode cX2_startWorking 6 = .ok (.iconst 0, 1) := by decide +kernel
theorem dX2_startWorking_7 : decode cX2_startWorking 7 = .ok (.putfield 35, 3) := by decide +kernel
theorem dX2_startWorking_10 : decode cX2_startWorking 10 = .ok (.aload_n 0, 1) := by decide +kernel
theorem dX2_startWorking_11 : decode cX2_startWorking 11 = .ok (.lconst 0, 1) := by decide +kernel
theorem dX2_startWorking_12 : decode cX2_startWorking 12 = .ok (.putfield 38, 3) := by decide +kernel
theorem dX2_startWorking_15 : decode cX2_startWorking 15 = .ok (.aload_n 0, 1) := by decide +kernel
theorem dX2_startWorking_16 : decode cX2_startWorking 16 = .ok (.aload_n 1, 1) := by decide +kernel
theorem dX2_startWorking_17 : decode cX2_startWorking 17 = .ok (.getfield 42, 3) := by decide +kernel
theorem dX2_startWorking_20 : decode cX2_startWorking 20 = .ok (.ifCond .ne 18, 3) := by decide +kernel
theorem dX2_startWorking_23 : decode cX2_startWorking 23 = .ok (.aload_n 1, 1) := by decide +kernel
theorem dX2_startWorking_24 : decode cX2_startWorking 24 = .ok (.getfield 45, 3) := by decide +kernel
theorem dX2_startWorking_27 : decode cX2_startWorking 27 = .ok (.iconst 5, 1) := by decide +kernel
theorem dX2_startWorking_28 : decode cX2_startWorking 28 = .ok (.if_icmp .ne 14, 3) := by decide +kernel
theorem dX2_startWorking_31 : decode cX2_startWorking 31 = .ok (.aload_n 1, 1) := by decide +kernel
theorem dX2_startWorking_32 : decode cX2_startWorking 32 = .ok (.getfield 48, 3) := by decide +kernel
theorem dX2_startWorking_35 : decode cX2_startWorking 35 = .ok (.ifCond .ne 7, 3) := by decide +kernel
theorem dX2_startWorking_38 : decode cX2_startWorking 38 = .ok (.iconst 1, 1) := by decide +kernel
theorem dX2_startWorking_39 : decode cX2_startWorking 39 = .ok (.goto 4, 3) := by decide +kernel
theorem dX2_startWorking_42 : decode cX2_startWorking 42 = .ok (.iconst 0, 1) := by decide +kernel
theorem dX2_startWorking_43 : decode cX2_startWorking 43 = .ok (.putfield 51, 3) := by decide +kernel
theorem dX2_startWorking_46 : decode cX2_startWorking 46 = .ok (.return_, 1) := by decide +kernel
theorem dX2_nextPlace_0 : decode cX2_nextPlace 0 = .ok (.aload_n 0, 1) := by decide +kernel
theorem dX2_nextPlace_1 : decode cX2_nextPlace 1 = .ok (.getfield 51, 3) := by decide +kernel
theorem dX2_nextPlace_4 : decode cX2_nextPlace 4 = .ok (.ifCond .ne 14, 3) := by decide +kernel
theorem dX2_nextPlace_7 : decode cX2_nextPlace 7 = .ok (.aload_n 0, 1) := by decide +kernel
theorem dX2_nextPlace_8 : decode cX2_nextPlace 8 = .ok (.getfield 35, 3) := by decide +kernel
theorem dX2_nextPlace_11 : decode cX2_nextPlace 11 = .ok (.aload_n 1, 1) := by decide +kernel
theorem dX2_nextPlace_12 : decode cX2_nextPlace 12 = .ok (.getfield 48, 3) := by decide +kernel
theorem dX2_nextPlace_15 : decode cX2_nextPlace 15 = .ok (.if_icmp .lt 5, 3) := by decide +kernel
theorem dX2_nextPlace_18 : decode cX2_nextPlace 18 = .ok (.iconst (-1), 1) := by decide +kernel
theorem dX2_nextPlace_19 : decode cX2_nextPlace 19 = .ok (.ireturn, 1) := by decide +kernel
theorem dX2_nextPlace_20 : decode cX2_nextPlace 20 = .ok (.aload_n 1, 1) := by decide +kernel
theorem dX2_nextPlace_21 : decode cX2_nextPlace 21 = .ok (.getfield 45, 3) := by decide +kernel
theorem dX2_nextPlace_24 : decode cX2_nextPlace 24 = .ok (.lookupswitch 57 #[(1, 28), (2, 46)], 28) := by decide +kernel
theorem dX2_nextPlace_52 : decode cX2_nextPlace 52 = .ok (.aload_n 0, 1) := by decide +kernel
theorem dX2_nextPlace_53 : decode cX2_nextPlace 53 = .ok (.getfield 38, 3) := by decide +kernel
theorem dX2_nextPlace_56 : decode cX2_nextPlace 56 = .ok (.lconst 0, 1) := by decide +kernel
theorem dX2_nextPlace_57 : decode cX2_nextPlace 57 = .ok (.lcmp, 1) := by decide +kernel
theorem dX2_nextPlace_58 : decode cX2_nextPlace 58 = .ok (.ifCond .ne 10, 3) := by decide +kernel
theorem dX2_nextPlace_61 : decode cX2_nextPlace 61 = .ok (.aload_n 0, 1) := by decide +kernel
theorem dX2_nextPlace_62 : decode cX2_nextPlace 62 = .ok (.getfield 35, 3) := by decide +kernel
theorem dX2_nextPlace_65 : decode cX2_nextPlace 65 = .ok (.goto 4, 3) := by decide +kernel
theorem dX2_nextPlace_68 : decode cX2_nextPlace 68 = .ok (.iconst (-1), 1) := by decide +kernel
theorem dX2_nextPlace_69 : decode cX2_nextPlace 69 = .ok (.ireturn, 1) := by decide +kernel
theorem dX2_nextPlace_70 : decode cX2_nextPlace 70 = .ok (.aload_n 0, 1) := by decide +kernel
theorem dX2_nextPlace_71 : decode cX2_nextPlace 71 = .ok (.aload_n 1, 1) := by decide +kernel
theorem dX2_nextPlace_72 : decode cX2_nextPlace 72 = .ok (.getfield 48, 3) := by decide +kernel
theorem dX2_nextPlace_75 : decode cX2_nextPlace 75 = .ok (.iconst 1, 1) := by decide +kernel
theorem dX2_nextPlace_76 : decode cX2_nextPlace 76 = .ok (.isub, 1) := by decide +kernel
theorem dX2_nextPlace_77 : decode cX2_nextPlace 77 = .ok (.invokevirtual 54, 3) := by decide +kernel
theorem dX2_nextPlace_80 : decode cX2_nextPlace 80 = .ok (.ireturn, 1) := by decide +kernel
theorem dX2_nextPlace_81 : decode cX2_nextPlace 81 = .ok (.aload_n 0, 1) := by decide +kernel
theorem dX2_nextPlace_82 : decode cX2_nextPlace 82 = .ok (.getfield 35, 3) := by decide +kernel
theorem dX2_nextPlace_85 : decode cX2_nextPlace 85 = .ok (.ireturn, 1) := by decide +kernel
theorem dX2_nextPick_0 : decode cX2_nextPick 0 = .ok (.aload_n 0, 1) := by decide +kernel
theorem dX2_nextPick_1 : decode cX2_nextPick 1 = .ok (.getfield 35, 3) := by decide +kernel
theorem dX2_nextPick_4 : decode cX2_nextPick 4 = .ok (.ifCond .ne 5, 3) := by decide +kernel
theorem dX2_nextPick_7 : decode cX2_nextPick 7 = .ok (.iconst 0, 1) := by decide +kernel
theorem dX2_nextPick_8 : decode cX2_nextPick 8 = .ok (.ireturn, 1) := by decide +kernel
theorem dX2_nextPick_9 : decode cX2_nextPick 9 = .ok (.aload_n 0, 1) := by decide +kernel
theorem dX2_nextPick_10 : decode cX2_nextPick 10 = .ok (.getfield 35, 3) := by decide +kernel
theorem dX2_nextPick_13 : decode cX2_nextPick 13 = .ok (.iconst 1, 1) := by decide +kernel
theorem dX2_nextPick_14 : decode cX2_nextPick 14 = .ok (.if_icmp .gt 7, 3) := by decide +kernel
theorem dX2_nextPick_17 : decode cX2_nextPick 17 = .ok (.iload_n 1, 1) := by decide +kernel
theorem dX2_nextPick_18 : decode cX2_nextPick 18 = .ok (.ifCond .gt 5, 3) := by decide +kernel
theorem dX2_nextPick_21 : decode cX2_nextPick 21 = .ok (.iconst (-1), 1) := by decide +kernel
theorem dX2_nextPick_22 : decode cX2_nextPick 22 = .ok (.ireturn, 1) := by decide +kernel
theorem dX2_nextPick_23 : decode cX2_nextPick 23 = .ok (.iconst 1, 1) := by decide +kernel
theorem dX2_nextPick_24 : decode cX2_nextPick 24 = .ok (.aload_n 0, 1) := by decide +kernel
theorem dX2_nextPick_25 : decode cX2_nextPick 25 = .ok (.getfield 38, 3) := by decide +kernel
theorem dX2_nextPick_28 : decode cX2_nextPick 28 = .ok (.iload_n 1, 1) := by decide +kernel
theorem dX2_nextPick_29 : decode cX2_nextPick 29 = .ok (.i2l, 1) := by decide +kernel
theorem dX2_nextPick_30 : decode cX2_nextPick 30 = .ok (.invokestatic 58, 3) := by decide +kernel
theorem dX2_nextPick_33 : decode cX2_nextPick 33 = .ok (.l2i, 1) := by decide +kernel
theorem dX2_nextPick_34 : decode cX2_nextPick 34 = .ok (.iadd, 1) := by decide +kernel
theorem dX2_nextPick_35 : decode cX2_nextPick 35 = .ok (.ireturn, 1) := by decide +kernel
theorem dX2_take_0 : decode cX2_take 0 = .ok (.aload_n 1, 1) := by decide +kernel
theorem dX2_take_1 : decode cX2_take 1 = .ok (.getfield 45, 3) := by decide +kernel
theorem dX2_take_4 : decode cX2_take 4 = .ok (.tableswitch 78 1 5 #[36, 36, 44, 78, 52], 36) := by decide +kernel
theorem dX2_take_40 : decode cX2_take 40 = .ok (.aload_n 0, 1) := by decide +kernel
theorem dX2_take_41 : decode cX2_take 41 = .ok (.lload_n 2, 1) := by decide +kernel
theorem dX2_take_42 : decode cX2_take 42 = .ok (.putfield 38, 3) := by decide +kernel
theorem dX2_take_45 : decode cX2_take 45 = .ok (.goto 47, 3) := by decide +kernel
theorem dX2_take_48 : decode cX2_take 48 = .ok (.aload_n 0, 1) := by decide +kernel
theorem dX2_take_49 : decode cX2_take 49 = .ok (.lload_n 2, 1) := by decide +kernel
theorem dX2_take_50 : decode cX2_take 50 = .ok (.invokevirtual 64, 3) := by decide +kernel
theorem dX2_take_53 : decode cX2_take 53 = .ok (.goto 39, 3) := by decide +kernel
theorem dX2_take_56 : decode cX2_take 56 = .ok (.aload_n 0, 1) := by decide +kernel
theorem dX2_take_57 : decode cX2_take 57 = .ok (.aload_n 0, 1) := by decide +kernel
theorem dX2_take_58 : decode cX2_take 58 = .ok (.getfield 35, 3) := by decide +kernel
theorem dX2_take_61 : decode cX2_take 61 = .ok (.ifCond .ne 7, 3) := by decide +kernel
theorem dX2_take_64 : decode cX2_take 64 = .ok (.lload_n 2, 1) := by decide +kernel
theorem dX2_take_65 : decode cX2_take 65 = .ok (.goto 11, 3) := by decide +kernel
theorem dX2_take_68 : decode cX2_take 68 = .ok (.aload_n 0, 1) := by decide +kernel
theorem dX2_take_69 : decode cX2_take 69 = .ok (.getfield 38, 3) := by decide +kernel
theorem dX2_take_72 : decode cX2_take 72 = .ok (.lload_n 2, 1) := by decide +kernel
theorem dX2_take_73 : decode cX2_take 73 = .ok (.invokestatic 68, 3) := by decide +kernel
theorem dX2_take_76 : decode cX2_take 76 = .ok (.putfield 38, 3) := by decide +kernel
theorem dX2_take_79 : decode cX2_take 79 = .ok (.goto 13, 3) := by decide +kernel
theorem dX2_take_82 : decode cX2_take 82 = .ok (.aload_n 0, 1) := by decide +kernel
theorem dX2_take_83 : decode cX2_take 83 = .ok (.dup, 1) := by decide +kernel
theorem dX2_take_84 : decode cX2_take 84 = .ok (.getfield 38, 3) := by decide +kernel
theorem dX2_take_87 : decode cX2_take 87 = .ok (.lload_n 2, 1) := by decide +kernel
theorem dX2_take_88 : decode cX2_take 88 = .ok (.ladd, 1) := by decide +kernel
theorem dX2_take_89 : decode cX2_take 89 = .ok (.putfield 38, 3) := by decide +kernel
theorem dX2_take_92 : decode cX2_take 92 = .ok (.return_, 1) := by decide +kernel
theorem dX2_divide_0 : decode cX2_divide 0 = .ok (.aload_n 0, 1) := by decide +kernel
theorem dX2_divide_1 : decode cX2_divide 1 = .ok (.getfield 35, 3) := by decide +kernel
theorem dX2_divide_4 : decode cX2_divide 4 = .ok (.ifCond .ne 11, 3) := by decide +kernel
theorem dX2_divide_7 : decode cX2_divide 7 = .ok (.aload_n 0, 1) := by decide +kernel
theorem dX2_divide_8 : decode cX2_divide 8 = .ok (.lload_n 1, 1) := by decide +kernel
theorem dX2_divide_9 : decode cX2_divide 9 = .ok (.putfield 38, 3) := by decide +kernel
theorem dX2_divide_12 : decode cX2_divide 12 = .ok (.goto 27, 3) := by decide +kernel
theorem dX2_divide_15 : decode cX2_divide 15 = .ok (.lload_n 1, 1) := by decide +kernel
theorem dX2_divide_16 : decode cX2_divide 16 = .ok (.lconst 0, 1) := by decide +kernel
theorem dX2_divide_17 : decode cX2_divide 17 = .ok (.lcmp, 1) := by decide +kernel
theorem dX2_divide_18 : decode cX2_divide 18 = .ok (.ifCond .ne 11, 3) := by decide +kernel
theorem dX2_divide_21 : decode cX2_divide 21 = .ok (.aload_n 0, 1) := by decide +kernel
theorem dX2_divide_22 : decode cX2_divide 22 = .ok (.iconst 1, 1) := by decide +kernel
theorem dX2_divide_23 : decode cX2_divide 23 = .ok (.putfield 51, 3) := by decide +kernel
theorem dX2_divide_26 : decode cX2_divide 26 = .ok (.goto 13, 3) := by decide +kernel
theorem dX2_divide_29 : decode cX2_divide 29 = .ok (.aload_n 0, 1) := by decide +kernel
theorem dX2_divide_30 : decode cX2_divide 30 = .ok (.dup, 1) := by decide +kernel
theorem dX2_divide_31 : decode cX2_divide 31 = .ok (.getfield 38, 3) := by decide +kernel
theorem dX2_divide_34 : decode cX2_divide 34 = .ok (.lload_n 1, 1) := by decide +kernel
theorem dX2_divide_35 : decode cX2_divide 35 = .ok (.ldiv, 1) := by decide +kernel
theorem dX2_divide_36 : decode cX2_divide 36 = .ok (.putfield 38, 3) := by decide +kernel
theorem dX2_divide_39 : decode cX2_divide 39 = .ok (.return_, 1) := by decide +kernel
theorem dX2_notePlace_0 : decode cX2_notePlace 0 = .ok (.aload_n 0, 1) := by decide +kernel
theorem dX2_notePlace_1 : decode cX2_notePlace 1 = .ok (.getfield 35, 3) := by decide +kernel
theorem dX2_notePlace_4 : decode cX2_notePlace 4 = .ok (.aload_n 0, 1) := by decide +kernel
theorem dX2_notePlace_5 : decode cX2_notePlace 5 = .ok (.getfield 9, 3) := by decide +kernel
theorem dX2_notePlace_8 : decode cX2_notePlace 8 = .ok (.arraylength, 1) := by decide +kernel
theorem dX2_notePlace_9 : decode cX2_notePlace 9 = .ok (.if_icmp .ge 23, 3) := by decide +kernel
theorem dX2_notePlace_12 : decode cX2_notePlace 12 = .ok (.aload_n 0, 1) := by decide +kernel
theorem dX2_notePlace_13 : decode cX2_notePlace 13 = .ok (.getfield 9, 3) := by decide +kernel
theorem dX2_notePlace_16 : decode cX2_notePlace 16 = .ok (.aload_n 0, 1) := by decide +kernel
theorem dX2_notePlace_17 : decode cX2_notePlace 17 = .ok (.getfield 35, 3) := by decide +kernel
theorem dX2_notePlace_20 : decode cX2_notePlace 20 = .ok (.iload_n 1, 1) := by decide +kernel
theorem dX2_notePlace_21 : decode cX2_notePlace 21 = .ok (.iastore, 1) := by decide +kernel
theorem dX2_notePlace_22 : decode cX2_notePlace 22 = .ok (.aload_n 0, 1) := by decide +kernel
theorem dX2_notePlace_23 : decode cX2_notePlace 23 = .ok (.dup, 1) := by decide +kernel
theorem dX2_notePlace_24 : decode cX2_notePlace 24 = .ok (.getfield 35, 3) := by decide +kernel
theorem dX2_notePlace_27 : decode cX2_notePlace 27 = .ok (.iconst 1, 1) := by decide +kernel
theorem dX2_notePlace_28 : decode cX2_notePlace 28 = .ok (.iadd, 1) := by decide +kernel
theorem dX2_notePlace_29 : decode cX2_notePlace 29 = .ok (.putfield 35, 3) := by decide +kernel
theorem dX2_notePlace_32 : decode cX2_notePlace 32 = .ok (.return_, 1) := by decide +kernel
theorem dX2_result_0 : decode cX2_result 0 = .ok (.aload_n 1, 1) := by decide +kernel
theorem dX2_result_1 : decode cX2_result 1 = .ok (.getfield 45, 3) := by decide +kernel
theorem dX2_result_4 : decode cX2_result 4 = .ok (.iconst 4, 1) := by decide +kernel
theorem dX2_result_5 : decode cX2_result 5 = .ok (.if_icmp .ne 12, 3) := by decide +kernel
theorem dX2_result_8 : decode cX2_result 8 = .ok (.aload_n 0, 1) := by decide +kernel
theorem dX2_result_9 : decode cX2_result 9 = .ok (.getfield 38, 3) := by decide +kernel
theorem dX2_result_12 : decode cX2_result 12 = .ok (.lconst 1, 1) := by decide +kernel
theorem dX2_result_13 : decode cX2_result 13 = .ok (.land, 1) := by decide +kernel
theorem dX2_result_14 : decode cX2_result 14 = .ok (.goto 7, 3) := by decide +kernel
theorem dX2_result_17 : decode cX2_result 17 = .ok (.aload_n 0, 1) := by decide +kernel
theorem dX2_result_18 : decode cX2_result 18 = .ok (.getfield 38, 3) := by decide +kernel
theorem dX2_result_21 : decode cX2_result 21 = .ok (.lreturn, 1) := by decide +kernel
