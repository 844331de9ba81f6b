theorem dX4_go_143 : decode cX4_go 143 = .ok (.if_icmp .ne 8, 3) := by decide +kernel
theorem dX4_go_146 : decode cX4_go 146 = .ok (.bipush 6, 2) := by decide +kernel
theorem dX4_go_148 : decode cX4_go 148 = .ok (.goto 10, 3) := by decide +kernel
theorem dX4_go_151 : decode cX4_go 151 = .ok (.aload_n 0, 1) := by decide +kernel
theorem dX4_go_152 : decode cX4_go 152 = .ok (.iload_n 1, 1) := by decide +kernel
theorem dX4_go_153 : decode cX4_go 153 = .ok (.iconst 3, 1) := by decide +kernel
theorem dX4_go_154 : decode cX4_go 154 = .ok (.lconst 0, 1) := by decide +kernel
theorem dX4_go_155 : decode cX4_go 155 = .ok (.invokevirtual 149, 3) := by decide +kernel
theorem dX4_go_158 : decode cX4_go 158 = .ok (.ireturn, 1) := by decide +kernel
theorem dX4_step_0 : decode cX4_step 0 = .ok (.aload_n 0, 1) := by decide +kernel
theorem dX4_step_1 : decode cX4_step 1 = .ok (.iconst 0, 1) := by decide +kernel
theorem dX4_step_2 : decode cX4_step 2 = .ok (.putfield 75, 3) := by decide +kernel
theorem dX4_step_5 : decode cX4_step 5 = .ok (.iload_n 1, 1) := by decide +kernel
theorem dX4_step_6 : decode cX4_step 6 = .ok (.invokestatic 117, 3) := by decide +kernel
theorem dX4_step_9 : decode cX4_step 9 = .ok (.ifCond .eq 11, 3) := by decide +kernel
theorem dX4_step_12 : decode cX4_step 12 = .ok (.aload_n 0, 1) := by decide +kernel
theorem dX4_step_13 : decode cX4_step 13 = .ok (.iload_n 1, 1) := by decide +kernel
theorem dX4_step_14 : decode cX4_step 14 = .ok (.invokevirtual 157, 3) := by decide +kernel
theorem dX4_step_17 : decode cX4_step 17 = .ok (.goto 4, 3) := by decide +kernel
theorem dX4_step_20 : decode cX4_step 20 = .ok (.iconst (-1), 1) := by decide +kernel
theorem dX4_step_21 : decode cX4_step 21 = .ok (.ireturn, 1) := by decide +kernel
theorem dX4_run_0 : decode cX4_run 0 = .ok (.aload_n 0, 1) := by decide +kernel
theorem dX4_run_1 : decode cX4_run 1 = .ok (.iconst 0, 1) := by decide +kernel
theorem dX4_run_2 : decode cX4_run 2 = .ok (.putfield 75, 3) := by decide +kernel
theorem dX4_run_5 : decode cX4_run 5 = .ok (.aload_n 0, 1) := by decide +kernel
theorem dX4_run_6 : decode cX4_run 6 = .ok (.iload_n 1, 1) := by decide +kernel
theorem dX4_run_7 : decode cX4_run 7 = .ok (.invokevirtual 82, 3) := by decide +kernel
theorem dX4_run_10 : decode cX4_run 10 = .ok (.ifCond .ne 5, 3) := by decide +kernel
theorem dX4_run_13 : decode cX4_run 13 = .ok (.iconst (-1), 1) := by decide +kernel
theorem dX4_run_14 : decode cX4_run 14 = .ok (.ireturn, 1) := by decide +kernel
theorem dX4_run_15 : decode cX4_run 15 = .ok (.aload_n 0, 1) := by decide +kernel
theorem dX4_run_16 : decode cX4_run 16 = .ok (.iload_n 1, 1) := by decide +kernel
theorem dX4_run_17 : decode cX4_run 17 = .ok (.invokevirtual 123, 3) := by decide +kernel
theorem dX4_run_20 : decode cX4_run 20 = .ok (.ifCond .eq 10, 3) := by decide +kernel
theorem dX4_run_23 : decode cX4_run 23 = .ok (.aload_n 0, 1) := by decide +kernel
theorem dX4_run_24 : decode cX4_run 24 = .ok (.getfield 19, 3) := by decide +kernel
theorem dX4_run_27 : decode cX4_run 27 = .ok (.iload_n 1, 1) := by decide +kernel
theorem dX4_run_28 : decode cX4_run 28 = .ok (.iaload, 1) := by decide +kernel
theorem dX4_run_29 : decode cX4_run 29 = .ok (.ireturn, 1) := by decide +kernel
theorem dX4_run_30 : decode cX4_run 30 = .ok (.aload_n 0, 1) := by decide +kernel
theorem dX4_run_31 : decode cX4_run 31 = .ok (.iload_n 1, 1) := by decide +kernel
theorem dX4_run_32 : decode cX4_run 32 = .ok (.invokevirtual 120, 3) := by decide +kernel
theorem dX4_run_35 : decode cX4_run 35 = .ok (.iconst (-1), 1) := by decide +kernel
theorem dX4_run_36 : decode cX4_run 36 = .ok (.if_icmp .eq 6, 3) := by decide +kernel
theorem dX4_run_39 : decode cX4_run 39 = .ok (.bipush (-2), 2) := by decide +kernel
theorem dX4_run_41 : decode cX4_run 41 = .ok (.ireturn, 1) := by decide +kernel
theorem dX4_run_42 : decode cX4_run 42 = .ok (.aload_n 0, 1) := by decide +kernel
theorem dX4_run_43 : decode cX4_run 43 = .ok (.iconst 4, 1) := by decide +kernel
theorem dX4_run_44 : decode cX4_run 44 = .ok (.iload_n 1, 1) := by decide +kernel
theorem dX4_run_45 : decode cX4_run 45 = .ok (.invokevirtual 126, 3) := by decide +kernel
theorem dX4_run_48 : decode cX4_run 48 = .ok (.iconst 1, 1) := by decide +kernel
theorem dX4_run_49 : decode cX4_run 49 = .ok (.istore_n 2, 1) := by decide +kernel
theorem dX4_run_50 : decode cX4_run 50 = .ok (.iload_n 2, 1) := by decide +kernel
theorem dX4_run_51 : decode cX4_run 51 = .ok (.iconst 3, 1) := by decide +kernel
theorem dX4_run_52 : decode cX4_run 52 = .ok (.if_icmp .eq 21, 3) := by decide +kernel
theorem dX4_run_55 : decode cX4_run 55 = .ok (.aload_n 0, 1) := by decide +kernel
theorem dX4_run_56 : decode cX4_run 56 = .ok (.getfield 54, 3) := by decide +kernel
theorem dX4_run_59 : decode cX4_run 59 = .ok (.iconst 4, 1) := by decide +kernel
theorem dX4_run_60 : decode cX4_run 60 = .ok (.iaload, 1) := by decide +kernel
theorem dX4_run_61 : decode cX4_run 61 = .ok (.ifCond .le 12, 3) := by decide +kernel
theorem dX4_run_64 : decode cX4_run 64 = .ok (.aload_n 0, 1) := by decide +kernel
theorem dX4_run_65 : decode cX4_run 65 = .ok (.iconst 4, 1) := by decide +kernel
theorem dX4_run_66 : decode cX4_run 66 = .ok (.invokevirtual 157, 3) := by decide +kernel
theorem dX4_run_69 : decode cX4_run 69 = .ok (.istore_n 2, 1) := by decide +kernel
theorem dX4_run_70 : decode cX4_run 70 = .ok (.goto (-20), 3) := by decide +kernel
theorem dX4_run_73 : decode cX4_run 73 = .ok (.aload_n 0, 1) := by decide +kernel
theorem dX4_run_74 : decode cX4_run 74 = .ok (.getfield 54, 3) := by decide +kernel
theorem dX4_run_77 : decode cX4_run 77 = .ok (.iconst 4, 1) := by decide +kernel
theorem dX4_run_78 : decode cX4_run 78 = .ok (.iconst 0, 1) := by decide +kernel
theorem dX4_run_79 : decode cX4_run 79 = .ok (.iastore, 1) := by decide +kernel
theorem dX4_run_80 : decode cX4_run 80 = .ok (.iload_n 2, 1) := by decide +kernel
theorem dX4_run_81 : decode cX4_run 81 = .ok (.iconst 3, 1) := by decide +kernel
theorem dX4_run_82 : decode cX4_run 82 = .ok (.if_icmp .ne 8, 3) := by decide +kernel
theorem dX4_run_85 : decode cX4_run 85 = .ok (.bipush (-2), 2) := by decide +kernel
theorem dX4_run_87 : decode cX4_run 87 = .ok (.goto 9, 3) := by decide +kernel
theorem dX4_run_90 : decode cX4_run 90 = .ok (.aload_n 0, 1) := by decide +kernel
theorem dX4_run_91 : decode cX4_run 91 = .ok (.getfield 19, 3) := by decide +kernel
theorem dX4_run_94 : decode cX4_run 94 = .ok (.iload_n 1, 1) := by decide +kernel
theorem dX4_run_95 : decode cX4_run 95 = .ok (.iaload, 1) := by decide +kernel
theorem dX4_run_96 : decode cX4_run 96 = .ok (.ireturn, 1) := by decide +kernel
theorem dX4_state_0 : decode cX4_state 0 = .ok (.aload_n 0, 1) := by decide +kernel
theorem dX4_state_1 : decode cX4_state 1 = .ok (.iconst 0, 1) := by decide +kernel
theorem dX4_state_2 : decode cX4_state 2 = .ok (.putfield 75, 3) := by decide +kernel
theorem dX4_state_5 : decode cX4_state 5 = .ok (.aload_n 0, 1) := by decide +kernel
theorem dX4_state_6 : decode cX4_state 6 = .ok (.iload_n 1, 1) := by decide +kernel
theorem dX4_state_7 : decode cX4_state 7 = .ok (.invokevirtual 82, 3) := by decide +kernel
theorem dX4_state_10 : decode cX4_state 10 = .ok (.ifCond .eq 20, 3) := by decide +kernel
theorem dX4_state_13 : decode cX4_state 13 = .ok (.aload_n 0, 1) := by decide +kernel
theorem dX4_state_14 : decode cX4_state 14 = .ok (.iload_n 1, 1) := by decide +kernel
theorem dX4_state_15 : decode cX4_state 15 = .ok (.invokevirtual 123, 3) := by decide +kernel
theorem dX4_state_18 : decode cX4_state 18 = .ok (.ifCond .eq 12, 3) := by decide +kernel
theorem dX4_state_21 : decode cX4_state 21 = .ok (.aload_n 0, 1) := by decide +kernel
theorem dX4_state_22 : decode cX4_state 22 = .ok (.getfield 19, 3) := by decide +kernel
theorem dX4_state_25 : decode cX4_state 25 = .ok (.iload_n 1, 1) := by decide +kernel
theorem dX4_state_26 : decode cX4_state 26 = .ok (.iaload, 1) := by decide +kernel
theorem dX4_state_27 : decode cX4_state 27 = .ok (.goto 4, 3) := by decide +kernel
theorem dX4_state_30 : decode cX4_state 30 = .ok (.iconst 0, 1) := by decide +kernel
theorem dX4_state_31 : decode cX4_state 31 = .ok (.ireturn, 1) := by decide +kernel
theorem dX4_value_0 : decode cX4_value 0 = .ok (.aload_n 0, 1) := by decide +kernel
theorem dX4_value_1 : decode cX4_value 1 = .ok (.aload_n 0, 1) := by decide +kernel
theorem dX4_value_2 : decode cX4_value 2 = .ok (.iload_n 1, 1) := by decide +kernel
theorem dX4_value_3 : decode cX4_value 3 = .ok (.invokevirtual 82, 3) := by decide +kernel
theorem dX4_value_6 : decode cX4_value 6 = .ok (.ifCond .ne 7, 3) := by decide +kernel
theorem dX4_value_9 : decode cX4_value 9 = .ok (.iconst 1, 1) := by decide +kernel
theorem dX4_value_10 : decode cX4_value 10 = .ok (.goto 26, 3) := by decide +kernel
theorem dX4_value_13 : decode cX4_value 13 = .ok (.aload_n 0, 1) := by decide +kernel
theorem dX4_value_14 : decode cX4_value 14 = .ok (.iload_n 1, 1) := by decide +kernel
theorem dX4_value_15 : decode cX4_value 15 = .ok (.invokevirtual 123, 3) := by decide +kernel
theorem dX4_value_18 : decode cX4_value 18 = .ok (.ifCond .eq 13, 3) := by decide +kernel
theorem dX4_value_21 : decode cX4_value 21 = .ok (.aload_n 0, 1) := by decide +kernel
theorem dX4_value_22 : decode cX4_value 22 = .ok (.getfield 19, 3) := by decide +kernel
theorem dX4_value_25 : decode cX4_value 25 = .ok (.iload_n 1, 1) := by decide +kernel
theorem dX4_value_26 : decode cX4_value 26 = .ok (.iaload, 1) := by decide +kernel
theorem dX4_value_27 : decode cX4_value 27 = .ok (.iconst 1, 1) := by decide +kernel
theorem dX4_value_28 : decode cX4_value 28 = .ok (.if_icmp .eq 7, 3) := by decide +kernel
theorem dX4_value_31 : decode cX4_value 31 = .ok (.iconst 2, 1) := by decide +kernel
theorem dX4_value_32 : decode cX4_value 32 = .ok (.goto 4, 3) := by decide +kernel
theorem dX4_value_35 : decode cX4_value 35 = .ok (.iconst 0, 1) := by decide +kernel
theorem dX4_value_36 : decode cX4_value 36 = .ok (.putfield 75, 3) := by decide +kernel
theorem dX4_value_39 : decode cX4_value 39 = .ok (.aload_n 0, 1) := by decide +kernel
theorem dX4_value_40 : decode cX4_value 40 = .ok (.getfield 75, 3) := by decide +kernel
theorem dX4_value_43 : decode cX4_value 43 = .ok (.ifCond .le 7, 3) := by decide +kernel
theorem dX4_value_46 : decode cX4_value 46 = .ok (.lconst 0, 1) := by decide +kernel
theorem dX4_value_47 : decode cX4_value 47 = .ok (.goto 9, 3) := by decide +kernel
theorem dX4_value_50 : decode cX4_value 50 = .ok (.aload_n 0, 1) := by decide +kernel
theorem dX4_value_51 : decode cX4_value 51 = .ok (.getfield 43, 3) := by decide +kernel
theorem dX4_value_54 : decode cX4_value 54 = .ok (.iload_n 1, 1) := by decide +kernel
theorem dX4_value_55 : decode cX4_value 55 = .ok (.laload, 1) := by decide +kernel
theorem dX4_value_56 : decode cX4_value 56 = .ok (.lreturn, 1) := by decide +kernel
theorem dX4_worked_0 : decode cX4_worked 0 = .ok (.aload_n 0, 1) := by decide +kernel
theorem dX4_worked_1 : decode cX4_worked 1 = .ok (.iconst 0, 1) := by decide +kernel
theorem dX4_worked_2 : decode cX4_worked 2 = .ok (.putfield 75, 3) := by decide +kernel
theorem dX4_worked_5 : decode cX4_worked 5 = .ok (.aload_n 0, 1) := by decide +kernel
theorem dX4_worked_6 : decode cX4_worked 6 = .ok (.iload_n 1, 1) := by decide +kernel
theorem dX4_worked_7 : decode cX4_worked 7 = .ok (.invokevirtual 82, 3) := by decide +kernel
theorem dX4_worked_10 : decode cX4_worked 10 = .ok (.ifCond .eq 12, 3) := by decide +kernel
theorem dX4_worked_13 : decode cX4_worked 13 = .ok (.aload_n 0, 1) := by decide +kernel
theorem dX4_worked_14 : decode cX4_worked 14 = .ok (.getfield 37, 3) := by decide +kernel
theorem dX4_worked_17 : decode cX4_worked 17 = .ok (.iload_n 1, 1) := by decide +kernel
theorem dX4_worked_18 : decode cX4_worked 18 = .ok (.iaload, 1) := by decide +kernel
theorem dX4_worked_19 : decode cX4_worked 19 = .ok (.goto 4, 3) := by decide +kernel
theorem dX4_worked_22 : decode cX4_worked 22 = .ok (.iconst 0, 1) := by decide +kernel
theorem dX4_worked_23 : decode cX4_worked 23 = .ok (.ireturn, 1) := by decide +kernel
theorem dX4_kept_0 : decode cX4_kept 0 = .ok (.aload_n 0, 1) := by decide +kernel
theorem dX4_kept_1 : decode cX4_kept 1 = .ok (.iconst 0, 1) := by decide +kernel
theorem dX4_kept_2 : decode cX4_kept 2 = .ok (.putfield 75, 3) := by decide +kernel
theorem dX4_kept_5 : decode cX4_kept 5 = .ok (.aload_n 0, 1) := by decide +kernel
theorem dX4_kept_6 : decode cX4_kept 6 = .ok (.iload_n 1, 1) := by decide +kernel
theorem dX4_kept_7 : decode cX4_kept 7 = .ok (.invokevirtual 82, 3) := by decide +kernel
theorem dX4_kept_10 : decode cX4_kept 10 = .ok (.ifCond .eq 12, 3) := by decide +kernel
theorem dX4_kept_13 : decode cX4_kept 13 = .ok (.aload_n 0, 1) := by decide +kernel
theorem dX4_kept_14 : decode cX4_kept 14 = .ok (.getfield 40, 3) := by decide +kernel
theorem dX4_kept_17 : decode cX4_kept 17 = .ok (.iload_n 1, 1) := by decide +kernel
theorem dX4_kept_18 : decode cX4_kept 18 = .ok (.iaload, 1) := by decide +kernel
theorem dX4_kept_19 : decode cX4_kept 19 = .ok (.goto 4, 3) := by decide +kernel
theorem dX4_kept_22 : decode cX4_kept 22 = .ok (.iconst 0, 1) := by decide +kernel
theorem dX4_kept_23 : decode cX4_kept 23 = .ok (.ireturn, 1) := by decide +kernel
theorem dX4_changed_0 : decode cX4_changed 0 = .ok (.aload_n 0, 1) := by decide +kernel
theorem dX4_changed_1 : decode cX4_changed 1 = .ok (.iconst 0, 1) := by decide +kernel
theorem dX4_changed_2 : decode cX4_changed 2 = .ok (.putfield 75, 3) := by decide +kernel
theorem dX4_changed_5 : decode cX4_changed 5 = .ok (.aload_n 0, 1) := by decide +kernel
theorem dX4_changed_6 : decode cX4_changed 6 = .ok (.iload_n 1, 1) := by decide +kernel
theorem dX4_changed_7 : decode cX4_changed 7 = .ok (.invokevirtual 82, 3) := by decide +kernel
theorem dX4_changed_10 : decode cX4_changed 10 = .ok (.ifCond .eq 31, 3) := by decide +kernel
theorem dX4_changed_13 : decode cX4_changed 13 = .ok (.aload_n 0, 1) := by decide +kernel
theorem dX4_changed_14 : decode cX4_changed 14 = .ok (.getfield 7, 3) := by decide +kernel
theorem dX4_changed_17 : decode cX4_changed 17 = .ok (.iload_n 1, 1) := by decide +kernel
theorem dX4_changed_18 : decode cX4_changed 18 = .ok (.iaload, 1) := by decide +kernel
theorem dX4_changed_19 : decode cX4_changed 19 = .ok (.iconst (-1), 1) := by decide +kernel
theorem dX4_changed_20 : decode cX4_changed 20 = .ok (.if_icmp .eq 12, 3) := by decide +kernel
theorem dX4_changed_23 : decode cX4_changed 23 = .ok (.aload_n 0, 1) := by decide +kernel
theorem dX4_changed_24 : decode cX4_changed 24 = .ok (.getfield 51, 3) := by decide +kernel
theorem dX4_changed_27 : decode cX4_changed 27 = .ok (.iload_n 1, 1) := by decide +kernel
theorem dX4_changed_28 : decode cX4_changed 28 = .ok (.baload, 1) := by decide +kernel
theorem dX4_changed_29 : decode cX4_changed 29 = .ok (.ifCond .eq 12, 3) := by decide +kernel
theorem dX4_changed_32 : decode cX4_changed 32 = .ok (.aload_n 0, 1) := by decide +kernel
theorem dX4_changed_33 : decode cX4_changed 33 = .ok (.getfield 25, 3) := by decide +kernel
theorem dX4_changed_36 : decode cX4_changed 36 = .ok (.iload_n 1, 1) := by decide +kernel
theorem dX4_changed_37 : decode cX4_changed 37 = .ok (.iaload, 1) := by decide +kernel
theorem dX4_changed_38 : decode cX4_changed 38 = .ok (.goto 4, 3) := by decide +kernel
theorem dX4_changed_41 : decode cX4_changed 41 = .ok (.iconst (-1), 1) := by decide +kernel
theorem dX4_changed_42 : decode cX4_changed 42 = .ok (.ireturn, 1) := by decide +kernel
theorem dX4_asked_0 : decode cX4_asked 0 = .ok (.aload_n 0, 1) := by decide +kernel
theorem dX4_asked_1 : decode cX4_asked 1 = .ok (.iconst 0, 1) := by decide +kernel
theorem dX4_asked_2 : decode cX4_asked 2 = .ok (.putfield 75, 3) := by decide +kernel
theorem dX4_asked_5 : decode cX4_asked 5 = .ok (.aload_n 0, 1) := by decide +kernel
theorem dX4_asked_6 : decode cX4_asked 6 = .ok (.iload_n 1, 1) := by decide +kernel
theorem dX4_asked_7 : decode cX4_asked 7 = .ok (.invokevirtual 82, 3) := by decide +kernel
theorem dX4_asked_10 : decode cX4_asked 10 = .ok (.ifCond .eq 40, 3) := by decide +kernel
theorem dX4_asked_13 : decode cX4_asked 13 = .ok (.aload_n 0, 1) := by decide +kernel
theorem dX4_asked_14 : decode cX4_asked 14 = .ok (.getfield 51, 3) := by decide +kernel
theorem dX4_asked_17 : decode cX4_asked 17 = .ok (.iload_n 1, 1) := by decide +kernel
theorem dX4_asked_18 : decode cX4_asked 18 = .ok (.baload, 1) := by decide +kernel
theorem dX4_asked_19 : decode cX4_asked 19 = .ok (.ifCond .eq 31, 3) := by decide +kernel
theorem dX4_asked_22 : decode cX4_asked 22 = .ok (.iload_n 2, 1) := by decide +kernel
theorem dX4_asked_23 : decode cX4_asked 23 = .ok (.ifCond .lt 27, 3) := by decide +kernel
theorem dX4_asked_26 : decode cX4_asked 26 = .ok (.iload_n 2, 1) := by decide +kernel
theorem dX4_asked_27 : decode cX4_asked 27 = .ok (.aload_n 0, 1) := by decide +kernel
theorem dX4_asked_28 : decode cX4_asked 28 = .ok (.getfield 31, 3) := by decide +kernel
theorem dX4_asked_31 : decode cX4_asked 31 = .ok (.iload_n 1, 1) := by decide +kernel
theorem dX4_asked_32 : decode cX4_asked 32 = .ok (.iaload, 1) := by decide +kernel
theorem dX4_asked_33 : decode cX4_asked 33 = .ok (.if_icmp .ge 17, 3) := by decide +kernel
theorem dX4_asked_36 : decode cX4_asked 36 = .ok (.aload_n 0, 1) := by decide +kernel
theorem dX4_asked_37 : decode cX4_asked 37 = .ok (.getfield 34, 3) := by decide +kernel
theorem dX4_asked_40 : decode cX4_asked 40 = .ok (.bipush 8, 2) := by decide +kernel
theorem dX4_asked_42 : decode cX4_asked 42 = .ok (.iload_n 1, 1) := by decide +kernel
theorem dX4_asked_43 : decode cX4_asked 43 = .ok (.imul, 1) := by decide +kernel
theorem dX4_asked_44 : decode cX4_asked 44 = .ok (.iload_n 2, 1) := by decide +kernel
theorem dX4_asked_45 : decode cX4_asked 45 = .ok (.iadd, 1) := by decide +kernel
theorem dX4_asked_46 : decode cX4_asked 46 = .ok (.iaload, 1) := by decide +kernel
theorem dX4_asked_47 : decode cX4_asked 47 = .ok (.goto 4, 3) := by decide +kernel
theorem dX4_asked_50 : decode cX4_asked 50 = .ok (.iconst (-1), 1) := by decide +kernel
theorem dX4_asked_51 : decode cX4_asked 51 = .ok (.ireturn, 1) := by decide +kernel
theorem dX4_drop_0 : decode cX4_drop 0 = .ok (.aload_n 0, 1) := by decide +kernel
theorem dX4_drop_1 : decode cX4_drop 1 = .ok (.iconst 0, 1) := by decide +kernel
theorem dX4_drop_2 : decode cX4_drop 2 = .ok (.putfield 75, 3) := by decide +kernel
theorem dX4_drop_5 : decode cX4_drop 5 = .ok (.aload_n 0, 1) := by decide +kernel
theorem dX4_drop_6 : decode cX4_drop 6 = .ok (.iload_n 1, 1) := by decide +kernel
theorem dX4_drop_7 : decode cX4_drop 7 = .ok (.invokevirtual 82, 3) := by decide +kernel
theorem dX4_drop_10 : decode cX4_drop 10 = .ok (.ifCond .eq 12, 3) := by decide +kernel
theorem dX4_drop_13 : decode cX4_drop 13 = .ok (.aload_n 0, 1) := by decide +kernel
theorem dX4_drop_14 : decode cX4_drop 14 = .ok (.getfield 51, 3) := by decide +kernel
theorem dX4_drop_17 : decode cX4_drop 17 = .ok (.iload_n 1, 1) := by decide +kernel
theorem dX4_drop_18 : decode cX4_drop 18 = .ok (.baload, 1) := by decide +kernel
theorem dX4_drop_19 : decode cX4_drop 19 = .ok (.ifCond .ne 5, 3) := by decide +kernel
theorem dX4_drop_22 : decode cX4_drop 22 = .ok (.iconst 0, 1) := by decide +kernel
theorem dX4_drop_23 : decode cX4_drop 23 = .ok (.ireturn, 1) := by decide +kernel
theorem dX4_drop_24 : decode cX4_drop 24 = .ok (.aload_n 0, 1) := by decide +kernel
theorem dX4_drop_25 : decode cX4_drop 25 = .ok (.getfield 51, 3) := by decide +kernel
theorem dX4_drop_28 : decode cX4_drop 28 = .ok (.iload_n 1, 1) := by decide +kernel
theorem dX4_drop_29 : decode cX4_drop 29 = .ok (.iconst 0, 1) := by decide +kernel
theorem dX4_drop_30 : decode cX4_drop 30 = .ok (.bastore, 1) := by decide +kernel
theorem dX4_drop_31 : decode cX4_drop 31 = .ok (.aload_n 0, 1) := by decide +kernel
theorem dX4_drop_32 : decode cX4_drop 32 = .ok (.invokevirtual 93, 3) := by decide +kernel
theorem dX4_drop_35 : decode cX4_drop 35 = .ok (.pop, 1) := by decide +kernel
theorem dX4_drop_36 : decode cX4_drop 36 = .ok (.iconst 1, 1) := by decide +kernel
theorem dX4_drop_37 : decode cX4_drop 37 = .ok (.ireturn, 1) := by decide +kernel
theorem dX4_version_0 : decode cX4_version 0 = .ok (.aload_n 0, 1) := by decide +kernel
theorem dX4_version_1 : decode cX4_version 1 = .ok (.iconst 0, 1) := by decide +kernel
theorem dX4_version_2 : decode cX4_version 2 = .ok (.putfield 75, 3) := by decide +kernel
theorem dX4_version_5 : decode cX4_version 5 = .ok (.aload_n 0, 1) := by decide +kernel
theorem dX4_version_6 : decode cX4_version 6 = .ok (.getfield 86, 3) := by decide +kernel
theorem dX4_version_9 : decode cX4_version 9 = .ok (.ireturn, 1) := by decide +kernel
