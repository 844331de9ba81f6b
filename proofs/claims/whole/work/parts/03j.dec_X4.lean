theorem dX4_firstBack_9 : decode cX4_firstBack 9 = .ok (.invokevirtual 97, 3) := by decide +kernel
theorem dX4_firstBack_12 : decode cX4_firstBack 12 = .ok (.baload, 1) := by decide +kernel
theorem dX4_firstBack_13 : decode cX4_firstBack 13 = .ok (.ifCond .ne 9, 3) := by decide +kernel
theorem dX4_firstBack_16 : decode cX4_firstBack 16 = .ok (.iinc 2 1, 3) := by decide +kernel
theorem dX4_firstBack_19 : decode cX4_firstBack 19 = .ok (.goto (-17), 3) := by decide +kernel
theorem dX4_firstBack_22 : decode cX4_firstBack 22 = .ok (.aload_n 0, 1) := by decide +kernel
theorem dX4_firstBack_23 : decode cX4_firstBack 23 = .ok (.iload_n 1, 1) := by decide +kernel
theorem dX4_firstBack_24 : decode cX4_firstBack 24 = .ok (.iload_n 2, 1) := by decide +kernel
theorem dX4_firstBack_25 : decode cX4_firstBack 25 = .ok (.invokevirtual 97, 3) := by decide +kernel
theorem dX4_firstBack_28 : decode cX4_firstBack 28 = .ok (.ireturn, 1) := by decide +kernel
theorem dX4_ring_0 : decode cX4_ring 0 = .ok (.aload_n 0, 1) := by decide +kernel
theorem dX4_ring_1 : decode cX4_ring 1 = .ok (.iconst 0, 1) := by decide +kernel
theorem dX4_ring_2 : decode cX4_ring 2 = .ok (.putfield 75, 3) := by decide +kernel
theorem dX4_ring_5 : decode cX4_ring 5 = .ok (.iload_n 1, 1) := by decide +kernel
theorem dX4_ring_6 : decode cX4_ring 6 = .ok (.ifCond .lt 11, 3) := by decide +kernel
theorem dX4_ring_9 : decode cX4_ring 9 = .ok (.iload_n 1, 1) := by decide +kernel
theorem dX4_ring_10 : decode cX4_ring 10 = .ok (.aload_n 0, 1) := by decide +kernel
theorem dX4_ring_11 : decode cX4_ring 11 = .ok (.getfield 108, 3) := by decide +kernel
theorem dX4_ring_14 : decode cX4_ring 14 = .ok (.if_icmp .lt 7, 3) := by decide +kernel
theorem dX4_ring_17 : decode cX4_ring 17 = .ok (.iconst (-1), 1) := by decide +kernel
theorem dX4_ring_18 : decode cX4_ring 18 = .ok (.goto 9, 3) := by decide +kernel
theorem dX4_ring_21 : decode cX4_ring 21 = .ok (.aload_n 0, 1) := by decide +kernel
theorem dX4_ring_22 : decode cX4_ring 22 = .ok (.getfield 69, 3) := by decide +kernel
theorem dX4_ring_25 : decode cX4_ring 25 = .ok (.iload_n 1, 1) := by decide +kernel
theorem dX4_ring_26 : decode cX4_ring 26 = .ok (.iaload, 1) := by decide +kernel
theorem dX4_ring_27 : decode cX4_ring 27 = .ok (.ireturn, 1) := by decide +kernel
theorem dX4_change_0 : decode cX4_change 0 = .ok (.aload_n 0, 1) := by decide +kernel
theorem dX4_change_1 : decode cX4_change 1 = .ok (.iconst 0, 1) := by decide +kernel
theorem dX4_change_2 : decode cX4_change 2 = .ok (.putfield 75, 3) := by decide +kernel
theorem dX4_change_5 : decode cX4_change 5 = .ok (.aload_n 0, 1) := by decide +kernel
theorem dX4_change_6 : decode cX4_change 6 = .ok (.iload_n 1, 1) := by decide +kernel
theorem dX4_change_7 : decode cX4_change 7 = .ok (.invokevirtual 101, 3) := by decide +kernel
theorem dX4_change_10 : decode cX4_change 10 = .ok (.ifCond .ne 5, 3) := by decide +kernel
theorem dX4_change_13 : decode cX4_change 13 = .ok (.iconst (-1), 1) := by decide +kernel
theorem dX4_change_14 : decode cX4_change 14 = .ok (.ireturn, 1) := by decide +kernel
theorem dX4_change_15 : decode cX4_change 15 = .ok (.aload_n 0, 1) := by decide +kernel
theorem dX4_change_16 : decode cX4_change 16 = .ok (.getfield 43, 3) := by decide +kernel
theorem dX4_change_19 : decode cX4_change 19 = .ok (.iload_n 1, 1) := by decide +kernel
theorem dX4_change_20 : decode cX4_change 20 = .ok (.laload, 1) := by decide +kernel
theorem dX4_change_21 : decode cX4_change 21 = .ok (.lload_n 2, 1) := by decide +kernel
theorem dX4_change_22 : decode cX4_change 22 = .ok (.lcmp, 1) := by decide +kernel
theorem dX4_change_23 : decode cX4_change 23 = .ok (.ifCond .eq 20, 3) := by decide +kernel
theorem dX4_change_26 : decode cX4_change 26 = .ok (.aload_n 0, 1) := by decide +kernel
theorem dX4_change_27 : decode cX4_change 27 = .ok (.getfield 43, 3) := by decide +kernel
theorem dX4_change_30 : decode cX4_change 30 = .ok (.iload_n 1, 1) := by decide +kernel
theorem dX4_change_31 : decode cX4_change 31 = .ok (.lload_n 2, 1) := by decide +kernel
theorem dX4_change_32 : decode cX4_change 32 = .ok (.lastore, 1) := by decide +kernel
theorem dX4_change_33 : decode cX4_change 33 = .ok (.aload_n 0, 1) := by decide +kernel
theorem dX4_change_34 : decode cX4_change 34 = .ok (.getfield 25, 3) := by decide +kernel
theorem dX4_change_37 : decode cX4_change 37 = .ok (.iload_n 1, 1) := by decide +kernel
theorem dX4_change_38 : decode cX4_change 38 = .ok (.aload_n 0, 1) := by decide +kernel
theorem dX4_change_39 : decode cX4_change 39 = .ok (.invokevirtual 114, 3) := by decide +kernel
theorem dX4_change_42 : decode cX4_change 42 = .ok (.iastore, 1) := by decide +kernel
theorem dX4_change_43 : decode cX4_change 43 = .ok (.aload_n 0, 1) := by decide +kernel
theorem dX4_change_44 : decode cX4_change 44 = .ok (.getfield 86, 3) := by decide +kernel
theorem dX4_change_47 : decode cX4_change 47 = .ok (.ireturn, 1) := by decide +kernel
theorem dX4_spoil_0 : decode cX4_spoil 0 = .ok (.aload_n 0, 1) := by decide +kernel
theorem dX4_spoil_1 : decode cX4_spoil 1 = .ok (.iconst 0, 1) := by decide +kernel
theorem dX4_spoil_2 : decode cX4_spoil 2 = .ok (.putfield 75, 3) := by decide +kernel
theorem dX4_spoil_5 : decode cX4_spoil 5 = .ok (.aload_n 0, 1) := by decide +kernel
theorem dX4_spoil_6 : decode cX4_spoil 6 = .ok (.iload_n 1, 1) := by decide +kernel
theorem dX4_spoil_7 : decode cX4_spoil 7 = .ok (.invokevirtual 82, 3) := by decide +kernel
theorem dX4_spoil_10 : decode cX4_spoil 10 = .ok (.ifCond .eq 11, 3) := by decide +kernel
theorem dX4_spoil_13 : decode cX4_spoil 13 = .ok (.aload_n 0, 1) := by decide +kernel
theorem dX4_spoil_14 : decode cX4_spoil 14 = .ok (.iload_n 1, 1) := by decide +kernel
theorem dX4_spoil_15 : decode cX4_spoil 15 = .ok (.invokevirtual 101, 3) := by decide +kernel
theorem dX4_spoil_18 : decode cX4_spoil 18 = .ok (.ifCond .eq 5, 3) := by decide +kernel
theorem dX4_spoil_21 : decode cX4_spoil 21 = .ok (.iconst (-1), 1) := by decide +kernel
theorem dX4_spoil_22 : decode cX4_spoil 22 = .ok (.ireturn, 1) := by decide +kernel
theorem dX4_spoil_23 : decode cX4_spoil 23 = .ok (.aload_n 0, 1) := by decide +kernel
theorem dX4_spoil_24 : decode cX4_spoil 24 = .ok (.getfield 47, 3) := by decide +kernel
theorem dX4_spoil_27 : decode cX4_spoil 27 = .ok (.iload_n 1, 1) := by decide +kernel
theorem dX4_spoil_28 : decode cX4_spoil 28 = .ok (.baload, 1) := by decide +kernel
theorem dX4_spoil_29 : decode cX4_spoil 29 = .ok (.iload_n 2, 1) := by decide +kernel
theorem dX4_spoil_30 : decode cX4_spoil 30 = .ok (.if_icmp .eq 20, 3) := by decide +kernel
theorem dX4_spoil_33 : decode cX4_spoil 33 = .ok (.aload_n 0, 1) := by decide +kernel
theorem dX4_spoil_34 : decode cX4_spoil 34 = .ok (.getfield 47, 3) := by decide +kernel
theorem dX4_spoil_37 : decode cX4_spoil 37 = .ok (.iload_n 1, 1) := by decide +kernel
theorem dX4_spoil_38 : decode cX4_spoil 38 = .ok (.iload_n 2, 1) := by decide +kernel
theorem dX4_spoil_39 : decode cX4_spoil 39 = .ok (.bastore, 1) := by decide +kernel
theorem dX4_spoil_40 : decode cX4_spoil 40 = .ok (.aload_n 0, 1) := by decide +kernel
theorem dX4_spoil_41 : decode cX4_spoil 41 = .ok (.getfield 28, 3) := by decide +kernel
theorem dX4_spoil_44 : decode cX4_spoil 44 = .ok (.iload_n 1, 1) := by decide +kernel
theorem dX4_spoil_45 : decode cX4_spoil 45 = .ok (.aload_n 0, 1) := by decide +kernel
theorem dX4_spoil_46 : decode cX4_spoil 46 = .ok (.invokevirtual 114, 3) := by decide +kernel
theorem dX4_spoil_49 : decode cX4_spoil 49 = .ok (.iastore, 1) := by decide +kernel
theorem dX4_spoil_50 : decode cX4_spoil 50 = .ok (.aload_n 0, 1) := by decide +kernel
theorem dX4_spoil_51 : decode cX4_spoil 51 = .ok (.getfield 86, 3) := by decide +kernel
theorem dX4_spoil_54 : decode cX4_spoil 54 = .ok (.ireturn, 1) := by decide +kernel
theorem dX4_isSure_0 : decode cX4_isSure 0 = .ok (.aload_n 0, 1) := by decide +kernel
theorem dX4_isSure_1 : decode cX4_isSure 1 = .ok (.getfield 7, 3) := by decide +kernel
theorem dX4_isSure_4 : decode cX4_isSure 4 = .ok (.iload_n 1, 1) := by decide +kernel
theorem dX4_isSure_5 : decode cX4_isSure 5 = .ok (.iaload, 1) := by decide +kernel
theorem dX4_isSure_6 : decode cX4_isSure 6 = .ok (.iconst (-1), 1) := by decide +kernel
theorem dX4_isSure_7 : decode cX4_isSure 7 = .ok (.if_icmp .eq 25, 3) := by decide +kernel
theorem dX4_isSure_10 : decode cX4_isSure 10 = .ok (.aload_n 0, 1) := by decide +kernel
theorem dX4_isSure_11 : decode cX4_isSure 11 = .ok (.getfield 51, 3) := by decide +kernel
theorem dX4_isSure_14 : decode cX4_isSure 14 = .ok (.iload_n 1, 1) := by decide +kernel
theorem dX4_isSure_15 : decode cX4_isSure 15 = .ok (.baload, 1) := by decide +kernel
theorem dX4_isSure_16 : decode cX4_isSure 16 = .ok (.ifCond .eq 20, 3) := by decide +kernel
theorem dX4_isSure_19 : decode cX4_isSure 19 = .ok (.aload_n 0, 1) := by decide +kernel
theorem dX4_isSure_20 : decode cX4_isSure 20 = .ok (.getfield 22, 3) := by decide +kernel
theorem dX4_isSure_23 : decode cX4_isSure 23 = .ok (.iload_n 1, 1) := by decide +kernel
theorem dX4_isSure_24 : decode cX4_isSure 24 = .ok (.iaload, 1) := by decide +kernel
theorem dX4_isSure_25 : decode cX4_isSure 25 = .ok (.aload_n 0, 1) := by decide +kernel
theorem dX4_isSure_26 : decode cX4_isSure 26 = .ok (.getfield 86, 3) := by decide +kernel
theorem dX4_isSure_29 : decode cX4_isSure 29 = .ok (.if_icmp .ne 7, 3) := by decide +kernel
theorem dX4_isSure_32 : decode cX4_isSure 32 = .ok (.iconst 1, 1) := by decide +kernel
theorem dX4_isSure_33 : decode cX4_isSure 33 = .ok (.goto 4, 3) := by decide +kernel
theorem dX4_isSure_36 : decode cX4_isSure 36 = .ok (.iconst 0, 1) := by decide +kernel
theorem dX4_isSure_37 : decode cX4_isSure 37 = .ok (.ireturn, 1) := by decide +kernel
theorem dX4_pileOf_0 : decode cX4_pileOf 0 = .ok (.iconst (-1), 1) := by decide +kernel
theorem dX4_pileOf_1 : decode cX4_pileOf 1 = .ok (.istore_n 2, 1) := by decide +kernel
theorem dX4_pileOf_2 : decode cX4_pileOf 2 = .ok (.iconst 0, 1) := by decide +kernel
theorem dX4_pileOf_3 : decode cX4_pileOf 3 = .ok (.istore_n 3, 1) := by decide +kernel
theorem dX4_pileOf_4 : decode cX4_pileOf 4 = .ok (.iload_n 3, 1) := by decide +kernel
theorem dX4_pileOf_5 : decode cX4_pileOf 5 = .ok (.iconst 5, 1) := by decide +kernel
theorem dX4_pileOf_6 : decode cX4_pileOf 6 = .ok (.if_icmp .ge 51, 3) := by decide +kernel
theorem dX4_pileOf_9 : decode cX4_pileOf 9 = .ok (.iconst 0, 1) := by decide +kernel
theorem dX4_pileOf_10 : decode cX4_pileOf 10 = .ok (.istore 4, 2) := by decide +kernel
theorem dX4_pileOf_12 : decode cX4_pileOf 12 = .ok (.iload 4, 2) := by decide +kernel
theorem dX4_pileOf_14 : decode cX4_pileOf 14 = .ok (.aload_n 0, 1) := by decide +kernel
theorem dX4_pileOf_15 : decode cX4_pileOf 15 = .ok (.getfield 54, 3) := by decide +kernel
theorem dX4_pileOf_18 : decode cX4_pileOf 18 = .ok (.iload_n 3, 1) := by decide +kernel
theorem dX4_pileOf_19 : decode cX4_pileOf 19 = .ok (.iaload, 1) := by decide +kernel
theorem dX4_pileOf_20 : decode cX4_pileOf 20 = .ok (.if_icmp .ge 31, 3) := by decide +kernel
theorem dX4_pileOf_23 : decode cX4_pileOf 23 = .ok (.aload_n 0, 1) := by decide +kernel
theorem dX4_pileOf_24 : decode cX4_pileOf 24 = .ok (.getfield 57, 3) := by decide +kernel
theorem dX4_pileOf_27 : decode cX4_pileOf 27 = .ok (.bipush 40, 2) := by decide +kernel
theorem dX4_pileOf_29 : decode cX4_pileOf 29 = .ok (.iload_n 3, 1) := by decide +kernel
theorem dX4_pileOf_30 : decode cX4_pileOf 30 = .ok (.imul, 1) := by decide +kernel
theorem dX4_pileOf_31 : decode cX4_pileOf 31 = .ok (.iload 4, 2) := by decide +kernel
theorem dX4_pileOf_33 : decode cX4_pileOf 33 = .ok (.iadd, 1) := by decide +kernel
theorem dX4_pileOf_34 : decode cX4_pileOf 34 = .ok (.iaload, 1) := by decide +kernel
theorem dX4_pileOf_35 : decode cX4_pileOf 35 = .ok (.iload_n 1, 1) := by decide +kernel
theorem dX4_pileOf_36 : decode cX4_pileOf 36 = .ok (.if_icmp .ne 7, 3) := by decide +kernel
theorem dX4_pileOf_39 : decode cX4_pileOf 39 = .ok (.iload_n 3, 1) := by decide +kernel
theorem dX4_pileOf_40 : decode cX4_pileOf 40 = .ok (.goto 4, 3) := by decide +kernel
theorem dX4_pileOf_43 : decode cX4_pileOf 43 = .ok (.iload_n 2, 1) := by decide +kernel
theorem dX4_pileOf_44 : decode cX4_pileOf 44 = .ok (.istore_n 2, 1) := by decide +kernel
theorem dX4_pileOf_45 : decode cX4_pileOf 45 = .ok (.iinc 4 1, 3) := by decide +kernel
theorem dX4_pileOf_48 : decode cX4_pileOf 48 = .ok (.goto (-36), 3) := by decide +kernel
theorem dX4_pileOf_51 : decode cX4_pileOf 51 = .ok (.iinc 3 1, 3) := by decide +kernel
theorem dX4_pileOf_54 : decode cX4_pileOf 54 = .ok (.goto (-50), 3) := by decide +kernel
theorem dX4_pileOf_57 : decode cX4_pileOf 57 = .ok (.iload_n 2, 1) := by decide +kernel
theorem dX4_pileOf_58 : decode cX4_pileOf 58 = .ok (.ireturn, 1) := by decide +kernel
theorem dX4_lay_0 : decode cX4_lay 0 = .ok (.bipush 40, 2) := by decide +kernel
theorem dX4_lay_2 : decode cX4_lay 2 = .ok (.iload_n 1, 1) := by decide +kernel
theorem dX4_lay_3 : decode cX4_lay 3 = .ok (.imul, 1) := by decide +kernel
theorem dX4_lay_4 : decode cX4_lay 4 = .ok (.aload_n 0, 1) := by decide +kernel
theorem dX4_lay_5 : decode cX4_lay 5 = .ok (.getfield 54, 3) := by decide +kernel
theorem dX4_lay_8 : decode cX4_lay 8 = .ok (.iload_n 1, 1) := by decide +kernel
theorem dX4_lay_9 : decode cX4_lay 9 = .ok (.iaload, 1) := by decide +kernel
theorem dX4_lay_10 : decode cX4_lay 10 = .ok (.iadd, 1) := by decide +kernel
theorem dX4_lay_11 : decode cX4_lay 11 = .ok (.istore_n 3, 1) := by decide +kernel
theorem dX4_lay_12 : decode cX4_lay 12 = .ok (.aload_n 0, 1) := by decide +kernel
theorem dX4_lay_13 : decode cX4_lay 13 = .ok (.getfield 57, 3) := by decide +kernel
theorem dX4_lay_16 : decode cX4_lay 16 = .ok (.iload_n 3, 1) := by decide +kernel
theorem dX4_lay_17 : decode cX4_lay 17 = .ok (.iload_n 2, 1) := by decide +kernel
theorem dX4_lay_18 : decode cX4_lay 18 = .ok (.iastore, 1) := by decide +kernel
theorem dX4_lay_19 : decode cX4_lay 19 = .ok (.aload_n 0, 1) := by decide +kernel
theorem dX4_lay_20 : decode cX4_lay 20 = .ok (.getfield 66, 3) := by decide +kernel
theorem dX4_lay_23 : decode cX4_lay 23 = .ok (.iload_n 3, 1) := by decide +kernel
theorem dX4_lay_24 : decode cX4_lay 24 = .ok (.aload_n 0, 1) := by decide +kernel
theorem dX4_lay_25 : decode cX4_lay 25 = .ok (.getfield 51, 3) := by decide +kernel
theorem dX4_lay_28 : decode cX4_lay 28 = .ok (.iload_n 2, 1) := by decide +kernel
theorem dX4_lay_29 : decode cX4_lay 29 = .ok (.baload, 1) := by decide +kernel
theorem dX4_lay_30 : decode cX4_lay 30 = .ok (.ifCond .eq 18, 3) := by decide +kernel
theorem dX4_lay_33 : decode cX4_lay 33 = .ok (.aload_n 0, 1) := by decide +kernel
theorem dX4_lay_34 : decode cX4_lay 34 = .ok (.getfield 28, 3) := by decide +kernel
theorem dX4_lay_37 : decode cX4_lay 37 = .ok (.iload_n 2, 1) := by decide +kernel
theorem dX4_lay_38 : decode cX4_lay 38 = .ok (.iaload, 1) := by decide +kernel
theorem dX4_lay_39 : decode cX4_lay 39 = .ok (.aload_n 0, 1) := by decide +kernel
theorem dX4_lay_40 : decode cX4_lay 40 = .ok (.getfield 22, 3) := by decide +kernel
theorem dX4_lay_43 : decode cX4_lay 43 = .ok (.iload_n 2, 1) := by decide +kernel
theorem dX4_lay_44 : decode cX4_lay 44 = .ok (.iaload, 1) := by decide +kernel
theorem dX4_lay_45 : decode cX4_lay 45 = .ok (.if_icmp .le 7, 3) := by decide +kernel
theorem dX4_lay_48 : decode cX4_lay 48 = .ok (.iconst 1, 1) := by decide +kernel
theorem dX4_lay_49 : decode cX4_lay 49 = .ok (.goto 4, 3) := by decide +kernel
theorem dX4_lay_52 : decode cX4_lay 52 = .ok (.iconst 0, 1) := by decide +kernel
theorem dX4_lay_53 : decode cX4_lay 53 = .ok (.bastore, 1) := by decide +kernel
theorem dX4_lay_54 : decode cX4_lay 54 = .ok (.aload_n 0, 1) := by decide +kernel
theorem dX4_lay_55 : decode cX4_lay 55 = .ok (.getfield 60, 3) := by decide +kernel
theorem dX4_lay_58 : decode cX4_lay 58 = .ok (.iload_n 3, 1) := by decide +kernel
theorem dX4_lay_59 : decode cX4_lay 59 = .ok (.iconst 0, 1) := by decide +kernel
theorem dX4_lay_60 : decode cX4_lay 60 = .ok (.iastore, 1) := by decide +kernel
theorem dX4_lay_61 : decode cX4_lay 61 = .ok (.aload_n 0, 1) := by decide +kernel
theorem dX4_lay_62 : decode cX4_lay 62 = .ok (.getfield 54, 3) := by decide +kernel
theorem dX4_lay_65 : decode cX4_lay 65 = .ok (.iload_n 1, 1) := by decide +kernel
theorem dX4_lay_66 : decode cX4_lay 66 = .ok (.dup2, 1) := by decide +kernel
theorem dX4_lay_67 : decode cX4_lay 67 = .ok (.iaload, 1) := by decide +kernel
theorem dX4_lay_68 : decode cX4_lay 68 = .ok (.iconst 1, 1) := by decide +kernel
theorem dX4_lay_69 : decode cX4_lay 69 = .ok (.iadd, 1) := by decide +kernel
theorem dX4_lay_70 : decode cX4_lay 70 = .ok (.iastore, 1) := by decide +kernel
theorem dX4_lay_71 : decode cX4_lay 71 = .ok (.return_, 1) := by decide +kernel
theorem dX4_isWorker_0 : decode cX4_isWorker 0 = .ok (.iload_n 0, 1) := by decide +kernel
theorem dX4_isWorker_1 : decode cX4_isWorker 1 = .ok (.ifCond .lt 12, 3) := by decide +kernel
theorem dX4_isWorker_4 : decode cX4_isWorker 4 = .ok (.iload_n 0, 1) := by decide +kernel
theorem dX4_isWorker_5 : decode cX4_isWorker 5 = .ok (.iconst 4, 1) := by decide +kernel
theorem dX4_isWorker_6 : decode cX4_isWorker 6 = .ok (.if_icmp .ge 7, 3) := by decide +kernel
theorem dX4_isWorker_9 : decode cX4_isWorker 9 = .ok (.iconst 1, 1) := by decide +kernel
theorem dX4_isWorker_10 : decode cX4_isWorker 10 = .ok (.goto 4, 3) := by decide +kernel
theorem dX4_isWorker_13 : decode cX4_isWorker 13 = .ok (.iconst 0, 1) := by decide +kernel
theorem dX4_isWorker_14 : decode cX4_isWorker 14 = .ok (.ireturn, 1) := by decide +kernel
theorem dX4_begin_0 : decode cX4_begin 0 = .ok (.aload_n 0, 1) := by decide +kernel
theorem dX4_begin_1 : decode cX4_begin 1 = .ok (.iconst 0, 1) := by decide +kernel
theorem dX4_begin_2 : decode cX4_begin 2 = .ok (.putfield 75, 3) := by decide +kernel
theorem dX4_begin_5 : decode cX4_begin 5 = .ok (.iload_n 1, 1) := by decide +kernel
theorem dX4_begin_6 : decode cX4_begin 6 = .ok (.invokestatic 117, 3) := by decide +kernel
theorem dX4_begin_9 : decode cX4_begin 9 = .ok (.ifCond .eq 20, 3) := by decide +kernel
theorem dX4_begin_12 : decode cX4_begin 12 = .ok (.aload_n 0, 1) := by decide +kernel
theorem dX4_begin_13 : decode cX4_begin 13 = .ok (.iload_n 2, 1) := by decide +kernel
theorem dX4_begin_14 : decode cX4_begin 14 = .ok (.invokevirtual 82, 3) := by decide +kernel
theorem dX4_begin_17 : decode cX4_begin 17 = .ok (.ifCond .eq 12, 3) := by decide +kernel
theorem dX4_begin_20 : decode cX4_begin 20 = .ok (.aload_n 0, 1) := by decide +kernel
theorem dX4_begin_21 : decode cX4_begin 21 = .ok (.getfield 54, 3) := by decide +kernel
theorem dX4_begin_24 : decode cX4_begin 24 = .ok (.iload_n 1, 1) := by decide +kernel
theorem dX4_begin_25 : decode cX4_begin 25 = .ok (.iaload, 1) := by decide +kernel
theorem dX4_begin_26 : decode cX4_begin 26 = .ok (.ifCond .le 5, 3) := by decide +kernel
theorem dX4_begin_29 : decode cX4_begin 29 = .ok (.iconst (-1), 1) := by decide +kernel
theorem dX4_begin_30 : decode cX4_begin 30 = .ok (.ireturn, 1) := by decide +kernel
theorem dX4_begin_31 : decode cX4_begin 31 = .ok (.aload_n 0, 1) := by decide +kernel
theorem dX4_begin_32 : decode cX4_begin 32 = .ok (.iload_n 2, 1) := by decide +kernel
theorem dX4_begin_33 : decode cX4_begin 33 = .ok (.invokevirtual 120, 3) := by decide +kernel
theorem dX4_begin_36 : decode cX4_begin 36 = .ok (.iconst (-1), 1) := by decide +kernel
theorem dX4_begin_37 : decode cX4_begin 37 = .ok (.if_icmp .eq 6, 3) := by decide +kernel
theorem dX4_begin_40 : decode cX4_begin 40 = .ok (.bipush (-2), 2) := by decide +kernel
theorem dX4_begin_42 : decode cX4_begin 42 = .ok (.ireturn, 1) := by decide +kernel
theorem dX4_begin_43 : decode cX4_begin 43 = .ok (.aload_n 0, 1) := by decide +kernel
theorem dX4_begin_44 : decode cX4_begin 44 = .ok (.iload_n 2, 1) := by decide +kernel
theorem dX4_begin_45 : decode cX4_begin 45 = .ok (.invokevirtual 123, 3) := by decide +kernel
theorem dX4_begin_48 : decode cX4_begin 48 = .ok (.ifCond .eq 5, 3) := by decide +kernel
theorem dX4_begin_51 : decode cX4_begin 51 = .ok (.iconst 0, 1) := by decide +kernel
theorem dX4_begin_52 : decode cX4_begin 52 = .ok (.ireturn, 1) := by decide +kernel
theorem dX4_begin_53 : decode cX4_begin 53 = .ok (.aload_n 0, 1) := by decide +kernel
theorem dX4_begin_54 : decode cX4_begin 54 = .ok (.iload_n 1, 1) := by decide +kernel
theorem dX4_begin_55 : decode cX4_begin 55 = .ok (.iload_n 2, 1) := by decide +kernel
theorem dX4_begin_56 : decode cX4_begin 56 = .ok (.invokevirtual 126, 3) := by decide +kernel
theorem dX4_begin_59 : decode cX4_begin 59 = .ok (.iconst 1, 1) := by decide +kernel
theorem dX4_begin_60 : decode cX4_begin 60 = .ok (.ireturn, 1) := by decide +kernel
theorem dX4_cancel_0 : decode cX4_cancel 0 = .ok (.aload_n 0, 1) := by decide +kernel
theorem dX4_cancel_1 : decode cX4_cancel 1 = .ok (.iconst 0, 1) := by decide +kernel
theorem dX4_cancel_2 : decode cX4_cancel 2 = .ok (.putfield 75, 3) := by decide +kernel
theorem dX4_cancel_5 : decode cX4_cancel 5 = .ok (.aload_n 0, 1) := by decide +kernel
theorem dX4_cancel_6 : decode cX4_cancel 6 = .ok (.invokevirtual 93, 3) := by decide +kernel
theorem dX4_cancel_9 : decode cX4_cancel 9 = .ok (.ireturn, 1) := by decide +kernel
theorem dX4_taken_0 : decode cX4_taken 0 = .ok (.aload_n 0, 1) := by decide +kernel
theorem dX4_taken_1 : decode cX4_taken 1 = .ok (.getfield 43, 3) := by decide +kernel
theorem dX4_taken_4 : decode cX4_taken 4 = .ok (.aload_n 0, 1) := by decide +kernel
theorem dX4_taken_5 : decode cX4_taken 5 = .ok (.aload_n 0, 1) := by decide +kernel
theorem dX4_taken_6 : decode cX4_taken 6 = .ok (.getfield 57, 3) := by decide +kernel
theorem dX4_taken_9 : decode cX4_taken 9 = .ok (.iload_n 1, 1) := by decide +kernel
theorem dX4_taken_10 : decode cX4_taken 10 = .ok (.iaload, 1) := by decide +kernel
theorem dX4_taken_11 : decode cX4_taken 11 = .ok (.aload_n 0, 1) := by decide +kernel
theorem dX4_taken_12 : decode cX4_taken 12 = .ok (.getfield 63, 3) := by decide +kernel
theorem dX4_taken_15 : decode cX4_taken 15 = .ok (.bipush 8, 2) := by decide +kernel
theorem dX4_taken_17 : decode cX4_taken 17 = .ok (.iload_n 1, 1) := by decide +kernel
theorem dX4_taken_18 : decode cX4_taken 18 = .ok (.imul, 1) := by decide +kernel
theorem dX4_taken_19 : decode cX4_taken 19 = .ok (.iload_n 2, 1) := by decide +kernel
theorem dX4_taken_20 : decode cX4_taken 20 = .ok (.iadd, 1) := by decide +kernel
theorem dX4_taken_21 : decode cX4_taken 21 = .ok (.iaload, 1) := by decide +kernel
theorem dX4_taken_22 : decode cX4_taken 22 = .ok (.invokevirtual 97, 3) := by decide +kernel
theorem dX4_taken_25 : decode cX4_taken 25 = .ok (.laload, 1) := by decide +kernel
theorem dX4_taken_26 : decode cX4_taken 26 = .ok (.lreturn, 1) := by decide +kernel
theorem dX4_comes_0 : decode cX4_comes 0 = .ok (.aload_n 0, 1) := by decide +kernel
theorem dX4_comes_1 : decode cX4_comes 1 = .ok (.getfield 57, 3) := by decide +kernel
theorem dX4_comes_4 : decode cX4_comes 4 = .ok (.iload_n 1, 1) := by decide +kernel
theorem dX4_comes_5 : decode cX4_comes 5 = .ok (.iaload, 1) := by decide +kernel
theorem dX4_comes_6 : decode cX4_comes 6 = .ok (.istore_n 2, 1) := by decide +kernel
theorem dX4_comes_7 : decode cX4_comes 7 = .ok (.aload_n 0, 1) := by decide +kernel
theorem dX4_comes_8 : decode cX4_comes 8 = .ok (.getfield 60, 3) := by decide +kernel
theorem dX4_comes_11 : decode cX4_comes 11 = .ok (.iload_n 1, 1) := by decide +kernel
theorem dX4_comes_12 : decode cX4_comes 12 = .ok (.iaload, 1) := by decide +kernel
theorem dX4_comes_13 : decode cX4_comes 13 = .ok (.istore_n 3, 1) := by decide +kernel
theorem dX4_comes_14 : decode cX4_comes 14 = .ok (.aload_n 0, 1) := by decide +kernel
theorem dX4_comes_15 : decode cX4_comes 15 = .ok (.getfield 13, 3) := by decide +kernel
theorem dX4_comes_18 : decode cX4_comes 18 = .ok (.iload_n 2, 1) := by decide +kernel
theorem dX4_comes_19 : decode cX4_comes 19 = .ok (.iaload, 1) := by decide +kernel
theorem dX4_comes_20 : decode cX4_comes 20 = .ok (.istore 4, 2) := by decide +kernel
theorem dX4_comes_22 : decode cX4_comes 22 = .ok (.aload_n 0, 1) := by decide +kernel
theorem dX4_comes_23 : decode cX4_comes 23 = .ok (.getfield 47, 3) := by decide +kernel
theorem dX4_comes_26 : decode cX4_comes 26 = .ok (.iload_n 2, 1) := by decide +kernel
theorem dX4_comes_27 : decode cX4_comes 27 = .ok (.baload, 1) := by decide +kernel
theorem dX4_comes_28 : decode cX4_comes 28 = .ok (.ifCond .ne 18, 3) := by decide +kernel
theorem dX4_comes_31 : decode cX4_comes 31 = .ok (.aload_n 0, 1) := by decide +kernel
theorem dX4_comes_32 : decode cX4_comes 32 = .ok (.getfield 7, 3) := by decide +kernel
theorem dX4_comes_35 : decode cX4_comes 35 = .ok (.iload_n 2, 1) := by decide +kernel
theorem dX4_comes_36 : decode cX4_comes 36 = .ok (.iaload, 1) := by decide +kernel
theorem dX4_comes_37 : decode cX4_comes 37 = .ok (.iconst 5, 1) := by decide +kernel
theorem dX4_comes_38 : decode cX4_comes 38 = .ok (.if_icmp .ne 11, 3) := by decide +kernel
theorem dX4_comes_41 : decode cX4_comes 41 = .ok (.iload 4, 2) := by decide +kernel
theorem dX4_comes_43 : decode cX4_comes 43 = .ok (.ifCond .ne 6, 3) := by decide +kernel
theorem dX4_comes_46 : decode cX4_comes 46 = .ok (.bipush (-2), 2) := by decide +kernel
theorem dX4_comes_48 : decode cX4_comes 48 = .ok (.ireturn, 1) := by decide +kernel
theorem dX4_comes_49 : decode cX4_comes 49 = .ok (.aload_n 0, 1) := by decide +kernel
theorem dX4_comes_50 : decode cX4_comes 50 = .ok (.getfield 7, 3) := by decide +kernel
theorem dX4_comes_53 : decode cX4_comes 53 = .ok (.iload_n 2, 1) := by decide +kernel
theorem dX4_comes_54 : decode cX4_comes 54 = .ok (.iaload, 1) := by decide +kernel
theorem dX4_comes_55 : decode cX4_comes 55 = .ok (.iconst 1, 1) := by decide +kernel
theorem dX4_comes_56 : decode cX4_comes 56 = .ok (.if_icmp .ne 22, 3) := by decide +kernel
theorem dX4_comes_59 : decode cX4_comes 59 = .ok (.iload_n 3, 1) := by decide +kernel
theorem dX4_comes_60 : decode cX4_comes 60 = .ok (.ifCond .le 18, 3) := by decide +kernel
theorem dX4_comes_63 : decode cX4_comes 63 = .ok (.aload_n 0, 1) := by decide +kernel
theorem dX4_comes_64 : decode cX4_comes 64 = .ok (.iload_n 1, 1) := by decide +kernel
theorem dX4_comes_65 : decode cX4_comes 65 = .ok (.iload_n 3, 1) := by decide +kernel
theorem dX4_comes_66 : decode cX4_comes 66 = .ok (.iconst 1, 1) := by decide +kernel
theorem dX4_comes_67 : decode cX4_comes 67 = .ok (.isub, 1) := by decide +kernel
theorem dX4_comes_68 : decode cX4_comes 68 = .ok (.invokevirtual 130, 3) := by decide +kernel
theorem dX4_comes_71 : decode cX4_comes 71 = .ok (.lconst 0, 1) := by decide +kernel
theorem dX4_comes_72 : decode cX4_comes 72 = .ok (.lcmp, 1) := by decide +kernel
theorem dX4_comes_73 : decode cX4_comes 73 = .ok (.ifCond .eq 5, 3) := by decide +kernel
theorem dX4_comes_76 : decode cX4_comes 76 = .ok (.iconst (-1), 1) := by decide +kernel
theorem dX4_comes_77 : decode cX4_comes 77 = .ok (.ireturn, 1) := by decide +kernel
theorem dX4_comes_78 : decode cX4_comes 78 = .ok (.aload_n 0, 1) := by decide +kernel
theorem dX4_comes_79 : decode cX4_comes 79 = .ok (.getfield 7, 3) := by decide +kernel
theorem dX4_comes_82 : decode cX4_comes 82 = .ok (.iload_n 2, 1) := by decide +kernel
theorem dX4_comes_83 : decode cX4_comes 83 = .ok (.iaload, 1) := by decide +kernel
theorem dX4_comes_84 : decode cX4_comes 84 = .ok (.iconst 3, 1) := by decide +kernel
theorem dX4_comes_85 : decode cX4_comes 85 = .ok (.if_icmp .ne 24, 3) := by decide +kernel
theorem dX4_comes_88 : decode cX4_comes 88 = .ok (.iload_n 3, 1) := by decide +kernel
theorem dX4_comes_89 : decode cX4_comes 89 = .ok (.iconst 1, 1) := by decide +kernel
theorem dX4_comes_90 : decode cX4_comes 90 = .ok (.if_icmp .le 19, 3) := by decide +kernel
theorem dX4_comes_93 : decode cX4_comes 93 = .ok (.aload_n 0, 1) := by decide +kernel
theorem dX4_comes_94 : decode cX4_comes 94 = .ok (.iload_n 1, 1) := by decide +kernel
theorem dX4_comes_95 : decode cX4_comes 95 = .ok (.iload_n 3, 1) := by decide +kernel
theorem dX4_comes_96 : decode cX4_comes 96 = .ok (.iconst 1, 1) := by decide +kernel
theorem dX4_comes_97 : decode cX4_comes 97 = .ok (.isub, 1) := by decide +kernel
theorem dX4_comes_98 : decode cX4_comes 98 = .ok (.invokevirtual 130, 3) := by decide +kernel
theorem dX4_comes_101 : decode cX4_comes 101 = .ok (.lconst 0, 1) := by decide +kernel
theorem dX4_comes_102 : decode cX4_comes 102 = .ok (.lcmp, 1) := by decide +kernel
theorem dX4_comes_103 : decode cX4_comes 103 = .ok (.ifCond .ne 6, 3) := by decide +kernel
theorem dX4_comes_106 : decode cX4_comes 106 = .ok (.bipush (-2), 2) := by decide +kernel
theorem dX4_comes_108 : decode cX4_comes 108 = .ok (.ireturn, 1) := by decide +kernel
theorem dX4_comes_109 : decode cX4_comes 109 = .ok (.aload_n 0, 1) := by decide +kernel
theorem dX4_comes_110 : decode cX4_comes 110 = .ok (.getfield 7, 3) := by decide +kernel
theorem dX4_comes_113 : decode cX4_comes 113 = .ok (.iload_n 2, 1) := by decide +kernel
theorem dX4_comes_114 : decode cX4_comes 114 = .ok (.iaload, 1) := by decide +kernel
theorem dX4_comes_115 : decode cX4_comes 115 = .ok (.iconst 2, 1) := by decide +kernel
theorem dX4_comes_116 : decode cX4_comes 116 = .ok (.if_icmp .ne 7, 3) := by decide +kernel
theorem dX4_comes_119 : decode cX4_comes 119 = .ok (.iload_n 3, 1) := by decide +kernel
theorem dX4_comes_120 : decode cX4_comes 120 = .ok (.ifCond .ne 15, 3) := by decide +kernel
theorem dX4_comes_123 : decode cX4_comes 123 = .ok (.iload_n 3, 1) := by decide +kernel
theorem dX4_comes_124 : decode cX4_comes 124 = .ok (.iload 4, 2) := by decide +kernel
theorem dX4_comes_126 : decode cX4_comes 126 = .ok (.if_icmp .ge 7, 3) := by decide +kernel
theorem dX4_comes_129 : decode cX4_comes 129 = .ok (.iload_n 3, 1) := by decide +kernel
theorem dX4_comes_130 : decode cX4_comes 130 = .ok (.goto 4, 3) := by decide +kernel
theorem dX4_comes_133 : decode cX4_comes 133 = .ok (.iconst (-1), 1) := by decide +kernel
theorem dX4_comes_134 : decode cX4_comes 134 = .ok (.ireturn, 1) := by decide +kernel
theorem dX4_comes_135 : decode cX4_comes 135 = .ok (.iload_n 3, 1) := by decide +kernel
theorem dX4_comes_136 : decode cX4_comes 136 = .ok (.iconst 1, 1) := by decide +kernel
theorem dX4_comes_137 : decode cX4_comes 137 = .ok (.if_icmp .ne 27, 3) := by decide +kernel
theorem dX4_comes_140 : decode cX4_comes 140 = .ok (.iload 4, 2) := by decide +kernel
theorem dX4_comes_142 : decode cX4_comes 142 = .ok (.iconst 1, 1) := by decide +kernel
theorem dX4_comes_143 : decode cX4_comes 143 = .ok (.if_icmp .le 21, 3) := by decide +kernel
theorem dX4_comes_146 : decode cX4_comes 146 = .ok (.iconst 1, 1) := by decide +kernel
theorem dX4_comes_147 : decode cX4_comes 147 = .ok (.aload_n 0, 1) := by decide +kernel
theorem dX4_comes_148 : decode cX4_comes 148 = .ok (.iload_n 1, 1) := by decide +kernel
theorem dX4_comes_149 : decode cX4_comes 149 = .ok (.iconst 0, 1) := by decide +kernel
theorem dX4_comes_150 : decode cX4_comes 150 = .ok (.invokevirtual 130, 3) := by decide +kernel
theorem dX4_comes_153 : decode cX4_comes 153 = .ok (.iload 4, 2) := by decide +kernel
theorem dX4_comes_155 : decode cX4_comes 155 = .ok (.iconst 1, 1) := by decide +kernel
theorem dX4_comes_156 : decode cX4_comes 156 = .ok (.isub, 1) := by decide +kernel
theorem dX4_comes_157 : decode cX4_comes 157 = .ok (.invokestatic 134, 3) := by decide +kernel
theorem dX4_comes_160 : decode cX4_comes 160 = .ok (.iadd, 1) := by decide +kernel
theorem dX4_comes_161 : decode cX4_comes 161 = .ok (.goto 4, 3) := by decide +kernel
theorem dX4_comes_164 : decode cX4_comes 164 = .ok (.iconst (-1), 1) := by decide +kernel
theorem dX4_comes_165 : decode cX4_comes 165 = .ok (.ireturn, 1) := by decide +kernel
theorem dX4_remainder_0 : decode cX4_remainder 0 = .ok (.lload_n 0, 1) := by decide +kernel
theorem dX4_remainder_1 : decode cX4_remainder 1 = .ok (.iload_n 2, 1) := by decide +kernel
theorem dX4_remainder_2 : decode cX4_remainder 2 = .ok (.i2l, 1) := by decide +kernel
theorem dX4_remainder_3 : decode cX4_remainder 3 = .ok (.lrem, 1) := by decide +kernel
theorem dX4_remainder_4 : decode cX4_remainder 4 = .ok (.l2i, 1) := by decide +kernel
theorem dX4_remainder_5 : decode cX4_remainder 5 = .ok (.istore_n 3, 1) := by decide +kernel
theorem dX4_remainder_6 : decode cX4_remainder 6 = .ok (.iload_n 3, 1) := by decide +kernel
theorem dX4_remainder_7 : decode cX4_remainder 7 = .ok (.ifCond .ge 9, 3) := by decide +kernel
theorem dX4_remainder_10 : decode cX4_remainder 10 = .ok (.iload_n 3, 1) := by decide +kernel
theorem dX4_remainder_11 : decode cX4_remainder 11 = .ok (.iload_n 2, 1) := by decide +kernel
theorem dX4_remainder_12 : decode cX4_remainder 12 = .ok (.iadd, 1) := by decide +kernel
theorem dX4_remainder_13 : decode cX4_remainder 13 = .ok (.goto 4, 3) := by decide +kernel
theorem dX4_remainder_16 : decode cX4_remainder 16 = .ok (.iload_n 3, 1) := by decide +kernel
theorem dX4_remainder_17 : decode cX4_remainder 17 = .ok (.ireturn, 1) := by decide +kernel
theorem dX4_outcome_0 : decode cX4_outcome 0 = .ok (.aload_n 0, 1) := by decide +kernel
theorem dX4_outcome_1 : decode cX4_outcome 1 = .ok (.getfield 7, 3) := by decide +kernel
theorem dX4_outcome_4 : decode cX4_outcome 4 = .ok (.aload_n 0, 1) := by decide +kernel
theorem dX4_outcome_5 : decode cX4_outcome 5 = .ok (.getfield 57, 3) := by decide +kernel
theorem dX4_outcome_8 : decode cX4_outcome 8 = .ok (.iload_n 1, 1) := by decide +kernel
theorem dX4_outcome_9 : decode cX4_outcome 9 = .ok (.iaload, 1) := by decide +kernel
theorem dX4_outcome_10 : decode cX4_outcome 10 = .ok (.iaload, 1) := by decide +kernel
theorem dX4_outcome_11 : decode cX4_outcome 11 = .ok (.istore_n 2, 1) := by decide +kernel
theorem dX4_outcome_12 : decode cX4_outcome 12 = .ok (.aload_n 0, 1) := by decide +kernel
theorem dX4_outcome_13 : decode cX4_outcome 13 = .ok (.getfield 60, 3) := by decide +kernel
theorem dX4_outcome_16 : decode cX4_outcome 16 = .ok (.iload_n 1, 1) := by decide +kernel
theorem dX4_outcome_17 : decode cX4_outcome 17 = .ok (.iaload, 1) := by decide +kernel
theorem dX4_outcome_18 : decode cX4_outcome 18 = .ok (.istore_n 3, 1) := by decide +kernel
theorem dX4_outcome_19 : decode cX4_outcome 19 = .ok (.iload_n 3, 1) := by decide +kernel
theorem dX4_outcome_20 : decode cX4_outcome 20 = .ok (.ifCond .ne 7, 3) := by decide +kernel
theorem dX4_outcome_23 : decode cX4_outcome 23 = .ok (.lconst 0, 1) := by decide +kernel
theorem dX4_outcome_24 : decode cX4_outcome 24 = .ok (.goto 30, 3) := by decide +kernel
theorem dX4_outcome_27 : decode cX4_outcome 27 = .ok (.iload_n 2, 1) := by decide +kernel
theorem dX4_outcome_28 : decode cX4_outcome 28 = .ok (.iconst 1, 1) := by decide +kernel
