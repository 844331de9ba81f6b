theorem dX3_init_0 : decode cX3_init 0 = .ok (.aload_n 0, 1) := by decide +kernel
theorem dX3_init_1 : decode cX3_init 1 = .ok (.invokespecial 3, 3) := by decide +kernel
theorem dX3_init_4 : decode cX3_init 4 = .ok (.aload_n 0, 1) := by decide +kernel
theorem dX3_init_5 : decode cX3_init 5 = .ok (.bipush 40, 2) := by decide +kernel
theorem dX3_init_7 : decode cX3_init 7 = .ok (.anewarray 9, 3) := by decide +kernel
theorem dX3_init_10 : decode cX3_init 10 = .ok (.putfield 11, 3) := by decide +kernel
theorem dX3_init_13 : decode cX3_init 13 = .ok (.aload_n 0, 1) := by decide +kernel
theorem dX3_init_14 : decode cX3_init 14 = .ok (.iconst 5, 1) := by decide +kernel
theorem dX3_init_15 : decode cX3_init 15 = .ok (.anewarray 15, 3) := by decide +kernel
theorem dX3_init_18 : decode cX3_init 18 = .ok (.putfield 17, 3) := by decide +kernel
theorem dX3_init_21 : decode cX3_init 21 = .ok (.iconst 0, 1) := by decide +kernel
theorem dX3_init_22 : decode cX3_init 22 = .ok (.istore_n 1, 1) := by decide +kernel
theorem dX3_init_23 : decode cX3_init 23 = .ok (.iload_n 1, 1) := by decide +kernel
theorem dX3_init_24 : decode cX3_init 24 = .ok (.aload_n 0, 1) := by decide +kernel
theorem dX3_init_25 : decode cX3_init 25 = .ok (.getfield 17, 3) := by decide +kernel
theorem dX3_init_28 : decode cX3_init 28 = .ok (.arraylength, 1) := by decide +kernel
theorem dX3_init_29 : decode cX3_init 29 = .ok (.if_icmp .ge 22, 3) := by decide +kernel
theorem dX3_init_32 : decode cX3_init 32 = .ok (.aload_n 0, 1) := by decide +kernel
theorem dX3_init_33 : decode cX3_init 33 = .ok (.getfield 17, 3) := by decide +kernel
theorem dX3_init_36 : decode cX3_init 36 = .ok (.iload_n 1, 1) := by decide +kernel
theorem dX3_init_37 : decode cX3_init 37 = .ok (.new 15, 3) := by decide +kernel
theorem dX3_init_40 : decode cX3_init 40 = .ok (.dup, 1) := by decide +kernel
theorem dX3_init_41 : decode cX3_init 41 = .ok (.invokespecial 21, 3) := by decide +kernel
theorem dX3_init_44 : decode cX3_init 44 = .ok (.aastore, 1) := by decide +kernel
theorem dX3_init_45 : decode cX3_init 45 = .ok (.iinc 1 1, 3) := by decide +kernel
theorem dX3_init_48 : decode cX3_init 48 = .ok (.goto (-25), 3) := by decide +kernel
theorem dX3_init_51 : decode cX3_init 51 = .ok (.aload_n 0, 1) := by decide +kernel
theorem dX3_init_52 : decode cX3_init 52 = .ok (.bipush 40, 2) := by decide +kernel
theorem dX3_init_54 : decode cX3_init 54 = .ok (.newarray .int, 2) := by decide +kernel
theorem dX3_init_56 : decode cX3_init 56 = .ok (.putfield 22, 3) := by decide +kernel
theorem dX3_init_59 : decode cX3_init 59 = .ok (.return_, 1) := by decide +kernel
theorem dX3_leaf_0 : decode cX3_leaf 0 = .ok (.aload_n 0, 1) := by decide +kernel
theorem dX3_leaf_1 : decode cX3_leaf 1 = .ok (.getfield 26, 3) := by decide +kernel
theorem dX3_leaf_4 : decode cX3_leaf 4 = .ok (.bipush 40, 2) := by decide +kernel
theorem dX3_leaf_6 : decode cX3_leaf 6 = .ok (.if_icmp .lt 5, 3) := by decide +kernel
theorem dX3_leaf_9 : decode cX3_leaf 9 = .ok (.iconst (-1), 1) := by decide +kernel
theorem dX3_leaf_10 : decode cX3_leaf 10 = .ok (.ireturn, 1) := by decide +kernel
theorem dX3_leaf_11 : decode cX3_leaf 11 = .ok (.new 9, 3) := by decide +kernel
theorem dX3_leaf_14 : decode cX3_leaf 14 = .ok (.dup, 1) := by decide +kernel
theorem dX3_leaf_15 : decode cX3_leaf 15 = .ok (.aload_n 0, 1) := by decide +kernel
theorem dX3_leaf_16 : decode cX3_leaf 16 = .ok (.getfield 26, 3) := by decide +kernel
theorem dX3_leaf_19 : decode cX3_leaf 19 = .ok (.iconst (-1), 1) := by decide +kernel
theorem dX3_leaf_20 : decode cX3_leaf 20 = .ok (.invokespecial 32, 3) := by decide +kernel
theorem dX3_leaf_23 : decode cX3_leaf 23 = .ok (.astore_n 3, 1) := by decide +kernel
theorem dX3_leaf_24 : decode cX3_leaf 24 = .ok (.aload_n 3, 1) := by decide +kernel
theorem dX3_leaf_25 : decode cX3_leaf 25 = .ok (.iconst 1, 1) := by decide +kernel
theorem dX3_leaf_26 : decode cX3_leaf 26 = .ok (.putfield 35, 3) := by decide +kernel
theorem dX3_leaf_29 : decode cX3_leaf 29 = .ok (.aload_n 3, 1) := by decide +kernel
theorem dX3_leaf_30 : decode cX3_leaf 30 = .ok (.lload_n 1, 1) := by decide +kernel
theorem dX3_leaf_31 : decode cX3_leaf 31 = .ok (.putfield 38, 3) := by decide +kernel
theorem dX3_leaf_34 : decode cX3_leaf 34 = .ok (.aload_n 3, 1) := by decide +kernel
theorem dX3_leaf_35 : decode cX3_leaf 35 = .ok (.aload_n 0, 1) := by decide +kernel
theorem dX3_leaf_36 : decode cX3_leaf 36 = .ok (.getfield 42, 3) := by decide +kernel
theorem dX3_leaf_39 : decode cX3_leaf 39 = .ok (.putfield 45, 3) := by decide +kernel
theorem dX3_leaf_42 : decode cX3_leaf 42 = .ok (.aload_n 0, 1) := by decide +kernel
theorem dX3_leaf_43 : decode cX3_leaf 43 = .ok (.aload_n 3, 1) := by decide +kernel
theorem dX3_leaf_44 : decode cX3_leaf 44 = .ok (.invokevirtual 48, 3) := by decide +kernel
theorem dX3_leaf_47 : decode cX3_leaf 47 = .ok (.ireturn, 1) := by decide +kernel
theorem dX3_key_0 : decode cX3_key 0 = .ok (.aload_n 0, 1) := by decide +kernel
theorem dX3_key_1 : decode cX3_key 1 = .ok (.getfield 26, 3) := by decide +kernel
theorem dX3_key_4 : decode cX3_key 4 = .ok (.bipush 40, 2) := by decide +kernel
theorem dX3_key_6 : decode cX3_key 6 = .ok (.if_icmp .ge 13, 3) := by decide +kernel
theorem dX3_key_9 : decode cX3_key 9 = .ok (.iload_n 1, 1) := by decide +kernel
theorem dX3_key_10 : decode cX3_key 10 = .ok (.ifCond .lt 9, 3) := by decide +kernel
theorem dX3_key_13 : decode cX3_key 13 = .ok (.iload_n 1, 1) := by decide +kernel
theorem dX3_key_14 : decode cX3_key 14 = .ok (.bipush 6, 2) := by decide +kernel
theorem dX3_key_16 : decode cX3_key 16 = .ok (.if_icmp .lt 5, 3) := by decide +kernel
theorem dX3_key_19 : decode cX3_key 19 = .ok (.iconst (-1), 1) := by decide +kernel
theorem dX3_key_20 : decode cX3_key 20 = .ok (.ireturn, 1) := by decide +kernel
theorem dX3_key_21 : decode cX3_key 21 = .ok (.aload_n 0, 1) := by decide +kernel
theorem dX3_key_22 : decode cX3_key 22 = .ok (.new 9, 3) := by decide +kernel
theorem dX3_key_25 : decode cX3_key 25 = .ok (.dup, 1) := by decide +kernel
theorem dX3_key_26 : decode cX3_key 26 = .ok (.aload_n 0, 1) := by decide +kernel
theorem dX3_key_27 : decode cX3_key 27 = .ok (.getfield 26, 3) := by decide +kernel
theorem dX3_key_30 : decode cX3_key 30 = .ok (.iload_n 1, 1) := by decide +kernel
theorem dX3_key_31 : decode cX3_key 31 = .ok (.invokespecial 32, 3) := by decide +kernel
theorem dX3_key_34 : decode cX3_key 34 = .ok (.invokevirtual 48, 3) := by decide +kernel
theorem dX3_key_37 : decode cX3_key 37 = .ok (.ireturn, 1) := by decide +kernel
theorem dX3_asks_0 : decode cX3_asks 0 = .ok (.aload_n 0, 1) := by decide +kernel
theorem dX3_asks_1 : decode cX3_asks 1 = .ok (.iload_n 1, 1) := by decide +kernel
theorem dX3_asks_2 : decode cX3_asks 2 = .ok (.invokevirtual 52, 3) := by decide +kernel
theorem dX3_asks_5 : decode cX3_asks 5 = .ok (.astore_n 3, 1) := by decide +kernel
theorem dX3_asks_6 : decode cX3_asks 6 = .ok (.aload_n 0, 1) := by decide +kernel
theorem dX3_asks_7 : decode cX3_asks 7 = .ok (.iload_n 2, 1) := by decide +kernel
theorem dX3_asks_8 : decode cX3_asks 8 = .ok (.invokevirtual 56, 3) := by decide +kernel
theorem dX3_asks_11 : decode cX3_asks 11 = .ok (.astore 4, 2) := by decide +kernel
theorem dX3_asks_13 : decode cX3_asks 13 = .ok (.aload_n 3, 1) := by decide +kernel
theorem dX3_asks_14 : decode cX3_asks 14 = .ok (.ifnull 17, 3) := by decide +kernel
theorem dX3_asks_17 : decode cX3_asks 17 = .ok (.aload 4, 2) := by decide +kernel
theorem dX3_asks_19 : decode cX3_asks 19 = .ok (.ifnull 12, 3) := by decide +kernel
theorem dX3_asks_22 : decode cX3_asks 22 = .ok (.aload_n 3, 1) := by decide +kernel
theorem dX3_asks_23 : decode cX3_asks 23 = .ok (.getfield 59, 3) := by decide +kernel
theorem dX3_asks_26 : decode cX3_asks 26 = .ok (.bipush 8, 2) := by decide +kernel
theorem dX3_asks_28 : decode cX3_asks 28 = .ok (.if_icmp .lt 5, 3) := by decide +kernel
theorem dX3_asks_31 : decode cX3_asks 31 = .ok (.iconst (-1), 1) := by decide +kernel
theorem dX3_asks_32 : decode cX3_asks 32 = .ok (.ireturn, 1) := by decide +kernel
theorem dX3_asks_33 : decode cX3_asks 33 = .ok (.aload 4, 2) := by decide +kernel
theorem dX3_asks_35 : decode cX3_asks 35 = .ok (.aload_n 3, 1) := by decide +kernel
theorem dX3_asks_36 : decode cX3_asks 36 = .ok (.invokevirtual 62, 3) := by decide +kernel
theorem dX3_asks_39 : decode cX3_asks 39 = .ok (.ifCond .eq 13, 3) := by decide +kernel
theorem dX3_asks_42 : decode cX3_asks 42 = .ok (.aload_n 0, 1) := by decide +kernel
theorem dX3_asks_43 : decode cX3_asks 43 = .ok (.aload_n 3, 1) := by decide +kernel
theorem dX3_asks_44 : decode cX3_asks 44 = .ok (.aload 4, 2) := by decide +kernel
theorem dX3_asks_46 : decode cX3_asks 46 = .ok (.invokevirtual 66, 3) := by decide +kernel
theorem dX3_asks_49 : decode cX3_asks 49 = .ok (.bipush (-2), 2) := by decide +kernel
theorem dX3_asks_51 : decode cX3_asks 51 = .ok (.ireturn, 1) := by decide +kernel
theorem dX3_asks_52 : decode cX3_asks 52 = .ok (.aload_n 3, 1) := by decide +kernel
theorem dX3_asks_53 : decode cX3_asks 53 = .ok (.getfield 70, 3) := by decide +kernel
theorem dX3_asks_56 : decode cX3_asks 56 = .ok (.aload_n 3, 1) := by decide +kernel
theorem dX3_asks_57 : decode cX3_asks 57 = .ok (.getfield 59, 3) := by decide +kernel
theorem dX3_asks_60 : decode cX3_asks 60 = .ok (.aload 4, 2) := by decide +kernel
theorem dX3_asks_62 : decode cX3_asks 62 = .ok (.aastore, 1) := by decide +kernel
theorem dX3_asks_63 : decode cX3_asks 63 = .ok (.aload_n 3, 1) := by decide +kernel
theorem dX3_asks_64 : decode cX3_asks 64 = .ok (.dup, 1) := by decide +kernel
theorem dX3_asks_65 : decode cX3_asks 65 = .ok (.getfield 59, 3) := by decide +kernel
theorem dX3_asks_68 : decode cX3_asks 68 = .ok (.iconst 1, 1) := by decide +kernel
theorem dX3_asks_69 : decode cX3_asks 69 = .ok (.iadd, 1) := by decide +kernel
theorem dX3_asks_70 : decode cX3_asks 70 = .ok (.putfield 59, 3) := by decide +kernel
theorem dX3_asks_73 : decode cX3_asks 73 = .ok (.aload_n 0, 1) := by decide +kernel
theorem dX3_asks_74 : decode cX3_asks 74 = .ok (.aload_n 3, 1) := by decide +kernel
theorem dX3_asks_75 : decode cX3_asks 75 = .ok (.aload 4, 2) := by decide +kernel
theorem dX3_asks_77 : decode cX3_asks 77 = .ok (.invokevirtual 73, 3) := by decide +kernel
theorem dX3_asks_80 : decode cX3_asks 80 = .ok (.aload_n 0, 1) := by decide +kernel
theorem dX3_asks_81 : decode cX3_asks 81 = .ok (.invokevirtual 76, 3) := by decide +kernel
theorem dX3_asks_84 : decode cX3_asks 84 = .ok (.aload_n 3, 1) := by decide +kernel
theorem dX3_asks_85 : decode cX3_asks 85 = .ok (.aload_n 0, 1) := by decide +kernel
theorem dX3_asks_86 : decode cX3_asks 86 = .ok (.getfield 42, 3) := by decide +kernel
theorem dX3_asks_89 : decode cX3_asks 89 = .ok (.putfield 79, 3) := by decide +kernel
theorem dX3_asks_92 : decode cX3_asks 92 = .ok (.iconst 1, 1) := by decide +kernel
theorem dX3_asks_93 : decode cX3_asks 93 = .ok (.ireturn, 1) := by decide +kernel
theorem dX3_ring_0 : decode cX3_ring 0 = .ok (.iload_n 1, 1) := by decide +kernel
theorem dX3_ring_1 : decode cX3_ring 1 = .ok (.ifCond .lt 11, 3) := by decide +kernel
theorem dX3_ring_4 : decode cX3_ring 4 = .ok (.iload_n 1, 1) := by decide +kernel
theorem dX3_ring_5 : decode cX3_ring 5 = .ok (.aload_n 0, 1) := by decide +kernel
theorem dX3_ring_6 : decode cX3_ring 6 = .ok (.getfield 82, 3) := by decide +kernel
theorem dX3_ring_9 : decode cX3_ring 9 = .ok (.if_icmp .lt 7, 3) := by decide +kernel
theorem dX3_ring_12 : decode cX3_ring 12 = .ok (.iconst (-1), 1) := by decide +kernel
theorem dX3_ring_13 : decode cX3_ring 13 = .ok (.goto 9, 3) := by decide +kernel
theorem dX3_ring_16 : decode cX3_ring 16 = .ok (.aload_n 0, 1) := by decide +kernel
theorem dX3_ring_17 : decode cX3_ring 17 = .ok (.getfield 22, 3) := by decide +kernel
theorem dX3_ring_20 : decode cX3_ring 20 = .ok (.iload_n 1, 1) := by decide +kernel
theorem dX3_ring_21 : decode cX3_ring 21 = .ok (.iaload, 1) := by decide +kernel
theorem dX3_ring_22 : decode cX3_ring 22 = .ok (.ireturn, 1) := by decide +kernel
theorem dX3_change_0 : decode cX3_change 0 = .ok (.aload_n 0, 1) := by decide +kernel
theorem dX3_change_1 : decode cX3_change 1 = .ok (.iload_n 1, 1) := by decide +kernel
theorem dX3_change_2 : decode cX3_change 2 = .ok (.invokevirtual 56, 3) := by decide +kernel
theorem dX3_change_5 : decode cX3_change 5 = .ok (.astore 4, 2) := by decide +kernel
theorem dX3_change_7 : decode cX3_change 7 = .ok (.aload 4, 2) := by decide +kernel
theorem dX3_change_9 : decode cX3_change 9 = .ok (.ifnull 11, 3) := by decide +kernel
theorem dX3_change_12 : decode cX3_change 12 = .ok (.aload 4, 2) := by decide +kernel
theorem dX3_change_14 : decode cX3_change 14 = .ok (.invokevirtual 85, 3) := by decide +kernel
theorem dX3_change_17 : decode cX3_change 17 = .ok (.ifCond .ne 5, 3) := by decide +kernel
theorem dX3_change_20 : decode cX3_change 20 = .ok (.iconst (-1), 1) := by decide +kernel
theorem dX3_change_21 : decode cX3_change 21 = .ok (.ireturn, 1) := by decide +kernel
theorem dX3_change_22 : decode cX3_change 22 = .ok (.aload 4, 2) := by decide +kernel
theorem dX3_change_24 : decode cX3_change 24 = .ok (.getfield 38, 3) := by decide +kernel
theorem dX3_change_27 : decode cX3_change 27 = .ok (.lload_n 2, 1) := by decide +kernel
theorem dX3_change_28 : decode cX3_change 28 = .ok (.lcmp, 1) := by decide +kernel
theorem dX3_change_29 : decode cX3_change 29 = .ok (.ifCond .eq 22, 3) := by decide +kernel
theorem dX3_change_32 : decode cX3_change 32 = .ok (.aload_n 0, 1) := by decide +kernel
theorem dX3_change_33 : decode cX3_change 33 = .ok (.invokevirtual 76, 3) := by decide +kernel
theorem dX3_change_36 : decode cX3_change 36 = .ok (.aload 4, 2) := by decide +kernel
theorem dX3_change_38 : decode cX3_change 38 = .ok (.lload_n 2, 1) := by decide +kernel
theorem dX3_change_39 : decode cX3_change 39 = .ok (.putfield 38, 3) := by decide +kernel
theorem dX3_change_42 : decode cX3_change 42 = .ok (.aload 4, 2) := by decide +kernel
theorem dX3_change_44 : decode cX3_change 44 = .ok (.aload_n 0, 1) := by decide +kernel
theorem dX3_change_45 : decode cX3_change 45 = .ok (.getfield 42, 3) := by decide +kernel
theorem dX3_change_48 : decode cX3_change 48 = .ok (.putfield 45, 3) := by decide +kernel
theorem dX3_change_51 : decode cX3_change 51 = .ok (.aload_n 0, 1) := by decide +kernel
theorem dX3_change_52 : decode cX3_change 52 = .ok (.getfield 42, 3) := by decide +kernel
theorem dX3_change_55 : decode cX3_change 55 = .ok (.ireturn, 1) := by decide +kernel
theorem dX3_spoil_0 : decode cX3_spoil 0 = .ok (.aload_n 0, 1) := by decide +kernel
theorem dX3_spoil_1 : decode cX3_spoil 1 = .ok (.iload_n 1, 1) := by decide +kernel
theorem dX3_spoil_2 : decode cX3_spoil 2 = .ok (.invokevirtual 52, 3) := by decide +kernel
theorem dX3_spoil_5 : decode cX3_spoil 5 = .ok (.astore_n 3, 1) := by decide +kernel
theorem dX3_spoil_6 : decode cX3_spoil 6 = .ok (.aload_n 3, 1) := by decide +kernel
theorem dX3_spoil_7 : decode cX3_spoil 7 = .ok (.ifnonnull 5, 3) := by decide +kernel
theorem dX3_spoil_10 : decode cX3_spoil 10 = .ok (.iconst (-1), 1) := by decide +kernel
theorem dX3_spoil_11 : decode cX3_spoil 11 = .ok (.ireturn, 1) := by decide +kernel
theorem dX3_spoil_12 : decode cX3_spoil 12 = .ok (.aload_n 3, 1) := by decide +kernel
theorem dX3_spoil_13 : decode cX3_spoil 13 = .ok (.getfield 89, 3) := by decide +kernel
theorem dX3_spoil_16 : decode cX3_spoil 16 = .ok (.iload_n 2, 1) := by decide +kernel
theorem dX3_spoil_17 : decode cX3_spoil 17 = .ok (.if_icmp .eq 20, 3) := by decide +kernel
theorem dX3_spoil_20 : decode cX3_spoil 20 = .ok (.aload_n 0, 1) := by decide +kernel
theorem dX3_spoil_21 : decode cX3_spoil 21 = .ok (.invokevirtual 76, 3) := by decide +kernel
theorem dX3_spoil_24 : decode cX3_spoil 24 = .ok (.aload_n 3, 1) := by decide +kernel
theorem dX3_spoil_25 : decode cX3_spoil 25 = .ok (.iload_n 2, 1) := by decide +kernel
theorem dX3_spoil_26 : decode cX3_spoil 26 = .ok (.putfield 89, 3) := by decide +kernel
theorem dX3_spoil_29 : decode cX3_spoil 29 = .ok (.aload_n 3, 1) := by decide +kernel
theorem dX3_spoil_30 : decode cX3_spoil 30 = .ok (.aload_n 0, 1) := by decide +kernel
theorem dX3_spoil_31 : decode cX3_spoil 31 = .ok (.getfield 42, 3) := by decide +kernel
theorem dX3_spoil_34 : decode cX3_spoil 34 = .ok (.putfield 79, 3) := by decide +kernel
theorem dX3_spoil_37 : decode cX3_spoil 37 = .ok (.aload_n 0, 1) := by decide +kernel
theorem dX3_spoil_38 : decode cX3_spoil 38 = .ok (.getfield 42, 3) := by decide +kernel
theorem dX3_spoil_41 : decode cX3_spoil 41 = .ok (.ireturn, 1) := by decide +kernel
theorem dX3_begin_0 : decode cX3_begin 0 = .ok (.aload_n 0, 1) := by decide +kernel
theorem dX3_begin_1 : decode cX3_begin 1 = .ok (.iload_n 2, 1) := by decide +kernel
theorem dX3_begin_2 : decode cX3_begin 2 = .ok (.invokevirtual 56, 3) := by decide +kernel
theorem dX3_begin_5 : decode cX3_begin 5 = .ok (.astore_n 3, 1) := by decide +kernel
theorem dX3_begin_6 : decode cX3_begin 6 = .ok (.iload_n 1, 1) := by decide +kernel
theorem dX3_begin_7 : decode cX3_begin 7 = .ok (.invokestatic 93, 3) := by decide +kernel
theorem dX3_begin_10 : decode cX3_begin 10 = .ok (.ifCond .eq 19, 3) := by decide +kernel
theorem dX3_begin_13 : decode cX3_begin 13 = .ok (.aload_n 3, 1) := by decide +kernel
theorem dX3_begin_14 : decode cX3_begin 14 = .ok (.ifnull 15, 3) := by decide +kernel
theorem dX3_begin_17 : decode cX3_begin 17 = .ok (.aload_n 0, 1) := by decide +kernel
theorem dX3_begin_18 : decode cX3_begin 18 = .ok (.getfield 17, 3) := by decide +kernel
theorem dX3_begin_21 : decode cX3_begin 21 = .ok (.iload_n 1, 1) := by decide +kernel
theorem dX3_begin_22 : decode cX3_begin 22 = .ok (.aaload, 1) := by decide +kernel
theorem dX3_begin_23 : decode cX3_begin 23 = .ok (.getfield 97, 3) := by decide +kernel
theorem dX3_begin_26 : decode cX3_begin 26 = .ok (.ifCond .le 5, 3) := by decide +kernel
theorem dX3_begin_29 : decode cX3_begin 29 = .ok (.iconst (-1), 1) := by decide +kernel
theorem dX3_begin_30 : decode cX3_begin 30 = .ok (.ireturn, 1) := by decide +kernel
theorem dX3_begin_31 : decode cX3_begin 31 = .ok (.aload_n 0, 1) := by decide +kernel
theorem dX3_begin_32 : decode cX3_begin 32 = .ok (.aload_n 3, 1) := by decide +kernel
theorem dX3_begin_33 : decode cX3_begin 33 = .ok (.invokevirtual 100, 3) := by decide +kernel
theorem dX3_begin_36 : decode cX3_begin 36 = .ok (.ifCond .eq 5, 3) := by decide +kernel
theorem dX3_begin_39 : decode cX3_begin 39 = .ok (.iconst 0, 1) := by decide +kernel
theorem dX3_begin_40 : decode cX3_begin 40 = .ok (.ireturn, 1) := by decide +kernel
theorem dX3_begin_41 : decode cX3_begin 41 = .ok (.aload_n 3, 1) := by decide +kernel
theorem dX3_begin_42 : decode cX3_begin 42 = .ok (.getfield 103, 3) := by decide +kernel
theorem dX3_begin_45 : decode cX3_begin 45 = .ok (.ifCond .eq 6, 3) := by decide +kernel
theorem dX3_begin_48 : decode cX3_begin 48 = .ok (.bipush (-2), 2) := by decide +kernel
theorem dX3_begin_50 : decode cX3_begin 50 = .ok (.ireturn, 1) := by decide +kernel
theorem dX3_begin_51 : decode cX3_begin 51 = .ok (.aload_n 0, 1) := by decide +kernel
theorem dX3_begin_52 : decode cX3_begin 52 = .ok (.getfield 17, 3) := by decide +kernel
theorem dX3_begin_55 : decode cX3_begin 55 = .ok (.iload_n 1, 1) := by decide +kernel
theorem dX3_begin_56 : decode cX3_begin 56 = .ok (.aaload, 1) := by decide +kernel
theorem dX3_begin_57 : decode cX3_begin 57 = .ok (.aload_n 3, 1) := by decide +kernel
theorem dX3_begin_58 : decode cX3_begin 58 = .ok (.invokevirtual 106, 3) := by decide +kernel
theorem dX3_begin_61 : decode cX3_begin 61 = .ok (.iconst 1, 1) := by decide +kernel
theorem dX3_begin_62 : decode cX3_begin 62 = .ok (.ireturn, 1) := by decide +kernel
theorem dX3_step_0 : decode cX3_step 0 = .ok (.iload_n 1, 1) := by decide +kernel
theorem dX3_step_1 : decode cX3_step 1 = .ok (.invokestatic 93, 3) := by decide +kernel
theorem dX3_step_4 : decode cX3_step 4 = .ok (.ifCond .eq 16, 3) := by decide +kernel
theorem dX3_step_7 : decode cX3_step 7 = .ok (.aload_n 0, 1) := by decide +kernel
theorem dX3_step_8 : decode cX3_step 8 = .ok (.aload_n 0, 1) := by decide +kernel
theorem dX3_step_9 : decode cX3_step 9 = .ok (.getfield 17, 3) := by decide +kernel
theorem dX3_step_12 : decode cX3_step 12 = .ok (.iload_n 1, 1) := by decide +kernel
theorem dX3_step_13 : decode cX3_step 13 = .ok (.aaload, 1) := by decide +kernel
theorem dX3_step_14 : decode cX3_step 14 = .ok (.invokevirtual 110, 3) := by decide +kernel
theorem dX3_step_17 : decode cX3_step 17 = .ok (.goto 4, 3) := by decide +kernel
theorem dX3_step_20 : decode cX3_step 20 = .ok (.iconst (-1), 1) := by decide +kernel
theorem dX3_step_21 : decode cX3_step 21 = .ok (.ireturn, 1) := by decide +kernel
theorem dX3_cancel_0 : decode cX3_cancel 0 = .ok (.aload_n 0, 1) := by decide +kernel
theorem dX3_cancel_1 : decode cX3_cancel 1 = .ok (.invokevirtual 114, 3) := by decide +kernel
theorem dX3_cancel_4 : decode cX3_cancel 4 = .ok (.ireturn, 1) := by decide +kernel
theorem dX3_run_0 : decode cX3_run 0 = .ok (.aload_n 0, 1) := by decide +kernel
theorem dX3_run_1 : decode cX3_run 1 = .ok (.iload_n 1, 1) := by decide +kernel
theorem dX3_run_2 : decode cX3_run 2 = .ok (.invokevirtual 56, 3) := by decide +kernel
theorem dX3_run_5 : decode cX3_run 5 = .ok (.astore_n 2, 1) := by decide +kernel
theorem dX3_run_6 : decode cX3_run 6 = .ok (.aload_n 2, 1) := by decide +kernel
theorem dX3_run_7 : decode cX3_run 7 = .ok (.ifnonnull 5, 3) := by decide +kernel
theorem dX3_run_10 : decode cX3_run 10 = .ok (.iconst (-1), 1) := by decide +kernel
theorem dX3_run_11 : decode cX3_run 11 = .ok (.ireturn, 1) := by decide +kernel
theorem dX3_run_12 : decode cX3_run 12 = .ok (.aload_n 0, 1) := by decide +kernel
theorem dX3_run_13 : decode cX3_run 13 = .ok (.aload_n 2, 1) := by decide +kernel
theorem dX3_run_14 : decode cX3_run 14 = .ok (.invokevirtual 100, 3) := by decide +kernel
theorem dX3_run_17 : decode cX3_run 17 = .ok (.ifCond .eq 8, 3) := by decide +kernel
theorem dX3_run_20 : decode cX3_run 20 = .ok (.aload_n 2, 1) := by decide +kernel
theorem dX3_run_21 : decode cX3_run 21 = .ok (.getfield 35, 3) := by decide +kernel
theorem dX3_run_24 : decode cX3_run 24 = .ok (.ireturn, 1) := by decide +kernel
theorem dX3_run_25 : decode cX3_run 25 = .ok (.aload_n 2, 1) := by decide +kernel
theorem dX3_run_26 : decode cX3_run 26 = .ok (.getfield 103, 3) := by decide +kernel
theorem dX3_run_29 : decode cX3_run 29 = .ok (.ifCond .eq 6, 3) := by decide +kernel
theorem dX3_run_32 : decode cX3_run 32 = .ok (.bipush (-2), 2) := by decide +kernel
theorem dX3_run_34 : decode cX3_run 34 = .ok (.ireturn, 1) := by decide +kernel
theorem dX3_run_35 : decode cX3_run 35 = .ok (.aload_n 0, 1) := by decide +kernel
theorem dX3_run_36 : decode cX3_run 36 = .ok (.aload_n 2, 1) := by decide +kernel
theorem dX3_run_37 : decode cX3_run 37 = .ok (.invokevirtual 118, 3) := by decide +kernel
theorem dX3_run_40 : decode cX3_run 40 = .ok (.ireturn, 1) := by decide +kernel
theorem dX3_state_0 : decode cX3_state 0 = .ok (.aload_n 0, 1) := by decide +kernel
theorem dX3_state_1 : decode cX3_state 1 = .ok (.iload_n 1, 1) := by decide +kernel
theorem dX3_state_2 : decode cX3_state 2 = .ok (.invokevirtual 56, 3) := by decide +kernel
theorem dX3_state_5 : decode cX3_state 5 = .ok (.astore_n 2, 1) := by decide +kernel
theorem dX3_state_6 : decode cX3_state 6 = .ok (.aload_n 2, 1) := by decide +kernel
theorem dX3_state_7 : decode cX3_state 7 = .ok (.ifnull 11, 3) := by decide +kernel
theorem dX3_state_10 : decode cX3_state 10 = .ok (.aload_n 0, 1) := by decide +kernel
theorem dX3_state_11 : decode cX3_state 11 = .ok (.aload_n 2, 1) := by decide +kernel
theorem dX3_state_12 : decode cX3_state 12 = .ok (.invokevirtual 100, 3) := by decide +kernel
theorem dX3_state_15 : decode cX3_state 15 = .ok (.ifCond .ne 7, 3) := by decide +kernel
theorem dX3_state_18 : decode cX3_state 18 = .ok (.iconst 0, 1) := by decide +kernel
theorem dX3_state_19 : decode cX3_state 19 = .ok (.goto 7, 3) := by decide +kernel
theorem dX3_state_22 : decode cX3_state 22 = .ok (.aload_n 2, 1) := by decide +kernel
theorem dX3_state_23 : decode cX3_state 23 = .ok (.getfield 35, 3) := by decide +kernel
theorem dX3_state_26 : decode cX3_state 26 = .ok (.ireturn, 1) := by decide +kernel
theorem dX3_value_0 : decode cX3_value 0 = .ok (.aload_n 0, 1) := by decide +kernel
theorem dX3_value_1 : decode cX3_value 1 = .ok (.iload_n 1, 1) := by decide +kernel
theorem dX3_value_2 : decode cX3_value 2 = .ok (.invokevirtual 56, 3) := by decide +kernel
theorem dX3_value_5 : decode cX3_value 5 = .ok (.astore_n 2, 1) := by decide +kernel
theorem dX3_value_6 : decode cX3_value 6 = .ok (.aload_n 2, 1) := by decide +kernel
theorem dX3_value_7 : decode cX3_value 7 = .ok (.ifnonnull 13, 3) := by decide +kernel
theorem dX3_value_10 : decode cX3_value 10 = .ok (.new 121, 3) := by decide +kernel
theorem dX3_value_13 : decode cX3_value 13 = .ok (.dup, 1) := by decide +kernel
theorem dX3_value_14 : decode cX3_value 14 = .ok (.ldc 123, 2) := by decide +kernel
theorem dX3_value_16 : decode cX3_value 16 = .ok (.invokespecial 125, 3) := by decide +kernel
theorem dX3_value_19 : decode cX3_value 19 = .ok (.athrow, 1) := by decide +kernel
theorem dX3_value_20 : decode cX3_value 20 = .ok (.aload_n 0, 1) := by decide +kernel
theorem dX3_value_21 : decode cX3_value 21 = .ok (.aload_n 2, 1) := by decide +kernel
theorem dX3_value_22 : decode cX3_value 22 = .ok (.invokevirtual 100, 3) := by decide +kernel
theorem dX3_value_25 : decode cX3_value 25 = .ok (.ifCond .eq 11, 3) := by decide +kernel
theorem dX3_value_28 : decode cX3_value 28 = .ok (.aload_n 2, 1) := by decide +kernel
theorem dX3_value_29 : decode cX3_value 29 = .ok (.getfield 35, 3) := by decide +kernel
theorem dX3_value_32 : decode cX3_value 32 = .ok (.iconst 1, 1) := by decide +kernel
theorem dX3_value_33 : decode cX3_value 33 = .ok (.if_icmp .eq 13, 3) := by decide +kernel
theorem dX3_value_36 : decode cX3_value 36 = .ok (.new 128, 3) := by decide +kernel
theorem dX3_value_39 : decode cX3_value 39 = .ok (.dup, 1) := by decide +kernel
theorem dX3_value_40 : decode cX3_value 40 = .ok (.ldc 130, 2) := by decide +kernel
theorem dX3_value_42 : decode cX3_value 42 = .ok (.invokespecial 132, 3) := by decide +kernel
theorem dX3_value_45 : decode cX3_value 45 = .ok (.athrow, 1) := by decide +kernel
theorem dX3_value_46 : decode cX3_value 46 = .ok (.aload_n 2, 1) := by decide +kernel
theorem dX3_value_47 : decode cX3_value 47 = .ok (.getfield 38, 3) := by decide +kernel
theorem dX3_value_50 : decode cX3_value 50 = .ok (.lreturn, 1) := by decide +kernel
theorem dX3_worked_0 : decode cX3_worked 0 = .ok (.aload_n 0, 1) := by decide +kernel
theorem dX3_worked_1 : decode cX3_worked 1 = .ok (.iload_n 1, 1) := by decide +kernel
theorem dX3_worked_2 : decode cX3_worked 2 = .ok (.invokevirtual 56, 3) := by decide +kernel
theorem dX3_worked_5 : decode cX3_worked 5 = .ok (.astore_n 2, 1) := by decide +kernel
theorem dX3_worked_6 : decode cX3_worked 6 = .ok (.aload_n 2, 1) := by decide +kernel
theorem dX3_worked_7 : decode cX3_worked 7 = .ok (.ifnonnull 7, 3) := by decide +kernel
theorem dX3_worked_10 : decode cX3_worked 10 = .ok (.iconst 0, 1) := by decide +kernel
theorem dX3_worked_11 : decode cX3_worked 11 = .ok (.goto 7, 3) := by decide +kernel
theorem dX3_worked_14 : decode cX3_worked 14 = .ok (.aload_n 2, 1) := by decide +kernel
theorem dX3_worked_15 : decode cX3_worked 15 = .ok (.getfield 133, 3) := by decide +kernel
theorem dX3_worked_18 : decode cX3_worked 18 = .ok (.ireturn, 1) := by decide +kernel
theorem dX3_kept_0 : decode cX3_kept 0 = .ok (.aload_n 0, 1) := by decide +kernel
theorem dX3_kept_1 : decode cX3_kept 1 = .ok (.iload_n 1, 1) := by decide +kernel
theorem dX3_kept_2 : decode cX3_kept 2 = .ok (.invokevirtual 56, 3) := by decide +kernel
theorem dX3_kept_5 : decode cX3_kept 5 = .ok (.astore_n 2, 1) := by decide +kernel
theorem dX3_kept_6 : decode cX3_kept 6 = .ok (.aload_n 2, 1) := by decide +kernel
theorem dX3_kept_7 : decode cX3_kept 7 = .ok (.ifnonnull 7, 3) := by decide +kernel
theorem dX3_kept_10 : decode cX3_kept 10 = .ok (.iconst 0, 1) := by decide +kernel
theorem dX3_kept_11 : decode cX3_kept 11 = .ok (.goto 7, 3) := by decide +kernel
theorem dX3_kept_14 : decode cX3_kept 14 = .ok (.aload_n 2, 1) := by decide +kernel
theorem dX3_kept_15 : decode cX3_kept 15 = .ok (.getfield 136, 3) := by decide +kernel
theorem dX3_kept_18 : decode cX3_kept 18 = .ok (.ireturn, 1) := by decide +kernel
theorem dX3_changed_0 : decode cX3_changed 0 = .ok (.aload_n 0, 1) := by decide +kernel
theorem dX3_changed_1 : decode cX3_changed 1 = .ok (.iload_n 1, 1) := by decide +kernel
theorem dX3_changed_2 : decode cX3_changed 2 = .ok (.invokevirtual 56, 3) := by decide +kernel
theorem dX3_changed_5 : decode cX3_changed 5 = .ok (.astore_n 2, 1) := by decide +kernel
theorem dX3_changed_6 : decode cX3_changed 6 = .ok (.aload_n 2, 1) := by decide +kernel
theorem dX3_changed_7 : decode cX3_changed 7 = .ok (.ifnull 17, 3) := by decide +kernel
theorem dX3_changed_10 : decode cX3_changed 10 = .ok (.aload_n 2, 1) := by decide +kernel
theorem dX3_changed_11 : decode cX3_changed 11 = .ok (.invokevirtual 85, 3) := by decide +kernel
theorem dX3_changed_14 : decode cX3_changed 14 = .ok (.ifCond .ne 14, 3) := by decide +kernel
theorem dX3_changed_17 : decode cX3_changed 17 = .ok (.aload_n 2, 1) := by decide +kernel
theorem dX3_changed_18 : decode cX3_changed 18 = .ok (.getfield 139, 3) := by decide +kernel
theorem dX3_changed_21 : decode cX3_changed 21 = .ok (.ifCond .ne 7, 3) := by decide +kernel
theorem dX3_changed_24 : decode cX3_changed 24 = .ok (.iconst (-1), 1) := by decide +kernel
theorem dX3_changed_25 : decode cX3_changed 25 = .ok (.goto 7, 3) := by decide +kernel
theorem dX3_changed_28 : decode cX3_changed 28 = .ok (.aload_n 2, 1) := by decide +kernel
theorem dX3_changed_29 : decode cX3_changed 29 = .ok (.getfield 45, 3) := by decide +kernel
theorem dX3_changed_32 : decode cX3_changed 32 = .ok (.ireturn, 1) := by decide +kernel
theorem dX3_asked_0 : decode cX3_asked 0 = .ok (.aload_n 0, 1) := by decide +kernel
theorem dX3_asked_1 : decode cX3_asked 1 = .ok (.iload_n 1, 1) := by decide +kernel
theorem dX3_asked_2 : decode cX3_asked 2 = .ok (.invokevirtual 56, 3) := by decide +kernel
theorem dX3_asked_5 : decode cX3_asked 5 = .ok (.astore_n 3, 1) := by decide +kernel
theorem dX3_asked_6 : decode cX3_asked 6 = .ok (.aload_n 3, 1) := by decide +kernel
theorem dX3_asked_7 : decode cX3_asked 7 = .ok (.ifnull 10, 3) := by decide +kernel
theorem dX3_asked_10 : decode cX3_asked 10 = .ok (.aload_n 3, 1) := by decide +kernel
theorem dX3_asked_11 : decode cX3_asked 11 = .ok (.getfield 139, 3) := by decide +kernel
theorem dX3_asked_14 : decode cX3_asked 14 = .ok (.ifCond .ne 7, 3) := by decide +kernel
theorem dX3_asked_17 : decode cX3_asked 17 = .ok (.iconst (-1), 1) := by decide +kernel
theorem dX3_asked_18 : decode cX3_asked 18 = .ok (.goto 8, 3) := by decide +kernel
theorem dX3_asked_21 : decode cX3_asked 21 = .ok (.aload_n 3, 1) := by decide +kernel
theorem dX3_asked_22 : decode cX3_asked 22 = .ok (.iload_n 2, 1) := by decide +kernel
theorem dX3_asked_23 : decode cX3_asked 23 = .ok (.invokevirtual 142, 3) := by decide +kernel
theorem dX3_asked_26 : decode cX3_asked 26 = .ok (.ireturn, 1) := by decide +kernel
theorem dX3_drop_0 : decode cX3_drop 0 = .ok (.aload_n 0, 1) := by decide +kernel
theorem dX3_drop_1 : decode cX3_drop 1 = .ok (.iload_n 1, 1) := by decide +kernel
theorem dX3_drop_2 : decode cX3_drop 2 = .ok (.invokevirtual 56, 3) := by decide +kernel
theorem dX3_drop_5 : decode cX3_drop 5 = .ok (.astore_n 2, 1) := by decide +kernel
theorem dX3_drop_6 : decode cX3_drop 6 = .ok (.aload_n 2, 1) := by decide +kernel
theorem dX3_drop_7 : decode cX3_drop 7 = .ok (.ifnull 10, 3) := by decide +kernel
theorem dX3_drop_10 : decode cX3_drop 10 = .ok (.aload_n 2, 1) := by decide +kernel
theorem dX3_drop_11 : decode cX3_drop 11 = .ok (.getfield 139, 3) := by decide +kernel
theorem dX3_drop_14 : decode cX3_drop 14 = .ok (.ifCond .ne 5, 3) := by decide +kernel
theorem dX3_drop_17 : decode cX3_drop 17 = .ok (.iconst 0, 1) := by decide +kernel
theorem dX3_drop_18 : decode cX3_drop 18 = .ok (.ireturn, 1) := by decide +kernel
theorem dX3_drop_19 : decode cX3_drop 19 = .ok (.aload_n 2, 1) := by decide +kernel
theorem dX3_drop_20 : decode cX3_drop 20 = .ok (.iconst 0, 1) := by decide +kernel
theorem dX3_drop_21 : decode cX3_drop 21 = .ok (.putfield 139, 3) := by decide +kernel
theorem dX3_drop_24 : decode cX3_drop 24 = .ok (.aload_n 0, 1) := by decide +kernel
theorem dX3_drop_25 : decode cX3_drop 25 = .ok (.invokevirtual 114, 3) := by decide +kernel
theorem dX3_drop_28 : decode cX3_drop 28 = .ok (.pop, 1) := by decide +kernel
theorem dX3_drop_29 : decode cX3_drop 29 = .ok (.iconst 1, 1) := by decide +kernel
theorem dX3_drop_30 : decode cX3_drop 30 = .ok (.ireturn, 1) := by decide +kernel
theorem dX3_version_0 : decode cX3_version 0 = .ok (.aload_n 0, 1) := by decide +kernel
theorem dX3_version_1 : decode cX3_version 1 = .ok (.getfield 42, 3) := by decide +kernel
theorem dX3_version_4 : decode cX3_version 4 = .ok (.ireturn, 1) := by decide +kernel
theorem dX3_addKey_0 : decode cX3_addKey 0 = .ok (.aload_n 0, 1) := by decide +kernel
theorem dX3_addKey_1 : decode cX3_addKey 1 = .ok (.getfield 11, 3) := by decide +kernel
theorem dX3_addKey_4 : decode cX3_addKey 4 = .ok (.aload_n 0, 1) := by decide +kernel
theorem dX3_addKey_5 : decode cX3_addKey 5 = .ok (.getfield 26, 3) := by decide +kernel
theorem dX3_addKey_8 : decode cX3_addKey 8 = .ok (.aload_n 1, 1) := by decide +kernel
theorem dX3_addKey_9 : decode cX3_addKey 9 = .ok (.aastore, 1) := by decide +kernel
theorem dX3_addKey_10 : decode cX3_addKey 10 = .ok (.aload_n 0, 1) := by decide +kernel
theorem dX3_addKey_11 : decode cX3_addKey 11 = .ok (.dup, 1) := by decide +kernel
theorem dX3_addKey_12 : decode cX3_addKey 12 = .ok (.getfield 26, 3) := by decide +kernel
theorem dX3_addKey_15 : decode cX3_addKey 15 = .ok (.iconst 1, 1) := by decide +kernel
theorem dX3_addKey_16 : decode cX3_addKey 16 = .ok (.iadd, 1) := by decide +kernel
theorem dX3_addKey_17 : decode cX3_addKey 17 = .ok (.putfield 26, 3) := by decide +kernel
