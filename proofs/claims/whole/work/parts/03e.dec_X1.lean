theorem dX1_init_0 : decode cX1_init 0 = .ok (.aload_n 0, 1) := by decide +kernel
theorem dX1_init_1 : decode cX1_init 1 = .ok (.invokespecial 3, 3) := by decide +kernel
theorem dX1_init_4 : decode cX1_init 4 = .ok (.aload_n 0, 1) := by decide +kernel
theorem dX1_init_5 : decode cX1_init 5 = .ok (.bipush 40, 2) := by decide +kernel
theorem dX1_init_7 : decode cX1_init 7 = .ok (.anewarray 9, 3) := by decide +kernel
theorem dX1_init_10 : decode cX1_init 10 = .ok (.putfield 11, 3) := by decide +kernel
theorem dX1_init_13 : decode cX1_init 13 = .ok (.return_, 1) := by decide +kernel
theorem dX1_topmost_0 : decode cX1_topmost 0 = .ok (.aload_n 0, 1) := by decide +kernel
theorem dX1_topmost_1 : decode cX1_topmost 1 = .ok (.getfield 17, 3) := by decide +kernel
theorem dX1_topmost_4 : decode cX1_topmost 4 = .ok (.ifCond .gt 7, 3) := by decide +kernel
theorem dX1_topmost_7 : decode cX1_topmost 7 = .ok (.aconst_null, 1) := by decide +kernel
theorem dX1_topmost_8 : decode cX1_topmost 8 = .ok (.goto 14, 3) := by decide +kernel
theorem dX1_topmost_11 : decode cX1_topmost 11 = .ok (.aload_n 0, 1) := by decide +kernel
theorem dX1_topmost_12 : decode cX1_topmost 12 = .ok (.getfield 11, 3) := by decide +kernel
theorem dX1_topmost_15 : decode cX1_topmost 15 = .ok (.aload_n 0, 1) := by decide +kernel
theorem dX1_topmost_16 : decode cX1_topmost 16 = .ok (.getfield 17, 3) := by decide +kernel
theorem dX1_topmost_19 : decode cX1_topmost 19 = .ok (.iconst 1, 1) := by decide +kernel
theorem dX1_topmost_20 : decode cX1_topmost 20 = .ok (.isub, 1) := by decide +kernel
theorem dX1_topmost_21 : decode cX1_topmost 21 = .ok (.aaload, 1) := by decide +kernel
theorem dX1_topmost_22 : decode cX1_topmost 22 = .ok (.areturn, 1) := by decide +kernel
theorem dX1_put_0 : decode cX1_put 0 = .ok (.aload_n 0, 1) := by decide +kernel
theorem dX1_put_1 : decode cX1_put 1 = .ok (.getfield 17, 3) := by decide +kernel
theorem dX1_put_4 : decode cX1_put 4 = .ok (.aload_n 0, 1) := by decide +kernel
theorem dX1_put_5 : decode cX1_put 5 = .ok (.getfield 11, 3) := by decide +kernel
theorem dX1_put_8 : decode cX1_put 8 = .ok (.arraylength, 1) := by decide +kernel
theorem dX1_put_9 : decode cX1_put 9 = .ok (.if_icmp .ge 36, 3) := by decide +kernel
theorem dX1_put_12 : decode cX1_put 12 = .ok (.aload_n 1, 1) := by decide +kernel
theorem dX1_put_13 : decode cX1_put 13 = .ok (.getfield 21, 3) := by decide +kernel
theorem dX1_put_16 : decode cX1_put 16 = .ok (.aload_n 1, 1) := by decide +kernel
theorem dX1_put_17 : decode cX1_put 17 = .ok (.invokevirtual 25, 3) := by decide +kernel
theorem dX1_put_20 : decode cX1_put 20 = .ok (.aload_n 1, 1) := by decide +kernel
theorem dX1_put_21 : decode cX1_put 21 = .ok (.iconst 1, 1) := by decide +kernel
theorem dX1_put_22 : decode cX1_put 22 = .ok (.putfield 31, 3) := by decide +kernel
theorem dX1_put_25 : decode cX1_put 25 = .ok (.aload_n 0, 1) := by decide +kernel
theorem dX1_put_26 : decode cX1_put 26 = .ok (.getfield 11, 3) := by decide +kernel
theorem dX1_put_29 : decode cX1_put 29 = .ok (.aload_n 0, 1) := by decide +kernel
theorem dX1_put_30 : decode cX1_put 30 = .ok (.getfield 17, 3) := by decide +kernel
theorem dX1_put_33 : decode cX1_put 33 = .ok (.aload_n 1, 1) := by decide +kernel
theorem dX1_put_34 : decode cX1_put 34 = .ok (.aastore, 1) := by decide +kernel
theorem dX1_put_35 : decode cX1_put 35 = .ok (.aload_n 0, 1) := by decide +kernel
theorem dX1_put_36 : decode cX1_put 36 = .ok (.dup, 1) := by decide +kernel
theorem dX1_put_37 : decode cX1_put 37 = .ok (.getfield 17, 3) := by decide +kernel
theorem dX1_put_40 : decode cX1_put 40 = .ok (.iconst 1, 1) := by decide +kernel
theorem dX1_put_41 : decode cX1_put 41 = .ok (.iadd, 1) := by decide +kernel
theorem dX1_put_42 : decode cX1_put 42 = .ok (.putfield 17, 3) := by decide +kernel
theorem dX1_put_45 : decode cX1_put 45 = .ok (.return_, 1) := by decide +kernel
theorem dX1_takeTopmost_0 : decode cX1_takeTopmost 0 = .ok (.aload_n 0, 1) := by decide +kernel
theorem dX1_takeTopmost_1 : decode cX1_takeTopmost 1 = .ok (.invokevirtual 35, 3) := by decide +kernel
theorem dX1_takeTopmost_4 : decode cX1_takeTopmost 4 = .ok (.astore_n 1, 1) := by decide +kernel
theorem dX1_takeTopmost_5 : decode cX1_takeTopmost 5 = .ok (.aload_n 1, 1) := by decide +kernel
theorem dX1_takeTopmost_6 : decode cX1_takeTopmost 6 = .ok (.ifnull 18, 3) := by decide +kernel
theorem dX1_takeTopmost_9 : decode cX1_takeTopmost 9 = .ok (.aload_n 1, 1) := by decide +kernel
theorem dX1_takeTopmost_10 : decode cX1_takeTopmost 10 = .ok (.iconst 0, 1) := by decide +kernel
theorem dX1_takeTopmost_11 : decode cX1_takeTopmost 11 = .ok (.putfield 31, 3) := by decide +kernel
theorem dX1_takeTopmost_14 : decode cX1_takeTopmost 14 = .ok (.aload_n 0, 1) := by decide +kernel
theorem dX1_takeTopmost_15 : decode cX1_takeTopmost 15 = .ok (.dup, 1) := by decide +kernel
theorem dX1_takeTopmost_16 : decode cX1_takeTopmost 16 = .ok (.getfield 17, 3) := by decide +kernel
theorem dX1_takeTopmost_19 : decode cX1_takeTopmost 19 = .ok (.iconst 1, 1) := by decide +kernel
theorem dX1_takeTopmost_20 : decode cX1_takeTopmost 20 = .ok (.isub, 1) := by decide +kernel
theorem dX1_takeTopmost_21 : decode cX1_takeTopmost 21 = .ok (.putfield 17, 3) := by decide +kernel
theorem dX1_takeTopmost_24 : decode cX1_takeTopmost 24 = .ok (.return_, 1) := by decide +kernel
theorem dX1_takeAll_0 : decode cX1_takeAll 0 = .ok (.aload_n 0, 1) := by decide +kernel
theorem dX1_takeAll_1 : decode cX1_takeAll 1 = .ok (.getfield 17, 3) := by decide +kernel
theorem dX1_takeAll_4 : decode cX1_takeAll 4 = .ok (.istore_n 1, 1) := by decide +kernel
theorem dX1_takeAll_5 : decode cX1_takeAll 5 = .ok (.iconst 0, 1) := by decide +kernel
theorem dX1_takeAll_6 : decode cX1_takeAll 6 = .ok (.istore_n 2, 1) := by decide +kernel
theorem dX1_takeAll_7 : decode cX1_takeAll 7 = .ok (.iload_n 2, 1) := by decide +kernel
theorem dX1_takeAll_8 : decode cX1_takeAll 8 = .ok (.iload_n 1, 1) := by decide +kernel
theorem dX1_takeAll_9 : decode cX1_takeAll 9 = .ok (.if_icmp .ge 13, 3) := by decide +kernel
theorem dX1_takeAll_12 : decode cX1_takeAll 12 = .ok (.aload_n 0, 1) := by decide +kernel
theorem dX1_takeAll_13 : decode cX1_takeAll 13 = .ok (.invokevirtual 39, 3) := by decide +kernel
theorem dX1_takeAll_16 : decode cX1_takeAll 16 = .ok (.iinc 2 1, 3) := by decide +kernel
theorem dX1_takeAll_19 : decode cX1_takeAll 19 = .ok (.goto (-12), 3) := by decide +kernel
theorem dX1_takeAll_22 : decode cX1_takeAll 22 = .ok (.iload_n 1, 1) := by decide +kernel
theorem dX1_takeAll_23 : decode cX1_takeAll 23 = .ok (.ireturn, 1) := by decide +kernel
