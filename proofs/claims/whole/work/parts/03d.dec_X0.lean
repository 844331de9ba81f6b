theorem dX0_init_0 : decode cX0_init 0 = .ok (.aload_n 0, 1) := by decide +kernel
theorem dX0_init_1 : decode cX0_init 1 = .ok (.invokespecial 3, 3) := by decide +kernel
theorem dX0_init_4 : decode cX0_init 4 = .ok (.aload_n 0, 1) := by decide +kernel
theorem dX0_init_5 : decode cX0_init 5 = .ok (.bipush 8, 2) := by decide +kernel
theorem dX0_init_7 : decode cX0_init 7 = .ok (.anewarray 9, 3) := by decide +kernel
theorem dX0_init_10 : decode cX0_init 10 = .ok (.putfield 11, 3) := by decide +kernel
theorem dX0_init_13 : decode cX0_init 13 = .ok (.aload_n 0, 1) := by decide +kernel
theorem dX0_init_14 : decode cX0_init 14 = .ok (.bipush 8, 2) := by decide +kernel
theorem dX0_init_16 : decode cX0_init 16 = .ok (.newarray .int, 2) := by decide +kernel
theorem dX0_init_18 : decode cX0_init 18 = .ok (.putfield 15, 3) := by decide +kernel
theorem dX0_init_21 : decode cX0_init 21 = .ok (.aload_n 0, 1) := by decide +kernel
theorem dX0_init_22 : decode cX0_init 22 = .ok (.new 19, 3) := by decide +kernel
theorem dX0_init_25 : decode cX0_init 25 = .ok (.dup, 1) := by decide +kernel
theorem dX0_init_26 : decode cX0_init 26 = .ok (.invokespecial 21, 3) := by decide +kernel
theorem dX0_init_29 : decode cX0_init 29 = .ok (.putfield 22, 3) := by decide +kernel
theorem dX0_init_32 : decode cX0_init 32 = .ok (.aload_n 0, 1) := by decide +kernel
theorem dX0_init_33 : decode cX0_init 33 = .ok (.iload_n 1, 1) := by decide +kernel
theorem dX0_init_34 : decode cX0_init 34 = .ok (.putfield 26, 3) := by decide +kernel
theorem dX0_init_37 : decode cX0_init 37 = .ok (.aload_n 0, 1) := by decide +kernel
theorem dX0_init_38 : decode cX0_init 38 = .ok (.iload_n 2, 1) := by decide +kernel
theorem dX0_init_39 : decode cX0_init 39 = .ok (.putfield 30, 3) := by decide +kernel
theorem dX0_init_42 : decode cX0_init 42 = .ok (.aload_n 0, 1) := by decide +kernel
theorem dX0_init_43 : decode cX0_init 43 = .ok (.lconst 1, 1) := by decide +kernel
theorem dX0_init_44 : decode cX0_init 44 = .ok (.iload_n 1, 1) := by decide +kernel
theorem dX0_init_45 : decode cX0_init 45 = .ok (.lshl, 1) := by decide +kernel
theorem dX0_init_46 : decode cX0_init 46 = .ok (.putfield 33, 3) := by decide +kernel
theorem dX0_init_49 : decode cX0_init 49 = .ok (.return_, 1) := by decide +kernel
theorem dX0_isLeaf_0 : decode cX0_isLeaf 0 = .ok (.aload_n 0, 1) := by decide +kernel
theorem dX0_isLeaf_1 : decode cX0_isLeaf 1 = .ok (.getfield 30, 3) := by decide +kernel
theorem dX0_isLeaf_4 : decode cX0_isLeaf 4 = .ok (.iconst (-1), 1) := by decide +kernel
theorem dX0_isLeaf_5 : decode cX0_isLeaf 5 = .ok (.if_icmp .ne 7, 3) := by decide +kernel
theorem dX0_isLeaf_8 : decode cX0_isLeaf 8 = .ok (.iconst 1, 1) := by decide +kernel
theorem dX0_isLeaf_9 : decode cX0_isLeaf 9 = .ok (.goto 4, 3) := by decide +kernel
theorem dX0_isLeaf_12 : decode cX0_isLeaf 12 = .ok (.iconst 0, 1) := by decide +kernel
theorem dX0_isLeaf_13 : decode cX0_isLeaf 13 = .ok (.ireturn, 1) := by decide +kernel
theorem dX0_reaches_0 : decode cX0_reaches 0 = .ok (.aload_n 0, 1) := by decide +kernel
theorem dX0_reaches_1 : decode cX0_reaches 1 = .ok (.getfield 33, 3) := by decide +kernel
theorem dX0_reaches_4 : decode cX0_reaches 4 = .ok (.lconst 1, 1) := by decide +kernel
theorem dX0_reaches_5 : decode cX0_reaches 5 = .ok (.aload_n 1, 1) := by decide +kernel
theorem dX0_reaches_6 : decode cX0_reaches 6 = .ok (.getfield 26, 3) := by decide +kernel
theorem dX0_reaches_9 : decode cX0_reaches 9 = .ok (.lshl, 1) := by decide +kernel
theorem dX0_reaches_10 : decode cX0_reaches 10 = .ok (.land, 1) := by decide +kernel
theorem dX0_reaches_11 : decode cX0_reaches 11 = .ok (.lconst 0, 1) := by decide +kernel
theorem dX0_reaches_12 : decode cX0_reaches 12 = .ok (.lcmp, 1) := by decide +kernel
theorem dX0_reaches_13 : decode cX0_reaches 13 = .ok (.ifCond .eq 7, 3) := by decide +kernel
theorem dX0_reaches_16 : decode cX0_reaches 16 = .ok (.iconst 1, 1) := by decide +kernel
theorem dX0_reaches_17 : decode cX0_reaches 17 = .ok (.goto 4, 3) := by decide +kernel
theorem dX0_reaches_20 : decode cX0_reaches 20 = .ok (.iconst 0, 1) := by decide +kernel
theorem dX0_reaches_21 : decode cX0_reaches 21 = .ok (.ireturn, 1) := by decide +kernel
theorem dX0_firstThatReaches_0 : decode cX0_firstThatReaches 0 = .ok (.iconst 0, 1) := by decide +kernel
theorem dX0_firstThatReaches_1 : decode cX0_firstThatReaches 1 = .ok (.istore_n 2, 1) := by decide +kernel
theorem dX0_firstThatReaches_2 : decode cX0_firstThatReaches 2 = .ok (.iload_n 2, 1) := by decide +kernel
theorem dX0_firstThatReaches_3 : decode cX0_firstThatReaches 3 = .ok (.aload_n 0, 1) := by decide +kernel
theorem dX0_firstThatReaches_4 : decode cX0_firstThatReaches 4 = .ok (.getfield 37, 3) := by decide +kernel
theorem dX0_firstThatReaches_7 : decode cX0_firstThatReaches 7 = .ok (.if_icmp .ge 29, 3) := by decide +kernel
theorem dX0_firstThatReaches_10 : decode cX0_firstThatReaches 10 = .ok (.aload_n 0, 1) := by decide +kernel
theorem dX0_firstThatReaches_11 : decode cX0_firstThatReaches 11 = .ok (.iload_n 2, 1) := by decide +kernel
theorem dX0_firstThatReaches_12 : decode cX0_firstThatReaches 12 = .ok (.invokevirtual 40, 3) := by decide +kernel
theorem dX0_firstThatReaches_15 : decode cX0_firstThatReaches 15 = .ok (.astore_n 3, 1) := by decide +kernel
theorem dX0_firstThatReaches_16 : decode cX0_firstThatReaches 16 = .ok (.aload_n 3, 1) := by decide +kernel
theorem dX0_firstThatReaches_17 : decode cX0_firstThatReaches 17 = .ok (.ifnull 13, 3) := by decide +kernel
theorem dX0_firstThatReaches_20 : decode cX0_firstThatReaches 20 = .ok (.aload_n 3, 1) := by decide +kernel
theorem dX0_firstThatReaches_21 : decode cX0_firstThatReaches 21 = .ok (.aload_n 1, 1) := by decide +kernel
theorem dX0_firstThatReaches_22 : decode cX0_firstThatReaches 22 = .ok (.invokevirtual 44, 3) := by decide +kernel
theorem dX0_firstThatReaches_25 : decode cX0_firstThatReaches 25 = .ok (.ifCond .eq 5, 3) := by decide +kernel
theorem dX0_firstThatReaches_28 : decode cX0_firstThatReaches 28 = .ok (.aload_n 3, 1) := by decide +kernel
theorem dX0_firstThatReaches_29 : decode cX0_firstThatReaches 29 = .ok (.areturn, 1) := by decide +kernel
theorem dX0_firstThatReaches_30 : decode cX0_firstThatReaches 30 = .ok (.iinc 2 1, 3) := by decide +kernel
theorem dX0_firstThatReaches_33 : decode cX0_firstThatReaches 33 = .ok (.goto (-31), 3) := by decide +kernel
theorem dX0_firstThatReaches_36 : decode cX0_firstThatReaches 36 = .ok (.aconst_null, 1) := by decide +kernel
theorem dX0_firstThatReaches_37 : decode cX0_firstThatReaches 37 = .ok (.areturn, 1) := by decide +kernel
theorem dX0_rowKey_0 : decode cX0_rowKey 0 = .ok (.iload_n 1, 1) := by decide +kernel
theorem dX0_rowKey_1 : decode cX0_rowKey 1 = .ok (.ifCond .lt 11, 3) := by decide +kernel
theorem dX0_rowKey_4 : decode cX0_rowKey 4 = .ok (.iload_n 1, 1) := by decide +kernel
theorem dX0_rowKey_5 : decode cX0_rowKey 5 = .ok (.aload_n 0, 1) := by decide +kernel
theorem dX0_rowKey_6 : decode cX0_rowKey 6 = .ok (.getfield 37, 3) := by decide +kernel
theorem dX0_rowKey_9 : decode cX0_rowKey 9 = .ok (.if_icmp .lt 7, 3) := by decide +kernel
theorem dX0_rowKey_12 : decode cX0_rowKey 12 = .ok (.aconst_null, 1) := by decide +kernel
theorem dX0_rowKey_13 : decode cX0_rowKey 13 = .ok (.goto 9, 3) := by decide +kernel
theorem dX0_rowKey_16 : decode cX0_rowKey 16 = .ok (.aload_n 0, 1) := by decide +kernel
theorem dX0_rowKey_17 : decode cX0_rowKey 17 = .ok (.getfield 11, 3) := by decide +kernel
theorem dX0_rowKey_20 : decode cX0_rowKey 20 = .ok (.iload_n 1, 1) := by decide +kernel
theorem dX0_rowKey_21 : decode cX0_rowKey 21 = .ok (.aaload, 1) := by decide +kernel
theorem dX0_rowKey_22 : decode cX0_rowKey 22 = .ok (.areturn, 1) := by decide +kernel
theorem dX0_askedPlace_0 : decode cX0_askedPlace 0 = .ok (.iload_n 1, 1) := by decide +kernel
theorem dX0_askedPlace_1 : decode cX0_askedPlace 1 = .ok (.ifCond .lt 11, 3) := by decide +kernel
theorem dX0_askedPlace_4 : decode cX0_askedPlace 4 = .ok (.iload_n 1, 1) := by decide +kernel
theorem dX0_askedPlace_5 : decode cX0_askedPlace 5 = .ok (.aload_n 0, 1) := by decide +kernel
theorem dX0_askedPlace_6 : decode cX0_askedPlace 6 = .ok (.getfield 48, 3) := by decide +kernel
theorem dX0_askedPlace_9 : decode cX0_askedPlace 9 = .ok (.if_icmp .lt 7, 3) := by decide +kernel
theorem dX0_askedPlace_12 : decode cX0_askedPlace 12 = .ok (.iconst (-1), 1) := by decide +kernel
theorem dX0_askedPlace_13 : decode cX0_askedPlace 13 = .ok (.goto 9, 3) := by decide +kernel
theorem dX0_askedPlace_16 : decode cX0_askedPlace 16 = .ok (.aload_n 0, 1) := by decide +kernel
theorem dX0_askedPlace_17 : decode cX0_askedPlace 17 = .ok (.getfield 15, 3) := by decide +kernel
theorem dX0_askedPlace_20 : decode cX0_askedPlace 20 = .ok (.iload_n 1, 1) := by decide +kernel
theorem dX0_askedPlace_21 : decode cX0_askedPlace 21 = .ok (.iaload, 1) := by decide +kernel
theorem dX0_askedPlace_22 : decode cX0_askedPlace 22 = .ok (.ireturn, 1) := by decide +kernel
theorem dX0_keepAskedPlaces_0 : decode cX0_keepAskedPlaces 0 = .ok (.aload_n 0, 1) := by decide +kernel
theorem dX0_keepAskedPlaces_1 : decode cX0_keepAskedPlaces 1 = .ok (.aload_n 0, 1) := by decide +kernel
theorem dX0_keepAskedPlaces_2 : decode cX0_keepAskedPlaces 2 = .ok (.getfield 22, 3) := by decide +kernel
theorem dX0_keepAskedPlaces_5 : decode cX0_keepAskedPlaces 5 = .ok (.getfield 51, 3) := by decide +kernel
theorem dX0_keepAskedPlaces_8 : decode cX0_keepAskedPlaces 8 = .ok (.putfield 48, 3) := by decide +kernel
theorem dX0_keepAskedPlaces_11 : decode cX0_keepAskedPlaces 11 = .ok (.iconst 0, 1) := by decide +kernel
theorem dX0_keepAskedPlaces_12 : decode cX0_keepAskedPlaces 12 = .ok (.istore_n 1, 1) := by decide +kernel
theorem dX0_keepAskedPlaces_13 : decode cX0_keepAskedPlaces 13 = .ok (.iload_n 1, 1) := by decide +kernel
theorem dX0_keepAskedPlaces_14 : decode cX0_keepAskedPlaces 14 = .ok (.aload_n 0, 1) := by decide +kernel
theorem dX0_keepAskedPlaces_15 : decode cX0_keepAskedPlaces 15 = .ok (.getfield 48, 3) := by decide +kernel
theorem dX0_keepAskedPlaces_18 : decode cX0_keepAskedPlaces 18 = .ok (.if_icmp .ge 24, 3) := by decide +kernel
theorem dX0_keepAskedPlaces_21 : decode cX0_keepAskedPlaces 21 = .ok (.aload_n 0, 1) := by decide +kernel
theorem dX0_keepAskedPlaces_22 : decode cX0_keepAskedPlaces 22 = .ok (.getfield 15, 3) := by decide +kernel
theorem dX0_keepAskedPlaces_25 : decode cX0_keepAskedPlaces 25 = .ok (.iload_n 1, 1) := by decide +kernel
theorem dX0_keepAskedPlaces_26 : decode cX0_keepAskedPlaces 26 = .ok (.aload_n 0, 1) := by decide +kernel
theorem dX0_keepAskedPlaces_27 : decode cX0_keepAskedPlaces 27 = .ok (.getfield 22, 3) := by decide +kernel
theorem dX0_keepAskedPlaces_30 : decode cX0_keepAskedPlaces 30 = .ok (.getfield 54, 3) := by decide +kernel
theorem dX0_keepAskedPlaces_33 : decode cX0_keepAskedPlaces 33 = .ok (.iload_n 1, 1) := by decide +kernel
theorem dX0_keepAskedPlaces_34 : decode cX0_keepAskedPlaces 34 = .ok (.iaload, 1) := by decide +kernel
theorem dX0_keepAskedPlaces_35 : decode cX0_keepAskedPlaces 35 = .ok (.iastore, 1) := by decide +kernel
theorem dX0_keepAskedPlaces_36 : decode cX0_keepAskedPlaces 36 = .ok (.iinc 1 1, 3) := by decide +kernel
theorem dX0_keepAskedPlaces_39 : decode cX0_keepAskedPlaces 39 = .ok (.goto (-26), 3) := by decide +kernel
theorem dX0_keepAskedPlaces_42 : decode cX0_keepAskedPlaces 42 = .ok (.return_, 1) := by decide +kernel
