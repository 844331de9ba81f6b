theorem dX3_addKey_20 : decode cX3_addKey 20 = .ok (.aload_n 1, 1) := by decide +kernel
theorem dX3_addKey_21 : decode cX3_addKey 21 = .ok (.getfield 146, 3) := by decide +kernel
theorem dX3_addKey_24 : decode cX3_addKey 24 = .ok (.ireturn, 1) := by decide +kernel
theorem dX3_keyAt_0 : decode cX3_keyAt 0 = .ok (.iload_n 1, 1) := by decide +kernel
theorem dX3_keyAt_1 : decode cX3_keyAt 1 = .ok (.ifCond .lt 11, 3) := by decide +kernel
theorem dX3_keyAt_4 : decode cX3_keyAt 4 = .ok (.iload_n 1, 1) := by decide +kernel
theorem dX3_keyAt_5 : decode cX3_keyAt 5 = .ok (.aload_n 0, 1) := by decide +kernel
theorem dX3_keyAt_6 : decode cX3_keyAt 6 = .ok (.getfield 26, 3) := by decide +kernel
theorem dX3_keyAt_9 : decode cX3_keyAt 9 = .ok (.if_icmp .lt 7, 3) := by decide +kernel
theorem dX3_keyAt_12 : decode cX3_keyAt 12 = .ok (.aconst_null, 1) := by decide +kernel
theorem dX3_keyAt_13 : decode cX3_keyAt 13 = .ok (.goto 9, 3) := by decide +kernel
theorem dX3_keyAt_16 : decode cX3_keyAt 16 = .ok (.aload_n 0, 1) := by decide +kernel
theorem dX3_keyAt_17 : decode cX3_keyAt 17 = .ok (.getfield 11, 3) := by decide +kernel
theorem dX3_keyAt_20 : decode cX3_keyAt 20 = .ok (.iload_n 1, 1) := by decide +kernel
theorem dX3_keyAt_21 : decode cX3_keyAt 21 = .ok (.aaload, 1) := by decide +kernel
theorem dX3_keyAt_22 : decode cX3_keyAt 22 = .ok (.areturn, 1) := by decide +kernel
theorem dX3_keyWithFunction_0 : decode cX3_keyWithFunction 0 = .ok (.aload_n 0, 1) := by decide +kernel
theorem dX3_keyWithFunction_1 : decode cX3_keyWithFunction 1 = .ok (.iload_n 1, 1) := by decide +kernel
theorem dX3_keyWithFunction_2 : decode cX3_keyWithFunction 2 = .ok (.invokevirtual 56, 3) := by decide +kernel
theorem dX3_keyWithFunction_5 : decode cX3_keyWithFunction 5 = .ok (.astore_n 2, 1) := by decide +kernel
theorem dX3_keyWithFunction_6 : decode cX3_keyWithFunction 6 = .ok (.aload_n 2, 1) := by decide +kernel
theorem dX3_keyWithFunction_7 : decode cX3_keyWithFunction 7 = .ok (.ifnull 10, 3) := by decide +kernel
theorem dX3_keyWithFunction_10 : decode cX3_keyWithFunction 10 = .ok (.aload_n 2, 1) := by decide +kernel
theorem dX3_keyWithFunction_11 : decode cX3_keyWithFunction 11 = .ok (.invokevirtual 85, 3) := by decide +kernel
theorem dX3_keyWithFunction_14 : decode cX3_keyWithFunction 14 = .ok (.ifCond .eq 7, 3) := by decide +kernel
theorem dX3_keyWithFunction_17 : decode cX3_keyWithFunction 17 = .ok (.aconst_null, 1) := by decide +kernel
theorem dX3_keyWithFunction_18 : decode cX3_keyWithFunction 18 = .ok (.goto 4, 3) := by decide +kernel
theorem dX3_keyWithFunction_21 : decode cX3_keyWithFunction 21 = .ok (.aload_n 2, 1) := by decide +kernel
theorem dX3_keyWithFunction_22 : decode cX3_keyWithFunction 22 = .ok (.areturn, 1) := by decide +kernel
theorem dX3_isWorker_0 : decode cX3_isWorker 0 = .ok (.iload_n 0, 1) := by decide +kernel
theorem dX3_isWorker_1 : decode cX3_isWorker 1 = .ok (.ifCond .lt 12, 3) := by decide +kernel
theorem dX3_isWorker_4 : decode cX3_isWorker 4 = .ok (.iload_n 0, 1) := by decide +kernel
theorem dX3_isWorker_5 : decode cX3_isWorker 5 = .ok (.iconst 4, 1) := by decide +kernel
theorem dX3_isWorker_6 : decode cX3_isWorker 6 = .ok (.if_icmp .ge 7, 3) := by decide +kernel
theorem dX3_isWorker_9 : decode cX3_isWorker 9 = .ok (.iconst 1, 1) := by decide +kernel
theorem dX3_isWorker_10 : decode cX3_isWorker 10 = .ok (.goto 4, 3) := by decide +kernel
theorem dX3_isWorker_13 : decode cX3_isWorker 13 = .ok (.iconst 0, 1) := by decide +kernel
theorem dX3_isWorker_14 : decode cX3_isWorker 14 = .ok (.ireturn, 1) := by decide +kernel
theorem dX3_isSure_0 : decode cX3_isSure 0 = .ok (.aload_n 1, 1) := by decide +kernel
theorem dX3_isSure_1 : decode cX3_isSure 1 = .ok (.invokevirtual 85, 3) := by decide +kernel
theorem dX3_isSure_4 : decode cX3_isSure 4 = .ok (.ifCond .ne 21, 3) := by decide +kernel
theorem dX3_isSure_7 : decode cX3_isSure 7 = .ok (.aload_n 1, 1) := by decide +kernel
theorem dX3_isSure_8 : decode cX3_isSure 8 = .ok (.getfield 139, 3) := by decide +kernel
theorem dX3_isSure_11 : decode cX3_isSure 11 = .ok (.ifCond .eq 18, 3) := by decide +kernel
theorem dX3_isSure_14 : decode cX3_isSure 14 = .ok (.aload_n 1, 1) := by decide +kernel
theorem dX3_isSure_15 : decode cX3_isSure 15 = .ok (.getfield 149, 3) := by decide +kernel
theorem dX3_isSure_18 : decode cX3_isSure 18 = .ok (.aload_n 0, 1) := by decide +kernel
theorem dX3_isSure_19 : decode cX3_isSure 19 = .ok (.getfield 42, 3) := by decide +kernel
theorem dX3_isSure_22 : decode cX3_isSure 22 = .ok (.if_icmp .ne 7, 3) := by decide +kernel
theorem dX3_isSure_25 : decode cX3_isSure 25 = .ok (.iconst 1, 1) := by decide +kernel
theorem dX3_isSure_26 : decode cX3_isSure 26 = .ok (.goto 4, 3) := by decide +kernel
theorem dX3_isSure_29 : decode cX3_isSure 29 = .ok (.iconst 0, 1) := by decide +kernel
theorem dX3_isSure_30 : decode cX3_isSure 30 = .ok (.ireturn, 1) := by decide +kernel
theorem dX3_goToNextVersion_0 : decode cX3_goToNextVersion 0 = .ok (.aload_n 0, 1) := by decide +kernel
theorem dX3_goToNextVersion_1 : decode cX3_goToNextVersion 1 = .ok (.dup, 1) := by decide +kernel
theorem dX3_goToNextVersion_2 : decode cX3_goToNextVersion 2 = .ok (.getfield 42, 3) := by decide +kernel
theorem dX3_goToNextVersion_5 : decode cX3_goToNextVersion 5 = .ok (.iconst 1, 1) := by decide +kernel
theorem dX3_goToNextVersion_6 : decode cX3_goToNextVersion 6 = .ok (.iadd, 1) := by decide +kernel
theorem dX3_goToNextVersion_7 : decode cX3_goToNextVersion 7 = .ok (.putfield 42, 3) := by decide +kernel
theorem dX3_goToNextVersion_10 : decode cX3_goToNextVersion 10 = .ok (.aload_n 0, 1) := by decide +kernel
theorem dX3_goToNextVersion_11 : decode cX3_goToNextVersion 11 = .ok (.invokevirtual 114, 3) := by decide +kernel
theorem dX3_goToNextVersion_14 : decode cX3_goToNextVersion 14 = .ok (.pop, 1) := by decide +kernel
theorem dX3_goToNextVersion_15 : decode cX3_goToNextVersion 15 = .ok (.return_, 1) := by decide +kernel
theorem dX3_emptyPiles_0 : decode cX3_emptyPiles 0 = .ok (.iconst 0, 1) := by decide +kernel
theorem dX3_emptyPiles_1 : decode cX3_emptyPiles 1 = .ok (.istore_n 1, 1) := by decide +kernel
theorem dX3_emptyPiles_2 : decode cX3_emptyPiles 2 = .ok (.iconst 0, 1) := by decide +kernel
theorem dX3_emptyPiles_3 : decode cX3_emptyPiles 3 = .ok (.istore_n 2, 1) := by decide +kernel
theorem dX3_emptyPiles_4 : decode cX3_emptyPiles 4 = .ok (.iload_n 2, 1) := by decide +kernel
theorem dX3_emptyPiles_5 : decode cX3_emptyPiles 5 = .ok (.aload_n 0, 1) := by decide +kernel
theorem dX3_emptyPiles_6 : decode cX3_emptyPiles 6 = .ok (.getfield 17, 3) := by decide +kernel
theorem dX3_emptyPiles_9 : decode cX3_emptyPiles 9 = .ok (.arraylength, 1) := by decide +kernel
theorem dX3_emptyPiles_10 : decode cX3_emptyPiles 10 = .ok (.if_icmp .ge 21, 3) := by decide +kernel
theorem dX3_emptyPiles_13 : decode cX3_emptyPiles 13 = .ok (.iload_n 1, 1) := by decide +kernel
theorem dX3_emptyPiles_14 : decode cX3_emptyPiles 14 = .ok (.aload_n 0, 1) := by decide +kernel
theorem dX3_emptyPiles_15 : decode cX3_emptyPiles 15 = .ok (.getfield 17, 3) := by decide +kernel
theorem dX3_emptyPiles_18 : decode cX3_emptyPiles 18 = .ok (.iload_n 2, 1) := by decide +kernel
theorem dX3_emptyPiles_19 : decode cX3_emptyPiles 19 = .ok (.aaload, 1) := by decide +kernel
theorem dX3_emptyPiles_20 : decode cX3_emptyPiles 20 = .ok (.invokevirtual 152, 3) := by decide +kernel
theorem dX3_emptyPiles_23 : decode cX3_emptyPiles 23 = .ok (.iadd, 1) := by decide +kernel
theorem dX3_emptyPiles_24 : decode cX3_emptyPiles 24 = .ok (.istore_n 1, 1) := by decide +kernel
theorem dX3_emptyPiles_25 : decode cX3_emptyPiles 25 = .ok (.iinc 2 1, 3) := by decide +kernel
theorem dX3_emptyPiles_28 : decode cX3_emptyPiles 28 = .ok (.goto (-24), 3) := by decide +kernel
theorem dX3_emptyPiles_31 : decode cX3_emptyPiles 31 = .ok (.iload_n 1, 1) := by decide +kernel
theorem dX3_emptyPiles_32 : decode cX3_emptyPiles 32 = .ok (.ireturn, 1) := by decide +kernel
theorem dX3_noteRing_0 : decode cX3_noteRing 0 = .ok (.aload_n 0, 1) := by decide +kernel
theorem dX3_noteRing_1 : decode cX3_noteRing 1 = .ok (.getfield 22, 3) := by decide +kernel
theorem dX3_noteRing_4 : decode cX3_noteRing 4 = .ok (.iconst 0, 1) := by decide +kernel
theorem dX3_noteRing_5 : decode cX3_noteRing 5 = .ok (.aload_n 1, 1) := by decide +kernel
theorem dX3_noteRing_6 : decode cX3_noteRing 6 = .ok (.getfield 146, 3) := by decide +kernel
theorem dX3_noteRing_9 : decode cX3_noteRing 9 = .ok (.iastore, 1) := by decide +kernel
theorem dX3_noteRing_10 : decode cX3_noteRing 10 = .ok (.aload_n 0, 1) := by decide +kernel
theorem dX3_noteRing_11 : decode cX3_noteRing 11 = .ok (.iconst 1, 1) := by decide +kernel
theorem dX3_noteRing_12 : decode cX3_noteRing 12 = .ok (.putfield 82, 3) := by decide +kernel
theorem dX3_noteRing_15 : decode cX3_noteRing 15 = .ok (.aload_n 2, 1) := by decide +kernel
theorem dX3_noteRing_16 : decode cX3_noteRing 16 = .ok (.astore_n 3, 1) := by decide +kernel
theorem dX3_noteRing_17 : decode cX3_noteRing 17 = .ok (.aload_n 3, 1) := by decide +kernel
theorem dX3_noteRing_18 : decode cX3_noteRing 18 = .ok (.ifnull 49, 3) := by decide +kernel
theorem dX3_noteRing_21 : decode cX3_noteRing 21 = .ok (.aload_n 3, 1) := by decide +kernel
theorem dX3_noteRing_22 : decode cX3_noteRing 22 = .ok (.aload_n 1, 1) := by decide +kernel
theorem dX3_noteRing_23 : decode cX3_noteRing 23 = .ok (.if_acmp .eq 44, 3) := by decide +kernel
theorem dX3_noteRing_26 : decode cX3_noteRing 26 = .ok (.aload_n 0, 1) := by decide +kernel
theorem dX3_noteRing_27 : decode cX3_noteRing 27 = .ok (.getfield 82, 3) := by decide +kernel
theorem dX3_noteRing_30 : decode cX3_noteRing 30 = .ok (.bipush 40, 2) := by decide +kernel
theorem dX3_noteRing_32 : decode cX3_noteRing 32 = .ok (.if_icmp .ge 35, 3) := by decide +kernel
theorem dX3_noteRing_35 : decode cX3_noteRing 35 = .ok (.aload_n 0, 1) := by decide +kernel
theorem dX3_noteRing_36 : decode cX3_noteRing 36 = .ok (.getfield 22, 3) := by decide +kernel
theorem dX3_noteRing_39 : decode cX3_noteRing 39 = .ok (.aload_n 0, 1) := by decide +kernel
theorem dX3_noteRing_40 : decode cX3_noteRing 40 = .ok (.getfield 82, 3) := by decide +kernel
theorem dX3_noteRing_43 : decode cX3_noteRing 43 = .ok (.aload_n 3, 1) := by decide +kernel
theorem dX3_noteRing_44 : decode cX3_noteRing 44 = .ok (.getfield 146, 3) := by decide +kernel
theorem dX3_noteRing_47 : decode cX3_noteRing 47 = .ok (.iastore, 1) := by decide +kernel
theorem dX3_noteRing_48 : decode cX3_noteRing 48 = .ok (.aload_n 0, 1) := by decide +kernel
theorem dX3_noteRing_49 : decode cX3_noteRing 49 = .ok (.dup, 1) := by decide +kernel
theorem dX3_noteRing_50 : decode cX3_noteRing 50 = .ok (.getfield 82, 3) := by decide +kernel
theorem dX3_noteRing_53 : decode cX3_noteRing 53 = .ok (.iconst 1, 1) := by decide +kernel
theorem dX3_noteRing_54 : decode cX3_noteRing 54 = .ok (.iadd, 1) := by decide +kernel
theorem dX3_noteRing_55 : decode cX3_noteRing 55 = .ok (.putfield 82, 3) := by decide +kernel
theorem dX3_noteRing_58 : decode cX3_noteRing 58 = .ok (.aload_n 3, 1) := by decide +kernel
theorem dX3_noteRing_59 : decode cX3_noteRing 59 = .ok (.aload_n 1, 1) := by decide +kernel
theorem dX3_noteRing_60 : decode cX3_noteRing 60 = .ok (.invokevirtual 155, 3) := by decide +kernel
theorem dX3_noteRing_63 : decode cX3_noteRing 63 = .ok (.astore_n 3, 1) := by decide +kernel
theorem dX3_noteRing_64 : decode cX3_noteRing 64 = .ok (.goto (-47), 3) := by decide +kernel
theorem dX3_noteRing_67 : decode cX3_noteRing 67 = .ok (.return_, 1) := by decide +kernel
theorem dX3_spreadReach_0 : decode cX3_spreadReach 0 = .ok (.iconst 0, 1) := by decide +kernel
theorem dX3_spreadReach_1 : decode cX3_spreadReach 1 = .ok (.istore_n 3, 1) := by decide +kernel
theorem dX3_spreadReach_2 : decode cX3_spreadReach 2 = .ok (.iload_n 3, 1) := by decide +kernel
theorem dX3_spreadReach_3 : decode cX3_spreadReach 3 = .ok (.aload_n 0, 1) := by decide +kernel
theorem dX3_spreadReach_4 : decode cX3_spreadReach 4 = .ok (.getfield 26, 3) := by decide +kernel
theorem dX3_spreadReach_7 : decode cX3_spreadReach 7 = .ok (.if_icmp .ge 44, 3) := by decide +kernel
theorem dX3_spreadReach_10 : decode cX3_spreadReach 10 = .ok (.aload_n 0, 1) := by decide +kernel
theorem dX3_spreadReach_11 : decode cX3_spreadReach 11 = .ok (.iload_n 3, 1) := by decide +kernel
theorem dX3_spreadReach_12 : decode cX3_spreadReach 12 = .ok (.invokevirtual 56, 3) := by decide +kernel
theorem dX3_spreadReach_15 : decode cX3_spreadReach 15 = .ok (.astore 4, 2) := by decide +kernel
theorem dX3_spreadReach_17 : decode cX3_spreadReach 17 = .ok (.aload 4, 2) := by decide +kernel
theorem dX3_spreadReach_19 : decode cX3_spreadReach 19 = .ok (.ifnull 26, 3) := by decide +kernel
theorem dX3_spreadReach_22 : decode cX3_spreadReach 22 = .ok (.aload 4, 2) := by decide +kernel
theorem dX3_spreadReach_24 : decode cX3_spreadReach 24 = .ok (.aload_n 1, 1) := by decide +kernel
theorem dX3_spreadReach_25 : decode cX3_spreadReach 25 = .ok (.invokevirtual 62, 3) := by decide +kernel
theorem dX3_spreadReach_28 : decode cX3_spreadReach 28 = .ok (.ifCond .eq 17, 3) := by decide +kernel
theorem dX3_spreadReach_31 : decode cX3_spreadReach 31 = .ok (.aload 4, 2) := by decide +kernel
theorem dX3_spreadReach_33 : decode cX3_spreadReach 33 = .ok (.dup, 1) := by decide +kernel
theorem dX3_spreadReach_34 : decode cX3_spreadReach 34 = .ok (.getfield 159, 3) := by decide +kernel
theorem dX3_spreadReach_37 : decode cX3_spreadReach 37 = .ok (.aload_n 2, 1) := by decide +kernel
theorem dX3_spreadReach_38 : decode cX3_spreadReach 38 = .ok (.getfield 159, 3) := by decide +kernel
theorem dX3_spreadReach_41 : decode cX3_spreadReach 41 = .ok (.lor, 1) := by decide +kernel
theorem dX3_spreadReach_42 : decode cX3_spreadReach 42 = .ok (.putfield 159, 3) := by decide +kernel
theorem dX3_spreadReach_45 : decode cX3_spreadReach 45 = .ok (.iinc 3 1, 3) := by decide +kernel
theorem dX3_spreadReach_48 : decode cX3_spreadReach 48 = .ok (.goto (-46), 3) := by decide +kernel
theorem dX3_spreadReach_51 : decode cX3_spreadReach 51 = .ok (.return_, 1) := by decide +kernel
theorem dX3_runOnOwnPile_0 : decode cX3_runOnOwnPile 0 = .ok (.aload_n 0, 1) := by decide +kernel
theorem dX3_runOnOwnPile_1 : decode cX3_runOnOwnPile 1 = .ok (.getfield 17, 3) := by decide +kernel
theorem dX3_runOnOwnPile_4 : decode cX3_runOnOwnPile 4 = .ok (.iconst 4, 1) := by decide +kernel
theorem dX3_runOnOwnPile_5 : decode cX3_runOnOwnPile 5 = .ok (.aaload, 1) := by decide +kernel
theorem dX3_runOnOwnPile_6 : decode cX3_runOnOwnPile 6 = .ok (.astore_n 2, 1) := by decide +kernel
theorem dX3_runOnOwnPile_7 : decode cX3_runOnOwnPile 7 = .ok (.aload_n 2, 1) := by decide +kernel
theorem dX3_runOnOwnPile_8 : decode cX3_runOnOwnPile 8 = .ok (.aload_n 1, 1) := by decide +kernel
theorem dX3_runOnOwnPile_9 : decode cX3_runOnOwnPile 9 = .ok (.invokevirtual 106, 3) := by decide +kernel
theorem dX3_runOnOwnPile_12 : decode cX3_runOnOwnPile 12 = .ok (.iconst 0, 1) := by decide +kernel
theorem dX3_runOnOwnPile_13 : decode cX3_runOnOwnPile 13 = .ok (.istore_n 3, 1) := by decide +kernel
theorem dX3_runOnOwnPile_14 : decode cX3_runOnOwnPile 14 = .ok (.aload_n 2, 1) := by decide +kernel
theorem dX3_runOnOwnPile_15 : decode cX3_runOnOwnPile 15 = .ok (.getfield 97, 3) := by decide +kernel
theorem dX3_runOnOwnPile_18 : decode cX3_runOnOwnPile 18 = .ok (.ifCond .le 32, 3) := by decide +kernel
theorem dX3_runOnOwnPile_21 : decode cX3_runOnOwnPile 21 = .ok (.iload_n 3, 1) := by decide +kernel
theorem dX3_runOnOwnPile_22 : decode cX3_runOnOwnPile 22 = .ok (.ldc 162, 2) := by decide +kernel
theorem dX3_runOnOwnPile_24 : decode cX3_runOnOwnPile 24 = .ok (.if_icmp .ge 26, 3) := by decide +kernel
theorem dX3_runOnOwnPile_27 : decode cX3_runOnOwnPile 27 = .ok (.aload_n 0, 1) := by decide +kernel
theorem dX3_runOnOwnPile_28 : decode cX3_runOnOwnPile 28 = .ok (.aload_n 2, 1) := by decide +kernel
theorem dX3_runOnOwnPile_29 : decode cX3_runOnOwnPile 29 = .ok (.invokevirtual 110, 3) := by decide +kernel
theorem dX3_runOnOwnPile_32 : decode cX3_runOnOwnPile 32 = .ok (.iconst 3, 1) := by decide +kernel
theorem dX3_runOnOwnPile_33 : decode cX3_runOnOwnPile 33 = .ok (.if_icmp .ne 11, 3) := by decide +kernel
theorem dX3_runOnOwnPile_36 : decode cX3_runOnOwnPile 36 = .ok (.aload_n 2, 1) := by decide +kernel
theorem dX3_runOnOwnPile_37 : decode cX3_runOnOwnPile 37 = .ok (.invokevirtual 152, 3) := by decide +kernel
theorem dX3_runOnOwnPile_40 : decode cX3_runOnOwnPile 40 = .ok (.pop, 1) := by decide +kernel
theorem dX3_runOnOwnPile_41 : decode cX3_runOnOwnPile 41 = .ok (.bipush (-2), 2) := by decide +kernel
theorem dX3_runOnOwnPile_43 : decode cX3_runOnOwnPile 43 = .ok (.ireturn, 1) := by decide +kernel
theorem dX3_runOnOwnPile_44 : decode cX3_runOnOwnPile 44 = .ok (.iinc 3 1, 3) := by decide +kernel
theorem dX3_runOnOwnPile_47 : decode cX3_runOnOwnPile 47 = .ok (.goto (-33), 3) := by decide +kernel
theorem dX3_runOnOwnPile_50 : decode cX3_runOnOwnPile 50 = .ok (.aload_n 1, 1) := by decide +kernel
theorem dX3_runOnOwnPile_51 : decode cX3_runOnOwnPile 51 = .ok (.getfield 35, 3) := by decide +kernel
theorem dX3_runOnOwnPile_54 : decode cX3_runOnOwnPile 54 = .ok (.ireturn, 1) := by decide +kernel
theorem dX3_goOn_0 : decode cX3_goOn 0 = .ok (.aload_n 1, 1) := by decide +kernel
theorem dX3_goOn_1 : decode cX3_goOn 1 = .ok (.invokevirtual 163, 3) := by decide +kernel
theorem dX3_goOn_4 : decode cX3_goOn 4 = .ok (.astore_n 2, 1) := by decide +kernel
theorem dX3_goOn_5 : decode cX3_goOn 5 = .ok (.aload_n 2, 1) := by decide +kernel
theorem dX3_goOn_6 : decode cX3_goOn 6 = .ok (.ifnonnull 5, 3) := by decide +kernel
theorem dX3_goOn_9 : decode cX3_goOn 9 = .ok (.iconst 0, 1) := by decide +kernel
theorem dX3_goOn_10 : decode cX3_goOn 10 = .ok (.ireturn, 1) := by decide +kernel
theorem dX3_goOn_11 : decode cX3_goOn 11 = .ok (.aload_n 2, 1) := by decide +kernel
theorem dX3_goOn_12 : decode cX3_goOn 12 = .ok (.getfield 167, 3) := by decide +kernel
theorem dX3_goOn_15 : decode cX3_goOn 15 = .ok (.getfield 171, 3) := by decide +kernel
theorem dX3_goOn_18 : decode cX3_goOn 18 = .ok (.ifCond .eq 12, 3) := by decide +kernel
theorem dX3_goOn_21 : decode cX3_goOn 21 = .ok (.aload_n 0, 1) := by decide +kernel
theorem dX3_goOn_22 : decode cX3_goOn 22 = .ok (.aload_n 2, 1) := by decide +kernel
theorem dX3_goOn_23 : decode cX3_goOn 23 = .ok (.aload_n 1, 1) := by decide +kernel
theorem dX3_goOn_24 : decode cX3_goOn 24 = .ok (.invokevirtual 174, 3) := by decide +kernel
theorem dX3_goOn_27 : decode cX3_goOn 27 = .ok (.goto 9, 3) := by decide +kernel
theorem dX3_goOn_30 : decode cX3_goOn 30 = .ok (.aload_n 0, 1) := by decide +kernel
theorem dX3_goOn_31 : decode cX3_goOn 31 = .ok (.aload_n 2, 1) := by decide +kernel
theorem dX3_goOn_32 : decode cX3_goOn 32 = .ok (.aload_n 1, 1) := by decide +kernel
theorem dX3_goOn_33 : decode cX3_goOn 33 = .ok (.invokevirtual 178, 3) := by decide +kernel
theorem dX3_goOn_36 : decode cX3_goOn 36 = .ok (.ireturn, 1) := by decide +kernel
theorem dX3_goOnChecking_0 : decode cX3_goOnChecking 0 = .ok (.aload_n 1, 1) := by decide +kernel
theorem dX3_goOnChecking_1 : decode cX3_goOnChecking 1 = .ok (.aload_n 1, 1) := by decide +kernel
theorem dX3_goOnChecking_2 : decode cX3_goOnChecking 2 = .ok (.aload_n 1, 1) := by decide +kernel
theorem dX3_goOnChecking_3 : decode cX3_goOnChecking 3 = .ok (.getfield 167, 3) := by decide +kernel
theorem dX3_goOnChecking_6 : decode cX3_goOnChecking 6 = .ok (.getfield 181, 3) := by decide +kernel
theorem dX3_goOnChecking_9 : decode cX3_goOnChecking 9 = .ok (.invokevirtual 142, 3) := by decide +kernel
theorem dX3_goOnChecking_12 : decode cX3_goOnChecking 12 = .ok (.invokevirtual 184, 3) := by decide +kernel
theorem dX3_goOnChecking_15 : decode cX3_goOnChecking 15 = .ok (.astore_n 3, 1) := by decide +kernel
theorem dX3_goOnChecking_16 : decode cX3_goOnChecking 16 = .ok (.aload_n 3, 1) := by decide +kernel
theorem dX3_goOnChecking_17 : decode cX3_goOnChecking 17 = .ok (.ifnonnull 21, 3) := by decide +kernel
theorem dX3_goOnChecking_20 : decode cX3_goOnChecking 20 = .ok (.aload_n 1, 1) := by decide +kernel
theorem dX3_goOnChecking_21 : decode cX3_goOnChecking 21 = .ok (.dup, 1) := by decide +kernel
theorem dX3_goOnChecking_22 : decode cX3_goOnChecking 22 = .ok (.getfield 136, 3) := by decide +kernel
theorem dX3_goOnChecking_25 : decode cX3_goOnChecking 25 = .ok (.iconst 1, 1) := by decide +kernel
theorem dX3_goOnChecking_26 : decode cX3_goOnChecking 26 = .ok (.iadd, 1) := by decide +kernel
theorem dX3_goOnChecking_27 : decode cX3_goOnChecking 27 = .ok (.putfield 136, 3) := by decide +kernel
theorem dX3_goOnChecking_30 : decode cX3_goOnChecking 30 = .ok (.aload_n 0, 1) := by decide +kernel
theorem dX3_goOnChecking_31 : decode cX3_goOnChecking 31 = .ok (.aload_n 1, 1) := by decide +kernel
theorem dX3_goOnChecking_32 : decode cX3_goOnChecking 32 = .ok (.aload_n 2, 1) := by decide +kernel
theorem dX3_goOnChecking_33 : decode cX3_goOnChecking 33 = .ok (.invokevirtual 187, 3) := by decide +kernel
theorem dX3_goOnChecking_36 : decode cX3_goOnChecking 36 = .ok (.iconst 2, 1) := by decide +kernel
theorem dX3_goOnChecking_37 : decode cX3_goOnChecking 37 = .ok (.ireturn, 1) := by decide +kernel
theorem dX3_goOnChecking_38 : decode cX3_goOnChecking 38 = .ok (.aload_n 0, 1) := by decide +kernel
theorem dX3_goOnChecking_39 : decode cX3_goOnChecking 39 = .ok (.aload_n 3, 1) := by decide +kernel
theorem dX3_goOnChecking_40 : decode cX3_goOnChecking 40 = .ok (.invokevirtual 100, 3) := by decide +kernel
theorem dX3_goOnChecking_43 : decode cX3_goOnChecking 43 = .ok (.ifCond .ne 9, 3) := by decide +kernel
theorem dX3_goOnChecking_46 : decode cX3_goOnChecking 46 = .ok (.aload_n 3, 1) := by decide +kernel
theorem dX3_goOnChecking_47 : decode cX3_goOnChecking 47 = .ok (.aload_n 2, 1) := by decide +kernel
theorem dX3_goOnChecking_48 : decode cX3_goOnChecking 48 = .ok (.invokestatic 191, 3) := by decide +kernel
theorem dX3_goOnChecking_51 : decode cX3_goOnChecking 51 = .ok (.ireturn, 1) := by decide +kernel
theorem dX3_goOnChecking_52 : decode cX3_goOnChecking 52 = .ok (.aload_n 3, 1) := by decide +kernel
theorem dX3_goOnChecking_53 : decode cX3_goOnChecking 53 = .ok (.getfield 45, 3) := by decide +kernel
theorem dX3_goOnChecking_56 : decode cX3_goOnChecking 56 = .ok (.aload_n 1, 1) := by decide +kernel
theorem dX3_goOnChecking_57 : decode cX3_goOnChecking 57 = .ok (.getfield 149, 3) := by decide +kernel
theorem dX3_goOnChecking_60 : decode cX3_goOnChecking 60 = .ok (.if_icmp .le 13, 3) := by decide +kernel
theorem dX3_goOnChecking_63 : decode cX3_goOnChecking 63 = .ok (.aload_n 1, 1) := by decide +kernel
theorem dX3_goOnChecking_64 : decode cX3_goOnChecking 64 = .ok (.getfield 167, 3) := by decide +kernel
theorem dX3_goOnChecking_67 : decode cX3_goOnChecking 67 = .ok (.aload_n 1, 1) := by decide +kernel
theorem dX3_goOnChecking_68 : decode cX3_goOnChecking 68 = .ok (.invokevirtual 194, 3) := by decide +kernel
theorem dX3_goOnChecking_71 : decode cX3_goOnChecking 71 = .ok (.iconst 5, 1) := by decide +kernel
theorem dX3_goOnChecking_72 : decode cX3_goOnChecking 72 = .ok (.ireturn, 1) := by decide +kernel
theorem dX3_goOnChecking_73 : decode cX3_goOnChecking 73 = .ok (.aload_n 1, 1) := by decide +kernel
theorem dX3_goOnChecking_74 : decode cX3_goOnChecking 74 = .ok (.getfield 167, 3) := by decide +kernel
theorem dX3_goOnChecking_77 : decode cX3_goOnChecking 77 = .ok (.dup, 1) := by decide +kernel
theorem dX3_goOnChecking_78 : decode cX3_goOnChecking 78 = .ok (.getfield 181, 3) := by decide +kernel
theorem dX3_goOnChecking_81 : decode cX3_goOnChecking 81 = .ok (.iconst 1, 1) := by decide +kernel
theorem dX3_goOnChecking_82 : decode cX3_goOnChecking 82 = .ok (.iadd, 1) := by decide +kernel
theorem dX3_goOnChecking_83 : decode cX3_goOnChecking 83 = .ok (.putfield 181, 3) := by decide +kernel
theorem dX3_goOnChecking_86 : decode cX3_goOnChecking 86 = .ok (.iconst 4, 1) := by decide +kernel
theorem dX3_goOnChecking_87 : decode cX3_goOnChecking 87 = .ok (.ireturn, 1) := by decide +kernel
theorem dX3_goOnWorking_0 : decode cX3_goOnWorking 0 = .ok (.aload_n 1, 1) := by decide +kernel
theorem dX3_goOnWorking_1 : decode cX3_goOnWorking 1 = .ok (.getfield 167, 3) := by decide +kernel
theorem dX3_goOnWorking_4 : decode cX3_goOnWorking 4 = .ok (.aload_n 1, 1) := by decide +kernel
theorem dX3_goOnWorking_5 : decode cX3_goOnWorking 5 = .ok (.invokevirtual 197, 3) := by decide +kernel
theorem dX3_goOnWorking_8 : decode cX3_goOnWorking 8 = .ok (.istore_n 3, 1) := by decide +kernel
theorem dX3_goOnWorking_9 : decode cX3_goOnWorking 9 = .ok (.aload_n 1, 1) := by decide +kernel
theorem dX3_goOnWorking_10 : decode cX3_goOnWorking 10 = .ok (.iload_n 3, 1) := by decide +kernel
theorem dX3_goOnWorking_11 : decode cX3_goOnWorking 11 = .ok (.invokevirtual 184, 3) := by decide +kernel
theorem dX3_goOnWorking_14 : decode cX3_goOnWorking 14 = .ok (.astore 4, 2) := by decide +kernel
theorem dX3_goOnWorking_16 : decode cX3_goOnWorking 16 = .ok (.aload 4, 2) := by decide +kernel
theorem dX3_goOnWorking_18 : decode cX3_goOnWorking 18 = .ok (.ifnonnull 26, 3) := by decide +kernel
theorem dX3_goOnWorking_21 : decode cX3_goOnWorking 21 = .ok (.aload_n 0, 1) := by decide +kernel
theorem dX3_goOnWorking_22 : decode cX3_goOnWorking 22 = .ok (.aload_n 1, 1) := by decide +kernel
theorem dX3_goOnWorking_23 : decode cX3_goOnWorking 23 = .ok (.aload_n 2, 1) := by decide +kernel
theorem dX3_goOnWorking_24 : decode cX3_goOnWorking 24 = .ok (.aload_n 1, 1) := by decide +kernel
theorem dX3_goOnWorking_25 : decode cX3_goOnWorking 25 = .ok (.getfield 167, 3) := by decide +kernel
theorem dX3_goOnWorking_28 : decode cX3_goOnWorking 28 = .ok (.getfield 200, 3) := by decide +kernel
theorem dX3_goOnWorking_31 : decode cX3_goOnWorking 31 = .ok (.ifCond .eq 7, 3) := by decide +kernel
theorem dX3_goOnWorking_34 : decode cX3_goOnWorking 34 = .ok (.iconst 2, 1) := by decide +kernel
theorem dX3_goOnWorking_35 : decode cX3_goOnWorking 35 = .ok (.goto 4, 3) := by decide +kernel
theorem dX3_goOnWorking_38 : decode cX3_goOnWorking 38 = .ok (.iconst 1, 1) := by decide +kernel
theorem dX3_goOnWorking_39 : decode cX3_goOnWorking 39 = .ok (.invokevirtual 203, 3) := by decide +kernel
theorem dX3_goOnWorking_42 : decode cX3_goOnWorking 42 = .ok (.iconst 2, 1) := by decide +kernel
theorem dX3_goOnWorking_43 : decode cX3_goOnWorking 43 = .ok (.ireturn, 1) := by decide +kernel
theorem dX3_goOnWorking_44 : decode cX3_goOnWorking 44 = .ok (.aload_n 0, 1) := by decide +kernel
theorem dX3_goOnWorking_45 : decode cX3_goOnWorking 45 = .ok (.aload 4, 2) := by decide +kernel
theorem dX3_goOnWorking_47 : decode cX3_goOnWorking 47 = .ok (.invokevirtual 100, 3) := by decide +kernel
theorem dX3_goOnWorking_50 : decode cX3_goOnWorking 50 = .ok (.ifCond .ne 10, 3) := by decide +kernel
theorem dX3_goOnWorking_53 : decode cX3_goOnWorking 53 = .ok (.aload 4, 2) := by decide +kernel
theorem dX3_goOnWorking_55 : decode cX3_goOnWorking 55 = .ok (.aload_n 2, 1) := by decide +kernel
theorem dX3_goOnWorking_56 : decode cX3_goOnWorking 56 = .ok (.invokestatic 191, 3) := by decide +kernel
theorem dX3_goOnWorking_59 : decode cX3_goOnWorking 59 = .ok (.ireturn, 1) := by decide +kernel
theorem dX3_goOnWorking_60 : decode cX3_goOnWorking 60 = .ok (.aload 4, 2) := by decide +kernel
theorem dX3_goOnWorking_62 : decode cX3_goOnWorking 62 = .ok (.getfield 35, 3) := by decide +kernel
theorem dX3_goOnWorking_65 : decode cX3_goOnWorking 65 = .ok (.iconst 1, 1) := by decide +kernel
theorem dX3_goOnWorking_66 : decode cX3_goOnWorking 66 = .ok (.if_icmp .eq 20, 3) := by decide +kernel
theorem dX3_goOnWorking_69 : decode cX3_goOnWorking 69 = .ok (.aload_n 1, 1) := by decide +kernel
theorem dX3_goOnWorking_70 : decode cX3_goOnWorking 70 = .ok (.getfield 167, 3) := by decide +kernel
theorem dX3_goOnWorking_73 : decode cX3_goOnWorking 73 = .ok (.iload_n 3, 1) := by decide +kernel
theorem dX3_goOnWorking_74 : decode cX3_goOnWorking 74 = .ok (.invokevirtual 207, 3) := by decide +kernel
theorem dX3_goOnWorking_77 : decode cX3_goOnWorking 77 = .ok (.aload_n 0, 1) := by decide +kernel
theorem dX3_goOnWorking_78 : decode cX3_goOnWorking 78 = .ok (.aload_n 1, 1) := by decide +kernel
theorem dX3_goOnWorking_79 : decode cX3_goOnWorking 79 = .ok (.aload_n 2, 1) := by decide +kernel
theorem dX3_goOnWorking_80 : decode cX3_goOnWorking 80 = .ok (.iconst 3, 1) := by decide +kernel
theorem dX3_goOnWorking_81 : decode cX3_goOnWorking 81 = .ok (.invokevirtual 203, 3) := by decide +kernel
theorem dX3_goOnWorking_84 : decode cX3_goOnWorking 84 = .ok (.iconst 2, 1) := by decide +kernel
theorem dX3_goOnWorking_85 : decode cX3_goOnWorking 85 = .ok (.ireturn, 1) := by decide +kernel
theorem dX3_goOnWorking_86 : decode cX3_goOnWorking 86 = .ok (.aload_n 1, 1) := by decide +kernel
theorem dX3_goOnWorking_87 : decode cX3_goOnWorking 87 = .ok (.getfield 167, 3) := by decide +kernel
theorem dX3_goOnWorking_90 : decode cX3_goOnWorking 90 = .ok (.aload_n 1, 1) := by decide +kernel
theorem dX3_goOnWorking_91 : decode cX3_goOnWorking 91 = .ok (.aload 4, 2) := by decide +kernel
theorem dX3_goOnWorking_93 : decode cX3_goOnWorking 93 = .ok (.getfield 38, 3) := by decide +kernel
theorem dX3_goOnWorking_96 : decode cX3_goOnWorking 96 = .ok (.invokevirtual 211, 3) := by decide +kernel
theorem dX3_goOnWorking_99 : decode cX3_goOnWorking 99 = .ok (.aload_n 1, 1) := by decide +kernel
theorem dX3_goOnWorking_100 : decode cX3_goOnWorking 100 = .ok (.getfield 167, 3) := by decide +kernel
theorem dX3_goOnWorking_103 : decode cX3_goOnWorking 103 = .ok (.iload_n 3, 1) := by decide +kernel
theorem dX3_goOnWorking_104 : decode cX3_goOnWorking 104 = .ok (.invokevirtual 207, 3) := by decide +kernel
theorem dX3_goOnWorking_107 : decode cX3_goOnWorking 107 = .ok (.bipush 6, 2) := by decide +kernel
theorem dX3_goOnWorking_109 : decode cX3_goOnWorking 109 = .ok (.ireturn, 1) := by decide +kernel
theorem dX3_findFirst_0 : decode cX3_findFirst 0 = .ok (.aload_n 0, 1) := by decide +kernel
theorem dX3_findFirst_1 : decode cX3_findFirst 1 = .ok (.getfield 103, 3) := by decide +kernel
theorem dX3_findFirst_4 : decode cX3_findFirst 4 = .ok (.ifCond .eq 5, 3) := by decide +kernel
theorem dX3_findFirst_7 : decode cX3_findFirst 7 = .ok (.iconst 3, 1) := by decide +kernel
theorem dX3_findFirst_8 : decode cX3_findFirst 8 = .ok (.ireturn, 1) := by decide +kernel
theorem dX3_findFirst_9 : decode cX3_findFirst 9 = .ok (.aload_n 1, 1) := by decide +kernel
theorem dX3_findFirst_10 : decode cX3_findFirst 10 = .ok (.aload_n 0, 1) := by decide +kernel
theorem dX3_findFirst_11 : decode cX3_findFirst 11 = .ok (.invokevirtual 106, 3) := by decide +kernel
theorem dX3_findFirst_14 : decode cX3_findFirst 14 = .ok (.iconst 1, 1) := by decide +kernel
theorem dX3_findFirst_15 : decode cX3_findFirst 15 = .ok (.ireturn, 1) := by decide +kernel
theorem dX3_endWork_0 : decode cX3_endWork 0 = .ok (.iload_n 3, 1) := by decide +kernel
theorem dX3_endWork_1 : decode cX3_endWork 1 = .ok (.iconst 1, 1) := by decide +kernel
theorem dX3_endWork_2 : decode cX3_endWork 2 = .ok (.if_icmp .ne 14, 3) := by decide +kernel
theorem dX3_endWork_5 : decode cX3_endWork 5 = .ok (.aload_n 1, 1) := by decide +kernel
theorem dX3_endWork_6 : decode cX3_endWork 6 = .ok (.getfield 167, 3) := by decide +kernel
theorem dX3_endWork_9 : decode cX3_endWork 9 = .ok (.aload_n 1, 1) := by decide +kernel
theorem dX3_endWork_10 : decode cX3_endWork 10 = .ok (.invokevirtual 215, 3) := by decide +kernel
theorem dX3_endWork_13 : decode cX3_endWork 13 = .ok (.goto 4, 3) := by decide +kernel
theorem dX3_endWork_16 : decode cX3_endWork 16 = .ok (.lconst 0, 1) := by decide +kernel
theorem dX3_endWork_17 : decode cX3_endWork 17 = .ok (.lstore 4, 2) := by decide +kernel
theorem dX3_endWork_19 : decode cX3_endWork 19 = .ok (.aload_n 1, 1) := by decide +kernel
theorem dX3_endWork_20 : decode cX3_endWork 20 = .ok (.getfield 139, 3) := by decide +kernel
theorem dX3_endWork_23 : decode cX3_endWork 23 = .ok (.ifCond .eq 21, 3) := by decide +kernel
theorem dX3_endWork_26 : decode cX3_endWork 26 = .ok (.aload_n 1, 1) := by decide +kernel
theorem dX3_endWork_27 : decode cX3_endWork 27 = .ok (.getfield 35, 3) := by decide +kernel
theorem dX3_endWork_30 : decode cX3_endWork 30 = .ok (.iload_n 3, 1) := by decide +kernel
theorem dX3_endWork_31 : decode cX3_endWork 31 = .ok (.if_icmp .ne 13, 3) := by decide +kernel
theorem dX3_endWork_34 : decode cX3_endWork 34 = .ok (.aload_n 1, 1) := by decide +kernel
theorem dX3_endWork_35 : decode cX3_endWork 35 = .ok (.getfield 38, 3) := by decide +kernel
theorem dX3_endWork_38 : decode cX3_endWork 38 = .ok (.lload 4, 2) := by decide +kernel
theorem dX3_endWork_40 : decode cX3_endWork 40 = .ok (.lcmp, 1) := by decide +kernel
theorem dX3_endWork_41 : decode cX3_endWork 41 = .ok (.ifCond .eq 11, 3) := by decide +kernel
theorem dX3_endWork_44 : decode cX3_endWork 44 = .ok (.aload_n 1, 1) := by decide +kernel
theorem dX3_endWork_45 : decode cX3_endWork 45 = .ok (.aload_n 0, 1) := by decide +kernel
theorem dX3_endWork_46 : decode cX3_endWork 46 = .ok (.getfield 42, 3) := by decide +kernel
theorem dX3_endWork_49 : decode cX3_endWork 49 = .ok (.putfield 45, 3) := by decide +kernel
theorem dX3_endWork_52 : decode cX3_endWork 52 = .ok (.aload_n 1, 1) := by decide +kernel
theorem dX3_endWork_53 : decode cX3_endWork 53 = .ok (.iload_n 3, 1) := by decide +kernel
theorem dX3_endWork_54 : decode cX3_endWork 54 = .ok (.putfield 35, 3) := by decide +kernel
theorem dX3_endWork_57 : decode cX3_endWork 57 = .ok (.aload_n 1, 1) := by decide +kernel
theorem dX3_endWork_58 : decode cX3_endWork 58 = .ok (.lload 4, 2) := by decide +kernel
theorem dX3_endWork_60 : decode cX3_endWork 60 = .ok (.putfield 38, 3) := by decide +kernel
theorem dX3_endWork_63 : decode cX3_endWork 63 = .ok (.aload_n 1, 1) := by decide +kernel
theorem dX3_endWork_64 : decode cX3_endWork 64 = .ok (.iconst 1, 1) := by decide +kernel
theorem dX3_endWork_65 : decode cX3_endWork 65 = .ok (.putfield 139, 3) := by decide +kernel
theorem dX3_endWork_68 : decode cX3_endWork 68 = .ok (.aload_n 1, 1) := by decide +kernel
theorem dX3_endWork_69 : decode cX3_endWork 69 = .ok (.dup, 1) := by decide +kernel
theorem dX3_endWork_70 : decode cX3_endWork 70 = .ok (.getfield 133, 3) := by decide +kernel
theorem dX3_endWork_73 : decode cX3_endWork 73 = .ok (.iconst 1, 1) := by decide +kernel
theorem dX3_endWork_74 : decode cX3_endWork 74 = .ok (.iadd, 1) := by decide +kernel
theorem dX3_endWork_75 : decode cX3_endWork 75 = .ok (.putfield 133, 3) := by decide +kernel
theorem dX3_endWork_78 : decode cX3_endWork 78 = .ok (.aload_n 1, 1) := by decide +kernel
theorem dX3_endWork_79 : decode cX3_endWork 79 = .ok (.invokevirtual 219, 3) := by decide +kernel
theorem dX3_endWork_82 : decode cX3_endWork 82 = .ok (.aload_n 0, 1) := by decide +kernel
theorem dX3_endWork_83 : decode cX3_endWork 83 = .ok (.aload_n 1, 1) := by decide +kernel
theorem dX3_endWork_84 : decode cX3_endWork 84 = .ok (.aload_n 2, 1) := by decide +kernel
theorem dX3_endWork_85 : decode cX3_endWork 85 = .ok (.invokevirtual 187, 3) := by decide +kernel
theorem dX3_endWork_88 : decode cX3_endWork 88 = .ok (.return_, 1) := by decide +kernel
theorem dX3_makeSure_0 : decode cX3_makeSure 0 = .ok (.aload_n 1, 1) := by decide +kernel
theorem dX3_makeSure_1 : decode cX3_makeSure 1 = .ok (.aload_n 0, 1) := by decide +kernel
theorem dX3_makeSure_2 : decode cX3_makeSure 2 = .ok (.getfield 42, 3) := by decide +kernel
theorem dX3_makeSure_5 : decode cX3_makeSure 5 = .ok (.putfield 149, 3) := by decide +kernel
theorem dX3_makeSure_8 : decode cX3_makeSure 8 = .ok (.aload_n 2, 1) := by decide +kernel
theorem dX3_makeSure_9 : decode cX3_makeSure 9 = .ok (.invokevirtual 222, 3) := by decide +kernel
theorem dX3_makeSure_12 : decode cX3_makeSure 12 = .ok (.return_, 1) := by decide +kernel
