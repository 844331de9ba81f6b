theorem dX4_init_0 : decode cX4_init 0 = .ok (.aload_n 0, 1) := by decide +kernel
theorem dX4_init_1 : decode cX4_init 1 = .ok (.invokespecial 1, 3) := by decide +kernel
theorem dX4_init_4 : decode cX4_init 4 = .ok (.aload_n 0, 1) := by decide +kernel
theorem dX4_init_5 : decode cX4_init 5 = .ok (.bipush 40, 2) := by decide +kernel
theorem dX4_init_7 : decode cX4_init 7 = .ok (.newarray .int, 2) := by decide +kernel
theorem dX4_init_9 : decode cX4_init 9 = .ok (.putfield 7, 3) := by decide +kernel
theorem dX4_init_12 : decode cX4_init 12 = .ok (.aload_n 0, 1) := by decide +kernel
theorem dX4_init_13 : decode cX4_init 13 = .ok (.bipush 40, 2) := by decide +kernel
theorem dX4_init_15 : decode cX4_init 15 = .ok (.newarray .int, 2) := by decide +kernel
theorem dX4_init_17 : decode cX4_init 17 = .ok (.putfield 13, 3) := by decide +kernel
theorem dX4_init_20 : decode cX4_init 20 = .ok (.aload_n 0, 1) := by decide +kernel
theorem dX4_init_21 : decode cX4_init 21 = .ok (.sipush 320, 3) := by decide +kernel
theorem dX4_init_24 : decode cX4_init 24 = .ok (.newarray .int, 2) := by decide +kernel
theorem dX4_init_26 : decode cX4_init 26 = .ok (.putfield 16, 3) := by decide +kernel
theorem dX4_init_29 : decode cX4_init 29 = .ok (.aload_n 0, 1) := by decide +kernel
theorem dX4_init_30 : decode cX4_init 30 = .ok (.bipush 40, 2) := by decide +kernel
theorem dX4_init_32 : decode cX4_init 32 = .ok (.newarray .int, 2) := by decide +kernel
theorem dX4_init_34 : decode cX4_init 34 = .ok (.putfield 19, 3) := by decide +kernel
theorem dX4_init_37 : decode cX4_init 37 = .ok (.aload_n 0, 1) := by decide +kernel
theorem dX4_init_38 : decode cX4_init 38 = .ok (.bipush 40, 2) := by decide +kernel
theorem dX4_init_40 : decode cX4_init 40 = .ok (.newarray .int, 2) := by decide +kernel
theorem dX4_init_42 : decode cX4_init 42 = .ok (.putfield 22, 3) := by decide +kernel
theorem dX4_init_45 : decode cX4_init 45 = .ok (.aload_n 0, 1) := by decide +kernel
theorem dX4_init_46 : decode cX4_init 46 = .ok (.bipush 40, 2) := by decide +kernel
theorem dX4_init_48 : decode cX4_init 48 = .ok (.newarray .int, 2) := by decide +kernel
theorem dX4_init_50 : decode cX4_init 50 = .ok (.putfield 25, 3) := by decide +kernel
theorem dX4_init_53 : decode cX4_init 53 = .ok (.aload_n 0, 1) := by decide +kernel
theorem dX4_init_54 : decode cX4_init 54 = .ok (.bipush 40, 2) := by decide +kernel
theorem dX4_init_56 : decode cX4_init 56 = .ok (.newarray .int, 2) := by decide +kernel
theorem dX4_init_58 : decode cX4_init 58 = .ok (.putfield 28, 3) := by decide +kernel
theorem dX4_init_61 : decode cX4_init 61 = .ok (.aload_n 0, 1) := by decide +kernel
theorem dX4_init_62 : decode cX4_init 62 = .ok (.bipush 40, 2) := by decide +kernel
theorem dX4_init_64 : decode cX4_init 64 = .ok (.newarray .int, 2) := by decide +kernel
theorem dX4_init_66 : decode cX4_init 66 = .ok (.putfield 31, 3) := by decide +kernel
theorem dX4_init_69 : decode cX4_init 69 = .ok (.aload_n 0, 1) := by decide +kernel
theorem dX4_init_70 : decode cX4_init 70 = .ok (.sipush 320, 3) := by decide +kernel
theorem dX4_init_73 : decode cX4_init 73 = .ok (.newarray .int, 2) := by decide +kernel
theorem dX4_init_75 : decode cX4_init 75 = .ok (.putfield 34, 3) := by decide +kernel
theorem dX4_init_78 : decode cX4_init 78 = .ok (.aload_n 0, 1) := by decide +kernel
theorem dX4_init_79 : decode cX4_init 79 = .ok (.bipush 40, 2) := by decide +kernel
theorem dX4_init_81 : decode cX4_init 81 = .ok (.newarray .int, 2) := by decide +kernel
theorem dX4_init_83 : decode cX4_init 83 = .ok (.putfield 37, 3) := by decide +kernel
theorem dX4_init_86 : decode cX4_init 86 = .ok (.aload_n 0, 1) := by decide +kernel
theorem dX4_init_87 : decode cX4_init 87 = .ok (.bipush 40, 2) := by decide +kernel
theorem dX4_init_89 : decode cX4_init 89 = .ok (.newarray .int, 2) := by decide +kernel
theorem dX4_init_91 : decode cX4_init 91 = .ok (.putfield 40, 3) := by decide +kernel
theorem dX4_init_94 : decode cX4_init 94 = .ok (.aload_n 0, 1) := by decide +kernel
theorem dX4_init_95 : decode cX4_init 95 = .ok (.bipush 40, 2) := by decide +kernel
theorem dX4_init_97 : decode cX4_init 97 = .ok (.newarray .long, 2) := by decide +kernel
theorem dX4_init_99 : decode cX4_init 99 = .ok (.putfield 43, 3) := by decide +kernel
theorem dX4_init_102 : decode cX4_init 102 = .ok (.aload_n 0, 1) := by decide +kernel
theorem dX4_init_103 : decode cX4_init 103 = .ok (.bipush 40, 2) := by decide +kernel
theorem dX4_init_105 : decode cX4_init 105 = .ok (.newarray .boolean, 2) := by decide +kernel
theorem dX4_init_107 : decode cX4_init 107 = .ok (.putfield 47, 3) := by decide +kernel
theorem dX4_init_110 : decode cX4_init 110 = .ok (.aload_n 0, 1) := by decide +kernel
theorem dX4_init_111 : decode cX4_init 111 = .ok (.bipush 40, 2) := by decide +kernel
theorem dX4_init_113 : decode cX4_init 113 = .ok (.newarray .boolean, 2) := by decide +kernel
theorem dX4_init_115 : decode cX4_init 115 = .ok (.putfield 51, 3) := by decide +kernel
theorem dX4_init_118 : decode cX4_init 118 = .ok (.aload_n 0, 1) := by decide +kernel
theorem dX4_init_119 : decode cX4_init 119 = .ok (.iconst 5, 1) := by decide +kernel
theorem dX4_init_120 : decode cX4_init 120 = .ok (.newarray .int, 2) := by decide +kernel
theorem dX4_init_122 : decode cX4_init 122 = .ok (.putfield 54, 3) := by decide +kernel
theorem dX4_init_125 : decode cX4_init 125 = .ok (.aload_n 0, 1) := by decide +kernel
theorem dX4_init_126 : decode cX4_init 126 = .ok (.sipush 200, 3) := by decide +kernel
theorem dX4_init_129 : decode cX4_init 129 = .ok (.newarray .int, 2) := by decide +kernel
theorem dX4_init_131 : decode cX4_init 131 = .ok (.putfield 57, 3) := by decide +kernel
theorem dX4_init_134 : decode cX4_init 134 = .ok (.aload_n 0, 1) := by decide +kernel
theorem dX4_init_135 : decode cX4_init 135 = .ok (.sipush 200, 3) := by decide +kernel
theorem dX4_init_138 : decode cX4_init 138 = .ok (.newarray .int, 2) := by decide +kernel
theorem dX4_init_140 : decode cX4_init 140 = .ok (.putfield 60, 3) := by decide +kernel
theorem dX4_init_143 : decode cX4_init 143 = .ok (.aload_n 0, 1) := by decide +kernel
theorem dX4_init_144 : decode cX4_init 144 = .ok (.sipush 1600, 3) := by decide +kernel
theorem dX4_init_147 : decode cX4_init 147 = .ok (.newarray .int, 2) := by decide +kernel
theorem dX4_init_149 : decode cX4_init 149 = .ok (.putfield 63, 3) := by decide +kernel
theorem dX4_init_152 : decode cX4_init 152 = .ok (.aload_n 0, 1) := by decide +kernel
theorem dX4_init_153 : decode cX4_init 153 = .ok (.sipush 200, 3) := by decide +kernel
theorem dX4_init_156 : decode cX4_init 156 = .ok (.newarray .boolean, 2) := by decide +kernel
theorem dX4_init_158 : decode cX4_init 158 = .ok (.putfield 66, 3) := by decide +kernel
theorem dX4_init_161 : decode cX4_init 161 = .ok (.aload_n 0, 1) := by decide +kernel
theorem dX4_init_162 : decode cX4_init 162 = .ok (.bipush 40, 2) := by decide +kernel
theorem dX4_init_164 : decode cX4_init 164 = .ok (.newarray .int, 2) := by decide +kernel
theorem dX4_init_166 : decode cX4_init 166 = .ok (.putfield 69, 3) := by decide +kernel
theorem dX4_init_169 : decode cX4_init 169 = .ok (.aload_n 0, 1) := by decide +kernel
theorem dX4_init_170 : decode cX4_init 170 = .ok (.bipush 40, 2) := by decide +kernel
theorem dX4_init_172 : decode cX4_init 172 = .ok (.newarray .boolean, 2) := by decide +kernel
theorem dX4_init_174 : decode cX4_init 174 = .ok (.putfield 72, 3) := by decide +kernel
theorem dX4_init_177 : decode cX4_init 177 = .ok (.return_, 1) := by decide +kernel
theorem dX4_thrown_0 : decode cX4_thrown 0 = .ok (.aload_n 0, 1) := by decide +kernel
theorem dX4_thrown_1 : decode cX4_thrown 1 = .ok (.getfield 75, 3) := by decide +kernel
theorem dX4_thrown_4 : decode cX4_thrown 4 = .ok (.ireturn, 1) := by decide +kernel
theorem dX4_isKey_0 : decode cX4_isKey 0 = .ok (.iload_n 1, 1) := by decide +kernel
theorem dX4_isKey_1 : decode cX4_isKey 1 = .ok (.ifCond .lt 15, 3) := by decide +kernel
theorem dX4_isKey_4 : decode cX4_isKey 4 = .ok (.iload_n 1, 1) := by decide +kernel
theorem dX4_isKey_5 : decode cX4_isKey 5 = .ok (.aload_n 0, 1) := by decide +kernel
theorem dX4_isKey_6 : decode cX4_isKey 6 = .ok (.getfield 79, 3) := by decide +kernel
theorem dX4_isKey_9 : decode cX4_isKey 9 = .ok (.if_icmp .ge 7, 3) := by decide +kernel
theorem dX4_isKey_12 : decode cX4_isKey 12 = .ok (.iconst 1, 1) := by decide +kernel
theorem dX4_isKey_13 : decode cX4_isKey 13 = .ok (.goto 4, 3) := by decide +kernel
theorem dX4_isKey_16 : decode cX4_isKey 16 = .ok (.iconst 0, 1) := by decide +kernel
theorem dX4_isKey_17 : decode cX4_isKey 17 = .ok (.ireturn, 1) := by decide +kernel
theorem dX4_isLeaf_0 : decode cX4_isLeaf 0 = .ok (.aload_n 0, 1) := by decide +kernel
theorem dX4_isLeaf_1 : decode cX4_isLeaf 1 = .ok (.iload_n 1, 1) := by decide +kernel
theorem dX4_isLeaf_2 : decode cX4_isLeaf 2 = .ok (.invokevirtual 82, 3) := by decide +kernel
theorem dX4_isLeaf_5 : decode cX4_isLeaf 5 = .ok (.ifCond .eq 17, 3) := by decide +kernel
theorem dX4_isLeaf_8 : decode cX4_isLeaf 8 = .ok (.aload_n 0, 1) := by decide +kernel
theorem dX4_isLeaf_9 : decode cX4_isLeaf 9 = .ok (.getfield 7, 3) := by decide +kernel
theorem dX4_isLeaf_12 : decode cX4_isLeaf 12 = .ok (.iload_n 1, 1) := by decide +kernel
theorem dX4_isLeaf_13 : decode cX4_isLeaf 13 = .ok (.iaload, 1) := by decide +kernel
theorem dX4_isLeaf_14 : decode cX4_isLeaf 14 = .ok (.iconst (-1), 1) := by decide +kernel
theorem dX4_isLeaf_15 : decode cX4_isLeaf 15 = .ok (.if_icmp .ne 7, 3) := by decide +kernel
theorem dX4_isLeaf_18 : decode cX4_isLeaf 18 = .ok (.iconst 1, 1) := by decide +kernel
theorem dX4_isLeaf_19 : decode cX4_isLeaf 19 = .ok (.goto 4, 3) := by decide +kernel
theorem dX4_isLeaf_22 : decode cX4_isLeaf 22 = .ok (.iconst 0, 1) := by decide +kernel
theorem dX4_isLeaf_23 : decode cX4_isLeaf 23 = .ok (.ireturn, 1) := by decide +kernel
theorem dX4_make_0 : decode cX4_make 0 = .ok (.aload_n 0, 1) := by decide +kernel
theorem dX4_make_1 : decode cX4_make 1 = .ok (.getfield 7, 3) := by decide +kernel
theorem dX4_make_4 : decode cX4_make 4 = .ok (.aload_n 0, 1) := by decide +kernel
theorem dX4_make_5 : decode cX4_make 5 = .ok (.getfield 79, 3) := by decide +kernel
theorem dX4_make_8 : decode cX4_make 8 = .ok (.iload_n 1, 1) := by decide +kernel
theorem dX4_make_9 : decode cX4_make 9 = .ok (.iastore, 1) := by decide +kernel
theorem dX4_make_10 : decode cX4_make 10 = .ok (.aload_n 0, 1) := by decide +kernel
theorem dX4_make_11 : decode cX4_make 11 = .ok (.getfield 22, 3) := by decide +kernel
theorem dX4_make_14 : decode cX4_make 14 = .ok (.aload_n 0, 1) := by decide +kernel
theorem dX4_make_15 : decode cX4_make 15 = .ok (.getfield 79, 3) := by decide +kernel
theorem dX4_make_18 : decode cX4_make 18 = .ok (.iconst (-1), 1) := by decide +kernel
theorem dX4_make_19 : decode cX4_make 19 = .ok (.iastore, 1) := by decide +kernel
theorem dX4_make_20 : decode cX4_make 20 = .ok (.aload_n 0, 1) := by decide +kernel
theorem dX4_make_21 : decode cX4_make 21 = .ok (.getfield 25, 3) := by decide +kernel
theorem dX4_make_24 : decode cX4_make 24 = .ok (.aload_n 0, 1) := by decide +kernel
theorem dX4_make_25 : decode cX4_make 25 = .ok (.getfield 79, 3) := by decide +kernel
theorem dX4_make_28 : decode cX4_make 28 = .ok (.aload_n 0, 1) := by decide +kernel
theorem dX4_make_29 : decode cX4_make 29 = .ok (.getfield 86, 3) := by decide +kernel
theorem dX4_make_32 : decode cX4_make 32 = .ok (.iastore, 1) := by decide +kernel
theorem dX4_make_33 : decode cX4_make 33 = .ok (.aload_n 0, 1) := by decide +kernel
theorem dX4_make_34 : decode cX4_make 34 = .ok (.getfield 28, 3) := by decide +kernel
theorem dX4_make_37 : decode cX4_make 37 = .ok (.aload_n 0, 1) := by decide +kernel
theorem dX4_make_38 : decode cX4_make 38 = .ok (.getfield 79, 3) := by decide +kernel
theorem dX4_make_41 : decode cX4_make 41 = .ok (.iconst (-1), 1) := by decide +kernel
theorem dX4_make_42 : decode cX4_make 42 = .ok (.iastore, 1) := by decide +kernel
theorem dX4_make_43 : decode cX4_make 43 = .ok (.aload_n 0, 1) := by decide +kernel
theorem dX4_make_44 : decode cX4_make 44 = .ok (.dup, 1) := by decide +kernel
theorem dX4_make_45 : decode cX4_make 45 = .ok (.getfield 79, 3) := by decide +kernel
theorem dX4_make_48 : decode cX4_make 48 = .ok (.iconst 1, 1) := by decide +kernel
theorem dX4_make_49 : decode cX4_make 49 = .ok (.iadd, 1) := by decide +kernel
theorem dX4_make_50 : decode cX4_make 50 = .ok (.putfield 79, 3) := by decide +kernel
theorem dX4_make_53 : decode cX4_make 53 = .ok (.aload_n 0, 1) := by decide +kernel
theorem dX4_make_54 : decode cX4_make 54 = .ok (.getfield 79, 3) := by decide +kernel
theorem dX4_make_57 : decode cX4_make 57 = .ok (.iconst 1, 1) := by decide +kernel
theorem dX4_make_58 : decode cX4_make 58 = .ok (.isub, 1) := by decide +kernel
theorem dX4_make_59 : decode cX4_make 59 = .ok (.ireturn, 1) := by decide +kernel
theorem dX4_leaf_0 : decode cX4_leaf 0 = .ok (.aload_n 0, 1) := by decide +kernel
theorem dX4_leaf_1 : decode cX4_leaf 1 = .ok (.iconst 0, 1) := by decide +kernel
theorem dX4_leaf_2 : decode cX4_leaf 2 = .ok (.putfield 75, 3) := by decide +kernel
theorem dX4_leaf_5 : decode cX4_leaf 5 = .ok (.aload_n 0, 1) := by decide +kernel
theorem dX4_leaf_6 : decode cX4_leaf 6 = .ok (.getfield 79, 3) := by decide +kernel
theorem dX4_leaf_9 : decode cX4_leaf 9 = .ok (.bipush 40, 2) := by decide +kernel
theorem dX4_leaf_11 : decode cX4_leaf 11 = .ok (.if_icmp .ne 5, 3) := by decide +kernel
theorem dX4_leaf_14 : decode cX4_leaf 14 = .ok (.iconst (-1), 1) := by decide +kernel
theorem dX4_leaf_15 : decode cX4_leaf 15 = .ok (.ireturn, 1) := by decide +kernel
theorem dX4_leaf_16 : decode cX4_leaf 16 = .ok (.aload_n 0, 1) := by decide +kernel
theorem dX4_leaf_17 : decode cX4_leaf 17 = .ok (.getfield 43, 3) := by decide +kernel
theorem dX4_leaf_20 : decode cX4_leaf 20 = .ok (.aload_n 0, 1) := by decide +kernel
theorem dX4_leaf_21 : decode cX4_leaf 21 = .ok (.getfield 79, 3) := by decide +kernel
theorem dX4_leaf_24 : decode cX4_leaf 24 = .ok (.lload_n 1, 1) := by decide +kernel
theorem dX4_leaf_25 : decode cX4_leaf 25 = .ok (.lastore, 1) := by decide +kernel
theorem dX4_leaf_26 : decode cX4_leaf 26 = .ok (.aload_n 0, 1) := by decide +kernel
theorem dX4_leaf_27 : decode cX4_leaf 27 = .ok (.getfield 19, 3) := by decide +kernel
theorem dX4_leaf_30 : decode cX4_leaf 30 = .ok (.aload_n 0, 1) := by decide +kernel
theorem dX4_leaf_31 : decode cX4_leaf 31 = .ok (.getfield 79, 3) := by decide +kernel
theorem dX4_leaf_34 : decode cX4_leaf 34 = .ok (.iconst 1, 1) := by decide +kernel
theorem dX4_leaf_35 : decode cX4_leaf 35 = .ok (.iastore, 1) := by decide +kernel
theorem dX4_leaf_36 : decode cX4_leaf 36 = .ok (.aload_n 0, 1) := by decide +kernel
theorem dX4_leaf_37 : decode cX4_leaf 37 = .ok (.iconst (-1), 1) := by decide +kernel
theorem dX4_leaf_38 : decode cX4_leaf 38 = .ok (.invokevirtual 89, 3) := by decide +kernel
theorem dX4_leaf_41 : decode cX4_leaf 41 = .ok (.ireturn, 1) := by decide +kernel
theorem dX4_key_0 : decode cX4_key 0 = .ok (.aload_n 0, 1) := by decide +kernel
theorem dX4_key_1 : decode cX4_key 1 = .ok (.iconst 0, 1) := by decide +kernel
theorem dX4_key_2 : decode cX4_key 2 = .ok (.putfield 75, 3) := by decide +kernel
theorem dX4_key_5 : decode cX4_key 5 = .ok (.aload_n 0, 1) := by decide +kernel
theorem dX4_key_6 : decode cX4_key 6 = .ok (.getfield 79, 3) := by decide +kernel
theorem dX4_key_9 : decode cX4_key 9 = .ok (.bipush 40, 2) := by decide +kernel
theorem dX4_key_11 : decode cX4_key 11 = .ok (.if_icmp .eq 13, 3) := by decide +kernel
theorem dX4_key_14 : decode cX4_key 14 = .ok (.iload_n 1, 1) := by decide +kernel
theorem dX4_key_15 : decode cX4_key 15 = .ok (.ifCond .lt 9, 3) := by decide +kernel
theorem dX4_key_18 : decode cX4_key 18 = .ok (.iload_n 1, 1) := by decide +kernel
theorem dX4_key_19 : decode cX4_key 19 = .ok (.bipush 6, 2) := by decide +kernel
theorem dX4_key_21 : decode cX4_key 21 = .ok (.if_icmp .lt 7, 3) := by decide +kernel
theorem dX4_key_24 : decode cX4_key 24 = .ok (.iconst (-1), 1) := by decide +kernel
theorem dX4_key_25 : decode cX4_key 25 = .ok (.goto 8, 3) := by decide +kernel
theorem dX4_key_28 : decode cX4_key 28 = .ok (.aload_n 0, 1) := by decide +kernel
theorem dX4_key_29 : decode cX4_key 29 = .ok (.iload_n 1, 1) := by decide +kernel
theorem dX4_key_30 : decode cX4_key 30 = .ok (.invokevirtual 89, 3) := by decide +kernel
theorem dX4_key_33 : decode cX4_key 33 = .ok (.ireturn, 1) := by decide +kernel
theorem dX4_empty_0 : decode cX4_empty 0 = .ok (.iconst 0, 1) := by decide +kernel
theorem dX4_empty_1 : decode cX4_empty 1 = .ok (.istore_n 1, 1) := by decide +kernel
theorem dX4_empty_2 : decode cX4_empty 2 = .ok (.iconst 0, 1) := by decide +kernel
theorem dX4_empty_3 : decode cX4_empty 3 = .ok (.istore_n 2, 1) := by decide +kernel
theorem dX4_empty_4 : decode cX4_empty 4 = .ok (.iload_n 2, 1) := by decide +kernel
theorem dX4_empty_5 : decode cX4_empty 5 = .ok (.iconst 5, 1) := by decide +kernel
theorem dX4_empty_6 : decode cX4_empty 6 = .ok (.if_icmp .ge 25, 3) := by decide +kernel
theorem dX4_empty_9 : decode cX4_empty 9 = .ok (.iload_n 1, 1) := by decide +kernel
theorem dX4_empty_10 : decode cX4_empty 10 = .ok (.aload_n 0, 1) := by decide +kernel
theorem dX4_empty_11 : decode cX4_empty 11 = .ok (.getfield 54, 3) := by decide +kernel
theorem dX4_empty_14 : decode cX4_empty 14 = .ok (.iload_n 2, 1) := by decide +kernel
theorem dX4_empty_15 : decode cX4_empty 15 = .ok (.iaload, 1) := by decide +kernel
theorem dX4_empty_16 : decode cX4_empty 16 = .ok (.iadd, 1) := by decide +kernel
theorem dX4_empty_17 : decode cX4_empty 17 = .ok (.istore_n 1, 1) := by decide +kernel
theorem dX4_empty_18 : decode cX4_empty 18 = .ok (.aload_n 0, 1) := by decide +kernel
theorem dX4_empty_19 : decode cX4_empty 19 = .ok (.getfield 54, 3) := by decide +kernel
theorem dX4_empty_22 : decode cX4_empty 22 = .ok (.iload_n 2, 1) := by decide +kernel
theorem dX4_empty_23 : decode cX4_empty 23 = .ok (.iconst 0, 1) := by decide +kernel
theorem dX4_empty_24 : decode cX4_empty 24 = .ok (.iastore, 1) := by decide +kernel
theorem dX4_empty_25 : decode cX4_empty 25 = .ok (.iinc 2 1, 3) := by decide +kernel
theorem dX4_empty_28 : decode cX4_empty 28 = .ok (.goto (-24), 3) := by decide +kernel
theorem dX4_empty_31 : decode cX4_empty 31 = .ok (.iload_n 1, 1) := by decide +kernel
theorem dX4_empty_32 : decode cX4_empty 32 = .ok (.ireturn, 1) := by decide +kernel
theorem dX4_next_0 : decode cX4_next 0 = .ok (.aload_n 0, 1) := by decide +kernel
theorem dX4_next_1 : decode cX4_next 1 = .ok (.invokevirtual 93, 3) := by decide +kernel
theorem dX4_next_4 : decode cX4_next 4 = .ok (.pop, 1) := by decide +kernel
theorem dX4_next_5 : decode cX4_next 5 = .ok (.aload_n 0, 1) := by decide +kernel
theorem dX4_next_6 : decode cX4_next 6 = .ok (.dup, 1) := by decide +kernel
theorem dX4_next_7 : decode cX4_next 7 = .ok (.getfield 86, 3) := by decide +kernel
theorem dX4_next_10 : decode cX4_next 10 = .ok (.iconst 1, 1) := by decide +kernel
theorem dX4_next_11 : decode cX4_next 11 = .ok (.iadd, 1) := by decide +kernel
theorem dX4_next_12 : decode cX4_next 12 = .ok (.putfield 86, 3) := by decide +kernel
theorem dX4_next_15 : decode cX4_next 15 = .ok (.aload_n 0, 1) := by decide +kernel
theorem dX4_next_16 : decode cX4_next 16 = .ok (.getfield 86, 3) := by decide +kernel
theorem dX4_next_19 : decode cX4_next 19 = .ok (.ireturn, 1) := by decide +kernel
theorem dX4_rowKey_0 : decode cX4_rowKey 0 = .ok (.aload_n 0, 1) := by decide +kernel
theorem dX4_rowKey_1 : decode cX4_rowKey 1 = .ok (.getfield 16, 3) := by decide +kernel
theorem dX4_rowKey_4 : decode cX4_rowKey 4 = .ok (.bipush 8, 2) := by decide +kernel
theorem dX4_rowKey_6 : decode cX4_rowKey 6 = .ok (.iload_n 1, 1) := by decide +kernel
theorem dX4_rowKey_7 : decode cX4_rowKey 7 = .ok (.imul, 1) := by decide +kernel
theorem dX4_rowKey_8 : decode cX4_rowKey 8 = .ok (.iload_n 2, 1) := by decide +kernel
theorem dX4_rowKey_9 : decode cX4_rowKey 9 = .ok (.iadd, 1) := by decide +kernel
theorem dX4_rowKey_10 : decode cX4_rowKey 10 = .ok (.iaload, 1) := by decide +kernel
theorem dX4_rowKey_11 : decode cX4_rowKey 11 = .ok (.ireturn, 1) := by decide +kernel
theorem dX4_fillLeads_0 : decode cX4_fillLeads 0 = .ok (.iconst 0, 1) := by decide +kernel
theorem dX4_fillLeads_1 : decode cX4_fillLeads 1 = .ok (.istore_n 2, 1) := by decide +kernel
theorem dX4_fillLeads_2 : decode cX4_fillLeads 2 = .ok (.iload_n 2, 1) := by decide +kernel
theorem dX4_fillLeads_3 : decode cX4_fillLeads 3 = .ok (.aload_n 0, 1) := by decide +kernel
theorem dX4_fillLeads_4 : decode cX4_fillLeads 4 = .ok (.getfield 79, 3) := by decide +kernel
theorem dX4_fillLeads_7 : decode cX4_fillLeads 7 = .ok (.if_icmp .ge 25, 3) := by decide +kernel
theorem dX4_fillLeads_10 : decode cX4_fillLeads 10 = .ok (.aload_n 0, 1) := by decide +kernel
theorem dX4_fillLeads_11 : decode cX4_fillLeads 11 = .ok (.getfield 72, 3) := by decide +kernel
theorem dX4_fillLeads_14 : decode cX4_fillLeads 14 = .ok (.iload_n 2, 1) := by decide +kernel
theorem dX4_fillLeads_15 : decode cX4_fillLeads 15 = .ok (.iload_n 2, 1) := by decide +kernel
theorem dX4_fillLeads_16 : decode cX4_fillLeads 16 = .ok (.iload_n 1, 1) := by decide +kernel
theorem dX4_fillLeads_17 : decode cX4_fillLeads 17 = .ok (.if_icmp .ne 7, 3) := by decide +kernel
theorem dX4_fillLeads_20 : decode cX4_fillLeads 20 = .ok (.iconst 1, 1) := by decide +kernel
theorem dX4_fillLeads_21 : decode cX4_fillLeads 21 = .ok (.goto 4, 3) := by decide +kernel
theorem dX4_fillLeads_24 : decode cX4_fillLeads 24 = .ok (.iconst 0, 1) := by decide +kernel
theorem dX4_fillLeads_25 : decode cX4_fillLeads 25 = .ok (.bastore, 1) := by decide +kernel
theorem dX4_fillLeads_26 : decode cX4_fillLeads 26 = .ok (.iinc 2 1, 3) := by decide +kernel
theorem dX4_fillLeads_29 : decode cX4_fillLeads 29 = .ok (.goto (-27), 3) := by decide +kernel
theorem dX4_fillLeads_32 : decode cX4_fillLeads 32 = .ok (.iconst 1, 1) := by decide +kernel
theorem dX4_fillLeads_33 : decode cX4_fillLeads 33 = .ok (.istore_n 2, 1) := by decide +kernel
theorem dX4_fillLeads_34 : decode cX4_fillLeads 34 = .ok (.iload_n 2, 1) := by decide +kernel
theorem dX4_fillLeads_35 : decode cX4_fillLeads 35 = .ok (.ifCond .eq 80, 3) := by decide +kernel
theorem dX4_fillLeads_38 : decode cX4_fillLeads 38 = .ok (.iconst 0, 1) := by decide +kernel
theorem dX4_fillLeads_39 : decode cX4_fillLeads 39 = .ok (.istore_n 2, 1) := by decide +kernel
theorem dX4_fillLeads_40 : decode cX4_fillLeads 40 = .ok (.iconst 0, 1) := by decide +kernel
theorem dX4_fillLeads_41 : decode cX4_fillLeads 41 = .ok (.istore_n 3, 1) := by decide +kernel
theorem dX4_fillLeads_42 : decode cX4_fillLeads 42 = .ok (.iload_n 3, 1) := by decide +kernel
theorem dX4_fillLeads_43 : decode cX4_fillLeads 43 = .ok (.aload_n 0, 1) := by decide +kernel
theorem dX4_fillLeads_44 : decode cX4_fillLeads 44 = .ok (.getfield 79, 3) := by decide +kernel
theorem dX4_fillLeads_47 : decode cX4_fillLeads 47 = .ok (.if_icmp .ge 65, 3) := by decide +kernel
theorem dX4_fillLeads_50 : decode cX4_fillLeads 50 = .ok (.iconst 0, 1) := by decide +kernel
theorem dX4_fillLeads_51 : decode cX4_fillLeads 51 = .ok (.istore 4, 2) := by decide +kernel
theorem dX4_fillLeads_53 : decode cX4_fillLeads 53 = .ok (.iload 4, 2) := by decide +kernel
theorem dX4_fillLeads_55 : decode cX4_fillLeads 55 = .ok (.aload_n 0, 1) := by decide +kernel
theorem dX4_fillLeads_56 : decode cX4_fillLeads 56 = .ok (.getfield 13, 3) := by decide +kernel
theorem dX4_fillLeads_59 : decode cX4_fillLeads 59 = .ok (.iload_n 3, 1) := by decide +kernel
theorem dX4_fillLeads_60 : decode cX4_fillLeads 60 = .ok (.iaload, 1) := by decide +kernel
theorem dX4_fillLeads_61 : decode cX4_fillLeads 61 = .ok (.if_icmp .ge 45, 3) := by decide +kernel
theorem dX4_fillLeads_64 : decode cX4_fillLeads 64 = .ok (.aload_n 0, 1) := by decide +kernel
theorem dX4_fillLeads_65 : decode cX4_fillLeads 65 = .ok (.getfield 72, 3) := by decide +kernel
theorem dX4_fillLeads_68 : decode cX4_fillLeads 68 = .ok (.iload_n 3, 1) := by decide +kernel
theorem dX4_fillLeads_69 : decode cX4_fillLeads 69 = .ok (.baload, 1) := by decide +kernel
theorem dX4_fillLeads_70 : decode cX4_fillLeads 70 = .ok (.ifCond .ne 30, 3) := by decide +kernel
theorem dX4_fillLeads_73 : decode cX4_fillLeads 73 = .ok (.aload_n 0, 1) := by decide +kernel
theorem dX4_fillLeads_74 : decode cX4_fillLeads 74 = .ok (.getfield 72, 3) := by decide +kernel
theorem dX4_fillLeads_77 : decode cX4_fillLeads 77 = .ok (.aload_n 0, 1) := by decide +kernel
theorem dX4_fillLeads_78 : decode cX4_fillLeads 78 = .ok (.iload_n 3, 1) := by decide +kernel
theorem dX4_fillLeads_79 : decode cX4_fillLeads 79 = .ok (.iload 4, 2) := by decide +kernel
theorem dX4_fillLeads_81 : decode cX4_fillLeads 81 = .ok (.invokevirtual 97, 3) := by decide +kernel
theorem dX4_fillLeads_84 : decode cX4_fillLeads 84 = .ok (.baload, 1) := by decide +kernel
theorem dX4_fillLeads_85 : decode cX4_fillLeads 85 = .ok (.ifCond .ne 6, 3) := by decide +kernel
theorem dX4_fillLeads_88 : decode cX4_fillLeads 88 = .ok (.goto 12, 3) := by decide +kernel
theorem dX4_fillLeads_91 : decode cX4_fillLeads 91 = .ok (.aload_n 0, 1) := by decide +kernel
theorem dX4_fillLeads_92 : decode cX4_fillLeads 92 = .ok (.getfield 72, 3) := by decide +kernel
theorem dX4_fillLeads_95 : decode cX4_fillLeads 95 = .ok (.iload_n 3, 1) := by decide +kernel
theorem dX4_fillLeads_96 : decode cX4_fillLeads 96 = .ok (.iconst 1, 1) := by decide +kernel
theorem dX4_fillLeads_97 : decode cX4_fillLeads 97 = .ok (.bastore, 1) := by decide +kernel
theorem dX4_fillLeads_98 : decode cX4_fillLeads 98 = .ok (.iconst 1, 1) := by decide +kernel
theorem dX4_fillLeads_99 : decode cX4_fillLeads 99 = .ok (.istore_n 2, 1) := by decide +kernel
theorem dX4_fillLeads_100 : decode cX4_fillLeads 100 = .ok (.iinc 4 1, 3) := by decide +kernel
theorem dX4_fillLeads_103 : decode cX4_fillLeads 103 = .ok (.goto (-50), 3) := by decide +kernel
theorem dX4_fillLeads_106 : decode cX4_fillLeads 106 = .ok (.iinc 3 1, 3) := by decide +kernel
theorem dX4_fillLeads_109 : decode cX4_fillLeads 109 = .ok (.goto (-67), 3) := by decide +kernel
theorem dX4_fillLeads_112 : decode cX4_fillLeads 112 = .ok (.goto (-78), 3) := by decide +kernel
theorem dX4_fillLeads_115 : decode cX4_fillLeads 115 = .ok (.return_, 1) := by decide +kernel
theorem dX4_asks_0 : decode cX4_asks 0 = .ok (.aload_n 0, 1) := by decide +kernel
theorem dX4_asks_1 : decode cX4_asks 1 = .ok (.iconst 0, 1) := by decide +kernel
theorem dX4_asks_2 : decode cX4_asks 2 = .ok (.putfield 75, 3) := by decide +kernel
theorem dX4_asks_5 : decode cX4_asks 5 = .ok (.aload_n 0, 1) := by decide +kernel
theorem dX4_asks_6 : decode cX4_asks 6 = .ok (.iload_n 1, 1) := by decide +kernel
theorem dX4_asks_7 : decode cX4_asks 7 = .ok (.invokevirtual 82, 3) := by decide +kernel
theorem dX4_asks_10 : decode cX4_asks 10 = .ok (.ifCond .eq 30, 3) := by decide +kernel
theorem dX4_asks_13 : decode cX4_asks 13 = .ok (.aload_n 0, 1) := by decide +kernel
theorem dX4_asks_14 : decode cX4_asks 14 = .ok (.iload_n 2, 1) := by decide +kernel
theorem dX4_asks_15 : decode cX4_asks 15 = .ok (.invokevirtual 82, 3) := by decide +kernel
theorem dX4_asks_18 : decode cX4_asks 18 = .ok (.ifCond .eq 22, 3) := by decide +kernel
theorem dX4_asks_21 : decode cX4_asks 21 = .ok (.aload_n 0, 1) := by decide +kernel
theorem dX4_asks_22 : decode cX4_asks 22 = .ok (.iload_n 1, 1) := by decide +kernel
theorem dX4_asks_23 : decode cX4_asks 23 = .ok (.invokevirtual 101, 3) := by decide +kernel
theorem dX4_asks_26 : decode cX4_asks 26 = .ok (.ifCond .ne 14, 3) := by decide +kernel
theorem dX4_asks_29 : decode cX4_asks 29 = .ok (.aload_n 0, 1) := by decide +kernel
theorem dX4_asks_30 : decode cX4_asks 30 = .ok (.getfield 13, 3) := by decide +kernel
theorem dX4_asks_33 : decode cX4_asks 33 = .ok (.iload_n 1, 1) := by decide +kernel
theorem dX4_asks_34 : decode cX4_asks 34 = .ok (.iaload, 1) := by decide +kernel
theorem dX4_asks_35 : decode cX4_asks 35 = .ok (.bipush 8, 2) := by decide +kernel
theorem dX4_asks_37 : decode cX4_asks 37 = .ok (.if_icmp .ne 5, 3) := by decide +kernel
theorem dX4_asks_40 : decode cX4_asks 40 = .ok (.iconst (-1), 1) := by decide +kernel
theorem dX4_asks_41 : decode cX4_asks 41 = .ok (.ireturn, 1) := by decide +kernel
theorem dX4_asks_42 : decode cX4_asks 42 = .ok (.aload_n 0, 1) := by decide +kernel
theorem dX4_asks_43 : decode cX4_asks 43 = .ok (.iload_n 1, 1) := by decide +kernel
theorem dX4_asks_44 : decode cX4_asks 44 = .ok (.invokevirtual 104, 3) := by decide +kernel
theorem dX4_asks_47 : decode cX4_asks 47 = .ok (.aload_n 0, 1) := by decide +kernel
theorem dX4_asks_48 : decode cX4_asks 48 = .ok (.getfield 72, 3) := by decide +kernel
theorem dX4_asks_51 : decode cX4_asks 51 = .ok (.iload_n 2, 1) := by decide +kernel
theorem dX4_asks_52 : decode cX4_asks 52 = .ok (.baload, 1) := by decide +kernel
theorem dX4_asks_53 : decode cX4_asks 53 = .ok (.ifCond .eq 54, 3) := by decide +kernel
theorem dX4_asks_56 : decode cX4_asks 56 = .ok (.aload_n 0, 1) := by decide +kernel
theorem dX4_asks_57 : decode cX4_asks 57 = .ok (.getfield 69, 3) := by decide +kernel
theorem dX4_asks_60 : decode cX4_asks 60 = .ok (.iconst 0, 1) := by decide +kernel
theorem dX4_asks_61 : decode cX4_asks 61 = .ok (.iload_n 1, 1) := by decide +kernel
theorem dX4_asks_62 : decode cX4_asks 62 = .ok (.iastore, 1) := by decide +kernel
theorem dX4_asks_63 : decode cX4_asks 63 = .ok (.aload_n 0, 1) := by decide +kernel
theorem dX4_asks_64 : decode cX4_asks 64 = .ok (.iconst 1, 1) := by decide +kernel
theorem dX4_asks_65 : decode cX4_asks 65 = .ok (.putfield 108, 3) := by decide +kernel
theorem dX4_asks_68 : decode cX4_asks 68 = .ok (.iload_n 2, 1) := by decide +kernel
theorem dX4_asks_69 : decode cX4_asks 69 = .ok (.istore_n 3, 1) := by decide +kernel
theorem dX4_asks_70 : decode cX4_asks 70 = .ok (.iload_n 3, 1) := by decide +kernel
theorem dX4_asks_71 : decode cX4_asks 71 = .ok (.iload_n 1, 1) := by decide +kernel
theorem dX4_asks_72 : decode cX4_asks 72 = .ok (.if_icmp .eq 32, 3) := by decide +kernel
theorem dX4_asks_75 : decode cX4_asks 75 = .ok (.aload_n 0, 1) := by decide +kernel
theorem dX4_asks_76 : decode cX4_asks 76 = .ok (.getfield 69, 3) := by decide +kernel
theorem dX4_asks_79 : decode cX4_asks 79 = .ok (.aload_n 0, 1) := by decide +kernel
theorem dX4_asks_80 : decode cX4_asks 80 = .ok (.getfield 108, 3) := by decide +kernel
theorem dX4_asks_83 : decode cX4_asks 83 = .ok (.iload_n 3, 1) := by decide +kernel
theorem dX4_asks_84 : decode cX4_asks 84 = .ok (.iastore, 1) := by decide +kernel
theorem dX4_asks_85 : decode cX4_asks 85 = .ok (.aload_n 0, 1) := by decide +kernel
theorem dX4_asks_86 : decode cX4_asks 86 = .ok (.dup, 1) := by decide +kernel
theorem dX4_asks_87 : decode cX4_asks 87 = .ok (.getfield 108, 3) := by decide +kernel
theorem dX4_asks_90 : decode cX4_asks 90 = .ok (.iconst 1, 1) := by decide +kernel
theorem dX4_asks_91 : decode cX4_asks 91 = .ok (.iadd, 1) := by decide +kernel
theorem dX4_asks_92 : decode cX4_asks 92 = .ok (.putfield 108, 3) := by decide +kernel
theorem dX4_asks_95 : decode cX4_asks 95 = .ok (.aload_n 0, 1) := by decide +kernel
theorem dX4_asks_96 : decode cX4_asks 96 = .ok (.iload_n 3, 1) := by decide +kernel
theorem dX4_asks_97 : decode cX4_asks 97 = .ok (.invokevirtual 111, 3) := by decide +kernel
theorem dX4_asks_100 : decode cX4_asks 100 = .ok (.istore_n 3, 1) := by decide +kernel
theorem dX4_asks_101 : decode cX4_asks 101 = .ok (.goto (-31), 3) := by decide +kernel
theorem dX4_asks_104 : decode cX4_asks 104 = .ok (.bipush (-2), 2) := by decide +kernel
theorem dX4_asks_106 : decode cX4_asks 106 = .ok (.ireturn, 1) := by decide +kernel
theorem dX4_asks_107 : decode cX4_asks 107 = .ok (.aload_n 0, 1) := by decide +kernel
theorem dX4_asks_108 : decode cX4_asks 108 = .ok (.getfield 16, 3) := by decide +kernel
theorem dX4_asks_111 : decode cX4_asks 111 = .ok (.bipush 8, 2) := by decide +kernel
theorem dX4_asks_113 : decode cX4_asks 113 = .ok (.iload_n 1, 1) := by decide +kernel
theorem dX4_asks_114 : decode cX4_asks 114 = .ok (.imul, 1) := by decide +kernel
theorem dX4_asks_115 : decode cX4_asks 115 = .ok (.aload_n 0, 1) := by decide +kernel
theorem dX4_asks_116 : decode cX4_asks 116 = .ok (.getfield 13, 3) := by decide +kernel
theorem dX4_asks_119 : decode cX4_asks 119 = .ok (.iload_n 1, 1) := by decide +kernel
theorem dX4_asks_120 : decode cX4_asks 120 = .ok (.iaload, 1) := by decide +kernel
theorem dX4_asks_121 : decode cX4_asks 121 = .ok (.iadd, 1) := by decide +kernel
theorem dX4_asks_122 : decode cX4_asks 122 = .ok (.iload_n 2, 1) := by decide +kernel
theorem dX4_asks_123 : decode cX4_asks 123 = .ok (.iastore, 1) := by decide +kernel
theorem dX4_asks_124 : decode cX4_asks 124 = .ok (.aload_n 0, 1) := by decide +kernel
theorem dX4_asks_125 : decode cX4_asks 125 = .ok (.getfield 13, 3) := by decide +kernel
theorem dX4_asks_128 : decode cX4_asks 128 = .ok (.iload_n 1, 1) := by decide +kernel
theorem dX4_asks_129 : decode cX4_asks 129 = .ok (.dup2, 1) := by decide +kernel
theorem dX4_asks_130 : decode cX4_asks 130 = .ok (.iaload, 1) := by decide +kernel
theorem dX4_asks_131 : decode cX4_asks 131 = .ok (.iconst 1, 1) := by decide +kernel
theorem dX4_asks_132 : decode cX4_asks 132 = .ok (.iadd, 1) := by decide +kernel
theorem dX4_asks_133 : decode cX4_asks 133 = .ok (.iastore, 1) := by decide +kernel
theorem dX4_asks_134 : decode cX4_asks 134 = .ok (.aload_n 0, 1) := by decide +kernel
theorem dX4_asks_135 : decode cX4_asks 135 = .ok (.getfield 28, 3) := by decide +kernel
theorem dX4_asks_138 : decode cX4_asks 138 = .ok (.iload_n 1, 1) := by decide +kernel
theorem dX4_asks_139 : decode cX4_asks 139 = .ok (.aload_n 0, 1) := by decide +kernel
theorem dX4_asks_140 : decode cX4_asks 140 = .ok (.invokevirtual 114, 3) := by decide +kernel
theorem dX4_asks_143 : decode cX4_asks 143 = .ok (.iastore, 1) := by decide +kernel
theorem dX4_asks_144 : decode cX4_asks 144 = .ok (.iconst 1, 1) := by decide +kernel
theorem dX4_asks_145 : decode cX4_asks 145 = .ok (.ireturn, 1) := by decide +kernel
theorem dX4_firstBack_0 : decode cX4_firstBack 0 = .ok (.iconst 0, 1) := by decide +kernel
theorem dX4_firstBack_1 : decode cX4_firstBack 1 = .ok (.istore_n 2, 1) := by decide +kernel
theorem dX4_firstBack_2 : decode cX4_firstBack 2 = .ok (.aload_n 0, 1) := by decide +kernel
theorem dX4_firstBack_3 : decode cX4_firstBack 3 = .ok (.getfield 72, 3) := by decide +kernel
theorem dX4_firstBack_6 : decode cX4_firstBack 6 = .ok (.aload_n 0, 1) := by decide +kernel
theorem dX4_firstBack_7 : decode cX4_firstBack 7 = .ok (.iload_n 1, 1) := by decide +kernel
theorem dX4_firstBack_8 : decode cX4_firstBack 8 = .ok (.iload_n 2, 1) := by decide +kernel
