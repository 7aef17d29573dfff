theorem dX10_init_0 : decode cX10_init 0 = .ok (.aload_n 0, 1) := by decide +kernel
theorem dX10_init_1 : decode cX10_init 1 = .ok (.invokespecial 1, 3) := by decide +kernel
theorem dX10_init_4 : decode cX10_init 4 = .ok (.aload_n 0, 1) := by decide +kernel
theorem dX10_init_5 : decode cX10_init 5 = .ok (.bipush 8, 2) := by decide +kernel
theorem dX10_init_7 : decode cX10_init 7 = .ok (.newarray .int, 2) := by decide +kernel
theorem dX10_init_9 : decode cX10_init 9 = .ok (.putfield 7, 3) := by decide +kernel
theorem dX10_init_12 : decode cX10_init 12 = .ok (.aload_n 0, 1) := by decide +kernel
theorem dX10_init_13 : decode cX10_init 13 = .ok (.sipush 1600, 3) := by decide +kernel
theorem dX10_init_16 : decode cX10_init 16 = .ok (.newarray .int, 2) := by decide +kernel
theorem dX10_init_18 : decode cX10_init 18 = .ok (.putfield 13, 3) := by decide +kernel
theorem dX10_init_21 : decode cX10_init 21 = .ok (.aload_n 0, 1) := by decide +kernel
theorem dX10_init_22 : decode cX10_init 22 = .ok (.sipush 1600, 3) := by decide +kernel
theorem dX10_init_25 : decode cX10_init 25 = .ok (.newarray .int, 2) := by decide +kernel
theorem dX10_init_27 : decode cX10_init 27 = .ok (.putfield 16, 3) := by decide +kernel
theorem dX10_init_30 : decode cX10_init 30 = .ok (.aload_n 0, 1) := by decide +kernel
theorem dX10_init_31 : decode cX10_init 31 = .ok (.sipush 1600, 3) := by decide +kernel
theorem dX10_init_34 : decode cX10_init 34 = .ok (.newarray .int, 2) := by decide +kernel
theorem dX10_init_36 : decode cX10_init 36 = .ok (.putfield 19, 3) := by decide +kernel
theorem dX10_init_39 : decode cX10_init 39 = .ok (.aload_n 0, 1) := by decide +kernel
theorem dX10_init_40 : decode cX10_init 40 = .ok (.sipush 1600, 3) := by decide +kernel
theorem dX10_init_43 : decode cX10_init 43 = .ok (.newarray .int, 2) := by decide +kernel
theorem dX10_init_45 : decode cX10_init 45 = .ok (.putfield 22, 3) := by decide +kernel
theorem dX10_init_48 : decode cX10_init 48 = .ok (.aload_n 0, 1) := by decide +kernel
theorem dX10_init_49 : decode cX10_init 49 = .ok (.sipush 1600, 3) := by decide +kernel
theorem dX10_init_52 : decode cX10_init 52 = .ok (.newarray .int, 2) := by decide +kernel
theorem dX10_init_54 : decode cX10_init 54 = .ok (.putfield 25, 3) := by decide +kernel
theorem dX10_init_57 : decode cX10_init 57 = .ok (.aload_n 0, 1) := by decide +kernel
theorem dX10_init_58 : decode cX10_init 58 = .ok (.sipush 1600, 3) := by decide +kernel
theorem dX10_init_61 : decode cX10_init 61 = .ok (.newarray .int, 2) := by decide +kernel
theorem dX10_init_63 : decode cX10_init 63 = .ok (.putfield 28, 3) := by decide +kernel
theorem dX10_init_66 : decode cX10_init 66 = .ok (.aload_n 0, 1) := by decide +kernel
theorem dX10_init_67 : decode cX10_init 67 = .ok (.bipush 6, 2) := by decide +kernel
theorem dX10_init_69 : decode cX10_init 69 = .ok (.newarray .int, 2) := by decide +kernel
theorem dX10_init_71 : decode cX10_init 71 = .ok (.putfield 31, 3) := by decide +kernel
theorem dX10_init_74 : decode cX10_init 74 = .ok (.aload_n 0, 1) := by decide +kernel
theorem dX10_init_75 : decode cX10_init 75 = .ok (.bipush 6, 2) := by decide +kernel
theorem dX10_init_77 : decode cX10_init 77 = .ok (.newarray .int, 2) := by decide +kernel
theorem dX10_init_79 : decode cX10_init 79 = .ok (.putfield 34, 3) := by decide +kernel
theorem dX10_init_82 : decode cX10_init 82 = .ok (.aload_n 0, 1) := by decide +kernel
theorem dX10_init_83 : decode cX10_init 83 = .ok (.bipush 6, 2) := by decide +kernel
theorem dX10_init_85 : decode cX10_init 85 = .ok (.newarray .int, 2) := by decide +kernel
theorem dX10_init_87 : decode cX10_init 87 = .ok (.putfield 37, 3) := by decide +kernel
theorem dX10_init_90 : decode cX10_init 90 = .ok (.aload_n 0, 1) := by decide +kernel
theorem dX10_init_91 : decode cX10_init 91 = .ok (.bipush 36, 2) := by decide +kernel
theorem dX10_init_93 : decode cX10_init 93 = .ok (.newarray .int, 2) := by decide +kernel
theorem dX10_init_95 : decode cX10_init 95 = .ok (.putfield 40, 3) := by decide +kernel
theorem dX10_init_98 : decode cX10_init 98 = .ok (.aload_n 0, 1) := by decide +kernel
theorem dX10_init_99 : decode cX10_init 99 = .ok (.sipush 1206, 3) := by decide +kernel
theorem dX10_init_102 : decode cX10_init 102 = .ok (.newarray .int, 2) := by decide +kernel
theorem dX10_init_104 : decode cX10_init 104 = .ok (.putfield 43, 3) := by decide +kernel
theorem dX10_init_107 : decode cX10_init 107 = .ok (.aload_n 0, 1) := by decide +kernel
theorem dX10_init_108 : decode cX10_init 108 = .ok (.bipush 6, 2) := by decide +kernel
theorem dX10_init_110 : decode cX10_init 110 = .ok (.newarray .boolean, 2) := by decide +kernel
theorem dX10_init_112 : decode cX10_init 112 = .ok (.putfield 46, 3) := by decide +kernel
theorem dX10_init_115 : decode cX10_init 115 = .ok (.aload_n 0, 1) := by decide +kernel
theorem dX10_init_116 : decode cX10_init 116 = .ok (.sipush 160, 3) := by decide +kernel
theorem dX10_init_119 : decode cX10_init 119 = .ok (.newarray .int, 2) := by decide +kernel
theorem dX10_init_121 : decode cX10_init 121 = .ok (.putfield 50, 3) := by decide +kernel
theorem dX10_init_124 : decode cX10_init 124 = .ok (.aload_n 0, 1) := by decide +kernel
theorem dX10_init_125 : decode cX10_init 125 = .ok (.sipush 360, 3) := by decide +kernel
theorem dX10_init_128 : decode cX10_init 128 = .ok (.newarray .int, 2) := by decide +kernel
theorem dX10_init_130 : decode cX10_init 130 = .ok (.putfield 53, 3) := by decide +kernel
theorem dX10_init_133 : decode cX10_init 133 = .ok (.aload_n 0, 1) := by decide +kernel
theorem dX10_init_134 : decode cX10_init 134 = .ok (.sipush 900, 3) := by decide +kernel
theorem dX10_init_137 : decode cX10_init 137 = .ok (.newarray .int, 2) := by decide +kernel
theorem dX10_init_139 : decode cX10_init 139 = .ok (.putfield 56, 3) := by decide +kernel
theorem dX10_init_142 : decode cX10_init 142 = .ok (.aload_n 0, 1) := by decide +kernel
theorem dX10_init_143 : decode cX10_init 143 = .ok (.iconst (-1), 1) := by decide +kernel
theorem dX10_init_144 : decode cX10_init 144 = .ok (.putfield 59, 3) := by decide +kernel
theorem dX10_init_147 : decode cX10_init 147 = .ok (.aload_n 0, 1) := by decide +kernel
theorem dX10_init_148 : decode cX10_init 148 = .ok (.sipush 240, 3) := by decide +kernel
theorem dX10_init_151 : decode cX10_init 151 = .ok (.newarray .int, 2) := by decide +kernel
theorem dX10_init_153 : decode cX10_init 153 = .ok (.putfield 63, 3) := by decide +kernel
theorem dX10_init_156 : decode cX10_init 156 = .ok (.return_, 1) := by decide +kernel
theorem dX10_thrown_0 : decode cX10_thrown 0 = .ok (.aload_n 0, 1) := by decide +kernel
theorem dX10_thrown_1 : decode cX10_thrown 1 = .ok (.getfield 66, 3) := by decide +kernel
theorem dX10_thrown_4 : decode cX10_thrown 4 = .ok (.ireturn, 1) := by decide +kernel
theorem dX10_refuse_0 : decode cX10_refuse 0 = .ok (.aload_n 0, 1) := by decide +kernel
theorem dX10_refuse_1 : decode cX10_refuse 1 = .ok (.iload_n 1, 1) := by decide +kernel
theorem dX10_refuse_2 : decode cX10_refuse 2 = .ok (.putfield 66, 3) := by decide +kernel
theorem dX10_refuse_5 : decode cX10_refuse 5 = .ok (.iconst 0, 1) := by decide +kernel
theorem dX10_refuse_6 : decode cX10_refuse 6 = .ok (.ireturn, 1) := by decide +kernel
theorem dX10_told_0 : decode cX10_told 0 = .ok (.aload_n 0, 1) := by decide +kernel
theorem dX10_told_1 : decode cX10_told 1 = .ok (.iconst 0, 1) := by decide +kernel
theorem dX10_told_2 : decode cX10_told 2 = .ok (.putfield 66, 3) := by decide +kernel
theorem dX10_told_5 : decode cX10_told 5 = .ok (.iload_n 1, 1) := by decide +kernel
theorem dX10_told_6 : decode cX10_told 6 = .ok (.ireturn, 1) := by decide +kernel
theorem dX10_in_0 : decode cX10_in 0 = .ok (.iload_n 0, 1) := by decide +kernel
theorem dX10_in_1 : decode cX10_in 1 = .ok (.iload_n 1, 1) := by decide +kernel
theorem dX10_in_2 : decode cX10_in 2 = .ok (.if_icmp .lt 12, 3) := by decide +kernel
theorem dX10_in_5 : decode cX10_in 5 = .ok (.iload_n 0, 1) := by decide +kernel
theorem dX10_in_6 : decode cX10_in 6 = .ok (.iload_n 2, 1) := by decide +kernel
theorem dX10_in_7 : decode cX10_in 7 = .ok (.if_icmp .gt 7, 3) := by decide +kernel
theorem dX10_in_10 : decode cX10_in 10 = .ok (.iconst 1, 1) := by decide +kernel
theorem dX10_in_11 : decode cX10_in 11 = .ok (.goto 4, 3) := by decide +kernel
theorem dX10_in_14 : decode cX10_in 14 = .ok (.iconst 0, 1) := by decide +kernel
theorem dX10_in_15 : decode cX10_in 15 = .ok (.ireturn, 1) := by decide +kernel
theorem dX10_has_0 : decode cX10_has 0 = .ok (.iload_n 0, 1) := by decide +kernel
theorem dX10_has_1 : decode cX10_has 1 = .ok (.iload_n 1, 1) := by decide +kernel
theorem dX10_has_2 : decode cX10_has 2 = .ok (.ishr, 1) := by decide +kernel
theorem dX10_has_3 : decode cX10_has 3 = .ok (.iconst 1, 1) := by decide +kernel
theorem dX10_has_4 : decode cX10_has 4 = .ok (.iand, 1) := by decide +kernel
theorem dX10_has_5 : decode cX10_has 5 = .ok (.iconst 1, 1) := by decide +kernel
theorem dX10_has_6 : decode cX10_has 6 = .ok (.if_icmp .ne 7, 3) := by decide +kernel
theorem dX10_has_9 : decode cX10_has 9 = .ok (.iconst 1, 1) := by decide +kernel
theorem dX10_has_10 : decode cX10_has 10 = .ok (.goto 4, 3) := by decide +kernel
theorem dX10_has_13 : decode cX10_has 13 = .ok (.iconst 0, 1) := by decide +kernel
theorem dX10_has_14 : decode cX10_has 14 = .ok (.ireturn, 1) := by decide +kernel
theorem dX10_isClient_0 : decode cX10_isClient 0 = .ok (.iload_n 1, 1) := by decide +kernel
theorem dX10_isClient_1 : decode cX10_isClient 1 = .ok (.iconst 0, 1) := by decide +kernel
theorem dX10_isClient_2 : decode cX10_isClient 2 = .ok (.aload_n 0, 1) := by decide +kernel
theorem dX10_isClient_3 : decode cX10_isClient 3 = .ok (.getfield 69, 3) := by decide +kernel
theorem dX10_isClient_6 : decode cX10_isClient 6 = .ok (.iconst 1, 1) := by decide +kernel
theorem dX10_isClient_7 : decode cX10_isClient 7 = .ok (.isub, 1) := by decide +kernel
theorem dX10_isClient_8 : decode cX10_isClient 8 = .ok (.invokestatic 72, 3) := by decide +kernel
theorem dX10_isClient_11 : decode cX10_isClient 11 = .ok (.ireturn, 1) := by decide +kernel
theorem dX10_isBlock_0 : decode cX10_isBlock 0 = .ok (.iload_n 1, 1) := by decide +kernel
theorem dX10_isBlock_1 : decode cX10_isBlock 1 = .ok (.iconst 0, 1) := by decide +kernel
theorem dX10_isBlock_2 : decode cX10_isBlock 2 = .ok (.aload_n 0, 1) := by decide +kernel
theorem dX10_isBlock_3 : decode cX10_isBlock 3 = .ok (.getfield 76, 3) := by decide +kernel
theorem dX10_isBlock_6 : decode cX10_isBlock 6 = .ok (.iconst 1, 1) := by decide +kernel
theorem dX10_isBlock_7 : decode cX10_isBlock 7 = .ok (.isub, 1) := by decide +kernel
theorem dX10_isBlock_8 : decode cX10_isBlock 8 = .ok (.invokestatic 72, 3) := by decide +kernel
theorem dX10_isBlock_11 : decode cX10_isBlock 11 = .ok (.ireturn, 1) := by decide +kernel
theorem dX10_isBranch_0 : decode cX10_isBranch 0 = .ok (.iload_n 1, 1) := by decide +kernel
theorem dX10_isBranch_1 : decode cX10_isBranch 1 = .ok (.iconst 0, 1) := by decide +kernel
theorem dX10_isBranch_2 : decode cX10_isBranch 2 = .ok (.aload_n 0, 1) := by decide +kernel
theorem dX10_isBranch_3 : decode cX10_isBranch 3 = .ok (.getfield 79, 3) := by decide +kernel
theorem dX10_isBranch_6 : decode cX10_isBranch 6 = .ok (.iconst 1, 1) := by decide +kernel
theorem dX10_isBranch_7 : decode cX10_isBranch 7 = .ok (.isub, 1) := by decide +kernel
theorem dX10_isBranch_8 : decode cX10_isBranch 8 = .ok (.invokestatic 72, 3) := by decide +kernel
theorem dX10_isBranch_11 : decode cX10_isBranch 11 = .ok (.ireturn, 1) := by decide +kernel
theorem dX10_isEntry_0 : decode cX10_isEntry 0 = .ok (.aload_n 0, 1) := by decide +kernel
theorem dX10_isEntry_1 : decode cX10_isEntry 1 = .ok (.iload_n 1, 1) := by decide +kernel
theorem dX10_isEntry_2 : decode cX10_isEntry 2 = .ok (.invokevirtual 82, 3) := by decide +kernel
theorem dX10_isEntry_5 : decode cX10_isEntry 5 = .ok (.ifCond .eq 21, 3) := by decide +kernel
theorem dX10_isEntry_8 : decode cX10_isEntry 8 = .ok (.iload_n 2, 1) := by decide +kernel
theorem dX10_isEntry_9 : decode cX10_isEntry 9 = .ok (.iconst 1, 1) := by decide +kernel
theorem dX10_isEntry_10 : decode cX10_isEntry 10 = .ok (.aload_n 0, 1) := by decide +kernel
theorem dX10_isEntry_11 : decode cX10_isEntry 11 = .ok (.getfield 7, 3) := by decide +kernel
theorem dX10_isEntry_14 : decode cX10_isEntry 14 = .ok (.iload_n 1, 1) := by decide +kernel
theorem dX10_isEntry_15 : decode cX10_isEntry 15 = .ok (.iaload, 1) := by decide +kernel
theorem dX10_isEntry_16 : decode cX10_isEntry 16 = .ok (.invokestatic 72, 3) := by decide +kernel
theorem dX10_isEntry_19 : decode cX10_isEntry 19 = .ok (.ifCond .eq 7, 3) := by decide +kernel
theorem dX10_isEntry_22 : decode cX10_isEntry 22 = .ok (.iconst 1, 1) := by decide +kernel
theorem dX10_isEntry_23 : decode cX10_isEntry 23 = .ok (.goto 4, 3) := by decide +kernel
theorem dX10_isEntry_26 : decode cX10_isEntry 26 = .ok (.iconst 0, 1) := by decide +kernel
theorem dX10_isEntry_27 : decode cX10_isEntry 27 = .ok (.ireturn, 1) := by decide +kernel
theorem dX10_at_0 : decode cX10_at 0 = .ok (.sipush 200, 3) := by decide +kernel
theorem dX10_at_3 : decode cX10_at 3 = .ok (.iload_n 0, 1) := by decide +kernel
theorem dX10_at_4 : decode cX10_at 4 = .ok (.imul, 1) := by decide +kernel
theorem dX10_at_5 : decode cX10_at 5 = .ok (.iload_n 1, 1) := by decide +kernel
theorem dX10_at_6 : decode cX10_at 6 = .ok (.iadd, 1) := by decide +kernel
theorem dX10_at_7 : decode cX10_at 7 = .ok (.iconst 1, 1) := by decide +kernel
theorem dX10_at_8 : decode cX10_at 8 = .ok (.isub, 1) := by decide +kernel
theorem dX10_at_9 : decode cX10_at 9 = .ok (.ireturn, 1) := by decide +kernel
theorem dX10_hashOf_0 : decode cX10_hashOf 0 = .ok (.iload_n 2, 1) := by decide +kernel
theorem dX10_hashOf_1 : decode cX10_hashOf 1 = .ok (.ifCond .ne 7, 3) := by decide +kernel
theorem dX10_hashOf_4 : decode cX10_hashOf 4 = .ok (.iconst 1, 1) := by decide +kernel
theorem dX10_hashOf_5 : decode cX10_hashOf 5 = .ok (.goto 13, 3) := by decide +kernel
theorem dX10_hashOf_8 : decode cX10_hashOf 8 = .ok (.aload_n 0, 1) := by decide +kernel
theorem dX10_hashOf_9 : decode cX10_hashOf 9 = .ok (.getfield 28, 3) := by decide +kernel
theorem dX10_hashOf_12 : decode cX10_hashOf 12 = .ok (.iload_n 1, 1) := by decide +kernel
theorem dX10_hashOf_13 : decode cX10_hashOf 13 = .ok (.iload_n 2, 1) := by decide +kernel
theorem dX10_hashOf_14 : decode cX10_hashOf 14 = .ok (.invokestatic 86, 3) := by decide +kernel
theorem dX10_hashOf_17 : decode cX10_hashOf 17 = .ok (.iaload, 1) := by decide +kernel
theorem dX10_hashOf_18 : decode cX10_hashOf 18 = .ok (.ireturn, 1) := by decide +kernel
theorem dX10_hashIn_0 : decode cX10_hashIn 0 = .ok (.aload_n 0, 1) := by decide +kernel
theorem dX10_hashIn_1 : decode cX10_hashIn 1 = .ok (.getfield 43, 3) := by decide +kernel
theorem dX10_hashIn_4 : decode cX10_hashIn 4 = .ok (.sipush 201, 3) := by decide +kernel
theorem dX10_hashIn_7 : decode cX10_hashIn 7 = .ok (.iload_n 1, 1) := by decide +kernel
theorem dX10_hashIn_8 : decode cX10_hashIn 8 = .ok (.imul, 1) := by decide +kernel
theorem dX10_hashIn_9 : decode cX10_hashIn 9 = .ok (.iload_n 2, 1) := by decide +kernel
theorem dX10_hashIn_10 : decode cX10_hashIn 10 = .ok (.iadd, 1) := by decide +kernel
theorem dX10_hashIn_11 : decode cX10_hashIn 11 = .ok (.iaload, 1) := by decide +kernel
theorem dX10_hashIn_12 : decode cX10_hashIn 12 = .ok (.ireturn, 1) := by decide +kernel
theorem dX10_ownHash_0 : decode cX10_ownHash 0 = .ok (.aload_n 0, 1) := by decide +kernel
theorem dX10_ownHash_1 : decode cX10_ownHash 1 = .ok (.iload_n 1, 1) := by decide +kernel
theorem dX10_ownHash_2 : decode cX10_ownHash 2 = .ok (.aload_n 0, 1) := by decide +kernel
theorem dX10_ownHash_3 : decode cX10_ownHash 3 = .ok (.getfield 34, 3) := by decide +kernel
theorem dX10_ownHash_6 : decode cX10_ownHash 6 = .ok (.iload_n 1, 1) := by decide +kernel
theorem dX10_ownHash_7 : decode cX10_ownHash 7 = .ok (.iaload, 1) := by decide +kernel
theorem dX10_ownHash_8 : decode cX10_ownHash 8 = .ok (.invokevirtual 90, 3) := by decide +kernel
theorem dX10_ownHash_11 : decode cX10_ownHash 11 = .ok (.ireturn, 1) := by decide +kernel
theorem dX10_rest_0 : decode cX10_rest 0 = .ok (.lload_n 0, 1) := by decide +kernel
theorem dX10_rest_1 : decode cX10_rest 1 = .ok (.ldc2_w 93, 3) := by decide +kernel
theorem dX10_rest_4 : decode cX10_rest 4 = .ok (.lrem, 1) := by decide +kernel
theorem dX10_rest_5 : decode cX10_rest 5 = .ok (.l2i, 1) := by decide +kernel
theorem dX10_rest_6 : decode cX10_rest 6 = .ok (.ireturn, 1) := by decide +kernel
theorem dX10_computed_0 : decode cX10_computed 0 = .ok (.iload_n 1, 1) := by decide +kernel
theorem dX10_computed_1 : decode cX10_computed 1 = .ok (.iload_n 2, 1) := by decide +kernel
theorem dX10_computed_2 : decode cX10_computed 2 = .ok (.invokestatic 86, 3) := by decide +kernel
theorem dX10_computed_5 : decode cX10_computed 5 = .ok (.istore_n 3, 1) := by decide +kernel
theorem dX10_computed_6 : decode cX10_computed 6 = .ok (.aload_n 0, 1) := by decide +kernel
theorem dX10_computed_7 : decode cX10_computed 7 = .ok (.iload_n 1, 1) := by decide +kernel
theorem dX10_computed_8 : decode cX10_computed 8 = .ok (.iload_n 2, 1) := by decide +kernel
theorem dX10_computed_9 : decode cX10_computed 9 = .ok (.iconst 1, 1) := by decide +kernel
theorem dX10_computed_10 : decode cX10_computed 10 = .ok (.isub, 1) := by decide +kernel
theorem dX10_computed_11 : decode cX10_computed 11 = .ok (.invokevirtual 95, 3) := by decide +kernel
theorem dX10_computed_14 : decode cX10_computed 14 = .ok (.i2l, 1) := by decide +kernel
theorem dX10_computed_15 : decode cX10_computed 15 = .ok (.ldc2_w 98, 3) := by decide +kernel
theorem dX10_computed_18 : decode cX10_computed 18 = .ok (.lmul, 1) := by decide +kernel
theorem dX10_computed_19 : decode cX10_computed 19 = .ok (.iload_n 2, 1) := by decide +kernel
theorem dX10_computed_20 : decode cX10_computed 20 = .ok (.i2l, 1) := by decide +kernel
theorem dX10_computed_21 : decode cX10_computed 21 = .ok (.ladd, 1) := by decide +kernel
theorem dX10_computed_22 : decode cX10_computed 22 = .ok (.lstore 4, 2) := by decide +kernel
theorem dX10_computed_24 : decode cX10_computed 24 = .ok (.aload_n 0, 1) := by decide +kernel
theorem dX10_computed_25 : decode cX10_computed 25 = .ok (.getfield 13, 3) := by decide +kernel
theorem dX10_computed_28 : decode cX10_computed 28 = .ok (.iload_n 3, 1) := by decide +kernel
theorem dX10_computed_29 : decode cX10_computed 29 = .ok (.iaload, 1) := by decide +kernel
theorem dX10_computed_30 : decode cX10_computed 30 = .ok (.iconst 2, 1) := by decide +kernel
theorem dX10_computed_31 : decode cX10_computed 31 = .ok (.if_icmp .ne 21, 3) := by decide +kernel
theorem dX10_computed_34 : decode cX10_computed 34 = .ok (.lload 4, 2) := by decide +kernel
theorem dX10_computed_36 : decode cX10_computed 36 = .ok (.aload_n 0, 1) := by decide +kernel
theorem dX10_computed_37 : decode cX10_computed 37 = .ok (.getfield 25, 3) := by decide +kernel
theorem dX10_computed_40 : decode cX10_computed 40 = .ok (.iload_n 3, 1) := by decide +kernel
theorem dX10_computed_41 : decode cX10_computed 41 = .ok (.iaload, 1) := by decide +kernel
theorem dX10_computed_42 : decode cX10_computed 42 = .ok (.i2l, 1) := by decide +kernel
theorem dX10_computed_43 : decode cX10_computed 43 = .ok (.ldc2_w 100, 3) := by decide +kernel
theorem dX10_computed_46 : decode cX10_computed 46 = .ok (.lmul, 1) := by decide +kernel
theorem dX10_computed_47 : decode cX10_computed 47 = .ok (.ladd, 1) := by decide +kernel
theorem dX10_computed_48 : decode cX10_computed 48 = .ok (.invokestatic 102, 3) := by decide +kernel
theorem dX10_computed_51 : decode cX10_computed 51 = .ok (.ireturn, 1) := by decide +kernel
theorem dX10_computed_52 : decode cX10_computed 52 = .ok (.lload 4, 2) := by decide +kernel
theorem dX10_computed_54 : decode cX10_computed 54 = .ok (.aload_n 0, 1) := by decide +kernel
theorem dX10_computed_55 : decode cX10_computed 55 = .ok (.getfield 16, 3) := by decide +kernel
theorem dX10_computed_58 : decode cX10_computed 58 = .ok (.iload_n 3, 1) := by decide +kernel
theorem dX10_computed_59 : decode cX10_computed 59 = .ok (.iaload, 1) := by decide +kernel
theorem dX10_computed_60 : decode cX10_computed 60 = .ok (.i2l, 1) := by decide +kernel
theorem dX10_computed_61 : decode cX10_computed 61 = .ok (.ldc2_w 106, 3) := by decide +kernel
theorem dX10_computed_64 : decode cX10_computed 64 = .ok (.lmul, 1) := by decide +kernel
theorem dX10_computed_65 : decode cX10_computed 65 = .ok (.ladd, 1) := by decide +kernel
theorem dX10_computed_66 : decode cX10_computed 66 = .ok (.aload_n 0, 1) := by decide +kernel
theorem dX10_computed_67 : decode cX10_computed 67 = .ok (.getfield 19, 3) := by decide +kernel
theorem dX10_computed_70 : decode cX10_computed 70 = .ok (.iload_n 3, 1) := by decide +kernel
theorem dX10_computed_71 : decode cX10_computed 71 = .ok (.iaload, 1) := by decide +kernel
theorem dX10_computed_72 : decode cX10_computed 72 = .ok (.i2l, 1) := by decide +kernel
theorem dX10_computed_73 : decode cX10_computed 73 = .ok (.ldc2_w 108, 3) := by decide +kernel
theorem dX10_computed_76 : decode cX10_computed 76 = .ok (.lmul, 1) := by decide +kernel
theorem dX10_computed_77 : decode cX10_computed 77 = .ok (.ladd, 1) := by decide +kernel
theorem dX10_computed_78 : decode cX10_computed 78 = .ok (.lstore 6, 2) := by decide +kernel
theorem dX10_computed_80 : decode cX10_computed 80 = .ok (.aload_n 0, 1) := by decide +kernel
theorem dX10_computed_81 : decode cX10_computed 81 = .ok (.getfield 13, 3) := by decide +kernel
theorem dX10_computed_84 : decode cX10_computed 84 = .ok (.iload_n 3, 1) := by decide +kernel
theorem dX10_computed_85 : decode cX10_computed 85 = .ok (.iaload, 1) := by decide +kernel
theorem dX10_computed_86 : decode cX10_computed 86 = .ok (.iconst 1, 1) := by decide +kernel
theorem dX10_computed_87 : decode cX10_computed 87 = .ok (.if_icmp .ne 22, 3) := by decide +kernel
theorem dX10_computed_90 : decode cX10_computed 90 = .ok (.lload 6, 2) := by decide +kernel
theorem dX10_computed_92 : decode cX10_computed 92 = .ok (.aload_n 0, 1) := by decide +kernel
theorem dX10_computed_93 : decode cX10_computed 93 = .ok (.getfield 22, 3) := by decide +kernel
theorem dX10_computed_96 : decode cX10_computed 96 = .ok (.iload_n 3, 1) := by decide +kernel
theorem dX10_computed_97 : decode cX10_computed 97 = .ok (.iaload, 1) := by decide +kernel
theorem dX10_computed_98 : decode cX10_computed 98 = .ok (.i2l, 1) := by decide +kernel
theorem dX10_computed_99 : decode cX10_computed 99 = .ok (.lconst 1, 1) := by decide +kernel
theorem dX10_computed_100 : decode cX10_computed 100 = .ok (.ladd, 1) := by decide +kernel
theorem dX10_computed_101 : decode cX10_computed 101 = .ok (.ldc2_w 110, 3) := by decide +kernel
theorem dX10_computed_104 : decode cX10_computed 104 = .ok (.lmul, 1) := by decide +kernel
theorem dX10_computed_105 : decode cX10_computed 105 = .ok (.ladd, 1) := by decide +kernel
theorem dX10_computed_106 : decode cX10_computed 106 = .ok (.goto 5, 3) := by decide +kernel
theorem dX10_computed_109 : decode cX10_computed 109 = .ok (.lload 6, 2) := by decide +kernel
theorem dX10_computed_111 : decode cX10_computed 111 = .ok (.invokestatic 102, 3) := by decide +kernel
theorem dX10_computed_114 : decode cX10_computed 114 = .ok (.ireturn, 1) := by decide +kernel
theorem dX10_signature_0 : decode cX10_signature 0 = .ok (.iload_n 2, 1) := by decide +kernel
theorem dX10_signature_1 : decode cX10_signature 1 = .ok (.i2l, 1) := by decide +kernel
theorem dX10_signature_2 : decode cX10_signature 2 = .ok (.ldc2_w 112, 3) := by decide +kernel
theorem dX10_signature_5 : decode cX10_signature 5 = .ok (.lmul, 1) := by decide +kernel
theorem dX10_signature_6 : decode cX10_signature 6 = .ok (.iload_n 1, 1) := by decide +kernel
theorem dX10_signature_7 : decode cX10_signature 7 = .ok (.i2l, 1) := by decide +kernel
theorem dX10_signature_8 : decode cX10_signature 8 = .ok (.ldc2_w 114, 3) := by decide +kernel
theorem dX10_signature_11 : decode cX10_signature 11 = .ok (.lmul, 1) := by decide +kernel
theorem dX10_signature_12 : decode cX10_signature 12 = .ok (.ladd, 1) := by decide +kernel
theorem dX10_signature_13 : decode cX10_signature 13 = .ok (.iload_n 0, 1) := by decide +kernel
theorem dX10_signature_14 : decode cX10_signature 14 = .ok (.i2l, 1) := by decide +kernel
theorem dX10_signature_15 : decode cX10_signature 15 = .ok (.ldc2_w 116, 3) := by decide +kernel
theorem dX10_signature_18 : decode cX10_signature 18 = .ok (.lmul, 1) := by decide +kernel
theorem dX10_signature_19 : decode cX10_signature 19 = .ok (.ladd, 1) := by decide +kernel
theorem dX10_signature_20 : decode cX10_signature 20 = .ok (.ldc2_w 118, 3) := by decide +kernel
theorem dX10_signature_23 : decode cX10_signature 23 = .ok (.ladd, 1) := by decide +kernel
theorem dX10_signature_24 : decode cX10_signature 24 = .ok (.invokestatic 102, 3) := by decide +kernel
theorem dX10_signature_27 : decode cX10_signature 27 = .ok (.ireturn, 1) := by decide +kernel
theorem dX10_append_0 : decode cX10_append 0 = .ok (.aload_n 0, 1) := by decide +kernel
theorem dX10_append_1 : decode cX10_append 1 = .ok (.getfield 7, 3) := by decide +kernel
theorem dX10_append_4 : decode cX10_append 4 = .ok (.iload_n 1, 1) := by decide +kernel
theorem dX10_append_5 : decode cX10_append 5 = .ok (.aload_n 0, 1) := by decide +kernel
theorem dX10_append_6 : decode cX10_append 6 = .ok (.getfield 7, 3) := by decide +kernel
theorem dX10_append_9 : decode cX10_append 9 = .ok (.iload_n 1, 1) := by decide +kernel
theorem dX10_append_10 : decode cX10_append 10 = .ok (.iaload, 1) := by decide +kernel
theorem dX10_append_11 : decode cX10_append 11 = .ok (.iconst 1, 1) := by decide +kernel
theorem dX10_append_12 : decode cX10_append 12 = .ok (.iadd, 1) := by decide +kernel
theorem dX10_append_13 : decode cX10_append 13 = .ok (.iastore, 1) := by decide +kernel
theorem dX10_append_14 : decode cX10_append 14 = .ok (.iload_n 1, 1) := by decide +kernel
theorem dX10_append_15 : decode cX10_append 15 = .ok (.aload_n 0, 1) := by decide +kernel
theorem dX10_append_16 : decode cX10_append 16 = .ok (.getfield 7, 3) := by decide +kernel
theorem dX10_append_19 : decode cX10_append 19 = .ok (.iload_n 1, 1) := by decide +kernel
theorem dX10_append_20 : decode cX10_append 20 = .ok (.iaload, 1) := by decide +kernel
theorem dX10_append_21 : decode cX10_append 21 = .ok (.invokestatic 86, 3) := by decide +kernel
theorem dX10_append_24 : decode cX10_append 24 = .ok (.istore 7, 2) := by decide +kernel
theorem dX10_append_26 : decode cX10_append 26 = .ok (.aload_n 0, 1) := by decide +kernel
theorem dX10_append_27 : decode cX10_append 27 = .ok (.getfield 13, 3) := by decide +kernel
theorem dX10_append_30 : decode cX10_append 30 = .ok (.iload 7, 2) := by decide +kernel
theorem dX10_append_32 : decode cX10_append 32 = .ok (.iload_n 2, 1) := by decide +kernel
theorem dX10_append_33 : decode cX10_append 33 = .ok (.iastore, 1) := by decide +kernel
theorem dX10_append_34 : decode cX10_append 34 = .ok (.aload_n 0, 1) := by decide +kernel
theorem dX10_append_35 : decode cX10_append 35 = .ok (.getfield 16, 3) := by decide +kernel
theorem dX10_append_38 : decode cX10_append 38 = .ok (.iload 7, 2) := by decide +kernel
theorem dX10_append_40 : decode cX10_append 40 = .ok (.iload_n 3, 1) := by decide +kernel
theorem dX10_append_41 : decode cX10_append 41 = .ok (.iastore, 1) := by decide +kernel
theorem dX10_append_42 : decode cX10_append 42 = .ok (.aload_n 0, 1) := by decide +kernel
theorem dX10_append_43 : decode cX10_append 43 = .ok (.getfield 19, 3) := by decide +kernel
theorem dX10_append_46 : decode cX10_append 46 = .ok (.iload 7, 2) := by decide +kernel
theorem dX10_append_48 : decode cX10_append 48 = .ok (.iload 4, 2) := by decide +kernel
theorem dX10_append_50 : decode cX10_append 50 = .ok (.iastore, 1) := by decide +kernel
theorem dX10_append_51 : decode cX10_append 51 = .ok (.aload_n 0, 1) := by decide +kernel
theorem dX10_append_52 : decode cX10_append 52 = .ok (.getfield 22, 3) := by decide +kernel
theorem dX10_append_55 : decode cX10_append 55 = .ok (.iload 7, 2) := by decide +kernel
theorem dX10_append_57 : decode cX10_append 57 = .ok (.iload 5, 2) := by decide +kernel
theorem dX10_append_59 : decode cX10_append 59 = .ok (.iastore, 1) := by decide +kernel
theorem dX10_append_60 : decode cX10_append 60 = .ok (.aload_n 0, 1) := by decide +kernel
theorem dX10_append_61 : decode cX10_append 61 = .ok (.getfield 25, 3) := by decide +kernel
theorem dX10_append_64 : decode cX10_append 64 = .ok (.iload 7, 2) := by decide +kernel
theorem dX10_append_66 : decode cX10_append 66 = .ok (.iload 6, 2) := by decide +kernel
theorem dX10_append_68 : decode cX10_append 68 = .ok (.iastore, 1) := by decide +kernel
theorem dX10_append_69 : decode cX10_append 69 = .ok (.aload_n 0, 1) := by decide +kernel
theorem dX10_append_70 : decode cX10_append 70 = .ok (.getfield 28, 3) := by decide +kernel
theorem dX10_append_73 : decode cX10_append 73 = .ok (.iload 7, 2) := by decide +kernel
theorem dX10_append_75 : decode cX10_append 75 = .ok (.aload_n 0, 1) := by decide +kernel
theorem dX10_append_76 : decode cX10_append 76 = .ok (.iload_n 1, 1) := by decide +kernel
theorem dX10_append_77 : decode cX10_append 77 = .ok (.aload_n 0, 1) := by decide +kernel
theorem dX10_append_78 : decode cX10_append 78 = .ok (.getfield 7, 3) := by decide +kernel
theorem dX10_append_81 : decode cX10_append 81 = .ok (.iload_n 1, 1) := by decide +kernel
theorem dX10_append_82 : decode cX10_append 82 = .ok (.iaload, 1) := by decide +kernel
theorem dX10_append_83 : decode cX10_append 83 = .ok (.invokevirtual 120, 3) := by decide +kernel
theorem dX10_append_86 : decode cX10_append 86 = .ok (.iastore, 1) := by decide +kernel
theorem dX10_append_87 : decode cX10_append 87 = .ok (.return_, 1) := by decide +kernel
theorem dX10_takes_0 : decode cX10_takes 0 = .ok (.aload_n 0, 1) := by decide +kernel
theorem dX10_takes_1 : decode cX10_takes 1 = .ok (.getfield 34, 3) := by decide +kernel
theorem dX10_takes_4 : decode cX10_takes 4 = .ok (.iload_n 1, 1) := by decide +kernel
theorem dX10_takes_5 : decode cX10_takes 5 = .ok (.aload_n 0, 1) := by decide +kernel
theorem dX10_takes_6 : decode cX10_takes 6 = .ok (.getfield 7, 3) := by decide +kernel
theorem dX10_takes_9 : decode cX10_takes 9 = .ok (.iload_n 2, 1) := by decide +kernel
theorem dX10_takes_10 : decode cX10_takes 10 = .ok (.iaload, 1) := by decide +kernel
theorem dX10_takes_11 : decode cX10_takes 11 = .ok (.iastore, 1) := by decide +kernel
theorem dX10_takes_12 : decode cX10_takes 12 = .ok (.iconst 0, 1) := by decide +kernel
theorem dX10_takes_13 : decode cX10_takes 13 = .ok (.istore_n 3, 1) := by decide +kernel
theorem dX10_takes_14 : decode cX10_takes 14 = .ok (.iload_n 3, 1) := by decide +kernel
theorem dX10_takes_15 : decode cX10_takes 15 = .ok (.bipush 6, 2) := by decide +kernel
theorem dX10_takes_17 : decode cX10_takes 17 = .ok (.if_icmp .ge 21, 3) := by decide +kernel
theorem dX10_takes_20 : decode cX10_takes 20 = .ok (.aload_n 0, 1) := by decide +kernel
theorem dX10_takes_21 : decode cX10_takes 21 = .ok (.getfield 40, 3) := by decide +kernel
theorem dX10_takes_24 : decode cX10_takes 24 = .ok (.bipush 6, 2) := by decide +kernel
theorem dX10_takes_26 : decode cX10_takes 26 = .ok (.iload_n 1, 1) := by decide +kernel
theorem dX10_takes_27 : decode cX10_takes 27 = .ok (.imul, 1) := by decide +kernel
theorem dX10_takes_28 : decode cX10_takes 28 = .ok (.iload_n 3, 1) := by decide +kernel
theorem dX10_takes_29 : decode cX10_takes 29 = .ok (.iadd, 1) := by decide +kernel
theorem dX10_takes_30 : decode cX10_takes 30 = .ok (.iconst 0, 1) := by decide +kernel
theorem dX10_takes_31 : decode cX10_takes 31 = .ok (.iastore, 1) := by decide +kernel
theorem dX10_takes_32 : decode cX10_takes 32 = .ok (.iinc 3 1, 3) := by decide +kernel
theorem dX10_takes_35 : decode cX10_takes 35 = .ok (.goto (-21), 3) := by decide +kernel
theorem dX10_takes_38 : decode cX10_takes 38 = .ok (.iconst 0, 1) := by decide +kernel
theorem dX10_takes_39 : decode cX10_takes 39 = .ok (.istore_n 3, 1) := by decide +kernel
theorem dX10_takes_40 : decode cX10_takes 40 = .ok (.iload_n 3, 1) := by decide +kernel
theorem dX10_takes_41 : decode cX10_takes 41 = .ok (.aload_n 0, 1) := by decide +kernel
theorem dX10_takes_42 : decode cX10_takes 42 = .ok (.getfield 7, 3) := by decide +kernel
theorem dX10_takes_45 : decode cX10_takes 45 = .ok (.iload_n 2, 1) := by decide +kernel
theorem dX10_takes_46 : decode cX10_takes 46 = .ok (.iaload, 1) := by decide +kernel
theorem dX10_takes_47 : decode cX10_takes 47 = .ok (.if_icmp .gt 27, 3) := by decide +kernel
theorem dX10_takes_50 : decode cX10_takes 50 = .ok (.aload_n 0, 1) := by decide +kernel
theorem dX10_takes_51 : decode cX10_takes 51 = .ok (.getfield 43, 3) := by decide +kernel
theorem dX10_takes_54 : decode cX10_takes 54 = .ok (.sipush 201, 3) := by decide +kernel
theorem dX10_takes_57 : decode cX10_takes 57 = .ok (.iload_n 1, 1) := by decide +kernel
theorem dX10_takes_58 : decode cX10_takes 58 = .ok (.imul, 1) := by decide +kernel
theorem dX10_takes_59 : decode cX10_takes 59 = .ok (.iload_n 3, 1) := by decide +kernel
theorem dX10_takes_60 : decode cX10_takes 60 = .ok (.iadd, 1) := by decide +kernel
theorem dX10_takes_61 : decode cX10_takes 61 = .ok (.aload_n 0, 1) := by decide +kernel
theorem dX10_takes_62 : decode cX10_takes 62 = .ok (.iload_n 2, 1) := by decide +kernel
theorem dX10_takes_63 : decode cX10_takes 63 = .ok (.iload_n 3, 1) := by decide +kernel
theorem dX10_takes_64 : decode cX10_takes 64 = .ok (.invokevirtual 95, 3) := by decide +kernel
theorem dX10_takes_67 : decode cX10_takes 67 = .ok (.iastore, 1) := by decide +kernel
theorem dX10_takes_68 : decode cX10_takes 68 = .ok (.iinc 3 1, 3) := by decide +kernel
theorem dX10_takes_71 : decode cX10_takes 71 = .ok (.goto (-31), 3) := by decide +kernel
theorem dX10_takes_74 : decode cX10_takes 74 = .ok (.iconst 1, 1) := by decide +kernel
theorem dX10_takes_75 : decode cX10_takes 75 = .ok (.istore_n 3, 1) := by decide +kernel
theorem dX10_takes_76 : decode cX10_takes 76 = .ok (.iload_n 3, 1) := by decide +kernel
theorem dX10_takes_77 : decode cX10_takes 77 = .ok (.aload_n 0, 1) := by decide +kernel
theorem dX10_takes_78 : decode cX10_takes 78 = .ok (.getfield 7, 3) := by decide +kernel
theorem dX10_takes_81 : decode cX10_takes 81 = .ok (.iload_n 2, 1) := by decide +kernel
theorem dX10_takes_82 : decode cX10_takes 82 = .ok (.iaload, 1) := by decide +kernel
theorem dX10_takes_83 : decode cX10_takes 83 = .ok (.if_icmp .gt 53, 3) := by decide +kernel
theorem dX10_takes_86 : decode cX10_takes 86 = .ok (.aload_n 0, 1) := by decide +kernel
theorem dX10_takes_87 : decode cX10_takes 87 = .ok (.getfield 16, 3) := by decide +kernel
theorem dX10_takes_90 : decode cX10_takes 90 = .ok (.iload_n 2, 1) := by decide +kernel
theorem dX10_takes_91 : decode cX10_takes 91 = .ok (.iload_n 3, 1) := by decide +kernel
theorem dX10_takes_92 : decode cX10_takes 92 = .ok (.invokestatic 86, 3) := by decide +kernel
theorem dX10_takes_95 : decode cX10_takes 95 = .ok (.iaload, 1) := by decide +kernel
theorem dX10_takes_96 : decode cX10_takes 96 = .ok (.istore 4, 2) := by decide +kernel
theorem dX10_takes_98 : decode cX10_takes 98 = .ok (.iload 4, 2) := by decide +kernel
theorem dX10_takes_100 : decode cX10_takes 100 = .ok (.iconst (-1), 1) := by decide +kernel
theorem dX10_takes_101 : decode cX10_takes 101 = .ok (.if_icmp .eq 29, 3) := by decide +kernel
theorem dX10_takes_104 : decode cX10_takes 104 = .ok (.aload_n 0, 1) := by decide +kernel
theorem dX10_takes_105 : decode cX10_takes 105 = .ok (.getfield 40, 3) := by decide +kernel
theorem dX10_takes_108 : decode cX10_takes 108 = .ok (.bipush 6, 2) := by decide +kernel
theorem dX10_takes_110 : decode cX10_takes 110 = .ok (.iload_n 1, 1) := by decide +kernel
theorem dX10_takes_111 : decode cX10_takes 111 = .ok (.imul, 1) := by decide +kernel
theorem dX10_takes_112 : decode cX10_takes 112 = .ok (.iload 4, 2) := by decide +kernel
theorem dX10_takes_114 : decode cX10_takes 114 = .ok (.iadd, 1) := by decide +kernel
theorem dX10_takes_115 : decode cX10_takes 115 = .ok (.aload_n 0, 1) := by decide +kernel
theorem dX10_takes_116 : decode cX10_takes 116 = .ok (.getfield 40, 3) := by decide +kernel
theorem dX10_takes_119 : decode cX10_takes 119 = .ok (.bipush 6, 2) := by decide +kernel
theorem dX10_takes_121 : decode cX10_takes 121 = .ok (.iload_n 1, 1) := by decide +kernel
theorem dX10_takes_122 : decode cX10_takes 122 = .ok (.imul, 1) := by decide +kernel
theorem dX10_takes_123 : decode cX10_takes 123 = .ok (.iload 4, 2) := by decide +kernel
theorem dX10_takes_125 : decode cX10_takes 125 = .ok (.iadd, 1) := by decide +kernel
theorem dX10_takes_126 : decode cX10_takes 126 = .ok (.iaload, 1) := by decide +kernel
theorem dX10_takes_127 : decode cX10_takes 127 = .ok (.iconst 1, 1) := by decide +kernel
theorem dX10_takes_128 : decode cX10_takes 128 = .ok (.iadd, 1) := by decide +kernel
theorem dX10_takes_129 : decode cX10_takes 129 = .ok (.iastore, 1) := by decide +kernel
theorem dX10_takes_130 : decode cX10_takes 130 = .ok (.iinc 3 1, 3) := by decide +kernel
theorem dX10_takes_133 : decode cX10_takes 133 = .ok (.goto (-57), 3) := by decide +kernel
theorem dX10_takes_136 : decode cX10_takes 136 = .ok (.return_, 1) := by decide +kernel
theorem dX10_startAnew_0 : decode cX10_startAnew 0 = .ok (.aload_n 0, 1) := by decide +kernel
theorem dX10_startAnew_1 : decode cX10_startAnew 1 = .ok (.iconst 1, 1) := by decide +kernel
theorem dX10_startAnew_2 : decode cX10_startAnew 2 = .ok (.putfield 79, 3) := by decide +kernel
theorem dX10_startAnew_5 : decode cX10_startAnew 5 = .ok (.aload_n 0, 1) := by decide +kernel
theorem dX10_startAnew_6 : decode cX10_startAnew 6 = .ok (.iconst 0, 1) := by decide +kernel
theorem dX10_startAnew_7 : decode cX10_startAnew 7 = .ok (.putfield 123, 3) := by decide +kernel
theorem dX10_startAnew_10 : decode cX10_startAnew 10 = .ok (.aload_n 0, 1) := by decide +kernel
theorem dX10_startAnew_11 : decode cX10_startAnew 11 = .ok (.getfield 7, 3) := by decide +kernel
theorem dX10_startAnew_14 : decode cX10_startAnew 14 = .ok (.iconst 0, 1) := by decide +kernel
theorem dX10_startAnew_15 : decode cX10_startAnew 15 = .ok (.iconst 0, 1) := by decide +kernel
theorem dX10_startAnew_16 : decode cX10_startAnew 16 = .ok (.iastore, 1) := by decide +kernel
theorem dX10_startAnew_17 : decode cX10_startAnew 17 = .ok (.aload_n 0, 1) := by decide +kernel
theorem dX10_startAnew_18 : decode cX10_startAnew 18 = .ok (.iconst 0, 1) := by decide +kernel
theorem dX10_startAnew_19 : decode cX10_startAnew 19 = .ok (.putfield 126, 3) := by decide +kernel
theorem dX10_startAnew_22 : decode cX10_startAnew 22 = .ok (.aload_n 0, 1) := by decide +kernel
theorem dX10_startAnew_23 : decode cX10_startAnew 23 = .ok (.iconst 0, 1) := by decide +kernel
theorem dX10_startAnew_24 : decode cX10_startAnew 24 = .ok (.putfield 129, 3) := by decide +kernel
theorem dX10_startAnew_27 : decode cX10_startAnew 27 = .ok (.aload_n 0, 1) := by decide +kernel
theorem dX10_startAnew_28 : decode cX10_startAnew 28 = .ok (.iconst 1, 1) := by decide +kernel
theorem dX10_startAnew_29 : decode cX10_startAnew 29 = .ok (.putfield 132, 3) := by decide +kernel
theorem dX10_startAnew_32 : decode cX10_startAnew 32 = .ok (.iconst 0, 1) := by decide +kernel
theorem dX10_startAnew_33 : decode cX10_startAnew 33 = .ok (.istore_n 1, 1) := by decide +kernel
theorem dX10_startAnew_34 : decode cX10_startAnew 34 = .ok (.iload_n 1, 1) := by decide +kernel
theorem dX10_startAnew_35 : decode cX10_startAnew 35 = .ok (.bipush 6, 2) := by decide +kernel
theorem dX10_startAnew_37 : decode cX10_startAnew 37 = .ok (.if_icmp .ge 36, 3) := by decide +kernel
theorem dX10_startAnew_40 : decode cX10_startAnew 40 = .ok (.aload_n 0, 1) := by decide +kernel
theorem dX10_startAnew_41 : decode cX10_startAnew 41 = .ok (.getfield 31, 3) := by decide +kernel
theorem dX10_startAnew_44 : decode cX10_startAnew 44 = .ok (.iload_n 1, 1) := by decide +kernel
theorem dX10_startAnew_45 : decode cX10_startAnew 45 = .ok (.iconst 0, 1) := by decide +kernel
theorem dX10_startAnew_46 : decode cX10_startAnew 46 = .ok (.iastore, 1) := by decide +kernel
theorem dX10_startAnew_47 : decode cX10_startAnew 47 = .ok (.aload_n 0, 1) := by decide +kernel
theorem dX10_startAnew_48 : decode cX10_startAnew 48 = .ok (.getfield 37, 3) := by decide +kernel
theorem dX10_startAnew_51 : decode cX10_startAnew 51 = .ok (.iload_n 1, 1) := by decide +kernel
theorem dX10_startAnew_52 : decode cX10_startAnew 52 = .ok (.iconst 0, 1) := by decide +kernel
theorem dX10_startAnew_53 : decode cX10_startAnew 53 = .ok (.iastore, 1) := by decide +kernel
theorem dX10_startAnew_54 : decode cX10_startAnew 54 = .ok (.aload_n 0, 1) := by decide +kernel
theorem dX10_startAnew_55 : decode cX10_startAnew 55 = .ok (.getfield 46, 3) := by decide +kernel
theorem dX10_startAnew_58 : decode cX10_startAnew 58 = .ok (.iload_n 1, 1) := by decide +kernel
theorem dX10_startAnew_59 : decode cX10_startAnew 59 = .ok (.iconst 0, 1) := by decide +kernel
theorem dX10_startAnew_60 : decode cX10_startAnew 60 = .ok (.bastore, 1) := by decide +kernel
theorem dX10_startAnew_61 : decode cX10_startAnew 61 = .ok (.aload_n 0, 1) := by decide +kernel
theorem dX10_startAnew_62 : decode cX10_startAnew 62 = .ok (.iload_n 1, 1) := by decide +kernel
theorem dX10_startAnew_63 : decode cX10_startAnew 63 = .ok (.iconst 0, 1) := by decide +kernel
theorem dX10_startAnew_64 : decode cX10_startAnew 64 = .ok (.invokevirtual 135, 3) := by decide +kernel
theorem dX10_startAnew_67 : decode cX10_startAnew 67 = .ok (.iinc 1 1, 3) := by decide +kernel
theorem dX10_startAnew_70 : decode cX10_startAnew 70 = .ok (.goto (-36), 3) := by decide +kernel
theorem dX10_startAnew_73 : decode cX10_startAnew 73 = .ok (.return_, 1) := by decide +kernel
theorem dX10_blames_0 : decode cX10_blames 0 = .ok (.aload_n 0, 1) := by decide +kernel
theorem dX10_blames_1 : decode cX10_blames 1 = .ok (.getfield 129, 3) := by decide +kernel
theorem dX10_blames_4 : decode cX10_blames 4 = .ok (.bipush 60, 2) := by decide +kernel
theorem dX10_blames_6 : decode cX10_blames 6 = .ok (.if_icmp .ne 48, 3) := by decide +kernel
theorem dX10_blames_9 : decode cX10_blames 9 = .ok (.bipush 6, 2) := by decide +kernel
theorem dX10_blames_11 : decode cX10_blames 11 = .ok (.istore 7, 2) := by decide +kernel
theorem dX10_blames_13 : decode cX10_blames 13 = .ok (.iload 7, 2) := by decide +kernel
theorem dX10_blames_15 : decode cX10_blames 15 = .ok (.sipush 360, 3) := by decide +kernel
theorem dX10_blames_18 : decode cX10_blames 18 = .ok (.if_icmp .ge 26, 3) := by decide +kernel
theorem dX10_blames_21 : decode cX10_blames 21 = .ok (.aload_n 0, 1) := by decide +kernel
theorem dX10_blames_22 : decode cX10_blames 22 = .ok (.getfield 53, 3) := by decide +kernel
theorem dX10_blames_25 : decode cX10_blames 25 = .ok (.iload 7, 2) := by decide +kernel
theorem dX10_blames_27 : decode cX10_blames 27 = .ok (.bipush 6, 2) := by decide +kernel
theorem dX10_blames_29 : decode cX10_blames 29 = .ok (.isub, 1) := by decide +kernel
theorem dX10_blames_30 : decode cX10_blames 30 = .ok (.aload_n 0, 1) := by decide +kernel
theorem dX10_blames_31 : decode cX10_blames 31 = .ok (.getfield 53, 3) := by decide +kernel
theorem dX10_blames_34 : decode cX10_blames 34 = .ok (.iload 7, 2) := by decide +kernel
theorem dX10_blames_36 : decode cX10_blames 36 = .ok (.iaload, 1) := by decide +kernel
theorem dX10_blames_37 : decode cX10_blames 37 = .ok (.iastore, 1) := by decide +kernel
theorem dX10_blames_38 : decode cX10_blames 38 = .ok (.iinc 7 1, 3) := by decide +kernel
theorem dX10_blames_41 : decode cX10_blames 41 = .ok (.goto (-28), 3) := by decide +kernel
theorem dX10_blames_44 : decode cX10_blames 44 = .ok (.aload_n 0, 1) := by decide +kernel
theorem dX10_blames_45 : decode cX10_blames 45 = .ok (.aload_n 0, 1) := by decide +kernel
theorem dX10_blames_46 : decode cX10_blames 46 = .ok (.getfield 129, 3) := by decide +kernel
theorem dX10_blames_49 : decode cX10_blames 49 = .ok (.iconst 1, 1) := by decide +kernel
theorem dX10_blames_50 : decode cX10_blames 50 = .ok (.isub, 1) := by decide +kernel
theorem dX10_blames_51 : decode cX10_blames 51 = .ok (.putfield 129, 3) := by decide +kernel
theorem dX10_blames_54 : decode cX10_blames 54 = .ok (.bipush 6, 2) := by decide +kernel
theorem dX10_blames_56 : decode cX10_blames 56 = .ok (.aload_n 0, 1) := by decide +kernel
theorem dX10_blames_57 : decode cX10_blames 57 = .ok (.getfield 129, 3) := by decide +kernel
theorem dX10_blames_60 : decode cX10_blames 60 = .ok (.imul, 1) := by decide +kernel
theorem dX10_blames_61 : decode cX10_blames 61 = .ok (.istore 7, 2) := by decide +kernel
theorem dX10_blames_63 : decode cX10_blames 63 = .ok (.aload_n 0, 1) := by decide +kernel
theorem dX10_blames_64 : decode cX10_blames 64 = .ok (.getfield 53, 3) := by decide +kernel
theorem dX10_blames_67 : decode cX10_blames 67 = .ok (.iload 7, 2) := by decide +kernel
theorem dX10_blames_69 : decode cX10_blames 69 = .ok (.iload_n 1, 1) := by decide +kernel
theorem dX10_blames_70 : decode cX10_blames 70 = .ok (.iastore, 1) := by decide +kernel
theorem dX10_blames_71 : decode cX10_blames 71 = .ok (.aload_n 0, 1) := by decide +kernel
theorem dX10_blames_72 : decode cX10_blames 72 = .ok (.getfield 53, 3) := by decide +kernel
theorem dX10_blames_75 : decode cX10_blames 75 = .ok (.iload 7, 2) := by decide +kernel
theorem dX10_blames_77 : decode cX10_blames 77 = .ok (.iconst 1, 1) := by decide +kernel
theorem dX10_blames_78 : decode cX10_blames 78 = .ok (.iadd, 1) := by decide +kernel
theorem dX10_blames_79 : decode cX10_blames 79 = .ok (.iload_n 2, 1) := by decide +kernel
theorem dX10_blames_80 : decode cX10_blames 80 = .ok (.iastore, 1) := by decide +kernel
theorem dX10_blames_81 : decode cX10_blames 81 = .ok (.aload_n 0, 1) := by decide +kernel
theorem dX10_blames_82 : decode cX10_blames 82 = .ok (.getfield 53, 3) := by decide +kernel
theorem dX10_blames_85 : decode cX10_blames 85 = .ok (.iload 7, 2) := by decide +kernel
theorem dX10_blames_87 : decode cX10_blames 87 = .ok (.iconst 2, 1) := by decide +kernel
theorem dX10_blames_88 : decode cX10_blames 88 = .ok (.iadd, 1) := by decide +kernel
theorem dX10_blames_89 : decode cX10_blames 89 = .ok (.iload_n 3, 1) := by decide +kernel
theorem dX10_blames_90 : decode cX10_blames 90 = .ok (.iastore, 1) := by decide +kernel
theorem dX10_blames_91 : decode cX10_blames 91 = .ok (.aload_n 0, 1) := by decide +kernel
theorem dX10_blames_92 : decode cX10_blames 92 = .ok (.getfield 53, 3) := by decide +kernel
theorem dX10_blames_95 : decode cX10_blames 95 = .ok (.iload 7, 2) := by decide +kernel
theorem dX10_blames_97 : decode cX10_blames 97 = .ok (.iconst 3, 1) := by decide +kernel
theorem dX10_blames_98 : decode cX10_blames 98 = .ok (.iadd, 1) := by decide +kernel
theorem dX10_blames_99 : decode cX10_blames 99 = .ok (.iload 4, 2) := by decide +kernel
theorem dX10_blames_101 : decode cX10_blames 101 = .ok (.iastore, 1) := by decide +kernel
theorem dX10_blames_102 : decode cX10_blames 102 = .ok (.aload_n 0, 1) := by decide +kernel
theorem dX10_blames_103 : decode cX10_blames 103 = .ok (.getfield 53, 3) := by decide +kernel
theorem dX10_blames_106 : decode cX10_blames 106 = .ok (.iload 7, 2) := by decide +kernel
theorem dX10_blames_108 : decode cX10_blames 108 = .ok (.iconst 4, 1) := by decide +kernel
theorem dX10_blames_109 : decode cX10_blames 109 = .ok (.iadd, 1) := by decide +kernel
theorem dX10_blames_110 : decode cX10_blames 110 = .ok (.iload 5, 2) := by decide +kernel
theorem dX10_blames_112 : decode cX10_blames 112 = .ok (.iastore, 1) := by decide +kernel
theorem dX10_blames_113 : decode cX10_blames 113 = .ok (.aload_n 0, 1) := by decide +kernel
theorem dX10_blames_114 : decode cX10_blames 114 = .ok (.getfield 53, 3) := by decide +kernel
theorem dX10_blames_117 : decode cX10_blames 117 = .ok (.iload 7, 2) := by decide +kernel
theorem dX10_blames_119 : decode cX10_blames 119 = .ok (.iconst 5, 1) := by decide +kernel
theorem dX10_blames_120 : decode cX10_blames 120 = .ok (.iadd, 1) := by decide +kernel
theorem dX10_blames_121 : decode cX10_blames 121 = .ok (.iload 6, 2) := by decide +kernel
theorem dX10_blames_123 : decode cX10_blames 123 = .ok (.iastore, 1) := by decide +kernel
theorem dX10_blames_124 : decode cX10_blames 124 = .ok (.aload_n 0, 1) := by decide +kernel
theorem dX10_blames_125 : decode cX10_blames 125 = .ok (.aload_n 0, 1) := by decide +kernel
theorem dX10_blames_126 : decode cX10_blames 126 = .ok (.getfield 129, 3) := by decide +kernel
theorem dX10_blames_129 : decode cX10_blames 129 = .ok (.iconst 1, 1) := by decide +kernel
theorem dX10_blames_130 : decode cX10_blames 130 = .ok (.iadd, 1) := by decide +kernel
theorem dX10_blames_131 : decode cX10_blames 131 = .ok (.putfield 129, 3) := by decide +kernel
theorem dX10_blames_134 : decode cX10_blames 134 = .ok (.return_, 1) := by decide +kernel
theorem dX10_putsPost_0 : decode cX10_putsPost 0 = .ok (.aload_n 0, 1) := by decide +kernel
theorem dX10_putsPost_1 : decode cX10_putsPost 1 = .ok (.getfield 126, 3) := by decide +kernel
theorem dX10_putsPost_4 : decode cX10_putsPost 4 = .ok (.bipush 40, 2) := by decide +kernel
theorem dX10_putsPost_6 : decode cX10_putsPost 6 = .ok (.if_icmp .ne 42, 3) := by decide +kernel
theorem dX10_putsPost_9 : decode cX10_putsPost 9 = .ok (.iconst 4, 1) := by decide +kernel
theorem dX10_putsPost_10 : decode cX10_putsPost 10 = .ok (.istore_n 2, 1) := by decide +kernel
theorem dX10_putsPost_11 : decode cX10_putsPost 11 = .ok (.iload_n 2, 1) := by decide +kernel
theorem dX10_putsPost_12 : decode cX10_putsPost 12 = .ok (.sipush 160, 3) := by decide +kernel
theorem dX10_putsPost_15 : decode cX10_putsPost 15 = .ok (.if_icmp .ge 23, 3) := by decide +kernel
theorem dX10_putsPost_18 : decode cX10_putsPost 18 = .ok (.aload_n 0, 1) := by decide +kernel
theorem dX10_putsPost_19 : decode cX10_putsPost 19 = .ok (.getfield 50, 3) := by decide +kernel
theorem dX10_putsPost_22 : decode cX10_putsPost 22 = .ok (.iload_n 2, 1) := by decide +kernel
theorem dX10_putsPost_23 : decode cX10_putsPost 23 = .ok (.iconst 4, 1) := by decide +kernel
theorem dX10_putsPost_24 : decode cX10_putsPost 24 = .ok (.isub, 1) := by decide +kernel
theorem dX10_putsPost_25 : decode cX10_putsPost 25 = .ok (.aload_n 0, 1) := by decide +kernel
theorem dX10_putsPost_26 : decode cX10_putsPost 26 = .ok (.getfield 50, 3) := by decide +kernel
theorem dX10_putsPost_29 : decode cX10_putsPost 29 = .ok (.iload_n 2, 1) := by decide +kernel
theorem dX10_putsPost_30 : decode cX10_putsPost 30 = .ok (.iaload, 1) := by decide +kernel
theorem dX10_putsPost_31 : decode cX10_putsPost 31 = .ok (.iastore, 1) := by decide +kernel
theorem dX10_putsPost_32 : decode cX10_putsPost 32 = .ok (.iinc 2 1, 3) := by decide +kernel
theorem dX10_putsPost_35 : decode cX10_putsPost 35 = .ok (.goto (-24), 3) := by decide +kernel
theorem dX10_putsPost_38 : decode cX10_putsPost 38 = .ok (.aload_n 0, 1) := by decide +kernel
theorem dX10_putsPost_39 : decode cX10_putsPost 39 = .ok (.aload_n 0, 1) := by decide +kernel
theorem dX10_putsPost_40 : decode cX10_putsPost 40 = .ok (.getfield 126, 3) := by decide +kernel
theorem dX10_putsPost_43 : decode cX10_putsPost 43 = .ok (.iconst 1, 1) := by decide +kernel
theorem dX10_putsPost_44 : decode cX10_putsPost 44 = .ok (.isub, 1) := by decide +kernel
theorem dX10_putsPost_45 : decode cX10_putsPost 45 = .ok (.putfield 126, 3) := by decide +kernel
theorem dX10_putsPost_48 : decode cX10_putsPost 48 = .ok (.aload_n 0, 1) := by decide +kernel
theorem dX10_putsPost_49 : decode cX10_putsPost 49 = .ok (.aload_n 0, 1) := by decide +kernel
theorem dX10_putsPost_50 : decode cX10_putsPost 50 = .ok (.getfield 132, 3) := by decide +kernel
theorem dX10_putsPost_53 : decode cX10_putsPost 53 = .ok (.i2l, 1) := by decide +kernel
theorem dX10_putsPost_54 : decode cX10_putsPost 54 = .ok (.ldc2_w 98, 3) := by decide +kernel
theorem dX10_putsPost_57 : decode cX10_putsPost 57 = .ok (.lmul, 1) := by decide +kernel
theorem dX10_putsPost_58 : decode cX10_putsPost 58 = .ok (.aload_n 0, 1) := by decide +kernel
theorem dX10_putsPost_59 : decode cX10_putsPost 59 = .ok (.iload_n 1, 1) := by decide +kernel
theorem dX10_putsPost_60 : decode cX10_putsPost 60 = .ok (.invokevirtual 139, 3) := by decide +kernel
theorem dX10_putsPost_63 : decode cX10_putsPost 63 = .ok (.i2l, 1) := by decide +kernel
theorem dX10_putsPost_64 : decode cX10_putsPost 64 = .ok (.ldc2_w 106, 3) := by decide +kernel
theorem dX10_putsPost_67 : decode cX10_putsPost 67 = .ok (.lmul, 1) := by decide +kernel
theorem dX10_putsPost_68 : decode cX10_putsPost 68 = .ok (.ladd, 1) := by decide +kernel
theorem dX10_putsPost_69 : decode cX10_putsPost 69 = .ok (.aload_n 0, 1) := by decide +kernel
theorem dX10_putsPost_70 : decode cX10_putsPost 70 = .ok (.getfield 34, 3) := by decide +kernel
theorem dX10_putsPost_73 : decode cX10_putsPost 73 = .ok (.iload_n 1, 1) := by decide +kernel
theorem dX10_putsPost_74 : decode cX10_putsPost 74 = .ok (.iaload, 1) := by decide +kernel
theorem dX10_putsPost_75 : decode cX10_putsPost 75 = .ok (.i2l, 1) := by decide +kernel
theorem dX10_putsPost_76 : decode cX10_putsPost 76 = .ok (.ldc2_w 114, 3) := by decide +kernel
theorem dX10_putsPost_79 : decode cX10_putsPost 79 = .ok (.lmul, 1) := by decide +kernel
theorem dX10_putsPost_80 : decode cX10_putsPost 80 = .ok (.ladd, 1) := by decide +kernel
theorem dX10_putsPost_81 : decode cX10_putsPost 81 = .ok (.iload_n 1, 1) := by decide +kernel
theorem dX10_putsPost_82 : decode cX10_putsPost 82 = .ok (.i2l, 1) := by decide +kernel
theorem dX10_putsPost_83 : decode cX10_putsPost 83 = .ok (.ladd, 1) := by decide +kernel
theorem dX10_putsPost_84 : decode cX10_putsPost 84 = .ok (.invokestatic 102, 3) := by decide +kernel
theorem dX10_putsPost_87 : decode cX10_putsPost 87 = .ok (.putfield 132, 3) := by decide +kernel
theorem dX10_putsPost_90 : decode cX10_putsPost 90 = .ok (.iconst 4, 1) := by decide +kernel
theorem dX10_putsPost_91 : decode cX10_putsPost 91 = .ok (.aload_n 0, 1) := by decide +kernel
theorem dX10_putsPost_92 : decode cX10_putsPost 92 = .ok (.getfield 126, 3) := by decide +kernel
theorem dX10_putsPost_95 : decode cX10_putsPost 95 = .ok (.imul, 1) := by decide +kernel
theorem dX10_putsPost_96 : decode cX10_putsPost 96 = .ok (.istore_n 2, 1) := by decide +kernel
theorem dX10_putsPost_97 : decode cX10_putsPost 97 = .ok (.aload_n 0, 1) := by decide +kernel
theorem dX10_putsPost_98 : decode cX10_putsPost 98 = .ok (.getfield 50, 3) := by decide +kernel
theorem dX10_putsPost_101 : decode cX10_putsPost 101 = .ok (.iload_n 2, 1) := by decide +kernel
theorem dX10_putsPost_102 : decode cX10_putsPost 102 = .ok (.iload_n 1, 1) := by decide +kernel
theorem dX10_putsPost_103 : decode cX10_putsPost 103 = .ok (.iastore, 1) := by decide +kernel
theorem dX10_putsPost_104 : decode cX10_putsPost 104 = .ok (.aload_n 0, 1) := by decide +kernel
theorem dX10_putsPost_105 : decode cX10_putsPost 105 = .ok (.getfield 50, 3) := by decide +kernel
theorem dX10_putsPost_108 : decode cX10_putsPost 108 = .ok (.iload_n 2, 1) := by decide +kernel
theorem dX10_putsPost_109 : decode cX10_putsPost 109 = .ok (.iconst 1, 1) := by decide +kernel
theorem dX10_putsPost_110 : decode cX10_putsPost 110 = .ok (.iadd, 1) := by decide +kernel
theorem dX10_putsPost_111 : decode cX10_putsPost 111 = .ok (.aload_n 0, 1) := by decide +kernel
theorem dX10_putsPost_112 : decode cX10_putsPost 112 = .ok (.getfield 34, 3) := by decide +kernel
theorem dX10_putsPost_115 : decode cX10_putsPost 115 = .ok (.iload_n 1, 1) := by decide +kernel
theorem dX10_putsPost_116 : decode cX10_putsPost 116 = .ok (.iaload, 1) := by decide +kernel
theorem dX10_putsPost_117 : decode cX10_putsPost 117 = .ok (.iastore, 1) := by decide +kernel
theorem dX10_putsPost_118 : decode cX10_putsPost 118 = .ok (.aload_n 0, 1) := by decide +kernel
theorem dX10_putsPost_119 : decode cX10_putsPost 119 = .ok (.getfield 50, 3) := by decide +kernel
theorem dX10_putsPost_122 : decode cX10_putsPost 122 = .ok (.iload_n 2, 1) := by decide +kernel
theorem dX10_putsPost_123 : decode cX10_putsPost 123 = .ok (.iconst 2, 1) := by decide +kernel
theorem dX10_putsPost_124 : decode cX10_putsPost 124 = .ok (.iadd, 1) := by decide +kernel
theorem dX10_putsPost_125 : decode cX10_putsPost 125 = .ok (.aload_n 0, 1) := by decide +kernel
theorem dX10_putsPost_126 : decode cX10_putsPost 126 = .ok (.iload_n 1, 1) := by decide +kernel
theorem dX10_putsPost_127 : decode cX10_putsPost 127 = .ok (.invokevirtual 139, 3) := by decide +kernel
theorem dX10_putsPost_130 : decode cX10_putsPost 130 = .ok (.iastore, 1) := by decide +kernel
theorem dX10_putsPost_131 : decode cX10_putsPost 131 = .ok (.aload_n 0, 1) := by decide +kernel
theorem dX10_putsPost_132 : decode cX10_putsPost 132 = .ok (.getfield 50, 3) := by decide +kernel
theorem dX10_putsPost_135 : decode cX10_putsPost 135 = .ok (.iload_n 2, 1) := by decide +kernel
theorem dX10_putsPost_136 : decode cX10_putsPost 136 = .ok (.iconst 3, 1) := by decide +kernel
theorem dX10_putsPost_137 : decode cX10_putsPost 137 = .ok (.iadd, 1) := by decide +kernel
theorem dX10_putsPost_138 : decode cX10_putsPost 138 = .ok (.aload_n 0, 1) := by decide +kernel
theorem dX10_putsPost_139 : decode cX10_putsPost 139 = .ok (.getfield 132, 3) := by decide +kernel
theorem dX10_putsPost_142 : decode cX10_putsPost 142 = .ok (.iastore, 1) := by decide +kernel
theorem dX10_putsPost_143 : decode cX10_putsPost 143 = .ok (.aload_n 0, 1) := by decide +kernel
theorem dX10_putsPost_144 : decode cX10_putsPost 144 = .ok (.aload_n 0, 1) := by decide +kernel
theorem dX10_putsPost_145 : decode cX10_putsPost 145 = .ok (.getfield 126, 3) := by decide +kernel
theorem dX10_putsPost_148 : decode cX10_putsPost 148 = .ok (.iconst 1, 1) := by decide +kernel
theorem dX10_putsPost_149 : decode cX10_putsPost 149 = .ok (.iadd, 1) := by decide +kernel
theorem dX10_putsPost_150 : decode cX10_putsPost 150 = .ok (.putfield 126, 3) := by decide +kernel
theorem dX10_putsPost_153 : decode cX10_putsPost 153 = .ok (.return_, 1) := by decide +kernel
theorem dX10_finds_0 : decode cX10_finds 0 = .ok (.aload_n 0, 1) := by decide +kernel
theorem dX10_finds_1 : decode cX10_finds 1 = .ok (.getfield 31, 3) := by decide +kernel
theorem dX10_finds_4 : decode cX10_finds 4 = .ok (.iload_n 1, 1) := by decide +kernel
theorem dX10_finds_5 : decode cX10_finds 5 = .ok (.iaload, 1) := by decide +kernel
theorem dX10_finds_6 : decode cX10_finds 6 = .ok (.istore_n 2, 1) := by decide +kernel
theorem dX10_finds_7 : decode cX10_finds 7 = .ok (.aload_n 0, 1) := by decide +kernel
theorem dX10_finds_8 : decode cX10_finds 8 = .ok (.getfield 34, 3) := by decide +kernel
theorem dX10_finds_11 : decode cX10_finds 11 = .ok (.iload_n 1, 1) := by decide +kernel
theorem dX10_finds_12 : decode cX10_finds 12 = .ok (.iaload, 1) := by decide +kernel
theorem dX10_finds_13 : decode cX10_finds 13 = .ok (.istore_n 3, 1) := by decide +kernel
theorem dX10_finds_14 : decode cX10_finds 14 = .ok (.aload_n 0, 1) := by decide +kernel
theorem dX10_finds_15 : decode cX10_finds 15 = .ok (.iload_n 3, 1) := by decide +kernel
theorem dX10_finds_16 : decode cX10_finds 16 = .ok (.putfield 143, 3) := by decide +kernel
theorem dX10_finds_19 : decode cX10_finds 19 = .ok (.aload_n 0, 1) := by decide +kernel
theorem dX10_finds_20 : decode cX10_finds 20 = .ok (.getfield 7, 3) := by decide +kernel
theorem dX10_finds_23 : decode cX10_finds 23 = .ok (.iload_n 2, 1) := by decide +kernel
theorem dX10_finds_24 : decode cX10_finds 24 = .ok (.iaload, 1) := by decide +kernel
theorem dX10_finds_25 : decode cX10_finds 25 = .ok (.iload_n 3, 1) := by decide +kernel
theorem dX10_finds_26 : decode cX10_finds 26 = .ok (.if_icmp .ge 5, 3) := by decide +kernel
theorem dX10_finds_29 : decode cX10_finds 29 = .ok (.iconst 1, 1) := by decide +kernel
theorem dX10_finds_30 : decode cX10_finds 30 = .ok (.ireturn, 1) := by decide +kernel
theorem dX10_finds_31 : decode cX10_finds 31 = .ok (.aload_n 0, 1) := by decide +kernel
theorem dX10_finds_32 : decode cX10_finds 32 = .ok (.iload_n 2, 1) := by decide +kernel
theorem dX10_finds_33 : decode cX10_finds 33 = .ok (.iload_n 3, 1) := by decide +kernel
theorem dX10_finds_34 : decode cX10_finds 34 = .ok (.invokevirtual 95, 3) := by decide +kernel
theorem dX10_finds_37 : decode cX10_finds 37 = .ok (.aload_n 0, 1) := by decide +kernel
theorem dX10_finds_38 : decode cX10_finds 38 = .ok (.iload_n 1, 1) := by decide +kernel
theorem dX10_finds_39 : decode cX10_finds 39 = .ok (.invokevirtual 139, 3) := by decide +kernel
theorem dX10_finds_42 : decode cX10_finds 42 = .ok (.if_icmp .eq 44, 3) := by decide +kernel
theorem dX10_finds_45 : decode cX10_finds 45 = .ok (.aload_n 0, 1) := by decide +kernel
theorem dX10_finds_46 : decode cX10_finds 46 = .ok (.iconst 0, 1) := by decide +kernel
theorem dX10_finds_47 : decode cX10_finds 47 = .ok (.putfield 143, 3) := by decide +kernel
theorem dX10_finds_50 : decode cX10_finds 50 = .ok (.aload_n 0, 1) := by decide +kernel
theorem dX10_finds_51 : decode cX10_finds 51 = .ok (.iload_n 2, 1) := by decide +kernel
theorem dX10_finds_52 : decode cX10_finds 52 = .ok (.aload_n 0, 1) := by decide +kernel
theorem dX10_finds_53 : decode cX10_finds 53 = .ok (.getfield 143, 3) := by decide +kernel
theorem dX10_finds_56 : decode cX10_finds 56 = .ok (.invokevirtual 95, 3) := by decide +kernel
theorem dX10_finds_59 : decode cX10_finds 59 = .ok (.aload_n 0, 1) := by decide +kernel
theorem dX10_finds_60 : decode cX10_finds 60 = .ok (.iload_n 1, 1) := by decide +kernel
theorem dX10_finds_61 : decode cX10_finds 61 = .ok (.aload_n 0, 1) := by decide +kernel
theorem dX10_finds_62 : decode cX10_finds 62 = .ok (.getfield 143, 3) := by decide +kernel
theorem dX10_finds_65 : decode cX10_finds 65 = .ok (.invokevirtual 90, 3) := by decide +kernel
theorem dX10_finds_68 : decode cX10_finds 68 = .ok (.if_icmp .ne 16, 3) := by decide +kernel
theorem dX10_finds_71 : decode cX10_finds 71 = .ok (.aload_n 0, 1) := by decide +kernel
theorem dX10_finds_72 : decode cX10_finds 72 = .ok (.aload_n 0, 1) := by decide +kernel
theorem dX10_finds_73 : decode cX10_finds 73 = .ok (.getfield 143, 3) := by decide +kernel
theorem dX10_finds_76 : decode cX10_finds 76 = .ok (.iconst 1, 1) := by decide +kernel
theorem dX10_finds_77 : decode cX10_finds 77 = .ok (.iadd, 1) := by decide +kernel
theorem dX10_finds_78 : decode cX10_finds 78 = .ok (.putfield 143, 3) := by decide +kernel
theorem dX10_finds_81 : decode cX10_finds 81 = .ok (.goto (-31), 3) := by decide +kernel
theorem dX10_finds_84 : decode cX10_finds 84 = .ok (.iconst 2, 1) := by decide +kernel
theorem dX10_finds_85 : decode cX10_finds 85 = .ok (.ireturn, 1) := by decide +kernel
theorem dX10_finds_86 : decode cX10_finds 86 = .ok (.iload_n 3, 1) := by decide +kernel
theorem dX10_finds_87 : decode cX10_finds 87 = .ok (.iconst 1, 1) := by decide +kernel
theorem dX10_finds_88 : decode cX10_finds 88 = .ok (.iadd, 1) := by decide +kernel
theorem dX10_finds_89 : decode cX10_finds 89 = .ok (.istore 4, 2) := by decide +kernel
theorem dX10_finds_91 : decode cX10_finds 91 = .ok (.iload 4, 2) := by decide +kernel
theorem dX10_finds_93 : decode cX10_finds 93 = .ok (.aload_n 0, 1) := by decide +kernel
theorem dX10_finds_94 : decode cX10_finds 94 = .ok (.getfield 7, 3) := by decide +kernel
theorem dX10_finds_97 : decode cX10_finds 97 = .ok (.iload_n 2, 1) := by decide +kernel
theorem dX10_finds_98 : decode cX10_finds 98 = .ok (.iaload, 1) := by decide +kernel
theorem dX10_finds_99 : decode cX10_finds 99 = .ok (.if_icmp .gt 34, 3) := by decide +kernel
theorem dX10_finds_102 : decode cX10_finds 102 = .ok (.aload_n 0, 1) := by decide +kernel
theorem dX10_finds_103 : decode cX10_finds 103 = .ok (.iload_n 2, 1) := by decide +kernel
theorem dX10_finds_104 : decode cX10_finds 104 = .ok (.iload 4, 2) := by decide +kernel
theorem dX10_finds_106 : decode cX10_finds 106 = .ok (.invokevirtual 120, 3) := by decide +kernel
theorem dX10_finds_109 : decode cX10_finds 109 = .ok (.aload_n 0, 1) := by decide +kernel
theorem dX10_finds_110 : decode cX10_finds 110 = .ok (.iload_n 2, 1) := by decide +kernel
theorem dX10_finds_111 : decode cX10_finds 111 = .ok (.iload 4, 2) := by decide +kernel
theorem dX10_finds_113 : decode cX10_finds 113 = .ok (.invokevirtual 95, 3) := by decide +kernel
theorem dX10_finds_116 : decode cX10_finds 116 = .ok (.if_icmp .eq 11, 3) := by decide +kernel
theorem dX10_finds_119 : decode cX10_finds 119 = .ok (.aload_n 0, 1) := by decide +kernel
theorem dX10_finds_120 : decode cX10_finds 120 = .ok (.iload 4, 2) := by decide +kernel
theorem dX10_finds_122 : decode cX10_finds 122 = .ok (.putfield 143, 3) := by decide +kernel
theorem dX10_finds_125 : decode cX10_finds 125 = .ok (.iconst 3, 1) := by decide +kernel
theorem dX10_finds_126 : decode cX10_finds 126 = .ok (.ireturn, 1) := by decide +kernel
theorem dX10_finds_127 : decode cX10_finds 127 = .ok (.iinc 4 1, 3) := by decide +kernel
theorem dX10_finds_130 : decode cX10_finds 130 = .ok (.goto (-39), 3) := by decide +kernel
theorem dX10_finds_133 : decode cX10_finds 133 = .ok (.iconst 0, 1) := by decide +kernel
theorem dX10_finds_134 : decode cX10_finds 134 = .ok (.istore 4, 2) := by decide +kernel
theorem dX10_finds_136 : decode cX10_finds 136 = .ok (.iload 4, 2) := by decide +kernel
theorem dX10_finds_138 : decode cX10_finds 138 = .ok (.aload_n 0, 1) := by decide +kernel
theorem dX10_finds_139 : decode cX10_finds 139 = .ok (.getfield 126, 3) := by decide +kernel
theorem dX10_finds_142 : decode cX10_finds 142 = .ok (.if_icmp .ge 62, 3) := by decide +kernel
theorem dX10_finds_145 : decode cX10_finds 145 = .ok (.aload_n 0, 1) := by decide +kernel
theorem dX10_finds_146 : decode cX10_finds 146 = .ok (.getfield 50, 3) := by decide +kernel
theorem dX10_finds_149 : decode cX10_finds 149 = .ok (.iconst 4, 1) := by decide +kernel
theorem dX10_finds_150 : decode cX10_finds 150 = .ok (.iload 4, 2) := by decide +kernel
theorem dX10_finds_152 : decode cX10_finds 152 = .ok (.imul, 1) := by decide +kernel
theorem dX10_finds_153 : decode cX10_finds 153 = .ok (.iconst 1, 1) := by decide +kernel
theorem dX10_finds_154 : decode cX10_finds 154 = .ok (.iadd, 1) := by decide +kernel
theorem dX10_finds_155 : decode cX10_finds 155 = .ok (.iaload, 1) := by decide +kernel
theorem dX10_finds_156 : decode cX10_finds 156 = .ok (.istore 5, 2) := by decide +kernel
theorem dX10_finds_158 : decode cX10_finds 158 = .ok (.iload 5, 2) := by decide +kernel
theorem dX10_finds_160 : decode cX10_finds 160 = .ok (.aload_n 0, 1) := by decide +kernel
theorem dX10_finds_161 : decode cX10_finds 161 = .ok (.getfield 7, 3) := by decide +kernel
theorem dX10_finds_164 : decode cX10_finds 164 = .ok (.iload_n 2, 1) := by decide +kernel
theorem dX10_finds_165 : decode cX10_finds 165 = .ok (.iaload, 1) := by decide +kernel
theorem dX10_finds_166 : decode cX10_finds 166 = .ok (.if_icmp .gt 32, 3) := by decide +kernel
theorem dX10_finds_169 : decode cX10_finds 169 = .ok (.aload_n 0, 1) := by decide +kernel
theorem dX10_finds_170 : decode cX10_finds 170 = .ok (.getfield 50, 3) := by decide +kernel
theorem dX10_finds_173 : decode cX10_finds 173 = .ok (.iconst 4, 1) := by decide +kernel
theorem dX10_finds_174 : decode cX10_finds 174 = .ok (.iload 4, 2) := by decide +kernel
theorem dX10_finds_176 : decode cX10_finds 176 = .ok (.imul, 1) := by decide +kernel
theorem dX10_finds_177 : decode cX10_finds 177 = .ok (.iconst 2, 1) := by decide +kernel
theorem dX10_finds_178 : decode cX10_finds 178 = .ok (.iadd, 1) := by decide +kernel
theorem dX10_finds_179 : decode cX10_finds 179 = .ok (.iaload, 1) := by decide +kernel
theorem dX10_finds_180 : decode cX10_finds 180 = .ok (.aload_n 0, 1) := by decide +kernel
theorem dX10_finds_181 : decode cX10_finds 181 = .ok (.iload_n 2, 1) := by decide +kernel
theorem dX10_finds_182 : decode cX10_finds 182 = .ok (.iload 5, 2) := by decide +kernel
theorem dX10_finds_184 : decode cX10_finds 184 = .ok (.invokevirtual 95, 3) := by decide +kernel
theorem dX10_finds_187 : decode cX10_finds 187 = .ok (.if_icmp .eq 11, 3) := by decide +kernel
theorem dX10_finds_190 : decode cX10_finds 190 = .ok (.aload_n 0, 1) := by decide +kernel
theorem dX10_finds_191 : decode cX10_finds 191 = .ok (.iload 4, 2) := by decide +kernel
theorem dX10_finds_193 : decode cX10_finds 193 = .ok (.putfield 143, 3) := by decide +kernel
theorem dX10_finds_196 : decode cX10_finds 196 = .ok (.iconst 4, 1) := by decide +kernel
theorem dX10_finds_197 : decode cX10_finds 197 = .ok (.ireturn, 1) := by decide +kernel
theorem dX10_finds_198 : decode cX10_finds 198 = .ok (.iinc 4 1, 3) := by decide +kernel
theorem dX10_finds_201 : decode cX10_finds 201 = .ok (.goto (-65), 3) := by decide +kernel
theorem dX10_finds_204 : decode cX10_finds 204 = .ok (.iconst 0, 1) := by decide +kernel
theorem dX10_finds_205 : decode cX10_finds 205 = .ok (.ireturn, 1) := by decide +kernel
theorem dX10_suspects_0 : decode cX10_suspects 0 = .ok (.aload_n 0, 1) := by decide +kernel
theorem dX10_suspects_1 : decode cX10_suspects 1 = .ok (.getfield 31, 3) := by decide +kernel
theorem dX10_suspects_4 : decode cX10_suspects 4 = .ok (.iload_n 1, 1) := by decide +kernel
theorem dX10_suspects_5 : decode cX10_suspects 5 = .ok (.iaload, 1) := by decide +kernel
theorem dX10_suspects_6 : decode cX10_suspects 6 = .ok (.istore_n 3, 1) := by decide +kernel
theorem dX10_suspects_7 : decode cX10_suspects 7 = .ok (.aload_n 0, 1) := by decide +kernel
theorem dX10_suspects_8 : decode cX10_suspects 8 = .ok (.getfield 143, 3) := by decide +kernel
theorem dX10_suspects_11 : decode cX10_suspects 11 = .ok (.istore 4, 2) := by decide +kernel
theorem dX10_suspects_13 : decode cX10_suspects 13 = .ok (.iload_n 2, 1) := by decide +kernel
theorem dX10_suspects_14 : decode cX10_suspects 14 = .ok (.tableswitch 108 1 3 #[26, 56, 82], 26) := by decide +kernel
theorem dX10_suspects_40 : decode cX10_suspects 40 = .ok (.aload_n 0, 1) := by decide +kernel
theorem dX10_suspects_41 : decode cX10_suspects 41 = .ok (.iconst 1, 1) := by decide +kernel
theorem dX10_suspects_42 : decode cX10_suspects 42 = .ok (.iload_n 1, 1) := by decide +kernel
theorem dX10_suspects_43 : decode cX10_suspects 43 = .ok (.iconst (-1), 1) := by decide +kernel
theorem dX10_suspects_44 : decode cX10_suspects 44 = .ok (.iload 4, 2) := by decide +kernel
theorem dX10_suspects_46 : decode cX10_suspects 46 = .ok (.aload_n 0, 1) := by decide +kernel
theorem dX10_suspects_47 : decode cX10_suspects 47 = .ok (.iload_n 1, 1) := by decide +kernel
theorem dX10_suspects_48 : decode cX10_suspects 48 = .ok (.iload 4, 2) := by decide +kernel
theorem dX10_suspects_50 : decode cX10_suspects 50 = .ok (.invokevirtual 90, 3) := by decide +kernel
theorem dX10_suspects_53 : decode cX10_suspects 53 = .ok (.aload_n 0, 1) := by decide +kernel
theorem dX10_suspects_54 : decode cX10_suspects 54 = .ok (.iload_n 3, 1) := by decide +kernel
theorem dX10_suspects_55 : decode cX10_suspects 55 = .ok (.aload_n 0, 1) := by decide +kernel
theorem dX10_suspects_56 : decode cX10_suspects 56 = .ok (.getfield 7, 3) := by decide +kernel
theorem dX10_suspects_59 : decode cX10_suspects 59 = .ok (.iload_n 3, 1) := by decide +kernel
theorem dX10_suspects_60 : decode cX10_suspects 60 = .ok (.iaload, 1) := by decide +kernel
theorem dX10_suspects_61 : decode cX10_suspects 61 = .ok (.invokevirtual 95, 3) := by decide +kernel
theorem dX10_suspects_64 : decode cX10_suspects 64 = .ok (.invokevirtual 146, 3) := by decide +kernel
theorem dX10_suspects_67 : decode cX10_suspects 67 = .ok (.goto 108, 3) := by decide +kernel
theorem dX10_suspects_70 : decode cX10_suspects 70 = .ok (.aload_n 0, 1) := by decide +kernel
theorem dX10_suspects_71 : decode cX10_suspects 71 = .ok (.iconst 2, 1) := by decide +kernel
theorem dX10_suspects_72 : decode cX10_suspects 72 = .ok (.iload_n 1, 1) := by decide +kernel
theorem dX10_suspects_73 : decode cX10_suspects 73 = .ok (.iconst (-1), 1) := by decide +kernel
theorem dX10_suspects_74 : decode cX10_suspects 74 = .ok (.iload 4, 2) := by decide +kernel
theorem dX10_suspects_76 : decode cX10_suspects 76 = .ok (.aload_n 0, 1) := by decide +kernel
theorem dX10_suspects_77 : decode cX10_suspects 77 = .ok (.iload_n 1, 1) := by decide +kernel
theorem dX10_suspects_78 : decode cX10_suspects 78 = .ok (.iload 4, 2) := by decide +kernel
theorem dX10_suspects_80 : decode cX10_suspects 80 = .ok (.invokevirtual 90, 3) := by decide +kernel
theorem dX10_suspects_83 : decode cX10_suspects 83 = .ok (.aload_n 0, 1) := by decide +kernel
theorem dX10_suspects_84 : decode cX10_suspects 84 = .ok (.iload_n 3, 1) := by decide +kernel
theorem dX10_suspects_85 : decode cX10_suspects 85 = .ok (.iload 4, 2) := by decide +kernel
theorem dX10_suspects_87 : decode cX10_suspects 87 = .ok (.invokevirtual 95, 3) := by decide +kernel
theorem dX10_suspects_90 : decode cX10_suspects 90 = .ok (.invokevirtual 146, 3) := by decide +kernel
theorem dX10_suspects_93 : decode cX10_suspects 93 = .ok (.goto 82, 3) := by decide +kernel
theorem dX10_suspects_96 : decode cX10_suspects 96 = .ok (.aload_n 0, 1) := by decide +kernel
theorem dX10_suspects_97 : decode cX10_suspects 97 = .ok (.iconst 3, 1) := by decide +kernel
theorem dX10_suspects_98 : decode cX10_suspects 98 = .ok (.iload_n 1, 1) := by decide +kernel
theorem dX10_suspects_99 : decode cX10_suspects 99 = .ok (.iconst (-1), 1) := by decide +kernel
theorem dX10_suspects_100 : decode cX10_suspects 100 = .ok (.iload 4, 2) := by decide +kernel
theorem dX10_suspects_102 : decode cX10_suspects 102 = .ok (.aload_n 0, 1) := by decide +kernel
theorem dX10_suspects_103 : decode cX10_suspects 103 = .ok (.iload_n 3, 1) := by decide +kernel
theorem dX10_suspects_104 : decode cX10_suspects 104 = .ok (.iload 4, 2) := by decide +kernel
theorem dX10_suspects_106 : decode cX10_suspects 106 = .ok (.invokevirtual 120, 3) := by decide +kernel
theorem dX10_suspects_109 : decode cX10_suspects 109 = .ok (.aload_n 0, 1) := by decide +kernel
theorem dX10_suspects_110 : decode cX10_suspects 110 = .ok (.iload_n 3, 1) := by decide +kernel
theorem dX10_suspects_111 : decode cX10_suspects 111 = .ok (.iload 4, 2) := by decide +kernel
theorem dX10_suspects_113 : decode cX10_suspects 113 = .ok (.invokevirtual 95, 3) := by decide +kernel
theorem dX10_suspects_116 : decode cX10_suspects 116 = .ok (.invokevirtual 146, 3) := by decide +kernel
theorem dX10_suspects_119 : decode cX10_suspects 119 = .ok (.goto 56, 3) := by decide +kernel
theorem dX10_suspects_122 : decode cX10_suspects 122 = .ok (.aload_n 0, 1) := by decide +kernel
theorem dX10_suspects_123 : decode cX10_suspects 123 = .ok (.iconst 2, 1) := by decide +kernel
theorem dX10_suspects_124 : decode cX10_suspects 124 = .ok (.iload_n 1, 1) := by decide +kernel
theorem dX10_suspects_125 : decode cX10_suspects 125 = .ok (.aload_n 0, 1) := by decide +kernel
theorem dX10_suspects_126 : decode cX10_suspects 126 = .ok (.getfield 50, 3) := by decide +kernel
theorem dX10_suspects_129 : decode cX10_suspects 129 = .ok (.iconst 4, 1) := by decide +kernel
theorem dX10_suspects_130 : decode cX10_suspects 130 = .ok (.iload 4, 2) := by decide +kernel
theorem dX10_suspects_132 : decode cX10_suspects 132 = .ok (.imul, 1) := by decide +kernel
theorem dX10_suspects_133 : decode cX10_suspects 133 = .ok (.iaload, 1) := by decide +kernel
theorem dX10_suspects_134 : decode cX10_suspects 134 = .ok (.aload_n 0, 1) := by decide +kernel
theorem dX10_suspects_135 : decode cX10_suspects 135 = .ok (.getfield 50, 3) := by decide +kernel
theorem dX10_suspects_138 : decode cX10_suspects 138 = .ok (.iconst 4, 1) := by decide +kernel
theorem dX10_suspects_139 : decode cX10_suspects 139 = .ok (.iload 4, 2) := by decide +kernel
theorem dX10_suspects_141 : decode cX10_suspects 141 = .ok (.imul, 1) := by decide +kernel
theorem dX10_suspects_142 : decode cX10_suspects 142 = .ok (.iconst 1, 1) := by decide +kernel
theorem dX10_suspects_143 : decode cX10_suspects 143 = .ok (.iadd, 1) := by decide +kernel
theorem dX10_suspects_144 : decode cX10_suspects 144 = .ok (.iaload, 1) := by decide +kernel
theorem dX10_suspects_145 : decode cX10_suspects 145 = .ok (.aload_n 0, 1) := by decide +kernel
theorem dX10_suspects_146 : decode cX10_suspects 146 = .ok (.iload_n 3, 1) := by decide +kernel
theorem dX10_suspects_147 : decode cX10_suspects 147 = .ok (.aload_n 0, 1) := by decide +kernel
theorem dX10_suspects_148 : decode cX10_suspects 148 = .ok (.getfield 50, 3) := by decide +kernel
theorem dX10_suspects_151 : decode cX10_suspects 151 = .ok (.iconst 4, 1) := by decide +kernel
theorem dX10_suspects_152 : decode cX10_suspects 152 = .ok (.iload 4, 2) := by decide +kernel
theorem dX10_suspects_154 : decode cX10_suspects 154 = .ok (.imul, 1) := by decide +kernel
theorem dX10_suspects_155 : decode cX10_suspects 155 = .ok (.iconst 1, 1) := by decide +kernel
theorem dX10_suspects_156 : decode cX10_suspects 156 = .ok (.iadd, 1) := by decide +kernel
theorem dX10_suspects_157 : decode cX10_suspects 157 = .ok (.iaload, 1) := by decide +kernel
theorem dX10_suspects_158 : decode cX10_suspects 158 = .ok (.invokevirtual 95, 3) := by decide +kernel
theorem dX10_suspects_161 : decode cX10_suspects 161 = .ok (.aload_n 0, 1) := by decide +kernel
theorem dX10_suspects_162 : decode cX10_suspects 162 = .ok (.getfield 50, 3) := by decide +kernel
theorem dX10_suspects_165 : decode cX10_suspects 165 = .ok (.iconst 4, 1) := by decide +kernel
theorem dX10_suspects_166 : decode cX10_suspects 166 = .ok (.iload 4, 2) := by decide +kernel
theorem dX10_suspects_168 : decode cX10_suspects 168 = .ok (.imul, 1) := by decide +kernel
theorem dX10_suspects_169 : decode cX10_suspects 169 = .ok (.iconst 2, 1) := by decide +kernel
theorem dX10_suspects_170 : decode cX10_suspects 170 = .ok (.iadd, 1) := by decide +kernel
theorem dX10_suspects_171 : decode cX10_suspects 171 = .ok (.iaload, 1) := by decide +kernel
theorem dX10_suspects_172 : decode cX10_suspects 172 = .ok (.invokevirtual 146, 3) := by decide +kernel
theorem dX10_suspects_175 : decode cX10_suspects 175 = .ok (.aload_n 0, 1) := by decide +kernel
theorem dX10_suspects_176 : decode cX10_suspects 176 = .ok (.getfield 46, 3) := by decide +kernel
theorem dX10_suspects_179 : decode cX10_suspects 179 = .ok (.iload_n 1, 1) := by decide +kernel
theorem dX10_suspects_180 : decode cX10_suspects 180 = .ok (.iconst 1, 1) := by decide +kernel
theorem dX10_suspects_181 : decode cX10_suspects 181 = .ok (.bastore, 1) := by decide +kernel
theorem dX10_suspects_182 : decode cX10_suspects 182 = .ok (.return_, 1) := by decide +kernel
theorem dX10_operates_0 : decode cX10_operates 0 = .ok (.aload_n 0, 1) := by decide +kernel
theorem dX10_operates_1 : decode cX10_operates 1 = .ok (.getfield 46, 3) := by decide +kernel
theorem dX10_operates_4 : decode cX10_operates 4 = .ok (.iload_n 1, 1) := by decide +kernel
theorem dX10_operates_5 : decode cX10_operates 5 = .ok (.baload, 1) := by decide +kernel
theorem dX10_operates_6 : decode cX10_operates 6 = .ok (.ifCond .eq 5, 3) := by decide +kernel
theorem dX10_operates_9 : decode cX10_operates 9 = .ok (.iconst 0, 1) := by decide +kernel
theorem dX10_operates_10 : decode cX10_operates 10 = .ok (.ireturn, 1) := by decide +kernel
theorem dX10_operates_11 : decode cX10_operates 11 = .ok (.aload_n 0, 1) := by decide +kernel
theorem dX10_operates_12 : decode cX10_operates 12 = .ok (.iload_n 1, 1) := by decide +kernel
theorem dX10_operates_13 : decode cX10_operates 13 = .ok (.invokevirtual 149, 3) := by decide +kernel
theorem dX10_operates_16 : decode cX10_operates 16 = .ok (.istore 5, 2) := by decide +kernel
theorem dX10_operates_18 : decode cX10_operates 18 = .ok (.iload 5, 2) := by decide +kernel
theorem dX10_operates_20 : decode cX10_operates 20 = .ok (.ifCond .le 12, 3) := by decide +kernel
theorem dX10_operates_23 : decode cX10_operates 23 = .ok (.aload_n 0, 1) := by decide +kernel
theorem dX10_operates_24 : decode cX10_operates 24 = .ok (.iload_n 1, 1) := by decide +kernel
theorem dX10_operates_25 : decode cX10_operates 25 = .ok (.iload 5, 2) := by decide +kernel
theorem dX10_operates_27 : decode cX10_operates 27 = .ok (.invokevirtual 152, 3) := by decide +kernel
theorem dX10_operates_30 : decode cX10_operates 30 = .ok (.iconst 0, 1) := by decide +kernel
theorem dX10_operates_31 : decode cX10_operates 31 = .ok (.ireturn, 1) := by decide +kernel
theorem dX10_operates_32 : decode cX10_operates 32 = .ok (.aload_n 0, 1) := by decide +kernel
theorem dX10_operates_33 : decode cX10_operates 33 = .ok (.getfield 31, 3) := by decide +kernel
theorem dX10_operates_36 : decode cX10_operates 36 = .ok (.iload_n 1, 1) := by decide +kernel
theorem dX10_operates_37 : decode cX10_operates 37 = .ok (.iaload, 1) := by decide +kernel
theorem dX10_operates_38 : decode cX10_operates 38 = .ok (.istore 6, 2) := by decide +kernel
theorem dX10_operates_40 : decode cX10_operates 40 = .ok (.aload_n 0, 1) := by decide +kernel
theorem dX10_operates_41 : decode cX10_operates 41 = .ok (.getfield 7, 3) := by decide +kernel
theorem dX10_operates_44 : decode cX10_operates 44 = .ok (.iload 6, 2) := by decide +kernel
theorem dX10_operates_46 : decode cX10_operates 46 = .ok (.iaload, 1) := by decide +kernel
theorem dX10_operates_47 : decode cX10_operates 47 = .ok (.sipush 200, 3) := by decide +kernel
theorem dX10_operates_50 : decode cX10_operates 50 = .ok (.if_icmp .ne 5, 3) := by decide +kernel
theorem dX10_operates_53 : decode cX10_operates 53 = .ok (.iconst 0, 1) := by decide +kernel
theorem dX10_operates_54 : decode cX10_operates 54 = .ok (.ireturn, 1) := by decide +kernel
theorem dX10_operates_55 : decode cX10_operates 55 = .ok (.aload_n 0, 1) := by decide +kernel
theorem dX10_operates_56 : decode cX10_operates 56 = .ok (.iload 6, 2) := by decide +kernel
theorem dX10_operates_58 : decode cX10_operates 58 = .ok (.iload_n 2, 1) := by decide +kernel
theorem dX10_operates_59 : decode cX10_operates 59 = .ok (.iload_n 1, 1) := by decide +kernel
theorem dX10_operates_60 : decode cX10_operates 60 = .ok (.iload_n 3, 1) := by decide +kernel
theorem dX10_operates_61 : decode cX10_operates 61 = .ok (.iload 4, 2) := by decide +kernel
theorem dX10_operates_63 : decode cX10_operates 63 = .ok (.iconst 0, 1) := by decide +kernel
theorem dX10_operates_64 : decode cX10_operates 64 = .ok (.invokevirtual 155, 3) := by decide +kernel
theorem dX10_operates_67 : decode cX10_operates 67 = .ok (.aload_n 0, 1) := by decide +kernel
theorem dX10_operates_68 : decode cX10_operates 68 = .ok (.iload_n 1, 1) := by decide +kernel
theorem dX10_operates_69 : decode cX10_operates 69 = .ok (.iload 6, 2) := by decide +kernel
theorem dX10_operates_71 : decode cX10_operates 71 = .ok (.invokevirtual 135, 3) := by decide +kernel
theorem dX10_operates_74 : decode cX10_operates 74 = .ok (.aload_n 0, 1) := by decide +kernel
theorem dX10_operates_75 : decode cX10_operates 75 = .ok (.getfield 37, 3) := by decide +kernel
theorem dX10_operates_78 : decode cX10_operates 78 = .ok (.iload_n 1, 1) := by decide +kernel
theorem dX10_operates_79 : decode cX10_operates 79 = .ok (.aload_n 0, 1) := by decide +kernel
theorem dX10_operates_80 : decode cX10_operates 80 = .ok (.getfield 37, 3) := by decide +kernel
theorem dX10_operates_83 : decode cX10_operates 83 = .ok (.iload_n 1, 1) := by decide +kernel
theorem dX10_operates_84 : decode cX10_operates 84 = .ok (.iaload, 1) := by decide +kernel
theorem dX10_operates_85 : decode cX10_operates 85 = .ok (.iconst 1, 1) := by decide +kernel
theorem dX10_operates_86 : decode cX10_operates 86 = .ok (.iadd, 1) := by decide +kernel
theorem dX10_operates_87 : decode cX10_operates 87 = .ok (.iastore, 1) := by decide +kernel
theorem dX10_operates_88 : decode cX10_operates 88 = .ok (.aload_n 0, 1) := by decide +kernel
theorem dX10_operates_89 : decode cX10_operates 89 = .ok (.getfield 37, 3) := by decide +kernel
theorem dX10_operates_92 : decode cX10_operates 92 = .ok (.iload_n 1, 1) := by decide +kernel
theorem dX10_operates_93 : decode cX10_operates 93 = .ok (.iaload, 1) := by decide +kernel
theorem dX10_operates_94 : decode cX10_operates 94 = .ok (.aload_n 0, 1) := by decide +kernel
theorem dX10_operates_95 : decode cX10_operates 95 = .ok (.getfield 158, 3) := by decide +kernel
theorem dX10_operates_98 : decode cX10_operates 98 = .ok (.irem, 1) := by decide +kernel
theorem dX10_operates_99 : decode cX10_operates 99 = .ok (.ifCond .ne 8, 3) := by decide +kernel
theorem dX10_operates_102 : decode cX10_operates 102 = .ok (.aload_n 0, 1) := by decide +kernel
theorem dX10_operates_103 : decode cX10_operates 103 = .ok (.iload_n 1, 1) := by decide +kernel
theorem dX10_operates_104 : decode cX10_operates 104 = .ok (.invokevirtual 161, 3) := by decide +kernel
theorem dX10_operates_107 : decode cX10_operates 107 = .ok (.iconst 1, 1) := by decide +kernel
theorem dX10_operates_108 : decode cX10_operates 108 = .ok (.ireturn, 1) := by decide +kernel
theorem dX10_valueIn_0 : decode cX10_valueIn 0 = .ok (.aload_n 0, 1) := by decide +kernel
theorem dX10_valueIn_1 : decode cX10_valueIn 1 = .ok (.getfield 7, 3) := by decide +kernel
theorem dX10_valueIn_4 : decode cX10_valueIn 4 = .ok (.iload_n 1, 1) := by decide +kernel
theorem dX10_valueIn_5 : decode cX10_valueIn 5 = .ok (.iaload, 1) := by decide +kernel
theorem dX10_valueIn_6 : decode cX10_valueIn 6 = .ok (.istore_n 3, 1) := by decide +kernel
theorem dX10_valueIn_7 : decode cX10_valueIn 7 = .ok (.iload_n 3, 1) := by decide +kernel
theorem dX10_valueIn_8 : decode cX10_valueIn 8 = .ok (.ifCond .le 46, 3) := by decide +kernel
theorem dX10_valueIn_11 : decode cX10_valueIn 11 = .ok (.iload_n 1, 1) := by decide +kernel
theorem dX10_valueIn_12 : decode cX10_valueIn 12 = .ok (.iload_n 3, 1) := by decide +kernel
theorem dX10_valueIn_13 : decode cX10_valueIn 13 = .ok (.invokestatic 86, 3) := by decide +kernel
theorem dX10_valueIn_16 : decode cX10_valueIn 16 = .ok (.istore 4, 2) := by decide +kernel
theorem dX10_valueIn_18 : decode cX10_valueIn 18 = .ok (.aload_n 0, 1) := by decide +kernel
theorem dX10_valueIn_19 : decode cX10_valueIn 19 = .ok (.getfield 13, 3) := by decide +kernel
theorem dX10_valueIn_22 : decode cX10_valueIn 22 = .ok (.iload 4, 2) := by decide +kernel
theorem dX10_valueIn_24 : decode cX10_valueIn 24 = .ok (.iaload, 1) := by decide +kernel
theorem dX10_valueIn_25 : decode cX10_valueIn 25 = .ok (.iconst 1, 1) := by decide +kernel
theorem dX10_valueIn_26 : decode cX10_valueIn 26 = .ok (.if_icmp .ne 22, 3) := by decide +kernel
theorem dX10_valueIn_29 : decode cX10_valueIn 29 = .ok (.aload_n 0, 1) := by decide +kernel
theorem dX10_valueIn_30 : decode cX10_valueIn 30 = .ok (.getfield 19, 3) := by decide +kernel
theorem dX10_valueIn_33 : decode cX10_valueIn 33 = .ok (.iload 4, 2) := by decide +kernel
theorem dX10_valueIn_35 : decode cX10_valueIn 35 = .ok (.iaload, 1) := by decide +kernel
theorem dX10_valueIn_36 : decode cX10_valueIn 36 = .ok (.iload_n 2, 1) := by decide +kernel
theorem dX10_valueIn_37 : decode cX10_valueIn 37 = .ok (.if_icmp .ne 11, 3) := by decide +kernel
theorem dX10_valueIn_40 : decode cX10_valueIn 40 = .ok (.aload_n 0, 1) := by decide +kernel
theorem dX10_valueIn_41 : decode cX10_valueIn 41 = .ok (.getfield 22, 3) := by decide +kernel
theorem dX10_valueIn_44 : decode cX10_valueIn 44 = .ok (.iload 4, 2) := by decide +kernel
theorem dX10_valueIn_46 : decode cX10_valueIn 46 = .ok (.iaload, 1) := by decide +kernel
theorem dX10_valueIn_47 : decode cX10_valueIn 47 = .ok (.ireturn, 1) := by decide +kernel
theorem dX10_valueIn_48 : decode cX10_valueIn 48 = .ok (.iinc 3 (-1), 3) := by decide +kernel
theorem dX10_valueIn_51 : decode cX10_valueIn 51 = .ok (.goto (-44), 3) := by decide +kernel
theorem dX10_valueIn_54 : decode cX10_valueIn 54 = .ok (.iconst 0, 1) := by decide +kernel
theorem dX10_valueIn_55 : decode cX10_valueIn 55 = .ok (.ireturn, 1) := by decide +kernel
theorem dX10_write_0 : decode cX10_write 0 = .ok (.aload_n 0, 1) := by decide +kernel
theorem dX10_write_1 : decode cX10_write 1 = .ok (.iconst 0, 1) := by decide +kernel
theorem dX10_write_2 : decode cX10_write 2 = .ok (.putfield 66, 3) := by decide +kernel
theorem dX10_write_5 : decode cX10_write 5 = .ok (.aload_n 0, 1) := by decide +kernel
theorem dX10_write_6 : decode cX10_write 6 = .ok (.iload_n 1, 1) := by decide +kernel
theorem dX10_write_7 : decode cX10_write 7 = .ok (.invokevirtual 165, 3) := by decide +kernel
theorem dX10_write_10 : decode cX10_write 10 = .ok (.ifCond .eq 11, 3) := by decide +kernel
theorem dX10_write_13 : decode cX10_write 13 = .ok (.aload_n 0, 1) := by decide +kernel
theorem dX10_write_14 : decode cX10_write 14 = .ok (.iload_n 2, 1) := by decide +kernel
theorem dX10_write_15 : decode cX10_write 15 = .ok (.invokevirtual 168, 3) := by decide +kernel
theorem dX10_write_18 : decode cX10_write 18 = .ok (.ifCond .ne 9, 3) := by decide +kernel
theorem dX10_write_21 : decode cX10_write 21 = .ok (.aload_n 0, 1) := by decide +kernel
theorem dX10_write_22 : decode cX10_write 22 = .ok (.iconst 1, 1) := by decide +kernel
theorem dX10_write_23 : decode cX10_write 23 = .ok (.invokevirtual 171, 3) := by decide +kernel
theorem dX10_write_26 : decode cX10_write 26 = .ok (.ireturn, 1) := by decide +kernel
theorem dX10_write_27 : decode cX10_write 27 = .ok (.iload_n 3, 1) := by decide +kernel
theorem dX10_write_28 : decode cX10_write 28 = .ok (.iconst 0, 1) := by decide +kernel
theorem dX10_write_29 : decode cX10_write 29 = .ok (.ldc 174, 2) := by decide +kernel
theorem dX10_write_31 : decode cX10_write 31 = .ok (.invokestatic 72, 3) := by decide +kernel
theorem dX10_write_34 : decode cX10_write 34 = .ok (.ifCond .ne 9, 3) := by decide +kernel
theorem dX10_write_37 : decode cX10_write 37 = .ok (.aload_n 0, 1) := by decide +kernel
theorem dX10_write_38 : decode cX10_write 38 = .ok (.iconst 2, 1) := by decide +kernel
theorem dX10_write_39 : decode cX10_write 39 = .ok (.invokevirtual 171, 3) := by decide +kernel
theorem dX10_write_42 : decode cX10_write 42 = .ok (.ireturn, 1) := by decide +kernel
theorem dX10_write_43 : decode cX10_write 43 = .ok (.aload_n 0, 1) := by decide +kernel
theorem dX10_write_44 : decode cX10_write 44 = .ok (.iload_n 1, 1) := by decide +kernel
theorem dX10_write_45 : decode cX10_write 45 = .ok (.iconst 1, 1) := by decide +kernel
theorem dX10_write_46 : decode cX10_write 46 = .ok (.iload_n 2, 1) := by decide +kernel
theorem dX10_write_47 : decode cX10_write 47 = .ok (.iload_n 3, 1) := by decide +kernel
theorem dX10_write_48 : decode cX10_write 48 = .ok (.invokevirtual 175, 3) := by decide +kernel
theorem dX10_write_51 : decode cX10_write 51 = .ok (.ifCond .ne 9, 3) := by decide +kernel
theorem dX10_write_54 : decode cX10_write 54 = .ok (.aload_n 0, 1) := by decide +kernel
theorem dX10_write_55 : decode cX10_write 55 = .ok (.iconst 3, 1) := by decide +kernel
theorem dX10_write_56 : decode cX10_write 56 = .ok (.invokevirtual 171, 3) := by decide +kernel
theorem dX10_write_59 : decode cX10_write 59 = .ok (.ireturn, 1) := by decide +kernel
theorem dX10_write_60 : decode cX10_write 60 = .ok (.aload_n 0, 1) := by decide +kernel
theorem dX10_write_61 : decode cX10_write 61 = .ok (.getfield 34, 3) := by decide +kernel
theorem dX10_write_64 : decode cX10_write 64 = .ok (.iload_n 1, 1) := by decide +kernel
theorem dX10_write_65 : decode cX10_write 65 = .ok (.iaload, 1) := by decide +kernel
theorem dX10_write_66 : decode cX10_write 66 = .ok (.ireturn, 1) := by decide +kernel
theorem dX10_read_0 : decode cX10_read 0 = .ok (.aload_n 0, 1) := by decide +kernel
theorem dX10_read_1 : decode cX10_read 1 = .ok (.iconst 0, 1) := by decide +kernel
theorem dX10_read_2 : decode cX10_read 2 = .ok (.putfield 66, 3) := by decide +kernel
theorem dX10_read_5 : decode cX10_read 5 = .ok (.aload_n 0, 1) := by decide +kernel
theorem dX10_read_6 : decode cX10_read 6 = .ok (.iload_n 1, 1) := by decide +kernel
theorem dX10_read_7 : decode cX10_read 7 = .ok (.invokevirtual 165, 3) := by decide +kernel
theorem dX10_read_10 : decode cX10_read 10 = .ok (.ifCond .eq 11, 3) := by decide +kernel
theorem dX10_read_13 : decode cX10_read 13 = .ok (.aload_n 0, 1) := by decide +kernel
theorem dX10_read_14 : decode cX10_read 14 = .ok (.iload_n 2, 1) := by decide +kernel
theorem dX10_read_15 : decode cX10_read 15 = .ok (.invokevirtual 168, 3) := by decide +kernel
theorem dX10_read_18 : decode cX10_read 18 = .ok (.ifCond .ne 9, 3) := by decide +kernel
theorem dX10_read_21 : decode cX10_read 21 = .ok (.aload_n 0, 1) := by decide +kernel
theorem dX10_read_22 : decode cX10_read 22 = .ok (.iconst 1, 1) := by decide +kernel
theorem dX10_read_23 : decode cX10_read 23 = .ok (.invokevirtual 171, 3) := by decide +kernel
theorem dX10_read_26 : decode cX10_read 26 = .ok (.ireturn, 1) := by decide +kernel
theorem dX10_read_27 : decode cX10_read 27 = .ok (.aload_n 0, 1) := by decide +kernel
theorem dX10_read_28 : decode cX10_read 28 = .ok (.iload_n 1, 1) := by decide +kernel
theorem dX10_read_29 : decode cX10_read 29 = .ok (.iconst 0, 1) := by decide +kernel
theorem dX10_read_30 : decode cX10_read 30 = .ok (.iload_n 2, 1) := by decide +kernel
theorem dX10_read_31 : decode cX10_read 31 = .ok (.iconst 0, 1) := by decide +kernel
theorem dX10_read_32 : decode cX10_read 32 = .ok (.invokevirtual 175, 3) := by decide +kernel
theorem dX10_read_35 : decode cX10_read 35 = .ok (.ifCond .ne 9, 3) := by decide +kernel
theorem dX10_read_38 : decode cX10_read 38 = .ok (.aload_n 0, 1) := by decide +kernel
theorem dX10_read_39 : decode cX10_read 39 = .ok (.iconst 2, 1) := by decide +kernel
theorem dX10_read_40 : decode cX10_read 40 = .ok (.invokevirtual 171, 3) := by decide +kernel
theorem dX10_read_43 : decode cX10_read 43 = .ok (.ireturn, 1) := by decide +kernel
theorem dX10_read_44 : decode cX10_read 44 = .ok (.aload_n 0, 1) := by decide +kernel
theorem dX10_read_45 : decode cX10_read 45 = .ok (.aload_n 0, 1) := by decide +kernel
theorem dX10_read_46 : decode cX10_read 46 = .ok (.getfield 31, 3) := by decide +kernel
theorem dX10_read_49 : decode cX10_read 49 = .ok (.iload_n 1, 1) := by decide +kernel
theorem dX10_read_50 : decode cX10_read 50 = .ok (.iaload, 1) := by decide +kernel
theorem dX10_read_51 : decode cX10_read 51 = .ok (.iload_n 2, 1) := by decide +kernel
theorem dX10_read_52 : decode cX10_read 52 = .ok (.invokevirtual 179, 3) := by decide +kernel
theorem dX10_read_55 : decode cX10_read 55 = .ok (.ireturn, 1) := by decide +kernel
theorem dX10_lowerOf_0 : decode cX10_lowerOf 0 = .ok (.aload_n 0, 1) := by decide +kernel
theorem dX10_lowerOf_1 : decode cX10_lowerOf 1 = .ok (.getfield 34, 3) := by decide +kernel
theorem dX10_lowerOf_4 : decode cX10_lowerOf 4 = .ok (.iload_n 1, 1) := by decide +kernel
theorem dX10_lowerOf_5 : decode cX10_lowerOf 5 = .ok (.iaload, 1) := by decide +kernel
theorem dX10_lowerOf_6 : decode cX10_lowerOf 6 = .ok (.aload_n 0, 1) := by decide +kernel
theorem dX10_lowerOf_7 : decode cX10_lowerOf 7 = .ok (.getfield 34, 3) := by decide +kernel
theorem dX10_lowerOf_10 : decode cX10_lowerOf 10 = .ok (.iload_n 2, 1) := by decide +kernel
theorem dX10_lowerOf_11 : decode cX10_lowerOf 11 = .ok (.iaload, 1) := by decide +kernel
theorem dX10_lowerOf_12 : decode cX10_lowerOf 12 = .ok (.if_icmp .ge 12, 3) := by decide +kernel
theorem dX10_lowerOf_15 : decode cX10_lowerOf 15 = .ok (.aload_n 0, 1) := by decide +kernel
theorem dX10_lowerOf_16 : decode cX10_lowerOf 16 = .ok (.getfield 34, 3) := by decide +kernel
theorem dX10_lowerOf_19 : decode cX10_lowerOf 19 = .ok (.iload_n 1, 1) := by decide +kernel
theorem dX10_lowerOf_20 : decode cX10_lowerOf 20 = .ok (.iaload, 1) := by decide +kernel
theorem dX10_lowerOf_21 : decode cX10_lowerOf 21 = .ok (.goto 9, 3) := by decide +kernel
theorem dX10_lowerOf_24 : decode cX10_lowerOf 24 = .ok (.aload_n 0, 1) := by decide +kernel
theorem dX10_lowerOf_25 : decode cX10_lowerOf 25 = .ok (.getfield 34, 3) := by decide +kernel
theorem dX10_lowerOf_28 : decode cX10_lowerOf 28 = .ok (.iload_n 2, 1) := by decide +kernel
theorem dX10_lowerOf_29 : decode cX10_lowerOf 29 = .ok (.iaload, 1) := by decide +kernel
theorem dX10_lowerOf_30 : decode cX10_lowerOf 30 = .ok (.ireturn, 1) := by decide +kernel
theorem dX10_areForked_0 : decode cX10_areForked 0 = .ok (.aload_n 0, 1) := by decide +kernel
theorem dX10_areForked_1 : decode cX10_areForked 1 = .ok (.iload_n 1, 1) := by decide +kernel
theorem dX10_areForked_2 : decode cX10_areForked 2 = .ok (.iload_n 2, 1) := by decide +kernel
theorem dX10_areForked_3 : decode cX10_areForked 3 = .ok (.invokevirtual 182, 3) := by decide +kernel
theorem dX10_areForked_6 : decode cX10_areForked 6 = .ok (.istore_n 3, 1) := by decide +kernel
theorem dX10_areForked_7 : decode cX10_areForked 7 = .ok (.aload_n 0, 1) := by decide +kernel
theorem dX10_areForked_8 : decode cX10_areForked 8 = .ok (.iload_n 1, 1) := by decide +kernel
theorem dX10_areForked_9 : decode cX10_areForked 9 = .ok (.iload_n 3, 1) := by decide +kernel
theorem dX10_areForked_10 : decode cX10_areForked 10 = .ok (.invokevirtual 90, 3) := by decide +kernel
theorem dX10_areForked_13 : decode cX10_areForked 13 = .ok (.aload_n 0, 1) := by decide +kernel
theorem dX10_areForked_14 : decode cX10_areForked 14 = .ok (.iload_n 2, 1) := by decide +kernel
theorem dX10_areForked_15 : decode cX10_areForked 15 = .ok (.iload_n 3, 1) := by decide +kernel
theorem dX10_areForked_16 : decode cX10_areForked 16 = .ok (.invokevirtual 90, 3) := by decide +kernel
theorem dX10_areForked_19 : decode cX10_areForked 19 = .ok (.if_icmp .eq 7, 3) := by decide +kernel
theorem dX10_areForked_22 : decode cX10_areForked 22 = .ok (.iconst 1, 1) := by decide +kernel
theorem dX10_areForked_23 : decode cX10_areForked 23 = .ok (.goto 4, 3) := by decide +kernel
theorem dX10_areForked_26 : decode cX10_areForked 26 = .ok (.iconst 0, 1) := by decide +kernel
theorem dX10_areForked_27 : decode cX10_areForked 27 = .ok (.ireturn, 1) := by decide +kernel
theorem dX10_exchange_0 : decode cX10_exchange 0 = .ok (.aload_n 0, 1) := by decide +kernel
theorem dX10_exchange_1 : decode cX10_exchange 1 = .ok (.iconst 0, 1) := by decide +kernel
theorem dX10_exchange_2 : decode cX10_exchange 2 = .ok (.putfield 66, 3) := by decide +kernel
theorem dX10_exchange_5 : decode cX10_exchange 5 = .ok (.aload_n 0, 1) := by decide +kernel
theorem dX10_exchange_6 : decode cX10_exchange 6 = .ok (.iload_n 1, 1) := by decide +kernel
theorem dX10_exchange_7 : decode cX10_exchange 7 = .ok (.invokevirtual 165, 3) := by decide +kernel
theorem dX10_exchange_10 : decode cX10_exchange 10 = .ok (.ifCond .eq 16, 3) := by decide +kernel
theorem dX10_exchange_13 : decode cX10_exchange 13 = .ok (.aload_n 0, 1) := by decide +kernel
theorem dX10_exchange_14 : decode cX10_exchange 14 = .ok (.iload_n 2, 1) := by decide +kernel
theorem dX10_exchange_15 : decode cX10_exchange 15 = .ok (.invokevirtual 165, 3) := by decide +kernel
theorem dX10_exchange_18 : decode cX10_exchange 18 = .ok (.ifCond .eq 8, 3) := by decide +kernel
theorem dX10_exchange_21 : decode cX10_exchange 21 = .ok (.iload_n 1, 1) := by decide +kernel
theorem dX10_exchange_22 : decode cX10_exchange 22 = .ok (.iload_n 2, 1) := by decide +kernel
theorem dX10_exchange_23 : decode cX10_exchange 23 = .ok (.if_icmp .ne 9, 3) := by decide +kernel
theorem dX10_exchange_26 : decode cX10_exchange 26 = .ok (.aload_n 0, 1) := by decide +kernel
theorem dX10_exchange_27 : decode cX10_exchange 27 = .ok (.iconst 1, 1) := by decide +kernel
theorem dX10_exchange_28 : decode cX10_exchange 28 = .ok (.invokevirtual 171, 3) := by decide +kernel
theorem dX10_exchange_31 : decode cX10_exchange 31 = .ok (.ireturn, 1) := by decide +kernel
theorem dX10_exchange_32 : decode cX10_exchange 32 = .ok (.aload_n 0, 1) := by decide +kernel
theorem dX10_exchange_33 : decode cX10_exchange 33 = .ok (.iload_n 1, 1) := by decide +kernel
theorem dX10_exchange_34 : decode cX10_exchange 34 = .ok (.iload_n 2, 1) := by decide +kernel
theorem dX10_exchange_35 : decode cX10_exchange 35 = .ok (.invokevirtual 185, 3) := by decide +kernel
theorem dX10_exchange_38 : decode cX10_exchange 38 = .ok (.ifCond .eq 63, 3) := by decide +kernel
theorem dX10_exchange_41 : decode cX10_exchange 41 = .ok (.iconst 0, 1) := by decide +kernel
theorem dX10_exchange_42 : decode cX10_exchange 42 = .ok (.istore_n 3, 1) := by decide +kernel
theorem dX10_exchange_43 : decode cX10_exchange 43 = .ok (.aload_n 0, 1) := by decide +kernel
theorem dX10_exchange_44 : decode cX10_exchange 44 = .ok (.iload_n 1, 1) := by decide +kernel
theorem dX10_exchange_45 : decode cX10_exchange 45 = .ok (.iload_n 3, 1) := by decide +kernel
theorem dX10_exchange_46 : decode cX10_exchange 46 = .ok (.invokevirtual 90, 3) := by decide +kernel
theorem dX10_exchange_49 : decode cX10_exchange 49 = .ok (.aload_n 0, 1) := by decide +kernel
theorem dX10_exchange_50 : decode cX10_exchange 50 = .ok (.iload_n 2, 1) := by decide +kernel
theorem dX10_exchange_51 : decode cX10_exchange 51 = .ok (.iload_n 3, 1) := by decide +kernel
theorem dX10_exchange_52 : decode cX10_exchange 52 = .ok (.invokevirtual 90, 3) := by decide +kernel
theorem dX10_exchange_55 : decode cX10_exchange 55 = .ok (.if_icmp .ne 10, 3) := by decide +kernel
theorem dX10_exchange_58 : decode cX10_exchange 58 = .ok (.iload_n 3, 1) := by decide +kernel
theorem dX10_exchange_59 : decode cX10_exchange 59 = .ok (.iconst 1, 1) := by decide +kernel
theorem dX10_exchange_60 : decode cX10_exchange 60 = .ok (.iadd, 1) := by decide +kernel
theorem dX10_exchange_61 : decode cX10_exchange 61 = .ok (.istore_n 3, 1) := by decide +kernel
theorem dX10_exchange_62 : decode cX10_exchange 62 = .ok (.goto (-19), 3) := by decide +kernel
theorem dX10_exchange_65 : decode cX10_exchange 65 = .ok (.aload_n 0, 1) := by decide +kernel
theorem dX10_exchange_66 : decode cX10_exchange 66 = .ok (.iconst 2, 1) := by decide +kernel
theorem dX10_exchange_67 : decode cX10_exchange 67 = .ok (.iload_n 1, 1) := by decide +kernel
theorem dX10_exchange_68 : decode cX10_exchange 68 = .ok (.iload_n 2, 1) := by decide +kernel
theorem dX10_exchange_69 : decode cX10_exchange 69 = .ok (.iload_n 3, 1) := by decide +kernel
theorem dX10_exchange_70 : decode cX10_exchange 70 = .ok (.aload_n 0, 1) := by decide +kernel
theorem dX10_exchange_71 : decode cX10_exchange 71 = .ok (.iload_n 1, 1) := by decide +kernel
theorem dX10_exchange_72 : decode cX10_exchange 72 = .ok (.iload_n 3, 1) := by decide +kernel
theorem dX10_exchange_73 : decode cX10_exchange 73 = .ok (.invokevirtual 90, 3) := by decide +kernel
theorem dX10_exchange_76 : decode cX10_exchange 76 = .ok (.aload_n 0, 1) := by decide +kernel
theorem dX10_exchange_77 : decode cX10_exchange 77 = .ok (.iload_n 2, 1) := by decide +kernel
theorem dX10_exchange_78 : decode cX10_exchange 78 = .ok (.iload_n 3, 1) := by decide +kernel
theorem dX10_exchange_79 : decode cX10_exchange 79 = .ok (.invokevirtual 90, 3) := by decide +kernel
theorem dX10_exchange_82 : decode cX10_exchange 82 = .ok (.invokevirtual 146, 3) := by decide +kernel
theorem dX10_exchange_85 : decode cX10_exchange 85 = .ok (.aload_n 0, 1) := by decide +kernel
theorem dX10_exchange_86 : decode cX10_exchange 86 = .ok (.getfield 46, 3) := by decide +kernel
theorem dX10_exchange_89 : decode cX10_exchange 89 = .ok (.iload_n 1, 1) := by decide +kernel
theorem dX10_exchange_90 : decode cX10_exchange 90 = .ok (.iconst 1, 1) := by decide +kernel
theorem dX10_exchange_91 : decode cX10_exchange 91 = .ok (.bastore, 1) := by decide +kernel
theorem dX10_exchange_92 : decode cX10_exchange 92 = .ok (.aload_n 0, 1) := by decide +kernel
theorem dX10_exchange_93 : decode cX10_exchange 93 = .ok (.getfield 46, 3) := by decide +kernel
theorem dX10_exchange_96 : decode cX10_exchange 96 = .ok (.iload_n 2, 1) := by decide +kernel
theorem dX10_exchange_97 : decode cX10_exchange 97 = .ok (.iconst 1, 1) := by decide +kernel
theorem dX10_exchange_98 : decode cX10_exchange 98 = .ok (.bastore, 1) := by decide +kernel
theorem dX10_exchange_99 : decode cX10_exchange 99 = .ok (.iconst 3, 1) := by decide +kernel
theorem dX10_exchange_100 : decode cX10_exchange 100 = .ok (.ireturn, 1) := by decide +kernel
theorem dX10_exchange_101 : decode cX10_exchange 101 = .ok (.aload_n 0, 1) := by decide +kernel
theorem dX10_exchange_102 : decode cX10_exchange 102 = .ok (.getfield 34, 3) := by decide +kernel
theorem dX10_exchange_105 : decode cX10_exchange 105 = .ok (.iload_n 1, 1) := by decide +kernel
theorem dX10_exchange_106 : decode cX10_exchange 106 = .ok (.iaload, 1) := by decide +kernel
theorem dX10_exchange_107 : decode cX10_exchange 107 = .ok (.aload_n 0, 1) := by decide +kernel
theorem dX10_exchange_108 : decode cX10_exchange 108 = .ok (.getfield 34, 3) := by decide +kernel
theorem dX10_exchange_111 : decode cX10_exchange 111 = .ok (.iload_n 2, 1) := by decide +kernel
theorem dX10_exchange_112 : decode cX10_exchange 112 = .ok (.iaload, 1) := by decide +kernel
theorem dX10_exchange_113 : decode cX10_exchange 113 = .ok (.if_icmp .ne 5, 3) := by decide +kernel
theorem dX10_exchange_116 : decode cX10_exchange 116 = .ok (.iconst 0, 1) := by decide +kernel
theorem dX10_exchange_117 : decode cX10_exchange 117 = .ok (.ireturn, 1) := by decide +kernel
theorem dX10_exchange_118 : decode cX10_exchange 118 = .ok (.aload_n 0, 1) := by decide +kernel
theorem dX10_exchange_119 : decode cX10_exchange 119 = .ok (.getfield 34, 3) := by decide +kernel
theorem dX10_exchange_122 : decode cX10_exchange 122 = .ok (.iload_n 1, 1) := by decide +kernel
theorem dX10_exchange_123 : decode cX10_exchange 123 = .ok (.iaload, 1) := by decide +kernel
theorem dX10_exchange_124 : decode cX10_exchange 124 = .ok (.aload_n 0, 1) := by decide +kernel
theorem dX10_exchange_125 : decode cX10_exchange 125 = .ok (.getfield 34, 3) := by decide +kernel
theorem dX10_exchange_128 : decode cX10_exchange 128 = .ok (.iload_n 2, 1) := by decide +kernel
theorem dX10_exchange_129 : decode cX10_exchange 129 = .ok (.iaload, 1) := by decide +kernel
theorem dX10_exchange_130 : decode cX10_exchange 130 = .ok (.if_icmp .ge 7, 3) := by decide +kernel
theorem dX10_exchange_133 : decode cX10_exchange 133 = .ok (.iconst 1, 1) := by decide +kernel
theorem dX10_exchange_134 : decode cX10_exchange 134 = .ok (.goto 4, 3) := by decide +kernel
theorem dX10_exchange_137 : decode cX10_exchange 137 = .ok (.iconst 2, 1) := by decide +kernel
theorem dX10_exchange_138 : decode cX10_exchange 138 = .ok (.ireturn, 1) := by decide +kernel
theorem dX10_post_0 : decode cX10_post 0 = .ok (.aload_n 0, 1) := by decide +kernel
theorem dX10_post_1 : decode cX10_post 1 = .ok (.iconst 0, 1) := by decide +kernel
theorem dX10_post_2 : decode cX10_post 2 = .ok (.putfield 66, 3) := by decide +kernel
theorem dX10_post_5 : decode cX10_post 5 = .ok (.aload_n 0, 1) := by decide +kernel
theorem dX10_post_6 : decode cX10_post 6 = .ok (.iload_n 1, 1) := by decide +kernel
theorem dX10_post_7 : decode cX10_post 7 = .ok (.invokevirtual 165, 3) := by decide +kernel
theorem dX10_post_10 : decode cX10_post 10 = .ok (.ifCond .ne 9, 3) := by decide +kernel
theorem dX10_post_13 : decode cX10_post 13 = .ok (.aload_n 0, 1) := by decide +kernel
theorem dX10_post_14 : decode cX10_post 14 = .ok (.iconst 1, 1) := by decide +kernel
theorem dX10_post_15 : decode cX10_post 15 = .ok (.invokevirtual 171, 3) := by decide +kernel
theorem dX10_post_18 : decode cX10_post 18 = .ok (.ireturn, 1) := by decide +kernel
theorem dX10_post_19 : decode cX10_post 19 = .ok (.aload_n 0, 1) := by decide +kernel
theorem dX10_post_20 : decode cX10_post 20 = .ok (.iload_n 1, 1) := by decide +kernel
theorem dX10_post_21 : decode cX10_post 21 = .ok (.invokevirtual 161, 3) := by decide +kernel
theorem dX10_post_24 : decode cX10_post 24 = .ok (.aload_n 0, 1) := by decide +kernel
theorem dX10_post_25 : decode cX10_post 25 = .ok (.getfield 126, 3) := by decide +kernel
theorem dX10_post_28 : decode cX10_post 28 = .ok (.ireturn, 1) := by decide +kernel
theorem dX10_calm_0 : decode cX10_calm 0 = .ok (.aload_n 0, 1) := by decide +kernel
theorem dX10_calm_1 : decode cX10_calm 1 = .ok (.aload_n 0, 1) := by decide +kernel
theorem dX10_calm_2 : decode cX10_calm 2 = .ok (.iload_n 1, 1) := by decide +kernel
theorem dX10_calm_3 : decode cX10_calm 3 = .ok (.invokevirtual 165, 3) := by decide +kernel
theorem dX10_calm_6 : decode cX10_calm 6 = .ok (.ifCond .eq 7, 3) := by decide +kernel
theorem dX10_calm_9 : decode cX10_calm 9 = .ok (.iconst 0, 1) := by decide +kernel
theorem dX10_calm_10 : decode cX10_calm 10 = .ok (.goto 4, 3) := by decide +kernel
theorem dX10_calm_13 : decode cX10_calm 13 = .ok (.iconst 1, 1) := by decide +kernel
theorem dX10_calm_14 : decode cX10_calm 14 = .ok (.putfield 66, 3) := by decide +kernel
theorem dX10_calm_17 : decode cX10_calm 17 = .ok (.aload_n 0, 1) := by decide +kernel
theorem dX10_calm_18 : decode cX10_calm 18 = .ok (.getfield 66, 3) := by decide +kernel
theorem dX10_calm_21 : decode cX10_calm 21 = .ok (.ifCond .le 5, 3) := by decide +kernel
theorem dX10_calm_24 : decode cX10_calm 24 = .ok (.iconst 0, 1) := by decide +kernel
theorem dX10_calm_25 : decode cX10_calm 25 = .ok (.ireturn, 1) := by decide +kernel
theorem dX10_calm_26 : decode cX10_calm 26 = .ok (.aload_n 0, 1) := by decide +kernel
theorem dX10_calm_27 : decode cX10_calm 27 = .ok (.getfield 46, 3) := by decide +kernel
theorem dX10_calm_30 : decode cX10_calm 30 = .ok (.iload_n 1, 1) := by decide +kernel
theorem dX10_calm_31 : decode cX10_calm 31 = .ok (.baload, 1) := by decide +kernel
theorem dX10_calm_32 : decode cX10_calm 32 = .ok (.istore_n 2, 1) := by decide +kernel
theorem dX10_calm_33 : decode cX10_calm 33 = .ok (.aload_n 0, 1) := by decide +kernel
theorem dX10_calm_34 : decode cX10_calm 34 = .ok (.getfield 46, 3) := by decide +kernel
theorem dX10_calm_37 : decode cX10_calm 37 = .ok (.iload_n 1, 1) := by decide +kernel
theorem dX10_calm_38 : decode cX10_calm 38 = .ok (.iconst 0, 1) := by decide +kernel
theorem dX10_calm_39 : decode cX10_calm 39 = .ok (.bastore, 1) := by decide +kernel
theorem dX10_calm_40 : decode cX10_calm 40 = .ok (.iload_n 2, 1) := by decide +kernel
theorem dX10_calm_41 : decode cX10_calm 41 = .ok (.ireturn, 1) := by decide +kernel
theorem dX10_adopt_0 : decode cX10_adopt 0 = .ok (.aload_n 0, 1) := by decide +kernel
theorem dX10_adopt_1 : decode cX10_adopt 1 = .ok (.iconst 0, 1) := by decide +kernel
theorem dX10_adopt_2 : decode cX10_adopt 2 = .ok (.putfield 66, 3) := by decide +kernel
theorem dX10_adopt_5 : decode cX10_adopt 5 = .ok (.aload_n 0, 1) := by decide +kernel
theorem dX10_adopt_6 : decode cX10_adopt 6 = .ok (.iload_n 1, 1) := by decide +kernel
theorem dX10_adopt_7 : decode cX10_adopt 7 = .ok (.invokevirtual 165, 3) := by decide +kernel
theorem dX10_adopt_10 : decode cX10_adopt 10 = .ok (.ifCond .ne 9, 3) := by decide +kernel
theorem dX10_adopt_13 : decode cX10_adopt 13 = .ok (.aload_n 0, 1) := by decide +kernel
theorem dX10_adopt_14 : decode cX10_adopt 14 = .ok (.iconst 1, 1) := by decide +kernel
theorem dX10_adopt_15 : decode cX10_adopt 15 = .ok (.invokevirtual 171, 3) := by decide +kernel
theorem dX10_adopt_18 : decode cX10_adopt 18 = .ok (.ireturn, 1) := by decide +kernel
theorem dX10_adopt_19 : decode cX10_adopt 19 = .ok (.aload_n 0, 1) := by decide +kernel
theorem dX10_adopt_20 : decode cX10_adopt 20 = .ok (.iload_n 1, 1) := by decide +kernel
theorem dX10_adopt_21 : decode cX10_adopt 21 = .ok (.aload_n 0, 1) := by decide +kernel
theorem dX10_adopt_22 : decode cX10_adopt 22 = .ok (.getfield 31, 3) := by decide +kernel
theorem dX10_adopt_25 : decode cX10_adopt 25 = .ok (.iload_n 1, 1) := by decide +kernel
theorem dX10_adopt_26 : decode cX10_adopt 26 = .ok (.iaload, 1) := by decide +kernel
theorem dX10_adopt_27 : decode cX10_adopt 27 = .ok (.invokevirtual 135, 3) := by decide +kernel
theorem dX10_adopt_30 : decode cX10_adopt 30 = .ok (.aload_n 0, 1) := by decide +kernel
theorem dX10_adopt_31 : decode cX10_adopt 31 = .ok (.getfield 46, 3) := by decide +kernel
theorem dX10_adopt_34 : decode cX10_adopt 34 = .ok (.iload_n 1, 1) := by decide +kernel
theorem dX10_adopt_35 : decode cX10_adopt 35 = .ok (.iconst 0, 1) := by decide +kernel
theorem dX10_adopt_36 : decode cX10_adopt 36 = .ok (.bastore, 1) := by decide +kernel
theorem dX10_adopt_37 : decode cX10_adopt 37 = .ok (.aload_n 0, 1) := by decide +kernel
theorem dX10_adopt_38 : decode cX10_adopt 38 = .ok (.getfield 34, 3) := by decide +kernel
theorem dX10_adopt_41 : decode cX10_adopt 41 = .ok (.iload_n 1, 1) := by decide +kernel
theorem dX10_adopt_42 : decode cX10_adopt 42 = .ok (.iaload, 1) := by decide +kernel
theorem dX10_adopt_43 : decode cX10_adopt 43 = .ok (.ireturn, 1) := by decide +kernel
theorem dX10_copies_0 : decode cX10_copies 0 = .ok (.iconst 1, 1) := by decide +kernel
theorem dX10_copies_1 : decode cX10_copies 1 = .ok (.istore 4, 2) := by decide +kernel
theorem dX10_copies_3 : decode cX10_copies 3 = .ok (.iload 4, 2) := by decide +kernel
theorem dX10_copies_5 : decode cX10_copies 5 = .ok (.iload_n 3, 1) := by decide +kernel
theorem dX10_copies_6 : decode cX10_copies 6 = .ok (.if_icmp .gt 109, 3) := by decide +kernel
theorem dX10_copies_9 : decode cX10_copies 9 = .ok (.iload_n 1, 1) := by decide +kernel
theorem dX10_copies_10 : decode cX10_copies 10 = .ok (.iload 4, 2) := by decide +kernel
theorem dX10_copies_12 : decode cX10_copies 12 = .ok (.invokestatic 86, 3) := by decide +kernel
theorem dX10_copies_15 : decode cX10_copies 15 = .ok (.istore 5, 2) := by decide +kernel
theorem dX10_copies_17 : decode cX10_copies 17 = .ok (.iload_n 2, 1) := by decide +kernel
theorem dX10_copies_18 : decode cX10_copies 18 = .ok (.iload 4, 2) := by decide +kernel
theorem dX10_copies_20 : decode cX10_copies 20 = .ok (.invokestatic 86, 3) := by decide +kernel
theorem dX10_copies_23 : decode cX10_copies 23 = .ok (.istore 6, 2) := by decide +kernel
theorem dX10_copies_25 : decode cX10_copies 25 = .ok (.aload_n 0, 1) := by decide +kernel
theorem dX10_copies_26 : decode cX10_copies 26 = .ok (.getfield 13, 3) := by decide +kernel
theorem dX10_copies_29 : decode cX10_copies 29 = .ok (.iload 6, 2) := by decide +kernel
theorem dX10_copies_31 : decode cX10_copies 31 = .ok (.aload_n 0, 1) := by decide +kernel
theorem dX10_copies_32 : decode cX10_copies 32 = .ok (.getfield 13, 3) := by decide +kernel
theorem dX10_copies_35 : decode cX10_copies 35 = .ok (.iload 5, 2) := by decide +kernel
theorem dX10_copies_37 : decode cX10_copies 37 = .ok (.iaload, 1) := by decide +kernel
theorem dX10_copies_38 : decode cX10_copies 38 = .ok (.iastore, 1) := by decide +kernel
theorem dX10_copies_39 : decode cX10_copies 39 = .ok (.aload_n 0, 1) := by decide +kernel
theorem dX10_copies_40 : decode cX10_copies 40 = .ok (.getfield 16, 3) := by decide +kernel
theorem dX10_copies_43 : decode cX10_copies 43 = .ok (.iload 6, 2) := by decide +kernel
theorem dX10_copies_45 : decode cX10_copies 45 = .ok (.aload_n 0, 1) := by decide +kernel
theorem dX10_copies_46 : decode cX10_copies 46 = .ok (.getfield 16, 3) := by decide +kernel
theorem dX10_copies_49 : decode cX10_copies 49 = .ok (.iload 5, 2) := by decide +kernel
theorem dX10_copies_51 : decode cX10_copies 51 = .ok (.iaload, 1) := by decide +kernel
theorem dX10_copies_52 : decode cX10_copies 52 = .ok (.iastore, 1) := by decide +kernel
theorem dX10_copies_53 : decode cX10_copies 53 = .ok (.aload_n 0, 1) := by decide +kernel
theorem dX10_copies_54 : decode cX10_copies 54 = .ok (.getfield 19, 3) := by decide +kernel
theorem dX10_copies_57 : decode cX10_copies 57 = .ok (.iload 6, 2) := by decide +kernel
theorem dX10_copies_59 : decode cX10_copies 59 = .ok (.aload_n 0, 1) := by decide +kernel
theorem dX10_copies_60 : decode cX10_copies 60 = .ok (.getfield 19, 3) := by decide +kernel
theorem dX10_copies_63 : decode cX10_copies 63 = .ok (.iload 5, 2) := by decide +kernel
theorem dX10_copies_65 : decode cX10_copies 65 = .ok (.iaload, 1) := by decide +kernel
theorem dX10_copies_66 : decode cX10_copies 66 = .ok (.iastore, 1) := by decide +kernel
theorem dX10_copies_67 : decode cX10_copies 67 = .ok (.aload_n 0, 1) := by decide +kernel
theorem dX10_copies_68 : decode cX10_copies 68 = .ok (.getfield 22, 3) := by decide +kernel
theorem dX10_copies_71 : decode cX10_copies 71 = .ok (.iload 6, 2) := by decide +kernel
theorem dX10_copies_73 : decode cX10_copies 73 = .ok (.aload_n 0, 1) := by decide +kernel
theorem dX10_copies_74 : decode cX10_copies 74 = .ok (.getfield 22, 3) := by decide +kernel
theorem dX10_copies_77 : decode cX10_copies 77 = .ok (.iload 5, 2) := by decide +kernel
theorem dX10_copies_79 : decode cX10_copies 79 = .ok (.iaload, 1) := by decide +kernel
theorem dX10_copies_80 : decode cX10_copies 80 = .ok (.iastore, 1) := by decide +kernel
theorem dX10_copies_81 : decode cX10_copies 81 = .ok (.aload_n 0, 1) := by decide +kernel
theorem dX10_copies_82 : decode cX10_copies 82 = .ok (.getfield 25, 3) := by decide +kernel
theorem dX10_copies_85 : decode cX10_copies 85 = .ok (.iload 6, 2) := by decide +kernel
theorem dX10_copies_87 : decode cX10_copies 87 = .ok (.aload_n 0, 1) := by decide +kernel
theorem dX10_copies_88 : decode cX10_copies 88 = .ok (.getfield 25, 3) := by decide +kernel
theorem dX10_copies_91 : decode cX10_copies 91 = .ok (.iload 5, 2) := by decide +kernel
theorem dX10_copies_93 : decode cX10_copies 93 = .ok (.iaload, 1) := by decide +kernel
theorem dX10_copies_94 : decode cX10_copies 94 = .ok (.iastore, 1) := by decide +kernel
theorem dX10_copies_95 : decode cX10_copies 95 = .ok (.aload_n 0, 1) := by decide +kernel
theorem dX10_copies_96 : decode cX10_copies 96 = .ok (.getfield 28, 3) := by decide +kernel
theorem dX10_copies_99 : decode cX10_copies 99 = .ok (.iload 6, 2) := by decide +kernel
theorem dX10_copies_101 : decode cX10_copies 101 = .ok (.aload_n 0, 1) := by decide +kernel
theorem dX10_copies_102 : decode cX10_copies 102 = .ok (.getfield 28, 3) := by decide +kernel
theorem dX10_copies_105 : decode cX10_copies 105 = .ok (.iload 5, 2) := by decide +kernel
theorem dX10_copies_107 : decode cX10_copies 107 = .ok (.iaload, 1) := by decide +kernel
theorem dX10_copies_108 : decode cX10_copies 108 = .ok (.iastore, 1) := by decide +kernel
theorem dX10_copies_109 : decode cX10_copies 109 = .ok (.iinc 4 1, 3) := by decide +kernel
theorem dX10_copies_112 : decode cX10_copies 112 = .ok (.goto (-109), 3) := by decide +kernel
theorem dX10_copies_115 : decode cX10_copies 115 = .ok (.aload_n 0, 1) := by decide +kernel
theorem dX10_copies_116 : decode cX10_copies 116 = .ok (.getfield 7, 3) := by decide +kernel
theorem dX10_copies_119 : decode cX10_copies 119 = .ok (.iload_n 2, 1) := by decide +kernel
theorem dX10_copies_120 : decode cX10_copies 120 = .ok (.iload_n 3, 1) := by decide +kernel
theorem dX10_copies_121 : decode cX10_copies 121 = .ok (.iastore, 1) := by decide +kernel
theorem dX10_copies_122 : decode cX10_copies 122 = .ok (.return_, 1) := by decide +kernel
theorem dX10_seenByAll_0 : decode cX10_seenByAll 0 = .ok (.iconst (-1), 1) := by decide +kernel
theorem dX10_seenByAll_1 : decode cX10_seenByAll 1 = .ok (.istore_n 2, 1) := by decide +kernel
theorem dX10_seenByAll_2 : decode cX10_seenByAll 2 = .ok (.iconst 0, 1) := by decide +kernel
theorem dX10_seenByAll_3 : decode cX10_seenByAll 3 = .ok (.istore_n 3, 1) := by decide +kernel
theorem dX10_seenByAll_4 : decode cX10_seenByAll 4 = .ok (.iload_n 3, 1) := by decide +kernel
theorem dX10_seenByAll_5 : decode cX10_seenByAll 5 = .ok (.aload_n 0, 1) := by decide +kernel
theorem dX10_seenByAll_6 : decode cX10_seenByAll 6 = .ok (.getfield 69, 3) := by decide +kernel
theorem dX10_seenByAll_9 : decode cX10_seenByAll 9 = .ok (.if_icmp .ge 44, 3) := by decide +kernel
theorem dX10_seenByAll_12 : decode cX10_seenByAll 12 = .ok (.iload_n 1, 1) := by decide +kernel
theorem dX10_seenByAll_13 : decode cX10_seenByAll 13 = .ok (.iload_n 3, 1) := by decide +kernel
theorem dX10_seenByAll_14 : decode cX10_seenByAll 14 = .ok (.invokestatic 189, 3) := by decide +kernel
theorem dX10_seenByAll_17 : decode cX10_seenByAll 17 = .ok (.ifCond .ne 6, 3) := by decide +kernel
theorem dX10_seenByAll_20 : decode cX10_seenByAll 20 = .ok (.goto 27, 3) := by decide +kernel
theorem dX10_seenByAll_23 : decode cX10_seenByAll 23 = .ok (.iload_n 2, 1) := by decide +kernel
theorem dX10_seenByAll_24 : decode cX10_seenByAll 24 = .ok (.iconst (-1), 1) := by decide +kernel
theorem dX10_seenByAll_25 : decode cX10_seenByAll 25 = .ok (.if_icmp .eq 15, 3) := by decide +kernel
theorem dX10_seenByAll_28 : decode cX10_seenByAll 28 = .ok (.aload_n 0, 1) := by decide +kernel
theorem dX10_seenByAll_29 : decode cX10_seenByAll 29 = .ok (.getfield 31, 3) := by decide +kernel
theorem dX10_seenByAll_32 : decode cX10_seenByAll 32 = .ok (.iload_n 3, 1) := by decide +kernel
theorem dX10_seenByAll_33 : decode cX10_seenByAll 33 = .ok (.iaload, 1) := by decide +kernel
theorem dX10_seenByAll_34 : decode cX10_seenByAll 34 = .ok (.iload_n 2, 1) := by decide +kernel
theorem dX10_seenByAll_35 : decode cX10_seenByAll 35 = .ok (.if_icmp .eq 5, 3) := by decide +kernel
theorem dX10_seenByAll_38 : decode cX10_seenByAll 38 = .ok (.iconst (-1), 1) := by decide +kernel
theorem dX10_seenByAll_39 : decode cX10_seenByAll 39 = .ok (.ireturn, 1) := by decide +kernel
theorem dX10_seenByAll_40 : decode cX10_seenByAll 40 = .ok (.aload_n 0, 1) := by decide +kernel
theorem dX10_seenByAll_41 : decode cX10_seenByAll 41 = .ok (.getfield 31, 3) := by decide +kernel
theorem dX10_seenByAll_44 : decode cX10_seenByAll 44 = .ok (.iload_n 3, 1) := by decide +kernel
theorem dX10_seenByAll_45 : decode cX10_seenByAll 45 = .ok (.iaload, 1) := by decide +kernel
theorem dX10_seenByAll_46 : decode cX10_seenByAll 46 = .ok (.istore_n 2, 1) := by decide +kernel
theorem dX10_seenByAll_47 : decode cX10_seenByAll 47 = .ok (.iinc 3 1, 3) := by decide +kernel
theorem dX10_seenByAll_50 : decode cX10_seenByAll 50 = .ok (.goto (-46), 3) := by decide +kernel
theorem dX10_seenByAll_53 : decode cX10_seenByAll 53 = .ok (.iload_n 2, 1) := by decide +kernel
theorem dX10_seenByAll_54 : decode cX10_seenByAll 54 = .ok (.ireturn, 1) := by decide +kernel
theorem dX10_fork_0 : decode cX10_fork 0 = .ok (.aload_n 0, 1) := by decide +kernel
theorem dX10_fork_1 : decode cX10_fork 1 = .ok (.iconst 0, 1) := by decide +kernel
theorem dX10_fork_2 : decode cX10_fork 2 = .ok (.putfield 66, 3) := by decide +kernel
theorem dX10_fork_5 : decode cX10_fork 5 = .ok (.iload_n 1, 1) := by decide +kernel
theorem dX10_fork_6 : decode cX10_fork 6 = .ok (.iconst 1, 1) := by decide +kernel
theorem dX10_fork_7 : decode cX10_fork 7 = .ok (.if_icmp .lt 13, 3) := by decide +kernel
theorem dX10_fork_10 : decode cX10_fork 10 = .ok (.iload_n 1, 1) := by decide +kernel
theorem dX10_fork_11 : decode cX10_fork 11 = .ok (.iconst 1, 1) := by decide +kernel
theorem dX10_fork_12 : decode cX10_fork 12 = .ok (.aload_n 0, 1) := by decide +kernel
theorem dX10_fork_13 : decode cX10_fork 13 = .ok (.getfield 69, 3) := by decide +kernel
theorem dX10_fork_16 : decode cX10_fork 16 = .ok (.ishl, 1) := by decide +kernel
theorem dX10_fork_17 : decode cX10_fork 17 = .ok (.if_icmp .lt 9, 3) := by decide +kernel
theorem dX10_fork_20 : decode cX10_fork 20 = .ok (.aload_n 0, 1) := by decide +kernel
theorem dX10_fork_21 : decode cX10_fork 21 = .ok (.iconst 1, 1) := by decide +kernel
theorem dX10_fork_22 : decode cX10_fork 22 = .ok (.invokevirtual 171, 3) := by decide +kernel
theorem dX10_fork_25 : decode cX10_fork 25 = .ok (.ireturn, 1) := by decide +kernel
theorem dX10_fork_26 : decode cX10_fork 26 = .ok (.aload_n 0, 1) := by decide +kernel
theorem dX10_fork_27 : decode cX10_fork 27 = .ok (.iload_n 1, 1) := by decide +kernel
theorem dX10_fork_28 : decode cX10_fork 28 = .ok (.invokevirtual 192, 3) := by decide +kernel
theorem dX10_fork_31 : decode cX10_fork 31 = .ok (.istore_n 2, 1) := by decide +kernel
theorem dX10_fork_32 : decode cX10_fork 32 = .ok (.iload_n 2, 1) := by decide +kernel
theorem dX10_fork_33 : decode cX10_fork 33 = .ok (.iconst (-1), 1) := by decide +kernel
theorem dX10_fork_34 : decode cX10_fork 34 = .ok (.if_icmp .eq 12, 3) := by decide +kernel
theorem dX10_fork_37 : decode cX10_fork 37 = .ok (.aload_n 0, 1) := by decide +kernel
theorem dX10_fork_38 : decode cX10_fork 38 = .ok (.getfield 79, 3) := by decide +kernel
theorem dX10_fork_41 : decode cX10_fork 41 = .ok (.bipush 8, 2) := by decide +kernel
theorem dX10_fork_43 : decode cX10_fork 43 = .ok (.if_icmp .ne 9, 3) := by decide +kernel
theorem dX10_fork_46 : decode cX10_fork 46 = .ok (.aload_n 0, 1) := by decide +kernel
theorem dX10_fork_47 : decode cX10_fork 47 = .ok (.iconst 2, 1) := by decide +kernel
theorem dX10_fork_48 : decode cX10_fork 48 = .ok (.invokevirtual 171, 3) := by decide +kernel
theorem dX10_fork_51 : decode cX10_fork 51 = .ok (.ireturn, 1) := by decide +kernel
theorem dX10_fork_52 : decode cX10_fork 52 = .ok (.aload_n 0, 1) := by decide +kernel
theorem dX10_fork_53 : decode cX10_fork 53 = .ok (.iload_n 2, 1) := by decide +kernel
theorem dX10_fork_54 : decode cX10_fork 54 = .ok (.aload_n 0, 1) := by decide +kernel
theorem dX10_fork_55 : decode cX10_fork 55 = .ok (.getfield 79, 3) := by decide +kernel
theorem dX10_fork_58 : decode cX10_fork 58 = .ok (.aload_n 0, 1) := by decide +kernel
theorem dX10_fork_59 : decode cX10_fork 59 = .ok (.getfield 7, 3) := by decide +kernel
theorem dX10_fork_62 : decode cX10_fork 62 = .ok (.iload_n 2, 1) := by decide +kernel
theorem dX10_fork_63 : decode cX10_fork 63 = .ok (.iaload, 1) := by decide +kernel
theorem dX10_fork_64 : decode cX10_fork 64 = .ok (.invokevirtual 195, 3) := by decide +kernel
theorem dX10_fork_67 : decode cX10_fork 67 = .ok (.iconst 0, 1) := by decide +kernel
theorem dX10_fork_68 : decode cX10_fork 68 = .ok (.istore_n 3, 1) := by decide +kernel
theorem dX10_fork_69 : decode cX10_fork 69 = .ok (.iload_n 3, 1) := by decide +kernel
theorem dX10_fork_70 : decode cX10_fork 70 = .ok (.aload_n 0, 1) := by decide +kernel
theorem dX10_fork_71 : decode cX10_fork 71 = .ok (.getfield 69, 3) := by decide +kernel
theorem dX10_fork_74 : decode cX10_fork 74 = .ok (.if_icmp .ge 36, 3) := by decide +kernel
theorem dX10_fork_77 : decode cX10_fork 77 = .ok (.aload_n 0, 1) := by decide +kernel
theorem dX10_fork_78 : decode cX10_fork 78 = .ok (.getfield 31, 3) := by decide +kernel
theorem dX10_fork_81 : decode cX10_fork 81 = .ok (.iload_n 3, 1) := by decide +kernel
theorem dX10_fork_82 : decode cX10_fork 82 = .ok (.iload_n 1, 1) := by decide +kernel
theorem dX10_fork_83 : decode cX10_fork 83 = .ok (.iload_n 3, 1) := by decide +kernel
theorem dX10_fork_84 : decode cX10_fork 84 = .ok (.invokestatic 189, 3) := by decide +kernel
theorem dX10_fork_87 : decode cX10_fork 87 = .ok (.ifCond .eq 10, 3) := by decide +kernel
theorem dX10_fork_90 : decode cX10_fork 90 = .ok (.aload_n 0, 1) := by decide +kernel
theorem dX10_fork_91 : decode cX10_fork 91 = .ok (.getfield 79, 3) := by decide +kernel
theorem dX10_fork_94 : decode cX10_fork 94 = .ok (.goto 9, 3) := by decide +kernel
theorem dX10_fork_97 : decode cX10_fork 97 = .ok (.aload_n 0, 1) := by decide +kernel
theorem dX10_fork_98 : decode cX10_fork 98 = .ok (.getfield 31, 3) := by decide +kernel
theorem dX10_fork_101 : decode cX10_fork 101 = .ok (.iload_n 3, 1) := by decide +kernel
theorem dX10_fork_102 : decode cX10_fork 102 = .ok (.iaload, 1) := by decide +kernel
theorem dX10_fork_103 : decode cX10_fork 103 = .ok (.iastore, 1) := by decide +kernel
theorem dX10_fork_104 : decode cX10_fork 104 = .ok (.iinc 3 1, 3) := by decide +kernel
theorem dX10_fork_107 : decode cX10_fork 107 = .ok (.goto (-38), 3) := by decide +kernel
theorem dX10_fork_110 : decode cX10_fork 110 = .ok (.aload_n 0, 1) := by decide +kernel
theorem dX10_fork_111 : decode cX10_fork 111 = .ok (.aload_n 0, 1) := by decide +kernel
theorem dX10_fork_112 : decode cX10_fork 112 = .ok (.getfield 79, 3) := by decide +kernel
theorem dX10_fork_115 : decode cX10_fork 115 = .ok (.iconst 1, 1) := by decide +kernel
theorem dX10_fork_116 : decode cX10_fork 116 = .ok (.iadd, 1) := by decide +kernel
theorem dX10_fork_117 : decode cX10_fork 117 = .ok (.putfield 79, 3) := by decide +kernel
theorem dX10_fork_120 : decode cX10_fork 120 = .ok (.aload_n 0, 1) := by decide +kernel
theorem dX10_fork_121 : decode cX10_fork 121 = .ok (.getfield 79, 3) := by decide +kernel
theorem dX10_fork_124 : decode cX10_fork 124 = .ok (.iconst 1, 1) := by decide +kernel
theorem dX10_fork_125 : decode cX10_fork 125 = .ok (.isub, 1) := by decide +kernel
theorem dX10_fork_126 : decode cX10_fork 126 = .ok (.ireturn, 1) := by decide +kernel
theorem dX10_move_0 : decode cX10_move 0 = .ok (.aload_n 0, 1) := by decide +kernel
theorem dX10_move_1 : decode cX10_move 1 = .ok (.iconst 0, 1) := by decide +kernel
theorem dX10_move_2 : decode cX10_move 2 = .ok (.putfield 66, 3) := by decide +kernel
theorem dX10_move_5 : decode cX10_move 5 = .ok (.aload_n 0, 1) := by decide +kernel
theorem dX10_move_6 : decode cX10_move 6 = .ok (.iload_n 1, 1) := by decide +kernel
theorem dX10_move_7 : decode cX10_move 7 = .ok (.invokevirtual 165, 3) := by decide +kernel
theorem dX10_move_10 : decode cX10_move 10 = .ok (.ifCond .eq 11, 3) := by decide +kernel
theorem dX10_move_13 : decode cX10_move 13 = .ok (.aload_n 0, 1) := by decide +kernel
theorem dX10_move_14 : decode cX10_move 14 = .ok (.iload_n 2, 1) := by decide +kernel
theorem dX10_move_15 : decode cX10_move 15 = .ok (.invokevirtual 82, 3) := by decide +kernel
theorem dX10_move_18 : decode cX10_move 18 = .ok (.ifCond .ne 9, 3) := by decide +kernel
theorem dX10_move_21 : decode cX10_move 21 = .ok (.aload_n 0, 1) := by decide +kernel
theorem dX10_move_22 : decode cX10_move 22 = .ok (.iconst 1, 1) := by decide +kernel
theorem dX10_move_23 : decode cX10_move 23 = .ok (.invokevirtual 171, 3) := by decide +kernel
theorem dX10_move_26 : decode cX10_move 26 = .ok (.ireturn, 1) := by decide +kernel
theorem dX10_move_27 : decode cX10_move 27 = .ok (.aload_n 0, 1) := by decide +kernel
theorem dX10_move_28 : decode cX10_move 28 = .ok (.getfield 31, 3) := by decide +kernel
theorem dX10_move_31 : decode cX10_move 31 = .ok (.iload_n 1, 1) := by decide +kernel
theorem dX10_move_32 : decode cX10_move 32 = .ok (.iaload, 1) := by decide +kernel
theorem dX10_move_33 : decode cX10_move 33 = .ok (.istore_n 3, 1) := by decide +kernel
theorem dX10_move_34 : decode cX10_move 34 = .ok (.aload_n 0, 1) := by decide +kernel
theorem dX10_move_35 : decode cX10_move 35 = .ok (.getfield 31, 3) := by decide +kernel
theorem dX10_move_38 : decode cX10_move 38 = .ok (.iload_n 1, 1) := by decide +kernel
theorem dX10_move_39 : decode cX10_move 39 = .ok (.iload_n 2, 1) := by decide +kernel
theorem dX10_move_40 : decode cX10_move 40 = .ok (.iastore, 1) := by decide +kernel
theorem dX10_move_41 : decode cX10_move 41 = .ok (.iload_n 3, 1) := by decide +kernel
theorem dX10_move_42 : decode cX10_move 42 = .ok (.ireturn, 1) := by decide +kernel
theorem dX10_rewind_0 : decode cX10_rewind 0 = .ok (.aload_n 0, 1) := by decide +kernel
theorem dX10_rewind_1 : decode cX10_rewind 1 = .ok (.iconst 0, 1) := by decide +kernel
theorem dX10_rewind_2 : decode cX10_rewind 2 = .ok (.putfield 66, 3) := by decide +kernel
theorem dX10_rewind_5 : decode cX10_rewind 5 = .ok (.aload_n 0, 1) := by decide +kernel
theorem dX10_rewind_6 : decode cX10_rewind 6 = .ok (.iload_n 1, 1) := by decide +kernel
theorem dX10_rewind_7 : decode cX10_rewind 7 = .ok (.invokevirtual 82, 3) := by decide +kernel
theorem dX10_rewind_10 : decode cX10_rewind 10 = .ok (.ifCond .ne 9, 3) := by decide +kernel
theorem dX10_rewind_13 : decode cX10_rewind 13 = .ok (.aload_n 0, 1) := by decide +kernel
theorem dX10_rewind_14 : decode cX10_rewind 14 = .ok (.iconst 1, 1) := by decide +kernel
theorem dX10_rewind_15 : decode cX10_rewind 15 = .ok (.invokevirtual 171, 3) := by decide +kernel
theorem dX10_rewind_18 : decode cX10_rewind 18 = .ok (.ireturn, 1) := by decide +kernel
theorem dX10_rewind_19 : decode cX10_rewind 19 = .ok (.iload_n 2, 1) := by decide +kernel
theorem dX10_rewind_20 : decode cX10_rewind 20 = .ok (.iconst 1, 1) := by decide +kernel
theorem dX10_rewind_21 : decode cX10_rewind 21 = .ok (.aload_n 0, 1) := by decide +kernel
theorem dX10_rewind_22 : decode cX10_rewind 22 = .ok (.getfield 7, 3) := by decide +kernel
theorem dX10_rewind_25 : decode cX10_rewind 25 = .ok (.iload_n 1, 1) := by decide +kernel
theorem dX10_rewind_26 : decode cX10_rewind 26 = .ok (.iaload, 1) := by decide +kernel
theorem dX10_rewind_27 : decode cX10_rewind 27 = .ok (.invokestatic 72, 3) := by decide +kernel
theorem dX10_rewind_30 : decode cX10_rewind 30 = .ok (.ifCond .ne 9, 3) := by decide +kernel
theorem dX10_rewind_33 : decode cX10_rewind 33 = .ok (.aload_n 0, 1) := by decide +kernel
theorem dX10_rewind_34 : decode cX10_rewind 34 = .ok (.iconst 2, 1) := by decide +kernel
theorem dX10_rewind_35 : decode cX10_rewind 35 = .ok (.invokevirtual 171, 3) := by decide +kernel
theorem dX10_rewind_38 : decode cX10_rewind 38 = .ok (.ireturn, 1) := by decide +kernel
theorem dX10_rewind_39 : decode cX10_rewind 39 = .ok (.aload_n 0, 1) := by decide +kernel
theorem dX10_rewind_40 : decode cX10_rewind 40 = .ok (.getfield 7, 3) := by decide +kernel
theorem dX10_rewind_43 : decode cX10_rewind 43 = .ok (.iload_n 1, 1) := by decide +kernel
theorem dX10_rewind_44 : decode cX10_rewind 44 = .ok (.aload_n 0, 1) := by decide +kernel
theorem dX10_rewind_45 : decode cX10_rewind 45 = .ok (.getfield 7, 3) := by decide +kernel
theorem dX10_rewind_48 : decode cX10_rewind 48 = .ok (.iload_n 1, 1) := by decide +kernel
theorem dX10_rewind_49 : decode cX10_rewind 49 = .ok (.iaload, 1) := by decide +kernel
theorem dX10_rewind_50 : decode cX10_rewind 50 = .ok (.iload_n 2, 1) := by decide +kernel
theorem dX10_rewind_51 : decode cX10_rewind 51 = .ok (.isub, 1) := by decide +kernel
theorem dX10_rewind_52 : decode cX10_rewind 52 = .ok (.iastore, 1) := by decide +kernel
theorem dX10_rewind_53 : decode cX10_rewind 53 = .ok (.aload_n 0, 1) := by decide +kernel
theorem dX10_rewind_54 : decode cX10_rewind 54 = .ok (.getfield 7, 3) := by decide +kernel
theorem dX10_rewind_57 : decode cX10_rewind 57 = .ok (.iload_n 1, 1) := by decide +kernel
theorem dX10_rewind_58 : decode cX10_rewind 58 = .ok (.iaload, 1) := by decide +kernel
theorem dX10_rewind_59 : decode cX10_rewind 59 = .ok (.ireturn, 1) := by decide +kernel
theorem dX10_corrupt_0 : decode cX10_corrupt 0 = .ok (.aload_n 0, 1) := by decide +kernel
theorem dX10_corrupt_1 : decode cX10_corrupt 1 = .ok (.iconst 0, 1) := by decide +kernel
theorem dX10_corrupt_2 : decode cX10_corrupt 2 = .ok (.putfield 66, 3) := by decide +kernel
theorem dX10_corrupt_5 : decode cX10_corrupt 5 = .ok (.aload_n 0, 1) := by decide +kernel
theorem dX10_corrupt_6 : decode cX10_corrupt 6 = .ok (.iload_n 1, 1) := by decide +kernel
theorem dX10_corrupt_7 : decode cX10_corrupt 7 = .ok (.iload_n 2, 1) := by decide +kernel
theorem dX10_corrupt_8 : decode cX10_corrupt 8 = .ok (.invokevirtual 199, 3) := by decide +kernel
theorem dX10_corrupt_11 : decode cX10_corrupt 11 = .ok (.ifCond .ne 9, 3) := by decide +kernel
theorem dX10_corrupt_14 : decode cX10_corrupt 14 = .ok (.aload_n 0, 1) := by decide +kernel
theorem dX10_corrupt_15 : decode cX10_corrupt 15 = .ok (.iconst 1, 1) := by decide +kernel
theorem dX10_corrupt_16 : decode cX10_corrupt 16 = .ok (.invokevirtual 171, 3) := by decide +kernel
theorem dX10_corrupt_19 : decode cX10_corrupt 19 = .ok (.ireturn, 1) := by decide +kernel
theorem dX10_corrupt_20 : decode cX10_corrupt 20 = .ok (.iload_n 3, 1) := by decide +kernel
theorem dX10_corrupt_21 : decode cX10_corrupt 21 = .ok (.iconst 0, 1) := by decide +kernel
theorem dX10_corrupt_22 : decode cX10_corrupt 22 = .ok (.ldc 174, 2) := by decide +kernel
theorem dX10_corrupt_24 : decode cX10_corrupt 24 = .ok (.invokestatic 72, 3) := by decide +kernel
theorem dX10_corrupt_27 : decode cX10_corrupt 27 = .ok (.ifCond .ne 9, 3) := by decide +kernel
theorem dX10_corrupt_30 : decode cX10_corrupt 30 = .ok (.aload_n 0, 1) := by decide +kernel
theorem dX10_corrupt_31 : decode cX10_corrupt 31 = .ok (.iconst 2, 1) := by decide +kernel
theorem dX10_corrupt_32 : decode cX10_corrupt 32 = .ok (.invokevirtual 171, 3) := by decide +kernel
theorem dX10_corrupt_35 : decode cX10_corrupt 35 = .ok (.ireturn, 1) := by decide +kernel
theorem dX10_corrupt_36 : decode cX10_corrupt 36 = .ok (.iload_n 1, 1) := by decide +kernel
theorem dX10_corrupt_37 : decode cX10_corrupt 37 = .ok (.iload_n 2, 1) := by decide +kernel
theorem dX10_corrupt_38 : decode cX10_corrupt 38 = .ok (.invokestatic 86, 3) := by decide +kernel
theorem dX10_corrupt_41 : decode cX10_corrupt 41 = .ok (.istore 4, 2) := by decide +kernel
theorem dX10_corrupt_43 : decode cX10_corrupt 43 = .ok (.aload_n 0, 1) := by decide +kernel
theorem dX10_corrupt_44 : decode cX10_corrupt 44 = .ok (.getfield 13, 3) := by decide +kernel
theorem dX10_corrupt_47 : decode cX10_corrupt 47 = .ok (.iload 4, 2) := by decide +kernel
theorem dX10_corrupt_49 : decode cX10_corrupt 49 = .ok (.iaload, 1) := by decide +kernel
theorem dX10_corrupt_50 : decode cX10_corrupt 50 = .ok (.iconst 1, 1) := by decide +kernel
theorem dX10_corrupt_51 : decode cX10_corrupt 51 = .ok (.if_icmp .eq 9, 3) := by decide +kernel
theorem dX10_corrupt_54 : decode cX10_corrupt 54 = .ok (.aload_n 0, 1) := by decide +kernel
theorem dX10_corrupt_55 : decode cX10_corrupt 55 = .ok (.iconst 3, 1) := by decide +kernel
theorem dX10_corrupt_56 : decode cX10_corrupt 56 = .ok (.invokevirtual 171, 3) := by decide +kernel
theorem dX10_corrupt_59 : decode cX10_corrupt 59 = .ok (.ireturn, 1) := by decide +kernel
theorem dX10_corrupt_60 : decode cX10_corrupt 60 = .ok (.aload_n 0, 1) := by decide +kernel
theorem dX10_corrupt_61 : decode cX10_corrupt 61 = .ok (.getfield 22, 3) := by decide +kernel
theorem dX10_corrupt_64 : decode cX10_corrupt 64 = .ok (.iload 4, 2) := by decide +kernel
theorem dX10_corrupt_66 : decode cX10_corrupt 66 = .ok (.iaload, 1) := by decide +kernel
theorem dX10_corrupt_67 : decode cX10_corrupt 67 = .ok (.istore 5, 2) := by decide +kernel
theorem dX10_corrupt_69 : decode cX10_corrupt 69 = .ok (.aload_n 0, 1) := by decide +kernel
theorem dX10_corrupt_70 : decode cX10_corrupt 70 = .ok (.getfield 22, 3) := by decide +kernel
theorem dX10_corrupt_73 : decode cX10_corrupt 73 = .ok (.iload 4, 2) := by decide +kernel
theorem dX10_corrupt_75 : decode cX10_corrupt 75 = .ok (.iload_n 3, 1) := by decide +kernel
theorem dX10_corrupt_76 : decode cX10_corrupt 76 = .ok (.iastore, 1) := by decide +kernel
theorem dX10_corrupt_77 : decode cX10_corrupt 77 = .ok (.iload 5, 2) := by decide +kernel
theorem dX10_corrupt_79 : decode cX10_corrupt 79 = .ok (.ireturn, 1) := by decide +kernel
theorem dX10_common_0 : decode cX10_common 0 = .ok (.iconst 0, 1) := by decide +kernel
theorem dX10_common_1 : decode cX10_common 1 = .ok (.istore_n 3, 1) := by decide +kernel
theorem dX10_common_2 : decode cX10_common 2 = .ok (.iload_n 3, 1) := by decide +kernel
theorem dX10_common_3 : decode cX10_common 3 = .ok (.aload_n 0, 1) := by decide +kernel
theorem dX10_common_4 : decode cX10_common 4 = .ok (.getfield 7, 3) := by decide +kernel
theorem dX10_common_7 : decode cX10_common 7 = .ok (.iload_n 1, 1) := by decide +kernel
theorem dX10_common_8 : decode cX10_common 8 = .ok (.iaload, 1) := by decide +kernel
theorem dX10_common_9 : decode cX10_common 9 = .ok (.if_icmp .ge 39, 3) := by decide +kernel
theorem dX10_common_12 : decode cX10_common 12 = .ok (.iload_n 3, 1) := by decide +kernel
theorem dX10_common_13 : decode cX10_common 13 = .ok (.aload_n 0, 1) := by decide +kernel
theorem dX10_common_14 : decode cX10_common 14 = .ok (.getfield 7, 3) := by decide +kernel
theorem dX10_common_17 : decode cX10_common 17 = .ok (.iload_n 2, 1) := by decide +kernel
theorem dX10_common_18 : decode cX10_common 18 = .ok (.iaload, 1) := by decide +kernel
theorem dX10_common_19 : decode cX10_common 19 = .ok (.if_icmp .ge 29, 3) := by decide +kernel
theorem dX10_common_22 : decode cX10_common 22 = .ok (.aload_n 0, 1) := by decide +kernel
theorem dX10_common_23 : decode cX10_common 23 = .ok (.iload_n 1, 1) := by decide +kernel
theorem dX10_common_24 : decode cX10_common 24 = .ok (.iload_n 3, 1) := by decide +kernel
theorem dX10_common_25 : decode cX10_common 25 = .ok (.iconst 1, 1) := by decide +kernel
theorem dX10_common_26 : decode cX10_common 26 = .ok (.iadd, 1) := by decide +kernel
theorem dX10_common_27 : decode cX10_common 27 = .ok (.invokevirtual 95, 3) := by decide +kernel
theorem dX10_common_30 : decode cX10_common 30 = .ok (.aload_n 0, 1) := by decide +kernel
theorem dX10_common_31 : decode cX10_common 31 = .ok (.iload_n 2, 1) := by decide +kernel
theorem dX10_common_32 : decode cX10_common 32 = .ok (.iload_n 3, 1) := by decide +kernel
theorem dX10_common_33 : decode cX10_common 33 = .ok (.iconst 1, 1) := by decide +kernel
theorem dX10_common_34 : decode cX10_common 34 = .ok (.iadd, 1) := by decide +kernel
theorem dX10_common_35 : decode cX10_common 35 = .ok (.invokevirtual 95, 3) := by decide +kernel
theorem dX10_common_38 : decode cX10_common 38 = .ok (.if_icmp .ne 10, 3) := by decide +kernel
theorem dX10_common_41 : decode cX10_common 41 = .ok (.iload_n 3, 1) := by decide +kernel
theorem dX10_common_42 : decode cX10_common 42 = .ok (.iconst 1, 1) := by decide +kernel
theorem dX10_common_43 : decode cX10_common 43 = .ok (.iadd, 1) := by decide +kernel
theorem dX10_common_44 : decode cX10_common 44 = .ok (.istore_n 3, 1) := by decide +kernel
theorem dX10_common_45 : decode cX10_common 45 = .ok (.goto (-43), 3) := by decide +kernel
theorem dX10_common_48 : decode cX10_common 48 = .ok (.iload_n 3, 1) := by decide +kernel
theorem dX10_common_49 : decode cX10_common 49 = .ok (.ireturn, 1) := by decide +kernel
theorem dX10_touched_0 : decode cX10_touched 0 = .ok (.iconst 0, 1) := by decide +kernel
theorem dX10_touched_1 : decode cX10_touched 1 = .ok (.istore 4, 2) := by decide +kernel
theorem dX10_touched_3 : decode cX10_touched 3 = .ok (.iload_n 2, 1) := by decide +kernel
theorem dX10_touched_4 : decode cX10_touched 4 = .ok (.iconst 1, 1) := by decide +kernel
theorem dX10_touched_5 : decode cX10_touched 5 = .ok (.iadd, 1) := by decide +kernel
theorem dX10_touched_6 : decode cX10_touched 6 = .ok (.istore 5, 2) := by decide +kernel
theorem dX10_touched_8 : decode cX10_touched 8 = .ok (.iload 5, 2) := by decide +kernel
theorem dX10_touched_10 : decode cX10_touched 10 = .ok (.aload_n 0, 1) := by decide +kernel
theorem dX10_touched_11 : decode cX10_touched 11 = .ok (.getfield 7, 3) := by decide +kernel
theorem dX10_touched_14 : decode cX10_touched 14 = .ok (.iload_n 1, 1) := by decide +kernel
theorem dX10_touched_15 : decode cX10_touched 15 = .ok (.iaload, 1) := by decide +kernel
theorem dX10_touched_16 : decode cX10_touched 16 = .ok (.if_icmp .gt 73, 3) := by decide +kernel
theorem dX10_touched_19 : decode cX10_touched 19 = .ok (.iload_n 1, 1) := by decide +kernel
theorem dX10_touched_20 : decode cX10_touched 20 = .ok (.iload 5, 2) := by decide +kernel
theorem dX10_touched_22 : decode cX10_touched 22 = .ok (.invokestatic 86, 3) := by decide +kernel
theorem dX10_touched_25 : decode cX10_touched 25 = .ok (.istore 6, 2) := by decide +kernel
theorem dX10_touched_27 : decode cX10_touched 27 = .ok (.aload_n 0, 1) := by decide +kernel
theorem dX10_touched_28 : decode cX10_touched 28 = .ok (.getfield 13, 3) := by decide +kernel
theorem dX10_touched_31 : decode cX10_touched 31 = .ok (.iload 6, 2) := by decide +kernel
theorem dX10_touched_33 : decode cX10_touched 33 = .ok (.iaload, 1) := by decide +kernel
theorem dX10_touched_34 : decode cX10_touched 34 = .ok (.iconst 1, 1) := by decide +kernel
theorem dX10_touched_35 : decode cX10_touched 35 = .ok (.if_icmp .eq 17, 3) := by decide +kernel
theorem dX10_touched_38 : decode cX10_touched 38 = .ok (.aload_n 0, 1) := by decide +kernel
theorem dX10_touched_39 : decode cX10_touched 39 = .ok (.getfield 13, 3) := by decide +kernel
theorem dX10_touched_42 : decode cX10_touched 42 = .ok (.iload 6, 2) := by decide +kernel
theorem dX10_touched_44 : decode cX10_touched 44 = .ok (.iaload, 1) := by decide +kernel
theorem dX10_touched_45 : decode cX10_touched 45 = .ok (.ifCond .ne 11, 3) := by decide +kernel
theorem dX10_touched_48 : decode cX10_touched 48 = .ok (.iload_n 3, 1) := by decide +kernel
theorem dX10_touched_49 : decode cX10_touched 49 = .ok (.ifCond .ne 7, 3) := by decide +kernel
theorem dX10_touched_52 : decode cX10_touched 52 = .ok (.iconst 1, 1) := by decide +kernel
theorem dX10_touched_53 : decode cX10_touched 53 = .ok (.goto 4, 3) := by decide +kernel
theorem dX10_touched_56 : decode cX10_touched 56 = .ok (.iconst 0, 1) := by decide +kernel
theorem dX10_touched_57 : decode cX10_touched 57 = .ok (.istore 7, 2) := by decide +kernel
theorem dX10_touched_59 : decode cX10_touched 59 = .ok (.iload 7, 2) := by decide +kernel
theorem dX10_touched_61 : decode cX10_touched 61 = .ok (.ifCond .eq 18, 3) := by decide +kernel
theorem dX10_touched_64 : decode cX10_touched 64 = .ok (.iload 4, 2) := by decide +kernel
theorem dX10_touched_66 : decode cX10_touched 66 = .ok (.iconst 1, 1) := by decide +kernel
theorem dX10_touched_67 : decode cX10_touched 67 = .ok (.aload_n 0, 1) := by decide +kernel
theorem dX10_touched_68 : decode cX10_touched 68 = .ok (.getfield 19, 3) := by decide +kernel
theorem dX10_touched_71 : decode cX10_touched 71 = .ok (.iload 6, 2) := by decide +kernel
theorem dX10_touched_73 : decode cX10_touched 73 = .ok (.iaload, 1) := by decide +kernel
theorem dX10_touched_74 : decode cX10_touched 74 = .ok (.ishl, 1) := by decide +kernel
theorem dX10_touched_75 : decode cX10_touched 75 = .ok (.ior, 1) := by decide +kernel
theorem dX10_touched_76 : decode cX10_touched 76 = .ok (.goto 5, 3) := by decide +kernel
theorem dX10_touched_79 : decode cX10_touched 79 = .ok (.iload 4, 2) := by decide +kernel
theorem dX10_touched_81 : decode cX10_touched 81 = .ok (.istore 4, 2) := by decide +kernel
theorem dX10_touched_83 : decode cX10_touched 83 = .ok (.iinc 5 1, 3) := by decide +kernel
theorem dX10_touched_86 : decode cX10_touched 86 = .ok (.goto (-78), 3) := by decide +kernel
theorem dX10_touched_89 : decode cX10_touched 89 = .ok (.iload 4, 2) := by decide +kernel
theorem dX10_touched_91 : decode cX10_touched 91 = .ok (.ireturn, 1) := by decide +kernel
theorem dX10_conflictsOf_0 : decode cX10_conflictsOf 0 = .ok (.aload_n 0, 1) := by decide +kernel
theorem dX10_conflictsOf_1 : decode cX10_conflictsOf 1 = .ok (.iload_n 1, 1) := by decide +kernel
theorem dX10_conflictsOf_2 : decode cX10_conflictsOf 2 = .ok (.iload_n 2, 1) := by decide +kernel
theorem dX10_conflictsOf_3 : decode cX10_conflictsOf 3 = .ok (.invokevirtual 202, 3) := by decide +kernel
theorem dX10_conflictsOf_6 : decode cX10_conflictsOf 6 = .ok (.istore_n 3, 1) := by decide +kernel
theorem dX10_conflictsOf_7 : decode cX10_conflictsOf 7 = .ok (.aload_n 0, 1) := by decide +kernel
theorem dX10_conflictsOf_8 : decode cX10_conflictsOf 8 = .ok (.iload_n 1, 1) := by decide +kernel
theorem dX10_conflictsOf_9 : decode cX10_conflictsOf 9 = .ok (.iload_n 3, 1) := by decide +kernel
theorem dX10_conflictsOf_10 : decode cX10_conflictsOf 10 = .ok (.iconst 1, 1) := by decide +kernel
theorem dX10_conflictsOf_11 : decode cX10_conflictsOf 11 = .ok (.invokevirtual 205, 3) := by decide +kernel
theorem dX10_conflictsOf_14 : decode cX10_conflictsOf 14 = .ok (.aload_n 0, 1) := by decide +kernel
theorem dX10_conflictsOf_15 : decode cX10_conflictsOf 15 = .ok (.iload_n 2, 1) := by decide +kernel
theorem dX10_conflictsOf_16 : decode cX10_conflictsOf 16 = .ok (.iload_n 3, 1) := by decide +kernel
theorem dX10_conflictsOf_17 : decode cX10_conflictsOf 17 = .ok (.iconst 0, 1) := by decide +kernel
theorem dX10_conflictsOf_18 : decode cX10_conflictsOf 18 = .ok (.invokevirtual 205, 3) := by decide +kernel
theorem dX10_conflictsOf_21 : decode cX10_conflictsOf 21 = .ok (.iand, 1) := by decide +kernel
theorem dX10_conflictsOf_22 : decode cX10_conflictsOf 22 = .ok (.aload_n 0, 1) := by decide +kernel
theorem dX10_conflictsOf_23 : decode cX10_conflictsOf 23 = .ok (.iload_n 2, 1) := by decide +kernel
theorem dX10_conflictsOf_24 : decode cX10_conflictsOf 24 = .ok (.iload_n 3, 1) := by decide +kernel
theorem dX10_conflictsOf_25 : decode cX10_conflictsOf 25 = .ok (.iconst 1, 1) := by decide +kernel
theorem dX10_conflictsOf_26 : decode cX10_conflictsOf 26 = .ok (.invokevirtual 205, 3) := by decide +kernel
theorem dX10_conflictsOf_29 : decode cX10_conflictsOf 29 = .ok (.aload_n 0, 1) := by decide +kernel
theorem dX10_conflictsOf_30 : decode cX10_conflictsOf 30 = .ok (.iload_n 1, 1) := by decide +kernel
theorem dX10_conflictsOf_31 : decode cX10_conflictsOf 31 = .ok (.iload_n 3, 1) := by decide +kernel
theorem dX10_conflictsOf_32 : decode cX10_conflictsOf 32 = .ok (.iconst 0, 1) := by decide +kernel
theorem dX10_conflictsOf_33 : decode cX10_conflictsOf 33 = .ok (.invokevirtual 205, 3) := by decide +kernel
theorem dX10_conflictsOf_36 : decode cX10_conflictsOf 36 = .ok (.iand, 1) := by decide +kernel
theorem dX10_conflictsOf_37 : decode cX10_conflictsOf 37 = .ok (.ior, 1) := by decide +kernel
theorem dX10_conflictsOf_38 : decode cX10_conflictsOf 38 = .ok (.ireturn, 1) := by decide +kernel
theorem dX10_goesWith_0 : decode cX10_goesWith 0 = .ok (.aload_n 0, 1) := by decide +kernel
theorem dX10_goesWith_1 : decode cX10_goesWith 1 = .ok (.getfield 31, 3) := by decide +kernel
theorem dX10_goesWith_4 : decode cX10_goesWith 4 = .ok (.iload_n 1, 1) := by decide +kernel
theorem dX10_goesWith_5 : decode cX10_goesWith 5 = .ok (.iaload, 1) := by decide +kernel
theorem dX10_goesWith_6 : decode cX10_goesWith 6 = .ok (.istore_n 2, 1) := by decide +kernel
theorem dX10_goesWith_7 : decode cX10_goesWith 7 = .ok (.aload_n 0, 1) := by decide +kernel
theorem dX10_goesWith_8 : decode cX10_goesWith 8 = .ok (.getfield 34, 3) := by decide +kernel
theorem dX10_goesWith_11 : decode cX10_goesWith 11 = .ok (.iload_n 1, 1) := by decide +kernel
theorem dX10_goesWith_12 : decode cX10_goesWith 12 = .ok (.iaload, 1) := by decide +kernel
theorem dX10_goesWith_13 : decode cX10_goesWith 13 = .ok (.istore_n 3, 1) := by decide +kernel
theorem dX10_goesWith_14 : decode cX10_goesWith 14 = .ok (.aload_n 0, 1) := by decide +kernel
theorem dX10_goesWith_15 : decode cX10_goesWith 15 = .ok (.getfield 7, 3) := by decide +kernel
theorem dX10_goesWith_18 : decode cX10_goesWith 18 = .ok (.iload_n 2, 1) := by decide +kernel
theorem dX10_goesWith_19 : decode cX10_goesWith 19 = .ok (.iaload, 1) := by decide +kernel
theorem dX10_goesWith_20 : decode cX10_goesWith 20 = .ok (.iload_n 3, 1) := by decide +kernel
theorem dX10_goesWith_21 : decode cX10_goesWith 21 = .ok (.if_icmp .lt 21, 3) := by decide +kernel
theorem dX10_goesWith_24 : decode cX10_goesWith 24 = .ok (.aload_n 0, 1) := by decide +kernel
theorem dX10_goesWith_25 : decode cX10_goesWith 25 = .ok (.iload_n 2, 1) := by decide +kernel
theorem dX10_goesWith_26 : decode cX10_goesWith 26 = .ok (.iload_n 3, 1) := by decide +kernel
theorem dX10_goesWith_27 : decode cX10_goesWith 27 = .ok (.invokevirtual 95, 3) := by decide +kernel
theorem dX10_goesWith_30 : decode cX10_goesWith 30 = .ok (.aload_n 0, 1) := by decide +kernel
theorem dX10_goesWith_31 : decode cX10_goesWith 31 = .ok (.iload_n 1, 1) := by decide +kernel
theorem dX10_goesWith_32 : decode cX10_goesWith 32 = .ok (.invokevirtual 139, 3) := by decide +kernel
theorem dX10_goesWith_35 : decode cX10_goesWith 35 = .ok (.if_icmp .ne 7, 3) := by decide +kernel
theorem dX10_goesWith_38 : decode cX10_goesWith 38 = .ok (.iconst 1, 1) := by decide +kernel
theorem dX10_goesWith_39 : decode cX10_goesWith 39 = .ok (.goto 4, 3) := by decide +kernel
theorem dX10_goesWith_42 : decode cX10_goesWith 42 = .ok (.iconst 0, 1) := by decide +kernel
theorem dX10_goesWith_43 : decode cX10_goesWith 43 = .ok (.ireturn, 1) := by decide +kernel
theorem dX10_heal_0 : decode cX10_heal 0 = .ok (.aload_n 0, 1) := by decide +kernel
theorem dX10_heal_1 : decode cX10_heal 1 = .ok (.iconst 0, 1) := by decide +kernel
theorem dX10_heal_2 : decode cX10_heal 2 = .ok (.putfield 66, 3) := by decide +kernel
theorem dX10_heal_5 : decode cX10_heal 5 = .ok (.aload_n 0, 1) := by decide +kernel
theorem dX10_heal_6 : decode cX10_heal 6 = .ok (.iload_n 1, 1) := by decide +kernel
theorem dX10_heal_7 : decode cX10_heal 7 = .ok (.invokevirtual 82, 3) := by decide +kernel
theorem dX10_heal_10 : decode cX10_heal 10 = .ok (.ifCond .eq 16, 3) := by decide +kernel
theorem dX10_heal_13 : decode cX10_heal 13 = .ok (.aload_n 0, 1) := by decide +kernel
theorem dX10_heal_14 : decode cX10_heal 14 = .ok (.iload_n 2, 1) := by decide +kernel
theorem dX10_heal_15 : decode cX10_heal 15 = .ok (.invokevirtual 82, 3) := by decide +kernel
theorem dX10_heal_18 : decode cX10_heal 18 = .ok (.ifCond .eq 8, 3) := by decide +kernel
theorem dX10_heal_21 : decode cX10_heal 21 = .ok (.iload_n 1, 1) := by decide +kernel
theorem dX10_heal_22 : decode cX10_heal 22 = .ok (.iload_n 2, 1) := by decide +kernel
theorem dX10_heal_23 : decode cX10_heal 23 = .ok (.if_icmp .ne 9, 3) := by decide +kernel
theorem dX10_heal_26 : decode cX10_heal 26 = .ok (.aload_n 0, 1) := by decide +kernel
theorem dX10_heal_27 : decode cX10_heal 27 = .ok (.iconst 1, 1) := by decide +kernel
theorem dX10_heal_28 : decode cX10_heal 28 = .ok (.invokevirtual 171, 3) := by decide +kernel
theorem dX10_heal_31 : decode cX10_heal 31 = .ok (.ireturn, 1) := by decide +kernel
theorem dX10_heal_32 : decode cX10_heal 32 = .ok (.aload_n 0, 1) := by decide +kernel
theorem dX10_heal_33 : decode cX10_heal 33 = .ok (.iload_n 1, 1) := by decide +kernel
theorem dX10_heal_34 : decode cX10_heal 34 = .ok (.iload_n 2, 1) := by decide +kernel
theorem dX10_heal_35 : decode cX10_heal 35 = .ok (.invokevirtual 202, 3) := by decide +kernel
theorem dX10_heal_38 : decode cX10_heal 38 = .ok (.istore_n 3, 1) := by decide +kernel
theorem dX10_heal_39 : decode cX10_heal 39 = .ok (.aload_n 0, 1) := by decide +kernel
theorem dX10_heal_40 : decode cX10_heal 40 = .ok (.getfield 7, 3) := by decide +kernel
theorem dX10_heal_43 : decode cX10_heal 43 = .ok (.iload_n 1, 1) := by decide +kernel
theorem dX10_heal_44 : decode cX10_heal 44 = .ok (.iaload, 1) := by decide +kernel
theorem dX10_heal_45 : decode cX10_heal 45 = .ok (.iconst 1, 1) := by decide +kernel
theorem dX10_heal_46 : decode cX10_heal 46 = .ok (.iadd, 1) := by decide +kernel
theorem dX10_heal_47 : decode cX10_heal 47 = .ok (.aload_n 0, 1) := by decide +kernel
theorem dX10_heal_48 : decode cX10_heal 48 = .ok (.getfield 7, 3) := by decide +kernel
theorem dX10_heal_51 : decode cX10_heal 51 = .ok (.iload_n 2, 1) := by decide +kernel
theorem dX10_heal_52 : decode cX10_heal 52 = .ok (.iaload, 1) := by decide +kernel
theorem dX10_heal_53 : decode cX10_heal 53 = .ok (.iadd, 1) := by decide +kernel
theorem dX10_heal_54 : decode cX10_heal 54 = .ok (.iload_n 3, 1) := by decide +kernel
theorem dX10_heal_55 : decode cX10_heal 55 = .ok (.isub, 1) := by decide +kernel
theorem dX10_heal_56 : decode cX10_heal 56 = .ok (.istore 4, 2) := by decide +kernel
theorem dX10_heal_58 : decode cX10_heal 58 = .ok (.aload_n 0, 1) := by decide +kernel
theorem dX10_heal_59 : decode cX10_heal 59 = .ok (.iload_n 1, 1) := by decide +kernel
theorem dX10_heal_60 : decode cX10_heal 60 = .ok (.iload_n 2, 1) := by decide +kernel
theorem dX10_heal_61 : decode cX10_heal 61 = .ok (.invokevirtual 209, 3) := by decide +kernel
theorem dX10_heal_64 : decode cX10_heal 64 = .ok (.ifCond .ne 20, 3) := by decide +kernel
theorem dX10_heal_67 : decode cX10_heal 67 = .ok (.aload_n 0, 1) := by decide +kernel
theorem dX10_heal_68 : decode cX10_heal 68 = .ok (.getfield 79, 3) := by decide +kernel
theorem dX10_heal_71 : decode cX10_heal 71 = .ok (.bipush 8, 2) := by decide +kernel
theorem dX10_heal_73 : decode cX10_heal 73 = .ok (.if_icmp .eq 11, 3) := by decide +kernel
theorem dX10_heal_76 : decode cX10_heal 76 = .ok (.iload 4, 2) := by decide +kernel
theorem dX10_heal_78 : decode cX10_heal 78 = .ok (.sipush 200, 3) := by decide +kernel
theorem dX10_heal_81 : decode cX10_heal 81 = .ok (.if_icmp .le 9, 3) := by decide +kernel
theorem dX10_heal_84 : decode cX10_heal 84 = .ok (.aload_n 0, 1) := by decide +kernel
theorem dX10_heal_85 : decode cX10_heal 85 = .ok (.iconst 2, 1) := by decide +kernel
theorem dX10_heal_86 : decode cX10_heal 86 = .ok (.invokevirtual 171, 3) := by decide +kernel
theorem dX10_heal_89 : decode cX10_heal 89 = .ok (.ireturn, 1) := by decide +kernel
theorem dX10_heal_90 : decode cX10_heal 90 = .ok (.aload_n 0, 1) := by decide +kernel
theorem dX10_heal_91 : decode cX10_heal 91 = .ok (.getfield 79, 3) := by decide +kernel
theorem dX10_heal_94 : decode cX10_heal 94 = .ok (.istore 5, 2) := by decide +kernel
theorem dX10_heal_96 : decode cX10_heal 96 = .ok (.aload_n 0, 1) := by decide +kernel
theorem dX10_heal_97 : decode cX10_heal 97 = .ok (.iload_n 1, 1) := by decide +kernel
theorem dX10_heal_98 : decode cX10_heal 98 = .ok (.iload 5, 2) := by decide +kernel
theorem dX10_heal_100 : decode cX10_heal 100 = .ok (.aload_n 0, 1) := by decide +kernel
theorem dX10_heal_101 : decode cX10_heal 101 = .ok (.getfield 7, 3) := by decide +kernel
theorem dX10_heal_104 : decode cX10_heal 104 = .ok (.iload_n 1, 1) := by decide +kernel
theorem dX10_heal_105 : decode cX10_heal 105 = .ok (.iaload, 1) := by decide +kernel
theorem dX10_heal_106 : decode cX10_heal 106 = .ok (.invokevirtual 195, 3) := by decide +kernel
theorem dX10_heal_109 : decode cX10_heal 109 = .ok (.aload_n 0, 1) := by decide +kernel
theorem dX10_heal_110 : decode cX10_heal 110 = .ok (.iload 5, 2) := by decide +kernel
theorem dX10_heal_112 : decode cX10_heal 112 = .ok (.iconst 2, 1) := by decide +kernel
theorem dX10_heal_113 : decode cX10_heal 113 = .ok (.iconst (-1), 1) := by decide +kernel
theorem dX10_heal_114 : decode cX10_heal 114 = .ok (.iconst (-1), 1) := by decide +kernel
theorem dX10_heal_115 : decode cX10_heal 115 = .ok (.iconst 0, 1) := by decide +kernel
theorem dX10_heal_116 : decode cX10_heal 116 = .ok (.aload_n 0, 1) := by decide +kernel
theorem dX10_heal_117 : decode cX10_heal 117 = .ok (.iload_n 2, 1) := by decide +kernel
theorem dX10_heal_118 : decode cX10_heal 118 = .ok (.aload_n 0, 1) := by decide +kernel
theorem dX10_heal_119 : decode cX10_heal 119 = .ok (.getfield 7, 3) := by decide +kernel
theorem dX10_heal_122 : decode cX10_heal 122 = .ok (.iload_n 2, 1) := by decide +kernel
theorem dX10_heal_123 : decode cX10_heal 123 = .ok (.iaload, 1) := by decide +kernel
theorem dX10_heal_124 : decode cX10_heal 124 = .ok (.invokevirtual 95, 3) := by decide +kernel
theorem dX10_heal_127 : decode cX10_heal 127 = .ok (.invokevirtual 155, 3) := by decide +kernel
theorem dX10_heal_130 : decode cX10_heal 130 = .ok (.iload_n 3, 1) := by decide +kernel
theorem dX10_heal_131 : decode cX10_heal 131 = .ok (.iconst 1, 1) := by decide +kernel
theorem dX10_heal_132 : decode cX10_heal 132 = .ok (.iadd, 1) := by decide +kernel
theorem dX10_heal_133 : decode cX10_heal 133 = .ok (.istore 6, 2) := by decide +kernel
theorem dX10_heal_135 : decode cX10_heal 135 = .ok (.iload 6, 2) := by decide +kernel
theorem dX10_heal_137 : decode cX10_heal 137 = .ok (.aload_n 0, 1) := by decide +kernel
theorem dX10_heal_138 : decode cX10_heal 138 = .ok (.getfield 7, 3) := by decide +kernel
theorem dX10_heal_141 : decode cX10_heal 141 = .ok (.iload_n 2, 1) := by decide +kernel
theorem dX10_heal_142 : decode cX10_heal 142 = .ok (.iaload, 1) := by decide +kernel
theorem dX10_heal_143 : decode cX10_heal 143 = .ok (.if_icmp .gt 58, 3) := by decide +kernel
theorem dX10_heal_146 : decode cX10_heal 146 = .ok (.iload_n 2, 1) := by decide +kernel
theorem dX10_heal_147 : decode cX10_heal 147 = .ok (.iload 6, 2) := by decide +kernel
theorem dX10_heal_149 : decode cX10_heal 149 = .ok (.invokestatic 86, 3) := by decide +kernel
theorem dX10_heal_152 : decode cX10_heal 152 = .ok (.istore 7, 2) := by decide +kernel
theorem dX10_heal_154 : decode cX10_heal 154 = .ok (.aload_n 0, 1) := by decide +kernel
theorem dX10_heal_155 : decode cX10_heal 155 = .ok (.iload 5, 2) := by decide +kernel
theorem dX10_heal_157 : decode cX10_heal 157 = .ok (.aload_n 0, 1) := by decide +kernel
theorem dX10_heal_158 : decode cX10_heal 158 = .ok (.getfield 13, 3) := by decide +kernel
theorem dX10_heal_161 : decode cX10_heal 161 = .ok (.iload 7, 2) := by decide +kernel
theorem dX10_heal_163 : decode cX10_heal 163 = .ok (.iaload, 1) := by decide +kernel
theorem dX10_heal_164 : decode cX10_heal 164 = .ok (.aload_n 0, 1) := by decide +kernel
theorem dX10_heal_165 : decode cX10_heal 165 = .ok (.getfield 16, 3) := by decide +kernel
theorem dX10_heal_168 : decode cX10_heal 168 = .ok (.iload 7, 2) := by decide +kernel
theorem dX10_heal_170 : decode cX10_heal 170 = .ok (.iaload, 1) := by decide +kernel
theorem dX10_heal_171 : decode cX10_heal 171 = .ok (.aload_n 0, 1) := by decide +kernel
theorem dX10_heal_172 : decode cX10_heal 172 = .ok (.getfield 19, 3) := by decide +kernel
theorem dX10_heal_175 : decode cX10_heal 175 = .ok (.iload 7, 2) := by decide +kernel
theorem dX10_heal_177 : decode cX10_heal 177 = .ok (.iaload, 1) := by decide +kernel
theorem dX10_heal_178 : decode cX10_heal 178 = .ok (.aload_n 0, 1) := by decide +kernel
theorem dX10_heal_179 : decode cX10_heal 179 = .ok (.getfield 22, 3) := by decide +kernel
theorem dX10_heal_182 : decode cX10_heal 182 = .ok (.iload 7, 2) := by decide +kernel
theorem dX10_heal_184 : decode cX10_heal 184 = .ok (.iaload, 1) := by decide +kernel
theorem dX10_heal_185 : decode cX10_heal 185 = .ok (.aload_n 0, 1) := by decide +kernel
theorem dX10_heal_186 : decode cX10_heal 186 = .ok (.getfield 25, 3) := by decide +kernel
theorem dX10_heal_189 : decode cX10_heal 189 = .ok (.iload 7, 2) := by decide +kernel
theorem dX10_heal_191 : decode cX10_heal 191 = .ok (.iaload, 1) := by decide +kernel
theorem dX10_heal_192 : decode cX10_heal 192 = .ok (.invokevirtual 155, 3) := by decide +kernel
theorem dX10_heal_195 : decode cX10_heal 195 = .ok (.iinc 6 1, 3) := by decide +kernel
theorem dX10_heal_198 : decode cX10_heal 198 = .ok (.goto (-63), 3) := by decide +kernel
theorem dX10_heal_201 : decode cX10_heal 201 = .ok (.aload_n 0, 1) := by decide +kernel
theorem dX10_heal_202 : decode cX10_heal 202 = .ok (.aload_n 0, 1) := by decide +kernel
theorem dX10_heal_203 : decode cX10_heal 203 = .ok (.getfield 79, 3) := by decide +kernel
theorem dX10_heal_206 : decode cX10_heal 206 = .ok (.iconst 1, 1) := by decide +kernel
theorem dX10_heal_207 : decode cX10_heal 207 = .ok (.iadd, 1) := by decide +kernel
theorem dX10_heal_208 : decode cX10_heal 208 = .ok (.putfield 79, 3) := by decide +kernel
theorem dX10_heal_211 : decode cX10_heal 211 = .ok (.iconst 0, 1) := by decide +kernel
theorem dX10_heal_212 : decode cX10_heal 212 = .ok (.istore 6, 2) := by decide +kernel
theorem dX10_heal_214 : decode cX10_heal 214 = .ok (.iload 6, 2) := by decide +kernel
theorem dX10_heal_216 : decode cX10_heal 216 = .ok (.aload_n 0, 1) := by decide +kernel
theorem dX10_heal_217 : decode cX10_heal 217 = .ok (.getfield 69, 3) := by decide +kernel
theorem dX10_heal_220 : decode cX10_heal 220 = .ok (.if_icmp .ge 56, 3) := by decide +kernel
theorem dX10_heal_223 : decode cX10_heal 223 = .ok (.aload_n 0, 1) := by decide +kernel
theorem dX10_heal_224 : decode cX10_heal 224 = .ok (.getfield 31, 3) := by decide +kernel
theorem dX10_heal_227 : decode cX10_heal 227 = .ok (.iload 6, 2) := by decide +kernel
theorem dX10_heal_229 : decode cX10_heal 229 = .ok (.iaload, 1) := by decide +kernel
theorem dX10_heal_230 : decode cX10_heal 230 = .ok (.iload_n 1, 1) := by decide +kernel
theorem dX10_heal_231 : decode cX10_heal 231 = .ok (.if_icmp .eq 14, 3) := by decide +kernel
theorem dX10_heal_234 : decode cX10_heal 234 = .ok (.aload_n 0, 1) := by decide +kernel
theorem dX10_heal_235 : decode cX10_heal 235 = .ok (.getfield 31, 3) := by decide +kernel
theorem dX10_heal_238 : decode cX10_heal 238 = .ok (.iload 6, 2) := by decide +kernel
theorem dX10_heal_240 : decode cX10_heal 240 = .ok (.iaload, 1) := by decide +kernel
theorem dX10_heal_241 : decode cX10_heal 241 = .ok (.iload_n 2, 1) := by decide +kernel
theorem dX10_heal_242 : decode cX10_heal 242 = .ok (.if_icmp .ne 28, 3) := by decide +kernel
theorem dX10_heal_245 : decode cX10_heal 245 = .ok (.aload_n 0, 1) := by decide +kernel
theorem dX10_heal_246 : decode cX10_heal 246 = .ok (.iload 6, 2) := by decide +kernel
theorem dX10_heal_248 : decode cX10_heal 248 = .ok (.aload_n 0, 1) := by decide +kernel
theorem dX10_heal_249 : decode cX10_heal 249 = .ok (.getfield 31, 3) := by decide +kernel
theorem dX10_heal_252 : decode cX10_heal 252 = .ok (.iload 6, 2) := by decide +kernel
theorem dX10_heal_254 : decode cX10_heal 254 = .ok (.iaload, 1) := by decide +kernel
theorem dX10_heal_255 : decode cX10_heal 255 = .ok (.iload_n 2, 1) := by decide +kernel
theorem dX10_heal_256 : decode cX10_heal 256 = .ok (.if_icmp .ne 7, 3) := by decide +kernel
theorem dX10_heal_259 : decode cX10_heal 259 = .ok (.iconst 1, 1) := by decide +kernel
theorem dX10_heal_260 : decode cX10_heal 260 = .ok (.goto 4, 3) := by decide +kernel
theorem dX10_heal_263 : decode cX10_heal 263 = .ok (.iconst 0, 1) := by decide +kernel
theorem dX10_heal_264 : decode cX10_heal 264 = .ok (.iload_n 3, 1) := by decide +kernel
theorem dX10_heal_265 : decode cX10_heal 265 = .ok (.iload 5, 2) := by decide +kernel
theorem dX10_heal_267 : decode cX10_heal 267 = .ok (.invokevirtual 212, 3) := by decide +kernel
theorem dX10_heal_270 : decode cX10_heal 270 = .ok (.iinc 6 1, 3) := by decide +kernel
theorem dX10_heal_273 : decode cX10_heal 273 = .ok (.goto (-59), 3) := by decide +kernel
theorem dX10_heal_276 : decode cX10_heal 276 = .ok (.iload 5, 2) := by decide +kernel
theorem dX10_heal_278 : decode cX10_heal 278 = .ok (.ireturn, 1) := by decide +kernel
theorem dX10_comesOver_0 : decode cX10_comesOver 0 = .ok (.aload_n 0, 1) := by decide +kernel
theorem dX10_comesOver_1 : decode cX10_comesOver 1 = .ok (.iload_n 1, 1) := by decide +kernel
theorem dX10_comesOver_2 : decode cX10_comesOver 2 = .ok (.invokevirtual 216, 3) := by decide +kernel
theorem dX10_comesOver_5 : decode cX10_comesOver 5 = .ok (.ifCond .eq 31, 3) := by decide +kernel
theorem dX10_comesOver_8 : decode cX10_comesOver 8 = .ok (.aload_n 0, 1) := by decide +kernel
theorem dX10_comesOver_9 : decode cX10_comesOver 9 = .ok (.getfield 46, 3) := by decide +kernel
theorem dX10_comesOver_12 : decode cX10_comesOver 12 = .ok (.iload_n 1, 1) := by decide +kernel
theorem dX10_comesOver_13 : decode cX10_comesOver 13 = .ok (.iconst 0, 1) := by decide +kernel
theorem dX10_comesOver_14 : decode cX10_comesOver 14 = .ok (.bastore, 1) := by decide +kernel
theorem dX10_comesOver_15 : decode cX10_comesOver 15 = .ok (.iload_n 2, 1) := by decide +kernel
theorem dX10_comesOver_16 : decode cX10_comesOver 16 = .ok (.ifCond .eq 20, 3) := by decide +kernel
theorem dX10_comesOver_19 : decode cX10_comesOver 19 = .ok (.aload_n 0, 1) := by decide +kernel
theorem dX10_comesOver_20 : decode cX10_comesOver 20 = .ok (.getfield 34, 3) := by decide +kernel
theorem dX10_comesOver_23 : decode cX10_comesOver 23 = .ok (.iload_n 1, 1) := by decide +kernel
theorem dX10_comesOver_24 : decode cX10_comesOver 24 = .ok (.iaload, 1) := by decide +kernel
theorem dX10_comesOver_25 : decode cX10_comesOver 25 = .ok (.iload_n 3, 1) := by decide +kernel
theorem dX10_comesOver_26 : decode cX10_comesOver 26 = .ok (.if_icmp .le 10, 3) := by decide +kernel
theorem dX10_comesOver_29 : decode cX10_comesOver 29 = .ok (.aload_n 0, 1) := by decide +kernel
theorem dX10_comesOver_30 : decode cX10_comesOver 30 = .ok (.iload_n 1, 1) := by decide +kernel
theorem dX10_comesOver_31 : decode cX10_comesOver 31 = .ok (.iload 4, 2) := by decide +kernel
theorem dX10_comesOver_33 : decode cX10_comesOver 33 = .ok (.invokevirtual 135, 3) := by decide +kernel
theorem dX10_comesOver_36 : decode cX10_comesOver 36 = .ok (.aload_n 0, 1) := by decide +kernel
theorem dX10_comesOver_37 : decode cX10_comesOver 37 = .ok (.getfield 31, 3) := by decide +kernel
theorem dX10_comesOver_40 : decode cX10_comesOver 40 = .ok (.iload_n 1, 1) := by decide +kernel
theorem dX10_comesOver_41 : decode cX10_comesOver 41 = .ok (.iload 4, 2) := by decide +kernel
theorem dX10_comesOver_43 : decode cX10_comesOver 43 = .ok (.iastore, 1) := by decide +kernel
theorem dX10_comesOver_44 : decode cX10_comesOver 44 = .ok (.return_, 1) := by decide +kernel
theorem dX10_feed_0 : decode cX10_feed 0 = .ok (.aload_n 0, 1) := by decide +kernel
theorem dX10_feed_1 : decode cX10_feed 1 = .ok (.iconst 0, 1) := by decide +kernel
theorem dX10_feed_2 : decode cX10_feed 2 = .ok (.putfield 66, 3) := by decide +kernel
theorem dX10_feed_5 : decode cX10_feed 5 = .ok (.aload_n 0, 1) := by decide +kernel
theorem dX10_feed_6 : decode cX10_feed 6 = .ok (.getfield 219, 3) := by decide +kernel
theorem dX10_feed_9 : decode cX10_feed 9 = .ok (.bipush 20, 2) := by decide +kernel
theorem dX10_feed_11 : decode cX10_feed 11 = .ok (.iadd, 1) := by decide +kernel
theorem dX10_feed_12 : decode cX10_feed 12 = .ok (.sipush 900, 3) := by decide +kernel
theorem dX10_feed_15 : decode cX10_feed 15 = .ok (.if_icmp .le 9, 3) := by decide +kernel
theorem dX10_feed_18 : decode cX10_feed 18 = .ok (.aload_n 0, 1) := by decide +kernel
theorem dX10_feed_19 : decode cX10_feed 19 = .ok (.iconst 1, 1) := by decide +kernel
theorem dX10_feed_20 : decode cX10_feed 20 = .ok (.invokevirtual 171, 3) := by decide +kernel
theorem dX10_feed_23 : decode cX10_feed 23 = .ok (.ireturn, 1) := by decide +kernel
theorem dX10_feed_24 : decode cX10_feed 24 = .ok (.aload_n 0, 1) := by decide +kernel
theorem dX10_feed_25 : decode cX10_feed 25 = .ok (.iload_n 1, 1) := by decide +kernel
theorem dX10_feed_26 : decode cX10_feed 26 = .ok (.invokevirtual 222, 3) := by decide +kernel
theorem dX10_feed_29 : decode cX10_feed 29 = .ok (.aload_n 0, 1) := by decide +kernel
theorem dX10_feed_30 : decode cX10_feed 30 = .ok (.iload_n 2, 1) := by decide +kernel
theorem dX10_feed_31 : decode cX10_feed 31 = .ok (.invokevirtual 222, 3) := by decide +kernel
theorem dX10_feed_34 : decode cX10_feed 34 = .ok (.aload_n 0, 1) := by decide +kernel
theorem dX10_feed_35 : decode cX10_feed 35 = .ok (.iload_n 3, 1) := by decide +kernel
theorem dX10_feed_36 : decode cX10_feed 36 = .ok (.invokevirtual 222, 3) := by decide +kernel
theorem dX10_feed_39 : decode cX10_feed 39 = .ok (.aload_n 0, 1) := by decide +kernel
theorem dX10_feed_40 : decode cX10_feed 40 = .ok (.iload 4, 2) := by decide +kernel
theorem dX10_feed_42 : decode cX10_feed 42 = .ok (.invokevirtual 222, 3) := by decide +kernel
theorem dX10_feed_45 : decode cX10_feed 45 = .ok (.aload_n 0, 1) := by decide +kernel
theorem dX10_feed_46 : decode cX10_feed 46 = .ok (.iload 5, 2) := by decide +kernel
theorem dX10_feed_48 : decode cX10_feed 48 = .ok (.invokevirtual 222, 3) := by decide +kernel
theorem dX10_feed_51 : decode cX10_feed 51 = .ok (.aload_n 0, 1) := by decide +kernel
theorem dX10_feed_52 : decode cX10_feed 52 = .ok (.getfield 219, 3) := by decide +kernel
theorem dX10_feed_55 : decode cX10_feed 55 = .ok (.ireturn, 1) := by decide +kernel
theorem dX10_puts_0 : decode cX10_puts 0 = .ok (.bipush 24, 2) := by decide +kernel
theorem dX10_puts_2 : decode cX10_puts 2 = .ok (.istore_n 2, 1) := by decide +kernel
theorem dX10_puts_3 : decode cX10_puts 3 = .ok (.iload_n 2, 1) := by decide +kernel
theorem dX10_puts_4 : decode cX10_puts 4 = .ok (.ifCond .lt 37, 3) := by decide +kernel
theorem dX10_puts_7 : decode cX10_puts 7 = .ok (.aload_n 0, 1) := by decide +kernel
theorem dX10_puts_8 : decode cX10_puts 8 = .ok (.getfield 56, 3) := by decide +kernel
theorem dX10_puts_11 : decode cX10_puts 11 = .ok (.aload_n 0, 1) := by decide +kernel
theorem dX10_puts_12 : decode cX10_puts 12 = .ok (.getfield 219, 3) := by decide +kernel
theorem dX10_puts_15 : decode cX10_puts 15 = .ok (.iload_n 1, 1) := by decide +kernel
theorem dX10_puts_16 : decode cX10_puts 16 = .ok (.iload_n 2, 1) := by decide +kernel
theorem dX10_puts_17 : decode cX10_puts 17 = .ok (.ishr, 1) := by decide +kernel
theorem dX10_puts_18 : decode cX10_puts 18 = .ok (.sipush 255, 3) := by decide +kernel
theorem dX10_puts_21 : decode cX10_puts 21 = .ok (.iand, 1) := by decide +kernel
theorem dX10_puts_22 : decode cX10_puts 22 = .ok (.iastore, 1) := by decide +kernel
theorem dX10_puts_23 : decode cX10_puts 23 = .ok (.aload_n 0, 1) := by decide +kernel
theorem dX10_puts_24 : decode cX10_puts 24 = .ok (.aload_n 0, 1) := by decide +kernel
theorem dX10_puts_25 : decode cX10_puts 25 = .ok (.getfield 219, 3) := by decide +kernel
theorem dX10_puts_28 : decode cX10_puts 28 = .ok (.iconst 1, 1) := by decide +kernel
theorem dX10_puts_29 : decode cX10_puts 29 = .ok (.iadd, 1) := by decide +kernel
theorem dX10_puts_30 : decode cX10_puts 30 = .ok (.putfield 219, 3) := by decide +kernel
theorem dX10_puts_33 : decode cX10_puts 33 = .ok (.iload_n 2, 1) := by decide +kernel
theorem dX10_puts_34 : decode cX10_puts 34 = .ok (.bipush 8, 2) := by decide +kernel
theorem dX10_puts_36 : decode cX10_puts 36 = .ok (.isub, 1) := by decide +kernel
theorem dX10_puts_37 : decode cX10_puts 37 = .ok (.istore_n 2, 1) := by decide +kernel
theorem dX10_puts_38 : decode cX10_puts 38 = .ok (.goto (-35), 3) := by decide +kernel
theorem dX10_puts_41 : decode cX10_puts 41 = .ok (.return_, 1) := by decide +kernel
theorem dX10_errorCode_0 : decode cX10_errorCode 0 = .ok (.aload_n 0, 1) := by decide +kernel
theorem dX10_errorCode_1 : decode cX10_errorCode 1 = .ok (.aload_n 0, 1) := by decide +kernel
theorem dX10_errorCode_2 : decode cX10_errorCode 2 = .ok (.getfield 225, 3) := by decide +kernel
theorem dX10_errorCode_5 : decode cX10_errorCode 5 = .ok (.invokevirtual 228, 3) := by decide +kernel
theorem dX10_errorCode_8 : decode cX10_errorCode 8 = .ok (.ireturn, 1) := by decide +kernel
theorem dX10_errorPosition_0 : decode cX10_errorPosition 0 = .ok (.aload_n 0, 1) := by decide +kernel
theorem dX10_errorPosition_1 : decode cX10_errorPosition 1 = .ok (.aload_n 0, 1) := by decide +kernel
theorem dX10_errorPosition_2 : decode cX10_errorPosition 2 = .ok (.getfield 59, 3) := by decide +kernel
theorem dX10_errorPosition_5 : decode cX10_errorPosition 5 = .ok (.invokevirtual 228, 3) := by decide +kernel
theorem dX10_errorPosition_8 : decode cX10_errorPosition 8 = .ok (.ireturn, 1) := by decide +kernel
theorem dX10_refused_0 : decode cX10_refused 0 = .ok (.aload_n 0, 1) := by decide +kernel
theorem dX10_refused_1 : decode cX10_refused 1 = .ok (.aload_n 0, 1) := by decide +kernel
theorem dX10_refused_2 : decode cX10_refused 2 = .ok (.getfield 123, 3) := by decide +kernel
theorem dX10_refused_5 : decode cX10_refused 5 = .ok (.invokevirtual 228, 3) := by decide +kernel
theorem dX10_refused_8 : decode cX10_refused 8 = .ok (.ireturn, 1) := by decide +kernel
theorem dX10_byteAt_0 : decode cX10_byteAt 0 = .ok (.iload_n 1, 1) := by decide +kernel
theorem dX10_byteAt_1 : decode cX10_byteAt 1 = .ok (.aload_n 0, 1) := by decide +kernel
theorem dX10_byteAt_2 : decode cX10_byteAt 2 = .ok (.getfield 231, 3) := by decide +kernel
theorem dX10_byteAt_5 : decode cX10_byteAt 5 = .ok (.if_icmp .ge 12, 3) := by decide +kernel
theorem dX10_byteAt_8 : decode cX10_byteAt 8 = .ok (.aload_n 0, 1) := by decide +kernel
theorem dX10_byteAt_9 : decode cX10_byteAt 9 = .ok (.getfield 56, 3) := by decide +kernel
theorem dX10_byteAt_12 : decode cX10_byteAt 12 = .ok (.iload_n 1, 1) := by decide +kernel
theorem dX10_byteAt_13 : decode cX10_byteAt 13 = .ok (.iaload, 1) := by decide +kernel
theorem dX10_byteAt_14 : decode cX10_byteAt 14 = .ok (.goto 4, 3) := by decide +kernel
theorem dX10_byteAt_17 : decode cX10_byteAt 17 = .ok (.iconst (-1), 1) := by decide +kernel
theorem dX10_byteAt_18 : decode cX10_byteAt 18 = .ok (.ireturn, 1) := by decide +kernel
theorem dX10_isLetter_0 : decode cX10_isLetter 0 = .ok (.iload_n 0, 1) := by decide +kernel
theorem dX10_isLetter_1 : decode cX10_isLetter 1 = .ok (.bipush 97, 2) := by decide +kernel
theorem dX10_isLetter_3 : decode cX10_isLetter 3 = .ok (.bipush 122, 2) := by decide +kernel
theorem dX10_isLetter_5 : decode cX10_isLetter 5 = .ok (.invokestatic 72, 3) := by decide +kernel
theorem dX10_isLetter_8 : decode cX10_isLetter 8 = .ok (.ireturn, 1) := by decide +kernel
theorem dX10_isDigit_0 : decode cX10_isDigit 0 = .ok (.iload_n 0, 1) := by decide +kernel
theorem dX10_isDigit_1 : decode cX10_isDigit 1 = .ok (.bipush 48, 2) := by decide +kernel
theorem dX10_isDigit_3 : decode cX10_isDigit 3 = .ok (.bipush 57, 2) := by decide +kernel
theorem dX10_isDigit_5 : decode cX10_isDigit 5 = .ok (.invokestatic 72, 3) := by decide +kernel
theorem dX10_isDigit_8 : decode cX10_isDigit 8 = .ok (.ireturn, 1) := by decide +kernel
theorem dX10_peek_0 : decode cX10_peek 0 = .ok (.aload_n 0, 1) := by decide +kernel
theorem dX10_peek_1 : decode cX10_peek 1 = .ok (.aload_n 0, 1) := by decide +kernel
theorem dX10_peek_2 : decode cX10_peek 2 = .ok (.getfield 234, 3) := by decide +kernel
theorem dX10_peek_5 : decode cX10_peek 5 = .ok (.invokevirtual 237, 3) := by decide +kernel
theorem dX10_peek_8 : decode cX10_peek 8 = .ok (.bipush 32, 2) := by decide +kernel
theorem dX10_peek_10 : decode cX10_peek 10 = .ok (.if_icmp .eq 16, 3) := by decide +kernel
theorem dX10_peek_13 : decode cX10_peek 13 = .ok (.aload_n 0, 1) := by decide +kernel
theorem dX10_peek_14 : decode cX10_peek 14 = .ok (.aload_n 0, 1) := by decide +kernel
theorem dX10_peek_15 : decode cX10_peek 15 = .ok (.getfield 234, 3) := by decide +kernel
theorem dX10_peek_18 : decode cX10_peek 18 = .ok (.invokevirtual 237, 3) := by decide +kernel
theorem dX10_peek_21 : decode cX10_peek 21 = .ok (.bipush 10, 2) := by decide +kernel
theorem dX10_peek_23 : decode cX10_peek 23 = .ok (.if_icmp .ne 16, 3) := by decide +kernel
theorem dX10_peek_26 : decode cX10_peek 26 = .ok (.aload_n 0, 1) := by decide +kernel
theorem dX10_peek_27 : decode cX10_peek 27 = .ok (.aload_n 0, 1) := by decide +kernel
theorem dX10_peek_28 : decode cX10_peek 28 = .ok (.getfield 234, 3) := by decide +kernel
theorem dX10_peek_31 : decode cX10_peek 31 = .ok (.iconst 1, 1) := by decide +kernel
theorem dX10_peek_32 : decode cX10_peek 32 = .ok (.iadd, 1) := by decide +kernel
theorem dX10_peek_33 : decode cX10_peek 33 = .ok (.putfield 234, 3) := by decide +kernel
theorem dX10_peek_36 : decode cX10_peek 36 = .ok (.goto (-36), 3) := by decide +kernel
theorem dX10_peek_39 : decode cX10_peek 39 = .ok (.aload_n 0, 1) := by decide +kernel
theorem dX10_peek_40 : decode cX10_peek 40 = .ok (.aload_n 0, 1) := by decide +kernel
theorem dX10_peek_41 : decode cX10_peek 41 = .ok (.getfield 234, 3) := by decide +kernel
theorem dX10_peek_44 : decode cX10_peek 44 = .ok (.putfield 240, 3) := by decide +kernel
theorem dX10_peek_47 : decode cX10_peek 47 = .ok (.aload_n 0, 1) := by decide +kernel
theorem dX10_peek_48 : decode cX10_peek 48 = .ok (.aload_n 0, 1) := by decide +kernel
theorem dX10_peek_49 : decode cX10_peek 49 = .ok (.getfield 234, 3) := by decide +kernel
theorem dX10_peek_52 : decode cX10_peek 52 = .ok (.invokevirtual 237, 3) := by decide +kernel
theorem dX10_peek_55 : decode cX10_peek 55 = .ok (.ireturn, 1) := by decide +kernel
theorem dX10_fails_0 : decode cX10_fails 0 = .ok (.aload_n 0, 1) := by decide +kernel
theorem dX10_fails_1 : decode cX10_fails 1 = .ok (.iload_n 1, 1) := by decide +kernel
theorem dX10_fails_2 : decode cX10_fails 2 = .ok (.putfield 225, 3) := by decide +kernel
theorem dX10_fails_5 : decode cX10_fails 5 = .ok (.aload_n 0, 1) := by decide +kernel
theorem dX10_fails_6 : decode cX10_fails 6 = .ok (.iload_n 2, 1) := by decide +kernel
theorem dX10_fails_7 : decode cX10_fails 7 = .ok (.putfield 59, 3) := by decide +kernel
theorem dX10_fails_10 : decode cX10_fails 10 = .ok (.iconst 0, 1) := by decide +kernel
theorem dX10_fails_11 : decode cX10_fails 11 = .ok (.ireturn, 1) := by decide +kernel
theorem dX10_readWord_0 : decode cX10_readWord 0 = .ok (.aload_n 0, 1) := by decide +kernel
theorem dX10_readWord_1 : decode cX10_readWord 1 = .ok (.invokevirtual 243, 3) := by decide +kernel
theorem dX10_readWord_4 : decode cX10_readWord 4 = .ok (.invokestatic 247, 3) := by decide +kernel
theorem dX10_readWord_7 : decode cX10_readWord 7 = .ok (.ifCond .eq 14, 3) := by decide +kernel
theorem dX10_readWord_10 : decode cX10_readWord 10 = .ok (.aload_n 0, 1) := by decide +kernel
theorem dX10_readWord_11 : decode cX10_readWord 11 = .ok (.getfield 240, 3) := by decide +kernel
theorem dX10_readWord_14 : decode cX10_readWord 14 = .ok (.aload_n 0, 1) := by decide +kernel
theorem dX10_readWord_15 : decode cX10_readWord 15 = .ok (.getfield 250, 3) := by decide +kernel
theorem dX10_readWord_18 : decode cX10_readWord 18 = .ok (.if_icmp .ne 13, 3) := by decide +kernel
theorem dX10_readWord_21 : decode cX10_readWord 21 = .ok (.aload_n 0, 1) := by decide +kernel
theorem dX10_readWord_22 : decode cX10_readWord 22 = .ok (.iconst 1, 1) := by decide +kernel
theorem dX10_readWord_23 : decode cX10_readWord 23 = .ok (.aload_n 0, 1) := by decide +kernel
theorem dX10_readWord_24 : decode cX10_readWord 24 = .ok (.getfield 240, 3) := by decide +kernel
theorem dX10_readWord_27 : decode cX10_readWord 27 = .ok (.invokevirtual 253, 3) := by decide +kernel
theorem dX10_readWord_30 : decode cX10_readWord 30 = .ok (.ireturn, 1) := by decide +kernel
theorem dX10_readWord_31 : decode cX10_readWord 31 = .ok (.aload_n 0, 1) := by decide +kernel
theorem dX10_readWord_32 : decode cX10_readWord 32 = .ok (.lconst 0, 1) := by decide +kernel
theorem dX10_readWord_33 : decode cX10_readWord 33 = .ok (.putfield 256, 3) := by decide +kernel
theorem dX10_readWord_36 : decode cX10_readWord 36 = .ok (.iconst 0, 1) := by decide +kernel
theorem dX10_readWord_37 : decode cX10_readWord 37 = .ok (.istore_n 1, 1) := by decide +kernel
theorem dX10_readWord_38 : decode cX10_readWord 38 = .ok (.aload_n 0, 1) := by decide +kernel
theorem dX10_readWord_39 : decode cX10_readWord 39 = .ok (.aload_n 0, 1) := by decide +kernel
theorem dX10_readWord_40 : decode cX10_readWord 40 = .ok (.getfield 240, 3) := by decide +kernel
theorem dX10_readWord_43 : decode cX10_readWord 43 = .ok (.iload_n 1, 1) := by decide +kernel
theorem dX10_readWord_44 : decode cX10_readWord 44 = .ok (.iadd, 1) := by decide +kernel
theorem dX10_readWord_45 : decode cX10_readWord 45 = .ok (.invokevirtual 237, 3) := by decide +kernel
theorem dX10_readWord_48 : decode cX10_readWord 48 = .ok (.invokestatic 247, 3) := by decide +kernel
theorem dX10_readWord_51 : decode cX10_readWord 51 = .ok (.ifCond .eq 48, 3) := by decide +kernel
theorem dX10_readWord_54 : decode cX10_readWord 54 = .ok (.aload_n 0, 1) := by decide +kernel
theorem dX10_readWord_55 : decode cX10_readWord 55 = .ok (.iload_n 1, 1) := by decide +kernel
theorem dX10_readWord_56 : decode cX10_readWord 56 = .ok (.bipush 8, 2) := by decide +kernel
theorem dX10_readWord_58 : decode cX10_readWord 58 = .ok (.if_icmp .ge 30, 3) := by decide +kernel
theorem dX10_readWord_61 : decode cX10_readWord 61 = .ok (.ldc2_w 260, 3) := by decide +kernel
theorem dX10_readWord_64 : decode cX10_readWord 64 = .ok (.aload_n 0, 1) := by decide +kernel
theorem dX10_readWord_65 : decode cX10_readWord 65 = .ok (.getfield 256, 3) := by decide +kernel
theorem dX10_readWord_68 : decode cX10_readWord 68 = .ok (.lmul, 1) := by decide +kernel
theorem dX10_readWord_69 : decode cX10_readWord 69 = .ok (.aload_n 0, 1) := by decide +kernel
theorem dX10_readWord_70 : decode cX10_readWord 70 = .ok (.aload_n 0, 1) := by decide +kernel
theorem dX10_readWord_71 : decode cX10_readWord 71 = .ok (.getfield 240, 3) := by decide +kernel
theorem dX10_readWord_74 : decode cX10_readWord 74 = .ok (.iload_n 1, 1) := by decide +kernel
theorem dX10_readWord_75 : decode cX10_readWord 75 = .ok (.iadd, 1) := by decide +kernel
theorem dX10_readWord_76 : decode cX10_readWord 76 = .ok (.invokevirtual 237, 3) := by decide +kernel
theorem dX10_readWord_79 : decode cX10_readWord 79 = .ok (.i2l, 1) := by decide +kernel
theorem dX10_readWord_80 : decode cX10_readWord 80 = .ok (.ladd, 1) := by decide +kernel
theorem dX10_readWord_81 : decode cX10_readWord 81 = .ok (.ldc2_w 262, 3) := by decide +kernel
theorem dX10_readWord_84 : decode cX10_readWord 84 = .ok (.lsub, 1) := by decide +kernel
theorem dX10_readWord_85 : decode cX10_readWord 85 = .ok (.goto 4, 3) := by decide +kernel
theorem dX10_readWord_88 : decode cX10_readWord 88 = .ok (.lconst 0, 1) := by decide +kernel
theorem dX10_readWord_89 : decode cX10_readWord 89 = .ok (.putfield 256, 3) := by decide +kernel
theorem dX10_readWord_92 : decode cX10_readWord 92 = .ok (.iload_n 1, 1) := by decide +kernel
theorem dX10_readWord_93 : decode cX10_readWord 93 = .ok (.iconst 1, 1) := by decide +kernel
theorem dX10_readWord_94 : decode cX10_readWord 94 = .ok (.iadd, 1) := by decide +kernel
theorem dX10_readWord_95 : decode cX10_readWord 95 = .ok (.istore_n 1, 1) := by decide +kernel
theorem dX10_readWord_96 : decode cX10_readWord 96 = .ok (.goto (-58), 3) := by decide +kernel
theorem dX10_readWord_99 : decode cX10_readWord 99 = .ok (.aload_n 0, 1) := by decide +kernel
theorem dX10_readWord_100 : decode cX10_readWord 100 = .ok (.aload_n 0, 1) := by decide +kernel
theorem dX10_readWord_101 : decode cX10_readWord 101 = .ok (.getfield 240, 3) := by decide +kernel
theorem dX10_readWord_104 : decode cX10_readWord 104 = .ok (.iload_n 1, 1) := by decide +kernel
theorem dX10_readWord_105 : decode cX10_readWord 105 = .ok (.iadd, 1) := by decide +kernel
theorem dX10_readWord_106 : decode cX10_readWord 106 = .ok (.putfield 234, 3) := by decide +kernel
theorem dX10_readWord_109 : decode cX10_readWord 109 = .ok (.aload_n 0, 1) := by decide +kernel
theorem dX10_readWord_110 : decode cX10_readWord 110 = .ok (.aload_n 0, 1) := by decide +kernel
theorem dX10_readWord_111 : decode cX10_readWord 111 = .ok (.getfield 234, 3) := by decide +kernel
theorem dX10_readWord_114 : decode cX10_readWord 114 = .ok (.putfield 250, 3) := by decide +kernel
theorem dX10_readWord_117 : decode cX10_readWord 117 = .ok (.iconst 1, 1) := by decide +kernel
theorem dX10_readWord_118 : decode cX10_readWord 118 = .ok (.ireturn, 1) := by decide +kernel
theorem dX10_takesWord_0 : decode cX10_takesWord 0 = .ok (.aload_n 0, 1) := by decide +kernel
theorem dX10_takesWord_1 : decode cX10_takesWord 1 = .ok (.invokevirtual 264, 3) := by decide +kernel
theorem dX10_takesWord_4 : decode cX10_takesWord 4 = .ok (.ifCond .eq 28, 3) := by decide +kernel
theorem dX10_takesWord_7 : decode cX10_takesWord 7 = .ok (.aload_n 0, 1) := by decide +kernel
theorem dX10_takesWord_8 : decode cX10_takesWord 8 = .ok (.getfield 256, 3) := by decide +kernel
theorem dX10_takesWord_11 : decode cX10_takesWord 11 = .ok (.lload_n 1, 1) := by decide +kernel
theorem dX10_takesWord_12 : decode cX10_takesWord 12 = .ok (.lcmp, 1) := by decide +kernel
theorem dX10_takesWord_13 : decode cX10_takesWord 13 = .ok (.ifCond .eq 15, 3) := by decide +kernel
theorem dX10_takesWord_16 : decode cX10_takesWord 16 = .ok (.aload_n 0, 1) := by decide +kernel
theorem dX10_takesWord_17 : decode cX10_takesWord 17 = .ok (.iconst 1, 1) := by decide +kernel
theorem dX10_takesWord_18 : decode cX10_takesWord 18 = .ok (.aload_n 0, 1) := by decide +kernel
theorem dX10_takesWord_19 : decode cX10_takesWord 19 = .ok (.getfield 240, 3) := by decide +kernel
theorem dX10_takesWord_22 : decode cX10_takesWord 22 = .ok (.invokevirtual 253, 3) := by decide +kernel
theorem dX10_takesWord_25 : decode cX10_takesWord 25 = .ok (.ifCond .eq 7, 3) := by decide +kernel
theorem dX10_takesWord_28 : decode cX10_takesWord 28 = .ok (.iconst 1, 1) := by decide +kernel
theorem dX10_takesWord_29 : decode cX10_takesWord 29 = .ok (.goto 4, 3) := by decide +kernel
theorem dX10_takesWord_32 : decode cX10_takesWord 32 = .ok (.iconst 0, 1) := by decide +kernel
theorem dX10_takesWord_33 : decode cX10_takesWord 33 = .ok (.ireturn, 1) := by decide +kernel
theorem dX10_readNumber_0 : decode cX10_readNumber 0 = .ok (.aload_n 0, 1) := by decide +kernel
theorem dX10_readNumber_1 : decode cX10_readNumber 1 = .ok (.invokevirtual 243, 3) := by decide +kernel
theorem dX10_readNumber_4 : decode cX10_readNumber 4 = .ok (.invokestatic 268, 3) := by decide +kernel
theorem dX10_readNumber_7 : decode cX10_readNumber 7 = .ok (.ifCond .eq 14, 3) := by decide +kernel
theorem dX10_readNumber_10 : decode cX10_readNumber 10 = .ok (.aload_n 0, 1) := by decide +kernel
theorem dX10_readNumber_11 : decode cX10_readNumber 11 = .ok (.getfield 240, 3) := by decide +kernel
theorem dX10_readNumber_14 : decode cX10_readNumber 14 = .ok (.aload_n 0, 1) := by decide +kernel
theorem dX10_readNumber_15 : decode cX10_readNumber 15 = .ok (.getfield 250, 3) := by decide +kernel
theorem dX10_readNumber_18 : decode cX10_readNumber 18 = .ok (.if_icmp .ne 13, 3) := by decide +kernel
theorem dX10_readNumber_21 : decode cX10_readNumber 21 = .ok (.aload_n 0, 1) := by decide +kernel
theorem dX10_readNumber_22 : decode cX10_readNumber 22 = .ok (.iconst 1, 1) := by decide +kernel
theorem dX10_readNumber_23 : decode cX10_readNumber 23 = .ok (.aload_n 0, 1) := by decide +kernel
theorem dX10_readNumber_24 : decode cX10_readNumber 24 = .ok (.getfield 240, 3) := by decide +kernel
theorem dX10_readNumber_27 : decode cX10_readNumber 27 = .ok (.invokevirtual 253, 3) := by decide +kernel
theorem dX10_readNumber_30 : decode cX10_readNumber 30 = .ok (.ireturn, 1) := by decide +kernel
theorem dX10_readNumber_31 : decode cX10_readNumber 31 = .ok (.aload_n 0, 1) := by decide +kernel
theorem dX10_readNumber_32 : decode cX10_readNumber 32 = .ok (.iconst 0, 1) := by decide +kernel
theorem dX10_readNumber_33 : decode cX10_readNumber 33 = .ok (.putfield 271, 3) := by decide +kernel
theorem dX10_readNumber_36 : decode cX10_readNumber 36 = .ok (.iconst 0, 1) := by decide +kernel
theorem dX10_readNumber_37 : decode cX10_readNumber 37 = .ok (.istore_n 3, 1) := by decide +kernel
theorem dX10_readNumber_38 : decode cX10_readNumber 38 = .ok (.aload_n 0, 1) := by decide +kernel
theorem dX10_readNumber_39 : decode cX10_readNumber 39 = .ok (.aload_n 0, 1) := by decide +kernel
theorem dX10_readNumber_40 : decode cX10_readNumber 40 = .ok (.getfield 240, 3) := by decide +kernel
theorem dX10_readNumber_43 : decode cX10_readNumber 43 = .ok (.iload_n 3, 1) := by decide +kernel
theorem dX10_readNumber_44 : decode cX10_readNumber 44 = .ok (.iadd, 1) := by decide +kernel
theorem dX10_readNumber_45 : decode cX10_readNumber 45 = .ok (.invokevirtual 237, 3) := by decide +kernel
theorem dX10_readNumber_48 : decode cX10_readNumber 48 = .ok (.invokestatic 268, 3) := by decide +kernel
theorem dX10_readNumber_51 : decode cX10_readNumber 51 = .ok (.ifCond .eq 48, 3) := by decide +kernel
theorem dX10_readNumber_54 : decode cX10_readNumber 54 = .ok (.aload_n 0, 1) := by decide +kernel
theorem dX10_readNumber_55 : decode cX10_readNumber 55 = .ok (.iload_n 3, 1) := by decide +kernel
theorem dX10_readNumber_56 : decode cX10_readNumber 56 = .ok (.bipush 6, 2) := by decide +kernel
theorem dX10_readNumber_58 : decode cX10_readNumber 58 = .ok (.if_icmp .ge 27, 3) := by decide +kernel
theorem dX10_readNumber_61 : decode cX10_readNumber 61 = .ok (.bipush 10, 2) := by decide +kernel
theorem dX10_readNumber_63 : decode cX10_readNumber 63 = .ok (.aload_n 0, 1) := by decide +kernel
theorem dX10_readNumber_64 : decode cX10_readNumber 64 = .ok (.getfield 271, 3) := by decide +kernel
theorem dX10_readNumber_67 : decode cX10_readNumber 67 = .ok (.imul, 1) := by decide +kernel
theorem dX10_readNumber_68 : decode cX10_readNumber 68 = .ok (.aload_n 0, 1) := by decide +kernel
theorem dX10_readNumber_69 : decode cX10_readNumber 69 = .ok (.aload_n 0, 1) := by decide +kernel
theorem dX10_readNumber_70 : decode cX10_readNumber 70 = .ok (.getfield 240, 3) := by decide +kernel
theorem dX10_readNumber_73 : decode cX10_readNumber 73 = .ok (.iload_n 3, 1) := by decide +kernel
theorem dX10_readNumber_74 : decode cX10_readNumber 74 = .ok (.iadd, 1) := by decide +kernel
theorem dX10_readNumber_75 : decode cX10_readNumber 75 = .ok (.invokevirtual 237, 3) := by decide +kernel
theorem dX10_readNumber_78 : decode cX10_readNumber 78 = .ok (.iadd, 1) := by decide +kernel
theorem dX10_readNumber_79 : decode cX10_readNumber 79 = .ok (.bipush 48, 2) := by decide +kernel
theorem dX10_readNumber_81 : decode cX10_readNumber 81 = .ok (.isub, 1) := by decide +kernel
theorem dX10_readNumber_82 : decode cX10_readNumber 82 = .ok (.goto 7, 3) := by decide +kernel
theorem dX10_readNumber_85 : decode cX10_readNumber 85 = .ok (.aload_n 0, 1) := by decide +kernel
theorem dX10_readNumber_86 : decode cX10_readNumber 86 = .ok (.getfield 271, 3) := by decide +kernel
theorem dX10_readNumber_89 : decode cX10_readNumber 89 = .ok (.putfield 271, 3) := by decide +kernel
theorem dX10_readNumber_92 : decode cX10_readNumber 92 = .ok (.iload_n 3, 1) := by decide +kernel
theorem dX10_readNumber_93 : decode cX10_readNumber 93 = .ok (.iconst 1, 1) := by decide +kernel
theorem dX10_readNumber_94 : decode cX10_readNumber 94 = .ok (.iadd, 1) := by decide +kernel
theorem dX10_readNumber_95 : decode cX10_readNumber 95 = .ok (.istore_n 3, 1) := by decide +kernel
theorem dX10_readNumber_96 : decode cX10_readNumber 96 = .ok (.goto (-58), 3) := by decide +kernel
theorem dX10_readNumber_99 : decode cX10_readNumber 99 = .ok (.iload_n 3, 1) := by decide +kernel
theorem dX10_readNumber_100 : decode cX10_readNumber 100 = .ok (.bipush 6, 2) := by decide +kernel
theorem dX10_readNumber_102 : decode cX10_readNumber 102 = .ok (.if_icmp .le 13, 3) := by decide +kernel
theorem dX10_readNumber_105 : decode cX10_readNumber 105 = .ok (.aload_n 0, 1) := by decide +kernel
theorem dX10_readNumber_106 : decode cX10_readNumber 106 = .ok (.iconst 1, 1) := by decide +kernel
theorem dX10_readNumber_107 : decode cX10_readNumber 107 = .ok (.aload_n 0, 1) := by decide +kernel
theorem dX10_readNumber_108 : decode cX10_readNumber 108 = .ok (.getfield 240, 3) := by decide +kernel
theorem dX10_readNumber_111 : decode cX10_readNumber 111 = .ok (.invokevirtual 253, 3) := by decide +kernel
theorem dX10_readNumber_114 : decode cX10_readNumber 114 = .ok (.ireturn, 1) := by decide +kernel
theorem dX10_readNumber_115 : decode cX10_readNumber 115 = .ok (.aload_n 0, 1) := by decide +kernel
theorem dX10_readNumber_116 : decode cX10_readNumber 116 = .ok (.getfield 271, 3) := by decide +kernel
theorem dX10_readNumber_119 : decode cX10_readNumber 119 = .ok (.iload_n 1, 1) := by decide +kernel
theorem dX10_readNumber_120 : decode cX10_readNumber 120 = .ok (.iload_n 2, 1) := by decide +kernel
theorem dX10_readNumber_121 : decode cX10_readNumber 121 = .ok (.invokestatic 72, 3) := by decide +kernel
theorem dX10_readNumber_124 : decode cX10_readNumber 124 = .ok (.ifCond .ne 13, 3) := by decide +kernel
theorem dX10_readNumber_127 : decode cX10_readNumber 127 = .ok (.aload_n 0, 1) := by decide +kernel
theorem dX10_readNumber_128 : decode cX10_readNumber 128 = .ok (.iconst 2, 1) := by decide +kernel
theorem dX10_readNumber_129 : decode cX10_readNumber 129 = .ok (.aload_n 0, 1) := by decide +kernel
theorem dX10_readNumber_130 : decode cX10_readNumber 130 = .ok (.getfield 240, 3) := by decide +kernel
theorem dX10_readNumber_133 : decode cX10_readNumber 133 = .ok (.invokevirtual 253, 3) := by decide +kernel
theorem dX10_readNumber_136 : decode cX10_readNumber 136 = .ok (.ireturn, 1) := by decide +kernel
theorem dX10_readNumber_137 : decode cX10_readNumber 137 = .ok (.aload_n 0, 1) := by decide +kernel
theorem dX10_readNumber_138 : decode cX10_readNumber 138 = .ok (.aload_n 0, 1) := by decide +kernel
theorem dX10_readNumber_139 : decode cX10_readNumber 139 = .ok (.getfield 240, 3) := by decide +kernel
theorem dX10_readNumber_142 : decode cX10_readNumber 142 = .ok (.iload_n 3, 1) := by decide +kernel
theorem dX10_readNumber_143 : decode cX10_readNumber 143 = .ok (.iadd, 1) := by decide +kernel
theorem dX10_readNumber_144 : decode cX10_readNumber 144 = .ok (.putfield 234, 3) := by decide +kernel
theorem dX10_readNumber_147 : decode cX10_readNumber 147 = .ok (.aload_n 0, 1) := by decide +kernel
theorem dX10_readNumber_148 : decode cX10_readNumber 148 = .ok (.aload_n 0, 1) := by decide +kernel
theorem dX10_readNumber_149 : decode cX10_readNumber 149 = .ok (.getfield 234, 3) := by decide +kernel
theorem dX10_readNumber_152 : decode cX10_readNumber 152 = .ok (.putfield 250, 3) := by decide +kernel
theorem dX10_readNumber_155 : decode cX10_readNumber 155 = .ok (.iconst 1, 1) := by decide +kernel
theorem dX10_readNumber_156 : decode cX10_readNumber 156 = .ok (.ireturn, 1) := by decide +kernel
theorem dX10_readSemicolon_0 : decode cX10_readSemicolon 0 = .ok (.aload_n 0, 1) := by decide +kernel
theorem dX10_readSemicolon_1 : decode cX10_readSemicolon 1 = .ok (.invokevirtual 243, 3) := by decide +kernel
theorem dX10_readSemicolon_4 : decode cX10_readSemicolon 4 = .ok (.bipush 59, 2) := by decide +kernel
theorem dX10_readSemicolon_6 : decode cX10_readSemicolon 6 = .ok (.if_icmp .eq 13, 3) := by decide +kernel
theorem dX10_readSemicolon_9 : decode cX10_readSemicolon 9 = .ok (.aload_n 0, 1) := by decide +kernel
theorem dX10_readSemicolon_10 : decode cX10_readSemicolon 10 = .ok (.iconst 1, 1) := by decide +kernel
theorem dX10_readSemicolon_11 : decode cX10_readSemicolon 11 = .ok (.aload_n 0, 1) := by decide +kernel
theorem dX10_readSemicolon_12 : decode cX10_readSemicolon 12 = .ok (.getfield 240, 3) := by decide +kernel
theorem dX10_readSemicolon_15 : decode cX10_readSemicolon 15 = .ok (.invokevirtual 253, 3) := by decide +kernel
theorem dX10_readSemicolon_18 : decode cX10_readSemicolon 18 = .ok (.ireturn, 1) := by decide +kernel
theorem dX10_readSemicolon_19 : decode cX10_readSemicolon 19 = .ok (.aload_n 0, 1) := by decide +kernel
theorem dX10_readSemicolon_20 : decode cX10_readSemicolon 20 = .ok (.aload_n 0, 1) := by decide +kernel
theorem dX10_readSemicolon_21 : decode cX10_readSemicolon 21 = .ok (.getfield 240, 3) := by decide +kernel
theorem dX10_readSemicolon_24 : decode cX10_readSemicolon 24 = .ok (.iconst 1, 1) := by decide +kernel
theorem dX10_readSemicolon_25 : decode cX10_readSemicolon 25 = .ok (.iadd, 1) := by decide +kernel
theorem dX10_readSemicolon_26 : decode cX10_readSemicolon 26 = .ok (.putfield 234, 3) := by decide +kernel
theorem dX10_readSemicolon_29 : decode cX10_readSemicolon 29 = .ok (.aload_n 0, 1) := by decide +kernel
theorem dX10_readSemicolon_30 : decode cX10_readSemicolon 30 = .ok (.iconst (-1), 1) := by decide +kernel
theorem dX10_readSemicolon_31 : decode cX10_readSemicolon 31 = .ok (.putfield 250, 3) := by decide +kernel
theorem dX10_readSemicolon_34 : decode cX10_readSemicolon 34 = .ok (.iconst 1, 1) := by decide +kernel
theorem dX10_readSemicolon_35 : decode cX10_readSemicolon 35 = .ok (.ireturn, 1) := by decide +kernel
theorem dX10_readService_0 : decode cX10_readService 0 = .ok (.aload_n 0, 1) := by decide +kernel
theorem dX10_readService_1 : decode cX10_readService 1 = .ok (.ldc2_w 274, 3) := by decide +kernel
theorem dX10_readService_4 : decode cX10_readService 4 = .ok (.invokevirtual 276, 3) := by decide +kernel
theorem dX10_readService_7 : decode cX10_readService 7 = .ok (.ifCond .eq 13, 3) := by decide +kernel
theorem dX10_readService_10 : decode cX10_readService 10 = .ok (.aload_n 0, 1) := by decide +kernel
theorem dX10_readService_11 : decode cX10_readService 11 = .ok (.iconst 2, 1) := by decide +kernel
theorem dX10_readService_12 : decode cX10_readService 12 = .ok (.bipush 6, 2) := by decide +kernel
theorem dX10_readService_14 : decode cX10_readService 14 = .ok (.invokevirtual 280, 3) := by decide +kernel
theorem dX10_readService_17 : decode cX10_readService 17 = .ok (.ifCond .ne 5, 3) := by decide +kernel
theorem dX10_readService_20 : decode cX10_readService 20 = .ok (.iconst 0, 1) := by decide +kernel
theorem dX10_readService_21 : decode cX10_readService 21 = .ok (.ireturn, 1) := by decide +kernel
theorem dX10_readService_22 : decode cX10_readService 22 = .ok (.aload_n 0, 1) := by decide +kernel
theorem dX10_readService_23 : decode cX10_readService 23 = .ok (.aload_n 0, 1) := by decide +kernel
theorem dX10_readService_24 : decode cX10_readService 24 = .ok (.getfield 271, 3) := by decide +kernel
theorem dX10_readService_27 : decode cX10_readService 27 = .ok (.putfield 283, 3) := by decide +kernel
theorem dX10_readService_30 : decode cX10_readService 30 = .ok (.aload_n 0, 1) := by decide +kernel
theorem dX10_readService_31 : decode cX10_readService 31 = .ok (.ldc2_w 286, 3) := by decide +kernel
theorem dX10_readService_34 : decode cX10_readService 34 = .ok (.invokevirtual 276, 3) := by decide +kernel
theorem dX10_readService_37 : decode cX10_readService 37 = .ok (.ifCond .eq 13, 3) := by decide +kernel
theorem dX10_readService_40 : decode cX10_readService 40 = .ok (.aload_n 0, 1) := by decide +kernel
theorem dX10_readService_41 : decode cX10_readService 41 = .ok (.iconst 1, 1) := by decide +kernel
theorem dX10_readService_42 : decode cX10_readService 42 = .ok (.bipush 16, 2) := by decide +kernel
theorem dX10_readService_44 : decode cX10_readService 44 = .ok (.invokevirtual 280, 3) := by decide +kernel
theorem dX10_readService_47 : decode cX10_readService 47 = .ok (.ifCond .ne 5, 3) := by decide +kernel
theorem dX10_readService_50 : decode cX10_readService 50 = .ok (.iconst 0, 1) := by decide +kernel
theorem dX10_readService_51 : decode cX10_readService 51 = .ok (.ireturn, 1) := by decide +kernel
theorem dX10_readService_52 : decode cX10_readService 52 = .ok (.aload_n 0, 1) := by decide +kernel
theorem dX10_readService_53 : decode cX10_readService 53 = .ok (.aload_n 0, 1) := by decide +kernel
theorem dX10_readService_54 : decode cX10_readService 54 = .ok (.getfield 271, 3) := by decide +kernel
theorem dX10_readService_57 : decode cX10_readService 57 = .ok (.putfield 288, 3) := by decide +kernel
theorem dX10_readService_60 : decode cX10_readService 60 = .ok (.aload_n 0, 1) := by decide +kernel
theorem dX10_readService_61 : decode cX10_readService 61 = .ok (.ldc2_w 291, 3) := by decide +kernel
theorem dX10_readService_64 : decode cX10_readService 64 = .ok (.invokevirtual 276, 3) := by decide +kernel
theorem dX10_readService_67 : decode cX10_readService 67 = .ok (.ifCond .eq 13, 3) := by decide +kernel
theorem dX10_readService_70 : decode cX10_readService 70 = .ok (.aload_n 0, 1) := by decide +kernel
theorem dX10_readService_71 : decode cX10_readService 71 = .ok (.iconst 1, 1) := by decide +kernel
theorem dX10_readService_72 : decode cX10_readService 72 = .ok (.bipush 50, 2) := by decide +kernel
theorem dX10_readService_74 : decode cX10_readService 74 = .ok (.invokevirtual 280, 3) := by decide +kernel
theorem dX10_readService_77 : decode cX10_readService 77 = .ok (.ifCond .ne 5, 3) := by decide +kernel
theorem dX10_readService_80 : decode cX10_readService 80 = .ok (.iconst 0, 1) := by decide +kernel
theorem dX10_readService_81 : decode cX10_readService 81 = .ok (.ireturn, 1) := by decide +kernel
theorem dX10_readService_82 : decode cX10_readService 82 = .ok (.aload_n 0, 1) := by decide +kernel
theorem dX10_readService_83 : decode cX10_readService 83 = .ok (.aload_n 0, 1) := by decide +kernel
theorem dX10_readService_84 : decode cX10_readService 84 = .ok (.getfield 271, 3) := by decide +kernel
theorem dX10_readService_87 : decode cX10_readService 87 = .ok (.putfield 293, 3) := by decide +kernel
theorem dX10_readService_90 : decode cX10_readService 90 = .ok (.aload_n 0, 1) := by decide +kernel
theorem dX10_readService_91 : decode cX10_readService 91 = .ok (.invokevirtual 296, 3) := by decide +kernel
theorem dX10_readService_94 : decode cX10_readService 94 = .ok (.ifCond .eq 27, 3) := by decide +kernel
theorem dX10_readService_97 : decode cX10_readService 97 = .ok (.aload_n 0, 1) := by decide +kernel
theorem dX10_readService_98 : decode cX10_readService 98 = .ok (.invokevirtual 243, 3) := by decide +kernel
theorem dX10_readService_101 : decode cX10_readService 101 = .ok (.iconst (-1), 1) := by decide +kernel
theorem dX10_readService_102 : decode cX10_readService 102 = .ok (.if_icmp .eq 15, 3) := by decide +kernel
theorem dX10_readService_105 : decode cX10_readService 105 = .ok (.aload_n 0, 1) := by decide +kernel
theorem dX10_readService_106 : decode cX10_readService 106 = .ok (.iconst 1, 1) := by decide +kernel
theorem dX10_readService_107 : decode cX10_readService 107 = .ok (.aload_n 0, 1) := by decide +kernel
theorem dX10_readService_108 : decode cX10_readService 108 = .ok (.getfield 240, 3) := by decide +kernel
theorem dX10_readService_111 : decode cX10_readService 111 = .ok (.invokevirtual 253, 3) := by decide +kernel
theorem dX10_readService_114 : decode cX10_readService 114 = .ok (.ifCond .eq 7, 3) := by decide +kernel
theorem dX10_readService_117 : decode cX10_readService 117 = .ok (.iconst 1, 1) := by decide +kernel
theorem dX10_readService_118 : decode cX10_readService 118 = .ok (.goto 4, 3) := by decide +kernel
theorem dX10_readService_121 : decode cX10_readService 121 = .ok (.iconst 0, 1) := by decide +kernel
theorem dX10_readService_122 : decode cX10_readService 122 = .ok (.ireturn, 1) := by decide +kernel
theorem dX10_opensText_0 : decode cX10_opensText 0 = .ok (.aload_n 0, 1) := by decide +kernel
theorem dX10_opensText_1 : decode cX10_opensText 1 = .ok (.iload_n 1, 1) := by decide +kernel
theorem dX10_opensText_2 : decode cX10_opensText 2 = .ok (.putfield 231, 3) := by decide +kernel
theorem dX10_opensText_5 : decode cX10_opensText 5 = .ok (.aload_n 0, 1) := by decide +kernel
theorem dX10_opensText_6 : decode cX10_opensText 6 = .ok (.iconst 0, 1) := by decide +kernel
theorem dX10_opensText_7 : decode cX10_opensText 7 = .ok (.putfield 234, 3) := by decide +kernel
theorem dX10_opensText_10 : decode cX10_opensText 10 = .ok (.aload_n 0, 1) := by decide +kernel
theorem dX10_opensText_11 : decode cX10_opensText 11 = .ok (.iconst (-1), 1) := by decide +kernel
theorem dX10_opensText_12 : decode cX10_opensText 12 = .ok (.putfield 250, 3) := by decide +kernel
theorem dX10_opensText_15 : decode cX10_opensText 15 = .ok (.aload_n 0, 1) := by decide +kernel
theorem dX10_opensText_16 : decode cX10_opensText 16 = .ok (.iconst 0, 1) := by decide +kernel
theorem dX10_opensText_17 : decode cX10_opensText 17 = .ok (.putfield 225, 3) := by decide +kernel
theorem dX10_opensText_20 : decode cX10_opensText 20 = .ok (.aload_n 0, 1) := by decide +kernel
theorem dX10_opensText_21 : decode cX10_opensText 21 = .ok (.iconst (-1), 1) := by decide +kernel
theorem dX10_opensText_22 : decode cX10_opensText 22 = .ok (.putfield 59, 3) := by decide +kernel
theorem dX10_opensText_25 : decode cX10_opensText 25 = .ok (.aload_n 0, 1) := by decide +kernel
theorem dX10_opensText_26 : decode cX10_opensText 26 = .ok (.iconst 0, 1) := by decide +kernel
theorem dX10_opensText_27 : decode cX10_opensText 27 = .ok (.putfield 219, 3) := by decide +kernel
theorem dX10_opensText_30 : decode cX10_opensText 30 = .ok (.return_, 1) := by decide +kernel
theorem dX10_load_0 : decode cX10_load 0 = .ok (.aload_n 0, 1) := by decide +kernel
theorem dX10_load_1 : decode cX10_load 1 = .ok (.iconst 0, 1) := by decide +kernel
theorem dX10_load_2 : decode cX10_load 2 = .ok (.putfield 66, 3) := by decide +kernel
theorem dX10_load_5 : decode cX10_load 5 = .ok (.iload_n 1, 1) := by decide +kernel
theorem dX10_load_6 : decode cX10_load 6 = .ok (.iconst 0, 1) := by decide +kernel
theorem dX10_load_7 : decode cX10_load 7 = .ok (.aload_n 0, 1) := by decide +kernel
theorem dX10_load_8 : decode cX10_load 8 = .ok (.getfield 219, 3) := by decide +kernel
theorem dX10_load_11 : decode cX10_load 11 = .ok (.invokestatic 72, 3) := by decide +kernel
theorem dX10_load_14 : decode cX10_load 14 = .ok (.ifCond .ne 9, 3) := by decide +kernel
theorem dX10_load_17 : decode cX10_load 17 = .ok (.aload_n 0, 1) := by decide +kernel
theorem dX10_load_18 : decode cX10_load 18 = .ok (.iconst 1, 1) := by decide +kernel
theorem dX10_load_19 : decode cX10_load 19 = .ok (.invokevirtual 171, 3) := by decide +kernel
theorem dX10_load_22 : decode cX10_load 22 = .ok (.ireturn, 1) := by decide +kernel
theorem dX10_load_23 : decode cX10_load 23 = .ok (.aload_n 0, 1) := by decide +kernel
theorem dX10_load_24 : decode cX10_load 24 = .ok (.iload_n 1, 1) := by decide +kernel
theorem dX10_load_25 : decode cX10_load 25 = .ok (.invokevirtual 299, 3) := by decide +kernel
theorem dX10_load_28 : decode cX10_load 28 = .ok (.aload_n 0, 1) := by decide +kernel
theorem dX10_load_29 : decode cX10_load 29 = .ok (.invokevirtual 302, 3) := by decide +kernel
theorem dX10_load_32 : decode cX10_load 32 = .ok (.ifCond .ne 9, 3) := by decide +kernel
theorem dX10_load_35 : decode cX10_load 35 = .ok (.aload_n 0, 1) := by decide +kernel
theorem dX10_load_36 : decode cX10_load 36 = .ok (.iconst 2, 1) := by decide +kernel
theorem dX10_load_37 : decode cX10_load 37 = .ok (.invokevirtual 171, 3) := by decide +kernel
theorem dX10_load_40 : decode cX10_load 40 = .ok (.ireturn, 1) := by decide +kernel
theorem dX10_load_41 : decode cX10_load 41 = .ok (.aload_n 0, 1) := by decide +kernel
theorem dX10_load_42 : decode cX10_load 42 = .ok (.aload_n 0, 1) := by decide +kernel
theorem dX10_load_43 : decode cX10_load 43 = .ok (.getfield 283, 3) := by decide +kernel
theorem dX10_load_46 : decode cX10_load 46 = .ok (.putfield 69, 3) := by decide +kernel
theorem dX10_load_49 : decode cX10_load 49 = .ok (.aload_n 0, 1) := by decide +kernel
theorem dX10_load_50 : decode cX10_load 50 = .ok (.aload_n 0, 1) := by decide +kernel
theorem dX10_load_51 : decode cX10_load 51 = .ok (.getfield 288, 3) := by decide +kernel
theorem dX10_load_54 : decode cX10_load 54 = .ok (.putfield 76, 3) := by decide +kernel
theorem dX10_load_57 : decode cX10_load 57 = .ok (.aload_n 0, 1) := by decide +kernel
theorem dX10_load_58 : decode cX10_load 58 = .ok (.aload_n 0, 1) := by decide +kernel
theorem dX10_load_59 : decode cX10_load 59 = .ok (.getfield 293, 3) := by decide +kernel
theorem dX10_load_62 : decode cX10_load 62 = .ok (.putfield 158, 3) := by decide +kernel
theorem dX10_load_65 : decode cX10_load 65 = .ok (.aload_n 0, 1) := by decide +kernel
theorem dX10_load_66 : decode cX10_load 66 = .ok (.invokevirtual 305, 3) := by decide +kernel
theorem dX10_load_69 : decode cX10_load 69 = .ok (.aload_n 0, 1) := by decide +kernel
theorem dX10_load_70 : decode cX10_load 70 = .ok (.getfield 69, 3) := by decide +kernel
theorem dX10_load_73 : decode cX10_load 73 = .ok (.ireturn, 1) := by decide +kernel
theorem dX10_readInto_0 : decode cX10_readInto 0 = .ok (.aload_n 0, 1) := by decide +kernel
theorem dX10_readInto_1 : decode cX10_readInto 1 = .ok (.iload_n 2, 1) := by decide +kernel
theorem dX10_readInto_2 : decode cX10_readInto 2 = .ok (.iload_n 3, 1) := by decide +kernel
theorem dX10_readInto_3 : decode cX10_readInto 3 = .ok (.invokevirtual 280, 3) := by decide +kernel
theorem dX10_readInto_6 : decode cX10_readInto 6 = .ok (.ifCond .ne 5, 3) := by decide +kernel
theorem dX10_readInto_9 : decode cX10_readInto 9 = .ok (.iconst 0, 1) := by decide +kernel
theorem dX10_readInto_10 : decode cX10_readInto 10 = .ok (.ireturn, 1) := by decide +kernel
theorem dX10_readInto_11 : decode cX10_readInto 11 = .ok (.aload_n 0, 1) := by decide +kernel
theorem dX10_readInto_12 : decode cX10_readInto 12 = .ok (.getfield 63, 3) := by decide +kernel
theorem dX10_readInto_15 : decode cX10_readInto 15 = .ok (.iconst 4, 1) := by decide +kernel
theorem dX10_readInto_16 : decode cX10_readInto 16 = .ok (.aload_n 0, 1) := by decide +kernel
theorem dX10_readInto_17 : decode cX10_readInto 17 = .ok (.getfield 308, 3) := by decide +kernel
theorem dX10_readInto_20 : decode cX10_readInto 20 = .ok (.imul, 1) := by decide +kernel
theorem dX10_readInto_21 : decode cX10_readInto 21 = .ok (.iload_n 1, 1) := by decide +kernel
theorem dX10_readInto_22 : decode cX10_readInto 22 = .ok (.iadd, 1) := by decide +kernel
theorem dX10_readInto_23 : decode cX10_readInto 23 = .ok (.aload_n 0, 1) := by decide +kernel
theorem dX10_readInto_24 : decode cX10_readInto 24 = .ok (.getfield 271, 3) := by decide +kernel
theorem dX10_readInto_27 : decode cX10_readInto 27 = .ok (.iastore, 1) := by decide +kernel
theorem dX10_readInto_28 : decode cX10_readInto 28 = .ok (.iconst 1, 1) := by decide +kernel
theorem dX10_readInto_29 : decode cX10_readInto 29 = .ok (.ireturn, 1) := by decide +kernel
theorem dX10_readClient_0 : decode cX10_readClient 0 = .ok (.aload_n 0, 1) := by decide +kernel
theorem dX10_readClient_1 : decode cX10_readClient 1 = .ok (.iload_n 1, 1) := by decide +kernel
theorem dX10_readClient_2 : decode cX10_readClient 2 = .ok (.iconst 0, 1) := by decide +kernel
theorem dX10_readClient_3 : decode cX10_readClient 3 = .ok (.aload_n 0, 1) := by decide +kernel
theorem dX10_readClient_4 : decode cX10_readClient 4 = .ok (.getfield 69, 3) := by decide +kernel
theorem dX10_readClient_7 : decode cX10_readClient 7 = .ok (.iconst 1, 1) := by decide +kernel
theorem dX10_readClient_8 : decode cX10_readClient 8 = .ok (.isub, 1) := by decide +kernel
theorem dX10_readClient_9 : decode cX10_readClient 9 = .ok (.invokevirtual 311, 3) := by decide +kernel
theorem dX10_readClient_12 : decode cX10_readClient 12 = .ok (.ireturn, 1) := by decide +kernel
theorem dX10_readBranch_0 : decode cX10_readBranch 0 = .ok (.aload_n 0, 1) := by decide +kernel
theorem dX10_readBranch_1 : decode cX10_readBranch 1 = .ok (.iload_n 1, 1) := by decide +kernel
theorem dX10_readBranch_2 : decode cX10_readBranch 2 = .ok (.iconst 0, 1) := by decide +kernel
theorem dX10_readBranch_3 : decode cX10_readBranch 3 = .ok (.bipush 7, 2) := by decide +kernel
theorem dX10_readBranch_5 : decode cX10_readBranch 5 = .ok (.invokevirtual 311, 3) := by decide +kernel
theorem dX10_readBranch_8 : decode cX10_readBranch 8 = .ok (.ireturn, 1) := by decide +kernel
theorem dX10_isTooMany_0 : decode cX10_isTooMany 0 = .ok (.aload_n 0, 1) := by decide +kernel
theorem dX10_isTooMany_1 : decode cX10_isTooMany 1 = .ok (.getfield 308, 3) := by decide +kernel
theorem dX10_isTooMany_4 : decode cX10_isTooMany 4 = .ok (.bipush 60, 2) := by decide +kernel
theorem dX10_isTooMany_6 : decode cX10_isTooMany 6 = .ok (.if_icmp .ne 16, 3) := by decide +kernel
theorem dX10_isTooMany_9 : decode cX10_isTooMany 9 = .ok (.aload_n 0, 1) := by decide +kernel
theorem dX10_isTooMany_10 : decode cX10_isTooMany 10 = .ok (.iconst 3, 1) := by decide +kernel
theorem dX10_isTooMany_11 : decode cX10_isTooMany 11 = .ok (.iload_n 1, 1) := by decide +kernel
theorem dX10_isTooMany_12 : decode cX10_isTooMany 12 = .ok (.invokevirtual 253, 3) := by decide +kernel
theorem dX10_isTooMany_15 : decode cX10_isTooMany 15 = .ok (.ifCond .ne 7, 3) := by decide +kernel
theorem dX10_isTooMany_18 : decode cX10_isTooMany 18 = .ok (.iconst 1, 1) := by decide +kernel
theorem dX10_isTooMany_19 : decode cX10_isTooMany 19 = .ok (.goto 4, 3) := by decide +kernel
theorem dX10_isTooMany_22 : decode cX10_isTooMany 22 = .ok (.iconst 0, 1) := by decide +kernel
theorem dX10_isTooMany_23 : decode cX10_isTooMany 23 = .ok (.ireturn, 1) := by decide +kernel
theorem dX10_readOperation_0 : decode cX10_readOperation 0 = .ok (.aload_n 0, 1) := by decide +kernel
theorem dX10_readOperation_1 : decode cX10_readOperation 1 = .ok (.getfield 234, 3) := by decide +kernel
theorem dX10_readOperation_4 : decode cX10_readOperation 4 = .ok (.istore_n 1, 1) := by decide +kernel
theorem dX10_readOperation_5 : decode cX10_readOperation 5 = .ok (.aload_n 0, 1) := by decide +kernel
theorem dX10_readOperation_6 : decode cX10_readOperation 6 = .ok (.iconst 0, 1) := by decide +kernel
theorem dX10_readOperation_7 : decode cX10_readOperation 7 = .ok (.aload_n 0, 1) := by decide +kernel
theorem dX10_readOperation_8 : decode cX10_readOperation 8 = .ok (.getfield 69, 3) := by decide +kernel
theorem dX10_readOperation_11 : decode cX10_readOperation 11 = .ok (.iconst 1, 1) := by decide +kernel
theorem dX10_readOperation_12 : decode cX10_readOperation 12 = .ok (.isub, 1) := by decide +kernel
theorem dX10_readOperation_13 : decode cX10_readOperation 13 = .ok (.invokevirtual 280, 3) := by decide +kernel
theorem dX10_readOperation_16 : decode cX10_readOperation 16 = .ok (.ifCond .eq 11, 3) := by decide +kernel
theorem dX10_readOperation_19 : decode cX10_readOperation 19 = .ok (.aload_n 0, 1) := by decide +kernel
theorem dX10_readOperation_20 : decode cX10_readOperation 20 = .ok (.iload_n 1, 1) := by decide +kernel
theorem dX10_readOperation_21 : decode cX10_readOperation 21 = .ok (.invokevirtual 314, 3) := by decide +kernel
theorem dX10_readOperation_24 : decode cX10_readOperation 24 = .ok (.ifCond .eq 5, 3) := by decide +kernel
theorem dX10_readOperation_27 : decode cX10_readOperation 27 = .ok (.iconst 0, 1) := by decide +kernel
theorem dX10_readOperation_28 : decode cX10_readOperation 28 = .ok (.ireturn, 1) := by decide +kernel
theorem dX10_readOperation_29 : decode cX10_readOperation 29 = .ok (.aload_n 0, 1) := by decide +kernel
theorem dX10_readOperation_30 : decode cX10_readOperation 30 = .ok (.getfield 63, 3) := by decide +kernel
theorem dX10_readOperation_33 : decode cX10_readOperation 33 = .ok (.iconst 4, 1) := by decide +kernel
theorem dX10_readOperation_34 : decode cX10_readOperation 34 = .ok (.aload_n 0, 1) := by decide +kernel
theorem dX10_readOperation_35 : decode cX10_readOperation 35 = .ok (.getfield 308, 3) := by decide +kernel
theorem dX10_readOperation_38 : decode cX10_readOperation 38 = .ok (.imul, 1) := by decide +kernel
theorem dX10_readOperation_39 : decode cX10_readOperation 39 = .ok (.iconst 1, 1) := by decide +kernel
theorem dX10_readOperation_40 : decode cX10_readOperation 40 = .ok (.iadd, 1) := by decide +kernel
theorem dX10_readOperation_41 : decode cX10_readOperation 41 = .ok (.aload_n 0, 1) := by decide +kernel
theorem dX10_readOperation_42 : decode cX10_readOperation 42 = .ok (.getfield 271, 3) := by decide +kernel
theorem dX10_readOperation_45 : decode cX10_readOperation 45 = .ok (.iastore, 1) := by decide +kernel
theorem dX10_readOperation_46 : decode cX10_readOperation 46 = .ok (.aload_n 0, 1) := by decide +kernel
theorem dX10_readOperation_47 : decode cX10_readOperation 47 = .ok (.invokevirtual 264, 3) := by decide +kernel
theorem dX10_readOperation_50 : decode cX10_readOperation 50 = .ok (.ifCond .ne 5, 3) := by decide +kernel
theorem dX10_readOperation_53 : decode cX10_readOperation 53 = .ok (.iconst 0, 1) := by decide +kernel
theorem dX10_readOperation_54 : decode cX10_readOperation 54 = .ok (.ireturn, 1) := by decide +kernel
theorem dX10_readOperation_55 : decode cX10_readOperation 55 = .ok (.aload_n 0, 1) := by decide +kernel
theorem dX10_readOperation_56 : decode cX10_readOperation 56 = .ok (.getfield 256, 3) := by decide +kernel
theorem dX10_readOperation_59 : decode cX10_readOperation 59 = .ok (.ldc2_w 317, 3) := by decide +kernel
theorem dX10_readOperation_62 : decode cX10_readOperation 62 = .ok (.lcmp, 1) := by decide +kernel
theorem dX10_readOperation_63 : decode cX10_readOperation 63 = .ok (.ifCond .eq 24, 3) := by decide +kernel
theorem dX10_readOperation_66 : decode cX10_readOperation 66 = .ok (.aload_n 0, 1) := by decide +kernel
theorem dX10_readOperation_67 : decode cX10_readOperation 67 = .ok (.getfield 256, 3) := by decide +kernel
theorem dX10_readOperation_70 : decode cX10_readOperation 70 = .ok (.ldc2_w 319, 3) := by decide +kernel
theorem dX10_readOperation_73 : decode cX10_readOperation 73 = .ok (.lcmp, 1) := by decide +kernel
theorem dX10_readOperation_74 : decode cX10_readOperation 74 = .ok (.ifCond .eq 13, 3) := by decide +kernel
theorem dX10_readOperation_77 : decode cX10_readOperation 77 = .ok (.aload_n 0, 1) := by decide +kernel
theorem dX10_readOperation_78 : decode cX10_readOperation 78 = .ok (.iconst 1, 1) := by decide +kernel
theorem dX10_readOperation_79 : decode cX10_readOperation 79 = .ok (.aload_n 0, 1) := by decide +kernel
theorem dX10_readOperation_80 : decode cX10_readOperation 80 = .ok (.getfield 240, 3) := by decide +kernel
theorem dX10_readOperation_83 : decode cX10_readOperation 83 = .ok (.invokevirtual 253, 3) := by decide +kernel
theorem dX10_readOperation_86 : decode cX10_readOperation 86 = .ok (.ireturn, 1) := by decide +kernel
theorem dX10_readOperation_87 : decode cX10_readOperation 87 = .ok (.aload_n 0, 1) := by decide +kernel
theorem dX10_readOperation_88 : decode cX10_readOperation 88 = .ok (.getfield 256, 3) := by decide +kernel
theorem dX10_readOperation_91 : decode cX10_readOperation 91 = .ok (.ldc2_w 317, 3) := by decide +kernel
theorem dX10_readOperation_94 : decode cX10_readOperation 94 = .ok (.lcmp, 1) := by decide +kernel
theorem dX10_readOperation_95 : decode cX10_readOperation 95 = .ok (.ifCond .ne 7, 3) := by decide +kernel
theorem dX10_readOperation_98 : decode cX10_readOperation 98 = .ok (.iconst 1, 1) := by decide +kernel
theorem dX10_readOperation_99 : decode cX10_readOperation 99 = .ok (.goto 4, 3) := by decide +kernel
theorem dX10_readOperation_102 : decode cX10_readOperation 102 = .ok (.iconst 0, 1) := by decide +kernel
theorem dX10_readOperation_103 : decode cX10_readOperation 103 = .ok (.istore_n 2, 1) := by decide +kernel
theorem dX10_readOperation_104 : decode cX10_readOperation 104 = .ok (.aload_n 0, 1) := by decide +kernel
theorem dX10_readOperation_105 : decode cX10_readOperation 105 = .ok (.getfield 63, 3) := by decide +kernel
theorem dX10_readOperation_108 : decode cX10_readOperation 108 = .ok (.iconst 4, 1) := by decide +kernel
theorem dX10_readOperation_109 : decode cX10_readOperation 109 = .ok (.aload_n 0, 1) := by decide +kernel
theorem dX10_readOperation_110 : decode cX10_readOperation 110 = .ok (.getfield 308, 3) := by decide +kernel
theorem dX10_readOperation_113 : decode cX10_readOperation 113 = .ok (.imul, 1) := by decide +kernel
theorem dX10_readOperation_114 : decode cX10_readOperation 114 = .ok (.iload_n 2, 1) := by decide +kernel
theorem dX10_readOperation_115 : decode cX10_readOperation 115 = .ok (.ifCond .eq 7, 3) := by decide +kernel
theorem dX10_readOperation_118 : decode cX10_readOperation 118 = .ok (.iconst 0, 1) := by decide +kernel
theorem dX10_readOperation_119 : decode cX10_readOperation 119 = .ok (.goto 4, 3) := by decide +kernel
theorem dX10_readOperation_122 : decode cX10_readOperation 122 = .ok (.iconst 1, 1) := by decide +kernel
theorem dX10_readOperation_123 : decode cX10_readOperation 123 = .ok (.iastore, 1) := by decide +kernel
theorem dX10_readOperation_124 : decode cX10_readOperation 124 = .ok (.aload_n 0, 1) := by decide +kernel
theorem dX10_readOperation_125 : decode cX10_readOperation 125 = .ok (.iconst 2, 1) := by decide +kernel
theorem dX10_readOperation_126 : decode cX10_readOperation 126 = .ok (.iconst 0, 1) := by decide +kernel
theorem dX10_readOperation_127 : decode cX10_readOperation 127 = .ok (.aload_n 0, 1) := by decide +kernel
theorem dX10_readOperation_128 : decode cX10_readOperation 128 = .ok (.getfield 76, 3) := by decide +kernel
theorem dX10_readOperation_131 : decode cX10_readOperation 131 = .ok (.iconst 1, 1) := by decide +kernel
theorem dX10_readOperation_132 : decode cX10_readOperation 132 = .ok (.isub, 1) := by decide +kernel
theorem dX10_readOperation_133 : decode cX10_readOperation 133 = .ok (.invokevirtual 311, 3) := by decide +kernel
theorem dX10_readOperation_136 : decode cX10_readOperation 136 = .ok (.ifCond .eq 22, 3) := by decide +kernel
theorem dX10_readOperation_139 : decode cX10_readOperation 139 = .ok (.iload_n 2, 1) := by decide +kernel
theorem dX10_readOperation_140 : decode cX10_readOperation 140 = .ok (.ifCond .eq 14, 3) := by decide +kernel
theorem dX10_readOperation_143 : decode cX10_readOperation 143 = .ok (.aload_n 0, 1) := by decide +kernel
theorem dX10_readOperation_144 : decode cX10_readOperation 144 = .ok (.iconst 3, 1) := by decide +kernel
theorem dX10_readOperation_145 : decode cX10_readOperation 145 = .ok (.iconst 0, 1) := by decide +kernel
theorem dX10_readOperation_146 : decode cX10_readOperation 146 = .ok (.ldc 174, 2) := by decide +kernel
theorem dX10_readOperation_148 : decode cX10_readOperation 148 = .ok (.invokevirtual 311, 3) := by decide +kernel
theorem dX10_readOperation_151 : decode cX10_readOperation 151 = .ok (.ifCond .eq 7, 3) := by decide +kernel
theorem dX10_readOperation_154 : decode cX10_readOperation 154 = .ok (.iconst 1, 1) := by decide +kernel
theorem dX10_readOperation_155 : decode cX10_readOperation 155 = .ok (.goto 4, 3) := by decide +kernel
theorem dX10_readOperation_158 : decode cX10_readOperation 158 = .ok (.iconst 0, 1) := by decide +kernel
theorem dX10_readOperation_159 : decode cX10_readOperation 159 = .ok (.ireturn, 1) := by decide +kernel
theorem dX10_readFork_0 : decode cX10_readFork 0 = .ok (.iconst 0, 1) := by decide +kernel
theorem dX10_readFork_1 : decode cX10_readFork 1 = .ok (.istore_n 1, 1) := by decide +kernel
theorem dX10_readFork_2 : decode cX10_readFork 2 = .ok (.aload_n 0, 1) := by decide +kernel
theorem dX10_readFork_3 : decode cX10_readFork 3 = .ok (.iconst 1, 1) := by decide +kernel
theorem dX10_readFork_4 : decode cX10_readFork 4 = .ok (.invokevirtual 321, 3) := by decide +kernel
theorem dX10_readFork_7 : decode cX10_readFork 7 = .ok (.ifCond .ne 5, 3) := by decide +kernel
theorem dX10_readFork_10 : decode cX10_readFork 10 = .ok (.iconst 0, 1) := by decide +kernel
theorem dX10_readFork_11 : decode cX10_readFork 11 = .ok (.ireturn, 1) := by decide +kernel
theorem dX10_readFork_12 : decode cX10_readFork 12 = .ok (.iload_n 1, 1) := by decide +kernel
theorem dX10_readFork_13 : decode cX10_readFork 13 = .ok (.iconst 1, 1) := by decide +kernel
theorem dX10_readFork_14 : decode cX10_readFork 14 = .ok (.aload_n 0, 1) := by decide +kernel
theorem dX10_readFork_15 : decode cX10_readFork 15 = .ok (.getfield 271, 3) := by decide +kernel
theorem dX10_readFork_18 : decode cX10_readFork 18 = .ok (.ishl, 1) := by decide +kernel
theorem dX10_readFork_19 : decode cX10_readFork 19 = .ok (.ior, 1) := by decide +kernel
theorem dX10_readFork_20 : decode cX10_readFork 20 = .ok (.istore_n 1, 1) := by decide +kernel
theorem dX10_readFork_21 : decode cX10_readFork 21 = .ok (.aload_n 0, 1) := by decide +kernel
theorem dX10_readFork_22 : decode cX10_readFork 22 = .ok (.invokevirtual 243, 3) := by decide +kernel
theorem dX10_readFork_25 : decode cX10_readFork 25 = .ok (.invokestatic 268, 3) := by decide +kernel
theorem dX10_readFork_28 : decode cX10_readFork 28 = .ok (.ifCond .ne (-26), 3) := by decide +kernel
theorem dX10_readFork_31 : decode cX10_readFork 31 = .ok (.aload_n 0, 1) := by decide +kernel
theorem dX10_readFork_32 : decode cX10_readFork 32 = .ok (.getfield 63, 3) := by decide +kernel
theorem dX10_readFork_35 : decode cX10_readFork 35 = .ok (.iconst 4, 1) := by decide +kernel
theorem dX10_readFork_36 : decode cX10_readFork 36 = .ok (.aload_n 0, 1) := by decide +kernel
theorem dX10_readFork_37 : decode cX10_readFork 37 = .ok (.getfield 308, 3) := by decide +kernel
theorem dX10_readFork_40 : decode cX10_readFork 40 = .ok (.imul, 1) := by decide +kernel
theorem dX10_readFork_41 : decode cX10_readFork 41 = .ok (.iconst 1, 1) := by decide +kernel
theorem dX10_readFork_42 : decode cX10_readFork 42 = .ok (.iadd, 1) := by decide +kernel
theorem dX10_readFork_43 : decode cX10_readFork 43 = .ok (.iload_n 1, 1) := by decide +kernel
theorem dX10_readFork_44 : decode cX10_readFork 44 = .ok (.iastore, 1) := by decide +kernel
theorem dX10_readFork_45 : decode cX10_readFork 45 = .ok (.iconst 1, 1) := by decide +kernel
theorem dX10_readFork_46 : decode cX10_readFork 46 = .ok (.ireturn, 1) := by decide +kernel
theorem dX10_stepOf_0 : decode cX10_stepOf 0 = .ok (.lload_n 1, 1) := by decide +kernel
theorem dX10_stepOf_1 : decode cX10_stepOf 1 = .ok (.ldc2_w 324, 3) := by decide +kernel
theorem dX10_stepOf_4 : decode cX10_stepOf 4 = .ok (.lcmp, 1) := by decide +kernel
theorem dX10_stepOf_5 : decode cX10_stepOf 5 = .ok (.ifCond .ne 5, 3) := by decide +kernel
theorem dX10_stepOf_8 : decode cX10_stepOf 8 = .ok (.iconst 2, 1) := by decide +kernel
theorem dX10_stepOf_9 : decode cX10_stepOf 9 = .ok (.ireturn, 1) := by decide +kernel
theorem dX10_stepOf_10 : decode cX10_stepOf 10 = .ok (.lload_n 1, 1) := by decide +kernel
theorem dX10_stepOf_11 : decode cX10_stepOf 11 = .ok (.ldc2_w 326, 3) := by decide +kernel
theorem dX10_stepOf_14 : decode cX10_stepOf 14 = .ok (.lcmp, 1) := by decide +kernel
theorem dX10_stepOf_15 : decode cX10_stepOf 15 = .ok (.ifCond .ne 5, 3) := by decide +kernel
theorem dX10_stepOf_18 : decode cX10_stepOf 18 = .ok (.iconst 3, 1) := by decide +kernel
theorem dX10_stepOf_19 : decode cX10_stepOf 19 = .ok (.ireturn, 1) := by decide +kernel
theorem dX10_stepOf_20 : decode cX10_stepOf 20 = .ok (.lload_n 1, 1) := by decide +kernel
theorem dX10_stepOf_21 : decode cX10_stepOf 21 = .ok (.ldc2_w 328, 3) := by decide +kernel
theorem dX10_stepOf_24 : decode cX10_stepOf 24 = .ok (.lcmp, 1) := by decide +kernel
theorem dX10_stepOf_25 : decode cX10_stepOf 25 = .ok (.ifCond .ne 5, 3) := by decide +kernel
theorem dX10_stepOf_28 : decode cX10_stepOf 28 = .ok (.iconst 4, 1) := by decide +kernel
theorem dX10_stepOf_29 : decode cX10_stepOf 29 = .ok (.ireturn, 1) := by decide +kernel
theorem dX10_stepOf_30 : decode cX10_stepOf 30 = .ok (.lload_n 1, 1) := by decide +kernel
theorem dX10_stepOf_31 : decode cX10_stepOf 31 = .ok (.ldc2_w 330, 3) := by decide +kernel
theorem dX10_stepOf_34 : decode cX10_stepOf 34 = .ok (.lcmp, 1) := by decide +kernel
theorem dX10_stepOf_35 : decode cX10_stepOf 35 = .ok (.ifCond .ne 5, 3) := by decide +kernel
theorem dX10_stepOf_38 : decode cX10_stepOf 38 = .ok (.iconst 5, 1) := by decide +kernel
theorem dX10_stepOf_39 : decode cX10_stepOf 39 = .ok (.ireturn, 1) := by decide +kernel
theorem dX10_stepOf_40 : decode cX10_stepOf 40 = .ok (.lload_n 1, 1) := by decide +kernel
theorem dX10_stepOf_41 : decode cX10_stepOf 41 = .ok (.ldc2_w 332, 3) := by decide +kernel
theorem dX10_stepOf_44 : decode cX10_stepOf 44 = .ok (.lcmp, 1) := by decide +kernel
theorem dX10_stepOf_45 : decode cX10_stepOf 45 = .ok (.ifCond .ne 6, 3) := by decide +kernel
theorem dX10_stepOf_48 : decode cX10_stepOf 48 = .ok (.bipush 6, 2) := by decide +kernel
theorem dX10_stepOf_50 : decode cX10_stepOf 50 = .ok (.ireturn, 1) := by decide +kernel
theorem dX10_stepOf_51 : decode cX10_stepOf 51 = .ok (.lload_n 1, 1) := by decide +kernel
theorem dX10_stepOf_52 : decode cX10_stepOf 52 = .ok (.ldc2_w 334, 3) := by decide +kernel
theorem dX10_stepOf_55 : decode cX10_stepOf 55 = .ok (.lcmp, 1) := by decide +kernel
theorem dX10_stepOf_56 : decode cX10_stepOf 56 = .ok (.ifCond .ne 6, 3) := by decide +kernel
theorem dX10_stepOf_59 : decode cX10_stepOf 59 = .ok (.bipush 7, 2) := by decide +kernel
theorem dX10_stepOf_61 : decode cX10_stepOf 61 = .ok (.ireturn, 1) := by decide +kernel
theorem dX10_stepOf_62 : decode cX10_stepOf 62 = .ok (.lload_n 1, 1) := by decide +kernel
theorem dX10_stepOf_63 : decode cX10_stepOf 63 = .ok (.ldc2_w 336, 3) := by decide +kernel
theorem dX10_stepOf_66 : decode cX10_stepOf 66 = .ok (.lcmp, 1) := by decide +kernel
theorem dX10_stepOf_67 : decode cX10_stepOf 67 = .ok (.ifCond .ne 8, 3) := by decide +kernel
theorem dX10_stepOf_70 : decode cX10_stepOf 70 = .ok (.bipush 8, 2) := by decide +kernel
theorem dX10_stepOf_72 : decode cX10_stepOf 72 = .ok (.goto 4, 3) := by decide +kernel
theorem dX10_stepOf_75 : decode cX10_stepOf 75 = .ok (.iconst (-1), 1) := by decide +kernel
theorem dX10_stepOf_76 : decode cX10_stepOf 76 = .ok (.ireturn, 1) := by decide +kernel
theorem dX10_readRest_0 : decode cX10_readRest 0 = .ok (.iload_n 1, 1) := by decide +kernel
theorem dX10_readRest_1 : decode cX10_readRest 1 = .ok (.tableswitch 157 2 7 #[39, 44, 66, 92, 129, 151], 39) := by decide +kernel
theorem dX10_readRest_40 : decode cX10_readRest 40 = .ok (.aload_n 0, 1) := by decide +kernel
theorem dX10_readRest_41 : decode cX10_readRest 41 = .ok (.invokevirtual 338, 3) := by decide +kernel
theorem dX10_readRest_44 : decode cX10_readRest 44 = .ok (.ireturn, 1) := by decide +kernel
theorem dX10_readRest_45 : decode cX10_readRest 45 = .ok (.aload_n 0, 1) := by decide +kernel
theorem dX10_readRest_46 : decode cX10_readRest 46 = .ok (.iconst 1, 1) := by decide +kernel
theorem dX10_readRest_47 : decode cX10_readRest 47 = .ok (.invokevirtual 321, 3) := by decide +kernel
theorem dX10_readRest_50 : decode cX10_readRest 50 = .ok (.ifCond .eq 15, 3) := by decide +kernel
theorem dX10_readRest_53 : decode cX10_readRest 53 = .ok (.aload_n 0, 1) := by decide +kernel
theorem dX10_readRest_54 : decode cX10_readRest 54 = .ok (.iconst 2, 1) := by decide +kernel
theorem dX10_readRest_55 : decode cX10_readRest 55 = .ok (.invokevirtual 341, 3) := by decide +kernel
theorem dX10_readRest_58 : decode cX10_readRest 58 = .ok (.ifCond .eq 7, 3) := by decide +kernel
theorem dX10_readRest_61 : decode cX10_readRest 61 = .ok (.iconst 1, 1) := by decide +kernel
theorem dX10_readRest_62 : decode cX10_readRest 62 = .ok (.goto 4, 3) := by decide +kernel
theorem dX10_readRest_65 : decode cX10_readRest 65 = .ok (.iconst 0, 1) := by decide +kernel
theorem dX10_readRest_66 : decode cX10_readRest 66 = .ok (.ireturn, 1) := by decide +kernel
theorem dX10_readRest_67 : decode cX10_readRest 67 = .ok (.aload_n 0, 1) := by decide +kernel
theorem dX10_readRest_68 : decode cX10_readRest 68 = .ok (.iconst 1, 1) := by decide +kernel
theorem dX10_readRest_69 : decode cX10_readRest 69 = .ok (.invokevirtual 341, 3) := by decide +kernel
theorem dX10_readRest_72 : decode cX10_readRest 72 = .ok (.ifCond .eq 19, 3) := by decide +kernel
theorem dX10_readRest_75 : decode cX10_readRest 75 = .ok (.aload_n 0, 1) := by decide +kernel
theorem dX10_readRest_76 : decode cX10_readRest 76 = .ok (.iconst 2, 1) := by decide +kernel
theorem dX10_readRest_77 : decode cX10_readRest 77 = .ok (.iconst 1, 1) := by decide +kernel
theorem dX10_readRest_78 : decode cX10_readRest 78 = .ok (.sipush 200, 3) := by decide +kernel
theorem dX10_readRest_81 : decode cX10_readRest 81 = .ok (.invokevirtual 311, 3) := by decide +kernel
theorem dX10_readRest_84 : decode cX10_readRest 84 = .ok (.ifCond .eq 7, 3) := by decide +kernel
theorem dX10_readRest_87 : decode cX10_readRest 87 = .ok (.iconst 1, 1) := by decide +kernel
theorem dX10_readRest_88 : decode cX10_readRest 88 = .ok (.goto 4, 3) := by decide +kernel
theorem dX10_readRest_91 : decode cX10_readRest 91 = .ok (.iconst 0, 1) := by decide +kernel
theorem dX10_readRest_92 : decode cX10_readRest 92 = .ok (.ireturn, 1) := by decide +kernel
theorem dX10_readRest_93 : decode cX10_readRest 93 = .ok (.aload_n 0, 1) := by decide +kernel
theorem dX10_readRest_94 : decode cX10_readRest 94 = .ok (.iconst 1, 1) := by decide +kernel
theorem dX10_readRest_95 : decode cX10_readRest 95 = .ok (.invokevirtual 341, 3) := by decide +kernel
theorem dX10_readRest_98 : decode cX10_readRest 98 = .ok (.ifCond .eq 30, 3) := by decide +kernel
theorem dX10_readRest_101 : decode cX10_readRest 101 = .ok (.aload_n 0, 1) := by decide +kernel
theorem dX10_readRest_102 : decode cX10_readRest 102 = .ok (.iconst 2, 1) := by decide +kernel
theorem dX10_readRest_103 : decode cX10_readRest 103 = .ok (.iconst 1, 1) := by decide +kernel
theorem dX10_readRest_104 : decode cX10_readRest 104 = .ok (.sipush 200, 3) := by decide +kernel
theorem dX10_readRest_107 : decode cX10_readRest 107 = .ok (.invokevirtual 311, 3) := by decide +kernel
theorem dX10_readRest_110 : decode cX10_readRest 110 = .ok (.ifCond .eq 18, 3) := by decide +kernel
theorem dX10_readRest_113 : decode cX10_readRest 113 = .ok (.aload_n 0, 1) := by decide +kernel
theorem dX10_readRest_114 : decode cX10_readRest 114 = .ok (.iconst 3, 1) := by decide +kernel
theorem dX10_readRest_115 : decode cX10_readRest 115 = .ok (.iconst 0, 1) := by decide +kernel
theorem dX10_readRest_116 : decode cX10_readRest 116 = .ok (.ldc 174, 2) := by decide +kernel
theorem dX10_readRest_118 : decode cX10_readRest 118 = .ok (.invokevirtual 311, 3) := by decide +kernel
theorem dX10_readRest_121 : decode cX10_readRest 121 = .ok (.ifCond .eq 7, 3) := by decide +kernel
theorem dX10_readRest_124 : decode cX10_readRest 124 = .ok (.iconst 1, 1) := by decide +kernel
theorem dX10_readRest_125 : decode cX10_readRest 125 = .ok (.goto 4, 3) := by decide +kernel
theorem dX10_readRest_128 : decode cX10_readRest 128 = .ok (.iconst 0, 1) := by decide +kernel
theorem dX10_readRest_129 : decode cX10_readRest 129 = .ok (.ireturn, 1) := by decide +kernel
theorem dX10_readRest_130 : decode cX10_readRest 130 = .ok (.aload_n 0, 1) := by decide +kernel
theorem dX10_readRest_131 : decode cX10_readRest 131 = .ok (.iconst 1, 1) := by decide +kernel
theorem dX10_readRest_132 : decode cX10_readRest 132 = .ok (.invokevirtual 321, 3) := by decide +kernel
theorem dX10_readRest_135 : decode cX10_readRest 135 = .ok (.ifCond .eq 15, 3) := by decide +kernel
theorem dX10_readRest_138 : decode cX10_readRest 138 = .ok (.aload_n 0, 1) := by decide +kernel
theorem dX10_readRest_139 : decode cX10_readRest 139 = .ok (.iconst 2, 1) := by decide +kernel
theorem dX10_readRest_140 : decode cX10_readRest 140 = .ok (.invokevirtual 321, 3) := by decide +kernel
theorem dX10_readRest_143 : decode cX10_readRest 143 = .ok (.ifCond .eq 7, 3) := by decide +kernel
theorem dX10_readRest_146 : decode cX10_readRest 146 = .ok (.iconst 1, 1) := by decide +kernel
theorem dX10_readRest_147 : decode cX10_readRest 147 = .ok (.goto 4, 3) := by decide +kernel
theorem dX10_readRest_150 : decode cX10_readRest 150 = .ok (.iconst 0, 1) := by decide +kernel
theorem dX10_readRest_151 : decode cX10_readRest 151 = .ok (.ireturn, 1) := by decide +kernel
theorem dX10_readRest_152 : decode cX10_readRest 152 = .ok (.aload_n 0, 1) := by decide +kernel
theorem dX10_readRest_153 : decode cX10_readRest 153 = .ok (.iconst 1, 1) := by decide +kernel
theorem dX10_readRest_154 : decode cX10_readRest 154 = .ok (.invokevirtual 321, 3) := by decide +kernel
theorem dX10_readRest_157 : decode cX10_readRest 157 = .ok (.ireturn, 1) := by decide +kernel
theorem dX10_readRest_158 : decode cX10_readRest 158 = .ok (.aload_n 0, 1) := by decide +kernel
theorem dX10_readRest_159 : decode cX10_readRest 159 = .ok (.iconst 1, 1) := by decide +kernel
theorem dX10_readRest_160 : decode cX10_readRest 160 = .ok (.invokevirtual 341, 3) := by decide +kernel
theorem dX10_readRest_163 : decode cX10_readRest 163 = .ok (.ifCond .eq 15, 3) := by decide +kernel
theorem dX10_readRest_166 : decode cX10_readRest 166 = .ok (.aload_n 0, 1) := by decide +kernel
theorem dX10_readRest_167 : decode cX10_readRest 167 = .ok (.iconst 2, 1) := by decide +kernel
theorem dX10_readRest_168 : decode cX10_readRest 168 = .ok (.invokevirtual 341, 3) := by decide +kernel
theorem dX10_readRest_171 : decode cX10_readRest 171 = .ok (.ifCond .eq 7, 3) := by decide +kernel
theorem dX10_readRest_174 : decode cX10_readRest 174 = .ok (.iconst 1, 1) := by decide +kernel
theorem dX10_readRest_175 : decode cX10_readRest 175 = .ok (.goto 4, 3) := by decide +kernel
theorem dX10_readRest_178 : decode cX10_readRest 178 = .ok (.iconst 0, 1) := by decide +kernel
theorem dX10_readRest_179 : decode cX10_readRest 179 = .ok (.ireturn, 1) := by decide +kernel
theorem dX10_readStep_0 : decode cX10_readStep 0 = .ok (.aload_n 0, 1) := by decide +kernel
theorem dX10_readStep_1 : decode cX10_readStep 1 = .ok (.invokevirtual 243, 3) := by decide +kernel
theorem dX10_readStep_4 : decode cX10_readStep 4 = .ok (.invokestatic 268, 3) := by decide +kernel
theorem dX10_readStep_7 : decode cX10_readStep 7 = .ok (.ifCond .eq 23, 3) := by decide +kernel
theorem dX10_readStep_10 : decode cX10_readStep 10 = .ok (.aload_n 0, 1) := by decide +kernel
theorem dX10_readStep_11 : decode cX10_readStep 11 = .ok (.invokevirtual 344, 3) := by decide +kernel
theorem dX10_readStep_14 : decode cX10_readStep 14 = .ok (.ifCond .eq 14, 3) := by decide +kernel
theorem dX10_readStep_17 : decode cX10_readStep 17 = .ok (.aload_n 0, 1) := by decide +kernel
theorem dX10_readStep_18 : decode cX10_readStep 18 = .ok (.invokevirtual 296, 3) := by decide +kernel
theorem dX10_readStep_21 : decode cX10_readStep 21 = .ok (.ifCond .eq 7, 3) := by decide +kernel
theorem dX10_readStep_24 : decode cX10_readStep 24 = .ok (.iconst 1, 1) := by decide +kernel
theorem dX10_readStep_25 : decode cX10_readStep 25 = .ok (.goto 4, 3) := by decide +kernel
theorem dX10_readStep_28 : decode cX10_readStep 28 = .ok (.iconst 0, 1) := by decide +kernel
theorem dX10_readStep_29 : decode cX10_readStep 29 = .ok (.ireturn, 1) := by decide +kernel
theorem dX10_readStep_30 : decode cX10_readStep 30 = .ok (.aload_n 0, 1) := by decide +kernel
theorem dX10_readStep_31 : decode cX10_readStep 31 = .ok (.invokevirtual 264, 3) := by decide +kernel
theorem dX10_readStep_34 : decode cX10_readStep 34 = .ok (.ifCond .ne 5, 3) := by decide +kernel
theorem dX10_readStep_37 : decode cX10_readStep 37 = .ok (.iconst 0, 1) := by decide +kernel
theorem dX10_readStep_38 : decode cX10_readStep 38 = .ok (.ireturn, 1) := by decide +kernel
theorem dX10_readStep_39 : decode cX10_readStep 39 = .ok (.aload_n 0, 1) := by decide +kernel
theorem dX10_readStep_40 : decode cX10_readStep 40 = .ok (.aload_n 0, 1) := by decide +kernel
theorem dX10_readStep_41 : decode cX10_readStep 41 = .ok (.getfield 256, 3) := by decide +kernel
theorem dX10_readStep_44 : decode cX10_readStep 44 = .ok (.invokevirtual 347, 3) := by decide +kernel
theorem dX10_readStep_47 : decode cX10_readStep 47 = .ok (.istore_n 1, 1) := by decide +kernel
theorem dX10_readStep_48 : decode cX10_readStep 48 = .ok (.iload_n 1, 1) := by decide +kernel
theorem dX10_readStep_49 : decode cX10_readStep 49 = .ok (.iconst (-1), 1) := by decide +kernel
theorem dX10_readStep_50 : decode cX10_readStep 50 = .ok (.if_icmp .ne 13, 3) := by decide +kernel
theorem dX10_readStep_53 : decode cX10_readStep 53 = .ok (.aload_n 0, 1) := by decide +kernel
theorem dX10_readStep_54 : decode cX10_readStep 54 = .ok (.iconst 1, 1) := by decide +kernel
theorem dX10_readStep_55 : decode cX10_readStep 55 = .ok (.aload_n 0, 1) := by decide +kernel
theorem dX10_readStep_56 : decode cX10_readStep 56 = .ok (.getfield 240, 3) := by decide +kernel
theorem dX10_readStep_59 : decode cX10_readStep 59 = .ok (.invokevirtual 253, 3) := by decide +kernel
theorem dX10_readStep_62 : decode cX10_readStep 62 = .ok (.ireturn, 1) := by decide +kernel
theorem dX10_readStep_63 : decode cX10_readStep 63 = .ok (.aload_n 0, 1) := by decide +kernel
theorem dX10_readStep_64 : decode cX10_readStep 64 = .ok (.aload_n 0, 1) := by decide +kernel
theorem dX10_readStep_65 : decode cX10_readStep 65 = .ok (.getfield 240, 3) := by decide +kernel
theorem dX10_readStep_68 : decode cX10_readStep 68 = .ok (.invokevirtual 314, 3) := by decide +kernel
theorem dX10_readStep_71 : decode cX10_readStep 71 = .ok (.ifCond .eq 5, 3) := by decide +kernel
theorem dX10_readStep_74 : decode cX10_readStep 74 = .ok (.iconst 0, 1) := by decide +kernel
theorem dX10_readStep_75 : decode cX10_readStep 75 = .ok (.ireturn, 1) := by decide +kernel
theorem dX10_readStep_76 : decode cX10_readStep 76 = .ok (.aload_n 0, 1) := by decide +kernel
theorem dX10_readStep_77 : decode cX10_readStep 77 = .ok (.getfield 63, 3) := by decide +kernel
theorem dX10_readStep_80 : decode cX10_readStep 80 = .ok (.iconst 4, 1) := by decide +kernel
theorem dX10_readStep_81 : decode cX10_readStep 81 = .ok (.aload_n 0, 1) := by decide +kernel
theorem dX10_readStep_82 : decode cX10_readStep 82 = .ok (.getfield 308, 3) := by decide +kernel
theorem dX10_readStep_85 : decode cX10_readStep 85 = .ok (.imul, 1) := by decide +kernel
theorem dX10_readStep_86 : decode cX10_readStep 86 = .ok (.iload_n 1, 1) := by decide +kernel
theorem dX10_readStep_87 : decode cX10_readStep 87 = .ok (.iastore, 1) := by decide +kernel
theorem dX10_readStep_88 : decode cX10_readStep 88 = .ok (.aload_n 0, 1) := by decide +kernel
theorem dX10_readStep_89 : decode cX10_readStep 89 = .ok (.iload_n 1, 1) := by decide +kernel
theorem dX10_readStep_90 : decode cX10_readStep 90 = .ok (.invokevirtual 350, 3) := by decide +kernel
theorem dX10_readStep_93 : decode cX10_readStep 93 = .ok (.ifCond .eq 14, 3) := by decide +kernel
theorem dX10_readStep_96 : decode cX10_readStep 96 = .ok (.aload_n 0, 1) := by decide +kernel
theorem dX10_readStep_97 : decode cX10_readStep 97 = .ok (.invokevirtual 296, 3) := by decide +kernel
theorem dX10_readStep_100 : decode cX10_readStep 100 = .ok (.ifCond .eq 7, 3) := by decide +kernel
theorem dX10_readStep_103 : decode cX10_readStep 103 = .ok (.iconst 1, 1) := by decide +kernel
theorem dX10_readStep_104 : decode cX10_readStep 104 = .ok (.goto 4, 3) := by decide +kernel
theorem dX10_readStep_107 : decode cX10_readStep 107 = .ok (.iconst 0, 1) := by decide +kernel
theorem dX10_readStep_108 : decode cX10_readStep 108 = .ok (.ireturn, 1) := by decide +kernel
theorem dX10_readScript_0 : decode cX10_readScript 0 = .ok (.aload_n 0, 1) := by decide +kernel
theorem dX10_readScript_1 : decode cX10_readScript 1 = .ok (.iconst 0, 1) := by decide +kernel
theorem dX10_readScript_2 : decode cX10_readScript 2 = .ok (.putfield 308, 3) := by decide +kernel
theorem dX10_readScript_5 : decode cX10_readScript 5 = .ok (.aload_n 0, 1) := by decide +kernel
theorem dX10_readScript_6 : decode cX10_readScript 6 = .ok (.invokevirtual 243, 3) := by decide +kernel
theorem dX10_readScript_9 : decode cX10_readScript 9 = .ok (.iconst (-1), 1) := by decide +kernel
theorem dX10_readScript_10 : decode cX10_readScript 10 = .ok (.if_icmp .eq 25, 3) := by decide +kernel
theorem dX10_readScript_13 : decode cX10_readScript 13 = .ok (.aload_n 0, 1) := by decide +kernel
theorem dX10_readScript_14 : decode cX10_readScript 14 = .ok (.invokevirtual 353, 3) := by decide +kernel
theorem dX10_readScript_17 : decode cX10_readScript 17 = .ok (.ifCond .ne 5, 3) := by decide +kernel
theorem dX10_readScript_20 : decode cX10_readScript 20 = .ok (.iconst 0, 1) := by decide +kernel
theorem dX10_readScript_21 : decode cX10_readScript 21 = .ok (.ireturn, 1) := by decide +kernel
theorem dX10_readScript_22 : decode cX10_readScript 22 = .ok (.aload_n 0, 1) := by decide +kernel
theorem dX10_readScript_23 : decode cX10_readScript 23 = .ok (.aload_n 0, 1) := by decide +kernel
theorem dX10_readScript_24 : decode cX10_readScript 24 = .ok (.getfield 308, 3) := by decide +kernel
theorem dX10_readScript_27 : decode cX10_readScript 27 = .ok (.iconst 1, 1) := by decide +kernel
theorem dX10_readScript_28 : decode cX10_readScript 28 = .ok (.iadd, 1) := by decide +kernel
theorem dX10_readScript_29 : decode cX10_readScript 29 = .ok (.putfield 308, 3) := by decide +kernel
theorem dX10_readScript_32 : decode cX10_readScript 32 = .ok (.goto (-27), 3) := by decide +kernel
theorem dX10_readScript_35 : decode cX10_readScript 35 = .ok (.iconst 1, 1) := by decide +kernel
theorem dX10_readScript_36 : decode cX10_readScript 36 = .ok (.ireturn, 1) := by decide +kernel
theorem dX10_doesStep_0 : decode cX10_doesStep 0 = .ok (.aload_n 0, 1) := by decide +kernel
theorem dX10_doesStep_1 : decode cX10_doesStep 1 = .ok (.getfield 63, 3) := by decide +kernel
theorem dX10_doesStep_4 : decode cX10_doesStep 4 = .ok (.iconst 4, 1) := by decide +kernel
theorem dX10_doesStep_5 : decode cX10_doesStep 5 = .ok (.iload_n 1, 1) := by decide +kernel
theorem dX10_doesStep_6 : decode cX10_doesStep 6 = .ok (.imul, 1) := by decide +kernel
theorem dX10_doesStep_7 : decode cX10_doesStep 7 = .ok (.iconst 1, 1) := by decide +kernel
theorem dX10_doesStep_8 : decode cX10_doesStep 8 = .ok (.iadd, 1) := by decide +kernel
theorem dX10_doesStep_9 : decode cX10_doesStep 9 = .ok (.iaload, 1) := by decide +kernel
theorem dX10_doesStep_10 : decode cX10_doesStep 10 = .ok (.istore_n 2, 1) := by decide +kernel
theorem dX10_doesStep_11 : decode cX10_doesStep 11 = .ok (.aload_n 0, 1) := by decide +kernel
theorem dX10_doesStep_12 : decode cX10_doesStep 12 = .ok (.getfield 63, 3) := by decide +kernel
theorem dX10_doesStep_15 : decode cX10_doesStep 15 = .ok (.iconst 4, 1) := by decide +kernel
theorem dX10_doesStep_16 : decode cX10_doesStep 16 = .ok (.iload_n 1, 1) := by decide +kernel
theorem dX10_doesStep_17 : decode cX10_doesStep 17 = .ok (.imul, 1) := by decide +kernel
theorem dX10_doesStep_18 : decode cX10_doesStep 18 = .ok (.iconst 2, 1) := by decide +kernel
theorem dX10_doesStep_19 : decode cX10_doesStep 19 = .ok (.iadd, 1) := by decide +kernel
theorem dX10_doesStep_20 : decode cX10_doesStep 20 = .ok (.iaload, 1) := by decide +kernel
theorem dX10_doesStep_21 : decode cX10_doesStep 21 = .ok (.istore_n 3, 1) := by decide +kernel
theorem dX10_doesStep_22 : decode cX10_doesStep 22 = .ok (.aload_n 0, 1) := by decide +kernel
theorem dX10_doesStep_23 : decode cX10_doesStep 23 = .ok (.getfield 63, 3) := by decide +kernel
theorem dX10_doesStep_26 : decode cX10_doesStep 26 = .ok (.iconst 4, 1) := by decide +kernel
theorem dX10_doesStep_27 : decode cX10_doesStep 27 = .ok (.iload_n 1, 1) := by decide +kernel
theorem dX10_doesStep_28 : decode cX10_doesStep 28 = .ok (.imul, 1) := by decide +kernel
theorem dX10_doesStep_29 : decode cX10_doesStep 29 = .ok (.iconst 3, 1) := by decide +kernel
theorem dX10_doesStep_30 : decode cX10_doesStep 30 = .ok (.iadd, 1) := by decide +kernel
theorem dX10_doesStep_31 : decode cX10_doesStep 31 = .ok (.iaload, 1) := by decide +kernel
theorem dX10_doesStep_32 : decode cX10_doesStep 32 = .ok (.istore 4, 2) := by decide +kernel
theorem dX10_doesStep_34 : decode cX10_doesStep 34 = .ok (.aload_n 0, 1) := by decide +kernel
theorem dX10_doesStep_35 : decode cX10_doesStep 35 = .ok (.getfield 63, 3) := by decide +kernel
theorem dX10_doesStep_38 : decode cX10_doesStep 38 = .ok (.iconst 4, 1) := by decide +kernel
theorem dX10_doesStep_39 : decode cX10_doesStep 39 = .ok (.iload_n 1, 1) := by decide +kernel
theorem dX10_doesStep_40 : decode cX10_doesStep 40 = .ok (.imul, 1) := by decide +kernel
theorem dX10_doesStep_41 : decode cX10_doesStep 41 = .ok (.iaload, 1) := by decide +kernel
theorem dX10_doesStep_42 : decode cX10_doesStep 42 = .ok (.tableswitch 104 0 7 #[46, 55, 62, 68, 75, 82, 91, 98], 46) := by decide +kernel
theorem dX10_doesStep_88 : decode cX10_doesStep 88 = .ok (.aload_n 0, 1) := by decide +kernel
theorem dX10_doesStep_89 : decode cX10_doesStep 89 = .ok (.iload_n 2, 1) := by decide +kernel
theorem dX10_doesStep_90 : decode cX10_doesStep 90 = .ok (.iload_n 3, 1) := by decide +kernel
theorem dX10_doesStep_91 : decode cX10_doesStep 91 = .ok (.iload 4, 2) := by decide +kernel
theorem dX10_doesStep_93 : decode cX10_doesStep 93 = .ok (.invokevirtual 356, 3) := by decide +kernel
theorem dX10_doesStep_96 : decode cX10_doesStep 96 = .ok (.ireturn, 1) := by decide +kernel
theorem dX10_doesStep_97 : decode cX10_doesStep 97 = .ok (.aload_n 0, 1) := by decide +kernel
theorem dX10_doesStep_98 : decode cX10_doesStep 98 = .ok (.iload_n 2, 1) := by decide +kernel
theorem dX10_doesStep_99 : decode cX10_doesStep 99 = .ok (.iload_n 3, 1) := by decide +kernel
theorem dX10_doesStep_100 : decode cX10_doesStep 100 = .ok (.invokevirtual 360, 3) := by decide +kernel
theorem dX10_doesStep_103 : decode cX10_doesStep 103 = .ok (.ireturn, 1) := by decide +kernel
theorem dX10_doesStep_104 : decode cX10_doesStep 104 = .ok (.aload_n 0, 1) := by decide +kernel
theorem dX10_doesStep_105 : decode cX10_doesStep 105 = .ok (.iload_n 2, 1) := by decide +kernel
theorem dX10_doesStep_106 : decode cX10_doesStep 106 = .ok (.invokevirtual 363, 3) := by decide +kernel
theorem dX10_doesStep_109 : decode cX10_doesStep 109 = .ok (.ireturn, 1) := by decide +kernel
theorem dX10_doesStep_110 : decode cX10_doesStep 110 = .ok (.aload_n 0, 1) := by decide +kernel
theorem dX10_doesStep_111 : decode cX10_doesStep 111 = .ok (.iload_n 2, 1) := by decide +kernel
theorem dX10_doesStep_112 : decode cX10_doesStep 112 = .ok (.iload_n 3, 1) := by decide +kernel
theorem dX10_doesStep_113 : decode cX10_doesStep 113 = .ok (.invokevirtual 366, 3) := by decide +kernel
theorem dX10_doesStep_116 : decode cX10_doesStep 116 = .ok (.ireturn, 1) := by decide +kernel
theorem dX10_doesStep_117 : decode cX10_doesStep 117 = .ok (.aload_n 0, 1) := by decide +kernel
theorem dX10_doesStep_118 : decode cX10_doesStep 118 = .ok (.iload_n 2, 1) := by decide +kernel
theorem dX10_doesStep_119 : decode cX10_doesStep 119 = .ok (.iload_n 3, 1) := by decide +kernel
theorem dX10_doesStep_120 : decode cX10_doesStep 120 = .ok (.invokevirtual 369, 3) := by decide +kernel
theorem dX10_doesStep_123 : decode cX10_doesStep 123 = .ok (.ireturn, 1) := by decide +kernel
theorem dX10_doesStep_124 : decode cX10_doesStep 124 = .ok (.aload_n 0, 1) := by decide +kernel
theorem dX10_doesStep_125 : decode cX10_doesStep 125 = .ok (.iload_n 2, 1) := by decide +kernel
theorem dX10_doesStep_126 : decode cX10_doesStep 126 = .ok (.iload_n 3, 1) := by decide +kernel
theorem dX10_doesStep_127 : decode cX10_doesStep 127 = .ok (.iload 4, 2) := by decide +kernel
theorem dX10_doesStep_129 : decode cX10_doesStep 129 = .ok (.invokevirtual 372, 3) := by decide +kernel
theorem dX10_doesStep_132 : decode cX10_doesStep 132 = .ok (.ireturn, 1) := by decide +kernel
theorem dX10_doesStep_133 : decode cX10_doesStep 133 = .ok (.aload_n 0, 1) := by decide +kernel
theorem dX10_doesStep_134 : decode cX10_doesStep 134 = .ok (.iload_n 2, 1) := by decide +kernel
theorem dX10_doesStep_135 : decode cX10_doesStep 135 = .ok (.iload_n 3, 1) := by decide +kernel
theorem dX10_doesStep_136 : decode cX10_doesStep 136 = .ok (.invokevirtual 375, 3) := by decide +kernel
theorem dX10_doesStep_139 : decode cX10_doesStep 139 = .ok (.ireturn, 1) := by decide +kernel
theorem dX10_doesStep_140 : decode cX10_doesStep 140 = .ok (.aload_n 0, 1) := by decide +kernel
theorem dX10_doesStep_141 : decode cX10_doesStep 141 = .ok (.iload_n 2, 1) := by decide +kernel
theorem dX10_doesStep_142 : decode cX10_doesStep 142 = .ok (.invokevirtual 378, 3) := by decide +kernel
theorem dX10_doesStep_145 : decode cX10_doesStep 145 = .ok (.ireturn, 1) := by decide +kernel
theorem dX10_doesStep_146 : decode cX10_doesStep 146 = .ok (.aload_n 0, 1) := by decide +kernel
theorem dX10_doesStep_147 : decode cX10_doesStep 147 = .ok (.iload_n 2, 1) := by decide +kernel
theorem dX10_doesStep_148 : decode cX10_doesStep 148 = .ok (.iload_n 3, 1) := by decide +kernel
theorem dX10_doesStep_149 : decode cX10_doesStep 149 = .ok (.invokevirtual 380, 3) := by decide +kernel
theorem dX10_doesStep_152 : decode cX10_doesStep 152 = .ok (.ireturn, 1) := by decide +kernel
theorem dX10_run_0 : decode cX10_run 0 = .ok (.aload_n 0, 1) := by decide +kernel
theorem dX10_run_1 : decode cX10_run 1 = .ok (.iconst 0, 1) := by decide +kernel
theorem dX10_run_2 : decode cX10_run 2 = .ok (.putfield 66, 3) := by decide +kernel
theorem dX10_run_5 : decode cX10_run 5 = .ok (.iload_n 1, 1) := by decide +kernel
theorem dX10_run_6 : decode cX10_run 6 = .ok (.iconst 0, 1) := by decide +kernel
theorem dX10_run_7 : decode cX10_run 7 = .ok (.aload_n 0, 1) := by decide +kernel
theorem dX10_run_8 : decode cX10_run 8 = .ok (.getfield 219, 3) := by decide +kernel
theorem dX10_run_11 : decode cX10_run 11 = .ok (.invokestatic 72, 3) := by decide +kernel
theorem dX10_run_14 : decode cX10_run 14 = .ok (.ifCond .ne 9, 3) := by decide +kernel
theorem dX10_run_17 : decode cX10_run 17 = .ok (.aload_n 0, 1) := by decide +kernel
theorem dX10_run_18 : decode cX10_run 18 = .ok (.iconst 1, 1) := by decide +kernel
theorem dX10_run_19 : decode cX10_run 19 = .ok (.invokevirtual 171, 3) := by decide +kernel
theorem dX10_run_22 : decode cX10_run 22 = .ok (.ireturn, 1) := by decide +kernel
theorem dX10_run_23 : decode cX10_run 23 = .ok (.aload_n 0, 1) := by decide +kernel
theorem dX10_run_24 : decode cX10_run 24 = .ok (.getfield 69, 3) := by decide +kernel
theorem dX10_run_27 : decode cX10_run 27 = .ok (.ifCond .ne 14, 3) := by decide +kernel
theorem dX10_run_30 : decode cX10_run 30 = .ok (.aload_n 0, 1) := by decide +kernel
theorem dX10_run_31 : decode cX10_run 31 = .ok (.iconst 0, 1) := by decide +kernel
theorem dX10_run_32 : decode cX10_run 32 = .ok (.putfield 219, 3) := by decide +kernel
theorem dX10_run_35 : decode cX10_run 35 = .ok (.aload_n 0, 1) := by decide +kernel
theorem dX10_run_36 : decode cX10_run 36 = .ok (.iconst 2, 1) := by decide +kernel
theorem dX10_run_37 : decode cX10_run 37 = .ok (.invokevirtual 171, 3) := by decide +kernel
theorem dX10_run_40 : decode cX10_run 40 = .ok (.ireturn, 1) := by decide +kernel
theorem dX10_run_41 : decode cX10_run 41 = .ok (.aload_n 0, 1) := by decide +kernel
theorem dX10_run_42 : decode cX10_run 42 = .ok (.iload_n 1, 1) := by decide +kernel
theorem dX10_run_43 : decode cX10_run 43 = .ok (.invokevirtual 299, 3) := by decide +kernel
theorem dX10_run_46 : decode cX10_run 46 = .ok (.aload_n 0, 1) := by decide +kernel
theorem dX10_run_47 : decode cX10_run 47 = .ok (.invokevirtual 383, 3) := by decide +kernel
theorem dX10_run_50 : decode cX10_run 50 = .ok (.ifCond .ne 9, 3) := by decide +kernel
theorem dX10_run_53 : decode cX10_run 53 = .ok (.aload_n 0, 1) := by decide +kernel
theorem dX10_run_54 : decode cX10_run 54 = .ok (.iconst 2, 1) := by decide +kernel
theorem dX10_run_55 : decode cX10_run 55 = .ok (.invokevirtual 171, 3) := by decide +kernel
theorem dX10_run_58 : decode cX10_run 58 = .ok (.ireturn, 1) := by decide +kernel
theorem dX10_run_59 : decode cX10_run 59 = .ok (.aload_n 0, 1) := by decide +kernel
theorem dX10_run_60 : decode cX10_run 60 = .ok (.iconst 0, 1) := by decide +kernel
theorem dX10_run_61 : decode cX10_run 61 = .ok (.putfield 123, 3) := by decide +kernel
theorem dX10_run_64 : decode cX10_run 64 = .ok (.iconst 0, 1) := by decide +kernel
theorem dX10_run_65 : decode cX10_run 65 = .ok (.istore_n 2, 1) := by decide +kernel
theorem dX10_run_66 : decode cX10_run 66 = .ok (.iload_n 2, 1) := by decide +kernel
theorem dX10_run_67 : decode cX10_run 67 = .ok (.aload_n 0, 1) := by decide +kernel
theorem dX10_run_68 : decode cX10_run 68 = .ok (.getfield 308, 3) := by decide +kernel
theorem dX10_run_71 : decode cX10_run 71 = .ok (.if_icmp .ge 39, 3) := by decide +kernel
theorem dX10_run_74 : decode cX10_run 74 = .ok (.aload_n 0, 1) := by decide +kernel
theorem dX10_run_75 : decode cX10_run 75 = .ok (.iload_n 2, 1) := by decide +kernel
theorem dX10_run_76 : decode cX10_run 76 = .ok (.invokevirtual 386, 3) := by decide +kernel
theorem dX10_run_79 : decode cX10_run 79 = .ok (.istore_n 3, 1) := by decide +kernel
theorem dX10_run_80 : decode cX10_run 80 = .ok (.aload_n 0, 1) := by decide +kernel
theorem dX10_run_81 : decode cX10_run 81 = .ok (.aload_n 0, 1) := by decide +kernel
theorem dX10_run_82 : decode cX10_run 82 = .ok (.getfield 66, 3) := by decide +kernel
theorem dX10_run_85 : decode cX10_run 85 = .ok (.ifCond .le 12, 3) := by decide +kernel
theorem dX10_run_88 : decode cX10_run 88 = .ok (.aload_n 0, 1) := by decide +kernel
theorem dX10_run_89 : decode cX10_run 89 = .ok (.getfield 123, 3) := by decide +kernel
theorem dX10_run_92 : decode cX10_run 92 = .ok (.iconst 1, 1) := by decide +kernel
theorem dX10_run_93 : decode cX10_run 93 = .ok (.iadd, 1) := by decide +kernel
theorem dX10_run_94 : decode cX10_run 94 = .ok (.goto 7, 3) := by decide +kernel
theorem dX10_run_97 : decode cX10_run 97 = .ok (.aload_n 0, 1) := by decide +kernel
theorem dX10_run_98 : decode cX10_run 98 = .ok (.getfield 123, 3) := by decide +kernel
theorem dX10_run_101 : decode cX10_run 101 = .ok (.putfield 123, 3) := by decide +kernel
theorem dX10_run_104 : decode cX10_run 104 = .ok (.iinc 2 1, 3) := by decide +kernel
theorem dX10_run_107 : decode cX10_run 107 = .ok (.goto (-41), 3) := by decide +kernel
theorem dX10_run_110 : decode cX10_run 110 = .ok (.aload_n 0, 1) := by decide +kernel
theorem dX10_run_111 : decode cX10_run 111 = .ok (.iconst 0, 1) := by decide +kernel
theorem dX10_run_112 : decode cX10_run 112 = .ok (.putfield 66, 3) := by decide +kernel
theorem dX10_run_115 : decode cX10_run 115 = .ok (.aload_n 0, 1) := by decide +kernel
theorem dX10_run_116 : decode cX10_run 116 = .ok (.getfield 308, 3) := by decide +kernel
theorem dX10_run_119 : decode cX10_run 119 = .ok (.aload_n 0, 1) := by decide +kernel
theorem dX10_run_120 : decode cX10_run 120 = .ok (.getfield 123, 3) := by decide +kernel
theorem dX10_run_123 : decode cX10_run 123 = .ok (.isub, 1) := by decide +kernel
theorem dX10_run_124 : decode cX10_run 124 = .ok (.ireturn, 1) := by decide +kernel
theorem dX10_clients_0 : decode cX10_clients 0 = .ok (.aload_n 0, 1) := by decide +kernel
theorem dX10_clients_1 : decode cX10_clients 1 = .ok (.aload_n 0, 1) := by decide +kernel
theorem dX10_clients_2 : decode cX10_clients 2 = .ok (.getfield 69, 3) := by decide +kernel
theorem dX10_clients_5 : decode cX10_clients 5 = .ok (.invokevirtual 228, 3) := by decide +kernel
theorem dX10_clients_8 : decode cX10_clients 8 = .ok (.ireturn, 1) := by decide +kernel
theorem dX10_blocks_0 : decode cX10_blocks 0 = .ok (.aload_n 0, 1) := by decide +kernel
theorem dX10_blocks_1 : decode cX10_blocks 1 = .ok (.aload_n 0, 1) := by decide +kernel
theorem dX10_blocks_2 : decode cX10_blocks 2 = .ok (.getfield 76, 3) := by decide +kernel
theorem dX10_blocks_5 : decode cX10_blocks 5 = .ok (.invokevirtual 228, 3) := by decide +kernel
theorem dX10_blocks_8 : decode cX10_blocks 8 = .ok (.ireturn, 1) := by decide +kernel
theorem dX10_branches_0 : decode cX10_branches 0 = .ok (.aload_n 0, 1) := by decide +kernel
theorem dX10_branches_1 : decode cX10_branches 1 = .ok (.aload_n 0, 1) := by decide +kernel
theorem dX10_branches_2 : decode cX10_branches 2 = .ok (.getfield 79, 3) := by decide +kernel
theorem dX10_branches_5 : decode cX10_branches 5 = .ok (.invokevirtual 228, 3) := by decide +kernel
theorem dX10_branches_8 : decode cX10_branches 8 = .ok (.ireturn, 1) := by decide +kernel
theorem dX10_length_0 : decode cX10_length 0 = .ok (.aload_n 0, 1) := by decide +kernel
theorem dX10_length_1 : decode cX10_length 1 = .ok (.iconst 0, 1) := by decide +kernel
theorem dX10_length_2 : decode cX10_length 2 = .ok (.putfield 66, 3) := by decide +kernel
theorem dX10_length_5 : decode cX10_length 5 = .ok (.aload_n 0, 1) := by decide +kernel
theorem dX10_length_6 : decode cX10_length 6 = .ok (.iload_n 1, 1) := by decide +kernel
theorem dX10_length_7 : decode cX10_length 7 = .ok (.invokevirtual 82, 3) := by decide +kernel
theorem dX10_length_10 : decode cX10_length 10 = .ok (.ifCond .ne 9, 3) := by decide +kernel
theorem dX10_length_13 : decode cX10_length 13 = .ok (.aload_n 0, 1) := by decide +kernel
theorem dX10_length_14 : decode cX10_length 14 = .ok (.iconst 1, 1) := by decide +kernel
theorem dX10_length_15 : decode cX10_length 15 = .ok (.invokevirtual 171, 3) := by decide +kernel
theorem dX10_length_18 : decode cX10_length 18 = .ok (.ireturn, 1) := by decide +kernel
theorem dX10_length_19 : decode cX10_length 19 = .ok (.aload_n 0, 1) := by decide +kernel
theorem dX10_length_20 : decode cX10_length 20 = .ok (.getfield 7, 3) := by decide +kernel
theorem dX10_length_23 : decode cX10_length 23 = .ok (.iload_n 1, 1) := by decide +kernel
theorem dX10_length_24 : decode cX10_length 24 = .ok (.iaload, 1) := by decide +kernel
theorem dX10_length_25 : decode cX10_length 25 = .ok (.ireturn, 1) := by decide +kernel
theorem dX10_entry_0 : decode cX10_entry 0 = .ok (.aload_n 0, 1) := by decide +kernel
theorem dX10_entry_1 : decode cX10_entry 1 = .ok (.iconst 0, 1) := by decide +kernel
theorem dX10_entry_2 : decode cX10_entry 2 = .ok (.putfield 66, 3) := by decide +kernel
theorem dX10_entry_5 : decode cX10_entry 5 = .ok (.aload_n 0, 1) := by decide +kernel
theorem dX10_entry_6 : decode cX10_entry 6 = .ok (.iload_n 1, 1) := by decide +kernel
theorem dX10_entry_7 : decode cX10_entry 7 = .ok (.iload_n 2, 1) := by decide +kernel
theorem dX10_entry_8 : decode cX10_entry 8 = .ok (.invokevirtual 199, 3) := by decide +kernel
theorem dX10_entry_11 : decode cX10_entry 11 = .ok (.ifCond .ne 9, 3) := by decide +kernel
theorem dX10_entry_14 : decode cX10_entry 14 = .ok (.aload_n 0, 1) := by decide +kernel
theorem dX10_entry_15 : decode cX10_entry 15 = .ok (.iconst 1, 1) := by decide +kernel
theorem dX10_entry_16 : decode cX10_entry 16 = .ok (.invokevirtual 171, 3) := by decide +kernel
theorem dX10_entry_19 : decode cX10_entry 19 = .ok (.ireturn, 1) := by decide +kernel
theorem dX10_entry_20 : decode cX10_entry 20 = .ok (.iload_n 1, 1) := by decide +kernel
theorem dX10_entry_21 : decode cX10_entry 21 = .ok (.iload_n 2, 1) := by decide +kernel
theorem dX10_entry_22 : decode cX10_entry 22 = .ok (.invokestatic 86, 3) := by decide +kernel
theorem dX10_entry_25 : decode cX10_entry 25 = .ok (.istore 4, 2) := by decide +kernel
theorem dX10_entry_27 : decode cX10_entry 27 = .ok (.iload_n 3, 1) := by decide +kernel
theorem dX10_entry_28 : decode cX10_entry 28 = .ok (.tableswitch 114 0 6 #[44, 52, 60, 68, 76, 84, 92], 44) := by decide +kernel
theorem dX10_entry_72 : decode cX10_entry 72 = .ok (.aload_n 0, 1) := by decide +kernel
theorem dX10_entry_73 : decode cX10_entry 73 = .ok (.getfield 13, 3) := by decide +kernel
theorem dX10_entry_76 : decode cX10_entry 76 = .ok (.iload 4, 2) := by decide +kernel
theorem dX10_entry_78 : decode cX10_entry 78 = .ok (.iaload, 1) := by decide +kernel
theorem dX10_entry_79 : decode cX10_entry 79 = .ok (.ireturn, 1) := by decide +kernel
theorem dX10_entry_80 : decode cX10_entry 80 = .ok (.aload_n 0, 1) := by decide +kernel
theorem dX10_entry_81 : decode cX10_entry 81 = .ok (.getfield 16, 3) := by decide +kernel
theorem dX10_entry_84 : decode cX10_entry 84 = .ok (.iload 4, 2) := by decide +kernel
theorem dX10_entry_86 : decode cX10_entry 86 = .ok (.iaload, 1) := by decide +kernel
theorem dX10_entry_87 : decode cX10_entry 87 = .ok (.ireturn, 1) := by decide +kernel
theorem dX10_entry_88 : decode cX10_entry 88 = .ok (.aload_n 0, 1) := by decide +kernel
theorem dX10_entry_89 : decode cX10_entry 89 = .ok (.getfield 19, 3) := by decide +kernel
theorem dX10_entry_92 : decode cX10_entry 92 = .ok (.iload 4, 2) := by decide +kernel
theorem dX10_entry_94 : decode cX10_entry 94 = .ok (.iaload, 1) := by decide +kernel
theorem dX10_entry_95 : decode cX10_entry 95 = .ok (.ireturn, 1) := by decide +kernel
theorem dX10_entry_96 : decode cX10_entry 96 = .ok (.aload_n 0, 1) := by decide +kernel
theorem dX10_entry_97 : decode cX10_entry 97 = .ok (.getfield 22, 3) := by decide +kernel
theorem dX10_entry_100 : decode cX10_entry 100 = .ok (.iload 4, 2) := by decide +kernel
theorem dX10_entry_102 : decode cX10_entry 102 = .ok (.iaload, 1) := by decide +kernel
theorem dX10_entry_103 : decode cX10_entry 103 = .ok (.ireturn, 1) := by decide +kernel
theorem dX10_entry_104 : decode cX10_entry 104 = .ok (.aload_n 0, 1) := by decide +kernel
theorem dX10_entry_105 : decode cX10_entry 105 = .ok (.getfield 28, 3) := by decide +kernel
theorem dX10_entry_108 : decode cX10_entry 108 = .ok (.iload 4, 2) := by decide +kernel
theorem dX10_entry_110 : decode cX10_entry 110 = .ok (.iaload, 1) := by decide +kernel
theorem dX10_entry_111 : decode cX10_entry 111 = .ok (.ireturn, 1) := by decide +kernel
theorem dX10_entry_112 : decode cX10_entry 112 = .ok (.aload_n 0, 1) := by decide +kernel
theorem dX10_entry_113 : decode cX10_entry 113 = .ok (.getfield 25, 3) := by decide +kernel
theorem dX10_entry_116 : decode cX10_entry 116 = .ok (.iload 4, 2) := by decide +kernel
theorem dX10_entry_118 : decode cX10_entry 118 = .ok (.iaload, 1) := by decide +kernel
theorem dX10_entry_119 : decode cX10_entry 119 = .ok (.ireturn, 1) := by decide +kernel
theorem dX10_entry_120 : decode cX10_entry 120 = .ok (.aload_n 0, 1) := by decide +kernel
theorem dX10_entry_121 : decode cX10_entry 121 = .ok (.iload_n 1, 1) := by decide +kernel
theorem dX10_entry_122 : decode cX10_entry 122 = .ok (.iload_n 2, 1) := by decide +kernel
theorem dX10_entry_123 : decode cX10_entry 123 = .ok (.invokevirtual 120, 3) := by decide +kernel
theorem dX10_entry_126 : decode cX10_entry 126 = .ok (.aload_n 0, 1) := by decide +kernel
theorem dX10_entry_127 : decode cX10_entry 127 = .ok (.getfield 28, 3) := by decide +kernel
theorem dX10_entry_130 : decode cX10_entry 130 = .ok (.iload 4, 2) := by decide +kernel
theorem dX10_entry_132 : decode cX10_entry 132 = .ok (.iaload, 1) := by decide +kernel
theorem dX10_entry_133 : decode cX10_entry 133 = .ok (.if_icmp .ne 7, 3) := by decide +kernel
theorem dX10_entry_136 : decode cX10_entry 136 = .ok (.iconst 1, 1) := by decide +kernel
theorem dX10_entry_137 : decode cX10_entry 137 = .ok (.goto 4, 3) := by decide +kernel
theorem dX10_entry_140 : decode cX10_entry 140 = .ok (.iconst 0, 1) := by decide +kernel
theorem dX10_entry_141 : decode cX10_entry 141 = .ok (.ireturn, 1) := by decide +kernel
theorem dX10_entry_142 : decode cX10_entry 142 = .ok (.aload_n 0, 1) := by decide +kernel
theorem dX10_entry_143 : decode cX10_entry 143 = .ok (.iconst 2, 1) := by decide +kernel
theorem dX10_entry_144 : decode cX10_entry 144 = .ok (.invokevirtual 171, 3) := by decide +kernel
theorem dX10_entry_147 : decode cX10_entry 147 = .ok (.ireturn, 1) := by decide +kernel
theorem dX10_value_0 : decode cX10_value 0 = .ok (.aload_n 0, 1) := by decide +kernel
theorem dX10_value_1 : decode cX10_value 1 = .ok (.iconst 0, 1) := by decide +kernel
theorem dX10_value_2 : decode cX10_value 2 = .ok (.putfield 66, 3) := by decide +kernel
theorem dX10_value_5 : decode cX10_value 5 = .ok (.aload_n 0, 1) := by decide +kernel
theorem dX10_value_6 : decode cX10_value 6 = .ok (.iload_n 1, 1) := by decide +kernel
theorem dX10_value_7 : decode cX10_value 7 = .ok (.invokevirtual 82, 3) := by decide +kernel
theorem dX10_value_10 : decode cX10_value 10 = .ok (.ifCond .eq 11, 3) := by decide +kernel
theorem dX10_value_13 : decode cX10_value 13 = .ok (.aload_n 0, 1) := by decide +kernel
theorem dX10_value_14 : decode cX10_value 14 = .ok (.iload_n 2, 1) := by decide +kernel
theorem dX10_value_15 : decode cX10_value 15 = .ok (.invokevirtual 168, 3) := by decide +kernel
theorem dX10_value_18 : decode cX10_value 18 = .ok (.ifCond .ne 9, 3) := by decide +kernel
theorem dX10_value_21 : decode cX10_value 21 = .ok (.aload_n 0, 1) := by decide +kernel
theorem dX10_value_22 : decode cX10_value 22 = .ok (.iconst 1, 1) := by decide +kernel
theorem dX10_value_23 : decode cX10_value 23 = .ok (.invokevirtual 171, 3) := by decide +kernel
theorem dX10_value_26 : decode cX10_value 26 = .ok (.ireturn, 1) := by decide +kernel
theorem dX10_value_27 : decode cX10_value 27 = .ok (.aload_n 0, 1) := by decide +kernel
theorem dX10_value_28 : decode cX10_value 28 = .ok (.iload_n 1, 1) := by decide +kernel
theorem dX10_value_29 : decode cX10_value 29 = .ok (.iload_n 2, 1) := by decide +kernel
theorem dX10_value_30 : decode cX10_value 30 = .ok (.invokevirtual 179, 3) := by decide +kernel
theorem dX10_value_33 : decode cX10_value 33 = .ok (.ireturn, 1) := by decide +kernel
theorem dX10_branchOf_0 : decode cX10_branchOf 0 = .ok (.aload_n 0, 1) := by decide +kernel
theorem dX10_branchOf_1 : decode cX10_branchOf 1 = .ok (.iconst 0, 1) := by decide +kernel
theorem dX10_branchOf_2 : decode cX10_branchOf 2 = .ok (.putfield 66, 3) := by decide +kernel
theorem dX10_branchOf_5 : decode cX10_branchOf 5 = .ok (.aload_n 0, 1) := by decide +kernel
theorem dX10_branchOf_6 : decode cX10_branchOf 6 = .ok (.iload_n 1, 1) := by decide +kernel
theorem dX10_branchOf_7 : decode cX10_branchOf 7 = .ok (.invokevirtual 165, 3) := by decide +kernel
theorem dX10_branchOf_10 : decode cX10_branchOf 10 = .ok (.ifCond .ne 9, 3) := by decide +kernel
theorem dX10_branchOf_13 : decode cX10_branchOf 13 = .ok (.aload_n 0, 1) := by decide +kernel
theorem dX10_branchOf_14 : decode cX10_branchOf 14 = .ok (.iconst 1, 1) := by decide +kernel
theorem dX10_branchOf_15 : decode cX10_branchOf 15 = .ok (.invokevirtual 171, 3) := by decide +kernel
theorem dX10_branchOf_18 : decode cX10_branchOf 18 = .ok (.ireturn, 1) := by decide +kernel
theorem dX10_branchOf_19 : decode cX10_branchOf 19 = .ok (.aload_n 0, 1) := by decide +kernel
theorem dX10_branchOf_20 : decode cX10_branchOf 20 = .ok (.getfield 31, 3) := by decide +kernel
theorem dX10_branchOf_23 : decode cX10_branchOf 23 = .ok (.iload_n 1, 1) := by decide +kernel
theorem dX10_branchOf_24 : decode cX10_branchOf 24 = .ok (.iaload, 1) := by decide +kernel
theorem dX10_branchOf_25 : decode cX10_branchOf 25 = .ok (.ireturn, 1) := by decide +kernel
theorem dX10_commonLength_0 : decode cX10_commonLength 0 = .ok (.aload_n 0, 1) := by decide +kernel
theorem dX10_commonLength_1 : decode cX10_commonLength 1 = .ok (.iconst 0, 1) := by decide +kernel
theorem dX10_commonLength_2 : decode cX10_commonLength 2 = .ok (.putfield 66, 3) := by decide +kernel
theorem dX10_commonLength_5 : decode cX10_commonLength 5 = .ok (.aload_n 0, 1) := by decide +kernel
theorem dX10_commonLength_6 : decode cX10_commonLength 6 = .ok (.iload_n 1, 1) := by decide +kernel
theorem dX10_commonLength_7 : decode cX10_commonLength 7 = .ok (.invokevirtual 82, 3) := by decide +kernel
theorem dX10_commonLength_10 : decode cX10_commonLength 10 = .ok (.ifCond .eq 11, 3) := by decide +kernel
theorem dX10_commonLength_13 : decode cX10_commonLength 13 = .ok (.aload_n 0, 1) := by decide +kernel
theorem dX10_commonLength_14 : decode cX10_commonLength 14 = .ok (.iload_n 2, 1) := by decide +kernel
theorem dX10_commonLength_15 : decode cX10_commonLength 15 = .ok (.invokevirtual 82, 3) := by decide +kernel
theorem dX10_commonLength_18 : decode cX10_commonLength 18 = .ok (.ifCond .ne 9, 3) := by decide +kernel
theorem dX10_commonLength_21 : decode cX10_commonLength 21 = .ok (.aload_n 0, 1) := by decide +kernel
theorem dX10_commonLength_22 : decode cX10_commonLength 22 = .ok (.iconst 1, 1) := by decide +kernel
theorem dX10_commonLength_23 : decode cX10_commonLength 23 = .ok (.invokevirtual 171, 3) := by decide +kernel
theorem dX10_commonLength_26 : decode cX10_commonLength 26 = .ok (.ireturn, 1) := by decide +kernel
theorem dX10_commonLength_27 : decode cX10_commonLength 27 = .ok (.aload_n 0, 1) := by decide +kernel
theorem dX10_commonLength_28 : decode cX10_commonLength 28 = .ok (.iload_n 1, 1) := by decide +kernel
theorem dX10_commonLength_29 : decode cX10_commonLength 29 = .ok (.iload_n 2, 1) := by decide +kernel
theorem dX10_commonLength_30 : decode cX10_commonLength 30 = .ok (.invokevirtual 202, 3) := by decide +kernel
theorem dX10_commonLength_33 : decode cX10_commonLength 33 = .ok (.ireturn, 1) := by decide +kernel
theorem dX10_conflicts_0 : decode cX10_conflicts 0 = .ok (.aload_n 0, 1) := by decide +kernel
theorem dX10_conflicts_1 : decode cX10_conflicts 1 = .ok (.iconst 0, 1) := by decide +kernel
theorem dX10_conflicts_2 : decode cX10_conflicts 2 = .ok (.putfield 66, 3) := by decide +kernel
theorem dX10_conflicts_5 : decode cX10_conflicts 5 = .ok (.aload_n 0, 1) := by decide +kernel
theorem dX10_conflicts_6 : decode cX10_conflicts 6 = .ok (.iload_n 1, 1) := by decide +kernel
theorem dX10_conflicts_7 : decode cX10_conflicts 7 = .ok (.invokevirtual 82, 3) := by decide +kernel
theorem dX10_conflicts_10 : decode cX10_conflicts 10 = .ok (.ifCond .eq 11, 3) := by decide +kernel
theorem dX10_conflicts_13 : decode cX10_conflicts 13 = .ok (.aload_n 0, 1) := by decide +kernel
theorem dX10_conflicts_14 : decode cX10_conflicts 14 = .ok (.iload_n 2, 1) := by decide +kernel
theorem dX10_conflicts_15 : decode cX10_conflicts 15 = .ok (.invokevirtual 82, 3) := by decide +kernel
theorem dX10_conflicts_18 : decode cX10_conflicts 18 = .ok (.ifCond .ne 9, 3) := by decide +kernel
theorem dX10_conflicts_21 : decode cX10_conflicts 21 = .ok (.aload_n 0, 1) := by decide +kernel
theorem dX10_conflicts_22 : decode cX10_conflicts 22 = .ok (.iconst 1, 1) := by decide +kernel
theorem dX10_conflicts_23 : decode cX10_conflicts 23 = .ok (.invokevirtual 171, 3) := by decide +kernel
theorem dX10_conflicts_26 : decode cX10_conflicts 26 = .ok (.ireturn, 1) := by decide +kernel
theorem dX10_conflicts_27 : decode cX10_conflicts 27 = .ok (.aload_n 0, 1) := by decide +kernel
theorem dX10_conflicts_28 : decode cX10_conflicts 28 = .ok (.iload_n 1, 1) := by decide +kernel
theorem dX10_conflicts_29 : decode cX10_conflicts 29 = .ok (.iload_n 2, 1) := by decide +kernel
theorem dX10_conflicts_30 : decode cX10_conflicts 30 = .ok (.invokevirtual 209, 3) := by decide +kernel
theorem dX10_conflicts_33 : decode cX10_conflicts 33 = .ok (.ireturn, 1) := by decide +kernel
theorem dX10_receipt_0 : decode cX10_receipt 0 = .ok (.aload_n 0, 1) := by decide +kernel
theorem dX10_receipt_1 : decode cX10_receipt 1 = .ok (.iconst 0, 1) := by decide +kernel
theorem dX10_receipt_2 : decode cX10_receipt 2 = .ok (.putfield 66, 3) := by decide +kernel
theorem dX10_receipt_5 : decode cX10_receipt 5 = .ok (.aload_n 0, 1) := by decide +kernel
theorem dX10_receipt_6 : decode cX10_receipt 6 = .ok (.iload_n 1, 1) := by decide +kernel
theorem dX10_receipt_7 : decode cX10_receipt 7 = .ok (.invokevirtual 165, 3) := by decide +kernel
theorem dX10_receipt_10 : decode cX10_receipt 10 = .ok (.ifCond .ne 9, 3) := by decide +kernel
theorem dX10_receipt_13 : decode cX10_receipt 13 = .ok (.aload_n 0, 1) := by decide +kernel
theorem dX10_receipt_14 : decode cX10_receipt 14 = .ok (.iconst 1, 1) := by decide +kernel
theorem dX10_receipt_15 : decode cX10_receipt 15 = .ok (.invokevirtual 171, 3) := by decide +kernel
theorem dX10_receipt_18 : decode cX10_receipt 18 = .ok (.ireturn, 1) := by decide +kernel
theorem dX10_receipt_19 : decode cX10_receipt 19 = .ok (.iload_n 2, 1) := by decide +kernel
theorem dX10_receipt_20 : decode cX10_receipt 20 = .ok (.tableswitch 57 0 2 #[28, 35, 41], 28) := by decide +kernel
theorem dX10_receipt_48 : decode cX10_receipt 48 = .ok (.aload_n 0, 1) := by decide +kernel
theorem dX10_receipt_49 : decode cX10_receipt 49 = .ok (.getfield 34, 3) := by decide +kernel
theorem dX10_receipt_52 : decode cX10_receipt 52 = .ok (.iload_n 1, 1) := by decide +kernel
theorem dX10_receipt_53 : decode cX10_receipt 53 = .ok (.iaload, 1) := by decide +kernel
theorem dX10_receipt_54 : decode cX10_receipt 54 = .ok (.ireturn, 1) := by decide +kernel
theorem dX10_receipt_55 : decode cX10_receipt 55 = .ok (.aload_n 0, 1) := by decide +kernel
theorem dX10_receipt_56 : decode cX10_receipt 56 = .ok (.iload_n 1, 1) := by decide +kernel
theorem dX10_receipt_57 : decode cX10_receipt 57 = .ok (.invokevirtual 139, 3) := by decide +kernel
theorem dX10_receipt_60 : decode cX10_receipt 60 = .ok (.ireturn, 1) := by decide +kernel
theorem dX10_receipt_61 : decode cX10_receipt 61 = .ok (.iload_n 1, 1) := by decide +kernel
theorem dX10_receipt_62 : decode cX10_receipt 62 = .ok (.aload_n 0, 1) := by decide +kernel
theorem dX10_receipt_63 : decode cX10_receipt 63 = .ok (.getfield 34, 3) := by decide +kernel
theorem dX10_receipt_66 : decode cX10_receipt 66 = .ok (.iload_n 1, 1) := by decide +kernel
theorem dX10_receipt_67 : decode cX10_receipt 67 = .ok (.iaload, 1) := by decide +kernel
theorem dX10_receipt_68 : decode cX10_receipt 68 = .ok (.aload_n 0, 1) := by decide +kernel
theorem dX10_receipt_69 : decode cX10_receipt 69 = .ok (.iload_n 1, 1) := by decide +kernel
theorem dX10_receipt_70 : decode cX10_receipt 70 = .ok (.invokevirtual 139, 3) := by decide +kernel
theorem dX10_receipt_73 : decode cX10_receipt 73 = .ok (.invokestatic 389, 3) := by decide +kernel
theorem dX10_receipt_76 : decode cX10_receipt 76 = .ok (.ireturn, 1) := by decide +kernel
theorem dX10_receipt_77 : decode cX10_receipt 77 = .ok (.aload_n 0, 1) := by decide +kernel
theorem dX10_receipt_78 : decode cX10_receipt 78 = .ok (.iconst 2, 1) := by decide +kernel
theorem dX10_receipt_79 : decode cX10_receipt 79 = .ok (.invokevirtual 171, 3) := by decide +kernel
theorem dX10_receipt_82 : decode cX10_receipt 82 = .ok (.ireturn, 1) := by decide +kernel
theorem dX10_isSigned_0 : decode cX10_isSigned 0 = .ok (.aload_n 0, 1) := by decide +kernel
theorem dX10_isSigned_1 : decode cX10_isSigned 1 = .ok (.iconst 0, 1) := by decide +kernel
theorem dX10_isSigned_2 : decode cX10_isSigned 2 = .ok (.putfield 66, 3) := by decide +kernel
theorem dX10_isSigned_5 : decode cX10_isSigned 5 = .ok (.aload_n 0, 1) := by decide +kernel
theorem dX10_isSigned_6 : decode cX10_isSigned 6 = .ok (.iload_n 1, 1) := by decide +kernel
theorem dX10_isSigned_7 : decode cX10_isSigned 7 = .ok (.invokevirtual 165, 3) := by decide +kernel
theorem dX10_isSigned_10 : decode cX10_isSigned 10 = .ok (.ifCond .eq 25, 3) := by decide +kernel
theorem dX10_isSigned_13 : decode cX10_isSigned 13 = .ok (.iload_n 2, 1) := by decide +kernel
theorem dX10_isSigned_14 : decode cX10_isSigned 14 = .ok (.iconst 0, 1) := by decide +kernel
theorem dX10_isSigned_15 : decode cX10_isSigned 15 = .ok (.sipush 200, 3) := by decide +kernel
theorem dX10_isSigned_18 : decode cX10_isSigned 18 = .ok (.invokestatic 72, 3) := by decide +kernel
theorem dX10_isSigned_21 : decode cX10_isSigned 21 = .ok (.ifCond .eq 14, 3) := by decide +kernel
theorem dX10_isSigned_24 : decode cX10_isSigned 24 = .ok (.iload_n 3, 1) := by decide +kernel
theorem dX10_isSigned_25 : decode cX10_isSigned 25 = .ok (.iconst 0, 1) := by decide +kernel
theorem dX10_isSigned_26 : decode cX10_isSigned 26 = .ok (.ldc_w 392, 3) := by decide +kernel
theorem dX10_isSigned_29 : decode cX10_isSigned 29 = .ok (.invokestatic 72, 3) := by decide +kernel
theorem dX10_isSigned_32 : decode cX10_isSigned 32 = .ok (.ifCond .ne 5, 3) := by decide +kernel
theorem dX10_isSigned_35 : decode cX10_isSigned 35 = .ok (.iconst 0, 1) := by decide +kernel
theorem dX10_isSigned_36 : decode cX10_isSigned 36 = .ok (.ireturn, 1) := by decide +kernel
theorem dX10_isSigned_37 : decode cX10_isSigned 37 = .ok (.iload_n 1, 1) := by decide +kernel
theorem dX10_isSigned_38 : decode cX10_isSigned 38 = .ok (.iload_n 2, 1) := by decide +kernel
theorem dX10_isSigned_39 : decode cX10_isSigned 39 = .ok (.iload_n 3, 1) := by decide +kernel
theorem dX10_isSigned_40 : decode cX10_isSigned 40 = .ok (.invokestatic 389, 3) := by decide +kernel
theorem dX10_isSigned_43 : decode cX10_isSigned 43 = .ok (.iload 4, 2) := by decide +kernel
theorem dX10_isSigned_45 : decode cX10_isSigned 45 = .ok (.if_icmp .ne 7, 3) := by decide +kernel
theorem dX10_isSigned_48 : decode cX10_isSigned 48 = .ok (.iconst 1, 1) := by decide +kernel
theorem dX10_isSigned_49 : decode cX10_isSigned 49 = .ok (.goto 4, 3) := by decide +kernel
theorem dX10_isSigned_52 : decode cX10_isSigned 52 = .ok (.iconst 0, 1) := by decide +kernel
theorem dX10_isSigned_53 : decode cX10_isSigned 53 = .ok (.ireturn, 1) := by decide +kernel
theorem dX10_hashAt_0 : decode cX10_hashAt 0 = .ok (.aload_n 0, 1) := by decide +kernel
theorem dX10_hashAt_1 : decode cX10_hashAt 1 = .ok (.iconst 0, 1) := by decide +kernel
theorem dX10_hashAt_2 : decode cX10_hashAt 2 = .ok (.putfield 66, 3) := by decide +kernel
theorem dX10_hashAt_5 : decode cX10_hashAt 5 = .ok (.aload_n 0, 1) := by decide +kernel
theorem dX10_hashAt_6 : decode cX10_hashAt 6 = .ok (.iload_n 1, 1) := by decide +kernel
theorem dX10_hashAt_7 : decode cX10_hashAt 7 = .ok (.invokevirtual 165, 3) := by decide +kernel
theorem dX10_hashAt_10 : decode cX10_hashAt 10 = .ok (.ifCond .eq 17, 3) := by decide +kernel
theorem dX10_hashAt_13 : decode cX10_hashAt 13 = .ok (.iload_n 2, 1) := by decide +kernel
theorem dX10_hashAt_14 : decode cX10_hashAt 14 = .ok (.iconst 0, 1) := by decide +kernel
theorem dX10_hashAt_15 : decode cX10_hashAt 15 = .ok (.aload_n 0, 1) := by decide +kernel
theorem dX10_hashAt_16 : decode cX10_hashAt 16 = .ok (.getfield 34, 3) := by decide +kernel
theorem dX10_hashAt_19 : decode cX10_hashAt 19 = .ok (.iload_n 1, 1) := by decide +kernel
theorem dX10_hashAt_20 : decode cX10_hashAt 20 = .ok (.iaload, 1) := by decide +kernel
theorem dX10_hashAt_21 : decode cX10_hashAt 21 = .ok (.invokestatic 72, 3) := by decide +kernel
theorem dX10_hashAt_24 : decode cX10_hashAt 24 = .ok (.ifCond .ne 9, 3) := by decide +kernel
theorem dX10_hashAt_27 : decode cX10_hashAt 27 = .ok (.aload_n 0, 1) := by decide +kernel
theorem dX10_hashAt_28 : decode cX10_hashAt 28 = .ok (.iconst 1, 1) := by decide +kernel
theorem dX10_hashAt_29 : decode cX10_hashAt 29 = .ok (.invokevirtual 171, 3) := by decide +kernel
theorem dX10_hashAt_32 : decode cX10_hashAt 32 = .ok (.ireturn, 1) := by decide +kernel
theorem dX10_hashAt_33 : decode cX10_hashAt 33 = .ok (.aload_n 0, 1) := by decide +kernel
theorem dX10_hashAt_34 : decode cX10_hashAt 34 = .ok (.iload_n 1, 1) := by decide +kernel
theorem dX10_hashAt_35 : decode cX10_hashAt 35 = .ok (.iload_n 2, 1) := by decide +kernel
theorem dX10_hashAt_36 : decode cX10_hashAt 36 = .ok (.invokevirtual 90, 3) := by decide +kernel
theorem dX10_hashAt_39 : decode cX10_hashAt 39 = .ok (.ireturn, 1) := by decide +kernel
theorem dX10_number_0 : decode cX10_number 0 = .ok (.aload_n 0, 1) := by decide +kernel
theorem dX10_number_1 : decode cX10_number 1 = .ok (.getfield 40, 3) := by decide +kernel
theorem dX10_number_4 : decode cX10_number 4 = .ok (.bipush 6, 2) := by decide +kernel
theorem dX10_number_6 : decode cX10_number 6 = .ok (.iload_n 1, 1) := by decide +kernel
theorem dX10_number_7 : decode cX10_number 7 = .ok (.imul, 1) := by decide +kernel
theorem dX10_number_8 : decode cX10_number 8 = .ok (.iload_n 2, 1) := by decide +kernel
theorem dX10_number_9 : decode cX10_number 9 = .ok (.iadd, 1) := by decide +kernel
theorem dX10_number_10 : decode cX10_number 10 = .ok (.iaload, 1) := by decide +kernel
theorem dX10_number_11 : decode cX10_number 11 = .ok (.ireturn, 1) := by decide +kernel
theorem dX10_vector_0 : decode cX10_vector 0 = .ok (.aload_n 0, 1) := by decide +kernel
theorem dX10_vector_1 : decode cX10_vector 1 = .ok (.iconst 0, 1) := by decide +kernel
theorem dX10_vector_2 : decode cX10_vector 2 = .ok (.putfield 66, 3) := by decide +kernel
theorem dX10_vector_5 : decode cX10_vector 5 = .ok (.aload_n 0, 1) := by decide +kernel
theorem dX10_vector_6 : decode cX10_vector 6 = .ok (.iload_n 1, 1) := by decide +kernel
theorem dX10_vector_7 : decode cX10_vector 7 = .ok (.invokevirtual 165, 3) := by decide +kernel
theorem dX10_vector_10 : decode cX10_vector 10 = .ok (.ifCond .eq 11, 3) := by decide +kernel
theorem dX10_vector_13 : decode cX10_vector 13 = .ok (.aload_n 0, 1) := by decide +kernel
theorem dX10_vector_14 : decode cX10_vector 14 = .ok (.iload_n 2, 1) := by decide +kernel
theorem dX10_vector_15 : decode cX10_vector 15 = .ok (.invokevirtual 165, 3) := by decide +kernel
theorem dX10_vector_18 : decode cX10_vector 18 = .ok (.ifCond .ne 9, 3) := by decide +kernel
theorem dX10_vector_21 : decode cX10_vector 21 = .ok (.aload_n 0, 1) := by decide +kernel
theorem dX10_vector_22 : decode cX10_vector 22 = .ok (.iconst 1, 1) := by decide +kernel
theorem dX10_vector_23 : decode cX10_vector 23 = .ok (.invokevirtual 171, 3) := by decide +kernel
theorem dX10_vector_26 : decode cX10_vector 26 = .ok (.ireturn, 1) := by decide +kernel
theorem dX10_vector_27 : decode cX10_vector 27 = .ok (.aload_n 0, 1) := by decide +kernel
theorem dX10_vector_28 : decode cX10_vector 28 = .ok (.iload_n 1, 1) := by decide +kernel
theorem dX10_vector_29 : decode cX10_vector 29 = .ok (.iload_n 2, 1) := by decide +kernel
theorem dX10_vector_30 : decode cX10_vector 30 = .ok (.invokevirtual 393, 3) := by decide +kernel
theorem dX10_vector_33 : decode cX10_vector 33 = .ok (.ireturn, 1) := by decide +kernel
theorem dX10_order_0 : decode cX10_order 0 = .ok (.aload_n 0, 1) := by decide +kernel
theorem dX10_order_1 : decode cX10_order 1 = .ok (.iconst 0, 1) := by decide +kernel
theorem dX10_order_2 : decode cX10_order 2 = .ok (.putfield 66, 3) := by decide +kernel
theorem dX10_order_5 : decode cX10_order 5 = .ok (.aload_n 0, 1) := by decide +kernel
theorem dX10_order_6 : decode cX10_order 6 = .ok (.iload_n 1, 1) := by decide +kernel
theorem dX10_order_7 : decode cX10_order 7 = .ok (.invokevirtual 165, 3) := by decide +kernel
theorem dX10_order_10 : decode cX10_order 10 = .ok (.ifCond .eq 11, 3) := by decide +kernel
theorem dX10_order_13 : decode cX10_order 13 = .ok (.aload_n 0, 1) := by decide +kernel
theorem dX10_order_14 : decode cX10_order 14 = .ok (.iload_n 2, 1) := by decide +kernel
theorem dX10_order_15 : decode cX10_order 15 = .ok (.invokevirtual 165, 3) := by decide +kernel
theorem dX10_order_18 : decode cX10_order 18 = .ok (.ifCond .ne 9, 3) := by decide +kernel
theorem dX10_order_21 : decode cX10_order 21 = .ok (.aload_n 0, 1) := by decide +kernel
theorem dX10_order_22 : decode cX10_order 22 = .ok (.iconst 1, 1) := by decide +kernel
theorem dX10_order_23 : decode cX10_order 23 = .ok (.invokevirtual 171, 3) := by decide +kernel
theorem dX10_order_26 : decode cX10_order 26 = .ok (.ireturn, 1) := by decide +kernel
theorem dX10_order_27 : decode cX10_order 27 = .ok (.iconst 0, 1) := by decide +kernel
theorem dX10_order_28 : decode cX10_order 28 = .ok (.istore_n 3, 1) := by decide +kernel
theorem dX10_order_29 : decode cX10_order 29 = .ok (.iconst 0, 1) := by decide +kernel
theorem dX10_order_30 : decode cX10_order 30 = .ok (.istore 4, 2) := by decide +kernel
theorem dX10_order_32 : decode cX10_order 32 = .ok (.iconst 0, 1) := by decide +kernel
theorem dX10_order_33 : decode cX10_order 33 = .ok (.istore 5, 2) := by decide +kernel
theorem dX10_order_35 : decode cX10_order 35 = .ok (.iload 5, 2) := by decide +kernel
theorem dX10_order_37 : decode cX10_order 37 = .ok (.aload_n 0, 1) := by decide +kernel
theorem dX10_order_38 : decode cX10_order 38 = .ok (.getfield 69, 3) := by decide +kernel
theorem dX10_order_41 : decode cX10_order 41 = .ok (.if_icmp .ge 65, 3) := by decide +kernel
theorem dX10_order_44 : decode cX10_order 44 = .ok (.iload_n 3, 1) := by decide +kernel
theorem dX10_order_45 : decode cX10_order 45 = .ok (.ifCond .ne 20, 3) := by decide +kernel
theorem dX10_order_48 : decode cX10_order 48 = .ok (.aload_n 0, 1) := by decide +kernel
theorem dX10_order_49 : decode cX10_order 49 = .ok (.iload_n 1, 1) := by decide +kernel
theorem dX10_order_50 : decode cX10_order 50 = .ok (.iload 5, 2) := by decide +kernel
theorem dX10_order_52 : decode cX10_order 52 = .ok (.invokevirtual 393, 3) := by decide +kernel
theorem dX10_order_55 : decode cX10_order 55 = .ok (.aload_n 0, 1) := by decide +kernel
theorem dX10_order_56 : decode cX10_order 56 = .ok (.iload_n 2, 1) := by decide +kernel
theorem dX10_order_57 : decode cX10_order 57 = .ok (.iload 5, 2) := by decide +kernel
theorem dX10_order_59 : decode cX10_order 59 = .ok (.invokevirtual 393, 3) := by decide +kernel
theorem dX10_order_62 : decode cX10_order 62 = .ok (.if_icmp .le 7, 3) := by decide +kernel
theorem dX10_order_65 : decode cX10_order 65 = .ok (.iconst 1, 1) := by decide +kernel
theorem dX10_order_66 : decode cX10_order 66 = .ok (.goto 4, 3) := by decide +kernel
theorem dX10_order_69 : decode cX10_order 69 = .ok (.iconst 0, 1) := by decide +kernel
theorem dX10_order_70 : decode cX10_order 70 = .ok (.istore_n 3, 1) := by decide +kernel
theorem dX10_order_71 : decode cX10_order 71 = .ok (.iload 4, 2) := by decide +kernel
theorem dX10_order_73 : decode cX10_order 73 = .ok (.ifCond .ne 20, 3) := by decide +kernel
theorem dX10_order_76 : decode cX10_order 76 = .ok (.aload_n 0, 1) := by decide +kernel
theorem dX10_order_77 : decode cX10_order 77 = .ok (.iload_n 2, 1) := by decide +kernel
theorem dX10_order_78 : decode cX10_order 78 = .ok (.iload 5, 2) := by decide +kernel
theorem dX10_order_80 : decode cX10_order 80 = .ok (.invokevirtual 393, 3) := by decide +kernel
theorem dX10_order_83 : decode cX10_order 83 = .ok (.aload_n 0, 1) := by decide +kernel
theorem dX10_order_84 : decode cX10_order 84 = .ok (.iload_n 1, 1) := by decide +kernel
theorem dX10_order_85 : decode cX10_order 85 = .ok (.iload 5, 2) := by decide +kernel
theorem dX10_order_87 : decode cX10_order 87 = .ok (.invokevirtual 393, 3) := by decide +kernel
theorem dX10_order_90 : decode cX10_order 90 = .ok (.if_icmp .le 7, 3) := by decide +kernel
theorem dX10_order_93 : decode cX10_order 93 = .ok (.iconst 1, 1) := by decide +kernel
theorem dX10_order_94 : decode cX10_order 94 = .ok (.goto 4, 3) := by decide +kernel
theorem dX10_order_97 : decode cX10_order 97 = .ok (.iconst 0, 1) := by decide +kernel
theorem dX10_order_98 : decode cX10_order 98 = .ok (.istore 4, 2) := by decide +kernel
theorem dX10_order_100 : decode cX10_order 100 = .ok (.iinc 5 1, 3) := by decide +kernel
theorem dX10_order_103 : decode cX10_order 103 = .ok (.goto (-68), 3) := by decide +kernel
theorem dX10_order_106 : decode cX10_order 106 = .ok (.iload_n 3, 1) := by decide +kernel
theorem dX10_order_107 : decode cX10_order 107 = .ok (.ifCond .eq 14, 3) := by decide +kernel
theorem dX10_order_110 : decode cX10_order 110 = .ok (.iload 4, 2) := by decide +kernel
theorem dX10_order_112 : decode cX10_order 112 = .ok (.ifCond .eq 7, 3) := by decide +kernel
theorem dX10_order_115 : decode cX10_order 115 = .ok (.iconst 3, 1) := by decide +kernel
theorem dX10_order_116 : decode cX10_order 116 = .ok (.goto 4, 3) := by decide +kernel
theorem dX10_order_119 : decode cX10_order 119 = .ok (.iconst 2, 1) := by decide +kernel
theorem dX10_order_120 : decode cX10_order 120 = .ok (.ireturn, 1) := by decide +kernel
theorem dX10_order_121 : decode cX10_order 121 = .ok (.iload 4, 2) := by decide +kernel
theorem dX10_order_123 : decode cX10_order 123 = .ok (.ifCond .eq 7, 3) := by decide +kernel
theorem dX10_order_126 : decode cX10_order 126 = .ok (.iconst 1, 1) := by decide +kernel
theorem dX10_order_127 : decode cX10_order 127 = .ok (.goto 4, 3) := by decide +kernel
theorem dX10_order_130 : decode cX10_order 130 = .ok (.iconst 0, 1) := by decide +kernel
theorem dX10_order_131 : decode cX10_order 131 = .ok (.ireturn, 1) := by decide +kernel
theorem dX10_isSuspicious_0 : decode cX10_isSuspicious 0 = .ok (.aload_n 0, 1) := by decide +kernel
theorem dX10_isSuspicious_1 : decode cX10_isSuspicious 1 = .ok (.aload_n 0, 1) := by decide +kernel
theorem dX10_isSuspicious_2 : decode cX10_isSuspicious 2 = .ok (.iload_n 1, 1) := by decide +kernel
theorem dX10_isSuspicious_3 : decode cX10_isSuspicious 3 = .ok (.invokevirtual 165, 3) := by decide +kernel
theorem dX10_isSuspicious_6 : decode cX10_isSuspicious 6 = .ok (.ifCond .eq 7, 3) := by decide +kernel
theorem dX10_isSuspicious_9 : decode cX10_isSuspicious 9 = .ok (.iconst 0, 1) := by decide +kernel
theorem dX10_isSuspicious_10 : decode cX10_isSuspicious 10 = .ok (.goto 4, 3) := by decide +kernel
theorem dX10_isSuspicious_13 : decode cX10_isSuspicious 13 = .ok (.iconst 1, 1) := by decide +kernel
theorem dX10_isSuspicious_14 : decode cX10_isSuspicious 14 = .ok (.putfield 66, 3) := by decide +kernel
theorem dX10_isSuspicious_17 : decode cX10_isSuspicious 17 = .ok (.aload_n 0, 1) := by decide +kernel
theorem dX10_isSuspicious_18 : decode cX10_isSuspicious 18 = .ok (.getfield 66, 3) := by decide +kernel
theorem dX10_isSuspicious_21 : decode cX10_isSuspicious 21 = .ok (.ifCond .ne 16, 3) := by decide +kernel
theorem dX10_isSuspicious_24 : decode cX10_isSuspicious 24 = .ok (.aload_n 0, 1) := by decide +kernel
theorem dX10_isSuspicious_25 : decode cX10_isSuspicious 25 = .ok (.getfield 46, 3) := by decide +kernel
theorem dX10_isSuspicious_28 : decode cX10_isSuspicious 28 = .ok (.iload_n 1, 1) := by decide +kernel
theorem dX10_isSuspicious_29 : decode cX10_isSuspicious 29 = .ok (.baload, 1) := by decide +kernel
theorem dX10_isSuspicious_30 : decode cX10_isSuspicious 30 = .ok (.ifCond .eq 7, 3) := by decide +kernel
theorem dX10_isSuspicious_33 : decode cX10_isSuspicious 33 = .ok (.iconst 1, 1) := by decide +kernel
theorem dX10_isSuspicious_34 : decode cX10_isSuspicious 34 = .ok (.goto 4, 3) := by decide +kernel
theorem dX10_isSuspicious_37 : decode cX10_isSuspicious 37 = .ok (.iconst 0, 1) := by decide +kernel
theorem dX10_isSuspicious_38 : decode cX10_isSuspicious 38 = .ok (.ireturn, 1) := by decide +kernel
theorem dX10_wouldFind_0 : decode cX10_wouldFind 0 = .ok (.aload_n 0, 1) := by decide +kernel
theorem dX10_wouldFind_1 : decode cX10_wouldFind 1 = .ok (.iconst 0, 1) := by decide +kernel
theorem dX10_wouldFind_2 : decode cX10_wouldFind 2 = .ok (.putfield 66, 3) := by decide +kernel
theorem dX10_wouldFind_5 : decode cX10_wouldFind 5 = .ok (.aload_n 0, 1) := by decide +kernel
theorem dX10_wouldFind_6 : decode cX10_wouldFind 6 = .ok (.iload_n 1, 1) := by decide +kernel
theorem dX10_wouldFind_7 : decode cX10_wouldFind 7 = .ok (.invokevirtual 165, 3) := by decide +kernel
theorem dX10_wouldFind_10 : decode cX10_wouldFind 10 = .ok (.ifCond .ne 9, 3) := by decide +kernel
theorem dX10_wouldFind_13 : decode cX10_wouldFind 13 = .ok (.aload_n 0, 1) := by decide +kernel
theorem dX10_wouldFind_14 : decode cX10_wouldFind 14 = .ok (.iconst 1, 1) := by decide +kernel
theorem dX10_wouldFind_15 : decode cX10_wouldFind 15 = .ok (.invokevirtual 171, 3) := by decide +kernel
theorem dX10_wouldFind_18 : decode cX10_wouldFind 18 = .ok (.ireturn, 1) := by decide +kernel
theorem dX10_wouldFind_19 : decode cX10_wouldFind 19 = .ok (.aload_n 0, 1) := by decide +kernel
theorem dX10_wouldFind_20 : decode cX10_wouldFind 20 = .ok (.iload_n 1, 1) := by decide +kernel
theorem dX10_wouldFind_21 : decode cX10_wouldFind 21 = .ok (.invokevirtual 149, 3) := by decide +kernel
theorem dX10_wouldFind_24 : decode cX10_wouldFind 24 = .ok (.ireturn, 1) := by decide +kernel
theorem dX10_forkedPairs_0 : decode cX10_forkedPairs 0 = .ok (.aload_n 0, 1) := by decide +kernel
theorem dX10_forkedPairs_1 : decode cX10_forkedPairs 1 = .ok (.iconst 0, 1) := by decide +kernel
theorem dX10_forkedPairs_2 : decode cX10_forkedPairs 2 = .ok (.putfield 66, 3) := by decide +kernel
theorem dX10_forkedPairs_5 : decode cX10_forkedPairs 5 = .ok (.iconst 0, 1) := by decide +kernel
theorem dX10_forkedPairs_6 : decode cX10_forkedPairs 6 = .ok (.istore_n 1, 1) := by decide +kernel
theorem dX10_forkedPairs_7 : decode cX10_forkedPairs 7 = .ok (.iconst 0, 1) := by decide +kernel
theorem dX10_forkedPairs_8 : decode cX10_forkedPairs 8 = .ok (.istore_n 2, 1) := by decide +kernel
theorem dX10_forkedPairs_9 : decode cX10_forkedPairs 9 = .ok (.iload_n 2, 1) := by decide +kernel
theorem dX10_forkedPairs_10 : decode cX10_forkedPairs 10 = .ok (.aload_n 0, 1) := by decide +kernel
theorem dX10_forkedPairs_11 : decode cX10_forkedPairs 11 = .ok (.getfield 69, 3) := by decide +kernel
theorem dX10_forkedPairs_14 : decode cX10_forkedPairs 14 = .ok (.if_icmp .ge 39, 3) := by decide +kernel
theorem dX10_forkedPairs_17 : decode cX10_forkedPairs 17 = .ok (.iconst 0, 1) := by decide +kernel
theorem dX10_forkedPairs_18 : decode cX10_forkedPairs 18 = .ok (.istore_n 3, 1) := by decide +kernel
theorem dX10_forkedPairs_19 : decode cX10_forkedPairs 19 = .ok (.iload_n 3, 1) := by decide +kernel
theorem dX10_forkedPairs_20 : decode cX10_forkedPairs 20 = .ok (.iload_n 2, 1) := by decide +kernel
theorem dX10_forkedPairs_21 : decode cX10_forkedPairs 21 = .ok (.if_icmp .ge 26, 3) := by decide +kernel
theorem dX10_forkedPairs_24 : decode cX10_forkedPairs 24 = .ok (.aload_n 0, 1) := by decide +kernel
theorem dX10_forkedPairs_25 : decode cX10_forkedPairs 25 = .ok (.iload_n 2, 1) := by decide +kernel
theorem dX10_forkedPairs_26 : decode cX10_forkedPairs 26 = .ok (.iload_n 3, 1) := by decide +kernel
theorem dX10_forkedPairs_27 : decode cX10_forkedPairs 27 = .ok (.invokevirtual 185, 3) := by decide +kernel
theorem dX10_forkedPairs_30 : decode cX10_forkedPairs 30 = .ok (.ifCond .eq 9, 3) := by decide +kernel
theorem dX10_forkedPairs_33 : decode cX10_forkedPairs 33 = .ok (.iload_n 1, 1) := by decide +kernel
theorem dX10_forkedPairs_34 : decode cX10_forkedPairs 34 = .ok (.iconst 1, 1) := by decide +kernel
theorem dX10_forkedPairs_35 : decode cX10_forkedPairs 35 = .ok (.iadd, 1) := by decide +kernel
theorem dX10_forkedPairs_36 : decode cX10_forkedPairs 36 = .ok (.goto 4, 3) := by decide +kernel
theorem dX10_forkedPairs_39 : decode cX10_forkedPairs 39 = .ok (.iload_n 1, 1) := by decide +kernel
theorem dX10_forkedPairs_40 : decode cX10_forkedPairs 40 = .ok (.istore_n 1, 1) := by decide +kernel
theorem dX10_forkedPairs_41 : decode cX10_forkedPairs 41 = .ok (.iinc 3 1, 3) := by decide +kernel
theorem dX10_forkedPairs_44 : decode cX10_forkedPairs 44 = .ok (.goto (-25), 3) := by decide +kernel
theorem dX10_forkedPairs_47 : decode cX10_forkedPairs 47 = .ok (.iinc 2 1, 3) := by decide +kernel
theorem dX10_forkedPairs_50 : decode cX10_forkedPairs 50 = .ok (.goto (-41), 3) := by decide +kernel
theorem dX10_forkedPairs_53 : decode cX10_forkedPairs 53 = .ok (.iload_n 1, 1) := by decide +kernel
theorem dX10_forkedPairs_54 : decode cX10_forkedPairs 54 = .ok (.ireturn, 1) := by decide +kernel
theorem dX10_seenBy_0 : decode cX10_seenBy 0 = .ok (.aload_n 0, 1) := by decide +kernel
theorem dX10_seenBy_1 : decode cX10_seenBy 1 = .ok (.iconst 0, 1) := by decide +kernel
theorem dX10_seenBy_2 : decode cX10_seenBy 2 = .ok (.putfield 66, 3) := by decide +kernel
theorem dX10_seenBy_5 : decode cX10_seenBy 5 = .ok (.aload_n 0, 1) := by decide +kernel
theorem dX10_seenBy_6 : decode cX10_seenBy 6 = .ok (.iload_n 1, 1) := by decide +kernel
theorem dX10_seenBy_7 : decode cX10_seenBy 7 = .ok (.invokevirtual 165, 3) := by decide +kernel
theorem dX10_seenBy_10 : decode cX10_seenBy 10 = .ok (.ifCond .ne 9, 3) := by decide +kernel
theorem dX10_seenBy_13 : decode cX10_seenBy 13 = .ok (.aload_n 0, 1) := by decide +kernel
theorem dX10_seenBy_14 : decode cX10_seenBy 14 = .ok (.iconst 1, 1) := by decide +kernel
theorem dX10_seenBy_15 : decode cX10_seenBy 15 = .ok (.invokevirtual 171, 3) := by decide +kernel
theorem dX10_seenBy_18 : decode cX10_seenBy 18 = .ok (.ireturn, 1) := by decide +kernel
theorem dX10_seenBy_19 : decode cX10_seenBy 19 = .ok (.iconst 0, 1) := by decide +kernel
theorem dX10_seenBy_20 : decode cX10_seenBy 20 = .ok (.istore_n 2, 1) := by decide +kernel
theorem dX10_seenBy_21 : decode cX10_seenBy 21 = .ok (.iconst 0, 1) := by decide +kernel
theorem dX10_seenBy_22 : decode cX10_seenBy 22 = .ok (.istore_n 3, 1) := by decide +kernel
theorem dX10_seenBy_23 : decode cX10_seenBy 23 = .ok (.iload_n 3, 1) := by decide +kernel
theorem dX10_seenBy_24 : decode cX10_seenBy 24 = .ok (.aload_n 0, 1) := by decide +kernel
theorem dX10_seenBy_25 : decode cX10_seenBy 25 = .ok (.getfield 69, 3) := by decide +kernel
theorem dX10_seenBy_28 : decode cX10_seenBy 28 = .ok (.if_icmp .ge 60, 3) := by decide +kernel
theorem dX10_seenBy_31 : decode cX10_seenBy 31 = .ok (.iload_n 3, 1) := by decide +kernel
theorem dX10_seenBy_32 : decode cX10_seenBy 32 = .ok (.iload_n 1, 1) := by decide +kernel
theorem dX10_seenBy_33 : decode cX10_seenBy 33 = .ok (.if_icmp .eq 31, 3) := by decide +kernel
theorem dX10_seenBy_36 : decode cX10_seenBy 36 = .ok (.aload_n 0, 1) := by decide +kernel
theorem dX10_seenBy_37 : decode cX10_seenBy 37 = .ok (.iload_n 3, 1) := by decide +kernel
theorem dX10_seenBy_38 : decode cX10_seenBy 38 = .ok (.iload_n 1, 1) := by decide +kernel
theorem dX10_seenBy_39 : decode cX10_seenBy 39 = .ok (.invokevirtual 393, 3) := by decide +kernel
theorem dX10_seenBy_42 : decode cX10_seenBy 42 = .ok (.aload_n 0, 1) := by decide +kernel
theorem dX10_seenBy_43 : decode cX10_seenBy 43 = .ok (.iload_n 1, 1) := by decide +kernel
theorem dX10_seenBy_44 : decode cX10_seenBy 44 = .ok (.iload_n 1, 1) := by decide +kernel
theorem dX10_seenBy_45 : decode cX10_seenBy 45 = .ok (.invokevirtual 393, 3) := by decide +kernel
theorem dX10_seenBy_48 : decode cX10_seenBy 48 = .ok (.if_icmp .lt 16, 3) := by decide +kernel
theorem dX10_seenBy_51 : decode cX10_seenBy 51 = .ok (.aload_n 0, 1) := by decide +kernel
theorem dX10_seenBy_52 : decode cX10_seenBy 52 = .ok (.iload_n 3, 1) := by decide +kernel
theorem dX10_seenBy_53 : decode cX10_seenBy 53 = .ok (.iload_n 1, 1) := by decide +kernel
theorem dX10_seenBy_54 : decode cX10_seenBy 54 = .ok (.invokevirtual 185, 3) := by decide +kernel
theorem dX10_seenBy_57 : decode cX10_seenBy 57 = .ok (.ifCond .ne 7, 3) := by decide +kernel
theorem dX10_seenBy_60 : decode cX10_seenBy 60 = .ok (.iconst 1, 1) := by decide +kernel
theorem dX10_seenBy_61 : decode cX10_seenBy 61 = .ok (.goto 4, 3) := by decide +kernel
theorem dX10_seenBy_64 : decode cX10_seenBy 64 = .ok (.iconst 0, 1) := by decide +kernel
theorem dX10_seenBy_65 : decode cX10_seenBy 65 = .ok (.istore 4, 2) := by decide +kernel
theorem dX10_seenBy_67 : decode cX10_seenBy 67 = .ok (.iload 4, 2) := by decide +kernel
theorem dX10_seenBy_69 : decode cX10_seenBy 69 = .ok (.ifCond .eq 11, 3) := by decide +kernel
theorem dX10_seenBy_72 : decode cX10_seenBy 72 = .ok (.iload_n 2, 1) := by decide +kernel
theorem dX10_seenBy_73 : decode cX10_seenBy 73 = .ok (.iconst 1, 1) := by decide +kernel
theorem dX10_seenBy_74 : decode cX10_seenBy 74 = .ok (.iload_n 3, 1) := by decide +kernel
theorem dX10_seenBy_75 : decode cX10_seenBy 75 = .ok (.ishl, 1) := by decide +kernel
theorem dX10_seenBy_76 : decode cX10_seenBy 76 = .ok (.ior, 1) := by decide +kernel
theorem dX10_seenBy_77 : decode cX10_seenBy 77 = .ok (.goto 4, 3) := by decide +kernel
theorem dX10_seenBy_80 : decode cX10_seenBy 80 = .ok (.iload_n 2, 1) := by decide +kernel
theorem dX10_seenBy_81 : decode cX10_seenBy 81 = .ok (.istore_n 2, 1) := by decide +kernel
theorem dX10_seenBy_82 : decode cX10_seenBy 82 = .ok (.iinc 3 1, 3) := by decide +kernel
theorem dX10_seenBy_85 : decode cX10_seenBy 85 = .ok (.goto (-62), 3) := by decide +kernel
theorem dX10_seenBy_88 : decode cX10_seenBy 88 = .ok (.iload_n 2, 1) := by decide +kernel
theorem dX10_seenBy_89 : decode cX10_seenBy 89 = .ok (.ireturn, 1) := by decide +kernel
theorem dX10_blames__0 : decode cX10_blames_ 0 = .ok (.aload_n 0, 1) := by decide +kernel
theorem dX10_blames__1 : decode cX10_blames_ 1 = .ok (.aload_n 0, 1) := by decide +kernel
theorem dX10_blames__2 : decode cX10_blames_ 2 = .ok (.getfield 129, 3) := by decide +kernel
theorem dX10_blames__5 : decode cX10_blames_ 5 = .ok (.invokevirtual 228, 3) := by decide +kernel
theorem dX10_blames__8 : decode cX10_blames_ 8 = .ok (.ireturn, 1) := by decide +kernel
theorem dX10_blame_0 : decode cX10_blame 0 = .ok (.aload_n 0, 1) := by decide +kernel
theorem dX10_blame_1 : decode cX10_blame 1 = .ok (.iconst 0, 1) := by decide +kernel
theorem dX10_blame_2 : decode cX10_blame 2 = .ok (.putfield 66, 3) := by decide +kernel
theorem dX10_blame_5 : decode cX10_blame 5 = .ok (.iload_n 1, 1) := by decide +kernel
theorem dX10_blame_6 : decode cX10_blame 6 = .ok (.iconst 0, 1) := by decide +kernel
theorem dX10_blame_7 : decode cX10_blame 7 = .ok (.aload_n 0, 1) := by decide +kernel
theorem dX10_blame_8 : decode cX10_blame 8 = .ok (.getfield 129, 3) := by decide +kernel
theorem dX10_blame_11 : decode cX10_blame 11 = .ok (.iconst 1, 1) := by decide +kernel
theorem dX10_blame_12 : decode cX10_blame 12 = .ok (.isub, 1) := by decide +kernel
theorem dX10_blame_13 : decode cX10_blame 13 = .ok (.invokestatic 72, 3) := by decide +kernel
theorem dX10_blame_16 : decode cX10_blame 16 = .ok (.ifCond .ne 9, 3) := by decide +kernel
theorem dX10_blame_19 : decode cX10_blame 19 = .ok (.aload_n 0, 1) := by decide +kernel
theorem dX10_blame_20 : decode cX10_blame 20 = .ok (.iconst 1, 1) := by decide +kernel
theorem dX10_blame_21 : decode cX10_blame 21 = .ok (.invokevirtual 171, 3) := by decide +kernel
theorem dX10_blame_24 : decode cX10_blame 24 = .ok (.ireturn, 1) := by decide +kernel
theorem dX10_blame_25 : decode cX10_blame 25 = .ok (.iload_n 2, 1) := by decide +kernel
theorem dX10_blame_26 : decode cX10_blame 26 = .ok (.iconst 0, 1) := by decide +kernel
theorem dX10_blame_27 : decode cX10_blame 27 = .ok (.iconst 5, 1) := by decide +kernel
theorem dX10_blame_28 : decode cX10_blame 28 = .ok (.invokestatic 72, 3) := by decide +kernel
theorem dX10_blame_31 : decode cX10_blame 31 = .ok (.ifCond .ne 9, 3) := by decide +kernel
theorem dX10_blame_34 : decode cX10_blame 34 = .ok (.aload_n 0, 1) := by decide +kernel
theorem dX10_blame_35 : decode cX10_blame 35 = .ok (.iconst 2, 1) := by decide +kernel
theorem dX10_blame_36 : decode cX10_blame 36 = .ok (.invokevirtual 171, 3) := by decide +kernel
theorem dX10_blame_39 : decode cX10_blame 39 = .ok (.ireturn, 1) := by decide +kernel
theorem dX10_blame_40 : decode cX10_blame 40 = .ok (.aload_n 0, 1) := by decide +kernel
theorem dX10_blame_41 : decode cX10_blame 41 = .ok (.getfield 53, 3) := by decide +kernel
theorem dX10_blame_44 : decode cX10_blame 44 = .ok (.bipush 6, 2) := by decide +kernel
theorem dX10_blame_46 : decode cX10_blame 46 = .ok (.iload_n 1, 1) := by decide +kernel
theorem dX10_blame_47 : decode cX10_blame 47 = .ok (.imul, 1) := by decide +kernel
theorem dX10_blame_48 : decode cX10_blame 48 = .ok (.iload_n 2, 1) := by decide +kernel
theorem dX10_blame_49 : decode cX10_blame 49 = .ok (.iadd, 1) := by decide +kernel
theorem dX10_blame_50 : decode cX10_blame 50 = .ok (.iaload, 1) := by decide +kernel
theorem dX10_blame_51 : decode cX10_blame 51 = .ok (.ireturn, 1) := by decide +kernel
theorem dX10_posts_0 : decode cX10_posts 0 = .ok (.aload_n 0, 1) := by decide +kernel
theorem dX10_posts_1 : decode cX10_posts 1 = .ok (.aload_n 0, 1) := by decide +kernel
theorem dX10_posts_2 : decode cX10_posts 2 = .ok (.getfield 126, 3) := by decide +kernel
theorem dX10_posts_5 : decode cX10_posts 5 = .ok (.invokevirtual 228, 3) := by decide +kernel
theorem dX10_posts_8 : decode cX10_posts 8 = .ok (.ireturn, 1) := by decide +kernel
theorem dX10_boardPost_0 : decode cX10_boardPost 0 = .ok (.aload_n 0, 1) := by decide +kernel
theorem dX10_boardPost_1 : decode cX10_boardPost 1 = .ok (.iconst 0, 1) := by decide +kernel
theorem dX10_boardPost_2 : decode cX10_boardPost 2 = .ok (.putfield 66, 3) := by decide +kernel
theorem dX10_boardPost_5 : decode cX10_boardPost 5 = .ok (.iload_n 1, 1) := by decide +kernel
theorem dX10_boardPost_6 : decode cX10_boardPost 6 = .ok (.iconst 0, 1) := by decide +kernel
theorem dX10_boardPost_7 : decode cX10_boardPost 7 = .ok (.aload_n 0, 1) := by decide +kernel
theorem dX10_boardPost_8 : decode cX10_boardPost 8 = .ok (.getfield 126, 3) := by decide +kernel
theorem dX10_boardPost_11 : decode cX10_boardPost 11 = .ok (.iconst 1, 1) := by decide +kernel
theorem dX10_boardPost_12 : decode cX10_boardPost 12 = .ok (.isub, 1) := by decide +kernel
theorem dX10_boardPost_13 : decode cX10_boardPost 13 = .ok (.invokestatic 72, 3) := by decide +kernel
theorem dX10_boardPost_16 : decode cX10_boardPost 16 = .ok (.ifCond .ne 9, 3) := by decide +kernel
theorem dX10_boardPost_19 : decode cX10_boardPost 19 = .ok (.aload_n 0, 1) := by decide +kernel
theorem dX10_boardPost_20 : decode cX10_boardPost 20 = .ok (.iconst 1, 1) := by decide +kernel
theorem dX10_boardPost_21 : decode cX10_boardPost 21 = .ok (.invokevirtual 171, 3) := by decide +kernel
theorem dX10_boardPost_24 : decode cX10_boardPost 24 = .ok (.ireturn, 1) := by decide +kernel
theorem dX10_boardPost_25 : decode cX10_boardPost 25 = .ok (.iload_n 2, 1) := by decide +kernel
theorem dX10_boardPost_26 : decode cX10_boardPost 26 = .ok (.iconst 0, 1) := by decide +kernel
theorem dX10_boardPost_27 : decode cX10_boardPost 27 = .ok (.iconst 3, 1) := by decide +kernel
theorem dX10_boardPost_28 : decode cX10_boardPost 28 = .ok (.invokestatic 72, 3) := by decide +kernel
theorem dX10_boardPost_31 : decode cX10_boardPost 31 = .ok (.ifCond .ne 9, 3) := by decide +kernel
theorem dX10_boardPost_34 : decode cX10_boardPost 34 = .ok (.aload_n 0, 1) := by decide +kernel
theorem dX10_boardPost_35 : decode cX10_boardPost 35 = .ok (.iconst 2, 1) := by decide +kernel
theorem dX10_boardPost_36 : decode cX10_boardPost 36 = .ok (.invokevirtual 171, 3) := by decide +kernel
theorem dX10_boardPost_39 : decode cX10_boardPost 39 = .ok (.ireturn, 1) := by decide +kernel
theorem dX10_boardPost_40 : decode cX10_boardPost 40 = .ok (.aload_n 0, 1) := by decide +kernel
theorem dX10_boardPost_41 : decode cX10_boardPost 41 = .ok (.getfield 50, 3) := by decide +kernel
theorem dX10_boardPost_44 : decode cX10_boardPost 44 = .ok (.iconst 4, 1) := by decide +kernel
theorem dX10_boardPost_45 : decode cX10_boardPost 45 = .ok (.iload_n 1, 1) := by decide +kernel
theorem dX10_boardPost_46 : decode cX10_boardPost 46 = .ok (.imul, 1) := by decide +kernel
theorem dX10_boardPost_47 : decode cX10_boardPost 47 = .ok (.iload_n 2, 1) := by decide +kernel
theorem dX10_boardPost_48 : decode cX10_boardPost 48 = .ok (.iadd, 1) := by decide +kernel
theorem dX10_boardPost_49 : decode cX10_boardPost 49 = .ok (.iaload, 1) := by decide +kernel
theorem dX10_boardPost_50 : decode cX10_boardPost 50 = .ok (.ireturn, 1) := by decide +kernel
theorem dX10_checkPost_0 : decode cX10_checkPost 0 = .ok (.aload_n 0, 1) := by decide +kernel
theorem dX10_checkPost_1 : decode cX10_checkPost 1 = .ok (.iconst 0, 1) := by decide +kernel
theorem dX10_checkPost_2 : decode cX10_checkPost 2 = .ok (.putfield 66, 3) := by decide +kernel
theorem dX10_checkPost_5 : decode cX10_checkPost 5 = .ok (.aload_n 0, 1) := by decide +kernel
theorem dX10_checkPost_6 : decode cX10_checkPost 6 = .ok (.iload_n 1, 1) := by decide +kernel
theorem dX10_checkPost_7 : decode cX10_checkPost 7 = .ok (.invokevirtual 165, 3) := by decide +kernel
theorem dX10_checkPost_10 : decode cX10_checkPost 10 = .ok (.ifCond .eq 17, 3) := by decide +kernel
theorem dX10_checkPost_13 : decode cX10_checkPost 13 = .ok (.iload_n 2, 1) := by decide +kernel
theorem dX10_checkPost_14 : decode cX10_checkPost 14 = .ok (.iconst 0, 1) := by decide +kernel
theorem dX10_checkPost_15 : decode cX10_checkPost 15 = .ok (.aload_n 0, 1) := by decide +kernel
theorem dX10_checkPost_16 : decode cX10_checkPost 16 = .ok (.getfield 126, 3) := by decide +kernel
theorem dX10_checkPost_19 : decode cX10_checkPost 19 = .ok (.iconst 1, 1) := by decide +kernel
theorem dX10_checkPost_20 : decode cX10_checkPost 20 = .ok (.isub, 1) := by decide +kernel
theorem dX10_checkPost_21 : decode cX10_checkPost 21 = .ok (.invokestatic 72, 3) := by decide +kernel
theorem dX10_checkPost_24 : decode cX10_checkPost 24 = .ok (.ifCond .ne 9, 3) := by decide +kernel
theorem dX10_checkPost_27 : decode cX10_checkPost 27 = .ok (.aload_n 0, 1) := by decide +kernel
theorem dX10_checkPost_28 : decode cX10_checkPost 28 = .ok (.iconst 1, 1) := by decide +kernel
theorem dX10_checkPost_29 : decode cX10_checkPost 29 = .ok (.invokevirtual 171, 3) := by decide +kernel
theorem dX10_checkPost_32 : decode cX10_checkPost 32 = .ok (.ireturn, 1) := by decide +kernel
theorem dX10_checkPost_33 : decode cX10_checkPost 33 = .ok (.aload_n 0, 1) := by decide +kernel
theorem dX10_checkPost_34 : decode cX10_checkPost 34 = .ok (.getfield 50, 3) := by decide +kernel
theorem dX10_checkPost_37 : decode cX10_checkPost 37 = .ok (.iconst 4, 1) := by decide +kernel
theorem dX10_checkPost_38 : decode cX10_checkPost 38 = .ok (.iload_n 2, 1) := by decide +kernel
theorem dX10_checkPost_39 : decode cX10_checkPost 39 = .ok (.imul, 1) := by decide +kernel
theorem dX10_checkPost_40 : decode cX10_checkPost 40 = .ok (.iconst 1, 1) := by decide +kernel
theorem dX10_checkPost_41 : decode cX10_checkPost 41 = .ok (.iadd, 1) := by decide +kernel
theorem dX10_checkPost_42 : decode cX10_checkPost 42 = .ok (.iaload, 1) := by decide +kernel
theorem dX10_checkPost_43 : decode cX10_checkPost 43 = .ok (.istore_n 3, 1) := by decide +kernel
theorem dX10_checkPost_44 : decode cX10_checkPost 44 = .ok (.aload_n 0, 1) := by decide +kernel
theorem dX10_checkPost_45 : decode cX10_checkPost 45 = .ok (.getfield 34, 3) := by decide +kernel
theorem dX10_checkPost_48 : decode cX10_checkPost 48 = .ok (.iload_n 1, 1) := by decide +kernel
theorem dX10_checkPost_49 : decode cX10_checkPost 49 = .ok (.iaload, 1) := by decide +kernel
theorem dX10_checkPost_50 : decode cX10_checkPost 50 = .ok (.iload_n 3, 1) := by decide +kernel
theorem dX10_checkPost_51 : decode cX10_checkPost 51 = .ok (.if_icmp .ge 5, 3) := by decide +kernel
theorem dX10_checkPost_54 : decode cX10_checkPost 54 = .ok (.iconst 2, 1) := by decide +kernel
theorem dX10_checkPost_55 : decode cX10_checkPost 55 = .ok (.ireturn, 1) := by decide +kernel
theorem dX10_checkPost_56 : decode cX10_checkPost 56 = .ok (.aload_n 0, 1) := by decide +kernel
theorem dX10_checkPost_57 : decode cX10_checkPost 57 = .ok (.iload_n 1, 1) := by decide +kernel
theorem dX10_checkPost_58 : decode cX10_checkPost 58 = .ok (.iload_n 3, 1) := by decide +kernel
theorem dX10_checkPost_59 : decode cX10_checkPost 59 = .ok (.invokevirtual 90, 3) := by decide +kernel
theorem dX10_checkPost_62 : decode cX10_checkPost 62 = .ok (.aload_n 0, 1) := by decide +kernel
theorem dX10_checkPost_63 : decode cX10_checkPost 63 = .ok (.getfield 50, 3) := by decide +kernel
theorem dX10_checkPost_66 : decode cX10_checkPost 66 = .ok (.iconst 4, 1) := by decide +kernel
theorem dX10_checkPost_67 : decode cX10_checkPost 67 = .ok (.iload_n 2, 1) := by decide +kernel
theorem dX10_checkPost_68 : decode cX10_checkPost 68 = .ok (.imul, 1) := by decide +kernel
theorem dX10_checkPost_69 : decode cX10_checkPost 69 = .ok (.iconst 2, 1) := by decide +kernel
theorem dX10_checkPost_70 : decode cX10_checkPost 70 = .ok (.iadd, 1) := by decide +kernel
theorem dX10_checkPost_71 : decode cX10_checkPost 71 = .ok (.iaload, 1) := by decide +kernel
theorem dX10_checkPost_72 : decode cX10_checkPost 72 = .ok (.if_icmp .ne 7, 3) := by decide +kernel
theorem dX10_checkPost_75 : decode cX10_checkPost 75 = .ok (.iconst 0, 1) := by decide +kernel
theorem dX10_checkPost_76 : decode cX10_checkPost 76 = .ok (.goto 4, 3) := by decide +kernel
theorem dX10_checkPost_79 : decode cX10_checkPost 79 = .ok (.iconst 1, 1) := by decide +kernel
theorem dX10_checkPost_80 : decode cX10_checkPost 80 = .ok (.ireturn, 1) := by decide +kernel
