theorem dX1_init_0 : decode cX1_init 0 = .ok (.aload_n 0, 1) := by decide +kernel
theorem dX1_init_1 : decode cX1_init 1 = .ok (.invokespecial 3, 3) := by decide +kernel
theorem dX1_init_4 : decode cX1_init 4 = .ok (.aload_n 0, 1) := by decide +kernel
theorem dX1_init_5 : decode cX1_init 5 = .ok (.sipush 201, 3) := by decide +kernel
theorem dX1_init_8 : decode cX1_init 8 = .ok (.newarray .int, 2) := by decide +kernel
theorem dX1_init_10 : decode cX1_init 10 = .ok (.putfield 9, 3) := by decide +kernel
theorem dX1_init_13 : decode cX1_init 13 = .ok (.aload_n 0, 1) := by decide +kernel
theorem dX1_init_14 : decode cX1_init 14 = .ok (.sipush 201, 3) := by decide +kernel
theorem dX1_init_17 : decode cX1_init 17 = .ok (.newarray .int, 2) := by decide +kernel
theorem dX1_init_19 : decode cX1_init 19 = .ok (.putfield 15, 3) := by decide +kernel
theorem dX1_init_22 : decode cX1_init 22 = .ok (.aload_n 0, 1) := by decide +kernel
theorem dX1_init_23 : decode cX1_init 23 = .ok (.sipush 201, 3) := by decide +kernel
theorem dX1_init_26 : decode cX1_init 26 = .ok (.newarray .int, 2) := by decide +kernel
theorem dX1_init_28 : decode cX1_init 28 = .ok (.putfield 18, 3) := by decide +kernel
theorem dX1_init_31 : decode cX1_init 31 = .ok (.aload_n 0, 1) := by decide +kernel
theorem dX1_init_32 : decode cX1_init 32 = .ok (.sipush 201, 3) := by decide +kernel
theorem dX1_init_35 : decode cX1_init 35 = .ok (.newarray .int, 2) := by decide +kernel
theorem dX1_init_37 : decode cX1_init 37 = .ok (.putfield 21, 3) := by decide +kernel
theorem dX1_init_40 : decode cX1_init 40 = .ok (.aload_n 0, 1) := by decide +kernel
theorem dX1_init_41 : decode cX1_init 41 = .ok (.sipush 201, 3) := by decide +kernel
theorem dX1_init_44 : decode cX1_init 44 = .ok (.newarray .int, 2) := by decide +kernel
theorem dX1_init_46 : decode cX1_init 46 = .ok (.putfield 24, 3) := by decide +kernel
theorem dX1_init_49 : decode cX1_init 49 = .ok (.aload_n 0, 1) := by decide +kernel
theorem dX1_init_50 : decode cX1_init 50 = .ok (.sipush 201, 3) := by decide +kernel
theorem dX1_init_53 : decode cX1_init 53 = .ok (.newarray .int, 2) := by decide +kernel
theorem dX1_init_55 : decode cX1_init 55 = .ok (.putfield 27, 3) := by decide +kernel
theorem dX1_init_58 : decode cX1_init 58 = .ok (.aload_n 0, 1) := by decide +kernel
theorem dX1_init_59 : decode cX1_init 59 = .ok (.getfield 27, 3) := by decide +kernel
theorem dX1_init_62 : decode cX1_init 62 = .ok (.iconst 0, 1) := by decide +kernel
theorem dX1_init_63 : decode cX1_init 63 = .ok (.iconst 1, 1) := by decide +kernel
theorem dX1_init_64 : decode cX1_init 64 = .ok (.iastore, 1) := by decide +kernel
theorem dX1_init_65 : decode cX1_init 65 = .ok (.return_, 1) := by decide +kernel
theorem dX1_copyFrom_0 : decode cX1_copyFrom 0 = .ok (.aload_n 1, 1) := by decide +kernel
theorem dX1_copyFrom_1 : decode cX1_copyFrom 1 = .ok (.getfield 30, 3) := by decide +kernel
theorem dX1_copyFrom_4 : decode cX1_copyFrom 4 = .ok (.iconst 1, 1) := by decide +kernel
theorem dX1_copyFrom_5 : decode cX1_copyFrom 5 = .ok (.iadd, 1) := by decide +kernel
theorem dX1_copyFrom_6 : decode cX1_copyFrom 6 = .ok (.istore_n 2, 1) := by decide +kernel
theorem dX1_copyFrom_7 : decode cX1_copyFrom 7 = .ok (.aload_n 1, 1) := by decide +kernel
theorem dX1_copyFrom_8 : decode cX1_copyFrom 8 = .ok (.getfield 9, 3) := by decide +kernel
theorem dX1_copyFrom_11 : decode cX1_copyFrom 11 = .ok (.iconst 0, 1) := by decide +kernel
theorem dX1_copyFrom_12 : decode cX1_copyFrom 12 = .ok (.aload_n 0, 1) := by decide +kernel
theorem dX1_copyFrom_13 : decode cX1_copyFrom 13 = .ok (.getfield 9, 3) := by decide +kernel
theorem dX1_copyFrom_16 : decode cX1_copyFrom 16 = .ok (.iconst 0, 1) := by decide +kernel
theorem dX1_copyFrom_17 : decode cX1_copyFrom 17 = .ok (.iload_n 2, 1) := by decide +kernel
theorem dX1_copyFrom_18 : decode cX1_copyFrom 18 = .ok (.invokestatic 34, 3) := by decide +kernel
theorem dX1_copyFrom_21 : decode cX1_copyFrom 21 = .ok (.aload_n 1, 1) := by decide +kernel
theorem dX1_copyFrom_22 : decode cX1_copyFrom 22 = .ok (.getfield 15, 3) := by decide +kernel
theorem dX1_copyFrom_25 : decode cX1_copyFrom 25 = .ok (.iconst 0, 1) := by decide +kernel
theorem dX1_copyFrom_26 : decode cX1_copyFrom 26 = .ok (.aload_n 0, 1) := by decide +kernel
theorem dX1_copyFrom_27 : decode cX1_copyFrom 27 = .ok (.getfield 15, 3) := by decide +kernel
theorem dX1_copyFrom_30 : decode cX1_copyFrom 30 = .ok (.iconst 0, 1) := by decide +kernel
theorem dX1_copyFrom_31 : decode cX1_copyFrom 31 = .ok (.iload_n 2, 1) := by decide +kernel
theorem dX1_copyFrom_32 : decode cX1_copyFrom 32 = .ok (.invokestatic 34, 3) := by decide +kernel
theorem dX1_copyFrom_35 : decode cX1_copyFrom 35 = .ok (.aload_n 1, 1) := by decide +kernel
theorem dX1_copyFrom_36 : decode cX1_copyFrom 36 = .ok (.getfield 18, 3) := by decide +kernel
theorem dX1_copyFrom_39 : decode cX1_copyFrom 39 = .ok (.iconst 0, 1) := by decide +kernel
theorem dX1_copyFrom_40 : decode cX1_copyFrom 40 = .ok (.aload_n 0, 1) := by decide +kernel
theorem dX1_copyFrom_41 : decode cX1_copyFrom 41 = .ok (.getfield 18, 3) := by decide +kernel
theorem dX1_copyFrom_44 : decode cX1_copyFrom 44 = .ok (.iconst 0, 1) := by decide +kernel
theorem dX1_copyFrom_45 : decode cX1_copyFrom 45 = .ok (.iload_n 2, 1) := by decide +kernel
theorem dX1_copyFrom_46 : decode cX1_copyFrom 46 = .ok (.invokestatic 34, 3) := by decide +kernel
theorem dX1_copyFrom_49 : decode cX1_copyFrom 49 = .ok (.aload_n 1, 1) := by decide +kernel
theorem dX1_copyFrom_50 : decode cX1_copyFrom 50 = .ok (.getfield 21, 3) := by decide +kernel
theorem dX1_copyFrom_53 : decode cX1_copyFrom 53 = .ok (.iconst 0, 1) := by decide +kernel
theorem dX1_copyFrom_54 : decode cX1_copyFrom 54 = .ok (.aload_n 0, 1) := by decide +kernel
theorem dX1_copyFrom_55 : decode cX1_copyFrom 55 = .ok (.getfield 21, 3) := by decide +kernel
theorem dX1_copyFrom_58 : decode cX1_copyFrom 58 = .ok (.iconst 0, 1) := by decide +kernel
theorem dX1_copyFrom_59 : decode cX1_copyFrom 59 = .ok (.iload_n 2, 1) := by decide +kernel
theorem dX1_copyFrom_60 : decode cX1_copyFrom 60 = .ok (.invokestatic 34, 3) := by decide +kernel
theorem dX1_copyFrom_63 : decode cX1_copyFrom 63 = .ok (.aload_n 1, 1) := by decide +kernel
theorem dX1_copyFrom_64 : decode cX1_copyFrom 64 = .ok (.getfield 24, 3) := by decide +kernel
theorem dX1_copyFrom_67 : decode cX1_copyFrom 67 = .ok (.iconst 0, 1) := by decide +kernel
theorem dX1_copyFrom_68 : decode cX1_copyFrom 68 = .ok (.aload_n 0, 1) := by decide +kernel
theorem dX1_copyFrom_69 : decode cX1_copyFrom 69 = .ok (.getfield 24, 3) := by decide +kernel
theorem dX1_copyFrom_72 : decode cX1_copyFrom 72 = .ok (.iconst 0, 1) := by decide +kernel
theorem dX1_copyFrom_73 : decode cX1_copyFrom 73 = .ok (.iload_n 2, 1) := by decide +kernel
theorem dX1_copyFrom_74 : decode cX1_copyFrom 74 = .ok (.invokestatic 34, 3) := by decide +kernel
theorem dX1_copyFrom_77 : decode cX1_copyFrom 77 = .ok (.aload_n 1, 1) := by decide +kernel
theorem dX1_copyFrom_78 : decode cX1_copyFrom 78 = .ok (.getfield 27, 3) := by decide +kernel
theorem dX1_copyFrom_81 : decode cX1_copyFrom 81 = .ok (.iconst 0, 1) := by decide +kernel
theorem dX1_copyFrom_82 : decode cX1_copyFrom 82 = .ok (.aload_n 0, 1) := by decide +kernel
theorem dX1_copyFrom_83 : decode cX1_copyFrom 83 = .ok (.getfield 27, 3) := by decide +kernel
theorem dX1_copyFrom_86 : decode cX1_copyFrom 86 = .ok (.iconst 0, 1) := by decide +kernel
theorem dX1_copyFrom_87 : decode cX1_copyFrom 87 = .ok (.iload_n 2, 1) := by decide +kernel
theorem dX1_copyFrom_88 : decode cX1_copyFrom 88 = .ok (.invokestatic 34, 3) := by decide +kernel
theorem dX1_copyFrom_91 : decode cX1_copyFrom 91 = .ok (.aload_n 0, 1) := by decide +kernel
theorem dX1_copyFrom_92 : decode cX1_copyFrom 92 = .ok (.aload_n 1, 1) := by decide +kernel
theorem dX1_copyFrom_93 : decode cX1_copyFrom 93 = .ok (.getfield 30, 3) := by decide +kernel
theorem dX1_copyFrom_96 : decode cX1_copyFrom 96 = .ok (.putfield 30, 3) := by decide +kernel
theorem dX1_copyFrom_99 : decode cX1_copyFrom 99 = .ok (.return_, 1) := by decide +kernel
theorem dX1_isFull_0 : decode cX1_isFull 0 = .ok (.aload_n 0, 1) := by decide +kernel
theorem dX1_isFull_1 : decode cX1_isFull 1 = .ok (.getfield 30, 3) := by decide +kernel
theorem dX1_isFull_4 : decode cX1_isFull 4 = .ok (.sipush 200, 3) := by decide +kernel
theorem dX1_isFull_7 : decode cX1_isFull 7 = .ok (.if_icmp .lt 7, 3) := by decide +kernel
theorem dX1_isFull_10 : decode cX1_isFull 10 = .ok (.iconst 1, 1) := by decide +kernel
theorem dX1_isFull_11 : decode cX1_isFull 11 = .ok (.goto 4, 3) := by decide +kernel
theorem dX1_isFull_14 : decode cX1_isFull 14 = .ok (.iconst 0, 1) := by decide +kernel
theorem dX1_isFull_15 : decode cX1_isFull 15 = .ok (.ireturn, 1) := by decide +kernel
theorem dX1_hasEntry_0 : decode cX1_hasEntry 0 = .ok (.iload_n 1, 1) := by decide +kernel
theorem dX1_hasEntry_1 : decode cX1_hasEntry 1 = .ok (.iconst 1, 1) := by decide +kernel
theorem dX1_hasEntry_2 : decode cX1_hasEntry 2 = .ok (.if_icmp .lt 15, 3) := by decide +kernel
theorem dX1_hasEntry_5 : decode cX1_hasEntry 5 = .ok (.iload_n 1, 1) := by decide +kernel
theorem dX1_hasEntry_6 : decode cX1_hasEntry 6 = .ok (.aload_n 0, 1) := by decide +kernel
theorem dX1_hasEntry_7 : decode cX1_hasEntry 7 = .ok (.getfield 30, 3) := by decide +kernel
theorem dX1_hasEntry_10 : decode cX1_hasEntry 10 = .ok (.if_icmp .gt 7, 3) := by decide +kernel
theorem dX1_hasEntry_13 : decode cX1_hasEntry 13 = .ok (.iconst 1, 1) := by decide +kernel
theorem dX1_hasEntry_14 : decode cX1_hasEntry 14 = .ok (.goto 4, 3) := by decide +kernel
theorem dX1_hasEntry_17 : decode cX1_hasEntry 17 = .ok (.iconst 0, 1) := by decide +kernel
theorem dX1_hasEntry_18 : decode cX1_hasEntry 18 = .ok (.ireturn, 1) := by decide +kernel
theorem dX1_lastHash_0 : decode cX1_lastHash 0 = .ok (.aload_n 0, 1) := by decide +kernel
theorem dX1_lastHash_1 : decode cX1_lastHash 1 = .ok (.getfield 27, 3) := by decide +kernel
theorem dX1_lastHash_4 : decode cX1_lastHash 4 = .ok (.aload_n 0, 1) := by decide +kernel
theorem dX1_lastHash_5 : decode cX1_lastHash 5 = .ok (.getfield 30, 3) := by decide +kernel
theorem dX1_lastHash_8 : decode cX1_lastHash 8 = .ok (.iaload, 1) := by decide +kernel
theorem dX1_lastHash_9 : decode cX1_lastHash 9 = .ok (.ireturn, 1) := by decide +kernel
theorem dX1_append_0 : decode cX1_append 0 = .ok (.aload_n 0, 1) := by decide +kernel
theorem dX1_append_1 : decode cX1_append 1 = .ok (.invokevirtual 40, 3) := by decide +kernel
theorem dX1_append_4 : decode cX1_append 4 = .ok (.ifCond .eq 4, 3) := by decide +kernel
theorem dX1_append_7 : decode cX1_append 7 = .ok (.return_, 1) := by decide +kernel
theorem dX1_append_8 : decode cX1_append 8 = .ok (.aload_n 0, 1) := by decide +kernel
theorem dX1_append_9 : decode cX1_append 9 = .ok (.dup, 1) := by decide +kernel
theorem dX1_append_10 : decode cX1_append 10 = .ok (.getfield 30, 3) := by decide +kernel
theorem dX1_append_13 : decode cX1_append 13 = .ok (.iconst 1, 1) := by decide +kernel
theorem dX1_append_14 : decode cX1_append 14 = .ok (.iadd, 1) := by decide +kernel
theorem dX1_append_15 : decode cX1_append 15 = .ok (.putfield 30, 3) := by decide +kernel
theorem dX1_append_18 : decode cX1_append 18 = .ok (.aload_n 0, 1) := by decide +kernel
theorem dX1_append_19 : decode cX1_append 19 = .ok (.getfield 9, 3) := by decide +kernel
theorem dX1_append_22 : decode cX1_append 22 = .ok (.aload_n 0, 1) := by decide +kernel
theorem dX1_append_23 : decode cX1_append 23 = .ok (.getfield 30, 3) := by decide +kernel
theorem dX1_append_26 : decode cX1_append 26 = .ok (.iload_n 1, 1) := by decide +kernel
theorem dX1_append_27 : decode cX1_append 27 = .ok (.iastore, 1) := by decide +kernel
theorem dX1_append_28 : decode cX1_append 28 = .ok (.aload_n 0, 1) := by decide +kernel
theorem dX1_append_29 : decode cX1_append 29 = .ok (.getfield 15, 3) := by decide +kernel
theorem dX1_append_32 : decode cX1_append 32 = .ok (.aload_n 0, 1) := by decide +kernel
theorem dX1_append_33 : decode cX1_append 33 = .ok (.getfield 30, 3) := by decide +kernel
theorem dX1_append_36 : decode cX1_append 36 = .ok (.iload_n 2, 1) := by decide +kernel
theorem dX1_append_37 : decode cX1_append 37 = .ok (.iastore, 1) := by decide +kernel
theorem dX1_append_38 : decode cX1_append 38 = .ok (.aload_n 0, 1) := by decide +kernel
theorem dX1_append_39 : decode cX1_append 39 = .ok (.getfield 18, 3) := by decide +kernel
theorem dX1_append_42 : decode cX1_append 42 = .ok (.aload_n 0, 1) := by decide +kernel
theorem dX1_append_43 : decode cX1_append 43 = .ok (.getfield 30, 3) := by decide +kernel
theorem dX1_append_46 : decode cX1_append 46 = .ok (.iload_n 3, 1) := by decide +kernel
theorem dX1_append_47 : decode cX1_append 47 = .ok (.iastore, 1) := by decide +kernel
theorem dX1_append_48 : decode cX1_append 48 = .ok (.aload_n 0, 1) := by decide +kernel
theorem dX1_append_49 : decode cX1_append 49 = .ok (.getfield 21, 3) := by decide +kernel
theorem dX1_append_52 : decode cX1_append 52 = .ok (.aload_n 0, 1) := by decide +kernel
theorem dX1_append_53 : decode cX1_append 53 = .ok (.getfield 30, 3) := by decide +kernel
theorem dX1_append_56 : decode cX1_append 56 = .ok (.iload 4, 2) := by decide +kernel
theorem dX1_append_58 : decode cX1_append 58 = .ok (.iastore, 1) := by decide +kernel
theorem dX1_append_59 : decode cX1_append 59 = .ok (.aload_n 0, 1) := by decide +kernel
theorem dX1_append_60 : decode cX1_append 60 = .ok (.getfield 24, 3) := by decide +kernel
theorem dX1_append_63 : decode cX1_append 63 = .ok (.aload_n 0, 1) := by decide +kernel
theorem dX1_append_64 : decode cX1_append 64 = .ok (.getfield 30, 3) := by decide +kernel
theorem dX1_append_67 : decode cX1_append 67 = .ok (.iload 5, 2) := by decide +kernel
theorem dX1_append_69 : decode cX1_append 69 = .ok (.iastore, 1) := by decide +kernel
theorem dX1_append_70 : decode cX1_append 70 = .ok (.aload_n 0, 1) := by decide +kernel
theorem dX1_append_71 : decode cX1_append 71 = .ok (.getfield 27, 3) := by decide +kernel
theorem dX1_append_74 : decode cX1_append 74 = .ok (.aload_n 0, 1) := by decide +kernel
theorem dX1_append_75 : decode cX1_append 75 = .ok (.getfield 30, 3) := by decide +kernel
theorem dX1_append_78 : decode cX1_append 78 = .ok (.aload_n 0, 1) := by decide +kernel
theorem dX1_append_79 : decode cX1_append 79 = .ok (.aload_n 0, 1) := by decide +kernel
theorem dX1_append_80 : decode cX1_append 80 = .ok (.getfield 30, 3) := by decide +kernel
theorem dX1_append_83 : decode cX1_append 83 = .ok (.invokevirtual 44, 3) := by decide +kernel
theorem dX1_append_86 : decode cX1_append 86 = .ok (.iastore, 1) := by decide +kernel
theorem dX1_append_87 : decode cX1_append 87 = .ok (.return_, 1) := by decide +kernel
theorem dX1_appendMerge_0 : decode cX1_appendMerge 0 = .ok (.aload_n 0, 1) := by decide +kernel
theorem dX1_appendMerge_1 : decode cX1_appendMerge 1 = .ok (.iconst 2, 1) := by decide +kernel
theorem dX1_appendMerge_2 : decode cX1_appendMerge 2 = .ok (.iconst (-1), 1) := by decide +kernel
theorem dX1_appendMerge_3 : decode cX1_appendMerge 3 = .ok (.iconst (-1), 1) := by decide +kernel
theorem dX1_appendMerge_4 : decode cX1_appendMerge 4 = .ok (.iconst 0, 1) := by decide +kernel
theorem dX1_appendMerge_5 : decode cX1_appendMerge 5 = .ok (.iload_n 1, 1) := by decide +kernel
theorem dX1_appendMerge_6 : decode cX1_appendMerge 6 = .ok (.invokevirtual 48, 3) := by decide +kernel
theorem dX1_appendMerge_9 : decode cX1_appendMerge 9 = .ok (.return_, 1) := by decide +kernel
theorem dX1_appendOwn_0 : decode cX1_appendOwn 0 = .ok (.iload_n 2, 1) := by decide +kernel
theorem dX1_appendOwn_1 : decode cX1_appendOwn 1 = .ok (.iconst 1, 1) := by decide +kernel
theorem dX1_appendOwn_2 : decode cX1_appendOwn 2 = .ok (.iadd, 1) := by decide +kernel
theorem dX1_appendOwn_3 : decode cX1_appendOwn 3 = .ok (.istore_n 3, 1) := by decide +kernel
theorem dX1_appendOwn_4 : decode cX1_appendOwn 4 = .ok (.iload_n 3, 1) := by decide +kernel
theorem dX1_appendOwn_5 : decode cX1_appendOwn 5 = .ok (.aload_n 1, 1) := by decide +kernel
theorem dX1_appendOwn_6 : decode cX1_appendOwn 6 = .ok (.getfield 30, 3) := by decide +kernel
theorem dX1_appendOwn_9 : decode cX1_appendOwn 9 = .ok (.if_icmp .gt 43, 3) := by decide +kernel
theorem dX1_appendOwn_12 : decode cX1_appendOwn 12 = .ok (.aload_n 0, 1) := by decide +kernel
theorem dX1_appendOwn_13 : decode cX1_appendOwn 13 = .ok (.aload_n 1, 1) := by decide +kernel
theorem dX1_appendOwn_14 : decode cX1_appendOwn 14 = .ok (.getfield 9, 3) := by decide +kernel
theorem dX1_appendOwn_17 : decode cX1_appendOwn 17 = .ok (.iload_n 3, 1) := by decide +kernel
theorem dX1_appendOwn_18 : decode cX1_appendOwn 18 = .ok (.iaload, 1) := by decide +kernel
theorem dX1_appendOwn_19 : decode cX1_appendOwn 19 = .ok (.aload_n 1, 1) := by decide +kernel
theorem dX1_appendOwn_20 : decode cX1_appendOwn 20 = .ok (.getfield 15, 3) := by decide +kernel
theorem dX1_appendOwn_23 : decode cX1_appendOwn 23 = .ok (.iload_n 3, 1) := by decide +kernel
theorem dX1_appendOwn_24 : decode cX1_appendOwn 24 = .ok (.iaload, 1) := by decide +kernel
theorem dX1_appendOwn_25 : decode cX1_appendOwn 25 = .ok (.aload_n 1, 1) := by decide +kernel
theorem dX1_appendOwn_26 : decode cX1_appendOwn 26 = .ok (.getfield 18, 3) := by decide +kernel
theorem dX1_appendOwn_29 : decode cX1_appendOwn 29 = .ok (.iload_n 3, 1) := by decide +kernel
theorem dX1_appendOwn_30 : decode cX1_appendOwn 30 = .ok (.iaload, 1) := by decide +kernel
theorem dX1_appendOwn_31 : decode cX1_appendOwn 31 = .ok (.aload_n 1, 1) := by decide +kernel
theorem dX1_appendOwn_32 : decode cX1_appendOwn 32 = .ok (.getfield 21, 3) := by decide +kernel
theorem dX1_appendOwn_35 : decode cX1_appendOwn 35 = .ok (.iload_n 3, 1) := by decide +kernel
theorem dX1_appendOwn_36 : decode cX1_appendOwn 36 = .ok (.iaload, 1) := by decide +kernel
theorem dX1_appendOwn_37 : decode cX1_appendOwn 37 = .ok (.aload_n 1, 1) := by decide +kernel
theorem dX1_appendOwn_38 : decode cX1_appendOwn 38 = .ok (.getfield 24, 3) := by decide +kernel
theorem dX1_appendOwn_41 : decode cX1_appendOwn 41 = .ok (.iload_n 3, 1) := by decide +kernel
theorem dX1_appendOwn_42 : decode cX1_appendOwn 42 = .ok (.iaload, 1) := by decide +kernel
theorem dX1_appendOwn_43 : decode cX1_appendOwn 43 = .ok (.invokevirtual 48, 3) := by decide +kernel
theorem dX1_appendOwn_46 : decode cX1_appendOwn 46 = .ok (.iinc 3 1, 3) := by decide +kernel
theorem dX1_appendOwn_49 : decode cX1_appendOwn 49 = .ok (.goto (-45), 3) := by decide +kernel
theorem dX1_appendOwn_52 : decode cX1_appendOwn 52 = .ok (.return_, 1) := by decide +kernel
theorem dX1_computedHash_0 : decode cX1_computedHash 0 = .ok (.iload_n 1, 1) := by decide +kernel
theorem dX1_computedHash_1 : decode cX1_computedHash 1 = .ok (.iconst 1, 1) := by decide +kernel
theorem dX1_computedHash_2 : decode cX1_computedHash 2 = .ok (.if_icmp .lt 11, 3) := by decide +kernel
theorem dX1_computedHash_5 : decode cX1_computedHash 5 = .ok (.iload_n 1, 1) := by decide +kernel
theorem dX1_computedHash_6 : decode cX1_computedHash 6 = .ok (.aload_n 0, 1) := by decide +kernel
theorem dX1_computedHash_7 : decode cX1_computedHash 7 = .ok (.getfield 30, 3) := by decide +kernel
theorem dX1_computedHash_10 : decode cX1_computedHash 10 = .ok (.if_icmp .le 5, 3) := by decide +kernel
theorem dX1_computedHash_13 : decode cX1_computedHash 13 = .ok (.iconst 1, 1) := by decide +kernel
theorem dX1_computedHash_14 : decode cX1_computedHash 14 = .ok (.ireturn, 1) := by decide +kernel
theorem dX1_computedHash_15 : decode cX1_computedHash 15 = .ok (.aload_n 0, 1) := by decide +kernel
theorem dX1_computedHash_16 : decode cX1_computedHash 16 = .ok (.getfield 27, 3) := by decide +kernel
theorem dX1_computedHash_19 : decode cX1_computedHash 19 = .ok (.iload_n 1, 1) := by decide +kernel
theorem dX1_computedHash_20 : decode cX1_computedHash 20 = .ok (.iconst 1, 1) := by decide +kernel
theorem dX1_computedHash_21 : decode cX1_computedHash 21 = .ok (.isub, 1) := by decide +kernel
theorem dX1_computedHash_22 : decode cX1_computedHash 22 = .ok (.iaload, 1) := by decide +kernel
theorem dX1_computedHash_23 : decode cX1_computedHash 23 = .ok (.i2l, 1) := by decide +kernel
theorem dX1_computedHash_24 : decode cX1_computedHash 24 = .ok (.ldc2_w 52, 3) := by decide +kernel
theorem dX1_computedHash_27 : decode cX1_computedHash 27 = .ok (.lmul, 1) := by decide +kernel
theorem dX1_computedHash_28 : decode cX1_computedHash 28 = .ok (.iload_n 1, 1) := by decide +kernel
theorem dX1_computedHash_29 : decode cX1_computedHash 29 = .ok (.i2l, 1) := by decide +kernel
theorem dX1_computedHash_30 : decode cX1_computedHash 30 = .ok (.ladd, 1) := by decide +kernel
theorem dX1_computedHash_31 : decode cX1_computedHash 31 = .ok (.lstore_n 2, 1) := by decide +kernel
theorem dX1_computedHash_32 : decode cX1_computedHash 32 = .ok (.aload_n 0, 1) := by decide +kernel
theorem dX1_computedHash_33 : decode cX1_computedHash 33 = .ok (.getfield 9, 3) := by decide +kernel
theorem dX1_computedHash_36 : decode cX1_computedHash 36 = .ok (.iload_n 1, 1) := by decide +kernel
theorem dX1_computedHash_37 : decode cX1_computedHash 37 = .ok (.iaload, 1) := by decide +kernel
theorem dX1_computedHash_38 : decode cX1_computedHash 38 = .ok (.iconst 2, 1) := by decide +kernel
theorem dX1_computedHash_39 : decode cX1_computedHash 39 = .ok (.if_icmp .ne 20, 3) := by decide +kernel
theorem dX1_computedHash_42 : decode cX1_computedHash 42 = .ok (.lload_n 2, 1) := by decide +kernel
theorem dX1_computedHash_43 : decode cX1_computedHash 43 = .ok (.aload_n 0, 1) := by decide +kernel
theorem dX1_computedHash_44 : decode cX1_computedHash 44 = .ok (.getfield 24, 3) := by decide +kernel
theorem dX1_computedHash_47 : decode cX1_computedHash 47 = .ok (.iload_n 1, 1) := by decide +kernel
theorem dX1_computedHash_48 : decode cX1_computedHash 48 = .ok (.iaload, 1) := by decide +kernel
theorem dX1_computedHash_49 : decode cX1_computedHash 49 = .ok (.i2l, 1) := by decide +kernel
theorem dX1_computedHash_50 : decode cX1_computedHash 50 = .ok (.ldc2_w 54, 3) := by decide +kernel
theorem dX1_computedHash_53 : decode cX1_computedHash 53 = .ok (.lmul, 1) := by decide +kernel
theorem dX1_computedHash_54 : decode cX1_computedHash 54 = .ok (.ladd, 1) := by decide +kernel
theorem dX1_computedHash_55 : decode cX1_computedHash 55 = .ok (.lstore_n 2, 1) := by decide +kernel
theorem dX1_computedHash_56 : decode cX1_computedHash 56 = .ok (.goto 29, 3) := by decide +kernel
theorem dX1_computedHash_59 : decode cX1_computedHash 59 = .ok (.lload_n 2, 1) := by decide +kernel
theorem dX1_computedHash_60 : decode cX1_computedHash 60 = .ok (.aload_n 0, 1) := by decide +kernel
theorem dX1_computedHash_61 : decode cX1_computedHash 61 = .ok (.getfield 15, 3) := by decide +kernel
theorem dX1_computedHash_64 : decode cX1_computedHash 64 = .ok (.iload_n 1, 1) := by decide +kernel
theorem dX1_computedHash_65 : decode cX1_computedHash 65 = .ok (.iaload, 1) := by decide +kernel
theorem dX1_computedHash_66 : decode cX1_computedHash 66 = .ok (.i2l, 1) := by decide +kernel
theorem dX1_computedHash_67 : decode cX1_computedHash 67 = .ok (.ldc2_w 56, 3) := by decide +kernel
theorem dX1_computedHash_70 : decode cX1_computedHash 70 = .ok (.lmul, 1) := by decide +kernel
theorem dX1_computedHash_71 : decode cX1_computedHash 71 = .ok (.aload_n 0, 1) := by decide +kernel
theorem dX1_computedHash_72 : decode cX1_computedHash 72 = .ok (.getfield 18, 3) := by decide +kernel
theorem dX1_computedHash_75 : decode cX1_computedHash 75 = .ok (.iload_n 1, 1) := by decide +kernel
theorem dX1_computedHash_76 : decode cX1_computedHash 76 = .ok (.iaload, 1) := by decide +kernel
theorem dX1_computedHash_77 : decode cX1_computedHash 77 = .ok (.i2l, 1) := by decide +kernel
theorem dX1_computedHash_78 : decode cX1_computedHash 78 = .ok (.ldc2_w 58, 3) := by decide +kernel
theorem dX1_computedHash_81 : decode cX1_computedHash 81 = .ok (.lmul, 1) := by decide +kernel
theorem dX1_computedHash_82 : decode cX1_computedHash 82 = .ok (.ladd, 1) := by decide +kernel
theorem dX1_computedHash_83 : decode cX1_computedHash 83 = .ok (.ladd, 1) := by decide +kernel
theorem dX1_computedHash_84 : decode cX1_computedHash 84 = .ok (.lstore_n 2, 1) := by decide +kernel
theorem dX1_computedHash_85 : decode cX1_computedHash 85 = .ok (.aload_n 0, 1) := by decide +kernel
theorem dX1_computedHash_86 : decode cX1_computedHash 86 = .ok (.getfield 9, 3) := by decide +kernel
theorem dX1_computedHash_89 : decode cX1_computedHash 89 = .ok (.iload_n 1, 1) := by decide +kernel
theorem dX1_computedHash_90 : decode cX1_computedHash 90 = .ok (.iaload, 1) := by decide +kernel
theorem dX1_computedHash_91 : decode cX1_computedHash 91 = .ok (.iconst 1, 1) := by decide +kernel
theorem dX1_computedHash_92 : decode cX1_computedHash 92 = .ok (.if_icmp .ne 19, 3) := by decide +kernel
theorem dX1_computedHash_95 : decode cX1_computedHash 95 = .ok (.lload_n 2, 1) := by decide +kernel
theorem dX1_computedHash_96 : decode cX1_computedHash 96 = .ok (.aload_n 0, 1) := by decide +kernel
theorem dX1_computedHash_97 : decode cX1_computedHash 97 = .ok (.getfield 21, 3) := by decide +kernel
theorem dX1_computedHash_100 : decode cX1_computedHash 100 = .ok (.iload_n 1, 1) := by decide +kernel
theorem dX1_computedHash_101 : decode cX1_computedHash 101 = .ok (.iaload, 1) := by decide +kernel
theorem dX1_computedHash_102 : decode cX1_computedHash 102 = .ok (.iconst 1, 1) := by decide +kernel
theorem dX1_computedHash_103 : decode cX1_computedHash 103 = .ok (.iadd, 1) := by decide +kernel
theorem dX1_computedHash_104 : decode cX1_computedHash 104 = .ok (.i2l, 1) := by decide +kernel
theorem dX1_computedHash_105 : decode cX1_computedHash 105 = .ok (.ldc2_w 60, 3) := by decide +kernel
theorem dX1_computedHash_108 : decode cX1_computedHash 108 = .ok (.lmul, 1) := by decide +kernel
theorem dX1_computedHash_109 : decode cX1_computedHash 109 = .ok (.ladd, 1) := by decide +kernel
theorem dX1_computedHash_110 : decode cX1_computedHash 110 = .ok (.lstore_n 2, 1) := by decide +kernel
theorem dX1_computedHash_111 : decode cX1_computedHash 111 = .ok (.lload_n 2, 1) := by decide +kernel
theorem dX1_computedHash_112 : decode cX1_computedHash 112 = .ok (.ldc2_w 62, 3) := by decide +kernel
theorem dX1_computedHash_115 : decode cX1_computedHash 115 = .ok (.lrem, 1) := by decide +kernel
theorem dX1_computedHash_116 : decode cX1_computedHash 116 = .ok (.l2i, 1) := by decide +kernel
theorem dX1_computedHash_117 : decode cX1_computedHash 117 = .ok (.ireturn, 1) := by decide +kernel
theorem dX1_firstUnsound_0 : decode cX1_firstUnsound 0 = .ok (.iload_n 1, 1) := by decide +kernel
theorem dX1_firstUnsound_1 : decode cX1_firstUnsound 1 = .ok (.iconst 1, 1) := by decide +kernel
theorem dX1_firstUnsound_2 : decode cX1_firstUnsound 2 = .ok (.iadd, 1) := by decide +kernel
theorem dX1_firstUnsound_3 : decode cX1_firstUnsound 3 = .ok (.istore_n 2, 1) := by decide +kernel
theorem dX1_firstUnsound_4 : decode cX1_firstUnsound 4 = .ok (.iload_n 2, 1) := by decide +kernel
theorem dX1_firstUnsound_5 : decode cX1_firstUnsound 5 = .ok (.aload_n 0, 1) := by decide +kernel
theorem dX1_firstUnsound_6 : decode cX1_firstUnsound 6 = .ok (.getfield 30, 3) := by decide +kernel
theorem dX1_firstUnsound_9 : decode cX1_firstUnsound 9 = .ok (.if_icmp .gt 25, 3) := by decide +kernel
theorem dX1_firstUnsound_12 : decode cX1_firstUnsound 12 = .ok (.aload_n 0, 1) := by decide +kernel
theorem dX1_firstUnsound_13 : decode cX1_firstUnsound 13 = .ok (.getfield 27, 3) := by decide +kernel
theorem dX1_firstUnsound_16 : decode cX1_firstUnsound 16 = .ok (.iload_n 2, 1) := by decide +kernel
theorem dX1_firstUnsound_17 : decode cX1_firstUnsound 17 = .ok (.iaload, 1) := by decide +kernel
theorem dX1_firstUnsound_18 : decode cX1_firstUnsound 18 = .ok (.aload_n 0, 1) := by decide +kernel
theorem dX1_firstUnsound_19 : decode cX1_firstUnsound 19 = .ok (.iload_n 2, 1) := by decide +kernel
theorem dX1_firstUnsound_20 : decode cX1_firstUnsound 20 = .ok (.invokevirtual 44, 3) := by decide +kernel
theorem dX1_firstUnsound_23 : decode cX1_firstUnsound 23 = .ok (.if_icmp .eq 5, 3) := by decide +kernel
theorem dX1_firstUnsound_26 : decode cX1_firstUnsound 26 = .ok (.iload_n 2, 1) := by decide +kernel
theorem dX1_firstUnsound_27 : decode cX1_firstUnsound 27 = .ok (.ireturn, 1) := by decide +kernel
theorem dX1_firstUnsound_28 : decode cX1_firstUnsound 28 = .ok (.iinc 2 1, 3) := by decide +kernel
theorem dX1_firstUnsound_31 : decode cX1_firstUnsound 31 = .ok (.goto (-27), 3) := by decide +kernel
theorem dX1_firstUnsound_34 : decode cX1_firstUnsound 34 = .ok (.aload_n 0, 1) := by decide +kernel
theorem dX1_firstUnsound_35 : decode cX1_firstUnsound 35 = .ok (.getfield 30, 3) := by decide +kernel
theorem dX1_firstUnsound_38 : decode cX1_firstUnsound 38 = .ok (.iconst 1, 1) := by decide +kernel
theorem dX1_firstUnsound_39 : decode cX1_firstUnsound 39 = .ok (.iadd, 1) := by decide +kernel
theorem dX1_firstUnsound_40 : decode cX1_firstUnsound 40 = .ok (.ireturn, 1) := by decide +kernel
theorem dX1_lastValue_0 : decode cX1_lastValue 0 = .ok (.aload_n 0, 1) := by decide +kernel
theorem dX1_lastValue_1 : decode cX1_lastValue 1 = .ok (.getfield 30, 3) := by decide +kernel
theorem dX1_lastValue_4 : decode cX1_lastValue 4 = .ok (.istore_n 2, 1) := by decide +kernel
theorem dX1_lastValue_5 : decode cX1_lastValue 5 = .ok (.iload_n 2, 1) := by decide +kernel
theorem dX1_lastValue_6 : decode cX1_lastValue 6 = .ok (.iconst 1, 1) := by decide +kernel
theorem dX1_lastValue_7 : decode cX1_lastValue 7 = .ok (.if_icmp .lt 36, 3) := by decide +kernel
theorem dX1_lastValue_10 : decode cX1_lastValue 10 = .ok (.aload_n 0, 1) := by decide +kernel
theorem dX1_lastValue_11 : decode cX1_lastValue 11 = .ok (.getfield 9, 3) := by decide +kernel
theorem dX1_lastValue_14 : decode cX1_lastValue 14 = .ok (.iload_n 2, 1) := by decide +kernel
theorem dX1_lastValue_15 : decode cX1_lastValue 15 = .ok (.iaload, 1) := by decide +kernel
theorem dX1_lastValue_16 : decode cX1_lastValue 16 = .ok (.iconst 1, 1) := by decide +kernel
theorem dX1_lastValue_17 : decode cX1_lastValue 17 = .ok (.if_icmp .ne 20, 3) := by decide +kernel
theorem dX1_lastValue_20 : decode cX1_lastValue 20 = .ok (.aload_n 0, 1) := by decide +kernel
theorem dX1_lastValue_21 : decode cX1_lastValue 21 = .ok (.getfield 18, 3) := by decide +kernel
theorem dX1_lastValue_24 : decode cX1_lastValue 24 = .ok (.iload_n 2, 1) := by decide +kernel
theorem dX1_lastValue_25 : decode cX1_lastValue 25 = .ok (.iaload, 1) := by decide +kernel
theorem dX1_lastValue_26 : decode cX1_lastValue 26 = .ok (.iload_n 1, 1) := by decide +kernel
theorem dX1_lastValue_27 : decode cX1_lastValue 27 = .ok (.if_icmp .ne 10, 3) := by decide +kernel
theorem dX1_lastValue_30 : decode cX1_lastValue 30 = .ok (.aload_n 0, 1) := by decide +kernel
theorem dX1_lastValue_31 : decode cX1_lastValue 31 = .ok (.getfield 21, 3) := by decide +kernel
theorem dX1_lastValue_34 : decode cX1_lastValue 34 = .ok (.iload_n 2, 1) := by decide +kernel
theorem dX1_lastValue_35 : decode cX1_lastValue 35 = .ok (.iaload, 1) := by decide +kernel
theorem dX1_lastValue_36 : decode cX1_lastValue 36 = .ok (.ireturn, 1) := by decide +kernel
theorem dX1_lastValue_37 : decode cX1_lastValue 37 = .ok (.iinc 2 (-1), 3) := by decide +kernel
theorem dX1_lastValue_40 : decode cX1_lastValue 40 = .ok (.goto (-35), 3) := by decide +kernel
theorem dX1_lastValue_43 : decode cX1_lastValue 43 = .ok (.iconst 0, 1) := by decide +kernel
theorem dX1_lastValue_44 : decode cX1_lastValue 44 = .ok (.ireturn, 1) := by decide +kernel
theorem dX1_partOf_0 : decode cX1_partOf 0 = .ok (.aload_n 0, 1) := by decide +kernel
theorem dX1_partOf_1 : decode cX1_partOf 1 = .ok (.iload_n 1, 1) := by decide +kernel
theorem dX1_partOf_2 : decode cX1_partOf 2 = .ok (.invokevirtual 64, 3) := by decide +kernel
theorem dX1_partOf_5 : decode cX1_partOf 5 = .ok (.ifCond .ne 5, 3) := by decide +kernel
theorem dX1_partOf_8 : decode cX1_partOf 8 = .ok (.iconst 0, 1) := by decide +kernel
theorem dX1_partOf_9 : decode cX1_partOf 9 = .ok (.ireturn, 1) := by decide +kernel
theorem dX1_partOf_10 : decode cX1_partOf 10 = .ok (.iload_n 2, 1) := by decide +kernel
theorem dX1_partOf_11 : decode cX1_partOf 11 = .ok (.tableswitch 79 0 5 #[37, 44, 51, 58, 65, 72], 37) := by decide +kernel
theorem dX1_partOf_48 : decode cX1_partOf 48 = .ok (.aload_n 0, 1) := by decide +kernel
theorem dX1_partOf_49 : decode cX1_partOf 49 = .ok (.getfield 9, 3) := by decide +kernel
theorem dX1_partOf_52 : decode cX1_partOf 52 = .ok (.iload_n 1, 1) := by decide +kernel
theorem dX1_partOf_53 : decode cX1_partOf 53 = .ok (.iaload, 1) := by decide +kernel
theorem dX1_partOf_54 : decode cX1_partOf 54 = .ok (.ireturn, 1) := by decide +kernel
theorem dX1_partOf_55 : decode cX1_partOf 55 = .ok (.aload_n 0, 1) := by decide +kernel
theorem dX1_partOf_56 : decode cX1_partOf 56 = .ok (.getfield 15, 3) := by decide +kernel
theorem dX1_partOf_59 : decode cX1_partOf 59 = .ok (.iload_n 1, 1) := by decide +kernel
theorem dX1_partOf_60 : decode cX1_partOf 60 = .ok (.iaload, 1) := by decide +kernel
theorem dX1_partOf_61 : decode cX1_partOf 61 = .ok (.ireturn, 1) := by decide +kernel
theorem dX1_partOf_62 : decode cX1_partOf 62 = .ok (.aload_n 0, 1) := by decide +kernel
theorem dX1_partOf_63 : decode cX1_partOf 63 = .ok (.getfield 18, 3) := by decide +kernel
theorem dX1_partOf_66 : decode cX1_partOf 66 = .ok (.iload_n 1, 1) := by decide +kernel
theorem dX1_partOf_67 : decode cX1_partOf 67 = .ok (.iaload, 1) := by decide +kernel
theorem dX1_partOf_68 : decode cX1_partOf 68 = .ok (.ireturn, 1) := by decide +kernel
theorem dX1_partOf_69 : decode cX1_partOf 69 = .ok (.aload_n 0, 1) := by decide +kernel
theorem dX1_partOf_70 : decode cX1_partOf 70 = .ok (.getfield 21, 3) := by decide +kernel
theorem dX1_partOf_73 : decode cX1_partOf 73 = .ok (.iload_n 1, 1) := by decide +kernel
theorem dX1_partOf_74 : decode cX1_partOf 74 = .ok (.iaload, 1) := by decide +kernel
theorem dX1_partOf_75 : decode cX1_partOf 75 = .ok (.ireturn, 1) := by decide +kernel
theorem dX1_partOf_76 : decode cX1_partOf 76 = .ok (.aload_n 0, 1) := by decide +kernel
theorem dX1_partOf_77 : decode cX1_partOf 77 = .ok (.getfield 27, 3) := by decide +kernel
theorem dX1_partOf_80 : decode cX1_partOf 80 = .ok (.iload_n 1, 1) := by decide +kernel
theorem dX1_partOf_81 : decode cX1_partOf 81 = .ok (.iaload, 1) := by decide +kernel
theorem dX1_partOf_82 : decode cX1_partOf 82 = .ok (.ireturn, 1) := by decide +kernel
theorem dX1_partOf_83 : decode cX1_partOf 83 = .ok (.aload_n 0, 1) := by decide +kernel
theorem dX1_partOf_84 : decode cX1_partOf 84 = .ok (.getfield 24, 3) := by decide +kernel
theorem dX1_partOf_87 : decode cX1_partOf 87 = .ok (.iload_n 1, 1) := by decide +kernel
theorem dX1_partOf_88 : decode cX1_partOf 88 = .ok (.iaload, 1) := by decide +kernel
theorem dX1_partOf_89 : decode cX1_partOf 89 = .ok (.ireturn, 1) := by decide +kernel
theorem dX1_partOf_90 : decode cX1_partOf 90 = .ok (.aload_n 0, 1) := by decide +kernel
theorem dX1_partOf_91 : decode cX1_partOf 91 = .ok (.getfield 27, 3) := by decide +kernel
theorem dX1_partOf_94 : decode cX1_partOf 94 = .ok (.iload_n 1, 1) := by decide +kernel
theorem dX1_partOf_95 : decode cX1_partOf 95 = .ok (.iaload, 1) := by decide +kernel
theorem dX1_partOf_96 : decode cX1_partOf 96 = .ok (.aload_n 0, 1) := by decide +kernel
theorem dX1_partOf_97 : decode cX1_partOf 97 = .ok (.iload_n 1, 1) := by decide +kernel
theorem dX1_partOf_98 : decode cX1_partOf 98 = .ok (.invokevirtual 44, 3) := by decide +kernel
theorem dX1_partOf_101 : decode cX1_partOf 101 = .ok (.if_icmp .ne 7, 3) := by decide +kernel
theorem dX1_partOf_104 : decode cX1_partOf 104 = .ok (.iconst 1, 1) := by decide +kernel
theorem dX1_partOf_105 : decode cX1_partOf 105 = .ok (.goto 4, 3) := by decide +kernel
theorem dX1_partOf_108 : decode cX1_partOf 108 = .ok (.iconst 0, 1) := by decide +kernel
theorem dX1_partOf_109 : decode cX1_partOf 109 = .ok (.ireturn, 1) := by decide +kernel
theorem dX1_sharedWith_0 : decode cX1_sharedWith 0 = .ok (.aload_n 0, 1) := by decide +kernel
theorem dX1_sharedWith_1 : decode cX1_sharedWith 1 = .ok (.getfield 27, 3) := by decide +kernel
theorem dX1_sharedWith_4 : decode cX1_sharedWith 4 = .ok (.aload_n 1, 1) := by decide +kernel
theorem dX1_sharedWith_5 : decode cX1_sharedWith 5 = .ok (.getfield 27, 3) := by decide +kernel
theorem dX1_sharedWith_8 : decode cX1_sharedWith 8 = .ok (.aload_n 0, 1) := by decide +kernel
theorem dX1_sharedWith_9 : decode cX1_sharedWith 9 = .ok (.getfield 30, 3) := by decide +kernel
theorem dX1_sharedWith_12 : decode cX1_sharedWith 12 = .ok (.aload_n 1, 1) := by decide +kernel
theorem dX1_sharedWith_13 : decode cX1_sharedWith 13 = .ok (.getfield 30, 3) := by decide +kernel
theorem dX1_sharedWith_16 : decode cX1_sharedWith 16 = .ok (.invokestatic 68, 3) := by decide +kernel
theorem dX1_sharedWith_19 : decode cX1_sharedWith 19 = .ok (.invokestatic 74, 3) := by decide +kernel
theorem dX1_sharedWith_22 : decode cX1_sharedWith 22 = .ok (.iconst 1, 1) := by decide +kernel
theorem dX1_sharedWith_23 : decode cX1_sharedWith 23 = .ok (.isub, 1) := by decide +kernel
theorem dX1_sharedWith_24 : decode cX1_sharedWith 24 = .ok (.ireturn, 1) := by decide +kernel
theorem dX1_blocksOf_0 : decode cX1_blocksOf 0 = .ok (.iconst 0, 1) := by decide +kernel
theorem dX1_blocksOf_1 : decode cX1_blocksOf 1 = .ok (.istore_n 3, 1) := by decide +kernel
theorem dX1_blocksOf_2 : decode cX1_blocksOf 2 = .ok (.iload_n 2, 1) := by decide +kernel
theorem dX1_blocksOf_3 : decode cX1_blocksOf 3 = .ok (.iconst 1, 1) := by decide +kernel
theorem dX1_blocksOf_4 : decode cX1_blocksOf 4 = .ok (.iadd, 1) := by decide +kernel
theorem dX1_blocksOf_5 : decode cX1_blocksOf 5 = .ok (.istore 4, 2) := by decide +kernel
theorem dX1_blocksOf_7 : decode cX1_blocksOf 7 = .ok (.iload 4, 2) := by decide +kernel
theorem dX1_blocksOf_9 : decode cX1_blocksOf 9 = .ok (.aload_n 0, 1) := by decide +kernel
theorem dX1_blocksOf_10 : decode cX1_blocksOf 10 = .ok (.getfield 30, 3) := by decide +kernel
theorem dX1_blocksOf_13 : decode cX1_blocksOf 13 = .ok (.if_icmp .gt 32, 3) := by decide +kernel
theorem dX1_blocksOf_16 : decode cX1_blocksOf 16 = .ok (.aload_n 0, 1) := by decide +kernel
theorem dX1_blocksOf_17 : decode cX1_blocksOf 17 = .ok (.getfield 9, 3) := by decide +kernel
theorem dX1_blocksOf_20 : decode cX1_blocksOf 20 = .ok (.iload 4, 2) := by decide +kernel
theorem dX1_blocksOf_22 : decode cX1_blocksOf 22 = .ok (.iaload, 1) := by decide +kernel
theorem dX1_blocksOf_23 : decode cX1_blocksOf 23 = .ok (.iload_n 1, 1) := by decide +kernel
theorem dX1_blocksOf_24 : decode cX1_blocksOf 24 = .ok (.if_icmp .ne 15, 3) := by decide +kernel
theorem dX1_blocksOf_27 : decode cX1_blocksOf 27 = .ok (.iload_n 3, 1) := by decide +kernel
theorem dX1_blocksOf_28 : decode cX1_blocksOf 28 = .ok (.iconst 1, 1) := by decide +kernel
theorem dX1_blocksOf_29 : decode cX1_blocksOf 29 = .ok (.aload_n 0, 1) := by decide +kernel
theorem dX1_blocksOf_30 : decode cX1_blocksOf 30 = .ok (.getfield 18, 3) := by decide +kernel
theorem dX1_blocksOf_33 : decode cX1_blocksOf 33 = .ok (.iload 4, 2) := by decide +kernel
theorem dX1_blocksOf_35 : decode cX1_blocksOf 35 = .ok (.iaload, 1) := by decide +kernel
theorem dX1_blocksOf_36 : decode cX1_blocksOf 36 = .ok (.ishl, 1) := by decide +kernel
theorem dX1_blocksOf_37 : decode cX1_blocksOf 37 = .ok (.ior, 1) := by decide +kernel
theorem dX1_blocksOf_38 : decode cX1_blocksOf 38 = .ok (.istore_n 3, 1) := by decide +kernel
theorem dX1_blocksOf_39 : decode cX1_blocksOf 39 = .ok (.iinc 4 1, 3) := by decide +kernel
theorem dX1_blocksOf_42 : decode cX1_blocksOf 42 = .ok (.goto (-35), 3) := by decide +kernel
theorem dX1_blocksOf_45 : decode cX1_blocksOf 45 = .ok (.iload_n 3, 1) := by decide +kernel
theorem dX1_blocksOf_46 : decode cX1_blocksOf 46 = .ok (.ireturn, 1) := by decide +kernel
theorem dX1_conflictsWith_0 : decode cX1_conflictsWith 0 = .ok (.aload_n 0, 1) := by decide +kernel
theorem dX1_conflictsWith_1 : decode cX1_conflictsWith 1 = .ok (.aload_n 1, 1) := by decide +kernel
theorem dX1_conflictsWith_2 : decode cX1_conflictsWith 2 = .ok (.invokevirtual 78, 3) := by decide +kernel
theorem dX1_conflictsWith_5 : decode cX1_conflictsWith 5 = .ok (.istore_n 2, 1) := by decide +kernel
theorem dX1_conflictsWith_6 : decode cX1_conflictsWith 6 = .ok (.aload_n 0, 1) := by decide +kernel
theorem dX1_conflictsWith_7 : decode cX1_conflictsWith 7 = .ok (.iconst 1, 1) := by decide +kernel
theorem dX1_conflictsWith_8 : decode cX1_conflictsWith 8 = .ok (.iload_n 2, 1) := by decide +kernel
theorem dX1_conflictsWith_9 : decode cX1_conflictsWith 9 = .ok (.invokevirtual 82, 3) := by decide +kernel
theorem dX1_conflictsWith_12 : decode cX1_conflictsWith 12 = .ok (.istore_n 3, 1) := by decide +kernel
theorem dX1_conflictsWith_13 : decode cX1_conflictsWith 13 = .ok (.aload_n 1, 1) := by decide +kernel
theorem dX1_conflictsWith_14 : decode cX1_conflictsWith 14 = .ok (.iconst 1, 1) := by decide +kernel
theorem dX1_conflictsWith_15 : decode cX1_conflictsWith 15 = .ok (.iload_n 2, 1) := by decide +kernel
theorem dX1_conflictsWith_16 : decode cX1_conflictsWith 16 = .ok (.invokevirtual 82, 3) := by decide +kernel
theorem dX1_conflictsWith_19 : decode cX1_conflictsWith 19 = .ok (.istore 4, 2) := by decide +kernel
theorem dX1_conflictsWith_21 : decode cX1_conflictsWith 21 = .ok (.iload_n 3, 1) := by decide +kernel
theorem dX1_conflictsWith_22 : decode cX1_conflictsWith 22 = .ok (.aload_n 0, 1) := by decide +kernel
theorem dX1_conflictsWith_23 : decode cX1_conflictsWith 23 = .ok (.iconst 0, 1) := by decide +kernel
theorem dX1_conflictsWith_24 : decode cX1_conflictsWith 24 = .ok (.iload_n 2, 1) := by decide +kernel
theorem dX1_conflictsWith_25 : decode cX1_conflictsWith 25 = .ok (.invokevirtual 82, 3) := by decide +kernel
theorem dX1_conflictsWith_28 : decode cX1_conflictsWith 28 = .ok (.ior, 1) := by decide +kernel
theorem dX1_conflictsWith_29 : decode cX1_conflictsWith 29 = .ok (.istore 5, 2) := by decide +kernel
theorem dX1_conflictsWith_31 : decode cX1_conflictsWith 31 = .ok (.iload 4, 2) := by decide +kernel
theorem dX1_conflictsWith_33 : decode cX1_conflictsWith 33 = .ok (.aload_n 1, 1) := by decide +kernel
theorem dX1_conflictsWith_34 : decode cX1_conflictsWith 34 = .ok (.iconst 0, 1) := by decide +kernel
theorem dX1_conflictsWith_35 : decode cX1_conflictsWith 35 = .ok (.iload_n 2, 1) := by decide +kernel
theorem dX1_conflictsWith_36 : decode cX1_conflictsWith 36 = .ok (.invokevirtual 82, 3) := by decide +kernel
theorem dX1_conflictsWith_39 : decode cX1_conflictsWith 39 = .ok (.ior, 1) := by decide +kernel
theorem dX1_conflictsWith_40 : decode cX1_conflictsWith 40 = .ok (.istore 6, 2) := by decide +kernel
theorem dX1_conflictsWith_42 : decode cX1_conflictsWith 42 = .ok (.iload_n 3, 1) := by decide +kernel
theorem dX1_conflictsWith_43 : decode cX1_conflictsWith 43 = .ok (.iload 6, 2) := by decide +kernel
theorem dX1_conflictsWith_45 : decode cX1_conflictsWith 45 = .ok (.iand, 1) := by decide +kernel
theorem dX1_conflictsWith_46 : decode cX1_conflictsWith 46 = .ok (.iload 4, 2) := by decide +kernel
theorem dX1_conflictsWith_48 : decode cX1_conflictsWith 48 = .ok (.iload 5, 2) := by decide +kernel
theorem dX1_conflictsWith_50 : decode cX1_conflictsWith 50 = .ok (.iand, 1) := by decide +kernel
theorem dX1_conflictsWith_51 : decode cX1_conflictsWith 51 = .ok (.ior, 1) := by decide +kernel
theorem dX1_conflictsWith_52 : decode cX1_conflictsWith 52 = .ok (.ireturn, 1) := by decide +kernel
theorem dX2_init_0 : decode cX2_init 0 = .ok (.aload_n 0, 1) := by decide +kernel
theorem dX2_init_1 : decode cX2_init 1 = .ok (.invokespecial 3, 3) := by decide +kernel
theorem dX2_init_4 : decode cX2_init 4 = .ok (.aload_n 0, 1) := by decide +kernel
theorem dX2_init_5 : decode cX2_init 5 = .ok (.sipush 201, 3) := by decide +kernel
theorem dX2_init_8 : decode cX2_init 8 = .ok (.newarray .int, 2) := by decide +kernel
theorem dX2_init_10 : decode cX2_init 10 = .ok (.putfield 9, 3) := by decide +kernel
theorem dX2_init_13 : decode cX2_init 13 = .ok (.aload_n 0, 1) := by decide +kernel
theorem dX2_init_14 : decode cX2_init 14 = .ok (.bipush 6, 2) := by decide +kernel
theorem dX2_init_16 : decode cX2_init 16 = .ok (.newarray .int, 2) := by decide +kernel
theorem dX2_init_18 : decode cX2_init 18 = .ok (.putfield 15, 3) := by decide +kernel
theorem dX2_init_21 : decode cX2_init 21 = .ok (.return_, 1) := by decide +kernel
theorem dX2_begin_0 : decode cX2_begin 0 = .ok (.aload_n 0, 1) := by decide +kernel
theorem dX2_begin_1 : decode cX2_begin 1 = .ok (.getfield 9, 3) := by decide +kernel
theorem dX2_begin_4 : decode cX2_begin 4 = .ok (.iconst 0, 1) := by decide +kernel
theorem dX2_begin_5 : decode cX2_begin 5 = .ok (.iconst 1, 1) := by decide +kernel
theorem dX2_begin_6 : decode cX2_begin 6 = .ok (.iastore, 1) := by decide +kernel
theorem dX2_begin_7 : decode cX2_begin 7 = .ok (.aload_n 0, 1) := by decide +kernel
theorem dX2_begin_8 : decode cX2_begin 8 = .ok (.getfield 15, 3) := by decide +kernel
theorem dX2_begin_11 : decode cX2_begin 11 = .ok (.iconst 0, 1) := by decide +kernel
theorem dX2_begin_12 : decode cX2_begin 12 = .ok (.invokestatic 18, 3) := by decide +kernel
theorem dX2_begin_15 : decode cX2_begin 15 = .ok (.aload_n 0, 1) := by decide +kernel
theorem dX2_begin_16 : decode cX2_begin 16 = .ok (.iconst 0, 1) := by decide +kernel
theorem dX2_begin_17 : decode cX2_begin 17 = .ok (.putfield 24, 3) := by decide +kernel
theorem dX2_begin_20 : decode cX2_begin 20 = .ok (.aload_n 0, 1) := by decide +kernel
theorem dX2_begin_21 : decode cX2_begin 21 = .ok (.iconst 0, 1) := by decide +kernel
theorem dX2_begin_22 : decode cX2_begin 22 = .ok (.putfield 28, 3) := by decide +kernel
theorem dX2_begin_25 : decode cX2_begin 25 = .ok (.aload_n 0, 1) := by decide +kernel
theorem dX2_begin_26 : decode cX2_begin 26 = .ok (.iconst 0, 1) := by decide +kernel
theorem dX2_begin_27 : decode cX2_begin 27 = .ok (.putfield 31, 3) := by decide +kernel
theorem dX2_begin_30 : decode cX2_begin 30 = .ok (.aload_n 0, 1) := by decide +kernel
theorem dX2_begin_31 : decode cX2_begin 31 = .ok (.iconst 0, 1) := by decide +kernel
theorem dX2_begin_32 : decode cX2_begin 32 = .ok (.putfield 34, 3) := by decide +kernel
theorem dX2_begin_35 : decode cX2_begin 35 = .ok (.return_, 1) := by decide +kernel
theorem dX2_lastHash_0 : decode cX2_lastHash 0 = .ok (.aload_n 0, 1) := by decide +kernel
theorem dX2_lastHash_1 : decode cX2_lastHash 1 = .ok (.getfield 9, 3) := by decide +kernel
theorem dX2_lastHash_4 : decode cX2_lastHash 4 = .ok (.aload_n 0, 1) := by decide +kernel
theorem dX2_lastHash_5 : decode cX2_lastHash 5 = .ok (.getfield 24, 3) := by decide +kernel
theorem dX2_lastHash_8 : decode cX2_lastHash 8 = .ok (.iaload, 1) := by decide +kernel
theorem dX2_lastHash_9 : decode cX2_lastHash 9 = .ok (.ireturn, 1) := by decide +kernel
theorem dX2_takeHistory_0 : decode cX2_takeHistory 0 = .ok (.aload_n 0, 1) := by decide +kernel
theorem dX2_takeHistory_1 : decode cX2_takeHistory 1 = .ok (.aload_n 1, 1) := by decide +kernel
theorem dX2_takeHistory_2 : decode cX2_takeHistory 2 = .ok (.getfield 38, 3) := by decide +kernel
theorem dX2_takeHistory_5 : decode cX2_takeHistory 5 = .ok (.putfield 24, 3) := by decide +kernel
theorem dX2_takeHistory_8 : decode cX2_takeHistory 8 = .ok (.aload_n 1, 1) := by decide +kernel
theorem dX2_takeHistory_9 : decode cX2_takeHistory 9 = .ok (.getfield 43, 3) := by decide +kernel
theorem dX2_takeHistory_12 : decode cX2_takeHistory 12 = .ok (.iconst 0, 1) := by decide +kernel
theorem dX2_takeHistory_13 : decode cX2_takeHistory 13 = .ok (.aload_n 0, 1) := by decide +kernel
theorem dX2_takeHistory_14 : decode cX2_takeHistory 14 = .ok (.getfield 9, 3) := by decide +kernel
theorem dX2_takeHistory_17 : decode cX2_takeHistory 17 = .ok (.iconst 0, 1) := by decide +kernel
theorem dX2_takeHistory_18 : decode cX2_takeHistory 18 = .ok (.aload_n 0, 1) := by decide +kernel
theorem dX2_takeHistory_19 : decode cX2_takeHistory 19 = .ok (.getfield 24, 3) := by decide +kernel
theorem dX2_takeHistory_22 : decode cX2_takeHistory 22 = .ok (.iconst 1, 1) := by decide +kernel
theorem dX2_takeHistory_23 : decode cX2_takeHistory 23 = .ok (.iadd, 1) := by decide +kernel
theorem dX2_takeHistory_24 : decode cX2_takeHistory 24 = .ok (.invokestatic 44, 3) := by decide +kernel
theorem dX2_takeHistory_27 : decode cX2_takeHistory 27 = .ok (.aload_n 0, 1) := by decide +kernel
theorem dX2_takeHistory_28 : decode cX2_takeHistory 28 = .ok (.getfield 15, 3) := by decide +kernel
theorem dX2_takeHistory_31 : decode cX2_takeHistory 31 = .ok (.iconst 0, 1) := by decide +kernel
theorem dX2_takeHistory_32 : decode cX2_takeHistory 32 = .ok (.invokestatic 18, 3) := by decide +kernel
theorem dX2_takeHistory_35 : decode cX2_takeHistory 35 = .ok (.iconst 1, 1) := by decide +kernel
theorem dX2_takeHistory_36 : decode cX2_takeHistory 36 = .ok (.istore_n 2, 1) := by decide +kernel
theorem dX2_takeHistory_37 : decode cX2_takeHistory 37 = .ok (.iload_n 2, 1) := by decide +kernel
theorem dX2_takeHistory_38 : decode cX2_takeHistory 38 = .ok (.aload_n 0, 1) := by decide +kernel
theorem dX2_takeHistory_39 : decode cX2_takeHistory 39 = .ok (.getfield 24, 3) := by decide +kernel
theorem dX2_takeHistory_42 : decode cX2_takeHistory 42 = .ok (.if_icmp .gt 36, 3) := by decide +kernel
theorem dX2_takeHistory_45 : decode cX2_takeHistory 45 = .ok (.aload_n 1, 1) := by decide +kernel
theorem dX2_takeHistory_46 : decode cX2_takeHistory 46 = .ok (.getfield 50, 3) := by decide +kernel
theorem dX2_takeHistory_49 : decode cX2_takeHistory 49 = .ok (.iload_n 2, 1) := by decide +kernel
theorem dX2_takeHistory_50 : decode cX2_takeHistory 50 = .ok (.iaload, 1) := by decide +kernel
theorem dX2_takeHistory_51 : decode cX2_takeHistory 51 = .ok (.istore_n 3, 1) := by decide +kernel
theorem dX2_takeHistory_52 : decode cX2_takeHistory 52 = .ok (.iload_n 3, 1) := by decide +kernel
theorem dX2_takeHistory_53 : decode cX2_takeHistory 53 = .ok (.ifCond .lt 19, 3) := by decide +kernel
theorem dX2_takeHistory_56 : decode cX2_takeHistory 56 = .ok (.iload_n 3, 1) := by decide +kernel
theorem dX2_takeHistory_57 : decode cX2_takeHistory 57 = .ok (.bipush 6, 2) := by decide +kernel
theorem dX2_takeHistory_59 : decode cX2_takeHistory 59 = .ok (.if_icmp .ge 13, 3) := by decide +kernel
theorem dX2_takeHistory_62 : decode cX2_takeHistory 62 = .ok (.aload_n 0, 1) := by decide +kernel
theorem dX2_takeHistory_63 : decode cX2_takeHistory 63 = .ok (.getfield 15, 3) := by decide +kernel
theorem dX2_takeHistory_66 : decode cX2_takeHistory 66 = .ok (.iload_n 3, 1) := by decide +kernel
theorem dX2_takeHistory_67 : decode cX2_takeHistory 67 = .ok (.dup2, 1) := by decide +kernel
theorem dX2_takeHistory_68 : decode cX2_takeHistory 68 = .ok (.iaload, 1) := by decide +kernel
theorem dX2_takeHistory_69 : decode cX2_takeHistory 69 = .ok (.iconst 1, 1) := by decide +kernel
theorem dX2_takeHistory_70 : decode cX2_takeHistory 70 = .ok (.iadd, 1) := by decide +kernel
theorem dX2_takeHistory_71 : decode cX2_takeHistory 71 = .ok (.iastore, 1) := by decide +kernel
theorem dX2_takeHistory_72 : decode cX2_takeHistory 72 = .ok (.iinc 2 1, 3) := by decide +kernel
theorem dX2_takeHistory_75 : decode cX2_takeHistory 75 = .ok (.goto (-38), 3) := by decide +kernel
theorem dX2_takeHistory_78 : decode cX2_takeHistory 78 = .ok (.return_, 1) := by decide +kernel
theorem dX2_fits_0 : decode cX2_fits 0 = .ok (.aload_n 0, 1) := by decide +kernel
theorem dX2_fits_1 : decode cX2_fits 1 = .ok (.getfield 24, 3) := by decide +kernel
theorem dX2_fits_4 : decode cX2_fits 4 = .ok (.aload_n 1, 1) := by decide +kernel
theorem dX2_fits_5 : decode cX2_fits 5 = .ok (.getfield 38, 3) := by decide +kernel
theorem dX2_fits_8 : decode cX2_fits 8 = .ok (.if_icmp .gt 28, 3) := by decide +kernel
theorem dX2_fits_11 : decode cX2_fits 11 = .ok (.aload_n 1, 1) := by decide +kernel
theorem dX2_fits_12 : decode cX2_fits 12 = .ok (.getfield 43, 3) := by decide +kernel
theorem dX2_fits_15 : decode cX2_fits 15 = .ok (.aload_n 0, 1) := by decide +kernel
theorem dX2_fits_16 : decode cX2_fits 16 = .ok (.getfield 24, 3) := by decide +kernel
theorem dX2_fits_19 : decode cX2_fits 19 = .ok (.iaload, 1) := by decide +kernel
theorem dX2_fits_20 : decode cX2_fits 20 = .ok (.aload_n 0, 1) := by decide +kernel
theorem dX2_fits_21 : decode cX2_fits 21 = .ok (.getfield 9, 3) := by decide +kernel
theorem dX2_fits_24 : decode cX2_fits 24 = .ok (.aload_n 0, 1) := by decide +kernel
theorem dX2_fits_25 : decode cX2_fits 25 = .ok (.getfield 24, 3) := by decide +kernel
theorem dX2_fits_28 : decode cX2_fits 28 = .ok (.iaload, 1) := by decide +kernel
theorem dX2_fits_29 : decode cX2_fits 29 = .ok (.if_icmp .ne 7, 3) := by decide +kernel
theorem dX2_fits_32 : decode cX2_fits 32 = .ok (.iconst 1, 1) := by decide +kernel
theorem dX2_fits_33 : decode cX2_fits 33 = .ok (.goto 4, 3) := by decide +kernel
theorem dX2_fits_36 : decode cX2_fits 36 = .ok (.iconst 0, 1) := by decide +kernel
theorem dX2_fits_37 : decode cX2_fits 37 = .ok (.ireturn, 1) := by decide +kernel
theorem dX2_isForkedFrom_0 : decode cX2_isForkedFrom 0 = .ok (.aload_n 0, 1) := by decide +kernel
theorem dX2_isForkedFrom_1 : decode cX2_isForkedFrom 1 = .ok (.getfield 24, 3) := by decide +kernel
theorem dX2_isForkedFrom_4 : decode cX2_isForkedFrom 4 = .ok (.aload_n 1, 1) := by decide +kernel
theorem dX2_isForkedFrom_5 : decode cX2_isForkedFrom 5 = .ok (.getfield 24, 3) := by decide +kernel
theorem dX2_isForkedFrom_8 : decode cX2_isForkedFrom 8 = .ok (.invokestatic 53, 3) := by decide +kernel
theorem dX2_isForkedFrom_11 : decode cX2_isForkedFrom 11 = .ok (.istore_n 2, 1) := by decide +kernel
theorem dX2_isForkedFrom_12 : decode cX2_isForkedFrom 12 = .ok (.aload_n 0, 1) := by decide +kernel
theorem dX2_isForkedFrom_13 : decode cX2_isForkedFrom 13 = .ok (.getfield 9, 3) := by decide +kernel
theorem dX2_isForkedFrom_16 : decode cX2_isForkedFrom 16 = .ok (.iload_n 2, 1) := by decide +kernel
theorem dX2_isForkedFrom_17 : decode cX2_isForkedFrom 17 = .ok (.iaload, 1) := by decide +kernel
theorem dX2_isForkedFrom_18 : decode cX2_isForkedFrom 18 = .ok (.aload_n 1, 1) := by decide +kernel
theorem dX2_isForkedFrom_19 : decode cX2_isForkedFrom 19 = .ok (.getfield 9, 3) := by decide +kernel
theorem dX2_isForkedFrom_22 : decode cX2_isForkedFrom 22 = .ok (.iload_n 2, 1) := by decide +kernel
theorem dX2_isForkedFrom_23 : decode cX2_isForkedFrom 23 = .ok (.iaload, 1) := by decide +kernel
theorem dX2_isForkedFrom_24 : decode cX2_isForkedFrom 24 = .ok (.if_icmp .eq 7, 3) := by decide +kernel
theorem dX2_isForkedFrom_27 : decode cX2_isForkedFrom 27 = .ok (.iconst 1, 1) := by decide +kernel
theorem dX2_isForkedFrom_28 : decode cX2_isForkedFrom 28 = .ok (.goto 4, 3) := by decide +kernel
theorem dX2_isForkedFrom_31 : decode cX2_isForkedFrom 31 = .ok (.iconst 0, 1) := by decide +kernel
theorem dX2_isForkedFrom_32 : decode cX2_isForkedFrom 32 = .ok (.ireturn, 1) := by decide +kernel
theorem dX2_firstDifferenceTo_0 : decode cX2_firstDifferenceTo 0 = .ok (.aload_n 0, 1) := by decide +kernel
theorem dX2_firstDifferenceTo_1 : decode cX2_firstDifferenceTo 1 = .ok (.getfield 9, 3) := by decide +kernel
theorem dX2_firstDifferenceTo_4 : decode cX2_firstDifferenceTo 4 = .ok (.aload_n 1, 1) := by decide +kernel
theorem dX2_firstDifferenceTo_5 : decode cX2_firstDifferenceTo 5 = .ok (.getfield 9, 3) := by decide +kernel
theorem dX2_firstDifferenceTo_8 : decode cX2_firstDifferenceTo 8 = .ok (.aload_n 0, 1) := by decide +kernel
theorem dX2_firstDifferenceTo_9 : decode cX2_firstDifferenceTo 9 = .ok (.getfield 24, 3) := by decide +kernel
theorem dX2_firstDifferenceTo_12 : decode cX2_firstDifferenceTo 12 = .ok (.aload_n 1, 1) := by decide +kernel
theorem dX2_firstDifferenceTo_13 : decode cX2_firstDifferenceTo 13 = .ok (.getfield 24, 3) := by decide +kernel
theorem dX2_firstDifferenceTo_16 : decode cX2_firstDifferenceTo 16 = .ok (.invokestatic 53, 3) := by decide +kernel
theorem dX2_firstDifferenceTo_19 : decode cX2_firstDifferenceTo 19 = .ok (.invokestatic 59, 3) := by decide +kernel
theorem dX2_firstDifferenceTo_22 : decode cX2_firstDifferenceTo 22 = .ok (.ireturn, 1) := by decide +kernel
theorem dX2_orderTo_0 : decode cX2_orderTo 0 = .ok (.iconst 0, 1) := by decide +kernel
theorem dX2_orderTo_1 : decode cX2_orderTo 1 = .ok (.istore_n 2, 1) := by decide +kernel
theorem dX2_orderTo_2 : decode cX2_orderTo 2 = .ok (.iconst 0, 1) := by decide +kernel
theorem dX2_orderTo_3 : decode cX2_orderTo 3 = .ok (.istore_n 3, 1) := by decide +kernel
theorem dX2_orderTo_4 : decode cX2_orderTo 4 = .ok (.iconst 0, 1) := by decide +kernel
theorem dX2_orderTo_5 : decode cX2_orderTo 5 = .ok (.istore 4, 2) := by decide +kernel
theorem dX2_orderTo_7 : decode cX2_orderTo 7 = .ok (.iload 4, 2) := by decide +kernel
theorem dX2_orderTo_9 : decode cX2_orderTo 9 = .ok (.bipush 6, 2) := by decide +kernel
theorem dX2_orderTo_11 : decode cX2_orderTo 11 = .ok (.if_icmp .ge 63, 3) := by decide +kernel
theorem dX2_orderTo_14 : decode cX2_orderTo 14 = .ok (.iload_n 2, 1) := by decide +kernel
theorem dX2_orderTo_15 : decode cX2_orderTo 15 = .ok (.ifCond .ne 20, 3) := by decide +kernel
theorem dX2_orderTo_18 : decode cX2_orderTo 18 = .ok (.aload_n 0, 1) := by decide +kernel
theorem dX2_orderTo_19 : decode cX2_orderTo 19 = .ok (.getfield 15, 3) := by decide +kernel
theorem dX2_orderTo_22 : decode cX2_orderTo 22 = .ok (.iload 4, 2) := by decide +kernel
theorem dX2_orderTo_24 : decode cX2_orderTo 24 = .ok (.iaload, 1) := by decide +kernel
theorem dX2_orderTo_25 : decode cX2_orderTo 25 = .ok (.aload_n 1, 1) := by decide +kernel
theorem dX2_orderTo_26 : decode cX2_orderTo 26 = .ok (.getfield 15, 3) := by decide +kernel
theorem dX2_orderTo_29 : decode cX2_orderTo 29 = .ok (.iload 4, 2) := by decide +kernel
theorem dX2_orderTo_31 : decode cX2_orderTo 31 = .ok (.iaload, 1) := by decide +kernel
theorem dX2_orderTo_32 : decode cX2_orderTo 32 = .ok (.if_icmp .le 7, 3) := by decide +kernel
theorem dX2_orderTo_35 : decode cX2_orderTo 35 = .ok (.iconst 1, 1) := by decide +kernel
theorem dX2_orderTo_36 : decode cX2_orderTo 36 = .ok (.goto 4, 3) := by decide +kernel
theorem dX2_orderTo_39 : decode cX2_orderTo 39 = .ok (.iconst 0, 1) := by decide +kernel
theorem dX2_orderTo_40 : decode cX2_orderTo 40 = .ok (.istore_n 2, 1) := by decide +kernel
theorem dX2_orderTo_41 : decode cX2_orderTo 41 = .ok (.iload_n 3, 1) := by decide +kernel
theorem dX2_orderTo_42 : decode cX2_orderTo 42 = .ok (.ifCond .ne 20, 3) := by decide +kernel
theorem dX2_orderTo_45 : decode cX2_orderTo 45 = .ok (.aload_n 0, 1) := by decide +kernel
theorem dX2_orderTo_46 : decode cX2_orderTo 46 = .ok (.getfield 15, 3) := by decide +kernel
theorem dX2_orderTo_49 : decode cX2_orderTo 49 = .ok (.iload 4, 2) := by decide +kernel
theorem dX2_orderTo_51 : decode cX2_orderTo 51 = .ok (.iaload, 1) := by decide +kernel
theorem dX2_orderTo_52 : decode cX2_orderTo 52 = .ok (.aload_n 1, 1) := by decide +kernel
theorem dX2_orderTo_53 : decode cX2_orderTo 53 = .ok (.getfield 15, 3) := by decide +kernel
theorem dX2_orderTo_56 : decode cX2_orderTo 56 = .ok (.iload 4, 2) := by decide +kernel
theorem dX2_orderTo_58 : decode cX2_orderTo 58 = .ok (.iaload, 1) := by decide +kernel
theorem dX2_orderTo_59 : decode cX2_orderTo 59 = .ok (.if_icmp .ge 7, 3) := by decide +kernel
theorem dX2_orderTo_62 : decode cX2_orderTo 62 = .ok (.iconst 1, 1) := by decide +kernel
theorem dX2_orderTo_63 : decode cX2_orderTo 63 = .ok (.goto 4, 3) := by decide +kernel
theorem dX2_orderTo_66 : decode cX2_orderTo 66 = .ok (.iconst 0, 1) := by decide +kernel
theorem dX2_orderTo_67 : decode cX2_orderTo 67 = .ok (.istore_n 3, 1) := by decide +kernel
theorem dX2_orderTo_68 : decode cX2_orderTo 68 = .ok (.iinc 4 1, 3) := by decide +kernel
theorem dX2_orderTo_71 : decode cX2_orderTo 71 = .ok (.goto (-64), 3) := by decide +kernel
theorem dX2_orderTo_74 : decode cX2_orderTo 74 = .ok (.iload_n 2, 1) := by decide +kernel
theorem dX2_orderTo_75 : decode cX2_orderTo 75 = .ok (.ifCond .eq 13, 3) := by decide +kernel
theorem dX2_orderTo_78 : decode cX2_orderTo 78 = .ok (.iload_n 3, 1) := by decide +kernel
theorem dX2_orderTo_79 : decode cX2_orderTo 79 = .ok (.ifCond .eq 7, 3) := by decide +kernel
theorem dX2_orderTo_82 : decode cX2_orderTo 82 = .ok (.iconst 3, 1) := by decide +kernel
theorem dX2_orderTo_83 : decode cX2_orderTo 83 = .ok (.goto 4, 3) := by decide +kernel
theorem dX2_orderTo_86 : decode cX2_orderTo 86 = .ok (.iconst 2, 1) := by decide +kernel
theorem dX2_orderTo_87 : decode cX2_orderTo 87 = .ok (.ireturn, 1) := by decide +kernel
theorem dX2_orderTo_88 : decode cX2_orderTo 88 = .ok (.iload_n 3, 1) := by decide +kernel
theorem dX2_orderTo_89 : decode cX2_orderTo 89 = .ok (.ifCond .eq 7, 3) := by decide +kernel
theorem dX2_orderTo_92 : decode cX2_orderTo 92 = .ok (.iconst 1, 1) := by decide +kernel
theorem dX2_orderTo_93 : decode cX2_orderTo 93 = .ok (.goto 4, 3) := by decide +kernel
theorem dX2_orderTo_96 : decode cX2_orderTo 96 = .ok (.iconst 0, 1) := by decide +kernel
theorem dX2_orderTo_97 : decode cX2_orderTo 97 = .ok (.ireturn, 1) := by decide +kernel
theorem dX4_init_0 : decode cX4_init 0 = .ok (.aload_n 0, 1) := by decide +kernel
theorem dX4_init_1 : decode cX4_init 1 = .ok (.invokespecial 1, 3) := by decide +kernel
theorem dX4_init_4 : decode cX4_init 4 = .ok (.aload_n 0, 1) := by decide +kernel
theorem dX4_init_5 : decode cX4_init 5 = .ok (.iload_n 1, 1) := by decide +kernel
theorem dX4_init_6 : decode cX4_init 6 = .ok (.iconst 1, 1) := by decide +kernel
theorem dX4_init_7 : decode cX4_init 7 = .ok (.invokestatic 7, 3) := by decide +kernel
theorem dX4_init_10 : decode cX4_init 10 = .ok (.putfield 13, 3) := by decide +kernel
theorem dX4_init_13 : decode cX4_init 13 = .ok (.aload_n 0, 1) := by decide +kernel
theorem dX4_init_14 : decode cX4_init 14 = .ok (.iload_n 2, 1) := by decide +kernel
theorem dX4_init_15 : decode cX4_init 15 = .ok (.iconst 1, 1) := by decide +kernel
theorem dX4_init_16 : decode cX4_init 16 = .ok (.invokestatic 7, 3) := by decide +kernel
theorem dX4_init_19 : decode cX4_init 19 = .ok (.putfield 19, 3) := by decide +kernel
theorem dX4_init_22 : decode cX4_init 22 = .ok (.aload_n 0, 1) := by decide +kernel
theorem dX4_init_23 : decode cX4_init 23 = .ok (.aload_n 0, 1) := by decide +kernel
theorem dX4_init_24 : decode cX4_init 24 = .ok (.getfield 13, 3) := by decide +kernel
theorem dX4_init_27 : decode cX4_init 27 = .ok (.aload_n 0, 1) := by decide +kernel
theorem dX4_init_28 : decode cX4_init 28 = .ok (.getfield 19, 3) := by decide +kernel
theorem dX4_init_31 : decode cX4_init 31 = .ok (.imul, 1) := by decide +kernel
theorem dX4_init_32 : decode cX4_init 32 = .ok (.newarray .int, 2) := by decide +kernel
theorem dX4_init_34 : decode cX4_init 34 = .ok (.putfield 22, 3) := by decide +kernel
theorem dX4_init_37 : decode cX4_init 37 = .ok (.return_, 1) := by decide +kernel
theorem dX4_hasRow_0 : decode cX4_hasRow 0 = .ok (.iload_n 1, 1) := by decide +kernel
theorem dX4_hasRow_1 : decode cX4_hasRow 1 = .ok (.ifCond .lt 15, 3) := by decide +kernel
theorem dX4_hasRow_4 : decode cX4_hasRow 4 = .ok (.iload_n 1, 1) := by decide +kernel
theorem dX4_hasRow_5 : decode cX4_hasRow 5 = .ok (.aload_n 0, 1) := by decide +kernel
theorem dX4_hasRow_6 : decode cX4_hasRow 6 = .ok (.getfield 26, 3) := by decide +kernel
theorem dX4_hasRow_9 : decode cX4_hasRow 9 = .ok (.if_icmp .ge 7, 3) := by decide +kernel
theorem dX4_hasRow_12 : decode cX4_hasRow 12 = .ok (.iconst 1, 1) := by decide +kernel
theorem dX4_hasRow_13 : decode cX4_hasRow 13 = .ok (.goto 4, 3) := by decide +kernel
theorem dX4_hasRow_16 : decode cX4_hasRow 16 = .ok (.iconst 0, 1) := by decide +kernel
theorem dX4_hasRow_17 : decode cX4_hasRow 17 = .ok (.ireturn, 1) := by decide +kernel
theorem dX4_addRow_0 : decode cX4_addRow 0 = .ok (.aload_n 0, 1) := by decide +kernel
theorem dX4_addRow_1 : decode cX4_addRow 1 = .ok (.getfield 26, 3) := by decide +kernel
theorem dX4_addRow_4 : decode cX4_addRow 4 = .ok (.aload_n 0, 1) := by decide +kernel
theorem dX4_addRow_5 : decode cX4_addRow 5 = .ok (.getfield 13, 3) := by decide +kernel
theorem dX4_addRow_8 : decode cX4_addRow 8 = .ok (.if_icmp .lt 40, 3) := by decide +kernel
theorem dX4_addRow_11 : decode cX4_addRow 11 = .ok (.aload_n 0, 1) := by decide +kernel
theorem dX4_addRow_12 : decode cX4_addRow 12 = .ok (.getfield 22, 3) := by decide +kernel
theorem dX4_addRow_15 : decode cX4_addRow 15 = .ok (.aload_n 0, 1) := by decide +kernel
theorem dX4_addRow_16 : decode cX4_addRow 16 = .ok (.getfield 19, 3) := by decide +kernel
theorem dX4_addRow_19 : decode cX4_addRow 19 = .ok (.aload_n 0, 1) := by decide +kernel
theorem dX4_addRow_20 : decode cX4_addRow 20 = .ok (.getfield 22, 3) := by decide +kernel
theorem dX4_addRow_23 : decode cX4_addRow 23 = .ok (.iconst 0, 1) := by decide +kernel
theorem dX4_addRow_24 : decode cX4_addRow 24 = .ok (.aload_n 0, 1) := by decide +kernel
theorem dX4_addRow_25 : decode cX4_addRow 25 = .ok (.getfield 13, 3) := by decide +kernel
theorem dX4_addRow_28 : decode cX4_addRow 28 = .ok (.iconst 1, 1) := by decide +kernel
theorem dX4_addRow_29 : decode cX4_addRow 29 = .ok (.isub, 1) := by decide +kernel
theorem dX4_addRow_30 : decode cX4_addRow 30 = .ok (.aload_n 0, 1) := by decide +kernel
theorem dX4_addRow_31 : decode cX4_addRow 31 = .ok (.getfield 19, 3) := by decide +kernel
theorem dX4_addRow_34 : decode cX4_addRow 34 = .ok (.imul, 1) := by decide +kernel
theorem dX4_addRow_35 : decode cX4_addRow 35 = .ok (.invokestatic 29, 3) := by decide +kernel
theorem dX4_addRow_38 : decode cX4_addRow 38 = .ok (.aload_n 0, 1) := by decide +kernel
theorem dX4_addRow_39 : decode cX4_addRow 39 = .ok (.aload_n 0, 1) := by decide +kernel
theorem dX4_addRow_40 : decode cX4_addRow 40 = .ok (.getfield 13, 3) := by decide +kernel
theorem dX4_addRow_43 : decode cX4_addRow 43 = .ok (.iconst 1, 1) := by decide +kernel
theorem dX4_addRow_44 : decode cX4_addRow 44 = .ok (.isub, 1) := by decide +kernel
theorem dX4_addRow_45 : decode cX4_addRow 45 = .ok (.putfield 26, 3) := by decide +kernel
theorem dX4_addRow_48 : decode cX4_addRow 48 = .ok (.aload_n 0, 1) := by decide +kernel
theorem dX4_addRow_49 : decode cX4_addRow 49 = .ok (.dup, 1) := by decide +kernel
theorem dX4_addRow_50 : decode cX4_addRow 50 = .ok (.getfield 26, 3) := by decide +kernel
theorem dX4_addRow_53 : decode cX4_addRow 53 = .ok (.iconst 1, 1) := by decide +kernel
theorem dX4_addRow_54 : decode cX4_addRow 54 = .ok (.iadd, 1) := by decide +kernel
theorem dX4_addRow_55 : decode cX4_addRow 55 = .ok (.putfield 26, 3) := by decide +kernel
theorem dX4_addRow_58 : decode cX4_addRow 58 = .ok (.aload_n 0, 1) := by decide +kernel
theorem dX4_addRow_59 : decode cX4_addRow 59 = .ok (.getfield 26, 3) := by decide +kernel
theorem dX4_addRow_62 : decode cX4_addRow 62 = .ok (.iconst 1, 1) := by decide +kernel
theorem dX4_addRow_63 : decode cX4_addRow 63 = .ok (.isub, 1) := by decide +kernel
theorem dX4_addRow_64 : decode cX4_addRow 64 = .ok (.ireturn, 1) := by decide +kernel
theorem dX4_partOf_0 : decode cX4_partOf 0 = .ok (.iload_n 1, 1) := by decide +kernel
theorem dX4_partOf_1 : decode cX4_partOf 1 = .ok (.aload_n 0, 1) := by decide +kernel
theorem dX4_partOf_2 : decode cX4_partOf 2 = .ok (.getfield 19, 3) := by decide +kernel
theorem dX4_partOf_5 : decode cX4_partOf 5 = .ok (.imul, 1) := by decide +kernel
theorem dX4_partOf_6 : decode cX4_partOf 6 = .ok (.iload_n 2, 1) := by decide +kernel
theorem dX4_partOf_7 : decode cX4_partOf 7 = .ok (.iadd, 1) := by decide +kernel
theorem dX4_partOf_8 : decode cX4_partOf 8 = .ok (.istore_n 3, 1) := by decide +kernel
theorem dX4_partOf_9 : decode cX4_partOf 9 = .ok (.iload_n 3, 1) := by decide +kernel
theorem dX4_partOf_10 : decode cX4_partOf 10 = .ok (.ifCond .lt 21, 3) := by decide +kernel
theorem dX4_partOf_13 : decode cX4_partOf 13 = .ok (.iload_n 3, 1) := by decide +kernel
theorem dX4_partOf_14 : decode cX4_partOf 14 = .ok (.aload_n 0, 1) := by decide +kernel
theorem dX4_partOf_15 : decode cX4_partOf 15 = .ok (.getfield 22, 3) := by decide +kernel
theorem dX4_partOf_18 : decode cX4_partOf 18 = .ok (.arraylength, 1) := by decide +kernel
theorem dX4_partOf_19 : decode cX4_partOf 19 = .ok (.if_icmp .ge 12, 3) := by decide +kernel
theorem dX4_partOf_22 : decode cX4_partOf 22 = .ok (.aload_n 0, 1) := by decide +kernel
theorem dX4_partOf_23 : decode cX4_partOf 23 = .ok (.getfield 22, 3) := by decide +kernel
theorem dX4_partOf_26 : decode cX4_partOf 26 = .ok (.iload_n 3, 1) := by decide +kernel
theorem dX4_partOf_27 : decode cX4_partOf 27 = .ok (.iaload, 1) := by decide +kernel
theorem dX4_partOf_28 : decode cX4_partOf 28 = .ok (.goto 4, 3) := by decide +kernel
theorem dX4_partOf_31 : decode cX4_partOf 31 = .ok (.iconst 0, 1) := by decide +kernel
theorem dX4_partOf_32 : decode cX4_partOf 32 = .ok (.ireturn, 1) := by decide +kernel
theorem dX4_setPart_0 : decode cX4_setPart 0 = .ok (.iload_n 1, 1) := by decide +kernel
theorem dX4_setPart_1 : decode cX4_setPart 1 = .ok (.aload_n 0, 1) := by decide +kernel
theorem dX4_setPart_2 : decode cX4_setPart 2 = .ok (.getfield 19, 3) := by decide +kernel
theorem dX4_setPart_5 : decode cX4_setPart 5 = .ok (.imul, 1) := by decide +kernel
theorem dX4_setPart_6 : decode cX4_setPart 6 = .ok (.iload_n 2, 1) := by decide +kernel
theorem dX4_setPart_7 : decode cX4_setPart 7 = .ok (.iadd, 1) := by decide +kernel
theorem dX4_setPart_8 : decode cX4_setPart 8 = .ok (.istore 4, 2) := by decide +kernel
theorem dX4_setPart_10 : decode cX4_setPart 10 = .ok (.iload 4, 2) := by decide +kernel
theorem dX4_setPart_12 : decode cX4_setPart 12 = .ok (.ifCond .lt 21, 3) := by decide +kernel
theorem dX4_setPart_15 : decode cX4_setPart 15 = .ok (.iload 4, 2) := by decide +kernel
theorem dX4_setPart_17 : decode cX4_setPart 17 = .ok (.aload_n 0, 1) := by decide +kernel
theorem dX4_setPart_18 : decode cX4_setPart 18 = .ok (.getfield 22, 3) := by decide +kernel
theorem dX4_setPart_21 : decode cX4_setPart 21 = .ok (.arraylength, 1) := by decide +kernel
theorem dX4_setPart_22 : decode cX4_setPart 22 = .ok (.if_icmp .ge 11, 3) := by decide +kernel
theorem dX4_setPart_25 : decode cX4_setPart 25 = .ok (.aload_n 0, 1) := by decide +kernel
theorem dX4_setPart_26 : decode cX4_setPart 26 = .ok (.getfield 22, 3) := by decide +kernel
theorem dX4_setPart_29 : decode cX4_setPart 29 = .ok (.iload 4, 2) := by decide +kernel
theorem dX4_setPart_31 : decode cX4_setPart 31 = .ok (.iload_n 3, 1) := by decide +kernel
theorem dX4_setPart_32 : decode cX4_setPart 32 = .ok (.iastore, 1) := by decide +kernel
theorem dX4_setPart_33 : decode cX4_setPart 33 = .ok (.return_, 1) := by decide +kernel
theorem dX5_init_0 : decode cX5_init 0 = .ok (.aload_n 0, 1) := by decide +kernel
theorem dX5_init_1 : decode cX5_init 1 = .ok (.invokespecial 3, 3) := by decide +kernel
theorem dX5_init_4 : decode cX5_init 4 = .ok (.aload_n 0, 1) := by decide +kernel
theorem dX5_init_5 : decode cX5_init 5 = .ok (.new 9, 3) := by decide +kernel
theorem dX5_init_8 : decode cX5_init 8 = .ok (.dup, 1) := by decide +kernel
theorem dX5_init_9 : decode cX5_init 9 = .ok (.invokespecial 11, 3) := by decide +kernel
theorem dX5_init_12 : decode cX5_init 12 = .ok (.putfield 12, 3) := by decide +kernel
theorem dX5_init_15 : decode cX5_init 15 = .ok (.aload_n 0, 1) := by decide +kernel
theorem dX5_init_16 : decode cX5_init 16 = .ok (.bipush 60, 2) := by decide +kernel
theorem dX5_init_18 : decode cX5_init 18 = .ok (.anewarray 18, 3) := by decide +kernel
theorem dX5_init_21 : decode cX5_init 21 = .ok (.putfield 20, 3) := by decide +kernel
theorem dX5_init_24 : decode cX5_init 24 = .ok (.aload_n 0, 1) := by decide +kernel
theorem dX5_init_25 : decode cX5_init 25 = .ok (.iconst (-1), 1) := by decide +kernel
theorem dX5_init_26 : decode cX5_init 26 = .ok (.putfield 24, 3) := by decide +kernel
theorem dX5_init_29 : decode cX5_init 29 = .ok (.iconst 0, 1) := by decide +kernel
theorem dX5_init_30 : decode cX5_init 30 = .ok (.istore_n 1, 1) := by decide +kernel
theorem dX5_init_31 : decode cX5_init 31 = .ok (.iload_n 1, 1) := by decide +kernel
theorem dX5_init_32 : decode cX5_init 32 = .ok (.bipush 60, 2) := by decide +kernel
theorem dX5_init_34 : decode cX5_init 34 = .ok (.if_icmp .ge 22, 3) := by decide +kernel
theorem dX5_init_37 : decode cX5_init 37 = .ok (.aload_n 0, 1) := by decide +kernel
theorem dX5_init_38 : decode cX5_init 38 = .ok (.getfield 20, 3) := by decide +kernel
theorem dX5_init_41 : decode cX5_init 41 = .ok (.iload_n 1, 1) := by decide +kernel
theorem dX5_init_42 : decode cX5_init 42 = .ok (.new 18, 3) := by decide +kernel
theorem dX5_init_45 : decode cX5_init 45 = .ok (.dup, 1) := by decide +kernel
theorem dX5_init_46 : decode cX5_init 46 = .ok (.invokespecial 28, 3) := by decide +kernel
theorem dX5_init_49 : decode cX5_init 49 = .ok (.aastore, 1) := by decide +kernel
theorem dX5_init_50 : decode cX5_init 50 = .ok (.iinc 1 1, 3) := by decide +kernel
theorem dX5_init_53 : decode cX5_init 53 = .ok (.goto (-22), 3) := by decide +kernel
theorem dX5_init_56 : decode cX5_init 56 = .ok (.return_, 1) := by decide +kernel
theorem dX5_begin_0 : decode cX5_begin 0 = .ok (.aload_n 0, 1) := by decide +kernel
theorem dX5_begin_1 : decode cX5_begin 1 = .ok (.iconst 0, 1) := by decide +kernel
theorem dX5_begin_2 : decode cX5_begin 2 = .ok (.putfield 29, 3) := by decide +kernel
theorem dX5_begin_5 : decode cX5_begin 5 = .ok (.aload_n 0, 1) := by decide +kernel
theorem dX5_begin_6 : decode cX5_begin 6 = .ok (.iconst (-1), 1) := by decide +kernel
theorem dX5_begin_7 : decode cX5_begin 7 = .ok (.putfield 24, 3) := by decide +kernel
theorem dX5_begin_10 : decode cX5_begin 10 = .ok (.aload_n 0, 1) := by decide +kernel
theorem dX5_begin_11 : decode cX5_begin 11 = .ok (.iconst 0, 1) := by decide +kernel
theorem dX5_begin_12 : decode cX5_begin 12 = .ok (.putfield 32, 3) := by decide +kernel
theorem dX5_begin_15 : decode cX5_begin 15 = .ok (.aload_n 0, 1) := by decide +kernel
theorem dX5_begin_16 : decode cX5_begin 16 = .ok (.iconst 0, 1) := by decide +kernel
theorem dX5_begin_17 : decode cX5_begin 17 = .ok (.putfield 35, 3) := by decide +kernel
theorem dX5_begin_20 : decode cX5_begin 20 = .ok (.aload_n 0, 1) := by decide +kernel
theorem dX5_begin_21 : decode cX5_begin 21 = .ok (.getfield 12, 3) := by decide +kernel
theorem dX5_begin_24 : decode cX5_begin 24 = .ok (.iload_n 1, 1) := by decide +kernel
theorem dX5_begin_25 : decode cX5_begin 25 = .ok (.invokevirtual 38, 3) := by decide +kernel
theorem dX5_begin_28 : decode cX5_begin 28 = .ok (.return_, 1) := by decide +kernel
theorem dX5_hasFailed_0 : decode cX5_hasFailed 0 = .ok (.aload_n 0, 1) := by decide +kernel
theorem dX5_hasFailed_1 : decode cX5_hasFailed 1 = .ok (.getfield 29, 3) := by decide +kernel
theorem dX5_hasFailed_4 : decode cX5_hasFailed 4 = .ok (.ifCond .eq 7, 3) := by decide +kernel
theorem dX5_hasFailed_7 : decode cX5_hasFailed 7 = .ok (.iconst 1, 1) := by decide +kernel
theorem dX5_hasFailed_8 : decode cX5_hasFailed 8 = .ok (.goto 4, 3) := by decide +kernel
theorem dX5_hasFailed_11 : decode cX5_hasFailed 11 = .ok (.iconst 0, 1) := by decide +kernel
theorem dX5_hasFailed_12 : decode cX5_hasFailed 12 = .ok (.ireturn, 1) := by decide +kernel
theorem dX5_fail_0 : decode cX5_fail 0 = .ok (.aload_n 0, 1) := by decide +kernel
theorem dX5_fail_1 : decode cX5_fail 1 = .ok (.getfield 29, 3) := by decide +kernel
theorem dX5_fail_4 : decode cX5_fail 4 = .ok (.ifCond .ne 24, 3) := by decide +kernel
theorem dX5_fail_7 : decode cX5_fail 7 = .ok (.aload_n 0, 1) := by decide +kernel
theorem dX5_fail_8 : decode cX5_fail 8 = .ok (.iload_n 1, 1) := by decide +kernel
theorem dX5_fail_9 : decode cX5_fail 9 = .ok (.putfield 29, 3) := by decide +kernel
theorem dX5_fail_12 : decode cX5_fail 12 = .ok (.aload_n 0, 1) := by decide +kernel
theorem dX5_fail_13 : decode cX5_fail 13 = .ok (.aload_n 0, 1) := by decide +kernel
theorem dX5_fail_14 : decode cX5_fail 14 = .ok (.getfield 12, 3) := by decide +kernel
theorem dX5_fail_17 : decode cX5_fail 17 = .ok (.getfield 42, 3) := by decide +kernel
theorem dX5_fail_20 : decode cX5_fail 20 = .ok (.aload_n 0, 1) := by decide +kernel
theorem dX5_fail_21 : decode cX5_fail 21 = .ok (.getfield 35, 3) := by decide +kernel
theorem dX5_fail_24 : decode cX5_fail 24 = .ok (.iaload, 1) := by decide +kernel
theorem dX5_fail_25 : decode cX5_fail 25 = .ok (.putfield 24, 3) := by decide +kernel
theorem dX5_fail_28 : decode cX5_fail 28 = .ok (.return_, 1) := by decide +kernel
theorem dX5_parseService_0 : decode cX5_parseService 0 = .ok (.aload_n 0, 1) := by decide +kernel
theorem dX5_parseService_1 : decode cX5_parseService 1 = .ok (.iload_n 1, 1) := by decide +kernel
theorem dX5_parseService_2 : decode cX5_parseService 2 = .ok (.invokevirtual 46, 3) := by decide +kernel
theorem dX5_parseService_5 : decode cX5_parseService 5 = .ok (.aload_n 0, 1) := by decide +kernel
theorem dX5_parseService_6 : decode cX5_parseService 6 = .ok (.getstatic 49, 3) := by decide +kernel
theorem dX5_parseService_9 : decode cX5_parseService 9 = .ok (.invokevirtual 55, 3) := by decide +kernel
theorem dX5_parseService_12 : decode cX5_parseService 12 = .ok (.aload_n 0, 1) := by decide +kernel
theorem dX5_parseService_13 : decode cX5_parseService 13 = .ok (.aload_n 0, 1) := by decide +kernel
theorem dX5_parseService_14 : decode cX5_parseService 14 = .ok (.iconst 2, 1) := by decide +kernel
theorem dX5_parseService_15 : decode cX5_parseService 15 = .ok (.bipush 6, 2) := by decide +kernel
theorem dX5_parseService_17 : decode cX5_parseService 17 = .ok (.invokevirtual 59, 3) := by decide +kernel
theorem dX5_parseService_20 : decode cX5_parseService 20 = .ok (.putfield 63, 3) := by decide +kernel
theorem dX5_parseService_23 : decode cX5_parseService 23 = .ok (.aload_n 0, 1) := by decide +kernel
theorem dX5_parseService_24 : decode cX5_parseService 24 = .ok (.getstatic 66, 3) := by decide +kernel
theorem dX5_parseService_27 : decode cX5_parseService 27 = .ok (.invokevirtual 55, 3) := by decide +kernel
theorem dX5_parseService_30 : decode cX5_parseService 30 = .ok (.aload_n 0, 1) := by decide +kernel
theorem dX5_parseService_31 : decode cX5_parseService 31 = .ok (.aload_n 0, 1) := by decide +kernel
theorem dX5_parseService_32 : decode cX5_parseService 32 = .ok (.iconst 1, 1) := by decide +kernel
theorem dX5_parseService_33 : decode cX5_parseService 33 = .ok (.bipush 16, 2) := by decide +kernel
theorem dX5_parseService_35 : decode cX5_parseService 35 = .ok (.invokevirtual 59, 3) := by decide +kernel
theorem dX5_parseService_38 : decode cX5_parseService 38 = .ok (.putfield 69, 3) := by decide +kernel
theorem dX5_parseService_41 : decode cX5_parseService 41 = .ok (.aload_n 0, 1) := by decide +kernel
theorem dX5_parseService_42 : decode cX5_parseService 42 = .ok (.getstatic 72, 3) := by decide +kernel
theorem dX5_parseService_45 : decode cX5_parseService 45 = .ok (.invokevirtual 55, 3) := by decide +kernel
theorem dX5_parseService_48 : decode cX5_parseService 48 = .ok (.aload_n 0, 1) := by decide +kernel
theorem dX5_parseService_49 : decode cX5_parseService 49 = .ok (.aload_n 0, 1) := by decide +kernel
theorem dX5_parseService_50 : decode cX5_parseService 50 = .ok (.iconst 1, 1) := by decide +kernel
theorem dX5_parseService_51 : decode cX5_parseService 51 = .ok (.bipush 50, 2) := by decide +kernel
theorem dX5_parseService_53 : decode cX5_parseService 53 = .ok (.invokevirtual 59, 3) := by decide +kernel
theorem dX5_parseService_56 : decode cX5_parseService 56 = .ok (.putfield 75, 3) := by decide +kernel
theorem dX5_parseService_59 : decode cX5_parseService 59 = .ok (.aload_n 0, 1) := by decide +kernel
theorem dX5_parseService_60 : decode cX5_parseService 60 = .ok (.getstatic 78, 3) := by decide +kernel
theorem dX5_parseService_63 : decode cX5_parseService 63 = .ok (.invokevirtual 55, 3) := by decide +kernel
theorem dX5_parseService_66 : decode cX5_parseService 66 = .ok (.aload_n 0, 1) := by decide +kernel
theorem dX5_parseService_67 : decode cX5_parseService 67 = .ok (.getstatic 81, 3) := by decide +kernel
theorem dX5_parseService_70 : decode cX5_parseService 70 = .ok (.invokevirtual 55, 3) := by decide +kernel
theorem dX5_parseService_73 : decode cX5_parseService 73 = .ok (.return_, 1) := by decide +kernel
theorem dX5_parseScript_0 : decode cX5_parseScript 0 = .ok (.aload_n 0, 1) := by decide +kernel
theorem dX5_parseScript_1 : decode cX5_parseScript 1 = .ok (.iload_n 1, 1) := by decide +kernel
theorem dX5_parseScript_2 : decode cX5_parseScript 2 = .ok (.invokevirtual 46, 3) := by decide +kernel
theorem dX5_parseScript_5 : decode cX5_parseScript 5 = .ok (.aload_n 0, 1) := by decide +kernel
theorem dX5_parseScript_6 : decode cX5_parseScript 6 = .ok (.iload_n 2, 1) := by decide +kernel
theorem dX5_parseScript_7 : decode cX5_parseScript 7 = .ok (.putfield 63, 3) := by decide +kernel
theorem dX5_parseScript_10 : decode cX5_parseScript 10 = .ok (.aload_n 0, 1) := by decide +kernel
theorem dX5_parseScript_11 : decode cX5_parseScript 11 = .ok (.iload_n 3, 1) := by decide +kernel
theorem dX5_parseScript_12 : decode cX5_parseScript 12 = .ok (.putfield 69, 3) := by decide +kernel
theorem dX5_parseScript_15 : decode cX5_parseScript 15 = .ok (.iconst 0, 1) := by decide +kernel
theorem dX5_parseScript_16 : decode cX5_parseScript 16 = .ok (.istore 4, 2) := by decide +kernel
theorem dX5_parseScript_18 : decode cX5_parseScript 18 = .ok (.iload 4, 2) := by decide +kernel
theorem dX5_parseScript_20 : decode cX5_parseScript 20 = .ok (.bipush 60, 2) := by decide +kernel
theorem dX5_parseScript_22 : decode cX5_parseScript 22 = .ok (.if_icmp .gt 64, 3) := by decide +kernel
theorem dX5_parseScript_25 : decode cX5_parseScript 25 = .ok (.aload_n 0, 1) := by decide +kernel
theorem dX5_parseScript_26 : decode cX5_parseScript 26 = .ok (.invokevirtual 84, 3) := by decide +kernel
theorem dX5_parseScript_29 : decode cX5_parseScript 29 = .ok (.ifCond .ne 57, 3) := by decide +kernel
theorem dX5_parseScript_32 : decode cX5_parseScript 32 = .ok (.aload_n 0, 1) := by decide +kernel
theorem dX5_parseScript_33 : decode cX5_parseScript 33 = .ok (.invokevirtual 88, 3) := by decide +kernel
theorem dX5_parseScript_36 : decode cX5_parseScript 36 = .ok (.getstatic 81, 3) := by decide +kernel
theorem dX5_parseScript_39 : decode cX5_parseScript 39 = .ok (.if_acmp .eq 47, 3) := by decide +kernel
theorem dX5_parseScript_42 : decode cX5_parseScript 42 = .ok (.aload_n 0, 1) := by decide +kernel
theorem dX5_parseScript_43 : decode cX5_parseScript 43 = .ok (.invokevirtual 92, 3) := by decide +kernel
theorem dX5_parseScript_46 : decode cX5_parseScript 46 = .ok (.iload 4, 2) := by decide +kernel
theorem dX5_parseScript_48 : decode cX5_parseScript 48 = .ok (.bipush 60, 2) := by decide +kernel
theorem dX5_parseScript_50 : decode cX5_parseScript 50 = .ok (.if_icmp .lt 11, 3) := by decide +kernel
theorem dX5_parseScript_53 : decode cX5_parseScript 53 = .ok (.aload_n 0, 1) := by decide +kernel
theorem dX5_parseScript_54 : decode cX5_parseScript 54 = .ok (.iconst 3, 1) := by decide +kernel
theorem dX5_parseScript_55 : decode cX5_parseScript 55 = .ok (.invokevirtual 95, 3) := by decide +kernel
theorem dX5_parseScript_58 : decode cX5_parseScript 58 = .ok (.goto 22, 3) := by decide +kernel
theorem dX5_parseScript_61 : decode cX5_parseScript 61 = .ok (.aload_n 0, 1) := by decide +kernel
theorem dX5_parseScript_62 : decode cX5_parseScript 62 = .ok (.aload_n 0, 1) := by decide +kernel
theorem dX5_parseScript_63 : decode cX5_parseScript 63 = .ok (.getfield 20, 3) := by decide +kernel
theorem dX5_parseScript_66 : decode cX5_parseScript 66 = .ok (.iload 4, 2) := by decide +kernel
theorem dX5_parseScript_68 : decode cX5_parseScript 68 = .ok (.aaload, 1) := by decide +kernel
theorem dX5_parseScript_69 : decode cX5_parseScript 69 = .ok (.invokevirtual 98, 3) := by decide +kernel
theorem dX5_parseScript_72 : decode cX5_parseScript 72 = .ok (.aload_n 0, 1) := by decide +kernel
theorem dX5_parseScript_73 : decode cX5_parseScript 73 = .ok (.iload 4, 2) := by decide +kernel
theorem dX5_parseScript_75 : decode cX5_parseScript 75 = .ok (.iconst 1, 1) := by decide +kernel
theorem dX5_parseScript_76 : decode cX5_parseScript 76 = .ok (.iadd, 1) := by decide +kernel
theorem dX5_parseScript_77 : decode cX5_parseScript 77 = .ok (.putfield 32, 3) := by decide +kernel
theorem dX5_parseScript_80 : decode cX5_parseScript 80 = .ok (.iinc 4 1, 3) := by decide +kernel
theorem dX5_parseScript_83 : decode cX5_parseScript 83 = .ok (.goto (-65), 3) := by decide +kernel
theorem dX5_parseScript_86 : decode cX5_parseScript 86 = .ok (.return_, 1) := by decide +kernel
theorem dX5_checkFirstToken_0 : decode cX5_checkFirstToken 0 = .ok (.aload_n 0, 1) := by decide +kernel
theorem dX5_checkFirstToken_1 : decode cX5_checkFirstToken 1 = .ok (.invokevirtual 88, 3) := by decide +kernel
theorem dX5_checkFirstToken_4 : decode cX5_checkFirstToken 4 = .ok (.getstatic 102, 3) := by decide +kernel
theorem dX5_checkFirstToken_7 : decode cX5_checkFirstToken 7 = .ok (.if_acmp .ne 17, 3) := by decide +kernel
theorem dX5_checkFirstToken_10 : decode cX5_checkFirstToken 10 = .ok (.aload_n 0, 1) := by decide +kernel
theorem dX5_checkFirstToken_11 : decode cX5_checkFirstToken 11 = .ok (.iconst 0, 1) := by decide +kernel
theorem dX5_checkFirstToken_12 : decode cX5_checkFirstToken 12 = .ok (.aload_n 0, 1) := by decide +kernel
theorem dX5_checkFirstToken_13 : decode cX5_checkFirstToken 13 = .ok (.getfield 63, 3) := by decide +kernel
theorem dX5_checkFirstToken_16 : decode cX5_checkFirstToken 16 = .ok (.iconst 1, 1) := by decide +kernel
theorem dX5_checkFirstToken_17 : decode cX5_checkFirstToken 17 = .ok (.isub, 1) := by decide +kernel
theorem dX5_checkFirstToken_18 : decode cX5_checkFirstToken 18 = .ok (.invokevirtual 105, 3) := by decide +kernel
theorem dX5_checkFirstToken_21 : decode cX5_checkFirstToken 21 = .ok (.goto 18, 3) := by decide +kernel
theorem dX5_checkFirstToken_24 : decode cX5_checkFirstToken 24 = .ok (.aload_n 0, 1) := by decide +kernel
theorem dX5_checkFirstToken_25 : decode cX5_checkFirstToken 25 = .ok (.invokevirtual 88, 3) := by decide +kernel
theorem dX5_checkFirstToken_28 : decode cX5_checkFirstToken 28 = .ok (.getfield 109, 3) := by decide +kernel
theorem dX5_checkFirstToken_31 : decode cX5_checkFirstToken 31 = .ok (.ifCond .ne 8, 3) := by decide +kernel
theorem dX5_checkFirstToken_34 : decode cX5_checkFirstToken 34 = .ok (.aload_n 0, 1) := by decide +kernel
theorem dX5_checkFirstToken_35 : decode cX5_checkFirstToken 35 = .ok (.iconst 1, 1) := by decide +kernel
theorem dX5_checkFirstToken_36 : decode cX5_checkFirstToken 36 = .ok (.invokevirtual 95, 3) := by decide +kernel
theorem dX5_checkFirstToken_39 : decode cX5_checkFirstToken 39 = .ok (.return_, 1) := by decide +kernel
theorem dX5_parseStep_0 : decode cX5_parseStep 0 = .ok (.aload_n 0, 1) := by decide +kernel
theorem dX5_parseStep_1 : decode cX5_parseStep 1 = .ok (.invokevirtual 88, 3) := by decide +kernel
theorem dX5_parseStep_4 : decode cX5_parseStep 4 = .ok (.getstatic 102, 3) := by decide +kernel
theorem dX5_parseStep_7 : decode cX5_parseStep 7 = .ok (.if_acmp .ne 60, 3) := by decide +kernel
theorem dX5_parseStep_10 : decode cX5_parseStep 10 = .ok (.aload_n 1, 1) := by decide +kernel
theorem dX5_parseStep_11 : decode cX5_parseStep 11 = .ok (.getfield 113, 3) := by decide +kernel
theorem dX5_parseStep_14 : decode cX5_parseStep 14 = .ok (.iconst 0, 1) := by decide +kernel
theorem dX5_parseStep_15 : decode cX5_parseStep 15 = .ok (.aload_n 0, 1) := by decide +kernel
theorem dX5_parseStep_16 : decode cX5_parseStep 16 = .ok (.iconst 0, 1) := by decide +kernel
theorem dX5_parseStep_17 : decode cX5_parseStep 17 = .ok (.aload_n 0, 1) := by decide +kernel
theorem dX5_parseStep_18 : decode cX5_parseStep 18 = .ok (.getfield 63, 3) := by decide +kernel
theorem dX5_parseStep_21 : decode cX5_parseStep 21 = .ok (.iconst 1, 1) := by decide +kernel
theorem dX5_parseStep_22 : decode cX5_parseStep 22 = .ok (.isub, 1) := by decide +kernel
theorem dX5_parseStep_23 : decode cX5_parseStep 23 = .ok (.invokevirtual 59, 3) := by decide +kernel
theorem dX5_parseStep_26 : decode cX5_parseStep 26 = .ok (.iastore, 1) := by decide +kernel
theorem dX5_parseStep_27 : decode cX5_parseStep 27 = .ok (.aload_n 1, 1) := by decide +kernel
theorem dX5_parseStep_28 : decode cX5_parseStep 28 = .ok (.aload_n 0, 1) := by decide +kernel
theorem dX5_parseStep_29 : decode cX5_parseStep 29 = .ok (.invokevirtual 88, 3) := by decide +kernel
theorem dX5_parseStep_32 : decode cX5_parseStep 32 = .ok (.putfield 116, 3) := by decide +kernel
theorem dX5_parseStep_35 : decode cX5_parseStep 35 = .ok (.aload_n 0, 1) := by decide +kernel
theorem dX5_parseStep_36 : decode cX5_parseStep 36 = .ok (.aload_n 1, 1) := by decide +kernel
theorem dX5_parseStep_37 : decode cX5_parseStep 37 = .ok (.getfield 116, 3) := by decide +kernel
theorem dX5_parseStep_40 : decode cX5_parseStep 40 = .ok (.getstatic 119, 3) := by decide +kernel
theorem dX5_parseStep_43 : decode cX5_parseStep 43 = .ok (.if_acmp .ne 9, 3) := by decide +kernel
theorem dX5_parseStep_46 : decode cX5_parseStep 46 = .ok (.getstatic 119, 3) := by decide +kernel
theorem dX5_parseStep_49 : decode cX5_parseStep 49 = .ok (.goto 6, 3) := by decide +kernel
theorem dX5_parseStep_52 : decode cX5_parseStep 52 = .ok (.getstatic 122, 3) := by decide +kernel
theorem dX5_parseStep_55 : decode cX5_parseStep 55 = .ok (.invokevirtual 55, 3) := by decide +kernel
theorem dX5_parseStep_58 : decode cX5_parseStep 58 = .ok (.aload_n 0, 1) := by decide +kernel
theorem dX5_parseStep_59 : decode cX5_parseStep 59 = .ok (.aload_n 1, 1) := by decide +kernel
theorem dX5_parseStep_60 : decode cX5_parseStep 60 = .ok (.iconst 1, 1) := by decide +kernel
theorem dX5_parseStep_61 : decode cX5_parseStep 61 = .ok (.invokevirtual 125, 3) := by decide +kernel
theorem dX5_parseStep_64 : decode cX5_parseStep 64 = .ok (.goto 21, 3) := by decide +kernel
theorem dX5_parseStep_67 : decode cX5_parseStep 67 = .ok (.aload_n 1, 1) := by decide +kernel
theorem dX5_parseStep_68 : decode cX5_parseStep 68 = .ok (.aload_n 0, 1) := by decide +kernel
theorem dX5_parseStep_69 : decode cX5_parseStep 69 = .ok (.invokevirtual 88, 3) := by decide +kernel
theorem dX5_parseStep_72 : decode cX5_parseStep 72 = .ok (.putfield 116, 3) := by decide +kernel
theorem dX5_parseStep_75 : decode cX5_parseStep 75 = .ok (.aload_n 0, 1) := by decide +kernel
theorem dX5_parseStep_76 : decode cX5_parseStep 76 = .ok (.invokevirtual 129, 3) := by decide +kernel
theorem dX5_parseStep_79 : decode cX5_parseStep 79 = .ok (.aload_n 0, 1) := by decide +kernel
theorem dX5_parseStep_80 : decode cX5_parseStep 80 = .ok (.aload_n 1, 1) := by decide +kernel
theorem dX5_parseStep_81 : decode cX5_parseStep 81 = .ok (.iconst 0, 1) := by decide +kernel
theorem dX5_parseStep_82 : decode cX5_parseStep 82 = .ok (.invokevirtual 125, 3) := by decide +kernel
theorem dX5_parseStep_85 : decode cX5_parseStep 85 = .ok (.aload_n 1, 1) := by decide +kernel
theorem dX5_parseStep_86 : decode cX5_parseStep 86 = .ok (.getfield 116, 3) := by decide +kernel
theorem dX5_parseStep_89 : decode cX5_parseStep 89 = .ok (.getstatic 132, 3) := by decide +kernel
theorem dX5_parseStep_92 : decode cX5_parseStep 92 = .ok (.if_acmp .ne 21, 3) := by decide +kernel
theorem dX5_parseStep_95 : decode cX5_parseStep 95 = .ok (.aload_n 1, 1) := by decide +kernel
theorem dX5_parseStep_96 : decode cX5_parseStep 96 = .ok (.getfield 113, 3) := by decide +kernel
theorem dX5_parseStep_99 : decode cX5_parseStep 99 = .ok (.iconst 0, 1) := by decide +kernel
theorem dX5_parseStep_100 : decode cX5_parseStep 100 = .ok (.aload_n 0, 1) := by decide +kernel
theorem dX5_parseStep_101 : decode cX5_parseStep 101 = .ok (.iconst 1, 1) := by decide +kernel
theorem dX5_parseStep_102 : decode cX5_parseStep 102 = .ok (.aload_n 1, 1) := by decide +kernel
theorem dX5_parseStep_103 : decode cX5_parseStep 103 = .ok (.getfield 113, 3) := by decide +kernel
theorem dX5_parseStep_106 : decode cX5_parseStep 106 = .ok (.iconst 0, 1) := by decide +kernel
theorem dX5_parseStep_107 : decode cX5_parseStep 107 = .ok (.iaload, 1) := by decide +kernel
theorem dX5_parseStep_108 : decode cX5_parseStep 108 = .ok (.ishl, 1) := by decide +kernel
theorem dX5_parseStep_109 : decode cX5_parseStep 109 = .ok (.invokevirtual 135, 3) := by decide +kernel
theorem dX5_parseStep_112 : decode cX5_parseStep 112 = .ok (.iastore, 1) := by decide +kernel
theorem dX5_parseStep_113 : decode cX5_parseStep 113 = .ok (.aload_n 0, 1) := by decide +kernel
theorem dX5_parseStep_114 : decode cX5_parseStep 114 = .ok (.getstatic 78, 3) := by decide +kernel
theorem dX5_parseStep_117 : decode cX5_parseStep 117 = .ok (.invokevirtual 55, 3) := by decide +kernel
theorem dX5_parseStep_120 : decode cX5_parseStep 120 = .ok (.return_, 1) := by decide +kernel
theorem dX5_takeOperands_0 : decode cX5_takeOperands 0 = .ok (.aload_n 1, 1) := by decide +kernel
theorem dX5_takeOperands_1 : decode cX5_takeOperands 1 = .ok (.getfield 116, 3) := by decide +kernel
theorem dX5_takeOperands_4 : decode cX5_takeOperands 4 = .ok (.getfield 139, 3) := by decide +kernel
theorem dX5_takeOperands_7 : decode cX5_takeOperands 7 = .ok (.astore_n 3, 1) := by decide +kernel
theorem dX5_takeOperands_8 : decode cX5_takeOperands 8 = .ok (.iload_n 2, 1) := by decide +kernel
theorem dX5_takeOperands_9 : decode cX5_takeOperands 9 = .ok (.istore 4, 2) := by decide +kernel
theorem dX5_takeOperands_11 : decode cX5_takeOperands 11 = .ok (.iload 4, 2) := by decide +kernel
theorem dX5_takeOperands_13 : decode cX5_takeOperands 13 = .ok (.aload_n 3, 1) := by decide +kernel
theorem dX5_takeOperands_14 : decode cX5_takeOperands 14 = .ok (.invokevirtual 143, 3) := by decide +kernel
theorem dX5_takeOperands_17 : decode cX5_takeOperands 17 = .ok (.if_icmp .ge 52, 3) := by decide +kernel
theorem dX5_takeOperands_20 : decode cX5_takeOperands 20 = .ok (.iload 4, 2) := by decide +kernel
theorem dX5_takeOperands_22 : decode cX5_takeOperands 22 = .ok (.iconst 3, 1) := by decide +kernel
theorem dX5_takeOperands_23 : decode cX5_takeOperands 23 = .ok (.if_icmp .ge 46, 3) := by decide +kernel
theorem dX5_takeOperands_26 : decode cX5_takeOperands 26 = .ok (.aload_n 3, 1) := by decide +kernel
theorem dX5_takeOperands_27 : decode cX5_takeOperands 27 = .ok (.iload 4, 2) := by decide +kernel
theorem dX5_takeOperands_29 : decode cX5_takeOperands 29 = .ok (.invokevirtual 149, 3) := by decide +kernel
theorem dX5_takeOperands_32 : decode cX5_takeOperands 32 = .ok (.istore 5, 2) := by decide +kernel
theorem dX5_takeOperands_34 : decode cX5_takeOperands 34 = .ok (.aload_n 1, 1) := by decide +kernel
theorem dX5_takeOperands_35 : decode cX5_takeOperands 35 = .ok (.getfield 113, 3) := by decide +kernel
theorem dX5_takeOperands_38 : decode cX5_takeOperands 38 = .ok (.iload 4, 2) := by decide +kernel
theorem dX5_takeOperands_40 : decode cX5_takeOperands 40 = .ok (.aload_n 0, 1) := by decide +kernel
theorem dX5_takeOperands_41 : decode cX5_takeOperands 41 = .ok (.iload 5, 2) := by decide +kernel
theorem dX5_takeOperands_43 : decode cX5_takeOperands 43 = .ok (.bipush 110, 2) := by decide +kernel
theorem dX5_takeOperands_45 : decode cX5_takeOperands 45 = .ok (.if_icmp .ne 7, 3) := by decide +kernel
theorem dX5_takeOperands_48 : decode cX5_takeOperands 48 = .ok (.iconst 1, 1) := by decide +kernel
theorem dX5_takeOperands_49 : decode cX5_takeOperands 49 = .ok (.goto 4, 3) := by decide +kernel
theorem dX5_takeOperands_52 : decode cX5_takeOperands 52 = .ok (.iconst 0, 1) := by decide +kernel
theorem dX5_takeOperands_53 : decode cX5_takeOperands 53 = .ok (.aload_n 0, 1) := by decide +kernel
theorem dX5_takeOperands_54 : decode cX5_takeOperands 54 = .ok (.iload 5, 2) := by decide +kernel
theorem dX5_takeOperands_56 : decode cX5_takeOperands 56 = .ok (.invokevirtual 153, 3) := by decide +kernel
theorem dX5_takeOperands_59 : decode cX5_takeOperands 59 = .ok (.invokevirtual 59, 3) := by decide +kernel
theorem dX5_takeOperands_62 : decode cX5_takeOperands 62 = .ok (.iastore, 1) := by decide +kernel
theorem dX5_takeOperands_63 : decode cX5_takeOperands 63 = .ok (.iinc 4 1, 3) := by decide +kernel
theorem dX5_takeOperands_66 : decode cX5_takeOperands 66 = .ok (.goto (-55), 3) := by decide +kernel
theorem dX5_takeOperands_69 : decode cX5_takeOperands 69 = .ok (.return_, 1) := by decide +kernel
theorem dX5_greatest_0 : decode cX5_greatest 0 = .ok (.iload_n 1, 1) := by decide +kernel
theorem dX5_greatest_1 : decode cX5_greatest 1 = .ok (.lookupswitch 63 #[(98, 60), (99, 43), (107, 50), (118, 57)], 43) := by decide +kernel
theorem dX5_greatest_44 : decode cX5_greatest 44 = .ok (.aload_n 0, 1) := by decide +kernel
theorem dX5_greatest_45 : decode cX5_greatest 45 = .ok (.getfield 63, 3) := by decide +kernel
theorem dX5_greatest_48 : decode cX5_greatest 48 = .ok (.iconst 1, 1) := by decide +kernel
theorem dX5_greatest_49 : decode cX5_greatest 49 = .ok (.isub, 1) := by decide +kernel
theorem dX5_greatest_50 : decode cX5_greatest 50 = .ok (.ireturn, 1) := by decide +kernel
theorem dX5_greatest_51 : decode cX5_greatest 51 = .ok (.aload_n 0, 1) := by decide +kernel
theorem dX5_greatest_52 : decode cX5_greatest 52 = .ok (.getfield 69, 3) := by decide +kernel
theorem dX5_greatest_55 : decode cX5_greatest 55 = .ok (.iconst 1, 1) := by decide +kernel
theorem dX5_greatest_56 : decode cX5_greatest 56 = .ok (.isub, 1) := by decide +kernel
theorem dX5_greatest_57 : decode cX5_greatest 57 = .ok (.ireturn, 1) := by decide +kernel
theorem dX5_greatest_58 : decode cX5_greatest 58 = .ok (.ldc 157, 2) := by decide +kernel
theorem dX5_greatest_60 : decode cX5_greatest 60 = .ok (.ireturn, 1) := by decide +kernel
theorem dX5_greatest_61 : decode cX5_greatest 61 = .ok (.bipush 7, 2) := by decide +kernel
theorem dX5_greatest_63 : decode cX5_greatest 63 = .ok (.ireturn, 1) := by decide +kernel
theorem dX5_greatest_64 : decode cX5_greatest 64 = .ok (.sipush 200, 3) := by decide +kernel
theorem dX5_greatest_67 : decode cX5_greatest 67 = .ok (.ireturn, 1) := by decide +kernel
theorem dX5_takeRestOfSet_0 : decode cX5_takeRestOfSet 0 = .ok (.iload_n 1, 1) := by decide +kernel
theorem dX5_takeRestOfSet_1 : decode cX5_takeRestOfSet 1 = .ok (.istore_n 2, 1) := by decide +kernel
theorem dX5_takeRestOfSet_2 : decode cX5_takeRestOfSet 2 = .ok (.iconst 0, 1) := by decide +kernel
theorem dX5_takeRestOfSet_3 : decode cX5_takeRestOfSet 3 = .ok (.istore_n 3, 1) := by decide +kernel
theorem dX5_takeRestOfSet_4 : decode cX5_takeRestOfSet 4 = .ok (.iload_n 3, 1) := by decide +kernel
theorem dX5_takeRestOfSet_5 : decode cX5_takeRestOfSet 5 = .ok (.sipush 900, 3) := by decide +kernel
theorem dX5_takeRestOfSet_8 : decode cX5_takeRestOfSet 8 = .ok (.if_icmp .ge 42, 3) := by decide +kernel
theorem dX5_takeRestOfSet_11 : decode cX5_takeRestOfSet 11 = .ok (.aload_n 0, 1) := by decide +kernel
theorem dX5_takeRestOfSet_12 : decode cX5_takeRestOfSet 12 = .ok (.invokevirtual 84, 3) := by decide +kernel
theorem dX5_takeRestOfSet_15 : decode cX5_takeRestOfSet 15 = .ok (.ifCond .ne 35, 3) := by decide +kernel
theorem dX5_takeRestOfSet_18 : decode cX5_takeRestOfSet 18 = .ok (.aload_n 0, 1) := by decide +kernel
theorem dX5_takeRestOfSet_19 : decode cX5_takeRestOfSet 19 = .ok (.invokevirtual 88, 3) := by decide +kernel
theorem dX5_takeRestOfSet_22 : decode cX5_takeRestOfSet 22 = .ok (.getstatic 102, 3) := by decide +kernel
theorem dX5_takeRestOfSet_25 : decode cX5_takeRestOfSet 25 = .ok (.if_acmp .ne 25, 3) := by decide +kernel
theorem dX5_takeRestOfSet_28 : decode cX5_takeRestOfSet 28 = .ok (.iload_n 2, 1) := by decide +kernel
theorem dX5_takeRestOfSet_29 : decode cX5_takeRestOfSet 29 = .ok (.iconst 1, 1) := by decide +kernel
theorem dX5_takeRestOfSet_30 : decode cX5_takeRestOfSet 30 = .ok (.aload_n 0, 1) := by decide +kernel
theorem dX5_takeRestOfSet_31 : decode cX5_takeRestOfSet 31 = .ok (.iconst 0, 1) := by decide +kernel
theorem dX5_takeRestOfSet_32 : decode cX5_takeRestOfSet 32 = .ok (.aload_n 0, 1) := by decide +kernel
theorem dX5_takeRestOfSet_33 : decode cX5_takeRestOfSet 33 = .ok (.getfield 63, 3) := by decide +kernel
theorem dX5_takeRestOfSet_36 : decode cX5_takeRestOfSet 36 = .ok (.iconst 1, 1) := by decide +kernel
theorem dX5_takeRestOfSet_37 : decode cX5_takeRestOfSet 37 = .ok (.isub, 1) := by decide +kernel
theorem dX5_takeRestOfSet_38 : decode cX5_takeRestOfSet 38 = .ok (.invokevirtual 59, 3) := by decide +kernel
theorem dX5_takeRestOfSet_41 : decode cX5_takeRestOfSet 41 = .ok (.ishl, 1) := by decide +kernel
theorem dX5_takeRestOfSet_42 : decode cX5_takeRestOfSet 42 = .ok (.ior, 1) := by decide +kernel
theorem dX5_takeRestOfSet_43 : decode cX5_takeRestOfSet 43 = .ok (.istore_n 2, 1) := by decide +kernel
theorem dX5_takeRestOfSet_44 : decode cX5_takeRestOfSet 44 = .ok (.iinc 3 1, 3) := by decide +kernel
theorem dX5_takeRestOfSet_47 : decode cX5_takeRestOfSet 47 = .ok (.goto (-43), 3) := by decide +kernel
theorem dX5_takeRestOfSet_50 : decode cX5_takeRestOfSet 50 = .ok (.iload_n 2, 1) := by decide +kernel
theorem dX5_takeRestOfSet_51 : decode cX5_takeRestOfSet 51 = .ok (.ireturn, 1) := by decide +kernel
theorem dX5_takeNumber_0 : decode cX5_takeNumber 0 = .ok (.aload_n 0, 1) := by decide +kernel
theorem dX5_takeNumber_1 : decode cX5_takeNumber 1 = .ok (.getfield 12, 3) := by decide +kernel
theorem dX5_takeNumber_4 : decode cX5_takeNumber 4 = .ok (.getfield 158, 3) := by decide +kernel
theorem dX5_takeNumber_7 : decode cX5_takeNumber 7 = .ok (.aload_n 0, 1) := by decide +kernel
theorem dX5_takeNumber_8 : decode cX5_takeNumber 8 = .ok (.getfield 35, 3) := by decide +kernel
theorem dX5_takeNumber_11 : decode cX5_takeNumber 11 = .ok (.iaload, 1) := by decide +kernel
theorem dX5_takeNumber_12 : decode cX5_takeNumber 12 = .ok (.istore_n 3, 1) := by decide +kernel
theorem dX5_takeNumber_13 : decode cX5_takeNumber 13 = .ok (.aload_n 0, 1) := by decide +kernel
theorem dX5_takeNumber_14 : decode cX5_takeNumber 14 = .ok (.iload_n 1, 1) := by decide +kernel
theorem dX5_takeNumber_15 : decode cX5_takeNumber 15 = .ok (.iload_n 2, 1) := by decide +kernel
theorem dX5_takeNumber_16 : decode cX5_takeNumber 16 = .ok (.invokevirtual 105, 3) := by decide +kernel
theorem dX5_takeNumber_19 : decode cX5_takeNumber 19 = .ok (.aload_n 0, 1) := by decide +kernel
theorem dX5_takeNumber_20 : decode cX5_takeNumber 20 = .ok (.invokevirtual 129, 3) := by decide +kernel
theorem dX5_takeNumber_23 : decode cX5_takeNumber 23 = .ok (.iload_n 3, 1) := by decide +kernel
theorem dX5_takeNumber_24 : decode cX5_takeNumber 24 = .ok (.ireturn, 1) := by decide +kernel
theorem dX5_checkNumber_0 : decode cX5_checkNumber 0 = .ok (.aload_n 0, 1) := by decide +kernel
theorem dX5_checkNumber_1 : decode cX5_checkNumber 1 = .ok (.getfield 12, 3) := by decide +kernel
theorem dX5_checkNumber_4 : decode cX5_checkNumber 4 = .ok (.getfield 158, 3) := by decide +kernel
theorem dX5_checkNumber_7 : decode cX5_checkNumber 7 = .ok (.aload_n 0, 1) := by decide +kernel
theorem dX5_checkNumber_8 : decode cX5_checkNumber 8 = .ok (.getfield 35, 3) := by decide +kernel
theorem dX5_checkNumber_11 : decode cX5_checkNumber 11 = .ok (.iaload, 1) := by decide +kernel
theorem dX5_checkNumber_12 : decode cX5_checkNumber 12 = .ok (.istore_n 3, 1) := by decide +kernel
theorem dX5_checkNumber_13 : decode cX5_checkNumber 13 = .ok (.aload_n 0, 1) := by decide +kernel
theorem dX5_checkNumber_14 : decode cX5_checkNumber 14 = .ok (.invokevirtual 88, 3) := by decide +kernel
theorem dX5_checkNumber_17 : decode cX5_checkNumber 17 = .ok (.getstatic 102, 3) := by decide +kernel
theorem dX5_checkNumber_20 : decode cX5_checkNumber 20 = .ok (.if_acmp .eq 11, 3) := by decide +kernel
theorem dX5_checkNumber_23 : decode cX5_checkNumber 23 = .ok (.aload_n 0, 1) := by decide +kernel
theorem dX5_checkNumber_24 : decode cX5_checkNumber 24 = .ok (.iconst 1, 1) := by decide +kernel
theorem dX5_checkNumber_25 : decode cX5_checkNumber 25 = .ok (.invokevirtual 95, 3) := by decide +kernel
theorem dX5_checkNumber_28 : decode cX5_checkNumber 28 = .ok (.goto 18, 3) := by decide +kernel
theorem dX5_checkNumber_31 : decode cX5_checkNumber 31 = .ok (.iload_n 3, 1) := by decide +kernel
theorem dX5_checkNumber_32 : decode cX5_checkNumber 32 = .ok (.iload_n 1, 1) := by decide +kernel
theorem dX5_checkNumber_33 : decode cX5_checkNumber 33 = .ok (.if_icmp .lt 8, 3) := by decide +kernel
theorem dX5_checkNumber_36 : decode cX5_checkNumber 36 = .ok (.iload_n 3, 1) := by decide +kernel
theorem dX5_checkNumber_37 : decode cX5_checkNumber 37 = .ok (.iload_n 2, 1) := by decide +kernel
theorem dX5_checkNumber_38 : decode cX5_checkNumber 38 = .ok (.if_icmp .le 8, 3) := by decide +kernel
theorem dX5_checkNumber_41 : decode cX5_checkNumber 41 = .ok (.aload_n 0, 1) := by decide +kernel
theorem dX5_checkNumber_42 : decode cX5_checkNumber 42 = .ok (.iconst 2, 1) := by decide +kernel
theorem dX5_checkNumber_43 : decode cX5_checkNumber 43 = .ok (.invokevirtual 95, 3) := by decide +kernel
theorem dX5_checkNumber_46 : decode cX5_checkNumber 46 = .ok (.return_, 1) := by decide +kernel
theorem dX5_takeKind_0 : decode cX5_takeKind 0 = .ok (.aload_n 0, 1) := by decide +kernel
theorem dX5_takeKind_1 : decode cX5_takeKind 1 = .ok (.invokevirtual 88, 3) := by decide +kernel
theorem dX5_takeKind_4 : decode cX5_takeKind 4 = .ok (.aload_n 1, 1) := by decide +kernel
theorem dX5_takeKind_5 : decode cX5_takeKind 5 = .ok (.if_acmp .eq 8, 3) := by decide +kernel
theorem dX5_takeKind_8 : decode cX5_takeKind 8 = .ok (.aload_n 0, 1) := by decide +kernel
theorem dX5_takeKind_9 : decode cX5_takeKind 9 = .ok (.iconst 1, 1) := by decide +kernel
theorem dX5_takeKind_10 : decode cX5_takeKind 10 = .ok (.invokevirtual 95, 3) := by decide +kernel
theorem dX5_takeKind_13 : decode cX5_takeKind 13 = .ok (.aload_n 0, 1) := by decide +kernel
theorem dX5_takeKind_14 : decode cX5_takeKind 14 = .ok (.invokevirtual 129, 3) := by decide +kernel
theorem dX5_takeKind_17 : decode cX5_takeKind 17 = .ok (.return_, 1) := by decide +kernel
theorem dX5_takeToken_0 : decode cX5_takeToken 0 = .ok (.aload_n 0, 1) := by decide +kernel
theorem dX5_takeToken_1 : decode cX5_takeToken 1 = .ok (.invokevirtual 84, 3) := by decide +kernel
theorem dX5_takeToken_4 : decode cX5_takeToken 4 = .ok (.ifCond .ne 29, 3) := by decide +kernel
theorem dX5_takeToken_7 : decode cX5_takeToken 7 = .ok (.aload_n 0, 1) := by decide +kernel
theorem dX5_takeToken_8 : decode cX5_takeToken 8 = .ok (.getfield 35, 3) := by decide +kernel
theorem dX5_takeToken_11 : decode cX5_takeToken 11 = .ok (.aload_n 0, 1) := by decide +kernel
theorem dX5_takeToken_12 : decode cX5_takeToken 12 = .ok (.getfield 12, 3) := by decide +kernel
theorem dX5_takeToken_15 : decode cX5_takeToken 15 = .ok (.getfield 159, 3) := by decide +kernel
theorem dX5_takeToken_18 : decode cX5_takeToken 18 = .ok (.iconst 1, 1) := by decide +kernel
theorem dX5_takeToken_19 : decode cX5_takeToken 19 = .ok (.isub, 1) := by decide +kernel
theorem dX5_takeToken_20 : decode cX5_takeToken 20 = .ok (.if_icmp .ge 13, 3) := by decide +kernel
theorem dX5_takeToken_23 : decode cX5_takeToken 23 = .ok (.aload_n 0, 1) := by decide +kernel
theorem dX5_takeToken_24 : decode cX5_takeToken 24 = .ok (.dup, 1) := by decide +kernel
theorem dX5_takeToken_25 : decode cX5_takeToken 25 = .ok (.getfield 35, 3) := by decide +kernel
theorem dX5_takeToken_28 : decode cX5_takeToken 28 = .ok (.iconst 1, 1) := by decide +kernel
theorem dX5_takeToken_29 : decode cX5_takeToken 29 = .ok (.iadd, 1) := by decide +kernel
theorem dX5_takeToken_30 : decode cX5_takeToken 30 = .ok (.putfield 35, 3) := by decide +kernel
theorem dX5_takeToken_33 : decode cX5_takeToken 33 = .ok (.return_, 1) := by decide +kernel
theorem dX5_kindHere_0 : decode cX5_kindHere 0 = .ok (.aload_n 0, 1) := by decide +kernel
theorem dX5_kindHere_1 : decode cX5_kindHere 1 = .ok (.getfield 12, 3) := by decide +kernel
theorem dX5_kindHere_4 : decode cX5_kindHere 4 = .ok (.getfield 162, 3) := by decide +kernel
theorem dX5_kindHere_7 : decode cX5_kindHere 7 = .ok (.aload_n 0, 1) := by decide +kernel
theorem dX5_kindHere_8 : decode cX5_kindHere 8 = .ok (.getfield 35, 3) := by decide +kernel
theorem dX5_kindHere_11 : decode cX5_kindHere 11 = .ok (.aaload, 1) := by decide +kernel
theorem dX5_kindHere_12 : decode cX5_kindHere 12 = .ok (.astore_n 1, 1) := by decide +kernel
theorem dX5_kindHere_13 : decode cX5_kindHere 13 = .ok (.aload_n 1, 1) := by decide +kernel
theorem dX5_kindHere_14 : decode cX5_kindHere 14 = .ok (.ifnonnull 9, 3) := by decide +kernel
theorem dX5_kindHere_17 : decode cX5_kindHere 17 = .ok (.getstatic 166, 3) := by decide +kernel
theorem dX5_kindHere_20 : decode cX5_kindHere 20 = .ok (.goto 4, 3) := by decide +kernel
theorem dX5_kindHere_23 : decode cX5_kindHere 23 = .ok (.aload_n 1, 1) := by decide +kernel
theorem dX5_kindHere_24 : decode cX5_kindHere 24 = .ok (.areturn, 1) := by decide +kernel
theorem dX6_init_0 : decode cX6_init 0 = .ok (.aload_n 0, 1) := by decide +kernel
theorem dX6_init_1 : decode cX6_init 1 = .ok (.invokespecial 3, 3) := by decide +kernel
theorem dX6_init_4 : decode cX6_init 4 = .ok (.aload_n 0, 1) := by decide +kernel
theorem dX6_init_5 : decode cX6_init 5 = .ok (.bipush 8, 2) := by decide +kernel
theorem dX6_init_7 : decode cX6_init 7 = .ok (.anewarray 9, 3) := by decide +kernel
theorem dX6_init_10 : decode cX6_init 10 = .ok (.putfield 11, 3) := by decide +kernel
theorem dX6_init_13 : decode cX6_init 13 = .ok (.aload_n 0, 1) := by decide +kernel
theorem dX6_init_14 : decode cX6_init 14 = .ok (.bipush 6, 2) := by decide +kernel
theorem dX6_init_16 : decode cX6_init 16 = .ok (.anewarray 17, 3) := by decide +kernel
theorem dX6_init_19 : decode cX6_init 19 = .ok (.putfield 19, 3) := by decide +kernel
theorem dX6_init_22 : decode cX6_init 22 = .ok (.aload_n 0, 1) := by decide +kernel
theorem dX6_init_23 : decode cX6_init 23 = .ok (.new 23, 3) := by decide +kernel
theorem dX6_init_26 : decode cX6_init 26 = .ok (.dup, 1) := by decide +kernel
theorem dX6_init_27 : decode cX6_init 27 = .ok (.bipush 60, 2) := by decide +kernel
theorem dX6_init_29 : decode cX6_init 29 = .ok (.bipush 6, 2) := by decide +kernel
theorem dX6_init_31 : decode cX6_init 31 = .ok (.invokespecial 25, 3) := by decide +kernel
theorem dX6_init_34 : decode cX6_init 34 = .ok (.putfield 28, 3) := by decide +kernel
theorem dX6_init_37 : decode cX6_init 37 = .ok (.aload_n 0, 1) := by decide +kernel
theorem dX6_init_38 : decode cX6_init 38 = .ok (.new 23, 3) := by decide +kernel
theorem dX6_init_41 : decode cX6_init 41 = .ok (.dup, 1) := by decide +kernel
theorem dX6_init_42 : decode cX6_init 42 = .ok (.bipush 40, 2) := by decide +kernel
theorem dX6_init_44 : decode cX6_init 44 = .ok (.iconst 4, 1) := by decide +kernel
theorem dX6_init_45 : decode cX6_init 45 = .ok (.invokespecial 25, 3) := by decide +kernel
theorem dX6_init_48 : decode cX6_init 48 = .ok (.putfield 32, 3) := by decide +kernel
theorem dX6_init_51 : decode cX6_init 51 = .ok (.aload_n 0, 1) := by decide +kernel
theorem dX6_init_52 : decode cX6_init 52 = .ok (.iconst 1, 1) := by decide +kernel
theorem dX6_init_53 : decode cX6_init 53 = .ok (.putfield 35, 3) := by decide +kernel
theorem dX6_init_56 : decode cX6_init 56 = .ok (.aload_n 0, 1) := by decide +kernel
theorem dX6_init_57 : decode cX6_init 57 = .ok (.iconst 1, 1) := by decide +kernel
theorem dX6_init_58 : decode cX6_init 58 = .ok (.putfield 39, 3) := by decide +kernel
theorem dX6_init_61 : decode cX6_init 61 = .ok (.iconst 0, 1) := by decide +kernel
theorem dX6_init_62 : decode cX6_init 62 = .ok (.istore_n 1, 1) := by decide +kernel
theorem dX6_init_63 : decode cX6_init 63 = .ok (.iload_n 1, 1) := by decide +kernel
theorem dX6_init_64 : decode cX6_init 64 = .ok (.bipush 8, 2) := by decide +kernel
theorem dX6_init_66 : decode cX6_init 66 = .ok (.if_icmp .ge 22, 3) := by decide +kernel
theorem dX6_init_69 : decode cX6_init 69 = .ok (.aload_n 0, 1) := by decide +kernel
theorem dX6_init_70 : decode cX6_init 70 = .ok (.getfield 11, 3) := by decide +kernel
theorem dX6_init_73 : decode cX6_init 73 = .ok (.iload_n 1, 1) := by decide +kernel
theorem dX6_init_74 : decode cX6_init 74 = .ok (.new 9, 3) := by decide +kernel
theorem dX6_init_77 : decode cX6_init 77 = .ok (.dup, 1) := by decide +kernel
theorem dX6_init_78 : decode cX6_init 78 = .ok (.invokespecial 42, 3) := by decide +kernel
theorem dX6_init_81 : decode cX6_init 81 = .ok (.aastore, 1) := by decide +kernel
theorem dX6_init_82 : decode cX6_init 82 = .ok (.iinc 1 1, 3) := by decide +kernel
theorem dX6_init_85 : decode cX6_init 85 = .ok (.goto (-22), 3) := by decide +kernel
theorem dX6_init_88 : decode cX6_init 88 = .ok (.iconst 0, 1) := by decide +kernel
theorem dX6_init_89 : decode cX6_init 89 = .ok (.istore_n 1, 1) := by decide +kernel
theorem dX6_init_90 : decode cX6_init 90 = .ok (.iload_n 1, 1) := by decide +kernel
theorem dX6_init_91 : decode cX6_init 91 = .ok (.bipush 6, 2) := by decide +kernel
theorem dX6_init_93 : decode cX6_init 93 = .ok (.if_icmp .ge 22, 3) := by decide +kernel
theorem dX6_init_96 : decode cX6_init 96 = .ok (.aload_n 0, 1) := by decide +kernel
theorem dX6_init_97 : decode cX6_init 97 = .ok (.getfield 19, 3) := by decide +kernel
theorem dX6_init_100 : decode cX6_init 100 = .ok (.iload_n 1, 1) := by decide +kernel
theorem dX6_init_101 : decode cX6_init 101 = .ok (.new 17, 3) := by decide +kernel
theorem dX6_init_104 : decode cX6_init 104 = .ok (.dup, 1) := by decide +kernel
theorem dX6_init_105 : decode cX6_init 105 = .ok (.invokespecial 43, 3) := by decide +kernel
theorem dX6_init_108 : decode cX6_init 108 = .ok (.aastore, 1) := by decide +kernel
theorem dX6_init_109 : decode cX6_init 109 = .ok (.iinc 1 1, 3) := by decide +kernel
theorem dX6_init_112 : decode cX6_init 112 = .ok (.goto (-22), 3) := by decide +kernel
theorem dX6_init_115 : decode cX6_init 115 = .ok (.return_, 1) := by decide +kernel
theorem dX6_begin_0 : decode cX6_begin 0 = .ok (.aload_n 0, 1) := by decide +kernel
theorem dX6_begin_1 : decode cX6_begin 1 = .ok (.iload_n 1, 1) := by decide +kernel
theorem dX6_begin_2 : decode cX6_begin 2 = .ok (.putfield 44, 3) := by decide +kernel
theorem dX6_begin_5 : decode cX6_begin 5 = .ok (.aload_n 0, 1) := by decide +kernel
theorem dX6_begin_6 : decode cX6_begin 6 = .ok (.iload_n 2, 1) := by decide +kernel
theorem dX6_begin_7 : decode cX6_begin 7 = .ok (.putfield 47, 3) := by decide +kernel
theorem dX6_begin_10 : decode cX6_begin 10 = .ok (.aload_n 0, 1) := by decide +kernel
theorem dX6_begin_11 : decode cX6_begin 11 = .ok (.iload_n 3, 1) := by decide +kernel
theorem dX6_begin_12 : decode cX6_begin 12 = .ok (.putfield 35, 3) := by decide +kernel
theorem dX6_begin_15 : decode cX6_begin 15 = .ok (.aload_n 0, 1) := by decide +kernel
theorem dX6_begin_16 : decode cX6_begin 16 = .ok (.iconst 1, 1) := by decide +kernel
theorem dX6_begin_17 : decode cX6_begin 17 = .ok (.putfield 50, 3) := by decide +kernel
theorem dX6_begin_20 : decode cX6_begin 20 = .ok (.aload_n 0, 1) := by decide +kernel
theorem dX6_begin_21 : decode cX6_begin 21 = .ok (.getfield 11, 3) := by decide +kernel
theorem dX6_begin_24 : decode cX6_begin 24 = .ok (.iconst 0, 1) := by decide +kernel
theorem dX6_begin_25 : decode cX6_begin 25 = .ok (.aaload, 1) := by decide +kernel
theorem dX6_begin_26 : decode cX6_begin 26 = .ok (.iconst 0, 1) := by decide +kernel
theorem dX6_begin_27 : decode cX6_begin 27 = .ok (.putfield 53, 3) := by decide +kernel
theorem dX6_begin_30 : decode cX6_begin 30 = .ok (.iconst 0, 1) := by decide +kernel
theorem dX6_begin_31 : decode cX6_begin 31 = .ok (.istore 4, 2) := by decide +kernel
theorem dX6_begin_33 : decode cX6_begin 33 = .ok (.iload 4, 2) := by decide +kernel
theorem dX6_begin_35 : decode cX6_begin 35 = .ok (.bipush 6, 2) := by decide +kernel
theorem dX6_begin_37 : decode cX6_begin 37 = .ok (.if_icmp .ge 19, 3) := by decide +kernel
theorem dX6_begin_40 : decode cX6_begin 40 = .ok (.aload_n 0, 1) := by decide +kernel
theorem dX6_begin_41 : decode cX6_begin 41 = .ok (.getfield 19, 3) := by decide +kernel
theorem dX6_begin_44 : decode cX6_begin 44 = .ok (.iload 4, 2) := by decide +kernel
theorem dX6_begin_46 : decode cX6_begin 46 = .ok (.aaload, 1) := by decide +kernel
theorem dX6_begin_47 : decode cX6_begin 47 = .ok (.invokevirtual 56, 3) := by decide +kernel
theorem dX6_begin_50 : decode cX6_begin 50 = .ok (.iinc 4 1, 3) := by decide +kernel
theorem dX6_begin_53 : decode cX6_begin 53 = .ok (.goto (-20), 3) := by decide +kernel
theorem dX6_begin_56 : decode cX6_begin 56 = .ok (.aload_n 0, 1) := by decide +kernel
theorem dX6_begin_57 : decode cX6_begin 57 = .ok (.getfield 28, 3) := by decide +kernel
theorem dX6_begin_60 : decode cX6_begin 60 = .ok (.iconst 0, 1) := by decide +kernel
theorem dX6_begin_61 : decode cX6_begin 61 = .ok (.putfield 59, 3) := by decide +kernel
theorem dX6_begin_64 : decode cX6_begin 64 = .ok (.aload_n 0, 1) := by decide +kernel
theorem dX6_begin_65 : decode cX6_begin 65 = .ok (.getfield 32, 3) := by decide +kernel
theorem dX6_begin_68 : decode cX6_begin 68 = .ok (.iconst 0, 1) := by decide +kernel
theorem dX6_begin_69 : decode cX6_begin 69 = .ok (.putfield 59, 3) := by decide +kernel
theorem dX6_begin_72 : decode cX6_begin 72 = .ok (.aload_n 0, 1) := by decide +kernel
theorem dX6_begin_73 : decode cX6_begin 73 = .ok (.iconst 1, 1) := by decide +kernel
theorem dX6_begin_74 : decode cX6_begin 74 = .ok (.putfield 39, 3) := by decide +kernel
theorem dX6_begin_77 : decode cX6_begin 77 = .ok (.return_, 1) := by decide +kernel
theorem dX6_hasClient_0 : decode cX6_hasClient 0 = .ok (.iload_n 1, 1) := by decide +kernel
theorem dX6_hasClient_1 : decode cX6_hasClient 1 = .ok (.ifCond .lt 15, 3) := by decide +kernel
theorem dX6_hasClient_4 : decode cX6_hasClient 4 = .ok (.iload_n 1, 1) := by decide +kernel
theorem dX6_hasClient_5 : decode cX6_hasClient 5 = .ok (.aload_n 0, 1) := by decide +kernel
theorem dX6_hasClient_6 : decode cX6_hasClient 6 = .ok (.getfield 44, 3) := by decide +kernel
theorem dX6_hasClient_9 : decode cX6_hasClient 9 = .ok (.if_icmp .ge 7, 3) := by decide +kernel
theorem dX6_hasClient_12 : decode cX6_hasClient 12 = .ok (.iconst 1, 1) := by decide +kernel
theorem dX6_hasClient_13 : decode cX6_hasClient 13 = .ok (.goto 4, 3) := by decide +kernel
theorem dX6_hasClient_16 : decode cX6_hasClient 16 = .ok (.iconst 0, 1) := by decide +kernel
theorem dX6_hasClient_17 : decode cX6_hasClient 17 = .ok (.ireturn, 1) := by decide +kernel
theorem dX6_hasBlock_0 : decode cX6_hasBlock 0 = .ok (.iload_n 1, 1) := by decide +kernel
theorem dX6_hasBlock_1 : decode cX6_hasBlock 1 = .ok (.ifCond .lt 15, 3) := by decide +kernel
theorem dX6_hasBlock_4 : decode cX6_hasBlock 4 = .ok (.iload_n 1, 1) := by decide +kernel
theorem dX6_hasBlock_5 : decode cX6_hasBlock 5 = .ok (.aload_n 0, 1) := by decide +kernel
theorem dX6_hasBlock_6 : decode cX6_hasBlock 6 = .ok (.getfield 47, 3) := by decide +kernel
theorem dX6_hasBlock_9 : decode cX6_hasBlock 9 = .ok (.if_icmp .ge 7, 3) := by decide +kernel
theorem dX6_hasBlock_12 : decode cX6_hasBlock 12 = .ok (.iconst 1, 1) := by decide +kernel
theorem dX6_hasBlock_13 : decode cX6_hasBlock 13 = .ok (.goto 4, 3) := by decide +kernel
theorem dX6_hasBlock_16 : decode cX6_hasBlock 16 = .ok (.iconst 0, 1) := by decide +kernel
theorem dX6_hasBlock_17 : decode cX6_hasBlock 17 = .ok (.ireturn, 1) := by decide +kernel
theorem dX6_hasBranch_0 : decode cX6_hasBranch 0 = .ok (.iload_n 1, 1) := by decide +kernel
theorem dX6_hasBranch_1 : decode cX6_hasBranch 1 = .ok (.ifCond .lt 15, 3) := by decide +kernel
theorem dX6_hasBranch_4 : decode cX6_hasBranch 4 = .ok (.iload_n 1, 1) := by decide +kernel
theorem dX6_hasBranch_5 : decode cX6_hasBranch 5 = .ok (.aload_n 0, 1) := by decide +kernel
theorem dX6_hasBranch_6 : decode cX6_hasBranch 6 = .ok (.getfield 50, 3) := by decide +kernel
theorem dX6_hasBranch_9 : decode cX6_hasBranch 9 = .ok (.if_icmp .ge 7, 3) := by decide +kernel
theorem dX6_hasBranch_12 : decode cX6_hasBranch 12 = .ok (.iconst 1, 1) := by decide +kernel
theorem dX6_hasBranch_13 : decode cX6_hasBranch 13 = .ok (.goto 4, 3) := by decide +kernel
theorem dX6_hasBranch_16 : decode cX6_hasBranch 16 = .ok (.iconst 0, 1) := by decide +kernel
theorem dX6_hasBranch_17 : decode cX6_hasBranch 17 = .ok (.ireturn, 1) := by decide +kernel
theorem dX6_doWrite_0 : decode cX6_doWrite 0 = .ok (.aload_n 0, 1) := by decide +kernel
theorem dX6_doWrite_1 : decode cX6_doWrite 1 = .ok (.iload_n 1, 1) := by decide +kernel
theorem dX6_doWrite_2 : decode cX6_doWrite 2 = .ok (.invokevirtual 62, 3) := by decide +kernel
theorem dX6_doWrite_5 : decode cX6_doWrite 5 = .ok (.ifCond .eq 11, 3) := by decide +kernel
theorem dX6_doWrite_8 : decode cX6_doWrite 8 = .ok (.aload_n 0, 1) := by decide +kernel
theorem dX6_doWrite_9 : decode cX6_doWrite 9 = .ok (.iload_n 2, 1) := by decide +kernel
theorem dX6_doWrite_10 : decode cX6_doWrite 10 = .ok (.invokevirtual 66, 3) := by decide +kernel
theorem dX6_doWrite_13 : decode cX6_doWrite 13 = .ok (.ifCond .ne 5, 3) := by decide +kernel
theorem dX6_doWrite_16 : decode cX6_doWrite 16 = .ok (.iconst (-1), 1) := by decide +kernel
theorem dX6_doWrite_17 : decode cX6_doWrite 17 = .ok (.ireturn, 1) := by decide +kernel
theorem dX6_doWrite_18 : decode cX6_doWrite 18 = .ok (.iload_n 3, 1) := by decide +kernel
theorem dX6_doWrite_19 : decode cX6_doWrite 19 = .ok (.ifCond .lt 9, 3) := by decide +kernel
theorem dX6_doWrite_22 : decode cX6_doWrite 22 = .ok (.iload_n 3, 1) := by decide +kernel
theorem dX6_doWrite_23 : decode cX6_doWrite 23 = .ok (.ldc 69, 2) := by decide +kernel
theorem dX6_doWrite_25 : decode cX6_doWrite 25 = .ok (.if_icmp .le 6, 3) := by decide +kernel
theorem dX6_doWrite_28 : decode cX6_doWrite 28 = .ok (.bipush (-2), 2) := by decide +kernel
theorem dX6_doWrite_30 : decode cX6_doWrite 30 = .ok (.ireturn, 1) := by decide +kernel
theorem dX6_doWrite_31 : decode cX6_doWrite 31 = .ok (.aload_n 0, 1) := by decide +kernel
theorem dX6_doWrite_32 : decode cX6_doWrite 32 = .ok (.iconst 1, 1) := by decide +kernel
theorem dX6_doWrite_33 : decode cX6_doWrite 33 = .ok (.iload_n 1, 1) := by decide +kernel
theorem dX6_doWrite_34 : decode cX6_doWrite 34 = .ok (.iload_n 2, 1) := by decide +kernel
theorem dX6_doWrite_35 : decode cX6_doWrite 35 = .ok (.iload_n 3, 1) := by decide +kernel
theorem dX6_doWrite_36 : decode cX6_doWrite 36 = .ok (.invokevirtual 70, 3) := by decide +kernel
theorem dX6_doWrite_39 : decode cX6_doWrite 39 = .ok (.ifCond .eq 15, 3) := by decide +kernel
theorem dX6_doWrite_42 : decode cX6_doWrite 42 = .ok (.aload_n 0, 1) := by decide +kernel
theorem dX6_doWrite_43 : decode cX6_doWrite 43 = .ok (.getfield 19, 3) := by decide +kernel
theorem dX6_doWrite_46 : decode cX6_doWrite 46 = .ok (.iload_n 1, 1) := by decide +kernel
theorem dX6_doWrite_47 : decode cX6_doWrite 47 = .ok (.aaload, 1) := by decide +kernel
theorem dX6_doWrite_48 : decode cX6_doWrite 48 = .ok (.getfield 74, 3) := by decide +kernel
theorem dX6_doWrite_51 : decode cX6_doWrite 51 = .ok (.goto 5, 3) := by decide +kernel
theorem dX6_doWrite_54 : decode cX6_doWrite 54 = .ok (.bipush (-3), 2) := by decide +kernel
theorem dX6_doWrite_56 : decode cX6_doWrite 56 = .ok (.ireturn, 1) := by decide +kernel
theorem dX6_doRead_0 : decode cX6_doRead 0 = .ok (.aload_n 0, 1) := by decide +kernel
theorem dX6_doRead_1 : decode cX6_doRead 1 = .ok (.iload_n 1, 1) := by decide +kernel
theorem dX6_doRead_2 : decode cX6_doRead 2 = .ok (.invokevirtual 62, 3) := by decide +kernel
theorem dX6_doRead_5 : decode cX6_doRead 5 = .ok (.ifCond .eq 11, 3) := by decide +kernel
theorem dX6_doRead_8 : decode cX6_doRead 8 = .ok (.aload_n 0, 1) := by decide +kernel
theorem dX6_doRead_9 : decode cX6_doRead 9 = .ok (.iload_n 2, 1) := by decide +kernel
theorem dX6_doRead_10 : decode cX6_doRead 10 = .ok (.invokevirtual 66, 3) := by decide +kernel
theorem dX6_doRead_13 : decode cX6_doRead 13 = .ok (.ifCond .ne 5, 3) := by decide +kernel
theorem dX6_doRead_16 : decode cX6_doRead 16 = .ok (.iconst (-1), 1) := by decide +kernel
theorem dX6_doRead_17 : decode cX6_doRead 17 = .ok (.ireturn, 1) := by decide +kernel
theorem dX6_doRead_18 : decode cX6_doRead 18 = .ok (.aload_n 0, 1) := by decide +kernel
theorem dX6_doRead_19 : decode cX6_doRead 19 = .ok (.iconst 0, 1) := by decide +kernel
theorem dX6_doRead_20 : decode cX6_doRead 20 = .ok (.iload_n 1, 1) := by decide +kernel
theorem dX6_doRead_21 : decode cX6_doRead 21 = .ok (.iload_n 2, 1) := by decide +kernel
theorem dX6_doRead_22 : decode cX6_doRead 22 = .ok (.iconst 0, 1) := by decide +kernel
theorem dX6_doRead_23 : decode cX6_doRead 23 = .ok (.invokevirtual 70, 3) := by decide +kernel
theorem dX6_doRead_26 : decode cX6_doRead 26 = .ok (.ifCond .eq 24, 3) := by decide +kernel
theorem dX6_doRead_29 : decode cX6_doRead 29 = .ok (.aload_n 0, 1) := by decide +kernel
theorem dX6_doRead_30 : decode cX6_doRead 30 = .ok (.getfield 11, 3) := by decide +kernel
theorem dX6_doRead_33 : decode cX6_doRead 33 = .ok (.aload_n 0, 1) := by decide +kernel
theorem dX6_doRead_34 : decode cX6_doRead 34 = .ok (.getfield 19, 3) := by decide +kernel
theorem dX6_doRead_37 : decode cX6_doRead 37 = .ok (.iload_n 1, 1) := by decide +kernel
theorem dX6_doRead_38 : decode cX6_doRead 38 = .ok (.aaload, 1) := by decide +kernel
theorem dX6_doRead_39 : decode cX6_doRead 39 = .ok (.getfield 77, 3) := by decide +kernel
theorem dX6_doRead_42 : decode cX6_doRead 42 = .ok (.aaload, 1) := by decide +kernel
theorem dX6_doRead_43 : decode cX6_doRead 43 = .ok (.iload_n 2, 1) := by decide +kernel
theorem dX6_doRead_44 : decode cX6_doRead 44 = .ok (.invokevirtual 80, 3) := by decide +kernel
theorem dX6_doRead_47 : decode cX6_doRead 47 = .ok (.goto 5, 3) := by decide +kernel
theorem dX6_doRead_50 : decode cX6_doRead 50 = .ok (.bipush (-3), 2) := by decide +kernel
theorem dX6_doRead_52 : decode cX6_doRead 52 = .ok (.ireturn, 1) := by decide +kernel
theorem dX6_operate_0 : decode cX6_operate 0 = .ok (.aload_n 0, 1) := by decide +kernel
theorem dX6_operate_1 : decode cX6_operate 1 = .ok (.getfield 19, 3) := by decide +kernel
theorem dX6_operate_4 : decode cX6_operate 4 = .ok (.iload_n 2, 1) := by decide +kernel
theorem dX6_operate_5 : decode cX6_operate 5 = .ok (.aaload, 1) := by decide +kernel
theorem dX6_operate_6 : decode cX6_operate 6 = .ok (.astore 5, 2) := by decide +kernel
theorem dX6_operate_8 : decode cX6_operate 8 = .ok (.aload 5, 2) := by decide +kernel
theorem dX6_operate_10 : decode cX6_operate 10 = .ok (.getfield 84, 3) := by decide +kernel
theorem dX6_operate_13 : decode cX6_operate 13 = .ok (.ifCond .eq 5, 3) := by decide +kernel
theorem dX6_operate_16 : decode cX6_operate 16 = .ok (.iconst 0, 1) := by decide +kernel
theorem dX6_operate_17 : decode cX6_operate 17 = .ok (.ireturn, 1) := by decide +kernel
theorem dX6_operate_18 : decode cX6_operate 18 = .ok (.aload_n 0, 1) := by decide +kernel
theorem dX6_operate_19 : decode cX6_operate 19 = .ok (.iload_n 2, 1) := by decide +kernel
theorem dX6_operate_20 : decode cX6_operate 20 = .ok (.invokevirtual 88, 3) := by decide +kernel
theorem dX6_operate_23 : decode cX6_operate 23 = .ok (.istore 6, 2) := by decide +kernel
theorem dX6_operate_25 : decode cX6_operate 25 = .ok (.iload 6, 2) := by decide +kernel
theorem dX6_operate_27 : decode cX6_operate 27 = .ok (.ifCond .eq 18, 3) := by decide +kernel
theorem dX6_operate_30 : decode cX6_operate 30 = .ok (.aload_n 0, 1) := by decide +kernel
theorem dX6_operate_31 : decode cX6_operate 31 = .ok (.iload_n 2, 1) := by decide +kernel
theorem dX6_operate_32 : decode cX6_operate 32 = .ok (.iload 6, 2) := by decide +kernel
theorem dX6_operate_34 : decode cX6_operate 34 = .ok (.invokevirtual 91, 3) := by decide +kernel
theorem dX6_operate_37 : decode cX6_operate 37 = .ok (.aload 5, 2) := by decide +kernel
theorem dX6_operate_39 : decode cX6_operate 39 = .ok (.iconst 1, 1) := by decide +kernel
theorem dX6_operate_40 : decode cX6_operate 40 = .ok (.putfield 84, 3) := by decide +kernel
theorem dX6_operate_43 : decode cX6_operate 43 = .ok (.iconst 0, 1) := by decide +kernel
theorem dX6_operate_44 : decode cX6_operate 44 = .ok (.ireturn, 1) := by decide +kernel
theorem dX6_operate_45 : decode cX6_operate 45 = .ok (.aload_n 0, 1) := by decide +kernel
theorem dX6_operate_46 : decode cX6_operate 46 = .ok (.getfield 11, 3) := by decide +kernel
theorem dX6_operate_49 : decode cX6_operate 49 = .ok (.aload 5, 2) := by decide +kernel
theorem dX6_operate_51 : decode cX6_operate 51 = .ok (.getfield 77, 3) := by decide +kernel
theorem dX6_operate_54 : decode cX6_operate 54 = .ok (.aaload, 1) := by decide +kernel
theorem dX6_operate_55 : decode cX6_operate 55 = .ok (.astore 7, 2) := by decide +kernel
theorem dX6_operate_57 : decode cX6_operate 57 = .ok (.aload 7, 2) := by decide +kernel
theorem dX6_operate_59 : decode cX6_operate 59 = .ok (.invokevirtual 94, 3) := by decide +kernel
theorem dX6_operate_62 : decode cX6_operate 62 = .ok (.ifCond .eq 5, 3) := by decide +kernel
theorem dX6_operate_65 : decode cX6_operate 65 = .ok (.iconst 0, 1) := by decide +kernel
theorem dX6_operate_66 : decode cX6_operate 66 = .ok (.ireturn, 1) := by decide +kernel
theorem dX6_operate_67 : decode cX6_operate 67 = .ok (.aload 7, 2) := by decide +kernel
theorem dX6_operate_69 : decode cX6_operate 69 = .ok (.iload_n 1, 1) := by decide +kernel
theorem dX6_operate_70 : decode cX6_operate 70 = .ok (.iload_n 2, 1) := by decide +kernel
theorem dX6_operate_71 : decode cX6_operate 71 = .ok (.iload_n 3, 1) := by decide +kernel
theorem dX6_operate_72 : decode cX6_operate 72 = .ok (.iload 4, 2) := by decide +kernel
theorem dX6_operate_74 : decode cX6_operate 74 = .ok (.iconst 0, 1) := by decide +kernel
theorem dX6_operate_75 : decode cX6_operate 75 = .ok (.invokevirtual 98, 3) := by decide +kernel
theorem dX6_operate_78 : decode cX6_operate 78 = .ok (.aload 5, 2) := by decide +kernel
theorem dX6_operate_80 : decode cX6_operate 80 = .ok (.aload 7, 2) := by decide +kernel
theorem dX6_operate_82 : decode cX6_operate 82 = .ok (.invokevirtual 102, 3) := by decide +kernel
theorem dX6_operate_85 : decode cX6_operate 85 = .ok (.aload 5, 2) := by decide +kernel
theorem dX6_operate_87 : decode cX6_operate 87 = .ok (.dup, 1) := by decide +kernel
theorem dX6_operate_88 : decode cX6_operate 88 = .ok (.getfield 106, 3) := by decide +kernel
theorem dX6_operate_91 : decode cX6_operate 91 = .ok (.iconst 1, 1) := by decide +kernel
theorem dX6_operate_92 : decode cX6_operate 92 = .ok (.iadd, 1) := by decide +kernel
theorem dX6_operate_93 : decode cX6_operate 93 = .ok (.putfield 106, 3) := by decide +kernel
theorem dX6_operate_96 : decode cX6_operate 96 = .ok (.aload_n 0, 1) := by decide +kernel
theorem dX6_operate_97 : decode cX6_operate 97 = .ok (.getfield 35, 3) := by decide +kernel
theorem dX6_operate_100 : decode cX6_operate 100 = .ok (.ifCond .le 21, 3) := by decide +kernel
theorem dX6_operate_103 : decode cX6_operate 103 = .ok (.aload 5, 2) := by decide +kernel
theorem dX6_operate_105 : decode cX6_operate 105 = .ok (.getfield 106, 3) := by decide +kernel
theorem dX6_operate_108 : decode cX6_operate 108 = .ok (.aload_n 0, 1) := by decide +kernel
theorem dX6_operate_109 : decode cX6_operate 109 = .ok (.getfield 35, 3) := by decide +kernel
theorem dX6_operate_112 : decode cX6_operate 112 = .ok (.irem, 1) := by decide +kernel
theorem dX6_operate_113 : decode cX6_operate 113 = .ok (.ifCond .ne 8, 3) := by decide +kernel
theorem dX6_operate_116 : decode cX6_operate 116 = .ok (.aload_n 0, 1) := by decide +kernel
theorem dX6_operate_117 : decode cX6_operate 117 = .ok (.iload_n 2, 1) := by decide +kernel
theorem dX6_operate_118 : decode cX6_operate 118 = .ok (.invokevirtual 109, 3) := by decide +kernel
theorem dX6_operate_121 : decode cX6_operate 121 = .ok (.iconst 1, 1) := by decide +kernel
theorem dX6_operate_122 : decode cX6_operate 122 = .ok (.ireturn, 1) := by decide +kernel
theorem dX6_caseFor_0 : decode cX6_caseFor 0 = .ok (.aload_n 0, 1) := by decide +kernel
theorem dX6_caseFor_1 : decode cX6_caseFor 1 = .ok (.getfield 19, 3) := by decide +kernel
theorem dX6_caseFor_4 : decode cX6_caseFor 4 = .ok (.iload_n 1, 1) := by decide +kernel
theorem dX6_caseFor_5 : decode cX6_caseFor 5 = .ok (.aaload, 1) := by decide +kernel
theorem dX6_caseFor_6 : decode cX6_caseFor 6 = .ok (.astore_n 2, 1) := by decide +kernel
theorem dX6_caseFor_7 : decode cX6_caseFor 7 = .ok (.aload_n 0, 1) := by decide +kernel
theorem dX6_caseFor_8 : decode cX6_caseFor 8 = .ok (.getfield 11, 3) := by decide +kernel
theorem dX6_caseFor_11 : decode cX6_caseFor 11 = .ok (.aload_n 2, 1) := by decide +kernel
theorem dX6_caseFor_12 : decode cX6_caseFor 12 = .ok (.getfield 77, 3) := by decide +kernel
theorem dX6_caseFor_15 : decode cX6_caseFor 15 = .ok (.aaload, 1) := by decide +kernel
theorem dX6_caseFor_16 : decode cX6_caseFor 16 = .ok (.astore_n 3, 1) := by decide +kernel
theorem dX6_caseFor_17 : decode cX6_caseFor 17 = .ok (.aload_n 3, 1) := by decide +kernel
theorem dX6_caseFor_18 : decode cX6_caseFor 18 = .ok (.getfield 53, 3) := by decide +kernel
theorem dX6_caseFor_21 : decode cX6_caseFor 21 = .ok (.aload_n 2, 1) := by decide +kernel
theorem dX6_caseFor_22 : decode cX6_caseFor 22 = .ok (.getfield 74, 3) := by decide +kernel
theorem dX6_caseFor_25 : decode cX6_caseFor 25 = .ok (.if_icmp .ge 5, 3) := by decide +kernel
theorem dX6_caseFor_28 : decode cX6_caseFor 28 = .ok (.iconst 1, 1) := by decide +kernel
theorem dX6_caseFor_29 : decode cX6_caseFor 29 = .ok (.ireturn, 1) := by decide +kernel
theorem dX6_caseFor_30 : decode cX6_caseFor 30 = .ok (.aload_n 2, 1) := by decide +kernel
theorem dX6_caseFor_31 : decode cX6_caseFor 31 = .ok (.aload_n 3, 1) := by decide +kernel
theorem dX6_caseFor_32 : decode cX6_caseFor 32 = .ok (.invokevirtual 113, 3) := by decide +kernel
theorem dX6_caseFor_35 : decode cX6_caseFor 35 = .ok (.ifCond .ne 5, 3) := by decide +kernel
theorem dX6_caseFor_38 : decode cX6_caseFor 38 = .ok (.iconst 2, 1) := by decide +kernel
theorem dX6_caseFor_39 : decode cX6_caseFor 39 = .ok (.ireturn, 1) := by decide +kernel
theorem dX6_caseFor_40 : decode cX6_caseFor 40 = .ok (.aload_n 3, 1) := by decide +kernel
theorem dX6_caseFor_41 : decode cX6_caseFor 41 = .ok (.aload_n 2, 1) := by decide +kernel
theorem dX6_caseFor_42 : decode cX6_caseFor 42 = .ok (.getfield 74, 3) := by decide +kernel
theorem dX6_caseFor_45 : decode cX6_caseFor 45 = .ok (.invokevirtual 117, 3) := by decide +kernel
theorem dX6_caseFor_48 : decode cX6_caseFor 48 = .ok (.aload_n 3, 1) := by decide +kernel
theorem dX6_caseFor_49 : decode cX6_caseFor 49 = .ok (.getfield 53, 3) := by decide +kernel
theorem dX6_caseFor_52 : decode cX6_caseFor 52 = .ok (.if_icmp .gt 5, 3) := by decide +kernel
theorem dX6_caseFor_55 : decode cX6_caseFor 55 = .ok (.iconst 3, 1) := by decide +kernel
theorem dX6_caseFor_56 : decode cX6_caseFor 56 = .ok (.ireturn, 1) := by decide +kernel
theorem dX6_caseFor_57 : decode cX6_caseFor 57 = .ok (.aload_n 0, 1) := by decide +kernel
theorem dX6_caseFor_58 : decode cX6_caseFor 58 = .ok (.aload_n 3, 1) := by decide +kernel
theorem dX6_caseFor_59 : decode cX6_caseFor 59 = .ok (.invokevirtual 120, 3) := by decide +kernel
theorem dX6_caseFor_62 : decode cX6_caseFor 62 = .ok (.aload_n 0, 1) := by decide +kernel
theorem dX6_caseFor_63 : decode cX6_caseFor 63 = .ok (.getfield 32, 3) := by decide +kernel
theorem dX6_caseFor_66 : decode cX6_caseFor 66 = .ok (.getfield 59, 3) := by decide +kernel
theorem dX6_caseFor_69 : decode cX6_caseFor 69 = .ok (.if_icmp .ge 7, 3) := by decide +kernel
theorem dX6_caseFor_72 : decode cX6_caseFor 72 = .ok (.iconst 4, 1) := by decide +kernel
theorem dX6_caseFor_73 : decode cX6_caseFor 73 = .ok (.goto 4, 3) := by decide +kernel
theorem dX6_caseFor_76 : decode cX6_caseFor 76 = .ok (.iconst 0, 1) := by decide +kernel
theorem dX6_caseFor_77 : decode cX6_caseFor 77 = .ok (.ireturn, 1) := by decide +kernel
theorem dX6_firstRefutedBy_0 : decode cX6_firstRefutedBy 0 = .ok (.iconst 0, 1) := by decide +kernel
theorem dX6_firstRefutedBy_1 : decode cX6_firstRefutedBy 1 = .ok (.istore_n 2, 1) := by decide +kernel
theorem dX6_firstRefutedBy_2 : decode cX6_firstRefutedBy 2 = .ok (.iload_n 2, 1) := by decide +kernel
theorem dX6_firstRefutedBy_3 : decode cX6_firstRefutedBy 3 = .ok (.aload_n 0, 1) := by decide +kernel
theorem dX6_firstRefutedBy_4 : decode cX6_firstRefutedBy 4 = .ok (.getfield 32, 3) := by decide +kernel
theorem dX6_firstRefutedBy_7 : decode cX6_firstRefutedBy 7 = .ok (.getfield 59, 3) := by decide +kernel
theorem dX6_firstRefutedBy_10 : decode cX6_firstRefutedBy 10 = .ok (.if_icmp .ge 47, 3) := by decide +kernel
theorem dX6_firstRefutedBy_13 : decode cX6_firstRefutedBy 13 = .ok (.aload_n 0, 1) := by decide +kernel
theorem dX6_firstRefutedBy_14 : decode cX6_firstRefutedBy 14 = .ok (.getfield 32, 3) := by decide +kernel
theorem dX6_firstRefutedBy_17 : decode cX6_firstRefutedBy 17 = .ok (.iload_n 2, 1) := by decide +kernel
theorem dX6_firstRefutedBy_18 : decode cX6_firstRefutedBy 18 = .ok (.iconst 1, 1) := by decide +kernel
theorem dX6_firstRefutedBy_19 : decode cX6_firstRefutedBy 19 = .ok (.invokevirtual 124, 3) := by decide +kernel
theorem dX6_firstRefutedBy_22 : decode cX6_firstRefutedBy 22 = .ok (.istore_n 3, 1) := by decide +kernel
theorem dX6_firstRefutedBy_23 : decode cX6_firstRefutedBy 23 = .ok (.iload_n 3, 1) := by decide +kernel
theorem dX6_firstRefutedBy_24 : decode cX6_firstRefutedBy 24 = .ok (.aload_n 1, 1) := by decide +kernel
theorem dX6_firstRefutedBy_25 : decode cX6_firstRefutedBy 25 = .ok (.getfield 53, 3) := by decide +kernel
theorem dX6_firstRefutedBy_28 : decode cX6_firstRefutedBy 28 = .ok (.if_icmp .gt 23, 3) := by decide +kernel
theorem dX6_firstRefutedBy_31 : decode cX6_firstRefutedBy 31 = .ok (.aload_n 1, 1) := by decide +kernel
theorem dX6_firstRefutedBy_32 : decode cX6_firstRefutedBy 32 = .ok (.getfield 128, 3) := by decide +kernel
theorem dX6_firstRefutedBy_35 : decode cX6_firstRefutedBy 35 = .ok (.iload_n 3, 1) := by decide +kernel
theorem dX6_firstRefutedBy_36 : decode cX6_firstRefutedBy 36 = .ok (.iaload, 1) := by decide +kernel
theorem dX6_firstRefutedBy_37 : decode cX6_firstRefutedBy 37 = .ok (.aload_n 0, 1) := by decide +kernel
theorem dX6_firstRefutedBy_38 : decode cX6_firstRefutedBy 38 = .ok (.getfield 32, 3) := by decide +kernel
theorem dX6_firstRefutedBy_41 : decode cX6_firstRefutedBy 41 = .ok (.iload_n 2, 1) := by decide +kernel
theorem dX6_firstRefutedBy_42 : decode cX6_firstRefutedBy 42 = .ok (.iconst 2, 1) := by decide +kernel
theorem dX6_firstRefutedBy_43 : decode cX6_firstRefutedBy 43 = .ok (.invokevirtual 124, 3) := by decide +kernel
theorem dX6_firstRefutedBy_46 : decode cX6_firstRefutedBy 46 = .ok (.if_icmp .eq 5, 3) := by decide +kernel
theorem dX6_firstRefutedBy_49 : decode cX6_firstRefutedBy 49 = .ok (.iload_n 2, 1) := by decide +kernel
theorem dX6_firstRefutedBy_50 : decode cX6_firstRefutedBy 50 = .ok (.ireturn, 1) := by decide +kernel
theorem dX6_firstRefutedBy_51 : decode cX6_firstRefutedBy 51 = .ok (.iinc 2 1, 3) := by decide +kernel
theorem dX6_firstRefutedBy_54 : decode cX6_firstRefutedBy 54 = .ok (.goto (-52), 3) := by decide +kernel
theorem dX6_firstRefutedBy_57 : decode cX6_firstRefutedBy 57 = .ok (.aload_n 0, 1) := by decide +kernel
theorem dX6_firstRefutedBy_58 : decode cX6_firstRefutedBy 58 = .ok (.getfield 32, 3) := by decide +kernel
theorem dX6_firstRefutedBy_61 : decode cX6_firstRefutedBy 61 = .ok (.getfield 59, 3) := by decide +kernel
theorem dX6_firstRefutedBy_64 : decode cX6_firstRefutedBy 64 = .ok (.ireturn, 1) := by decide +kernel
theorem dX6_blameService_0 : decode cX6_blameService 0 = .ok (.aload_n 0, 1) := by decide +kernel
theorem dX6_blameService_1 : decode cX6_blameService 1 = .ok (.getfield 19, 3) := by decide +kernel
theorem dX6_blameService_4 : decode cX6_blameService 4 = .ok (.iload_n 1, 1) := by decide +kernel
theorem dX6_blameService_5 : decode cX6_blameService 5 = .ok (.aaload, 1) := by decide +kernel
theorem dX6_blameService_6 : decode cX6_blameService 6 = .ok (.astore_n 3, 1) := by decide +kernel
theorem dX6_blameService_7 : decode cX6_blameService 7 = .ok (.aload_n 0, 1) := by decide +kernel
theorem dX6_blameService_8 : decode cX6_blameService 8 = .ok (.getfield 11, 3) := by decide +kernel
theorem dX6_blameService_11 : decode cX6_blameService 11 = .ok (.aload_n 3, 1) := by decide +kernel
theorem dX6_blameService_12 : decode cX6_blameService 12 = .ok (.getfield 77, 3) := by decide +kernel
theorem dX6_blameService_15 : decode cX6_blameService 15 = .ok (.aaload, 1) := by decide +kernel
theorem dX6_blameService_16 : decode cX6_blameService 16 = .ok (.astore 4, 2) := by decide +kernel
theorem dX6_blameService_18 : decode cX6_blameService 18 = .ok (.iload_n 2, 1) := by decide +kernel
theorem dX6_blameService_19 : decode cX6_blameService 19 = .ok (.iconst 1, 1) := by decide +kernel
theorem dX6_blameService_20 : decode cX6_blameService 20 = .ok (.if_icmp .ne 26, 3) := by decide +kernel
theorem dX6_blameService_23 : decode cX6_blameService 23 = .ok (.aload_n 0, 1) := by decide +kernel
theorem dX6_blameService_24 : decode cX6_blameService 24 = .ok (.iconst 1, 1) := by decide +kernel
theorem dX6_blameService_25 : decode cX6_blameService 25 = .ok (.iload_n 1, 1) := by decide +kernel
theorem dX6_blameService_26 : decode cX6_blameService 26 = .ok (.iconst (-1), 1) := by decide +kernel
theorem dX6_blameService_27 : decode cX6_blameService 27 = .ok (.aload_n 3, 1) := by decide +kernel
theorem dX6_blameService_28 : decode cX6_blameService 28 = .ok (.getfield 74, 3) := by decide +kernel
theorem dX6_blameService_31 : decode cX6_blameService 31 = .ok (.aload_n 3, 1) := by decide +kernel
theorem dX6_blameService_32 : decode cX6_blameService 32 = .ok (.invokevirtual 132, 3) := by decide +kernel
theorem dX6_blameService_35 : decode cX6_blameService 35 = .ok (.aload 4, 2) := by decide +kernel
theorem dX6_blameService_37 : decode cX6_blameService 37 = .ok (.invokevirtual 136, 3) := by decide +kernel
theorem dX6_blameService_40 : decode cX6_blameService 40 = .ok (.invokevirtual 137, 3) := by decide +kernel
theorem dX6_blameService_43 : decode cX6_blameService 43 = .ok (.goto 179, 3) := by decide +kernel
theorem dX6_blameService_46 : decode cX6_blameService 46 = .ok (.iload_n 2, 1) := by decide +kernel
theorem dX6_blameService_47 : decode cX6_blameService 47 = .ok (.iconst 2, 1) := by decide +kernel
theorem dX6_blameService_48 : decode cX6_blameService 48 = .ok (.if_icmp .ne 55, 3) := by decide +kernel
theorem dX6_blameService_51 : decode cX6_blameService 51 = .ok (.aload_n 3, 1) := by decide +kernel
theorem dX6_blameService_52 : decode cX6_blameService 52 = .ok (.getfield 141, 3) := by decide +kernel
theorem dX6_blameService_55 : decode cX6_blameService 55 = .ok (.aload 4, 2) := by decide +kernel
theorem dX6_blameService_57 : decode cX6_blameService 57 = .ok (.getfield 128, 3) := by decide +kernel
theorem dX6_blameService_60 : decode cX6_blameService 60 = .ok (.aload_n 3, 1) := by decide +kernel
theorem dX6_blameService_61 : decode cX6_blameService 61 = .ok (.getfield 74, 3) := by decide +kernel
theorem dX6_blameService_64 : decode cX6_blameService 64 = .ok (.invokestatic 142, 3) := by decide +kernel
theorem dX6_blameService_67 : decode cX6_blameService 67 = .ok (.aload_n 3, 1) := by decide +kernel
theorem dX6_blameService_68 : decode cX6_blameService 68 = .ok (.getfield 74, 3) := by decide +kernel
theorem dX6_blameService_71 : decode cX6_blameService 71 = .ok (.invokestatic 146, 3) := by decide +kernel
theorem dX6_blameService_74 : decode cX6_blameService 74 = .ok (.istore 5, 2) := by decide +kernel
theorem dX6_blameService_76 : decode cX6_blameService 76 = .ok (.aload_n 0, 1) := by decide +kernel
theorem dX6_blameService_77 : decode cX6_blameService 77 = .ok (.iconst 2, 1) := by decide +kernel
theorem dX6_blameService_78 : decode cX6_blameService 78 = .ok (.iload_n 1, 1) := by decide +kernel
theorem dX6_blameService_79 : decode cX6_blameService 79 = .ok (.iconst (-1), 1) := by decide +kernel
theorem dX6_blameService_80 : decode cX6_blameService 80 = .ok (.iload 5, 2) := by decide +kernel
theorem dX6_blameService_82 : decode cX6_blameService 82 = .ok (.aload_n 3, 1) := by decide +kernel
theorem dX6_blameService_83 : decode cX6_blameService 83 = .ok (.getfield 141, 3) := by decide +kernel
theorem dX6_blameService_86 : decode cX6_blameService 86 = .ok (.iload 5, 2) := by decide +kernel
theorem dX6_blameService_88 : decode cX6_blameService 88 = .ok (.iaload, 1) := by decide +kernel
theorem dX6_blameService_89 : decode cX6_blameService 89 = .ok (.aload 4, 2) := by decide +kernel
theorem dX6_blameService_91 : decode cX6_blameService 91 = .ok (.getfield 128, 3) := by decide +kernel
theorem dX6_blameService_94 : decode cX6_blameService 94 = .ok (.iload 5, 2) := by decide +kernel
theorem dX6_blameService_96 : decode cX6_blameService 96 = .ok (.iaload, 1) := by decide +kernel
theorem dX6_blameService_97 : decode cX6_blameService 97 = .ok (.invokevirtual 137, 3) := by decide +kernel
theorem dX6_blameService_100 : decode cX6_blameService 100 = .ok (.goto 122, 3) := by decide +kernel
theorem dX6_blameService_103 : decode cX6_blameService 103 = .ok (.iload_n 2, 1) := by decide +kernel
theorem dX6_blameService_104 : decode cX6_blameService 104 = .ok (.iconst 3, 1) := by decide +kernel
theorem dX6_blameService_105 : decode cX6_blameService 105 = .ok (.if_icmp .ne 49, 3) := by decide +kernel
theorem dX6_blameService_108 : decode cX6_blameService 108 = .ok (.aload 4, 2) := by decide +kernel
theorem dX6_blameService_110 : decode cX6_blameService 110 = .ok (.aload_n 3, 1) := by decide +kernel
theorem dX6_blameService_111 : decode cX6_blameService 111 = .ok (.getfield 74, 3) := by decide +kernel
theorem dX6_blameService_114 : decode cX6_blameService 114 = .ok (.invokevirtual 117, 3) := by decide +kernel
theorem dX6_blameService_117 : decode cX6_blameService 117 = .ok (.aload 4, 2) := by decide +kernel
theorem dX6_blameService_119 : decode cX6_blameService 119 = .ok (.getfield 53, 3) := by decide +kernel
theorem dX6_blameService_122 : decode cX6_blameService 122 = .ok (.invokestatic 146, 3) := by decide +kernel
theorem dX6_blameService_125 : decode cX6_blameService 125 = .ok (.istore 5, 2) := by decide +kernel
theorem dX6_blameService_127 : decode cX6_blameService 127 = .ok (.aload_n 0, 1) := by decide +kernel
theorem dX6_blameService_128 : decode cX6_blameService 128 = .ok (.iconst 3, 1) := by decide +kernel
theorem dX6_blameService_129 : decode cX6_blameService 129 = .ok (.iload_n 1, 1) := by decide +kernel
theorem dX6_blameService_130 : decode cX6_blameService 130 = .ok (.iconst (-1), 1) := by decide +kernel
theorem dX6_blameService_131 : decode cX6_blameService 131 = .ok (.iload 5, 2) := by decide +kernel
theorem dX6_blameService_133 : decode cX6_blameService 133 = .ok (.aload 4, 2) := by decide +kernel
theorem dX6_blameService_135 : decode cX6_blameService 135 = .ok (.iload 5, 2) := by decide +kernel
theorem dX6_blameService_137 : decode cX6_blameService 137 = .ok (.invokevirtual 151, 3) := by decide +kernel
theorem dX6_blameService_140 : decode cX6_blameService 140 = .ok (.aload 4, 2) := by decide +kernel
theorem dX6_blameService_142 : decode cX6_blameService 142 = .ok (.getfield 128, 3) := by decide +kernel
theorem dX6_blameService_145 : decode cX6_blameService 145 = .ok (.iload 5, 2) := by decide +kernel
theorem dX6_blameService_147 : decode cX6_blameService 147 = .ok (.iaload, 1) := by decide +kernel
theorem dX6_blameService_148 : decode cX6_blameService 148 = .ok (.invokevirtual 137, 3) := by decide +kernel
theorem dX6_blameService_151 : decode cX6_blameService 151 = .ok (.goto 71, 3) := by decide +kernel
theorem dX6_blameService_154 : decode cX6_blameService 154 = .ok (.aload_n 0, 1) := by decide +kernel
theorem dX6_blameService_155 : decode cX6_blameService 155 = .ok (.aload 4, 2) := by decide +kernel
theorem dX6_blameService_157 : decode cX6_blameService 157 = .ok (.invokevirtual 120, 3) := by decide +kernel
theorem dX6_blameService_160 : decode cX6_blameService 160 = .ok (.istore 5, 2) := by decide +kernel
theorem dX6_blameService_162 : decode cX6_blameService 162 = .ok (.aload_n 0, 1) := by decide +kernel
theorem dX6_blameService_163 : decode cX6_blameService 163 = .ok (.getfield 32, 3) := by decide +kernel
theorem dX6_blameService_166 : decode cX6_blameService 166 = .ok (.iload 5, 2) := by decide +kernel
theorem dX6_blameService_168 : decode cX6_blameService 168 = .ok (.iconst 1, 1) := by decide +kernel
theorem dX6_blameService_169 : decode cX6_blameService 169 = .ok (.invokevirtual 124, 3) := by decide +kernel
theorem dX6_blameService_172 : decode cX6_blameService 172 = .ok (.aload 4, 2) := by decide +kernel
theorem dX6_blameService_174 : decode cX6_blameService 174 = .ok (.getfield 53, 3) := by decide +kernel
theorem dX6_blameService_177 : decode cX6_blameService 177 = .ok (.invokestatic 146, 3) := by decide +kernel
theorem dX6_blameService_180 : decode cX6_blameService 180 = .ok (.istore 6, 2) := by decide +kernel
theorem dX6_blameService_182 : decode cX6_blameService 182 = .ok (.aload_n 0, 1) := by decide +kernel
theorem dX6_blameService_183 : decode cX6_blameService 183 = .ok (.getfield 32, 3) := by decide +kernel
theorem dX6_blameService_186 : decode cX6_blameService 186 = .ok (.iload 5, 2) := by decide +kernel
theorem dX6_blameService_188 : decode cX6_blameService 188 = .ok (.iconst 0, 1) := by decide +kernel
theorem dX6_blameService_189 : decode cX6_blameService 189 = .ok (.invokevirtual 124, 3) := by decide +kernel
theorem dX6_blameService_192 : decode cX6_blameService 192 = .ok (.istore 7, 2) := by decide +kernel
theorem dX6_blameService_194 : decode cX6_blameService 194 = .ok (.aload_n 0, 1) := by decide +kernel
theorem dX6_blameService_195 : decode cX6_blameService 195 = .ok (.iconst 2, 1) := by decide +kernel
theorem dX6_blameService_196 : decode cX6_blameService 196 = .ok (.iload_n 1, 1) := by decide +kernel
theorem dX6_blameService_197 : decode cX6_blameService 197 = .ok (.iload 7, 2) := by decide +kernel
theorem dX6_blameService_199 : decode cX6_blameService 199 = .ok (.iload 6, 2) := by decide +kernel
theorem dX6_blameService_201 : decode cX6_blameService 201 = .ok (.aload 4, 2) := by decide +kernel
theorem dX6_blameService_203 : decode cX6_blameService 203 = .ok (.getfield 128, 3) := by decide +kernel
theorem dX6_blameService_206 : decode cX6_blameService 206 = .ok (.iload 6, 2) := by decide +kernel
theorem dX6_blameService_208 : decode cX6_blameService 208 = .ok (.iaload, 1) := by decide +kernel
theorem dX6_blameService_209 : decode cX6_blameService 209 = .ok (.aload_n 0, 1) := by decide +kernel
theorem dX6_blameService_210 : decode cX6_blameService 210 = .ok (.getfield 32, 3) := by decide +kernel
theorem dX6_blameService_213 : decode cX6_blameService 213 = .ok (.iload 5, 2) := by decide +kernel
theorem dX6_blameService_215 : decode cX6_blameService 215 = .ok (.iconst 2, 1) := by decide +kernel
theorem dX6_blameService_216 : decode cX6_blameService 216 = .ok (.invokevirtual 124, 3) := by decide +kernel
theorem dX6_blameService_219 : decode cX6_blameService 219 = .ok (.invokevirtual 137, 3) := by decide +kernel
theorem dX6_blameService_222 : decode cX6_blameService 222 = .ok (.return_, 1) := by decide +kernel
theorem dX6_addBlame_0 : decode cX6_addBlame 0 = .ok (.aload_n 0, 1) := by decide +kernel
theorem dX6_addBlame_1 : decode cX6_addBlame 1 = .ok (.getfield 28, 3) := by decide +kernel
theorem dX6_addBlame_4 : decode cX6_addBlame 4 = .ok (.invokevirtual 154, 3) := by decide +kernel
theorem dX6_addBlame_7 : decode cX6_addBlame 7 = .ok (.istore 7, 2) := by decide +kernel
theorem dX6_addBlame_9 : decode cX6_addBlame 9 = .ok (.aload_n 0, 1) := by decide +kernel
theorem dX6_addBlame_10 : decode cX6_addBlame 10 = .ok (.getfield 28, 3) := by decide +kernel
theorem dX6_addBlame_13 : decode cX6_addBlame 13 = .ok (.iload 7, 2) := by decide +kernel
theorem dX6_addBlame_15 : decode cX6_addBlame 15 = .ok (.iconst 0, 1) := by decide +kernel
theorem dX6_addBlame_16 : decode cX6_addBlame 16 = .ok (.iload_n 1, 1) := by decide +kernel
theorem dX6_addBlame_17 : decode cX6_addBlame 17 = .ok (.invokevirtual 157, 3) := by decide +kernel
theorem dX6_addBlame_20 : decode cX6_addBlame 20 = .ok (.aload_n 0, 1) := by decide +kernel
theorem dX6_addBlame_21 : decode cX6_addBlame 21 = .ok (.getfield 28, 3) := by decide +kernel
theorem dX6_addBlame_24 : decode cX6_addBlame 24 = .ok (.iload 7, 2) := by decide +kernel
theorem dX6_addBlame_26 : decode cX6_addBlame 26 = .ok (.iconst 1, 1) := by decide +kernel
theorem dX6_addBlame_27 : decode cX6_addBlame 27 = .ok (.iload_n 2, 1) := by decide +kernel
theorem dX6_addBlame_28 : decode cX6_addBlame 28 = .ok (.invokevirtual 157, 3) := by decide +kernel
theorem dX6_addBlame_31 : decode cX6_addBlame 31 = .ok (.aload_n 0, 1) := by decide +kernel
theorem dX6_addBlame_32 : decode cX6_addBlame 32 = .ok (.getfield 28, 3) := by decide +kernel
theorem dX6_addBlame_35 : decode cX6_addBlame 35 = .ok (.iload 7, 2) := by decide +kernel
theorem dX6_addBlame_37 : decode cX6_addBlame 37 = .ok (.iconst 2, 1) := by decide +kernel
theorem dX6_addBlame_38 : decode cX6_addBlame 38 = .ok (.iload_n 3, 1) := by decide +kernel
theorem dX6_addBlame_39 : decode cX6_addBlame 39 = .ok (.invokevirtual 157, 3) := by decide +kernel
theorem dX6_addBlame_42 : decode cX6_addBlame 42 = .ok (.aload_n 0, 1) := by decide +kernel
theorem dX6_addBlame_43 : decode cX6_addBlame 43 = .ok (.getfield 28, 3) := by decide +kernel
theorem dX6_addBlame_46 : decode cX6_addBlame 46 = .ok (.iload 7, 2) := by decide +kernel
theorem dX6_addBlame_48 : decode cX6_addBlame 48 = .ok (.iconst 3, 1) := by decide +kernel
theorem dX6_addBlame_49 : decode cX6_addBlame 49 = .ok (.iload 4, 2) := by decide +kernel
theorem dX6_addBlame_51 : decode cX6_addBlame 51 = .ok (.invokevirtual 157, 3) := by decide +kernel
theorem dX6_addBlame_54 : decode cX6_addBlame 54 = .ok (.aload_n 0, 1) := by decide +kernel
theorem dX6_addBlame_55 : decode cX6_addBlame 55 = .ok (.getfield 28, 3) := by decide +kernel
theorem dX6_addBlame_58 : decode cX6_addBlame 58 = .ok (.iload 7, 2) := by decide +kernel
theorem dX6_addBlame_60 : decode cX6_addBlame 60 = .ok (.iconst 4, 1) := by decide +kernel
theorem dX6_addBlame_61 : decode cX6_addBlame 61 = .ok (.iload 5, 2) := by decide +kernel
theorem dX6_addBlame_63 : decode cX6_addBlame 63 = .ok (.invokevirtual 157, 3) := by decide +kernel
theorem dX6_addBlame_66 : decode cX6_addBlame 66 = .ok (.aload_n 0, 1) := by decide +kernel
theorem dX6_addBlame_67 : decode cX6_addBlame 67 = .ok (.getfield 28, 3) := by decide +kernel
theorem dX6_addBlame_70 : decode cX6_addBlame 70 = .ok (.iload 7, 2) := by decide +kernel
theorem dX6_addBlame_72 : decode cX6_addBlame 72 = .ok (.iconst 5, 1) := by decide +kernel
theorem dX6_addBlame_73 : decode cX6_addBlame 73 = .ok (.iload 6, 2) := by decide +kernel
theorem dX6_addBlame_75 : decode cX6_addBlame 75 = .ok (.invokevirtual 157, 3) := by decide +kernel
theorem dX6_addBlame_78 : decode cX6_addBlame 78 = .ok (.return_, 1) := by decide +kernel
theorem dX6_addPost_0 : decode cX6_addPost 0 = .ok (.aload_n 0, 1) := by decide +kernel
theorem dX6_addPost_1 : decode cX6_addPost 1 = .ok (.getfield 19, 3) := by decide +kernel
theorem dX6_addPost_4 : decode cX6_addPost 4 = .ok (.iload_n 1, 1) := by decide +kernel
theorem dX6_addPost_5 : decode cX6_addPost 5 = .ok (.aaload, 1) := by decide +kernel
theorem dX6_addPost_6 : decode cX6_addPost 6 = .ok (.astore_n 2, 1) := by decide +kernel
theorem dX6_addPost_7 : decode cX6_addPost 7 = .ok (.aload_n 2, 1) := by decide +kernel
theorem dX6_addPost_8 : decode cX6_addPost 8 = .ok (.invokevirtual 132, 3) := by decide +kernel
theorem dX6_addPost_11 : decode cX6_addPost 11 = .ok (.istore_n 3, 1) := by decide +kernel
theorem dX6_addPost_12 : decode cX6_addPost 12 = .ok (.aload_n 0, 1) := by decide +kernel
theorem dX6_addPost_13 : decode cX6_addPost 13 = .ok (.getfield 39, 3) := by decide +kernel
theorem dX6_addPost_16 : decode cX6_addPost 16 = .ok (.i2l, 1) := by decide +kernel
theorem dX6_addPost_17 : decode cX6_addPost 17 = .ok (.ldc2_w 161, 3) := by decide +kernel
theorem dX6_addPost_20 : decode cX6_addPost 20 = .ok (.lmul, 1) := by decide +kernel
theorem dX6_addPost_21 : decode cX6_addPost 21 = .ok (.iload_n 3, 1) := by decide +kernel
theorem dX6_addPost_22 : decode cX6_addPost 22 = .ok (.i2l, 1) := by decide +kernel
theorem dX6_addPost_23 : decode cX6_addPost 23 = .ok (.ldc2_w 163, 3) := by decide +kernel
theorem dX6_addPost_26 : decode cX6_addPost 26 = .ok (.lmul, 1) := by decide +kernel
theorem dX6_addPost_27 : decode cX6_addPost 27 = .ok (.ladd, 1) := by decide +kernel
theorem dX6_addPost_28 : decode cX6_addPost 28 = .ok (.aload_n 2, 1) := by decide +kernel
theorem dX6_addPost_29 : decode cX6_addPost 29 = .ok (.getfield 74, 3) := by decide +kernel
theorem dX6_addPost_32 : decode cX6_addPost 32 = .ok (.i2l, 1) := by decide +kernel
theorem dX6_addPost_33 : decode cX6_addPost 33 = .ok (.ldc2_w 165, 3) := by decide +kernel
theorem dX6_addPost_36 : decode cX6_addPost 36 = .ok (.lmul, 1) := by decide +kernel
theorem dX6_addPost_37 : decode cX6_addPost 37 = .ok (.ladd, 1) := by decide +kernel
theorem dX6_addPost_38 : decode cX6_addPost 38 = .ok (.iload_n 1, 1) := by decide +kernel
theorem dX6_addPost_39 : decode cX6_addPost 39 = .ok (.i2l, 1) := by decide +kernel
theorem dX6_addPost_40 : decode cX6_addPost 40 = .ok (.ladd, 1) := by decide +kernel
theorem dX6_addPost_41 : decode cX6_addPost 41 = .ok (.lstore 4, 2) := by decide +kernel
theorem dX6_addPost_43 : decode cX6_addPost 43 = .ok (.aload_n 0, 1) := by decide +kernel
theorem dX6_addPost_44 : decode cX6_addPost 44 = .ok (.lload 4, 2) := by decide +kernel
theorem dX6_addPost_46 : decode cX6_addPost 46 = .ok (.ldc2_w 167, 3) := by decide +kernel
theorem dX6_addPost_49 : decode cX6_addPost 49 = .ok (.lrem, 1) := by decide +kernel
theorem dX6_addPost_50 : decode cX6_addPost 50 = .ok (.l2i, 1) := by decide +kernel
theorem dX6_addPost_51 : decode cX6_addPost 51 = .ok (.putfield 39, 3) := by decide +kernel
theorem dX6_addPost_54 : decode cX6_addPost 54 = .ok (.aload_n 0, 1) := by decide +kernel
theorem dX6_addPost_55 : decode cX6_addPost 55 = .ok (.getfield 32, 3) := by decide +kernel
theorem dX6_addPost_58 : decode cX6_addPost 58 = .ok (.invokevirtual 154, 3) := by decide +kernel
theorem dX6_addPost_61 : decode cX6_addPost 61 = .ok (.istore 6, 2) := by decide +kernel
theorem dX6_addPost_63 : decode cX6_addPost 63 = .ok (.aload_n 0, 1) := by decide +kernel
theorem dX6_addPost_64 : decode cX6_addPost 64 = .ok (.getfield 32, 3) := by decide +kernel
theorem dX6_addPost_67 : decode cX6_addPost 67 = .ok (.iload 6, 2) := by decide +kernel
theorem dX6_addPost_69 : decode cX6_addPost 69 = .ok (.iconst 0, 1) := by decide +kernel
theorem dX6_addPost_70 : decode cX6_addPost 70 = .ok (.iload_n 1, 1) := by decide +kernel
theorem dX6_addPost_71 : decode cX6_addPost 71 = .ok (.invokevirtual 157, 3) := by decide +kernel
theorem dX6_addPost_74 : decode cX6_addPost 74 = .ok (.aload_n 0, 1) := by decide +kernel
theorem dX6_addPost_75 : decode cX6_addPost 75 = .ok (.getfield 32, 3) := by decide +kernel
theorem dX6_addPost_78 : decode cX6_addPost 78 = .ok (.iload 6, 2) := by decide +kernel
theorem dX6_addPost_80 : decode cX6_addPost 80 = .ok (.iconst 1, 1) := by decide +kernel
theorem dX6_addPost_81 : decode cX6_addPost 81 = .ok (.aload_n 2, 1) := by decide +kernel
theorem dX6_addPost_82 : decode cX6_addPost 82 = .ok (.getfield 74, 3) := by decide +kernel
theorem dX6_addPost_85 : decode cX6_addPost 85 = .ok (.invokevirtual 157, 3) := by decide +kernel
theorem dX6_addPost_88 : decode cX6_addPost 88 = .ok (.aload_n 0, 1) := by decide +kernel
theorem dX6_addPost_89 : decode cX6_addPost 89 = .ok (.getfield 32, 3) := by decide +kernel
theorem dX6_addPost_92 : decode cX6_addPost 92 = .ok (.iload 6, 2) := by decide +kernel
theorem dX6_addPost_94 : decode cX6_addPost 94 = .ok (.iconst 2, 1) := by decide +kernel
theorem dX6_addPost_95 : decode cX6_addPost 95 = .ok (.iload_n 3, 1) := by decide +kernel
theorem dX6_addPost_96 : decode cX6_addPost 96 = .ok (.invokevirtual 157, 3) := by decide +kernel
theorem dX6_addPost_99 : decode cX6_addPost 99 = .ok (.aload_n 0, 1) := by decide +kernel
theorem dX6_addPost_100 : decode cX6_addPost 100 = .ok (.getfield 32, 3) := by decide +kernel
theorem dX6_addPost_103 : decode cX6_addPost 103 = .ok (.iload 6, 2) := by decide +kernel
theorem dX6_addPost_105 : decode cX6_addPost 105 = .ok (.iconst 3, 1) := by decide +kernel
theorem dX6_addPost_106 : decode cX6_addPost 106 = .ok (.aload_n 0, 1) := by decide +kernel
theorem dX6_addPost_107 : decode cX6_addPost 107 = .ok (.getfield 39, 3) := by decide +kernel
theorem dX6_addPost_110 : decode cX6_addPost 110 = .ok (.invokevirtual 157, 3) := by decide +kernel
theorem dX6_addPost_113 : decode cX6_addPost 113 = .ok (.return_, 1) := by decide +kernel
theorem dX6_doExchange_0 : decode cX6_doExchange 0 = .ok (.aload_n 0, 1) := by decide +kernel
theorem dX6_doExchange_1 : decode cX6_doExchange 1 = .ok (.iload_n 1, 1) := by decide +kernel
theorem dX6_doExchange_2 : decode cX6_doExchange 2 = .ok (.invokevirtual 62, 3) := by decide +kernel
theorem dX6_doExchange_5 : decode cX6_doExchange 5 = .ok (.ifCond .eq 16, 3) := by decide +kernel
theorem dX6_doExchange_8 : decode cX6_doExchange 8 = .ok (.aload_n 0, 1) := by decide +kernel
theorem dX6_doExchange_9 : decode cX6_doExchange 9 = .ok (.iload_n 2, 1) := by decide +kernel
theorem dX6_doExchange_10 : decode cX6_doExchange 10 = .ok (.invokevirtual 62, 3) := by decide +kernel
theorem dX6_doExchange_13 : decode cX6_doExchange 13 = .ok (.ifCond .eq 8, 3) := by decide +kernel
theorem dX6_doExchange_16 : decode cX6_doExchange 16 = .ok (.iload_n 1, 1) := by decide +kernel
theorem dX6_doExchange_17 : decode cX6_doExchange 17 = .ok (.iload_n 2, 1) := by decide +kernel
theorem dX6_doExchange_18 : decode cX6_doExchange 18 = .ok (.if_icmp .ne 5, 3) := by decide +kernel
theorem dX6_doExchange_21 : decode cX6_doExchange 21 = .ok (.iconst (-1), 1) := by decide +kernel
theorem dX6_doExchange_22 : decode cX6_doExchange 22 = .ok (.ireturn, 1) := by decide +kernel
theorem dX6_doExchange_23 : decode cX6_doExchange 23 = .ok (.aload_n 0, 1) := by decide +kernel
theorem dX6_doExchange_24 : decode cX6_doExchange 24 = .ok (.getfield 19, 3) := by decide +kernel
theorem dX6_doExchange_27 : decode cX6_doExchange 27 = .ok (.iload_n 1, 1) := by decide +kernel
theorem dX6_doExchange_28 : decode cX6_doExchange 28 = .ok (.aaload, 1) := by decide +kernel
theorem dX6_doExchange_29 : decode cX6_doExchange 29 = .ok (.astore_n 3, 1) := by decide +kernel
theorem dX6_doExchange_30 : decode cX6_doExchange 30 = .ok (.aload_n 0, 1) := by decide +kernel
theorem dX6_doExchange_31 : decode cX6_doExchange 31 = .ok (.getfield 19, 3) := by decide +kernel
theorem dX6_doExchange_34 : decode cX6_doExchange 34 = .ok (.iload_n 2, 1) := by decide +kernel
theorem dX6_doExchange_35 : decode cX6_doExchange 35 = .ok (.aaload, 1) := by decide +kernel
theorem dX6_doExchange_36 : decode cX6_doExchange 36 = .ok (.astore 4, 2) := by decide +kernel
theorem dX6_doExchange_38 : decode cX6_doExchange 38 = .ok (.aload_n 3, 1) := by decide +kernel
theorem dX6_doExchange_39 : decode cX6_doExchange 39 = .ok (.aload 4, 2) := by decide +kernel
theorem dX6_doExchange_41 : decode cX6_doExchange 41 = .ok (.invokevirtual 169, 3) := by decide +kernel
theorem dX6_doExchange_44 : decode cX6_doExchange 44 = .ok (.ifCond .eq 55, 3) := by decide +kernel
theorem dX6_doExchange_47 : decode cX6_doExchange 47 = .ok (.aload_n 3, 1) := by decide +kernel
theorem dX6_doExchange_48 : decode cX6_doExchange 48 = .ok (.aload 4, 2) := by decide +kernel
theorem dX6_doExchange_50 : decode cX6_doExchange 50 = .ok (.invokevirtual 173, 3) := by decide +kernel
theorem dX6_doExchange_53 : decode cX6_doExchange 53 = .ok (.aload_n 3, 1) := by decide +kernel
theorem dX6_doExchange_54 : decode cX6_doExchange 54 = .ok (.getfield 74, 3) := by decide +kernel
theorem dX6_doExchange_57 : decode cX6_doExchange 57 = .ok (.invokestatic 146, 3) := by decide +kernel
theorem dX6_doExchange_60 : decode cX6_doExchange 60 = .ok (.istore 5, 2) := by decide +kernel
theorem dX6_doExchange_62 : decode cX6_doExchange 62 = .ok (.aload_n 0, 1) := by decide +kernel
theorem dX6_doExchange_63 : decode cX6_doExchange 63 = .ok (.iconst 2, 1) := by decide +kernel
theorem dX6_doExchange_64 : decode cX6_doExchange 64 = .ok (.iload_n 1, 1) := by decide +kernel
theorem dX6_doExchange_65 : decode cX6_doExchange 65 = .ok (.iload_n 2, 1) := by decide +kernel
theorem dX6_doExchange_66 : decode cX6_doExchange 66 = .ok (.iload 5, 2) := by decide +kernel
theorem dX6_doExchange_68 : decode cX6_doExchange 68 = .ok (.aload_n 3, 1) := by decide +kernel
theorem dX6_doExchange_69 : decode cX6_doExchange 69 = .ok (.getfield 141, 3) := by decide +kernel
theorem dX6_doExchange_72 : decode cX6_doExchange 72 = .ok (.iload 5, 2) := by decide +kernel
theorem dX6_doExchange_74 : decode cX6_doExchange 74 = .ok (.iaload, 1) := by decide +kernel
theorem dX6_doExchange_75 : decode cX6_doExchange 75 = .ok (.aload 4, 2) := by decide +kernel
theorem dX6_doExchange_77 : decode cX6_doExchange 77 = .ok (.getfield 141, 3) := by decide +kernel
theorem dX6_doExchange_80 : decode cX6_doExchange 80 = .ok (.iload 5, 2) := by decide +kernel
theorem dX6_doExchange_82 : decode cX6_doExchange 82 = .ok (.iaload, 1) := by decide +kernel
theorem dX6_doExchange_83 : decode cX6_doExchange 83 = .ok (.invokevirtual 137, 3) := by decide +kernel
theorem dX6_doExchange_86 : decode cX6_doExchange 86 = .ok (.aload_n 3, 1) := by decide +kernel
theorem dX6_doExchange_87 : decode cX6_doExchange 87 = .ok (.iconst 1, 1) := by decide +kernel
theorem dX6_doExchange_88 : decode cX6_doExchange 88 = .ok (.putfield 84, 3) := by decide +kernel
theorem dX6_doExchange_91 : decode cX6_doExchange 91 = .ok (.aload 4, 2) := by decide +kernel
theorem dX6_doExchange_93 : decode cX6_doExchange 93 = .ok (.iconst 1, 1) := by decide +kernel
theorem dX6_doExchange_94 : decode cX6_doExchange 94 = .ok (.putfield 84, 3) := by decide +kernel
theorem dX6_doExchange_97 : decode cX6_doExchange 97 = .ok (.iconst 3, 1) := by decide +kernel
theorem dX6_doExchange_98 : decode cX6_doExchange 98 = .ok (.ireturn, 1) := by decide +kernel
theorem dX6_doExchange_99 : decode cX6_doExchange 99 = .ok (.aload_n 3, 1) := by decide +kernel
theorem dX6_doExchange_100 : decode cX6_doExchange 100 = .ok (.getfield 74, 3) := by decide +kernel
theorem dX6_doExchange_103 : decode cX6_doExchange 103 = .ok (.aload 4, 2) := by decide +kernel
theorem dX6_doExchange_105 : decode cX6_doExchange 105 = .ok (.getfield 74, 3) := by decide +kernel
theorem dX6_doExchange_108 : decode cX6_doExchange 108 = .ok (.if_icmp .ne 5, 3) := by decide +kernel
theorem dX6_doExchange_111 : decode cX6_doExchange 111 = .ok (.iconst 0, 1) := by decide +kernel
theorem dX6_doExchange_112 : decode cX6_doExchange 112 = .ok (.ireturn, 1) := by decide +kernel
theorem dX6_doExchange_113 : decode cX6_doExchange 113 = .ok (.aload_n 3, 1) := by decide +kernel
theorem dX6_doExchange_114 : decode cX6_doExchange 114 = .ok (.getfield 74, 3) := by decide +kernel
theorem dX6_doExchange_117 : decode cX6_doExchange 117 = .ok (.aload 4, 2) := by decide +kernel
theorem dX6_doExchange_119 : decode cX6_doExchange 119 = .ok (.getfield 74, 3) := by decide +kernel
theorem dX6_doExchange_122 : decode cX6_doExchange 122 = .ok (.if_icmp .ge 7, 3) := by decide +kernel
theorem dX6_doExchange_125 : decode cX6_doExchange 125 = .ok (.iconst 1, 1) := by decide +kernel
theorem dX6_doExchange_126 : decode cX6_doExchange 126 = .ok (.goto 4, 3) := by decide +kernel
theorem dX6_doExchange_129 : decode cX6_doExchange 129 = .ok (.iconst 2, 1) := by decide +kernel
theorem dX6_doExchange_130 : decode cX6_doExchange 130 = .ok (.ireturn, 1) := by decide +kernel
theorem dX6_doPost_0 : decode cX6_doPost 0 = .ok (.aload_n 0, 1) := by decide +kernel
theorem dX6_doPost_1 : decode cX6_doPost 1 = .ok (.iload_n 1, 1) := by decide +kernel
theorem dX6_doPost_2 : decode cX6_doPost 2 = .ok (.invokevirtual 62, 3) := by decide +kernel
theorem dX6_doPost_5 : decode cX6_doPost 5 = .ok (.ifCond .ne 5, 3) := by decide +kernel
theorem dX6_doPost_8 : decode cX6_doPost 8 = .ok (.iconst (-1), 1) := by decide +kernel
theorem dX6_doPost_9 : decode cX6_doPost 9 = .ok (.ireturn, 1) := by decide +kernel
theorem dX6_doPost_10 : decode cX6_doPost 10 = .ok (.aload_n 0, 1) := by decide +kernel
theorem dX6_doPost_11 : decode cX6_doPost 11 = .ok (.iload_n 1, 1) := by decide +kernel
theorem dX6_doPost_12 : decode cX6_doPost 12 = .ok (.invokevirtual 109, 3) := by decide +kernel
theorem dX6_doPost_15 : decode cX6_doPost 15 = .ok (.aload_n 0, 1) := by decide +kernel
theorem dX6_doPost_16 : decode cX6_doPost 16 = .ok (.getfield 32, 3) := by decide +kernel
theorem dX6_doPost_19 : decode cX6_doPost 19 = .ok (.getfield 59, 3) := by decide +kernel
theorem dX6_doPost_22 : decode cX6_doPost 22 = .ok (.ireturn, 1) := by decide +kernel
theorem dX6_doFork_0 : decode cX6_doFork 0 = .ok (.iload_n 1, 1) := by decide +kernel
theorem dX6_doFork_1 : decode cX6_doFork 1 = .ok (.ifCond .eq 12, 3) := by decide +kernel
theorem dX6_doFork_4 : decode cX6_doFork 4 = .ok (.iload_n 1, 1) := by decide +kernel
theorem dX6_doFork_5 : decode cX6_doFork 5 = .ok (.aload_n 0, 1) := by decide +kernel
theorem dX6_doFork_6 : decode cX6_doFork 6 = .ok (.getfield 44, 3) := by decide +kernel
theorem dX6_doFork_9 : decode cX6_doFork 9 = .ok (.iushr, 1) := by decide +kernel
theorem dX6_doFork_10 : decode cX6_doFork 10 = .ok (.ifCond .eq 6, 3) := by decide +kernel
theorem dX6_doFork_13 : decode cX6_doFork 13 = .ok (.bipush (-2), 2) := by decide +kernel
theorem dX6_doFork_15 : decode cX6_doFork 15 = .ok (.ireturn, 1) := by decide +kernel
theorem dX6_doFork_16 : decode cX6_doFork 16 = .ok (.aload_n 0, 1) := by decide +kernel
theorem dX6_doFork_17 : decode cX6_doFork 17 = .ok (.iload_n 1, 1) := by decide +kernel
theorem dX6_doFork_18 : decode cX6_doFork 18 = .ok (.invokevirtual 177, 3) := by decide +kernel
theorem dX6_doFork_21 : decode cX6_doFork 21 = .ok (.istore_n 2, 1) := by decide +kernel
theorem dX6_doFork_22 : decode cX6_doFork 22 = .ok (.iload_n 2, 1) := by decide +kernel
theorem dX6_doFork_23 : decode cX6_doFork 23 = .ok (.ifCond .lt 12, 3) := by decide +kernel
theorem dX6_doFork_26 : decode cX6_doFork 26 = .ok (.aload_n 0, 1) := by decide +kernel
theorem dX6_doFork_27 : decode cX6_doFork 27 = .ok (.getfield 50, 3) := by decide +kernel
theorem dX6_doFork_30 : decode cX6_doFork 30 = .ok (.bipush 8, 2) := by decide +kernel
theorem dX6_doFork_32 : decode cX6_doFork 32 = .ok (.if_icmp .lt 6, 3) := by decide +kernel
theorem dX6_doFork_35 : decode cX6_doFork 35 = .ok (.bipush (-3), 2) := by decide +kernel
theorem dX6_doFork_37 : decode cX6_doFork 37 = .ok (.ireturn, 1) := by decide +kernel
theorem dX6_doFork_38 : decode cX6_doFork 38 = .ok (.aload_n 0, 1) := by decide +kernel
theorem dX6_doFork_39 : decode cX6_doFork 39 = .ok (.getfield 50, 3) := by decide +kernel
theorem dX6_doFork_42 : decode cX6_doFork 42 = .ok (.istore_n 3, 1) := by decide +kernel
theorem dX6_doFork_43 : decode cX6_doFork 43 = .ok (.aload_n 0, 1) := by decide +kernel
theorem dX6_doFork_44 : decode cX6_doFork 44 = .ok (.dup, 1) := by decide +kernel
theorem dX6_doFork_45 : decode cX6_doFork 45 = .ok (.getfield 50, 3) := by decide +kernel
theorem dX6_doFork_48 : decode cX6_doFork 48 = .ok (.iconst 1, 1) := by decide +kernel
theorem dX6_doFork_49 : decode cX6_doFork 49 = .ok (.iadd, 1) := by decide +kernel
theorem dX6_doFork_50 : decode cX6_doFork 50 = .ok (.putfield 50, 3) := by decide +kernel
theorem dX6_doFork_53 : decode cX6_doFork 53 = .ok (.aload_n 0, 1) := by decide +kernel
theorem dX6_doFork_54 : decode cX6_doFork 54 = .ok (.getfield 11, 3) := by decide +kernel
theorem dX6_doFork_57 : decode cX6_doFork 57 = .ok (.iload_n 3, 1) := by decide +kernel
theorem dX6_doFork_58 : decode cX6_doFork 58 = .ok (.aaload, 1) := by decide +kernel
theorem dX6_doFork_59 : decode cX6_doFork 59 = .ok (.aload_n 0, 1) := by decide +kernel
theorem dX6_doFork_60 : decode cX6_doFork 60 = .ok (.getfield 11, 3) := by decide +kernel
theorem dX6_doFork_63 : decode cX6_doFork 63 = .ok (.iload_n 2, 1) := by decide +kernel
theorem dX6_doFork_64 : decode cX6_doFork 64 = .ok (.aaload, 1) := by decide +kernel
theorem dX6_doFork_65 : decode cX6_doFork 65 = .ok (.invokevirtual 180, 3) := by decide +kernel
theorem dX6_doFork_68 : decode cX6_doFork 68 = .ok (.iconst 0, 1) := by decide +kernel
theorem dX6_doFork_69 : decode cX6_doFork 69 = .ok (.istore 4, 2) := by decide +kernel
theorem dX6_doFork_71 : decode cX6_doFork 71 = .ok (.iload 4, 2) := by decide +kernel
theorem dX6_doFork_73 : decode cX6_doFork 73 = .ok (.aload_n 0, 1) := by decide +kernel
theorem dX6_doFork_74 : decode cX6_doFork 74 = .ok (.getfield 44, 3) := by decide +kernel
theorem dX6_doFork_77 : decode cX6_doFork 77 = .ok (.if_icmp .ge 29, 3) := by decide +kernel
theorem dX6_doFork_80 : decode cX6_doFork 80 = .ok (.iload_n 1, 1) := by decide +kernel
theorem dX6_doFork_81 : decode cX6_doFork 81 = .ok (.iload 4, 2) := by decide +kernel
theorem dX6_doFork_83 : decode cX6_doFork 83 = .ok (.ishr, 1) := by decide +kernel
theorem dX6_doFork_84 : decode cX6_doFork 84 = .ok (.iconst 1, 1) := by decide +kernel
theorem dX6_doFork_85 : decode cX6_doFork 85 = .ok (.iand, 1) := by decide +kernel
theorem dX6_doFork_86 : decode cX6_doFork 86 = .ok (.ifCond .eq 14, 3) := by decide +kernel
theorem dX6_doFork_89 : decode cX6_doFork 89 = .ok (.aload_n 0, 1) := by decide +kernel
theorem dX6_doFork_90 : decode cX6_doFork 90 = .ok (.getfield 19, 3) := by decide +kernel
theorem dX6_doFork_93 : decode cX6_doFork 93 = .ok (.iload 4, 2) := by decide +kernel
theorem dX6_doFork_95 : decode cX6_doFork 95 = .ok (.aaload, 1) := by decide +kernel
theorem dX6_doFork_96 : decode cX6_doFork 96 = .ok (.iload_n 3, 1) := by decide +kernel
theorem dX6_doFork_97 : decode cX6_doFork 97 = .ok (.putfield 77, 3) := by decide +kernel
theorem dX6_doFork_100 : decode cX6_doFork 100 = .ok (.iinc 4 1, 3) := by decide +kernel
theorem dX6_doFork_103 : decode cX6_doFork 103 = .ok (.goto (-32), 3) := by decide +kernel
theorem dX6_doFork_106 : decode cX6_doFork 106 = .ok (.iload_n 3, 1) := by decide +kernel
theorem dX6_doFork_107 : decode cX6_doFork 107 = .ok (.ireturn, 1) := by decide +kernel
theorem dX6_branchSeenBy_0 : decode cX6_branchSeenBy 0 = .ok (.iconst (-1), 1) := by decide +kernel
theorem dX6_branchSeenBy_1 : decode cX6_branchSeenBy 1 = .ok (.istore_n 2, 1) := by decide +kernel
theorem dX6_branchSeenBy_2 : decode cX6_branchSeenBy 2 = .ok (.iconst 0, 1) := by decide +kernel
theorem dX6_branchSeenBy_3 : decode cX6_branchSeenBy 3 = .ok (.istore_n 3, 1) := by decide +kernel
theorem dX6_branchSeenBy_4 : decode cX6_branchSeenBy 4 = .ok (.iload_n 3, 1) := by decide +kernel
theorem dX6_branchSeenBy_5 : decode cX6_branchSeenBy 5 = .ok (.aload_n 0, 1) := by decide +kernel
theorem dX6_branchSeenBy_6 : decode cX6_branchSeenBy 6 = .ok (.getfield 44, 3) := by decide +kernel
theorem dX6_branchSeenBy_9 : decode cX6_branchSeenBy 9 = .ok (.if_icmp .ge 46, 3) := by decide +kernel
theorem dX6_branchSeenBy_12 : decode cX6_branchSeenBy 12 = .ok (.iload_n 1, 1) := by decide +kernel
theorem dX6_branchSeenBy_13 : decode cX6_branchSeenBy 13 = .ok (.iload_n 3, 1) := by decide +kernel
theorem dX6_branchSeenBy_14 : decode cX6_branchSeenBy 14 = .ok (.ishr, 1) := by decide +kernel
theorem dX6_branchSeenBy_15 : decode cX6_branchSeenBy 15 = .ok (.iconst 1, 1) := by decide +kernel
theorem dX6_branchSeenBy_16 : decode cX6_branchSeenBy 16 = .ok (.iand, 1) := by decide +kernel
theorem dX6_branchSeenBy_17 : decode cX6_branchSeenBy 17 = .ok (.ifCond .eq 32, 3) := by decide +kernel
theorem dX6_branchSeenBy_20 : decode cX6_branchSeenBy 20 = .ok (.iload_n 2, 1) := by decide +kernel
theorem dX6_branchSeenBy_21 : decode cX6_branchSeenBy 21 = .ok (.ifCond .lt 18, 3) := by decide +kernel
theorem dX6_branchSeenBy_24 : decode cX6_branchSeenBy 24 = .ok (.iload_n 2, 1) := by decide +kernel
theorem dX6_branchSeenBy_25 : decode cX6_branchSeenBy 25 = .ok (.aload_n 0, 1) := by decide +kernel
theorem dX6_branchSeenBy_26 : decode cX6_branchSeenBy 26 = .ok (.getfield 19, 3) := by decide +kernel
theorem dX6_branchSeenBy_29 : decode cX6_branchSeenBy 29 = .ok (.iload_n 3, 1) := by decide +kernel
theorem dX6_branchSeenBy_30 : decode cX6_branchSeenBy 30 = .ok (.aaload, 1) := by decide +kernel
theorem dX6_branchSeenBy_31 : decode cX6_branchSeenBy 31 = .ok (.getfield 77, 3) := by decide +kernel
theorem dX6_branchSeenBy_34 : decode cX6_branchSeenBy 34 = .ok (.if_icmp .eq 5, 3) := by decide +kernel
theorem dX6_branchSeenBy_37 : decode cX6_branchSeenBy 37 = .ok (.iconst (-1), 1) := by decide +kernel
theorem dX6_branchSeenBy_38 : decode cX6_branchSeenBy 38 = .ok (.ireturn, 1) := by decide +kernel
theorem dX6_branchSeenBy_39 : decode cX6_branchSeenBy 39 = .ok (.aload_n 0, 1) := by decide +kernel
theorem dX6_branchSeenBy_40 : decode cX6_branchSeenBy 40 = .ok (.getfield 19, 3) := by decide +kernel
theorem dX6_branchSeenBy_43 : decode cX6_branchSeenBy 43 = .ok (.iload_n 3, 1) := by decide +kernel
theorem dX6_branchSeenBy_44 : decode cX6_branchSeenBy 44 = .ok (.aaload, 1) := by decide +kernel
theorem dX6_branchSeenBy_45 : decode cX6_branchSeenBy 45 = .ok (.getfield 77, 3) := by decide +kernel
theorem dX6_branchSeenBy_48 : decode cX6_branchSeenBy 48 = .ok (.istore_n 2, 1) := by decide +kernel
theorem dX6_branchSeenBy_49 : decode cX6_branchSeenBy 49 = .ok (.iinc 3 1, 3) := by decide +kernel
theorem dX6_branchSeenBy_52 : decode cX6_branchSeenBy 52 = .ok (.goto (-48), 3) := by decide +kernel
theorem dX6_branchSeenBy_55 : decode cX6_branchSeenBy 55 = .ok (.iload_n 2, 1) := by decide +kernel
theorem dX6_branchSeenBy_56 : decode cX6_branchSeenBy 56 = .ok (.ireturn, 1) := by decide +kernel
theorem dX6_doMove_0 : decode cX6_doMove 0 = .ok (.aload_n 0, 1) := by decide +kernel
theorem dX6_doMove_1 : decode cX6_doMove 1 = .ok (.iload_n 1, 1) := by decide +kernel
theorem dX6_doMove_2 : decode cX6_doMove 2 = .ok (.invokevirtual 62, 3) := by decide +kernel
theorem dX6_doMove_5 : decode cX6_doMove 5 = .ok (.ifCond .eq 11, 3) := by decide +kernel
theorem dX6_doMove_8 : decode cX6_doMove 8 = .ok (.aload_n 0, 1) := by decide +kernel
theorem dX6_doMove_9 : decode cX6_doMove 9 = .ok (.iload_n 2, 1) := by decide +kernel
theorem dX6_doMove_10 : decode cX6_doMove 10 = .ok (.invokevirtual 183, 3) := by decide +kernel
theorem dX6_doMove_13 : decode cX6_doMove 13 = .ok (.ifCond .ne 5, 3) := by decide +kernel
theorem dX6_doMove_16 : decode cX6_doMove 16 = .ok (.iconst (-1), 1) := by decide +kernel
theorem dX6_doMove_17 : decode cX6_doMove 17 = .ok (.ireturn, 1) := by decide +kernel
theorem dX6_doMove_18 : decode cX6_doMove 18 = .ok (.aload_n 0, 1) := by decide +kernel
theorem dX6_doMove_19 : decode cX6_doMove 19 = .ok (.getfield 19, 3) := by decide +kernel
theorem dX6_doMove_22 : decode cX6_doMove 22 = .ok (.iload_n 1, 1) := by decide +kernel
theorem dX6_doMove_23 : decode cX6_doMove 23 = .ok (.aaload, 1) := by decide +kernel
theorem dX6_doMove_24 : decode cX6_doMove 24 = .ok (.getfield 77, 3) := by decide +kernel
theorem dX6_doMove_27 : decode cX6_doMove 27 = .ok (.istore_n 3, 1) := by decide +kernel
theorem dX6_doMove_28 : decode cX6_doMove 28 = .ok (.aload_n 0, 1) := by decide +kernel
theorem dX6_doMove_29 : decode cX6_doMove 29 = .ok (.getfield 19, 3) := by decide +kernel
theorem dX6_doMove_32 : decode cX6_doMove 32 = .ok (.iload_n 1, 1) := by decide +kernel
theorem dX6_doMove_33 : decode cX6_doMove 33 = .ok (.aaload, 1) := by decide +kernel
theorem dX6_doMove_34 : decode cX6_doMove 34 = .ok (.iload_n 2, 1) := by decide +kernel
theorem dX6_doMove_35 : decode cX6_doMove 35 = .ok (.putfield 77, 3) := by decide +kernel
theorem dX6_doMove_38 : decode cX6_doMove 38 = .ok (.iload_n 3, 1) := by decide +kernel
theorem dX6_doMove_39 : decode cX6_doMove 39 = .ok (.ireturn, 1) := by decide +kernel
theorem dX6_doRewind_0 : decode cX6_doRewind 0 = .ok (.aload_n 0, 1) := by decide +kernel
theorem dX6_doRewind_1 : decode cX6_doRewind 1 = .ok (.iload_n 1, 1) := by decide +kernel
theorem dX6_doRewind_2 : decode cX6_doRewind 2 = .ok (.invokevirtual 183, 3) := by decide +kernel
theorem dX6_doRewind_5 : decode cX6_doRewind 5 = .ok (.ifCond .ne 5, 3) := by decide +kernel
theorem dX6_doRewind_8 : decode cX6_doRewind 8 = .ok (.iconst (-1), 1) := by decide +kernel
theorem dX6_doRewind_9 : decode cX6_doRewind 9 = .ok (.ireturn, 1) := by decide +kernel
theorem dX6_doRewind_10 : decode cX6_doRewind 10 = .ok (.iload_n 2, 1) := by decide +kernel
theorem dX6_doRewind_11 : decode cX6_doRewind 11 = .ok (.iconst 1, 1) := by decide +kernel
theorem dX6_doRewind_12 : decode cX6_doRewind 12 = .ok (.if_icmp .lt 16, 3) := by decide +kernel
theorem dX6_doRewind_15 : decode cX6_doRewind 15 = .ok (.iload_n 2, 1) := by decide +kernel
theorem dX6_doRewind_16 : decode cX6_doRewind 16 = .ok (.aload_n 0, 1) := by decide +kernel
theorem dX6_doRewind_17 : decode cX6_doRewind 17 = .ok (.getfield 11, 3) := by decide +kernel
theorem dX6_doRewind_20 : decode cX6_doRewind 20 = .ok (.iload_n 1, 1) := by decide +kernel
theorem dX6_doRewind_21 : decode cX6_doRewind 21 = .ok (.aaload, 1) := by decide +kernel
theorem dX6_doRewind_22 : decode cX6_doRewind 22 = .ok (.getfield 53, 3) := by decide +kernel
theorem dX6_doRewind_25 : decode cX6_doRewind 25 = .ok (.if_icmp .le 6, 3) := by decide +kernel
theorem dX6_doRewind_28 : decode cX6_doRewind 28 = .ok (.bipush (-2), 2) := by decide +kernel
theorem dX6_doRewind_30 : decode cX6_doRewind 30 = .ok (.ireturn, 1) := by decide +kernel
theorem dX6_doRewind_31 : decode cX6_doRewind 31 = .ok (.aload_n 0, 1) := by decide +kernel
theorem dX6_doRewind_32 : decode cX6_doRewind 32 = .ok (.getfield 11, 3) := by decide +kernel
theorem dX6_doRewind_35 : decode cX6_doRewind 35 = .ok (.iload_n 1, 1) := by decide +kernel
theorem dX6_doRewind_36 : decode cX6_doRewind 36 = .ok (.aaload, 1) := by decide +kernel
theorem dX6_doRewind_37 : decode cX6_doRewind 37 = .ok (.dup, 1) := by decide +kernel
theorem dX6_doRewind_38 : decode cX6_doRewind 38 = .ok (.getfield 53, 3) := by decide +kernel
theorem dX6_doRewind_41 : decode cX6_doRewind 41 = .ok (.iload_n 2, 1) := by decide +kernel
theorem dX6_doRewind_42 : decode cX6_doRewind 42 = .ok (.isub, 1) := by decide +kernel
theorem dX6_doRewind_43 : decode cX6_doRewind 43 = .ok (.putfield 53, 3) := by decide +kernel
theorem dX6_doRewind_46 : decode cX6_doRewind 46 = .ok (.aload_n 0, 1) := by decide +kernel
theorem dX6_doRewind_47 : decode cX6_doRewind 47 = .ok (.getfield 11, 3) := by decide +kernel
theorem dX6_doRewind_50 : decode cX6_doRewind 50 = .ok (.iload_n 1, 1) := by decide +kernel
theorem dX6_doRewind_51 : decode cX6_doRewind 51 = .ok (.aaload, 1) := by decide +kernel
theorem dX6_doRewind_52 : decode cX6_doRewind 52 = .ok (.getfield 53, 3) := by decide +kernel
theorem dX6_doRewind_55 : decode cX6_doRewind 55 = .ok (.ireturn, 1) := by decide +kernel
theorem dX6_doCorrupt_0 : decode cX6_doCorrupt 0 = .ok (.aload_n 0, 1) := by decide +kernel
theorem dX6_doCorrupt_1 : decode cX6_doCorrupt 1 = .ok (.iload_n 1, 1) := by decide +kernel
theorem dX6_doCorrupt_2 : decode cX6_doCorrupt 2 = .ok (.invokevirtual 183, 3) := by decide +kernel
theorem dX6_doCorrupt_5 : decode cX6_doCorrupt 5 = .ok (.ifCond .eq 16, 3) := by decide +kernel
theorem dX6_doCorrupt_8 : decode cX6_doCorrupt 8 = .ok (.aload_n 0, 1) := by decide +kernel
theorem dX6_doCorrupt_9 : decode cX6_doCorrupt 9 = .ok (.getfield 11, 3) := by decide +kernel
theorem dX6_doCorrupt_12 : decode cX6_doCorrupt 12 = .ok (.iload_n 1, 1) := by decide +kernel
theorem dX6_doCorrupt_13 : decode cX6_doCorrupt 13 = .ok (.aaload, 1) := by decide +kernel
theorem dX6_doCorrupt_14 : decode cX6_doCorrupt 14 = .ok (.iload_n 2, 1) := by decide +kernel
theorem dX6_doCorrupt_15 : decode cX6_doCorrupt 15 = .ok (.invokevirtual 186, 3) := by decide +kernel
theorem dX6_doCorrupt_18 : decode cX6_doCorrupt 18 = .ok (.ifCond .ne 5, 3) := by decide +kernel
theorem dX6_doCorrupt_21 : decode cX6_doCorrupt 21 = .ok (.iconst (-1), 1) := by decide +kernel
theorem dX6_doCorrupt_22 : decode cX6_doCorrupt 22 = .ok (.ireturn, 1) := by decide +kernel
theorem dX6_doCorrupt_23 : decode cX6_doCorrupt 23 = .ok (.iload_n 3, 1) := by decide +kernel
theorem dX6_doCorrupt_24 : decode cX6_doCorrupt 24 = .ok (.ifCond .lt 9, 3) := by decide +kernel
theorem dX6_doCorrupt_27 : decode cX6_doCorrupt 27 = .ok (.iload_n 3, 1) := by decide +kernel
theorem dX6_doCorrupt_28 : decode cX6_doCorrupt 28 = .ok (.ldc 69, 2) := by decide +kernel
theorem dX6_doCorrupt_30 : decode cX6_doCorrupt 30 = .ok (.if_icmp .le 6, 3) := by decide +kernel
theorem dX6_doCorrupt_33 : decode cX6_doCorrupt 33 = .ok (.bipush (-2), 2) := by decide +kernel
theorem dX6_doCorrupt_35 : decode cX6_doCorrupt 35 = .ok (.ireturn, 1) := by decide +kernel
theorem dX6_doCorrupt_36 : decode cX6_doCorrupt 36 = .ok (.aload_n 0, 1) := by decide +kernel
theorem dX6_doCorrupt_37 : decode cX6_doCorrupt 37 = .ok (.getfield 11, 3) := by decide +kernel
theorem dX6_doCorrupt_40 : decode cX6_doCorrupt 40 = .ok (.iload_n 1, 1) := by decide +kernel
theorem dX6_doCorrupt_41 : decode cX6_doCorrupt 41 = .ok (.aaload, 1) := by decide +kernel
theorem dX6_doCorrupt_42 : decode cX6_doCorrupt 42 = .ok (.astore 4, 2) := by decide +kernel
theorem dX6_doCorrupt_44 : decode cX6_doCorrupt 44 = .ok (.aload 4, 2) := by decide +kernel
theorem dX6_doCorrupt_46 : decode cX6_doCorrupt 46 = .ok (.getfield 189, 3) := by decide +kernel
theorem dX6_doCorrupt_49 : decode cX6_doCorrupt 49 = .ok (.iload_n 2, 1) := by decide +kernel
theorem dX6_doCorrupt_50 : decode cX6_doCorrupt 50 = .ok (.iaload, 1) := by decide +kernel
theorem dX6_doCorrupt_51 : decode cX6_doCorrupt 51 = .ok (.iconst 1, 1) := by decide +kernel
theorem dX6_doCorrupt_52 : decode cX6_doCorrupt 52 = .ok (.if_icmp .eq 6, 3) := by decide +kernel
theorem dX6_doCorrupt_55 : decode cX6_doCorrupt 55 = .ok (.bipush (-3), 2) := by decide +kernel
theorem dX6_doCorrupt_57 : decode cX6_doCorrupt 57 = .ok (.ireturn, 1) := by decide +kernel
theorem dX6_doCorrupt_58 : decode cX6_doCorrupt 58 = .ok (.aload 4, 2) := by decide +kernel
theorem dX6_doCorrupt_60 : decode cX6_doCorrupt 60 = .ok (.getfield 192, 3) := by decide +kernel
theorem dX6_doCorrupt_63 : decode cX6_doCorrupt 63 = .ok (.iload_n 2, 1) := by decide +kernel
theorem dX6_doCorrupt_64 : decode cX6_doCorrupt 64 = .ok (.iaload, 1) := by decide +kernel
theorem dX6_doCorrupt_65 : decode cX6_doCorrupt 65 = .ok (.istore 5, 2) := by decide +kernel
theorem dX6_doCorrupt_67 : decode cX6_doCorrupt 67 = .ok (.aload 4, 2) := by decide +kernel
theorem dX6_doCorrupt_69 : decode cX6_doCorrupt 69 = .ok (.getfield 192, 3) := by decide +kernel
theorem dX6_doCorrupt_72 : decode cX6_doCorrupt 72 = .ok (.iload_n 2, 1) := by decide +kernel
theorem dX6_doCorrupt_73 : decode cX6_doCorrupt 73 = .ok (.iload_n 3, 1) := by decide +kernel
theorem dX6_doCorrupt_74 : decode cX6_doCorrupt 74 = .ok (.iastore, 1) := by decide +kernel
theorem dX6_doCorrupt_75 : decode cX6_doCorrupt 75 = .ok (.iload 5, 2) := by decide +kernel
theorem dX6_doCorrupt_77 : decode cX6_doCorrupt 77 = .ok (.ireturn, 1) := by decide +kernel
theorem dX6_doHeal_0 : decode cX6_doHeal 0 = .ok (.aload_n 0, 1) := by decide +kernel
theorem dX6_doHeal_1 : decode cX6_doHeal 1 = .ok (.iload_n 1, 1) := by decide +kernel
theorem dX6_doHeal_2 : decode cX6_doHeal 2 = .ok (.invokevirtual 183, 3) := by decide +kernel
theorem dX6_doHeal_5 : decode cX6_doHeal 5 = .ok (.ifCond .eq 16, 3) := by decide +kernel
theorem dX6_doHeal_8 : decode cX6_doHeal 8 = .ok (.aload_n 0, 1) := by decide +kernel
theorem dX6_doHeal_9 : decode cX6_doHeal 9 = .ok (.iload_n 2, 1) := by decide +kernel
theorem dX6_doHeal_10 : decode cX6_doHeal 10 = .ok (.invokevirtual 183, 3) := by decide +kernel
theorem dX6_doHeal_13 : decode cX6_doHeal 13 = .ok (.ifCond .eq 8, 3) := by decide +kernel
theorem dX6_doHeal_16 : decode cX6_doHeal 16 = .ok (.iload_n 1, 1) := by decide +kernel
theorem dX6_doHeal_17 : decode cX6_doHeal 17 = .ok (.iload_n 2, 1) := by decide +kernel
theorem dX6_doHeal_18 : decode cX6_doHeal 18 = .ok (.if_icmp .ne 5, 3) := by decide +kernel
theorem dX6_doHeal_21 : decode cX6_doHeal 21 = .ok (.iconst (-1), 1) := by decide +kernel
theorem dX6_doHeal_22 : decode cX6_doHeal 22 = .ok (.ireturn, 1) := by decide +kernel
theorem dX6_doHeal_23 : decode cX6_doHeal 23 = .ok (.aload_n 0, 1) := by decide +kernel
theorem dX6_doHeal_24 : decode cX6_doHeal 24 = .ok (.getfield 11, 3) := by decide +kernel
theorem dX6_doHeal_27 : decode cX6_doHeal 27 = .ok (.iload_n 1, 1) := by decide +kernel
theorem dX6_doHeal_28 : decode cX6_doHeal 28 = .ok (.aaload, 1) := by decide +kernel
theorem dX6_doHeal_29 : decode cX6_doHeal 29 = .ok (.aload_n 0, 1) := by decide +kernel
theorem dX6_doHeal_30 : decode cX6_doHeal 30 = .ok (.getfield 11, 3) := by decide +kernel
theorem dX6_doHeal_33 : decode cX6_doHeal 33 = .ok (.iload_n 2, 1) := by decide +kernel
theorem dX6_doHeal_34 : decode cX6_doHeal 34 = .ok (.aaload, 1) := by decide +kernel
theorem dX6_doHeal_35 : decode cX6_doHeal 35 = .ok (.invokevirtual 195, 3) := by decide +kernel
theorem dX6_doHeal_38 : decode cX6_doHeal 38 = .ok (.istore_n 3, 1) := by decide +kernel
theorem dX6_doHeal_39 : decode cX6_doHeal 39 = .ok (.aload_n 0, 1) := by decide +kernel
theorem dX6_doHeal_40 : decode cX6_doHeal 40 = .ok (.getfield 11, 3) := by decide +kernel
theorem dX6_doHeal_43 : decode cX6_doHeal 43 = .ok (.iload_n 1, 1) := by decide +kernel
theorem dX6_doHeal_44 : decode cX6_doHeal 44 = .ok (.aaload, 1) := by decide +kernel
theorem dX6_doHeal_45 : decode cX6_doHeal 45 = .ok (.getfield 53, 3) := by decide +kernel
theorem dX6_doHeal_48 : decode cX6_doHeal 48 = .ok (.iconst 1, 1) := by decide +kernel
theorem dX6_doHeal_49 : decode cX6_doHeal 49 = .ok (.iadd, 1) := by decide +kernel
theorem dX6_doHeal_50 : decode cX6_doHeal 50 = .ok (.aload_n 0, 1) := by decide +kernel
theorem dX6_doHeal_51 : decode cX6_doHeal 51 = .ok (.getfield 11, 3) := by decide +kernel
theorem dX6_doHeal_54 : decode cX6_doHeal 54 = .ok (.iload_n 2, 1) := by decide +kernel
theorem dX6_doHeal_55 : decode cX6_doHeal 55 = .ok (.aaload, 1) := by decide +kernel
theorem dX6_doHeal_56 : decode cX6_doHeal 56 = .ok (.getfield 53, 3) := by decide +kernel
theorem dX6_doHeal_59 : decode cX6_doHeal 59 = .ok (.iadd, 1) := by decide +kernel
theorem dX6_doHeal_60 : decode cX6_doHeal 60 = .ok (.iload_n 3, 1) := by decide +kernel
theorem dX6_doHeal_61 : decode cX6_doHeal 61 = .ok (.isub, 1) := by decide +kernel
theorem dX6_doHeal_62 : decode cX6_doHeal 62 = .ok (.istore 4, 2) := by decide +kernel
theorem dX6_doHeal_64 : decode cX6_doHeal 64 = .ok (.aload_n 0, 1) := by decide +kernel
theorem dX6_doHeal_65 : decode cX6_doHeal 65 = .ok (.getfield 11, 3) := by decide +kernel
theorem dX6_doHeal_68 : decode cX6_doHeal 68 = .ok (.iload_n 1, 1) := by decide +kernel
theorem dX6_doHeal_69 : decode cX6_doHeal 69 = .ok (.aaload, 1) := by decide +kernel
theorem dX6_doHeal_70 : decode cX6_doHeal 70 = .ok (.aload_n 0, 1) := by decide +kernel
theorem dX6_doHeal_71 : decode cX6_doHeal 71 = .ok (.getfield 11, 3) := by decide +kernel
theorem dX6_doHeal_74 : decode cX6_doHeal 74 = .ok (.iload_n 2, 1) := by decide +kernel
theorem dX6_doHeal_75 : decode cX6_doHeal 75 = .ok (.aaload, 1) := by decide +kernel
theorem dX6_doHeal_76 : decode cX6_doHeal 76 = .ok (.invokevirtual 198, 3) := by decide +kernel
theorem dX6_doHeal_79 : decode cX6_doHeal 79 = .ok (.ifCond .ne 20, 3) := by decide +kernel
theorem dX6_doHeal_82 : decode cX6_doHeal 82 = .ok (.aload_n 0, 1) := by decide +kernel
theorem dX6_doHeal_83 : decode cX6_doHeal 83 = .ok (.getfield 50, 3) := by decide +kernel
theorem dX6_doHeal_86 : decode cX6_doHeal 86 = .ok (.bipush 8, 2) := by decide +kernel
theorem dX6_doHeal_88 : decode cX6_doHeal 88 = .ok (.if_icmp .ge 11, 3) := by decide +kernel
theorem dX6_doHeal_91 : decode cX6_doHeal 91 = .ok (.iload 4, 2) := by decide +kernel
theorem dX6_doHeal_93 : decode cX6_doHeal 93 = .ok (.sipush 200, 3) := by decide +kernel
theorem dX6_doHeal_96 : decode cX6_doHeal 96 = .ok (.if_icmp .le 6, 3) := by decide +kernel
theorem dX6_doHeal_99 : decode cX6_doHeal 99 = .ok (.bipush (-3), 2) := by decide +kernel
theorem dX6_doHeal_101 : decode cX6_doHeal 101 = .ok (.ireturn, 1) := by decide +kernel
theorem dX6_doHeal_102 : decode cX6_doHeal 102 = .ok (.aload_n 0, 1) := by decide +kernel
theorem dX6_doHeal_103 : decode cX6_doHeal 103 = .ok (.getfield 50, 3) := by decide +kernel
theorem dX6_doHeal_106 : decode cX6_doHeal 106 = .ok (.istore 5, 2) := by decide +kernel
theorem dX6_doHeal_108 : decode cX6_doHeal 108 = .ok (.aload_n 0, 1) := by decide +kernel
theorem dX6_doHeal_109 : decode cX6_doHeal 109 = .ok (.dup, 1) := by decide +kernel
theorem dX6_doHeal_110 : decode cX6_doHeal 110 = .ok (.getfield 50, 3) := by decide +kernel
theorem dX6_doHeal_113 : decode cX6_doHeal 113 = .ok (.iconst 1, 1) := by decide +kernel
theorem dX6_doHeal_114 : decode cX6_doHeal 114 = .ok (.iadd, 1) := by decide +kernel
theorem dX6_doHeal_115 : decode cX6_doHeal 115 = .ok (.putfield 50, 3) := by decide +kernel
theorem dX6_doHeal_118 : decode cX6_doHeal 118 = .ok (.aload_n 0, 1) := by decide +kernel
theorem dX6_doHeal_119 : decode cX6_doHeal 119 = .ok (.getfield 11, 3) := by decide +kernel
theorem dX6_doHeal_122 : decode cX6_doHeal 122 = .ok (.iload 5, 2) := by decide +kernel
theorem dX6_doHeal_124 : decode cX6_doHeal 124 = .ok (.aaload, 1) := by decide +kernel
theorem dX6_doHeal_125 : decode cX6_doHeal 125 = .ok (.aload_n 0, 1) := by decide +kernel
theorem dX6_doHeal_126 : decode cX6_doHeal 126 = .ok (.getfield 11, 3) := by decide +kernel
theorem dX6_doHeal_129 : decode cX6_doHeal 129 = .ok (.iload_n 1, 1) := by decide +kernel
theorem dX6_doHeal_130 : decode cX6_doHeal 130 = .ok (.aaload, 1) := by decide +kernel
theorem dX6_doHeal_131 : decode cX6_doHeal 131 = .ok (.invokevirtual 180, 3) := by decide +kernel
theorem dX6_doHeal_134 : decode cX6_doHeal 134 = .ok (.aload_n 0, 1) := by decide +kernel
theorem dX6_doHeal_135 : decode cX6_doHeal 135 = .ok (.getfield 11, 3) := by decide +kernel
theorem dX6_doHeal_138 : decode cX6_doHeal 138 = .ok (.iload 5, 2) := by decide +kernel
theorem dX6_doHeal_140 : decode cX6_doHeal 140 = .ok (.aaload, 1) := by decide +kernel
theorem dX6_doHeal_141 : decode cX6_doHeal 141 = .ok (.aload_n 0, 1) := by decide +kernel
theorem dX6_doHeal_142 : decode cX6_doHeal 142 = .ok (.getfield 11, 3) := by decide +kernel
theorem dX6_doHeal_145 : decode cX6_doHeal 145 = .ok (.iload_n 2, 1) := by decide +kernel
theorem dX6_doHeal_146 : decode cX6_doHeal 146 = .ok (.aaload, 1) := by decide +kernel
theorem dX6_doHeal_147 : decode cX6_doHeal 147 = .ok (.invokevirtual 136, 3) := by decide +kernel
theorem dX6_doHeal_150 : decode cX6_doHeal 150 = .ok (.invokevirtual 201, 3) := by decide +kernel
theorem dX6_doHeal_153 : decode cX6_doHeal 153 = .ok (.aload_n 0, 1) := by decide +kernel
theorem dX6_doHeal_154 : decode cX6_doHeal 154 = .ok (.getfield 11, 3) := by decide +kernel
theorem dX6_doHeal_157 : decode cX6_doHeal 157 = .ok (.iload 5, 2) := by decide +kernel
theorem dX6_doHeal_159 : decode cX6_doHeal 159 = .ok (.aaload, 1) := by decide +kernel
theorem dX6_doHeal_160 : decode cX6_doHeal 160 = .ok (.aload_n 0, 1) := by decide +kernel
theorem dX6_doHeal_161 : decode cX6_doHeal 161 = .ok (.getfield 11, 3) := by decide +kernel
theorem dX6_doHeal_164 : decode cX6_doHeal 164 = .ok (.iload_n 2, 1) := by decide +kernel
theorem dX6_doHeal_165 : decode cX6_doHeal 165 = .ok (.aaload, 1) := by decide +kernel
theorem dX6_doHeal_166 : decode cX6_doHeal 166 = .ok (.iload_n 3, 1) := by decide +kernel
theorem dX6_doHeal_167 : decode cX6_doHeal 167 = .ok (.invokevirtual 204, 3) := by decide +kernel
theorem dX6_doHeal_170 : decode cX6_doHeal 170 = .ok (.iconst 0, 1) := by decide +kernel
theorem dX6_doHeal_171 : decode cX6_doHeal 171 = .ok (.istore 6, 2) := by decide +kernel
theorem dX6_doHeal_173 : decode cX6_doHeal 173 = .ok (.iload 6, 2) := by decide +kernel
theorem dX6_doHeal_175 : decode cX6_doHeal 175 = .ok (.aload_n 0, 1) := by decide +kernel
theorem dX6_doHeal_176 : decode cX6_doHeal 176 = .ok (.getfield 44, 3) := by decide +kernel
theorem dX6_doHeal_179 : decode cX6_doHeal 179 = .ok (.if_icmp .ge 70, 3) := by decide +kernel
theorem dX6_doHeal_182 : decode cX6_doHeal 182 = .ok (.aload_n 0, 1) := by decide +kernel
theorem dX6_doHeal_183 : decode cX6_doHeal 183 = .ok (.getfield 19, 3) := by decide +kernel
theorem dX6_doHeal_186 : decode cX6_doHeal 186 = .ok (.iload 6, 2) := by decide +kernel
theorem dX6_doHeal_188 : decode cX6_doHeal 188 = .ok (.aaload, 1) := by decide +kernel
theorem dX6_doHeal_189 : decode cX6_doHeal 189 = .ok (.getfield 77, 3) := by decide +kernel
theorem dX6_doHeal_192 : decode cX6_doHeal 192 = .ok (.iload_n 1, 1) := by decide +kernel
theorem dX6_doHeal_193 : decode cX6_doHeal 193 = .ok (.if_icmp .eq 17, 3) := by decide +kernel
theorem dX6_doHeal_196 : decode cX6_doHeal 196 = .ok (.aload_n 0, 1) := by decide +kernel
theorem dX6_doHeal_197 : decode cX6_doHeal 197 = .ok (.getfield 19, 3) := by decide +kernel
theorem dX6_doHeal_200 : decode cX6_doHeal 200 = .ok (.iload 6, 2) := by decide +kernel
theorem dX6_doHeal_202 : decode cX6_doHeal 202 = .ok (.aaload, 1) := by decide +kernel
theorem dX6_doHeal_203 : decode cX6_doHeal 203 = .ok (.getfield 77, 3) := by decide +kernel
theorem dX6_doHeal_206 : decode cX6_doHeal 206 = .ok (.iload_n 2, 1) := by decide +kernel
theorem dX6_doHeal_207 : decode cX6_doHeal 207 = .ok (.if_icmp .ne 36, 3) := by decide +kernel
theorem dX6_doHeal_210 : decode cX6_doHeal 210 = .ok (.aload_n 0, 1) := by decide +kernel
theorem dX6_doHeal_211 : decode cX6_doHeal 211 = .ok (.aload_n 0, 1) := by decide +kernel
theorem dX6_doHeal_212 : decode cX6_doHeal 212 = .ok (.getfield 19, 3) := by decide +kernel
theorem dX6_doHeal_215 : decode cX6_doHeal 215 = .ok (.iload 6, 2) := by decide +kernel
theorem dX6_doHeal_217 : decode cX6_doHeal 217 = .ok (.aaload, 1) := by decide +kernel
theorem dX6_doHeal_218 : decode cX6_doHeal 218 = .ok (.aload_n 0, 1) := by decide +kernel
theorem dX6_doHeal_219 : decode cX6_doHeal 219 = .ok (.getfield 19, 3) := by decide +kernel
theorem dX6_doHeal_222 : decode cX6_doHeal 222 = .ok (.iload 6, 2) := by decide +kernel
theorem dX6_doHeal_224 : decode cX6_doHeal 224 = .ok (.aaload, 1) := by decide +kernel
theorem dX6_doHeal_225 : decode cX6_doHeal 225 = .ok (.getfield 77, 3) := by decide +kernel
theorem dX6_doHeal_228 : decode cX6_doHeal 228 = .ok (.iload_n 2, 1) := by decide +kernel
theorem dX6_doHeal_229 : decode cX6_doHeal 229 = .ok (.if_icmp .ne 7, 3) := by decide +kernel
theorem dX6_doHeal_232 : decode cX6_doHeal 232 = .ok (.iconst 1, 1) := by decide +kernel
theorem dX6_doHeal_233 : decode cX6_doHeal 233 = .ok (.goto 4, 3) := by decide +kernel
theorem dX6_doHeal_236 : decode cX6_doHeal 236 = .ok (.iconst 0, 1) := by decide +kernel
theorem dX6_doHeal_237 : decode cX6_doHeal 237 = .ok (.iload_n 3, 1) := by decide +kernel
theorem dX6_doHeal_238 : decode cX6_doHeal 238 = .ok (.iload 5, 2) := by decide +kernel
theorem dX6_doHeal_240 : decode cX6_doHeal 240 = .ok (.invokevirtual 208, 3) := by decide +kernel
theorem dX6_doHeal_243 : decode cX6_doHeal 243 = .ok (.iinc 6 1, 3) := by decide +kernel
theorem dX6_doHeal_246 : decode cX6_doHeal 246 = .ok (.goto (-73), 3) := by decide +kernel
theorem dX6_doHeal_249 : decode cX6_doHeal 249 = .ok (.iload 5, 2) := by decide +kernel
theorem dX6_doHeal_251 : decode cX6_doHeal 251 = .ok (.ireturn, 1) := by decide +kernel
theorem dX6_bringOver_0 : decode cX6_bringOver 0 = .ok (.aload_n 1, 1) := by decide +kernel
theorem dX6_bringOver_1 : decode cX6_bringOver 1 = .ok (.aload_n 0, 1) := by decide +kernel
theorem dX6_bringOver_2 : decode cX6_bringOver 2 = .ok (.getfield 11, 3) := by decide +kernel
theorem dX6_bringOver_5 : decode cX6_bringOver 5 = .ok (.aload_n 1, 1) := by decide +kernel
theorem dX6_bringOver_6 : decode cX6_bringOver 6 = .ok (.getfield 77, 3) := by decide +kernel
theorem dX6_bringOver_9 : decode cX6_bringOver 9 = .ok (.aaload, 1) := by decide +kernel
theorem dX6_bringOver_10 : decode cX6_bringOver 10 = .ok (.invokevirtual 113, 3) := by decide +kernel
theorem dX6_bringOver_13 : decode cX6_bringOver 13 = .ok (.ifCond .eq 31, 3) := by decide +kernel
theorem dX6_bringOver_16 : decode cX6_bringOver 16 = .ok (.aload_n 1, 1) := by decide +kernel
theorem dX6_bringOver_17 : decode cX6_bringOver 17 = .ok (.iconst 0, 1) := by decide +kernel
theorem dX6_bringOver_18 : decode cX6_bringOver 18 = .ok (.putfield 84, 3) := by decide +kernel
theorem dX6_bringOver_21 : decode cX6_bringOver 21 = .ok (.iload_n 2, 1) := by decide +kernel
theorem dX6_bringOver_22 : decode cX6_bringOver 22 = .ok (.ifCond .eq 22, 3) := by decide +kernel
theorem dX6_bringOver_25 : decode cX6_bringOver 25 = .ok (.aload_n 1, 1) := by decide +kernel
theorem dX6_bringOver_26 : decode cX6_bringOver 26 = .ok (.getfield 74, 3) := by decide +kernel
theorem dX6_bringOver_29 : decode cX6_bringOver 29 = .ok (.iload_n 3, 1) := by decide +kernel
theorem dX6_bringOver_30 : decode cX6_bringOver 30 = .ok (.if_icmp .le 14, 3) := by decide +kernel
theorem dX6_bringOver_33 : decode cX6_bringOver 33 = .ok (.aload_n 1, 1) := by decide +kernel
theorem dX6_bringOver_34 : decode cX6_bringOver 34 = .ok (.aload_n 0, 1) := by decide +kernel
theorem dX6_bringOver_35 : decode cX6_bringOver 35 = .ok (.getfield 11, 3) := by decide +kernel
theorem dX6_bringOver_38 : decode cX6_bringOver 38 = .ok (.iload 4, 2) := by decide +kernel
theorem dX6_bringOver_40 : decode cX6_bringOver 40 = .ok (.aaload, 1) := by decide +kernel
theorem dX6_bringOver_41 : decode cX6_bringOver 41 = .ok (.invokevirtual 102, 3) := by decide +kernel
theorem dX6_bringOver_44 : decode cX6_bringOver 44 = .ok (.aload_n 1, 1) := by decide +kernel
theorem dX6_bringOver_45 : decode cX6_bringOver 45 = .ok (.iload 4, 2) := by decide +kernel
theorem dX6_bringOver_47 : decode cX6_bringOver 47 = .ok (.putfield 77, 3) := by decide +kernel
theorem dX6_bringOver_50 : decode cX6_bringOver 50 = .ok (.return_, 1) := by decide +kernel
theorem dX7_init_0 : decode cX7_init 0 = .ok (.aload_n 0, 1) := by decide +kernel
theorem dX7_init_1 : decode cX7_init 1 = .ok (.invokespecial 3, 3) := by decide +kernel
theorem dX7_init_4 : decode cX7_init 4 = .ok (.aload_n 0, 1) := by decide +kernel
theorem dX7_init_5 : decode cX7_init 5 = .ok (.iconst 3, 1) := by decide +kernel
theorem dX7_init_6 : decode cX7_init 6 = .ok (.newarray .int, 2) := by decide +kernel
theorem dX7_init_8 : decode cX7_init 8 = .ok (.putfield 9, 3) := by decide +kernel
theorem dX7_init_11 : decode cX7_init 11 = .ok (.aload_n 0, 1) := by decide +kernel
theorem dX7_init_12 : decode cX7_init 12 = .ok (.getstatic 15, 3) := by decide +kernel
theorem dX7_init_15 : decode cX7_init 15 = .ok (.putfield 21, 3) := by decide +kernel
theorem dX7_init_18 : decode cX7_init 18 = .ok (.return_, 1) := by decide +kernel
theorem dX8_init_0 : decode cX8_init 0 = .ok (.aload_n 0, 1) := by decide +kernel
theorem dX8_init_1 : decode cX8_init 1 = .ok (.invokespecial 3, 3) := by decide +kernel
theorem dX8_init_4 : decode cX8_init 4 = .ok (.aload_n 0, 1) := by decide +kernel
theorem dX8_init_5 : decode cX8_init 5 = .ok (.sipush 900, 3) := by decide +kernel
theorem dX8_init_8 : decode cX8_init 8 = .ok (.newarray .byte, 2) := by decide +kernel
theorem dX8_init_10 : decode cX8_init 10 = .ok (.putfield 9, 3) := by decide +kernel
theorem dX8_init_13 : decode cX8_init 13 = .ok (.aload_n 0, 1) := by decide +kernel
theorem dX8_init_14 : decode cX8_init 14 = .ok (.sipush 901, 3) := by decide +kernel
theorem dX8_init_17 : decode cX8_init 17 = .ok (.anewarray 15, 3) := by decide +kernel
theorem dX8_init_20 : decode cX8_init 20 = .ok (.putfield 17, 3) := by decide +kernel
theorem dX8_init_23 : decode cX8_init 23 = .ok (.aload_n 0, 1) := by decide +kernel
theorem dX8_init_24 : decode cX8_init 24 = .ok (.sipush 901, 3) := by decide +kernel
theorem dX8_init_27 : decode cX8_init 27 = .ok (.newarray .int, 2) := by decide +kernel
theorem dX8_init_29 : decode cX8_init 29 = .ok (.putfield 21, 3) := by decide +kernel
theorem dX8_init_32 : decode cX8_init 32 = .ok (.aload_n 0, 1) := by decide +kernel
theorem dX8_init_33 : decode cX8_init 33 = .ok (.sipush 901, 3) := by decide +kernel
theorem dX8_init_36 : decode cX8_init 36 = .ok (.newarray .int, 2) := by decide +kernel
theorem dX8_init_38 : decode cX8_init 38 = .ok (.putfield 25, 3) := by decide +kernel
theorem dX8_init_41 : decode cX8_init 41 = .ok (.return_, 1) := by decide +kernel
theorem dX8_scan_0 : decode cX8_scan 0 = .ok (.iconst 0, 1) := by decide +kernel
theorem dX8_scan_1 : decode cX8_scan 1 = .ok (.iload_n 1, 1) := by decide +kernel
theorem dX8_scan_2 : decode cX8_scan 2 = .ok (.sipush 900, 3) := by decide +kernel
theorem dX8_scan_5 : decode cX8_scan 5 = .ok (.invokestatic 28, 3) := by decide +kernel
theorem dX8_scan_8 : decode cX8_scan 8 = .ok (.invokestatic 34, 3) := by decide +kernel
theorem dX8_scan_11 : decode cX8_scan 11 = .ok (.istore_n 2, 1) := by decide +kernel
theorem dX8_scan_12 : decode cX8_scan 12 = .ok (.iconst (-1), 1) := by decide +kernel
theorem dX8_scan_13 : decode cX8_scan 13 = .ok (.istore_n 3, 1) := by decide +kernel
theorem dX8_scan_14 : decode cX8_scan 14 = .ok (.aload_n 0, 1) := by decide +kernel
theorem dX8_scan_15 : decode cX8_scan 15 = .ok (.iconst 0, 1) := by decide +kernel
theorem dX8_scan_16 : decode cX8_scan 16 = .ok (.putfield 37, 3) := by decide +kernel
theorem dX8_scan_19 : decode cX8_scan 19 = .ok (.iconst 0, 1) := by decide +kernel
theorem dX8_scan_20 : decode cX8_scan 20 = .ok (.istore 4, 2) := by decide +kernel
theorem dX8_scan_22 : decode cX8_scan 22 = .ok (.iconst 0, 1) := by decide +kernel
theorem dX8_scan_23 : decode cX8_scan 23 = .ok (.istore 5, 2) := by decide +kernel
theorem dX8_scan_25 : decode cX8_scan 25 = .ok (.iload 4, 2) := by decide +kernel
theorem dX8_scan_27 : decode cX8_scan 27 = .ok (.iload_n 2, 1) := by decide +kernel
theorem dX8_scan_28 : decode cX8_scan 28 = .ok (.if_icmp .ge 120, 3) := by decide +kernel
theorem dX8_scan_31 : decode cX8_scan 31 = .ok (.iload 4, 2) := by decide +kernel
theorem dX8_scan_33 : decode cX8_scan 33 = .ok (.iconst 1, 1) := by decide +kernel
theorem dX8_scan_34 : decode cX8_scan 34 = .ok (.iadd, 1) := by decide +kernel
theorem dX8_scan_35 : decode cX8_scan 35 = .ok (.aload_n 0, 1) := by decide +kernel
theorem dX8_scan_36 : decode cX8_scan 36 = .ok (.iload 4, 2) := by decide +kernel
theorem dX8_scan_38 : decode cX8_scan 38 = .ok (.iload_n 2, 1) := by decide +kernel
theorem dX8_scan_39 : decode cX8_scan 39 = .ok (.invokevirtual 41, 3) := by decide +kernel
theorem dX8_scan_42 : decode cX8_scan 42 = .ok (.invokestatic 34, 3) := by decide +kernel
theorem dX8_scan_45 : decode cX8_scan 45 = .ok (.istore 5, 2) := by decide +kernel
theorem dX8_scan_47 : decode cX8_scan 47 = .ok (.aload_n 0, 1) := by decide +kernel
theorem dX8_scan_48 : decode cX8_scan 48 = .ok (.getfield 9, 3) := by decide +kernel
theorem dX8_scan_51 : decode cX8_scan 51 = .ok (.iload 4, 2) := by decide +kernel
theorem dX8_scan_53 : decode cX8_scan 53 = .ok (.baload, 1) := by decide +kernel
theorem dX8_scan_54 : decode cX8_scan 54 = .ok (.invokestatic 44, 3) := by decide +kernel
theorem dX8_scan_57 : decode cX8_scan 57 = .ok (.ifCond .eq 6, 3) := by decide +kernel
theorem dX8_scan_60 : decode cX8_scan 60 = .ok (.goto 81, 3) := by decide +kernel
theorem dX8_scan_63 : decode cX8_scan 63 = .ok (.aload_n 0, 1) := by decide +kernel
theorem dX8_scan_64 : decode cX8_scan 64 = .ok (.getfield 9, 3) := by decide +kernel
theorem dX8_scan_67 : decode cX8_scan 67 = .ok (.iload 4, 2) := by decide +kernel
theorem dX8_scan_69 : decode cX8_scan 69 = .ok (.baload, 1) := by decide +kernel
theorem dX8_scan_70 : decode cX8_scan 70 = .ok (.invokestatic 48, 3) := by decide +kernel
theorem dX8_scan_73 : decode cX8_scan 73 = .ok (.ifCond .ne 16, 3) := by decide +kernel
theorem dX8_scan_76 : decode cX8_scan 76 = .ok (.aload_n 0, 1) := by decide +kernel
theorem dX8_scan_77 : decode cX8_scan 77 = .ok (.getfield 9, 3) := by decide +kernel
theorem dX8_scan_80 : decode cX8_scan 80 = .ok (.iload 4, 2) := by decide +kernel
theorem dX8_scan_82 : decode cX8_scan 82 = .ok (.baload, 1) := by decide +kernel
theorem dX8_scan_83 : decode cX8_scan 83 = .ok (.invokestatic 51, 3) := by decide +kernel
theorem dX8_scan_86 : decode cX8_scan 86 = .ok (.ifCond .eq 7, 3) := by decide +kernel
theorem dX8_scan_89 : decode cX8_scan 89 = .ok (.iconst 1, 1) := by decide +kernel
theorem dX8_scan_90 : decode cX8_scan 90 = .ok (.goto 4, 3) := by decide +kernel
theorem dX8_scan_93 : decode cX8_scan 93 = .ok (.iconst 0, 1) := by decide +kernel
theorem dX8_scan_94 : decode cX8_scan 94 = .ok (.istore 6, 2) := by decide +kernel
theorem dX8_scan_96 : decode cX8_scan 96 = .ok (.aload_n 0, 1) := by decide +kernel
theorem dX8_scan_97 : decode cX8_scan 97 = .ok (.iload 6, 2) := by decide +kernel
theorem dX8_scan_99 : decode cX8_scan 99 = .ok (.ifCond .eq 15, 3) := by decide +kernel
theorem dX8_scan_102 : decode cX8_scan 102 = .ok (.iload 4, 2) := by decide +kernel
theorem dX8_scan_104 : decode cX8_scan 104 = .ok (.iload_n 3, 1) := by decide +kernel
theorem dX8_scan_105 : decode cX8_scan 105 = .ok (.if_icmp .ne 9, 3) := by decide +kernel
theorem dX8_scan_108 : decode cX8_scan 108 = .ok (.getstatic 54, 3) := by decide +kernel
theorem dX8_scan_111 : decode cX8_scan 111 = .ok (.goto 11, 3) := by decide +kernel
theorem dX8_scan_114 : decode cX8_scan 114 = .ok (.aload_n 0, 1) := by decide +kernel
theorem dX8_scan_115 : decode cX8_scan 115 = .ok (.iload 4, 2) := by decide +kernel
theorem dX8_scan_117 : decode cX8_scan 117 = .ok (.iload 5, 2) := by decide +kernel
theorem dX8_scan_119 : decode cX8_scan 119 = .ok (.invokevirtual 58, 3) := by decide +kernel
theorem dX8_scan_122 : decode cX8_scan 122 = .ok (.iload 4, 2) := by decide +kernel
theorem dX8_scan_124 : decode cX8_scan 124 = .ok (.iload 5, 2) := by decide +kernel
theorem dX8_scan_126 : decode cX8_scan 126 = .ok (.invokevirtual 62, 3) := by decide +kernel
theorem dX8_scan_129 : decode cX8_scan 129 = .ok (.iload 6, 2) := by decide +kernel
theorem dX8_scan_131 : decode cX8_scan 131 = .ok (.ifCond .eq 8, 3) := by decide +kernel
theorem dX8_scan_134 : decode cX8_scan 134 = .ok (.iload 5, 2) := by decide +kernel
theorem dX8_scan_136 : decode cX8_scan 136 = .ok (.goto 4, 3) := by decide +kernel
theorem dX8_scan_139 : decode cX8_scan 139 = .ok (.iconst (-1), 1) := by decide +kernel
theorem dX8_scan_140 : decode cX8_scan 140 = .ok (.istore_n 3, 1) := by decide +kernel
theorem dX8_scan_141 : decode cX8_scan 141 = .ok (.iload 5, 2) := by decide +kernel
theorem dX8_scan_143 : decode cX8_scan 143 = .ok (.istore 4, 2) := by decide +kernel
theorem dX8_scan_145 : decode cX8_scan 145 = .ok (.goto (-120), 3) := by decide +kernel
theorem dX8_scan_148 : decode cX8_scan 148 = .ok (.aload_n 0, 1) := by decide +kernel
theorem dX8_scan_149 : decode cX8_scan 149 = .ok (.getstatic 66, 3) := by decide +kernel
theorem dX8_scan_152 : decode cX8_scan 152 = .ok (.iload_n 2, 1) := by decide +kernel
theorem dX8_scan_153 : decode cX8_scan 153 = .ok (.iload_n 2, 1) := by decide +kernel
theorem dX8_scan_154 : decode cX8_scan 154 = .ok (.invokevirtual 62, 3) := by decide +kernel
theorem dX8_scan_157 : decode cX8_scan 157 = .ok (.return_, 1) := by decide +kernel
theorem dX8_endOfRun_0 : decode cX8_endOfRun 0 = .ok (.iload_n 1, 1) := by decide +kernel
theorem dX8_endOfRun_1 : decode cX8_endOfRun 1 = .ok (.istore_n 3, 1) := by decide +kernel
theorem dX8_endOfRun_2 : decode cX8_endOfRun 2 = .ok (.iload_n 3, 1) := by decide +kernel
theorem dX8_endOfRun_3 : decode cX8_endOfRun 3 = .ok (.iload_n 2, 1) := by decide +kernel
theorem dX8_endOfRun_4 : decode cX8_endOfRun 4 = .ok (.if_icmp .ge 21, 3) := by decide +kernel
theorem dX8_endOfRun_7 : decode cX8_endOfRun 7 = .ok (.aload_n 0, 1) := by decide +kernel
theorem dX8_endOfRun_8 : decode cX8_endOfRun 8 = .ok (.getfield 9, 3) := by decide +kernel
theorem dX8_endOfRun_11 : decode cX8_endOfRun 11 = .ok (.iload_n 3, 1) := by decide +kernel
theorem dX8_endOfRun_12 : decode cX8_endOfRun 12 = .ok (.baload, 1) := by decide +kernel
theorem dX8_endOfRun_13 : decode cX8_endOfRun 13 = .ok (.invokestatic 48, 3) := by decide +kernel
theorem dX8_endOfRun_16 : decode cX8_endOfRun 16 = .ok (.ifCond .eq 9, 3) := by decide +kernel
theorem dX8_endOfRun_19 : decode cX8_endOfRun 19 = .ok (.iinc 3 1, 3) := by decide +kernel
theorem dX8_endOfRun_22 : decode cX8_endOfRun 22 = .ok (.goto (-20), 3) := by decide +kernel
theorem dX8_endOfRun_25 : decode cX8_endOfRun 25 = .ok (.iload_n 3, 1) := by decide +kernel
theorem dX8_endOfRun_26 : decode cX8_endOfRun 26 = .ok (.iload_n 1, 1) := by decide +kernel
theorem dX8_endOfRun_27 : decode cX8_endOfRun 27 = .ok (.if_icmp .le 5, 3) := by decide +kernel
theorem dX8_endOfRun_30 : decode cX8_endOfRun 30 = .ok (.iload_n 3, 1) := by decide +kernel
theorem dX8_endOfRun_31 : decode cX8_endOfRun 31 = .ok (.ireturn, 1) := by decide +kernel
theorem dX8_endOfRun_32 : decode cX8_endOfRun 32 = .ok (.iload_n 3, 1) := by decide +kernel
theorem dX8_endOfRun_33 : decode cX8_endOfRun 33 = .ok (.iload_n 2, 1) := by decide +kernel
theorem dX8_endOfRun_34 : decode cX8_endOfRun 34 = .ok (.if_icmp .ge 21, 3) := by decide +kernel
theorem dX8_endOfRun_37 : decode cX8_endOfRun 37 = .ok (.aload_n 0, 1) := by decide +kernel
theorem dX8_endOfRun_38 : decode cX8_endOfRun 38 = .ok (.getfield 9, 3) := by decide +kernel
theorem dX8_endOfRun_41 : decode cX8_endOfRun 41 = .ok (.iload_n 3, 1) := by decide +kernel
theorem dX8_endOfRun_42 : decode cX8_endOfRun 42 = .ok (.baload, 1) := by decide +kernel
theorem dX8_endOfRun_43 : decode cX8_endOfRun 43 = .ok (.invokestatic 51, 3) := by decide +kernel
theorem dX8_endOfRun_46 : decode cX8_endOfRun 46 = .ok (.ifCond .eq 9, 3) := by decide +kernel
theorem dX8_endOfRun_49 : decode cX8_endOfRun 49 = .ok (.iinc 3 1, 3) := by decide +kernel
theorem dX8_endOfRun_52 : decode cX8_endOfRun 52 = .ok (.goto (-20), 3) := by decide +kernel
theorem dX8_endOfRun_55 : decode cX8_endOfRun 55 = .ok (.iload_n 3, 1) := by decide +kernel
theorem dX8_endOfRun_56 : decode cX8_endOfRun 56 = .ok (.ireturn, 1) := by decide +kernel
theorem dX8_kindOf_0 : decode cX8_kindOf 0 = .ok (.aload_n 0, 1) := by decide +kernel
theorem dX8_kindOf_1 : decode cX8_kindOf 1 = .ok (.getfield 9, 3) := by decide +kernel
theorem dX8_kindOf_4 : decode cX8_kindOf 4 = .ok (.iload_n 1, 1) := by decide +kernel
theorem dX8_kindOf_5 : decode cX8_kindOf 5 = .ok (.baload, 1) := by decide +kernel
theorem dX8_kindOf_6 : decode cX8_kindOf 6 = .ok (.invokestatic 51, 3) := by decide +kernel
theorem dX8_kindOf_9 : decode cX8_kindOf 9 = .ok (.ifCond .eq 21, 3) := by decide +kernel
theorem dX8_kindOf_12 : decode cX8_kindOf 12 = .ok (.iload_n 2, 1) := by decide +kernel
theorem dX8_kindOf_13 : decode cX8_kindOf 13 = .ok (.iload_n 1, 1) := by decide +kernel
theorem dX8_kindOf_14 : decode cX8_kindOf 14 = .ok (.isub, 1) := by decide +kernel
theorem dX8_kindOf_15 : decode cX8_kindOf 15 = .ok (.bipush 6, 2) := by decide +kernel
theorem dX8_kindOf_17 : decode cX8_kindOf 17 = .ok (.if_icmp .le 9, 3) := by decide +kernel
theorem dX8_kindOf_20 : decode cX8_kindOf 20 = .ok (.getstatic 54, 3) := by decide +kernel
theorem dX8_kindOf_23 : decode cX8_kindOf 23 = .ok (.goto 6, 3) := by decide +kernel
theorem dX8_kindOf_26 : decode cX8_kindOf 26 = .ok (.getstatic 69, 3) := by decide +kernel
theorem dX8_kindOf_29 : decode cX8_kindOf 29 = .ok (.areturn, 1) := by decide +kernel
theorem dX8_kindOf_30 : decode cX8_kindOf 30 = .ok (.getstatic 72, 3) := by decide +kernel
theorem dX8_kindOf_33 : decode cX8_kindOf 33 = .ok (.astore_n 3, 1) := by decide +kernel
theorem dX8_kindOf_34 : decode cX8_kindOf 34 = .ok (.aload_n 3, 1) := by decide +kernel
theorem dX8_kindOf_35 : decode cX8_kindOf 35 = .ok (.arraylength, 1) := by decide +kernel
theorem dX8_kindOf_36 : decode cX8_kindOf 36 = .ok (.istore 4, 2) := by decide +kernel
theorem dX8_kindOf_38 : decode cX8_kindOf 38 = .ok (.iconst 0, 1) := by decide +kernel
theorem dX8_kindOf_39 : decode cX8_kindOf 39 = .ok (.istore 5, 2) := by decide +kernel
theorem dX8_kindOf_41 : decode cX8_kindOf 41 = .ok (.iload 5, 2) := by decide +kernel
theorem dX8_kindOf_43 : decode cX8_kindOf 43 = .ok (.iload 4, 2) := by decide +kernel
theorem dX8_kindOf_45 : decode cX8_kindOf 45 = .ok (.if_icmp .ge 32, 3) := by decide +kernel
theorem dX8_kindOf_48 : decode cX8_kindOf 48 = .ok (.aload_n 3, 1) := by decide +kernel
theorem dX8_kindOf_49 : decode cX8_kindOf 49 = .ok (.iload 5, 2) := by decide +kernel
theorem dX8_kindOf_51 : decode cX8_kindOf 51 = .ok (.aaload, 1) := by decide +kernel
theorem dX8_kindOf_52 : decode cX8_kindOf 52 = .ok (.astore 6, 2) := by decide +kernel
theorem dX8_kindOf_54 : decode cX8_kindOf 54 = .ok (.aload_n 0, 1) := by decide +kernel
theorem dX8_kindOf_55 : decode cX8_kindOf 55 = .ok (.aload 6, 2) := by decide +kernel
theorem dX8_kindOf_57 : decode cX8_kindOf 57 = .ok (.getfield 75, 3) := by decide +kernel
theorem dX8_kindOf_60 : decode cX8_kindOf 60 = .ok (.iload_n 1, 1) := by decide +kernel
theorem dX8_kindOf_61 : decode cX8_kindOf 61 = .ok (.iload_n 2, 1) := by decide +kernel
theorem dX8_kindOf_62 : decode cX8_kindOf 62 = .ok (.invokevirtual 79, 3) := by decide +kernel
theorem dX8_kindOf_65 : decode cX8_kindOf 65 = .ok (.ifCond .eq 6, 3) := by decide +kernel
theorem dX8_kindOf_68 : decode cX8_kindOf 68 = .ok (.aload 6, 2) := by decide +kernel
theorem dX8_kindOf_70 : decode cX8_kindOf 70 = .ok (.areturn, 1) := by decide +kernel
theorem dX8_kindOf_71 : decode cX8_kindOf 71 = .ok (.iinc 5 1, 3) := by decide +kernel
theorem dX8_kindOf_74 : decode cX8_kindOf 74 = .ok (.goto (-33), 3) := by decide +kernel
theorem dX8_kindOf_77 : decode cX8_kindOf 77 = .ok (.getstatic 54, 3) := by decide +kernel
theorem dX8_kindOf_80 : decode cX8_kindOf 80 = .ok (.areturn, 1) := by decide +kernel
theorem dX8_isSpelled_0 : decode cX8_isSpelled 0 = .ok (.aload_n 1, 1) := by decide +kernel
theorem dX8_isSpelled_1 : decode cX8_isSpelled 1 = .ok (.invokevirtual 83, 3) := by decide +kernel
theorem dX8_isSpelled_4 : decode cX8_isSpelled 4 = .ok (.iload_n 3, 1) := by decide +kernel
theorem dX8_isSpelled_5 : decode cX8_isSpelled 5 = .ok (.iload_n 2, 1) := by decide +kernel
theorem dX8_isSpelled_6 : decode cX8_isSpelled 6 = .ok (.isub, 1) := by decide +kernel
theorem dX8_isSpelled_7 : decode cX8_isSpelled 7 = .ok (.if_icmp .eq 5, 3) := by decide +kernel
theorem dX8_isSpelled_10 : decode cX8_isSpelled 10 = .ok (.iconst 0, 1) := by decide +kernel
theorem dX8_isSpelled_11 : decode cX8_isSpelled 11 = .ok (.ireturn, 1) := by decide +kernel
theorem dX8_isSpelled_12 : decode cX8_isSpelled 12 = .ok (.iload_n 2, 1) := by decide +kernel
theorem dX8_isSpelled_13 : decode cX8_isSpelled 13 = .ok (.istore 4, 2) := by decide +kernel
theorem dX8_isSpelled_15 : decode cX8_isSpelled 15 = .ok (.iload 4, 2) := by decide +kernel
theorem dX8_isSpelled_17 : decode cX8_isSpelled 17 = .ok (.iload_n 3, 1) := by decide +kernel
theorem dX8_isSpelled_18 : decode cX8_isSpelled 18 = .ok (.if_icmp .ge 29, 3) := by decide +kernel
theorem dX8_isSpelled_21 : decode cX8_isSpelled 21 = .ok (.aload_n 0, 1) := by decide +kernel
theorem dX8_isSpelled_22 : decode cX8_isSpelled 22 = .ok (.getfield 9, 3) := by decide +kernel
theorem dX8_isSpelled_25 : decode cX8_isSpelled 25 = .ok (.iload 4, 2) := by decide +kernel
theorem dX8_isSpelled_27 : decode cX8_isSpelled 27 = .ok (.baload, 1) := by decide +kernel
theorem dX8_isSpelled_28 : decode cX8_isSpelled 28 = .ok (.aload_n 1, 1) := by decide +kernel
theorem dX8_isSpelled_29 : decode cX8_isSpelled 29 = .ok (.iload 4, 2) := by decide +kernel
theorem dX8_isSpelled_31 : decode cX8_isSpelled 31 = .ok (.iload_n 2, 1) := by decide +kernel
theorem dX8_isSpelled_32 : decode cX8_isSpelled 32 = .ok (.isub, 1) := by decide +kernel
theorem dX8_isSpelled_33 : decode cX8_isSpelled 33 = .ok (.invokevirtual 89, 3) := by decide +kernel
theorem dX8_isSpelled_36 : decode cX8_isSpelled 36 = .ok (.if_icmp .eq 5, 3) := by decide +kernel
theorem dX8_isSpelled_39 : decode cX8_isSpelled 39 = .ok (.iconst 0, 1) := by decide +kernel
theorem dX8_isSpelled_40 : decode cX8_isSpelled 40 = .ok (.ireturn, 1) := by decide +kernel
theorem dX8_isSpelled_41 : decode cX8_isSpelled 41 = .ok (.iinc 4 1, 3) := by decide +kernel
theorem dX8_isSpelled_44 : decode cX8_isSpelled 44 = .ok (.goto (-29), 3) := by decide +kernel
theorem dX8_isSpelled_47 : decode cX8_isSpelled 47 = .ok (.iconst 1, 1) := by decide +kernel
theorem dX8_isSpelled_48 : decode cX8_isSpelled 48 = .ok (.ireturn, 1) := by decide +kernel
theorem dX8_addToken_0 : decode cX8_addToken 0 = .ok (.aload_n 0, 1) := by decide +kernel
theorem dX8_addToken_1 : decode cX8_addToken 1 = .ok (.getfield 37, 3) := by decide +kernel
theorem dX8_addToken_4 : decode cX8_addToken 4 = .ok (.sipush 900, 3) := by decide +kernel
theorem dX8_addToken_7 : decode cX8_addToken 7 = .ok (.if_icmp .le 4, 3) := by decide +kernel
theorem dX8_addToken_10 : decode cX8_addToken 10 = .ok (.return_, 1) := by decide +kernel
theorem dX8_addToken_11 : decode cX8_addToken 11 = .ok (.aload_n 0, 1) := by decide +kernel
theorem dX8_addToken_12 : decode cX8_addToken 12 = .ok (.getfield 17, 3) := by decide +kernel
theorem dX8_addToken_15 : decode cX8_addToken 15 = .ok (.aload_n 0, 1) := by decide +kernel
theorem dX8_addToken_16 : decode cX8_addToken 16 = .ok (.getfield 37, 3) := by decide +kernel
theorem dX8_addToken_19 : decode cX8_addToken 19 = .ok (.aload_n 1, 1) := by decide +kernel
theorem dX8_addToken_20 : decode cX8_addToken 20 = .ok (.aastore, 1) := by decide +kernel
theorem dX8_addToken_21 : decode cX8_addToken 21 = .ok (.aload_n 0, 1) := by decide +kernel
theorem dX8_addToken_22 : decode cX8_addToken 22 = .ok (.getfield 21, 3) := by decide +kernel
theorem dX8_addToken_25 : decode cX8_addToken 25 = .ok (.aload_n 0, 1) := by decide +kernel
theorem dX8_addToken_26 : decode cX8_addToken 26 = .ok (.getfield 37, 3) := by decide +kernel
theorem dX8_addToken_29 : decode cX8_addToken 29 = .ok (.iload_n 2, 1) := by decide +kernel
theorem dX8_addToken_30 : decode cX8_addToken 30 = .ok (.iastore, 1) := by decide +kernel
theorem dX8_addToken_31 : decode cX8_addToken 31 = .ok (.aload_n 0, 1) := by decide +kernel
theorem dX8_addToken_32 : decode cX8_addToken 32 = .ok (.getfield 25, 3) := by decide +kernel
theorem dX8_addToken_35 : decode cX8_addToken 35 = .ok (.aload_n 0, 1) := by decide +kernel
theorem dX8_addToken_36 : decode cX8_addToken 36 = .ok (.getfield 37, 3) := by decide +kernel
theorem dX8_addToken_39 : decode cX8_addToken 39 = .ok (.aload_n 1, 1) := by decide +kernel
theorem dX8_addToken_40 : decode cX8_addToken 40 = .ok (.getstatic 69, 3) := by decide +kernel
theorem dX8_addToken_43 : decode cX8_addToken 43 = .ok (.if_acmp .ne 12, 3) := by decide +kernel
theorem dX8_addToken_46 : decode cX8_addToken 46 = .ok (.aload_n 0, 1) := by decide +kernel
theorem dX8_addToken_47 : decode cX8_addToken 47 = .ok (.iload_n 2, 1) := by decide +kernel
theorem dX8_addToken_48 : decode cX8_addToken 48 = .ok (.iload_n 3, 1) := by decide +kernel
theorem dX8_addToken_49 : decode cX8_addToken 49 = .ok (.invokevirtual 93, 3) := by decide +kernel
theorem dX8_addToken_52 : decode cX8_addToken 52 = .ok (.goto 4, 3) := by decide +kernel
theorem dX8_addToken_55 : decode cX8_addToken 55 = .ok (.iconst 0, 1) := by decide +kernel
theorem dX8_addToken_56 : decode cX8_addToken 56 = .ok (.iastore, 1) := by decide +kernel
theorem dX8_addToken_57 : decode cX8_addToken 57 = .ok (.aload_n 0, 1) := by decide +kernel
theorem dX8_addToken_58 : decode cX8_addToken 58 = .ok (.dup, 1) := by decide +kernel
theorem dX8_addToken_59 : decode cX8_addToken 59 = .ok (.getfield 37, 3) := by decide +kernel
theorem dX8_addToken_62 : decode cX8_addToken 62 = .ok (.iconst 1, 1) := by decide +kernel
theorem dX8_addToken_63 : decode cX8_addToken 63 = .ok (.iadd, 1) := by decide +kernel
theorem dX8_addToken_64 : decode cX8_addToken 64 = .ok (.putfield 37, 3) := by decide +kernel
theorem dX8_addToken_67 : decode cX8_addToken 67 = .ok (.return_, 1) := by decide +kernel
theorem dX8_numberAt_0 : decode cX8_numberAt 0 = .ok (.iconst 0, 1) := by decide +kernel
theorem dX8_numberAt_1 : decode cX8_numberAt 1 = .ok (.istore_n 3, 1) := by decide +kernel
theorem dX8_numberAt_2 : decode cX8_numberAt 2 = .ok (.iload_n 1, 1) := by decide +kernel
theorem dX8_numberAt_3 : decode cX8_numberAt 3 = .ok (.istore 4, 2) := by decide +kernel
theorem dX8_numberAt_5 : decode cX8_numberAt 5 = .ok (.iload 4, 2) := by decide +kernel
theorem dX8_numberAt_7 : decode cX8_numberAt 7 = .ok (.iload_n 2, 1) := by decide +kernel
theorem dX8_numberAt_8 : decode cX8_numberAt 8 = .ok (.if_icmp .ge 25, 3) := by decide +kernel
theorem dX8_numberAt_11 : decode cX8_numberAt 11 = .ok (.iload_n 3, 1) := by decide +kernel
theorem dX8_numberAt_12 : decode cX8_numberAt 12 = .ok (.bipush 10, 2) := by decide +kernel
theorem dX8_numberAt_14 : decode cX8_numberAt 14 = .ok (.imul, 1) := by decide +kernel
theorem dX8_numberAt_15 : decode cX8_numberAt 15 = .ok (.aload_n 0, 1) := by decide +kernel
theorem dX8_numberAt_16 : decode cX8_numberAt 16 = .ok (.getfield 9, 3) := by decide +kernel
theorem dX8_numberAt_19 : decode cX8_numberAt 19 = .ok (.iload 4, 2) := by decide +kernel
theorem dX8_numberAt_21 : decode cX8_numberAt 21 = .ok (.baload, 1) := by decide +kernel
theorem dX8_numberAt_22 : decode cX8_numberAt 22 = .ok (.bipush 48, 2) := by decide +kernel
theorem dX8_numberAt_24 : decode cX8_numberAt 24 = .ok (.isub, 1) := by decide +kernel
theorem dX8_numberAt_25 : decode cX8_numberAt 25 = .ok (.iadd, 1) := by decide +kernel
theorem dX8_numberAt_26 : decode cX8_numberAt 26 = .ok (.istore_n 3, 1) := by decide +kernel
theorem dX8_numberAt_27 : decode cX8_numberAt 27 = .ok (.iinc 4 1, 3) := by decide +kernel
theorem dX8_numberAt_30 : decode cX8_numberAt 30 = .ok (.goto (-25), 3) := by decide +kernel
theorem dX8_numberAt_33 : decode cX8_numberAt 33 = .ok (.iload_n 3, 1) := by decide +kernel
theorem dX8_numberAt_34 : decode cX8_numberAt 34 = .ok (.ireturn, 1) := by decide +kernel
theorem dX8_isBlank_0 : decode cX8_isBlank 0 = .ok (.iload_n 0, 1) := by decide +kernel
theorem dX8_isBlank_1 : decode cX8_isBlank 1 = .ok (.bipush 32, 2) := by decide +kernel
theorem dX8_isBlank_3 : decode cX8_isBlank 3 = .ok (.if_icmp .eq 9, 3) := by decide +kernel
theorem dX8_isBlank_6 : decode cX8_isBlank 6 = .ok (.iload_n 0, 1) := by decide +kernel
theorem dX8_isBlank_7 : decode cX8_isBlank 7 = .ok (.bipush 10, 2) := by decide +kernel
theorem dX8_isBlank_9 : decode cX8_isBlank 9 = .ok (.if_icmp .ne 7, 3) := by decide +kernel
theorem dX8_isBlank_12 : decode cX8_isBlank 12 = .ok (.iconst 1, 1) := by decide +kernel
theorem dX8_isBlank_13 : decode cX8_isBlank 13 = .ok (.goto 4, 3) := by decide +kernel
theorem dX8_isBlank_16 : decode cX8_isBlank 16 = .ok (.iconst 0, 1) := by decide +kernel
theorem dX8_isBlank_17 : decode cX8_isBlank 17 = .ok (.ireturn, 1) := by decide +kernel
theorem dX8_isLetter_0 : decode cX8_isLetter 0 = .ok (.iload_n 0, 1) := by decide +kernel
theorem dX8_isLetter_1 : decode cX8_isLetter 1 = .ok (.bipush 97, 2) := by decide +kernel
theorem dX8_isLetter_3 : decode cX8_isLetter 3 = .ok (.if_icmp .lt 13, 3) := by decide +kernel
theorem dX8_isLetter_6 : decode cX8_isLetter 6 = .ok (.iload_n 0, 1) := by decide +kernel
theorem dX8_isLetter_7 : decode cX8_isLetter 7 = .ok (.bipush 122, 2) := by decide +kernel
theorem dX8_isLetter_9 : decode cX8_isLetter 9 = .ok (.if_icmp .gt 7, 3) := by decide +kernel
theorem dX8_isLetter_12 : decode cX8_isLetter 12 = .ok (.iconst 1, 1) := by decide +kernel
theorem dX8_isLetter_13 : decode cX8_isLetter 13 = .ok (.goto 4, 3) := by decide +kernel
theorem dX8_isLetter_16 : decode cX8_isLetter 16 = .ok (.iconst 0, 1) := by decide +kernel
theorem dX8_isLetter_17 : decode cX8_isLetter 17 = .ok (.ireturn, 1) := by decide +kernel
theorem dX8_isDigit_0 : decode cX8_isDigit 0 = .ok (.iload_n 0, 1) := by decide +kernel
theorem dX8_isDigit_1 : decode cX8_isDigit 1 = .ok (.bipush 48, 2) := by decide +kernel
theorem dX8_isDigit_3 : decode cX8_isDigit 3 = .ok (.if_icmp .lt 13, 3) := by decide +kernel
theorem dX8_isDigit_6 : decode cX8_isDigit 6 = .ok (.iload_n 0, 1) := by decide +kernel
theorem dX8_isDigit_7 : decode cX8_isDigit 7 = .ok (.bipush 57, 2) := by decide +kernel
theorem dX8_isDigit_9 : decode cX8_isDigit 9 = .ok (.if_icmp .gt 7, 3) := by decide +kernel
theorem dX8_isDigit_12 : decode cX8_isDigit 12 = .ok (.iconst 1, 1) := by decide +kernel
theorem dX8_isDigit_13 : decode cX8_isDigit 13 = .ok (.goto 4, 3) := by decide +kernel
theorem dX8_isDigit_16 : decode cX8_isDigit 16 = .ok (.iconst 0, 1) := by decide +kernel
theorem dX8_isDigit_17 : decode cX8_isDigit 17 = .ok (.ireturn, 1) := by decide +kernel
theorem dX9_init_0 : decode cX9_init 0 = .ok (.aload_n 0, 1) := by decide +kernel
theorem dX9_init_1 : decode cX9_init 1 = .ok (.invokespecial 1, 3) := by decide +kernel
theorem dX9_init_4 : decode cX9_init 4 = .ok (.aload_n 0, 1) := by decide +kernel
theorem dX9_init_5 : decode cX9_init 5 = .ok (.new 7, 3) := by decide +kernel
theorem dX9_init_8 : decode cX9_init 8 = .ok (.dup, 1) := by decide +kernel
theorem dX9_init_9 : decode cX9_init 9 = .ok (.invokespecial 9, 3) := by decide +kernel
theorem dX9_init_12 : decode cX9_init 12 = .ok (.putfield 10, 3) := by decide +kernel
theorem dX9_init_15 : decode cX9_init 15 = .ok (.aload_n 0, 1) := by decide +kernel
theorem dX9_init_16 : decode cX9_init 16 = .ok (.new 16, 3) := by decide +kernel
theorem dX9_init_19 : decode cX9_init 19 = .ok (.dup, 1) := by decide +kernel
theorem dX9_init_20 : decode cX9_init 20 = .ok (.invokespecial 18, 3) := by decide +kernel
theorem dX9_init_23 : decode cX9_init 23 = .ok (.putfield 19, 3) := by decide +kernel
theorem dX9_init_26 : decode cX9_init 26 = .ok (.return_, 1) := by decide +kernel
theorem dX9_feed_0 : decode cX9_feed 0 = .ok (.aload_n 0, 1) := by decide +kernel
theorem dX9_feed_1 : decode cX9_feed 1 = .ok (.getfield 23, 3) := by decide +kernel
theorem dX9_feed_4 : decode cX9_feed 4 = .ok (.sipush 880, 3) := by decide +kernel
theorem dX9_feed_7 : decode cX9_feed 7 = .ok (.if_icmp .le 13, 3) := by decide +kernel
theorem dX9_feed_10 : decode cX9_feed 10 = .ok (.new 27, 3) := by decide +kernel
theorem dX9_feed_13 : decode cX9_feed 13 = .ok (.dup, 1) := by decide +kernel
theorem dX9_feed_14 : decode cX9_feed 14 = .ok (.ldc 29, 2) := by decide +kernel
theorem dX9_feed_16 : decode cX9_feed 16 = .ok (.invokespecial 31, 3) := by decide +kernel
theorem dX9_feed_19 : decode cX9_feed 19 = .ok (.athrow, 1) := by decide +kernel
theorem dX9_feed_20 : decode cX9_feed 20 = .ok (.aload_n 0, 1) := by decide +kernel
theorem dX9_feed_21 : decode cX9_feed 21 = .ok (.iload_n 1, 1) := by decide +kernel
theorem dX9_feed_22 : decode cX9_feed 22 = .ok (.invokevirtual 34, 3) := by decide +kernel
theorem dX9_feed_25 : decode cX9_feed 25 = .ok (.aload_n 0, 1) := by decide +kernel
theorem dX9_feed_26 : decode cX9_feed 26 = .ok (.iload_n 2, 1) := by decide +kernel
theorem dX9_feed_27 : decode cX9_feed 27 = .ok (.invokevirtual 34, 3) := by decide +kernel
theorem dX9_feed_30 : decode cX9_feed 30 = .ok (.aload_n 0, 1) := by decide +kernel
theorem dX9_feed_31 : decode cX9_feed 31 = .ok (.iload_n 3, 1) := by decide +kernel
theorem dX9_feed_32 : decode cX9_feed 32 = .ok (.invokevirtual 34, 3) := by decide +kernel
theorem dX9_feed_35 : decode cX9_feed 35 = .ok (.aload_n 0, 1) := by decide +kernel
theorem dX9_feed_36 : decode cX9_feed 36 = .ok (.iload 4, 2) := by decide +kernel
theorem dX9_feed_38 : decode cX9_feed 38 = .ok (.invokevirtual 34, 3) := by decide +kernel
theorem dX9_feed_41 : decode cX9_feed 41 = .ok (.aload_n 0, 1) := by decide +kernel
theorem dX9_feed_42 : decode cX9_feed 42 = .ok (.iload 5, 2) := by decide +kernel
theorem dX9_feed_44 : decode cX9_feed 44 = .ok (.invokevirtual 34, 3) := by decide +kernel
theorem dX9_feed_47 : decode cX9_feed 47 = .ok (.aload_n 0, 1) := by decide +kernel
theorem dX9_feed_48 : decode cX9_feed 48 = .ok (.getfield 23, 3) := by decide +kernel
theorem dX9_feed_51 : decode cX9_feed 51 = .ok (.ireturn, 1) := by decide +kernel
theorem dX9_putBytes_0 : decode cX9_putBytes 0 = .ok (.bipush 24, 2) := by decide +kernel
theorem dX9_putBytes_2 : decode cX9_putBytes 2 = .ok (.istore_n 2, 1) := by decide +kernel
theorem dX9_putBytes_3 : decode cX9_putBytes 3 = .ok (.iload_n 2, 1) := by decide +kernel
theorem dX9_putBytes_4 : decode cX9_putBytes 4 = .ok (.ifCond .lt 48, 3) := by decide +kernel
theorem dX9_putBytes_7 : decode cX9_putBytes 7 = .ok (.aload_n 0, 1) := by decide +kernel
theorem dX9_putBytes_8 : decode cX9_putBytes 8 = .ok (.getfield 23, 3) := by decide +kernel
theorem dX9_putBytes_11 : decode cX9_putBytes 11 = .ok (.sipush 900, 3) := by decide +kernel
theorem dX9_putBytes_14 : decode cX9_putBytes 14 = .ok (.if_icmp .ge 38, 3) := by decide +kernel
theorem dX9_putBytes_17 : decode cX9_putBytes 17 = .ok (.aload_n 0, 1) := by decide +kernel
theorem dX9_putBytes_18 : decode cX9_putBytes 18 = .ok (.getfield 10, 3) := by decide +kernel
theorem dX9_putBytes_21 : decode cX9_putBytes 21 = .ok (.getfield 38, 3) := by decide +kernel
theorem dX9_putBytes_24 : decode cX9_putBytes 24 = .ok (.getfield 42, 3) := by decide +kernel
theorem dX9_putBytes_27 : decode cX9_putBytes 27 = .ok (.aload_n 0, 1) := by decide +kernel
theorem dX9_putBytes_28 : decode cX9_putBytes 28 = .ok (.getfield 23, 3) := by decide +kernel
theorem dX9_putBytes_31 : decode cX9_putBytes 31 = .ok (.iload_n 1, 1) := by decide +kernel
theorem dX9_putBytes_32 : decode cX9_putBytes 32 = .ok (.iload_n 2, 1) := by decide +kernel
theorem dX9_putBytes_33 : decode cX9_putBytes 33 = .ok (.iushr, 1) := by decide +kernel
theorem dX9_putBytes_34 : decode cX9_putBytes 34 = .ok (.i2b, 1) := by decide +kernel
theorem dX9_putBytes_35 : decode cX9_putBytes 35 = .ok (.bastore, 1) := by decide +kernel
theorem dX9_putBytes_36 : decode cX9_putBytes 36 = .ok (.aload_n 0, 1) := by decide +kernel
theorem dX9_putBytes_37 : decode cX9_putBytes 37 = .ok (.dup, 1) := by decide +kernel
theorem dX9_putBytes_38 : decode cX9_putBytes 38 = .ok (.getfield 23, 3) := by decide +kernel
theorem dX9_putBytes_41 : decode cX9_putBytes 41 = .ok (.iconst 1, 1) := by decide +kernel
theorem dX9_putBytes_42 : decode cX9_putBytes 42 = .ok (.iadd, 1) := by decide +kernel
theorem dX9_putBytes_43 : decode cX9_putBytes 43 = .ok (.putfield 23, 3) := by decide +kernel
theorem dX9_putBytes_46 : decode cX9_putBytes 46 = .ok (.iinc 2 (-8), 3) := by decide +kernel
theorem dX9_putBytes_49 : decode cX9_putBytes 49 = .ok (.goto (-46), 3) := by decide +kernel
theorem dX9_putBytes_52 : decode cX9_putBytes 52 = .ok (.return_, 1) := by decide +kernel
theorem dX9_load_0 : decode cX9_load 0 = .ok (.aload_n 0, 1) := by decide +kernel
theorem dX9_load_1 : decode cX9_load 1 = .ok (.iload_n 1, 1) := by decide +kernel
theorem dX9_load_2 : decode cX9_load 2 = .ok (.invokevirtual 48, 3) := by decide +kernel
theorem dX9_load_5 : decode cX9_load 5 = .ok (.aload_n 0, 1) := by decide +kernel
theorem dX9_load_6 : decode cX9_load 6 = .ok (.getfield 10, 3) := by decide +kernel
theorem dX9_load_9 : decode cX9_load 9 = .ok (.iload_n 1, 1) := by decide +kernel
theorem dX9_load_10 : decode cX9_load 10 = .ok (.invokevirtual 51, 3) := by decide +kernel
theorem dX9_load_13 : decode cX9_load 13 = .ok (.aload_n 0, 1) := by decide +kernel
theorem dX9_load_14 : decode cX9_load 14 = .ok (.getfield 10, 3) := by decide +kernel
theorem dX9_load_17 : decode cX9_load 17 = .ok (.invokevirtual 54, 3) := by decide +kernel
theorem dX9_load_20 : decode cX9_load 20 = .ok (.ifCond .eq 13, 3) := by decide +kernel
theorem dX9_load_23 : decode cX9_load 23 = .ok (.new 27, 3) := by decide +kernel
theorem dX9_load_26 : decode cX9_load 26 = .ok (.dup, 1) := by decide +kernel
theorem dX9_load_27 : decode cX9_load 27 = .ok (.ldc 58, 2) := by decide +kernel
theorem dX9_load_29 : decode cX9_load 29 = .ok (.invokespecial 31, 3) := by decide +kernel
theorem dX9_load_32 : decode cX9_load 32 = .ok (.athrow, 1) := by decide +kernel
theorem dX9_load_33 : decode cX9_load 33 = .ok (.aload_n 0, 1) := by decide +kernel
theorem dX9_load_34 : decode cX9_load 34 = .ok (.getfield 19, 3) := by decide +kernel
theorem dX9_load_37 : decode cX9_load 37 = .ok (.aload_n 0, 1) := by decide +kernel
theorem dX9_load_38 : decode cX9_load 38 = .ok (.getfield 10, 3) := by decide +kernel
theorem dX9_load_41 : decode cX9_load 41 = .ok (.getfield 60, 3) := by decide +kernel
theorem dX9_load_44 : decode cX9_load 44 = .ok (.aload_n 0, 1) := by decide +kernel
theorem dX9_load_45 : decode cX9_load 45 = .ok (.getfield 10, 3) := by decide +kernel
theorem dX9_load_48 : decode cX9_load 48 = .ok (.getfield 63, 3) := by decide +kernel
theorem dX9_load_51 : decode cX9_load 51 = .ok (.aload_n 0, 1) := by decide +kernel
theorem dX9_load_52 : decode cX9_load 52 = .ok (.getfield 10, 3) := by decide +kernel
theorem dX9_load_55 : decode cX9_load 55 = .ok (.getfield 66, 3) := by decide +kernel
theorem dX9_load_58 : decode cX9_load 58 = .ok (.invokevirtual 69, 3) := by decide +kernel
theorem dX9_load_61 : decode cX9_load 61 = .ok (.aload_n 0, 1) := by decide +kernel
theorem dX9_load_62 : decode cX9_load 62 = .ok (.iconst 0, 1) := by decide +kernel
theorem dX9_load_63 : decode cX9_load 63 = .ok (.putfield 73, 3) := by decide +kernel
theorem dX9_load_66 : decode cX9_load 66 = .ok (.aload_n 0, 1) := by decide +kernel
theorem dX9_load_67 : decode cX9_load 67 = .ok (.getfield 19, 3) := by decide +kernel
theorem dX9_load_70 : decode cX9_load 70 = .ok (.getfield 76, 3) := by decide +kernel
theorem dX9_load_73 : decode cX9_load 73 = .ok (.ireturn, 1) := by decide +kernel
theorem dX9_run_0 : decode cX9_run 0 = .ok (.aload_n 0, 1) := by decide +kernel
theorem dX9_run_1 : decode cX9_run 1 = .ok (.iload_n 1, 1) := by decide +kernel
theorem dX9_run_2 : decode cX9_run 2 = .ok (.invokevirtual 48, 3) := by decide +kernel
theorem dX9_run_5 : decode cX9_run 5 = .ok (.aload_n 0, 1) := by decide +kernel
theorem dX9_run_6 : decode cX9_run 6 = .ok (.getfield 19, 3) := by decide +kernel
theorem dX9_run_9 : decode cX9_run 9 = .ok (.getfield 76, 3) := by decide +kernel
theorem dX9_run_12 : decode cX9_run 12 = .ok (.ifCond .ne 13, 3) := by decide +kernel
theorem dX9_run_15 : decode cX9_run 15 = .ok (.new 27, 3) := by decide +kernel
theorem dX9_run_18 : decode cX9_run 18 = .ok (.dup, 1) := by decide +kernel
theorem dX9_run_19 : decode cX9_run 19 = .ok (.ldc 77, 2) := by decide +kernel
theorem dX9_run_21 : decode cX9_run 21 = .ok (.invokespecial 31, 3) := by decide +kernel
theorem dX9_run_24 : decode cX9_run 24 = .ok (.athrow, 1) := by decide +kernel
theorem dX9_run_25 : decode cX9_run 25 = .ok (.aload_n 0, 1) := by decide +kernel
theorem dX9_run_26 : decode cX9_run 26 = .ok (.getfield 10, 3) := by decide +kernel
theorem dX9_run_29 : decode cX9_run 29 = .ok (.iload_n 1, 1) := by decide +kernel
theorem dX9_run_30 : decode cX9_run 30 = .ok (.aload_n 0, 1) := by decide +kernel
theorem dX9_run_31 : decode cX9_run 31 = .ok (.getfield 19, 3) := by decide +kernel
theorem dX9_run_34 : decode cX9_run 34 = .ok (.getfield 76, 3) := by decide +kernel
theorem dX9_run_37 : decode cX9_run 37 = .ok (.aload_n 0, 1) := by decide +kernel
theorem dX9_run_38 : decode cX9_run 38 = .ok (.getfield 19, 3) := by decide +kernel
theorem dX9_run_41 : decode cX9_run 41 = .ok (.getfield 79, 3) := by decide +kernel
theorem dX9_run_44 : decode cX9_run 44 = .ok (.invokevirtual 80, 3) := by decide +kernel
theorem dX9_run_47 : decode cX9_run 47 = .ok (.aload_n 0, 1) := by decide +kernel
theorem dX9_run_48 : decode cX9_run 48 = .ok (.getfield 10, 3) := by decide +kernel
theorem dX9_run_51 : decode cX9_run 51 = .ok (.invokevirtual 54, 3) := by decide +kernel
theorem dX9_run_54 : decode cX9_run 54 = .ok (.ifCond .eq 13, 3) := by decide +kernel
theorem dX9_run_57 : decode cX9_run 57 = .ok (.new 27, 3) := by decide +kernel
theorem dX9_run_60 : decode cX9_run 60 = .ok (.dup, 1) := by decide +kernel
theorem dX9_run_61 : decode cX9_run 61 = .ok (.ldc 83, 2) := by decide +kernel
theorem dX9_run_63 : decode cX9_run 63 = .ok (.invokespecial 31, 3) := by decide +kernel
theorem dX9_run_66 : decode cX9_run 66 = .ok (.athrow, 1) := by decide +kernel
theorem dX9_run_67 : decode cX9_run 67 = .ok (.iconst 0, 1) := by decide +kernel
theorem dX9_run_68 : decode cX9_run 68 = .ok (.istore_n 2, 1) := by decide +kernel
theorem dX9_run_69 : decode cX9_run 69 = .ok (.iconst 0, 1) := by decide +kernel
theorem dX9_run_70 : decode cX9_run 70 = .ok (.istore_n 3, 1) := by decide +kernel
theorem dX9_run_71 : decode cX9_run 71 = .ok (.iload_n 3, 1) := by decide +kernel
theorem dX9_run_72 : decode cX9_run 72 = .ok (.aload_n 0, 1) := by decide +kernel
theorem dX9_run_73 : decode cX9_run 73 = .ok (.getfield 10, 3) := by decide +kernel
theorem dX9_run_76 : decode cX9_run 76 = .ok (.getfield 85, 3) := by decide +kernel
theorem dX9_run_79 : decode cX9_run 79 = .ok (.if_icmp .ge 28, 3) := by decide +kernel
theorem dX9_run_82 : decode cX9_run 82 = .ok (.aload_n 0, 1) := by decide +kernel
theorem dX9_run_83 : decode cX9_run 83 = .ok (.aload_n 0, 1) := by decide +kernel
theorem dX9_run_84 : decode cX9_run 84 = .ok (.getfield 10, 3) := by decide +kernel
theorem dX9_run_87 : decode cX9_run 87 = .ok (.getfield 88, 3) := by decide +kernel
theorem dX9_run_90 : decode cX9_run 90 = .ok (.iload_n 3, 1) := by decide +kernel
theorem dX9_run_91 : decode cX9_run 91 = .ok (.aaload, 1) := by decide +kernel
theorem dX9_run_92 : decode cX9_run 92 = .ok (.invokevirtual 92, 3) := by decide +kernel
theorem dX9_run_95 : decode cX9_run 95 = .ok (.ifCond .lt 6, 3) := by decide +kernel
theorem dX9_run_98 : decode cX9_run 98 = .ok (.iinc 2 1, 3) := by decide +kernel
theorem dX9_run_101 : decode cX9_run 101 = .ok (.iinc 3 1, 3) := by decide +kernel
theorem dX9_run_104 : decode cX9_run 104 = .ok (.goto (-33), 3) := by decide +kernel
theorem dX9_run_107 : decode cX9_run 107 = .ok (.aload_n 0, 1) := by decide +kernel
theorem dX9_run_108 : decode cX9_run 108 = .ok (.aload_n 0, 1) := by decide +kernel
theorem dX9_run_109 : decode cX9_run 109 = .ok (.getfield 10, 3) := by decide +kernel
theorem dX9_run_112 : decode cX9_run 112 = .ok (.getfield 85, 3) := by decide +kernel
theorem dX9_run_115 : decode cX9_run 115 = .ok (.iload_n 2, 1) := by decide +kernel
theorem dX9_run_116 : decode cX9_run 116 = .ok (.isub, 1) := by decide +kernel
theorem dX9_run_117 : decode cX9_run 117 = .ok (.putfield 73, 3) := by decide +kernel
theorem dX9_run_120 : decode cX9_run 120 = .ok (.iload_n 2, 1) := by decide +kernel
theorem dX9_run_121 : decode cX9_run 121 = .ok (.ireturn, 1) := by decide +kernel
theorem dX9_takeBuffer_0 : decode cX9_takeBuffer 0 = .ok (.iload_n 1, 1) := by decide +kernel
theorem dX9_takeBuffer_1 : decode cX9_takeBuffer 1 = .ok (.ifCond .lt 11, 3) := by decide +kernel
theorem dX9_takeBuffer_4 : decode cX9_takeBuffer 4 = .ok (.iload_n 1, 1) := by decide +kernel
theorem dX9_takeBuffer_5 : decode cX9_takeBuffer 5 = .ok (.aload_n 0, 1) := by decide +kernel
theorem dX9_takeBuffer_6 : decode cX9_takeBuffer 6 = .ok (.getfield 23, 3) := by decide +kernel
theorem dX9_takeBuffer_9 : decode cX9_takeBuffer 9 = .ok (.if_icmp .le 13, 3) := by decide +kernel
theorem dX9_takeBuffer_12 : decode cX9_takeBuffer 12 = .ok (.new 96, 3) := by decide +kernel
theorem dX9_takeBuffer_15 : decode cX9_takeBuffer 15 = .ok (.dup, 1) := by decide +kernel
theorem dX9_takeBuffer_16 : decode cX9_takeBuffer 16 = .ok (.ldc 98, 2) := by decide +kernel
theorem dX9_takeBuffer_18 : decode cX9_takeBuffer 18 = .ok (.invokespecial 100, 3) := by decide +kernel
theorem dX9_takeBuffer_21 : decode cX9_takeBuffer 21 = .ok (.athrow, 1) := by decide +kernel
theorem dX9_takeBuffer_22 : decode cX9_takeBuffer 22 = .ok (.aload_n 0, 1) := by decide +kernel
theorem dX9_takeBuffer_23 : decode cX9_takeBuffer 23 = .ok (.iconst 0, 1) := by decide +kernel
theorem dX9_takeBuffer_24 : decode cX9_takeBuffer 24 = .ok (.putfield 23, 3) := by decide +kernel
theorem dX9_takeBuffer_27 : decode cX9_takeBuffer 27 = .ok (.return_, 1) := by decide +kernel
theorem dX9_doStep_0 : decode cX9_doStep 0 = .ok (.aload_n 1, 1) := by decide +kernel
theorem dX9_doStep_1 : decode cX9_doStep 1 = .ok (.getfield 101, 3) := by decide +kernel
theorem dX9_doStep_4 : decode cX9_doStep 4 = .ok (.iconst 0, 1) := by decide +kernel
theorem dX9_doStep_5 : decode cX9_doStep 5 = .ok (.iaload, 1) := by decide +kernel
theorem dX9_doStep_6 : decode cX9_doStep 6 = .ok (.istore_n 2, 1) := by decide +kernel
theorem dX9_doStep_7 : decode cX9_doStep 7 = .ok (.aload_n 1, 1) := by decide +kernel
theorem dX9_doStep_8 : decode cX9_doStep 8 = .ok (.getfield 101, 3) := by decide +kernel
theorem dX9_doStep_11 : decode cX9_doStep 11 = .ok (.iconst 1, 1) := by decide +kernel
theorem dX9_doStep_12 : decode cX9_doStep 12 = .ok (.iaload, 1) := by decide +kernel
theorem dX9_doStep_13 : decode cX9_doStep 13 = .ok (.istore_n 3, 1) := by decide +kernel
theorem dX9_doStep_14 : decode cX9_doStep 14 = .ok (.aload_n 1, 1) := by decide +kernel
theorem dX9_doStep_15 : decode cX9_doStep 15 = .ok (.getfield 101, 3) := by decide +kernel
theorem dX9_doStep_18 : decode cX9_doStep 18 = .ok (.iconst 2, 1) := by decide +kernel
theorem dX9_doStep_19 : decode cX9_doStep 19 = .ok (.iaload, 1) := by decide +kernel
theorem dX9_doStep_20 : decode cX9_doStep 20 = .ok (.istore 4, 2) := by decide +kernel
theorem dX9_doStep_22 : decode cX9_doStep 22 = .ok (.getstatic 107, 3) := by decide +kernel
theorem dX9_doStep_25 : decode cX9_doStep 25 = .ok (.aload_n 1, 1) := by decide +kernel
theorem dX9_doStep_26 : decode cX9_doStep 26 = .ok (.getfield 112, 3) := by decide +kernel
theorem dX9_doStep_29 : decode cX9_doStep 29 = .ok (.invokevirtual 116, 3) := by decide +kernel
theorem dX9_doStep_32 : decode cX9_doStep 32 = .ok (.iaload, 1) := by decide +kernel
theorem dX9_doStep_33 : decode cX9_doStep 33 = .ok (.tableswitch 143 1 9 #[51, 63, 73, 82, 92, 102, 114, 124, 133], 51) := by decide +kernel
theorem dX9_doStep_84 : decode cX9_doStep 84 = .ok (.aload_n 0, 1) := by decide +kernel
theorem dX9_doStep_85 : decode cX9_doStep 85 = .ok (.getfield 19, 3) := by decide +kernel
theorem dX9_doStep_88 : decode cX9_doStep 88 = .ok (.iload_n 2, 1) := by decide +kernel
theorem dX9_doStep_89 : decode cX9_doStep 89 = .ok (.iload_n 3, 1) := by decide +kernel
theorem dX9_doStep_90 : decode cX9_doStep 90 = .ok (.iload 4, 2) := by decide +kernel
theorem dX9_doStep_92 : decode cX9_doStep 92 = .ok (.invokevirtual 122, 3) := by decide +kernel
theorem dX9_doStep_95 : decode cX9_doStep 95 = .ok (.ireturn, 1) := by decide +kernel
theorem dX9_doStep_96 : decode cX9_doStep 96 = .ok (.aload_n 0, 1) := by decide +kernel
theorem dX9_doStep_97 : decode cX9_doStep 97 = .ok (.getfield 19, 3) := by decide +kernel
theorem dX9_doStep_100 : decode cX9_doStep 100 = .ok (.iload_n 2, 1) := by decide +kernel
theorem dX9_doStep_101 : decode cX9_doStep 101 = .ok (.iload_n 3, 1) := by decide +kernel
theorem dX9_doStep_102 : decode cX9_doStep 102 = .ok (.invokevirtual 126, 3) := by decide +kernel
theorem dX9_doStep_105 : decode cX9_doStep 105 = .ok (.ireturn, 1) := by decide +kernel
theorem dX9_doStep_106 : decode cX9_doStep 106 = .ok (.aload_n 0, 1) := by decide +kernel
theorem dX9_doStep_107 : decode cX9_doStep 107 = .ok (.getfield 19, 3) := by decide +kernel
theorem dX9_doStep_110 : decode cX9_doStep 110 = .ok (.iload_n 2, 1) := by decide +kernel
theorem dX9_doStep_111 : decode cX9_doStep 111 = .ok (.invokevirtual 130, 3) := by decide +kernel
theorem dX9_doStep_114 : decode cX9_doStep 114 = .ok (.ireturn, 1) := by decide +kernel
theorem dX9_doStep_115 : decode cX9_doStep 115 = .ok (.aload_n 0, 1) := by decide +kernel
theorem dX9_doStep_116 : decode cX9_doStep 116 = .ok (.getfield 19, 3) := by decide +kernel
theorem dX9_doStep_119 : decode cX9_doStep 119 = .ok (.iload_n 2, 1) := by decide +kernel
theorem dX9_doStep_120 : decode cX9_doStep 120 = .ok (.iload_n 3, 1) := by decide +kernel
theorem dX9_doStep_121 : decode cX9_doStep 121 = .ok (.invokevirtual 134, 3) := by decide +kernel
theorem dX9_doStep_124 : decode cX9_doStep 124 = .ok (.ireturn, 1) := by decide +kernel
theorem dX9_doStep_125 : decode cX9_doStep 125 = .ok (.aload_n 0, 1) := by decide +kernel
theorem dX9_doStep_126 : decode cX9_doStep 126 = .ok (.getfield 19, 3) := by decide +kernel
theorem dX9_doStep_129 : decode cX9_doStep 129 = .ok (.iload_n 2, 1) := by decide +kernel
theorem dX9_doStep_130 : decode cX9_doStep 130 = .ok (.iload_n 3, 1) := by decide +kernel
theorem dX9_doStep_131 : decode cX9_doStep 131 = .ok (.invokevirtual 137, 3) := by decide +kernel
theorem dX9_doStep_134 : decode cX9_doStep 134 = .ok (.ireturn, 1) := by decide +kernel
theorem dX9_doStep_135 : decode cX9_doStep 135 = .ok (.aload_n 0, 1) := by decide +kernel
theorem dX9_doStep_136 : decode cX9_doStep 136 = .ok (.getfield 19, 3) := by decide +kernel
theorem dX9_doStep_139 : decode cX9_doStep 139 = .ok (.iload_n 2, 1) := by decide +kernel
theorem dX9_doStep_140 : decode cX9_doStep 140 = .ok (.iload_n 3, 1) := by decide +kernel
theorem dX9_doStep_141 : decode cX9_doStep 141 = .ok (.iload 4, 2) := by decide +kernel
theorem dX9_doStep_143 : decode cX9_doStep 143 = .ok (.invokevirtual 140, 3) := by decide +kernel
theorem dX9_doStep_146 : decode cX9_doStep 146 = .ok (.ireturn, 1) := by decide +kernel
theorem dX9_doStep_147 : decode cX9_doStep 147 = .ok (.aload_n 0, 1) := by decide +kernel
theorem dX9_doStep_148 : decode cX9_doStep 148 = .ok (.getfield 19, 3) := by decide +kernel
theorem dX9_doStep_151 : decode cX9_doStep 151 = .ok (.iload_n 2, 1) := by decide +kernel
theorem dX9_doStep_152 : decode cX9_doStep 152 = .ok (.iload_n 3, 1) := by decide +kernel
theorem dX9_doStep_153 : decode cX9_doStep 153 = .ok (.invokevirtual 143, 3) := by decide +kernel
theorem dX9_doStep_156 : decode cX9_doStep 156 = .ok (.ireturn, 1) := by decide +kernel
theorem dX9_doStep_157 : decode cX9_doStep 157 = .ok (.aload_n 0, 1) := by decide +kernel
theorem dX9_doStep_158 : decode cX9_doStep 158 = .ok (.getfield 19, 3) := by decide +kernel
theorem dX9_doStep_161 : decode cX9_doStep 161 = .ok (.iload_n 2, 1) := by decide +kernel
theorem dX9_doStep_162 : decode cX9_doStep 162 = .ok (.invokevirtual 146, 3) := by decide +kernel
theorem dX9_doStep_165 : decode cX9_doStep 165 = .ok (.ireturn, 1) := by decide +kernel
theorem dX9_doStep_166 : decode cX9_doStep 166 = .ok (.aload_n 0, 1) := by decide +kernel
theorem dX9_doStep_167 : decode cX9_doStep 167 = .ok (.getfield 19, 3) := by decide +kernel
theorem dX9_doStep_170 : decode cX9_doStep 170 = .ok (.iload_n 2, 1) := by decide +kernel
theorem dX9_doStep_171 : decode cX9_doStep 171 = .ok (.iload_n 3, 1) := by decide +kernel
theorem dX9_doStep_172 : decode cX9_doStep 172 = .ok (.invokevirtual 149, 3) := by decide +kernel
theorem dX9_doStep_175 : decode cX9_doStep 175 = .ok (.ireturn, 1) := by decide +kernel
theorem dX9_doStep_176 : decode cX9_doStep 176 = .ok (.bipush (-2), 2) := by decide +kernel
theorem dX9_doStep_178 : decode cX9_doStep 178 = .ok (.ireturn, 1) := by decide +kernel
theorem dX9_errorCode_0 : decode cX9_errorCode 0 = .ok (.aload_n 0, 1) := by decide +kernel
theorem dX9_errorCode_1 : decode cX9_errorCode 1 = .ok (.getfield 10, 3) := by decide +kernel
theorem dX9_errorCode_4 : decode cX9_errorCode 4 = .ok (.getfield 152, 3) := by decide +kernel
theorem dX9_errorCode_7 : decode cX9_errorCode 7 = .ok (.ireturn, 1) := by decide +kernel
theorem dX9_errorPosition_0 : decode cX9_errorPosition 0 = .ok (.aload_n 0, 1) := by decide +kernel
theorem dX9_errorPosition_1 : decode cX9_errorPosition 1 = .ok (.getfield 10, 3) := by decide +kernel
theorem dX9_errorPosition_4 : decode cX9_errorPosition 4 = .ok (.getfield 155, 3) := by decide +kernel
theorem dX9_errorPosition_7 : decode cX9_errorPosition 7 = .ok (.ireturn, 1) := by decide +kernel
theorem dX9_refused_0 : decode cX9_refused 0 = .ok (.aload_n 0, 1) := by decide +kernel
theorem dX9_refused_1 : decode cX9_refused 1 = .ok (.getfield 73, 3) := by decide +kernel
theorem dX9_refused_4 : decode cX9_refused 4 = .ok (.ireturn, 1) := by decide +kernel
theorem dX9_write_0 : decode cX9_write 0 = .ok (.aload_n 0, 1) := by decide +kernel
theorem dX9_write_1 : decode cX9_write 1 = .ok (.getfield 19, 3) := by decide +kernel
theorem dX9_write_4 : decode cX9_write 4 = .ok (.iload_n 1, 1) := by decide +kernel
theorem dX9_write_5 : decode cX9_write 5 = .ok (.iload_n 2, 1) := by decide +kernel
theorem dX9_write_6 : decode cX9_write 6 = .ok (.iload_n 3, 1) := by decide +kernel
theorem dX9_write_7 : decode cX9_write 7 = .ok (.invokevirtual 122, 3) := by decide +kernel
theorem dX9_write_10 : decode cX9_write 10 = .ok (.invokestatic 158, 3) := by decide +kernel
theorem dX9_write_13 : decode cX9_write 13 = .ok (.ireturn, 1) := by decide +kernel
theorem dX9_read_0 : decode cX9_read 0 = .ok (.aload_n 0, 1) := by decide +kernel
theorem dX9_read_1 : decode cX9_read 1 = .ok (.getfield 19, 3) := by decide +kernel
theorem dX9_read_4 : decode cX9_read 4 = .ok (.iload_n 1, 1) := by decide +kernel
theorem dX9_read_5 : decode cX9_read 5 = .ok (.iload_n 2, 1) := by decide +kernel
theorem dX9_read_6 : decode cX9_read 6 = .ok (.invokevirtual 126, 3) := by decide +kernel
theorem dX9_read_9 : decode cX9_read 9 = .ok (.invokestatic 158, 3) := by decide +kernel
theorem dX9_read_12 : decode cX9_read 12 = .ok (.ireturn, 1) := by decide +kernel
theorem dX9_exchange_0 : decode cX9_exchange 0 = .ok (.aload_n 0, 1) := by decide +kernel
theorem dX9_exchange_1 : decode cX9_exchange 1 = .ok (.getfield 19, 3) := by decide +kernel
theorem dX9_exchange_4 : decode cX9_exchange 4 = .ok (.iload_n 1, 1) := by decide +kernel
theorem dX9_exchange_5 : decode cX9_exchange 5 = .ok (.iload_n 2, 1) := by decide +kernel
theorem dX9_exchange_6 : decode cX9_exchange 6 = .ok (.invokevirtual 143, 3) := by decide +kernel
theorem dX9_exchange_9 : decode cX9_exchange 9 = .ok (.invokestatic 158, 3) := by decide +kernel
theorem dX9_exchange_12 : decode cX9_exchange 12 = .ok (.ireturn, 1) := by decide +kernel
theorem dX9_post_0 : decode cX9_post 0 = .ok (.aload_n 0, 1) := by decide +kernel
theorem dX9_post_1 : decode cX9_post 1 = .ok (.getfield 19, 3) := by decide +kernel
theorem dX9_post_4 : decode cX9_post 4 = .ok (.iload_n 1, 1) := by decide +kernel
theorem dX9_post_5 : decode cX9_post 5 = .ok (.invokevirtual 146, 3) := by decide +kernel
theorem dX9_post_8 : decode cX9_post 8 = .ok (.invokestatic 158, 3) := by decide +kernel
theorem dX9_post_11 : decode cX9_post 11 = .ok (.ireturn, 1) := by decide +kernel
theorem dX9_calm_0 : decode cX9_calm 0 = .ok (.aload_n 0, 1) := by decide +kernel
theorem dX9_calm_1 : decode cX9_calm 1 = .ok (.iload_n 1, 1) := by decide +kernel
theorem dX9_calm_2 : decode cX9_calm 2 = .ok (.invokevirtual 161, 3) := by decide +kernel
theorem dX9_calm_5 : decode cX9_calm 5 = .ok (.aload_n 0, 1) := by decide +kernel
theorem dX9_calm_6 : decode cX9_calm 6 = .ok (.getfield 19, 3) := by decide +kernel
theorem dX9_calm_9 : decode cX9_calm 9 = .ok (.getfield 164, 3) := by decide +kernel
theorem dX9_calm_12 : decode cX9_calm 12 = .ok (.iload_n 1, 1) := by decide +kernel
theorem dX9_calm_13 : decode cX9_calm 13 = .ok (.aaload, 1) := by decide +kernel
theorem dX9_calm_14 : decode cX9_calm 14 = .ok (.getfield 168, 3) := by decide +kernel
theorem dX9_calm_17 : decode cX9_calm 17 = .ok (.istore_n 2, 1) := by decide +kernel
theorem dX9_calm_18 : decode cX9_calm 18 = .ok (.aload_n 0, 1) := by decide +kernel
theorem dX9_calm_19 : decode cX9_calm 19 = .ok (.getfield 19, 3) := by decide +kernel
theorem dX9_calm_22 : decode cX9_calm 22 = .ok (.getfield 164, 3) := by decide +kernel
theorem dX9_calm_25 : decode cX9_calm 25 = .ok (.iload_n 1, 1) := by decide +kernel
theorem dX9_calm_26 : decode cX9_calm 26 = .ok (.aaload, 1) := by decide +kernel
theorem dX9_calm_27 : decode cX9_calm 27 = .ok (.iconst 0, 1) := by decide +kernel
theorem dX9_calm_28 : decode cX9_calm 28 = .ok (.putfield 168, 3) := by decide +kernel
theorem dX9_calm_31 : decode cX9_calm 31 = .ok (.iload_n 2, 1) := by decide +kernel
theorem dX9_calm_32 : decode cX9_calm 32 = .ok (.ireturn, 1) := by decide +kernel
theorem dX9_adopt_0 : decode cX9_adopt 0 = .ok (.aload_n 0, 1) := by decide +kernel
theorem dX9_adopt_1 : decode cX9_adopt 1 = .ok (.iload_n 1, 1) := by decide +kernel
theorem dX9_adopt_2 : decode cX9_adopt 2 = .ok (.invokevirtual 161, 3) := by decide +kernel
theorem dX9_adopt_5 : decode cX9_adopt 5 = .ok (.aload_n 0, 1) := by decide +kernel
theorem dX9_adopt_6 : decode cX9_adopt 6 = .ok (.getfield 19, 3) := by decide +kernel
theorem dX9_adopt_9 : decode cX9_adopt 9 = .ok (.getfield 164, 3) := by decide +kernel
theorem dX9_adopt_12 : decode cX9_adopt 12 = .ok (.iload_n 1, 1) := by decide +kernel
theorem dX9_adopt_13 : decode cX9_adopt 13 = .ok (.aaload, 1) := by decide +kernel
theorem dX9_adopt_14 : decode cX9_adopt 14 = .ok (.astore_n 2, 1) := by decide +kernel
theorem dX9_adopt_15 : decode cX9_adopt 15 = .ok (.aload_n 2, 1) := by decide +kernel
theorem dX9_adopt_16 : decode cX9_adopt 16 = .ok (.aload_n 0, 1) := by decide +kernel
theorem dX9_adopt_17 : decode cX9_adopt 17 = .ok (.getfield 19, 3) := by decide +kernel
theorem dX9_adopt_20 : decode cX9_adopt 20 = .ok (.getfield 174, 3) := by decide +kernel
theorem dX9_adopt_23 : decode cX9_adopt 23 = .ok (.aload_n 2, 1) := by decide +kernel
theorem dX9_adopt_24 : decode cX9_adopt 24 = .ok (.getfield 178, 3) := by decide +kernel
theorem dX9_adopt_27 : decode cX9_adopt 27 = .ok (.aaload, 1) := by decide +kernel
theorem dX9_adopt_28 : decode cX9_adopt 28 = .ok (.invokevirtual 181, 3) := by decide +kernel
theorem dX9_adopt_31 : decode cX9_adopt 31 = .ok (.aload_n 2, 1) := by decide +kernel
theorem dX9_adopt_32 : decode cX9_adopt 32 = .ok (.iconst 0, 1) := by decide +kernel
theorem dX9_adopt_33 : decode cX9_adopt 33 = .ok (.putfield 168, 3) := by decide +kernel
theorem dX9_adopt_36 : decode cX9_adopt 36 = .ok (.aload_n 2, 1) := by decide +kernel
theorem dX9_adopt_37 : decode cX9_adopt 37 = .ok (.getfield 185, 3) := by decide +kernel
theorem dX9_adopt_40 : decode cX9_adopt 40 = .ok (.ireturn, 1) := by decide +kernel
theorem dX9_fork_0 : decode cX9_fork 0 = .ok (.aload_n 0, 1) := by decide +kernel
theorem dX9_fork_1 : decode cX9_fork 1 = .ok (.getfield 19, 3) := by decide +kernel
theorem dX9_fork_4 : decode cX9_fork 4 = .ok (.iload_n 1, 1) := by decide +kernel
theorem dX9_fork_5 : decode cX9_fork 5 = .ok (.invokevirtual 130, 3) := by decide +kernel
theorem dX9_fork_8 : decode cX9_fork 8 = .ok (.invokestatic 158, 3) := by decide +kernel
theorem dX9_fork_11 : decode cX9_fork 11 = .ok (.ireturn, 1) := by decide +kernel
theorem dX9_move_0 : decode cX9_move 0 = .ok (.aload_n 0, 1) := by decide +kernel
theorem dX9_move_1 : decode cX9_move 1 = .ok (.getfield 19, 3) := by decide +kernel
theorem dX9_move_4 : decode cX9_move 4 = .ok (.iload_n 1, 1) := by decide +kernel
theorem dX9_move_5 : decode cX9_move 5 = .ok (.iload_n 2, 1) := by decide +kernel
theorem dX9_move_6 : decode cX9_move 6 = .ok (.invokevirtual 134, 3) := by decide +kernel
theorem dX9_move_9 : decode cX9_move 9 = .ok (.invokestatic 158, 3) := by decide +kernel
theorem dX9_move_12 : decode cX9_move 12 = .ok (.ireturn, 1) := by decide +kernel
theorem dX9_rewind_0 : decode cX9_rewind 0 = .ok (.aload_n 0, 1) := by decide +kernel
theorem dX9_rewind_1 : decode cX9_rewind 1 = .ok (.getfield 19, 3) := by decide +kernel
theorem dX9_rewind_4 : decode cX9_rewind 4 = .ok (.iload_n 1, 1) := by decide +kernel
theorem dX9_rewind_5 : decode cX9_rewind 5 = .ok (.iload_n 2, 1) := by decide +kernel
theorem dX9_rewind_6 : decode cX9_rewind 6 = .ok (.invokevirtual 137, 3) := by decide +kernel
theorem dX9_rewind_9 : decode cX9_rewind 9 = .ok (.invokestatic 158, 3) := by decide +kernel
theorem dX9_rewind_12 : decode cX9_rewind 12 = .ok (.ireturn, 1) := by decide +kernel
theorem dX9_corrupt_0 : decode cX9_corrupt 0 = .ok (.aload_n 0, 1) := by decide +kernel
theorem dX9_corrupt_1 : decode cX9_corrupt 1 = .ok (.getfield 19, 3) := by decide +kernel
theorem dX9_corrupt_4 : decode cX9_corrupt 4 = .ok (.iload_n 1, 1) := by decide +kernel
theorem dX9_corrupt_5 : decode cX9_corrupt 5 = .ok (.iload_n 2, 1) := by decide +kernel
theorem dX9_corrupt_6 : decode cX9_corrupt 6 = .ok (.iload_n 3, 1) := by decide +kernel
theorem dX9_corrupt_7 : decode cX9_corrupt 7 = .ok (.invokevirtual 140, 3) := by decide +kernel
theorem dX9_corrupt_10 : decode cX9_corrupt 10 = .ok (.invokestatic 158, 3) := by decide +kernel
theorem dX9_corrupt_13 : decode cX9_corrupt 13 = .ok (.ireturn, 1) := by decide +kernel
theorem dX9_heal_0 : decode cX9_heal 0 = .ok (.aload_n 0, 1) := by decide +kernel
theorem dX9_heal_1 : decode cX9_heal 1 = .ok (.getfield 19, 3) := by decide +kernel
theorem dX9_heal_4 : decode cX9_heal 4 = .ok (.iload_n 1, 1) := by decide +kernel
theorem dX9_heal_5 : decode cX9_heal 5 = .ok (.iload_n 2, 1) := by decide +kernel
theorem dX9_heal_6 : decode cX9_heal 6 = .ok (.invokevirtual 149, 3) := by decide +kernel
theorem dX9_heal_9 : decode cX9_heal 9 = .ok (.invokestatic 158, 3) := by decide +kernel
theorem dX9_heal_12 : decode cX9_heal 12 = .ok (.ireturn, 1) := by decide +kernel
theorem dX9_clients_0 : decode cX9_clients 0 = .ok (.aload_n 0, 1) := by decide +kernel
theorem dX9_clients_1 : decode cX9_clients 1 = .ok (.getfield 19, 3) := by decide +kernel
theorem dX9_clients_4 : decode cX9_clients 4 = .ok (.getfield 76, 3) := by decide +kernel
theorem dX9_clients_7 : decode cX9_clients 7 = .ok (.ireturn, 1) := by decide +kernel
theorem dX9_blocks_0 : decode cX9_blocks 0 = .ok (.aload_n 0, 1) := by decide +kernel
theorem dX9_blocks_1 : decode cX9_blocks 1 = .ok (.getfield 19, 3) := by decide +kernel
theorem dX9_blocks_4 : decode cX9_blocks 4 = .ok (.getfield 79, 3) := by decide +kernel
theorem dX9_blocks_7 : decode cX9_blocks 7 = .ok (.ireturn, 1) := by decide +kernel
theorem dX9_branches_0 : decode cX9_branches 0 = .ok (.aload_n 0, 1) := by decide +kernel
theorem dX9_branches_1 : decode cX9_branches 1 = .ok (.getfield 19, 3) := by decide +kernel
theorem dX9_branches_4 : decode cX9_branches 4 = .ok (.getfield 188, 3) := by decide +kernel
theorem dX9_branches_7 : decode cX9_branches 7 = .ok (.ireturn, 1) := by decide +kernel
theorem dX9_length_0 : decode cX9_length 0 = .ok (.aload_n 0, 1) := by decide +kernel
theorem dX9_length_1 : decode cX9_length 1 = .ok (.iload_n 1, 1) := by decide +kernel
theorem dX9_length_2 : decode cX9_length 2 = .ok (.invokevirtual 191, 3) := by decide +kernel
theorem dX9_length_5 : decode cX9_length 5 = .ok (.aload_n 0, 1) := by decide +kernel
theorem dX9_length_6 : decode cX9_length 6 = .ok (.getfield 19, 3) := by decide +kernel
theorem dX9_length_9 : decode cX9_length 9 = .ok (.getfield 174, 3) := by decide +kernel
theorem dX9_length_12 : decode cX9_length 12 = .ok (.iload_n 1, 1) := by decide +kernel
theorem dX9_length_13 : decode cX9_length 13 = .ok (.aaload, 1) := by decide +kernel
theorem dX9_length_14 : decode cX9_length 14 = .ok (.getfield 194, 3) := by decide +kernel
theorem dX9_length_17 : decode cX9_length 17 = .ok (.ireturn, 1) := by decide +kernel
theorem dX9_entry_0 : decode cX9_entry 0 = .ok (.aload_n 0, 1) := by decide +kernel
theorem dX9_entry_1 : decode cX9_entry 1 = .ok (.iload_n 1, 1) := by decide +kernel
theorem dX9_entry_2 : decode cX9_entry 2 = .ok (.invokevirtual 191, 3) := by decide +kernel
theorem dX9_entry_5 : decode cX9_entry 5 = .ok (.aload_n 0, 1) := by decide +kernel
theorem dX9_entry_6 : decode cX9_entry 6 = .ok (.getfield 19, 3) := by decide +kernel
theorem dX9_entry_9 : decode cX9_entry 9 = .ok (.getfield 174, 3) := by decide +kernel
theorem dX9_entry_12 : decode cX9_entry 12 = .ok (.iload_n 1, 1) := by decide +kernel
theorem dX9_entry_13 : decode cX9_entry 13 = .ok (.aaload, 1) := by decide +kernel
theorem dX9_entry_14 : decode cX9_entry 14 = .ok (.iload_n 2, 1) := by decide +kernel
theorem dX9_entry_15 : decode cX9_entry 15 = .ok (.invokevirtual 199, 3) := by decide +kernel
theorem dX9_entry_18 : decode cX9_entry 18 = .ok (.ifCond .ne 13, 3) := by decide +kernel
theorem dX9_entry_21 : decode cX9_entry 21 = .ok (.new 203, 3) := by decide +kernel
theorem dX9_entry_24 : decode cX9_entry 24 = .ok (.dup, 1) := by decide +kernel
theorem dX9_entry_25 : decode cX9_entry 25 = .ok (.ldc 205, 2) := by decide +kernel
theorem dX9_entry_27 : decode cX9_entry 27 = .ok (.invokespecial 207, 3) := by decide +kernel
theorem dX9_entry_30 : decode cX9_entry 30 = .ok (.athrow, 1) := by decide +kernel
theorem dX9_entry_31 : decode cX9_entry 31 = .ok (.iload_n 3, 1) := by decide +kernel
theorem dX9_entry_32 : decode cX9_entry 32 = .ok (.bipush 7, 2) := by decide +kernel
theorem dX9_entry_34 : decode cX9_entry 34 = .ok (.invokestatic 208, 3) := by decide +kernel
theorem dX9_entry_37 : decode cX9_entry 37 = .ok (.aload_n 0, 1) := by decide +kernel
theorem dX9_entry_38 : decode cX9_entry 38 = .ok (.getfield 19, 3) := by decide +kernel
theorem dX9_entry_41 : decode cX9_entry 41 = .ok (.getfield 174, 3) := by decide +kernel
theorem dX9_entry_44 : decode cX9_entry 44 = .ok (.iload_n 1, 1) := by decide +kernel
theorem dX9_entry_45 : decode cX9_entry 45 = .ok (.aaload, 1) := by decide +kernel
theorem dX9_entry_46 : decode cX9_entry 46 = .ok (.iload_n 2, 1) := by decide +kernel
theorem dX9_entry_47 : decode cX9_entry 47 = .ok (.iload_n 3, 1) := by decide +kernel
theorem dX9_entry_48 : decode cX9_entry 48 = .ok (.invokevirtual 212, 3) := by decide +kernel
theorem dX9_entry_51 : decode cX9_entry 51 = .ok (.ireturn, 1) := by decide +kernel
theorem dX9_value_0 : decode cX9_value 0 = .ok (.aload_n 0, 1) := by decide +kernel
theorem dX9_value_1 : decode cX9_value 1 = .ok (.iload_n 1, 1) := by decide +kernel
theorem dX9_value_2 : decode cX9_value 2 = .ok (.invokevirtual 191, 3) := by decide +kernel
theorem dX9_value_5 : decode cX9_value 5 = .ok (.aload_n 0, 1) := by decide +kernel
theorem dX9_value_6 : decode cX9_value 6 = .ok (.getfield 19, 3) := by decide +kernel
theorem dX9_value_9 : decode cX9_value 9 = .ok (.iload_n 2, 1) := by decide +kernel
theorem dX9_value_10 : decode cX9_value 10 = .ok (.invokevirtual 215, 3) := by decide +kernel
theorem dX9_value_13 : decode cX9_value 13 = .ok (.ifCond .ne 13, 3) := by decide +kernel
theorem dX9_value_16 : decode cX9_value 16 = .ok (.new 203, 3) := by decide +kernel
theorem dX9_value_19 : decode cX9_value 19 = .ok (.dup, 1) := by decide +kernel
theorem dX9_value_20 : decode cX9_value 20 = .ok (.ldc 218, 2) := by decide +kernel
theorem dX9_value_22 : decode cX9_value 22 = .ok (.invokespecial 207, 3) := by decide +kernel
theorem dX9_value_25 : decode cX9_value 25 = .ok (.athrow, 1) := by decide +kernel
theorem dX9_value_26 : decode cX9_value 26 = .ok (.aload_n 0, 1) := by decide +kernel
theorem dX9_value_27 : decode cX9_value 27 = .ok (.getfield 19, 3) := by decide +kernel
theorem dX9_value_30 : decode cX9_value 30 = .ok (.getfield 174, 3) := by decide +kernel
theorem dX9_value_33 : decode cX9_value 33 = .ok (.iload_n 1, 1) := by decide +kernel
theorem dX9_value_34 : decode cX9_value 34 = .ok (.aaload, 1) := by decide +kernel
theorem dX9_value_35 : decode cX9_value 35 = .ok (.iload_n 2, 1) := by decide +kernel
theorem dX9_value_36 : decode cX9_value 36 = .ok (.invokevirtual 220, 3) := by decide +kernel
theorem dX9_value_39 : decode cX9_value 39 = .ok (.ireturn, 1) := by decide +kernel
theorem dX9_branchOf_0 : decode cX9_branchOf 0 = .ok (.aload_n 0, 1) := by decide +kernel
theorem dX9_branchOf_1 : decode cX9_branchOf 1 = .ok (.iload_n 1, 1) := by decide +kernel
theorem dX9_branchOf_2 : decode cX9_branchOf 2 = .ok (.invokevirtual 161, 3) := by decide +kernel
theorem dX9_branchOf_5 : decode cX9_branchOf 5 = .ok (.aload_n 0, 1) := by decide +kernel
theorem dX9_branchOf_6 : decode cX9_branchOf 6 = .ok (.getfield 19, 3) := by decide +kernel
theorem dX9_branchOf_9 : decode cX9_branchOf 9 = .ok (.getfield 164, 3) := by decide +kernel
theorem dX9_branchOf_12 : decode cX9_branchOf 12 = .ok (.iload_n 1, 1) := by decide +kernel
theorem dX9_branchOf_13 : decode cX9_branchOf 13 = .ok (.aaload, 1) := by decide +kernel
theorem dX9_branchOf_14 : decode cX9_branchOf 14 = .ok (.getfield 178, 3) := by decide +kernel
theorem dX9_branchOf_17 : decode cX9_branchOf 17 = .ok (.ireturn, 1) := by decide +kernel
theorem dX9_commonLength_0 : decode cX9_commonLength 0 = .ok (.aload_n 0, 1) := by decide +kernel
theorem dX9_commonLength_1 : decode cX9_commonLength 1 = .ok (.iload_n 1, 1) := by decide +kernel
theorem dX9_commonLength_2 : decode cX9_commonLength 2 = .ok (.invokevirtual 191, 3) := by decide +kernel
theorem dX9_commonLength_5 : decode cX9_commonLength 5 = .ok (.aload_n 0, 1) := by decide +kernel
theorem dX9_commonLength_6 : decode cX9_commonLength 6 = .ok (.iload_n 2, 1) := by decide +kernel
theorem dX9_commonLength_7 : decode cX9_commonLength 7 = .ok (.invokevirtual 191, 3) := by decide +kernel
theorem dX9_commonLength_10 : decode cX9_commonLength 10 = .ok (.aload_n 0, 1) := by decide +kernel
theorem dX9_commonLength_11 : decode cX9_commonLength 11 = .ok (.getfield 19, 3) := by decide +kernel
theorem dX9_commonLength_14 : decode cX9_commonLength 14 = .ok (.getfield 174, 3) := by decide +kernel
theorem dX9_commonLength_17 : decode cX9_commonLength 17 = .ok (.iload_n 1, 1) := by decide +kernel
theorem dX9_commonLength_18 : decode cX9_commonLength 18 = .ok (.aaload, 1) := by decide +kernel
theorem dX9_commonLength_19 : decode cX9_commonLength 19 = .ok (.aload_n 0, 1) := by decide +kernel
theorem dX9_commonLength_20 : decode cX9_commonLength 20 = .ok (.getfield 19, 3) := by decide +kernel
theorem dX9_commonLength_23 : decode cX9_commonLength 23 = .ok (.getfield 174, 3) := by decide +kernel
theorem dX9_commonLength_26 : decode cX9_commonLength 26 = .ok (.iload_n 2, 1) := by decide +kernel
theorem dX9_commonLength_27 : decode cX9_commonLength 27 = .ok (.aaload, 1) := by decide +kernel
theorem dX9_commonLength_28 : decode cX9_commonLength 28 = .ok (.invokevirtual 223, 3) := by decide +kernel
theorem dX9_commonLength_31 : decode cX9_commonLength 31 = .ok (.ireturn, 1) := by decide +kernel
theorem dX9_conflicts_0 : decode cX9_conflicts 0 = .ok (.aload_n 0, 1) := by decide +kernel
theorem dX9_conflicts_1 : decode cX9_conflicts 1 = .ok (.iload_n 1, 1) := by decide +kernel
theorem dX9_conflicts_2 : decode cX9_conflicts 2 = .ok (.invokevirtual 191, 3) := by decide +kernel
theorem dX9_conflicts_5 : decode cX9_conflicts 5 = .ok (.aload_n 0, 1) := by decide +kernel
theorem dX9_conflicts_6 : decode cX9_conflicts 6 = .ok (.iload_n 2, 1) := by decide +kernel
theorem dX9_conflicts_7 : decode cX9_conflicts 7 = .ok (.invokevirtual 191, 3) := by decide +kernel
theorem dX9_conflicts_10 : decode cX9_conflicts 10 = .ok (.aload_n 0, 1) := by decide +kernel
theorem dX9_conflicts_11 : decode cX9_conflicts 11 = .ok (.getfield 19, 3) := by decide +kernel
theorem dX9_conflicts_14 : decode cX9_conflicts 14 = .ok (.getfield 174, 3) := by decide +kernel
theorem dX9_conflicts_17 : decode cX9_conflicts 17 = .ok (.iload_n 1, 1) := by decide +kernel
theorem dX9_conflicts_18 : decode cX9_conflicts 18 = .ok (.aaload, 1) := by decide +kernel
theorem dX9_conflicts_19 : decode cX9_conflicts 19 = .ok (.aload_n 0, 1) := by decide +kernel
theorem dX9_conflicts_20 : decode cX9_conflicts 20 = .ok (.getfield 19, 3) := by decide +kernel
theorem dX9_conflicts_23 : decode cX9_conflicts 23 = .ok (.getfield 174, 3) := by decide +kernel
theorem dX9_conflicts_26 : decode cX9_conflicts 26 = .ok (.iload_n 2, 1) := by decide +kernel
theorem dX9_conflicts_27 : decode cX9_conflicts 27 = .ok (.aaload, 1) := by decide +kernel
theorem dX9_conflicts_28 : decode cX9_conflicts 28 = .ok (.invokevirtual 227, 3) := by decide +kernel
theorem dX9_conflicts_31 : decode cX9_conflicts 31 = .ok (.ireturn, 1) := by decide +kernel
theorem dX9_receipt_0 : decode cX9_receipt 0 = .ok (.aload_n 0, 1) := by decide +kernel
theorem dX9_receipt_1 : decode cX9_receipt 1 = .ok (.iload_n 1, 1) := by decide +kernel
theorem dX9_receipt_2 : decode cX9_receipt 2 = .ok (.invokevirtual 161, 3) := by decide +kernel
theorem dX9_receipt_5 : decode cX9_receipt 5 = .ok (.iload_n 2, 1) := by decide +kernel
theorem dX9_receipt_6 : decode cX9_receipt 6 = .ok (.iconst 3, 1) := by decide +kernel
theorem dX9_receipt_7 : decode cX9_receipt 7 = .ok (.invokestatic 208, 3) := by decide +kernel
theorem dX9_receipt_10 : decode cX9_receipt 10 = .ok (.aload_n 0, 1) := by decide +kernel
theorem dX9_receipt_11 : decode cX9_receipt 11 = .ok (.getfield 19, 3) := by decide +kernel
theorem dX9_receipt_14 : decode cX9_receipt 14 = .ok (.getfield 164, 3) := by decide +kernel
theorem dX9_receipt_17 : decode cX9_receipt 17 = .ok (.iload_n 1, 1) := by decide +kernel
theorem dX9_receipt_18 : decode cX9_receipt 18 = .ok (.aaload, 1) := by decide +kernel
theorem dX9_receipt_19 : decode cX9_receipt 19 = .ok (.astore_n 3, 1) := by decide +kernel
theorem dX9_receipt_20 : decode cX9_receipt 20 = .ok (.iload_n 2, 1) := by decide +kernel
theorem dX9_receipt_21 : decode cX9_receipt 21 = .ok (.ifCond .ne 8, 3) := by decide +kernel
theorem dX9_receipt_24 : decode cX9_receipt 24 = .ok (.aload_n 3, 1) := by decide +kernel
theorem dX9_receipt_25 : decode cX9_receipt 25 = .ok (.getfield 185, 3) := by decide +kernel
theorem dX9_receipt_28 : decode cX9_receipt 28 = .ok (.ireturn, 1) := by decide +kernel
theorem dX9_receipt_29 : decode cX9_receipt 29 = .ok (.iload_n 2, 1) := by decide +kernel
theorem dX9_receipt_30 : decode cX9_receipt 30 = .ok (.iconst 1, 1) := by decide +kernel
theorem dX9_receipt_31 : decode cX9_receipt 31 = .ok (.if_icmp .ne 10, 3) := by decide +kernel
theorem dX9_receipt_34 : decode cX9_receipt 34 = .ok (.aload_n 3, 1) := by decide +kernel
theorem dX9_receipt_35 : decode cX9_receipt 35 = .ok (.invokevirtual 230, 3) := by decide +kernel
theorem dX9_receipt_38 : decode cX9_receipt 38 = .ok (.goto 15, 3) := by decide +kernel
theorem dX9_receipt_41 : decode cX9_receipt 41 = .ok (.iload_n 1, 1) := by decide +kernel
theorem dX9_receipt_42 : decode cX9_receipt 42 = .ok (.aload_n 3, 1) := by decide +kernel
theorem dX9_receipt_43 : decode cX9_receipt 43 = .ok (.getfield 185, 3) := by decide +kernel
theorem dX9_receipt_46 : decode cX9_receipt 46 = .ok (.aload_n 3, 1) := by decide +kernel
theorem dX9_receipt_47 : decode cX9_receipt 47 = .ok (.invokevirtual 230, 3) := by decide +kernel
theorem dX9_receipt_50 : decode cX9_receipt 50 = .ok (.invokestatic 233, 3) := by decide +kernel
theorem dX9_receipt_53 : decode cX9_receipt 53 = .ok (.ireturn, 1) := by decide +kernel
theorem dX9_isSigned_0 : decode cX9_isSigned 0 = .ok (.aload_n 0, 1) := by decide +kernel
theorem dX9_isSigned_1 : decode cX9_isSigned 1 = .ok (.getfield 19, 3) := by decide +kernel
theorem dX9_isSigned_4 : decode cX9_isSigned 4 = .ok (.iload_n 1, 1) := by decide +kernel
theorem dX9_isSigned_5 : decode cX9_isSigned 5 = .ok (.invokevirtual 236, 3) := by decide +kernel
theorem dX9_isSigned_8 : decode cX9_isSigned 8 = .ok (.ifCond .eq 31, 3) := by decide +kernel
theorem dX9_isSigned_11 : decode cX9_isSigned 11 = .ok (.iload_n 2, 1) := by decide +kernel
theorem dX9_isSigned_12 : decode cX9_isSigned 12 = .ok (.ifCond .lt 27, 3) := by decide +kernel
theorem dX9_isSigned_15 : decode cX9_isSigned 15 = .ok (.iload_n 2, 1) := by decide +kernel
theorem dX9_isSigned_16 : decode cX9_isSigned 16 = .ok (.sipush 200, 3) := by decide +kernel
theorem dX9_isSigned_19 : decode cX9_isSigned 19 = .ok (.if_icmp .gt 20, 3) := by decide +kernel
theorem dX9_isSigned_22 : decode cX9_isSigned 22 = .ok (.iload_n 3, 1) := by decide +kernel
theorem dX9_isSigned_23 : decode cX9_isSigned 23 = .ok (.ifCond .lt 16, 3) := by decide +kernel
theorem dX9_isSigned_26 : decode cX9_isSigned 26 = .ok (.iload_n 3, 1) := by decide +kernel
theorem dX9_isSigned_27 : decode cX9_isSigned 27 = .ok (.i2l, 1) := by decide +kernel
theorem dX9_isSigned_28 : decode cX9_isSigned 28 = .ok (.ldc2_w 239, 3) := by decide +kernel
theorem dX9_isSigned_31 : decode cX9_isSigned 31 = .ok (.lcmp, 1) := by decide +kernel
theorem dX9_isSigned_32 : decode cX9_isSigned 32 = .ok (.ifCond .ge 7, 3) := by decide +kernel
theorem dX9_isSigned_35 : decode cX9_isSigned 35 = .ok (.iconst 1, 1) := by decide +kernel
theorem dX9_isSigned_36 : decode cX9_isSigned 36 = .ok (.goto 4, 3) := by decide +kernel
theorem dX9_isSigned_39 : decode cX9_isSigned 39 = .ok (.iconst 0, 1) := by decide +kernel
theorem dX9_isSigned_40 : decode cX9_isSigned 40 = .ok (.istore 5, 2) := by decide +kernel
theorem dX9_isSigned_42 : decode cX9_isSigned 42 = .ok (.iload 5, 2) := by decide +kernel
theorem dX9_isSigned_44 : decode cX9_isSigned 44 = .ok (.ifCond .eq 18, 3) := by decide +kernel
theorem dX9_isSigned_47 : decode cX9_isSigned 47 = .ok (.iload 4, 2) := by decide +kernel
theorem dX9_isSigned_49 : decode cX9_isSigned 49 = .ok (.iload_n 1, 1) := by decide +kernel
theorem dX9_isSigned_50 : decode cX9_isSigned 50 = .ok (.iload_n 2, 1) := by decide +kernel
theorem dX9_isSigned_51 : decode cX9_isSigned 51 = .ok (.iload_n 3, 1) := by decide +kernel
theorem dX9_isSigned_52 : decode cX9_isSigned 52 = .ok (.invokestatic 233, 3) := by decide +kernel
theorem dX9_isSigned_55 : decode cX9_isSigned 55 = .ok (.if_icmp .ne 7, 3) := by decide +kernel
theorem dX9_isSigned_58 : decode cX9_isSigned 58 = .ok (.iconst 1, 1) := by decide +kernel
theorem dX9_isSigned_59 : decode cX9_isSigned 59 = .ok (.goto 4, 3) := by decide +kernel
theorem dX9_isSigned_62 : decode cX9_isSigned 62 = .ok (.iconst 0, 1) := by decide +kernel
theorem dX9_isSigned_63 : decode cX9_isSigned 63 = .ok (.ireturn, 1) := by decide +kernel
theorem dX9_hashAt_0 : decode cX9_hashAt 0 = .ok (.aload_n 0, 1) := by decide +kernel
theorem dX9_hashAt_1 : decode cX9_hashAt 1 = .ok (.iload_n 1, 1) := by decide +kernel
theorem dX9_hashAt_2 : decode cX9_hashAt 2 = .ok (.invokevirtual 161, 3) := by decide +kernel
theorem dX9_hashAt_5 : decode cX9_hashAt 5 = .ok (.iload_n 2, 1) := by decide +kernel
theorem dX9_hashAt_6 : decode cX9_hashAt 6 = .ok (.ifCond .lt 19, 3) := by decide +kernel
theorem dX9_hashAt_9 : decode cX9_hashAt 9 = .ok (.iload_n 2, 1) := by decide +kernel
theorem dX9_hashAt_10 : decode cX9_hashAt 10 = .ok (.aload_n 0, 1) := by decide +kernel
theorem dX9_hashAt_11 : decode cX9_hashAt 11 = .ok (.getfield 19, 3) := by decide +kernel
theorem dX9_hashAt_14 : decode cX9_hashAt 14 = .ok (.getfield 164, 3) := by decide +kernel
theorem dX9_hashAt_17 : decode cX9_hashAt 17 = .ok (.iload_n 1, 1) := by decide +kernel
theorem dX9_hashAt_18 : decode cX9_hashAt 18 = .ok (.aaload, 1) := by decide +kernel
theorem dX9_hashAt_19 : decode cX9_hashAt 19 = .ok (.getfield 185, 3) := by decide +kernel
theorem dX9_hashAt_22 : decode cX9_hashAt 22 = .ok (.if_icmp .le 13, 3) := by decide +kernel
theorem dX9_hashAt_25 : decode cX9_hashAt 25 = .ok (.new 203, 3) := by decide +kernel
theorem dX9_hashAt_28 : decode cX9_hashAt 28 = .ok (.dup, 1) := by decide +kernel
theorem dX9_hashAt_29 : decode cX9_hashAt 29 = .ok (.ldc 241, 2) := by decide +kernel
theorem dX9_hashAt_31 : decode cX9_hashAt 31 = .ok (.invokespecial 207, 3) := by decide +kernel
theorem dX9_hashAt_34 : decode cX9_hashAt 34 = .ok (.athrow, 1) := by decide +kernel
theorem dX9_hashAt_35 : decode cX9_hashAt 35 = .ok (.aload_n 0, 1) := by decide +kernel
theorem dX9_hashAt_36 : decode cX9_hashAt 36 = .ok (.getfield 19, 3) := by decide +kernel
theorem dX9_hashAt_39 : decode cX9_hashAt 39 = .ok (.getfield 164, 3) := by decide +kernel
theorem dX9_hashAt_42 : decode cX9_hashAt 42 = .ok (.iload_n 1, 1) := by decide +kernel
theorem dX9_hashAt_43 : decode cX9_hashAt 43 = .ok (.aaload, 1) := by decide +kernel
theorem dX9_hashAt_44 : decode cX9_hashAt 44 = .ok (.getfield 243, 3) := by decide +kernel
theorem dX9_hashAt_47 : decode cX9_hashAt 47 = .ok (.iload_n 2, 1) := by decide +kernel
theorem dX9_hashAt_48 : decode cX9_hashAt 48 = .ok (.iaload, 1) := by decide +kernel
theorem dX9_hashAt_49 : decode cX9_hashAt 49 = .ok (.ireturn, 1) := by decide +kernel
theorem dX9_vector_0 : decode cX9_vector 0 = .ok (.aload_n 0, 1) := by decide +kernel
theorem dX9_vector_1 : decode cX9_vector 1 = .ok (.iload_n 1, 1) := by decide +kernel
theorem dX9_vector_2 : decode cX9_vector 2 = .ok (.invokevirtual 161, 3) := by decide +kernel
theorem dX9_vector_5 : decode cX9_vector 5 = .ok (.aload_n 0, 1) := by decide +kernel
theorem dX9_vector_6 : decode cX9_vector 6 = .ok (.iload_n 2, 1) := by decide +kernel
theorem dX9_vector_7 : decode cX9_vector 7 = .ok (.invokevirtual 161, 3) := by decide +kernel
theorem dX9_vector_10 : decode cX9_vector 10 = .ok (.aload_n 0, 1) := by decide +kernel
theorem dX9_vector_11 : decode cX9_vector 11 = .ok (.getfield 19, 3) := by decide +kernel
theorem dX9_vector_14 : decode cX9_vector 14 = .ok (.getfield 164, 3) := by decide +kernel
theorem dX9_vector_17 : decode cX9_vector 17 = .ok (.iload_n 1, 1) := by decide +kernel
theorem dX9_vector_18 : decode cX9_vector 18 = .ok (.aaload, 1) := by decide +kernel
theorem dX9_vector_19 : decode cX9_vector 19 = .ok (.getfield 246, 3) := by decide +kernel
theorem dX9_vector_22 : decode cX9_vector 22 = .ok (.iload_n 2, 1) := by decide +kernel
theorem dX9_vector_23 : decode cX9_vector 23 = .ok (.iaload, 1) := by decide +kernel
theorem dX9_vector_24 : decode cX9_vector 24 = .ok (.ireturn, 1) := by decide +kernel
theorem dX9_order_0 : decode cX9_order 0 = .ok (.aload_n 0, 1) := by decide +kernel
theorem dX9_order_1 : decode cX9_order 1 = .ok (.iload_n 1, 1) := by decide +kernel
theorem dX9_order_2 : decode cX9_order 2 = .ok (.invokevirtual 161, 3) := by decide +kernel
theorem dX9_order_5 : decode cX9_order 5 = .ok (.aload_n 0, 1) := by decide +kernel
theorem dX9_order_6 : decode cX9_order 6 = .ok (.iload_n 2, 1) := by decide +kernel
theorem dX9_order_7 : decode cX9_order 7 = .ok (.invokevirtual 161, 3) := by decide +kernel
theorem dX9_order_10 : decode cX9_order 10 = .ok (.aload_n 0, 1) := by decide +kernel
theorem dX9_order_11 : decode cX9_order 11 = .ok (.getfield 19, 3) := by decide +kernel
theorem dX9_order_14 : decode cX9_order 14 = .ok (.getfield 164, 3) := by decide +kernel
theorem dX9_order_17 : decode cX9_order 17 = .ok (.iload_n 1, 1) := by decide +kernel
theorem dX9_order_18 : decode cX9_order 18 = .ok (.aaload, 1) := by decide +kernel
theorem dX9_order_19 : decode cX9_order 19 = .ok (.aload_n 0, 1) := by decide +kernel
theorem dX9_order_20 : decode cX9_order 20 = .ok (.getfield 19, 3) := by decide +kernel
theorem dX9_order_23 : decode cX9_order 23 = .ok (.getfield 164, 3) := by decide +kernel
theorem dX9_order_26 : decode cX9_order 26 = .ok (.iload_n 2, 1) := by decide +kernel
theorem dX9_order_27 : decode cX9_order 27 = .ok (.aaload, 1) := by decide +kernel
theorem dX9_order_28 : decode cX9_order 28 = .ok (.invokevirtual 249, 3) := by decide +kernel
theorem dX9_order_31 : decode cX9_order 31 = .ok (.ireturn, 1) := by decide +kernel
theorem dX9_isSuspicious_0 : decode cX9_isSuspicious 0 = .ok (.aload_n 0, 1) := by decide +kernel
theorem dX9_isSuspicious_1 : decode cX9_isSuspicious 1 = .ok (.iload_n 1, 1) := by decide +kernel
theorem dX9_isSuspicious_2 : decode cX9_isSuspicious 2 = .ok (.invokevirtual 161, 3) := by decide +kernel
theorem dX9_isSuspicious_5 : decode cX9_isSuspicious 5 = .ok (.aload_n 0, 1) := by decide +kernel
theorem dX9_isSuspicious_6 : decode cX9_isSuspicious 6 = .ok (.getfield 19, 3) := by decide +kernel
theorem dX9_isSuspicious_9 : decode cX9_isSuspicious 9 = .ok (.getfield 164, 3) := by decide +kernel
theorem dX9_isSuspicious_12 : decode cX9_isSuspicious 12 = .ok (.iload_n 1, 1) := by decide +kernel
theorem dX9_isSuspicious_13 : decode cX9_isSuspicious 13 = .ok (.aaload, 1) := by decide +kernel
theorem dX9_isSuspicious_14 : decode cX9_isSuspicious 14 = .ok (.getfield 168, 3) := by decide +kernel
theorem dX9_isSuspicious_17 : decode cX9_isSuspicious 17 = .ok (.ireturn, 1) := by decide +kernel
theorem dX9_wouldFind_0 : decode cX9_wouldFind 0 = .ok (.aload_n 0, 1) := by decide +kernel
theorem dX9_wouldFind_1 : decode cX9_wouldFind 1 = .ok (.iload_n 1, 1) := by decide +kernel
theorem dX9_wouldFind_2 : decode cX9_wouldFind 2 = .ok (.invokevirtual 161, 3) := by decide +kernel
theorem dX9_wouldFind_5 : decode cX9_wouldFind 5 = .ok (.aload_n 0, 1) := by decide +kernel
theorem dX9_wouldFind_6 : decode cX9_wouldFind 6 = .ok (.getfield 19, 3) := by decide +kernel
theorem dX9_wouldFind_9 : decode cX9_wouldFind 9 = .ok (.iload_n 1, 1) := by decide +kernel
theorem dX9_wouldFind_10 : decode cX9_wouldFind 10 = .ok (.invokevirtual 253, 3) := by decide +kernel
theorem dX9_wouldFind_13 : decode cX9_wouldFind 13 = .ok (.ireturn, 1) := by decide +kernel
theorem dX9_forkedPairs_0 : decode cX9_forkedPairs 0 = .ok (.iconst 0, 1) := by decide +kernel
theorem dX9_forkedPairs_1 : decode cX9_forkedPairs 1 = .ok (.istore_n 1, 1) := by decide +kernel
theorem dX9_forkedPairs_2 : decode cX9_forkedPairs 2 = .ok (.iconst 0, 1) := by decide +kernel
theorem dX9_forkedPairs_3 : decode cX9_forkedPairs 3 = .ok (.istore_n 2, 1) := by decide +kernel
theorem dX9_forkedPairs_4 : decode cX9_forkedPairs 4 = .ok (.iload_n 2, 1) := by decide +kernel
theorem dX9_forkedPairs_5 : decode cX9_forkedPairs 5 = .ok (.aload_n 0, 1) := by decide +kernel
theorem dX9_forkedPairs_6 : decode cX9_forkedPairs 6 = .ok (.getfield 19, 3) := by decide +kernel
theorem dX9_forkedPairs_9 : decode cX9_forkedPairs 9 = .ok (.getfield 76, 3) := by decide +kernel
theorem dX9_forkedPairs_12 : decode cX9_forkedPairs 12 = .ok (.if_icmp .ge 57, 3) := by decide +kernel
theorem dX9_forkedPairs_15 : decode cX9_forkedPairs 15 = .ok (.iload_n 2, 1) := by decide +kernel
theorem dX9_forkedPairs_16 : decode cX9_forkedPairs 16 = .ok (.iconst 1, 1) := by decide +kernel
theorem dX9_forkedPairs_17 : decode cX9_forkedPairs 17 = .ok (.iadd, 1) := by decide +kernel
theorem dX9_forkedPairs_18 : decode cX9_forkedPairs 18 = .ok (.istore_n 3, 1) := by decide +kernel
theorem dX9_forkedPairs_19 : decode cX9_forkedPairs 19 = .ok (.iload_n 3, 1) := by decide +kernel
theorem dX9_forkedPairs_20 : decode cX9_forkedPairs 20 = .ok (.aload_n 0, 1) := by decide +kernel
theorem dX9_forkedPairs_21 : decode cX9_forkedPairs 21 = .ok (.getfield 19, 3) := by decide +kernel
theorem dX9_forkedPairs_24 : decode cX9_forkedPairs 24 = .ok (.getfield 76, 3) := by decide +kernel
theorem dX9_forkedPairs_27 : decode cX9_forkedPairs 27 = .ok (.if_icmp .ge 36, 3) := by decide +kernel
theorem dX9_forkedPairs_30 : decode cX9_forkedPairs 30 = .ok (.aload_n 0, 1) := by decide +kernel
theorem dX9_forkedPairs_31 : decode cX9_forkedPairs 31 = .ok (.getfield 19, 3) := by decide +kernel
theorem dX9_forkedPairs_34 : decode cX9_forkedPairs 34 = .ok (.getfield 164, 3) := by decide +kernel
theorem dX9_forkedPairs_37 : decode cX9_forkedPairs 37 = .ok (.iload_n 2, 1) := by decide +kernel
theorem dX9_forkedPairs_38 : decode cX9_forkedPairs 38 = .ok (.aaload, 1) := by decide +kernel
theorem dX9_forkedPairs_39 : decode cX9_forkedPairs 39 = .ok (.aload_n 0, 1) := by decide +kernel
theorem dX9_forkedPairs_40 : decode cX9_forkedPairs 40 = .ok (.getfield 19, 3) := by decide +kernel
theorem dX9_forkedPairs_43 : decode cX9_forkedPairs 43 = .ok (.getfield 164, 3) := by decide +kernel
theorem dX9_forkedPairs_46 : decode cX9_forkedPairs 46 = .ok (.iload_n 3, 1) := by decide +kernel
theorem dX9_forkedPairs_47 : decode cX9_forkedPairs 47 = .ok (.aaload, 1) := by decide +kernel
theorem dX9_forkedPairs_48 : decode cX9_forkedPairs 48 = .ok (.invokevirtual 256, 3) := by decide +kernel
theorem dX9_forkedPairs_51 : decode cX9_forkedPairs 51 = .ok (.ifCond .eq 6, 3) := by decide +kernel
theorem dX9_forkedPairs_54 : decode cX9_forkedPairs 54 = .ok (.iinc 1 1, 3) := by decide +kernel
theorem dX9_forkedPairs_57 : decode cX9_forkedPairs 57 = .ok (.iinc 3 1, 3) := by decide +kernel
theorem dX9_forkedPairs_60 : decode cX9_forkedPairs 60 = .ok (.goto (-41), 3) := by decide +kernel
theorem dX9_forkedPairs_63 : decode cX9_forkedPairs 63 = .ok (.iinc 2 1, 3) := by decide +kernel
theorem dX9_forkedPairs_66 : decode cX9_forkedPairs 66 = .ok (.goto (-62), 3) := by decide +kernel
theorem dX9_forkedPairs_69 : decode cX9_forkedPairs 69 = .ok (.iload_n 1, 1) := by decide +kernel
theorem dX9_forkedPairs_70 : decode cX9_forkedPairs 70 = .ok (.ireturn, 1) := by decide +kernel
theorem dX9_seenBy_0 : decode cX9_seenBy 0 = .ok (.aload_n 0, 1) := by decide +kernel
theorem dX9_seenBy_1 : decode cX9_seenBy 1 = .ok (.iload_n 1, 1) := by decide +kernel
theorem dX9_seenBy_2 : decode cX9_seenBy 2 = .ok (.invokevirtual 161, 3) := by decide +kernel
theorem dX9_seenBy_5 : decode cX9_seenBy 5 = .ok (.aload_n 0, 1) := by decide +kernel
theorem dX9_seenBy_6 : decode cX9_seenBy 6 = .ok (.getfield 19, 3) := by decide +kernel
theorem dX9_seenBy_9 : decode cX9_seenBy 9 = .ok (.getfield 164, 3) := by decide +kernel
theorem dX9_seenBy_12 : decode cX9_seenBy 12 = .ok (.iload_n 1, 1) := by decide +kernel
theorem dX9_seenBy_13 : decode cX9_seenBy 13 = .ok (.aaload, 1) := by decide +kernel
theorem dX9_seenBy_14 : decode cX9_seenBy 14 = .ok (.astore_n 2, 1) := by decide +kernel
theorem dX9_seenBy_15 : decode cX9_seenBy 15 = .ok (.iconst 0, 1) := by decide +kernel
theorem dX9_seenBy_16 : decode cX9_seenBy 16 = .ok (.istore_n 3, 1) := by decide +kernel
theorem dX9_seenBy_17 : decode cX9_seenBy 17 = .ok (.iconst 0, 1) := by decide +kernel
theorem dX9_seenBy_18 : decode cX9_seenBy 18 = .ok (.istore 4, 2) := by decide +kernel
theorem dX9_seenBy_20 : decode cX9_seenBy 20 = .ok (.iload 4, 2) := by decide +kernel
theorem dX9_seenBy_22 : decode cX9_seenBy 22 = .ok (.aload_n 0, 1) := by decide +kernel
theorem dX9_seenBy_23 : decode cX9_seenBy 23 = .ok (.getfield 19, 3) := by decide +kernel
theorem dX9_seenBy_26 : decode cX9_seenBy 26 = .ok (.getfield 76, 3) := by decide +kernel
theorem dX9_seenBy_29 : decode cX9_seenBy 29 = .ok (.if_icmp .ge 59, 3) := by decide +kernel
theorem dX9_seenBy_32 : decode cX9_seenBy 32 = .ok (.aload_n 0, 1) := by decide +kernel
theorem dX9_seenBy_33 : decode cX9_seenBy 33 = .ok (.getfield 19, 3) := by decide +kernel
theorem dX9_seenBy_36 : decode cX9_seenBy 36 = .ok (.getfield 164, 3) := by decide +kernel
theorem dX9_seenBy_39 : decode cX9_seenBy 39 = .ok (.iload 4, 2) := by decide +kernel
theorem dX9_seenBy_41 : decode cX9_seenBy 41 = .ok (.aaload, 1) := by decide +kernel
theorem dX9_seenBy_42 : decode cX9_seenBy 42 = .ok (.astore 5, 2) := by decide +kernel
theorem dX9_seenBy_44 : decode cX9_seenBy 44 = .ok (.iload 4, 2) := by decide +kernel
theorem dX9_seenBy_46 : decode cX9_seenBy 46 = .ok (.iload_n 1, 1) := by decide +kernel
theorem dX9_seenBy_47 : decode cX9_seenBy 47 = .ok (.if_icmp .eq 35, 3) := by decide +kernel
theorem dX9_seenBy_50 : decode cX9_seenBy 50 = .ok (.aload 5, 2) := by decide +kernel
theorem dX9_seenBy_52 : decode cX9_seenBy 52 = .ok (.getfield 246, 3) := by decide +kernel
theorem dX9_seenBy_55 : decode cX9_seenBy 55 = .ok (.iload_n 1, 1) := by decide +kernel
theorem dX9_seenBy_56 : decode cX9_seenBy 56 = .ok (.iaload, 1) := by decide +kernel
theorem dX9_seenBy_57 : decode cX9_seenBy 57 = .ok (.aload_n 2, 1) := by decide +kernel
theorem dX9_seenBy_58 : decode cX9_seenBy 58 = .ok (.getfield 246, 3) := by decide +kernel
theorem dX9_seenBy_61 : decode cX9_seenBy 61 = .ok (.iload_n 1, 1) := by decide +kernel
theorem dX9_seenBy_62 : decode cX9_seenBy 62 = .ok (.iaload, 1) := by decide +kernel
theorem dX9_seenBy_63 : decode cX9_seenBy 63 = .ok (.if_icmp .lt 19, 3) := by decide +kernel
theorem dX9_seenBy_66 : decode cX9_seenBy 66 = .ok (.aload 5, 2) := by decide +kernel
theorem dX9_seenBy_68 : decode cX9_seenBy 68 = .ok (.aload_n 2, 1) := by decide +kernel
theorem dX9_seenBy_69 : decode cX9_seenBy 69 = .ok (.invokevirtual 256, 3) := by decide +kernel
theorem dX9_seenBy_72 : decode cX9_seenBy 72 = .ok (.ifCond .ne 10, 3) := by decide +kernel
theorem dX9_seenBy_75 : decode cX9_seenBy 75 = .ok (.iload_n 3, 1) := by decide +kernel
theorem dX9_seenBy_76 : decode cX9_seenBy 76 = .ok (.iconst 1, 1) := by decide +kernel
theorem dX9_seenBy_77 : decode cX9_seenBy 77 = .ok (.iload 4, 2) := by decide +kernel
theorem dX9_seenBy_79 : decode cX9_seenBy 79 = .ok (.ishl, 1) := by decide +kernel
theorem dX9_seenBy_80 : decode cX9_seenBy 80 = .ok (.ior, 1) := by decide +kernel
theorem dX9_seenBy_81 : decode cX9_seenBy 81 = .ok (.istore_n 3, 1) := by decide +kernel
theorem dX9_seenBy_82 : decode cX9_seenBy 82 = .ok (.iinc 4 1, 3) := by decide +kernel
theorem dX9_seenBy_85 : decode cX9_seenBy 85 = .ok (.goto (-65), 3) := by decide +kernel
theorem dX9_seenBy_88 : decode cX9_seenBy 88 = .ok (.iload_n 3, 1) := by decide +kernel
theorem dX9_seenBy_89 : decode cX9_seenBy 89 = .ok (.ireturn, 1) := by decide +kernel
theorem dX9_blames_0 : decode cX9_blames 0 = .ok (.aload_n 0, 1) := by decide +kernel
theorem dX9_blames_1 : decode cX9_blames 1 = .ok (.getfield 19, 3) := by decide +kernel
theorem dX9_blames_4 : decode cX9_blames 4 = .ok (.getfield 260, 3) := by decide +kernel
theorem dX9_blames_7 : decode cX9_blames 7 = .ok (.getfield 264, 3) := by decide +kernel
theorem dX9_blames_10 : decode cX9_blames 10 = .ok (.ireturn, 1) := by decide +kernel
theorem dX9_blame_0 : decode cX9_blame 0 = .ok (.aload_n 0, 1) := by decide +kernel
theorem dX9_blame_1 : decode cX9_blame 1 = .ok (.getfield 19, 3) := by decide +kernel
theorem dX9_blame_4 : decode cX9_blame 4 = .ok (.getfield 260, 3) := by decide +kernel
theorem dX9_blame_7 : decode cX9_blame 7 = .ok (.iload_n 1, 1) := by decide +kernel
theorem dX9_blame_8 : decode cX9_blame 8 = .ok (.invokevirtual 269, 3) := by decide +kernel
theorem dX9_blame_11 : decode cX9_blame 11 = .ok (.ifCond .ne 14, 3) := by decide +kernel
theorem dX9_blame_14 : decode cX9_blame 14 = .ok (.new 203, 3) := by decide +kernel
theorem dX9_blame_17 : decode cX9_blame 17 = .ok (.dup, 1) := by decide +kernel
theorem dX9_blame_18 : decode cX9_blame 18 = .ok (.ldc_w 272, 3) := by decide +kernel
theorem dX9_blame_21 : decode cX9_blame 21 = .ok (.invokespecial 207, 3) := by decide +kernel
theorem dX9_blame_24 : decode cX9_blame 24 = .ok (.athrow, 1) := by decide +kernel
theorem dX9_blame_25 : decode cX9_blame 25 = .ok (.iload_n 2, 1) := by decide +kernel
theorem dX9_blame_26 : decode cX9_blame 26 = .ok (.bipush 6, 2) := by decide +kernel
theorem dX9_blame_28 : decode cX9_blame 28 = .ok (.invokestatic 208, 3) := by decide +kernel
theorem dX9_blame_31 : decode cX9_blame 31 = .ok (.aload_n 0, 1) := by decide +kernel
theorem dX9_blame_32 : decode cX9_blame 32 = .ok (.getfield 19, 3) := by decide +kernel
theorem dX9_blame_35 : decode cX9_blame 35 = .ok (.getfield 260, 3) := by decide +kernel
theorem dX9_blame_38 : decode cX9_blame 38 = .ok (.iload_n 1, 1) := by decide +kernel
theorem dX9_blame_39 : decode cX9_blame 39 = .ok (.iload_n 2, 1) := by decide +kernel
theorem dX9_blame_40 : decode cX9_blame 40 = .ok (.invokevirtual 274, 3) := by decide +kernel
theorem dX9_blame_43 : decode cX9_blame 43 = .ok (.ireturn, 1) := by decide +kernel
theorem dX9_posts_0 : decode cX9_posts 0 = .ok (.aload_n 0, 1) := by decide +kernel
theorem dX9_posts_1 : decode cX9_posts 1 = .ok (.getfield 19, 3) := by decide +kernel
theorem dX9_posts_4 : decode cX9_posts 4 = .ok (.getfield 275, 3) := by decide +kernel
theorem dX9_posts_7 : decode cX9_posts 7 = .ok (.getfield 264, 3) := by decide +kernel
theorem dX9_posts_10 : decode cX9_posts 10 = .ok (.ireturn, 1) := by decide +kernel
theorem dX9_boardPost_0 : decode cX9_boardPost 0 = .ok (.aload_n 0, 1) := by decide +kernel
theorem dX9_boardPost_1 : decode cX9_boardPost 1 = .ok (.iload_n 1, 1) := by decide +kernel
theorem dX9_boardPost_2 : decode cX9_boardPost 2 = .ok (.invokevirtual 278, 3) := by decide +kernel
theorem dX9_boardPost_5 : decode cX9_boardPost 5 = .ok (.iload_n 2, 1) := by decide +kernel
theorem dX9_boardPost_6 : decode cX9_boardPost 6 = .ok (.iconst 4, 1) := by decide +kernel
theorem dX9_boardPost_7 : decode cX9_boardPost 7 = .ok (.invokestatic 208, 3) := by decide +kernel
theorem dX9_boardPost_10 : decode cX9_boardPost 10 = .ok (.aload_n 0, 1) := by decide +kernel
theorem dX9_boardPost_11 : decode cX9_boardPost 11 = .ok (.getfield 19, 3) := by decide +kernel
theorem dX9_boardPost_14 : decode cX9_boardPost 14 = .ok (.getfield 275, 3) := by decide +kernel
theorem dX9_boardPost_17 : decode cX9_boardPost 17 = .ok (.iload_n 1, 1) := by decide +kernel
theorem dX9_boardPost_18 : decode cX9_boardPost 18 = .ok (.iload_n 2, 1) := by decide +kernel
theorem dX9_boardPost_19 : decode cX9_boardPost 19 = .ok (.invokevirtual 274, 3) := by decide +kernel
theorem dX9_boardPost_22 : decode cX9_boardPost 22 = .ok (.ireturn, 1) := by decide +kernel
theorem dX9_checkPost_0 : decode cX9_checkPost 0 = .ok (.aload_n 0, 1) := by decide +kernel
theorem dX9_checkPost_1 : decode cX9_checkPost 1 = .ok (.iload_n 1, 1) := by decide +kernel
theorem dX9_checkPost_2 : decode cX9_checkPost 2 = .ok (.invokevirtual 161, 3) := by decide +kernel
theorem dX9_checkPost_5 : decode cX9_checkPost 5 = .ok (.aload_n 0, 1) := by decide +kernel
theorem dX9_checkPost_6 : decode cX9_checkPost 6 = .ok (.iload_n 2, 1) := by decide +kernel
theorem dX9_checkPost_7 : decode cX9_checkPost 7 = .ok (.invokevirtual 278, 3) := by decide +kernel
theorem dX9_checkPost_10 : decode cX9_checkPost 10 = .ok (.aload_n 0, 1) := by decide +kernel
theorem dX9_checkPost_11 : decode cX9_checkPost 11 = .ok (.getfield 19, 3) := by decide +kernel
theorem dX9_checkPost_14 : decode cX9_checkPost 14 = .ok (.getfield 164, 3) := by decide +kernel
theorem dX9_checkPost_17 : decode cX9_checkPost 17 = .ok (.iload_n 1, 1) := by decide +kernel
theorem dX9_checkPost_18 : decode cX9_checkPost 18 = .ok (.aaload, 1) := by decide +kernel
theorem dX9_checkPost_19 : decode cX9_checkPost 19 = .ok (.astore_n 3, 1) := by decide +kernel
theorem dX9_checkPost_20 : decode cX9_checkPost 20 = .ok (.aload_n 0, 1) := by decide +kernel
theorem dX9_checkPost_21 : decode cX9_checkPost 21 = .ok (.getfield 19, 3) := by decide +kernel
theorem dX9_checkPost_24 : decode cX9_checkPost 24 = .ok (.getfield 275, 3) := by decide +kernel
theorem dX9_checkPost_27 : decode cX9_checkPost 27 = .ok (.iload_n 2, 1) := by decide +kernel
theorem dX9_checkPost_28 : decode cX9_checkPost 28 = .ok (.iconst 1, 1) := by decide +kernel
theorem dX9_checkPost_29 : decode cX9_checkPost 29 = .ok (.invokevirtual 274, 3) := by decide +kernel
theorem dX9_checkPost_32 : decode cX9_checkPost 32 = .ok (.istore 4, 2) := by decide +kernel
theorem dX9_checkPost_34 : decode cX9_checkPost 34 = .ok (.aload_n 3, 1) := by decide +kernel
theorem dX9_checkPost_35 : decode cX9_checkPost 35 = .ok (.getfield 185, 3) := by decide +kernel
theorem dX9_checkPost_38 : decode cX9_checkPost 38 = .ok (.iload 4, 2) := by decide +kernel
theorem dX9_checkPost_40 : decode cX9_checkPost 40 = .ok (.if_icmp .ge 5, 3) := by decide +kernel
theorem dX9_checkPost_43 : decode cX9_checkPost 43 = .ok (.iconst 2, 1) := by decide +kernel
theorem dX9_checkPost_44 : decode cX9_checkPost 44 = .ok (.ireturn, 1) := by decide +kernel
theorem dX9_checkPost_45 : decode cX9_checkPost 45 = .ok (.aload_n 3, 1) := by decide +kernel
theorem dX9_checkPost_46 : decode cX9_checkPost 46 = .ok (.getfield 243, 3) := by decide +kernel
theorem dX9_checkPost_49 : decode cX9_checkPost 49 = .ok (.iload 4, 2) := by decide +kernel
theorem dX9_checkPost_51 : decode cX9_checkPost 51 = .ok (.iaload, 1) := by decide +kernel
theorem dX9_checkPost_52 : decode cX9_checkPost 52 = .ok (.aload_n 0, 1) := by decide +kernel
theorem dX9_checkPost_53 : decode cX9_checkPost 53 = .ok (.getfield 19, 3) := by decide +kernel
theorem dX9_checkPost_56 : decode cX9_checkPost 56 = .ok (.getfield 275, 3) := by decide +kernel
theorem dX9_checkPost_59 : decode cX9_checkPost 59 = .ok (.iload_n 2, 1) := by decide +kernel
theorem dX9_checkPost_60 : decode cX9_checkPost 60 = .ok (.iconst 2, 1) := by decide +kernel
theorem dX9_checkPost_61 : decode cX9_checkPost 61 = .ok (.invokevirtual 274, 3) := by decide +kernel
theorem dX9_checkPost_64 : decode cX9_checkPost 64 = .ok (.if_icmp .ne 7, 3) := by decide +kernel
theorem dX9_checkPost_67 : decode cX9_checkPost 67 = .ok (.iconst 0, 1) := by decide +kernel
theorem dX9_checkPost_68 : decode cX9_checkPost 68 = .ok (.goto 4, 3) := by decide +kernel
theorem dX9_checkPost_71 : decode cX9_checkPost 71 = .ok (.iconst 1, 1) := by decide +kernel
theorem dX9_checkPost_72 : decode cX9_checkPost 72 = .ok (.ireturn, 1) := by decide +kernel
theorem dX9_requireClient_0 : decode cX9_requireClient 0 = .ok (.aload_n 0, 1) := by decide +kernel
theorem dX9_requireClient_1 : decode cX9_requireClient 1 = .ok (.getfield 19, 3) := by decide +kernel
theorem dX9_requireClient_4 : decode cX9_requireClient 4 = .ok (.iload_n 1, 1) := by decide +kernel
theorem dX9_requireClient_5 : decode cX9_requireClient 5 = .ok (.invokevirtual 236, 3) := by decide +kernel
theorem dX9_requireClient_8 : decode cX9_requireClient 8 = .ok (.ifCond .ne 14, 3) := by decide +kernel
theorem dX9_requireClient_11 : decode cX9_requireClient 11 = .ok (.new 203, 3) := by decide +kernel
theorem dX9_requireClient_14 : decode cX9_requireClient 14 = .ok (.dup, 1) := by decide +kernel
theorem dX9_requireClient_15 : decode cX9_requireClient 15 = .ok (.ldc_w 281, 3) := by decide +kernel
theorem dX9_requireClient_18 : decode cX9_requireClient 18 = .ok (.invokespecial 207, 3) := by decide +kernel
theorem dX9_requireClient_21 : decode cX9_requireClient 21 = .ok (.athrow, 1) := by decide +kernel
theorem dX9_requireClient_22 : decode cX9_requireClient 22 = .ok (.return_, 1) := by decide +kernel
theorem dX9_requireBranch_0 : decode cX9_requireBranch 0 = .ok (.aload_n 0, 1) := by decide +kernel
theorem dX9_requireBranch_1 : decode cX9_requireBranch 1 = .ok (.getfield 19, 3) := by decide +kernel
theorem dX9_requireBranch_4 : decode cX9_requireBranch 4 = .ok (.iload_n 1, 1) := by decide +kernel
theorem dX9_requireBranch_5 : decode cX9_requireBranch 5 = .ok (.invokevirtual 283, 3) := by decide +kernel
theorem dX9_requireBranch_8 : decode cX9_requireBranch 8 = .ok (.ifCond .ne 14, 3) := by decide +kernel
theorem dX9_requireBranch_11 : decode cX9_requireBranch 11 = .ok (.new 203, 3) := by decide +kernel
theorem dX9_requireBranch_14 : decode cX9_requireBranch 14 = .ok (.dup, 1) := by decide +kernel
theorem dX9_requireBranch_15 : decode cX9_requireBranch 15 = .ok (.ldc_w 286, 3) := by decide +kernel
theorem dX9_requireBranch_18 : decode cX9_requireBranch 18 = .ok (.invokespecial 207, 3) := by decide +kernel
theorem dX9_requireBranch_21 : decode cX9_requireBranch 21 = .ok (.athrow, 1) := by decide +kernel
theorem dX9_requireBranch_22 : decode cX9_requireBranch 22 = .ok (.return_, 1) := by decide +kernel
theorem dX9_requirePost_0 : decode cX9_requirePost 0 = .ok (.aload_n 0, 1) := by decide +kernel
theorem dX9_requirePost_1 : decode cX9_requirePost 1 = .ok (.getfield 19, 3) := by decide +kernel
theorem dX9_requirePost_4 : decode cX9_requirePost 4 = .ok (.getfield 275, 3) := by decide +kernel
theorem dX9_requirePost_7 : decode cX9_requirePost 7 = .ok (.iload_n 1, 1) := by decide +kernel
theorem dX9_requirePost_8 : decode cX9_requirePost 8 = .ok (.invokevirtual 269, 3) := by decide +kernel
theorem dX9_requirePost_11 : decode cX9_requirePost 11 = .ok (.ifCond .ne 14, 3) := by decide +kernel
theorem dX9_requirePost_14 : decode cX9_requirePost 14 = .ok (.new 203, 3) := by decide +kernel
theorem dX9_requirePost_17 : decode cX9_requirePost 17 = .ok (.dup, 1) := by decide +kernel
theorem dX9_requirePost_18 : decode cX9_requirePost 18 = .ok (.ldc_w 288, 3) := by decide +kernel
theorem dX9_requirePost_21 : decode cX9_requirePost 21 = .ok (.invokespecial 207, 3) := by decide +kernel
theorem dX9_requirePost_24 : decode cX9_requirePost 24 = .ok (.athrow, 1) := by decide +kernel
theorem dX9_requirePost_25 : decode cX9_requirePost 25 = .ok (.return_, 1) := by decide +kernel
theorem dX9_requirePart_0 : decode cX9_requirePart 0 = .ok (.iload_n 0, 1) := by decide +kernel
theorem dX9_requirePart_1 : decode cX9_requirePart 1 = .ok (.ifCond .lt 8, 3) := by decide +kernel
theorem dX9_requirePart_4 : decode cX9_requirePart 4 = .ok (.iload_n 0, 1) := by decide +kernel
theorem dX9_requirePart_5 : decode cX9_requirePart 5 = .ok (.iload_n 1, 1) := by decide +kernel
theorem dX9_requirePart_6 : decode cX9_requirePart 6 = .ok (.if_icmp .lt 14, 3) := by decide +kernel
theorem dX9_requirePart_9 : decode cX9_requirePart 9 = .ok (.new 96, 3) := by decide +kernel
theorem dX9_requirePart_12 : decode cX9_requirePart 12 = .ok (.dup, 1) := by decide +kernel
theorem dX9_requirePart_13 : decode cX9_requirePart 13 = .ok (.ldc_w 290, 3) := by decide +kernel
theorem dX9_requirePart_16 : decode cX9_requirePart 16 = .ok (.invokespecial 100, 3) := by decide +kernel
theorem dX9_requirePart_19 : decode cX9_requirePart 19 = .ok (.athrow, 1) := by decide +kernel
theorem dX9_requirePart_20 : decode cX9_requirePart 20 = .ok (.return_, 1) := by decide +kernel
theorem dX9_answerOf_0 : decode cX9_answerOf 0 = .ok (.iload_n 0, 1) := by decide +kernel
theorem dX9_answerOf_1 : decode cX9_answerOf 1 = .ok (.iconst (-1), 1) := by decide +kernel
theorem dX9_answerOf_2 : decode cX9_answerOf 2 = .ok (.if_icmp .ne 14, 3) := by decide +kernel
theorem dX9_answerOf_5 : decode cX9_answerOf 5 = .ok (.new 203, 3) := by decide +kernel
theorem dX9_answerOf_8 : decode cX9_answerOf 8 = .ok (.dup, 1) := by decide +kernel
theorem dX9_answerOf_9 : decode cX9_answerOf 9 = .ok (.ldc_w 292, 3) := by decide +kernel
theorem dX9_answerOf_12 : decode cX9_answerOf 12 = .ok (.invokespecial 207, 3) := by decide +kernel
theorem dX9_answerOf_15 : decode cX9_answerOf 15 = .ok (.athrow, 1) := by decide +kernel
theorem dX9_answerOf_16 : decode cX9_answerOf 16 = .ok (.iload_n 0, 1) := by decide +kernel
theorem dX9_answerOf_17 : decode cX9_answerOf 17 = .ok (.bipush (-2), 2) := by decide +kernel
theorem dX9_answerOf_19 : decode cX9_answerOf 19 = .ok (.if_icmp .ne 14, 3) := by decide +kernel
theorem dX9_answerOf_22 : decode cX9_answerOf 22 = .ok (.new 96, 3) := by decide +kernel
theorem dX9_answerOf_25 : decode cX9_answerOf 25 = .ok (.dup, 1) := by decide +kernel
theorem dX9_answerOf_26 : decode cX9_answerOf 26 = .ok (.ldc_w 294, 3) := by decide +kernel
theorem dX9_answerOf_29 : decode cX9_answerOf 29 = .ok (.invokespecial 100, 3) := by decide +kernel
theorem dX9_answerOf_32 : decode cX9_answerOf 32 = .ok (.athrow, 1) := by decide +kernel
theorem dX9_answerOf_33 : decode cX9_answerOf 33 = .ok (.iload_n 0, 1) := by decide +kernel
theorem dX9_answerOf_34 : decode cX9_answerOf 34 = .ok (.bipush (-3), 2) := by decide +kernel
theorem dX9_answerOf_36 : decode cX9_answerOf 36 = .ok (.if_icmp .ne 14, 3) := by decide +kernel
theorem dX9_answerOf_39 : decode cX9_answerOf 39 = .ok (.new 27, 3) := by decide +kernel
theorem dX9_answerOf_42 : decode cX9_answerOf 42 = .ok (.dup, 1) := by decide +kernel
theorem dX9_answerOf_43 : decode cX9_answerOf 43 = .ok (.ldc_w 296, 3) := by decide +kernel
theorem dX9_answerOf_46 : decode cX9_answerOf 46 = .ok (.invokespecial 31, 3) := by decide +kernel
theorem dX9_answerOf_49 : decode cX9_answerOf 49 = .ok (.athrow, 1) := by decide +kernel
theorem dX9_answerOf_50 : decode cX9_answerOf 50 = .ok (.iload_n 0, 1) := by decide +kernel
theorem dX9_answerOf_51 : decode cX9_answerOf 51 = .ok (.ireturn, 1) := by decide +kernel
theorem dX9_signatureOf_0 : decode cX9_signatureOf 0 = .ok (.iload_n 2, 1) := by decide +kernel
theorem dX9_signatureOf_1 : decode cX9_signatureOf 1 = .ok (.i2l, 1) := by decide +kernel
theorem dX9_signatureOf_2 : decode cX9_signatureOf 2 = .ok (.ldc2_w 298, 3) := by decide +kernel
theorem dX9_signatureOf_5 : decode cX9_signatureOf 5 = .ok (.lmul, 1) := by decide +kernel
theorem dX9_signatureOf_6 : decode cX9_signatureOf 6 = .ok (.iload_n 1, 1) := by decide +kernel
theorem dX9_signatureOf_7 : decode cX9_signatureOf 7 = .ok (.i2l, 1) := by decide +kernel
theorem dX9_signatureOf_8 : decode cX9_signatureOf 8 = .ok (.ldc2_w 300, 3) := by decide +kernel
theorem dX9_signatureOf_11 : decode cX9_signatureOf 11 = .ok (.lmul, 1) := by decide +kernel
theorem dX9_signatureOf_12 : decode cX9_signatureOf 12 = .ok (.ladd, 1) := by decide +kernel
theorem dX9_signatureOf_13 : decode cX9_signatureOf 13 = .ok (.iload_n 0, 1) := by decide +kernel
theorem dX9_signatureOf_14 : decode cX9_signatureOf 14 = .ok (.i2l, 1) := by decide +kernel
theorem dX9_signatureOf_15 : decode cX9_signatureOf 15 = .ok (.ldc2_w 302, 3) := by decide +kernel
theorem dX9_signatureOf_18 : decode cX9_signatureOf 18 = .ok (.lmul, 1) := by decide +kernel
theorem dX9_signatureOf_19 : decode cX9_signatureOf 19 = .ok (.ladd, 1) := by decide +kernel
theorem dX9_signatureOf_20 : decode cX9_signatureOf 20 = .ok (.ldc2_w 304, 3) := by decide +kernel
theorem dX9_signatureOf_23 : decode cX9_signatureOf 23 = .ok (.ladd, 1) := by decide +kernel
theorem dX9_signatureOf_24 : decode cX9_signatureOf 24 = .ok (.ldc2_w 239, 3) := by decide +kernel
theorem dX9_signatureOf_27 : decode cX9_signatureOf 27 = .ok (.lrem, 1) := by decide +kernel
theorem dX9_signatureOf_28 : decode cX9_signatureOf 28 = .ok (.l2i, 1) := by decide +kernel
theorem dX9_signatureOf_29 : decode cX9_signatureOf 29 = .ok (.ireturn, 1) := by decide +kernel
theorem dX9_firstDifference_0 : decode cX9_firstDifference 0 = .ok (.iconst 0, 1) := by decide +kernel
theorem dX9_firstDifference_1 : decode cX9_firstDifference 1 = .ok (.istore_n 3, 1) := by decide +kernel
theorem dX9_firstDifference_2 : decode cX9_firstDifference 2 = .ok (.iload_n 3, 1) := by decide +kernel
theorem dX9_firstDifference_3 : decode cX9_firstDifference 3 = .ok (.iload_n 2, 1) := by decide +kernel
theorem dX9_firstDifference_4 : decode cX9_firstDifference 4 = .ok (.if_icmp .gt 27, 3) := by decide +kernel
theorem dX9_firstDifference_7 : decode cX9_firstDifference 7 = .ok (.iload_n 3, 1) := by decide +kernel
theorem dX9_firstDifference_8 : decode cX9_firstDifference 8 = .ok (.sipush 200, 3) := by decide +kernel
theorem dX9_firstDifference_11 : decode cX9_firstDifference 11 = .ok (.if_icmp .gt 20, 3) := by decide +kernel
theorem dX9_firstDifference_14 : decode cX9_firstDifference 14 = .ok (.aload_n 0, 1) := by decide +kernel
theorem dX9_firstDifference_15 : decode cX9_firstDifference 15 = .ok (.iload_n 3, 1) := by decide +kernel
theorem dX9_firstDifference_16 : decode cX9_firstDifference 16 = .ok (.iaload, 1) := by decide +kernel
theorem dX9_firstDifference_17 : decode cX9_firstDifference 17 = .ok (.aload_n 1, 1) := by decide +kernel
theorem dX9_firstDifference_18 : decode cX9_firstDifference 18 = .ok (.iload_n 3, 1) := by decide +kernel
theorem dX9_firstDifference_19 : decode cX9_firstDifference 19 = .ok (.iaload, 1) := by decide +kernel
theorem dX9_firstDifference_20 : decode cX9_firstDifference 20 = .ok (.if_icmp .eq 5, 3) := by decide +kernel
theorem dX9_firstDifference_23 : decode cX9_firstDifference 23 = .ok (.iload_n 3, 1) := by decide +kernel
theorem dX9_firstDifference_24 : decode cX9_firstDifference 24 = .ok (.ireturn, 1) := by decide +kernel
theorem dX9_firstDifference_25 : decode cX9_firstDifference 25 = .ok (.iinc 3 1, 3) := by decide +kernel
theorem dX9_firstDifference_28 : decode cX9_firstDifference 28 = .ok (.goto (-26), 3) := by decide +kernel
theorem dX9_firstDifference_31 : decode cX9_firstDifference 31 = .ok (.iload_n 2, 1) := by decide +kernel
theorem dX9_firstDifference_32 : decode cX9_firstDifference 32 = .ok (.iconst 1, 1) := by decide +kernel
theorem dX9_firstDifference_33 : decode cX9_firstDifference 33 = .ok (.iadd, 1) := by decide +kernel
theorem dX9_firstDifference_34 : decode cX9_firstDifference 34 = .ok (.ireturn, 1) := by decide +kernel
theorem dJx29ce0_ordinal_8abf5_0 : decode cJx29ce0_ordinal_8abf5 0 = .ok (.aload_n 0, 1) := by decide +kernel
theorem dJx29ce0_ordinal_8abf5_1 : decode cJx29ce0_ordinal_8abf5 1 = .ok (.getfield 7, 3) := by decide +kernel
theorem dJx29ce0_ordinal_8abf5_4 : decode cJx29ce0_ordinal_8abf5 4 = .ok (.ireturn, 1) := by decide +kernel
theorem dJ9_max_7cf53_0 : decode cJ9_max_7cf53 0 = .ok (.iload_n 0, 1) := by decide +kernel
theorem dJ9_max_7cf53_1 : decode cJ9_max_7cf53 1 = .ok (.iload_n 1, 1) := by decide +kernel
theorem dJ9_max_7cf53_2 : decode cJ9_max_7cf53 2 = .ok (.if_icmp .lt 7, 3) := by decide +kernel
theorem dJ9_max_7cf53_5 : decode cJ9_max_7cf53 5 = .ok (.iload_n 0, 1) := by decide +kernel
theorem dJ9_max_7cf53_6 : decode cJ9_max_7cf53 6 = .ok (.goto 4, 3) := by decide +kernel
theorem dJ9_max_7cf53_9 : decode cJ9_max_7cf53 9 = .ok (.iload_n 1, 1) := by decide +kernel
theorem dJ9_max_7cf53_10 : decode cJ9_max_7cf53 10 = .ok (.ireturn, 1) := by decide +kernel
theorem dJ9_min_7cf53_0 : decode cJ9_min_7cf53 0 = .ok (.iload_n 0, 1) := by decide +kernel
theorem dJ9_min_7cf53_1 : decode cJ9_min_7cf53 1 = .ok (.iload_n 1, 1) := by decide +kernel
theorem dJ9_min_7cf53_2 : decode cJ9_min_7cf53 2 = .ok (.if_icmp .gt 7, 3) := by decide +kernel
theorem dJ9_min_7cf53_5 : decode cJ9_min_7cf53 5 = .ok (.iload_n 0, 1) := by decide +kernel
theorem dJ9_min_7cf53_6 : decode cJ9_min_7cf53 6 = .ok (.goto 4, 3) := by decide +kernel
theorem dJ9_min_7cf53_9 : decode cJ9_min_7cf53 9 = .ok (.iload_n 1, 1) := by decide +kernel
theorem dJ9_min_7cf53_10 : decode cJ9_min_7cf53 10 = .ok (.ireturn, 1) := by decide +kernel
theorem dJ0_length_8abf5_0 : decode cJ0_length_8abf5 0 = .ok (.aload_n 0, 1) := by decide +kernel
theorem dJ0_length_8abf5_1 : decode cJ0_length_8abf5 1 = .ok (.getfield 9, 3) := by decide +kernel
theorem dJ0_length_8abf5_4 : decode cJ0_length_8abf5 4 = .ok (.arraylength, 1) := by decide +kernel
theorem dJ0_length_8abf5_5 : decode cJ0_length_8abf5 5 = .ok (.aload_n 0, 1) := by decide +kernel
theorem dJ0_length_8abf5_6 : decode cJ0_length_8abf5 6 = .ok (.invokevirtual 335, 3) := by decide +kernel
theorem dJ0_length_8abf5_9 : decode cJ0_length_8abf5 9 = .ok (.ishr, 1) := by decide +kernel
theorem dJ0_length_8abf5_10 : decode cJ0_length_8abf5 10 = .ok (.ireturn, 1) := by decide +kernel
theorem dJ0_charAt_5068e_0 : decode cJ0_charAt_5068e 0 = .ok (.aload_n 0, 1) := by decide +kernel
theorem dJ0_charAt_5068e_1 : decode cJ0_charAt_5068e 1 = .ok (.invokevirtual 492, 3) := by decide +kernel
theorem dJ0_charAt_5068e_4 : decode cJ0_charAt_5068e 4 = .ok (.ifCond .eq 12, 3) := by decide +kernel
theorem dJ0_charAt_5068e_7 : decode cJ0_charAt_5068e 7 = .ok (.aload_n 0, 1) := by decide +kernel
theorem dJ0_charAt_5068e_8 : decode cJ0_charAt_5068e 8 = .ok (.getfield 9, 3) := by decide +kernel
theorem dJ0_charAt_5068e_11 : decode cJ0_charAt_5068e 11 = .ok (.iload_n 1, 1) := by decide +kernel
theorem dJ0_charAt_5068e_12 : decode cJ0_charAt_5068e 12 = .ok (.invokestatic 495, 3) := by decide +kernel
theorem dJ0_charAt_5068e_15 : decode cJ0_charAt_5068e 15 = .ok (.ireturn, 1) := by decide +kernel
theorem dJ0_charAt_5068e_16 : decode cJ0_charAt_5068e 16 = .ok (.aload_n 0, 1) := by decide +kernel
theorem dJ0_charAt_5068e_17 : decode cJ0_charAt_5068e 17 = .ok (.getfield 9, 3) := by decide +kernel
theorem dJ0_charAt_5068e_20 : decode cJ0_charAt_5068e 20 = .ok (.iload_n 1, 1) := by decide +kernel
theorem dJ0_charAt_5068e_21 : decode cJ0_charAt_5068e 21 = .ok (.invokestatic 498, 3) := by decide +kernel
theorem dJ0_charAt_5068e_24 : decode cJ0_charAt_5068e 24 = .ok (.ireturn, 1) := by decide +kernel
theorem dJ0_coder_7d493_0 : decode cJ0_coder_7d493 0 = .ok (.getstatic 38, 3) := by decide +kernel
theorem dJ0_coder_7d493_3 : decode cJ0_coder_7d493 3 = .ok (.ifCond .eq 10, 3) := by decide +kernel
theorem dJ0_coder_7d493_6 : decode cJ0_coder_7d493 6 = .ok (.aload_n 0, 1) := by decide +kernel
theorem dJ0_coder_7d493_7 : decode cJ0_coder_7d493 7 = .ok (.getfield 15, 3) := by decide +kernel
theorem dJ0_coder_7d493_10 : decode cJ0_coder_7d493 10 = .ok (.goto 4, 3) := by decide +kernel
theorem dJ0_coder_7d493_13 : decode cJ0_coder_7d493 13 = .ok (.iconst 1, 1) := by decide +kernel
theorem dJ0_coder_7d493_14 : decode cJ0_coder_7d493 14 = .ok (.ireturn, 1) := by decide +kernel
theorem dJ0_isLatin1_aae02_0 : decode cJ0_isLatin1_aae02 0 = .ok (.getstatic 38, 3) := by decide +kernel
theorem dJ0_isLatin1_aae02_3 : decode cJ0_isLatin1_aae02 3 = .ok (.ifCond .eq 14, 3) := by decide +kernel
theorem dJ0_isLatin1_aae02_6 : decode cJ0_isLatin1_aae02 6 = .ok (.aload_n 0, 1) := by decide +kernel
theorem dJ0_isLatin1_aae02_7 : decode cJ0_isLatin1_aae02 7 = .ok (.getfield 15, 3) := by decide +kernel
theorem dJ0_isLatin1_aae02_10 : decode cJ0_isLatin1_aae02 10 = .ok (.ifCond .ne 7, 3) := by decide +kernel
theorem dJ0_isLatin1_aae02_13 : decode cJ0_isLatin1_aae02 13 = .ok (.iconst 1, 1) := by decide +kernel
theorem dJ0_isLatin1_aae02_14 : decode cJ0_isLatin1_aae02 14 = .ok (.goto 4, 3) := by decide +kernel
theorem dJ0_isLatin1_aae02_17 : decode cJ0_isLatin1_aae02 17 = .ok (.iconst 0, 1) := by decide +kernel
theorem dJ0_isLatin1_aae02_18 : decode cJ0_isLatin1_aae02 18 = .ok (.ireturn, 1) := by decide +kernel
theorem dJ0_checkIndex_df160_0 : decode cJ0_checkIndex_df160 0 = .ok (.iload_n 0, 1) := by decide +kernel
theorem dJ0_checkIndex_df160_1 : decode cJ0_checkIndex_df160 1 = .ok (.iload_n 1, 1) := by decide +kernel
theorem dJ0_checkIndex_df160_2 : decode cJ0_checkIndex_df160 2 = .ok (.getstatic 1053, 3) := by decide +kernel
theorem dJ0_checkIndex_df160_5 : decode cJ0_checkIndex_df160 5 = .ok (.invokestatic 1059, 3) := by decide +kernel
theorem dJ0_checkIndex_df160_8 : decode cJ0_checkIndex_df160 8 = .ok (.pop, 1) := by decide +kernel
theorem dJ0_checkIndex_df160_9 : decode cJ0_checkIndex_df160 9 = .ok (.return_, 1) := by decide +kernel
theorem dJ1_charAt_3b067_0 : decode cJ1_charAt_3b067 0 = .ok (.iload_n 1, 1) := by decide +kernel
theorem dJ1_charAt_3b067_1 : decode cJ1_charAt_3b067 1 = .ok (.aload_n 0, 1) := by decide +kernel
theorem dJ1_charAt_3b067_2 : decode cJ1_charAt_3b067 2 = .ok (.arraylength, 1) := by decide +kernel
theorem dJ1_charAt_3b067_3 : decode cJ1_charAt_3b067 3 = .ok (.invokestatic 9, 3) := by decide +kernel
theorem dJ1_charAt_3b067_6 : decode cJ1_charAt_3b067 6 = .ok (.aload_n 0, 1) := by decide +kernel
theorem dJ1_charAt_3b067_7 : decode cJ1_charAt_3b067 7 = .ok (.iload_n 1, 1) := by decide +kernel
theorem dJ1_charAt_3b067_8 : decode cJ1_charAt_3b067 8 = .ok (.baload, 1) := by decide +kernel
theorem dJ1_charAt_3b067_9 : decode cJ1_charAt_3b067 9 = .ok (.sipush 255, 3) := by decide +kernel
theorem dJ1_charAt_3b067_12 : decode cJ1_charAt_3b067 12 = .ok (.iand, 1) := by decide +kernel
theorem dJ1_charAt_3b067_13 : decode cJ1_charAt_3b067 13 = .ok (.i2c, 1) := by decide +kernel
theorem dJ1_charAt_3b067_14 : decode cJ1_charAt_3b067 14 = .ok (.ireturn, 1) := by decide +kernel
theorem dJ2_getChar_3b067_0 : decode cJ2_getChar_3b067 0 = .ok (.getstatic 44, 3) := by decide +kernel
theorem dJ2_getChar_3b067_3 : decode cJ2_getChar_3b067 3 = .ok (.ifCond .ne 25, 3) := by decide +kernel
theorem dJ2_getChar_3b067_6 : decode cJ2_getChar_3b067 6 = .ok (.iload_n 1, 1) := by decide +kernel
theorem dJ2_getChar_3b067_7 : decode cJ2_getChar_3b067 7 = .ok (.ifCond .lt 11, 3) := by decide +kernel
theorem dJ2_getChar_3b067_10 : decode cJ2_getChar_3b067 10 = .ok (.iload_n 1, 1) := by decide +kernel
theorem dJ2_getChar_3b067_11 : decode cJ2_getChar_3b067 11 = .ok (.aload_n 0, 1) := by decide +kernel
theorem dJ2_getChar_3b067_12 : decode cJ2_getChar_3b067 12 = .ok (.invokestatic 48, 3) := by decide +kernel
theorem dJ2_getChar_3b067_15 : decode cJ2_getChar_3b067 15 = .ok (.if_icmp .lt 13, 3) := by decide +kernel
theorem dJ2_getChar_3b067_18 : decode cJ2_getChar_3b067 18 = .ok (.new 52, 3) := by decide +kernel
theorem dJ2_getChar_3b067_21 : decode cJ2_getChar_3b067 21 = .ok (.dup, 1) := by decide +kernel
theorem dJ2_getChar_3b067_22 : decode cJ2_getChar_3b067 22 = .ok (.ldc 54, 2) := by decide +kernel
theorem dJ2_getChar_3b067_24 : decode cJ2_getChar_3b067 24 = .ok (.invokespecial 56, 3) := by decide +kernel
theorem dJ2_getChar_3b067_27 : decode cJ2_getChar_3b067 27 = .ok (.athrow, 1) := by decide +kernel
theorem dJ2_getChar_3b067_28 : decode cJ2_getChar_3b067 28 = .ok (.iload_n 1, 1) := by decide +kernel
theorem dJ2_getChar_3b067_29 : decode cJ2_getChar_3b067 29 = .ok (.iconst 1, 1) := by decide +kernel
theorem dJ2_getChar_3b067_30 : decode cJ2_getChar_3b067 30 = .ok (.ishl, 1) := by decide +kernel
theorem dJ2_getChar_3b067_31 : decode cJ2_getChar_3b067 31 = .ok (.istore_n 1, 1) := by decide +kernel
theorem dJ2_getChar_3b067_32 : decode cJ2_getChar_3b067 32 = .ok (.aload_n 0, 1) := by decide +kernel
theorem dJ2_getChar_3b067_33 : decode cJ2_getChar_3b067 33 = .ok (.iload_n 1, 1) := by decide +kernel
theorem dJ2_getChar_3b067_34 : decode cJ2_getChar_3b067 34 = .ok (.iinc 1 1, 3) := by decide +kernel
theorem dJ2_getChar_3b067_37 : decode cJ2_getChar_3b067 37 = .ok (.baload, 1) := by decide +kernel
theorem dJ2_getChar_3b067_38 : decode cJ2_getChar_3b067 38 = .ok (.sipush 255, 3) := by decide +kernel
theorem dJ2_getChar_3b067_41 : decode cJ2_getChar_3b067 41 = .ok (.iand, 1) := by decide +kernel
theorem dJ2_getChar_3b067_42 : decode cJ2_getChar_3b067 42 = .ok (.getstatic 59, 3) := by decide +kernel
theorem dJ2_getChar_3b067_45 : decode cJ2_getChar_3b067 45 = .ok (.ishl, 1) := by decide +kernel
theorem dJ2_getChar_3b067_46 : decode cJ2_getChar_3b067 46 = .ok (.aload_n 0, 1) := by decide +kernel
theorem dJ2_getChar_3b067_47 : decode cJ2_getChar_3b067 47 = .ok (.iload_n 1, 1) := by decide +kernel
theorem dJ2_getChar_3b067_48 : decode cJ2_getChar_3b067 48 = .ok (.baload, 1) := by decide +kernel
theorem dJ2_getChar_3b067_49 : decode cJ2_getChar_3b067 49 = .ok (.sipush 255, 3) := by decide +kernel
theorem dJ2_getChar_3b067_52 : decode cJ2_getChar_3b067 52 = .ok (.iand, 1) := by decide +kernel
theorem dJ2_getChar_3b067_53 : decode cJ2_getChar_3b067 53 = .ok (.getstatic 63, 3) := by decide +kernel
theorem dJ2_getChar_3b067_56 : decode cJ2_getChar_3b067 56 = .ok (.ishl, 1) := by decide +kernel
theorem dJ2_getChar_3b067_57 : decode cJ2_getChar_3b067 57 = .ok (.ior, 1) := by decide +kernel
theorem dJ2_getChar_3b067_58 : decode cJ2_getChar_3b067 58 = .ok (.i2c, 1) := by decide +kernel
theorem dJ2_getChar_3b067_59 : decode cJ2_getChar_3b067 59 = .ok (.ireturn, 1) := by decide +kernel
theorem dJ2_length_9d52b_0 : decode cJ2_length_9d52b 0 = .ok (.aload_n 0, 1) := by decide +kernel
theorem dJ2_length_9d52b_1 : decode cJ2_length_9d52b 1 = .ok (.arraylength, 1) := by decide +kernel
theorem dJ2_length_9d52b_2 : decode cJ2_length_9d52b 2 = .ok (.iconst 1, 1) := by decide +kernel
theorem dJ2_length_9d52b_3 : decode cJ2_length_9d52b 3 = .ok (.ishr, 1) := by decide +kernel
theorem dJ2_length_9d52b_4 : decode cJ2_length_9d52b 4 = .ok (.ireturn, 1) := by decide +kernel
theorem dJ2_charAt_3b067_0 : decode cJ2_charAt_3b067 0 = .ok (.iload_n 1, 1) := by decide +kernel
theorem dJ2_charAt_3b067_1 : decode cJ2_charAt_3b067 1 = .ok (.aload_n 0, 1) := by decide +kernel
theorem dJ2_charAt_3b067_2 : decode cJ2_charAt_3b067 2 = .ok (.invokestatic 67, 3) := by decide +kernel
theorem dJ2_charAt_3b067_5 : decode cJ2_charAt_3b067 5 = .ok (.aload_n 0, 1) := by decide +kernel
theorem dJ2_charAt_3b067_6 : decode cJ2_charAt_3b067 6 = .ok (.iload_n 1, 1) := by decide +kernel
theorem dJ2_charAt_3b067_7 : decode cJ2_charAt_3b067 7 = .ok (.invokestatic 71, 3) := by decide +kernel
theorem dJ2_charAt_3b067_10 : decode cJ2_charAt_3b067 10 = .ok (.ireturn, 1) := by decide +kernel
theorem dJ2_checkIndex_2214a_0 : decode cJ2_checkIndex_2214a 0 = .ok (.iload_n 0, 1) := by decide +kernel
theorem dJ2_checkIndex_2214a_1 : decode cJ2_checkIndex_2214a 1 = .ok (.aload_n 1, 1) := by decide +kernel
theorem dJ2_checkIndex_2214a_2 : decode cJ2_checkIndex_2214a 2 = .ok (.invokestatic 48, 3) := by decide +kernel
theorem dJ2_checkIndex_2214a_5 : decode cJ2_checkIndex_2214a 5 = .ok (.invokestatic 414, 3) := by decide +kernel
theorem dJ2_checkIndex_2214a_8 : decode cJ2_checkIndex_2214a 8 = .ok (.return_, 1) := by decide +kernel
theorem dJ7_fill_53178_0 : decode cJ7_fill_53178 0 = .ok (.iconst 0, 1) := by decide +kernel
theorem dJ7_fill_53178_1 : decode cJ7_fill_53178 1 = .ok (.istore_n 2, 1) := by decide +kernel
theorem dJ7_fill_53178_2 : decode cJ7_fill_53178 2 = .ok (.aload_n 0, 1) := by decide +kernel
theorem dJ7_fill_53178_3 : decode cJ7_fill_53178 3 = .ok (.arraylength, 1) := by decide +kernel
theorem dJ7_fill_53178_4 : decode cJ7_fill_53178 4 = .ok (.istore_n 3, 1) := by decide +kernel
theorem dJ7_fill_53178_5 : decode cJ7_fill_53178 5 = .ok (.iload_n 2, 1) := by decide +kernel
theorem dJ7_fill_53178_6 : decode cJ7_fill_53178 6 = .ok (.iload_n 3, 1) := by decide +kernel
theorem dJ7_fill_53178_7 : decode cJ7_fill_53178 7 = .ok (.if_icmp .ge 13, 3) := by decide +kernel
theorem dJ7_fill_53178_10 : decode cJ7_fill_53178 10 = .ok (.aload_n 0, 1) := by decide +kernel
theorem dJ7_fill_53178_11 : decode cJ7_fill_53178 11 = .ok (.iload_n 2, 1) := by decide +kernel
theorem dJ7_fill_53178_12 : decode cJ7_fill_53178 12 = .ok (.iload_n 1, 1) := by decide +kernel
theorem dJ7_fill_53178_13 : decode cJ7_fill_53178 13 = .ok (.iastore, 1) := by decide +kernel
theorem dJ7_fill_53178_14 : decode cJ7_fill_53178 14 = .ok (.iinc 2 1, 3) := by decide +kernel
theorem dJ7_fill_53178_17 : decode cJ7_fill_53178 17 = .ok (.goto (-12), 3) := by decide +kernel
theorem dJ7_fill_53178_20 : decode cJ7_fill_53178 20 = .ok (.return_, 1) := by decide +kernel
theorem dJ3_checkIndex_8e157_0 : decode cJ3_checkIndex_8e157 0 = .ok (.iload_n 0, 1) := by decide +kernel
theorem dJ3_checkIndex_8e157_1 : decode cJ3_checkIndex_8e157 1 = .ok (.ifCond .lt 8, 3) := by decide +kernel
theorem dJ3_checkIndex_8e157_4 : decode cJ3_checkIndex_8e157 4 = .ok (.iload_n 0, 1) := by decide +kernel
theorem dJ3_checkIndex_8e157_5 : decode cJ3_checkIndex_8e157 5 = .ok (.iload_n 1, 1) := by decide +kernel
theorem dJ3_checkIndex_8e157_6 : decode cJ3_checkIndex_8e157 6 = .ok (.if_icmp .lt 10, 3) := by decide +kernel
theorem dJ3_checkIndex_8e157_9 : decode cJ3_checkIndex_8e157 9 = .ok (.aload_n 2, 1) := by decide +kernel
theorem dJ3_checkIndex_8e157_10 : decode cJ3_checkIndex_8e157 10 = .ok (.iload_n 0, 1) := by decide +kernel
theorem dJ3_checkIndex_8e157_11 : decode cJ3_checkIndex_8e157 11 = .ok (.iload_n 1, 1) := by decide +kernel
theorem dJ3_checkIndex_8e157_12 : decode cJ3_checkIndex_8e157 12 = .ok (.invokestatic 95, 3) := by decide +kernel
theorem dJ3_checkIndex_8e157_15 : decode cJ3_checkIndex_8e157 15 = .ok (.athrow, 1) := by decide +kernel
theorem dJ3_checkIndex_8e157_16 : decode cJ3_checkIndex_8e157 16 = .ok (.iload_n 0, 1) := by decide +kernel
theorem dJ3_checkIndex_8e157_17 : decode cJ3_checkIndex_8e157 17 = .ok (.ireturn, 1) := by decide +kernel
