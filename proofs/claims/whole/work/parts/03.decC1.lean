theorem dX9_pulls_44 : decode cX9_pulls 44 = .ok (.iload_n 2, 1) := by decide +kernel
theorem dX9_pulls_45 : decode cX9_pulls 45 = .ok (.imul, 1) := by decide +kernel
theorem dX9_pulls_46 : decode cX9_pulls 46 = .ok (.iconst 1, 1) := by decide +kernel
theorem dX9_pulls_47 : decode cX9_pulls 47 = .ok (.iadd, 1) := by decide +kernel
theorem dX9_pulls_48 : decode cX9_pulls 48 = .ok (.iaload, 1) := by decide +kernel
theorem dX9_pulls_49 : decode cX9_pulls 49 = .ok (.aload_n 0, 1) := by decide +kernel
theorem dX9_pulls_50 : decode cX9_pulls 50 = .ok (.getfield 25, 3) := by decide +kernel
theorem dX9_pulls_53 : decode cX9_pulls 53 = .ok (.iconst 3, 1) := by decide +kernel
theorem dX9_pulls_54 : decode cX9_pulls 54 = .ok (.iload_n 2, 1) := by decide +kernel
theorem dX9_pulls_55 : decode cX9_pulls 55 = .ok (.imul, 1) := by decide +kernel
theorem dX9_pulls_56 : decode cX9_pulls 56 = .ok (.iconst 2, 1) := by decide +kernel
theorem dX9_pulls_57 : decode cX9_pulls 57 = .ok (.iadd, 1) := by decide +kernel
theorem dX9_pulls_58 : decode cX9_pulls 58 = .ok (.iaload, 1) := by decide +kernel
theorem dX9_pulls_59 : decode cX9_pulls 59 = .ok (.invokevirtual 103, 3) := by decide +kernel
theorem dX9_pulls_62 : decode cX9_pulls 62 = .ok (.iinc 2 1, 3) := by decide +kernel
theorem dX9_pulls_65 : decode cX9_pulls 65 = .ok (.goto (-41), 3) := by decide +kernel
theorem dX9_pulls_68 : decode cX9_pulls 68 = .ok (.iload_n 1, 1) := by decide +kernel
theorem dX9_pulls_69 : decode cX9_pulls 69 = .ok (.ireturn, 1) := by decide +kernel
theorem dX9_count_0 : decode cX9_count 0 = .ok (.iconst 0, 1) := by decide +kernel
theorem dX9_count_1 : decode cX9_count 1 = .ok (.istore_n 2, 1) := by decide +kernel
theorem dX9_count_2 : decode cX9_count 2 = .ok (.iconst 0, 1) := by decide +kernel
theorem dX9_count_3 : decode cX9_count 3 = .ok (.istore_n 3, 1) := by decide +kernel
theorem dX9_count_4 : decode cX9_count 4 = .ok (.iload_n 3, 1) := by decide +kernel
theorem dX9_count_5 : decode cX9_count 5 = .ok (.aload_n 0, 1) := by decide +kernel
theorem dX9_count_6 : decode cX9_count 6 = .ok (.getfield 100, 3) := by decide +kernel
theorem dX9_count_9 : decode cX9_count 9 = .ok (.if_icmp .ge 20, 3) := by decide +kernel
theorem dX9_count_12 : decode cX9_count 12 = .ok (.iload_n 2, 1) := by decide +kernel
theorem dX9_count_13 : decode cX9_count 13 = .ok (.aload_n 0, 1) := by decide +kernel
theorem dX9_count_14 : decode cX9_count 14 = .ok (.getfield 16, 3) := by decide +kernel
theorem dX9_count_17 : decode cX9_count 17 = .ok (.iconst 3, 1) := by decide +kernel
theorem dX9_count_18 : decode cX9_count 18 = .ok (.iload_n 3, 1) := by decide +kernel
theorem dX9_count_19 : decode cX9_count 19 = .ok (.imul, 1) := by decide +kernel
theorem dX9_count_20 : decode cX9_count 20 = .ok (.iaload, 1) := by decide +kernel
theorem dX9_count_21 : decode cX9_count 21 = .ok (.iadd, 1) := by decide +kernel
theorem dX9_count_22 : decode cX9_count 22 = .ok (.istore_n 2, 1) := by decide +kernel
theorem dX9_count_23 : decode cX9_count 23 = .ok (.iinc 3 1, 3) := by decide +kernel
theorem dX9_count_26 : decode cX9_count 26 = .ok (.goto (-22), 3) := by decide +kernel
theorem dX9_count_29 : decode cX9_count 29 = .ok (.iload_n 1, 1) := by decide +kernel
theorem dX9_count_30 : decode cX9_count 30 = .ok (.ifCond .ne 10, 3) := by decide +kernel
theorem dX9_count_33 : decode cX9_count 33 = .ok (.aload_n 0, 1) := by decide +kernel
theorem dX9_count_34 : decode cX9_count 34 = .ok (.getfield 68, 3) := by decide +kernel
theorem dX9_count_37 : decode cX9_count 37 = .ok (.goto 37, 3) := by decide +kernel
theorem dX9_count_40 : decode cX9_count 40 = .ok (.iload_n 1, 1) := by decide +kernel
theorem dX9_count_41 : decode cX9_count 41 = .ok (.iconst 1, 1) := by decide +kernel
theorem dX9_count_42 : decode cX9_count 42 = .ok (.if_icmp .ne 10, 3) := by decide +kernel
theorem dX9_count_45 : decode cX9_count 45 = .ok (.aload_n 0, 1) := by decide +kernel
theorem dX9_count_46 : decode cX9_count 46 = .ok (.getfield 100, 3) := by decide +kernel
theorem dX9_count_49 : decode cX9_count 49 = .ok (.goto 25, 3) := by decide +kernel
theorem dX9_count_52 : decode cX9_count 52 = .ok (.iload_n 1, 1) := by decide +kernel
theorem dX9_count_53 : decode cX9_count 53 = .ok (.iconst 2, 1) := by decide +kernel
theorem dX9_count_54 : decode cX9_count 54 = .ok (.if_icmp .ne 7, 3) := by decide +kernel
theorem dX9_count_57 : decode cX9_count 57 = .ok (.iload_n 2, 1) := by decide +kernel
theorem dX9_count_58 : decode cX9_count 58 = .ok (.goto 16, 3) := by decide +kernel
theorem dX9_count_61 : decode cX9_count 61 = .ok (.iload_n 1, 1) := by decide +kernel
theorem dX9_count_62 : decode cX9_count 62 = .ok (.iconst 3, 1) := by decide +kernel
theorem dX9_count_63 : decode cX9_count 63 = .ok (.if_icmp .ne 10, 3) := by decide +kernel
theorem dX9_count_66 : decode cX9_count 66 = .ok (.aload_n 0, 1) := by decide +kernel
theorem dX9_count_67 : decode cX9_count 67 = .ok (.getfield 157, 3) := by decide +kernel
theorem dX9_count_70 : decode cX9_count 70 = .ok (.goto 4, 3) := by decide +kernel
theorem dX9_count_73 : decode cX9_count 73 = .ok (.iconst (-1), 1) := by decide +kernel
theorem dX9_count_74 : decode cX9_count 74 = .ok (.ireturn, 1) := by decide +kernel
theorem dX9_lays_0 : decode cX9_lays 0 = .ok (.iconst 0, 1) := by decide +kernel
theorem dX9_lays_1 : decode cX9_lays 1 = .ok (.istore_n 1, 1) := by decide +kernel
theorem dX9_lays_2 : decode cX9_lays 2 = .ok (.iconst 0, 1) := by decide +kernel
theorem dX9_lays_3 : decode cX9_lays 3 = .ok (.istore_n 2, 1) := by decide +kernel
theorem dX9_lays_4 : decode cX9_lays 4 = .ok (.iload_n 2, 1) := by decide +kernel
theorem dX9_lays_5 : decode cX9_lays 5 = .ok (.aload_n 0, 1) := by decide +kernel
theorem dX9_lays_6 : decode cX9_lays 6 = .ok (.getfield 100, 3) := by decide +kernel
theorem dX9_lays_9 : decode cX9_lays 9 = .ok (.if_icmp .ge 70, 3) := by decide +kernel
theorem dX9_lays_12 : decode cX9_lays 12 = .ok (.iconst 0, 1) := by decide +kernel
theorem dX9_lays_13 : decode cX9_lays 13 = .ok (.istore_n 3, 1) := by decide +kernel
theorem dX9_lays_14 : decode cX9_lays 14 = .ok (.iload_n 3, 1) := by decide +kernel
theorem dX9_lays_15 : decode cX9_lays 15 = .ok (.aload_n 0, 1) := by decide +kernel
theorem dX9_lays_16 : decode cX9_lays 16 = .ok (.getfield 16, 3) := by decide +kernel
theorem dX9_lays_19 : decode cX9_lays 19 = .ok (.iconst 3, 1) := by decide +kernel
theorem dX9_lays_20 : decode cX9_lays 20 = .ok (.iload_n 2, 1) := by decide +kernel
theorem dX9_lays_21 : decode cX9_lays 21 = .ok (.imul, 1) := by decide +kernel
theorem dX9_lays_22 : decode cX9_lays 22 = .ok (.iaload, 1) := by decide +kernel
theorem dX9_lays_23 : decode cX9_lays 23 = .ok (.if_icmp .ge 50, 3) := by decide +kernel
theorem dX9_lays_26 : decode cX9_lays 26 = .ok (.iload_n 1, 1) := by decide +kernel
theorem dX9_lays_27 : decode cX9_lays 27 = .ok (.bipush 100, 2) := by decide +kernel
theorem dX9_lays_29 : decode cX9_lays 29 = .ok (.if_icmp .ge 44, 3) := by decide +kernel
theorem dX9_lays_32 : decode cX9_lays 32 = .ok (.aload_n 0, 1) := by decide +kernel
theorem dX9_lays_33 : decode cX9_lays 33 = .ok (.getfield 31, 3) := by decide +kernel
theorem dX9_lays_36 : decode cX9_lays 36 = .ok (.iload_n 1, 1) := by decide +kernel
theorem dX9_lays_37 : decode cX9_lays 37 = .ok (.aload_n 0, 1) := by decide +kernel
theorem dX9_lays_38 : decode cX9_lays 38 = .ok (.getfield 16, 3) := by decide +kernel
theorem dX9_lays_41 : decode cX9_lays 41 = .ok (.iconst 3, 1) := by decide +kernel
theorem dX9_lays_42 : decode cX9_lays 42 = .ok (.iload_n 2, 1) := by decide +kernel
theorem dX9_lays_43 : decode cX9_lays 43 = .ok (.imul, 1) := by decide +kernel
theorem dX9_lays_44 : decode cX9_lays 44 = .ok (.iconst 1, 1) := by decide +kernel
theorem dX9_lays_45 : decode cX9_lays 45 = .ok (.iadd, 1) := by decide +kernel
theorem dX9_lays_46 : decode cX9_lays 46 = .ok (.iaload, 1) := by decide +kernel
theorem dX9_lays_47 : decode cX9_lays 47 = .ok (.iastore, 1) := by decide +kernel
theorem dX9_lays_48 : decode cX9_lays 48 = .ok (.aload_n 0, 1) := by decide +kernel
theorem dX9_lays_49 : decode cX9_lays 49 = .ok (.getfield 34, 3) := by decide +kernel
theorem dX9_lays_52 : decode cX9_lays 52 = .ok (.iload_n 1, 1) := by decide +kernel
theorem dX9_lays_53 : decode cX9_lays 53 = .ok (.aload_n 0, 1) := by decide +kernel
theorem dX9_lays_54 : decode cX9_lays 54 = .ok (.getfield 16, 3) := by decide +kernel
theorem dX9_lays_57 : decode cX9_lays 57 = .ok (.iconst 3, 1) := by decide +kernel
theorem dX9_lays_58 : decode cX9_lays 58 = .ok (.iload_n 2, 1) := by decide +kernel
theorem dX9_lays_59 : decode cX9_lays 59 = .ok (.imul, 1) := by decide +kernel
theorem dX9_lays_60 : decode cX9_lays 60 = .ok (.iconst 2, 1) := by decide +kernel
theorem dX9_lays_61 : decode cX9_lays 61 = .ok (.iadd, 1) := by decide +kernel
theorem dX9_lays_62 : decode cX9_lays 62 = .ok (.iaload, 1) := by decide +kernel
theorem dX9_lays_63 : decode cX9_lays 63 = .ok (.iastore, 1) := by decide +kernel
theorem dX9_lays_64 : decode cX9_lays 64 = .ok (.iinc 1 1, 3) := by decide +kernel
theorem dX9_lays_67 : decode cX9_lays 67 = .ok (.iinc 3 1, 3) := by decide +kernel
theorem dX9_lays_70 : decode cX9_lays 70 = .ok (.goto (-56), 3) := by decide +kernel
theorem dX9_lays_73 : decode cX9_lays 73 = .ok (.iinc 2 1, 3) := by decide +kernel
theorem dX9_lays_76 : decode cX9_lays 76 = .ok (.goto (-72), 3) := by decide +kernel
theorem dX9_lays_79 : decode cX9_lays 79 = .ok (.iload_n 1, 1) := by decide +kernel
theorem dX9_lays_80 : decode cX9_lays 80 = .ok (.bipush 100, 2) := by decide +kernel
theorem dX9_lays_82 : decode cX9_lays 82 = .ok (.if_icmp .ge 23, 3) := by decide +kernel
theorem dX9_lays_85 : decode cX9_lays 85 = .ok (.aload_n 0, 1) := by decide +kernel
theorem dX9_lays_86 : decode cX9_lays 86 = .ok (.getfield 31, 3) := by decide +kernel
theorem dX9_lays_89 : decode cX9_lays 89 = .ok (.iload_n 1, 1) := by decide +kernel
theorem dX9_lays_90 : decode cX9_lays 90 = .ok (.iconst 0, 1) := by decide +kernel
theorem dX9_lays_91 : decode cX9_lays 91 = .ok (.iastore, 1) := by decide +kernel
theorem dX9_lays_92 : decode cX9_lays 92 = .ok (.aload_n 0, 1) := by decide +kernel
theorem dX9_lays_93 : decode cX9_lays 93 = .ok (.getfield 34, 3) := by decide +kernel
theorem dX9_lays_96 : decode cX9_lays 96 = .ok (.iload_n 1, 1) := by decide +kernel
theorem dX9_lays_97 : decode cX9_lays 97 = .ok (.iconst 0, 1) := by decide +kernel
theorem dX9_lays_98 : decode cX9_lays 98 = .ok (.iastore, 1) := by decide +kernel
theorem dX9_lays_99 : decode cX9_lays 99 = .ok (.iinc 1 1, 3) := by decide +kernel
theorem dX9_lays_102 : decode cX9_lays 102 = .ok (.goto (-23), 3) := by decide +kernel
theorem dX9_lays_105 : decode cX9_lays 105 = .ok (.return_, 1) := by decide +kernel
theorem dX9_root_0 : decode cX9_root 0 = .ok (.iconst 0, 1) := by decide +kernel
theorem dX9_root_1 : decode cX9_root 1 = .ok (.istore_n 1, 1) := by decide +kernel
theorem dX9_root_2 : decode cX9_root 2 = .ok (.iload_n 1, 1) := by decide +kernel
theorem dX9_root_3 : decode cX9_root 3 = .ok (.iconst 1, 1) := by decide +kernel
theorem dX9_root_4 : decode cX9_root 4 = .ok (.iadd, 1) := by decide +kernel
theorem dX9_root_5 : decode cX9_root 5 = .ok (.iload_n 1, 1) := by decide +kernel
theorem dX9_root_6 : decode cX9_root 6 = .ok (.iconst 1, 1) := by decide +kernel
theorem dX9_root_7 : decode cX9_root 7 = .ok (.iadd, 1) := by decide +kernel
theorem dX9_root_8 : decode cX9_root 8 = .ok (.imul, 1) := by decide +kernel
theorem dX9_root_9 : decode cX9_root 9 = .ok (.iload_n 0, 1) := by decide +kernel
theorem dX9_root_10 : decode cX9_root 10 = .ok (.if_icmp .gt 9, 3) := by decide +kernel
theorem dX9_root_13 : decode cX9_root 13 = .ok (.iinc 1 1, 3) := by decide +kernel
theorem dX9_root_16 : decode cX9_root 16 = .ok (.goto (-14), 3) := by decide +kernel
theorem dX9_root_19 : decode cX9_root 19 = .ok (.iload_n 1, 1) := by decide +kernel
theorem dX9_root_20 : decode cX9_root 20 = .ok (.ireturn, 1) := by decide +kernel
theorem dX9_size_0 : decode cX9_size 0 = .ok (.iload_n 0, 1) := by decide +kernel
theorem dX9_size_1 : decode cX9_size 1 = .ok (.ifCond .ge 8, 3) := by decide +kernel
theorem dX9_size_4 : decode cX9_size 4 = .ok (.iload_n 0, 1) := by decide +kernel
theorem dX9_size_5 : decode cX9_size 5 = .ok (.ineg, 1) := by decide +kernel
theorem dX9_size_6 : decode cX9_size 6 = .ok (.goto 4, 3) := by decide +kernel
theorem dX9_size_9 : decode cX9_size 9 = .ok (.iload_n 0, 1) := by decide +kernel
theorem dX9_size_10 : decode cX9_size 10 = .ok (.ireturn, 1) := by decide +kernel
theorem dX9_swings_0 : decode cX9_swings 0 = .ok (.aload_n 0, 1) := by decide +kernel
theorem dX9_swings_1 : decode cX9_swings 1 = .ok (.getfield 160, 3) := by decide +kernel
theorem dX9_swings_4 : decode cX9_swings 4 = .ok (.aload_n 0, 1) := by decide +kernel
theorem dX9_swings_5 : decode cX9_swings 5 = .ok (.getfield 163, 3) := by decide +kernel
theorem dX9_swings_8 : decode cX9_swings 8 = .ok (.isub, 1) := by decide +kernel
theorem dX9_swings_9 : decode cX9_swings 9 = .ok (.istore_n 2, 1) := by decide +kernel
theorem dX9_swings_10 : decode cX9_swings 10 = .ok (.aload_n 0, 1) := by decide +kernel
theorem dX9_swings_11 : decode cX9_swings 11 = .ok (.getfield 166, 3) := by decide +kernel
theorem dX9_swings_14 : decode cX9_swings 14 = .ok (.aload_n 0, 1) := by decide +kernel
theorem dX9_swings_15 : decode cX9_swings 15 = .ok (.getfield 169, 3) := by decide +kernel
theorem dX9_swings_18 : decode cX9_swings 18 = .ok (.isub, 1) := by decide +kernel
theorem dX9_swings_19 : decode cX9_swings 19 = .ok (.istore_n 3, 1) := by decide +kernel
theorem dX9_swings_20 : decode cX9_swings 20 = .ok (.aload_n 0, 1) := by decide +kernel
theorem dX9_swings_21 : decode cX9_swings 21 = .ok (.iload_n 2, 1) := by decide +kernel
theorem dX9_swings_22 : decode cX9_swings 22 = .ok (.iload_n 2, 1) := by decide +kernel
theorem dX9_swings_23 : decode cX9_swings 23 = .ok (.imul, 1) := by decide +kernel
theorem dX9_swings_24 : decode cX9_swings 24 = .ok (.iload_n 3, 1) := by decide +kernel
theorem dX9_swings_25 : decode cX9_swings 25 = .ok (.iload_n 3, 1) := by decide +kernel
theorem dX9_swings_26 : decode cX9_swings 26 = .ok (.imul, 1) := by decide +kernel
theorem dX9_swings_27 : decode cX9_swings 27 = .ok (.iadd, 1) := by decide +kernel
theorem dX9_swings_28 : decode cX9_swings 28 = .ok (.aload_n 0, 1) := by decide +kernel
theorem dX9_swings_29 : decode cX9_swings 29 = .ok (.getfield 7, 3) := by decide +kernel
theorem dX9_swings_32 : decode cX9_swings 32 = .ok (.iconst 0, 1) := by decide +kernel
theorem dX9_swings_33 : decode cX9_swings 33 = .ok (.iaload, 1) := by decide +kernel
theorem dX9_swings_34 : decode cX9_swings 34 = .ok (.aload_n 0, 1) := by decide +kernel
theorem dX9_swings_35 : decode cX9_swings 35 = .ok (.getfield 7, 3) := by decide +kernel
theorem dX9_swings_38 : decode cX9_swings 38 = .ok (.iconst 0, 1) := by decide +kernel
theorem dX9_swings_39 : decode cX9_swings 39 = .ok (.iaload, 1) := by decide +kernel
theorem dX9_swings_40 : decode cX9_swings 40 = .ok (.imul, 1) := by decide +kernel
theorem dX9_swings_41 : decode cX9_swings 41 = .ok (.if_icmp .le 7, 3) := by decide +kernel
theorem dX9_swings_44 : decode cX9_swings 44 = .ok (.iconst 1, 1) := by decide +kernel
theorem dX9_swings_45 : decode cX9_swings 45 = .ok (.goto 4, 3) := by decide +kernel
theorem dX9_swings_48 : decode cX9_swings 48 = .ok (.iconst 0, 1) := by decide +kernel
theorem dX9_swings_49 : decode cX9_swings 49 = .ok (.putfield 172, 3) := by decide +kernel
theorem dX9_swings_52 : decode cX9_swings 52 = .ok (.aload_n 0, 1) := by decide +kernel
theorem dX9_swings_53 : decode cX9_swings 53 = .ok (.getfield 172, 3) := by decide +kernel
theorem dX9_swings_56 : decode cX9_swings 56 = .ok (.iconst 1, 1) := by decide +kernel
theorem dX9_swings_57 : decode cX9_swings 57 = .ok (.if_icmp .ne 119, 3) := by decide +kernel
theorem dX9_swings_60 : decode cX9_swings 60 = .ok (.iload_n 2, 1) := by decide +kernel
theorem dX9_swings_61 : decode cX9_swings 61 = .ok (.iload_n 2, 1) := by decide +kernel
theorem dX9_swings_62 : decode cX9_swings 62 = .ok (.imul, 1) := by decide +kernel
theorem dX9_swings_63 : decode cX9_swings 63 = .ok (.iload_n 3, 1) := by decide +kernel
theorem dX9_swings_64 : decode cX9_swings 64 = .ok (.iload_n 3, 1) := by decide +kernel
theorem dX9_swings_65 : decode cX9_swings 65 = .ok (.imul, 1) := by decide +kernel
theorem dX9_swings_66 : decode cX9_swings 66 = .ok (.iadd, 1) := by decide +kernel
theorem dX9_swings_67 : decode cX9_swings 67 = .ok (.invokestatic 175, 3) := by decide +kernel
theorem dX9_swings_70 : decode cX9_swings 70 = .ok (.istore 4, 2) := by decide +kernel
theorem dX9_swings_72 : decode cX9_swings 72 = .ok (.iload_n 2, 1) := by decide +kernel
theorem dX9_swings_73 : decode cX9_swings 73 = .ok (.aload_n 0, 1) := by decide +kernel
theorem dX9_swings_74 : decode cX9_swings 74 = .ok (.getfield 7, 3) := by decide +kernel
theorem dX9_swings_77 : decode cX9_swings 77 = .ok (.iconst 0, 1) := by decide +kernel
theorem dX9_swings_78 : decode cX9_swings 78 = .ok (.iaload, 1) := by decide +kernel
theorem dX9_swings_79 : decode cX9_swings 79 = .ok (.imul, 1) := by decide +kernel
theorem dX9_swings_80 : decode cX9_swings 80 = .ok (.iload 4, 2) := by decide +kernel
theorem dX9_swings_82 : decode cX9_swings 82 = .ok (.idiv, 1) := by decide +kernel
theorem dX9_swings_83 : decode cX9_swings 83 = .ok (.istore 5, 2) := by decide +kernel
theorem dX9_swings_85 : decode cX9_swings 85 = .ok (.iload_n 3, 1) := by decide +kernel
theorem dX9_swings_86 : decode cX9_swings 86 = .ok (.aload_n 0, 1) := by decide +kernel
theorem dX9_swings_87 : decode cX9_swings 87 = .ok (.getfield 7, 3) := by decide +kernel
theorem dX9_swings_90 : decode cX9_swings 90 = .ok (.iconst 0, 1) := by decide +kernel
theorem dX9_swings_91 : decode cX9_swings 91 = .ok (.iaload, 1) := by decide +kernel
theorem dX9_swings_92 : decode cX9_swings 92 = .ok (.imul, 1) := by decide +kernel
theorem dX9_swings_93 : decode cX9_swings 93 = .ok (.iload 4, 2) := by decide +kernel
theorem dX9_swings_95 : decode cX9_swings 95 = .ok (.idiv, 1) := by decide +kernel
theorem dX9_swings_96 : decode cX9_swings 96 = .ok (.istore 6, 2) := by decide +kernel
theorem dX9_swings_98 : decode cX9_swings 98 = .ok (.aload_n 0, 1) := by decide +kernel
theorem dX9_swings_99 : decode cX9_swings 99 = .ok (.aload_n 0, 1) := by decide +kernel
theorem dX9_swings_100 : decode cX9_swings 100 = .ok (.getfield 163, 3) := by decide +kernel
theorem dX9_swings_103 : decode cX9_swings 103 = .ok (.iload 5, 2) := by decide +kernel
theorem dX9_swings_105 : decode cX9_swings 105 = .ok (.iadd, 1) := by decide +kernel
theorem dX9_swings_106 : decode cX9_swings 106 = .ok (.putfield 160, 3) := by decide +kernel
theorem dX9_swings_109 : decode cX9_swings 109 = .ok (.aload_n 0, 1) := by decide +kernel
theorem dX9_swings_110 : decode cX9_swings 110 = .ok (.aload_n 0, 1) := by decide +kernel
theorem dX9_swings_111 : decode cX9_swings 111 = .ok (.getfield 169, 3) := by decide +kernel
theorem dX9_swings_114 : decode cX9_swings 114 = .ok (.iload 6, 2) := by decide +kernel
theorem dX9_swings_116 : decode cX9_swings 116 = .ok (.iadd, 1) := by decide +kernel
theorem dX9_swings_117 : decode cX9_swings 117 = .ok (.putfield 166, 3) := by decide +kernel
theorem dX9_swings_120 : decode cX9_swings 120 = .ok (.aload_n 0, 1) := by decide +kernel
theorem dX9_swings_121 : decode cX9_swings 121 = .ok (.dup, 1) := by decide +kernel
theorem dX9_swings_122 : decode cX9_swings 122 = .ok (.getfield 179, 3) := by decide +kernel
theorem dX9_swings_125 : decode cX9_swings 125 = .ok (.iload 5, 2) := by decide +kernel
theorem dX9_swings_127 : decode cX9_swings 127 = .ok (.iload_n 2, 1) := by decide +kernel
theorem dX9_swings_128 : decode cX9_swings 128 = .ok (.isub, 1) := by decide +kernel
theorem dX9_swings_129 : decode cX9_swings 129 = .ok (.iadd, 1) := by decide +kernel
theorem dX9_swings_130 : decode cX9_swings 130 = .ok (.putfield 179, 3) := by decide +kernel
theorem dX9_swings_133 : decode cX9_swings 133 = .ok (.aload_n 0, 1) := by decide +kernel
theorem dX9_swings_134 : decode cX9_swings 134 = .ok (.dup, 1) := by decide +kernel
theorem dX9_swings_135 : decode cX9_swings 135 = .ok (.getfield 182, 3) := by decide +kernel
theorem dX9_swings_138 : decode cX9_swings 138 = .ok (.iload 6, 2) := by decide +kernel
theorem dX9_swings_140 : decode cX9_swings 140 = .ok (.iload_n 3, 1) := by decide +kernel
theorem dX9_swings_141 : decode cX9_swings 141 = .ok (.isub, 1) := by decide +kernel
theorem dX9_swings_142 : decode cX9_swings 142 = .ok (.iadd, 1) := by decide +kernel
theorem dX9_swings_143 : decode cX9_swings 143 = .ok (.putfield 182, 3) := by decide +kernel
theorem dX9_swings_146 : decode cX9_swings 146 = .ok (.aload_n 0, 1) := by decide +kernel
theorem dX9_swings_147 : decode cX9_swings 147 = .ok (.iconst 0, 1) := by decide +kernel
theorem dX9_swings_148 : decode cX9_swings 148 = .ok (.putfield 185, 3) := by decide +kernel
theorem dX9_swings_151 : decode cX9_swings 151 = .ok (.aload_n 0, 1) := by decide +kernel
theorem dX9_swings_152 : decode cX9_swings 152 = .ok (.aload_n 0, 1) := by decide +kernel
theorem dX9_swings_153 : decode cX9_swings 153 = .ok (.getfield 179, 3) := by decide +kernel
theorem dX9_swings_156 : decode cX9_swings 156 = .ok (.iload_n 1, 1) := by decide +kernel
theorem dX9_swings_157 : decode cX9_swings 157 = .ok (.isub, 1) := by decide +kernel
theorem dX9_swings_158 : decode cX9_swings 158 = .ok (.iconst 3, 1) := by decide +kernel
theorem dX9_swings_159 : decode cX9_swings 159 = .ok (.idiv, 1) := by decide +kernel
theorem dX9_swings_160 : decode cX9_swings 160 = .ok (.putfield 188, 3) := by decide +kernel
theorem dX9_swings_163 : decode cX9_swings 163 = .ok (.aload_n 0, 1) := by decide +kernel
theorem dX9_swings_164 : decode cX9_swings 164 = .ok (.dup, 1) := by decide +kernel
theorem dX9_swings_165 : decode cX9_swings 165 = .ok (.getfield 191, 3) := by decide +kernel
theorem dX9_swings_168 : decode cX9_swings 168 = .ok (.iconst 1, 1) := by decide +kernel
theorem dX9_swings_169 : decode cX9_swings 169 = .ok (.iadd, 1) := by decide +kernel
theorem dX9_swings_170 : decode cX9_swings 170 = .ok (.putfield 191, 3) := by decide +kernel
theorem dX9_swings_173 : decode cX9_swings 173 = .ok (.goto 19, 3) := by decide +kernel
theorem dX9_swings_176 : decode cX9_swings 176 = .ok (.aload_n 0, 1) := by decide +kernel
theorem dX9_swings_177 : decode cX9_swings 177 = .ok (.aload_n 0, 1) := by decide +kernel
theorem dX9_swings_178 : decode cX9_swings 178 = .ok (.getfield 185, 3) := by decide +kernel
theorem dX9_swings_181 : decode cX9_swings 181 = .ok (.aload_n 0, 1) := by decide +kernel
theorem dX9_swings_182 : decode cX9_swings 182 = .ok (.getfield 188, 3) := by decide +kernel
theorem dX9_swings_185 : decode cX9_swings 185 = .ok (.iadd, 1) := by decide +kernel
theorem dX9_swings_186 : decode cX9_swings 186 = .ok (.bipush 15, 2) := by decide +kernel
theorem dX9_swings_188 : decode cX9_swings 188 = .ok (.iand, 1) := by decide +kernel
theorem dX9_swings_189 : decode cX9_swings 189 = .ok (.putfield 185, 3) := by decide +kernel
theorem dX9_swings_192 : decode cX9_swings 192 = .ok (.return_, 1) := by decide +kernel
theorem dX9_meets_0 : decode cX9_meets 0 = .ok (.aload_n 0, 1) := by decide +kernel
theorem dX9_meets_1 : decode cX9_meets 1 = .ok (.getfield 160, 3) := by decide +kernel
theorem dX9_meets_4 : decode cX9_meets 4 = .ok (.aload_n 0, 1) := by decide +kernel
theorem dX9_meets_5 : decode cX9_meets 5 = .ok (.getfield 163, 3) := by decide +kernel
theorem dX9_meets_8 : decode cX9_meets 8 = .ok (.isub, 1) := by decide +kernel
theorem dX9_meets_9 : decode cX9_meets 9 = .ok (.istore 4, 2) := by decide +kernel
theorem dX9_meets_11 : decode cX9_meets 11 = .ok (.aload_n 0, 1) := by decide +kernel
theorem dX9_meets_12 : decode cX9_meets 12 = .ok (.getfield 166, 3) := by decide +kernel
theorem dX9_meets_15 : decode cX9_meets 15 = .ok (.aload_n 0, 1) := by decide +kernel
theorem dX9_meets_16 : decode cX9_meets 16 = .ok (.getfield 169, 3) := by decide +kernel
theorem dX9_meets_19 : decode cX9_meets 19 = .ok (.isub, 1) := by decide +kernel
theorem dX9_meets_20 : decode cX9_meets 20 = .ok (.istore 5, 2) := by decide +kernel
theorem dX9_meets_22 : decode cX9_meets 22 = .ok (.bipush (-4), 2) := by decide +kernel
theorem dX9_meets_24 : decode cX9_meets 24 = .ok (.istore 6, 2) := by decide +kernel
theorem dX9_meets_26 : decode cX9_meets 26 = .ok (.aload_n 0, 1) := by decide +kernel
theorem dX9_meets_27 : decode cX9_meets 27 = .ok (.getfield 68, 3) := by decide +kernel
theorem dX9_meets_30 : decode cX9_meets 30 = .ok (.iconst 1, 1) := by decide +kernel
theorem dX9_meets_31 : decode cX9_meets 31 = .ok (.isub, 1) := by decide +kernel
theorem dX9_meets_32 : decode cX9_meets 32 = .ok (.istore 7, 2) := by decide +kernel
theorem dX9_meets_34 : decode cX9_meets 34 = .ok (.iload 7, 2) := by decide +kernel
theorem dX9_meets_36 : decode cX9_meets 36 = .ok (.ifCond .lt 82, 3) := by decide +kernel
theorem dX9_meets_39 : decode cX9_meets 39 = .ok (.aload_n 0, 1) := by decide +kernel
theorem dX9_meets_40 : decode cX9_meets 40 = .ok (.getfield 194, 3) := by decide +kernel
theorem dX9_meets_43 : decode cX9_meets 43 = .ok (.ifCond .ne 75, 3) := by decide +kernel
theorem dX9_meets_46 : decode cX9_meets 46 = .ok (.aload_n 0, 1) := by decide +kernel
theorem dX9_meets_47 : decode cX9_meets 47 = .ok (.getfield 13, 3) := by decide +kernel
theorem dX9_meets_50 : decode cX9_meets 50 = .ok (.iconst 5, 1) := by decide +kernel
theorem dX9_meets_51 : decode cX9_meets 51 = .ok (.iload 7, 2) := by decide +kernel
theorem dX9_meets_53 : decode cX9_meets 53 = .ok (.imul, 1) := by decide +kernel
theorem dX9_meets_54 : decode cX9_meets 54 = .ok (.iconst 1, 1) := by decide +kernel
theorem dX9_meets_55 : decode cX9_meets 55 = .ok (.iadd, 1) := by decide +kernel
theorem dX9_meets_56 : decode cX9_meets 56 = .ok (.iaload, 1) := by decide +kernel
theorem dX9_meets_57 : decode cX9_meets 57 = .ok (.istore 8, 2) := by decide +kernel
theorem dX9_meets_59 : decode cX9_meets 59 = .ok (.iload_n 1, 1) := by decide +kernel
theorem dX9_meets_60 : decode cX9_meets 60 = .ok (.iload 8, 2) := by decide +kernel
theorem dX9_meets_62 : decode cX9_meets 62 = .ok (.if_icmp .lt 46, 3) := by decide +kernel
theorem dX9_meets_65 : decode cX9_meets 65 = .ok (.iload 5, 2) := by decide +kernel
theorem dX9_meets_67 : decode cX9_meets 67 = .ok (.iload 8, 2) := by decide +kernel
theorem dX9_meets_69 : decode cX9_meets 69 = .ok (.if_icmp .ge 39, 3) := by decide +kernel
theorem dX9_meets_72 : decode cX9_meets 72 = .ok (.iload 4, 2) := by decide +kernel
theorem dX9_meets_74 : decode cX9_meets 74 = .ok (.aload_n 0, 1) := by decide +kernel
theorem dX9_meets_75 : decode cX9_meets 75 = .ok (.getfield 13, 3) := by decide +kernel
theorem dX9_meets_78 : decode cX9_meets 78 = .ok (.iconst 5, 1) := by decide +kernel
theorem dX9_meets_79 : decode cX9_meets 79 = .ok (.iload 7, 2) := by decide +kernel
theorem dX9_meets_81 : decode cX9_meets 81 = .ok (.imul, 1) := by decide +kernel
theorem dX9_meets_82 : decode cX9_meets 82 = .ok (.iaload, 1) := by decide +kernel
theorem dX9_meets_83 : decode cX9_meets 83 = .ok (.isub, 1) := by decide +kernel
theorem dX9_meets_84 : decode cX9_meets 84 = .ok (.invokestatic 197, 3) := by decide +kernel
theorem dX9_meets_87 : decode cX9_meets 87 = .ok (.aload_n 0, 1) := by decide +kernel
theorem dX9_meets_88 : decode cX9_meets 88 = .ok (.getfield 13, 3) := by decide +kernel
theorem dX9_meets_91 : decode cX9_meets 91 = .ok (.iconst 5, 1) := by decide +kernel
theorem dX9_meets_92 : decode cX9_meets 92 = .ok (.iload 7, 2) := by decide +kernel
theorem dX9_meets_94 : decode cX9_meets 94 = .ok (.imul, 1) := by decide +kernel
theorem dX9_meets_95 : decode cX9_meets 95 = .ok (.iconst 2, 1) := by decide +kernel
theorem dX9_meets_96 : decode cX9_meets 96 = .ok (.iadd, 1) := by decide +kernel
theorem dX9_meets_97 : decode cX9_meets 97 = .ok (.iaload, 1) := by decide +kernel
theorem dX9_meets_98 : decode cX9_meets 98 = .ok (.iconst 2, 1) := by decide +kernel
theorem dX9_meets_99 : decode cX9_meets 99 = .ok (.iadd, 1) := by decide +kernel
theorem dX9_meets_100 : decode cX9_meets 100 = .ok (.if_icmp .gt 8, 3) := by decide +kernel
theorem dX9_meets_103 : decode cX9_meets 103 = .ok (.iload 7, 2) := by decide +kernel
theorem dX9_meets_105 : decode cX9_meets 105 = .ok (.goto 5, 3) := by decide +kernel
theorem dX9_meets_108 : decode cX9_meets 108 = .ok (.iload 6, 2) := by decide +kernel
theorem dX9_meets_110 : decode cX9_meets 110 = .ok (.istore 6, 2) := by decide +kernel
theorem dX9_meets_112 : decode cX9_meets 112 = .ok (.iinc 7 (-1), 3) := by decide +kernel
theorem dX9_meets_115 : decode cX9_meets 115 = .ok (.goto (-81), 3) := by decide +kernel
theorem dX9_meets_118 : decode cX9_meets 118 = .ok (.iload 6, 2) := by decide +kernel
theorem dX9_meets_120 : decode cX9_meets 120 = .ok (.ifCond .ge 5, 3) := by decide +kernel
theorem dX9_meets_123 : decode cX9_meets 123 = .ok (.iconst 0, 1) := by decide +kernel
theorem dX9_meets_124 : decode cX9_meets 124 = .ok (.ireturn, 1) := by decide +kernel
theorem dX9_meets_125 : decode cX9_meets 125 = .ok (.aload_n 0, 1) := by decide +kernel
theorem dX9_meets_126 : decode cX9_meets 126 = .ok (.getfield 185, 3) := by decide +kernel
theorem dX9_meets_129 : decode cX9_meets 129 = .ok (.bipush 15, 2) := by decide +kernel
theorem dX9_meets_131 : decode cX9_meets 131 = .ok (.if_icmp .eq 11, 3) := by decide +kernel
theorem dX9_meets_134 : decode cX9_meets 134 = .ok (.aload_n 0, 1) := by decide +kernel
theorem dX9_meets_135 : decode cX9_meets 135 = .ok (.getfield 185, 3) := by decide +kernel
theorem dX9_meets_138 : decode cX9_meets 138 = .ok (.iconst 2, 1) := by decide +kernel
theorem dX9_meets_139 : decode cX9_meets 139 = .ok (.if_icmp .ge 7, 3) := by decide +kernel
theorem dX9_meets_142 : decode cX9_meets 142 = .ok (.iconst 1, 1) := by decide +kernel
theorem dX9_meets_143 : decode cX9_meets 143 = .ok (.goto 4, 3) := by decide +kernel
theorem dX9_meets_146 : decode cX9_meets 146 = .ok (.iconst 0, 1) := by decide +kernel
theorem dX9_meets_147 : decode cX9_meets 147 = .ok (.istore 7, 2) := by decide +kernel
theorem dX9_meets_149 : decode cX9_meets 149 = .ok (.aload_n 0, 1) := by decide +kernel
theorem dX9_meets_150 : decode cX9_meets 150 = .ok (.getfield 179, 3) := by decide +kernel
theorem dX9_meets_153 : decode cX9_meets 153 = .ok (.iload_n 2, 1) := by decide +kernel
theorem dX9_meets_154 : decode cX9_meets 154 = .ok (.isub, 1) := by decide +kernel
theorem dX9_meets_155 : decode cX9_meets 155 = .ok (.invokestatic 197, 3) := by decide +kernel
theorem dX9_meets_158 : decode cX9_meets 158 = .ok (.aload_n 0, 1) := by decide +kernel
theorem dX9_meets_159 : decode cX9_meets 159 = .ok (.getfield 7, 3) := by decide +kernel
theorem dX9_meets_162 : decode cX9_meets 162 = .ok (.iconst 2, 1) := by decide +kernel
theorem dX9_meets_163 : decode cX9_meets 163 = .ok (.iaload, 1) := by decide +kernel
theorem dX9_meets_164 : decode cX9_meets 164 = .ok (.if_icmp .gt 7, 3) := by decide +kernel
theorem dX9_meets_167 : decode cX9_meets 167 = .ok (.iconst 1, 1) := by decide +kernel
theorem dX9_meets_168 : decode cX9_meets 168 = .ok (.goto 4, 3) := by decide +kernel
theorem dX9_meets_171 : decode cX9_meets 171 = .ok (.iconst 0, 1) := by decide +kernel
theorem dX9_meets_172 : decode cX9_meets 172 = .ok (.istore 8, 2) := by decide +kernel
theorem dX9_meets_174 : decode cX9_meets 174 = .ok (.iload 4, 2) := by decide +kernel
theorem dX9_meets_176 : decode cX9_meets 176 = .ok (.aload_n 0, 1) := by decide +kernel
theorem dX9_meets_177 : decode cX9_meets 177 = .ok (.getfield 13, 3) := by decide +kernel
theorem dX9_meets_180 : decode cX9_meets 180 = .ok (.iconst 5, 1) := by decide +kernel
theorem dX9_meets_181 : decode cX9_meets 181 = .ok (.iload 6, 2) := by decide +kernel
theorem dX9_meets_183 : decode cX9_meets 183 = .ok (.imul, 1) := by decide +kernel
theorem dX9_meets_184 : decode cX9_meets 184 = .ok (.iaload, 1) := by decide +kernel
theorem dX9_meets_185 : decode cX9_meets 185 = .ok (.isub, 1) := by decide +kernel
theorem dX9_meets_186 : decode cX9_meets 186 = .ok (.invokestatic 197, 3) := by decide +kernel
theorem dX9_meets_189 : decode cX9_meets 189 = .ok (.aload_n 0, 1) := by decide +kernel
theorem dX9_meets_190 : decode cX9_meets 190 = .ok (.getfield 13, 3) := by decide +kernel
theorem dX9_meets_193 : decode cX9_meets 193 = .ok (.iconst 5, 1) := by decide +kernel
theorem dX9_meets_194 : decode cX9_meets 194 = .ok (.iload 6, 2) := by decide +kernel
theorem dX9_meets_196 : decode cX9_meets 196 = .ok (.imul, 1) := by decide +kernel
theorem dX9_meets_197 : decode cX9_meets 197 = .ok (.iconst 2, 1) := by decide +kernel
theorem dX9_meets_198 : decode cX9_meets 198 = .ok (.iadd, 1) := by decide +kernel
theorem dX9_meets_199 : decode cX9_meets 199 = .ok (.iaload, 1) := by decide +kernel
theorem dX9_meets_200 : decode cX9_meets 200 = .ok (.if_icmp .gt 40, 3) := by decide +kernel
theorem dX9_meets_203 : decode cX9_meets 203 = .ok (.iload 8, 2) := by decide +kernel
theorem dX9_meets_205 : decode cX9_meets 205 = .ok (.ifCond .eq 35, 3) := by decide +kernel
theorem dX9_meets_208 : decode cX9_meets 208 = .ok (.aload_n 0, 1) := by decide +kernel
theorem dX9_meets_209 : decode cX9_meets 209 = .ok (.getfield 13, 3) := by decide +kernel
theorem dX9_meets_212 : decode cX9_meets 212 = .ok (.iconst 5, 1) := by decide +kernel
theorem dX9_meets_213 : decode cX9_meets 213 = .ok (.iload 6, 2) := by decide +kernel
theorem dX9_meets_215 : decode cX9_meets 215 = .ok (.imul, 1) := by decide +kernel
theorem dX9_meets_216 : decode cX9_meets 216 = .ok (.iconst 4, 1) := by decide +kernel
theorem dX9_meets_217 : decode cX9_meets 217 = .ok (.iadd, 1) := by decide +kernel
theorem dX9_meets_218 : decode cX9_meets 218 = .ok (.iaload, 1) := by decide +kernel
theorem dX9_meets_219 : decode cX9_meets 219 = .ok (.ifCond .eq 8, 3) := by decide +kernel
theorem dX9_meets_222 : decode cX9_meets 222 = .ok (.iload 7, 2) := by decide +kernel
theorem dX9_meets_224 : decode cX9_meets 224 = .ok (.ifCond .eq 16, 3) := by decide +kernel
theorem dX9_meets_227 : decode cX9_meets 227 = .ok (.aload_n 0, 1) := by decide +kernel
theorem dX9_meets_228 : decode cX9_meets 228 = .ok (.iload 6, 2) := by decide +kernel
theorem dX9_meets_230 : decode cX9_meets 230 = .ok (.putfield 200, 3) := by decide +kernel
theorem dX9_meets_233 : decode cX9_meets 233 = .ok (.aload_n 0, 1) := by decide +kernel
theorem dX9_meets_234 : decode cX9_meets 234 = .ok (.iload_n 3, 1) := by decide +kernel
theorem dX9_meets_235 : decode cX9_meets 235 = .ok (.putfield 203, 3) := by decide +kernel
theorem dX9_meets_238 : decode cX9_meets 238 = .ok (.iconst 1, 1) := by decide +kernel
theorem dX9_meets_239 : decode cX9_meets 239 = .ok (.ireturn, 1) := by decide +kernel
theorem dX9_meets_240 : decode cX9_meets 240 = .ok (.aload_n 0, 1) := by decide +kernel
theorem dX9_meets_241 : decode cX9_meets 241 = .ok (.dup, 1) := by decide +kernel
theorem dX9_meets_242 : decode cX9_meets 242 = .ok (.getfield 206, 3) := by decide +kernel
theorem dX9_meets_245 : decode cX9_meets 245 = .ok (.iconst 1, 1) := by decide +kernel
theorem dX9_meets_246 : decode cX9_meets 246 = .ok (.iadd, 1) := by decide +kernel
theorem dX9_meets_247 : decode cX9_meets 247 = .ok (.putfield 206, 3) := by decide +kernel
theorem dX9_meets_250 : decode cX9_meets 250 = .ok (.aload_n 0, 1) := by decide +kernel
theorem dX9_meets_251 : decode cX9_meets 251 = .ok (.aload_n 0, 1) := by decide +kernel
theorem dX9_meets_252 : decode cX9_meets 252 = .ok (.getfield 182, 3) := by decide +kernel
theorem dX9_meets_255 : decode cX9_meets 255 = .ok (.invokestatic 197, 3) := by decide +kernel
theorem dX9_meets_258 : decode cX9_meets 258 = .ok (.iconst 2, 1) := by decide +kernel
theorem dX9_meets_259 : decode cX9_meets 259 = .ok (.idiv, 1) := by decide +kernel
theorem dX9_meets_260 : decode cX9_meets 260 = .ok (.putfield 182, 3) := by decide +kernel
theorem dX9_meets_263 : decode cX9_meets 263 = .ok (.iconst 0, 1) := by decide +kernel
theorem dX9_meets_264 : decode cX9_meets 264 = .ok (.ireturn, 1) := by decide +kernel
theorem dX9_tries_0 : decode cX9_tries 0 = .ok (.aload_n 0, 1) := by decide +kernel
theorem dX9_tries_1 : decode cX9_tries 1 = .ok (.invokevirtual 209, 3) := by decide +kernel
theorem dX9_tries_4 : decode cX9_tries 4 = .ok (.aload_n 0, 1) := by decide +kernel
theorem dX9_tries_5 : decode cX9_tries 5 = .ok (.iconst 0, 1) := by decide +kernel
theorem dX9_tries_6 : decode cX9_tries 6 = .ok (.putfield 160, 3) := by decide +kernel
theorem dX9_tries_9 : decode cX9_tries 9 = .ok (.aload_n 0, 1) := by decide +kernel
theorem dX9_tries_10 : decode cX9_tries 10 = .ok (.aload_n 0, 1) := by decide +kernel
theorem dX9_tries_11 : decode cX9_tries 11 = .ok (.getfield 7, 3) := by decide +kernel
theorem dX9_tries_14 : decode cX9_tries 14 = .ok (.iconst 0, 1) := by decide +kernel
theorem dX9_tries_15 : decode cX9_tries 15 = .ok (.iaload, 1) := by decide +kernel
theorem dX9_tries_16 : decode cX9_tries 16 = .ok (.ineg, 1) := by decide +kernel
theorem dX9_tries_17 : decode cX9_tries 17 = .ok (.putfield 166, 3) := by decide +kernel
theorem dX9_tries_20 : decode cX9_tries 20 = .ok (.aload_n 0, 1) := by decide +kernel
theorem dX9_tries_21 : decode cX9_tries 21 = .ok (.iconst 0, 1) := by decide +kernel
theorem dX9_tries_22 : decode cX9_tries 22 = .ok (.putfield 179, 3) := by decide +kernel
theorem dX9_tries_25 : decode cX9_tries 25 = .ok (.aload_n 0, 1) := by decide +kernel
theorem dX9_tries_26 : decode cX9_tries 26 = .ok (.iconst 0, 1) := by decide +kernel
theorem dX9_tries_27 : decode cX9_tries 27 = .ok (.putfield 182, 3) := by decide +kernel
theorem dX9_tries_30 : decode cX9_tries 30 = .ok (.aload_n 0, 1) := by decide +kernel
theorem dX9_tries_31 : decode cX9_tries 31 = .ok (.iconst 0, 1) := by decide +kernel
theorem dX9_tries_32 : decode cX9_tries 32 = .ok (.putfield 185, 3) := by decide +kernel
theorem dX9_tries_35 : decode cX9_tries 35 = .ok (.aload_n 0, 1) := by decide +kernel
theorem dX9_tries_36 : decode cX9_tries 36 = .ok (.iconst 0, 1) := by decide +kernel
theorem dX9_tries_37 : decode cX9_tries 37 = .ok (.putfield 188, 3) := by decide +kernel
theorem dX9_tries_40 : decode cX9_tries 40 = .ok (.aload_n 0, 1) := by decide +kernel
theorem dX9_tries_41 : decode cX9_tries 41 = .ok (.iconst 0, 1) := by decide +kernel
theorem dX9_tries_42 : decode cX9_tries 42 = .ok (.putfield 163, 3) := by decide +kernel
theorem dX9_tries_45 : decode cX9_tries 45 = .ok (.aload_n 0, 1) := by decide +kernel
theorem dX9_tries_46 : decode cX9_tries 46 = .ok (.iconst 0, 1) := by decide +kernel
theorem dX9_tries_47 : decode cX9_tries 47 = .ok (.putfield 169, 3) := by decide +kernel
theorem dX9_tries_50 : decode cX9_tries 50 = .ok (.aload_n 0, 1) := by decide +kernel
theorem dX9_tries_51 : decode cX9_tries 51 = .ok (.iconst 1, 1) := by decide +kernel
theorem dX9_tries_52 : decode cX9_tries 52 = .ok (.putfield 172, 3) := by decide +kernel
theorem dX9_tries_55 : decode cX9_tries 55 = .ok (.aload_n 0, 1) := by decide +kernel
theorem dX9_tries_56 : decode cX9_tries 56 = .ok (.bipush (-4), 2) := by decide +kernel
theorem dX9_tries_58 : decode cX9_tries 58 = .ok (.putfield 200, 3) := by decide +kernel
theorem dX9_tries_61 : decode cX9_tries 61 = .ok (.aload_n 0, 1) := by decide +kernel
theorem dX9_tries_62 : decode cX9_tries 62 = .ok (.bipush (-4), 2) := by decide +kernel
theorem dX9_tries_64 : decode cX9_tries 64 = .ok (.putfield 203, 3) := by decide +kernel
theorem dX9_tries_67 : decode cX9_tries 67 = .ok (.aload_n 0, 1) := by decide +kernel
theorem dX9_tries_68 : decode cX9_tries 68 = .ok (.iconst 0, 1) := by decide +kernel
theorem dX9_tries_69 : decode cX9_tries 69 = .ok (.putfield 206, 3) := by decide +kernel
theorem dX9_tries_72 : decode cX9_tries 72 = .ok (.aload_n 0, 1) := by decide +kernel
theorem dX9_tries_73 : decode cX9_tries 73 = .ok (.iconst 0, 1) := by decide +kernel
theorem dX9_tries_74 : decode cX9_tries 74 = .ok (.putfield 191, 3) := by decide +kernel
theorem dX9_tries_77 : decode cX9_tries 77 = .ok (.iconst 0, 1) := by decide +kernel
theorem dX9_tries_78 : decode cX9_tries 78 = .ok (.istore_n 1, 1) := by decide +kernel
theorem dX9_tries_79 : decode cX9_tries 79 = .ok (.iconst 0, 1) := by decide +kernel
theorem dX9_tries_80 : decode cX9_tries 80 = .ok (.istore_n 2, 1) := by decide +kernel
theorem dX9_tries_81 : decode cX9_tries 81 = .ok (.iload_n 2, 1) := by decide +kernel
theorem dX9_tries_82 : decode cX9_tries 82 = .ok (.bipush 100, 2) := by decide +kernel
theorem dX9_tries_84 : decode cX9_tries 84 = .ok (.if_icmp .ge 326, 3) := by decide +kernel
theorem dX9_tries_87 : decode cX9_tries 87 = .ok (.iload_n 1, 1) := by decide +kernel
theorem dX9_tries_88 : decode cX9_tries 88 = .ok (.ifCond .ne 180, 3) := by decide +kernel
theorem dX9_tries_91 : decode cX9_tries 91 = .ok (.aload_n 0, 1) := by decide +kernel
theorem dX9_tries_92 : decode cX9_tries 92 = .ok (.getfield 166, 3) := by decide +kernel
theorem dX9_tries_95 : decode cX9_tries 95 = .ok (.aload_n 0, 1) := by decide +kernel
theorem dX9_tries_96 : decode cX9_tries 96 = .ok (.getfield 169, 3) := by decide +kernel
theorem dX9_tries_99 : decode cX9_tries 99 = .ok (.isub, 1) := by decide +kernel
theorem dX9_tries_100 : decode cX9_tries 100 = .ok (.istore_n 3, 1) := by decide +kernel
theorem dX9_tries_101 : decode cX9_tries 101 = .ok (.aload_n 0, 1) := by decide +kernel
theorem dX9_tries_102 : decode cX9_tries 102 = .ok (.getfield 37, 3) := by decide +kernel
theorem dX9_tries_105 : decode cX9_tries 105 = .ok (.ifCond .lt 69, 3) := by decide +kernel
theorem dX9_tries_108 : decode cX9_tries 108 = .ok (.iload_n 2, 1) := by decide +kernel
theorem dX9_tries_109 : decode cX9_tries 109 = .ok (.aload_n 0, 1) := by decide +kernel
theorem dX9_tries_110 : decode cX9_tries 110 = .ok (.getfield 212, 3) := by decide +kernel
theorem dX9_tries_113 : decode cX9_tries 113 = .ok (.if_icmp .lt 61, 3) := by decide +kernel
theorem dX9_tries_116 : decode cX9_tries 116 = .ok (.aload_n 0, 1) := by decide +kernel
theorem dX9_tries_117 : decode cX9_tries 117 = .ok (.getfield 172, 3) := by decide +kernel
theorem dX9_tries_120 : decode cX9_tries 120 = .ok (.ifCond .ne 54, 3) := by decide +kernel
theorem dX9_tries_123 : decode cX9_tries 123 = .ok (.aload_n 0, 1) := by decide +kernel
theorem dX9_tries_124 : decode cX9_tries 124 = .ok (.getfield 160, 3) := by decide +kernel
theorem dX9_tries_127 : decode cX9_tries 127 = .ok (.aload_n 0, 1) := by decide +kernel
theorem dX9_tries_128 : decode cX9_tries 128 = .ok (.getfield 163, 3) := by decide +kernel
theorem dX9_tries_131 : decode cX9_tries 131 = .ok (.isub, 1) := by decide +kernel
theorem dX9_tries_132 : decode cX9_tries 132 = .ok (.aload_n 0, 1) := by decide +kernel
theorem dX9_tries_133 : decode cX9_tries 133 = .ok (.getfield 13, 3) := by decide +kernel
theorem dX9_tries_136 : decode cX9_tries 136 = .ok (.iconst 5, 1) := by decide +kernel
theorem dX9_tries_137 : decode cX9_tries 137 = .ok (.aload_n 0, 1) := by decide +kernel
theorem dX9_tries_138 : decode cX9_tries 138 = .ok (.getfield 37, 3) := by decide +kernel
theorem dX9_tries_141 : decode cX9_tries 141 = .ok (.imul, 1) := by decide +kernel
theorem dX9_tries_142 : decode cX9_tries 142 = .ok (.iaload, 1) := by decide +kernel
theorem dX9_tries_143 : decode cX9_tries 143 = .ok (.isub, 1) := by decide +kernel
theorem dX9_tries_144 : decode cX9_tries 144 = .ok (.istore 4, 2) := by decide +kernel
theorem dX9_tries_146 : decode cX9_tries 146 = .ok (.aload_n 0, 1) := by decide +kernel
theorem dX9_tries_147 : decode cX9_tries 147 = .ok (.getfield 31, 3) := by decide +kernel
theorem dX9_tries_150 : decode cX9_tries 150 = .ok (.iload_n 2, 1) := by decide +kernel
theorem dX9_tries_151 : decode cX9_tries 151 = .ok (.dup2, 1) := by decide +kernel
theorem dX9_tries_152 : decode cX9_tries 152 = .ok (.iaload, 1) := by decide +kernel
theorem dX9_tries_153 : decode cX9_tries 153 = .ok (.iload 4, 2) := by decide +kernel
theorem dX9_tries_155 : decode cX9_tries 155 = .ok (.ifCond .le 7, 3) := by decide +kernel
theorem dX9_tries_158 : decode cX9_tries 158 = .ok (.iconst 1, 1) := by decide +kernel
theorem dX9_tries_159 : decode cX9_tries 159 = .ok (.goto 13, 3) := by decide +kernel
theorem dX9_tries_162 : decode cX9_tries 162 = .ok (.iload 4, 2) := by decide +kernel
theorem dX9_tries_164 : decode cX9_tries 164 = .ok (.ifCond .ge 7, 3) := by decide +kernel
theorem dX9_tries_167 : decode cX9_tries 167 = .ok (.iconst (-1), 1) := by decide +kernel
theorem dX9_tries_168 : decode cX9_tries 168 = .ok (.goto 4, 3) := by decide +kernel
theorem dX9_tries_171 : decode cX9_tries 171 = .ok (.iconst 0, 1) := by decide +kernel
theorem dX9_tries_172 : decode cX9_tries 172 = .ok (.iadd, 1) := by decide +kernel
theorem dX9_tries_173 : decode cX9_tries 173 = .ok (.iastore, 1) := by decide +kernel
theorem dX9_tries_174 : decode cX9_tries 174 = .ok (.aload_n 0, 1) := by decide +kernel
theorem dX9_tries_175 : decode cX9_tries 175 = .ok (.dup, 1) := by decide +kernel
theorem dX9_tries_176 : decode cX9_tries 176 = .ok (.getfield 163, 3) := by decide +kernel
theorem dX9_tries_179 : decode cX9_tries 179 = .ok (.aload_n 0, 1) := by decide +kernel
theorem dX9_tries_180 : decode cX9_tries 180 = .ok (.getfield 31, 3) := by decide +kernel
theorem dX9_tries_183 : decode cX9_tries 183 = .ok (.iload_n 2, 1) := by decide +kernel
theorem dX9_tries_184 : decode cX9_tries 184 = .ok (.iaload, 1) := by decide +kernel
theorem dX9_tries_185 : decode cX9_tries 185 = .ok (.iadd, 1) := by decide +kernel
theorem dX9_tries_186 : decode cX9_tries 186 = .ok (.putfield 163, 3) := by decide +kernel
theorem dX9_tries_189 : decode cX9_tries 189 = .ok (.aload_n 0, 1) := by decide +kernel
theorem dX9_tries_190 : decode cX9_tries 190 = .ok (.dup, 1) := by decide +kernel
theorem dX9_tries_191 : decode cX9_tries 191 = .ok (.getfield 169, 3) := by decide +kernel
theorem dX9_tries_194 : decode cX9_tries 194 = .ok (.aload_n 0, 1) := by decide +kernel
theorem dX9_tries_195 : decode cX9_tries 195 = .ok (.getfield 34, 3) := by decide +kernel
theorem dX9_tries_198 : decode cX9_tries 198 = .ok (.iload_n 2, 1) := by decide +kernel
theorem dX9_tries_199 : decode cX9_tries 199 = .ok (.iaload, 1) := by decide +kernel
theorem dX9_tries_200 : decode cX9_tries 200 = .ok (.iadd, 1) := by decide +kernel
theorem dX9_tries_201 : decode cX9_tries 201 = .ok (.putfield 169, 3) := by decide +kernel
theorem dX9_tries_204 : decode cX9_tries 204 = .ok (.aload_n 0, 1) := by decide +kernel
theorem dX9_tries_205 : decode cX9_tries 205 = .ok (.dup, 1) := by decide +kernel
theorem dX9_tries_206 : decode cX9_tries 206 = .ok (.getfield 182, 3) := by decide +kernel
theorem dX9_tries_209 : decode cX9_tries 209 = .ok (.aload_n 0, 1) := by decide +kernel
theorem dX9_tries_210 : decode cX9_tries 210 = .ok (.getfield 7, 3) := by decide +kernel
theorem dX9_tries_213 : decode cX9_tries 213 = .ok (.iconst 1, 1) := by decide +kernel
theorem dX9_tries_214 : decode cX9_tries 214 = .ok (.iaload, 1) := by decide +kernel
theorem dX9_tries_215 : decode cX9_tries 215 = .ok (.isub, 1) := by decide +kernel
theorem dX9_tries_216 : decode cX9_tries 216 = .ok (.putfield 182, 3) := by decide +kernel
theorem dX9_tries_219 : decode cX9_tries 219 = .ok (.aload_n 0, 1) := by decide +kernel
theorem dX9_tries_220 : decode cX9_tries 220 = .ok (.dup, 1) := by decide +kernel
theorem dX9_tries_221 : decode cX9_tries 221 = .ok (.getfield 160, 3) := by decide +kernel
theorem dX9_tries_224 : decode cX9_tries 224 = .ok (.aload_n 0, 1) := by decide +kernel
theorem dX9_tries_225 : decode cX9_tries 225 = .ok (.getfield 179, 3) := by decide +kernel
theorem dX9_tries_228 : decode cX9_tries 228 = .ok (.iadd, 1) := by decide +kernel
theorem dX9_tries_229 : decode cX9_tries 229 = .ok (.putfield 160, 3) := by decide +kernel
theorem dX9_tries_232 : decode cX9_tries 232 = .ok (.aload_n 0, 1) := by decide +kernel
theorem dX9_tries_233 : decode cX9_tries 233 = .ok (.dup, 1) := by decide +kernel
theorem dX9_tries_234 : decode cX9_tries 234 = .ok (.getfield 166, 3) := by decide +kernel
theorem dX9_tries_237 : decode cX9_tries 237 = .ok (.aload_n 0, 1) := by decide +kernel
theorem dX9_tries_238 : decode cX9_tries 238 = .ok (.getfield 182, 3) := by decide +kernel
theorem dX9_tries_241 : decode cX9_tries 241 = .ok (.iadd, 1) := by decide +kernel
theorem dX9_tries_242 : decode cX9_tries 242 = .ok (.putfield 166, 3) := by decide +kernel
theorem dX9_tries_245 : decode cX9_tries 245 = .ok (.aload_n 0, 1) := by decide +kernel
theorem dX9_tries_246 : decode cX9_tries 246 = .ok (.aload_n 0, 1) := by decide +kernel
theorem dX9_tries_247 : decode cX9_tries 247 = .ok (.getfield 31, 3) := by decide +kernel
theorem dX9_tries_250 : decode cX9_tries 250 = .ok (.iload_n 2, 1) := by decide +kernel
theorem dX9_tries_251 : decode cX9_tries 251 = .ok (.iaload, 1) := by decide +kernel
theorem dX9_tries_252 : decode cX9_tries 252 = .ok (.invokevirtual 215, 3) := by decide +kernel
theorem dX9_tries_255 : decode cX9_tries 255 = .ok (.aload_n 0, 1) := by decide +kernel
theorem dX9_tries_256 : decode cX9_tries 256 = .ok (.iload_n 3, 1) := by decide +kernel
theorem dX9_tries_257 : decode cX9_tries 257 = .ok (.aload_n 0, 1) := by decide +kernel
theorem dX9_tries_258 : decode cX9_tries 258 = .ok (.getfield 31, 3) := by decide +kernel
theorem dX9_tries_261 : decode cX9_tries 261 = .ok (.iload_n 2, 1) := by decide +kernel
theorem dX9_tries_262 : decode cX9_tries 262 = .ok (.iaload, 1) := by decide +kernel
theorem dX9_tries_263 : decode cX9_tries 263 = .ok (.iload_n 2, 1) := by decide +kernel
theorem dX9_tries_264 : decode cX9_tries 264 = .ok (.invokevirtual 218, 3) := by decide +kernel
theorem dX9_tries_267 : decode cX9_tries 267 = .ok (.istore_n 1, 1) := by decide +kernel
theorem dX9_tries_268 : decode cX9_tries 268 = .ok (.aload_n 0, 1) := by decide +kernel
theorem dX9_tries_269 : decode cX9_tries 269 = .ok (.getfield 28, 3) := by decide +kernel
theorem dX9_tries_272 : decode cX9_tries 272 = .ok (.bipush 9, 2) := by decide +kernel
theorem dX9_tries_274 : decode cX9_tries 274 = .ok (.iload_n 2, 1) := by decide +kernel
theorem dX9_tries_275 : decode cX9_tries 275 = .ok (.imul, 1) := by decide +kernel
theorem dX9_tries_276 : decode cX9_tries 276 = .ok (.aload_n 0, 1) := by decide +kernel
theorem dX9_tries_277 : decode cX9_tries 277 = .ok (.getfield 160, 3) := by decide +kernel
theorem dX9_tries_280 : decode cX9_tries 280 = .ok (.iastore, 1) := by decide +kernel
theorem dX9_tries_281 : decode cX9_tries 281 = .ok (.aload_n 0, 1) := by decide +kernel
theorem dX9_tries_282 : decode cX9_tries 282 = .ok (.getfield 28, 3) := by decide +kernel
theorem dX9_tries_285 : decode cX9_tries 285 = .ok (.bipush 9, 2) := by decide +kernel
theorem dX9_tries_287 : decode cX9_tries 287 = .ok (.iload_n 2, 1) := by decide +kernel
theorem dX9_tries_288 : decode cX9_tries 288 = .ok (.imul, 1) := by decide +kernel
theorem dX9_tries_289 : decode cX9_tries 289 = .ok (.iconst 1, 1) := by decide +kernel
theorem dX9_tries_290 : decode cX9_tries 290 = .ok (.iadd, 1) := by decide +kernel
theorem dX9_tries_291 : decode cX9_tries 291 = .ok (.aload_n 0, 1) := by decide +kernel
theorem dX9_tries_292 : decode cX9_tries 292 = .ok (.getfield 166, 3) := by decide +kernel
theorem dX9_tries_295 : decode cX9_tries 295 = .ok (.iastore, 1) := by decide +kernel
theorem dX9_tries_296 : decode cX9_tries 296 = .ok (.aload_n 0, 1) := by decide +kernel
theorem dX9_tries_297 : decode cX9_tries 297 = .ok (.getfield 28, 3) := by decide +kernel
theorem dX9_tries_300 : decode cX9_tries 300 = .ok (.bipush 9, 2) := by decide +kernel
theorem dX9_tries_302 : decode cX9_tries 302 = .ok (.iload_n 2, 1) := by decide +kernel
theorem dX9_tries_303 : decode cX9_tries 303 = .ok (.imul, 1) := by decide +kernel
theorem dX9_tries_304 : decode cX9_tries 304 = .ok (.iconst 2, 1) := by decide +kernel
theorem dX9_tries_305 : decode cX9_tries 305 = .ok (.iadd, 1) := by decide +kernel
theorem dX9_tries_306 : decode cX9_tries 306 = .ok (.aload_n 0, 1) := by decide +kernel
theorem dX9_tries_307 : decode cX9_tries 307 = .ok (.getfield 179, 3) := by decide +kernel
theorem dX9_tries_310 : decode cX9_tries 310 = .ok (.iastore, 1) := by decide +kernel
theorem dX9_tries_311 : decode cX9_tries 311 = .ok (.aload_n 0, 1) := by decide +kernel
theorem dX9_tries_312 : decode cX9_tries 312 = .ok (.getfield 28, 3) := by decide +kernel
theorem dX9_tries_315 : decode cX9_tries 315 = .ok (.bipush 9, 2) := by decide +kernel
theorem dX9_tries_317 : decode cX9_tries 317 = .ok (.iload_n 2, 1) := by decide +kernel
theorem dX9_tries_318 : decode cX9_tries 318 = .ok (.imul, 1) := by decide +kernel
theorem dX9_tries_319 : decode cX9_tries 319 = .ok (.iconst 3, 1) := by decide +kernel
theorem dX9_tries_320 : decode cX9_tries 320 = .ok (.iadd, 1) := by decide +kernel
theorem dX9_tries_321 : decode cX9_tries 321 = .ok (.aload_n 0, 1) := by decide +kernel
theorem dX9_tries_322 : decode cX9_tries 322 = .ok (.getfield 182, 3) := by decide +kernel
theorem dX9_tries_325 : decode cX9_tries 325 = .ok (.iastore, 1) := by decide +kernel
theorem dX9_tries_326 : decode cX9_tries 326 = .ok (.aload_n 0, 1) := by decide +kernel
theorem dX9_tries_327 : decode cX9_tries 327 = .ok (.getfield 28, 3) := by decide +kernel
theorem dX9_tries_330 : decode cX9_tries 330 = .ok (.bipush 9, 2) := by decide +kernel
theorem dX9_tries_332 : decode cX9_tries 332 = .ok (.iload_n 2, 1) := by decide +kernel
theorem dX9_tries_333 : decode cX9_tries 333 = .ok (.imul, 1) := by decide +kernel
theorem dX9_tries_334 : decode cX9_tries 334 = .ok (.iconst 4, 1) := by decide +kernel
theorem dX9_tries_335 : decode cX9_tries 335 = .ok (.iadd, 1) := by decide +kernel
theorem dX9_tries_336 : decode cX9_tries 336 = .ok (.aload_n 0, 1) := by decide +kernel
theorem dX9_tries_337 : decode cX9_tries 337 = .ok (.getfield 185, 3) := by decide +kernel
theorem dX9_tries_340 : decode cX9_tries 340 = .ok (.iastore, 1) := by decide +kernel
theorem dX9_tries_341 : decode cX9_tries 341 = .ok (.aload_n 0, 1) := by decide +kernel
theorem dX9_tries_342 : decode cX9_tries 342 = .ok (.getfield 28, 3) := by decide +kernel
theorem dX9_tries_345 : decode cX9_tries 345 = .ok (.bipush 9, 2) := by decide +kernel
theorem dX9_tries_347 : decode cX9_tries 347 = .ok (.iload_n 2, 1) := by decide +kernel
theorem dX9_tries_348 : decode cX9_tries 348 = .ok (.imul, 1) := by decide +kernel
theorem dX9_tries_349 : decode cX9_tries 349 = .ok (.iconst 5, 1) := by decide +kernel
theorem dX9_tries_350 : decode cX9_tries 350 = .ok (.iadd, 1) := by decide +kernel
theorem dX9_tries_351 : decode cX9_tries 351 = .ok (.aload_n 0, 1) := by decide +kernel
theorem dX9_tries_352 : decode cX9_tries 352 = .ok (.getfield 188, 3) := by decide +kernel
theorem dX9_tries_355 : decode cX9_tries 355 = .ok (.iastore, 1) := by decide +kernel
theorem dX9_tries_356 : decode cX9_tries 356 = .ok (.aload_n 0, 1) := by decide +kernel
theorem dX9_tries_357 : decode cX9_tries 357 = .ok (.getfield 28, 3) := by decide +kernel
theorem dX9_tries_360 : decode cX9_tries 360 = .ok (.bipush 9, 2) := by decide +kernel
theorem dX9_tries_362 : decode cX9_tries 362 = .ok (.iload_n 2, 1) := by decide +kernel
theorem dX9_tries_363 : decode cX9_tries 363 = .ok (.imul, 1) := by decide +kernel
theorem dX9_tries_364 : decode cX9_tries 364 = .ok (.bipush 6, 2) := by decide +kernel
theorem dX9_tries_366 : decode cX9_tries 366 = .ok (.iadd, 1) := by decide +kernel
theorem dX9_tries_367 : decode cX9_tries 367 = .ok (.aload_n 0, 1) := by decide +kernel
theorem dX9_tries_368 : decode cX9_tries 368 = .ok (.getfield 163, 3) := by decide +kernel
theorem dX9_tries_371 : decode cX9_tries 371 = .ok (.iastore, 1) := by decide +kernel
theorem dX9_tries_372 : decode cX9_tries 372 = .ok (.aload_n 0, 1) := by decide +kernel
theorem dX9_tries_373 : decode cX9_tries 373 = .ok (.getfield 28, 3) := by decide +kernel
theorem dX9_tries_376 : decode cX9_tries 376 = .ok (.bipush 9, 2) := by decide +kernel
theorem dX9_tries_378 : decode cX9_tries 378 = .ok (.iload_n 2, 1) := by decide +kernel
theorem dX9_tries_379 : decode cX9_tries 379 = .ok (.imul, 1) := by decide +kernel
theorem dX9_tries_380 : decode cX9_tries 380 = .ok (.bipush 7, 2) := by decide +kernel
theorem dX9_tries_382 : decode cX9_tries 382 = .ok (.iadd, 1) := by decide +kernel
theorem dX9_tries_383 : decode cX9_tries 383 = .ok (.aload_n 0, 1) := by decide +kernel
theorem dX9_tries_384 : decode cX9_tries 384 = .ok (.getfield 169, 3) := by decide +kernel
theorem dX9_tries_387 : decode cX9_tries 387 = .ok (.iastore, 1) := by decide +kernel
theorem dX9_tries_388 : decode cX9_tries 388 = .ok (.aload_n 0, 1) := by decide +kernel
theorem dX9_tries_389 : decode cX9_tries 389 = .ok (.getfield 28, 3) := by decide +kernel
theorem dX9_tries_392 : decode cX9_tries 392 = .ok (.bipush 9, 2) := by decide +kernel
theorem dX9_tries_394 : decode cX9_tries 394 = .ok (.iload_n 2, 1) := by decide +kernel
theorem dX9_tries_395 : decode cX9_tries 395 = .ok (.imul, 1) := by decide +kernel
theorem dX9_tries_396 : decode cX9_tries 396 = .ok (.bipush 8, 2) := by decide +kernel
theorem dX9_tries_398 : decode cX9_tries 398 = .ok (.iadd, 1) := by decide +kernel
theorem dX9_tries_399 : decode cX9_tries 399 = .ok (.aload_n 0, 1) := by decide +kernel
theorem dX9_tries_400 : decode cX9_tries 400 = .ok (.getfield 172, 3) := by decide +kernel
theorem dX9_tries_403 : decode cX9_tries 403 = .ok (.iastore, 1) := by decide +kernel
theorem dX9_tries_404 : decode cX9_tries 404 = .ok (.iinc 2 1, 3) := by decide +kernel
theorem dX9_tries_407 : decode cX9_tries 407 = .ok (.goto (-326), 3) := by decide +kernel
theorem dX9_tries_410 : decode cX9_tries 410 = .ok (.return_, 1) := by decide +kernel
theorem dX9_at_0 : decode cX9_at 0 = .ok (.iload_n 1, 1) := by decide +kernel
theorem dX9_at_1 : decode cX9_at 1 = .ok (.i2l, 1) := by decide +kernel
theorem dX9_at_2 : decode cX9_at 2 = .ok (.lconst 0, 1) := by decide +kernel
theorem dX9_at_3 : decode cX9_at 3 = .ok (.ldc2_w 89, 3) := by decide +kernel
theorem dX9_at_6 : decode cX9_at 6 = .ok (.invokestatic 71, 3) := by decide +kernel
theorem dX9_at_9 : decode cX9_at 9 = .ok (.ifCond .eq 15, 3) := by decide +kernel
theorem dX9_at_12 : decode cX9_at 12 = .ok (.iload_n 2, 1) := by decide +kernel
theorem dX9_at_13 : decode cX9_at 13 = .ok (.i2l, 1) := by decide +kernel
theorem dX9_at_14 : decode cX9_at 14 = .ok (.lconst 0, 1) := by decide +kernel
theorem dX9_at_15 : decode cX9_at 15 = .ok (.ldc2_w 107, 3) := by decide +kernel
theorem dX9_at_18 : decode cX9_at 18 = .ok (.invokestatic 71, 3) := by decide +kernel
theorem dX9_at_21 : decode cX9_at 21 = .ok (.ifCond .ne 6, 3) := by decide +kernel
theorem dX9_at_24 : decode cX9_at 24 = .ok (.ldc 99, 2) := by decide +kernel
theorem dX9_at_26 : decode cX9_at 26 = .ok (.ireturn, 1) := by decide +kernel
theorem dX9_at_27 : decode cX9_at 27 = .ok (.aload_n 0, 1) := by decide +kernel
theorem dX9_at_28 : decode cX9_at 28 = .ok (.invokevirtual 222, 3) := by decide +kernel
theorem dX9_at_31 : decode cX9_at 31 = .ok (.aload_n 0, 1) := by decide +kernel
theorem dX9_at_32 : decode cX9_at 32 = .ok (.getfield 28, 3) := by decide +kernel
theorem dX9_at_35 : decode cX9_at 35 = .ok (.bipush 9, 2) := by decide +kernel
theorem dX9_at_37 : decode cX9_at 37 = .ok (.iload_n 1, 1) := by decide +kernel
theorem dX9_at_38 : decode cX9_at 38 = .ok (.imul, 1) := by decide +kernel
theorem dX9_at_39 : decode cX9_at 39 = .ok (.iload_n 2, 1) := by decide +kernel
theorem dX9_at_40 : decode cX9_at 40 = .ok (.iadd, 1) := by decide +kernel
theorem dX9_at_41 : decode cX9_at 41 = .ok (.iaload, 1) := by decide +kernel
theorem dX9_at_42 : decode cX9_at 42 = .ok (.ireturn, 1) := by decide +kernel
theorem dX9_end_0 : decode cX9_end 0 = .ok (.iload_n 1, 1) := by decide +kernel
theorem dX9_end_1 : decode cX9_end 1 = .ok (.i2l, 1) := by decide +kernel
theorem dX9_end_2 : decode cX9_end 2 = .ok (.lconst 0, 1) := by decide +kernel
theorem dX9_end_3 : decode cX9_end 3 = .ok (.ldc2_w 225, 3) := by decide +kernel
theorem dX9_end_6 : decode cX9_end 6 = .ok (.invokestatic 71, 3) := by decide +kernel
theorem dX9_end_9 : decode cX9_end 9 = .ok (.ifCond .ne 5, 3) := by decide +kernel
theorem dX9_end_12 : decode cX9_end 12 = .ok (.iconst (-1), 1) := by decide +kernel
theorem dX9_end_13 : decode cX9_end 13 = .ok (.ireturn, 1) := by decide +kernel
theorem dX9_end_14 : decode cX9_end 14 = .ok (.aload_n 0, 1) := by decide +kernel
theorem dX9_end_15 : decode cX9_end 15 = .ok (.invokevirtual 222, 3) := by decide +kernel
theorem dX9_end_18 : decode cX9_end 18 = .ok (.iload_n 1, 1) := by decide +kernel
theorem dX9_end_19 : decode cX9_end 19 = .ok (.ifCond .ne 10, 3) := by decide +kernel
theorem dX9_end_22 : decode cX9_end 22 = .ok (.aload_n 0, 1) := by decide +kernel
theorem dX9_end_23 : decode cX9_end 23 = .ok (.getfield 200, 3) := by decide +kernel
theorem dX9_end_26 : decode cX9_end 26 = .ok (.goto 31, 3) := by decide +kernel
theorem dX9_end_29 : decode cX9_end 29 = .ok (.iload_n 1, 1) := by decide +kernel
theorem dX9_end_30 : decode cX9_end 30 = .ok (.iconst 1, 1) := by decide +kernel
theorem dX9_end_31 : decode cX9_end 31 = .ok (.if_icmp .ne 10, 3) := by decide +kernel
theorem dX9_end_34 : decode cX9_end 34 = .ok (.aload_n 0, 1) := by decide +kernel
theorem dX9_end_35 : decode cX9_end 35 = .ok (.getfield 203, 3) := by decide +kernel
theorem dX9_end_38 : decode cX9_end 38 = .ok (.goto 19, 3) := by decide +kernel
theorem dX9_end_41 : decode cX9_end 41 = .ok (.iload_n 1, 1) := by decide +kernel
theorem dX9_end_42 : decode cX9_end 42 = .ok (.iconst 2, 1) := by decide +kernel
theorem dX9_end_43 : decode cX9_end 43 = .ok (.if_icmp .ne 10, 3) := by decide +kernel
theorem dX9_end_46 : decode cX9_end 46 = .ok (.aload_n 0, 1) := by decide +kernel
theorem dX9_end_47 : decode cX9_end 47 = .ok (.getfield 206, 3) := by decide +kernel
theorem dX9_end_50 : decode cX9_end 50 = .ok (.goto 7, 3) := by decide +kernel
theorem dX9_end_53 : decode cX9_end 53 = .ok (.aload_n 0, 1) := by decide +kernel
theorem dX9_end_54 : decode cX9_end 54 = .ok (.getfield 191, 3) := by decide +kernel
theorem dX9_end_57 : decode cX9_end 57 = .ok (.ireturn, 1) := by decide +kernel
theorem dX9_endBy_0 : decode cX9_endBy 0 = .ok (.aload_n 0, 1) := by decide +kernel
theorem dX9_endBy_1 : decode cX9_endBy 1 = .ok (.getfield 16, 3) := by decide +kernel
theorem dX9_endBy_4 : decode cX9_endBy 4 = .ok (.iconst 1, 1) := by decide +kernel
theorem dX9_endBy_5 : decode cX9_endBy 5 = .ok (.iaload, 1) := by decide +kernel
theorem dX9_endBy_6 : decode cX9_endBy 6 = .ok (.istore_n 3, 1) := by decide +kernel
theorem dX9_endBy_7 : decode cX9_endBy 7 = .ok (.aload_n 0, 1) := by decide +kernel
theorem dX9_endBy_8 : decode cX9_endBy 8 = .ok (.getfield 16, 3) := by decide +kernel
theorem dX9_endBy_11 : decode cX9_endBy 11 = .ok (.iconst 2, 1) := by decide +kernel
theorem dX9_endBy_12 : decode cX9_endBy 12 = .ok (.iaload, 1) := by decide +kernel
theorem dX9_endBy_13 : decode cX9_endBy 13 = .ok (.istore 4, 2) := by decide +kernel
theorem dX9_endBy_15 : decode cX9_endBy 15 = .ok (.aload_n 0, 1) := by decide +kernel
theorem dX9_endBy_16 : decode cX9_endBy 16 = .ok (.getfield 16, 3) := by decide +kernel
theorem dX9_endBy_19 : decode cX9_endBy 19 = .ok (.iconst 1, 1) := by decide +kernel
theorem dX9_endBy_20 : decode cX9_endBy 20 = .ok (.iload_n 1, 1) := by decide +kernel
theorem dX9_endBy_21 : decode cX9_endBy 21 = .ok (.iastore, 1) := by decide +kernel
theorem dX9_endBy_22 : decode cX9_endBy 22 = .ok (.aload_n 0, 1) := by decide +kernel
theorem dX9_endBy_23 : decode cX9_endBy 23 = .ok (.getfield 16, 3) := by decide +kernel
theorem dX9_endBy_26 : decode cX9_endBy 26 = .ok (.iconst 2, 1) := by decide +kernel
theorem dX9_endBy_27 : decode cX9_endBy 27 = .ok (.iload_n 2, 1) := by decide +kernel
theorem dX9_endBy_28 : decode cX9_endBy 28 = .ok (.iastore, 1) := by decide +kernel
theorem dX9_endBy_29 : decode cX9_endBy 29 = .ok (.aload_n 0, 1) := by decide +kernel
theorem dX9_endBy_30 : decode cX9_endBy 30 = .ok (.invokevirtual 222, 3) := by decide +kernel
theorem dX9_endBy_33 : decode cX9_endBy 33 = .ok (.aload_n 0, 1) := by decide +kernel
theorem dX9_endBy_34 : decode cX9_endBy 34 = .ok (.getfield 16, 3) := by decide +kernel
theorem dX9_endBy_37 : decode cX9_endBy 37 = .ok (.iconst 1, 1) := by decide +kernel
theorem dX9_endBy_38 : decode cX9_endBy 38 = .ok (.iload_n 3, 1) := by decide +kernel
theorem dX9_endBy_39 : decode cX9_endBy 39 = .ok (.iastore, 1) := by decide +kernel
theorem dX9_endBy_40 : decode cX9_endBy 40 = .ok (.aload_n 0, 1) := by decide +kernel
theorem dX9_endBy_41 : decode cX9_endBy 41 = .ok (.getfield 16, 3) := by decide +kernel
theorem dX9_endBy_44 : decode cX9_endBy 44 = .ok (.iconst 2, 1) := by decide +kernel
theorem dX9_endBy_45 : decode cX9_endBy 45 = .ok (.iload 4, 2) := by decide +kernel
theorem dX9_endBy_47 : decode cX9_endBy 47 = .ok (.iastore, 1) := by decide +kernel
theorem dX9_endBy_48 : decode cX9_endBy 48 = .ok (.aload_n 0, 1) := by decide +kernel
theorem dX9_endBy_49 : decode cX9_endBy 49 = .ok (.getfield 200, 3) := by decide +kernel
theorem dX9_endBy_52 : decode cX9_endBy 52 = .ok (.ireturn, 1) := by decide +kernel
theorem dX9_grid_0 : decode cX9_grid 0 = .ok (.iconst 0, 1) := by decide +kernel
theorem dX9_grid_1 : decode cX9_grid 1 = .ok (.istore_n 1, 1) := by decide +kernel
theorem dX9_grid_2 : decode cX9_grid 2 = .ok (.iload_n 1, 1) := by decide +kernel
theorem dX9_grid_3 : decode cX9_grid 3 = .ok (.bipush 90, 2) := by decide +kernel
theorem dX9_grid_5 : decode cX9_grid 5 = .ok (.if_icmp .ge 29, 3) := by decide +kernel
theorem dX9_grid_8 : decode cX9_grid 8 = .ok (.aload_n 0, 1) := by decide +kernel
theorem dX9_grid_9 : decode cX9_grid 9 = .ok (.getfield 41, 3) := by decide +kernel
theorem dX9_grid_12 : decode cX9_grid 12 = .ok (.iload_n 1, 1) := by decide +kernel
theorem dX9_grid_13 : decode cX9_grid 13 = .ok (.aload_n 0, 1) := by decide +kernel
theorem dX9_grid_14 : decode cX9_grid 14 = .ok (.iload_n 1, 1) := by decide +kernel
theorem dX9_grid_15 : decode cX9_grid 15 = .ok (.bipush 10, 2) := by decide +kernel
theorem dX9_grid_17 : decode cX9_grid 17 = .ok (.idiv, 1) := by decide +kernel
theorem dX9_grid_18 : decode cX9_grid 18 = .ok (.iconst 4, 1) := by decide +kernel
theorem dX9_grid_19 : decode cX9_grid 19 = .ok (.isub, 1) := by decide +kernel
theorem dX9_grid_20 : decode cX9_grid 20 = .ok (.iload_n 1, 1) := by decide +kernel
theorem dX9_grid_21 : decode cX9_grid 21 = .ok (.bipush 10, 2) := by decide +kernel
theorem dX9_grid_23 : decode cX9_grid 23 = .ok (.irem, 1) := by decide +kernel
theorem dX9_grid_24 : decode cX9_grid 24 = .ok (.invokevirtual 227, 3) := by decide +kernel
theorem dX9_grid_27 : decode cX9_grid 27 = .ok (.iastore, 1) := by decide +kernel
theorem dX9_grid_28 : decode cX9_grid 28 = .ok (.iinc 1 1, 3) := by decide +kernel
theorem dX9_grid_31 : decode cX9_grid 31 = .ok (.goto (-29), 3) := by decide +kernel
theorem dX9_grid_34 : decode cX9_grid 34 = .ok (.return_, 1) := by decide +kernel
theorem dX9_ends_0 : decode cX9_ends 0 = .ok (.iload_n 1, 1) := by decide +kernel
theorem dX9_ends_1 : decode cX9_ends 1 = .ok (.i2l, 1) := by decide +kernel
theorem dX9_ends_2 : decode cX9_ends 2 = .ok (.ldc2_w 230, 3) := by decide +kernel
theorem dX9_ends_5 : decode cX9_ends 5 = .ok (.ldc2_w 81, 3) := by decide +kernel
theorem dX9_ends_8 : decode cX9_ends 8 = .ok (.invokestatic 71, 3) := by decide +kernel
theorem dX9_ends_11 : decode cX9_ends 11 = .ok (.ifCond .eq 15, 3) := by decide +kernel
theorem dX9_ends_14 : decode cX9_ends 14 = .ok (.iload_n 2, 1) := by decide +kernel
theorem dX9_ends_15 : decode cX9_ends 15 = .ok (.i2l, 1) := by decide +kernel
theorem dX9_ends_16 : decode cX9_ends 16 = .ok (.lconst 0, 1) := by decide +kernel
theorem dX9_ends_17 : decode cX9_ends 17 = .ok (.ldc2_w 87, 3) := by decide +kernel
theorem dX9_ends_20 : decode cX9_ends 20 = .ok (.invokestatic 71, 3) := by decide +kernel
theorem dX9_ends_23 : decode cX9_ends 23 = .ok (.ifCond .ne 5, 3) := by decide +kernel
theorem dX9_ends_26 : decode cX9_ends 26 = .ok (.iconst (-1), 1) := by decide +kernel
theorem dX9_ends_27 : decode cX9_ends 27 = .ok (.ireturn, 1) := by decide +kernel
theorem dX9_ends_28 : decode cX9_ends 28 = .ok (.aload_n 0, 1) := by decide +kernel
theorem dX9_ends_29 : decode cX9_ends 29 = .ok (.getfield 100, 3) := by decide +kernel
theorem dX9_ends_32 : decode cX9_ends 32 = .ok (.ifCond .ne 8, 3) := by decide +kernel
theorem dX9_ends_35 : decode cX9_ends 35 = .ok (.bipush (-2), 2) := by decide +kernel
theorem dX9_ends_37 : decode cX9_ends 37 = .ok (.goto 9, 3) := by decide +kernel
theorem dX9_ends_40 : decode cX9_ends 40 = .ok (.aload_n 0, 1) := by decide +kernel
theorem dX9_ends_41 : decode cX9_ends 41 = .ok (.iload_n 1, 1) := by decide +kernel
theorem dX9_ends_42 : decode cX9_ends 42 = .ok (.iload_n 2, 1) := by decide +kernel
theorem dX9_ends_43 : decode cX9_ends 43 = .ok (.invokevirtual 227, 3) := by decide +kernel
theorem dX9_ends_46 : decode cX9_ends 46 = .ok (.ireturn, 1) := by decide +kernel
theorem dX9_groups_0 : decode cX9_groups 0 = .ok (.iconst 0, 1) := by decide +kernel
theorem dX9_groups_1 : decode cX9_groups 1 = .ok (.istore_n 2, 1) := by decide +kernel
theorem dX9_groups_2 : decode cX9_groups 2 = .ok (.iload_n 2, 1) := by decide +kernel
theorem dX9_groups_3 : decode cX9_groups 3 = .ok (.bipush 90, 2) := by decide +kernel
theorem dX9_groups_5 : decode cX9_groups 5 = .ok (.if_icmp .ge 31, 3) := by decide +kernel
theorem dX9_groups_8 : decode cX9_groups 8 = .ok (.aload_n 0, 1) := by decide +kernel
theorem dX9_groups_9 : decode cX9_groups 9 = .ok (.getfield 47, 3) := by decide +kernel
theorem dX9_groups_12 : decode cX9_groups 12 = .ok (.iload_n 2, 1) := by decide +kernel
theorem dX9_groups_13 : decode cX9_groups 13 = .ok (.aload_n 0, 1) := by decide +kernel
theorem dX9_groups_14 : decode cX9_groups 14 = .ok (.getfield 41, 3) := by decide +kernel
theorem dX9_groups_17 : decode cX9_groups 17 = .ok (.iload_n 2, 1) := by decide +kernel
theorem dX9_groups_18 : decode cX9_groups 18 = .ok (.iaload, 1) := by decide +kernel
theorem dX9_groups_19 : decode cX9_groups 19 = .ok (.iload_n 1, 1) := by decide +kernel
theorem dX9_groups_20 : decode cX9_groups 20 = .ok (.if_icmp .ne 7, 3) := by decide +kernel
theorem dX9_groups_23 : decode cX9_groups 23 = .ok (.iload_n 2, 1) := by decide +kernel
theorem dX9_groups_24 : decode cX9_groups 24 = .ok (.goto 5, 3) := by decide +kernel
theorem dX9_groups_27 : decode cX9_groups 27 = .ok (.bipush (-4), 2) := by decide +kernel
theorem dX9_groups_29 : decode cX9_groups 29 = .ok (.iastore, 1) := by decide +kernel
theorem dX9_groups_30 : decode cX9_groups 30 = .ok (.iinc 2 1, 3) := by decide +kernel
theorem dX9_groups_33 : decode cX9_groups 33 = .ok (.goto (-31), 3) := by decide +kernel
theorem dX9_groups_36 : decode cX9_groups 36 = .ok (.iconst 1, 1) := by decide +kernel
theorem dX9_groups_37 : decode cX9_groups 37 = .ok (.istore_n 2, 1) := by decide +kernel
theorem dX9_groups_38 : decode cX9_groups 38 = .ok (.iload_n 2, 1) := by decide +kernel
theorem dX9_groups_39 : decode cX9_groups 39 = .ok (.ifCond .eq 249, 3) := by decide +kernel
theorem dX9_groups_42 : decode cX9_groups 42 = .ok (.iconst 0, 1) := by decide +kernel
theorem dX9_groups_43 : decode cX9_groups 43 = .ok (.istore_n 2, 1) := by decide +kernel
theorem dX9_groups_44 : decode cX9_groups 44 = .ok (.iconst 0, 1) := by decide +kernel
theorem dX9_groups_45 : decode cX9_groups 45 = .ok (.istore_n 3, 1) := by decide +kernel
theorem dX9_groups_46 : decode cX9_groups 46 = .ok (.iload_n 3, 1) := by decide +kernel
theorem dX9_groups_47 : decode cX9_groups 47 = .ok (.bipush 90, 2) := by decide +kernel
theorem dX9_groups_49 : decode cX9_groups 49 = .ok (.if_icmp .ge 236, 3) := by decide +kernel
theorem dX9_groups_52 : decode cX9_groups 52 = .ok (.aload_n 0, 1) := by decide +kernel
theorem dX9_groups_53 : decode cX9_groups 53 = .ok (.getfield 47, 3) := by decide +kernel
theorem dX9_groups_56 : decode cX9_groups 56 = .ok (.iload_n 3, 1) := by decide +kernel
theorem dX9_groups_57 : decode cX9_groups 57 = .ok (.iaload, 1) := by decide +kernel
theorem dX9_groups_58 : decode cX9_groups 58 = .ok (.istore 4, 2) := by decide +kernel
theorem dX9_groups_60 : decode cX9_groups 60 = .ok (.iload_n 3, 1) := by decide +kernel
theorem dX9_groups_61 : decode cX9_groups 61 = .ok (.bipush 9, 2) := by decide +kernel
theorem dX9_groups_63 : decode cX9_groups 63 = .ok (.if_icmp .le 41, 3) := by decide +kernel
theorem dX9_groups_66 : decode cX9_groups 66 = .ok (.aload_n 0, 1) := by decide +kernel
theorem dX9_groups_67 : decode cX9_groups 67 = .ok (.getfield 47, 3) := by decide +kernel
theorem dX9_groups_70 : decode cX9_groups 70 = .ok (.iload_n 3, 1) := by decide +kernel
theorem dX9_groups_71 : decode cX9_groups 71 = .ok (.bipush 10, 2) := by decide +kernel
theorem dX9_groups_73 : decode cX9_groups 73 = .ok (.isub, 1) := by decide +kernel
theorem dX9_groups_74 : decode cX9_groups 74 = .ok (.iaload, 1) := by decide +kernel
theorem dX9_groups_75 : decode cX9_groups 75 = .ok (.ifCond .lt 29, 3) := by decide +kernel
theorem dX9_groups_78 : decode cX9_groups 78 = .ok (.aload_n 0, 1) := by decide +kernel
theorem dX9_groups_79 : decode cX9_groups 79 = .ok (.getfield 47, 3) := by decide +kernel
theorem dX9_groups_82 : decode cX9_groups 82 = .ok (.iload_n 3, 1) := by decide +kernel
theorem dX9_groups_83 : decode cX9_groups 83 = .ok (.bipush 10, 2) := by decide +kernel
theorem dX9_groups_85 : decode cX9_groups 85 = .ok (.isub, 1) := by decide +kernel
theorem dX9_groups_86 : decode cX9_groups 86 = .ok (.iaload, 1) := by decide +kernel
theorem dX9_groups_87 : decode cX9_groups 87 = .ok (.iload 4, 2) := by decide +kernel
theorem dX9_groups_89 : decode cX9_groups 89 = .ok (.if_icmp .ge 15, 3) := by decide +kernel
theorem dX9_groups_92 : decode cX9_groups 92 = .ok (.aload_n 0, 1) := by decide +kernel
theorem dX9_groups_93 : decode cX9_groups 93 = .ok (.getfield 47, 3) := by decide +kernel
theorem dX9_groups_96 : decode cX9_groups 96 = .ok (.iload_n 3, 1) := by decide +kernel
theorem dX9_groups_97 : decode cX9_groups 97 = .ok (.bipush 10, 2) := by decide +kernel
theorem dX9_groups_99 : decode cX9_groups 99 = .ok (.isub, 1) := by decide +kernel
theorem dX9_groups_100 : decode cX9_groups 100 = .ok (.iaload, 1) := by decide +kernel
theorem dX9_groups_101 : decode cX9_groups 101 = .ok (.goto 5, 3) := by decide +kernel
theorem dX9_groups_104 : decode cX9_groups 104 = .ok (.iload 4, 2) := by decide +kernel
theorem dX9_groups_106 : decode cX9_groups 106 = .ok (.istore 4, 2) := by decide +kernel
theorem dX9_groups_108 : decode cX9_groups 108 = .ok (.iload_n 3, 1) := by decide +kernel
theorem dX9_groups_109 : decode cX9_groups 109 = .ok (.bipush 80, 2) := by decide +kernel
theorem dX9_groups_111 : decode cX9_groups 111 = .ok (.if_icmp .ge 41, 3) := by decide +kernel
theorem dX9_groups_114 : decode cX9_groups 114 = .ok (.aload_n 0, 1) := by decide +kernel
theorem dX9_groups_115 : decode cX9_groups 115 = .ok (.getfield 47, 3) := by decide +kernel
theorem dX9_groups_118 : decode cX9_groups 118 = .ok (.iload_n 3, 1) := by decide +kernel
theorem dX9_groups_119 : decode cX9_groups 119 = .ok (.bipush 10, 2) := by decide +kernel
theorem dX9_groups_121 : decode cX9_groups 121 = .ok (.iadd, 1) := by decide +kernel
theorem dX9_groups_122 : decode cX9_groups 122 = .ok (.iaload, 1) := by decide +kernel
theorem dX9_groups_123 : decode cX9_groups 123 = .ok (.ifCond .lt 29, 3) := by decide +kernel
theorem dX9_groups_126 : decode cX9_groups 126 = .ok (.aload_n 0, 1) := by decide +kernel
theorem dX9_groups_127 : decode cX9_groups 127 = .ok (.getfield 47, 3) := by decide +kernel
theorem dX9_groups_130 : decode cX9_groups 130 = .ok (.iload_n 3, 1) := by decide +kernel
theorem dX9_groups_131 : decode cX9_groups 131 = .ok (.bipush 10, 2) := by decide +kernel
theorem dX9_groups_133 : decode cX9_groups 133 = .ok (.iadd, 1) := by decide +kernel
theorem dX9_groups_134 : decode cX9_groups 134 = .ok (.iaload, 1) := by decide +kernel
theorem dX9_groups_135 : decode cX9_groups 135 = .ok (.iload 4, 2) := by decide +kernel
theorem dX9_groups_137 : decode cX9_groups 137 = .ok (.if_icmp .ge 15, 3) := by decide +kernel
theorem dX9_groups_140 : decode cX9_groups 140 = .ok (.aload_n 0, 1) := by decide +kernel
theorem dX9_groups_141 : decode cX9_groups 141 = .ok (.getfield 47, 3) := by decide +kernel
theorem dX9_groups_144 : decode cX9_groups 144 = .ok (.iload_n 3, 1) := by decide +kernel
theorem dX9_groups_145 : decode cX9_groups 145 = .ok (.bipush 10, 2) := by decide +kernel
theorem dX9_groups_147 : decode cX9_groups 147 = .ok (.iadd, 1) := by decide +kernel
theorem dX9_groups_148 : decode cX9_groups 148 = .ok (.iaload, 1) := by decide +kernel
theorem dX9_groups_149 : decode cX9_groups 149 = .ok (.goto 5, 3) := by decide +kernel
theorem dX9_groups_152 : decode cX9_groups 152 = .ok (.iload 4, 2) := by decide +kernel
theorem dX9_groups_154 : decode cX9_groups 154 = .ok (.istore 4, 2) := by decide +kernel
theorem dX9_groups_156 : decode cX9_groups 156 = .ok (.iload_n 3, 1) := by decide +kernel
theorem dX9_groups_157 : decode cX9_groups 157 = .ok (.bipush 10, 2) := by decide +kernel
theorem dX9_groups_159 : decode cX9_groups 159 = .ok (.irem, 1) := by decide +kernel
theorem dX9_groups_160 : decode cX9_groups 160 = .ok (.ifCond .le 38, 3) := by decide +kernel
theorem dX9_groups_163 : decode cX9_groups 163 = .ok (.aload_n 0, 1) := by decide +kernel
theorem dX9_groups_164 : decode cX9_groups 164 = .ok (.getfield 47, 3) := by decide +kernel
theorem dX9_groups_167 : decode cX9_groups 167 = .ok (.iload_n 3, 1) := by decide +kernel
theorem dX9_groups_168 : decode cX9_groups 168 = .ok (.iconst 1, 1) := by decide +kernel
