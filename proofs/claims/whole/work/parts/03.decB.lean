theorem dX8_init_0 : decode cX8_init 0 = .ok (.aload_n 0, 1) := by decide +kernel
theorem dX8_init_1 : decode cX8_init 1 = .ok (.invokespecial 1, 3) := by decide +kernel
theorem dX8_init_4 : decode cX8_init 4 = .ok (.new 7, 3) := by decide +kernel
theorem dX8_init_7 : decode cX8_init 7 = .ok (.dup, 1) := by decide +kernel
theorem dX8_init_8 : decode cX8_init 8 = .ok (.invokespecial 9, 3) := by decide +kernel
theorem dX8_init_11 : decode cX8_init 11 = .ok (.astore_n 1, 1) := by decide +kernel
theorem dX8_init_12 : decode cX8_init 12 = .ok (.aload_n 0, 1) := by decide +kernel
theorem dX8_init_13 : decode cX8_init 13 = .ok (.aload_n 1, 1) := by decide +kernel
theorem dX8_init_14 : decode cX8_init 14 = .ok (.putfield 10, 3) := by decide +kernel
theorem dX8_init_17 : decode cX8_init 17 = .ok (.aload_n 0, 1) := by decide +kernel
theorem dX8_init_18 : decode cX8_init 18 = .ok (.new 7, 3) := by decide +kernel
theorem dX8_init_21 : decode cX8_init 21 = .ok (.dup, 1) := by decide +kernel
theorem dX8_init_22 : decode cX8_init 22 = .ok (.invokespecial 9, 3) := by decide +kernel
theorem dX8_init_25 : decode cX8_init 25 = .ok (.putfield 16, 3) := by decide +kernel
theorem dX8_init_28 : decode cX8_init 28 = .ok (.aload_n 0, 1) := by decide +kernel
theorem dX8_init_29 : decode cX8_init 29 = .ok (.iconst 0, 1) := by decide +kernel
theorem dX8_init_30 : decode cX8_init 30 = .ok (.putfield 19, 3) := by decide +kernel
theorem dX8_init_33 : decode cX8_init 33 = .ok (.aload_n 0, 1) := by decide +kernel
theorem dX8_init_34 : decode cX8_init 34 = .ok (.new 23, 3) := by decide +kernel
theorem dX8_init_37 : decode cX8_init 37 = .ok (.dup, 1) := by decide +kernel
theorem dX8_init_38 : decode cX8_init 38 = .ok (.aload_n 1, 1) := by decide +kernel
theorem dX8_init_39 : decode cX8_init 39 = .ok (.invokespecial 25, 3) := by decide +kernel
theorem dX8_init_42 : decode cX8_init 42 = .ok (.putfield 28, 3) := by decide +kernel
theorem dX8_init_45 : decode cX8_init 45 = .ok (.aload_n 0, 1) := by decide +kernel
theorem dX8_init_46 : decode cX8_init 46 = .ok (.new 32, 3) := by decide +kernel
theorem dX8_init_49 : decode cX8_init 49 = .ok (.dup, 1) := by decide +kernel
theorem dX8_init_50 : decode cX8_init 50 = .ok (.invokespecial 34, 3) := by decide +kernel
theorem dX8_init_53 : decode cX8_init 53 = .ok (.putfield 35, 3) := by decide +kernel
theorem dX8_init_56 : decode cX8_init 56 = .ok (.aload_n 0, 1) := by decide +kernel
theorem dX8_init_57 : decode cX8_init 57 = .ok (.new 39, 3) := by decide +kernel
theorem dX8_init_60 : decode cX8_init 60 = .ok (.dup, 1) := by decide +kernel
theorem dX8_init_61 : decode cX8_init 61 = .ok (.invokespecial 41, 3) := by decide +kernel
theorem dX8_init_64 : decode cX8_init 64 = .ok (.putfield 42, 3) := by decide +kernel
theorem dX8_init_67 : decode cX8_init 67 = .ok (.aload_n 0, 1) := by decide +kernel
theorem dX8_init_68 : decode cX8_init 68 = .ok (.new 46, 3) := by decide +kernel
theorem dX8_init_71 : decode cX8_init 71 = .ok (.dup, 1) := by decide +kernel
theorem dX8_init_72 : decode cX8_init 72 = .ok (.invokespecial 48, 3) := by decide +kernel
theorem dX8_init_75 : decode cX8_init 75 = .ok (.putfield 49, 3) := by decide +kernel
theorem dX8_init_78 : decode cX8_init 78 = .ok (.aload_n 0, 1) := by decide +kernel
theorem dX8_init_79 : decode cX8_init 79 = .ok (.new 53, 3) := by decide +kernel
theorem dX8_init_82 : decode cX8_init 82 = .ok (.dup, 1) := by decide +kernel
theorem dX8_init_83 : decode cX8_init 83 = .ok (.invokespecial 55, 3) := by decide +kernel
theorem dX8_init_86 : decode cX8_init 86 = .ok (.putfield 56, 3) := by decide +kernel
theorem dX8_init_89 : decode cX8_init 89 = .ok (.return_, 1) := by decide +kernel
theorem dX8_set_0 : decode cX8_set 0 = .ok (.iload_n 1, 1) := by decide +kernel
theorem dX8_set_1 : decode cX8_set 1 = .ok (.iconst 0, 1) := by decide +kernel
theorem dX8_set_2 : decode cX8_set 2 = .ok (.iconst 2, 1) := by decide +kernel
theorem dX8_set_3 : decode cX8_set 3 = .ok (.invokestatic 60, 3) := by decide +kernel
theorem dX8_set_6 : decode cX8_set 6 = .ok (.ifCond .eq 20, 3) := by decide +kernel
theorem dX8_set_9 : decode cX8_set 9 = .ok (.iload_n 2, 1) := by decide +kernel
theorem dX8_set_10 : decode cX8_set 10 = .ok (.getstatic 64, 3) := by decide +kernel
theorem dX8_set_13 : decode cX8_set 13 = .ok (.iload_n 1, 1) := by decide +kernel
theorem dX8_set_14 : decode cX8_set 14 = .ok (.iaload, 1) := by decide +kernel
theorem dX8_set_15 : decode cX8_set 15 = .ok (.getstatic 68, 3) := by decide +kernel
theorem dX8_set_18 : decode cX8_set 18 = .ok (.iload_n 1, 1) := by decide +kernel
theorem dX8_set_19 : decode cX8_set 19 = .ok (.iaload, 1) := by decide +kernel
theorem dX8_set_20 : decode cX8_set 20 = .ok (.invokestatic 60, 3) := by decide +kernel
theorem dX8_set_23 : decode cX8_set 23 = .ok (.ifCond .ne 5, 3) := by decide +kernel
theorem dX8_set_26 : decode cX8_set 26 = .ok (.iconst (-1), 1) := by decide +kernel
theorem dX8_set_27 : decode cX8_set 27 = .ok (.ireturn, 1) := by decide +kernel
theorem dX8_set_28 : decode cX8_set 28 = .ok (.aload_n 0, 1) := by decide +kernel
theorem dX8_set_29 : decode cX8_set 29 = .ok (.getfield 10, 3) := by decide +kernel
theorem dX8_set_32 : decode cX8_set 32 = .ok (.getfield 71, 3) := by decide +kernel
theorem dX8_set_35 : decode cX8_set 35 = .ok (.iload_n 1, 1) := by decide +kernel
theorem dX8_set_36 : decode cX8_set 36 = .ok (.iaload, 1) := by decide +kernel
theorem dX8_set_37 : decode cX8_set 37 = .ok (.istore_n 3, 1) := by decide +kernel
theorem dX8_set_38 : decode cX8_set 38 = .ok (.aload_n 0, 1) := by decide +kernel
theorem dX8_set_39 : decode cX8_set 39 = .ok (.getfield 10, 3) := by decide +kernel
theorem dX8_set_42 : decode cX8_set 42 = .ok (.getfield 71, 3) := by decide +kernel
theorem dX8_set_45 : decode cX8_set 45 = .ok (.iload_n 1, 1) := by decide +kernel
theorem dX8_set_46 : decode cX8_set 46 = .ok (.iload_n 2, 1) := by decide +kernel
theorem dX8_set_47 : decode cX8_set 47 = .ok (.iastore, 1) := by decide +kernel
theorem dX8_set_48 : decode cX8_set 48 = .ok (.iload_n 3, 1) := by decide +kernel
theorem dX8_set_49 : decode cX8_set 49 = .ok (.ireturn, 1) := by decide +kernel
theorem dX8_cup_0 : decode cX8_cup 0 = .ok (.iload_n 1, 1) := by decide +kernel
theorem dX8_cup_1 : decode cX8_cup 1 = .ok (.bipush (-9), 2) := by decide +kernel
theorem dX8_cup_3 : decode cX8_cup 3 = .ok (.bipush 9, 2) := by decide +kernel
theorem dX8_cup_5 : decode cX8_cup 5 = .ok (.invokestatic 60, 3) := by decide +kernel
theorem dX8_cup_8 : decode cX8_cup 8 = .ok (.ifCond .eq 18, 3) := by decide +kernel
theorem dX8_cup_11 : decode cX8_cup 11 = .ok (.iload_n 2, 1) := by decide +kernel
theorem dX8_cup_12 : decode cX8_cup 12 = .ok (.bipush (-9), 2) := by decide +kernel
theorem dX8_cup_14 : decode cX8_cup 14 = .ok (.bipush 9, 2) := by decide +kernel
theorem dX8_cup_16 : decode cX8_cup 16 = .ok (.invokestatic 60, 3) := by decide +kernel
theorem dX8_cup_19 : decode cX8_cup 19 = .ok (.ifCond .eq 7, 3) := by decide +kernel
theorem dX8_cup_22 : decode cX8_cup 22 = .ok (.iconst 1, 1) := by decide +kernel
theorem dX8_cup_23 : decode cX8_cup 23 = .ok (.goto 4, 3) := by decide +kernel
theorem dX8_cup_26 : decode cX8_cup 26 = .ok (.iconst 0, 1) := by decide +kernel
theorem dX8_cup_27 : decode cX8_cup 27 = .ok (.istore 6, 2) := by decide +kernel
theorem dX8_cup_29 : decode cX8_cup 29 = .ok (.iload 6, 2) := by decide +kernel
theorem dX8_cup_31 : decode cX8_cup 31 = .ok (.ifCond .eq 24, 3) := by decide +kernel
theorem dX8_cup_34 : decode cX8_cup 34 = .ok (.iload_n 3, 1) := by decide +kernel
theorem dX8_cup_35 : decode cX8_cup 35 = .ok (.iconst 0, 1) := by decide +kernel
theorem dX8_cup_36 : decode cX8_cup 36 = .ok (.bipush 9, 2) := by decide +kernel
theorem dX8_cup_38 : decode cX8_cup 38 = .ok (.invokestatic 60, 3) := by decide +kernel
theorem dX8_cup_41 : decode cX8_cup 41 = .ok (.ifCond .eq 14, 3) := by decide +kernel
theorem dX8_cup_44 : decode cX8_cup 44 = .ok (.iload 4, 2) := by decide +kernel
theorem dX8_cup_46 : decode cX8_cup 46 = .ok (.iconst 0, 1) := by decide +kernel
theorem dX8_cup_47 : decode cX8_cup 47 = .ok (.bipush 99, 2) := by decide +kernel
theorem dX8_cup_49 : decode cX8_cup 49 = .ok (.invokestatic 60, 3) := by decide +kernel
theorem dX8_cup_52 : decode cX8_cup 52 = .ok (.ifCond .ne 5, 3) := by decide +kernel
theorem dX8_cup_55 : decode cX8_cup 55 = .ok (.iconst (-1), 1) := by decide +kernel
theorem dX8_cup_56 : decode cX8_cup 56 = .ok (.ireturn, 1) := by decide +kernel
theorem dX8_cup_57 : decode cX8_cup 57 = .ok (.aload_n 0, 1) := by decide +kernel
theorem dX8_cup_58 : decode cX8_cup 58 = .ok (.getfield 10, 3) := by decide +kernel
theorem dX8_cup_61 : decode cX8_cup 61 = .ok (.getfield 74, 3) := by decide +kernel
theorem dX8_cup_64 : decode cX8_cup 64 = .ok (.invokevirtual 78, 3) := by decide +kernel
theorem dX8_cup_67 : decode cX8_cup 67 = .ok (.ifCond .eq 6, 3) := by decide +kernel
theorem dX8_cup_70 : decode cX8_cup 70 = .ok (.bipush (-3), 2) := by decide +kernel
theorem dX8_cup_72 : decode cX8_cup 72 = .ok (.ireturn, 1) := by decide +kernel
theorem dX8_cup_73 : decode cX8_cup 73 = .ok (.aload_n 0, 1) := by decide +kernel
theorem dX8_cup_74 : decode cX8_cup 74 = .ok (.getfield 10, 3) := by decide +kernel
theorem dX8_cup_77 : decode cX8_cup 77 = .ok (.getfield 74, 3) := by decide +kernel
theorem dX8_cup_80 : decode cX8_cup 80 = .ok (.iload_n 1, 1) := by decide +kernel
theorem dX8_cup_81 : decode cX8_cup 81 = .ok (.iload_n 2, 1) := by decide +kernel
theorem dX8_cup_82 : decode cX8_cup 82 = .ok (.iload_n 3, 1) := by decide +kernel
theorem dX8_cup_83 : decode cX8_cup 83 = .ok (.iload 4, 2) := by decide +kernel
theorem dX8_cup_85 : decode cX8_cup 85 = .ok (.iload 5, 2) := by decide +kernel
theorem dX8_cup_87 : decode cX8_cup 87 = .ok (.ifCond .eq 7, 3) := by decide +kernel
theorem dX8_cup_90 : decode cX8_cup 90 = .ok (.iconst 1, 1) := by decide +kernel
theorem dX8_cup_91 : decode cX8_cup 91 = .ok (.goto 4, 3) := by decide +kernel
theorem dX8_cup_94 : decode cX8_cup 94 = .ok (.iconst 0, 1) := by decide +kernel
theorem dX8_cup_95 : decode cX8_cup 95 = .ok (.invokestatic 84, 3) := by decide +kernel
theorem dX8_cup_98 : decode cX8_cup 98 = .ok (.ireturn, 1) := by decide +kernel
theorem dX8_told_0 : decode cX8_told 0 = .ok (.aload_n 0, 1) := by decide +kernel
theorem dX8_told_1 : decode cX8_told 1 = .ok (.getfield 10, 3) := by decide +kernel
theorem dX8_told_4 : decode cX8_told 4 = .ok (.getfield 74, 3) := by decide +kernel
theorem dX8_told_7 : decode cX8_told 7 = .ok (.iload_n 1, 1) := by decide +kernel
theorem dX8_told_8 : decode cX8_told 8 = .ok (.invokevirtual 88, 3) := by decide +kernel
theorem dX8_told_11 : decode cX8_told 11 = .ok (.ifCond .eq 12, 3) := by decide +kernel
theorem dX8_told_14 : decode cX8_told 14 = .ok (.iload_n 2, 1) := by decide +kernel
theorem dX8_told_15 : decode cX8_told 15 = .ok (.iconst 0, 1) := by decide +kernel
theorem dX8_told_16 : decode cX8_told 16 = .ok (.iconst 4, 1) := by decide +kernel
theorem dX8_told_17 : decode cX8_told 17 = .ok (.invokestatic 60, 3) := by decide +kernel
theorem dX8_told_20 : decode cX8_told 20 = .ok (.ifCond .ne 6, 3) := by decide +kernel
theorem dX8_told_23 : decode cX8_told 23 = .ok (.ldc 92, 2) := by decide +kernel
theorem dX8_told_25 : decode cX8_told 25 = .ok (.ireturn, 1) := by decide +kernel
theorem dX8_told_26 : decode cX8_told 26 = .ok (.aload_n 0, 1) := by decide +kernel
theorem dX8_told_27 : decode cX8_told 27 = .ok (.getfield 10, 3) := by decide +kernel
theorem dX8_told_30 : decode cX8_told 30 = .ok (.getfield 74, 3) := by decide +kernel
theorem dX8_told_33 : decode cX8_told 33 = .ok (.iload_n 1, 1) := by decide +kernel
theorem dX8_told_34 : decode cX8_told 34 = .ok (.iload_n 2, 1) := by decide +kernel
theorem dX8_told_35 : decode cX8_told 35 = .ok (.invokevirtual 93, 3) := by decide +kernel
theorem dX8_told_38 : decode cX8_told 38 = .ok (.ireturn, 1) := by decide +kernel
theorem dX8_part_0 : decode cX8_part 0 = .ok (.iload_n 2, 1) := by decide +kernel
theorem dX8_part_1 : decode cX8_part 1 = .ok (.bipush (-9), 2) := by decide +kernel
theorem dX8_part_3 : decode cX8_part 3 = .ok (.bipush 9, 2) := by decide +kernel
theorem dX8_part_5 : decode cX8_part 5 = .ok (.invokestatic 60, 3) := by decide +kernel
theorem dX8_part_8 : decode cX8_part 8 = .ok (.ifCond .eq 18, 3) := by decide +kernel
theorem dX8_part_11 : decode cX8_part 11 = .ok (.iload_n 3, 1) := by decide +kernel
theorem dX8_part_12 : decode cX8_part 12 = .ok (.bipush (-9), 2) := by decide +kernel
theorem dX8_part_14 : decode cX8_part 14 = .ok (.bipush 9, 2) := by decide +kernel
theorem dX8_part_16 : decode cX8_part 16 = .ok (.invokestatic 60, 3) := by decide +kernel
theorem dX8_part_19 : decode cX8_part 19 = .ok (.ifCond .eq 7, 3) := by decide +kernel
theorem dX8_part_22 : decode cX8_part 22 = .ok (.iconst 1, 1) := by decide +kernel
theorem dX8_part_23 : decode cX8_part 23 = .ok (.goto 4, 3) := by decide +kernel
theorem dX8_part_26 : decode cX8_part 26 = .ok (.iconst 0, 1) := by decide +kernel
theorem dX8_part_27 : decode cX8_part 27 = .ok (.istore 4, 2) := by decide +kernel
theorem dX8_part_29 : decode cX8_part 29 = .ok (.iload 4, 2) := by decide +kernel
theorem dX8_part_31 : decode cX8_part 31 = .ok (.ifCond .eq 13, 3) := by decide +kernel
theorem dX8_part_34 : decode cX8_part 34 = .ok (.iload_n 1, 1) := by decide +kernel
theorem dX8_part_35 : decode cX8_part 35 = .ok (.iconst 1, 1) := by decide +kernel
theorem dX8_part_36 : decode cX8_part 36 = .ok (.bipush 20, 2) := by decide +kernel
theorem dX8_part_38 : decode cX8_part 38 = .ok (.invokestatic 60, 3) := by decide +kernel
theorem dX8_part_41 : decode cX8_part 41 = .ok (.ifCond .ne 5, 3) := by decide +kernel
theorem dX8_part_44 : decode cX8_part 44 = .ok (.iconst (-1), 1) := by decide +kernel
theorem dX8_part_45 : decode cX8_part 45 = .ok (.ireturn, 1) := by decide +kernel
theorem dX8_part_46 : decode cX8_part 46 = .ok (.aload_n 0, 1) := by decide +kernel
theorem dX8_part_47 : decode cX8_part 47 = .ok (.getfield 10, 3) := by decide +kernel
theorem dX8_part_50 : decode cX8_part 50 = .ok (.getfield 97, 3) := by decide +kernel
theorem dX8_part_53 : decode cX8_part 53 = .ok (.invokevirtual 78, 3) := by decide +kernel
theorem dX8_part_56 : decode cX8_part 56 = .ok (.ifCond .eq 6, 3) := by decide +kernel
theorem dX8_part_59 : decode cX8_part 59 = .ok (.bipush (-3), 2) := by decide +kernel
theorem dX8_part_61 : decode cX8_part 61 = .ok (.ireturn, 1) := by decide +kernel
theorem dX8_part_62 : decode cX8_part 62 = .ok (.aload_n 0, 1) := by decide +kernel
theorem dX8_part_63 : decode cX8_part 63 = .ok (.getfield 10, 3) := by decide +kernel
theorem dX8_part_66 : decode cX8_part 66 = .ok (.getfield 97, 3) := by decide +kernel
theorem dX8_part_69 : decode cX8_part 69 = .ok (.iload_n 1, 1) := by decide +kernel
theorem dX8_part_70 : decode cX8_part 70 = .ok (.iload_n 2, 1) := by decide +kernel
theorem dX8_part_71 : decode cX8_part 71 = .ok (.iload_n 3, 1) := by decide +kernel
theorem dX8_part_72 : decode cX8_part 72 = .ok (.invokestatic 100, 3) := by decide +kernel
theorem dX8_part_75 : decode cX8_part 75 = .ok (.ireturn, 1) := by decide +kernel
theorem dX8_pull_0 : decode cX8_pull 0 = .ok (.aload_n 0, 1) := by decide +kernel
theorem dX8_pull_1 : decode cX8_pull 1 = .ok (.getfield 10, 3) := by decide +kernel
theorem dX8_pull_4 : decode cX8_pull 4 = .ok (.getfield 97, 3) := by decide +kernel
theorem dX8_pull_7 : decode cX8_pull 7 = .ok (.iload_n 1, 1) := by decide +kernel
theorem dX8_pull_8 : decode cX8_pull 8 = .ok (.invokevirtual 88, 3) := by decide +kernel
theorem dX8_pull_11 : decode cX8_pull 11 = .ok (.ifCond .eq 12, 3) := by decide +kernel
theorem dX8_pull_14 : decode cX8_pull 14 = .ok (.iload_n 2, 1) := by decide +kernel
theorem dX8_pull_15 : decode cX8_pull 15 = .ok (.iconst 0, 1) := by decide +kernel
theorem dX8_pull_16 : decode cX8_pull 16 = .ok (.iconst 2, 1) := by decide +kernel
theorem dX8_pull_17 : decode cX8_pull 17 = .ok (.invokestatic 60, 3) := by decide +kernel
theorem dX8_pull_20 : decode cX8_pull 20 = .ok (.ifCond .ne 6, 3) := by decide +kernel
theorem dX8_pull_23 : decode cX8_pull 23 = .ok (.ldc 92, 2) := by decide +kernel
theorem dX8_pull_25 : decode cX8_pull 25 = .ok (.ireturn, 1) := by decide +kernel
theorem dX8_pull_26 : decode cX8_pull 26 = .ok (.aload_n 0, 1) := by decide +kernel
theorem dX8_pull_27 : decode cX8_pull 27 = .ok (.getfield 10, 3) := by decide +kernel
theorem dX8_pull_30 : decode cX8_pull 30 = .ok (.getfield 97, 3) := by decide +kernel
theorem dX8_pull_33 : decode cX8_pull 33 = .ok (.iload_n 1, 1) := by decide +kernel
theorem dX8_pull_34 : decode cX8_pull 34 = .ok (.iload_n 2, 1) := by decide +kernel
theorem dX8_pull_35 : decode cX8_pull 35 = .ok (.invokevirtual 93, 3) := by decide +kernel
theorem dX8_pull_38 : decode cX8_pull 38 = .ok (.ireturn, 1) := by decide +kernel
theorem dX8_still_0 : decode cX8_still 0 = .ok (.aload_n 0, 1) := by decide +kernel
theorem dX8_still_1 : decode cX8_still 1 = .ok (.getfield 10, 3) := by decide +kernel
theorem dX8_still_4 : decode cX8_still 4 = .ok (.getfield 97, 3) := by decide +kernel
theorem dX8_still_7 : decode cX8_still 7 = .ok (.invokevirtual 104, 3) := by decide +kernel
theorem dX8_still_10 : decode cX8_still 10 = .ok (.ireturn, 1) := by decide +kernel
theorem dX8_type_0 : decode cX8_type 0 = .ok (.iload_n 3, 1) := by decide +kernel
theorem dX8_type_1 : decode cX8_type 1 = .ok (.iconst 1, 1) := by decide +kernel
theorem dX8_type_2 : decode cX8_type 2 = .ok (.bipush 8, 2) := by decide +kernel
theorem dX8_type_4 : decode cX8_type 4 = .ok (.invokestatic 60, 3) := by decide +kernel
theorem dX8_type_7 : decode cX8_type 7 = .ok (.ifCond .ne 5, 3) := by decide +kernel
theorem dX8_type_10 : decode cX8_type 10 = .ok (.iconst (-1), 1) := by decide +kernel
theorem dX8_type_11 : decode cX8_type 11 = .ok (.ireturn, 1) := by decide +kernel
theorem dX8_type_12 : decode cX8_type 12 = .ok (.iconst 0, 1) := by decide +kernel
theorem dX8_type_13 : decode cX8_type 13 = .ok (.istore 4, 2) := by decide +kernel
theorem dX8_type_15 : decode cX8_type 15 = .ok (.iload 4, 2) := by decide +kernel
theorem dX8_type_17 : decode cX8_type 17 = .ok (.iload_n 3, 1) := by decide +kernel
theorem dX8_type_18 : decode cX8_type 18 = .ok (.if_icmp .ge 27, 3) := by decide +kernel
theorem dX8_type_21 : decode cX8_type 21 = .ok (.lload_n 1, 1) := by decide +kernel
theorem dX8_type_22 : decode cX8_type 22 = .ok (.iload 4, 2) := by decide +kernel
theorem dX8_type_24 : decode cX8_type 24 = .ok (.invokestatic 108, 3) := by decide +kernel
theorem dX8_type_27 : decode cX8_type 27 = .ok (.bipush 32, 2) := by decide +kernel
theorem dX8_type_29 : decode cX8_type 29 = .ok (.bipush 126, 2) := by decide +kernel
theorem dX8_type_31 : decode cX8_type 31 = .ok (.invokestatic 60, 3) := by decide +kernel
theorem dX8_type_34 : decode cX8_type 34 = .ok (.ifCond .ne 5, 3) := by decide +kernel
theorem dX8_type_37 : decode cX8_type 37 = .ok (.iconst (-1), 1) := by decide +kernel
theorem dX8_type_38 : decode cX8_type 38 = .ok (.ireturn, 1) := by decide +kernel
theorem dX8_type_39 : decode cX8_type 39 = .ok (.iinc 4 1, 3) := by decide +kernel
theorem dX8_type_42 : decode cX8_type 42 = .ok (.goto (-27), 3) := by decide +kernel
theorem dX8_type_45 : decode cX8_type 45 = .ok (.aload_n 0, 1) := by decide +kernel
theorem dX8_type_46 : decode cX8_type 46 = .ok (.getfield 49, 3) := by decide +kernel
theorem dX8_type_49 : decode cX8_type 49 = .ok (.iload_n 3, 1) := by decide +kernel
theorem dX8_type_50 : decode cX8_type 50 = .ok (.invokevirtual 112, 3) := by decide +kernel
theorem dX8_type_53 : decode cX8_type 53 = .ok (.ifCond .ne 6, 3) := by decide +kernel
theorem dX8_type_56 : decode cX8_type 56 = .ok (.bipush (-3), 2) := by decide +kernel
theorem dX8_type_58 : decode cX8_type 58 = .ok (.ireturn, 1) := by decide +kernel
theorem dX8_type_59 : decode cX8_type 59 = .ok (.iload_n 3, 1) := by decide +kernel
theorem dX8_type_60 : decode cX8_type 60 = .ok (.iconst 1, 1) := by decide +kernel
theorem dX8_type_61 : decode cX8_type 61 = .ok (.isub, 1) := by decide +kernel
theorem dX8_type_62 : decode cX8_type 62 = .ok (.istore 4, 2) := by decide +kernel
theorem dX8_type_64 : decode cX8_type 64 = .ok (.iload 4, 2) := by decide +kernel
theorem dX8_type_66 : decode cX8_type 66 = .ok (.ifCond .lt 22, 3) := by decide +kernel
theorem dX8_type_69 : decode cX8_type 69 = .ok (.aload_n 0, 1) := by decide +kernel
theorem dX8_type_70 : decode cX8_type 70 = .ok (.getfield 49, 3) := by decide +kernel
theorem dX8_type_73 : decode cX8_type 73 = .ok (.lload_n 1, 1) := by decide +kernel
theorem dX8_type_74 : decode cX8_type 74 = .ok (.iload 4, 2) := by decide +kernel
theorem dX8_type_76 : decode cX8_type 76 = .ok (.invokestatic 108, 3) := by decide +kernel
theorem dX8_type_79 : decode cX8_type 79 = .ok (.invokevirtual 115, 3) := by decide +kernel
theorem dX8_type_82 : decode cX8_type 82 = .ok (.iinc 4 (-1), 3) := by decide +kernel
theorem dX8_type_85 : decode cX8_type 85 = .ok (.goto (-21), 3) := by decide +kernel
theorem dX8_type_88 : decode cX8_type 88 = .ok (.aload_n 0, 1) := by decide +kernel
theorem dX8_type_89 : decode cX8_type 89 = .ok (.getfield 49, 3) := by decide +kernel
theorem dX8_type_92 : decode cX8_type 92 = .ok (.getfield 119, 3) := by decide +kernel
theorem dX8_type_95 : decode cX8_type 95 = .ok (.ireturn, 1) := by decide +kernel
theorem dX8_toy_0 : decode cX8_toy 0 = .ok (.aload_n 0, 1) := by decide +kernel
theorem dX8_toy_1 : decode cX8_toy 1 = .ok (.getfield 49, 3) := by decide +kernel
theorem dX8_toy_4 : decode cX8_toy 4 = .ok (.invokevirtual 123, 3) := by decide +kernel
theorem dX8_toy_7 : decode cX8_toy 7 = .ok (.istore_n 1, 1) := by decide +kernel
theorem dX8_toy_8 : decode cX8_toy 8 = .ok (.iload_n 1, 1) := by decide +kernel
theorem dX8_toy_9 : decode cX8_toy 9 = .ok (.ifCond .le 20, 3) := by decide +kernel
theorem dX8_toy_12 : decode cX8_toy 12 = .ok (.aload_n 0, 1) := by decide +kernel
theorem dX8_toy_13 : decode cX8_toy 13 = .ok (.getfield 10, 3) := by decide +kernel
theorem dX8_toy_16 : decode cX8_toy 16 = .ok (.getfield 74, 3) := by decide +kernel
theorem dX8_toy_19 : decode cX8_toy 19 = .ok (.aload_n 0, 1) := by decide +kernel
theorem dX8_toy_20 : decode cX8_toy 20 = .ok (.getfield 49, 3) := by decide +kernel
theorem dX8_toy_23 : decode cX8_toy 23 = .ok (.getfield 126, 3) := by decide +kernel
theorem dX8_toy_26 : decode cX8_toy 26 = .ok (.invokevirtual 127, 3) := by decide +kernel
theorem dX8_toy_29 : decode cX8_toy 29 = .ok (.iload_n 1, 1) := by decide +kernel
theorem dX8_toy_30 : decode cX8_toy 30 = .ok (.ireturn, 1) := by decide +kernel
theorem dX8_pulls_0 : decode cX8_pulls 0 = .ok (.aload_n 0, 1) := by decide +kernel
theorem dX8_pulls_1 : decode cX8_pulls 1 = .ok (.getfield 49, 3) := by decide +kernel
theorem dX8_pulls_4 : decode cX8_pulls 4 = .ok (.invokevirtual 131, 3) := by decide +kernel
theorem dX8_pulls_7 : decode cX8_pulls 7 = .ok (.istore_n 1, 1) := by decide +kernel
theorem dX8_pulls_8 : decode cX8_pulls 8 = .ok (.iload_n 1, 1) := by decide +kernel
theorem dX8_pulls_9 : decode cX8_pulls 9 = .ok (.ifCond .le 20, 3) := by decide +kernel
theorem dX8_pulls_12 : decode cX8_pulls 12 = .ok (.aload_n 0, 1) := by decide +kernel
theorem dX8_pulls_13 : decode cX8_pulls 13 = .ok (.getfield 10, 3) := by decide +kernel
theorem dX8_pulls_16 : decode cX8_pulls 16 = .ok (.getfield 97, 3) := by decide +kernel
theorem dX8_pulls_19 : decode cX8_pulls 19 = .ok (.aload_n 0, 1) := by decide +kernel
theorem dX8_pulls_20 : decode cX8_pulls 20 = .ok (.getfield 49, 3) := by decide +kernel
theorem dX8_pulls_23 : decode cX8_pulls 23 = .ok (.getfield 134, 3) := by decide +kernel
theorem dX8_pulls_26 : decode cX8_pulls 26 = .ok (.invokevirtual 127, 3) := by decide +kernel
theorem dX8_pulls_29 : decode cX8_pulls 29 = .ok (.iload_n 1, 1) := by decide +kernel
theorem dX8_pulls_30 : decode cX8_pulls 30 = .ok (.ireturn, 1) := by decide +kernel
theorem dX8_at_0 : decode cX8_at 0 = .ok (.iload_n 1, 1) := by decide +kernel
theorem dX8_at_1 : decode cX8_at 1 = .ok (.iconst 0, 1) := by decide +kernel
theorem dX8_at_2 : decode cX8_at 2 = .ok (.bipush 99, 2) := by decide +kernel
theorem dX8_at_4 : decode cX8_at 4 = .ok (.invokestatic 60, 3) := by decide +kernel
theorem dX8_at_7 : decode cX8_at 7 = .ok (.ifCond .eq 13, 3) := by decide +kernel
theorem dX8_at_10 : decode cX8_at 10 = .ok (.iload_n 2, 1) := by decide +kernel
theorem dX8_at_11 : decode cX8_at 11 = .ok (.iconst 0, 1) := by decide +kernel
theorem dX8_at_12 : decode cX8_at 12 = .ok (.bipush 8, 2) := by decide +kernel
theorem dX8_at_14 : decode cX8_at 14 = .ok (.invokestatic 60, 3) := by decide +kernel
theorem dX8_at_17 : decode cX8_at 17 = .ok (.ifCond .ne 6, 3) := by decide +kernel
theorem dX8_at_20 : decode cX8_at 20 = .ok (.ldc 92, 2) := by decide +kernel
theorem dX8_at_22 : decode cX8_at 22 = .ok (.ireturn, 1) := by decide +kernel
theorem dX8_at_23 : decode cX8_at 23 = .ok (.aload_n 0, 1) := by decide +kernel
theorem dX8_at_24 : decode cX8_at 24 = .ok (.getfield 28, 3) := by decide +kernel
theorem dX8_at_27 : decode cX8_at 27 = .ok (.invokevirtual 135, 3) := by decide +kernel
theorem dX8_at_30 : decode cX8_at 30 = .ok (.aload_n 0, 1) := by decide +kernel
theorem dX8_at_31 : decode cX8_at 31 = .ok (.getfield 28, 3) := by decide +kernel
theorem dX8_at_34 : decode cX8_at 34 = .ok (.iload_n 1, 1) := by decide +kernel
theorem dX8_at_35 : decode cX8_at 35 = .ok (.iconst 1, 1) := by decide +kernel
theorem dX8_at_36 : decode cX8_at 36 = .ok (.iadd, 1) := by decide +kernel
theorem dX8_at_37 : decode cX8_at 37 = .ok (.invokevirtual 138, 3) := by decide +kernel
theorem dX8_at_40 : decode cX8_at 40 = .ok (.iload_n 2, 1) := by decide +kernel
theorem dX8_at_41 : decode cX8_at 41 = .ok (.tableswitch 117 0 7 #[47, 55, 63, 71, 79, 87, 95, 106], 47) := by decide +kernel
theorem dX8_at_88 : decode cX8_at 88 = .ok (.aload_n 0, 1) := by decide +kernel
theorem dX8_at_89 : decode cX8_at 89 = .ok (.getfield 28, 3) := by decide +kernel
theorem dX8_at_92 : decode cX8_at 92 = .ok (.getfield 141, 3) := by decide +kernel
theorem dX8_at_95 : decode cX8_at 95 = .ok (.ireturn, 1) := by decide +kernel
theorem dX8_at_96 : decode cX8_at 96 = .ok (.aload_n 0, 1) := by decide +kernel
theorem dX8_at_97 : decode cX8_at 97 = .ok (.getfield 28, 3) := by decide +kernel
theorem dX8_at_100 : decode cX8_at 100 = .ok (.getfield 144, 3) := by decide +kernel
theorem dX8_at_103 : decode cX8_at 103 = .ok (.ireturn, 1) := by decide +kernel
theorem dX8_at_104 : decode cX8_at 104 = .ok (.aload_n 0, 1) := by decide +kernel
theorem dX8_at_105 : decode cX8_at 105 = .ok (.getfield 28, 3) := by decide +kernel
theorem dX8_at_108 : decode cX8_at 108 = .ok (.getfield 147, 3) := by decide +kernel
theorem dX8_at_111 : decode cX8_at 111 = .ok (.ireturn, 1) := by decide +kernel
theorem dX8_at_112 : decode cX8_at 112 = .ok (.aload_n 0, 1) := by decide +kernel
theorem dX8_at_113 : decode cX8_at 113 = .ok (.getfield 28, 3) := by decide +kernel
theorem dX8_at_116 : decode cX8_at 116 = .ok (.getfield 150, 3) := by decide +kernel
theorem dX8_at_119 : decode cX8_at 119 = .ok (.ireturn, 1) := by decide +kernel
theorem dX8_at_120 : decode cX8_at 120 = .ok (.aload_n 0, 1) := by decide +kernel
theorem dX8_at_121 : decode cX8_at 121 = .ok (.getfield 28, 3) := by decide +kernel
theorem dX8_at_124 : decode cX8_at 124 = .ok (.getfield 153, 3) := by decide +kernel
theorem dX8_at_127 : decode cX8_at 127 = .ok (.ireturn, 1) := by decide +kernel
theorem dX8_at_128 : decode cX8_at 128 = .ok (.aload_n 0, 1) := by decide +kernel
theorem dX8_at_129 : decode cX8_at 129 = .ok (.getfield 28, 3) := by decide +kernel
theorem dX8_at_132 : decode cX8_at 132 = .ok (.getfield 156, 3) := by decide +kernel
theorem dX8_at_135 : decode cX8_at 135 = .ok (.ireturn, 1) := by decide +kernel
theorem dX8_at_136 : decode cX8_at 136 = .ok (.aload_n 0, 1) := by decide +kernel
theorem dX8_at_137 : decode cX8_at 137 = .ok (.getfield 28, 3) := by decide +kernel
theorem dX8_at_140 : decode cX8_at 140 = .ok (.getfield 159, 3) := by decide +kernel
theorem dX8_at_143 : decode cX8_at 143 = .ok (.getfield 163, 3) := by decide +kernel
theorem dX8_at_146 : decode cX8_at 146 = .ok (.ireturn, 1) := by decide +kernel
theorem dX8_at_147 : decode cX8_at 147 = .ok (.aload_n 0, 1) := by decide +kernel
theorem dX8_at_148 : decode cX8_at 148 = .ok (.getfield 28, 3) := by decide +kernel
theorem dX8_at_151 : decode cX8_at 151 = .ok (.getfield 159, 3) := by decide +kernel
theorem dX8_at_154 : decode cX8_at 154 = .ok (.getfield 166, 3) := by decide +kernel
theorem dX8_at_157 : decode cX8_at 157 = .ok (.ireturn, 1) := by decide +kernel
theorem dX8_at_158 : decode cX8_at 158 = .ok (.aload_n 0, 1) := by decide +kernel
theorem dX8_at_159 : decode cX8_at 159 = .ok (.getfield 28, 3) := by decide +kernel
theorem dX8_at_162 : decode cX8_at 162 = .ok (.getfield 167, 3) := by decide +kernel
theorem dX8_at_165 : decode cX8_at 165 = .ok (.ifCond .eq 7, 3) := by decide +kernel
theorem dX8_at_168 : decode cX8_at 168 = .ok (.iconst 1, 1) := by decide +kernel
theorem dX8_at_169 : decode cX8_at 169 = .ok (.goto 4, 3) := by decide +kernel
theorem dX8_at_172 : decode cX8_at 172 = .ok (.iconst 0, 1) := by decide +kernel
theorem dX8_at_173 : decode cX8_at 173 = .ok (.ireturn, 1) := by decide +kernel
theorem dX8_end_0 : decode cX8_end 0 = .ok (.iload_n 1, 1) := by decide +kernel
theorem dX8_end_1 : decode cX8_end 1 = .ok (.iconst 0, 1) := by decide +kernel
theorem dX8_end_2 : decode cX8_end 2 = .ok (.iconst 3, 1) := by decide +kernel
theorem dX8_end_3 : decode cX8_end 3 = .ok (.invokestatic 60, 3) := by decide +kernel
theorem dX8_end_6 : decode cX8_end 6 = .ok (.ifCond .ne 5, 3) := by decide +kernel
theorem dX8_end_9 : decode cX8_end 9 = .ok (.iconst (-1), 1) := by decide +kernel
theorem dX8_end_10 : decode cX8_end 10 = .ok (.ireturn, 1) := by decide +kernel
theorem dX8_end_11 : decode cX8_end 11 = .ok (.aload_n 0, 1) := by decide +kernel
theorem dX8_end_12 : decode cX8_end 12 = .ok (.getfield 28, 3) := by decide +kernel
theorem dX8_end_15 : decode cX8_end 15 = .ok (.invokevirtual 135, 3) := by decide +kernel
theorem dX8_end_18 : decode cX8_end 18 = .ok (.aload_n 0, 1) := by decide +kernel
theorem dX8_end_19 : decode cX8_end 19 = .ok (.getfield 28, 3) := by decide +kernel
theorem dX8_end_22 : decode cX8_end 22 = .ok (.bipush 100, 2) := by decide +kernel
theorem dX8_end_24 : decode cX8_end 24 = .ok (.invokevirtual 138, 3) := by decide +kernel
theorem dX8_end_27 : decode cX8_end 27 = .ok (.aload_n 0, 1) := by decide +kernel
theorem dX8_end_28 : decode cX8_end 28 = .ok (.getfield 28, 3) := by decide +kernel
theorem dX8_end_31 : decode cX8_end 31 = .ok (.getfield 170, 3) := by decide +kernel
theorem dX8_end_34 : decode cX8_end 34 = .ok (.iconst (-1), 1) := by decide +kernel
theorem dX8_end_35 : decode cX8_end 35 = .ok (.if_icmp .eq 7, 3) := by decide +kernel
theorem dX8_end_38 : decode cX8_end 38 = .ok (.iconst 1, 1) := by decide +kernel
theorem dX8_end_39 : decode cX8_end 39 = .ok (.goto 4, 3) := by decide +kernel
theorem dX8_end_42 : decode cX8_end 42 = .ok (.iconst 0, 1) := by decide +kernel
theorem dX8_end_43 : decode cX8_end 43 = .ok (.istore_n 2, 1) := by decide +kernel
theorem dX8_end_44 : decode cX8_end 44 = .ok (.iload_n 1, 1) := by decide +kernel
theorem dX8_end_45 : decode cX8_end 45 = .ok (.tableswitch 71 0 2 #[27, 44, 63], 27) := by decide +kernel
theorem dX8_end_72 : decode cX8_end 72 = .ok (.iload_n 2, 1) := by decide +kernel
theorem dX8_end_73 : decode cX8_end 73 = .ok (.ifCond .eq 13, 3) := by decide +kernel
theorem dX8_end_76 : decode cX8_end 76 = .ok (.aload_n 0, 1) := by decide +kernel
theorem dX8_end_77 : decode cX8_end 77 = .ok (.getfield 28, 3) := by decide +kernel
theorem dX8_end_80 : decode cX8_end 80 = .ok (.getfield 170, 3) := by decide +kernel
theorem dX8_end_83 : decode cX8_end 83 = .ok (.goto 5, 3) := by decide +kernel
theorem dX8_end_86 : decode cX8_end 86 = .ok (.bipush (-4), 2) := by decide +kernel
theorem dX8_end_88 : decode cX8_end 88 = .ok (.ireturn, 1) := by decide +kernel
theorem dX8_end_89 : decode cX8_end 89 = .ok (.iload_n 2, 1) := by decide +kernel
theorem dX8_end_90 : decode cX8_end 90 = .ok (.ifCond .eq 15, 3) := by decide +kernel
theorem dX8_end_93 : decode cX8_end 93 = .ok (.aload_n 0, 1) := by decide +kernel
theorem dX8_end_94 : decode cX8_end 94 = .ok (.getfield 28, 3) := by decide +kernel
theorem dX8_end_97 : decode cX8_end 97 = .ok (.getfield 173, 3) := by decide +kernel
theorem dX8_end_100 : decode cX8_end 100 = .ok (.iconst 1, 1) := by decide +kernel
theorem dX8_end_101 : decode cX8_end 101 = .ok (.isub, 1) := by decide +kernel
theorem dX8_end_102 : decode cX8_end 102 = .ok (.goto 5, 3) := by decide +kernel
theorem dX8_end_105 : decode cX8_end 105 = .ok (.bipush (-4), 2) := by decide +kernel
theorem dX8_end_107 : decode cX8_end 107 = .ok (.ireturn, 1) := by decide +kernel
theorem dX8_end_108 : decode cX8_end 108 = .ok (.aload_n 0, 1) := by decide +kernel
theorem dX8_end_109 : decode cX8_end 109 = .ok (.getfield 28, 3) := by decide +kernel
theorem dX8_end_112 : decode cX8_end 112 = .ok (.getfield 176, 3) := by decide +kernel
theorem dX8_end_115 : decode cX8_end 115 = .ok (.ireturn, 1) := by decide +kernel
theorem dX8_end_116 : decode cX8_end 116 = .ok (.aload_n 0, 1) := by decide +kernel
theorem dX8_end_117 : decode cX8_end 117 = .ok (.getfield 28, 3) := by decide +kernel
theorem dX8_end_120 : decode cX8_end 120 = .ok (.getfield 179, 3) := by decide +kernel
theorem dX8_end_123 : decode cX8_end 123 = .ok (.ireturn, 1) := by decide +kernel
theorem dX8_count_0 : decode cX8_count 0 = .ok (.iload_n 1, 1) := by decide +kernel
theorem dX8_count_1 : decode cX8_count 1 = .ok (.tableswitch 72 0 3 #[31, 42, 53, 61], 31) := by decide +kernel
theorem dX8_count_32 : decode cX8_count 32 = .ok (.aload_n 0, 1) := by decide +kernel
theorem dX8_count_33 : decode cX8_count 33 = .ok (.getfield 10, 3) := by decide +kernel
theorem dX8_count_36 : decode cX8_count 36 = .ok (.getfield 74, 3) := by decide +kernel
theorem dX8_count_39 : decode cX8_count 39 = .ok (.getfield 182, 3) := by decide +kernel
theorem dX8_count_42 : decode cX8_count 42 = .ok (.ireturn, 1) := by decide +kernel
theorem dX8_count_43 : decode cX8_count 43 = .ok (.aload_n 0, 1) := by decide +kernel
theorem dX8_count_44 : decode cX8_count 44 = .ok (.getfield 10, 3) := by decide +kernel
theorem dX8_count_47 : decode cX8_count 47 = .ok (.getfield 97, 3) := by decide +kernel
theorem dX8_count_50 : decode cX8_count 50 = .ok (.getfield 182, 3) := by decide +kernel
theorem dX8_count_53 : decode cX8_count 53 = .ok (.ireturn, 1) := by decide +kernel
theorem dX8_count_54 : decode cX8_count 54 = .ok (.aload_n 0, 1) := by decide +kernel
theorem dX8_count_55 : decode cX8_count 55 = .ok (.getfield 10, 3) := by decide +kernel
theorem dX8_count_58 : decode cX8_count 58 = .ok (.invokevirtual 183, 3) := by decide +kernel
theorem dX8_count_61 : decode cX8_count 61 = .ok (.ireturn, 1) := by decide +kernel
theorem dX8_count_62 : decode cX8_count 62 = .ok (.aload_n 0, 1) := by decide +kernel
theorem dX8_count_63 : decode cX8_count 63 = .ok (.getfield 10, 3) := by decide +kernel
theorem dX8_count_66 : decode cX8_count 66 = .ok (.getfield 186, 3) := by decide +kernel
theorem dX8_count_69 : decode cX8_count 69 = .ok (.getfield 182, 3) := by decide +kernel
theorem dX8_count_72 : decode cX8_count 72 = .ok (.ireturn, 1) := by decide +kernel
theorem dX8_count_73 : decode cX8_count 73 = .ok (.iconst (-1), 1) := by decide +kernel
theorem dX8_count_74 : decode cX8_count 74 = .ok (.ireturn, 1) := by decide +kernel
theorem dX8_ends_0 : decode cX8_ends 0 = .ok (.iload_n 1, 1) := by decide +kernel
theorem dX8_ends_1 : decode cX8_ends 1 = .ok (.bipush (-4), 2) := by decide +kernel
theorem dX8_ends_3 : decode cX8_ends 3 = .ok (.iconst 4, 1) := by decide +kernel
theorem dX8_ends_4 : decode cX8_ends 4 = .ok (.invokestatic 60, 3) := by decide +kernel
theorem dX8_ends_7 : decode cX8_ends 7 = .ok (.ifCond .eq 13, 3) := by decide +kernel
theorem dX8_ends_10 : decode cX8_ends 10 = .ok (.iload_n 2, 1) := by decide +kernel
theorem dX8_ends_11 : decode cX8_ends 11 = .ok (.iconst 0, 1) := by decide +kernel
theorem dX8_ends_12 : decode cX8_ends 12 = .ok (.bipush 9, 2) := by decide +kernel
theorem dX8_ends_14 : decode cX8_ends 14 = .ok (.invokestatic 60, 3) := by decide +kernel
theorem dX8_ends_17 : decode cX8_ends 17 = .ok (.ifCond .ne 5, 3) := by decide +kernel
theorem dX8_ends_20 : decode cX8_ends 20 = .ok (.iconst (-1), 1) := by decide +kernel
theorem dX8_ends_21 : decode cX8_ends 21 = .ok (.ireturn, 1) := by decide +kernel
theorem dX8_ends_22 : decode cX8_ends 22 = .ok (.aload_n 0, 1) := by decide +kernel
theorem dX8_ends_23 : decode cX8_ends 23 = .ok (.getfield 10, 3) := by decide +kernel
theorem dX8_ends_26 : decode cX8_ends 26 = .ok (.invokevirtual 189, 3) := by decide +kernel
theorem dX8_ends_29 : decode cX8_ends 29 = .ok (.ifCond .eq 6, 3) := by decide +kernel
theorem dX8_ends_32 : decode cX8_ends 32 = .ok (.bipush (-2), 2) := by decide +kernel
theorem dX8_ends_34 : decode cX8_ends 34 = .ok (.ireturn, 1) := by decide +kernel
theorem dX8_ends_35 : decode cX8_ends 35 = .ok (.aload_n 0, 1) := by decide +kernel
theorem dX8_ends_36 : decode cX8_ends 36 = .ok (.getfield 28, 3) := by decide +kernel
theorem dX8_ends_39 : decode cX8_ends 39 = .ok (.aload_n 0, 1) := by decide +kernel
theorem dX8_ends_40 : decode cX8_ends 40 = .ok (.getfield 10, 3) := by decide +kernel
theorem dX8_ends_43 : decode cX8_ends 43 = .ok (.getfield 71, 3) := by decide +kernel
theorem dX8_ends_46 : decode cX8_ends 46 = .ok (.iconst 0, 1) := by decide +kernel
theorem dX8_ends_47 : decode cX8_ends 47 = .ok (.iaload, 1) := by decide +kernel
theorem dX8_ends_48 : decode cX8_ends 48 = .ok (.iload_n 1, 1) := by decide +kernel
theorem dX8_ends_49 : decode cX8_ends 49 = .ok (.iload_n 2, 1) := by decide +kernel
theorem dX8_ends_50 : decode cX8_ends 50 = .ok (.invokevirtual 192, 3) := by decide +kernel
theorem dX8_ends_53 : decode cX8_ends 53 = .ok (.istore_n 3, 1) := by decide +kernel
theorem dX8_ends_54 : decode cX8_ends 54 = .ok (.iload_n 3, 1) := by decide +kernel
theorem dX8_ends_55 : decode cX8_ends 55 = .ok (.iconst (-1), 1) := by decide +kernel
theorem dX8_ends_56 : decode cX8_ends 56 = .ok (.if_icmp .ne 8, 3) := by decide +kernel
theorem dX8_ends_59 : decode cX8_ends 59 = .ok (.bipush (-4), 2) := by decide +kernel
theorem dX8_ends_61 : decode cX8_ends 61 = .ok (.goto 4, 3) := by decide +kernel
theorem dX8_ends_64 : decode cX8_ends 64 = .ok (.iload_n 3, 1) := by decide +kernel
theorem dX8_ends_65 : decode cX8_ends 65 = .ok (.ireturn, 1) := by decide +kernel
theorem dX8_cells_0 : decode cX8_cells 0 = .ok (.aload_n 0, 1) := by decide +kernel
theorem dX8_cells_1 : decode cX8_cells 1 = .ok (.getfield 10, 3) := by decide +kernel
theorem dX8_cells_4 : decode cX8_cells 4 = .ok (.getfield 74, 3) := by decide +kernel
theorem dX8_cells_7 : decode cX8_cells 7 = .ok (.iload_n 1, 1) := by decide +kernel
theorem dX8_cells_8 : decode cX8_cells 8 = .ok (.invokevirtual 88, 3) := by decide +kernel
theorem dX8_cells_11 : decode cX8_cells 11 = .ok (.ifCond .eq 12, 3) := by decide +kernel
theorem dX8_cells_14 : decode cX8_cells 14 = .ok (.iload_n 2, 1) := by decide +kernel
theorem dX8_cells_15 : decode cX8_cells 15 = .ok (.iconst 0, 1) := by decide +kernel
theorem dX8_cells_16 : decode cX8_cells 16 = .ok (.iconst 2, 1) := by decide +kernel
theorem dX8_cells_17 : decode cX8_cells 17 = .ok (.invokestatic 60, 3) := by decide +kernel
theorem dX8_cells_20 : decode cX8_cells 20 = .ok (.ifCond .ne 5, 3) := by decide +kernel
theorem dX8_cells_23 : decode cX8_cells 23 = .ok (.iconst (-1), 1) := by decide +kernel
theorem dX8_cells_24 : decode cX8_cells 24 = .ok (.ireturn, 1) := by decide +kernel
theorem dX8_cells_25 : decode cX8_cells 25 = .ok (.aload_n 0, 1) := by decide +kernel
theorem dX8_cells_26 : decode cX8_cells 26 = .ok (.getfield 10, 3) := by decide +kernel
theorem dX8_cells_29 : decode cX8_cells 29 = .ok (.invokevirtual 189, 3) := by decide +kernel
theorem dX8_cells_32 : decode cX8_cells 32 = .ok (.ifCond .eq 6, 3) := by decide +kernel
theorem dX8_cells_35 : decode cX8_cells 35 = .ok (.bipush (-2), 2) := by decide +kernel
theorem dX8_cells_37 : decode cX8_cells 37 = .ok (.ireturn, 1) := by decide +kernel
theorem dX8_cells_38 : decode cX8_cells 38 = .ok (.aload_n 0, 1) := by decide +kernel
theorem dX8_cells_39 : decode cX8_cells 39 = .ok (.getfield 35, 3) := by decide +kernel
theorem dX8_cells_42 : decode cX8_cells 42 = .ok (.aload_n 0, 1) := by decide +kernel
theorem dX8_cells_43 : decode cX8_cells 43 = .ok (.getfield 28, 3) := by decide +kernel
theorem dX8_cells_46 : decode cX8_cells 46 = .ok (.aload_n 0, 1) := by decide +kernel
theorem dX8_cells_47 : decode cX8_cells 47 = .ok (.getfield 10, 3) := by decide +kernel
theorem dX8_cells_50 : decode cX8_cells 50 = .ok (.getfield 71, 3) := by decide +kernel
theorem dX8_cells_53 : decode cX8_cells 53 = .ok (.iconst 0, 1) := by decide +kernel
theorem dX8_cells_54 : decode cX8_cells 54 = .ok (.iaload, 1) := by decide +kernel
theorem dX8_cells_55 : decode cX8_cells 55 = .ok (.invokevirtual 196, 3) := by decide +kernel
theorem dX8_cells_58 : decode cX8_cells 58 = .ok (.iload_n 2, 1) := by decide +kernel
theorem dX8_cells_59 : decode cX8_cells 59 = .ok (.ifCond .ne 12, 3) := by decide +kernel
theorem dX8_cells_62 : decode cX8_cells 62 = .ok (.aload_n 0, 1) := by decide +kernel
theorem dX8_cells_63 : decode cX8_cells 63 = .ok (.getfield 35, 3) := by decide +kernel
theorem dX8_cells_66 : decode cX8_cells 66 = .ok (.iload_n 1, 1) := by decide +kernel
theorem dX8_cells_67 : decode cX8_cells 67 = .ok (.invokevirtual 200, 3) := by decide +kernel
theorem dX8_cells_70 : decode cX8_cells 70 = .ok (.ireturn, 1) := by decide +kernel
theorem dX8_cells_71 : decode cX8_cells 71 = .ok (.aload_n 0, 1) := by decide +kernel
theorem dX8_cells_72 : decode cX8_cells 72 = .ok (.getfield 35, 3) := by decide +kernel
theorem dX8_cells_75 : decode cX8_cells 75 = .ok (.iload_n 1, 1) := by decide +kernel
theorem dX8_cells_76 : decode cX8_cells 76 = .ok (.invokevirtual 204, 3) := by decide +kernel
theorem dX8_cells_79 : decode cX8_cells 79 = .ok (.iload_n 2, 1) := by decide +kernel
theorem dX8_cells_80 : decode cX8_cells 80 = .ok (.iconst 1, 1) := by decide +kernel
theorem dX8_cells_81 : decode cX8_cells 81 = .ok (.if_icmp .ne 13, 3) := by decide +kernel
theorem dX8_cells_84 : decode cX8_cells 84 = .ok (.aload_n 0, 1) := by decide +kernel
theorem dX8_cells_85 : decode cX8_cells 85 = .ok (.getfield 35, 3) := by decide +kernel
theorem dX8_cells_88 : decode cX8_cells 88 = .ok (.getfield 207, 3) := by decide +kernel
theorem dX8_cells_91 : decode cX8_cells 91 = .ok (.goto 10, 3) := by decide +kernel
theorem dX8_cells_94 : decode cX8_cells 94 = .ok (.aload_n 0, 1) := by decide +kernel
theorem dX8_cells_95 : decode cX8_cells 95 = .ok (.getfield 35, 3) := by decide +kernel
theorem dX8_cells_98 : decode cX8_cells 98 = .ok (.getfield 210, 3) := by decide +kernel
theorem dX8_cells_101 : decode cX8_cells 101 = .ok (.ireturn, 1) := by decide +kernel
theorem dX8_middle_0 : decode cX8_middle 0 = .ok (.aload_n 0, 1) := by decide +kernel
theorem dX8_middle_1 : decode cX8_middle 1 = .ok (.getfield 10, 3) := by decide +kernel
theorem dX8_middle_4 : decode cX8_middle 4 = .ok (.getfield 74, 3) := by decide +kernel
theorem dX8_middle_7 : decode cX8_middle 7 = .ok (.iload_n 1, 1) := by decide +kernel
theorem dX8_middle_8 : decode cX8_middle 8 = .ok (.invokevirtual 88, 3) := by decide +kernel
theorem dX8_middle_11 : decode cX8_middle 11 = .ok (.ifCond .eq 12, 3) := by decide +kernel
theorem dX8_middle_14 : decode cX8_middle 14 = .ok (.iload_n 2, 1) := by decide +kernel
theorem dX8_middle_15 : decode cX8_middle 15 = .ok (.iconst 0, 1) := by decide +kernel
theorem dX8_middle_16 : decode cX8_middle 16 = .ok (.iconst 2, 1) := by decide +kernel
theorem dX8_middle_17 : decode cX8_middle 17 = .ok (.invokestatic 60, 3) := by decide +kernel
theorem dX8_middle_20 : decode cX8_middle 20 = .ok (.ifCond .ne 6, 3) := by decide +kernel
theorem dX8_middle_23 : decode cX8_middle 23 = .ok (.ldc 92, 2) := by decide +kernel
theorem dX8_middle_25 : decode cX8_middle 25 = .ok (.ireturn, 1) := by decide +kernel
theorem dX8_middle_26 : decode cX8_middle 26 = .ok (.aload_n 0, 1) := by decide +kernel
theorem dX8_middle_27 : decode cX8_middle 27 = .ok (.getfield 10, 3) := by decide +kernel
theorem dX8_middle_30 : decode cX8_middle 30 = .ok (.invokevirtual 189, 3) := by decide +kernel
theorem dX8_middle_33 : decode cX8_middle 33 = .ok (.ifCond .eq 6, 3) := by decide +kernel
theorem dX8_middle_36 : decode cX8_middle 36 = .ok (.ldc 213, 2) := by decide +kernel
theorem dX8_middle_38 : decode cX8_middle 38 = .ok (.ireturn, 1) := by decide +kernel
theorem dX8_middle_39 : decode cX8_middle 39 = .ok (.aload_n 0, 1) := by decide +kernel
theorem dX8_middle_40 : decode cX8_middle 40 = .ok (.getfield 35, 3) := by decide +kernel
theorem dX8_middle_43 : decode cX8_middle 43 = .ok (.aload_n 0, 1) := by decide +kernel
theorem dX8_middle_44 : decode cX8_middle 44 = .ok (.getfield 28, 3) := by decide +kernel
theorem dX8_middle_47 : decode cX8_middle 47 = .ok (.aload_n 0, 1) := by decide +kernel
theorem dX8_middle_48 : decode cX8_middle 48 = .ok (.getfield 10, 3) := by decide +kernel
theorem dX8_middle_51 : decode cX8_middle 51 = .ok (.getfield 71, 3) := by decide +kernel
theorem dX8_middle_54 : decode cX8_middle 54 = .ok (.iconst 0, 1) := by decide +kernel
theorem dX8_middle_55 : decode cX8_middle 55 = .ok (.iaload, 1) := by decide +kernel
theorem dX8_middle_56 : decode cX8_middle 56 = .ok (.invokevirtual 196, 3) := by decide +kernel
theorem dX8_middle_59 : decode cX8_middle 59 = .ok (.aload_n 0, 1) := by decide +kernel
theorem dX8_middle_60 : decode cX8_middle 60 = .ok (.getfield 35, 3) := by decide +kernel
theorem dX8_middle_63 : decode cX8_middle 63 = .ok (.iload_n 1, 1) := by decide +kernel
theorem dX8_middle_64 : decode cX8_middle 64 = .ok (.invokevirtual 214, 3) := by decide +kernel
theorem dX8_middle_67 : decode cX8_middle 67 = .ok (.istore_n 3, 1) := by decide +kernel
theorem dX8_middle_68 : decode cX8_middle 68 = .ok (.iload_n 3, 1) := by decide +kernel
theorem dX8_middle_69 : decode cX8_middle 69 = .ok (.iconst (-1), 1) := by decide +kernel
theorem dX8_middle_70 : decode cX8_middle 70 = .ok (.if_icmp .ne 6, 3) := by decide +kernel
theorem dX8_middle_73 : decode cX8_middle 73 = .ok (.ldc 217, 2) := by decide +kernel
theorem dX8_middle_75 : decode cX8_middle 75 = .ok (.ireturn, 1) := by decide +kernel
theorem dX8_middle_76 : decode cX8_middle 76 = .ok (.iload_n 2, 1) := by decide +kernel
theorem dX8_middle_77 : decode cX8_middle 77 = .ok (.lookupswitch 37 #[(0, 27), (1, 32)], 27) := by decide +kernel
theorem dX8_middle_104 : decode cX8_middle 104 = .ok (.iload_n 3, 1) := by decide +kernel
theorem dX8_middle_105 : decode cX8_middle 105 = .ok (.invokestatic 218, 3) := by decide +kernel
theorem dX8_middle_108 : decode cX8_middle 108 = .ok (.ireturn, 1) := by decide +kernel
theorem dX8_middle_109 : decode cX8_middle 109 = .ok (.iload_n 3, 1) := by decide +kernel
theorem dX8_middle_110 : decode cX8_middle 110 = .ok (.invokestatic 221, 3) := by decide +kernel
theorem dX8_middle_113 : decode cX8_middle 113 = .ok (.ireturn, 1) := by decide +kernel
theorem dX8_middle_114 : decode cX8_middle 114 = .ok (.aload_n 0, 1) := by decide +kernel
theorem dX8_middle_115 : decode cX8_middle 115 = .ok (.getfield 35, 3) := by decide +kernel
theorem dX8_middle_118 : decode cX8_middle 118 = .ok (.iload_n 3, 1) := by decide +kernel
theorem dX8_middle_119 : decode cX8_middle 119 = .ok (.iload_n 1, 1) := by decide +kernel
theorem dX8_middle_120 : decode cX8_middle 120 = .ok (.invokevirtual 224, 3) := by decide +kernel
theorem dX8_middle_123 : decode cX8_middle 123 = .ok (.ireturn, 1) := by decide +kernel
theorem dX8_mended_0 : decode cX8_mended 0 = .ok (.aload_n 0, 1) := by decide +kernel
theorem dX8_mended_1 : decode cX8_mended 1 = .ok (.getfield 10, 3) := by decide +kernel
theorem dX8_mended_4 : decode cX8_mended 4 = .ok (.getfield 74, 3) := by decide +kernel
theorem dX8_mended_7 : decode cX8_mended 7 = .ok (.iload_n 1, 1) := by decide +kernel
theorem dX8_mended_8 : decode cX8_mended 8 = .ok (.invokevirtual 88, 3) := by decide +kernel
theorem dX8_mended_11 : decode cX8_mended 11 = .ok (.ifCond .eq 13, 3) := by decide +kernel
theorem dX8_mended_14 : decode cX8_mended 14 = .ok (.iload_n 2, 1) := by decide +kernel
theorem dX8_mended_15 : decode cX8_mended 15 = .ok (.iconst 0, 1) := by decide +kernel
theorem dX8_mended_16 : decode cX8_mended 16 = .ok (.bipush 99, 2) := by decide +kernel
theorem dX8_mended_18 : decode cX8_mended 18 = .ok (.invokestatic 60, 3) := by decide +kernel
theorem dX8_mended_21 : decode cX8_mended 21 = .ok (.ifCond .ne 5, 3) := by decide +kernel
theorem dX8_mended_24 : decode cX8_mended 24 = .ok (.iconst (-1), 1) := by decide +kernel
theorem dX8_mended_25 : decode cX8_mended 25 = .ok (.ireturn, 1) := by decide +kernel
theorem dX8_mended_26 : decode cX8_mended 26 = .ok (.aload_n 0, 1) := by decide +kernel
theorem dX8_mended_27 : decode cX8_mended 27 = .ok (.getfield 10, 3) := by decide +kernel
theorem dX8_mended_30 : decode cX8_mended 30 = .ok (.invokevirtual 189, 3) := by decide +kernel
theorem dX8_mended_33 : decode cX8_mended 33 = .ok (.ifCond .eq 6, 3) := by decide +kernel
theorem dX8_mended_36 : decode cX8_mended 36 = .ok (.bipush (-2), 2) := by decide +kernel
theorem dX8_mended_38 : decode cX8_mended 38 = .ok (.ireturn, 1) := by decide +kernel
theorem dX8_mended_39 : decode cX8_mended 39 = .ok (.aload_n 0, 1) := by decide +kernel
theorem dX8_mended_40 : decode cX8_mended 40 = .ok (.getfield 10, 3) := by decide +kernel
theorem dX8_mended_43 : decode cX8_mended 43 = .ok (.getfield 71, 3) := by decide +kernel
theorem dX8_mended_46 : decode cX8_mended 46 = .ok (.iconst 0, 1) := by decide +kernel
theorem dX8_mended_47 : decode cX8_mended 47 = .ok (.iaload, 1) := by decide +kernel
theorem dX8_mended_48 : decode cX8_mended 48 = .ok (.istore_n 3, 1) := by decide +kernel
theorem dX8_mended_49 : decode cX8_mended 49 = .ok (.iconst 0, 1) := by decide +kernel
theorem dX8_mended_50 : decode cX8_mended 50 = .ok (.istore 4, 2) := by decide +kernel
theorem dX8_mended_52 : decode cX8_mended 52 = .ok (.iconst 0, 1) := by decide +kernel
theorem dX8_mended_53 : decode cX8_mended 53 = .ok (.istore 5, 2) := by decide +kernel
theorem dX8_mended_55 : decode cX8_mended 55 = .ok (.iload 5, 2) := by decide +kernel
theorem dX8_mended_57 : decode cX8_mended 57 = .ok (.bipush 90, 2) := by decide +kernel
theorem dX8_mended_59 : decode cX8_mended 59 = .ok (.if_icmp .ge 59, 3) := by decide +kernel
theorem dX8_mended_62 : decode cX8_mended 62 = .ok (.iload 5, 2) := by decide +kernel
theorem dX8_mended_64 : decode cX8_mended 64 = .ok (.invokestatic 218, 3) := by decide +kernel
theorem dX8_mended_67 : decode cX8_mended 67 = .ok (.istore 6, 2) := by decide +kernel
theorem dX8_mended_69 : decode cX8_mended 69 = .ok (.iload 5, 2) := by decide +kernel
theorem dX8_mended_71 : decode cX8_mended 71 = .ok (.invokestatic 221, 3) := by decide +kernel
theorem dX8_mended_74 : decode cX8_mended 74 = .ok (.istore 7, 2) := by decide +kernel
theorem dX8_mended_76 : decode cX8_mended 76 = .ok (.aload_n 0, 1) := by decide +kernel
theorem dX8_mended_77 : decode cX8_mended 77 = .ok (.getfield 28, 3) := by decide +kernel
theorem dX8_mended_80 : decode cX8_mended 80 = .ok (.iload_n 3, 1) := by decide +kernel
theorem dX8_mended_81 : decode cX8_mended 81 = .ok (.iload 6, 2) := by decide +kernel
theorem dX8_mended_83 : decode cX8_mended 83 = .ok (.iload 7, 2) := by decide +kernel
theorem dX8_mended_85 : decode cX8_mended 85 = .ok (.invokevirtual 192, 3) := by decide +kernel
theorem dX8_mended_88 : decode cX8_mended 88 = .ok (.iload_n 1, 1) := by decide +kernel
theorem dX8_mended_89 : decode cX8_mended 89 = .ok (.if_icmp .eq 23, 3) := by decide +kernel
theorem dX8_mended_92 : decode cX8_mended 92 = .ok (.aload_n 0, 1) := by decide +kernel
theorem dX8_mended_93 : decode cX8_mended 93 = .ok (.getfield 28, 3) := by decide +kernel
theorem dX8_mended_96 : decode cX8_mended 96 = .ok (.iload_n 1, 1) := by decide +kernel
theorem dX8_mended_97 : decode cX8_mended 97 = .ok (.iload_n 2, 1) := by decide +kernel
theorem dX8_mended_98 : decode cX8_mended 98 = .ok (.iload 6, 2) := by decide +kernel
theorem dX8_mended_100 : decode cX8_mended 100 = .ok (.iload 7, 2) := by decide +kernel
theorem dX8_mended_102 : decode cX8_mended 102 = .ok (.invokevirtual 227, 3) := by decide +kernel
theorem dX8_mended_105 : decode cX8_mended 105 = .ok (.iload_n 1, 1) := by decide +kernel
theorem dX8_mended_106 : decode cX8_mended 106 = .ok (.if_icmp .ne 6, 3) := by decide +kernel
theorem dX8_mended_109 : decode cX8_mended 109 = .ok (.iinc 4 1, 3) := by decide +kernel
theorem dX8_mended_112 : decode cX8_mended 112 = .ok (.iinc 5 1, 3) := by decide +kernel
theorem dX8_mended_115 : decode cX8_mended 115 = .ok (.goto (-60), 3) := by decide +kernel
theorem dX8_mended_118 : decode cX8_mended 118 = .ok (.iload 4, 2) := by decide +kernel
theorem dX8_mended_120 : decode cX8_mended 120 = .ok (.ireturn, 1) := by decide +kernel
theorem dX8_odds_0 : decode cX8_odds 0 = .ok (.aload_n 0, 1) := by decide +kernel
theorem dX8_odds_1 : decode cX8_odds 1 = .ok (.getfield 10, 3) := by decide +kernel
theorem dX8_odds_4 : decode cX8_odds 4 = .ok (.getfield 74, 3) := by decide +kernel
theorem dX8_odds_7 : decode cX8_odds 7 = .ok (.iload_n 1, 1) := by decide +kernel
theorem dX8_odds_8 : decode cX8_odds 8 = .ok (.invokevirtual 88, 3) := by decide +kernel
theorem dX8_odds_11 : decode cX8_odds 11 = .ok (.ifCond .ne 5, 3) := by decide +kernel
theorem dX8_odds_14 : decode cX8_odds 14 = .ok (.iconst (-1), 1) := by decide +kernel
theorem dX8_odds_15 : decode cX8_odds 15 = .ok (.ireturn, 1) := by decide +kernel
theorem dX8_odds_16 : decode cX8_odds 16 = .ok (.aload_n 0, 1) := by decide +kernel
theorem dX8_odds_17 : decode cX8_odds 17 = .ok (.getfield 10, 3) := by decide +kernel
theorem dX8_odds_20 : decode cX8_odds 20 = .ok (.invokevirtual 189, 3) := by decide +kernel
theorem dX8_odds_23 : decode cX8_odds 23 = .ok (.ifCond .eq 8, 3) := by decide +kernel
theorem dX8_odds_26 : decode cX8_odds 26 = .ok (.bipush (-2), 2) := by decide +kernel
theorem dX8_odds_28 : decode cX8_odds 28 = .ok (.goto 20, 3) := by decide +kernel
theorem dX8_odds_31 : decode cX8_odds 31 = .ok (.aload_n 0, 1) := by decide +kernel
theorem dX8_odds_32 : decode cX8_odds 32 = .ok (.getfield 28, 3) := by decide +kernel
theorem dX8_odds_35 : decode cX8_odds 35 = .ok (.aload_n 0, 1) := by decide +kernel
theorem dX8_odds_36 : decode cX8_odds 36 = .ok (.getfield 10, 3) := by decide +kernel
theorem dX8_odds_39 : decode cX8_odds 39 = .ok (.getfield 71, 3) := by decide +kernel
theorem dX8_odds_42 : decode cX8_odds 42 = .ok (.iconst 0, 1) := by decide +kernel
theorem dX8_odds_43 : decode cX8_odds 43 = .ok (.iaload, 1) := by decide +kernel
theorem dX8_odds_44 : decode cX8_odds 44 = .ok (.iload_n 1, 1) := by decide +kernel
theorem dX8_odds_45 : decode cX8_odds 45 = .ok (.invokevirtual 231, 3) := by decide +kernel
theorem dX8_odds_48 : decode cX8_odds 48 = .ok (.ireturn, 1) := by decide +kernel
theorem dX8_which_0 : decode cX8_which 0 = .ok (.aload_n 0, 1) := by decide +kernel
theorem dX8_which_1 : decode cX8_which 1 = .ok (.getfield 10, 3) := by decide +kernel
theorem dX8_which_4 : decode cX8_which 4 = .ok (.invokevirtual 189, 3) := by decide +kernel
theorem dX8_which_7 : decode cX8_which 7 = .ok (.ifCond .eq 6, 3) := by decide +kernel
theorem dX8_which_10 : decode cX8_which 10 = .ok (.bipush (-2), 2) := by decide +kernel
theorem dX8_which_12 : decode cX8_which 12 = .ok (.ireturn, 1) := by decide +kernel
theorem dX8_which_13 : decode cX8_which 13 = .ok (.bipush (-4), 2) := by decide +kernel
theorem dX8_which_15 : decode cX8_which 15 = .ok (.istore_n 1, 1) := by decide +kernel
theorem dX8_which_16 : decode cX8_which 16 = .ok (.iconst (-1), 1) := by decide +kernel
theorem dX8_which_17 : decode cX8_which 17 = .ok (.istore_n 2, 1) := by decide +kernel
theorem dX8_which_18 : decode cX8_which 18 = .ok (.iconst 0, 1) := by decide +kernel
theorem dX8_which_19 : decode cX8_which 19 = .ok (.istore_n 3, 1) := by decide +kernel
theorem dX8_which_20 : decode cX8_which 20 = .ok (.iload_n 3, 1) := by decide +kernel
theorem dX8_which_21 : decode cX8_which 21 = .ok (.aload_n 0, 1) := by decide +kernel
theorem dX8_which_22 : decode cX8_which 22 = .ok (.getfield 10, 3) := by decide +kernel
theorem dX8_which_25 : decode cX8_which 25 = .ok (.getfield 74, 3) := by decide +kernel
theorem dX8_which_28 : decode cX8_which 28 = .ok (.getfield 182, 3) := by decide +kernel
theorem dX8_which_31 : decode cX8_which 31 = .ok (.if_icmp .ge 52, 3) := by decide +kernel
theorem dX8_which_34 : decode cX8_which 34 = .ok (.aload_n 0, 1) := by decide +kernel
theorem dX8_which_35 : decode cX8_which 35 = .ok (.getfield 28, 3) := by decide +kernel
theorem dX8_which_38 : decode cX8_which 38 = .ok (.aload_n 0, 1) := by decide +kernel
theorem dX8_which_39 : decode cX8_which 39 = .ok (.getfield 10, 3) := by decide +kernel
theorem dX8_which_42 : decode cX8_which 42 = .ok (.getfield 71, 3) := by decide +kernel
theorem dX8_which_45 : decode cX8_which 45 = .ok (.iconst 0, 1) := by decide +kernel
theorem dX8_which_46 : decode cX8_which 46 = .ok (.iaload, 1) := by decide +kernel
theorem dX8_which_47 : decode cX8_which 47 = .ok (.iload_n 3, 1) := by decide +kernel
theorem dX8_which_48 : decode cX8_which 48 = .ok (.invokevirtual 231, 3) := by decide +kernel
theorem dX8_which_51 : decode cX8_which 51 = .ok (.aload_n 0, 1) := by decide +kernel
theorem dX8_which_52 : decode cX8_which 52 = .ok (.getfield 10, 3) := by decide +kernel
theorem dX8_which_55 : decode cX8_which 55 = .ok (.getfield 74, 3) := by decide +kernel
theorem dX8_which_58 : decode cX8_which 58 = .ok (.iload_n 3, 1) := by decide +kernel
theorem dX8_which_59 : decode cX8_which 59 = .ok (.iconst 3, 1) := by decide +kernel
theorem dX8_which_60 : decode cX8_which 60 = .ok (.invokevirtual 93, 3) := by decide +kernel
theorem dX8_which_63 : decode cX8_which 63 = .ok (.imul, 1) := by decide +kernel
theorem dX8_which_64 : decode cX8_which 64 = .ok (.istore 4, 2) := by decide +kernel
theorem dX8_which_66 : decode cX8_which 66 = .ok (.iload 4, 2) := by decide +kernel
theorem dX8_which_68 : decode cX8_which 68 = .ok (.iload_n 2, 1) := by decide +kernel
theorem dX8_which_69 : decode cX8_which 69 = .ok (.if_icmp .le 8, 3) := by decide +kernel
theorem dX8_which_72 : decode cX8_which 72 = .ok (.iload 4, 2) := by decide +kernel
theorem dX8_which_74 : decode cX8_which 74 = .ok (.istore_n 2, 1) := by decide +kernel
theorem dX8_which_75 : decode cX8_which 75 = .ok (.iload_n 3, 1) := by decide +kernel
theorem dX8_which_76 : decode cX8_which 76 = .ok (.istore_n 1, 1) := by decide +kernel
theorem dX8_which_77 : decode cX8_which 77 = .ok (.iinc 3 1, 3) := by decide +kernel
theorem dX8_which_80 : decode cX8_which 80 = .ok (.goto (-60), 3) := by decide +kernel
theorem dX8_which_83 : decode cX8_which 83 = .ok (.iload_n 1, 1) := by decide +kernel
theorem dX8_which_84 : decode cX8_which 84 = .ok (.ireturn, 1) := by decide +kernel
theorem dX8_trick_0 : decode cX8_trick 0 = .ok (.iload_n 1, 1) := by decide +kernel
theorem dX8_trick_1 : decode cX8_trick 1 = .ok (.iconst 0, 1) := by decide +kernel
theorem dX8_trick_2 : decode cX8_trick 2 = .ok (.bipush 16, 2) := by decide +kernel
theorem dX8_trick_4 : decode cX8_trick 4 = .ok (.invokestatic 60, 3) := by decide +kernel
theorem dX8_trick_7 : decode cX8_trick 7 = .ok (.ifCond .eq 17, 3) := by decide +kernel
theorem dX8_trick_10 : decode cX8_trick 10 = .ok (.iload_n 3, 1) := by decide +kernel
theorem dX8_trick_11 : decode cX8_trick 11 = .ok (.iconst 0, 1) := by decide +kernel
theorem dX8_trick_12 : decode cX8_trick 12 = .ok (.bipush 99, 2) := by decide +kernel
theorem dX8_trick_14 : decode cX8_trick 14 = .ok (.invokestatic 60, 3) := by decide +kernel
theorem dX8_trick_17 : decode cX8_trick 17 = .ok (.ifCond .eq 7, 3) := by decide +kernel
theorem dX8_trick_20 : decode cX8_trick 20 = .ok (.iconst 1, 1) := by decide +kernel
theorem dX8_trick_21 : decode cX8_trick 21 = .ok (.goto 4, 3) := by decide +kernel
theorem dX8_trick_24 : decode cX8_trick 24 = .ok (.iconst 0, 1) := by decide +kernel
theorem dX8_trick_25 : decode cX8_trick 25 = .ok (.istore 5, 2) := by decide +kernel
theorem dX8_trick_27 : decode cX8_trick 27 = .ok (.iload 5, 2) := by decide +kernel
theorem dX8_trick_29 : decode cX8_trick 29 = .ok (.ifCond .eq 24, 3) := by decide +kernel
theorem dX8_trick_32 : decode cX8_trick 32 = .ok (.iload_n 2, 1) := by decide +kernel
theorem dX8_trick_33 : decode cX8_trick 33 = .ok (.iconst 1, 1) := by decide +kernel
theorem dX8_trick_34 : decode cX8_trick 34 = .ok (.bipush 60, 2) := by decide +kernel
theorem dX8_trick_36 : decode cX8_trick 36 = .ok (.invokestatic 60, 3) := by decide +kernel
theorem dX8_trick_39 : decode cX8_trick 39 = .ok (.ifCond .eq 14, 3) := by decide +kernel
theorem dX8_trick_42 : decode cX8_trick 42 = .ok (.iload 4, 2) := by decide +kernel
theorem dX8_trick_44 : decode cX8_trick 44 = .ok (.iconst 1, 1) := by decide +kernel
theorem dX8_trick_45 : decode cX8_trick 45 = .ok (.bipush 9, 2) := by decide +kernel
theorem dX8_trick_47 : decode cX8_trick 47 = .ok (.invokestatic 60, 3) := by decide +kernel
theorem dX8_trick_50 : decode cX8_trick 50 = .ok (.ifCond .ne 5, 3) := by decide +kernel
theorem dX8_trick_53 : decode cX8_trick 53 = .ok (.iconst (-1), 1) := by decide +kernel
theorem dX8_trick_54 : decode cX8_trick 54 = .ok (.ireturn, 1) := by decide +kernel
theorem dX8_trick_55 : decode cX8_trick 55 = .ok (.aload_n 0, 1) := by decide +kernel
theorem dX8_trick_56 : decode cX8_trick 56 = .ok (.getfield 10, 3) := by decide +kernel
theorem dX8_trick_59 : decode cX8_trick 59 = .ok (.getfield 186, 3) := by decide +kernel
theorem dX8_trick_62 : decode cX8_trick 62 = .ok (.invokevirtual 78, 3) := by decide +kernel
theorem dX8_trick_65 : decode cX8_trick 65 = .ok (.ifCond .eq 6, 3) := by decide +kernel
theorem dX8_trick_68 : decode cX8_trick 68 = .ok (.bipush (-3), 2) := by decide +kernel
theorem dX8_trick_70 : decode cX8_trick 70 = .ok (.ireturn, 1) := by decide +kernel
theorem dX8_trick_71 : decode cX8_trick 71 = .ok (.aload_n 0, 1) := by decide +kernel
theorem dX8_trick_72 : decode cX8_trick 72 = .ok (.getfield 10, 3) := by decide +kernel
theorem dX8_trick_75 : decode cX8_trick 75 = .ok (.getfield 186, 3) := by decide +kernel
theorem dX8_trick_78 : decode cX8_trick 78 = .ok (.invokevirtual 234, 3) := by decide +kernel
theorem dX8_trick_81 : decode cX8_trick 81 = .ok (.istore 6, 2) := by decide +kernel
theorem dX8_trick_83 : decode cX8_trick 83 = .ok (.aload_n 0, 1) := by decide +kernel
theorem dX8_trick_84 : decode cX8_trick 84 = .ok (.getfield 10, 3) := by decide +kernel
theorem dX8_trick_87 : decode cX8_trick 87 = .ok (.getfield 186, 3) := by decide +kernel
theorem dX8_trick_90 : decode cX8_trick 90 = .ok (.iload 6, 2) := by decide +kernel
theorem dX8_trick_92 : decode cX8_trick 92 = .ok (.iconst 0, 1) := by decide +kernel
theorem dX8_trick_93 : decode cX8_trick 93 = .ok (.iload_n 1, 1) := by decide +kernel
theorem dX8_trick_94 : decode cX8_trick 94 = .ok (.invokevirtual 237, 3) := by decide +kernel
theorem dX8_trick_97 : decode cX8_trick 97 = .ok (.aload_n 0, 1) := by decide +kernel
theorem dX8_trick_98 : decode cX8_trick 98 = .ok (.getfield 10, 3) := by decide +kernel
theorem dX8_trick_101 : decode cX8_trick 101 = .ok (.getfield 186, 3) := by decide +kernel
theorem dX8_trick_104 : decode cX8_trick 104 = .ok (.iload 6, 2) := by decide +kernel
theorem dX8_trick_106 : decode cX8_trick 106 = .ok (.iconst 1, 1) := by decide +kernel
theorem dX8_trick_107 : decode cX8_trick 107 = .ok (.iload_n 2, 1) := by decide +kernel
theorem dX8_trick_108 : decode cX8_trick 108 = .ok (.invokevirtual 237, 3) := by decide +kernel
theorem dX8_trick_111 : decode cX8_trick 111 = .ok (.aload_n 0, 1) := by decide +kernel
theorem dX8_trick_112 : decode cX8_trick 112 = .ok (.getfield 10, 3) := by decide +kernel
theorem dX8_trick_115 : decode cX8_trick 115 = .ok (.getfield 186, 3) := by decide +kernel
theorem dX8_trick_118 : decode cX8_trick 118 = .ok (.iload 6, 2) := by decide +kernel
theorem dX8_trick_120 : decode cX8_trick 120 = .ok (.iconst 2, 1) := by decide +kernel
theorem dX8_trick_121 : decode cX8_trick 121 = .ok (.iload_n 1, 1) := by decide +kernel
theorem dX8_trick_122 : decode cX8_trick 122 = .ok (.iload_n 3, 1) := by decide +kernel
theorem dX8_trick_123 : decode cX8_trick 123 = .ok (.imul, 1) := by decide +kernel
theorem dX8_trick_124 : decode cX8_trick 124 = .ok (.invokevirtual 237, 3) := by decide +kernel
theorem dX8_trick_127 : decode cX8_trick 127 = .ok (.aload_n 0, 1) := by decide +kernel
theorem dX8_trick_128 : decode cX8_trick 128 = .ok (.getfield 10, 3) := by decide +kernel
theorem dX8_trick_131 : decode cX8_trick 131 = .ok (.getfield 186, 3) := by decide +kernel
theorem dX8_trick_134 : decode cX8_trick 134 = .ok (.iload 6, 2) := by decide +kernel
theorem dX8_trick_136 : decode cX8_trick 136 = .ok (.iconst 3, 1) := by decide +kernel
theorem dX8_trick_137 : decode cX8_trick 137 = .ok (.iload 4, 2) := by decide +kernel
theorem dX8_trick_139 : decode cX8_trick 139 = .ok (.invokevirtual 237, 3) := by decide +kernel
theorem dX8_trick_142 : decode cX8_trick 142 = .ok (.iload 6, 2) := by decide +kernel
theorem dX8_trick_144 : decode cX8_trick 144 = .ok (.ireturn, 1) := by decide +kernel
theorem dX8_most_0 : decode cX8_most 0 = .ok (.iload_n 1, 1) := by decide +kernel
theorem dX8_most_1 : decode cX8_most 1 = .ok (.iconst 0, 1) := by decide +kernel
theorem dX8_most_2 : decode cX8_most 2 = .ok (.sipush 180, 3) := by decide +kernel
theorem dX8_most_5 : decode cX8_most 5 = .ok (.invokestatic 60, 3) := by decide +kernel
theorem dX8_most_8 : decode cX8_most 8 = .ok (.ifCond .eq 22, 3) := by decide +kernel
theorem dX8_most_11 : decode cX8_most 11 = .ok (.iload_n 2, 1) := by decide +kernel
theorem dX8_most_12 : decode cX8_most 12 = .ok (.iconst (-1), 1) := by decide +kernel
theorem dX8_most_13 : decode cX8_most 13 = .ok (.if_icmp .eq 19, 3) := by decide +kernel
theorem dX8_most_16 : decode cX8_most 16 = .ok (.aload_n 0, 1) := by decide +kernel
theorem dX8_most_17 : decode cX8_most 17 = .ok (.getfield 10, 3) := by decide +kernel
theorem dX8_most_20 : decode cX8_most 20 = .ok (.getfield 186, 3) := by decide +kernel
theorem dX8_most_23 : decode cX8_most 23 = .ok (.iload_n 2, 1) := by decide +kernel
theorem dX8_most_24 : decode cX8_most 24 = .ok (.invokevirtual 88, 3) := by decide +kernel
theorem dX8_most_27 : decode cX8_most 27 = .ok (.ifCond .ne 5, 3) := by decide +kernel
theorem dX8_most_30 : decode cX8_most 30 = .ok (.iconst (-1), 1) := by decide +kernel
theorem dX8_most_31 : decode cX8_most 31 = .ok (.ireturn, 1) := by decide +kernel
theorem dX8_most_32 : decode cX8_most 32 = .ok (.aload_n 0, 1) := by decide +kernel
theorem dX8_most_33 : decode cX8_most 33 = .ok (.getfield 42, 3) := by decide +kernel
theorem dX8_most_36 : decode cX8_most 36 = .ok (.aload_n 0, 1) := by decide +kernel
theorem dX8_most_37 : decode cX8_most 37 = .ok (.getfield 10, 3) := by decide +kernel
theorem dX8_most_40 : decode cX8_most 40 = .ok (.getfield 186, 3) := by decide +kernel
theorem dX8_most_43 : decode cX8_most 43 = .ok (.iload_n 1, 1) := by decide +kernel
theorem dX8_most_44 : decode cX8_most 44 = .ok (.invokevirtual 241, 3) := by decide +kernel
theorem dX8_most_47 : decode cX8_most 47 = .ok (.iload_n 2, 1) := by decide +kernel
theorem dX8_most_48 : decode cX8_most 48 = .ok (.iconst (-1), 1) := by decide +kernel
theorem dX8_most_49 : decode cX8_most 49 = .ok (.if_icmp .ne 14, 3) := by decide +kernel
theorem dX8_most_52 : decode cX8_most 52 = .ok (.aload_n 0, 1) := by decide +kernel
theorem dX8_most_53 : decode cX8_most 53 = .ok (.getfield 42, 3) := by decide +kernel
theorem dX8_most_56 : decode cX8_most 56 = .ok (.iload_n 1, 1) := by decide +kernel
theorem dX8_most_57 : decode cX8_most 57 = .ok (.invokevirtual 245, 3) := by decide +kernel
theorem dX8_most_60 : decode cX8_most 60 = .ok (.goto 19, 3) := by decide +kernel
theorem dX8_most_63 : decode cX8_most 63 = .ok (.aload_n 0, 1) := by decide +kernel
theorem dX8_most_64 : decode cX8_most 64 = .ok (.getfield 42, 3) := by decide +kernel
theorem dX8_most_67 : decode cX8_most 67 = .ok (.aload_n 0, 1) := by decide +kernel
theorem dX8_most_68 : decode cX8_most 68 = .ok (.getfield 10, 3) := by decide +kernel
theorem dX8_most_71 : decode cX8_most 71 = .ok (.getfield 186, 3) := by decide +kernel
theorem dX8_most_74 : decode cX8_most 74 = .ok (.iload_n 1, 1) := by decide +kernel
theorem dX8_most_75 : decode cX8_most 75 = .ok (.iload_n 2, 1) := by decide +kernel
theorem dX8_most_76 : decode cX8_most 76 = .ok (.invokevirtual 248, 3) := by decide +kernel
theorem dX8_most_79 : decode cX8_most 79 = .ok (.ireturn, 1) := by decide +kernel
theorem dX8_row_0 : decode cX8_row 0 = .ok (.aload_n 0, 1) := by decide +kernel
theorem dX8_row_1 : decode cX8_row 1 = .ok (.getfield 10, 3) := by decide +kernel
theorem dX8_row_4 : decode cX8_row 4 = .ok (.getfield 186, 3) := by decide +kernel
theorem dX8_row_7 : decode cX8_row 7 = .ok (.iload_n 1, 1) := by decide +kernel
theorem dX8_row_8 : decode cX8_row 8 = .ok (.invokevirtual 88, 3) := by decide +kernel
theorem dX8_row_11 : decode cX8_row 11 = .ok (.ifCond .eq 13, 3) := by decide +kernel
theorem dX8_row_14 : decode cX8_row 14 = .ok (.iload_n 2, 1) := by decide +kernel
theorem dX8_row_15 : decode cX8_row 15 = .ok (.iconst 1, 1) := by decide +kernel
theorem dX8_row_16 : decode cX8_row 16 = .ok (.bipush 99, 2) := by decide +kernel
theorem dX8_row_18 : decode cX8_row 18 = .ok (.invokestatic 60, 3) := by decide +kernel
theorem dX8_row_21 : decode cX8_row 21 = .ok (.ifCond .ne 5, 3) := by decide +kernel
theorem dX8_row_24 : decode cX8_row 24 = .ok (.iconst (-1), 1) := by decide +kernel
theorem dX8_row_25 : decode cX8_row 25 = .ok (.ireturn, 1) := by decide +kernel
theorem dX8_row_26 : decode cX8_row 26 = .ok (.sipush 1000, 3) := by decide +kernel
theorem dX8_row_29 : decode cX8_row 29 = .ok (.istore_n 3, 1) := by decide +kernel
theorem dX8_row_30 : decode cX8_row 30 = .ok (.iconst 0, 1) := by decide +kernel
theorem dX8_row_31 : decode cX8_row 31 = .ok (.istore 4, 2) := by decide +kernel
theorem dX8_row_33 : decode cX8_row 33 = .ok (.iload 4, 2) := by decide +kernel
theorem dX8_row_35 : decode cX8_row 35 = .ok (.iload_n 2, 1) := by decide +kernel
theorem dX8_row_36 : decode cX8_row 36 = .ok (.if_icmp .ge 27, 3) := by decide +kernel
theorem dX8_row_39 : decode cX8_row 39 = .ok (.iload_n 3, 1) := by decide +kernel
theorem dX8_row_40 : decode cX8_row 40 = .ok (.aload_n 0, 1) := by decide +kernel
theorem dX8_row_41 : decode cX8_row 41 = .ok (.getfield 10, 3) := by decide +kernel
theorem dX8_row_44 : decode cX8_row 44 = .ok (.getfield 186, 3) := by decide +kernel
theorem dX8_row_47 : decode cX8_row 47 = .ok (.iload_n 1, 1) := by decide +kernel
theorem dX8_row_48 : decode cX8_row 48 = .ok (.iconst 0, 1) := by decide +kernel
theorem dX8_row_49 : decode cX8_row 49 = .ok (.invokevirtual 93, 3) := by decide +kernel
theorem dX8_row_52 : decode cX8_row 52 = .ok (.imul, 1) := by decide +kernel
theorem dX8_row_53 : decode cX8_row 53 = .ok (.bipush 16, 2) := by decide +kernel
theorem dX8_row_55 : decode cX8_row 55 = .ok (.idiv, 1) := by decide +kernel
theorem dX8_row_56 : decode cX8_row 56 = .ok (.istore_n 3, 1) := by decide +kernel
theorem dX8_row_57 : decode cX8_row 57 = .ok (.iinc 4 1, 3) := by decide +kernel
theorem dX8_row_60 : decode cX8_row 60 = .ok (.goto (-27), 3) := by decide +kernel
theorem dX8_row_63 : decode cX8_row 63 = .ok (.iload_n 3, 1) := by decide +kernel
theorem dX8_row_64 : decode cX8_row 64 = .ok (.ireturn, 1) := by decide +kernel
theorem dX8_clear_0 : decode cX8_clear 0 = .ok (.aload_n 0, 1) := by decide +kernel
theorem dX8_clear_1 : decode cX8_clear 1 = .ok (.getfield 10, 3) := by decide +kernel
theorem dX8_clear_4 : decode cX8_clear 4 = .ok (.getfield 186, 3) := by decide +kernel
theorem dX8_clear_7 : decode cX8_clear 7 = .ok (.invokevirtual 104, 3) := by decide +kernel
theorem dX8_clear_10 : decode cX8_clear 10 = .ok (.ireturn, 1) := by decide +kernel
theorem dX8_cord_0 : decode cX8_cord 0 = .ok (.aload_n 0, 1) := by decide +kernel
theorem dX8_cord_1 : decode cX8_cord 1 = .ok (.getfield 10, 3) := by decide +kernel
theorem dX8_cord_4 : decode cX8_cord 4 = .ok (.getfield 74, 3) := by decide +kernel
theorem dX8_cord_7 : decode cX8_cord 7 = .ok (.iload_n 1, 1) := by decide +kernel
theorem dX8_cord_8 : decode cX8_cord 8 = .ok (.invokevirtual 88, 3) := by decide +kernel
theorem dX8_cord_11 : decode cX8_cord 11 = .ok (.ifCond .eq 12, 3) := by decide +kernel
theorem dX8_cord_14 : decode cX8_cord 14 = .ok (.iload_n 2, 1) := by decide +kernel
theorem dX8_cord_15 : decode cX8_cord 15 = .ok (.iconst 0, 1) := by decide +kernel
theorem dX8_cord_16 : decode cX8_cord 16 = .ok (.iconst 1, 1) := by decide +kernel
theorem dX8_cord_17 : decode cX8_cord 17 = .ok (.invokestatic 60, 3) := by decide +kernel
theorem dX8_cord_20 : decode cX8_cord 20 = .ok (.ifCond .ne 5, 3) := by decide +kernel
theorem dX8_cord_23 : decode cX8_cord 23 = .ok (.iconst (-1), 1) := by decide +kernel
theorem dX8_cord_24 : decode cX8_cord 24 = .ok (.ireturn, 1) := by decide +kernel
theorem dX8_cord_25 : decode cX8_cord 25 = .ok (.aload_n 0, 1) := by decide +kernel
theorem dX8_cord_26 : decode cX8_cord 26 = .ok (.getfield 10, 3) := by decide +kernel
theorem dX8_cord_29 : decode cX8_cord 29 = .ok (.invokevirtual 189, 3) := by decide +kernel
theorem dX8_cord_32 : decode cX8_cord 32 = .ok (.ifCond .eq 6, 3) := by decide +kernel
theorem dX8_cord_35 : decode cX8_cord 35 = .ok (.bipush (-2), 2) := by decide +kernel
theorem dX8_cord_37 : decode cX8_cord 37 = .ok (.ireturn, 1) := by decide +kernel
theorem dX8_cord_38 : decode cX8_cord 38 = .ok (.getstatic 64, 3) := by decide +kernel
theorem dX8_cord_41 : decode cX8_cord 41 = .ok (.iconst 0, 1) := by decide +kernel
theorem dX8_cord_42 : decode cX8_cord 42 = .ok (.iaload, 1) := by decide +kernel
theorem dX8_cord_43 : decode cX8_cord 43 = .ok (.istore_n 3, 1) := by decide +kernel
theorem dX8_cord_44 : decode cX8_cord 44 = .ok (.iconst (-1), 1) := by decide +kernel
theorem dX8_cord_45 : decode cX8_cord 45 = .ok (.istore 4, 2) := by decide +kernel
theorem dX8_cord_47 : decode cX8_cord 47 = .ok (.getstatic 64, 3) := by decide +kernel
theorem dX8_cord_50 : decode cX8_cord 50 = .ok (.iconst 0, 1) := by decide +kernel
theorem dX8_cord_51 : decode cX8_cord 51 = .ok (.iaload, 1) := by decide +kernel
theorem dX8_cord_52 : decode cX8_cord 52 = .ok (.istore 5, 2) := by decide +kernel
theorem dX8_cord_54 : decode cX8_cord 54 = .ok (.iload 5, 2) := by decide +kernel
theorem dX8_cord_56 : decode cX8_cord 56 = .ok (.getstatic 68, 3) := by decide +kernel
theorem dX8_cord_59 : decode cX8_cord 59 = .ok (.iconst 0, 1) := by decide +kernel
theorem dX8_cord_60 : decode cX8_cord 60 = .ok (.iaload, 1) := by decide +kernel
theorem dX8_cord_61 : decode cX8_cord 61 = .ok (.if_icmp .gt 35, 3) := by decide +kernel
theorem dX8_cord_64 : decode cX8_cord 64 = .ok (.aload_n 0, 1) := by decide +kernel
theorem dX8_cord_65 : decode cX8_cord 65 = .ok (.getfield 28, 3) := by decide +kernel
theorem dX8_cord_68 : decode cX8_cord 68 = .ok (.iload 5, 2) := by decide +kernel
theorem dX8_cord_70 : decode cX8_cord 70 = .ok (.iload_n 1, 1) := by decide +kernel
theorem dX8_cord_71 : decode cX8_cord 71 = .ok (.invokevirtual 231, 3) := by decide +kernel
theorem dX8_cord_74 : decode cX8_cord 74 = .ok (.istore 6, 2) := by decide +kernel
theorem dX8_cord_76 : decode cX8_cord 76 = .ok (.iload 6, 2) := by decide +kernel
theorem dX8_cord_78 : decode cX8_cord 78 = .ok (.iload 4, 2) := by decide +kernel
theorem dX8_cord_80 : decode cX8_cord 80 = .ok (.if_icmp .le 10, 3) := by decide +kernel
theorem dX8_cord_83 : decode cX8_cord 83 = .ok (.iload 6, 2) := by decide +kernel
theorem dX8_cord_85 : decode cX8_cord 85 = .ok (.istore 4, 2) := by decide +kernel
theorem dX8_cord_87 : decode cX8_cord 87 = .ok (.iload 5, 2) := by decide +kernel
theorem dX8_cord_89 : decode cX8_cord 89 = .ok (.istore_n 3, 1) := by decide +kernel
theorem dX8_cord_90 : decode cX8_cord 90 = .ok (.iinc 5 1, 3) := by decide +kernel
theorem dX8_cord_93 : decode cX8_cord 93 = .ok (.goto (-39), 3) := by decide +kernel
theorem dX8_cord_96 : decode cX8_cord 96 = .ok (.iload_n 2, 1) := by decide +kernel
theorem dX8_cord_97 : decode cX8_cord 97 = .ok (.ifCond .ne 7, 3) := by decide +kernel
theorem dX8_cord_100 : decode cX8_cord 100 = .ok (.iload_n 3, 1) := by decide +kernel
theorem dX8_cord_101 : decode cX8_cord 101 = .ok (.goto 5, 3) := by decide +kernel
theorem dX8_cord_104 : decode cX8_cord 104 = .ok (.iload 4, 2) := by decide +kernel
theorem dX8_cord_106 : decode cX8_cord 106 = .ok (.ireturn, 1) := by decide +kernel
theorem dX8_down_0 : decode cX8_down 0 = .ok (.iload_n 1, 1) := by decide +kernel
theorem dX8_down_1 : decode cX8_down 1 = .ok (.iconst 0, 1) := by decide +kernel
theorem dX8_down_2 : decode cX8_down 2 = .ok (.bipush 99, 2) := by decide +kernel
theorem dX8_down_4 : decode cX8_down 4 = .ok (.invokestatic 60, 3) := by decide +kernel
theorem dX8_down_7 : decode cX8_down 7 = .ok (.ifCond .eq 13, 3) := by decide +kernel
theorem dX8_down_10 : decode cX8_down 10 = .ok (.iload_n 2, 1) := by decide +kernel
theorem dX8_down_11 : decode cX8_down 11 = .ok (.iconst 0, 1) := by decide +kernel
theorem dX8_down_12 : decode cX8_down 12 = .ok (.bipush 99, 2) := by decide +kernel
theorem dX8_down_14 : decode cX8_down 14 = .ok (.invokestatic 60, 3) := by decide +kernel
theorem dX8_down_17 : decode cX8_down 17 = .ok (.ifCond .ne 5, 3) := by decide +kernel
theorem dX8_down_20 : decode cX8_down 20 = .ok (.iconst (-1), 1) := by decide +kernel
theorem dX8_down_21 : decode cX8_down 21 = .ok (.ireturn, 1) := by decide +kernel
theorem dX8_down_22 : decode cX8_down 22 = .ok (.aload_n 0, 1) := by decide +kernel
theorem dX8_down_23 : decode cX8_down 23 = .ok (.getfield 28, 3) := by decide +kernel
theorem dX8_down_26 : decode cX8_down 26 = .ok (.invokevirtual 135, 3) := by decide +kernel
theorem dX8_down_29 : decode cX8_down 29 = .ok (.aload_n 0, 1) := by decide +kernel
theorem dX8_down_30 : decode cX8_down 30 = .ok (.getfield 28, 3) := by decide +kernel
theorem dX8_down_33 : decode cX8_down 33 = .ok (.invokevirtual 252, 3) := by decide +kernel
theorem dX8_down_36 : decode cX8_down 36 = .ok (.iconst 0, 1) := by decide +kernel
theorem dX8_down_37 : decode cX8_down 37 = .ok (.istore_n 3, 1) := by decide +kernel
theorem dX8_down_38 : decode cX8_down 38 = .ok (.iload_n 3, 1) := by decide +kernel
theorem dX8_down_39 : decode cX8_down 39 = .ok (.bipush 100, 2) := by decide +kernel
theorem dX8_down_41 : decode cX8_down 41 = .ok (.if_icmp .ge 37, 3) := by decide +kernel
theorem dX8_down_44 : decode cX8_down 44 = .ok (.aload_n 0, 1) := by decide +kernel
theorem dX8_down_45 : decode cX8_down 45 = .ok (.getfield 28, 3) := by decide +kernel
theorem dX8_down_48 : decode cX8_down 48 = .ok (.iload_n 3, 1) := by decide +kernel
theorem dX8_down_49 : decode cX8_down 49 = .ok (.iconst 1, 1) := by decide +kernel
theorem dX8_down_50 : decode cX8_down 50 = .ok (.iadd, 1) := by decide +kernel
theorem dX8_down_51 : decode cX8_down 51 = .ok (.invokevirtual 138, 3) := by decide +kernel
theorem dX8_down_54 : decode cX8_down 54 = .ok (.iload_n 3, 1) := by decide +kernel
theorem dX8_down_55 : decode cX8_down 55 = .ok (.iload_n 1, 1) := by decide +kernel
theorem dX8_down_56 : decode cX8_down 56 = .ok (.if_icmp .lt 16, 3) := by decide +kernel
theorem dX8_down_59 : decode cX8_down 59 = .ok (.aload_n 0, 1) := by decide +kernel
theorem dX8_down_60 : decode cX8_down 60 = .ok (.getfield 28, 3) := by decide +kernel
theorem dX8_down_63 : decode cX8_down 63 = .ok (.iload_n 2, 1) := by decide +kernel
theorem dX8_down_64 : decode cX8_down 64 = .ok (.invokevirtual 255, 3) := by decide +kernel
theorem dX8_down_67 : decode cX8_down 67 = .ok (.ifCond .eq 5, 3) := by decide +kernel
theorem dX8_down_70 : decode cX8_down 70 = .ok (.iload_n 3, 1) := by decide +kernel
theorem dX8_down_71 : decode cX8_down 71 = .ok (.ireturn, 1) := by decide +kernel
theorem dX8_down_72 : decode cX8_down 72 = .ok (.iinc 3 1, 3) := by decide +kernel
theorem dX8_down_75 : decode cX8_down 75 = .ok (.goto (-37), 3) := by decide +kernel
theorem dX8_down_78 : decode cX8_down 78 = .ok (.bipush (-4), 2) := by decide +kernel
theorem dX8_down_80 : decode cX8_down 80 = .ok (.ireturn, 1) := by decide +kernel
theorem dX8_filmed_0 : decode cX8_filmed 0 = .ok (.iload_n 1, 1) := by decide +kernel
theorem dX8_filmed_1 : decode cX8_filmed 1 = .ok (.iload_n 2, 1) := by decide +kernel
theorem dX8_filmed_2 : decode cX8_filmed 2 = .ok (.invokestatic 258, 3) := by decide +kernel
theorem dX8_filmed_5 : decode cX8_filmed 5 = .ok (.ifCond .eq 24, 3) := by decide +kernel
theorem dX8_filmed_8 : decode cX8_filmed 8 = .ok (.iload 4, 2) := by decide +kernel
theorem dX8_filmed_10 : decode cX8_filmed 10 = .ok (.iconst 1, 1) := by decide +kernel
theorem dX8_filmed_11 : decode cX8_filmed 11 = .ok (.bipush 12, 2) := by decide +kernel
theorem dX8_filmed_13 : decode cX8_filmed 13 = .ok (.invokestatic 60, 3) := by decide +kernel
theorem dX8_filmed_16 : decode cX8_filmed 16 = .ok (.ifCond .eq 13, 3) := by decide +kernel
theorem dX8_filmed_19 : decode cX8_filmed 19 = .ok (.iload 5, 2) := by decide +kernel
theorem dX8_filmed_21 : decode cX8_filmed 21 = .ok (.iconst 0, 1) := by decide +kernel
theorem dX8_filmed_22 : decode cX8_filmed 22 = .ok (.iconst 2, 1) := by decide +kernel
theorem dX8_filmed_23 : decode cX8_filmed 23 = .ok (.invokestatic 60, 3) := by decide +kernel
theorem dX8_filmed_26 : decode cX8_filmed 26 = .ok (.ifCond .ne 6, 3) := by decide +kernel
theorem dX8_filmed_29 : decode cX8_filmed 29 = .ok (.ldc 92, 2) := by decide +kernel
theorem dX8_filmed_31 : decode cX8_filmed 31 = .ok (.ireturn, 1) := by decide +kernel
theorem dX8_filmed_32 : decode cX8_filmed 32 = .ok (.aload_n 0, 1) := by decide +kernel
theorem dX8_filmed_33 : decode cX8_filmed 33 = .ok (.getfield 56, 3) := by decide +kernel
theorem dX8_filmed_36 : decode cX8_filmed 36 = .ok (.iload_n 1, 1) := by decide +kernel
theorem dX8_filmed_37 : decode cX8_filmed 37 = .ok (.iload_n 2, 1) := by decide +kernel
theorem dX8_filmed_38 : decode cX8_filmed 38 = .ok (.iload_n 3, 1) := by decide +kernel
theorem dX8_filmed_39 : decode cX8_filmed 39 = .ok (.iconst 2, 1) := by decide +kernel
theorem dX8_filmed_40 : decode cX8_filmed 40 = .ok (.iload 4, 2) := by decide +kernel
theorem dX8_filmed_42 : decode cX8_filmed 42 = .ok (.imul, 1) := by decide +kernel
theorem dX8_filmed_43 : decode cX8_filmed 43 = .ok (.invokevirtual 262, 3) := by decide +kernel
theorem dX8_filmed_46 : decode cX8_filmed 46 = .ok (.istore 6, 2) := by decide +kernel
theorem dX8_filmed_48 : decode cX8_filmed 48 = .ok (.iload 6, 2) := by decide +kernel
theorem dX8_filmed_50 : decode cX8_filmed 50 = .ok (.ifCond .eq 10, 3) := by decide +kernel
theorem dX8_filmed_53 : decode cX8_filmed 53 = .ok (.iload 6, 2) := by decide +kernel
theorem dX8_filmed_55 : decode cX8_filmed 55 = .ok (.ldc_w 265, 3) := by decide +kernel
theorem dX8_filmed_58 : decode cX8_filmed 58 = .ok (.isub, 1) := by decide +kernel
theorem dX8_filmed_59 : decode cX8_filmed 59 = .ok (.ireturn, 1) := by decide +kernel
theorem dX8_filmed_60 : decode cX8_filmed 60 = .ok (.aload_n 0, 1) := by decide +kernel
theorem dX8_filmed_61 : decode cX8_filmed 61 = .ok (.getfield 10, 3) := by decide +kernel
theorem dX8_filmed_64 : decode cX8_filmed 64 = .ok (.invokevirtual 189, 3) := by decide +kernel
theorem dX8_filmed_67 : decode cX8_filmed 67 = .ok (.ifCond .eq 6, 3) := by decide +kernel
theorem dX8_filmed_70 : decode cX8_filmed 70 = .ok (.ldc 213, 2) := by decide +kernel
theorem dX8_filmed_72 : decode cX8_filmed 72 = .ok (.ireturn, 1) := by decide +kernel
theorem dX8_filmed_73 : decode cX8_filmed 73 = .ok (.iconst (-1), 1) := by decide +kernel
theorem dX8_filmed_74 : decode cX8_filmed 74 = .ok (.istore 7, 2) := by decide +kernel
theorem dX8_filmed_76 : decode cX8_filmed 76 = .ok (.iconst 0, 1) := by decide +kernel
theorem dX8_filmed_77 : decode cX8_filmed 77 = .ok (.istore 8, 2) := by decide +kernel
theorem dX8_filmed_79 : decode cX8_filmed 79 = .ok (.iconst 0, 1) := by decide +kernel
theorem dX8_filmed_80 : decode cX8_filmed 80 = .ok (.istore 9, 2) := by decide +kernel
theorem dX8_filmed_82 : decode cX8_filmed 82 = .ok (.iload 9, 2) := by decide +kernel
theorem dX8_filmed_84 : decode cX8_filmed 84 = .ok (.bipush 90, 2) := by decide +kernel
theorem dX8_filmed_86 : decode cX8_filmed 86 = .ok (.if_icmp .ge 39, 3) := by decide +kernel
theorem dX8_filmed_89 : decode cX8_filmed 89 = .ok (.aload_n 0, 1) := by decide +kernel
theorem dX8_filmed_90 : decode cX8_filmed 90 = .ok (.iload 9, 2) := by decide +kernel
theorem dX8_filmed_92 : decode cX8_filmed 92 = .ok (.iload_n 1, 1) := by decide +kernel
theorem dX8_filmed_93 : decode cX8_filmed 93 = .ok (.iload_n 3, 1) := by decide +kernel
theorem dX8_filmed_94 : decode cX8_filmed 94 = .ok (.iload 4, 2) := by decide +kernel
theorem dX8_filmed_96 : decode cX8_filmed 96 = .ok (.invokevirtual 266, 3) := by decide +kernel
theorem dX8_filmed_99 : decode cX8_filmed 99 = .ok (.ifCond .eq 20, 3) := by decide +kernel
theorem dX8_filmed_102 : decode cX8_filmed 102 = .ok (.iload 8, 2) := by decide +kernel
theorem dX8_filmed_104 : decode cX8_filmed 104 = .ok (.ifCond .ne 8, 3) := by decide +kernel
theorem dX8_filmed_107 : decode cX8_filmed 107 = .ok (.iload 9, 2) := by decide +kernel
theorem dX8_filmed_109 : decode cX8_filmed 109 = .ok (.goto 5, 3) := by decide +kernel
theorem dX8_filmed_112 : decode cX8_filmed 112 = .ok (.iload 7, 2) := by decide +kernel
theorem dX8_filmed_114 : decode cX8_filmed 114 = .ok (.istore 7, 2) := by decide +kernel
theorem dX8_filmed_116 : decode cX8_filmed 116 = .ok (.iinc 8 1, 3) := by decide +kernel
theorem dX8_filmed_119 : decode cX8_filmed 119 = .ok (.iinc 9 1, 3) := by decide +kernel
theorem dX8_filmed_122 : decode cX8_filmed 122 = .ok (.goto (-40), 3) := by decide +kernel
theorem dX8_filmed_125 : decode cX8_filmed 125 = .ok (.iload 5, 2) := by decide +kernel
theorem dX8_filmed_127 : decode cX8_filmed 127 = .ok (.ifCond .ne 6, 3) := by decide +kernel
theorem dX8_filmed_130 : decode cX8_filmed 130 = .ok (.iload 8, 2) := by decide +kernel
theorem dX8_filmed_132 : decode cX8_filmed 132 = .ok (.ireturn, 1) := by decide +kernel
theorem dX8_filmed_133 : decode cX8_filmed 133 = .ok (.iload 8, 2) := by decide +kernel
theorem dX8_filmed_135 : decode cX8_filmed 135 = .ok (.ifCond .ne 6, 3) := by decide +kernel
theorem dX8_filmed_138 : decode cX8_filmed 138 = .ok (.ldc 217, 2) := by decide +kernel
theorem dX8_filmed_140 : decode cX8_filmed 140 = .ok (.ireturn, 1) := by decide +kernel
theorem dX8_filmed_141 : decode cX8_filmed 141 = .ok (.iload 5, 2) := by decide +kernel
theorem dX8_filmed_143 : decode cX8_filmed 143 = .ok (.iconst 1, 1) := by decide +kernel
theorem dX8_filmed_144 : decode cX8_filmed 144 = .ok (.if_icmp .ne 11, 3) := by decide +kernel
theorem dX8_filmed_147 : decode cX8_filmed 147 = .ok (.iload 7, 2) := by decide +kernel
theorem dX8_filmed_149 : decode cX8_filmed 149 = .ok (.invokestatic 218, 3) := by decide +kernel
theorem dX8_filmed_152 : decode cX8_filmed 152 = .ok (.goto 8, 3) := by decide +kernel
theorem dX8_filmed_155 : decode cX8_filmed 155 = .ok (.iload 7, 2) := by decide +kernel
theorem dX8_filmed_157 : decode cX8_filmed 157 = .ok (.invokestatic 221, 3) := by decide +kernel
theorem dX8_filmed_160 : decode cX8_filmed 160 = .ok (.ireturn, 1) := by decide +kernel
theorem dX8_image_0 : decode cX8_image 0 = .ok (.aload_n 0, 1) := by decide +kernel
theorem dX8_image_1 : decode cX8_image 1 = .ok (.getfield 16, 3) := by decide +kernel
theorem dX8_image_4 : decode cX8_image 4 = .ok (.aload_n 0, 1) := by decide +kernel
theorem dX8_image_5 : decode cX8_image 5 = .ok (.getfield 10, 3) := by decide +kernel
theorem dX8_image_8 : decode cX8_image 8 = .ok (.invokevirtual 270, 3) := by decide +kernel
theorem dX8_image_11 : decode cX8_image 11 = .ok (.aload_n 0, 1) := by decide +kernel
theorem dX8_image_12 : decode cX8_image 12 = .ok (.iconst 1, 1) := by decide +kernel
theorem dX8_image_13 : decode cX8_image 13 = .ok (.putfield 19, 3) := by decide +kernel
theorem dX8_image_16 : decode cX8_image 16 = .ok (.iconst 1, 1) := by decide +kernel
theorem dX8_image_17 : decode cX8_image 17 = .ok (.ireturn, 1) := by decide +kernel
theorem dX8_restore_0 : decode cX8_restore 0 = .ok (.aload_n 0, 1) := by decide +kernel
theorem dX8_restore_1 : decode cX8_restore 1 = .ok (.getfield 19, 3) := by decide +kernel
theorem dX8_restore_4 : decode cX8_restore 4 = .ok (.ifCond .ne 6, 3) := by decide +kernel
theorem dX8_restore_7 : decode cX8_restore 7 = .ok (.bipush (-4), 2) := by decide +kernel
theorem dX8_restore_9 : decode cX8_restore 9 = .ok (.ireturn, 1) := by decide +kernel
theorem dX8_restore_10 : decode cX8_restore 10 = .ok (.aload_n 0, 1) := by decide +kernel
theorem dX8_restore_11 : decode cX8_restore 11 = .ok (.getfield 10, 3) := by decide +kernel
theorem dX8_restore_14 : decode cX8_restore 14 = .ok (.aload_n 0, 1) := by decide +kernel
theorem dX8_restore_15 : decode cX8_restore 15 = .ok (.getfield 16, 3) := by decide +kernel
theorem dX8_restore_18 : decode cX8_restore 18 = .ok (.invokevirtual 270, 3) := by decide +kernel
theorem dX8_restore_21 : decode cX8_restore 21 = .ok (.iconst 1, 1) := by decide +kernel
theorem dX8_restore_22 : decode cX8_restore 22 = .ok (.ireturn, 1) := by decide +kernel
theorem dX8_film_0 : decode cX8_film 0 = .ok (.iload_n 1, 1) := by decide +kernel
theorem dX8_film_1 : decode cX8_film 1 = .ok (.iload_n 2, 1) := by decide +kernel
theorem dX8_film_2 : decode cX8_film 2 = .ok (.invokestatic 258, 3) := by decide +kernel
theorem dX8_film_5 : decode cX8_film 5 = .ok (.ifCond .eq 14, 3) := by decide +kernel
theorem dX8_film_8 : decode cX8_film 8 = .ok (.iload 4, 2) := by decide +kernel
theorem dX8_film_10 : decode cX8_film 10 = .ok (.iconst 1, 1) := by decide +kernel
theorem dX8_film_11 : decode cX8_film 11 = .ok (.bipush 12, 2) := by decide +kernel
theorem dX8_film_13 : decode cX8_film 13 = .ok (.invokestatic 60, 3) := by decide +kernel
theorem dX8_film_16 : decode cX8_film 16 = .ok (.ifCond .ne 5, 3) := by decide +kernel
theorem dX8_film_19 : decode cX8_film 19 = .ok (.iconst (-1), 1) := by decide +kernel
theorem dX8_film_20 : decode cX8_film 20 = .ok (.ireturn, 1) := by decide +kernel
theorem dX8_film_21 : decode cX8_film 21 = .ok (.aload_n 0, 1) := by decide +kernel
theorem dX8_film_22 : decode cX8_film 22 = .ok (.getfield 56, 3) := by decide +kernel
theorem dX8_film_25 : decode cX8_film 25 = .ok (.iload_n 1, 1) := by decide +kernel
theorem dX8_film_26 : decode cX8_film 26 = .ok (.iload_n 2, 1) := by decide +kernel
theorem dX8_film_27 : decode cX8_film 27 = .ok (.iload_n 3, 1) := by decide +kernel
theorem dX8_film_28 : decode cX8_film 28 = .ok (.iconst 2, 1) := by decide +kernel
theorem dX8_film_29 : decode cX8_film 29 = .ok (.iload 4, 2) := by decide +kernel
theorem dX8_film_31 : decode cX8_film 31 = .ok (.imul, 1) := by decide +kernel
theorem dX8_film_32 : decode cX8_film 32 = .ok (.invokevirtual 262, 3) := by decide +kernel
theorem dX8_film_35 : decode cX8_film 35 = .ok (.istore 5, 2) := by decide +kernel
theorem dX8_film_37 : decode cX8_film 37 = .ok (.iload 5, 2) := by decide +kernel
theorem dX8_film_39 : decode cX8_film 39 = .ok (.ifCond .eq 6, 3) := by decide +kernel
theorem dX8_film_42 : decode cX8_film 42 = .ok (.iload 5, 2) := by decide +kernel
theorem dX8_film_44 : decode cX8_film 44 = .ok (.ireturn, 1) := by decide +kernel
theorem dX8_film_45 : decode cX8_film 45 = .ok (.aload_n 0, 1) := by decide +kernel
theorem dX8_film_46 : decode cX8_film 46 = .ok (.getfield 28, 3) := by decide +kernel
theorem dX8_film_49 : decode cX8_film 49 = .ok (.invokevirtual 135, 3) := by decide +kernel
theorem dX8_film_52 : decode cX8_film 52 = .ok (.iconst 0, 1) := by decide +kernel
theorem dX8_film_53 : decode cX8_film 53 = .ok (.istore 6, 2) := by decide +kernel
theorem dX8_film_55 : decode cX8_film 55 = .ok (.iload 6, 2) := by decide +kernel
theorem dX8_film_57 : decode cX8_film 57 = .ok (.iload 4, 2) := by decide +kernel
theorem dX8_film_59 : decode cX8_film 59 = .ok (.if_icmp .ge 64, 3) := by decide +kernel
theorem dX8_film_62 : decode cX8_film 62 = .ok (.aload_n 0, 1) := by decide +kernel
theorem dX8_film_63 : decode cX8_film 63 = .ok (.getfield 28, 3) := by decide +kernel
theorem dX8_film_66 : decode cX8_film 66 = .ok (.iload 6, 2) := by decide +kernel
theorem dX8_film_68 : decode cX8_film 68 = .ok (.iconst 1, 1) := by decide +kernel
theorem dX8_film_69 : decode cX8_film 69 = .ok (.iadd, 1) := by decide +kernel
theorem dX8_film_70 : decode cX8_film 70 = .ok (.invokevirtual 138, 3) := by decide +kernel
theorem dX8_film_73 : decode cX8_film 73 = .ok (.aload_n 0, 1) := by decide +kernel
theorem dX8_film_74 : decode cX8_film 74 = .ok (.getfield 56, 3) := by decide +kernel
theorem dX8_film_77 : decode cX8_film 77 = .ok (.iload_n 1, 1) := by decide +kernel
theorem dX8_film_78 : decode cX8_film 78 = .ok (.iload_n 3, 1) := by decide +kernel
theorem dX8_film_79 : decode cX8_film 79 = .ok (.iconst 2, 1) := by decide +kernel
theorem dX8_film_80 : decode cX8_film 80 = .ok (.iload 6, 2) := by decide +kernel
theorem dX8_film_82 : decode cX8_film 82 = .ok (.imul, 1) := by decide +kernel
theorem dX8_film_83 : decode cX8_film 83 = .ok (.iadd, 1) := by decide +kernel
theorem dX8_film_84 : decode cX8_film 84 = .ok (.aload_n 0, 1) := by decide +kernel
theorem dX8_film_85 : decode cX8_film 85 = .ok (.getfield 28, 3) := by decide +kernel
theorem dX8_film_88 : decode cX8_film 88 = .ok (.getfield 141, 3) := by decide +kernel
theorem dX8_film_91 : decode cX8_film 91 = .ok (.invokevirtual 272, 3) := by decide +kernel
theorem dX8_film_94 : decode cX8_film 94 = .ok (.aload_n 0, 1) := by decide +kernel
theorem dX8_film_95 : decode cX8_film 95 = .ok (.getfield 56, 3) := by decide +kernel
theorem dX8_film_98 : decode cX8_film 98 = .ok (.iload_n 1, 1) := by decide +kernel
theorem dX8_film_99 : decode cX8_film 99 = .ok (.iload_n 3, 1) := by decide +kernel
theorem dX8_film_100 : decode cX8_film 100 = .ok (.iconst 2, 1) := by decide +kernel
theorem dX8_film_101 : decode cX8_film 101 = .ok (.iload 6, 2) := by decide +kernel
theorem dX8_film_103 : decode cX8_film 103 = .ok (.imul, 1) := by decide +kernel
theorem dX8_film_104 : decode cX8_film 104 = .ok (.iadd, 1) := by decide +kernel
theorem dX8_film_105 : decode cX8_film 105 = .ok (.iconst 1, 1) := by decide +kernel
theorem dX8_film_106 : decode cX8_film 106 = .ok (.iadd, 1) := by decide +kernel
theorem dX8_film_107 : decode cX8_film 107 = .ok (.aload_n 0, 1) := by decide +kernel
theorem dX8_film_108 : decode cX8_film 108 = .ok (.getfield 28, 3) := by decide +kernel
theorem dX8_film_111 : decode cX8_film 111 = .ok (.getfield 144, 3) := by decide +kernel
theorem dX8_film_114 : decode cX8_film 114 = .ok (.invokevirtual 272, 3) := by decide +kernel
theorem dX8_film_117 : decode cX8_film 117 = .ok (.iinc 6 1, 3) := by decide +kernel
theorem dX8_film_120 : decode cX8_film 120 = .ok (.goto (-65), 3) := by decide +kernel
theorem dX8_film_123 : decode cX8_film 123 = .ok (.iconst 2, 1) := by decide +kernel
theorem dX8_film_124 : decode cX8_film 124 = .ok (.iload 4, 2) := by decide +kernel
theorem dX8_film_126 : decode cX8_film 126 = .ok (.imul, 1) := by decide +kernel
theorem dX8_film_127 : decode cX8_film 127 = .ok (.ireturn, 1) := by decide +kernel
theorem dX8_sheet_0 : decode cX8_sheet 0 = .ok (.iload_n 1, 1) := by decide +kernel
theorem dX8_sheet_1 : decode cX8_sheet 1 = .ok (.iload_n 2, 1) := by decide +kernel
theorem dX8_sheet_2 : decode cX8_sheet 2 = .ok (.invokestatic 258, 3) := by decide +kernel
theorem dX8_sheet_5 : decode cX8_sheet 5 = .ok (.ifCond .eq 9, 3) := by decide +kernel
theorem dX8_sheet_8 : decode cX8_sheet 8 = .ok (.iload_n 3, 1) := by decide +kernel
theorem dX8_sheet_9 : decode cX8_sheet 9 = .ok (.bipush 24, 2) := by decide +kernel
theorem dX8_sheet_11 : decode cX8_sheet 11 = .ok (.if_icmp .le 5, 3) := by decide +kernel
theorem dX8_sheet_14 : decode cX8_sheet 14 = .ok (.iconst (-1), 1) := by decide +kernel
theorem dX8_sheet_15 : decode cX8_sheet 15 = .ok (.ireturn, 1) := by decide +kernel
theorem dX8_sheet_16 : decode cX8_sheet 16 = .ok (.iload_n 3, 1) := by decide +kernel
theorem dX8_sheet_17 : decode cX8_sheet 17 = .ok (.ifCond .ge 6, 3) := by decide +kernel
theorem dX8_sheet_20 : decode cX8_sheet 20 = .ok (.bipush (-14), 2) := by decide +kernel
theorem dX8_sheet_22 : decode cX8_sheet 22 = .ok (.ireturn, 1) := by decide +kernel
theorem dX8_sheet_23 : decode cX8_sheet 23 = .ok (.aload_n 0, 1) := by decide +kernel
theorem dX8_sheet_24 : decode cX8_sheet 24 = .ok (.getfield 56, 3) := by decide +kernel
theorem dX8_sheet_27 : decode cX8_sheet 27 = .ok (.iload_n 1, 1) := by decide +kernel
theorem dX8_sheet_28 : decode cX8_sheet 28 = .ok (.iload_n 2, 1) := by decide +kernel
theorem dX8_sheet_29 : decode cX8_sheet 29 = .ok (.iload_n 3, 1) := by decide +kernel
theorem dX8_sheet_30 : decode cX8_sheet 30 = .ok (.invokevirtual 273, 3) := by decide +kernel
theorem dX8_sheet_33 : decode cX8_sheet 33 = .ok (.iload_n 3, 1) := by decide +kernel
theorem dX8_sheet_34 : decode cX8_sheet 34 = .ok (.ireturn, 1) := by decide +kernel
theorem dX8_drop_0 : decode cX8_drop 0 = .ok (.iload_n 1, 1) := by decide +kernel
theorem dX8_drop_1 : decode cX8_drop 1 = .ok (.iconst 0, 1) := by decide +kernel
theorem dX8_drop_2 : decode cX8_drop 2 = .ok (.iconst 3, 1) := by decide +kernel
theorem dX8_drop_3 : decode cX8_drop 3 = .ok (.invokestatic 60, 3) := by decide +kernel
theorem dX8_drop_6 : decode cX8_drop 6 = .ok (.ifCond .ne 5, 3) := by decide +kernel
theorem dX8_drop_9 : decode cX8_drop 9 = .ok (.iconst (-1), 1) := by decide +kernel
theorem dX8_drop_10 : decode cX8_drop 10 = .ok (.ireturn, 1) := by decide +kernel
theorem dX8_drop_11 : decode cX8_drop 11 = .ok (.aload_n 0, 1) := by decide +kernel
theorem dX8_drop_12 : decode cX8_drop 12 = .ok (.getfield 56, 3) := by decide +kernel
theorem dX8_drop_15 : decode cX8_drop 15 = .ok (.iload_n 1, 1) := by decide +kernel
theorem dX8_drop_16 : decode cX8_drop 16 = .ok (.invokevirtual 276, 3) := by decide +kernel
theorem dX8_drop_19 : decode cX8_drop 19 = .ok (.ifCond .eq 8, 3) := by decide +kernel
theorem dX8_drop_22 : decode cX8_drop 22 = .ok (.bipush (-11), 2) := by decide +kernel
theorem dX8_drop_24 : decode cX8_drop 24 = .ok (.goto 11, 3) := by decide +kernel
theorem dX8_drop_27 : decode cX8_drop 27 = .ok (.aload_n 0, 1) := by decide +kernel
theorem dX8_drop_28 : decode cX8_drop 28 = .ok (.getfield 56, 3) := by decide +kernel
theorem dX8_drop_31 : decode cX8_drop 31 = .ok (.iload_n 1, 1) := by decide +kernel
theorem dX8_drop_32 : decode cX8_drop 32 = .ok (.invokevirtual 279, 3) := by decide +kernel
theorem dX8_drop_35 : decode cX8_drop 35 = .ok (.ireturn, 1) := by decide +kernel
theorem dX8_item_0 : decode cX8_item 0 = .ok (.iload_n 1, 1) := by decide +kernel
theorem dX8_item_1 : decode cX8_item 1 = .ok (.iload_n 2, 1) := by decide +kernel
theorem dX8_item_2 : decode cX8_item 2 = .ok (.invokestatic 258, 3) := by decide +kernel
theorem dX8_item_5 : decode cX8_item 5 = .ok (.ifCond .ne 5, 3) := by decide +kernel
theorem dX8_item_8 : decode cX8_item 8 = .ok (.iconst (-1), 1) := by decide +kernel
theorem dX8_item_9 : decode cX8_item 9 = .ok (.ireturn, 1) := by decide +kernel
theorem dX8_item_10 : decode cX8_item 10 = .ok (.aload_n 0, 1) := by decide +kernel
theorem dX8_item_11 : decode cX8_item 11 = .ok (.getfield 56, 3) := by decide +kernel
theorem dX8_item_14 : decode cX8_item 14 = .ok (.iload_n 1, 1) := by decide +kernel
theorem dX8_item_15 : decode cX8_item 15 = .ok (.iload_n 2, 1) := by decide +kernel
theorem dX8_item_16 : decode cX8_item 16 = .ok (.iload_n 3, 1) := by decide +kernel
theorem dX8_item_17 : decode cX8_item 17 = .ok (.iconst 1, 1) := by decide +kernel
theorem dX8_item_18 : decode cX8_item 18 = .ok (.invokevirtual 262, 3) := by decide +kernel
theorem dX8_item_21 : decode cX8_item 21 = .ok (.istore 5, 2) := by decide +kernel
theorem dX8_item_23 : decode cX8_item 23 = .ok (.iload 5, 2) := by decide +kernel
theorem dX8_item_25 : decode cX8_item 25 = .ok (.ifCond .eq 6, 3) := by decide +kernel
theorem dX8_item_28 : decode cX8_item 28 = .ok (.iload 5, 2) := by decide +kernel
theorem dX8_item_30 : decode cX8_item 30 = .ok (.ireturn, 1) := by decide +kernel
theorem dX8_item_31 : decode cX8_item 31 = .ok (.aload_n 0, 1) := by decide +kernel
theorem dX8_item_32 : decode cX8_item 32 = .ok (.getfield 56, 3) := by decide +kernel
theorem dX8_item_35 : decode cX8_item 35 = .ok (.iload_n 1, 1) := by decide +kernel
theorem dX8_item_36 : decode cX8_item 36 = .ok (.iload_n 3, 1) := by decide +kernel
theorem dX8_item_37 : decode cX8_item 37 = .ok (.iload 4, 2) := by decide +kernel
theorem dX8_item_39 : decode cX8_item 39 = .ok (.invokevirtual 272, 3) := by decide +kernel
theorem dX8_item_42 : decode cX8_item 42 = .ok (.iconst 1, 1) := by decide +kernel
theorem dX8_item_43 : decode cX8_item 43 = .ok (.ireturn, 1) := by decide +kernel
theorem dX8_copy_0 : decode cX8_copy 0 = .ok (.iload_n 1, 1) := by decide +kernel
theorem dX8_copy_1 : decode cX8_copy 1 = .ok (.iconst 0, 1) := by decide +kernel
theorem dX8_copy_2 : decode cX8_copy 2 = .ok (.iconst 3, 1) := by decide +kernel
theorem dX8_copy_3 : decode cX8_copy 3 = .ok (.invokestatic 60, 3) := by decide +kernel
theorem dX8_copy_6 : decode cX8_copy 6 = .ok (.ifCond .eq 12, 3) := by decide +kernel
theorem dX8_copy_9 : decode cX8_copy 9 = .ok (.iload_n 3, 1) := by decide +kernel
theorem dX8_copy_10 : decode cX8_copy 10 = .ok (.iconst 0, 1) := by decide +kernel
theorem dX8_copy_11 : decode cX8_copy 11 = .ok (.iconst 3, 1) := by decide +kernel
theorem dX8_copy_12 : decode cX8_copy 12 = .ok (.invokestatic 60, 3) := by decide +kernel
theorem dX8_copy_15 : decode cX8_copy 15 = .ok (.ifCond .ne 5, 3) := by decide +kernel
theorem dX8_copy_18 : decode cX8_copy 18 = .ok (.iconst (-1), 1) := by decide +kernel
theorem dX8_copy_19 : decode cX8_copy 19 = .ok (.ireturn, 1) := by decide +kernel
theorem dX8_copy_20 : decode cX8_copy 20 = .ok (.aload_n 0, 1) := by decide +kernel
theorem dX8_copy_21 : decode cX8_copy 21 = .ok (.getfield 56, 3) := by decide +kernel
theorem dX8_copy_24 : decode cX8_copy 24 = .ok (.iload_n 1, 1) := by decide +kernel
theorem dX8_copy_25 : decode cX8_copy 25 = .ok (.invokevirtual 276, 3) := by decide +kernel
theorem dX8_copy_28 : decode cX8_copy 28 = .ok (.ifCond .ne 14, 3) := by decide +kernel
theorem dX8_copy_31 : decode cX8_copy 31 = .ok (.aload_n 0, 1) := by decide +kernel
theorem dX8_copy_32 : decode cX8_copy 32 = .ok (.getfield 56, 3) := by decide +kernel
theorem dX8_copy_35 : decode cX8_copy 35 = .ok (.iload_n 3, 1) := by decide +kernel
theorem dX8_copy_36 : decode cX8_copy 36 = .ok (.invokevirtual 276, 3) := by decide +kernel
theorem dX8_copy_39 : decode cX8_copy 39 = .ok (.ifCond .eq 6, 3) := by decide +kernel
theorem dX8_copy_42 : decode cX8_copy 42 = .ok (.bipush (-11), 2) := by decide +kernel
theorem dX8_copy_44 : decode cX8_copy 44 = .ok (.ireturn, 1) := by decide +kernel
theorem dX8_copy_45 : decode cX8_copy 45 = .ok (.aload_n 0, 1) := by decide +kernel
theorem dX8_copy_46 : decode cX8_copy 46 = .ok (.getfield 56, 3) := by decide +kernel
theorem dX8_copy_49 : decode cX8_copy 49 = .ok (.getfield 282, 3) := by decide +kernel
theorem dX8_copy_52 : decode cX8_copy 52 = .ok (.iload_n 1, 1) := by decide +kernel
theorem dX8_copy_53 : decode cX8_copy 53 = .ok (.iaload, 1) := by decide +kernel
theorem dX8_copy_54 : decode cX8_copy 54 = .ok (.aload_n 0, 1) := by decide +kernel
theorem dX8_copy_55 : decode cX8_copy 55 = .ok (.getfield 56, 3) := by decide +kernel
theorem dX8_copy_58 : decode cX8_copy 58 = .ok (.getfield 282, 3) := by decide +kernel
theorem dX8_copy_61 : decode cX8_copy 61 = .ok (.iload_n 3, 1) := by decide +kernel
theorem dX8_copy_62 : decode cX8_copy 62 = .ok (.iaload, 1) := by decide +kernel
theorem dX8_copy_63 : decode cX8_copy 63 = .ok (.if_icmp .eq 6, 3) := by decide +kernel
theorem dX8_copy_66 : decode cX8_copy 66 = .ok (.bipush (-12), 2) := by decide +kernel
theorem dX8_copy_68 : decode cX8_copy 68 = .ok (.ireturn, 1) := by decide +kernel
theorem dX8_copy_69 : decode cX8_copy 69 = .ok (.aload_n 0, 1) := by decide +kernel
theorem dX8_copy_70 : decode cX8_copy 70 = .ok (.getfield 56, 3) := by decide +kernel
theorem dX8_copy_73 : decode cX8_copy 73 = .ok (.iload_n 1, 1) := by decide +kernel
theorem dX8_copy_74 : decode cX8_copy 74 = .ok (.iload_n 2, 1) := by decide +kernel
theorem dX8_copy_75 : decode cX8_copy 75 = .ok (.iload 5, 2) := by decide +kernel
theorem dX8_copy_77 : decode cX8_copy 77 = .ok (.invokevirtual 285, 3) := by decide +kernel
theorem dX8_copy_80 : decode cX8_copy 80 = .ok (.ifCond .eq 18, 3) := by decide +kernel
theorem dX8_copy_83 : decode cX8_copy 83 = .ok (.aload_n 0, 1) := by decide +kernel
theorem dX8_copy_84 : decode cX8_copy 84 = .ok (.getfield 56, 3) := by decide +kernel
theorem dX8_copy_87 : decode cX8_copy 87 = .ok (.iload_n 3, 1) := by decide +kernel
theorem dX8_copy_88 : decode cX8_copy 88 = .ok (.iload 4, 2) := by decide +kernel
theorem dX8_copy_90 : decode cX8_copy 90 = .ok (.iload 5, 2) := by decide +kernel
theorem dX8_copy_92 : decode cX8_copy 92 = .ok (.invokevirtual 285, 3) := by decide +kernel
theorem dX8_copy_95 : decode cX8_copy 95 = .ok (.ifCond .ne 6, 3) := by decide +kernel
theorem dX8_copy_98 : decode cX8_copy 98 = .ok (.bipush (-13), 2) := by decide +kernel
theorem dX8_copy_100 : decode cX8_copy 100 = .ok (.ireturn, 1) := by decide +kernel
theorem dX8_copy_101 : decode cX8_copy 101 = .ok (.aload_n 0, 1) := by decide +kernel
theorem dX8_copy_102 : decode cX8_copy 102 = .ok (.getfield 56, 3) := by decide +kernel
theorem dX8_copy_105 : decode cX8_copy 105 = .ok (.getfield 288, 3) := by decide +kernel
theorem dX8_copy_108 : decode cX8_copy 108 = .ok (.iload_n 1, 1) := by decide +kernel
theorem dX8_copy_109 : decode cX8_copy 109 = .ok (.aaload, 1) := by decide +kernel
theorem dX8_copy_110 : decode cX8_copy 110 = .ok (.iload_n 2, 1) := by decide +kernel
theorem dX8_copy_111 : decode cX8_copy 111 = .ok (.aload_n 0, 1) := by decide +kernel
theorem dX8_copy_112 : decode cX8_copy 112 = .ok (.getfield 56, 3) := by decide +kernel
theorem dX8_copy_115 : decode cX8_copy 115 = .ok (.getfield 288, 3) := by decide +kernel
theorem dX8_copy_118 : decode cX8_copy 118 = .ok (.iload_n 3, 1) := by decide +kernel
theorem dX8_copy_119 : decode cX8_copy 119 = .ok (.aaload, 1) := by decide +kernel
theorem dX8_copy_120 : decode cX8_copy 120 = .ok (.iload 4, 2) := by decide +kernel
theorem dX8_copy_122 : decode cX8_copy 122 = .ok (.iload 5, 2) := by decide +kernel
theorem dX8_copy_124 : decode cX8_copy 124 = .ok (.invokestatic 292, 3) := by decide +kernel
theorem dX8_copy_127 : decode cX8_copy 127 = .ok (.iload 5, 2) := by decide +kernel
theorem dX8_copy_129 : decode cX8_copy 129 = .ok (.ireturn, 1) := by decide +kernel
theorem dX8_isIn_0 : decode cX8_isIn 0 = .ok (.iload_n 0, 1) := by decide +kernel
theorem dX8_isIn_1 : decode cX8_isIn 1 = .ok (.iload_n 1, 1) := by decide +kernel
theorem dX8_isIn_2 : decode cX8_isIn 2 = .ok (.if_icmp .lt 12, 3) := by decide +kernel
theorem dX8_isIn_5 : decode cX8_isIn 5 = .ok (.iload_n 0, 1) := by decide +kernel
theorem dX8_isIn_6 : decode cX8_isIn 6 = .ok (.iload_n 2, 1) := by decide +kernel
theorem dX8_isIn_7 : decode cX8_isIn 7 = .ok (.if_icmp .gt 7, 3) := by decide +kernel
theorem dX8_isIn_10 : decode cX8_isIn 10 = .ok (.iconst 1, 1) := by decide +kernel
theorem dX8_isIn_11 : decode cX8_isIn 11 = .ok (.goto 4, 3) := by decide +kernel
theorem dX8_isIn_14 : decode cX8_isIn 14 = .ok (.iconst 0, 1) := by decide +kernel
theorem dX8_isIn_15 : decode cX8_isIn 15 = .ok (.ireturn, 1) := by decide +kernel
theorem dX8_isRow_0 : decode cX8_isRow 0 = .ok (.iload_n 0, 1) := by decide +kernel
theorem dX8_isRow_1 : decode cX8_isRow 1 = .ok (.iconst 0, 1) := by decide +kernel
theorem dX8_isRow_2 : decode cX8_isRow 2 = .ok (.iconst 3, 1) := by decide +kernel
theorem dX8_isRow_3 : decode cX8_isRow 3 = .ok (.invokestatic 60, 3) := by decide +kernel
theorem dX8_isRow_6 : decode cX8_isRow 6 = .ok (.ifCond .eq 16, 3) := by decide +kernel
theorem dX8_isRow_9 : decode cX8_isRow 9 = .ok (.iload_n 1, 1) := by decide +kernel
theorem dX8_isRow_10 : decode cX8_isRow 10 = .ok (.iconst 0, 1) := by decide +kernel
theorem dX8_isRow_11 : decode cX8_isRow 11 = .ok (.iconst 2, 1) := by decide +kernel
theorem dX8_isRow_12 : decode cX8_isRow 12 = .ok (.invokestatic 60, 3) := by decide +kernel
theorem dX8_isRow_15 : decode cX8_isRow 15 = .ok (.ifCond .eq 7, 3) := by decide +kernel
theorem dX8_isRow_18 : decode cX8_isRow 18 = .ok (.iconst 1, 1) := by decide +kernel
theorem dX8_isRow_19 : decode cX8_isRow 19 = .ok (.goto 4, 3) := by decide +kernel
theorem dX8_isRow_22 : decode cX8_isRow 22 = .ok (.iconst 0, 1) := by decide +kernel
theorem dX8_isRow_23 : decode cX8_isRow 23 = .ok (.ireturn, 1) := by decide +kernel
theorem dX8_byteOf_0 : decode cX8_byteOf 0 = .ok (.lload_n 0, 1) := by decide +kernel
theorem dX8_byteOf_1 : decode cX8_byteOf 1 = .ok (.bipush 8, 2) := by decide +kernel
theorem dX8_byteOf_3 : decode cX8_byteOf 3 = .ok (.iload_n 2, 1) := by decide +kernel
theorem dX8_byteOf_4 : decode cX8_byteOf 4 = .ok (.imul, 1) := by decide +kernel
theorem dX8_byteOf_5 : decode cX8_byteOf 5 = .ok (.lushr, 1) := by decide +kernel
theorem dX8_byteOf_6 : decode cX8_byteOf 6 = .ok (.l2i, 1) := by decide +kernel
theorem dX8_byteOf_7 : decode cX8_byteOf 7 = .ok (.sipush 255, 3) := by decide +kernel
theorem dX8_byteOf_10 : decode cX8_byteOf 10 = .ok (.iand, 1) := by decide +kernel
theorem dX8_byteOf_11 : decode cX8_byteOf 11 = .ok (.ireturn, 1) := by decide +kernel
theorem dX8_addCup_0 : decode cX8_addCup 0 = .ok (.aload_n 0, 1) := by decide +kernel
theorem dX8_addCup_1 : decode cX8_addCup 1 = .ok (.invokevirtual 234, 3) := by decide +kernel
theorem dX8_addCup_4 : decode cX8_addCup 4 = .ok (.istore 6, 2) := by decide +kernel
theorem dX8_addCup_6 : decode cX8_addCup 6 = .ok (.aload_n 0, 1) := by decide +kernel
theorem dX8_addCup_7 : decode cX8_addCup 7 = .ok (.iload 6, 2) := by decide +kernel
theorem dX8_addCup_9 : decode cX8_addCup 9 = .ok (.iconst 0, 1) := by decide +kernel
theorem dX8_addCup_10 : decode cX8_addCup 10 = .ok (.iload_n 1, 1) := by decide +kernel
theorem dX8_addCup_11 : decode cX8_addCup 11 = .ok (.invokevirtual 237, 3) := by decide +kernel
theorem dX8_addCup_14 : decode cX8_addCup 14 = .ok (.aload_n 0, 1) := by decide +kernel
theorem dX8_addCup_15 : decode cX8_addCup 15 = .ok (.iload 6, 2) := by decide +kernel
theorem dX8_addCup_17 : decode cX8_addCup 17 = .ok (.iconst 1, 1) := by decide +kernel
theorem dX8_addCup_18 : decode cX8_addCup 18 = .ok (.iload_n 2, 1) := by decide +kernel
theorem dX8_addCup_19 : decode cX8_addCup 19 = .ok (.invokevirtual 237, 3) := by decide +kernel
theorem dX8_addCup_22 : decode cX8_addCup 22 = .ok (.aload_n 0, 1) := by decide +kernel
theorem dX8_addCup_23 : decode cX8_addCup 23 = .ok (.iload 6, 2) := by decide +kernel
theorem dX8_addCup_25 : decode cX8_addCup 25 = .ok (.iconst 2, 1) := by decide +kernel
theorem dX8_addCup_26 : decode cX8_addCup 26 = .ok (.iload_n 3, 1) := by decide +kernel
theorem dX8_addCup_27 : decode cX8_addCup 27 = .ok (.invokevirtual 237, 3) := by decide +kernel
theorem dX8_addCup_30 : decode cX8_addCup 30 = .ok (.aload_n 0, 1) := by decide +kernel
theorem dX8_addCup_31 : decode cX8_addCup 31 = .ok (.iload 6, 2) := by decide +kernel
theorem dX8_addCup_33 : decode cX8_addCup 33 = .ok (.iconst 3, 1) := by decide +kernel
theorem dX8_addCup_34 : decode cX8_addCup 34 = .ok (.iload 4, 2) := by decide +kernel
theorem dX8_addCup_36 : decode cX8_addCup 36 = .ok (.invokevirtual 237, 3) := by decide +kernel
theorem dX8_addCup_39 : decode cX8_addCup 39 = .ok (.aload_n 0, 1) := by decide +kernel
theorem dX8_addCup_40 : decode cX8_addCup 40 = .ok (.iload 6, 2) := by decide +kernel
theorem dX8_addCup_42 : decode cX8_addCup 42 = .ok (.iconst 4, 1) := by decide +kernel
theorem dX8_addCup_43 : decode cX8_addCup 43 = .ok (.iload 5, 2) := by decide +kernel
theorem dX8_addCup_45 : decode cX8_addCup 45 = .ok (.invokevirtual 237, 3) := by decide +kernel
theorem dX8_addCup_48 : decode cX8_addCup 48 = .ok (.iload 6, 2) := by decide +kernel
theorem dX8_addCup_50 : decode cX8_addCup 50 = .ok (.ireturn, 1) := by decide +kernel
theorem dX8_addPart_0 : decode cX8_addPart 0 = .ok (.aload_n 0, 1) := by decide +kernel
theorem dX8_addPart_1 : decode cX8_addPart 1 = .ok (.invokevirtual 234, 3) := by decide +kernel
theorem dX8_addPart_4 : decode cX8_addPart 4 = .ok (.istore 4, 2) := by decide +kernel
theorem dX8_addPart_6 : decode cX8_addPart 6 = .ok (.aload_n 0, 1) := by decide +kernel
theorem dX8_addPart_7 : decode cX8_addPart 7 = .ok (.iload 4, 2) := by decide +kernel
theorem dX8_addPart_9 : decode cX8_addPart 9 = .ok (.iconst 0, 1) := by decide +kernel
theorem dX8_addPart_10 : decode cX8_addPart 10 = .ok (.iload_n 1, 1) := by decide +kernel
theorem dX8_addPart_11 : decode cX8_addPart 11 = .ok (.invokevirtual 237, 3) := by decide +kernel
theorem dX8_addPart_14 : decode cX8_addPart 14 = .ok (.aload_n 0, 1) := by decide +kernel
theorem dX8_addPart_15 : decode cX8_addPart 15 = .ok (.iload 4, 2) := by decide +kernel
theorem dX8_addPart_17 : decode cX8_addPart 17 = .ok (.iconst 1, 1) := by decide +kernel
theorem dX8_addPart_18 : decode cX8_addPart 18 = .ok (.iload_n 2, 1) := by decide +kernel
theorem dX8_addPart_19 : decode cX8_addPart 19 = .ok (.invokevirtual 237, 3) := by decide +kernel
theorem dX8_addPart_22 : decode cX8_addPart 22 = .ok (.aload_n 0, 1) := by decide +kernel
theorem dX8_addPart_23 : decode cX8_addPart 23 = .ok (.iload 4, 2) := by decide +kernel
theorem dX8_addPart_25 : decode cX8_addPart 25 = .ok (.iconst 2, 1) := by decide +kernel
theorem dX8_addPart_26 : decode cX8_addPart 26 = .ok (.iload_n 3, 1) := by decide +kernel
theorem dX8_addPart_27 : decode cX8_addPart 27 = .ok (.invokevirtual 237, 3) := by decide +kernel
theorem dX8_addPart_30 : decode cX8_addPart 30 = .ok (.iload 4, 2) := by decide +kernel
theorem dX8_addPart_32 : decode cX8_addPart 32 = .ok (.ireturn, 1) := by decide +kernel
theorem dX8_isShown_0 : decode cX8_isShown 0 = .ok (.aload_n 0, 1) := by decide +kernel
theorem dX8_isShown_1 : decode cX8_isShown 1 = .ok (.getfield 28, 3) := by decide +kernel
theorem dX8_isShown_4 : decode cX8_isShown 4 = .ok (.aload_n 0, 1) := by decide +kernel
theorem dX8_isShown_5 : decode cX8_isShown 5 = .ok (.getfield 10, 3) := by decide +kernel
theorem dX8_isShown_8 : decode cX8_isShown 8 = .ok (.getfield 71, 3) := by decide +kernel
theorem dX8_isShown_11 : decode cX8_isShown 11 = .ok (.iconst 0, 1) := by decide +kernel
theorem dX8_isShown_12 : decode cX8_isShown 12 = .ok (.iaload, 1) := by decide +kernel
theorem dX8_isShown_13 : decode cX8_isShown 13 = .ok (.iload_n 1, 1) := by decide +kernel
theorem dX8_isShown_14 : decode cX8_isShown 14 = .ok (.invokestatic 218, 3) := by decide +kernel
theorem dX8_isShown_17 : decode cX8_isShown 17 = .ok (.iload_n 1, 1) := by decide +kernel
theorem dX8_isShown_18 : decode cX8_isShown 18 = .ok (.invokestatic 221, 3) := by decide +kernel
theorem dX8_isShown_21 : decode cX8_isShown 21 = .ok (.invokevirtual 298, 3) := by decide +kernel
theorem dX8_isShown_24 : decode cX8_isShown 24 = .ok (.iconst 0, 1) := by decide +kernel
theorem dX8_isShown_25 : decode cX8_isShown 25 = .ok (.istore 5, 2) := by decide +kernel
theorem dX8_isShown_27 : decode cX8_isShown 27 = .ok (.iload 5, 2) := by decide +kernel
theorem dX8_isShown_29 : decode cX8_isShown 29 = .ok (.iload 4, 2) := by decide +kernel
theorem dX8_isShown_31 : decode cX8_isShown 31 = .ok (.if_icmp .ge 72, 3) := by decide +kernel
theorem dX8_isShown_34 : decode cX8_isShown 34 = .ok (.aload_n 0, 1) := by decide +kernel
theorem dX8_isShown_35 : decode cX8_isShown 35 = .ok (.getfield 28, 3) := by decide +kernel
theorem dX8_isShown_38 : decode cX8_isShown 38 = .ok (.iload 5, 2) := by decide +kernel
theorem dX8_isShown_40 : decode cX8_isShown 40 = .ok (.iconst 1, 1) := by decide +kernel
theorem dX8_isShown_41 : decode cX8_isShown 41 = .ok (.iadd, 1) := by decide +kernel
theorem dX8_isShown_42 : decode cX8_isShown 42 = .ok (.invokevirtual 138, 3) := by decide +kernel
theorem dX8_isShown_45 : decode cX8_isShown 45 = .ok (.iload_n 3, 1) := by decide +kernel
theorem dX8_isShown_46 : decode cX8_isShown 46 = .ok (.iconst 2, 1) := by decide +kernel
theorem dX8_isShown_47 : decode cX8_isShown 47 = .ok (.iload 5, 2) := by decide +kernel
theorem dX8_isShown_49 : decode cX8_isShown 49 = .ok (.imul, 1) := by decide +kernel
theorem dX8_isShown_50 : decode cX8_isShown 50 = .ok (.iadd, 1) := by decide +kernel
theorem dX8_isShown_51 : decode cX8_isShown 51 = .ok (.istore 6, 2) := by decide +kernel
theorem dX8_isShown_53 : decode cX8_isShown 53 = .ok (.aload_n 0, 1) := by decide +kernel
theorem dX8_isShown_54 : decode cX8_isShown 54 = .ok (.getfield 56, 3) := by decide +kernel
theorem dX8_isShown_57 : decode cX8_isShown 57 = .ok (.iload_n 2, 1) := by decide +kernel
theorem dX8_isShown_58 : decode cX8_isShown 58 = .ok (.iload 6, 2) := by decide +kernel
theorem dX8_isShown_60 : decode cX8_isShown 60 = .ok (.invokevirtual 301, 3) := by decide +kernel
theorem dX8_isShown_63 : decode cX8_isShown 63 = .ok (.aload_n 0, 1) := by decide +kernel
theorem dX8_isShown_64 : decode cX8_isShown 64 = .ok (.getfield 28, 3) := by decide +kernel
theorem dX8_isShown_67 : decode cX8_isShown 67 = .ok (.getfield 141, 3) := by decide +kernel
theorem dX8_isShown_70 : decode cX8_isShown 70 = .ok (.if_icmp .ne 25, 3) := by decide +kernel
theorem dX8_isShown_73 : decode cX8_isShown 73 = .ok (.aload_n 0, 1) := by decide +kernel
theorem dX8_isShown_74 : decode cX8_isShown 74 = .ok (.getfield 56, 3) := by decide +kernel
theorem dX8_isShown_77 : decode cX8_isShown 77 = .ok (.iload_n 2, 1) := by decide +kernel
theorem dX8_isShown_78 : decode cX8_isShown 78 = .ok (.iload 6, 2) := by decide +kernel
theorem dX8_isShown_80 : decode cX8_isShown 80 = .ok (.iconst 1, 1) := by decide +kernel
theorem dX8_isShown_81 : decode cX8_isShown 81 = .ok (.iadd, 1) := by decide +kernel
theorem dX8_isShown_82 : decode cX8_isShown 82 = .ok (.invokevirtual 301, 3) := by decide +kernel
theorem dX8_isShown_85 : decode cX8_isShown 85 = .ok (.aload_n 0, 1) := by decide +kernel
theorem dX8_isShown_86 : decode cX8_isShown 86 = .ok (.getfield 28, 3) := by decide +kernel
theorem dX8_isShown_89 : decode cX8_isShown 89 = .ok (.getfield 144, 3) := by decide +kernel
theorem dX8_isShown_92 : decode cX8_isShown 92 = .ok (.if_icmp .eq 5, 3) := by decide +kernel
theorem dX8_isShown_95 : decode cX8_isShown 95 = .ok (.iconst 0, 1) := by decide +kernel
theorem dX8_isShown_96 : decode cX8_isShown 96 = .ok (.ireturn, 1) := by decide +kernel
theorem dX8_isShown_97 : decode cX8_isShown 97 = .ok (.iinc 5 1, 3) := by decide +kernel
theorem dX8_isShown_100 : decode cX8_isShown 100 = .ok (.goto (-73), 3) := by decide +kernel
theorem dX8_isShown_103 : decode cX8_isShown 103 = .ok (.iconst 1, 1) := by decide +kernel
theorem dX8_isShown_104 : decode cX8_isShown 104 = .ok (.ireturn, 1) := by decide +kernel
