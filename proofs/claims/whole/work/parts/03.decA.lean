theorem dX0_init_0 : decode cX0_init 0 = .ok (.aload_n 0, 1) := by decide +kernel
theorem dX0_init_1 : decode cX0_init 1 = .ok (.invokespecial 1, 3) := by decide +kernel
theorem dX0_init_4 : decode cX0_init 4 = .ok (.aload_n 0, 1) := by decide +kernel
theorem dX0_init_5 : decode cX0_init 5 = .ok (.bipush 90, 2) := by decide +kernel
theorem dX0_init_7 : decode cX0_init 7 = .ok (.newarray .int, 2) := by decide +kernel
theorem dX0_init_9 : decode cX0_init 9 = .ok (.putfield 9, 3) := by decide +kernel
theorem dX0_init_12 : decode cX0_init 12 = .ok (.aload_n 0, 1) := by decide +kernel
theorem dX0_init_13 : decode cX0_init 13 = .ok (.bipush 90, 2) := by decide +kernel
theorem dX0_init_15 : decode cX0_init 15 = .ok (.newarray .boolean, 2) := by decide +kernel
theorem dX0_init_17 : decode cX0_init 17 = .ok (.putfield 13, 3) := by decide +kernel
theorem dX0_init_20 : decode cX0_init 20 = .ok (.aload_n 0, 1) := by decide +kernel
theorem dX0_init_21 : decode cX0_init 21 = .ok (.bipush 90, 2) := by decide +kernel
theorem dX0_init_23 : decode cX0_init 23 = .ok (.newarray .int, 2) := by decide +kernel
theorem dX0_init_25 : decode cX0_init 25 = .ok (.putfield 17, 3) := by decide +kernel
theorem dX0_init_28 : decode cX0_init 28 = .ok (.return_, 1) := by decide +kernel
theorem dX0_uOf_0 : decode cX0_uOf 0 = .ok (.bipush (-4), 2) := by decide +kernel
theorem dX0_uOf_2 : decode cX0_uOf 2 = .ok (.iload_n 0, 1) := by decide +kernel
theorem dX0_uOf_3 : decode cX0_uOf 3 = .ok (.bipush 10, 2) := by decide +kernel
theorem dX0_uOf_5 : decode cX0_uOf 5 = .ok (.idiv, 1) := by decide +kernel
theorem dX0_uOf_6 : decode cX0_uOf 6 = .ok (.iadd, 1) := by decide +kernel
theorem dX0_uOf_7 : decode cX0_uOf 7 = .ok (.ireturn, 1) := by decide +kernel
theorem dX0_vOf_0 : decode cX0_vOf 0 = .ok (.iconst 0, 1) := by decide +kernel
theorem dX0_vOf_1 : decode cX0_vOf 1 = .ok (.iload_n 0, 1) := by decide +kernel
theorem dX0_vOf_2 : decode cX0_vOf 2 = .ok (.bipush 10, 2) := by decide +kernel
theorem dX0_vOf_4 : decode cX0_vOf 4 = .ok (.irem, 1) := by decide +kernel
theorem dX0_vOf_5 : decode cX0_vOf 5 = .ok (.iadd, 1) := by decide +kernel
theorem dX0_vOf_6 : decode cX0_vOf 6 = .ok (.ireturn, 1) := by decide +kernel
theorem dX0_tryAll_0 : decode cX0_tryAll 0 = .ok (.iconst 0, 1) := by decide +kernel
theorem dX0_tryAll_1 : decode cX0_tryAll 1 = .ok (.istore_n 3, 1) := by decide +kernel
theorem dX0_tryAll_2 : decode cX0_tryAll 2 = .ok (.iload_n 3, 1) := by decide +kernel
theorem dX0_tryAll_3 : decode cX0_tryAll 3 = .ok (.bipush 90, 2) := by decide +kernel
theorem dX0_tryAll_5 : decode cX0_tryAll 5 = .ok (.if_icmp .ge 28, 3) := by decide +kernel
theorem dX0_tryAll_8 : decode cX0_tryAll 8 = .ok (.aload_n 0, 1) := by decide +kernel
theorem dX0_tryAll_9 : decode cX0_tryAll 9 = .ok (.getfield 9, 3) := by decide +kernel
theorem dX0_tryAll_12 : decode cX0_tryAll 12 = .ok (.iload_n 3, 1) := by decide +kernel
theorem dX0_tryAll_13 : decode cX0_tryAll 13 = .ok (.aload_n 1, 1) := by decide +kernel
theorem dX0_tryAll_14 : decode cX0_tryAll 14 = .ok (.iload_n 2, 1) := by decide +kernel
theorem dX0_tryAll_15 : decode cX0_tryAll 15 = .ok (.iload_n 3, 1) := by decide +kernel
theorem dX0_tryAll_16 : decode cX0_tryAll 16 = .ok (.invokestatic 20, 3) := by decide +kernel
theorem dX0_tryAll_19 : decode cX0_tryAll 19 = .ok (.iload_n 3, 1) := by decide +kernel
theorem dX0_tryAll_20 : decode cX0_tryAll 20 = .ok (.invokestatic 24, 3) := by decide +kernel
theorem dX0_tryAll_23 : decode cX0_tryAll 23 = .ok (.invokevirtual 27, 3) := by decide +kernel
theorem dX0_tryAll_26 : decode cX0_tryAll 26 = .ok (.iastore, 1) := by decide +kernel
theorem dX0_tryAll_27 : decode cX0_tryAll 27 = .ok (.iinc 3 1, 3) := by decide +kernel
theorem dX0_tryAll_30 : decode cX0_tryAll 30 = .ok (.goto (-28), 3) := by decide +kernel
theorem dX0_tryAll_33 : decode cX0_tryAll 33 = .ok (.return_, 1) := by decide +kernel
theorem dX0_pullsInto_0 : decode cX0_pullsInto 0 = .ok (.iconst 0, 1) := by decide +kernel
theorem dX0_pullsInto_1 : decode cX0_pullsInto 1 = .ok (.istore_n 2, 1) := by decide +kernel
theorem dX0_pullsInto_2 : decode cX0_pullsInto 2 = .ok (.iconst 0, 1) := by decide +kernel
theorem dX0_pullsInto_3 : decode cX0_pullsInto 3 = .ok (.istore_n 3, 1) := by decide +kernel
theorem dX0_pullsInto_4 : decode cX0_pullsInto 4 = .ok (.iload_n 3, 1) := by decide +kernel
theorem dX0_pullsInto_5 : decode cX0_pullsInto 5 = .ok (.bipush 90, 2) := by decide +kernel
theorem dX0_pullsInto_7 : decode cX0_pullsInto 7 = .ok (.if_icmp .ge 27, 3) := by decide +kernel
theorem dX0_pullsInto_10 : decode cX0_pullsInto 10 = .ok (.iload_n 2, 1) := by decide +kernel
theorem dX0_pullsInto_11 : decode cX0_pullsInto 11 = .ok (.aload_n 0, 1) := by decide +kernel
theorem dX0_pullsInto_12 : decode cX0_pullsInto 12 = .ok (.getfield 9, 3) := by decide +kernel
theorem dX0_pullsInto_15 : decode cX0_pullsInto 15 = .ok (.iload_n 3, 1) := by decide +kernel
theorem dX0_pullsInto_16 : decode cX0_pullsInto 16 = .ok (.iaload, 1) := by decide +kernel
theorem dX0_pullsInto_17 : decode cX0_pullsInto 17 = .ok (.iload_n 1, 1) := by decide +kernel
theorem dX0_pullsInto_18 : decode cX0_pullsInto 18 = .ok (.if_icmp .ne 7, 3) := by decide +kernel
theorem dX0_pullsInto_21 : decode cX0_pullsInto 21 = .ok (.iconst 1, 1) := by decide +kernel
theorem dX0_pullsInto_22 : decode cX0_pullsInto 22 = .ok (.goto 4, 3) := by decide +kernel
theorem dX0_pullsInto_25 : decode cX0_pullsInto 25 = .ok (.iconst 0, 1) := by decide +kernel
theorem dX0_pullsInto_26 : decode cX0_pullsInto 26 = .ok (.iadd, 1) := by decide +kernel
theorem dX0_pullsInto_27 : decode cX0_pullsInto 27 = .ok (.istore_n 2, 1) := by decide +kernel
theorem dX0_pullsInto_28 : decode cX0_pullsInto 28 = .ok (.iinc 3 1, 3) := by decide +kernel
theorem dX0_pullsInto_31 : decode cX0_pullsInto 31 = .ok (.goto (-27), 3) := by decide +kernel
theorem dX0_pullsInto_34 : decode cX0_pullsInto 34 = .ok (.iload_n 2, 1) := by decide +kernel
theorem dX0_pullsInto_35 : decode cX0_pullsInto 35 = .ok (.ireturn, 1) := by decide +kernel
theorem dX0_seekCells_0 : decode cX0_seekCells 0 = .ok (.aload_n 0, 1) := by decide +kernel
theorem dX0_seekCells_1 : decode cX0_seekCells 1 = .ok (.iconst 0, 1) := by decide +kernel
theorem dX0_seekCells_2 : decode cX0_seekCells 2 = .ok (.putfield 33, 3) := by decide +kernel
theorem dX0_seekCells_5 : decode cX0_seekCells 5 = .ok (.aload_n 0, 1) := by decide +kernel
theorem dX0_seekCells_6 : decode cX0_seekCells 6 = .ok (.iconst 0, 1) := by decide +kernel
theorem dX0_seekCells_7 : decode cX0_seekCells 7 = .ok (.putfield 37, 3) := by decide +kernel
theorem dX0_seekCells_10 : decode cX0_seekCells 10 = .ok (.iconst 0, 1) := by decide +kernel
theorem dX0_seekCells_11 : decode cX0_seekCells 11 = .ok (.istore_n 2, 1) := by decide +kernel
theorem dX0_seekCells_12 : decode cX0_seekCells 12 = .ok (.iload_n 2, 1) := by decide +kernel
theorem dX0_seekCells_13 : decode cX0_seekCells 13 = .ok (.bipush 90, 2) := by decide +kernel
theorem dX0_seekCells_15 : decode cX0_seekCells 15 = .ok (.if_icmp .ge 16, 3) := by decide +kernel
theorem dX0_seekCells_18 : decode cX0_seekCells 18 = .ok (.aload_n 0, 1) := by decide +kernel
theorem dX0_seekCells_19 : decode cX0_seekCells 19 = .ok (.getfield 13, 3) := by decide +kernel
theorem dX0_seekCells_22 : decode cX0_seekCells 22 = .ok (.iload_n 2, 1) := by decide +kernel
theorem dX0_seekCells_23 : decode cX0_seekCells 23 = .ok (.iconst 0, 1) := by decide +kernel
theorem dX0_seekCells_24 : decode cX0_seekCells 24 = .ok (.bastore, 1) := by decide +kernel
theorem dX0_seekCells_25 : decode cX0_seekCells 25 = .ok (.iinc 2 1, 3) := by decide +kernel
theorem dX0_seekCells_28 : decode cX0_seekCells 28 = .ok (.goto (-16), 3) := by decide +kernel
theorem dX0_seekCells_31 : decode cX0_seekCells 31 = .ok (.iconst 0, 1) := by decide +kernel
theorem dX0_seekCells_32 : decode cX0_seekCells 32 = .ok (.istore_n 2, 1) := by decide +kernel
theorem dX0_seekCells_33 : decode cX0_seekCells 33 = .ok (.iload_n 2, 1) := by decide +kernel
theorem dX0_seekCells_34 : decode cX0_seekCells 34 = .ok (.bipush 90, 2) := by decide +kernel
theorem dX0_seekCells_36 : decode cX0_seekCells 36 = .ok (.if_icmp .ge 42, 3) := by decide +kernel
theorem dX0_seekCells_39 : decode cX0_seekCells 39 = .ok (.aload_n 0, 1) := by decide +kernel
theorem dX0_seekCells_40 : decode cX0_seekCells 40 = .ok (.iload_n 2, 1) := by decide +kernel
theorem dX0_seekCells_41 : decode cX0_seekCells 41 = .ok (.iload_n 1, 1) := by decide +kernel
theorem dX0_seekCells_42 : decode cX0_seekCells 42 = .ok (.invokevirtual 40, 3) := by decide +kernel
theorem dX0_seekCells_45 : decode cX0_seekCells 45 = .ok (.istore_n 3, 1) := by decide +kernel
theorem dX0_seekCells_46 : decode cX0_seekCells 46 = .ok (.iload_n 3, 1) := by decide +kernel
theorem dX0_seekCells_47 : decode cX0_seekCells 47 = .ok (.ifCond .le 25, 3) := by decide +kernel
theorem dX0_seekCells_50 : decode cX0_seekCells 50 = .ok (.aload_n 0, 1) := by decide +kernel
theorem dX0_seekCells_51 : decode cX0_seekCells 51 = .ok (.dup, 1) := by decide +kernel
theorem dX0_seekCells_52 : decode cX0_seekCells 52 = .ok (.getfield 33, 3) := by decide +kernel
theorem dX0_seekCells_55 : decode cX0_seekCells 55 = .ok (.iconst 1, 1) := by decide +kernel
theorem dX0_seekCells_56 : decode cX0_seekCells 56 = .ok (.iadd, 1) := by decide +kernel
theorem dX0_seekCells_57 : decode cX0_seekCells 57 = .ok (.putfield 33, 3) := by decide +kernel
theorem dX0_seekCells_60 : decode cX0_seekCells 60 = .ok (.aload_n 0, 1) := by decide +kernel
theorem dX0_seekCells_61 : decode cX0_seekCells 61 = .ok (.aload_n 0, 1) := by decide +kernel
theorem dX0_seekCells_62 : decode cX0_seekCells 62 = .ok (.getfield 37, 3) := by decide +kernel
theorem dX0_seekCells_65 : decode cX0_seekCells 65 = .ok (.iload_n 3, 1) := by decide +kernel
theorem dX0_seekCells_66 : decode cX0_seekCells 66 = .ok (.invokestatic 44, 3) := by decide +kernel
theorem dX0_seekCells_69 : decode cX0_seekCells 69 = .ok (.putfield 37, 3) := by decide +kernel
theorem dX0_seekCells_72 : decode cX0_seekCells 72 = .ok (.iinc 2 1, 3) := by decide +kernel
theorem dX0_seekCells_75 : decode cX0_seekCells 75 = .ok (.goto (-42), 3) := by decide +kernel
theorem dX0_seekCells_78 : decode cX0_seekCells 78 = .ok (.return_, 1) := by decide +kernel
theorem dX0_cellFrom_0 : decode cX0_cellFrom 0 = .ok (.aload_n 0, 1) := by decide +kernel
theorem dX0_cellFrom_1 : decode cX0_cellFrom 1 = .ok (.iload_n 1, 1) := by decide +kernel
theorem dX0_cellFrom_2 : decode cX0_cellFrom 2 = .ok (.iload_n 2, 1) := by decide +kernel
theorem dX0_cellFrom_3 : decode cX0_cellFrom 3 = .ok (.iconst 0, 1) := by decide +kernel
theorem dX0_cellFrom_4 : decode cX0_cellFrom 4 = .ok (.invokevirtual 49, 3) := by decide +kernel
theorem dX0_cellFrom_7 : decode cX0_cellFrom 7 = .ok (.istore_n 3, 1) := by decide +kernel
theorem dX0_cellFrom_8 : decode cX0_cellFrom 8 = .ok (.iconst 0, 1) := by decide +kernel
theorem dX0_cellFrom_9 : decode cX0_cellFrom 9 = .ok (.istore 4, 2) := by decide +kernel
theorem dX0_cellFrom_11 : decode cX0_cellFrom 11 = .ok (.iload 4, 2) := by decide +kernel
theorem dX0_cellFrom_13 : decode cX0_cellFrom 13 = .ok (.iload_n 3, 1) := by decide +kernel
theorem dX0_cellFrom_14 : decode cX0_cellFrom 14 = .ok (.if_icmp .ge 98, 3) := by decide +kernel
theorem dX0_cellFrom_17 : decode cX0_cellFrom 17 = .ok (.iload 4, 2) := by decide +kernel
theorem dX0_cellFrom_19 : decode cX0_cellFrom 19 = .ok (.bipush 90, 2) := by decide +kernel
theorem dX0_cellFrom_21 : decode cX0_cellFrom 21 = .ok (.if_icmp .ge 91, 3) := by decide +kernel
theorem dX0_cellFrom_24 : decode cX0_cellFrom 24 = .ok (.aload_n 0, 1) := by decide +kernel
theorem dX0_cellFrom_25 : decode cX0_cellFrom 25 = .ok (.getfield 17, 3) := by decide +kernel
theorem dX0_cellFrom_28 : decode cX0_cellFrom 28 = .ok (.iload 4, 2) := by decide +kernel
theorem dX0_cellFrom_30 : decode cX0_cellFrom 30 = .ok (.iaload, 1) := by decide +kernel
theorem dX0_cellFrom_31 : decode cX0_cellFrom 31 = .ok (.istore 5, 2) := by decide +kernel
theorem dX0_cellFrom_33 : decode cX0_cellFrom 33 = .ok (.iload 5, 2) := by decide +kernel
theorem dX0_cellFrom_35 : decode cX0_cellFrom 35 = .ok (.invokestatic 24, 3) := by decide +kernel
theorem dX0_cellFrom_38 : decode cX0_cellFrom 38 = .ok (.istore 6, 2) := by decide +kernel
theorem dX0_cellFrom_40 : decode cX0_cellFrom 40 = .ok (.iload 6, 2) := by decide +kernel
theorem dX0_cellFrom_42 : decode cX0_cellFrom 42 = .ok (.ifCond .le 16, 3) := by decide +kernel
theorem dX0_cellFrom_45 : decode cX0_cellFrom 45 = .ok (.aload_n 0, 1) := by decide +kernel
theorem dX0_cellFrom_46 : decode cX0_cellFrom 46 = .ok (.iload 5, 2) := by decide +kernel
theorem dX0_cellFrom_48 : decode cX0_cellFrom 48 = .ok (.iconst 1, 1) := by decide +kernel
theorem dX0_cellFrom_49 : decode cX0_cellFrom 49 = .ok (.isub, 1) := by decide +kernel
theorem dX0_cellFrom_50 : decode cX0_cellFrom 50 = .ok (.iload_n 2, 1) := by decide +kernel
theorem dX0_cellFrom_51 : decode cX0_cellFrom 51 = .ok (.iload_n 3, 1) := by decide +kernel
theorem dX0_cellFrom_52 : decode cX0_cellFrom 52 = .ok (.invokevirtual 49, 3) := by decide +kernel
theorem dX0_cellFrom_55 : decode cX0_cellFrom 55 = .ok (.goto 4, 3) := by decide +kernel
theorem dX0_cellFrom_58 : decode cX0_cellFrom 58 = .ok (.iload_n 3, 1) := by decide +kernel
theorem dX0_cellFrom_59 : decode cX0_cellFrom 59 = .ok (.istore_n 3, 1) := by decide +kernel
theorem dX0_cellFrom_60 : decode cX0_cellFrom 60 = .ok (.iload 6, 2) := by decide +kernel
theorem dX0_cellFrom_62 : decode cX0_cellFrom 62 = .ok (.bipush 9, 2) := by decide +kernel
theorem dX0_cellFrom_64 : decode cX0_cellFrom 64 = .ok (.if_icmp .ge 16, 3) := by decide +kernel
theorem dX0_cellFrom_67 : decode cX0_cellFrom 67 = .ok (.aload_n 0, 1) := by decide +kernel
theorem dX0_cellFrom_68 : decode cX0_cellFrom 68 = .ok (.iload 5, 2) := by decide +kernel
theorem dX0_cellFrom_70 : decode cX0_cellFrom 70 = .ok (.iconst 1, 1) := by decide +kernel
theorem dX0_cellFrom_71 : decode cX0_cellFrom 71 = .ok (.iadd, 1) := by decide +kernel
theorem dX0_cellFrom_72 : decode cX0_cellFrom 72 = .ok (.iload_n 2, 1) := by decide +kernel
theorem dX0_cellFrom_73 : decode cX0_cellFrom 73 = .ok (.iload_n 3, 1) := by decide +kernel
theorem dX0_cellFrom_74 : decode cX0_cellFrom 74 = .ok (.invokevirtual 49, 3) := by decide +kernel
theorem dX0_cellFrom_77 : decode cX0_cellFrom 77 = .ok (.goto 4, 3) := by decide +kernel
theorem dX0_cellFrom_80 : decode cX0_cellFrom 80 = .ok (.iload_n 3, 1) := by decide +kernel
theorem dX0_cellFrom_81 : decode cX0_cellFrom 81 = .ok (.istore_n 3, 1) := by decide +kernel
theorem dX0_cellFrom_82 : decode cX0_cellFrom 82 = .ok (.aload_n 0, 1) := by decide +kernel
theorem dX0_cellFrom_83 : decode cX0_cellFrom 83 = .ok (.iload 5, 2) := by decide +kernel
theorem dX0_cellFrom_85 : decode cX0_cellFrom 85 = .ok (.bipush 10, 2) := by decide +kernel
theorem dX0_cellFrom_87 : decode cX0_cellFrom 87 = .ok (.isub, 1) := by decide +kernel
theorem dX0_cellFrom_88 : decode cX0_cellFrom 88 = .ok (.iload_n 2, 1) := by decide +kernel
theorem dX0_cellFrom_89 : decode cX0_cellFrom 89 = .ok (.iload_n 3, 1) := by decide +kernel
theorem dX0_cellFrom_90 : decode cX0_cellFrom 90 = .ok (.invokevirtual 49, 3) := by decide +kernel
theorem dX0_cellFrom_93 : decode cX0_cellFrom 93 = .ok (.istore_n 3, 1) := by decide +kernel
theorem dX0_cellFrom_94 : decode cX0_cellFrom 94 = .ok (.aload_n 0, 1) := by decide +kernel
theorem dX0_cellFrom_95 : decode cX0_cellFrom 95 = .ok (.iload 5, 2) := by decide +kernel
theorem dX0_cellFrom_97 : decode cX0_cellFrom 97 = .ok (.bipush 10, 2) := by decide +kernel
theorem dX0_cellFrom_99 : decode cX0_cellFrom 99 = .ok (.iadd, 1) := by decide +kernel
theorem dX0_cellFrom_100 : decode cX0_cellFrom 100 = .ok (.iload_n 2, 1) := by decide +kernel
theorem dX0_cellFrom_101 : decode cX0_cellFrom 101 = .ok (.iload_n 3, 1) := by decide +kernel
theorem dX0_cellFrom_102 : decode cX0_cellFrom 102 = .ok (.invokevirtual 49, 3) := by decide +kernel
theorem dX0_cellFrom_105 : decode cX0_cellFrom 105 = .ok (.istore_n 3, 1) := by decide +kernel
theorem dX0_cellFrom_106 : decode cX0_cellFrom 106 = .ok (.iinc 4 1, 3) := by decide +kernel
theorem dX0_cellFrom_109 : decode cX0_cellFrom 109 = .ok (.goto (-98), 3) := by decide +kernel
theorem dX0_cellFrom_112 : decode cX0_cellFrom 112 = .ok (.iload_n 3, 1) := by decide +kernel
theorem dX0_cellFrom_113 : decode cX0_cellFrom 113 = .ok (.ireturn, 1) := by decide +kernel
theorem dX0_join_0 : decode cX0_join 0 = .ok (.iload_n 1, 1) := by decide +kernel
theorem dX0_join_1 : decode cX0_join 1 = .ok (.ifCond .lt 34, 3) := by decide +kernel
theorem dX0_join_4 : decode cX0_join 4 = .ok (.iload_n 1, 1) := by decide +kernel
theorem dX0_join_5 : decode cX0_join 5 = .ok (.bipush 90, 2) := by decide +kernel
theorem dX0_join_7 : decode cX0_join 7 = .ok (.if_icmp .ge 28, 3) := by decide +kernel
theorem dX0_join_10 : decode cX0_join 10 = .ok (.iload_n 3, 1) := by decide +kernel
theorem dX0_join_11 : decode cX0_join 11 = .ok (.bipush 90, 2) := by decide +kernel
theorem dX0_join_13 : decode cX0_join 13 = .ok (.if_icmp .ge 22, 3) := by decide +kernel
theorem dX0_join_16 : decode cX0_join 16 = .ok (.aload_n 0, 1) := by decide +kernel
theorem dX0_join_17 : decode cX0_join 17 = .ok (.getfield 13, 3) := by decide +kernel
theorem dX0_join_20 : decode cX0_join 20 = .ok (.iload_n 1, 1) := by decide +kernel
theorem dX0_join_21 : decode cX0_join 21 = .ok (.baload, 1) := by decide +kernel
theorem dX0_join_22 : decode cX0_join 22 = .ok (.ifCond .ne 13, 3) := by decide +kernel
theorem dX0_join_25 : decode cX0_join 25 = .ok (.aload_n 0, 1) := by decide +kernel
theorem dX0_join_26 : decode cX0_join 26 = .ok (.getfield 9, 3) := by decide +kernel
theorem dX0_join_29 : decode cX0_join 29 = .ok (.iload_n 1, 1) := by decide +kernel
theorem dX0_join_30 : decode cX0_join 30 = .ok (.iaload, 1) := by decide +kernel
theorem dX0_join_31 : decode cX0_join 31 = .ok (.iload_n 2, 1) := by decide +kernel
theorem dX0_join_32 : decode cX0_join 32 = .ok (.if_icmp .eq 5, 3) := by decide +kernel
theorem dX0_join_35 : decode cX0_join 35 = .ok (.iload_n 3, 1) := by decide +kernel
theorem dX0_join_36 : decode cX0_join 36 = .ok (.ireturn, 1) := by decide +kernel
theorem dX0_join_37 : decode cX0_join 37 = .ok (.aload_n 0, 1) := by decide +kernel
theorem dX0_join_38 : decode cX0_join 38 = .ok (.getfield 13, 3) := by decide +kernel
theorem dX0_join_41 : decode cX0_join 41 = .ok (.iload_n 1, 1) := by decide +kernel
theorem dX0_join_42 : decode cX0_join 42 = .ok (.iconst 1, 1) := by decide +kernel
theorem dX0_join_43 : decode cX0_join 43 = .ok (.bastore, 1) := by decide +kernel
theorem dX0_join_44 : decode cX0_join 44 = .ok (.aload_n 0, 1) := by decide +kernel
theorem dX0_join_45 : decode cX0_join 45 = .ok (.getfield 17, 3) := by decide +kernel
theorem dX0_join_48 : decode cX0_join 48 = .ok (.iload_n 3, 1) := by decide +kernel
theorem dX0_join_49 : decode cX0_join 49 = .ok (.iload_n 1, 1) := by decide +kernel
theorem dX0_join_50 : decode cX0_join 50 = .ok (.iastore, 1) := by decide +kernel
theorem dX0_join_51 : decode cX0_join 51 = .ok (.iload_n 3, 1) := by decide +kernel
theorem dX0_join_52 : decode cX0_join 52 = .ok (.iconst 1, 1) := by decide +kernel
theorem dX0_join_53 : decode cX0_join 53 = .ok (.iadd, 1) := by decide +kernel
theorem dX0_join_54 : decode cX0_join 54 = .ok (.ireturn, 1) := by decide +kernel
theorem dX0_middleOf_0 : decode cX0_middleOf 0 = .ok (.iconst (-1), 1) := by decide +kernel
theorem dX0_middleOf_1 : decode cX0_middleOf 1 = .ok (.istore_n 2, 1) := by decide +kernel
theorem dX0_middleOf_2 : decode cX0_middleOf 2 = .ok (.iconst (-1), 1) := by decide +kernel
theorem dX0_middleOf_3 : decode cX0_middleOf 3 = .ok (.istore_n 3, 1) := by decide +kernel
theorem dX0_middleOf_4 : decode cX0_middleOf 4 = .ok (.iconst 0, 1) := by decide +kernel
theorem dX0_middleOf_5 : decode cX0_middleOf 5 = .ok (.istore 4, 2) := by decide +kernel
theorem dX0_middleOf_7 : decode cX0_middleOf 7 = .ok (.iload 4, 2) := by decide +kernel
theorem dX0_middleOf_9 : decode cX0_middleOf 9 = .ok (.bipush 90, 2) := by decide +kernel
theorem dX0_middleOf_11 : decode cX0_middleOf 11 = .ok (.if_icmp .ge 42, 3) := by decide +kernel
theorem dX0_middleOf_14 : decode cX0_middleOf 14 = .ok (.aload_n 0, 1) := by decide +kernel
theorem dX0_middleOf_15 : decode cX0_middleOf 15 = .ok (.getfield 9, 3) := by decide +kernel
theorem dX0_middleOf_18 : decode cX0_middleOf 18 = .ok (.iload 4, 2) := by decide +kernel
theorem dX0_middleOf_20 : decode cX0_middleOf 20 = .ok (.iaload, 1) := by decide +kernel
theorem dX0_middleOf_21 : decode cX0_middleOf 21 = .ok (.iload_n 1, 1) := by decide +kernel
theorem dX0_middleOf_22 : decode cX0_middleOf 22 = .ok (.if_icmp .ne 25, 3) := by decide +kernel
theorem dX0_middleOf_25 : decode cX0_middleOf 25 = .ok (.aload_n 0, 1) := by decide +kernel
theorem dX0_middleOf_26 : decode cX0_middleOf 26 = .ok (.iload 4, 2) := by decide +kernel
theorem dX0_middleOf_28 : decode cX0_middleOf 28 = .ok (.iload_n 1, 1) := by decide +kernel
theorem dX0_middleOf_29 : decode cX0_middleOf 29 = .ok (.invokevirtual 52, 3) := by decide +kernel
theorem dX0_middleOf_32 : decode cX0_middleOf 32 = .ok (.iload_n 3, 1) := by decide +kernel
theorem dX0_middleOf_33 : decode cX0_middleOf 33 = .ok (.if_icmp .le 14, 3) := by decide +kernel
theorem dX0_middleOf_36 : decode cX0_middleOf 36 = .ok (.aload_n 0, 1) := by decide +kernel
theorem dX0_middleOf_37 : decode cX0_middleOf 37 = .ok (.iload 4, 2) := by decide +kernel
theorem dX0_middleOf_39 : decode cX0_middleOf 39 = .ok (.iload_n 1, 1) := by decide +kernel
theorem dX0_middleOf_40 : decode cX0_middleOf 40 = .ok (.invokevirtual 52, 3) := by decide +kernel
theorem dX0_middleOf_43 : decode cX0_middleOf 43 = .ok (.istore_n 3, 1) := by decide +kernel
theorem dX0_middleOf_44 : decode cX0_middleOf 44 = .ok (.iload 4, 2) := by decide +kernel
theorem dX0_middleOf_46 : decode cX0_middleOf 46 = .ok (.istore_n 2, 1) := by decide +kernel
theorem dX0_middleOf_47 : decode cX0_middleOf 47 = .ok (.iinc 4 1, 3) := by decide +kernel
theorem dX0_middleOf_50 : decode cX0_middleOf 50 = .ok (.goto (-43), 3) := by decide +kernel
theorem dX0_middleOf_53 : decode cX0_middleOf 53 = .ok (.iload_n 2, 1) := by decide +kernel
theorem dX0_middleOf_54 : decode cX0_middleOf 54 = .ok (.ireturn, 1) := by decide +kernel
theorem dX0_ringsRound_0 : decode cX0_ringsRound 0 = .ok (.iconst 0, 1) := by decide +kernel
theorem dX0_ringsRound_1 : decode cX0_ringsRound 1 = .ok (.istore_n 3, 1) := by decide +kernel
theorem dX0_ringsRound_2 : decode cX0_ringsRound 2 = .ok (.iload_n 3, 1) := by decide +kernel
theorem dX0_ringsRound_3 : decode cX0_ringsRound 3 = .ok (.iconst 4, 1) := by decide +kernel
theorem dX0_ringsRound_4 : decode cX0_ringsRound 4 = .ok (.if_icmp .ge 28, 3) := by decide +kernel
theorem dX0_ringsRound_7 : decode cX0_ringsRound 7 = .ok (.aload_n 0, 1) := by decide +kernel
theorem dX0_ringsRound_8 : decode cX0_ringsRound 8 = .ok (.iload_n 1, 1) := by decide +kernel
theorem dX0_ringsRound_9 : decode cX0_ringsRound 9 = .ok (.invokestatic 20, 3) := by decide +kernel
theorem dX0_ringsRound_12 : decode cX0_ringsRound 12 = .ok (.iload_n 1, 1) := by decide +kernel
theorem dX0_ringsRound_13 : decode cX0_ringsRound 13 = .ok (.invokestatic 24, 3) := by decide +kernel
theorem dX0_ringsRound_16 : decode cX0_ringsRound 16 = .ok (.iload_n 3, 1) := by decide +kernel
theorem dX0_ringsRound_17 : decode cX0_ringsRound 17 = .ok (.iconst 1, 1) := by decide +kernel
theorem dX0_ringsRound_18 : decode cX0_ringsRound 18 = .ok (.iadd, 1) := by decide +kernel
theorem dX0_ringsRound_19 : decode cX0_ringsRound 19 = .ok (.iload_n 2, 1) := by decide +kernel
theorem dX0_ringsRound_20 : decode cX0_ringsRound 20 = .ok (.invokevirtual 55, 3) := by decide +kernel
theorem dX0_ringsRound_23 : decode cX0_ringsRound 23 = .ok (.ifCond .eq 9, 3) := by decide +kernel
theorem dX0_ringsRound_26 : decode cX0_ringsRound 26 = .ok (.iinc 3 1, 3) := by decide +kernel
theorem dX0_ringsRound_29 : decode cX0_ringsRound 29 = .ok (.goto (-27), 3) := by decide +kernel
theorem dX0_ringsRound_32 : decode cX0_ringsRound 32 = .ok (.iload_n 3, 1) := by decide +kernel
theorem dX0_ringsRound_33 : decode cX0_ringsRound 33 = .ok (.ireturn, 1) := by decide +kernel
theorem dX0_isWhole_0 : decode cX0_isWhole 0 = .ok (.iload_n 1, 1) := by decide +kernel
theorem dX0_isWhole_1 : decode cX0_isWhole 1 = .ok (.iload_n 3, 1) := by decide +kernel
theorem dX0_isWhole_2 : decode cX0_isWhole 2 = .ok (.isub, 1) := by decide +kernel
theorem dX0_isWhole_3 : decode cX0_isWhole 3 = .ok (.bipush (-4), 2) := by decide +kernel
theorem dX0_isWhole_5 : decode cX0_isWhole 5 = .ok (.if_icmp .lt 24, 3) := by decide +kernel
theorem dX0_isWhole_8 : decode cX0_isWhole 8 = .ok (.iload_n 1, 1) := by decide +kernel
theorem dX0_isWhole_9 : decode cX0_isWhole 9 = .ok (.iload_n 3, 1) := by decide +kernel
theorem dX0_isWhole_10 : decode cX0_isWhole 10 = .ok (.iadd, 1) := by decide +kernel
theorem dX0_isWhole_11 : decode cX0_isWhole 11 = .ok (.iconst 4, 1) := by decide +kernel
theorem dX0_isWhole_12 : decode cX0_isWhole 12 = .ok (.if_icmp .gt 17, 3) := by decide +kernel
theorem dX0_isWhole_15 : decode cX0_isWhole 15 = .ok (.iload_n 2, 1) := by decide +kernel
theorem dX0_isWhole_16 : decode cX0_isWhole 16 = .ok (.iload_n 3, 1) := by decide +kernel
theorem dX0_isWhole_17 : decode cX0_isWhole 17 = .ok (.isub, 1) := by decide +kernel
theorem dX0_isWhole_18 : decode cX0_isWhole 18 = .ok (.ifCond .lt 11, 3) := by decide +kernel
theorem dX0_isWhole_21 : decode cX0_isWhole 21 = .ok (.iload_n 2, 1) := by decide +kernel
theorem dX0_isWhole_22 : decode cX0_isWhole 22 = .ok (.iload_n 3, 1) := by decide +kernel
theorem dX0_isWhole_23 : decode cX0_isWhole 23 = .ok (.iadd, 1) := by decide +kernel
theorem dX0_isWhole_24 : decode cX0_isWhole 24 = .ok (.bipush 9, 2) := by decide +kernel
theorem dX0_isWhole_26 : decode cX0_isWhole 26 = .ok (.if_icmp .le 5, 3) := by decide +kernel
theorem dX0_isWhole_29 : decode cX0_isWhole 29 = .ok (.iconst 0, 1) := by decide +kernel
theorem dX0_isWhole_30 : decode cX0_isWhole 30 = .ok (.ireturn, 1) := by decide +kernel
theorem dX0_isWhole_31 : decode cX0_isWhole 31 = .ok (.iload_n 1, 1) := by decide +kernel
theorem dX0_isWhole_32 : decode cX0_isWhole 32 = .ok (.iload_n 3, 1) := by decide +kernel
theorem dX0_isWhole_33 : decode cX0_isWhole 33 = .ok (.isub, 1) := by decide +kernel
theorem dX0_isWhole_34 : decode cX0_isWhole 34 = .ok (.istore 5, 2) := by decide +kernel
theorem dX0_isWhole_36 : decode cX0_isWhole 36 = .ok (.iload 5, 2) := by decide +kernel
theorem dX0_isWhole_38 : decode cX0_isWhole 38 = .ok (.iload_n 1, 1) := by decide +kernel
theorem dX0_isWhole_39 : decode cX0_isWhole 39 = .ok (.iload_n 3, 1) := by decide +kernel
theorem dX0_isWhole_40 : decode cX0_isWhole 40 = .ok (.iadd, 1) := by decide +kernel
theorem dX0_isWhole_41 : decode cX0_isWhole 41 = .ok (.if_icmp .gt 53, 3) := by decide +kernel
theorem dX0_isWhole_44 : decode cX0_isWhole 44 = .ok (.iload_n 2, 1) := by decide +kernel
theorem dX0_isWhole_45 : decode cX0_isWhole 45 = .ok (.iload_n 3, 1) := by decide +kernel
theorem dX0_isWhole_46 : decode cX0_isWhole 46 = .ok (.isub, 1) := by decide +kernel
theorem dX0_isWhole_47 : decode cX0_isWhole 47 = .ok (.istore 6, 2) := by decide +kernel
theorem dX0_isWhole_49 : decode cX0_isWhole 49 = .ok (.iload 6, 2) := by decide +kernel
theorem dX0_isWhole_51 : decode cX0_isWhole 51 = .ok (.iload_n 2, 1) := by decide +kernel
theorem dX0_isWhole_52 : decode cX0_isWhole 52 = .ok (.iload_n 3, 1) := by decide +kernel
theorem dX0_isWhole_53 : decode cX0_isWhole 53 = .ok (.iadd, 1) := by decide +kernel
theorem dX0_isWhole_54 : decode cX0_isWhole 54 = .ok (.if_icmp .gt 34, 3) := by decide +kernel
theorem dX0_isWhole_57 : decode cX0_isWhole 57 = .ok (.aload_n 0, 1) := by decide +kernel
theorem dX0_isWhole_58 : decode cX0_isWhole 58 = .ok (.getfield 9, 3) := by decide +kernel
theorem dX0_isWhole_61 : decode cX0_isWhole 61 = .ok (.iload 5, 2) := by decide +kernel
theorem dX0_isWhole_63 : decode cX0_isWhole 63 = .ok (.bipush (-4), 2) := by decide +kernel
theorem dX0_isWhole_65 : decode cX0_isWhole 65 = .ok (.isub, 1) := by decide +kernel
theorem dX0_isWhole_66 : decode cX0_isWhole 66 = .ok (.bipush 10, 2) := by decide +kernel
theorem dX0_isWhole_68 : decode cX0_isWhole 68 = .ok (.imul, 1) := by decide +kernel
theorem dX0_isWhole_69 : decode cX0_isWhole 69 = .ok (.iload 6, 2) := by decide +kernel
theorem dX0_isWhole_71 : decode cX0_isWhole 71 = .ok (.iadd, 1) := by decide +kernel
theorem dX0_isWhole_72 : decode cX0_isWhole 72 = .ok (.iconst 0, 1) := by decide +kernel
theorem dX0_isWhole_73 : decode cX0_isWhole 73 = .ok (.isub, 1) := by decide +kernel
theorem dX0_isWhole_74 : decode cX0_isWhole 74 = .ok (.iaload, 1) := by decide +kernel
theorem dX0_isWhole_75 : decode cX0_isWhole 75 = .ok (.iload 4, 2) := by decide +kernel
theorem dX0_isWhole_77 : decode cX0_isWhole 77 = .ok (.if_icmp .eq 5, 3) := by decide +kernel
theorem dX0_isWhole_80 : decode cX0_isWhole 80 = .ok (.iconst 0, 1) := by decide +kernel
theorem dX0_isWhole_81 : decode cX0_isWhole 81 = .ok (.ireturn, 1) := by decide +kernel
theorem dX0_isWhole_82 : decode cX0_isWhole 82 = .ok (.iinc 6 1, 3) := by decide +kernel
theorem dX0_isWhole_85 : decode cX0_isWhole 85 = .ok (.goto (-36), 3) := by decide +kernel
theorem dX0_isWhole_88 : decode cX0_isWhole 88 = .ok (.iinc 5 1, 3) := by decide +kernel
theorem dX0_isWhole_91 : decode cX0_isWhole 91 = .ok (.goto (-55), 3) := by decide +kernel
theorem dX0_isWhole_94 : decode cX0_isWhole 94 = .ok (.iconst 1, 1) := by decide +kernel
theorem dX0_isWhole_95 : decode cX0_isWhole 95 = .ok (.ireturn, 1) := by decide +kernel
theorem dX1_init_0 : decode cX1_init 0 = .ok (.aload_n 0, 1) := by decide +kernel
theorem dX1_init_1 : decode cX1_init 1 = .ok (.invokespecial 3, 3) := by decide +kernel
theorem dX1_init_4 : decode cX1_init 4 = .ok (.aload_n 0, 1) := by decide +kernel
theorem dX1_init_5 : decode cX1_init 5 = .ok (.aload_n 1, 1) := by decide +kernel
theorem dX1_init_6 : decode cX1_init 6 = .ok (.putfield 9, 3) := by decide +kernel
theorem dX1_init_9 : decode cX1_init 9 = .ok (.return_, 1) := by decide +kernel
theorem dX1_begin_0 : decode cX1_begin 0 = .ok (.aload_n 0, 1) := by decide +kernel
theorem dX1_begin_1 : decode cX1_begin 1 = .ok (.iload_n 1, 1) := by decide +kernel
theorem dX1_begin_2 : decode cX1_begin 2 = .ok (.putfield 15, 3) := by decide +kernel
theorem dX1_begin_5 : decode cX1_begin 5 = .ok (.aload_n 0, 1) := by decide +kernel
theorem dX1_begin_6 : decode cX1_begin 6 = .ok (.iload_n 2, 1) := by decide +kernel
theorem dX1_begin_7 : decode cX1_begin 7 = .ok (.putfield 19, 3) := by decide +kernel
theorem dX1_begin_10 : decode cX1_begin 10 = .ok (.aload_n 0, 1) := by decide +kernel
theorem dX1_begin_11 : decode cX1_begin 11 = .ok (.iconst (-1), 1) := by decide +kernel
theorem dX1_begin_12 : decode cX1_begin 12 = .ok (.putfield 22, 3) := by decide +kernel
theorem dX1_begin_15 : decode cX1_begin 15 = .ok (.aload_n 0, 1) := by decide +kernel
theorem dX1_begin_16 : decode cX1_begin 16 = .ok (.iconst 0, 1) := by decide +kernel
theorem dX1_begin_17 : decode cX1_begin 17 = .ok (.putfield 25, 3) := by decide +kernel
theorem dX1_begin_20 : decode cX1_begin 20 = .ok (.aload_n 0, 1) := by decide +kernel
theorem dX1_begin_21 : decode cX1_begin 21 = .ok (.iconst 0, 1) := by decide +kernel
theorem dX1_begin_22 : decode cX1_begin 22 = .ok (.putfield 28, 3) := by decide +kernel
theorem dX1_begin_25 : decode cX1_begin 25 = .ok (.aload_n 0, 1) := by decide +kernel
theorem dX1_begin_26 : decode cX1_begin 26 = .ok (.iconst 0, 1) := by decide +kernel
theorem dX1_begin_27 : decode cX1_begin 27 = .ok (.putfield 31, 3) := by decide +kernel
theorem dX1_begin_30 : decode cX1_begin 30 = .ok (.aload_n 0, 1) := by decide +kernel
theorem dX1_begin_31 : decode cX1_begin 31 = .ok (.iconst 0, 1) := by decide +kernel
theorem dX1_begin_32 : decode cX1_begin 32 = .ok (.putfield 34, 3) := by decide +kernel
theorem dX1_begin_35 : decode cX1_begin 35 = .ok (.aload_n 0, 1) := by decide +kernel
theorem dX1_begin_36 : decode cX1_begin 36 = .ok (.iconst 0, 1) := by decide +kernel
theorem dX1_begin_37 : decode cX1_begin 37 = .ok (.putfield 37, 3) := by decide +kernel
theorem dX1_begin_40 : decode cX1_begin 40 = .ok (.return_, 1) := by decide +kernel
theorem dX1_go_0 : decode cX1_go 0 = .ok (.aload_n 0, 1) := by decide +kernel
theorem dX1_go_1 : decode cX1_go 1 = .ok (.getfield 25, 3) := by decide +kernel
theorem dX1_go_4 : decode cX1_go 4 = .ok (.ifCond .ne 43, 3) := by decide +kernel
theorem dX1_go_7 : decode cX1_go 7 = .ok (.aload_n 0, 1) := by decide +kernel
theorem dX1_go_8 : decode cX1_go 8 = .ok (.getfield 22, 3) := by decide +kernel
theorem dX1_go_11 : decode cX1_go 11 = .ok (.aload_n 0, 1) := by decide +kernel
theorem dX1_go_12 : decode cX1_go 12 = .ok (.getfield 9, 3) := by decide +kernel
theorem dX1_go_15 : decode cX1_go 15 = .ok (.getfield 40, 3) := by decide +kernel
theorem dX1_go_18 : decode cX1_go 18 = .ok (.if_icmp .ge 29, 3) := by decide +kernel
theorem dX1_go_21 : decode cX1_go 21 = .ok (.aload_n 0, 1) := by decide +kernel
theorem dX1_go_22 : decode cX1_go 22 = .ok (.dup, 1) := by decide +kernel
theorem dX1_go_23 : decode cX1_go 23 = .ok (.getfield 22, 3) := by decide +kernel
theorem dX1_go_26 : decode cX1_go 26 = .ok (.iconst 1, 1) := by decide +kernel
theorem dX1_go_27 : decode cX1_go 27 = .ok (.iadd, 1) := by decide +kernel
theorem dX1_go_28 : decode cX1_go 28 = .ok (.putfield 22, 3) := by decide +kernel
theorem dX1_go_31 : decode cX1_go 31 = .ok (.aload_n 0, 1) := by decide +kernel
theorem dX1_go_32 : decode cX1_go 32 = .ok (.aload_n 0, 1) := by decide +kernel
theorem dX1_go_33 : decode cX1_go 33 = .ok (.getfield 9, 3) := by decide +kernel
theorem dX1_go_36 : decode cX1_go 36 = .ok (.aload_n 0, 1) := by decide +kernel
theorem dX1_go_37 : decode cX1_go 37 = .ok (.getfield 22, 3) := by decide +kernel
theorem dX1_go_40 : decode cX1_go 40 = .ok (.iconst 0, 1) := by decide +kernel
theorem dX1_go_41 : decode cX1_go 41 = .ok (.invokevirtual 45, 3) := by decide +kernel
theorem dX1_go_44 : decode cX1_go 44 = .ok (.putfield 25, 3) := by decide +kernel
theorem dX1_go_47 : decode cX1_go 47 = .ok (.aload_n 0, 1) := by decide +kernel
theorem dX1_go_48 : decode cX1_go 48 = .ok (.iload_n 1, 1) := by decide +kernel
theorem dX1_go_49 : decode cX1_go 49 = .ok (.putfield 28, 3) := by decide +kernel
theorem dX1_go_52 : decode cX1_go 52 = .ok (.aload_n 0, 1) := by decide +kernel
theorem dX1_go_53 : decode cX1_go 53 = .ok (.iconst 0, 1) := by decide +kernel
theorem dX1_go_54 : decode cX1_go 54 = .ok (.putfield 31, 3) := by decide +kernel
theorem dX1_go_57 : decode cX1_go 57 = .ok (.aload_n 0, 1) := by decide +kernel
theorem dX1_go_58 : decode cX1_go 58 = .ok (.getfield 25, 3) := by decide +kernel
theorem dX1_go_61 : decode cX1_go 61 = .ok (.ifCond .le 78, 3) := by decide +kernel
theorem dX1_go_64 : decode cX1_go 64 = .ok (.aload_n 0, 1) := by decide +kernel
theorem dX1_go_65 : decode cX1_go 65 = .ok (.dup, 1) := by decide +kernel
theorem dX1_go_66 : decode cX1_go 66 = .ok (.getfield 25, 3) := by decide +kernel
theorem dX1_go_69 : decode cX1_go 69 = .ok (.iconst 1, 1) := by decide +kernel
theorem dX1_go_70 : decode cX1_go 70 = .ok (.isub, 1) := by decide +kernel
theorem dX1_go_71 : decode cX1_go 71 = .ok (.putfield 25, 3) := by decide +kernel
theorem dX1_go_74 : decode cX1_go 74 = .ok (.aload_n 0, 1) := by decide +kernel
theorem dX1_go_75 : decode cX1_go 75 = .ok (.dup, 1) := by decide +kernel
theorem dX1_go_76 : decode cX1_go 76 = .ok (.getfield 28, 3) := by decide +kernel
theorem dX1_go_79 : decode cX1_go 79 = .ok (.aload_n 0, 1) := by decide +kernel
theorem dX1_go_80 : decode cX1_go 80 = .ok (.getfield 22, 3) := by decide +kernel
theorem dX1_go_83 : decode cX1_go 83 = .ok (.ifCond .ne 10, 3) := by decide +kernel
theorem dX1_go_86 : decode cX1_go 86 = .ok (.aload_n 0, 1) := by decide +kernel
theorem dX1_go_87 : decode cX1_go 87 = .ok (.getfield 15, 3) := by decide +kernel
theorem dX1_go_90 : decode cX1_go 90 = .ok (.goto 15, 3) := by decide +kernel
theorem dX1_go_93 : decode cX1_go 93 = .ok (.aload_n 0, 1) := by decide +kernel
theorem dX1_go_94 : decode cX1_go 94 = .ok (.getfield 9, 3) := by decide +kernel
theorem dX1_go_97 : decode cX1_go 97 = .ok (.aload_n 0, 1) := by decide +kernel
theorem dX1_go_98 : decode cX1_go 98 = .ok (.getfield 22, 3) := by decide +kernel
theorem dX1_go_101 : decode cX1_go 101 = .ok (.iconst 1, 1) := by decide +kernel
theorem dX1_go_102 : decode cX1_go 102 = .ok (.invokevirtual 45, 3) := by decide +kernel
theorem dX1_go_105 : decode cX1_go 105 = .ok (.iadd, 1) := by decide +kernel
theorem dX1_go_106 : decode cX1_go 106 = .ok (.putfield 28, 3) := by decide +kernel
theorem dX1_go_109 : decode cX1_go 109 = .ok (.aload_n 0, 1) := by decide +kernel
theorem dX1_go_110 : decode cX1_go 110 = .ok (.aload_n 0, 1) := by decide +kernel
theorem dX1_go_111 : decode cX1_go 111 = .ok (.getfield 22, 3) := by decide +kernel
theorem dX1_go_114 : decode cX1_go 114 = .ok (.ifCond .ne 10, 3) := by decide +kernel
theorem dX1_go_117 : decode cX1_go 117 = .ok (.aload_n 0, 1) := by decide +kernel
theorem dX1_go_118 : decode cX1_go 118 = .ok (.getfield 19, 3) := by decide +kernel
theorem dX1_go_121 : decode cX1_go 121 = .ok (.goto 15, 3) := by decide +kernel
theorem dX1_go_124 : decode cX1_go 124 = .ok (.aload_n 0, 1) := by decide +kernel
theorem dX1_go_125 : decode cX1_go 125 = .ok (.getfield 9, 3) := by decide +kernel
theorem dX1_go_128 : decode cX1_go 128 = .ok (.aload_n 0, 1) := by decide +kernel
theorem dX1_go_129 : decode cX1_go 129 = .ok (.getfield 22, 3) := by decide +kernel
theorem dX1_go_132 : decode cX1_go 132 = .ok (.iconst 2, 1) := by decide +kernel
theorem dX1_go_133 : decode cX1_go 133 = .ok (.invokevirtual 45, 3) := by decide +kernel
theorem dX1_go_136 : decode cX1_go 136 = .ok (.putfield 31, 3) := by decide +kernel
theorem dX1_go_139 : decode cX1_go 139 = .ok (.aload_n 0, 1) := by decide +kernel
theorem dX1_go_140 : decode cX1_go 140 = .ok (.dup, 1) := by decide +kernel
theorem dX1_go_141 : decode cX1_go 141 = .ok (.getfield 34, 3) := by decide +kernel
theorem dX1_go_144 : decode cX1_go 144 = .ok (.aload_n 0, 1) := by decide +kernel
theorem dX1_go_145 : decode cX1_go 145 = .ok (.getfield 28, 3) := by decide +kernel
theorem dX1_go_148 : decode cX1_go 148 = .ok (.iadd, 1) := by decide +kernel
theorem dX1_go_149 : decode cX1_go 149 = .ok (.putfield 34, 3) := by decide +kernel
theorem dX1_go_152 : decode cX1_go 152 = .ok (.aload_n 0, 1) := by decide +kernel
theorem dX1_go_153 : decode cX1_go 153 = .ok (.dup, 1) := by decide +kernel
theorem dX1_go_154 : decode cX1_go 154 = .ok (.getfield 37, 3) := by decide +kernel
theorem dX1_go_157 : decode cX1_go 157 = .ok (.aload_n 0, 1) := by decide +kernel
theorem dX1_go_158 : decode cX1_go 158 = .ok (.getfield 31, 3) := by decide +kernel
theorem dX1_go_161 : decode cX1_go 161 = .ok (.iadd, 1) := by decide +kernel
theorem dX1_go_162 : decode cX1_go 162 = .ok (.putfield 37, 3) := by decide +kernel
theorem dX1_go_165 : decode cX1_go 165 = .ok (.return_, 1) := by decide +kernel
theorem dX2_init_0 : decode cX2_init 0 = .ok (.aload_n 0, 1) := by decide +kernel
theorem dX2_init_1 : decode cX2_init 1 = .ok (.invokespecial 3, 3) := by decide +kernel
theorem dX2_init_4 : decode cX2_init 4 = .ok (.aload_n 0, 1) := by decide +kernel
theorem dX2_init_5 : decode cX2_init 5 = .ok (.bipush 9, 2) := by decide +kernel
theorem dX2_init_7 : decode cX2_init 7 = .ok (.sipush 181, 3) := by decide +kernel
theorem dX2_init_10 : decode cX2_init 10 = .ok (.multianewarray 9 2, 4) := by decide +kernel
theorem dX2_init_14 : decode cX2_init 14 = .ok (.putfield 11, 3) := by decide +kernel
theorem dX2_init_17 : decode cX2_init 17 = .ok (.return_, 1) := by decide +kernel
theorem dX2_weigh_0 : decode cX2_weigh 0 = .ok (.iconst 0, 1) := by decide +kernel
theorem dX2_weigh_1 : decode cX2_weigh 1 = .ok (.istore_n 3, 1) := by decide +kernel
theorem dX2_weigh_2 : decode cX2_weigh 2 = .ok (.iload_n 3, 1) := by decide +kernel
theorem dX2_weigh_3 : decode cX2_weigh 3 = .ok (.iload_n 2, 1) := by decide +kernel
theorem dX2_weigh_4 : decode cX2_weigh 4 = .ok (.if_icmp .gt 21, 3) := by decide +kernel
theorem dX2_weigh_7 : decode cX2_weigh 7 = .ok (.aload_n 0, 1) := by decide +kernel
theorem dX2_weigh_8 : decode cX2_weigh 8 = .ok (.getfield 11, 3) := by decide +kernel
theorem dX2_weigh_11 : decode cX2_weigh 11 = .ok (.aload_n 1, 1) := by decide +kernel
theorem dX2_weigh_12 : decode cX2_weigh 12 = .ok (.getfield 16, 3) := by decide +kernel
theorem dX2_weigh_15 : decode cX2_weigh 15 = .ok (.aaload, 1) := by decide +kernel
theorem dX2_weigh_16 : decode cX2_weigh 16 = .ok (.iload_n 3, 1) := by decide +kernel
theorem dX2_weigh_17 : decode cX2_weigh 17 = .ok (.iconst 0, 1) := by decide +kernel
theorem dX2_weigh_18 : decode cX2_weigh 18 = .ok (.iastore, 1) := by decide +kernel
theorem dX2_weigh_19 : decode cX2_weigh 19 = .ok (.iinc 3 1, 3) := by decide +kernel
theorem dX2_weigh_22 : decode cX2_weigh 22 = .ok (.goto (-20), 3) := by decide +kernel
theorem dX2_weigh_25 : decode cX2_weigh 25 = .ok (.aload_n 1, 1) := by decide +kernel
theorem dX2_weigh_26 : decode cX2_weigh 26 = .ok (.getfield 16, 3) := by decide +kernel
theorem dX2_weigh_29 : decode cX2_weigh 29 = .ok (.iconst 1, 1) := by decide +kernel
theorem dX2_weigh_30 : decode cX2_weigh 30 = .ok (.isub, 1) := by decide +kernel
theorem dX2_weigh_31 : decode cX2_weigh 31 = .ok (.istore_n 3, 1) := by decide +kernel
theorem dX2_weigh_32 : decode cX2_weigh 32 = .ok (.iload_n 3, 1) := by decide +kernel
theorem dX2_weigh_33 : decode cX2_weigh 33 = .ok (.ifCond .lt 41, 3) := by decide +kernel
theorem dX2_weigh_36 : decode cX2_weigh 36 = .ok (.iconst 0, 1) := by decide +kernel
theorem dX2_weigh_37 : decode cX2_weigh 37 = .ok (.istore 4, 2) := by decide +kernel
theorem dX2_weigh_39 : decode cX2_weigh 39 = .ok (.iload 4, 2) := by decide +kernel
theorem dX2_weigh_41 : decode cX2_weigh 41 = .ok (.iload_n 2, 1) := by decide +kernel
theorem dX2_weigh_42 : decode cX2_weigh 42 = .ok (.if_icmp .gt 26, 3) := by decide +kernel
theorem dX2_weigh_45 : decode cX2_weigh 45 = .ok (.aload_n 0, 1) := by decide +kernel
theorem dX2_weigh_46 : decode cX2_weigh 46 = .ok (.getfield 11, 3) := by decide +kernel
theorem dX2_weigh_49 : decode cX2_weigh 49 = .ok (.iload_n 3, 1) := by decide +kernel
theorem dX2_weigh_50 : decode cX2_weigh 50 = .ok (.aaload, 1) := by decide +kernel
theorem dX2_weigh_51 : decode cX2_weigh 51 = .ok (.iload 4, 2) := by decide +kernel
theorem dX2_weigh_53 : decode cX2_weigh 53 = .ok (.aload_n 0, 1) := by decide +kernel
theorem dX2_weigh_54 : decode cX2_weigh 54 = .ok (.aload_n 1, 1) := by decide +kernel
theorem dX2_weigh_55 : decode cX2_weigh 55 = .ok (.iload_n 3, 1) := by decide +kernel
theorem dX2_weigh_56 : decode cX2_weigh 56 = .ok (.iload 4, 2) := by decide +kernel
theorem dX2_weigh_58 : decode cX2_weigh 58 = .ok (.invokevirtual 22, 3) := by decide +kernel
theorem dX2_weigh_61 : decode cX2_weigh 61 = .ok (.iastore, 1) := by decide +kernel
theorem dX2_weigh_62 : decode cX2_weigh 62 = .ok (.iinc 4 1, 3) := by decide +kernel
theorem dX2_weigh_65 : decode cX2_weigh 65 = .ok (.goto (-26), 3) := by decide +kernel
theorem dX2_weigh_68 : decode cX2_weigh 68 = .ok (.iinc 3 (-1), 3) := by decide +kernel
theorem dX2_weigh_71 : decode cX2_weigh 71 = .ok (.goto (-39), 3) := by decide +kernel
theorem dX2_weigh_74 : decode cX2_weigh 74 = .ok (.return_, 1) := by decide +kernel
theorem dX2_mostIn_0 : decode cX2_mostIn 0 = .ok (.aload_n 0, 1) := by decide +kernel
theorem dX2_mostIn_1 : decode cX2_mostIn 1 = .ok (.getfield 11, 3) := by decide +kernel
theorem dX2_mostIn_4 : decode cX2_mostIn 4 = .ok (.iconst 0, 1) := by decide +kernel
theorem dX2_mostIn_5 : decode cX2_mostIn 5 = .ok (.aaload, 1) := by decide +kernel
theorem dX2_mostIn_6 : decode cX2_mostIn 6 = .ok (.iload_n 1, 1) := by decide +kernel
theorem dX2_mostIn_7 : decode cX2_mostIn 7 = .ok (.iaload, 1) := by decide +kernel
theorem dX2_mostIn_8 : decode cX2_mostIn 8 = .ok (.ireturn, 1) := by decide +kernel
theorem dX2_timesOf_0 : decode cX2_timesOf 0 = .ok (.iload_n 2, 1) := by decide +kernel
theorem dX2_timesOf_1 : decode cX2_timesOf 1 = .ok (.istore 4, 2) := by decide +kernel
theorem dX2_timesOf_3 : decode cX2_timesOf 3 = .ok (.iconst 0, 1) := by decide +kernel
theorem dX2_timesOf_4 : decode cX2_timesOf 4 = .ok (.istore 5, 2) := by decide +kernel
theorem dX2_timesOf_6 : decode cX2_timesOf 6 = .ok (.iconst 0, 1) := by decide +kernel
theorem dX2_timesOf_7 : decode cX2_timesOf 7 = .ok (.istore 6, 2) := by decide +kernel
theorem dX2_timesOf_9 : decode cX2_timesOf 9 = .ok (.iload 6, 2) := by decide +kernel
theorem dX2_timesOf_11 : decode cX2_timesOf 11 = .ok (.iload_n 3, 1) := by decide +kernel
theorem dX2_timesOf_12 : decode cX2_timesOf 12 = .ok (.if_icmp .gt 35, 3) := by decide +kernel
theorem dX2_timesOf_15 : decode cX2_timesOf 15 = .ok (.aload_n 0, 1) := by decide +kernel
theorem dX2_timesOf_16 : decode cX2_timesOf 16 = .ok (.aload_n 1, 1) := by decide +kernel
theorem dX2_timesOf_17 : decode cX2_timesOf 17 = .ok (.iload 6, 2) := by decide +kernel
theorem dX2_timesOf_19 : decode cX2_timesOf 19 = .ok (.iload 4, 2) := by decide +kernel
theorem dX2_timesOf_21 : decode cX2_timesOf 21 = .ok (.invokevirtual 26, 3) := by decide +kernel
theorem dX2_timesOf_24 : decode cX2_timesOf 24 = .ok (.istore 5, 2) := by decide +kernel
theorem dX2_timesOf_26 : decode cX2_timesOf 26 = .ok (.iload 4, 2) := by decide +kernel
theorem dX2_timesOf_28 : decode cX2_timesOf 28 = .ok (.iload 5, 2) := by decide +kernel
theorem dX2_timesOf_30 : decode cX2_timesOf 30 = .ok (.aload_n 1, 1) := by decide +kernel
theorem dX2_timesOf_31 : decode cX2_timesOf 31 = .ok (.iload 6, 2) := by decide +kernel
theorem dX2_timesOf_33 : decode cX2_timesOf 33 = .ok (.iconst 1, 1) := by decide +kernel
theorem dX2_timesOf_34 : decode cX2_timesOf 34 = .ok (.invokevirtual 29, 3) := by decide +kernel
theorem dX2_timesOf_37 : decode cX2_timesOf 37 = .ok (.imul, 1) := by decide +kernel
theorem dX2_timesOf_38 : decode cX2_timesOf 38 = .ok (.isub, 1) := by decide +kernel
theorem dX2_timesOf_39 : decode cX2_timesOf 39 = .ok (.istore 4, 2) := by decide +kernel
theorem dX2_timesOf_41 : decode cX2_timesOf 41 = .ok (.iinc 6 1, 3) := by decide +kernel
theorem dX2_timesOf_44 : decode cX2_timesOf 44 = .ok (.goto (-35), 3) := by decide +kernel
theorem dX2_timesOf_47 : decode cX2_timesOf 47 = .ok (.iload 5, 2) := by decide +kernel
theorem dX2_timesOf_49 : decode cX2_timesOf 49 = .ok (.ireturn, 1) := by decide +kernel
theorem dX2_mostFrom_0 : decode cX2_mostFrom 0 = .ok (.iconst 0, 1) := by decide +kernel
theorem dX2_mostFrom_1 : decode cX2_mostFrom 1 = .ok (.istore 4, 2) := by decide +kernel
theorem dX2_mostFrom_3 : decode cX2_mostFrom 3 = .ok (.iconst 0, 1) := by decide +kernel
theorem dX2_mostFrom_4 : decode cX2_mostFrom 4 = .ok (.istore 5, 2) := by decide +kernel
theorem dX2_mostFrom_6 : decode cX2_mostFrom 6 = .ok (.iload 5, 2) := by decide +kernel
theorem dX2_mostFrom_8 : decode cX2_mostFrom 8 = .ok (.aload_n 1, 1) := by decide +kernel
theorem dX2_mostFrom_9 : decode cX2_mostFrom 9 = .ok (.iload_n 2, 1) := by decide +kernel
theorem dX2_mostFrom_10 : decode cX2_mostFrom 10 = .ok (.iconst 3, 1) := by decide +kernel
theorem dX2_mostFrom_11 : decode cX2_mostFrom 11 = .ok (.invokevirtual 29, 3) := by decide +kernel
theorem dX2_mostFrom_14 : decode cX2_mostFrom 14 = .ok (.if_icmp .gt 25, 3) := by decide +kernel
theorem dX2_mostFrom_17 : decode cX2_mostFrom 17 = .ok (.iload 4, 2) := by decide +kernel
theorem dX2_mostFrom_19 : decode cX2_mostFrom 19 = .ok (.aload_n 0, 1) := by decide +kernel
theorem dX2_mostFrom_20 : decode cX2_mostFrom 20 = .ok (.aload_n 1, 1) := by decide +kernel
theorem dX2_mostFrom_21 : decode cX2_mostFrom 21 = .ok (.iload_n 2, 1) := by decide +kernel
theorem dX2_mostFrom_22 : decode cX2_mostFrom 22 = .ok (.iload_n 3, 1) := by decide +kernel
theorem dX2_mostFrom_23 : decode cX2_mostFrom 23 = .ok (.iload 5, 2) := by decide +kernel
theorem dX2_mostFrom_25 : decode cX2_mostFrom 25 = .ok (.invokevirtual 33, 3) := by decide +kernel
theorem dX2_mostFrom_28 : decode cX2_mostFrom 28 = .ok (.invokestatic 37, 3) := by decide +kernel
theorem dX2_mostFrom_31 : decode cX2_mostFrom 31 = .ok (.istore 4, 2) := by decide +kernel
theorem dX2_mostFrom_33 : decode cX2_mostFrom 33 = .ok (.iinc 5 1, 3) := by decide +kernel
theorem dX2_mostFrom_36 : decode cX2_mostFrom 36 = .ok (.goto (-30), 3) := by decide +kernel
theorem dX2_mostFrom_39 : decode cX2_mostFrom 39 = .ok (.iload 4, 2) := by decide +kernel
theorem dX2_mostFrom_41 : decode cX2_mostFrom 41 = .ok (.ireturn, 1) := by decide +kernel
theorem dX2_mostTimes_0 : decode cX2_mostTimes 0 = .ok (.aload_n 1, 1) := by decide +kernel
theorem dX2_mostTimes_1 : decode cX2_mostTimes 1 = .ok (.iload_n 2, 1) := by decide +kernel
theorem dX2_mostTimes_2 : decode cX2_mostTimes 2 = .ok (.iconst 3, 1) := by decide +kernel
theorem dX2_mostTimes_3 : decode cX2_mostTimes 3 = .ok (.invokevirtual 29, 3) := by decide +kernel
theorem dX2_mostTimes_6 : decode cX2_mostTimes 6 = .ok (.istore 4, 2) := by decide +kernel
theorem dX2_mostTimes_8 : decode cX2_mostTimes 8 = .ok (.iload 4, 2) := by decide +kernel
theorem dX2_mostTimes_10 : decode cX2_mostTimes 10 = .ok (.ifCond .le 29, 3) := by decide +kernel
theorem dX2_mostTimes_13 : decode cX2_mostTimes 13 = .ok (.aload_n 0, 1) := by decide +kernel
theorem dX2_mostTimes_14 : decode cX2_mostTimes 14 = .ok (.aload_n 1, 1) := by decide +kernel
theorem dX2_mostTimes_15 : decode cX2_mostTimes 15 = .ok (.iload_n 2, 1) := by decide +kernel
theorem dX2_mostTimes_16 : decode cX2_mostTimes 16 = .ok (.iload_n 3, 1) := by decide +kernel
theorem dX2_mostTimes_17 : decode cX2_mostTimes 17 = .ok (.iload 4, 2) := by decide +kernel
theorem dX2_mostTimes_19 : decode cX2_mostTimes 19 = .ok (.invokevirtual 33, 3) := by decide +kernel
theorem dX2_mostTimes_22 : decode cX2_mostTimes 22 = .ok (.aload_n 0, 1) := by decide +kernel
theorem dX2_mostTimes_23 : decode cX2_mostTimes 23 = .ok (.getfield 11, 3) := by decide +kernel
theorem dX2_mostTimes_26 : decode cX2_mostTimes 26 = .ok (.iload_n 2, 1) := by decide +kernel
theorem dX2_mostTimes_27 : decode cX2_mostTimes 27 = .ok (.aaload, 1) := by decide +kernel
theorem dX2_mostTimes_28 : decode cX2_mostTimes 28 = .ok (.iload_n 3, 1) := by decide +kernel
theorem dX2_mostTimes_29 : decode cX2_mostTimes 29 = .ok (.iaload, 1) := by decide +kernel
theorem dX2_mostTimes_30 : decode cX2_mostTimes 30 = .ok (.if_icmp .eq 9, 3) := by decide +kernel
theorem dX2_mostTimes_33 : decode cX2_mostTimes 33 = .ok (.iinc 4 (-1), 3) := by decide +kernel
theorem dX2_mostTimes_36 : decode cX2_mostTimes 36 = .ok (.goto (-28), 3) := by decide +kernel
theorem dX2_mostTimes_39 : decode cX2_mostTimes 39 = .ok (.iload 4, 2) := by decide +kernel
theorem dX2_mostTimes_41 : decode cX2_mostTimes 41 = .ok (.ireturn, 1) := by decide +kernel
theorem dX2_gainBy_0 : decode cX2_gainBy 0 = .ok (.iload_n 3, 1) := by decide +kernel
theorem dX2_gainBy_1 : decode cX2_gainBy 1 = .ok (.iload 4, 2) := by decide +kernel
theorem dX2_gainBy_3 : decode cX2_gainBy 3 = .ok (.aload_n 1, 1) := by decide +kernel
theorem dX2_gainBy_4 : decode cX2_gainBy 4 = .ok (.iload_n 2, 1) := by decide +kernel
theorem dX2_gainBy_5 : decode cX2_gainBy 5 = .ok (.iconst 1, 1) := by decide +kernel
theorem dX2_gainBy_6 : decode cX2_gainBy 6 = .ok (.invokevirtual 29, 3) := by decide +kernel
theorem dX2_gainBy_9 : decode cX2_gainBy 9 = .ok (.imul, 1) := by decide +kernel
theorem dX2_gainBy_10 : decode cX2_gainBy 10 = .ok (.isub, 1) := by decide +kernel
theorem dX2_gainBy_11 : decode cX2_gainBy 11 = .ok (.istore 5, 2) := by decide +kernel
theorem dX2_gainBy_13 : decode cX2_gainBy 13 = .ok (.iload 5, 2) := by decide +kernel
theorem dX2_gainBy_15 : decode cX2_gainBy 15 = .ok (.ifCond .ge 7, 3) := by decide +kernel
theorem dX2_gainBy_18 : decode cX2_gainBy 18 = .ok (.iconst (-1), 1) := by decide +kernel
theorem dX2_gainBy_19 : decode cX2_gainBy 19 = .ok (.goto 24, 3) := by decide +kernel
theorem dX2_gainBy_22 : decode cX2_gainBy 22 = .ok (.iload 4, 2) := by decide +kernel
theorem dX2_gainBy_24 : decode cX2_gainBy 24 = .ok (.aload_n 1, 1) := by decide +kernel
theorem dX2_gainBy_25 : decode cX2_gainBy 25 = .ok (.iload_n 2, 1) := by decide +kernel
theorem dX2_gainBy_26 : decode cX2_gainBy 26 = .ok (.iconst 2, 1) := by decide +kernel
theorem dX2_gainBy_27 : decode cX2_gainBy 27 = .ok (.invokevirtual 29, 3) := by decide +kernel
theorem dX2_gainBy_30 : decode cX2_gainBy 30 = .ok (.imul, 1) := by decide +kernel
theorem dX2_gainBy_31 : decode cX2_gainBy 31 = .ok (.aload_n 0, 1) := by decide +kernel
theorem dX2_gainBy_32 : decode cX2_gainBy 32 = .ok (.getfield 11, 3) := by decide +kernel
theorem dX2_gainBy_35 : decode cX2_gainBy 35 = .ok (.iload_n 2, 1) := by decide +kernel
theorem dX2_gainBy_36 : decode cX2_gainBy 36 = .ok (.iconst 1, 1) := by decide +kernel
theorem dX2_gainBy_37 : decode cX2_gainBy 37 = .ok (.iadd, 1) := by decide +kernel
theorem dX2_gainBy_38 : decode cX2_gainBy 38 = .ok (.aaload, 1) := by decide +kernel
theorem dX2_gainBy_39 : decode cX2_gainBy 39 = .ok (.iload 5, 2) := by decide +kernel
theorem dX2_gainBy_41 : decode cX2_gainBy 41 = .ok (.iaload, 1) := by decide +kernel
theorem dX2_gainBy_42 : decode cX2_gainBy 42 = .ok (.iadd, 1) := by decide +kernel
theorem dX2_gainBy_43 : decode cX2_gainBy 43 = .ok (.ireturn, 1) := by decide +kernel
theorem dX3_init_0 : decode cX3_init 0 = .ok (.aload_n 0, 1) := by decide +kernel
theorem dX3_init_1 : decode cX3_init 1 = .ok (.invokespecial 3, 3) := by decide +kernel
theorem dX3_init_4 : decode cX3_init 4 = .ok (.aload_n 0, 1) := by decide +kernel
theorem dX3_init_5 : decode cX3_init 5 = .ok (.bipush 60, 2) := by decide +kernel
theorem dX3_init_7 : decode cX3_init 7 = .ok (.newarray .int, 2) := by decide +kernel
theorem dX3_init_9 : decode cX3_init 9 = .ok (.putfield 9, 3) := by decide +kernel
theorem dX3_init_12 : decode cX3_init 12 = .ok (.aload_n 0, 1) := by decide +kernel
theorem dX3_init_13 : decode cX3_init 13 = .ok (.new 15, 3) := by decide +kernel
theorem dX3_init_16 : decode cX3_init 16 = .ok (.dup, 1) := by decide +kernel
theorem dX3_init_17 : decode cX3_init 17 = .ok (.iconst 4, 1) := by decide +kernel
theorem dX3_init_18 : decode cX3_init 18 = .ok (.iconst 5, 1) := by decide +kernel
theorem dX3_init_19 : decode cX3_init 19 = .ok (.invokespecial 17, 3) := by decide +kernel
theorem dX3_init_22 : decode cX3_init 22 = .ok (.putfield 20, 3) := by decide +kernel
theorem dX3_init_25 : decode cX3_init 25 = .ok (.aload_n 0, 1) := by decide +kernel
theorem dX3_init_26 : decode cX3_init 26 = .ok (.new 15, 3) := by decide +kernel
theorem dX3_init_29 : decode cX3_init 29 = .ok (.dup, 1) := by decide +kernel
theorem dX3_init_30 : decode cX3_init 30 = .ok (.bipush 6, 2) := by decide +kernel
theorem dX3_init_32 : decode cX3_init 32 = .ok (.iconst 3, 1) := by decide +kernel
theorem dX3_init_33 : decode cX3_init 33 = .ok (.invokespecial 17, 3) := by decide +kernel
theorem dX3_init_36 : decode cX3_init 36 = .ok (.putfield 24, 3) := by decide +kernel
theorem dX3_init_39 : decode cX3_init 39 = .ok (.return_, 1) := by decide +kernel
theorem dX3_hasRoom_0 : decode cX3_hasRoom 0 = .ok (.aload_n 0, 1) := by decide +kernel
theorem dX3_hasRoom_1 : decode cX3_hasRoom 1 = .ok (.getfield 27, 3) := by decide +kernel
theorem dX3_hasRoom_4 : decode cX3_hasRoom 4 = .ok (.iload_n 1, 1) := by decide +kernel
theorem dX3_hasRoom_5 : decode cX3_hasRoom 5 = .ok (.iadd, 1) := by decide +kernel
theorem dX3_hasRoom_6 : decode cX3_hasRoom 6 = .ok (.bipush 60, 2) := by decide +kernel
theorem dX3_hasRoom_8 : decode cX3_hasRoom 8 = .ok (.if_icmp .gt 7, 3) := by decide +kernel
theorem dX3_hasRoom_11 : decode cX3_hasRoom 11 = .ok (.iconst 1, 1) := by decide +kernel
theorem dX3_hasRoom_12 : decode cX3_hasRoom 12 = .ok (.goto 4, 3) := by decide +kernel
theorem dX3_hasRoom_15 : decode cX3_hasRoom 15 = .ok (.iconst 0, 1) := by decide +kernel
theorem dX3_hasRoom_16 : decode cX3_hasRoom 16 = .ok (.ireturn, 1) := by decide +kernel
theorem dX3_append_0 : decode cX3_append 0 = .ok (.aload_n 0, 1) := by decide +kernel
theorem dX3_append_1 : decode cX3_append 1 = .ok (.getfield 27, 3) := by decide +kernel
theorem dX3_append_4 : decode cX3_append 4 = .ok (.bipush 60, 2) := by decide +kernel
theorem dX3_append_6 : decode cX3_append 6 = .ok (.if_icmp .ge 23, 3) := by decide +kernel
theorem dX3_append_9 : decode cX3_append 9 = .ok (.aload_n 0, 1) := by decide +kernel
theorem dX3_append_10 : decode cX3_append 10 = .ok (.getfield 9, 3) := by decide +kernel
theorem dX3_append_13 : decode cX3_append 13 = .ok (.aload_n 0, 1) := by decide +kernel
theorem dX3_append_14 : decode cX3_append 14 = .ok (.getfield 27, 3) := by decide +kernel
theorem dX3_append_17 : decode cX3_append 17 = .ok (.iload_n 1, 1) := by decide +kernel
theorem dX3_append_18 : decode cX3_append 18 = .ok (.iastore, 1) := by decide +kernel
theorem dX3_append_19 : decode cX3_append 19 = .ok (.aload_n 0, 1) := by decide +kernel
theorem dX3_append_20 : decode cX3_append 20 = .ok (.dup, 1) := by decide +kernel
theorem dX3_append_21 : decode cX3_append 21 = .ok (.getfield 27, 3) := by decide +kernel
theorem dX3_append_24 : decode cX3_append 24 = .ok (.iconst 1, 1) := by decide +kernel
theorem dX3_append_25 : decode cX3_append 25 = .ok (.iadd, 1) := by decide +kernel
theorem dX3_append_26 : decode cX3_append 26 = .ok (.putfield 27, 3) := by decide +kernel
theorem dX3_append_29 : decode cX3_append 29 = .ok (.return_, 1) := by decide +kernel
theorem dX3_readCups_0 : decode cX3_readCups 0 = .ok (.aload_n 0, 1) := by decide +kernel
theorem dX3_readCups_1 : decode cX3_readCups 1 = .ok (.invokevirtual 31, 3) := by decide +kernel
theorem dX3_readCups_4 : decode cX3_readCups 4 = .ok (.aload_n 0, 1) := by decide +kernel
theorem dX3_readCups_5 : decode cX3_readCups 5 = .ok (.getfield 20, 3) := by decide +kernel
theorem dX3_readCups_8 : decode cX3_readCups 8 = .ok (.invokevirtual 34, 3) := by decide +kernel
theorem dX3_readCups_11 : decode cX3_readCups 11 = .ok (.pop, 1) := by decide +kernel
theorem dX3_readCups_12 : decode cX3_readCups 12 = .ok (.iconst 0, 1) := by decide +kernel
theorem dX3_readCups_13 : decode cX3_readCups 13 = .ok (.istore_n 1, 1) := by decide +kernel
theorem dX3_readCups_14 : decode cX3_readCups 14 = .ok (.iload_n 1, 1) := by decide +kernel
theorem dX3_readCups_15 : decode cX3_readCups 15 = .ok (.iconst 4, 1) := by decide +kernel
theorem dX3_readCups_16 : decode cX3_readCups 16 = .ok (.if_icmp .ge 26, 3) := by decide +kernel
theorem dX3_readCups_19 : decode cX3_readCups 19 = .ok (.iload_n 1, 1) := by decide +kernel
theorem dX3_readCups_20 : decode cX3_readCups 20 = .ok (.ifCond .eq 12, 3) := by decide +kernel
theorem dX3_readCups_23 : decode cX3_readCups 23 = .ok (.aload_n 0, 1) := by decide +kernel
theorem dX3_readCups_24 : decode cX3_readCups 24 = .ok (.bipush 59, 2) := by decide +kernel
theorem dX3_readCups_26 : decode cX3_readCups 26 = .ok (.invokevirtual 38, 3) := by decide +kernel
theorem dX3_readCups_29 : decode cX3_readCups 29 = .ok (.ifCond .eq 13, 3) := by decide +kernel
theorem dX3_readCups_32 : decode cX3_readCups 32 = .ok (.aload_n 0, 1) := by decide +kernel
theorem dX3_readCups_33 : decode cX3_readCups 33 = .ok (.invokevirtual 42, 3) := by decide +kernel
theorem dX3_readCups_36 : decode cX3_readCups 36 = .ok (.iinc 1 1, 3) := by decide +kernel
theorem dX3_readCups_39 : decode cX3_readCups 39 = .ok (.goto (-25), 3) := by decide +kernel
theorem dX3_readCups_42 : decode cX3_readCups 42 = .ok (.aload_n 0, 1) := by decide +kernel
theorem dX3_readCups_43 : decode cX3_readCups 43 = .ok (.aload_n 0, 1) := by decide +kernel
theorem dX3_readCups_44 : decode cX3_readCups 44 = .ok (.getfield 20, 3) := by decide +kernel
theorem dX3_readCups_47 : decode cX3_readCups 47 = .ok (.getfield 45, 3) := by decide +kernel
theorem dX3_readCups_50 : decode cX3_readCups 50 = .ok (.invokevirtual 46, 3) := by decide +kernel
theorem dX3_readCups_53 : decode cX3_readCups 53 = .ok (.ireturn, 1) := by decide +kernel
theorem dX3_readParts_0 : decode cX3_readParts 0 = .ok (.aload_n 0, 1) := by decide +kernel
theorem dX3_readParts_1 : decode cX3_readParts 1 = .ok (.invokevirtual 31, 3) := by decide +kernel
theorem dX3_readParts_4 : decode cX3_readParts 4 = .ok (.aload_n 0, 1) := by decide +kernel
theorem dX3_readParts_5 : decode cX3_readParts 5 = .ok (.getfield 24, 3) := by decide +kernel
theorem dX3_readParts_8 : decode cX3_readParts 8 = .ok (.invokevirtual 34, 3) := by decide +kernel
theorem dX3_readParts_11 : decode cX3_readParts 11 = .ok (.pop, 1) := by decide +kernel
theorem dX3_readParts_12 : decode cX3_readParts 12 = .ok (.iconst 0, 1) := by decide +kernel
theorem dX3_readParts_13 : decode cX3_readParts 13 = .ok (.istore_n 1, 1) := by decide +kernel
theorem dX3_readParts_14 : decode cX3_readParts 14 = .ok (.iload_n 1, 1) := by decide +kernel
theorem dX3_readParts_15 : decode cX3_readParts 15 = .ok (.bipush 6, 2) := by decide +kernel
theorem dX3_readParts_17 : decode cX3_readParts 17 = .ok (.if_icmp .ge 26, 3) := by decide +kernel
theorem dX3_readParts_20 : decode cX3_readParts 20 = .ok (.iload_n 1, 1) := by decide +kernel
theorem dX3_readParts_21 : decode cX3_readParts 21 = .ok (.ifCond .eq 12, 3) := by decide +kernel
theorem dX3_readParts_24 : decode cX3_readParts 24 = .ok (.aload_n 0, 1) := by decide +kernel
theorem dX3_readParts_25 : decode cX3_readParts 25 = .ok (.bipush 59, 2) := by decide +kernel
theorem dX3_readParts_27 : decode cX3_readParts 27 = .ok (.invokevirtual 38, 3) := by decide +kernel
theorem dX3_readParts_30 : decode cX3_readParts 30 = .ok (.ifCond .eq 13, 3) := by decide +kernel
theorem dX3_readParts_33 : decode cX3_readParts 33 = .ok (.aload_n 0, 1) := by decide +kernel
theorem dX3_readParts_34 : decode cX3_readParts 34 = .ok (.invokevirtual 50, 3) := by decide +kernel
theorem dX3_readParts_37 : decode cX3_readParts 37 = .ok (.iinc 1 1, 3) := by decide +kernel
theorem dX3_readParts_40 : decode cX3_readParts 40 = .ok (.goto (-26), 3) := by decide +kernel
theorem dX3_readParts_43 : decode cX3_readParts 43 = .ok (.aload_n 0, 1) := by decide +kernel
theorem dX3_readParts_44 : decode cX3_readParts 44 = .ok (.aload_n 0, 1) := by decide +kernel
theorem dX3_readParts_45 : decode cX3_readParts 45 = .ok (.getfield 24, 3) := by decide +kernel
theorem dX3_readParts_48 : decode cX3_readParts 48 = .ok (.getfield 45, 3) := by decide +kernel
theorem dX3_readParts_51 : decode cX3_readParts 51 = .ok (.invokevirtual 46, 3) := by decide +kernel
theorem dX3_readParts_54 : decode cX3_readParts 54 = .ok (.ireturn, 1) := by decide +kernel
theorem dX3_begin_0 : decode cX3_begin 0 = .ok (.aload_n 0, 1) := by decide +kernel
theorem dX3_begin_1 : decode cX3_begin 1 = .ok (.iconst 0, 1) := by decide +kernel
theorem dX3_begin_2 : decode cX3_begin 2 = .ok (.putfield 53, 3) := by decide +kernel
theorem dX3_begin_5 : decode cX3_begin 5 = .ok (.aload_n 0, 1) := by decide +kernel
theorem dX3_begin_6 : decode cX3_begin 6 = .ok (.iconst (-1), 1) := by decide +kernel
theorem dX3_begin_7 : decode cX3_begin 7 = .ok (.putfield 56, 3) := by decide +kernel
theorem dX3_begin_10 : decode cX3_begin 10 = .ok (.return_, 1) := by decide +kernel
theorem dX3_finish_0 : decode cX3_finish 0 = .ok (.aload_n 0, 1) := by decide +kernel
theorem dX3_finish_1 : decode cX3_finish 1 = .ok (.invokevirtual 59, 3) := by decide +kernel
theorem dX3_finish_4 : decode cX3_finish 4 = .ok (.iconst (-1), 1) := by decide +kernel
theorem dX3_finish_5 : decode cX3_finish 5 = .ok (.if_icmp .eq 11, 3) := by decide +kernel
theorem dX3_finish_8 : decode cX3_finish 8 = .ok (.aload_n 0, 1) := by decide +kernel
theorem dX3_finish_9 : decode cX3_finish 9 = .ok (.aload_n 0, 1) := by decide +kernel
theorem dX3_finish_10 : decode cX3_finish 10 = .ok (.getfield 53, 3) := by decide +kernel
theorem dX3_finish_13 : decode cX3_finish 13 = .ok (.invokevirtual 62, 3) := by decide +kernel
theorem dX3_finish_16 : decode cX3_finish 16 = .ok (.aload_n 0, 1) := by decide +kernel
theorem dX3_finish_17 : decode cX3_finish 17 = .ok (.iconst 0, 1) := by decide +kernel
theorem dX3_finish_18 : decode cX3_finish 18 = .ok (.putfield 27, 3) := by decide +kernel
theorem dX3_finish_21 : decode cX3_finish 21 = .ok (.aload_n 0, 1) := by decide +kernel
theorem dX3_finish_22 : decode cX3_finish 22 = .ok (.getfield 56, 3) := by decide +kernel
theorem dX3_finish_25 : decode cX3_finish 25 = .ok (.iconst (-1), 1) := by decide +kernel
theorem dX3_finish_26 : decode cX3_finish 26 = .ok (.if_icmp .ne 7, 3) := by decide +kernel
theorem dX3_finish_29 : decode cX3_finish 29 = .ok (.iload_n 1, 1) := by decide +kernel
theorem dX3_finish_30 : decode cX3_finish 30 = .ok (.goto 10, 3) := by decide +kernel
theorem dX3_finish_33 : decode cX3_finish 33 = .ok (.bipush (-20), 2) := by decide +kernel
theorem dX3_finish_35 : decode cX3_finish 35 = .ok (.aload_n 0, 1) := by decide +kernel
theorem dX3_finish_36 : decode cX3_finish 36 = .ok (.getfield 56, 3) := by decide +kernel
theorem dX3_finish_39 : decode cX3_finish 39 = .ok (.isub, 1) := by decide +kernel
theorem dX3_finish_40 : decode cX3_finish 40 = .ok (.ireturn, 1) := by decide +kernel
theorem dX3_readCup_0 : decode cX3_readCup 0 = .ok (.aload_n 0, 1) := by decide +kernel
theorem dX3_readCup_1 : decode cX3_readCup 1 = .ok (.invokevirtual 66, 3) := by decide +kernel
theorem dX3_readCup_4 : decode cX3_readCup 4 = .ok (.istore_n 1, 1) := by decide +kernel
theorem dX3_readCup_5 : decode cX3_readCup 5 = .ok (.aload_n 0, 1) := by decide +kernel
theorem dX3_readCup_6 : decode cX3_readCup 6 = .ok (.invokevirtual 66, 3) := by decide +kernel
theorem dX3_readCup_9 : decode cX3_readCup 9 = .ok (.istore_n 2, 1) := by decide +kernel
theorem dX3_readCup_10 : decode cX3_readCup 10 = .ok (.aload_n 0, 1) := by decide +kernel
theorem dX3_readCup_11 : decode cX3_readCup 11 = .ok (.invokevirtual 69, 3) := by decide +kernel
theorem dX3_readCup_14 : decode cX3_readCup 14 = .ok (.istore_n 3, 1) := by decide +kernel
theorem dX3_readCup_15 : decode cX3_readCup 15 = .ok (.aload_n 0, 1) := by decide +kernel
theorem dX3_readCup_16 : decode cX3_readCup 16 = .ok (.bipush 115, 2) := by decide +kernel
theorem dX3_readCup_18 : decode cX3_readCup 18 = .ok (.invokevirtual 38, 3) := by decide +kernel
theorem dX3_readCup_21 : decode cX3_readCup 21 = .ok (.ifCond .eq 7, 3) := by decide +kernel
theorem dX3_readCup_24 : decode cX3_readCup 24 = .ok (.iconst 1, 1) := by decide +kernel
theorem dX3_readCup_25 : decode cX3_readCup 25 = .ok (.goto 4, 3) := by decide +kernel
theorem dX3_readCup_28 : decode cX3_readCup 28 = .ok (.iconst 0, 1) := by decide +kernel
theorem dX3_readCup_29 : decode cX3_readCup 29 = .ok (.istore 4, 2) := by decide +kernel
theorem dX3_readCup_31 : decode cX3_readCup 31 = .ok (.aload_n 0, 1) := by decide +kernel
theorem dX3_readCup_32 : decode cX3_readCup 32 = .ok (.bipush 58, 2) := by decide +kernel
theorem dX3_readCup_34 : decode cX3_readCup 34 = .ok (.invokevirtual 38, 3) := by decide +kernel
theorem dX3_readCup_37 : decode cX3_readCup 37 = .ok (.ifCond .eq 13, 3) := by decide +kernel
theorem dX3_readCup_40 : decode cX3_readCup 40 = .ok (.aload_n 0, 1) := by decide +kernel
theorem dX3_readCup_41 : decode cX3_readCup 41 = .ok (.iconst 0, 1) := by decide +kernel
theorem dX3_readCup_42 : decode cX3_readCup 42 = .ok (.bipush 99, 2) := by decide +kernel
theorem dX3_readCup_44 : decode cX3_readCup 44 = .ok (.invokevirtual 72, 3) := by decide +kernel
theorem dX3_readCup_47 : decode cX3_readCup 47 = .ok (.goto 4, 3) := by decide +kernel
theorem dX3_readCup_50 : decode cX3_readCup 50 = .ok (.iconst 1, 1) := by decide +kernel
theorem dX3_readCup_51 : decode cX3_readCup 51 = .ok (.istore 5, 2) := by decide +kernel
theorem dX3_readCup_53 : decode cX3_readCup 53 = .ok (.aload_n 0, 1) := by decide +kernel
theorem dX3_readCup_54 : decode cX3_readCup 54 = .ok (.getfield 20, 3) := by decide +kernel
theorem dX3_readCup_57 : decode cX3_readCup 57 = .ok (.iload_n 1, 1) := by decide +kernel
theorem dX3_readCup_58 : decode cX3_readCup 58 = .ok (.iload_n 2, 1) := by decide +kernel
theorem dX3_readCup_59 : decode cX3_readCup 59 = .ok (.iload_n 3, 1) := by decide +kernel
theorem dX3_readCup_60 : decode cX3_readCup 60 = .ok (.iload 5, 2) := by decide +kernel
theorem dX3_readCup_62 : decode cX3_readCup 62 = .ok (.iload 4, 2) := by decide +kernel
theorem dX3_readCup_64 : decode cX3_readCup 64 = .ok (.invokestatic 76, 3) := by decide +kernel
theorem dX3_readCup_67 : decode cX3_readCup 67 = .ok (.pop, 1) := by decide +kernel
theorem dX3_readCup_68 : decode cX3_readCup 68 = .ok (.return_, 1) := by decide +kernel
theorem dX3_readPart_0 : decode cX3_readPart 0 = .ok (.aload_n 0, 1) := by decide +kernel
theorem dX3_readPart_1 : decode cX3_readPart 1 = .ok (.iconst 1, 1) := by decide +kernel
theorem dX3_readPart_2 : decode cX3_readPart 2 = .ok (.bipush 20, 2) := by decide +kernel
theorem dX3_readPart_4 : decode cX3_readPart 4 = .ok (.invokevirtual 72, 3) := by decide +kernel
theorem dX3_readPart_7 : decode cX3_readPart 7 = .ok (.istore_n 1, 1) := by decide +kernel
theorem dX3_readPart_8 : decode cX3_readPart 8 = .ok (.aload_n 0, 1) := by decide +kernel
theorem dX3_readPart_9 : decode cX3_readPart 9 = .ok (.invokevirtual 66, 3) := by decide +kernel
theorem dX3_readPart_12 : decode cX3_readPart 12 = .ok (.istore_n 2, 1) := by decide +kernel
theorem dX3_readPart_13 : decode cX3_readPart 13 = .ok (.aload_n 0, 1) := by decide +kernel
theorem dX3_readPart_14 : decode cX3_readPart 14 = .ok (.invokevirtual 66, 3) := by decide +kernel
theorem dX3_readPart_17 : decode cX3_readPart 17 = .ok (.istore_n 3, 1) := by decide +kernel
theorem dX3_readPart_18 : decode cX3_readPart 18 = .ok (.aload_n 0, 1) := by decide +kernel
theorem dX3_readPart_19 : decode cX3_readPart 19 = .ok (.getfield 24, 3) := by decide +kernel
theorem dX3_readPart_22 : decode cX3_readPart 22 = .ok (.iload_n 1, 1) := by decide +kernel
theorem dX3_readPart_23 : decode cX3_readPart 23 = .ok (.iload_n 2, 1) := by decide +kernel
theorem dX3_readPart_24 : decode cX3_readPart 24 = .ok (.iload_n 3, 1) := by decide +kernel
theorem dX3_readPart_25 : decode cX3_readPart 25 = .ok (.invokestatic 80, 3) := by decide +kernel
theorem dX3_readPart_28 : decode cX3_readPart 28 = .ok (.pop, 1) := by decide +kernel
theorem dX3_readPart_29 : decode cX3_readPart 29 = .ok (.return_, 1) := by decide +kernel
theorem dX3_next_0 : decode cX3_next 0 = .ok (.aload_n 0, 1) := by decide +kernel
theorem dX3_next_1 : decode cX3_next 1 = .ok (.getfield 53, 3) := by decide +kernel
theorem dX3_next_4 : decode cX3_next 4 = .ok (.aload_n 0, 1) := by decide +kernel
theorem dX3_next_5 : decode cX3_next 5 = .ok (.getfield 27, 3) := by decide +kernel
theorem dX3_next_8 : decode cX3_next 8 = .ok (.if_icmp .ge 30, 3) := by decide +kernel
theorem dX3_next_11 : decode cX3_next 11 = .ok (.aload_n 0, 1) := by decide +kernel
theorem dX3_next_12 : decode cX3_next 12 = .ok (.getfield 9, 3) := by decide +kernel
theorem dX3_next_15 : decode cX3_next 15 = .ok (.aload_n 0, 1) := by decide +kernel
theorem dX3_next_16 : decode cX3_next 16 = .ok (.getfield 53, 3) := by decide +kernel
theorem dX3_next_19 : decode cX3_next 19 = .ok (.iaload, 1) := by decide +kernel
theorem dX3_next_20 : decode cX3_next 20 = .ok (.bipush 32, 2) := by decide +kernel
theorem dX3_next_22 : decode cX3_next 22 = .ok (.if_icmp .ne 16, 3) := by decide +kernel
theorem dX3_next_25 : decode cX3_next 25 = .ok (.aload_n 0, 1) := by decide +kernel
theorem dX3_next_26 : decode cX3_next 26 = .ok (.dup, 1) := by decide +kernel
theorem dX3_next_27 : decode cX3_next 27 = .ok (.getfield 53, 3) := by decide +kernel
theorem dX3_next_30 : decode cX3_next 30 = .ok (.iconst 1, 1) := by decide +kernel
theorem dX3_next_31 : decode cX3_next 31 = .ok (.iadd, 1) := by decide +kernel
theorem dX3_next_32 : decode cX3_next 32 = .ok (.putfield 53, 3) := by decide +kernel
theorem dX3_next_35 : decode cX3_next 35 = .ok (.goto (-35), 3) := by decide +kernel
theorem dX3_next_38 : decode cX3_next 38 = .ok (.aload_n 0, 1) := by decide +kernel
theorem dX3_next_39 : decode cX3_next 39 = .ok (.getfield 53, 3) := by decide +kernel
theorem dX3_next_42 : decode cX3_next 42 = .ok (.aload_n 0, 1) := by decide +kernel
theorem dX3_next_43 : decode cX3_next 43 = .ok (.getfield 27, 3) := by decide +kernel
theorem dX3_next_46 : decode cX3_next 46 = .ok (.if_icmp .ge 15, 3) := by decide +kernel
theorem dX3_next_49 : decode cX3_next 49 = .ok (.aload_n 0, 1) := by decide +kernel
theorem dX3_next_50 : decode cX3_next 50 = .ok (.getfield 9, 3) := by decide +kernel
theorem dX3_next_53 : decode cX3_next 53 = .ok (.aload_n 0, 1) := by decide +kernel
theorem dX3_next_54 : decode cX3_next 54 = .ok (.getfield 53, 3) := by decide +kernel
theorem dX3_next_57 : decode cX3_next 57 = .ok (.iaload, 1) := by decide +kernel
theorem dX3_next_58 : decode cX3_next 58 = .ok (.goto 4, 3) := by decide +kernel
theorem dX3_next_61 : decode cX3_next 61 = .ok (.iconst (-1), 1) := by decide +kernel
theorem dX3_next_62 : decode cX3_next 62 = .ok (.ireturn, 1) := by decide +kernel
theorem dX3_faultAt_0 : decode cX3_faultAt 0 = .ok (.aload_n 0, 1) := by decide +kernel
theorem dX3_faultAt_1 : decode cX3_faultAt 1 = .ok (.getfield 56, 3) := by decide +kernel
theorem dX3_faultAt_4 : decode cX3_faultAt 4 = .ok (.iconst (-1), 1) := by decide +kernel
theorem dX3_faultAt_5 : decode cX3_faultAt 5 = .ok (.if_icmp .ne 8, 3) := by decide +kernel
theorem dX3_faultAt_8 : decode cX3_faultAt 8 = .ok (.aload_n 0, 1) := by decide +kernel
theorem dX3_faultAt_9 : decode cX3_faultAt 9 = .ok (.iload_n 1, 1) := by decide +kernel
theorem dX3_faultAt_10 : decode cX3_faultAt 10 = .ok (.putfield 56, 3) := by decide +kernel
theorem dX3_faultAt_13 : decode cX3_faultAt 13 = .ok (.return_, 1) := by decide +kernel
theorem dX3_takes_0 : decode cX3_takes 0 = .ok (.aload_n 0, 1) := by decide +kernel
theorem dX3_takes_1 : decode cX3_takes 1 = .ok (.getfield 56, 3) := by decide +kernel
theorem dX3_takes_4 : decode cX3_takes 4 = .ok (.iconst (-1), 1) := by decide +kernel
theorem dX3_takes_5 : decode cX3_takes 5 = .ok (.if_icmp .ne 11, 3) := by decide +kernel
theorem dX3_takes_8 : decode cX3_takes 8 = .ok (.aload_n 0, 1) := by decide +kernel
theorem dX3_takes_9 : decode cX3_takes 9 = .ok (.invokevirtual 59, 3) := by decide +kernel
theorem dX3_takes_12 : decode cX3_takes 12 = .ok (.iload_n 1, 1) := by decide +kernel
theorem dX3_takes_13 : decode cX3_takes 13 = .ok (.if_icmp .eq 5, 3) := by decide +kernel
theorem dX3_takes_16 : decode cX3_takes 16 = .ok (.iconst 0, 1) := by decide +kernel
theorem dX3_takes_17 : decode cX3_takes 17 = .ok (.ireturn, 1) := by decide +kernel
theorem dX3_takes_18 : decode cX3_takes 18 = .ok (.aload_n 0, 1) := by decide +kernel
theorem dX3_takes_19 : decode cX3_takes 19 = .ok (.dup, 1) := by decide +kernel
theorem dX3_takes_20 : decode cX3_takes 20 = .ok (.getfield 53, 3) := by decide +kernel
theorem dX3_takes_23 : decode cX3_takes 23 = .ok (.iconst 1, 1) := by decide +kernel
theorem dX3_takes_24 : decode cX3_takes 24 = .ok (.iadd, 1) := by decide +kernel
theorem dX3_takes_25 : decode cX3_takes 25 = .ok (.putfield 53, 3) := by decide +kernel
theorem dX3_takes_28 : decode cX3_takes 28 = .ok (.iconst 1, 1) := by decide +kernel
theorem dX3_takes_29 : decode cX3_takes 29 = .ok (.ireturn, 1) := by decide +kernel
theorem dX3_signedDigit_0 : decode cX3_signedDigit 0 = .ok (.aload_n 0, 1) := by decide +kernel
theorem dX3_signedDigit_1 : decode cX3_signedDigit 1 = .ok (.bipush 45, 2) := by decide +kernel
theorem dX3_signedDigit_3 : decode cX3_signedDigit 3 = .ok (.invokevirtual 38, 3) := by decide +kernel
theorem dX3_signedDigit_6 : decode cX3_signedDigit 6 = .ok (.ifCond .eq 9, 3) := by decide +kernel
theorem dX3_signedDigit_9 : decode cX3_signedDigit 9 = .ok (.aload_n 0, 1) := by decide +kernel
theorem dX3_signedDigit_10 : decode cX3_signedDigit 10 = .ok (.invokevirtual 69, 3) := by decide +kernel
theorem dX3_signedDigit_13 : decode cX3_signedDigit 13 = .ok (.ineg, 1) := by decide +kernel
theorem dX3_signedDigit_14 : decode cX3_signedDigit 14 = .ok (.ireturn, 1) := by decide +kernel
theorem dX3_signedDigit_15 : decode cX3_signedDigit 15 = .ok (.aload_n 0, 1) := by decide +kernel
theorem dX3_signedDigit_16 : decode cX3_signedDigit 16 = .ok (.bipush 43, 2) := by decide +kernel
theorem dX3_signedDigit_18 : decode cX3_signedDigit 18 = .ok (.invokevirtual 38, 3) := by decide +kernel
theorem dX3_signedDigit_21 : decode cX3_signedDigit 21 = .ok (.ifCond .ne 11, 3) := by decide +kernel
theorem dX3_signedDigit_24 : decode cX3_signedDigit 24 = .ok (.aload_n 0, 1) := by decide +kernel
theorem dX3_signedDigit_25 : decode cX3_signedDigit 25 = .ok (.aload_n 0, 1) := by decide +kernel
theorem dX3_signedDigit_26 : decode cX3_signedDigit 26 = .ok (.getfield 53, 3) := by decide +kernel
theorem dX3_signedDigit_29 : decode cX3_signedDigit 29 = .ok (.invokevirtual 62, 3) := by decide +kernel
theorem dX3_signedDigit_32 : decode cX3_signedDigit 32 = .ok (.aload_n 0, 1) := by decide +kernel
theorem dX3_signedDigit_33 : decode cX3_signedDigit 33 = .ok (.invokevirtual 69, 3) := by decide +kernel
theorem dX3_signedDigit_36 : decode cX3_signedDigit 36 = .ok (.ireturn, 1) := by decide +kernel
theorem dX3_digit_0 : decode cX3_digit 0 = .ok (.aload_n 0, 1) := by decide +kernel
theorem dX3_digit_1 : decode cX3_digit 1 = .ok (.invokevirtual 59, 3) := by decide +kernel
theorem dX3_digit_4 : decode cX3_digit 4 = .ok (.istore_n 1, 1) := by decide +kernel
theorem dX3_digit_5 : decode cX3_digit 5 = .ok (.aload_n 0, 1) := by decide +kernel
theorem dX3_digit_6 : decode cX3_digit 6 = .ok (.getfield 56, 3) := by decide +kernel
theorem dX3_digit_9 : decode cX3_digit 9 = .ok (.iconst (-1), 1) := by decide +kernel
theorem dX3_digit_10 : decode cX3_digit 10 = .ok (.if_icmp .ne 14, 3) := by decide +kernel
theorem dX3_digit_13 : decode cX3_digit 13 = .ok (.iload_n 1, 1) := by decide +kernel
theorem dX3_digit_14 : decode cX3_digit 14 = .ok (.bipush 48, 2) := by decide +kernel
theorem dX3_digit_16 : decode cX3_digit 16 = .ok (.bipush 57, 2) := by decide +kernel
theorem dX3_digit_18 : decode cX3_digit 18 = .ok (.invokestatic 84, 3) := by decide +kernel
theorem dX3_digit_21 : decode cX3_digit 21 = .ok (.ifCond .ne 13, 3) := by decide +kernel
theorem dX3_digit_24 : decode cX3_digit 24 = .ok (.aload_n 0, 1) := by decide +kernel
theorem dX3_digit_25 : decode cX3_digit 25 = .ok (.aload_n 0, 1) := by decide +kernel
theorem dX3_digit_26 : decode cX3_digit 26 = .ok (.getfield 53, 3) := by decide +kernel
theorem dX3_digit_29 : decode cX3_digit 29 = .ok (.invokevirtual 62, 3) := by decide +kernel
theorem dX3_digit_32 : decode cX3_digit 32 = .ok (.iconst 0, 1) := by decide +kernel
theorem dX3_digit_33 : decode cX3_digit 33 = .ok (.ireturn, 1) := by decide +kernel
theorem dX3_digit_34 : decode cX3_digit 34 = .ok (.aload_n 0, 1) := by decide +kernel
theorem dX3_digit_35 : decode cX3_digit 35 = .ok (.dup, 1) := by decide +kernel
theorem dX3_digit_36 : decode cX3_digit 36 = .ok (.getfield 53, 3) := by decide +kernel
theorem dX3_digit_39 : decode cX3_digit 39 = .ok (.iconst 1, 1) := by decide +kernel
theorem dX3_digit_40 : decode cX3_digit 40 = .ok (.iadd, 1) := by decide +kernel
theorem dX3_digit_41 : decode cX3_digit 41 = .ok (.putfield 53, 3) := by decide +kernel
theorem dX3_digit_44 : decode cX3_digit 44 = .ok (.iload_n 1, 1) := by decide +kernel
theorem dX3_digit_45 : decode cX3_digit 45 = .ok (.bipush 48, 2) := by decide +kernel
theorem dX3_digit_47 : decode cX3_digit 47 = .ok (.isub, 1) := by decide +kernel
theorem dX3_digit_48 : decode cX3_digit 48 = .ok (.ireturn, 1) := by decide +kernel
theorem dX3_number_0 : decode cX3_number 0 = .ok (.aload_n 0, 1) := by decide +kernel
theorem dX3_number_1 : decode cX3_number 1 = .ok (.invokevirtual 59, 3) := by decide +kernel
theorem dX3_number_4 : decode cX3_number 4 = .ok (.pop, 1) := by decide +kernel
theorem dX3_number_5 : decode cX3_number 5 = .ok (.aload_n 0, 1) := by decide +kernel
theorem dX3_number_6 : decode cX3_number 6 = .ok (.getfield 53, 3) := by decide +kernel
theorem dX3_number_9 : decode cX3_number 9 = .ok (.istore_n 3, 1) := by decide +kernel
theorem dX3_number_10 : decode cX3_number 10 = .ok (.aload_n 0, 1) := by decide +kernel
theorem dX3_number_11 : decode cX3_number 11 = .ok (.invokevirtual 69, 3) := by decide +kernel
theorem dX3_number_14 : decode cX3_number 14 = .ok (.istore 4, 2) := by decide +kernel
theorem dX3_number_16 : decode cX3_number 16 = .ok (.aload_n 0, 1) := by decide +kernel
theorem dX3_number_17 : decode cX3_number 17 = .ok (.getfield 56, 3) := by decide +kernel
theorem dX3_number_20 : decode cX3_number 20 = .ok (.iconst (-1), 1) := by decide +kernel
theorem dX3_number_21 : decode cX3_number 21 = .ok (.if_icmp .ne 72, 3) := by decide +kernel
theorem dX3_number_24 : decode cX3_number 24 = .ok (.aload_n 0, 1) := by decide +kernel
theorem dX3_number_25 : decode cX3_number 25 = .ok (.getfield 53, 3) := by decide +kernel
theorem dX3_number_28 : decode cX3_number 28 = .ok (.aload_n 0, 1) := by decide +kernel
theorem dX3_number_29 : decode cX3_number 29 = .ok (.getfield 27, 3) := by decide +kernel
theorem dX3_number_32 : decode cX3_number 32 = .ok (.if_icmp .ge 61, 3) := by decide +kernel
theorem dX3_number_35 : decode cX3_number 35 = .ok (.aload_n 0, 1) := by decide +kernel
theorem dX3_number_36 : decode cX3_number 36 = .ok (.getfield 9, 3) := by decide +kernel
theorem dX3_number_39 : decode cX3_number 39 = .ok (.aload_n 0, 1) := by decide +kernel
theorem dX3_number_40 : decode cX3_number 40 = .ok (.getfield 53, 3) := by decide +kernel
theorem dX3_number_43 : decode cX3_number 43 = .ok (.iaload, 1) := by decide +kernel
theorem dX3_number_44 : decode cX3_number 44 = .ok (.bipush 48, 2) := by decide +kernel
theorem dX3_number_46 : decode cX3_number 46 = .ok (.bipush 57, 2) := by decide +kernel
theorem dX3_number_48 : decode cX3_number 48 = .ok (.invokestatic 84, 3) := by decide +kernel
theorem dX3_number_51 : decode cX3_number 51 = .ok (.ifCond .eq 42, 3) := by decide +kernel
theorem dX3_number_54 : decode cX3_number 54 = .ok (.iload 4, 2) := by decide +kernel
theorem dX3_number_56 : decode cX3_number 56 = .ok (.bipush 10, 2) := by decide +kernel
theorem dX3_number_58 : decode cX3_number 58 = .ok (.imul, 1) := by decide +kernel
theorem dX3_number_59 : decode cX3_number 59 = .ok (.aload_n 0, 1) := by decide +kernel
theorem dX3_number_60 : decode cX3_number 60 = .ok (.getfield 9, 3) := by decide +kernel
theorem dX3_number_63 : decode cX3_number 63 = .ok (.aload_n 0, 1) := by decide +kernel
theorem dX3_number_64 : decode cX3_number 64 = .ok (.getfield 53, 3) := by decide +kernel
theorem dX3_number_67 : decode cX3_number 67 = .ok (.iaload, 1) := by decide +kernel
theorem dX3_number_68 : decode cX3_number 68 = .ok (.iadd, 1) := by decide +kernel
theorem dX3_number_69 : decode cX3_number 69 = .ok (.bipush 48, 2) := by decide +kernel
theorem dX3_number_71 : decode cX3_number 71 = .ok (.isub, 1) := by decide +kernel
theorem dX3_number_72 : decode cX3_number 72 = .ok (.sipush 1000, 3) := by decide +kernel
theorem dX3_number_75 : decode cX3_number 75 = .ok (.invokestatic 88, 3) := by decide +kernel
theorem dX3_number_78 : decode cX3_number 78 = .ok (.istore 4, 2) := by decide +kernel
theorem dX3_number_80 : decode cX3_number 80 = .ok (.aload_n 0, 1) := by decide +kernel
theorem dX3_number_81 : decode cX3_number 81 = .ok (.dup, 1) := by decide +kernel
theorem dX3_number_82 : decode cX3_number 82 = .ok (.getfield 53, 3) := by decide +kernel
theorem dX3_number_85 : decode cX3_number 85 = .ok (.iconst 1, 1) := by decide +kernel
theorem dX3_number_86 : decode cX3_number 86 = .ok (.iadd, 1) := by decide +kernel
theorem dX3_number_87 : decode cX3_number 87 = .ok (.putfield 53, 3) := by decide +kernel
theorem dX3_number_90 : decode cX3_number 90 = .ok (.goto (-74), 3) := by decide +kernel
theorem dX3_number_93 : decode cX3_number 93 = .ok (.iload 4, 2) := by decide +kernel
theorem dX3_number_95 : decode cX3_number 95 = .ok (.iload_n 1, 1) := by decide +kernel
theorem dX3_number_96 : decode cX3_number 96 = .ok (.iload_n 2, 1) := by decide +kernel
theorem dX3_number_97 : decode cX3_number 97 = .ok (.invokestatic 84, 3) := by decide +kernel
theorem dX3_number_100 : decode cX3_number 100 = .ok (.ifCond .ne 8, 3) := by decide +kernel
theorem dX3_number_103 : decode cX3_number 103 = .ok (.aload_n 0, 1) := by decide +kernel
theorem dX3_number_104 : decode cX3_number 104 = .ok (.iload_n 3, 1) := by decide +kernel
theorem dX3_number_105 : decode cX3_number 105 = .ok (.invokevirtual 62, 3) := by decide +kernel
theorem dX3_number_108 : decode cX3_number 108 = .ok (.iload 4, 2) := by decide +kernel
theorem dX3_number_110 : decode cX3_number 110 = .ok (.ireturn, 1) := by decide +kernel
theorem dX4_init_0 : decode cX4_init 0 = .ok (.aload_n 0, 1) := by decide +kernel
theorem dX4_init_1 : decode cX4_init 1 = .ok (.invokespecial 3, 3) := by decide +kernel
theorem dX4_init_4 : decode cX4_init 4 = .ok (.aload_n 0, 1) := by decide +kernel
theorem dX4_init_5 : decode cX4_init 5 = .ok (.getstatic 9, 3) := by decide +kernel
theorem dX4_init_8 : decode cX4_init 8 = .ok (.invokevirtual 13, 3) := by decide +kernel
theorem dX4_init_11 : decode cX4_init 11 = .ok (.checkcast 14, 3) := by decide +kernel
theorem dX4_init_14 : decode cX4_init 14 = .ok (.putfield 18, 3) := by decide +kernel
theorem dX4_init_17 : decode cX4_init 17 = .ok (.aload_n 0, 1) := by decide +kernel
theorem dX4_init_18 : decode cX4_init 18 = .ok (.new 23, 3) := by decide +kernel
theorem dX4_init_21 : decode cX4_init 21 = .ok (.dup, 1) := by decide +kernel
theorem dX4_init_22 : decode cX4_init 22 = .ok (.iconst 4, 1) := by decide +kernel
theorem dX4_init_23 : decode cX4_init 23 = .ok (.iconst 5, 1) := by decide +kernel
theorem dX4_init_24 : decode cX4_init 24 = .ok (.invokespecial 25, 3) := by decide +kernel
theorem dX4_init_27 : decode cX4_init 27 = .ok (.putfield 28, 3) := by decide +kernel
theorem dX4_init_30 : decode cX4_init 30 = .ok (.aload_n 0, 1) := by decide +kernel
theorem dX4_init_31 : decode cX4_init 31 = .ok (.new 23, 3) := by decide +kernel
theorem dX4_init_34 : decode cX4_init 34 = .ok (.dup, 1) := by decide +kernel
theorem dX4_init_35 : decode cX4_init 35 = .ok (.bipush 6, 2) := by decide +kernel
theorem dX4_init_37 : decode cX4_init 37 = .ok (.iconst 3, 1) := by decide +kernel
theorem dX4_init_38 : decode cX4_init 38 = .ok (.invokespecial 25, 3) := by decide +kernel
theorem dX4_init_41 : decode cX4_init 41 = .ok (.putfield 32, 3) := by decide +kernel
theorem dX4_init_44 : decode cX4_init 44 = .ok (.aload_n 0, 1) := by decide +kernel
theorem dX4_init_45 : decode cX4_init 45 = .ok (.new 23, 3) := by decide +kernel
theorem dX4_init_48 : decode cX4_init 48 = .ok (.dup, 1) := by decide +kernel
theorem dX4_init_49 : decode cX4_init 49 = .ok (.bipush 8, 2) := by decide +kernel
theorem dX4_init_51 : decode cX4_init 51 = .ok (.iconst 4, 1) := by decide +kernel
theorem dX4_init_52 : decode cX4_init 52 = .ok (.invokespecial 25, 3) := by decide +kernel
theorem dX4_init_55 : decode cX4_init 55 = .ok (.putfield 35, 3) := by decide +kernel
theorem dX4_init_58 : decode cX4_init 58 = .ok (.return_, 1) := by decide +kernel
theorem dX4_hasNoPart_0 : decode cX4_hasNoPart 0 = .ok (.aload_n 0, 1) := by decide +kernel
theorem dX4_hasNoPart_1 : decode cX4_hasNoPart 1 = .ok (.getfield 32, 3) := by decide +kernel
theorem dX4_hasNoPart_4 : decode cX4_hasNoPart 4 = .ok (.getfield 38, 3) := by decide +kernel
theorem dX4_hasNoPart_7 : decode cX4_hasNoPart 7 = .ok (.ifCond .ne 7, 3) := by decide +kernel
theorem dX4_hasNoPart_10 : decode cX4_hasNoPart 10 = .ok (.iconst 1, 1) := by decide +kernel
theorem dX4_hasNoPart_11 : decode cX4_hasNoPart 11 = .ok (.goto 4, 3) := by decide +kernel
theorem dX4_hasNoPart_14 : decode cX4_hasNoPart 14 = .ok (.iconst 0, 1) := by decide +kernel
theorem dX4_hasNoPart_15 : decode cX4_hasNoPart 15 = .ok (.ireturn, 1) := by decide +kernel
theorem dX4_pullSteps_0 : decode cX4_pullSteps 0 = .ok (.iconst 0, 1) := by decide +kernel
theorem dX4_pullSteps_1 : decode cX4_pullSteps 1 = .ok (.istore_n 1, 1) := by decide +kernel
theorem dX4_pullSteps_2 : decode cX4_pullSteps 2 = .ok (.iconst 0, 1) := by decide +kernel
theorem dX4_pullSteps_3 : decode cX4_pullSteps 3 = .ok (.istore_n 2, 1) := by decide +kernel
theorem dX4_pullSteps_4 : decode cX4_pullSteps 4 = .ok (.iload_n 2, 1) := by decide +kernel
theorem dX4_pullSteps_5 : decode cX4_pullSteps 5 = .ok (.aload_n 0, 1) := by decide +kernel
theorem dX4_pullSteps_6 : decode cX4_pullSteps 6 = .ok (.getfield 32, 3) := by decide +kernel
theorem dX4_pullSteps_9 : decode cX4_pullSteps 9 = .ok (.getfield 38, 3) := by decide +kernel
theorem dX4_pullSteps_12 : decode cX4_pullSteps 12 = .ok (.if_icmp .ge 21, 3) := by decide +kernel
theorem dX4_pullSteps_15 : decode cX4_pullSteps 15 = .ok (.iload_n 1, 1) := by decide +kernel
theorem dX4_pullSteps_16 : decode cX4_pullSteps 16 = .ok (.aload_n 0, 1) := by decide +kernel
theorem dX4_pullSteps_17 : decode cX4_pullSteps 17 = .ok (.getfield 32, 3) := by decide +kernel
theorem dX4_pullSteps_20 : decode cX4_pullSteps 20 = .ok (.iload_n 2, 1) := by decide +kernel
theorem dX4_pullSteps_21 : decode cX4_pullSteps 21 = .ok (.iconst 0, 1) := by decide +kernel
theorem dX4_pullSteps_22 : decode cX4_pullSteps 22 = .ok (.invokevirtual 42, 3) := by decide +kernel
theorem dX4_pullSteps_25 : decode cX4_pullSteps 25 = .ok (.iadd, 1) := by decide +kernel
theorem dX4_pullSteps_26 : decode cX4_pullSteps 26 = .ok (.istore_n 1, 1) := by decide +kernel
theorem dX4_pullSteps_27 : decode cX4_pullSteps 27 = .ok (.iinc 2 1, 3) := by decide +kernel
theorem dX4_pullSteps_30 : decode cX4_pullSteps 30 = .ok (.goto (-26), 3) := by decide +kernel
theorem dX4_pullSteps_33 : decode cX4_pullSteps 33 = .ok (.iload_n 1, 1) := by decide +kernel
theorem dX4_pullSteps_34 : decode cX4_pullSteps 34 = .ok (.ireturn, 1) := by decide +kernel
theorem dX4_takeAll_0 : decode cX4_takeAll 0 = .ok (.iconst 0, 1) := by decide +kernel
theorem dX4_takeAll_1 : decode cX4_takeAll 1 = .ok (.istore_n 2, 1) := by decide +kernel
theorem dX4_takeAll_2 : decode cX4_takeAll 2 = .ok (.iload_n 2, 1) := by decide +kernel
theorem dX4_takeAll_3 : decode cX4_takeAll 3 = .ok (.iconst 2, 1) := by decide +kernel
theorem dX4_takeAll_4 : decode cX4_takeAll 4 = .ok (.if_icmp .gt 21, 3) := by decide +kernel
theorem dX4_takeAll_7 : decode cX4_takeAll 7 = .ok (.aload_n 0, 1) := by decide +kernel
theorem dX4_takeAll_8 : decode cX4_takeAll 8 = .ok (.getfield 18, 3) := by decide +kernel
theorem dX4_takeAll_11 : decode cX4_takeAll 11 = .ok (.iload_n 2, 1) := by decide +kernel
theorem dX4_takeAll_12 : decode cX4_takeAll 12 = .ok (.aload_n 1, 1) := by decide +kernel
theorem dX4_takeAll_13 : decode cX4_takeAll 13 = .ok (.getfield 18, 3) := by decide +kernel
theorem dX4_takeAll_16 : decode cX4_takeAll 16 = .ok (.iload_n 2, 1) := by decide +kernel
theorem dX4_takeAll_17 : decode cX4_takeAll 17 = .ok (.iaload, 1) := by decide +kernel
theorem dX4_takeAll_18 : decode cX4_takeAll 18 = .ok (.iastore, 1) := by decide +kernel
theorem dX4_takeAll_19 : decode cX4_takeAll 19 = .ok (.iinc 2 1, 3) := by decide +kernel
theorem dX4_takeAll_22 : decode cX4_takeAll 22 = .ok (.goto (-20), 3) := by decide +kernel
theorem dX4_takeAll_25 : decode cX4_takeAll 25 = .ok (.aload_n 0, 1) := by decide +kernel
theorem dX4_takeAll_26 : decode cX4_takeAll 26 = .ok (.getfield 28, 3) := by decide +kernel
theorem dX4_takeAll_29 : decode cX4_takeAll 29 = .ok (.aload_n 1, 1) := by decide +kernel
theorem dX4_takeAll_30 : decode cX4_takeAll 30 = .ok (.getfield 28, 3) := by decide +kernel
theorem dX4_takeAll_33 : decode cX4_takeAll 33 = .ok (.invokevirtual 46, 3) := by decide +kernel
theorem dX4_takeAll_36 : decode cX4_takeAll 36 = .ok (.aload_n 0, 1) := by decide +kernel
theorem dX4_takeAll_37 : decode cX4_takeAll 37 = .ok (.getfield 32, 3) := by decide +kernel
theorem dX4_takeAll_40 : decode cX4_takeAll 40 = .ok (.aload_n 1, 1) := by decide +kernel
theorem dX4_takeAll_41 : decode cX4_takeAll 41 = .ok (.getfield 32, 3) := by decide +kernel
theorem dX4_takeAll_44 : decode cX4_takeAll 44 = .ok (.invokevirtual 46, 3) := by decide +kernel
theorem dX4_takeAll_47 : decode cX4_takeAll 47 = .ok (.aload_n 0, 1) := by decide +kernel
theorem dX4_takeAll_48 : decode cX4_takeAll 48 = .ok (.getfield 35, 3) := by decide +kernel
theorem dX4_takeAll_51 : decode cX4_takeAll 51 = .ok (.aload_n 1, 1) := by decide +kernel
theorem dX4_takeAll_52 : decode cX4_takeAll 52 = .ok (.getfield 35, 3) := by decide +kernel
theorem dX4_takeAll_55 : decode cX4_takeAll 55 = .ok (.invokevirtual 46, 3) := by decide +kernel
theorem dX4_takeAll_58 : decode cX4_takeAll 58 = .ok (.return_, 1) := by decide +kernel
theorem dX5_init_0 : decode cX5_init 0 = .ok (.aload_n 0, 1) := by decide +kernel
theorem dX5_init_1 : decode cX5_init 1 = .ok (.invokespecial 3, 3) := by decide +kernel
theorem dX5_init_4 : decode cX5_init 4 = .ok (.aload_n 0, 1) := by decide +kernel
theorem dX5_init_5 : decode cX5_init 5 = .ok (.iconst 4, 1) := by decide +kernel
theorem dX5_init_6 : decode cX5_init 6 = .ok (.newarray .int, 2) := by decide +kernel
theorem dX5_init_8 : decode cX5_init 8 = .ok (.putfield 9, 3) := by decide +kernel
theorem dX5_init_11 : decode cX5_init 11 = .ok (.aload_n 0, 1) := by decide +kernel
theorem dX5_init_12 : decode cX5_init 12 = .ok (.iconst 4, 1) := by decide +kernel
theorem dX5_init_13 : decode cX5_init 13 = .ok (.newarray .int, 2) := by decide +kernel
theorem dX5_init_15 : decode cX5_init 15 = .ok (.putfield 15, 3) := by decide +kernel
theorem dX5_init_18 : decode cX5_init 18 = .ok (.aload_n 0, 1) := by decide +kernel
theorem dX5_init_19 : decode cX5_init 19 = .ok (.iconst 4, 1) := by decide +kernel
theorem dX5_init_20 : decode cX5_init 20 = .ok (.bipush 24, 2) := by decide +kernel
theorem dX5_init_22 : decode cX5_init 22 = .ok (.multianewarray 18 2, 4) := by decide +kernel
theorem dX5_init_26 : decode cX5_init 26 = .ok (.putfield 20, 3) := by decide +kernel
theorem dX5_init_29 : decode cX5_init 29 = .ok (.iconst 0, 1) := by decide +kernel
theorem dX5_init_30 : decode cX5_init 30 = .ok (.istore_n 1, 1) := by decide +kernel
theorem dX5_init_31 : decode cX5_init 31 = .ok (.iload_n 1, 1) := by decide +kernel
theorem dX5_init_32 : decode cX5_init 32 = .ok (.iconst 4, 1) := by decide +kernel
theorem dX5_init_33 : decode cX5_init 33 = .ok (.if_icmp .ge 16, 3) := by decide +kernel
theorem dX5_init_36 : decode cX5_init 36 = .ok (.aload_n 0, 1) := by decide +kernel
theorem dX5_init_37 : decode cX5_init 37 = .ok (.getfield 15, 3) := by decide +kernel
theorem dX5_init_40 : decode cX5_init 40 = .ok (.iload_n 1, 1) := by decide +kernel
theorem dX5_init_41 : decode cX5_init 41 = .ok (.iconst (-1), 1) := by decide +kernel
theorem dX5_init_42 : decode cX5_init 42 = .ok (.iastore, 1) := by decide +kernel
theorem dX5_init_43 : decode cX5_init 43 = .ok (.iinc 1 1, 3) := by decide +kernel
theorem dX5_init_46 : decode cX5_init 46 = .ok (.goto (-15), 3) := by decide +kernel
theorem dX5_init_49 : decode cX5_init 49 = .ok (.return_, 1) := by decide +kernel
theorem dX5_isNothing_0 : decode cX5_isNothing 0 = .ok (.aload_n 0, 1) := by decide +kernel
theorem dX5_isNothing_1 : decode cX5_isNothing 1 = .ok (.getfield 15, 3) := by decide +kernel
theorem dX5_isNothing_4 : decode cX5_isNothing 4 = .ok (.iload_n 1, 1) := by decide +kernel
theorem dX5_isNothing_5 : decode cX5_isNothing 5 = .ok (.iaload, 1) := by decide +kernel
theorem dX5_isNothing_6 : decode cX5_isNothing 6 = .ok (.iconst (-1), 1) := by decide +kernel
theorem dX5_isNothing_7 : decode cX5_isNothing 7 = .ok (.if_icmp .ne 7, 3) := by decide +kernel
theorem dX5_isNothing_10 : decode cX5_isNothing 10 = .ok (.iconst 1, 1) := by decide +kernel
theorem dX5_isNothing_11 : decode cX5_isNothing 11 = .ok (.goto 4, 3) := by decide +kernel
theorem dX5_isNothing_14 : decode cX5_isNothing 14 = .ok (.iconst 0, 1) := by decide +kernel
theorem dX5_isNothing_15 : decode cX5_isNothing 15 = .ok (.ireturn, 1) := by decide +kernel
theorem dX5_makeRow_0 : decode cX5_makeRow 0 = .ok (.aload_n 0, 1) := by decide +kernel
theorem dX5_makeRow_1 : decode cX5_makeRow 1 = .ok (.getfield 9, 3) := by decide +kernel
theorem dX5_makeRow_4 : decode cX5_makeRow 4 = .ok (.iload_n 1, 1) := by decide +kernel
theorem dX5_makeRow_5 : decode cX5_makeRow 5 = .ok (.iload_n 2, 1) := by decide +kernel
theorem dX5_makeRow_6 : decode cX5_makeRow 6 = .ok (.iastore, 1) := by decide +kernel
theorem dX5_makeRow_7 : decode cX5_makeRow 7 = .ok (.aload_n 0, 1) := by decide +kernel
theorem dX5_makeRow_8 : decode cX5_makeRow 8 = .ok (.getfield 15, 3) := by decide +kernel
theorem dX5_makeRow_11 : decode cX5_makeRow 11 = .ok (.iload_n 1, 1) := by decide +kernel
theorem dX5_makeRow_12 : decode cX5_makeRow 12 = .ok (.iload_n 3, 1) := by decide +kernel
theorem dX5_makeRow_13 : decode cX5_makeRow 13 = .ok (.iastore, 1) := by decide +kernel
theorem dX5_makeRow_14 : decode cX5_makeRow 14 = .ok (.aload_n 0, 1) := by decide +kernel
theorem dX5_makeRow_15 : decode cX5_makeRow 15 = .ok (.getfield 20, 3) := by decide +kernel
theorem dX5_makeRow_18 : decode cX5_makeRow 18 = .ok (.iload_n 1, 1) := by decide +kernel
theorem dX5_makeRow_19 : decode cX5_makeRow 19 = .ok (.aaload, 1) := by decide +kernel
theorem dX5_makeRow_20 : decode cX5_makeRow 20 = .ok (.iconst 0, 1) := by decide +kernel
theorem dX5_makeRow_21 : decode cX5_makeRow 21 = .ok (.invokestatic 23, 3) := by decide +kernel
theorem dX5_makeRow_24 : decode cX5_makeRow 24 = .ok (.return_, 1) := by decide +kernel
theorem dX5_letGo_0 : decode cX5_letGo 0 = .ok (.aload_n 0, 1) := by decide +kernel
theorem dX5_letGo_1 : decode cX5_letGo 1 = .ok (.getfield 15, 3) := by decide +kernel
theorem dX5_letGo_4 : decode cX5_letGo 4 = .ok (.iload_n 1, 1) := by decide +kernel
theorem dX5_letGo_5 : decode cX5_letGo 5 = .ok (.iaload, 1) := by decide +kernel
theorem dX5_letGo_6 : decode cX5_letGo 6 = .ok (.istore_n 2, 1) := by decide +kernel
theorem dX5_letGo_7 : decode cX5_letGo 7 = .ok (.aload_n 0, 1) := by decide +kernel
theorem dX5_letGo_8 : decode cX5_letGo 8 = .ok (.getfield 15, 3) := by decide +kernel
theorem dX5_letGo_11 : decode cX5_letGo 11 = .ok (.iload_n 1, 1) := by decide +kernel
theorem dX5_letGo_12 : decode cX5_letGo 12 = .ok (.iconst (-1), 1) := by decide +kernel
theorem dX5_letGo_13 : decode cX5_letGo 13 = .ok (.iastore, 1) := by decide +kernel
theorem dX5_letGo_14 : decode cX5_letGo 14 = .ok (.iload_n 2, 1) := by decide +kernel
theorem dX5_letGo_15 : decode cX5_letGo 15 = .ok (.ireturn, 1) := by decide +kernel
theorem dX5_refusalOf_0 : decode cX5_refusalOf 0 = .ok (.aload_n 0, 1) := by decide +kernel
theorem dX5_refusalOf_1 : decode cX5_refusalOf 1 = .ok (.iload_n 1, 1) := by decide +kernel
theorem dX5_refusalOf_2 : decode cX5_refusalOf 2 = .ok (.invokevirtual 29, 3) := by decide +kernel
theorem dX5_refusalOf_5 : decode cX5_refusalOf 5 = .ok (.ifCond .eq 6, 3) := by decide +kernel
theorem dX5_refusalOf_8 : decode cX5_refusalOf 8 = .ok (.bipush (-11), 2) := by decide +kernel
theorem dX5_refusalOf_10 : decode cX5_refusalOf 10 = .ok (.ireturn, 1) := by decide +kernel
theorem dX5_refusalOf_11 : decode cX5_refusalOf 11 = .ok (.aload_n 0, 1) := by decide +kernel
theorem dX5_refusalOf_12 : decode cX5_refusalOf 12 = .ok (.getfield 9, 3) := by decide +kernel
theorem dX5_refusalOf_15 : decode cX5_refusalOf 15 = .ok (.iload_n 1, 1) := by decide +kernel
theorem dX5_refusalOf_16 : decode cX5_refusalOf 16 = .ok (.iaload, 1) := by decide +kernel
theorem dX5_refusalOf_17 : decode cX5_refusalOf 17 = .ok (.iload_n 2, 1) := by decide +kernel
theorem dX5_refusalOf_18 : decode cX5_refusalOf 18 = .ok (.if_icmp .eq 6, 3) := by decide +kernel
theorem dX5_refusalOf_21 : decode cX5_refusalOf 21 = .ok (.bipush (-12), 2) := by decide +kernel
theorem dX5_refusalOf_23 : decode cX5_refusalOf 23 = .ok (.ireturn, 1) := by decide +kernel
theorem dX5_refusalOf_24 : decode cX5_refusalOf 24 = .ok (.aload_n 0, 1) := by decide +kernel
theorem dX5_refusalOf_25 : decode cX5_refusalOf 25 = .ok (.iload_n 1, 1) := by decide +kernel
theorem dX5_refusalOf_26 : decode cX5_refusalOf 26 = .ok (.iload_n 3, 1) := by decide +kernel
theorem dX5_refusalOf_27 : decode cX5_refusalOf 27 = .ok (.iload 4, 2) := by decide +kernel
theorem dX5_refusalOf_29 : decode cX5_refusalOf 29 = .ok (.invokevirtual 33, 3) := by decide +kernel
theorem dX5_refusalOf_32 : decode cX5_refusalOf 32 = .ok (.ifCond .eq 7, 3) := by decide +kernel
theorem dX5_refusalOf_35 : decode cX5_refusalOf 35 = .ok (.iconst 0, 1) := by decide +kernel
theorem dX5_refusalOf_36 : decode cX5_refusalOf 36 = .ok (.goto 5, 3) := by decide +kernel
theorem dX5_refusalOf_39 : decode cX5_refusalOf 39 = .ok (.bipush (-13), 2) := by decide +kernel
theorem dX5_refusalOf_41 : decode cX5_refusalOf 41 = .ok (.ireturn, 1) := by decide +kernel
theorem dX5_fits_0 : decode cX5_fits 0 = .ok (.iload_n 2, 1) := by decide +kernel
theorem dX5_fits_1 : decode cX5_fits 1 = .ok (.ifCond .lt 33, 3) := by decide +kernel
theorem dX5_fits_4 : decode cX5_fits 4 = .ok (.iload_n 3, 1) := by decide +kernel
theorem dX5_fits_5 : decode cX5_fits 5 = .ok (.ifCond .lt 29, 3) := by decide +kernel
theorem dX5_fits_8 : decode cX5_fits 8 = .ok (.iload_n 2, 1) := by decide +kernel
theorem dX5_fits_9 : decode cX5_fits 9 = .ok (.aload_n 0, 1) := by decide +kernel
theorem dX5_fits_10 : decode cX5_fits 10 = .ok (.getfield 15, 3) := by decide +kernel
theorem dX5_fits_13 : decode cX5_fits 13 = .ok (.iload_n 1, 1) := by decide +kernel
theorem dX5_fits_14 : decode cX5_fits 14 = .ok (.iaload, 1) := by decide +kernel
theorem dX5_fits_15 : decode cX5_fits 15 = .ok (.if_icmp .gt 19, 3) := by decide +kernel
theorem dX5_fits_18 : decode cX5_fits 18 = .ok (.iload_n 3, 1) := by decide +kernel
theorem dX5_fits_19 : decode cX5_fits 19 = .ok (.aload_n 0, 1) := by decide +kernel
theorem dX5_fits_20 : decode cX5_fits 20 = .ok (.getfield 15, 3) := by decide +kernel
theorem dX5_fits_23 : decode cX5_fits 23 = .ok (.iload_n 1, 1) := by decide +kernel
theorem dX5_fits_24 : decode cX5_fits 24 = .ok (.iaload, 1) := by decide +kernel
theorem dX5_fits_25 : decode cX5_fits 25 = .ok (.iload_n 2, 1) := by decide +kernel
theorem dX5_fits_26 : decode cX5_fits 26 = .ok (.isub, 1) := by decide +kernel
theorem dX5_fits_27 : decode cX5_fits 27 = .ok (.if_icmp .gt 7, 3) := by decide +kernel
theorem dX5_fits_30 : decode cX5_fits 30 = .ok (.iconst 1, 1) := by decide +kernel
theorem dX5_fits_31 : decode cX5_fits 31 = .ok (.goto 4, 3) := by decide +kernel
theorem dX5_fits_34 : decode cX5_fits 34 = .ok (.iconst 0, 1) := by decide +kernel
theorem dX5_fits_35 : decode cX5_fits 35 = .ok (.ireturn, 1) := by decide +kernel
theorem dX5_get_0 : decode cX5_get 0 = .ok (.aload_n 0, 1) := by decide +kernel
theorem dX5_get_1 : decode cX5_get 1 = .ok (.iload_n 1, 1) := by decide +kernel
theorem dX5_get_2 : decode cX5_get 2 = .ok (.iload_n 2, 1) := by decide +kernel
theorem dX5_get_3 : decode cX5_get 3 = .ok (.iconst 1, 1) := by decide +kernel
theorem dX5_get_4 : decode cX5_get 4 = .ok (.invokevirtual 33, 3) := by decide +kernel
theorem dX5_get_7 : decode cX5_get 7 = .ok (.ifCond .eq 14, 3) := by decide +kernel
theorem dX5_get_10 : decode cX5_get 10 = .ok (.aload_n 0, 1) := by decide +kernel
theorem dX5_get_11 : decode cX5_get 11 = .ok (.getfield 20, 3) := by decide +kernel
theorem dX5_get_14 : decode cX5_get 14 = .ok (.iload_n 1, 1) := by decide +kernel
theorem dX5_get_15 : decode cX5_get 15 = .ok (.aaload, 1) := by decide +kernel
theorem dX5_get_16 : decode cX5_get 16 = .ok (.iload_n 2, 1) := by decide +kernel
theorem dX5_get_17 : decode cX5_get 17 = .ok (.iaload, 1) := by decide +kernel
theorem dX5_get_18 : decode cX5_get 18 = .ok (.goto 4, 3) := by decide +kernel
theorem dX5_get_21 : decode cX5_get 21 = .ok (.iconst 0, 1) := by decide +kernel
theorem dX5_get_22 : decode cX5_get 22 = .ok (.ireturn, 1) := by decide +kernel
theorem dX5_put_0 : decode cX5_put 0 = .ok (.aload_n 0, 1) := by decide +kernel
theorem dX5_put_1 : decode cX5_put 1 = .ok (.iload_n 1, 1) := by decide +kernel
theorem dX5_put_2 : decode cX5_put 2 = .ok (.iload_n 2, 1) := by decide +kernel
theorem dX5_put_3 : decode cX5_put 3 = .ok (.iconst 1, 1) := by decide +kernel
theorem dX5_put_4 : decode cX5_put 4 = .ok (.invokevirtual 33, 3) := by decide +kernel
theorem dX5_put_7 : decode cX5_put 7 = .ok (.ifCond .eq 21, 3) := by decide +kernel
theorem dX5_put_10 : decode cX5_put 10 = .ok (.aload_n 0, 1) := by decide +kernel
theorem dX5_put_11 : decode cX5_put 11 = .ok (.getfield 20, 3) := by decide +kernel
theorem dX5_put_14 : decode cX5_put 14 = .ok (.iload_n 1, 1) := by decide +kernel
theorem dX5_put_15 : decode cX5_put 15 = .ok (.aaload, 1) := by decide +kernel
theorem dX5_put_16 : decode cX5_put 16 = .ok (.iload_n 2, 1) := by decide +kernel
theorem dX5_put_17 : decode cX5_put 17 = .ok (.aload_n 0, 1) := by decide +kernel
theorem dX5_put_18 : decode cX5_put 18 = .ok (.getfield 9, 3) := by decide +kernel
theorem dX5_put_21 : decode cX5_put 21 = .ok (.iload_n 1, 1) := by decide +kernel
theorem dX5_put_22 : decode cX5_put 22 = .ok (.iaload, 1) := by decide +kernel
theorem dX5_put_23 : decode cX5_put 23 = .ok (.iload_n 3, 1) := by decide +kernel
theorem dX5_put_24 : decode cX5_put 24 = .ok (.invokestatic 37, 3) := by decide +kernel
theorem dX5_put_27 : decode cX5_put 27 = .ok (.iastore, 1) := by decide +kernel
theorem dX5_put_28 : decode cX5_put 28 = .ok (.return_, 1) := by decide +kernel
theorem dX5_cutTo_0 : decode cX5_cutTo 0 = .ok (.iload_n 0, 1) := by decide +kernel
theorem dX5_cutTo_1 : decode cX5_cutTo 1 = .ok (.lookupswitch 33 #[(0, 27), (1, 30)], 27) := by decide +kernel
theorem dX5_cutTo_28 : decode cX5_cutTo 28 = .ok (.iload_n 1, 1) := by decide +kernel
theorem dX5_cutTo_29 : decode cX5_cutTo 29 = .ok (.i2b, 1) := by decide +kernel
theorem dX5_cutTo_30 : decode cX5_cutTo 30 = .ok (.ireturn, 1) := by decide +kernel
theorem dX5_cutTo_31 : decode cX5_cutTo 31 = .ok (.iload_n 1, 1) := by decide +kernel
theorem dX5_cutTo_32 : decode cX5_cutTo 32 = .ok (.i2s, 1) := by decide +kernel
theorem dX5_cutTo_33 : decode cX5_cutTo 33 = .ok (.ireturn, 1) := by decide +kernel
theorem dX5_cutTo_34 : decode cX5_cutTo 34 = .ok (.iload_n 1, 1) := by decide +kernel
theorem dX5_cutTo_35 : decode cX5_cutTo 35 = .ok (.ireturn, 1) := by decide +kernel
theorem dJ6_compare_7cf53_0 : decode cJ6_compare_7cf53 0 = .ok (.iload_n 0, 1) := by decide +kernel
theorem dJ6_compare_7cf53_1 : decode cJ6_compare_7cf53 1 = .ok (.iload_n 1, 1) := by decide +kernel
theorem dJ6_compare_7cf53_2 : decode cJ6_compare_7cf53 2 = .ok (.if_icmp .ge 7, 3) := by decide +kernel
theorem dJ6_compare_7cf53_5 : decode cJ6_compare_7cf53 5 = .ok (.iconst (-1), 1) := by decide +kernel
theorem dJ6_compare_7cf53_6 : decode cJ6_compare_7cf53 6 = .ok (.goto 13, 3) := by decide +kernel
theorem dJ6_compare_7cf53_9 : decode cJ6_compare_7cf53 9 = .ok (.iload_n 0, 1) := by decide +kernel
theorem dJ6_compare_7cf53_10 : decode cJ6_compare_7cf53 10 = .ok (.iload_n 1, 1) := by decide +kernel
theorem dJ6_compare_7cf53_11 : decode cJ6_compare_7cf53 11 = .ok (.if_icmp .ne 7, 3) := by decide +kernel
theorem dJ6_compare_7cf53_14 : decode cJ6_compare_7cf53 14 = .ok (.iconst 0, 1) := by decide +kernel
theorem dJ6_compare_7cf53_15 : decode cJ6_compare_7cf53 15 = .ok (.goto 4, 3) := by decide +kernel
theorem dJ6_compare_7cf53_18 : decode cJ6_compare_7cf53 18 = .ok (.iconst 1, 1) := by decide +kernel
theorem dJ6_compare_7cf53_19 : decode cJ6_compare_7cf53 19 = .ok (.ireturn, 1) := by decide +kernel
theorem dJ9_floorMod_7cf53_0 : decode cJ9_floorMod_7cf53 0 = .ok (.iload_n 0, 1) := by decide +kernel
theorem dJ9_floorMod_7cf53_1 : decode cJ9_floorMod_7cf53 1 = .ok (.iload_n 1, 1) := by decide +kernel
theorem dJ9_floorMod_7cf53_2 : decode cJ9_floorMod_7cf53 2 = .ok (.irem, 1) := by decide +kernel
theorem dJ9_floorMod_7cf53_3 : decode cJ9_floorMod_7cf53 3 = .ok (.istore_n 2, 1) := by decide +kernel
theorem dJ9_floorMod_7cf53_4 : decode cJ9_floorMod_7cf53 4 = .ok (.iload_n 0, 1) := by decide +kernel
theorem dJ9_floorMod_7cf53_5 : decode cJ9_floorMod_7cf53 5 = .ok (.iload_n 1, 1) := by decide +kernel
theorem dJ9_floorMod_7cf53_6 : decode cJ9_floorMod_7cf53 6 = .ok (.ixor, 1) := by decide +kernel
theorem dJ9_floorMod_7cf53_7 : decode cJ9_floorMod_7cf53 7 = .ok (.ifCond .ge 11, 3) := by decide +kernel
theorem dJ9_floorMod_7cf53_10 : decode cJ9_floorMod_7cf53 10 = .ok (.iload_n 2, 1) := by decide +kernel
theorem dJ9_floorMod_7cf53_11 : decode cJ9_floorMod_7cf53 11 = .ok (.ifCond .eq 7, 3) := by decide +kernel
theorem dJ9_floorMod_7cf53_14 : decode cJ9_floorMod_7cf53 14 = .ok (.iload_n 2, 1) := by decide +kernel
theorem dJ9_floorMod_7cf53_15 : decode cJ9_floorMod_7cf53 15 = .ok (.iload_n 1, 1) := by decide +kernel
theorem dJ9_floorMod_7cf53_16 : decode cJ9_floorMod_7cf53 16 = .ok (.iadd, 1) := by decide +kernel
theorem dJ9_floorMod_7cf53_17 : decode cJ9_floorMod_7cf53 17 = .ok (.ireturn, 1) := by decide +kernel
theorem dJ9_floorMod_7cf53_18 : decode cJ9_floorMod_7cf53 18 = .ok (.iload_n 2, 1) := by decide +kernel
theorem dJ9_floorMod_7cf53_19 : decode cJ9_floorMod_7cf53 19 = .ok (.ireturn, 1) := by decide +kernel
theorem dJ9_abs_0f7a4_0 : decode cJ9_abs_0f7a4 0 = .ok (.iload_n 0, 1) := by decide +kernel
theorem dJ9_abs_0f7a4_1 : decode cJ9_abs_0f7a4 1 = .ok (.ifCond .ge 8, 3) := by decide +kernel
theorem dJ9_abs_0f7a4_4 : decode cJ9_abs_0f7a4 4 = .ok (.iload_n 0, 1) := by decide +kernel
theorem dJ9_abs_0f7a4_5 : decode cJ9_abs_0f7a4 5 = .ok (.ineg, 1) := by decide +kernel
theorem dJ9_abs_0f7a4_6 : decode cJ9_abs_0f7a4 6 = .ok (.goto 4, 3) := by decide +kernel
theorem dJ9_abs_0f7a4_9 : decode cJ9_abs_0f7a4 9 = .ok (.iload_n 0, 1) := by decide +kernel
theorem dJ9_abs_0f7a4_10 : decode cJ9_abs_0f7a4 10 = .ok (.ireturn, 1) := by decide +kernel
theorem dJ9_max_7cf53_0 : decode cJ9_max_7cf53 0 = .ok (.iload_n 0, 1) := by decide +kernel
theorem dJ9_max_7cf53_1 : decode cJ9_max_7cf53 1 = .ok (.iload_n 1, 1) := by decide +kernel
theorem dJ9_max_7cf53_2 : decode cJ9_max_7cf53 2 = .ok (.if_icmp .lt 7, 3) := by decide +kernel
theorem dJ9_max_7cf53_5 : decode cJ9_max_7cf53 5 = .ok (.iload_n 0, 1) := by decide +kernel
theorem dJ9_max_7cf53_6 : decode cJ9_max_7cf53 6 = .ok (.goto 4, 3) := by decide +kernel
theorem dJ9_max_7cf53_9 : decode cJ9_max_7cf53 9 = .ok (.iload_n 1, 1) := by decide +kernel
theorem dJ9_max_7cf53_10 : decode cJ9_max_7cf53 10 = .ok (.ireturn, 1) := by decide +kernel
theorem dJ9_min_7cf53_0 : decode cJ9_min_7cf53 0 = .ok (.iload_n 0, 1) := by decide +kernel
theorem dJ9_min_7cf53_1 : decode cJ9_min_7cf53 1 = .ok (.iload_n 1, 1) := by decide +kernel
theorem dJ9_min_7cf53_2 : decode cJ9_min_7cf53 2 = .ok (.if_icmp .gt 7, 3) := by decide +kernel
theorem dJ9_min_7cf53_5 : decode cJ9_min_7cf53 5 = .ok (.iload_n 0, 1) := by decide +kernel
theorem dJ9_min_7cf53_6 : decode cJ9_min_7cf53 6 = .ok (.goto 4, 3) := by decide +kernel
theorem dJ9_min_7cf53_9 : decode cJ9_min_7cf53 9 = .ok (.iload_n 1, 1) := by decide +kernel
theorem dJ9_min_7cf53_10 : decode cJ9_min_7cf53 10 = .ok (.ireturn, 1) := by decide +kernel
theorem dJ7_fill_53178_0 : decode cJ7_fill_53178 0 = .ok (.iconst 0, 1) := by decide +kernel
theorem dJ7_fill_53178_1 : decode cJ7_fill_53178 1 = .ok (.istore_n 2, 1) := by decide +kernel
theorem dJ7_fill_53178_2 : decode cJ7_fill_53178 2 = .ok (.aload_n 0, 1) := by decide +kernel
theorem dJ7_fill_53178_3 : decode cJ7_fill_53178 3 = .ok (.arraylength, 1) := by decide +kernel
theorem dJ7_fill_53178_4 : decode cJ7_fill_53178 4 = .ok (.istore_n 3, 1) := by decide +kernel
theorem dJ7_fill_53178_5 : decode cJ7_fill_53178 5 = .ok (.iload_n 2, 1) := by decide +kernel
theorem dJ7_fill_53178_6 : decode cJ7_fill_53178 6 = .ok (.iload_n 3, 1) := by decide +kernel
theorem dJ7_fill_53178_7 : decode cJ7_fill_53178 7 = .ok (.if_icmp .ge 13, 3) := by decide +kernel
theorem dJ7_fill_53178_10 : decode cJ7_fill_53178 10 = .ok (.aload_n 0, 1) := by decide +kernel
theorem dJ7_fill_53178_11 : decode cJ7_fill_53178 11 = .ok (.iload_n 2, 1) := by decide +kernel
theorem dJ7_fill_53178_12 : decode cJ7_fill_53178 12 = .ok (.iload_n 1, 1) := by decide +kernel
theorem dJ7_fill_53178_13 : decode cJ7_fill_53178 13 = .ok (.iastore, 1) := by decide +kernel
theorem dJ7_fill_53178_14 : decode cJ7_fill_53178 14 = .ok (.iinc 2 1, 3) := by decide +kernel
theorem dJ7_fill_53178_17 : decode cJ7_fill_53178 17 = .ok (.goto (-12), 3) := by decide +kernel
theorem dJ7_fill_53178_20 : decode cJ7_fill_53178 20 = .ok (.return_, 1) := by decide +kernel
