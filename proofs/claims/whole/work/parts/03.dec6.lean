theorem dX6_init_0 : decode cX6_init 0 = .ok (.aload_n 0, 1) := by decide +kernel
theorem dX6_init_1 : decode cX6_init 1 = .ok (.invokespecial 3, 3) := by decide +kernel
theorem dX6_init_4 : decode cX6_init 4 = .ok (.aload_n 0, 1) := by decide +kernel
theorem dX6_init_5 : decode cX6_init 5 = .ok (.iload_n 1, 1) := by decide +kernel
theorem dX6_init_6 : decode cX6_init 6 = .ok (.iconst 0, 1) := by decide +kernel
theorem dX6_init_7 : decode cX6_init 7 = .ok (.invokestatic 9, 3) := by decide +kernel
theorem dX6_init_10 : decode cX6_init 10 = .ok (.iload_n 2, 1) := by decide +kernel
theorem dX6_init_11 : decode cX6_init 11 = .ok (.iconst 0, 1) := by decide +kernel
theorem dX6_init_12 : decode cX6_init 12 = .ok (.invokestatic 9, 3) := by decide +kernel
theorem dX6_init_15 : decode cX6_init 15 = .ok (.multianewarray 15 2, 4) := by decide +kernel
theorem dX6_init_19 : decode cX6_init 19 = .ok (.putfield 17, 3) := by decide +kernel
theorem dX6_init_22 : decode cX6_init 22 = .ok (.aload_n 0, 1) := by decide +kernel
theorem dX6_init_23 : decode cX6_init 23 = .ok (.iload_n 2, 1) := by decide +kernel
theorem dX6_init_24 : decode cX6_init 24 = .ok (.putfield 22, 3) := by decide +kernel
theorem dX6_init_27 : decode cX6_init 27 = .ok (.return_, 1) := by decide +kernel
theorem dX6_isFull_0 : decode cX6_isFull 0 = .ok (.aload_n 0, 1) := by decide +kernel
theorem dX6_isFull_1 : decode cX6_isFull 1 = .ok (.getfield 26, 3) := by decide +kernel
theorem dX6_isFull_4 : decode cX6_isFull 4 = .ok (.aload_n 0, 1) := by decide +kernel
theorem dX6_isFull_5 : decode cX6_isFull 5 = .ok (.getfield 17, 3) := by decide +kernel
theorem dX6_isFull_8 : decode cX6_isFull 8 = .ok (.arraylength, 1) := by decide +kernel
theorem dX6_isFull_9 : decode cX6_isFull 9 = .ok (.if_icmp .lt 7, 3) := by decide +kernel
theorem dX6_isFull_12 : decode cX6_isFull 12 = .ok (.iconst 1, 1) := by decide +kernel
theorem dX6_isFull_13 : decode cX6_isFull 13 = .ok (.goto 4, 3) := by decide +kernel
theorem dX6_isFull_16 : decode cX6_isFull 16 = .ok (.iconst 0, 1) := by decide +kernel
theorem dX6_isFull_17 : decode cX6_isFull 17 = .ok (.ireturn, 1) := by decide +kernel
theorem dX6_has_0 : decode cX6_has 0 = .ok (.iload_n 1, 1) := by decide +kernel
theorem dX6_has_1 : decode cX6_has 1 = .ok (.ifCond .lt 15, 3) := by decide +kernel
theorem dX6_has_4 : decode cX6_has 4 = .ok (.iload_n 1, 1) := by decide +kernel
theorem dX6_has_5 : decode cX6_has 5 = .ok (.aload_n 0, 1) := by decide +kernel
theorem dX6_has_6 : decode cX6_has 6 = .ok (.getfield 26, 3) := by decide +kernel
theorem dX6_has_9 : decode cX6_has 9 = .ok (.if_icmp .ge 7, 3) := by decide +kernel
theorem dX6_has_12 : decode cX6_has 12 = .ok (.iconst 1, 1) := by decide +kernel
theorem dX6_has_13 : decode cX6_has 13 = .ok (.goto 4, 3) := by decide +kernel
theorem dX6_has_16 : decode cX6_has 16 = .ok (.iconst 0, 1) := by decide +kernel
theorem dX6_has_17 : decode cX6_has 17 = .ok (.ireturn, 1) := by decide +kernel
theorem dX6_get_0 : decode cX6_get 0 = .ok (.iload_n 1, 1) := by decide +kernel
theorem dX6_get_1 : decode cX6_get 1 = .ok (.ifCond .lt 27, 3) := by decide +kernel
theorem dX6_get_4 : decode cX6_get 4 = .ok (.iload_n 1, 1) := by decide +kernel
theorem dX6_get_5 : decode cX6_get 5 = .ok (.aload_n 0, 1) := by decide +kernel
theorem dX6_get_6 : decode cX6_get 6 = .ok (.getfield 26, 3) := by decide +kernel
theorem dX6_get_9 : decode cX6_get 9 = .ok (.if_icmp .ge 19, 3) := by decide +kernel
theorem dX6_get_12 : decode cX6_get 12 = .ok (.iload_n 2, 1) := by decide +kernel
theorem dX6_get_13 : decode cX6_get 13 = .ok (.ifCond .lt 15, 3) := by decide +kernel
theorem dX6_get_16 : decode cX6_get 16 = .ok (.iload_n 2, 1) := by decide +kernel
theorem dX6_get_17 : decode cX6_get 17 = .ok (.aload_n 0, 1) := by decide +kernel
theorem dX6_get_18 : decode cX6_get 18 = .ok (.getfield 22, 3) := by decide +kernel
theorem dX6_get_21 : decode cX6_get 21 = .ok (.if_icmp .ge 7, 3) := by decide +kernel
theorem dX6_get_24 : decode cX6_get 24 = .ok (.iconst 1, 1) := by decide +kernel
theorem dX6_get_25 : decode cX6_get 25 = .ok (.goto 4, 3) := by decide +kernel
theorem dX6_get_28 : decode cX6_get 28 = .ok (.iconst 0, 1) := by decide +kernel
theorem dX6_get_29 : decode cX6_get 29 = .ok (.istore_n 3, 1) := by decide +kernel
theorem dX6_get_30 : decode cX6_get 30 = .ok (.iload_n 3, 1) := by decide +kernel
theorem dX6_get_31 : decode cX6_get 31 = .ok (.ifCond .eq 14, 3) := by decide +kernel
theorem dX6_get_34 : decode cX6_get 34 = .ok (.aload_n 0, 1) := by decide +kernel
theorem dX6_get_35 : decode cX6_get 35 = .ok (.getfield 17, 3) := by decide +kernel
theorem dX6_get_38 : decode cX6_get 38 = .ok (.iload_n 1, 1) := by decide +kernel
theorem dX6_get_39 : decode cX6_get 39 = .ok (.aaload, 1) := by decide +kernel
theorem dX6_get_40 : decode cX6_get 40 = .ok (.iload_n 2, 1) := by decide +kernel
theorem dX6_get_41 : decode cX6_get 41 = .ok (.iaload, 1) := by decide +kernel
theorem dX6_get_42 : decode cX6_get 42 = .ok (.goto 4, 3) := by decide +kernel
theorem dX6_get_45 : decode cX6_get 45 = .ok (.iconst 0, 1) := by decide +kernel
theorem dX6_get_46 : decode cX6_get 46 = .ok (.ireturn, 1) := by decide +kernel
theorem dX6_put_0 : decode cX6_put 0 = .ok (.aload_n 0, 1) := by decide +kernel
theorem dX6_put_1 : decode cX6_put 1 = .ok (.iload_n 1, 1) := by decide +kernel
theorem dX6_put_2 : decode cX6_put 2 = .ok (.invokevirtual 29, 3) := by decide +kernel
theorem dX6_put_5 : decode cX6_put 5 = .ok (.ifCond .eq 24, 3) := by decide +kernel
theorem dX6_put_8 : decode cX6_put 8 = .ok (.iload_n 2, 1) := by decide +kernel
theorem dX6_put_9 : decode cX6_put 9 = .ok (.ifCond .lt 20, 3) := by decide +kernel
theorem dX6_put_12 : decode cX6_put 12 = .ok (.iload_n 2, 1) := by decide +kernel
theorem dX6_put_13 : decode cX6_put 13 = .ok (.aload_n 0, 1) := by decide +kernel
theorem dX6_put_14 : decode cX6_put 14 = .ok (.getfield 22, 3) := by decide +kernel
theorem dX6_put_17 : decode cX6_put 17 = .ok (.if_icmp .ge 12, 3) := by decide +kernel
theorem dX6_put_20 : decode cX6_put 20 = .ok (.aload_n 0, 1) := by decide +kernel
theorem dX6_put_21 : decode cX6_put 21 = .ok (.getfield 17, 3) := by decide +kernel
theorem dX6_put_24 : decode cX6_put 24 = .ok (.iload_n 1, 1) := by decide +kernel
theorem dX6_put_25 : decode cX6_put 25 = .ok (.aaload, 1) := by decide +kernel
theorem dX6_put_26 : decode cX6_put 26 = .ok (.iload_n 2, 1) := by decide +kernel
theorem dX6_put_27 : decode cX6_put 27 = .ok (.iload_n 3, 1) := by decide +kernel
theorem dX6_put_28 : decode cX6_put 28 = .ok (.iastore, 1) := by decide +kernel
theorem dX6_put_29 : decode cX6_put 29 = .ok (.return_, 1) := by decide +kernel
theorem dX6_grow_0 : decode cX6_grow 0 = .ok (.aload_n 0, 1) := by decide +kernel
theorem dX6_grow_1 : decode cX6_grow 1 = .ok (.invokevirtual 33, 3) := by decide +kernel
theorem dX6_grow_4 : decode cX6_grow 4 = .ok (.ifCond .eq 6, 3) := by decide +kernel
theorem dX6_grow_7 : decode cX6_grow 7 = .ok (.bipush (-3), 2) := by decide +kernel
theorem dX6_grow_9 : decode cX6_grow 9 = .ok (.ireturn, 1) := by decide +kernel
theorem dX6_grow_10 : decode cX6_grow 10 = .ok (.aload_n 0, 1) := by decide +kernel
theorem dX6_grow_11 : decode cX6_grow 11 = .ok (.dup, 1) := by decide +kernel
theorem dX6_grow_12 : decode cX6_grow 12 = .ok (.getfield 26, 3) := by decide +kernel
theorem dX6_grow_15 : decode cX6_grow 15 = .ok (.iconst 1, 1) := by decide +kernel
theorem dX6_grow_16 : decode cX6_grow 16 = .ok (.iadd, 1) := by decide +kernel
theorem dX6_grow_17 : decode cX6_grow 17 = .ok (.putfield 26, 3) := by decide +kernel
theorem dX6_grow_20 : decode cX6_grow 20 = .ok (.aload_n 0, 1) := by decide +kernel
theorem dX6_grow_21 : decode cX6_grow 21 = .ok (.getfield 26, 3) := by decide +kernel
theorem dX6_grow_24 : decode cX6_grow 24 = .ok (.iconst 1, 1) := by decide +kernel
theorem dX6_grow_25 : decode cX6_grow 25 = .ok (.isub, 1) := by decide +kernel
theorem dX6_grow_26 : decode cX6_grow 26 = .ok (.ireturn, 1) := by decide +kernel
theorem dX6_empty_0 : decode cX6_empty 0 = .ok (.aload_n 0, 1) := by decide +kernel
theorem dX6_empty_1 : decode cX6_empty 1 = .ok (.getfield 26, 3) := by decide +kernel
theorem dX6_empty_4 : decode cX6_empty 4 = .ok (.istore_n 1, 1) := by decide +kernel
theorem dX6_empty_5 : decode cX6_empty 5 = .ok (.aload_n 0, 1) := by decide +kernel
theorem dX6_empty_6 : decode cX6_empty 6 = .ok (.iconst 0, 1) := by decide +kernel
theorem dX6_empty_7 : decode cX6_empty 7 = .ok (.putfield 26, 3) := by decide +kernel
theorem dX6_empty_10 : decode cX6_empty 10 = .ok (.iload_n 1, 1) := by decide +kernel
theorem dX6_empty_11 : decode cX6_empty 11 = .ok (.ireturn, 1) := by decide +kernel
theorem dX6_takeAll_0 : decode cX6_takeAll 0 = .ok (.aload_n 0, 1) := by decide +kernel
theorem dX6_takeAll_1 : decode cX6_takeAll 1 = .ok (.aload_n 1, 1) := by decide +kernel
theorem dX6_takeAll_2 : decode cX6_takeAll 2 = .ok (.getfield 26, 3) := by decide +kernel
theorem dX6_takeAll_5 : decode cX6_takeAll 5 = .ok (.aload_n 0, 1) := by decide +kernel
theorem dX6_takeAll_6 : decode cX6_takeAll 6 = .ok (.getfield 17, 3) := by decide +kernel
theorem dX6_takeAll_9 : decode cX6_takeAll 9 = .ok (.arraylength, 1) := by decide +kernel
theorem dX6_takeAll_10 : decode cX6_takeAll 10 = .ok (.invokestatic 37, 3) := by decide +kernel
theorem dX6_takeAll_13 : decode cX6_takeAll 13 = .ok (.putfield 26, 3) := by decide +kernel
theorem dX6_takeAll_16 : decode cX6_takeAll 16 = .ok (.iconst 0, 1) := by decide +kernel
theorem dX6_takeAll_17 : decode cX6_takeAll 17 = .ok (.istore_n 2, 1) := by decide +kernel
theorem dX6_takeAll_18 : decode cX6_takeAll 18 = .ok (.iload_n 2, 1) := by decide +kernel
theorem dX6_takeAll_19 : decode cX6_takeAll 19 = .ok (.aload_n 0, 1) := by decide +kernel
theorem dX6_takeAll_20 : decode cX6_takeAll 20 = .ok (.getfield 26, 3) := by decide +kernel
theorem dX6_takeAll_23 : decode cX6_takeAll 23 = .ok (.if_icmp .ge 39, 3) := by decide +kernel
theorem dX6_takeAll_26 : decode cX6_takeAll 26 = .ok (.iconst 0, 1) := by decide +kernel
theorem dX6_takeAll_27 : decode cX6_takeAll 27 = .ok (.istore_n 3, 1) := by decide +kernel
theorem dX6_takeAll_28 : decode cX6_takeAll 28 = .ok (.iload_n 3, 1) := by decide +kernel
theorem dX6_takeAll_29 : decode cX6_takeAll 29 = .ok (.aload_n 0, 1) := by decide +kernel
theorem dX6_takeAll_30 : decode cX6_takeAll 30 = .ok (.getfield 22, 3) := by decide +kernel
theorem dX6_takeAll_33 : decode cX6_takeAll 33 = .ok (.if_icmp .ge 23, 3) := by decide +kernel
theorem dX6_takeAll_36 : decode cX6_takeAll 36 = .ok (.aload_n 0, 1) := by decide +kernel
theorem dX6_takeAll_37 : decode cX6_takeAll 37 = .ok (.getfield 17, 3) := by decide +kernel
theorem dX6_takeAll_40 : decode cX6_takeAll 40 = .ok (.iload_n 2, 1) := by decide +kernel
theorem dX6_takeAll_41 : decode cX6_takeAll 41 = .ok (.aaload, 1) := by decide +kernel
theorem dX6_takeAll_42 : decode cX6_takeAll 42 = .ok (.iload_n 3, 1) := by decide +kernel
theorem dX6_takeAll_43 : decode cX6_takeAll 43 = .ok (.aload_n 1, 1) := by decide +kernel
theorem dX6_takeAll_44 : decode cX6_takeAll 44 = .ok (.iload_n 2, 1) := by decide +kernel
theorem dX6_takeAll_45 : decode cX6_takeAll 45 = .ok (.iload_n 3, 1) := by decide +kernel
theorem dX6_takeAll_46 : decode cX6_takeAll 46 = .ok (.invokevirtual 40, 3) := by decide +kernel
theorem dX6_takeAll_49 : decode cX6_takeAll 49 = .ok (.iastore, 1) := by decide +kernel
theorem dX6_takeAll_50 : decode cX6_takeAll 50 = .ok (.iinc 3 1, 3) := by decide +kernel
theorem dX6_takeAll_53 : decode cX6_takeAll 53 = .ok (.goto (-25), 3) := by decide +kernel
theorem dX6_takeAll_56 : decode cX6_takeAll 56 = .ok (.iinc 2 1, 3) := by decide +kernel
theorem dX6_takeAll_59 : decode cX6_takeAll 59 = .ok (.goto (-41), 3) := by decide +kernel
theorem dX6_takeAll_62 : decode cX6_takeAll 62 = .ok (.return_, 1) := by decide +kernel
theorem dX7_init_0 : decode cX7_init 0 = .ok (.aload_n 0, 1) := by decide +kernel
theorem dX7_init_1 : decode cX7_init 1 = .ok (.invokespecial 3, 3) := by decide +kernel
theorem dX7_init_4 : decode cX7_init 4 = .ok (.aload_n 0, 1) := by decide +kernel
theorem dX7_init_5 : decode cX7_init 5 = .ok (.aload_n 1, 1) := by decide +kernel
theorem dX7_init_6 : decode cX7_init 6 = .ok (.putfield 9, 3) := by decide +kernel
theorem dX7_init_9 : decode cX7_init 9 = .ok (.aload_n 0, 1) := by decide +kernel
theorem dX7_init_10 : decode cX7_init 10 = .ok (.new 15, 3) := by decide +kernel
theorem dX7_init_13 : decode cX7_init 13 = .ok (.dup, 1) := by decide +kernel
theorem dX7_init_14 : decode cX7_init 14 = .ok (.aload_n 1, 1) := by decide +kernel
theorem dX7_init_15 : decode cX7_init 15 = .ok (.getfield 17, 3) := by decide +kernel
theorem dX7_init_18 : decode cX7_init 18 = .ok (.invokespecial 23, 3) := by decide +kernel
theorem dX7_init_21 : decode cX7_init 21 = .ok (.putfield 26, 3) := by decide +kernel
theorem dX7_init_24 : decode cX7_init 24 = .ok (.return_, 1) := by decide +kernel
theorem dX7_begin_0 : decode cX7_begin 0 = .ok (.aload_n 0, 1) := by decide +kernel
theorem dX7_begin_1 : decode cX7_begin 1 = .ok (.getfield 26, 3) := by decide +kernel
theorem dX7_begin_4 : decode cX7_begin 4 = .ok (.iload_n 2, 1) := by decide +kernel
theorem dX7_begin_5 : decode cX7_begin 5 = .ok (.iload_n 3, 1) := by decide +kernel
theorem dX7_begin_6 : decode cX7_begin 6 = .ok (.invokevirtual 30, 3) := by decide +kernel
theorem dX7_begin_9 : decode cX7_begin 9 = .ok (.aload_n 0, 1) := by decide +kernel
theorem dX7_begin_10 : decode cX7_begin 10 = .ok (.iload_n 1, 1) := by decide +kernel
theorem dX7_begin_11 : decode cX7_begin 11 = .ok (.putfield 34, 3) := by decide +kernel
theorem dX7_begin_14 : decode cX7_begin 14 = .ok (.aload_n 0, 1) := by decide +kernel
theorem dX7_begin_15 : decode cX7_begin 15 = .ok (.iconst 1, 1) := by decide +kernel
theorem dX7_begin_16 : decode cX7_begin 16 = .ok (.putfield 38, 3) := by decide +kernel
theorem dX7_begin_19 : decode cX7_begin 19 = .ok (.aload_n 0, 1) := by decide +kernel
theorem dX7_begin_20 : decode cX7_begin 20 = .ok (.iconst (-1), 1) := by decide +kernel
theorem dX7_begin_21 : decode cX7_begin 21 = .ok (.putfield 42, 3) := by decide +kernel
theorem dX7_begin_24 : decode cX7_begin 24 = .ok (.aload_n 0, 1) := by decide +kernel
theorem dX7_begin_25 : decode cX7_begin 25 = .ok (.iconst 0, 1) := by decide +kernel
theorem dX7_begin_26 : decode cX7_begin 26 = .ok (.putfield 45, 3) := by decide +kernel
theorem dX7_begin_29 : decode cX7_begin 29 = .ok (.aload_n 0, 1) := by decide +kernel
theorem dX7_begin_30 : decode cX7_begin 30 = .ok (.iconst 0, 1) := by decide +kernel
theorem dX7_begin_31 : decode cX7_begin 31 = .ok (.putfield 48, 3) := by decide +kernel
theorem dX7_begin_34 : decode cX7_begin 34 = .ok (.aload_n 0, 1) := by decide +kernel
theorem dX7_begin_35 : decode cX7_begin 35 = .ok (.iload_n 1, 1) := by decide +kernel
theorem dX7_begin_36 : decode cX7_begin 36 = .ok (.ineg, 1) := by decide +kernel
theorem dX7_begin_37 : decode cX7_begin 37 = .ok (.putfield 51, 3) := by decide +kernel
theorem dX7_begin_40 : decode cX7_begin 40 = .ok (.aload_n 0, 1) := by decide +kernel
theorem dX7_begin_41 : decode cX7_begin 41 = .ok (.iconst 0, 1) := by decide +kernel
theorem dX7_begin_42 : decode cX7_begin 42 = .ok (.putfield 54, 3) := by decide +kernel
theorem dX7_begin_45 : decode cX7_begin 45 = .ok (.aload_n 0, 1) := by decide +kernel
theorem dX7_begin_46 : decode cX7_begin 46 = .ok (.iconst 0, 1) := by decide +kernel
theorem dX7_begin_47 : decode cX7_begin 47 = .ok (.putfield 57, 3) := by decide +kernel
theorem dX7_begin_50 : decode cX7_begin 50 = .ok (.aload_n 0, 1) := by decide +kernel
theorem dX7_begin_51 : decode cX7_begin 51 = .ok (.iconst 0, 1) := by decide +kernel
theorem dX7_begin_52 : decode cX7_begin 52 = .ok (.putfield 60, 3) := by decide +kernel
theorem dX7_begin_55 : decode cX7_begin 55 = .ok (.aload_n 0, 1) := by decide +kernel
theorem dX7_begin_56 : decode cX7_begin 56 = .ok (.iconst 0, 1) := by decide +kernel
theorem dX7_begin_57 : decode cX7_begin 57 = .ok (.putfield 63, 3) := by decide +kernel
theorem dX7_begin_60 : decode cX7_begin 60 = .ok (.aload_n 0, 1) := by decide +kernel
theorem dX7_begin_61 : decode cX7_begin 61 = .ok (.iconst 1, 1) := by decide +kernel
theorem dX7_begin_62 : decode cX7_begin 62 = .ok (.putfield 66, 3) := by decide +kernel
theorem dX7_begin_65 : decode cX7_begin 65 = .ok (.aload_n 0, 1) := by decide +kernel
theorem dX7_begin_66 : decode cX7_begin 66 = .ok (.iconst 0, 1) := by decide +kernel
theorem dX7_begin_67 : decode cX7_begin 67 = .ok (.putfield 69, 3) := by decide +kernel
theorem dX7_begin_70 : decode cX7_begin 70 = .ok (.aload_n 0, 1) := by decide +kernel
theorem dX7_begin_71 : decode cX7_begin 71 = .ok (.iconst (-1), 1) := by decide +kernel
theorem dX7_begin_72 : decode cX7_begin 72 = .ok (.putfield 72, 3) := by decide +kernel
theorem dX7_begin_75 : decode cX7_begin 75 = .ok (.aload_n 0, 1) := by decide +kernel
theorem dX7_begin_76 : decode cX7_begin 76 = .ok (.iconst 0, 1) := by decide +kernel
theorem dX7_begin_77 : decode cX7_begin 77 = .ok (.putfield 75, 3) := by decide +kernel
theorem dX7_begin_80 : decode cX7_begin 80 = .ok (.aload_n 0, 1) := by decide +kernel
theorem dX7_begin_81 : decode cX7_begin 81 = .ok (.iconst 0, 1) := by decide +kernel
theorem dX7_begin_82 : decode cX7_begin 82 = .ok (.putfield 78, 3) := by decide +kernel
theorem dX7_begin_85 : decode cX7_begin 85 = .ok (.return_, 1) := by decide +kernel
theorem dX7_beginAsTold_0 : decode cX7_beginAsTold 0 = .ok (.aload_n 0, 1) := by decide +kernel
theorem dX7_beginAsTold_1 : decode cX7_beginAsTold 1 = .ok (.aload_n 0, 1) := by decide +kernel
theorem dX7_beginAsTold_2 : decode cX7_beginAsTold 2 = .ok (.getfield 9, 3) := by decide +kernel
theorem dX7_beginAsTold_5 : decode cX7_beginAsTold 5 = .ok (.getfield 81, 3) := by decide +kernel
theorem dX7_beginAsTold_8 : decode cX7_beginAsTold 8 = .ok (.iconst 0, 1) := by decide +kernel
theorem dX7_beginAsTold_9 : decode cX7_beginAsTold 9 = .ok (.iaload, 1) := by decide +kernel
theorem dX7_beginAsTold_10 : decode cX7_beginAsTold 10 = .ok (.aload_n 0, 1) := by decide +kernel
theorem dX7_beginAsTold_11 : decode cX7_beginAsTold 11 = .ok (.getfield 9, 3) := by decide +kernel
theorem dX7_beginAsTold_14 : decode cX7_beginAsTold 14 = .ok (.getfield 17, 3) := by decide +kernel
theorem dX7_beginAsTold_17 : decode cX7_beginAsTold 17 = .ok (.iconst 0, 1) := by decide +kernel
theorem dX7_beginAsTold_18 : decode cX7_beginAsTold 18 = .ok (.iconst 1, 1) := by decide +kernel
theorem dX7_beginAsTold_19 : decode cX7_beginAsTold 19 = .ok (.invokevirtual 85, 3) := by decide +kernel
theorem dX7_beginAsTold_22 : decode cX7_beginAsTold 22 = .ok (.aload_n 0, 1) := by decide +kernel
theorem dX7_beginAsTold_23 : decode cX7_beginAsTold 23 = .ok (.getfield 9, 3) := by decide +kernel
theorem dX7_beginAsTold_26 : decode cX7_beginAsTold 26 = .ok (.getfield 17, 3) := by decide +kernel
theorem dX7_beginAsTold_29 : decode cX7_beginAsTold 29 = .ok (.iconst 0, 1) := by decide +kernel
theorem dX7_beginAsTold_30 : decode cX7_beginAsTold 30 = .ok (.iconst 2, 1) := by decide +kernel
theorem dX7_beginAsTold_31 : decode cX7_beginAsTold 31 = .ok (.invokevirtual 85, 3) := by decide +kernel
theorem dX7_beginAsTold_34 : decode cX7_beginAsTold 34 = .ok (.invokevirtual 91, 3) := by decide +kernel
theorem dX7_beginAsTold_37 : decode cX7_beginAsTold 37 = .ok (.return_, 1) := by decide +kernel
theorem dX7_meetNothing_0 : decode cX7_meetNothing 0 = .ok (.aload_n 0, 1) := by decide +kernel
theorem dX7_meetNothing_1 : decode cX7_meetNothing 1 = .ok (.iconst 0, 1) := by decide +kernel
theorem dX7_meetNothing_2 : decode cX7_meetNothing 2 = .ok (.putfield 38, 3) := by decide +kernel
theorem dX7_meetNothing_5 : decode cX7_meetNothing 5 = .ok (.return_, 1) := by decide +kernel
theorem dX7_goOn_0 : decode cX7_goOn 0 = .ok (.aload_n 0, 1) := by decide +kernel
theorem dX7_goOn_1 : decode cX7_goOn 1 = .ok (.getfield 69, 3) := by decide +kernel
theorem dX7_goOn_4 : decode cX7_goOn 4 = .ok (.istore_n 2, 1) := by decide +kernel
theorem dX7_goOn_5 : decode cX7_goOn 5 = .ok (.iload_n 2, 1) := by decide +kernel
theorem dX7_goOn_6 : decode cX7_goOn 6 = .ok (.iload_n 1, 1) := by decide +kernel
theorem dX7_goOn_7 : decode cX7_goOn 7 = .ok (.if_icmp .ge 21, 3) := by decide +kernel
theorem dX7_goOn_10 : decode cX7_goOn 10 = .ok (.aload_n 0, 1) := by decide +kernel
theorem dX7_goOn_11 : decode cX7_goOn 11 = .ok (.getfield 72, 3) := by decide +kernel
theorem dX7_goOn_14 : decode cX7_goOn 14 = .ok (.iconst (-1), 1) := by decide +kernel
theorem dX7_goOn_15 : decode cX7_goOn 15 = .ok (.if_icmp .ne 13, 3) := by decide +kernel
theorem dX7_goOn_18 : decode cX7_goOn 18 = .ok (.aload_n 0, 1) := by decide +kernel
theorem dX7_goOn_19 : decode cX7_goOn 19 = .ok (.invokevirtual 94, 3) := by decide +kernel
theorem dX7_goOn_22 : decode cX7_goOn 22 = .ok (.iinc 2 1, 3) := by decide +kernel
theorem dX7_goOn_25 : decode cX7_goOn 25 = .ok (.goto (-20), 3) := by decide +kernel
theorem dX7_goOn_28 : decode cX7_goOn 28 = .ok (.return_, 1) := by decide +kernel
theorem dX7_endBy_0 : decode cX7_endBy 0 = .ok (.aload_n 0, 1) := by decide +kernel
theorem dX7_endBy_1 : decode cX7_endBy 1 = .ok (.iload_n 1, 1) := by decide +kernel
theorem dX7_endBy_2 : decode cX7_endBy 2 = .ok (.iload_n 2, 1) := by decide +kernel
theorem dX7_endBy_3 : decode cX7_endBy 3 = .ok (.iload_n 3, 1) := by decide +kernel
theorem dX7_endBy_4 : decode cX7_endBy 4 = .ok (.invokevirtual 91, 3) := by decide +kernel
theorem dX7_endBy_7 : decode cX7_endBy 7 = .ok (.aload_n 0, 1) := by decide +kernel
theorem dX7_endBy_8 : decode cX7_endBy 8 = .ok (.bipush 100, 2) := by decide +kernel
theorem dX7_endBy_10 : decode cX7_endBy 10 = .ok (.invokevirtual 97, 3) := by decide +kernel
theorem dX7_endBy_13 : decode cX7_endBy 13 = .ok (.aload_n 0, 1) := by decide +kernel
theorem dX7_endBy_14 : decode cX7_endBy 14 = .ok (.getfield 72, 3) := by decide +kernel
theorem dX7_endBy_17 : decode cX7_endBy 17 = .ok (.ireturn, 1) := by decide +kernel
theorem dX7_endLate_0 : decode cX7_endLate 0 = .ok (.aload_n 0, 1) := by decide +kernel
theorem dX7_endLate_1 : decode cX7_endLate 1 = .ok (.aload_n 0, 1) := by decide +kernel
theorem dX7_endLate_2 : decode cX7_endLate 2 = .ok (.getfield 9, 3) := by decide +kernel
theorem dX7_endLate_5 : decode cX7_endLate 5 = .ok (.getfield 81, 3) := by decide +kernel
theorem dX7_endLate_8 : decode cX7_endLate 8 = .ok (.iconst 0, 1) := by decide +kernel
theorem dX7_endLate_9 : decode cX7_endLate 9 = .ok (.iaload, 1) := by decide +kernel
theorem dX7_endLate_10 : decode cX7_endLate 10 = .ok (.iload_n 3, 1) := by decide +kernel
theorem dX7_endLate_11 : decode cX7_endLate 11 = .ok (.iload 4, 2) := by decide +kernel
theorem dX7_endLate_13 : decode cX7_endLate 13 = .ok (.invokevirtual 91, 3) := by decide +kernel
theorem dX7_endLate_16 : decode cX7_endLate 16 = .ok (.aload_n 0, 1) := by decide +kernel
theorem dX7_endLate_17 : decode cX7_endLate 17 = .ok (.iload_n 1, 1) := by decide +kernel
theorem dX7_endLate_18 : decode cX7_endLate 18 = .ok (.putfield 42, 3) := by decide +kernel
theorem dX7_endLate_21 : decode cX7_endLate 21 = .ok (.aload_n 0, 1) := by decide +kernel
theorem dX7_endLate_22 : decode cX7_endLate 22 = .ok (.iload_n 2, 1) := by decide +kernel
theorem dX7_endLate_23 : decode cX7_endLate 23 = .ok (.putfield 45, 3) := by decide +kernel
theorem dX7_endLate_26 : decode cX7_endLate 26 = .ok (.aload_n 0, 1) := by decide +kernel
theorem dX7_endLate_27 : decode cX7_endLate 27 = .ok (.bipush 100, 2) := by decide +kernel
theorem dX7_endLate_29 : decode cX7_endLate 29 = .ok (.invokevirtual 97, 3) := by decide +kernel
theorem dX7_endLate_32 : decode cX7_endLate 32 = .ok (.aload_n 0, 1) := by decide +kernel
theorem dX7_endLate_33 : decode cX7_endLate 33 = .ok (.getfield 72, 3) := by decide +kernel
theorem dX7_endLate_36 : decode cX7_endLate 36 = .ok (.ireturn, 1) := by decide +kernel
theorem dX7_oddsBy_0 : decode cX7_oddsBy 0 = .ok (.aload_n 0, 1) := by decide +kernel
theorem dX7_oddsBy_1 : decode cX7_oddsBy 1 = .ok (.getfield 9, 3) := by decide +kernel
theorem dX7_oddsBy_4 : decode cX7_oddsBy 4 = .ok (.getfield 17, 3) := by decide +kernel
theorem dX7_oddsBy_7 : decode cX7_oddsBy 7 = .ok (.iconst 0, 1) := by decide +kernel
theorem dX7_oddsBy_8 : decode cX7_oddsBy 8 = .ok (.iconst 1, 1) := by decide +kernel
theorem dX7_oddsBy_9 : decode cX7_oddsBy 9 = .ok (.invokevirtual 85, 3) := by decide +kernel
theorem dX7_oddsBy_12 : decode cX7_oddsBy 12 = .ok (.istore_n 3, 1) := by decide +kernel
theorem dX7_oddsBy_13 : decode cX7_oddsBy 13 = .ok (.aload_n 0, 1) := by decide +kernel
theorem dX7_oddsBy_14 : decode cX7_oddsBy 14 = .ok (.getfield 9, 3) := by decide +kernel
theorem dX7_oddsBy_17 : decode cX7_oddsBy 17 = .ok (.getfield 17, 3) := by decide +kernel
theorem dX7_oddsBy_20 : decode cX7_oddsBy 20 = .ok (.iconst 0, 1) := by decide +kernel
theorem dX7_oddsBy_21 : decode cX7_oddsBy 21 = .ok (.iconst 2, 1) := by decide +kernel
theorem dX7_oddsBy_22 : decode cX7_oddsBy 22 = .ok (.invokevirtual 85, 3) := by decide +kernel
theorem dX7_oddsBy_25 : decode cX7_oddsBy 25 = .ok (.istore 4, 2) := by decide +kernel
theorem dX7_oddsBy_27 : decode cX7_oddsBy 27 = .ok (.iconst 0, 1) := by decide +kernel
theorem dX7_oddsBy_28 : decode cX7_oddsBy 28 = .ok (.istore 5, 2) := by decide +kernel
theorem dX7_oddsBy_30 : decode cX7_oddsBy 30 = .ok (.iconst (-1), 1) := by decide +kernel
theorem dX7_oddsBy_31 : decode cX7_oddsBy 31 = .ok (.istore 6, 2) := by decide +kernel
theorem dX7_oddsBy_33 : decode cX7_oddsBy 33 = .ok (.iload 6, 2) := by decide +kernel
theorem dX7_oddsBy_35 : decode cX7_oddsBy 35 = .ok (.iconst 1, 1) := by decide +kernel
theorem dX7_oddsBy_36 : decode cX7_oddsBy 36 = .ok (.if_icmp .gt 62, 3) := by decide +kernel
theorem dX7_oddsBy_39 : decode cX7_oddsBy 39 = .ok (.iconst (-1), 1) := by decide +kernel
theorem dX7_oddsBy_40 : decode cX7_oddsBy 40 = .ok (.istore 7, 2) := by decide +kernel
theorem dX7_oddsBy_42 : decode cX7_oddsBy 42 = .ok (.iload 7, 2) := by decide +kernel
theorem dX7_oddsBy_44 : decode cX7_oddsBy 44 = .ok (.iconst 1, 1) := by decide +kernel
theorem dX7_oddsBy_45 : decode cX7_oddsBy 45 = .ok (.if_icmp .gt 47, 3) := by decide +kernel
theorem dX7_oddsBy_48 : decode cX7_oddsBy 48 = .ok (.aload_n 0, 1) := by decide +kernel
theorem dX7_oddsBy_49 : decode cX7_oddsBy 49 = .ok (.iload_n 1, 1) := by decide +kernel
theorem dX7_oddsBy_50 : decode cX7_oddsBy 50 = .ok (.iload_n 3, 1) := by decide +kernel
theorem dX7_oddsBy_51 : decode cX7_oddsBy 51 = .ok (.iload 6, 2) := by decide +kernel
theorem dX7_oddsBy_53 : decode cX7_oddsBy 53 = .ok (.iadd, 1) := by decide +kernel
theorem dX7_oddsBy_54 : decode cX7_oddsBy 54 = .ok (.iload 4, 2) := by decide +kernel
theorem dX7_oddsBy_56 : decode cX7_oddsBy 56 = .ok (.iload 7, 2) := by decide +kernel
theorem dX7_oddsBy_58 : decode cX7_oddsBy 58 = .ok (.iadd, 1) := by decide +kernel
theorem dX7_oddsBy_59 : decode cX7_oddsBy 59 = .ok (.invokevirtual 101, 3) := by decide +kernel
theorem dX7_oddsBy_62 : decode cX7_oddsBy 62 = .ok (.iload_n 2, 1) := by decide +kernel
theorem dX7_oddsBy_63 : decode cX7_oddsBy 63 = .ok (.if_icmp .ne 23, 3) := by decide +kernel
theorem dX7_oddsBy_66 : decode cX7_oddsBy 66 = .ok (.iload 5, 2) := by decide +kernel
theorem dX7_oddsBy_68 : decode cX7_oddsBy 68 = .ok (.iconst 2, 1) := by decide +kernel
theorem dX7_oddsBy_69 : decode cX7_oddsBy 69 = .ok (.iload 6, 2) := by decide +kernel
theorem dX7_oddsBy_71 : decode cX7_oddsBy 71 = .ok (.invokestatic 105, 3) := by decide +kernel
theorem dX7_oddsBy_74 : decode cX7_oddsBy 74 = .ok (.isub, 1) := by decide +kernel
theorem dX7_oddsBy_75 : decode cX7_oddsBy 75 = .ok (.iconst 2, 1) := by decide +kernel
theorem dX7_oddsBy_76 : decode cX7_oddsBy 76 = .ok (.iload 7, 2) := by decide +kernel
theorem dX7_oddsBy_78 : decode cX7_oddsBy 78 = .ok (.invokestatic 105, 3) := by decide +kernel
theorem dX7_oddsBy_81 : decode cX7_oddsBy 81 = .ok (.isub, 1) := by decide +kernel
theorem dX7_oddsBy_82 : decode cX7_oddsBy 82 = .ok (.imul, 1) := by decide +kernel
theorem dX7_oddsBy_83 : decode cX7_oddsBy 83 = .ok (.iadd, 1) := by decide +kernel
theorem dX7_oddsBy_84 : decode cX7_oddsBy 84 = .ok (.istore 5, 2) := by decide +kernel
theorem dX7_oddsBy_86 : decode cX7_oddsBy 86 = .ok (.iinc 7 1, 3) := by decide +kernel
theorem dX7_oddsBy_89 : decode cX7_oddsBy 89 = .ok (.goto (-47), 3) := by decide +kernel
theorem dX7_oddsBy_92 : decode cX7_oddsBy 92 = .ok (.iinc 6 1, 3) := by decide +kernel
theorem dX7_oddsBy_95 : decode cX7_oddsBy 95 = .ok (.goto (-62), 3) := by decide +kernel
theorem dX7_oddsBy_98 : decode cX7_oddsBy 98 = .ok (.iload 5, 2) := by decide +kernel
theorem dX7_oddsBy_100 : decode cX7_oddsBy 100 = .ok (.ireturn, 1) := by decide +kernel
theorem dX7_isSoft_0 : decode cX7_isSoft 0 = .ok (.aload_n 0, 1) := by decide +kernel
theorem dX7_isSoft_1 : decode cX7_isSoft 1 = .ok (.getfield 54, 3) := by decide +kernel
theorem dX7_isSoft_4 : decode cX7_isSoft 4 = .ok (.aload_n 0, 1) := by decide +kernel
theorem dX7_isSoft_5 : decode cX7_isSoft 5 = .ok (.getfield 26, 3) := by decide +kernel
theorem dX7_isSoft_8 : decode cX7_isSoft 8 = .ok (.getfield 111, 3) := by decide +kernel
theorem dX7_isSoft_11 : decode cX7_isSoft 11 = .ok (.isub, 1) := by decide +kernel
theorem dX7_isSoft_12 : decode cX7_isSoft 12 = .ok (.invokestatic 105, 3) := by decide +kernel
theorem dX7_isSoft_15 : decode cX7_isSoft 15 = .ok (.iload_n 1, 1) := by decide +kernel
theorem dX7_isSoft_16 : decode cX7_isSoft 16 = .ok (.if_icmp .gt 26, 3) := by decide +kernel
theorem dX7_isSoft_19 : decode cX7_isSoft 19 = .ok (.aload_n 0, 1) := by decide +kernel
theorem dX7_isSoft_20 : decode cX7_isSoft 20 = .ok (.getfield 57, 3) := by decide +kernel
theorem dX7_isSoft_23 : decode cX7_isSoft 23 = .ok (.aload_n 0, 1) := by decide +kernel
theorem dX7_isSoft_24 : decode cX7_isSoft 24 = .ok (.getfield 26, 3) := by decide +kernel
theorem dX7_isSoft_27 : decode cX7_isSoft 27 = .ok (.getfield 114, 3) := by decide +kernel
theorem dX7_isSoft_30 : decode cX7_isSoft 30 = .ok (.isub, 1) := by decide +kernel
theorem dX7_isSoft_31 : decode cX7_isSoft 31 = .ok (.invokestatic 105, 3) := by decide +kernel
theorem dX7_isSoft_34 : decode cX7_isSoft 34 = .ok (.iload_n 1, 1) := by decide +kernel
theorem dX7_isSoft_35 : decode cX7_isSoft 35 = .ok (.if_icmp .gt 7, 3) := by decide +kernel
theorem dX7_isSoft_38 : decode cX7_isSoft 38 = .ok (.iconst 1, 1) := by decide +kernel
theorem dX7_isSoft_39 : decode cX7_isSoft 39 = .ok (.goto 4, 3) := by decide +kernel
theorem dX7_isSoft_42 : decode cX7_isSoft 42 = .ok (.iconst 0, 1) := by decide +kernel
theorem dX7_isSoft_43 : decode cX7_isSoft 43 = .ok (.ireturn, 1) := by decide +kernel
theorem dX7_goStep_0 : decode cX7_goStep 0 = .ok (.aload_n 0, 1) := by decide +kernel
theorem dX7_goStep_1 : decode cX7_goStep 1 = .ok (.getfield 51, 3) := by decide +kernel
theorem dX7_goStep_4 : decode cX7_goStep 4 = .ok (.aload_n 0, 1) := by decide +kernel
theorem dX7_goStep_5 : decode cX7_goStep 5 = .ok (.getfield 26, 3) := by decide +kernel
theorem dX7_goStep_8 : decode cX7_goStep 8 = .ok (.getfield 117, 3) := by decide +kernel
theorem dX7_goStep_11 : decode cX7_goStep 11 = .ok (.isub, 1) := by decide +kernel
theorem dX7_goStep_12 : decode cX7_goStep 12 = .ok (.istore_n 1, 1) := by decide +kernel
theorem dX7_goStep_13 : decode cX7_goStep 13 = .ok (.aload_n 0, 1) := by decide +kernel
theorem dX7_goStep_14 : decode cX7_goStep 14 = .ok (.getfield 26, 3) := by decide +kernel
theorem dX7_goStep_17 : decode cX7_goStep 17 = .ok (.aload_n 0, 1) := by decide +kernel
theorem dX7_goStep_18 : decode cX7_goStep 18 = .ok (.invokevirtual 118, 3) := by decide +kernel
theorem dX7_goStep_21 : decode cX7_goStep 21 = .ok (.invokevirtual 122, 3) := by decide +kernel
theorem dX7_goStep_24 : decode cX7_goStep 24 = .ok (.aload_n 0, 1) := by decide +kernel
theorem dX7_goStep_25 : decode cX7_goStep 25 = .ok (.dup, 1) := by decide +kernel
theorem dX7_goStep_26 : decode cX7_goStep 26 = .ok (.getfield 57, 3) := by decide +kernel
theorem dX7_goStep_29 : decode cX7_goStep 29 = .ok (.aload_n 0, 1) := by decide +kernel
theorem dX7_goStep_30 : decode cX7_goStep 30 = .ok (.getfield 9, 3) := by decide +kernel
theorem dX7_goStep_33 : decode cX7_goStep 33 = .ok (.getfield 81, 3) := by decide +kernel
theorem dX7_goStep_36 : decode cX7_goStep 36 = .ok (.iconst 1, 1) := by decide +kernel
theorem dX7_goStep_37 : decode cX7_goStep 37 = .ok (.iaload, 1) := by decide +kernel
theorem dX7_goStep_38 : decode cX7_goStep 38 = .ok (.isub, 1) := by decide +kernel
theorem dX7_goStep_39 : decode cX7_goStep 39 = .ok (.putfield 57, 3) := by decide +kernel
theorem dX7_goStep_42 : decode cX7_goStep 42 = .ok (.aload_n 0, 1) := by decide +kernel
theorem dX7_goStep_43 : decode cX7_goStep 43 = .ok (.dup, 1) := by decide +kernel
theorem dX7_goStep_44 : decode cX7_goStep 44 = .ok (.getfield 48, 3) := by decide +kernel
theorem dX7_goStep_47 : decode cX7_goStep 47 = .ok (.aload_n 0, 1) := by decide +kernel
theorem dX7_goStep_48 : decode cX7_goStep 48 = .ok (.getfield 54, 3) := by decide +kernel
theorem dX7_goStep_51 : decode cX7_goStep 51 = .ok (.iadd, 1) := by decide +kernel
theorem dX7_goStep_52 : decode cX7_goStep 52 = .ok (.putfield 48, 3) := by decide +kernel
theorem dX7_goStep_55 : decode cX7_goStep 55 = .ok (.aload_n 0, 1) := by decide +kernel
theorem dX7_goStep_56 : decode cX7_goStep 56 = .ok (.dup, 1) := by decide +kernel
theorem dX7_goStep_57 : decode cX7_goStep 57 = .ok (.getfield 51, 3) := by decide +kernel
theorem dX7_goStep_60 : decode cX7_goStep 60 = .ok (.aload_n 0, 1) := by decide +kernel
theorem dX7_goStep_61 : decode cX7_goStep 61 = .ok (.getfield 57, 3) := by decide +kernel
theorem dX7_goStep_64 : decode cX7_goStep 64 = .ok (.iadd, 1) := by decide +kernel
theorem dX7_goStep_65 : decode cX7_goStep 65 = .ok (.putfield 51, 3) := by decide +kernel
theorem dX7_goStep_68 : decode cX7_goStep 68 = .ok (.aload_n 0, 1) := by decide +kernel
theorem dX7_goStep_69 : decode cX7_goStep 69 = .ok (.invokevirtual 125, 3) := by decide +kernel
theorem dX7_goStep_72 : decode cX7_goStep 72 = .ok (.aload_n 0, 1) := by decide +kernel
theorem dX7_goStep_73 : decode cX7_goStep 73 = .ok (.getfield 38, 3) := by decide +kernel
theorem dX7_goStep_76 : decode cX7_goStep 76 = .ok (.ifCond .eq 11, 3) := by decide +kernel
theorem dX7_goStep_79 : decode cX7_goStep 79 = .ok (.aload_n 0, 1) := by decide +kernel
theorem dX7_goStep_80 : decode cX7_goStep 80 = .ok (.iload_n 1, 1) := by decide +kernel
theorem dX7_goStep_81 : decode cX7_goStep 81 = .ok (.invokevirtual 128, 3) := by decide +kernel
theorem dX7_goStep_84 : decode cX7_goStep 84 = .ok (.goto 4, 3) := by decide +kernel
theorem dX7_goStep_87 : decode cX7_goStep 87 = .ok (.iconst (-1), 1) := by decide +kernel
theorem dX7_goStep_88 : decode cX7_goStep 88 = .ok (.istore_n 2, 1) := by decide +kernel
theorem dX7_goStep_89 : decode cX7_goStep 89 = .ok (.iload_n 2, 1) := by decide +kernel
theorem dX7_goStep_90 : decode cX7_goStep 90 = .ok (.iconst (-1), 1) := by decide +kernel
theorem dX7_goStep_91 : decode cX7_goStep 91 = .ok (.if_icmp .eq 8, 3) := by decide +kernel
theorem dX7_goStep_94 : decode cX7_goStep 94 = .ok (.aload_n 0, 1) := by decide +kernel
theorem dX7_goStep_95 : decode cX7_goStep 95 = .ok (.iload_n 2, 1) := by decide +kernel
theorem dX7_goStep_96 : decode cX7_goStep 96 = .ok (.invokevirtual 131, 3) := by decide +kernel
theorem dX7_goStep_99 : decode cX7_goStep 99 = .ok (.aload_n 0, 1) := by decide +kernel
theorem dX7_goStep_100 : decode cX7_goStep 100 = .ok (.dup, 1) := by decide +kernel
theorem dX7_goStep_101 : decode cX7_goStep 101 = .ok (.getfield 69, 3) := by decide +kernel
theorem dX7_goStep_104 : decode cX7_goStep 104 = .ok (.iconst 1, 1) := by decide +kernel
theorem dX7_goStep_105 : decode cX7_goStep 105 = .ok (.iadd, 1) := by decide +kernel
theorem dX7_goStep_106 : decode cX7_goStep 106 = .ok (.putfield 69, 3) := by decide +kernel
theorem dX7_goStep_109 : decode cX7_goStep 109 = .ok (.return_, 1) := by decide +kernel
theorem dX7_lateSide_0 : decode cX7_lateSide 0 = .ok (.aload_n 0, 1) := by decide +kernel
theorem dX7_lateSide_1 : decode cX7_lateSide 1 = .ok (.getfield 42, 3) := by decide +kernel
theorem dX7_lateSide_4 : decode cX7_lateSide 4 = .ok (.iconst (-1), 1) := by decide +kernel
theorem dX7_lateSide_5 : decode cX7_lateSide 5 = .ok (.if_icmp .eq 21, 3) := by decide +kernel
theorem dX7_lateSide_8 : decode cX7_lateSide 8 = .ok (.aload_n 0, 1) := by decide +kernel
theorem dX7_lateSide_9 : decode cX7_lateSide 9 = .ok (.getfield 69, 3) := by decide +kernel
theorem dX7_lateSide_12 : decode cX7_lateSide 12 = .ok (.aload_n 0, 1) := by decide +kernel
theorem dX7_lateSide_13 : decode cX7_lateSide 13 = .ok (.getfield 45, 3) := by decide +kernel
theorem dX7_lateSide_16 : decode cX7_lateSide 16 = .ok (.if_icmp .lt 10, 3) := by decide +kernel
theorem dX7_lateSide_19 : decode cX7_lateSide 19 = .ok (.aload_n 0, 1) := by decide +kernel
theorem dX7_lateSide_20 : decode cX7_lateSide 20 = .ok (.getfield 66, 3) := by decide +kernel
theorem dX7_lateSide_23 : decode cX7_lateSide 23 = .ok (.ifCond .eq 5, 3) := by decide +kernel
theorem dX7_lateSide_26 : decode cX7_lateSide 26 = .ok (.iconst 0, 1) := by decide +kernel
theorem dX7_lateSide_27 : decode cX7_lateSide 27 = .ok (.ireturn, 1) := by decide +kernel
theorem dX7_lateSide_28 : decode cX7_lateSide 28 = .ok (.aload_n 0, 1) := by decide +kernel
theorem dX7_lateSide_29 : decode cX7_lateSide 29 = .ok (.getfield 48, 3) := by decide +kernel
theorem dX7_lateSide_32 : decode cX7_lateSide 32 = .ok (.aload_n 0, 1) := by decide +kernel
theorem dX7_lateSide_33 : decode cX7_lateSide 33 = .ok (.getfield 26, 3) := by decide +kernel
theorem dX7_lateSide_36 : decode cX7_lateSide 36 = .ok (.getfield 134, 3) := by decide +kernel
theorem dX7_lateSide_39 : decode cX7_lateSide 39 = .ok (.isub, 1) := by decide +kernel
theorem dX7_lateSide_40 : decode cX7_lateSide 40 = .ok (.aload_n 0, 1) := by decide +kernel
theorem dX7_lateSide_41 : decode cX7_lateSide 41 = .ok (.getfield 9, 3) := by decide +kernel
theorem dX7_lateSide_44 : decode cX7_lateSide 44 = .ok (.getfield 135, 3) := by decide +kernel
theorem dX7_lateSide_47 : decode cX7_lateSide 47 = .ok (.aload_n 0, 1) := by decide +kernel
theorem dX7_lateSide_48 : decode cX7_lateSide 48 = .ok (.getfield 42, 3) := by decide +kernel
theorem dX7_lateSide_51 : decode cX7_lateSide 51 = .ok (.iconst 0, 1) := by decide +kernel
theorem dX7_lateSide_52 : decode cX7_lateSide 52 = .ok (.invokevirtual 85, 3) := by decide +kernel
theorem dX7_lateSide_55 : decode cX7_lateSide 55 = .ok (.invokestatic 138, 3) := by decide +kernel
theorem dX7_lateSide_58 : decode cX7_lateSide 58 = .ok (.ireturn, 1) := by decide +kernel
theorem dX7_holdByCord_0 : decode cX7_holdByCord 0 = .ok (.aload_n 0, 1) := by decide +kernel
theorem dX7_holdByCord_1 : decode cX7_holdByCord 1 = .ok (.getfield 48, 3) := by decide +kernel
theorem dX7_holdByCord_4 : decode cX7_holdByCord 4 = .ok (.aload_n 0, 1) := by decide +kernel
theorem dX7_holdByCord_5 : decode cX7_holdByCord 5 = .ok (.getfield 26, 3) := by decide +kernel
theorem dX7_holdByCord_8 : decode cX7_holdByCord 8 = .ok (.getfield 134, 3) := by decide +kernel
theorem dX7_holdByCord_11 : decode cX7_holdByCord 11 = .ok (.isub, 1) := by decide +kernel
theorem dX7_holdByCord_12 : decode cX7_holdByCord 12 = .ok (.istore_n 1, 1) := by decide +kernel
theorem dX7_holdByCord_13 : decode cX7_holdByCord 13 = .ok (.aload_n 0, 1) := by decide +kernel
theorem dX7_holdByCord_14 : decode cX7_holdByCord 14 = .ok (.getfield 51, 3) := by decide +kernel
theorem dX7_holdByCord_17 : decode cX7_holdByCord 17 = .ok (.aload_n 0, 1) := by decide +kernel
theorem dX7_holdByCord_18 : decode cX7_holdByCord 18 = .ok (.getfield 26, 3) := by decide +kernel
theorem dX7_holdByCord_21 : decode cX7_holdByCord 21 = .ok (.getfield 117, 3) := by decide +kernel
theorem dX7_holdByCord_24 : decode cX7_holdByCord 24 = .ok (.isub, 1) := by decide +kernel
theorem dX7_holdByCord_25 : decode cX7_holdByCord 25 = .ok (.istore_n 2, 1) := by decide +kernel
theorem dX7_holdByCord_26 : decode cX7_holdByCord 26 = .ok (.iload_n 1, 1) := by decide +kernel
theorem dX7_holdByCord_27 : decode cX7_holdByCord 27 = .ok (.iload_n 1, 1) := by decide +kernel
theorem dX7_holdByCord_28 : decode cX7_holdByCord 28 = .ok (.imul, 1) := by decide +kernel
theorem dX7_holdByCord_29 : decode cX7_holdByCord 29 = .ok (.iload_n 2, 1) := by decide +kernel
theorem dX7_holdByCord_30 : decode cX7_holdByCord 30 = .ok (.iload_n 2, 1) := by decide +kernel
theorem dX7_holdByCord_31 : decode cX7_holdByCord 31 = .ok (.imul, 1) := by decide +kernel
theorem dX7_holdByCord_32 : decode cX7_holdByCord 32 = .ok (.iadd, 1) := by decide +kernel
theorem dX7_holdByCord_33 : decode cX7_holdByCord 33 = .ok (.istore_n 3, 1) := by decide +kernel
theorem dX7_holdByCord_34 : decode cX7_holdByCord 34 = .ok (.aload_n 0, 1) := by decide +kernel
theorem dX7_holdByCord_35 : decode cX7_holdByCord 35 = .ok (.iload_n 3, 1) := by decide +kernel
theorem dX7_holdByCord_36 : decode cX7_holdByCord 36 = .ok (.aload_n 0, 1) := by decide +kernel
theorem dX7_holdByCord_37 : decode cX7_holdByCord 37 = .ok (.getfield 34, 3) := by decide +kernel
theorem dX7_holdByCord_40 : decode cX7_holdByCord 40 = .ok (.aload_n 0, 1) := by decide +kernel
theorem dX7_holdByCord_41 : decode cX7_holdByCord 41 = .ok (.getfield 34, 3) := by decide +kernel
theorem dX7_holdByCord_44 : decode cX7_holdByCord 44 = .ok (.imul, 1) := by decide +kernel
theorem dX7_holdByCord_45 : decode cX7_holdByCord 45 = .ok (.if_icmp .le 7, 3) := by decide +kernel
theorem dX7_holdByCord_48 : decode cX7_holdByCord 48 = .ok (.iconst 1, 1) := by decide +kernel
theorem dX7_holdByCord_49 : decode cX7_holdByCord 49 = .ok (.goto 4, 3) := by decide +kernel
theorem dX7_holdByCord_52 : decode cX7_holdByCord 52 = .ok (.iconst 0, 1) := by decide +kernel
theorem dX7_holdByCord_53 : decode cX7_holdByCord 53 = .ok (.putfield 66, 3) := by decide +kernel
theorem dX7_holdByCord_56 : decode cX7_holdByCord 56 = .ok (.aload_n 0, 1) := by decide +kernel
theorem dX7_holdByCord_57 : decode cX7_holdByCord 57 = .ok (.getfield 66, 3) := by decide +kernel
theorem dX7_holdByCord_60 : decode cX7_holdByCord 60 = .ok (.ifCond .ne 22, 3) := by decide +kernel
theorem dX7_holdByCord_63 : decode cX7_holdByCord 63 = .ok (.aload_n 0, 1) := by decide +kernel
theorem dX7_holdByCord_64 : decode cX7_holdByCord 64 = .ok (.aload_n 0, 1) := by decide +kernel
theorem dX7_holdByCord_65 : decode cX7_holdByCord 65 = .ok (.getfield 60, 3) := by decide +kernel
theorem dX7_holdByCord_68 : decode cX7_holdByCord 68 = .ok (.aload_n 0, 1) := by decide +kernel
theorem dX7_holdByCord_69 : decode cX7_holdByCord 69 = .ok (.getfield 63, 3) := by decide +kernel
theorem dX7_holdByCord_72 : decode cX7_holdByCord 72 = .ok (.iadd, 1) := by decide +kernel
theorem dX7_holdByCord_73 : decode cX7_holdByCord 73 = .ok (.bipush 16, 2) := by decide +kernel
theorem dX7_holdByCord_75 : decode cX7_holdByCord 75 = .ok (.invokestatic 143, 3) := by decide +kernel
theorem dX7_holdByCord_78 : decode cX7_holdByCord 78 = .ok (.putfield 60, 3) := by decide +kernel
theorem dX7_holdByCord_81 : decode cX7_holdByCord 81 = .ok (.return_, 1) := by decide +kernel
theorem dX7_holdByCord_82 : decode cX7_holdByCord 82 = .ok (.aload_n 0, 1) := by decide +kernel
theorem dX7_holdByCord_83 : decode cX7_holdByCord 83 = .ok (.iload_n 3, 1) := by decide +kernel
theorem dX7_holdByCord_84 : decode cX7_holdByCord 84 = .ok (.invokevirtual 146, 3) := by decide +kernel
theorem dX7_holdByCord_87 : decode cX7_holdByCord 87 = .ok (.istore 4, 2) := by decide +kernel
theorem dX7_holdByCord_89 : decode cX7_holdByCord 89 = .ok (.iload_n 1, 1) := by decide +kernel
theorem dX7_holdByCord_90 : decode cX7_holdByCord 90 = .ok (.aload_n 0, 1) := by decide +kernel
theorem dX7_holdByCord_91 : decode cX7_holdByCord 91 = .ok (.getfield 34, 3) := by decide +kernel
theorem dX7_holdByCord_94 : decode cX7_holdByCord 94 = .ok (.imul, 1) := by decide +kernel
theorem dX7_holdByCord_95 : decode cX7_holdByCord 95 = .ok (.iload 4, 2) := by decide +kernel
theorem dX7_holdByCord_97 : decode cX7_holdByCord 97 = .ok (.idiv, 1) := by decide +kernel
theorem dX7_holdByCord_98 : decode cX7_holdByCord 98 = .ok (.istore 5, 2) := by decide +kernel
theorem dX7_holdByCord_100 : decode cX7_holdByCord 100 = .ok (.iload_n 2, 1) := by decide +kernel
theorem dX7_holdByCord_101 : decode cX7_holdByCord 101 = .ok (.aload_n 0, 1) := by decide +kernel
theorem dX7_holdByCord_102 : decode cX7_holdByCord 102 = .ok (.getfield 34, 3) := by decide +kernel
theorem dX7_holdByCord_105 : decode cX7_holdByCord 105 = .ok (.imul, 1) := by decide +kernel
theorem dX7_holdByCord_106 : decode cX7_holdByCord 106 = .ok (.iload 4, 2) := by decide +kernel
theorem dX7_holdByCord_108 : decode cX7_holdByCord 108 = .ok (.idiv, 1) := by decide +kernel
theorem dX7_holdByCord_109 : decode cX7_holdByCord 109 = .ok (.istore 6, 2) := by decide +kernel
theorem dX7_holdByCord_111 : decode cX7_holdByCord 111 = .ok (.aload_n 0, 1) := by decide +kernel
theorem dX7_holdByCord_112 : decode cX7_holdByCord 112 = .ok (.aload_n 0, 1) := by decide +kernel
theorem dX7_holdByCord_113 : decode cX7_holdByCord 113 = .ok (.getfield 26, 3) := by decide +kernel
theorem dX7_holdByCord_116 : decode cX7_holdByCord 116 = .ok (.getfield 134, 3) := by decide +kernel
theorem dX7_holdByCord_119 : decode cX7_holdByCord 119 = .ok (.iload 5, 2) := by decide +kernel
theorem dX7_holdByCord_121 : decode cX7_holdByCord 121 = .ok (.iadd, 1) := by decide +kernel
theorem dX7_holdByCord_122 : decode cX7_holdByCord 122 = .ok (.putfield 48, 3) := by decide +kernel
theorem dX7_holdByCord_125 : decode cX7_holdByCord 125 = .ok (.aload_n 0, 1) := by decide +kernel
theorem dX7_holdByCord_126 : decode cX7_holdByCord 126 = .ok (.aload_n 0, 1) := by decide +kernel
theorem dX7_holdByCord_127 : decode cX7_holdByCord 127 = .ok (.getfield 26, 3) := by decide +kernel
theorem dX7_holdByCord_130 : decode cX7_holdByCord 130 = .ok (.getfield 117, 3) := by decide +kernel
theorem dX7_holdByCord_133 : decode cX7_holdByCord 133 = .ok (.iload 6, 2) := by decide +kernel
theorem dX7_holdByCord_135 : decode cX7_holdByCord 135 = .ok (.iadd, 1) := by decide +kernel
theorem dX7_holdByCord_136 : decode cX7_holdByCord 136 = .ok (.putfield 51, 3) := by decide +kernel
theorem dX7_holdByCord_139 : decode cX7_holdByCord 139 = .ok (.aload_n 0, 1) := by decide +kernel
theorem dX7_holdByCord_140 : decode cX7_holdByCord 140 = .ok (.dup, 1) := by decide +kernel
theorem dX7_holdByCord_141 : decode cX7_holdByCord 141 = .ok (.getfield 54, 3) := by decide +kernel
theorem dX7_holdByCord_144 : decode cX7_holdByCord 144 = .ok (.iload 5, 2) := by decide +kernel
theorem dX7_holdByCord_146 : decode cX7_holdByCord 146 = .ok (.iload_n 1, 1) := by decide +kernel
theorem dX7_holdByCord_147 : decode cX7_holdByCord 147 = .ok (.isub, 1) := by decide +kernel
theorem dX7_holdByCord_148 : decode cX7_holdByCord 148 = .ok (.iadd, 1) := by decide +kernel
theorem dX7_holdByCord_149 : decode cX7_holdByCord 149 = .ok (.putfield 54, 3) := by decide +kernel
theorem dX7_holdByCord_152 : decode cX7_holdByCord 152 = .ok (.aload_n 0, 1) := by decide +kernel
theorem dX7_holdByCord_153 : decode cX7_holdByCord 153 = .ok (.dup, 1) := by decide +kernel
theorem dX7_holdByCord_154 : decode cX7_holdByCord 154 = .ok (.getfield 57, 3) := by decide +kernel
theorem dX7_holdByCord_157 : decode cX7_holdByCord 157 = .ok (.iload 6, 2) := by decide +kernel
theorem dX7_holdByCord_159 : decode cX7_holdByCord 159 = .ok (.iload_n 2, 1) := by decide +kernel
theorem dX7_holdByCord_160 : decode cX7_holdByCord 160 = .ok (.isub, 1) := by decide +kernel
theorem dX7_holdByCord_161 : decode cX7_holdByCord 161 = .ok (.iadd, 1) := by decide +kernel
theorem dX7_holdByCord_162 : decode cX7_holdByCord 162 = .ok (.putfield 57, 3) := by decide +kernel
theorem dX7_holdByCord_165 : decode cX7_holdByCord 165 = .ok (.aload_n 0, 1) := by decide +kernel
theorem dX7_holdByCord_166 : decode cX7_holdByCord 166 = .ok (.iconst 0, 1) := by decide +kernel
theorem dX7_holdByCord_167 : decode cX7_holdByCord 167 = .ok (.putfield 60, 3) := by decide +kernel
theorem dX7_holdByCord_170 : decode cX7_holdByCord 170 = .ok (.aload_n 0, 1) := by decide +kernel
theorem dX7_holdByCord_171 : decode cX7_holdByCord 171 = .ok (.aload_n 0, 1) := by decide +kernel
theorem dX7_holdByCord_172 : decode cX7_holdByCord 172 = .ok (.getfield 54, 3) := by decide +kernel
theorem dX7_holdByCord_175 : decode cX7_holdByCord 175 = .ok (.aload_n 0, 1) := by decide +kernel
theorem dX7_holdByCord_176 : decode cX7_holdByCord 176 = .ok (.getfield 26, 3) := by decide +kernel
theorem dX7_holdByCord_179 : decode cX7_holdByCord 179 = .ok (.getfield 111, 3) := by decide +kernel
theorem dX7_holdByCord_182 : decode cX7_holdByCord 182 = .ok (.isub, 1) := by decide +kernel
theorem dX7_holdByCord_183 : decode cX7_holdByCord 183 = .ok (.iconst 3, 1) := by decide +kernel
theorem dX7_holdByCord_184 : decode cX7_holdByCord 184 = .ok (.idiv, 1) := by decide +kernel
theorem dX7_holdByCord_185 : decode cX7_holdByCord 185 = .ok (.putfield 63, 3) := by decide +kernel
theorem dX7_holdByCord_188 : decode cX7_holdByCord 188 = .ok (.aload_n 0, 1) := by decide +kernel
theorem dX7_holdByCord_189 : decode cX7_holdByCord 189 = .ok (.dup, 1) := by decide +kernel
theorem dX7_holdByCord_190 : decode cX7_holdByCord 190 = .ok (.getfield 78, 3) := by decide +kernel
theorem dX7_holdByCord_193 : decode cX7_holdByCord 193 = .ok (.iconst 1, 1) := by decide +kernel
theorem dX7_holdByCord_194 : decode cX7_holdByCord 194 = .ok (.iadd, 1) := by decide +kernel
theorem dX7_holdByCord_195 : decode cX7_holdByCord 195 = .ok (.putfield 78, 3) := by decide +kernel
theorem dX7_holdByCord_198 : decode cX7_holdByCord 198 = .ok (.return_, 1) := by decide +kernel
theorem dX7_wholeRoot_0 : decode cX7_wholeRoot 0 = .ok (.aload_n 0, 1) := by decide +kernel
theorem dX7_wholeRoot_1 : decode cX7_wholeRoot 1 = .ok (.getfield 34, 3) := by decide +kernel
theorem dX7_wholeRoot_4 : decode cX7_wholeRoot 4 = .ok (.iconst 1, 1) := by decide +kernel
theorem dX7_wholeRoot_5 : decode cX7_wholeRoot 5 = .ok (.invokestatic 149, 3) := by decide +kernel
theorem dX7_wholeRoot_8 : decode cX7_wholeRoot 8 = .ok (.istore_n 2, 1) := by decide +kernel
theorem dX7_wholeRoot_9 : decode cX7_wholeRoot 9 = .ok (.iload_n 2, 1) := by decide +kernel
theorem dX7_wholeRoot_10 : decode cX7_wholeRoot 10 = .ok (.ldc 152, 2) := by decide +kernel
theorem dX7_wholeRoot_12 : decode cX7_wholeRoot 12 = .ok (.if_icmp .ge 20, 3) := by decide +kernel
theorem dX7_wholeRoot_15 : decode cX7_wholeRoot 15 = .ok (.iload_n 2, 1) := by decide +kernel
theorem dX7_wholeRoot_16 : decode cX7_wholeRoot 16 = .ok (.iconst 1, 1) := by decide +kernel
theorem dX7_wholeRoot_17 : decode cX7_wholeRoot 17 = .ok (.iadd, 1) := by decide +kernel
theorem dX7_wholeRoot_18 : decode cX7_wholeRoot 18 = .ok (.iload_n 2, 1) := by decide +kernel
theorem dX7_wholeRoot_19 : decode cX7_wholeRoot 19 = .ok (.iconst 1, 1) := by decide +kernel
theorem dX7_wholeRoot_20 : decode cX7_wholeRoot 20 = .ok (.iadd, 1) := by decide +kernel
theorem dX7_wholeRoot_21 : decode cX7_wholeRoot 21 = .ok (.imul, 1) := by decide +kernel
theorem dX7_wholeRoot_22 : decode cX7_wholeRoot 22 = .ok (.iload_n 1, 1) := by decide +kernel
theorem dX7_wholeRoot_23 : decode cX7_wholeRoot 23 = .ok (.if_icmp .gt 9, 3) := by decide +kernel
theorem dX7_wholeRoot_26 : decode cX7_wholeRoot 26 = .ok (.iinc 2 1, 3) := by decide +kernel
theorem dX7_wholeRoot_29 : decode cX7_wholeRoot 29 = .ok (.goto (-20), 3) := by decide +kernel
theorem dX7_wholeRoot_32 : decode cX7_wholeRoot 32 = .ok (.iload_n 2, 1) := by decide +kernel
theorem dX7_wholeRoot_33 : decode cX7_wholeRoot 33 = .ok (.ireturn, 1) := by decide +kernel
theorem dX7_metCup_0 : decode cX7_metCup 0 = .ok (.aload_n 0, 1) := by decide +kernel
theorem dX7_metCup_1 : decode cX7_metCup 1 = .ok (.getfield 9, 3) := by decide +kernel
theorem dX7_metCup_4 : decode cX7_metCup 4 = .ok (.getfield 135, 3) := by decide +kernel
theorem dX7_metCup_7 : decode cX7_metCup 7 = .ok (.astore_n 2, 1) := by decide +kernel
theorem dX7_metCup_8 : decode cX7_metCup 8 = .ok (.aload_n 0, 1) := by decide +kernel
theorem dX7_metCup_9 : decode cX7_metCup 9 = .ok (.getfield 48, 3) := by decide +kernel
theorem dX7_metCup_12 : decode cX7_metCup 12 = .ok (.aload_n 0, 1) := by decide +kernel
theorem dX7_metCup_13 : decode cX7_metCup 13 = .ok (.getfield 26, 3) := by decide +kernel
theorem dX7_metCup_16 : decode cX7_metCup 16 = .ok (.getfield 134, 3) := by decide +kernel
theorem dX7_metCup_19 : decode cX7_metCup 19 = .ok (.isub, 1) := by decide +kernel
theorem dX7_metCup_20 : decode cX7_metCup 20 = .ok (.istore_n 3, 1) := by decide +kernel
theorem dX7_metCup_21 : decode cX7_metCup 21 = .ok (.aload_n 0, 1) := by decide +kernel
theorem dX7_metCup_22 : decode cX7_metCup 22 = .ok (.getfield 51, 3) := by decide +kernel
theorem dX7_metCup_25 : decode cX7_metCup 25 = .ok (.aload_n 0, 1) := by decide +kernel
theorem dX7_metCup_26 : decode cX7_metCup 26 = .ok (.getfield 26, 3) := by decide +kernel
theorem dX7_metCup_29 : decode cX7_metCup 29 = .ok (.getfield 117, 3) := by decide +kernel
theorem dX7_metCup_32 : decode cX7_metCup 32 = .ok (.isub, 1) := by decide +kernel
theorem dX7_metCup_33 : decode cX7_metCup 33 = .ok (.istore 4, 2) := by decide +kernel
theorem dX7_metCup_35 : decode cX7_metCup 35 = .ok (.iconst 0, 1) := by decide +kernel
theorem dX7_metCup_36 : decode cX7_metCup 36 = .ok (.istore 5, 2) := by decide +kernel
theorem dX7_metCup_38 : decode cX7_metCup 38 = .ok (.iload 5, 2) := by decide +kernel
theorem dX7_metCup_40 : decode cX7_metCup 40 = .ok (.aload_n 2, 1) := by decide +kernel
theorem dX7_metCup_41 : decode cX7_metCup 41 = .ok (.getfield 153, 3) := by decide +kernel
theorem dX7_metCup_44 : decode cX7_metCup 44 = .ok (.if_icmp .ge 70, 3) := by decide +kernel
theorem dX7_metCup_47 : decode cX7_metCup 47 = .ok (.aload_n 2, 1) := by decide +kernel
theorem dX7_metCup_48 : decode cX7_metCup 48 = .ok (.iload 5, 2) := by decide +kernel
theorem dX7_metCup_50 : decode cX7_metCup 50 = .ok (.iconst 1, 1) := by decide +kernel
theorem dX7_metCup_51 : decode cX7_metCup 51 = .ok (.invokevirtual 85, 3) := by decide +kernel
theorem dX7_metCup_54 : decode cX7_metCup 54 = .ok (.istore 6, 2) := by decide +kernel
theorem dX7_metCup_56 : decode cX7_metCup 56 = .ok (.iload_n 1, 1) := by decide +kernel
theorem dX7_metCup_57 : decode cX7_metCup 57 = .ok (.iload 6, 2) := by decide +kernel
theorem dX7_metCup_59 : decode cX7_metCup 59 = .ok (.if_icmp .lt 14, 3) := by decide +kernel
theorem dX7_metCup_62 : decode cX7_metCup 62 = .ok (.iload 4, 2) := by decide +kernel
theorem dX7_metCup_64 : decode cX7_metCup 64 = .ok (.iload 6, 2) := by decide +kernel
theorem dX7_metCup_66 : decode cX7_metCup 66 = .ok (.if_icmp .ge 7, 3) := by decide +kernel
theorem dX7_metCup_69 : decode cX7_metCup 69 = .ok (.iconst 1, 1) := by decide +kernel
theorem dX7_metCup_70 : decode cX7_metCup 70 = .ok (.goto 4, 3) := by decide +kernel
theorem dX7_metCup_73 : decode cX7_metCup 73 = .ok (.iconst 0, 1) := by decide +kernel
theorem dX7_metCup_74 : decode cX7_metCup 74 = .ok (.istore 7, 2) := by decide +kernel
theorem dX7_metCup_76 : decode cX7_metCup 76 = .ok (.iload 7, 2) := by decide +kernel
theorem dX7_metCup_78 : decode cX7_metCup 78 = .ok (.ifCond .eq 30, 3) := by decide +kernel
theorem dX7_metCup_81 : decode cX7_metCup 81 = .ok (.iload_n 3, 1) := by decide +kernel
theorem dX7_metCup_82 : decode cX7_metCup 82 = .ok (.aload_n 2, 1) := by decide +kernel
theorem dX7_metCup_83 : decode cX7_metCup 83 = .ok (.iload 5, 2) := by decide +kernel
theorem dX7_metCup_85 : decode cX7_metCup 85 = .ok (.iconst 0, 1) := by decide +kernel
theorem dX7_metCup_86 : decode cX7_metCup 86 = .ok (.invokevirtual 85, 3) := by decide +kernel
theorem dX7_metCup_89 : decode cX7_metCup 89 = .ok (.isub, 1) := by decide +kernel
theorem dX7_metCup_90 : decode cX7_metCup 90 = .ok (.invokestatic 105, 3) := by decide +kernel
theorem dX7_metCup_93 : decode cX7_metCup 93 = .ok (.aload_n 2, 1) := by decide +kernel
theorem dX7_metCup_94 : decode cX7_metCup 94 = .ok (.iload 5, 2) := by decide +kernel
theorem dX7_metCup_96 : decode cX7_metCup 96 = .ok (.iconst 2, 1) := by decide +kernel
theorem dX7_metCup_97 : decode cX7_metCup 97 = .ok (.invokevirtual 85, 3) := by decide +kernel
theorem dX7_metCup_100 : decode cX7_metCup 100 = .ok (.iconst 2, 1) := by decide +kernel
theorem dX7_metCup_101 : decode cX7_metCup 101 = .ok (.iadd, 1) := by decide +kernel
theorem dX7_metCup_102 : decode cX7_metCup 102 = .ok (.if_icmp .gt 6, 3) := by decide +kernel
theorem dX7_metCup_105 : decode cX7_metCup 105 = .ok (.iload 5, 2) := by decide +kernel
theorem dX7_metCup_107 : decode cX7_metCup 107 = .ok (.ireturn, 1) := by decide +kernel
theorem dX7_metCup_108 : decode cX7_metCup 108 = .ok (.iinc 5 1, 3) := by decide +kernel
theorem dX7_metCup_111 : decode cX7_metCup 111 = .ok (.goto (-73), 3) := by decide +kernel
theorem dX7_metCup_114 : decode cX7_metCup 114 = .ok (.iconst (-1), 1) := by decide +kernel
theorem dX7_metCup_115 : decode cX7_metCup 115 = .ok (.ireturn, 1) := by decide +kernel
theorem dX7_comeDownOn_0 : decode cX7_comeDownOn 0 = .ok (.aload_n 0, 1) := by decide +kernel
theorem dX7_comeDownOn_1 : decode cX7_comeDownOn 1 = .ok (.getfield 9, 3) := by decide +kernel
theorem dX7_comeDownOn_4 : decode cX7_comeDownOn 4 = .ok (.getfield 135, 3) := by decide +kernel
theorem dX7_comeDownOn_7 : decode cX7_comeDownOn 7 = .ok (.astore_n 2, 1) := by decide +kernel
theorem dX7_comeDownOn_8 : decode cX7_comeDownOn 8 = .ok (.aload_n 0, 1) := by decide +kernel
theorem dX7_comeDownOn_9 : decode cX7_comeDownOn 9 = .ok (.getfield 48, 3) := by decide +kernel
theorem dX7_comeDownOn_12 : decode cX7_comeDownOn 12 = .ok (.aload_n 0, 1) := by decide +kernel
theorem dX7_comeDownOn_13 : decode cX7_comeDownOn 13 = .ok (.getfield 26, 3) := by decide +kernel
theorem dX7_comeDownOn_16 : decode cX7_comeDownOn 16 = .ok (.getfield 134, 3) := by decide +kernel
theorem dX7_comeDownOn_19 : decode cX7_comeDownOn 19 = .ok (.isub, 1) := by decide +kernel
theorem dX7_comeDownOn_20 : decode cX7_comeDownOn 20 = .ok (.aload_n 2, 1) := by decide +kernel
theorem dX7_comeDownOn_21 : decode cX7_comeDownOn 21 = .ok (.iload_n 1, 1) := by decide +kernel
theorem dX7_comeDownOn_22 : decode cX7_comeDownOn 22 = .ok (.iconst 0, 1) := by decide +kernel
theorem dX7_comeDownOn_23 : decode cX7_comeDownOn 23 = .ok (.invokevirtual 85, 3) := by decide +kernel
theorem dX7_comeDownOn_26 : decode cX7_comeDownOn 26 = .ok (.isub, 1) := by decide +kernel
theorem dX7_comeDownOn_27 : decode cX7_comeDownOn 27 = .ok (.invokestatic 105, 3) := by decide +kernel
theorem dX7_comeDownOn_30 : decode cX7_comeDownOn 30 = .ok (.aload_n 2, 1) := by decide +kernel
theorem dX7_comeDownOn_31 : decode cX7_comeDownOn 31 = .ok (.iload_n 1, 1) := by decide +kernel
theorem dX7_comeDownOn_32 : decode cX7_comeDownOn 32 = .ok (.iconst 2, 1) := by decide +kernel
theorem dX7_comeDownOn_33 : decode cX7_comeDownOn 33 = .ok (.invokevirtual 85, 3) := by decide +kernel
theorem dX7_comeDownOn_36 : decode cX7_comeDownOn 36 = .ok (.if_icmp .gt 7, 3) := by decide +kernel
theorem dX7_comeDownOn_39 : decode cX7_comeDownOn 39 = .ok (.iconst 1, 1) := by decide +kernel
theorem dX7_comeDownOn_40 : decode cX7_comeDownOn 40 = .ok (.goto 4, 3) := by decide +kernel
theorem dX7_comeDownOn_43 : decode cX7_comeDownOn 43 = .ok (.iconst 0, 1) := by decide +kernel
theorem dX7_comeDownOn_44 : decode cX7_comeDownOn 44 = .ok (.istore_n 3, 1) := by decide +kernel
theorem dX7_comeDownOn_45 : decode cX7_comeDownOn 45 = .ok (.aload_n 0, 1) := by decide +kernel
theorem dX7_comeDownOn_46 : decode cX7_comeDownOn 46 = .ok (.getfield 54, 3) := by decide +kernel
theorem dX7_comeDownOn_49 : decode cX7_comeDownOn 49 = .ok (.aload_n 0, 1) := by decide +kernel
theorem dX7_comeDownOn_50 : decode cX7_comeDownOn 50 = .ok (.getfield 26, 3) := by decide +kernel
theorem dX7_comeDownOn_53 : decode cX7_comeDownOn 53 = .ok (.getfield 111, 3) := by decide +kernel
theorem dX7_comeDownOn_56 : decode cX7_comeDownOn 56 = .ok (.isub, 1) := by decide +kernel
theorem dX7_comeDownOn_57 : decode cX7_comeDownOn 57 = .ok (.invokestatic 105, 3) := by decide +kernel
theorem dX7_comeDownOn_60 : decode cX7_comeDownOn 60 = .ok (.aload_n 0, 1) := by decide +kernel
theorem dX7_comeDownOn_61 : decode cX7_comeDownOn 61 = .ok (.getfield 9, 3) := by decide +kernel
theorem dX7_comeDownOn_64 : decode cX7_comeDownOn 64 = .ok (.getfield 81, 3) := by decide +kernel
theorem dX7_comeDownOn_67 : decode cX7_comeDownOn 67 = .ok (.iconst 2, 1) := by decide +kernel
theorem dX7_comeDownOn_68 : decode cX7_comeDownOn 68 = .ok (.iaload, 1) := by decide +kernel
theorem dX7_comeDownOn_69 : decode cX7_comeDownOn 69 = .ok (.if_icmp .gt 7, 3) := by decide +kernel
theorem dX7_comeDownOn_72 : decode cX7_comeDownOn 72 = .ok (.iconst 1, 1) := by decide +kernel
theorem dX7_comeDownOn_73 : decode cX7_comeDownOn 73 = .ok (.goto 4, 3) := by decide +kernel
theorem dX7_comeDownOn_76 : decode cX7_comeDownOn 76 = .ok (.iconst 0, 1) := by decide +kernel
theorem dX7_comeDownOn_77 : decode cX7_comeDownOn 77 = .ok (.istore 4, 2) := by decide +kernel
theorem dX7_comeDownOn_79 : decode cX7_comeDownOn 79 = .ok (.aload_n 0, 1) := by decide +kernel
theorem dX7_comeDownOn_80 : decode cX7_comeDownOn 80 = .ok (.getfield 60, 3) := by decide +kernel
theorem dX7_comeDownOn_83 : decode cX7_comeDownOn 83 = .ok (.bipush 15, 2) := by decide +kernel
theorem dX7_comeDownOn_85 : decode cX7_comeDownOn 85 = .ok (.if_icmp .eq 18, 3) := by decide +kernel
theorem dX7_comeDownOn_88 : decode cX7_comeDownOn 88 = .ok (.aload_n 0, 1) := by decide +kernel
theorem dX7_comeDownOn_89 : decode cX7_comeDownOn 89 = .ok (.getfield 60, 3) := by decide +kernel
theorem dX7_comeDownOn_92 : decode cX7_comeDownOn 92 = .ok (.ifCond .eq 11, 3) := by decide +kernel
theorem dX7_comeDownOn_95 : decode cX7_comeDownOn 95 = .ok (.aload_n 0, 1) := by decide +kernel
theorem dX7_comeDownOn_96 : decode cX7_comeDownOn 96 = .ok (.getfield 60, 3) := by decide +kernel
theorem dX7_comeDownOn_99 : decode cX7_comeDownOn 99 = .ok (.iconst 1, 1) := by decide +kernel
theorem dX7_comeDownOn_100 : decode cX7_comeDownOn 100 = .ok (.if_icmp .ne 7, 3) := by decide +kernel
theorem dX7_comeDownOn_103 : decode cX7_comeDownOn 103 = .ok (.iconst 1, 1) := by decide +kernel
theorem dX7_comeDownOn_104 : decode cX7_comeDownOn 104 = .ok (.goto 4, 3) := by decide +kernel
theorem dX7_comeDownOn_107 : decode cX7_comeDownOn 107 = .ok (.iconst 0, 1) := by decide +kernel
theorem dX7_comeDownOn_108 : decode cX7_comeDownOn 108 = .ok (.istore 5, 2) := by decide +kernel
theorem dX7_comeDownOn_110 : decode cX7_comeDownOn 110 = .ok (.iload_n 3, 1) := by decide +kernel
theorem dX7_comeDownOn_111 : decode cX7_comeDownOn 111 = .ok (.ifCond .eq 30, 3) := by decide +kernel
theorem dX7_comeDownOn_114 : decode cX7_comeDownOn 114 = .ok (.iload 4, 2) := by decide +kernel
theorem dX7_comeDownOn_116 : decode cX7_comeDownOn 116 = .ok (.ifCond .eq 25, 3) := by decide +kernel
theorem dX7_comeDownOn_119 : decode cX7_comeDownOn 119 = .ok (.aload_n 2, 1) := by decide +kernel
theorem dX7_comeDownOn_120 : decode cX7_comeDownOn 120 = .ok (.iload_n 1, 1) := by decide +kernel
theorem dX7_comeDownOn_121 : decode cX7_comeDownOn 121 = .ok (.iconst 4, 1) := by decide +kernel
theorem dX7_comeDownOn_122 : decode cX7_comeDownOn 122 = .ok (.invokevirtual 85, 3) := by decide +kernel
theorem dX7_comeDownOn_125 : decode cX7_comeDownOn 125 = .ok (.ifCond .eq 8, 3) := by decide +kernel
theorem dX7_comeDownOn_128 : decode cX7_comeDownOn 128 = .ok (.iload 5, 2) := by decide +kernel
theorem dX7_comeDownOn_130 : decode cX7_comeDownOn 130 = .ok (.ifCond .eq 11, 3) := by decide +kernel
theorem dX7_comeDownOn_133 : decode cX7_comeDownOn 133 = .ok (.aload_n 0, 1) := by decide +kernel
theorem dX7_comeDownOn_134 : decode cX7_comeDownOn 134 = .ok (.iload_n 1, 1) := by decide +kernel
theorem dX7_comeDownOn_135 : decode cX7_comeDownOn 135 = .ok (.putfield 72, 3) := by decide +kernel
theorem dX7_comeDownOn_138 : decode cX7_comeDownOn 138 = .ok (.goto 26, 3) := by decide +kernel
theorem dX7_comeDownOn_141 : decode cX7_comeDownOn 141 = .ok (.aload_n 0, 1) := by decide +kernel
theorem dX7_comeDownOn_142 : decode cX7_comeDownOn 142 = .ok (.dup, 1) := by decide +kernel
theorem dX7_comeDownOn_143 : decode cX7_comeDownOn 143 = .ok (.getfield 75, 3) := by decide +kernel
theorem dX7_comeDownOn_146 : decode cX7_comeDownOn 146 = .ok (.iconst 1, 1) := by decide +kernel
theorem dX7_comeDownOn_147 : decode cX7_comeDownOn 147 = .ok (.iadd, 1) := by decide +kernel
theorem dX7_comeDownOn_148 : decode cX7_comeDownOn 148 = .ok (.putfield 75, 3) := by decide +kernel
theorem dX7_comeDownOn_151 : decode cX7_comeDownOn 151 = .ok (.aload_n 0, 1) := by decide +kernel
theorem dX7_comeDownOn_152 : decode cX7_comeDownOn 152 = .ok (.aload_n 0, 1) := by decide +kernel
theorem dX7_comeDownOn_153 : decode cX7_comeDownOn 153 = .ok (.getfield 57, 3) := by decide +kernel
theorem dX7_comeDownOn_156 : decode cX7_comeDownOn 156 = .ok (.invokestatic 105, 3) := by decide +kernel
theorem dX7_comeDownOn_159 : decode cX7_comeDownOn 159 = .ok (.iconst 2, 1) := by decide +kernel
theorem dX7_comeDownOn_160 : decode cX7_comeDownOn 160 = .ok (.idiv, 1) := by decide +kernel
theorem dX7_comeDownOn_161 : decode cX7_comeDownOn 161 = .ok (.putfield 57, 3) := by decide +kernel
theorem dX7_comeDownOn_164 : decode cX7_comeDownOn 164 = .ok (.return_, 1) := by decide +kernel
