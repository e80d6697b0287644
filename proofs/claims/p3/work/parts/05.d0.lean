theorem dX10_accept_0 : decode cX10_accept 0 = .ok (.aload_n 0, 1) := by decide +kernel
theorem dX10_accept_1 : decode cX10_accept 1 = .ok (.iconst 0, 1) := by decide +kernel
theorem dX10_accept_2 : decode cX10_accept 2 = .ok (.putfield 41, 3) := by decide +kernel
theorem dX10_accept_5 : decode cX10_accept 5 = .ok (.aload_n 0, 1) := by decide +kernel
theorem dX10_accept_6 : decode cX10_accept 6 = .ok (.getfield 10, 3) := by decide +kernel
theorem dX10_accept_9 : decode cX10_accept 9 = .ok (.dup, 1) := by decide +kernel
theorem dX10_accept_10 : decode cX10_accept 10 = .ok (.getfield 220, 3) := by decide +kernel
theorem dX10_accept_13 : decode cX10_accept 13 = .ok (.iconst 1, 1) := by decide +kernel
theorem dX10_accept_14 : decode cX10_accept 14 = .ok (.iadd, 1) := by decide +kernel
theorem dX10_accept_15 : decode cX10_accept 15 = .ok (.putfield 220, 3) := by decide +kernel
theorem dX10_accept_18 : decode cX10_accept 18 = .ok (.iload_n 1, 1) := by decide +kernel
theorem dX10_accept_19 : decode cX10_accept 19 = .ok (.ireturn, 1) := by decide +kernel
theorem dX10_refuse_0 : decode cX10_refuse 0 = .ok (.aload_n 0, 1) := by decide +kernel
theorem dX10_refuse_1 : decode cX10_refuse 1 = .ok (.iload_n 1, 1) := by decide +kernel
theorem dX10_refuse_2 : decode cX10_refuse 2 = .ok (.putfield 41, 3) := by decide +kernel
theorem dX10_refuse_5 : decode cX10_refuse 5 = .ok (.aload_n 0, 1) := by decide +kernel
theorem dX10_refuse_6 : decode cX10_refuse 6 = .ok (.getfield 38, 3) := by decide +kernel
theorem dX10_refuse_9 : decode cX10_refuse 9 = .ok (.iload_n 1, 1) := by decide +kernel
theorem dX10_refuse_10 : decode cX10_refuse 10 = .ok (.ineg, 1) := by decide +kernel
theorem dX10_refuse_11 : decode cX10_refuse 11 = .ok (.dup2, 1) := by decide +kernel
theorem dX10_refuse_12 : decode cX10_refuse 12 = .ok (.iaload, 1) := by decide +kernel
theorem dX10_refuse_13 : decode cX10_refuse 13 = .ok (.iconst 1, 1) := by decide +kernel
theorem dX10_refuse_14 : decode cX10_refuse 14 = .ok (.iadd, 1) := by decide +kernel
theorem dX10_refuse_15 : decode cX10_refuse 15 = .ok (.iastore, 1) := by decide +kernel
theorem dX10_refuse_16 : decode cX10_refuse 16 = .ok (.iload_n 1, 1) := by decide +kernel
theorem dX10_refuse_17 : decode cX10_refuse 17 = .ok (.ireturn, 1) := by decide +kernel
theorem dX1_grow_0 : decode cX1_grow 0 = .ok (.aload_n 0, 1) := by decide +kernel
theorem dX1_grow_1 : decode cX1_grow 1 = .ok (.getfield 9, 3) := by decide +kernel
theorem dX1_grow_4 : decode cX1_grow 4 = .ok (.bipush 12, 2) := by decide +kernel
theorem dX1_grow_6 : decode cX1_grow 6 = .ok (.if_icmp .lt 5, 3) := by decide +kernel
theorem dX1_grow_9 : decode cX1_grow 9 = .ok (.iconst 0, 1) := by decide +kernel
theorem dX1_grow_10 : decode cX1_grow 10 = .ok (.ireturn, 1) := by decide +kernel
theorem dX1_grow_11 : decode cX1_grow 11 = .ok (.aload_n 0, 1) := by decide +kernel
theorem dX1_grow_12 : decode cX1_grow 12 = .ok (.getfield 15, 3) := by decide +kernel
theorem dX1_grow_15 : decode cX1_grow 15 = .ok (.aload_n 0, 1) := by decide +kernel
theorem dX1_grow_16 : decode cX1_grow 16 = .ok (.getfield 9, 3) := by decide +kernel
theorem dX1_grow_19 : decode cX1_grow 19 = .ok (.iconst 0, 1) := by decide +kernel
theorem dX1_grow_20 : decode cX1_grow 20 = .ok (.iastore, 1) := by decide +kernel
theorem dX1_grow_21 : decode cX1_grow 21 = .ok (.aload_n 0, 1) := by decide +kernel
theorem dX1_grow_22 : decode cX1_grow 22 = .ok (.dup, 1) := by decide +kernel
theorem dX1_grow_23 : decode cX1_grow 23 = .ok (.getfield 9, 3) := by decide +kernel
theorem dX1_grow_26 : decode cX1_grow 26 = .ok (.iconst 1, 1) := by decide +kernel
theorem dX1_grow_27 : decode cX1_grow 27 = .ok (.iadd, 1) := by decide +kernel
theorem dX1_grow_28 : decode cX1_grow 28 = .ok (.putfield 9, 3) := by decide +kernel
theorem dX1_grow_31 : decode cX1_grow 31 = .ok (.iconst 1, 1) := by decide +kernel
theorem dX1_grow_32 : decode cX1_grow 32 = .ok (.ireturn, 1) := by decide +kernel
theorem dX10_column_0 : decode cX10_column 0 = .ok (.aload_n 0, 1) := by decide +kernel
theorem dX10_column_1 : decode cX10_column 1 = .ok (.getfield 10, 3) := by decide +kernel
theorem dX10_column_4 : decode cX10_column 4 = .ok (.getfield 99, 3) := by decide +kernel
theorem dX10_column_7 : decode cX10_column 7 = .ok (.invokevirtual 103, 3) := by decide +kernel
theorem dX10_column_10 : decode cX10_column 10 = .ok (.ifCond .ne 10, 3) := by decide +kernel
theorem dX10_column_13 : decode cX10_column 13 = .ok (.aload_n 0, 1) := by decide +kernel
theorem dX10_column_14 : decode cX10_column 14 = .ok (.bipush (-5), 2) := by decide +kernel
theorem dX10_column_16 : decode cX10_column 16 = .ok (.invokevirtual 109, 3) := by decide +kernel
theorem dX10_column_19 : decode cX10_column 19 = .ok (.ireturn, 1) := by decide +kernel
theorem dX10_column_20 : decode cX10_column 20 = .ok (.aload_n 0, 1) := by decide +kernel
theorem dX10_column_21 : decode cX10_column 21 = .ok (.getfield 10, 3) := by decide +kernel
theorem dX10_column_24 : decode cX10_column 24 = .ok (.getfield 99, 3) := by decide +kernel
theorem dX10_column_27 : decode cX10_column 27 = .ok (.getfield 113, 3) := by decide +kernel
theorem dX10_column_30 : decode cX10_column 30 = .ok (.iconst 1, 1) := by decide +kernel
theorem dX10_column_31 : decode cX10_column 31 = .ok (.isub, 1) := by decide +kernel
theorem dX10_column_32 : decode cX10_column 32 = .ok (.istore_n 1, 1) := by decide +kernel
theorem dX10_column_33 : decode cX10_column 33 = .ok (.aload_n 0, 1) := by decide +kernel
theorem dX10_column_34 : decode cX10_column 34 = .ok (.getfield 10, 3) := by decide +kernel
theorem dX10_column_37 : decode cX10_column 37 = .ok (.getfield 116, 3) := by decide +kernel
theorem dX10_column_40 : decode cX10_column 40 = .ok (.iload_n 1, 1) := by decide +kernel
theorem dX10_column_41 : decode cX10_column 41 = .ok (.iconst (-1), 1) := by decide +kernel
theorem dX10_column_42 : decode cX10_column 42 = .ok (.iastore, 1) := by decide +kernel
theorem dX10_column_43 : decode cX10_column 43 = .ok (.aload_n 0, 1) := by decide +kernel
theorem dX10_column_44 : decode cX10_column 44 = .ok (.iload_n 1, 1) := by decide +kernel
theorem dX10_column_45 : decode cX10_column 45 = .ok (.invokevirtual 119, 3) := by decide +kernel
theorem dX10_column_48 : decode cX10_column 48 = .ok (.ireturn, 1) := by decide +kernel
theorem dX1_has_0 : decode cX1_has 0 = .ok (.iload_n 1, 1) := by decide +kernel
theorem dX1_has_1 : decode cX1_has 1 = .ok (.ifCond .lt 15, 3) := by decide +kernel
theorem dX1_has_4 : decode cX1_has 4 = .ok (.iload_n 1, 1) := by decide +kernel
theorem dX1_has_5 : decode cX1_has 5 = .ok (.aload_n 0, 1) := by decide +kernel
theorem dX1_has_6 : decode cX1_has 6 = .ok (.getfield 9, 3) := by decide +kernel
theorem dX1_has_9 : decode cX1_has 9 = .ok (.if_icmp .ge 7, 3) := by decide +kernel
theorem dX1_has_12 : decode cX1_has 12 = .ok (.iconst 1, 1) := by decide +kernel
theorem dX1_has_13 : decode cX1_has 13 = .ok (.goto 4, 3) := by decide +kernel
theorem dX1_has_16 : decode cX1_has 16 = .ok (.iconst 0, 1) := by decide +kernel
theorem dX1_has_17 : decode cX1_has 17 = .ok (.ireturn, 1) := by decide +kernel
theorem dX1_put_0 : decode cX1_put 0 = .ok (.aload_n 0, 1) := by decide +kernel
theorem dX1_put_1 : decode cX1_put 1 = .ok (.iload_n 1, 1) := by decide +kernel
theorem dX1_put_2 : decode cX1_put 2 = .ok (.invokevirtual 22, 3) := by decide +kernel
theorem dX1_put_5 : decode cX1_put 5 = .ok (.ifCond .eq 14, 3) := by decide +kernel
theorem dX1_put_8 : decode cX1_put 8 = .ok (.aload_n 0, 1) := by decide +kernel
theorem dX1_put_9 : decode cX1_put 9 = .ok (.getfield 15, 3) := by decide +kernel
theorem dX1_put_12 : decode cX1_put 12 = .ok (.iload_n 1, 1) := by decide +kernel
theorem dX1_put_13 : decode cX1_put 13 = .ok (.iaload, 1) := by decide +kernel
theorem dX1_put_14 : decode cX1_put 14 = .ok (.bipush 10, 2) := by decide +kernel
theorem dX1_put_16 : decode cX1_put 16 = .ok (.if_icmp .lt 5, 3) := by decide +kernel
theorem dX1_put_19 : decode cX1_put 19 = .ok (.iconst 0, 1) := by decide +kernel
theorem dX1_put_20 : decode cX1_put 20 = .ok (.ireturn, 1) := by decide +kernel
theorem dX1_put_21 : decode cX1_put 21 = .ok (.aload_n 0, 1) := by decide +kernel
theorem dX1_put_22 : decode cX1_put 22 = .ok (.getfield 19, 3) := by decide +kernel
theorem dX1_put_25 : decode cX1_put 25 = .ok (.iload_n 1, 1) := by decide +kernel
theorem dX1_put_26 : decode cX1_put 26 = .ok (.bipush 10, 2) := by decide +kernel
theorem dX1_put_28 : decode cX1_put 28 = .ok (.imul, 1) := by decide +kernel
theorem dX1_put_29 : decode cX1_put 29 = .ok (.aload_n 0, 1) := by decide +kernel
theorem dX1_put_30 : decode cX1_put 30 = .ok (.getfield 15, 3) := by decide +kernel
theorem dX1_put_33 : decode cX1_put 33 = .ok (.iload_n 1, 1) := by decide +kernel
theorem dX1_put_34 : decode cX1_put 34 = .ok (.iaload, 1) := by decide +kernel
theorem dX1_put_35 : decode cX1_put 35 = .ok (.iadd, 1) := by decide +kernel
theorem dX1_put_36 : decode cX1_put 36 = .ok (.iload_n 2, 1) := by decide +kernel
theorem dX1_put_37 : decode cX1_put 37 = .ok (.iastore, 1) := by decide +kernel
theorem dX1_put_38 : decode cX1_put 38 = .ok (.aload_n 0, 1) := by decide +kernel
theorem dX1_put_39 : decode cX1_put 39 = .ok (.getfield 15, 3) := by decide +kernel
theorem dX1_put_42 : decode cX1_put 42 = .ok (.iload_n 1, 1) := by decide +kernel
theorem dX1_put_43 : decode cX1_put 43 = .ok (.dup2, 1) := by decide +kernel
theorem dX1_put_44 : decode cX1_put 44 = .ok (.iaload, 1) := by decide +kernel
theorem dX1_put_45 : decode cX1_put 45 = .ok (.iconst 1, 1) := by decide +kernel
theorem dX1_put_46 : decode cX1_put 46 = .ok (.iadd, 1) := by decide +kernel
theorem dX1_put_47 : decode cX1_put 47 = .ok (.iastore, 1) := by decide +kernel
theorem dX1_put_48 : decode cX1_put 48 = .ok (.iconst 1, 1) := by decide +kernel
theorem dX1_put_49 : decode cX1_put 49 = .ok (.ireturn, 1) := by decide +kernel
theorem dX1_high_0 : decode cX1_high 0 = .ok (.aload_n 0, 1) := by decide +kernel
theorem dX1_high_1 : decode cX1_high 1 = .ok (.iload_n 1, 1) := by decide +kernel
theorem dX1_high_2 : decode cX1_high 2 = .ok (.invokevirtual 22, 3) := by decide +kernel
theorem dX1_high_5 : decode cX1_high 5 = .ok (.ifCond .eq 12, 3) := by decide +kernel
theorem dX1_high_8 : decode cX1_high 8 = .ok (.aload_n 0, 1) := by decide +kernel
theorem dX1_high_9 : decode cX1_high 9 = .ok (.getfield 15, 3) := by decide +kernel
theorem dX1_high_12 : decode cX1_high 12 = .ok (.iload_n 1, 1) := by decide +kernel
theorem dX1_high_13 : decode cX1_high 13 = .ok (.iaload, 1) := by decide +kernel
theorem dX1_high_14 : decode cX1_high 14 = .ok (.goto 4, 3) := by decide +kernel
theorem dX1_high_17 : decode cX1_high 17 = .ok (.iconst 0, 1) := by decide +kernel
theorem dX1_high_18 : decode cX1_high 18 = .ok (.ireturn, 1) := by decide +kernel
theorem dX10_stone_0 : decode cX10_stone 0 = .ok (.iload_n 2, 1) := by decide +kernel
theorem dX10_stone_1 : decode cX10_stone 1 = .ok (.iconst 1, 1) := by decide +kernel
theorem dX10_stone_2 : decode cX10_stone 2 = .ok (.if_icmp .lt 9, 3) := by decide +kernel
theorem dX10_stone_5 : decode cX10_stone 5 = .ok (.iload_n 2, 1) := by decide +kernel
theorem dX10_stone_6 : decode cX10_stone 6 = .ok (.bipush 30, 2) := by decide +kernel
theorem dX10_stone_8 : decode cX10_stone 8 = .ok (.if_icmp .le 9, 3) := by decide +kernel
theorem dX10_stone_11 : decode cX10_stone 11 = .ok (.aload_n 0, 1) := by decide +kernel
theorem dX10_stone_12 : decode cX10_stone 12 = .ok (.iconst (-1), 1) := by decide +kernel
theorem dX10_stone_13 : decode cX10_stone 13 = .ok (.invokevirtual 109, 3) := by decide +kernel
theorem dX10_stone_16 : decode cX10_stone 16 = .ok (.ireturn, 1) := by decide +kernel
theorem dX10_stone_17 : decode cX10_stone 17 = .ok (.aload_n 0, 1) := by decide +kernel
theorem dX10_stone_18 : decode cX10_stone 18 = .ok (.getfield 10, 3) := by decide +kernel
theorem dX10_stone_21 : decode cX10_stone 21 = .ok (.getfield 99, 3) := by decide +kernel
theorem dX10_stone_24 : decode cX10_stone 24 = .ok (.iload_n 1, 1) := by decide +kernel
theorem dX10_stone_25 : decode cX10_stone 25 = .ok (.invokevirtual 122, 3) := by decide +kernel
theorem dX10_stone_28 : decode cX10_stone 28 = .ok (.ifCond .ne 10, 3) := by decide +kernel
theorem dX10_stone_31 : decode cX10_stone 31 = .ok (.aload_n 0, 1) := by decide +kernel
theorem dX10_stone_32 : decode cX10_stone 32 = .ok (.bipush (-2), 2) := by decide +kernel
theorem dX10_stone_34 : decode cX10_stone 34 = .ok (.invokevirtual 109, 3) := by decide +kernel
theorem dX10_stone_37 : decode cX10_stone 37 = .ok (.ireturn, 1) := by decide +kernel
theorem dX10_stone_38 : decode cX10_stone 38 = .ok (.aload_n 0, 1) := by decide +kernel
theorem dX10_stone_39 : decode cX10_stone 39 = .ok (.getfield 10, 3) := by decide +kernel
theorem dX10_stone_42 : decode cX10_stone 42 = .ok (.getfield 99, 3) := by decide +kernel
theorem dX10_stone_45 : decode cX10_stone 45 = .ok (.iload_n 1, 1) := by decide +kernel
theorem dX10_stone_46 : decode cX10_stone 46 = .ok (.iload_n 2, 1) := by decide +kernel
theorem dX10_stone_47 : decode cX10_stone 47 = .ok (.invokevirtual 126, 3) := by decide +kernel
theorem dX10_stone_50 : decode cX10_stone 50 = .ok (.ifCond .ne 10, 3) := by decide +kernel
theorem dX10_stone_53 : decode cX10_stone 53 = .ok (.aload_n 0, 1) := by decide +kernel
theorem dX10_stone_54 : decode cX10_stone 54 = .ok (.bipush (-5), 2) := by decide +kernel
theorem dX10_stone_56 : decode cX10_stone 56 = .ok (.invokevirtual 109, 3) := by decide +kernel
theorem dX10_stone_59 : decode cX10_stone 59 = .ok (.ireturn, 1) := by decide +kernel
theorem dX10_stone_60 : decode cX10_stone 60 = .ok (.aload_n 0, 1) := by decide +kernel
theorem dX10_stone_61 : decode cX10_stone 61 = .ok (.aload_n 0, 1) := by decide +kernel
theorem dX10_stone_62 : decode cX10_stone 62 = .ok (.getfield 10, 3) := by decide +kernel
theorem dX10_stone_65 : decode cX10_stone 65 = .ok (.getfield 99, 3) := by decide +kernel
theorem dX10_stone_68 : decode cX10_stone 68 = .ok (.iload_n 1, 1) := by decide +kernel
theorem dX10_stone_69 : decode cX10_stone 69 = .ok (.invokevirtual 130, 3) := by decide +kernel
theorem dX10_stone_72 : decode cX10_stone 72 = .ok (.invokevirtual 119, 3) := by decide +kernel
theorem dX10_stone_75 : decode cX10_stone 75 = .ok (.ireturn, 1) := by decide +kernel
theorem dX1_top_0 : decode cX1_top 0 = .ok (.aload_n 0, 1) := by decide +kernel
theorem dX1_top_1 : decode cX1_top 1 = .ok (.iload_n 1, 1) := by decide +kernel
theorem dX1_top_2 : decode cX1_top 2 = .ok (.invokevirtual 26, 3) := by decide +kernel
theorem dX1_top_5 : decode cX1_top 5 = .ok (.istore_n 2, 1) := by decide +kernel
theorem dX1_top_6 : decode cX1_top 6 = .ok (.iload_n 2, 1) := by decide +kernel
theorem dX1_top_7 : decode cX1_top 7 = .ok (.ifCond .le 19, 3) := by decide +kernel
theorem dX1_top_10 : decode cX1_top 10 = .ok (.aload_n 0, 1) := by decide +kernel
theorem dX1_top_11 : decode cX1_top 11 = .ok (.getfield 19, 3) := by decide +kernel
theorem dX1_top_14 : decode cX1_top 14 = .ok (.iload_n 1, 1) := by decide +kernel
theorem dX1_top_15 : decode cX1_top 15 = .ok (.bipush 10, 2) := by decide +kernel
theorem dX1_top_17 : decode cX1_top 17 = .ok (.imul, 1) := by decide +kernel
theorem dX1_top_18 : decode cX1_top 18 = .ok (.iload_n 2, 1) := by decide +kernel
theorem dX1_top_19 : decode cX1_top 19 = .ok (.iadd, 1) := by decide +kernel
theorem dX1_top_20 : decode cX1_top 20 = .ok (.iconst 1, 1) := by decide +kernel
theorem dX1_top_21 : decode cX1_top 21 = .ok (.isub, 1) := by decide +kernel
theorem dX1_top_22 : decode cX1_top 22 = .ok (.iaload, 1) := by decide +kernel
theorem dX1_top_23 : decode cX1_top 23 = .ok (.goto 4, 3) := by decide +kernel
theorem dX1_top_26 : decode cX1_top 26 = .ok (.iconst 0, 1) := by decide +kernel
theorem dX1_top_27 : decode cX1_top 27 = .ok (.ireturn, 1) := by decide +kernel
theorem dX1_take_0 : decode cX1_take 0 = .ok (.aload_n 0, 1) := by decide +kernel
theorem dX1_take_1 : decode cX1_take 1 = .ok (.iload_n 1, 1) := by decide +kernel
theorem dX1_take_2 : decode cX1_take 2 = .ok (.invokevirtual 34, 3) := by decide +kernel
theorem dX1_take_5 : decode cX1_take 5 = .ok (.istore_n 2, 1) := by decide +kernel
theorem dX1_take_6 : decode cX1_take 6 = .ok (.aload_n 0, 1) := by decide +kernel
theorem dX1_take_7 : decode cX1_take 7 = .ok (.iload_n 1, 1) := by decide +kernel
theorem dX1_take_8 : decode cX1_take 8 = .ok (.invokevirtual 26, 3) := by decide +kernel
theorem dX1_take_11 : decode cX1_take 11 = .ok (.ifCond .le 13, 3) := by decide +kernel
theorem dX1_take_14 : decode cX1_take 14 = .ok (.aload_n 0, 1) := by decide +kernel
theorem dX1_take_15 : decode cX1_take 15 = .ok (.getfield 15, 3) := by decide +kernel
theorem dX1_take_18 : decode cX1_take 18 = .ok (.iload_n 1, 1) := by decide +kernel
theorem dX1_take_19 : decode cX1_take 19 = .ok (.dup2, 1) := by decide +kernel
theorem dX1_take_20 : decode cX1_take 20 = .ok (.iaload, 1) := by decide +kernel
theorem dX1_take_21 : decode cX1_take 21 = .ok (.iconst 1, 1) := by decide +kernel
theorem dX1_take_22 : decode cX1_take 22 = .ok (.isub, 1) := by decide +kernel
theorem dX1_take_23 : decode cX1_take 23 = .ok (.iastore, 1) := by decide +kernel
theorem dX1_take_24 : decode cX1_take 24 = .ok (.iload_n 2, 1) := by decide +kernel
theorem dX1_take_25 : decode cX1_take 25 = .ok (.ireturn, 1) := by decide +kernel
theorem dX10_lift_0 : decode cX10_lift 0 = .ok (.aload_n 0, 1) := by decide +kernel
theorem dX10_lift_1 : decode cX10_lift 1 = .ok (.getfield 10, 3) := by decide +kernel
theorem dX10_lift_4 : decode cX10_lift 4 = .ok (.getfield 99, 3) := by decide +kernel
theorem dX10_lift_7 : decode cX10_lift 7 = .ok (.iload_n 1, 1) := by decide +kernel
theorem dX10_lift_8 : decode cX10_lift 8 = .ok (.invokevirtual 122, 3) := by decide +kernel
theorem dX10_lift_11 : decode cX10_lift 11 = .ok (.ifCond .ne 10, 3) := by decide +kernel
theorem dX10_lift_14 : decode cX10_lift 14 = .ok (.aload_n 0, 1) := by decide +kernel
theorem dX10_lift_15 : decode cX10_lift 15 = .ok (.bipush (-2), 2) := by decide +kernel
theorem dX10_lift_17 : decode cX10_lift 17 = .ok (.invokevirtual 109, 3) := by decide +kernel
theorem dX10_lift_20 : decode cX10_lift 20 = .ok (.ireturn, 1) := by decide +kernel
theorem dX10_lift_21 : decode cX10_lift 21 = .ok (.aload_n 0, 1) := by decide +kernel
theorem dX10_lift_22 : decode cX10_lift 22 = .ok (.getfield 10, 3) := by decide +kernel
theorem dX10_lift_25 : decode cX10_lift 25 = .ok (.getfield 99, 3) := by decide +kernel
theorem dX10_lift_28 : decode cX10_lift 28 = .ok (.iload_n 1, 1) := by decide +kernel
theorem dX10_lift_29 : decode cX10_lift 29 = .ok (.invokevirtual 130, 3) := by decide +kernel
theorem dX10_lift_32 : decode cX10_lift 32 = .ok (.ifCond .ne 10, 3) := by decide +kernel
theorem dX10_lift_35 : decode cX10_lift 35 = .ok (.aload_n 0, 1) := by decide +kernel
theorem dX10_lift_36 : decode cX10_lift 36 = .ok (.bipush (-3), 2) := by decide +kernel
theorem dX10_lift_38 : decode cX10_lift 38 = .ok (.invokevirtual 109, 3) := by decide +kernel
theorem dX10_lift_41 : decode cX10_lift 41 = .ok (.ireturn, 1) := by decide +kernel
theorem dX10_lift_42 : decode cX10_lift 42 = .ok (.aload_n 0, 1) := by decide +kernel
theorem dX10_lift_43 : decode cX10_lift 43 = .ok (.aload_n 0, 1) := by decide +kernel
theorem dX10_lift_44 : decode cX10_lift 44 = .ok (.getfield 10, 3) := by decide +kernel
theorem dX10_lift_47 : decode cX10_lift 47 = .ok (.getfield 99, 3) := by decide +kernel
theorem dX10_lift_50 : decode cX10_lift 50 = .ok (.iload_n 1, 1) := by decide +kernel
theorem dX10_lift_51 : decode cX10_lift 51 = .ok (.invokevirtual 133, 3) := by decide +kernel
theorem dX10_lift_54 : decode cX10_lift 54 = .ok (.invokevirtual 119, 3) := by decide +kernel
theorem dX10_lift_57 : decode cX10_lift 57 = .ok (.ireturn, 1) := by decide +kernel
theorem dX1_heft_0 : decode cX1_heft 0 = .ok (.iload_n 2, 1) := by decide +kernel
theorem dX1_heft_1 : decode cX1_heft 1 = .ok (.ifCond .lt 26, 3) := by decide +kernel
theorem dX1_heft_4 : decode cX1_heft 4 = .ok (.iload_n 2, 1) := by decide +kernel
theorem dX1_heft_5 : decode cX1_heft 5 = .ok (.aload_n 0, 1) := by decide +kernel
theorem dX1_heft_6 : decode cX1_heft 6 = .ok (.iload_n 1, 1) := by decide +kernel
theorem dX1_heft_7 : decode cX1_heft 7 = .ok (.invokevirtual 26, 3) := by decide +kernel
theorem dX1_heft_10 : decode cX1_heft 10 = .ok (.if_icmp .ge 17, 3) := by decide +kernel
theorem dX1_heft_13 : decode cX1_heft 13 = .ok (.aload_n 0, 1) := by decide +kernel
theorem dX1_heft_14 : decode cX1_heft 14 = .ok (.getfield 19, 3) := by decide +kernel
theorem dX1_heft_17 : decode cX1_heft 17 = .ok (.iload_n 1, 1) := by decide +kernel
theorem dX1_heft_18 : decode cX1_heft 18 = .ok (.bipush 10, 2) := by decide +kernel
theorem dX1_heft_20 : decode cX1_heft 20 = .ok (.imul, 1) := by decide +kernel
theorem dX1_heft_21 : decode cX1_heft 21 = .ok (.iload_n 2, 1) := by decide +kernel
theorem dX1_heft_22 : decode cX1_heft 22 = .ok (.iadd, 1) := by decide +kernel
theorem dX1_heft_23 : decode cX1_heft 23 = .ok (.iaload, 1) := by decide +kernel
theorem dX1_heft_24 : decode cX1_heft 24 = .ok (.goto 4, 3) := by decide +kernel
theorem dX1_heft_27 : decode cX1_heft 27 = .ok (.iconst 0, 1) := by decide +kernel
theorem dX1_heft_28 : decode cX1_heft 28 = .ok (.ireturn, 1) := by decide +kernel
theorem dX10_of_0 : decode cX10_of 0 = .ok (.aload_n 0, 1) := by decide +kernel
theorem dX10_of_1 : decode cX10_of 1 = .ok (.getfield 10, 3) := by decide +kernel
theorem dX10_of_4 : decode cX10_of 4 = .ok (.getfield 99, 3) := by decide +kernel
theorem dX10_of_7 : decode cX10_of 7 = .ok (.iload_n 1, 1) := by decide +kernel
theorem dX10_of_8 : decode cX10_of 8 = .ok (.invokevirtual 122, 3) := by decide +kernel
theorem dX10_of_11 : decode cX10_of 11 = .ok (.ifCond .ne 5, 3) := by decide +kernel
theorem dX10_of_14 : decode cX10_of 14 = .ok (.iconst (-1), 1) := by decide +kernel
theorem dX10_of_15 : decode cX10_of 15 = .ok (.ireturn, 1) := by decide +kernel
theorem dX10_of_16 : decode cX10_of 16 = .ok (.iload_n 2, 1) := by decide +kernel
theorem dX10_of_17 : decode cX10_of 17 = .ok (.iconst (-1), 1) := by decide +kernel
theorem dX10_of_18 : decode cX10_of 18 = .ok (.if_icmp .ne 15, 3) := by decide +kernel
theorem dX10_of_21 : decode cX10_of 21 = .ok (.aload_n 0, 1) := by decide +kernel
theorem dX10_of_22 : decode cX10_of 22 = .ok (.getfield 10, 3) := by decide +kernel
theorem dX10_of_25 : decode cX10_of 25 = .ok (.getfield 99, 3) := by decide +kernel
theorem dX10_of_28 : decode cX10_of 28 = .ok (.iload_n 1, 1) := by decide +kernel
theorem dX10_of_29 : decode cX10_of 29 = .ok (.invokevirtual 130, 3) := by decide +kernel
theorem dX10_of_32 : decode cX10_of 32 = .ok (.ireturn, 1) := by decide +kernel
theorem dX10_of_33 : decode cX10_of 33 = .ok (.iload_n 2, 1) := by decide +kernel
theorem dX10_of_34 : decode cX10_of 34 = .ok (.ifCond .lt 18, 3) := by decide +kernel
theorem dX10_of_37 : decode cX10_of 37 = .ok (.iload_n 2, 1) := by decide +kernel
theorem dX10_of_38 : decode cX10_of 38 = .ok (.aload_n 0, 1) := by decide +kernel
theorem dX10_of_39 : decode cX10_of 39 = .ok (.getfield 10, 3) := by decide +kernel
theorem dX10_of_42 : decode cX10_of 42 = .ok (.getfield 99, 3) := by decide +kernel
theorem dX10_of_45 : decode cX10_of 45 = .ok (.iload_n 1, 1) := by decide +kernel
theorem dX10_of_46 : decode cX10_of 46 = .ok (.invokevirtual 130, 3) := by decide +kernel
theorem dX10_of_49 : decode cX10_of 49 = .ok (.if_icmp .lt 5, 3) := by decide +kernel
theorem dX10_of_52 : decode cX10_of 52 = .ok (.iconst (-1), 1) := by decide +kernel
theorem dX10_of_53 : decode cX10_of 53 = .ok (.ireturn, 1) := by decide +kernel
theorem dX10_of_54 : decode cX10_of 54 = .ok (.aload_n 0, 1) := by decide +kernel
theorem dX10_of_55 : decode cX10_of 55 = .ok (.getfield 10, 3) := by decide +kernel
theorem dX10_of_58 : decode cX10_of 58 = .ok (.getfield 99, 3) := by decide +kernel
theorem dX10_of_61 : decode cX10_of 61 = .ok (.iload_n 1, 1) := by decide +kernel
theorem dX10_of_62 : decode cX10_of 62 = .ok (.iload_n 2, 1) := by decide +kernel
theorem dX10_of_63 : decode cX10_of 63 = .ok (.invokevirtual 136, 3) := by decide +kernel
theorem dX10_of_66 : decode cX10_of 66 = .ok (.ireturn, 1) := by decide +kernel
theorem dX1_load_0 : decode cX1_load 0 = .ok (.iconst 0, 1) := by decide +kernel
theorem dX1_load_1 : decode cX1_load 1 = .ok (.istore_n 2, 1) := by decide +kernel
theorem dX1_load_2 : decode cX1_load 2 = .ok (.iconst 0, 1) := by decide +kernel
theorem dX1_load_3 : decode cX1_load 3 = .ok (.istore_n 3, 1) := by decide +kernel
theorem dX1_load_4 : decode cX1_load 4 = .ok (.iload_n 3, 1) := by decide +kernel
theorem dX1_load_5 : decode cX1_load 5 = .ok (.aload_n 0, 1) := by decide +kernel
theorem dX1_load_6 : decode cX1_load 6 = .ok (.iload_n 1, 1) := by decide +kernel
theorem dX1_load_7 : decode cX1_load 7 = .ok (.invokevirtual 26, 3) := by decide +kernel
theorem dX1_load_10 : decode cX1_load 10 = .ok (.if_icmp .ge 18, 3) := by decide +kernel
theorem dX1_load_13 : decode cX1_load 13 = .ok (.iload_n 2, 1) := by decide +kernel
theorem dX1_load_14 : decode cX1_load 14 = .ok (.aload_n 0, 1) := by decide +kernel
theorem dX1_load_15 : decode cX1_load 15 = .ok (.iload_n 1, 1) := by decide +kernel
theorem dX1_load_16 : decode cX1_load 16 = .ok (.iload_n 3, 1) := by decide +kernel
theorem dX1_load_17 : decode cX1_load 17 = .ok (.invokevirtual 30, 3) := by decide +kernel
theorem dX1_load_20 : decode cX1_load 20 = .ok (.iadd, 1) := by decide +kernel
theorem dX1_load_21 : decode cX1_load 21 = .ok (.istore_n 2, 1) := by decide +kernel
theorem dX1_load_22 : decode cX1_load 22 = .ok (.iinc 3 1, 3) := by decide +kernel
theorem dX1_load_25 : decode cX1_load 25 = .ok (.goto (-21), 3) := by decide +kernel
theorem dX1_load_28 : decode cX1_load 28 = .ok (.iload_n 2, 1) := by decide +kernel
theorem dX1_load_29 : decode cX1_load 29 = .ok (.ireturn, 1) := by decide +kernel
theorem dX10_weight_0 : decode cX10_weight 0 = .ok (.aload_n 0, 1) := by decide +kernel
theorem dX10_weight_1 : decode cX10_weight 1 = .ok (.getfield 10, 3) := by decide +kernel
theorem dX10_weight_4 : decode cX10_weight 4 = .ok (.getfield 99, 3) := by decide +kernel
theorem dX10_weight_7 : decode cX10_weight 7 = .ok (.iload_n 1, 1) := by decide +kernel
theorem dX10_weight_8 : decode cX10_weight 8 = .ok (.invokevirtual 122, 3) := by decide +kernel
theorem dX10_weight_11 : decode cX10_weight 11 = .ok (.ifCond .eq 17, 3) := by decide +kernel
theorem dX10_weight_14 : decode cX10_weight 14 = .ok (.aload_n 0, 1) := by decide +kernel
theorem dX10_weight_15 : decode cX10_weight 15 = .ok (.getfield 10, 3) := by decide +kernel
theorem dX10_weight_18 : decode cX10_weight 18 = .ok (.getfield 99, 3) := by decide +kernel
theorem dX10_weight_21 : decode cX10_weight 21 = .ok (.iload_n 1, 1) := by decide +kernel
theorem dX10_weight_22 : decode cX10_weight 22 = .ok (.invokevirtual 140, 3) := by decide +kernel
theorem dX10_weight_25 : decode cX10_weight 25 = .ok (.goto 4, 3) := by decide +kernel
theorem dX10_weight_28 : decode cX10_weight 28 = .ok (.iconst (-1), 1) := by decide +kernel
theorem dX10_weight_29 : decode cX10_weight 29 = .ok (.ireturn, 1) := by decide +kernel
theorem dX2_enroll_0 : decode cX2_enroll 0 = .ok (.aload_n 0, 1) := by decide +kernel
theorem dX2_enroll_1 : decode cX2_enroll 1 = .ok (.getfield 18, 3) := by decide +kernel
theorem dX2_enroll_4 : decode cX2_enroll 4 = .ok (.istore_n 2, 1) := by decide +kernel
theorem dX2_enroll_5 : decode cX2_enroll 5 = .ok (.iload_n 2, 1) := by decide +kernel
theorem dX2_enroll_6 : decode cX2_enroll 6 = .ok (.bipush 6, 2) := by decide +kernel
theorem dX2_enroll_8 : decode cX2_enroll 8 = .ok (.if_icmp .lt 5, 3) := by decide +kernel
theorem dX2_enroll_11 : decode cX2_enroll 11 = .ok (.iconst (-1), 1) := by decide +kernel
theorem dX2_enroll_12 : decode cX2_enroll 12 = .ok (.ireturn, 1) := by decide +kernel
theorem dX2_enroll_13 : decode cX2_enroll 13 = .ok (.aload_n 0, 1) := by decide +kernel
theorem dX2_enroll_14 : decode cX2_enroll 14 = .ok (.getfield 22, 3) := by decide +kernel
theorem dX2_enroll_17 : decode cX2_enroll 17 = .ok (.iload_n 2, 1) := by decide +kernel
theorem dX2_enroll_18 : decode cX2_enroll 18 = .ok (.iload_n 1, 1) := by decide +kernel
theorem dX2_enroll_19 : decode cX2_enroll 19 = .ok (.iastore, 1) := by decide +kernel
theorem dX2_enroll_20 : decode cX2_enroll 20 = .ok (.aload_n 0, 1) := by decide +kernel
theorem dX2_enroll_21 : decode cX2_enroll 21 = .ok (.getfield 26, 3) := by decide +kernel
theorem dX2_enroll_24 : decode cX2_enroll 24 = .ok (.iload_n 2, 1) := by decide +kernel
theorem dX2_enroll_25 : decode cX2_enroll 25 = .ok (.iconst 0, 1) := by decide +kernel
theorem dX2_enroll_26 : decode cX2_enroll 26 = .ok (.iastore, 1) := by decide +kernel
theorem dX2_enroll_27 : decode cX2_enroll 27 = .ok (.aload_n 0, 1) := by decide +kernel
theorem dX2_enroll_28 : decode cX2_enroll 28 = .ok (.getfield 29, 3) := by decide +kernel
theorem dX2_enroll_31 : decode cX2_enroll 31 = .ok (.iload_n 2, 1) := by decide +kernel
theorem dX2_enroll_32 : decode cX2_enroll 32 = .ok (.iconst 0, 1) := by decide +kernel
theorem dX2_enroll_33 : decode cX2_enroll 33 = .ok (.iastore, 1) := by decide +kernel
theorem dX2_enroll_34 : decode cX2_enroll 34 = .ok (.aload_n 0, 1) := by decide +kernel
theorem dX2_enroll_35 : decode cX2_enroll 35 = .ok (.dup, 1) := by decide +kernel
theorem dX2_enroll_36 : decode cX2_enroll 36 = .ok (.getfield 18, 3) := by decide +kernel
theorem dX2_enroll_39 : decode cX2_enroll 39 = .ok (.iconst 1, 1) := by decide +kernel
theorem dX2_enroll_40 : decode cX2_enroll 40 = .ok (.iadd, 1) := by decide +kernel
theorem dX2_enroll_41 : decode cX2_enroll 41 = .ok (.putfield 18, 3) := by decide +kernel
theorem dX2_enroll_44 : decode cX2_enroll 44 = .ok (.iload_n 2, 1) := by decide +kernel
theorem dX2_enroll_45 : decode cX2_enroll 45 = .ok (.ireturn, 1) := by decide +kernel
theorem dX10_child_0 : decode cX10_child 0 = .ok (.iload_n 1, 1) := by decide +kernel
theorem dX10_child_1 : decode cX10_child 1 = .ok (.iconst 1, 1) := by decide +kernel
theorem dX10_child_2 : decode cX10_child 2 = .ok (.if_icmp .lt 9, 3) := by decide +kernel
theorem dX10_child_5 : decode cX10_child 5 = .ok (.iload_n 1, 1) := by decide +kernel
theorem dX10_child_6 : decode cX10_child 6 = .ok (.bipush 60, 2) := by decide +kernel
theorem dX10_child_8 : decode cX10_child 8 = .ok (.if_icmp .le 9, 3) := by decide +kernel
theorem dX10_child_11 : decode cX10_child 11 = .ok (.aload_n 0, 1) := by decide +kernel
theorem dX10_child_12 : decode cX10_child 12 = .ok (.iconst (-1), 1) := by decide +kernel
theorem dX10_child_13 : decode cX10_child 13 = .ok (.invokevirtual 109, 3) := by decide +kernel
theorem dX10_child_16 : decode cX10_child 16 = .ok (.ireturn, 1) := by decide +kernel
theorem dX10_child_17 : decode cX10_child 17 = .ok (.aload_n 0, 1) := by decide +kernel
theorem dX10_child_18 : decode cX10_child 18 = .ok (.getfield 10, 3) := by decide +kernel
theorem dX10_child_21 : decode cX10_child 21 = .ok (.getfield 143, 3) := by decide +kernel
theorem dX10_child_24 : decode cX10_child 24 = .ok (.bipush 6, 2) := by decide +kernel
theorem dX10_child_26 : decode cX10_child 26 = .ok (.if_icmp .lt 10, 3) := by decide +kernel
theorem dX10_child_29 : decode cX10_child 29 = .ok (.aload_n 0, 1) := by decide +kernel
theorem dX10_child_30 : decode cX10_child 30 = .ok (.bipush (-5), 2) := by decide +kernel
theorem dX10_child_32 : decode cX10_child 32 = .ok (.invokevirtual 109, 3) := by decide +kernel
theorem dX10_child_35 : decode cX10_child 35 = .ok (.ireturn, 1) := by decide +kernel
theorem dX10_child_36 : decode cX10_child 36 = .ok (.aload_n 0, 1) := by decide +kernel
theorem dX10_child_37 : decode cX10_child 37 = .ok (.aload_n 0, 1) := by decide +kernel
theorem dX10_child_38 : decode cX10_child 38 = .ok (.getfield 10, 3) := by decide +kernel
theorem dX10_child_41 : decode cX10_child 41 = .ok (.iload_n 1, 1) := by decide +kernel
theorem dX10_child_42 : decode cX10_child 42 = .ok (.invokevirtual 146, 3) := by decide +kernel
theorem dX10_child_45 : decode cX10_child 45 = .ok (.invokevirtual 119, 3) := by decide +kernel
theorem dX10_child_48 : decode cX10_child 48 = .ok (.ireturn, 1) := by decide +kernel
theorem dX2_hasChild_0 : decode cX2_hasChild 0 = .ok (.iload_n 1, 1) := by decide +kernel
theorem dX2_hasChild_1 : decode cX2_hasChild 1 = .ok (.ifCond .lt 15, 3) := by decide +kernel
theorem dX2_hasChild_4 : decode cX2_hasChild 4 = .ok (.iload_n 1, 1) := by decide +kernel
theorem dX2_hasChild_5 : decode cX2_hasChild 5 = .ok (.aload_n 0, 1) := by decide +kernel
theorem dX2_hasChild_6 : decode cX2_hasChild 6 = .ok (.getfield 18, 3) := by decide +kernel
theorem dX2_hasChild_9 : decode cX2_hasChild 9 = .ok (.if_icmp .ge 7, 3) := by decide +kernel
theorem dX2_hasChild_12 : decode cX2_hasChild 12 = .ok (.iconst 1, 1) := by decide +kernel
theorem dX2_hasChild_13 : decode cX2_hasChild 13 = .ok (.goto 4, 3) := by decide +kernel
theorem dX2_hasChild_16 : decode cX2_hasChild 16 = .ok (.iconst 0, 1) := by decide +kernel
theorem dX2_hasChild_17 : decode cX2_hasChild 17 = .ok (.ireturn, 1) := by decide +kernel
theorem dX10_expel_0 : decode cX10_expel 0 = .ok (.iload_n 2, 1) := by decide +kernel
theorem dX10_expel_1 : decode cX10_expel 1 = .ok (.ifCond .lt 8, 3) := by decide +kernel
theorem dX10_expel_4 : decode cX10_expel 4 = .ok (.iload_n 2, 1) := by decide +kernel
theorem dX10_expel_5 : decode cX10_expel 5 = .ok (.iconst 1, 1) := by decide +kernel
theorem dX10_expel_6 : decode cX10_expel 6 = .ok (.if_icmp .le 9, 3) := by decide +kernel
theorem dX10_expel_9 : decode cX10_expel 9 = .ok (.aload_n 0, 1) := by decide +kernel
theorem dX10_expel_10 : decode cX10_expel 10 = .ok (.iconst (-1), 1) := by decide +kernel
theorem dX10_expel_11 : decode cX10_expel 11 = .ok (.invokevirtual 109, 3) := by decide +kernel
theorem dX10_expel_14 : decode cX10_expel 14 = .ok (.ireturn, 1) := by decide +kernel
theorem dX10_expel_15 : decode cX10_expel 15 = .ok (.aload_n 0, 1) := by decide +kernel
theorem dX10_expel_16 : decode cX10_expel 16 = .ok (.getfield 10, 3) := by decide +kernel
theorem dX10_expel_19 : decode cX10_expel 19 = .ok (.iload_n 1, 1) := by decide +kernel
theorem dX10_expel_20 : decode cX10_expel 20 = .ok (.invokevirtual 149, 3) := by decide +kernel
theorem dX10_expel_23 : decode cX10_expel 23 = .ok (.ifCond .ne 10, 3) := by decide +kernel
theorem dX10_expel_26 : decode cX10_expel 26 = .ok (.aload_n 0, 1) := by decide +kernel
theorem dX10_expel_27 : decode cX10_expel 27 = .ok (.bipush (-2), 2) := by decide +kernel
theorem dX10_expel_29 : decode cX10_expel 29 = .ok (.invokevirtual 109, 3) := by decide +kernel
theorem dX10_expel_32 : decode cX10_expel 32 = .ok (.ireturn, 1) := by decide +kernel
theorem dX10_expel_33 : decode cX10_expel 33 = .ok (.aload_n 0, 1) := by decide +kernel
theorem dX10_expel_34 : decode cX10_expel 34 = .ok (.getfield 10, 3) := by decide +kernel
theorem dX10_expel_37 : decode cX10_expel 37 = .ok (.getfield 152, 3) := by decide +kernel
theorem dX10_expel_40 : decode cX10_expel 40 = .ok (.iload_n 1, 1) := by decide +kernel
theorem dX10_expel_41 : decode cX10_expel 41 = .ok (.iaload, 1) := by decide +kernel
theorem dX10_expel_42 : decode cX10_expel 42 = .ok (.istore_n 3, 1) := by decide +kernel
theorem dX10_expel_43 : decode cX10_expel 43 = .ok (.aload_n 0, 1) := by decide +kernel
theorem dX10_expel_44 : decode cX10_expel 44 = .ok (.getfield 10, 3) := by decide +kernel
theorem dX10_expel_47 : decode cX10_expel 47 = .ok (.getfield 152, 3) := by decide +kernel
theorem dX10_expel_50 : decode cX10_expel 50 = .ok (.iload_n 1, 1) := by decide +kernel
theorem dX10_expel_51 : decode cX10_expel 51 = .ok (.iload_n 2, 1) := by decide +kernel
theorem dX10_expel_52 : decode cX10_expel 52 = .ok (.iastore, 1) := by decide +kernel
theorem dX10_expel_53 : decode cX10_expel 53 = .ok (.aload_n 0, 1) := by decide +kernel
theorem dX10_expel_54 : decode cX10_expel 54 = .ok (.iload_n 3, 1) := by decide +kernel
theorem dX10_expel_55 : decode cX10_expel 55 = .ok (.invokevirtual 119, 3) := by decide +kernel
theorem dX10_expel_58 : decode cX10_expel 58 = .ok (.ireturn, 1) := by decide +kernel
