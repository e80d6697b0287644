theorem dX10_accept_0S : decode cX10_accept 0 = .ok (.aload_n 0, 1) := sorry
theorem dX10_accept_1S : decode cX10_accept 1 = .ok (.iconst 0, 1) := sorry
theorem dX10_accept_2S : decode cX10_accept 2 = .ok (.putfield 41, 3) := sorry
theorem dX10_accept_5S : decode cX10_accept 5 = .ok (.aload_n 0, 1) := sorry
theorem dX10_accept_6S : decode cX10_accept 6 = .ok (.getfield 10, 3) := sorry
theorem dX10_accept_9S : decode cX10_accept 9 = .ok (.dup, 1) := sorry
theorem dX10_accept_10S : decode cX10_accept 10 = .ok (.getfield 220, 3) := sorry
theorem dX10_accept_13S : decode cX10_accept 13 = .ok (.iconst 1, 1) := sorry
theorem dX10_accept_14S : decode cX10_accept 14 = .ok (.iadd, 1) := sorry
theorem dX10_accept_15S : decode cX10_accept 15 = .ok (.putfield 220, 3) := sorry
theorem dX10_accept_18S : decode cX10_accept 18 = .ok (.iload_n 1, 1) := sorry
theorem dX10_accept_19S : decode cX10_accept 19 = .ok (.ireturn, 1) := sorry
theorem dX10_refuse_0S : decode cX10_refuse 0 = .ok (.aload_n 0, 1) := sorry
theorem dX10_refuse_1S : decode cX10_refuse 1 = .ok (.iload_n 1, 1) := sorry
theorem dX10_refuse_2S : decode cX10_refuse 2 = .ok (.putfield 41, 3) := sorry
theorem dX10_refuse_5S : decode cX10_refuse 5 = .ok (.aload_n 0, 1) := sorry
theorem dX10_refuse_6S : decode cX10_refuse 6 = .ok (.getfield 38, 3) := sorry
theorem dX10_refuse_9S : decode cX10_refuse 9 = .ok (.iload_n 1, 1) := sorry
theorem dX10_refuse_10S : decode cX10_refuse 10 = .ok (.ineg, 1) := sorry
theorem dX10_refuse_11S : decode cX10_refuse 11 = .ok (.dup2, 1) := sorry
theorem dX10_refuse_12S : decode cX10_refuse 12 = .ok (.iaload, 1) := sorry
theorem dX10_refuse_13S : decode cX10_refuse 13 = .ok (.iconst 1, 1) := sorry
theorem dX10_refuse_14S : decode cX10_refuse 14 = .ok (.iadd, 1) := sorry
theorem dX10_refuse_15S : decode cX10_refuse 15 = .ok (.iastore, 1) := sorry
theorem dX10_refuse_16S : decode cX10_refuse 16 = .ok (.iload_n 1, 1) := sorry
theorem dX10_refuse_17S : decode cX10_refuse 17 = .ok (.ireturn, 1) := sorry
theorem dX1_grow_0S : decode cX1_grow 0 = .ok (.aload_n 0, 1) := sorry
theorem dX1_grow_1S : decode cX1_grow 1 = .ok (.getfield 9, 3) := sorry
theorem dX1_grow_4S : decode cX1_grow 4 = .ok (.bipush 12, 2) := sorry
theorem dX1_grow_6S : decode cX1_grow 6 = .ok (.if_icmp .lt 5, 3) := sorry
theorem dX1_grow_9S : decode cX1_grow 9 = .ok (.iconst 0, 1) := sorry
theorem dX1_grow_10S : decode cX1_grow 10 = .ok (.ireturn, 1) := sorry
theorem dX1_grow_11S : decode cX1_grow 11 = .ok (.aload_n 0, 1) := sorry
theorem dX1_grow_12S : decode cX1_grow 12 = .ok (.getfield 15, 3) := sorry
theorem dX1_grow_15S : decode cX1_grow 15 = .ok (.aload_n 0, 1) := sorry
theorem dX1_grow_16S : decode cX1_grow 16 = .ok (.getfield 9, 3) := sorry
theorem dX1_grow_19S : decode cX1_grow 19 = .ok (.iconst 0, 1) := sorry
theorem dX1_grow_20S : decode cX1_grow 20 = .ok (.iastore, 1) := sorry
theorem dX1_grow_21S : decode cX1_grow 21 = .ok (.aload_n 0, 1) := sorry
theorem dX1_grow_22S : decode cX1_grow 22 = .ok (.dup, 1) := sorry
theorem dX1_grow_23S : decode cX1_grow 23 = .ok (.getfield 9, 3) := sorry
theorem dX1_grow_26S : decode cX1_grow 26 = .ok (.iconst 1, 1) := sorry
theorem dX1_grow_27S : decode cX1_grow 27 = .ok (.iadd, 1) := sorry
theorem dX1_grow_28S : decode cX1_grow 28 = .ok (.putfield 9, 3) := sorry
theorem dX1_grow_31S : decode cX1_grow 31 = .ok (.iconst 1, 1) := sorry
theorem dX1_grow_32S : decode cX1_grow 32 = .ok (.ireturn, 1) := sorry
theorem dX10_column_0S : decode cX10_column 0 = .ok (.aload_n 0, 1) := sorry
theorem dX10_column_1S : decode cX10_column 1 = .ok (.getfield 10, 3) := sorry
theorem dX10_column_4S : decode cX10_column 4 = .ok (.getfield 99, 3) := sorry
theorem dX10_column_7S : decode cX10_column 7 = .ok (.invokevirtual 103, 3) := sorry
theorem dX10_column_10S : decode cX10_column 10 = .ok (.ifCond .ne 10, 3) := sorry
theorem dX10_column_13S : decode cX10_column 13 = .ok (.aload_n 0, 1) := sorry
theorem dX10_column_14S : decode cX10_column 14 = .ok (.bipush (-5), 2) := sorry
theorem dX10_column_16S : decode cX10_column 16 = .ok (.invokevirtual 109, 3) := sorry
theorem dX10_column_19S : decode cX10_column 19 = .ok (.ireturn, 1) := sorry
theorem dX10_column_20S : decode cX10_column 20 = .ok (.aload_n 0, 1) := sorry
theorem dX10_column_21S : decode cX10_column 21 = .ok (.getfield 10, 3) := sorry
theorem dX10_column_24S : decode cX10_column 24 = .ok (.getfield 99, 3) := sorry
theorem dX10_column_27S : decode cX10_column 27 = .ok (.getfield 113, 3) := sorry
theorem dX10_column_30S : decode cX10_column 30 = .ok (.iconst 1, 1) := sorry
theorem dX10_column_31S : decode cX10_column 31 = .ok (.isub, 1) := sorry
theorem dX10_column_32S : decode cX10_column 32 = .ok (.istore_n 1, 1) := sorry
theorem dX10_column_33S : decode cX10_column 33 = .ok (.aload_n 0, 1) := sorry
theorem dX10_column_34S : decode cX10_column 34 = .ok (.getfield 10, 3) := sorry
theorem dX10_column_37S : decode cX10_column 37 = .ok (.getfield 116, 3) := sorry
theorem dX10_column_40S : decode cX10_column 40 = .ok (.iload_n 1, 1) := sorry
theorem dX10_column_41S : decode cX10_column 41 = .ok (.iconst (-1), 1) := sorry
theorem dX10_column_42S : decode cX10_column 42 = .ok (.iastore, 1) := sorry
theorem dX10_column_43S : decode cX10_column 43 = .ok (.aload_n 0, 1) := sorry
theorem dX10_column_44S : decode cX10_column 44 = .ok (.iload_n 1, 1) := sorry
theorem dX10_column_45S : decode cX10_column 45 = .ok (.invokevirtual 119, 3) := sorry
theorem dX10_column_48S : decode cX10_column 48 = .ok (.ireturn, 1) := sorry
theorem dX1_has_0S : decode cX1_has 0 = .ok (.iload_n 1, 1) := sorry
theorem dX1_has_1S : decode cX1_has 1 = .ok (.ifCond .lt 15, 3) := sorry
theorem dX1_has_4S : decode cX1_has 4 = .ok (.iload_n 1, 1) := sorry
theorem dX1_has_5S : decode cX1_has 5 = .ok (.aload_n 0, 1) := sorry
theorem dX1_has_6S : decode cX1_has 6 = .ok (.getfield 9, 3) := sorry
theorem dX1_has_9S : decode cX1_has 9 = .ok (.if_icmp .ge 7, 3) := sorry
theorem dX1_has_12S : decode cX1_has 12 = .ok (.iconst 1, 1) := sorry
theorem dX1_has_13S : decode cX1_has 13 = .ok (.goto 4, 3) := sorry
theorem dX1_has_16S : decode cX1_has 16 = .ok (.iconst 0, 1) := sorry
theorem dX1_has_17S : decode cX1_has 17 = .ok (.ireturn, 1) := sorry
theorem dX1_put_0S : decode cX1_put 0 = .ok (.aload_n 0, 1) := sorry
theorem dX1_put_1S : decode cX1_put 1 = .ok (.iload_n 1, 1) := sorry
theorem dX1_put_2S : decode cX1_put 2 = .ok (.invokevirtual 22, 3) := sorry
theorem dX1_put_5S : decode cX1_put 5 = .ok (.ifCond .eq 14, 3) := sorry
theorem dX1_put_8S : decode cX1_put 8 = .ok (.aload_n 0, 1) := sorry
theorem dX1_put_9S : decode cX1_put 9 = .ok (.getfield 15, 3) := sorry
theorem dX1_put_12S : decode cX1_put 12 = .ok (.iload_n 1, 1) := sorry
theorem dX1_put_13S : decode cX1_put 13 = .ok (.iaload, 1) := sorry
theorem dX1_put_14S : decode cX1_put 14 = .ok (.bipush 10, 2) := sorry
theorem dX1_put_16S : decode cX1_put 16 = .ok (.if_icmp .lt 5, 3) := sorry
theorem dX1_put_19S : decode cX1_put 19 = .ok (.iconst 0, 1) := sorry
theorem dX1_put_20S : decode cX1_put 20 = .ok (.ireturn, 1) := sorry
theorem dX1_put_21S : decode cX1_put 21 = .ok (.aload_n 0, 1) := sorry
theorem dX1_put_22S : decode cX1_put 22 = .ok (.getfield 19, 3) := sorry
theorem dX1_put_25S : decode cX1_put 25 = .ok (.iload_n 1, 1) := sorry
theorem dX1_put_26S : decode cX1_put 26 = .ok (.bipush 10, 2) := sorry
theorem dX1_put_28S : decode cX1_put 28 = .ok (.imul, 1) := sorry
theorem dX1_put_29S : decode cX1_put 29 = .ok (.aload_n 0, 1) := sorry
theorem dX1_put_30S : decode cX1_put 30 = .ok (.getfield 15, 3) := sorry
theorem dX1_put_33S : decode cX1_put 33 = .ok (.iload_n 1, 1) := sorry
theorem dX1_put_34S : decode cX1_put 34 = .ok (.iaload, 1) := sorry
theorem dX1_put_35S : decode cX1_put 35 = .ok (.iadd, 1) := sorry
theorem dX1_put_36S : decode cX1_put 36 = .ok (.iload_n 2, 1) := sorry
theorem dX1_put_37S : decode cX1_put 37 = .ok (.iastore, 1) := sorry
theorem dX1_put_38S : decode cX1_put 38 = .ok (.aload_n 0, 1) := sorry
theorem dX1_put_39S : decode cX1_put 39 = .ok (.getfield 15, 3) := sorry
theorem dX1_put_42S : decode cX1_put 42 = .ok (.iload_n 1, 1) := sorry
theorem dX1_put_43S : decode cX1_put 43 = .ok (.dup2, 1) := sorry
theorem dX1_put_44S : decode cX1_put 44 = .ok (.iaload, 1) := sorry
theorem dX1_put_45S : decode cX1_put 45 = .ok (.iconst 1, 1) := sorry
theorem dX1_put_46S : decode cX1_put 46 = .ok (.iadd, 1) := sorry
theorem dX1_put_47S : decode cX1_put 47 = .ok (.iastore, 1) := sorry
theorem dX1_put_48S : decode cX1_put 48 = .ok (.iconst 1, 1) := sorry
theorem dX1_put_49S : decode cX1_put 49 = .ok (.ireturn, 1) := sorry
theorem dX1_high_0S : decode cX1_high 0 = .ok (.aload_n 0, 1) := sorry
theorem dX1_high_1S : decode cX1_high 1 = .ok (.iload_n 1, 1) := sorry
theorem dX1_high_2S : decode cX1_high 2 = .ok (.invokevirtual 22, 3) := sorry
theorem dX1_high_5S : decode cX1_high 5 = .ok (.ifCond .eq 12, 3) := sorry
theorem dX1_high_8S : decode cX1_high 8 = .ok (.aload_n 0, 1) := sorry
theorem dX1_high_9S : decode cX1_high 9 = .ok (.getfield 15, 3) := sorry
theorem dX1_high_12S : decode cX1_high 12 = .ok (.iload_n 1, 1) := sorry
theorem dX1_high_13S : decode cX1_high 13 = .ok (.iaload, 1) := sorry
theorem dX1_high_14S : decode cX1_high 14 = .ok (.goto 4, 3) := sorry
theorem dX1_high_17S : decode cX1_high 17 = .ok (.iconst 0, 1) := sorry
theorem dX1_high_18S : decode cX1_high 18 = .ok (.ireturn, 1) := sorry
theorem dX10_stone_0S : decode cX10_stone 0 = .ok (.iload_n 2, 1) := sorry
theorem dX10_stone_1S : decode cX10_stone 1 = .ok (.iconst 1, 1) := sorry
theorem dX10_stone_2S : decode cX10_stone 2 = .ok (.if_icmp .lt 9, 3) := sorry
theorem dX10_stone_5S : decode cX10_stone 5 = .ok (.iload_n 2, 1) := sorry
theorem dX10_stone_6S : decode cX10_stone 6 = .ok (.bipush 30, 2) := sorry
theorem dX10_stone_8S : decode cX10_stone 8 = .ok (.if_icmp .le 9, 3) := sorry
theorem dX10_stone_11S : decode cX10_stone 11 = .ok (.aload_n 0, 1) := sorry
theorem dX10_stone_12S : decode cX10_stone 12 = .ok (.iconst (-1), 1) := sorry
theorem dX10_stone_13S : decode cX10_stone 13 = .ok (.invokevirtual 109, 3) := sorry
theorem dX10_stone_16S : decode cX10_stone 16 = .ok (.ireturn, 1) := sorry
theorem dX10_stone_17S : decode cX10_stone 17 = .ok (.aload_n 0, 1) := sorry
theorem dX10_stone_18S : decode cX10_stone 18 = .ok (.getfield 10, 3) := sorry
theorem dX10_stone_21S : decode cX10_stone 21 = .ok (.getfield 99, 3) := sorry
theorem dX10_stone_24S : decode cX10_stone 24 = .ok (.iload_n 1, 1) := sorry
theorem dX10_stone_25S : decode cX10_stone 25 = .ok (.invokevirtual 122, 3) := sorry
theorem dX10_stone_28S : decode cX10_stone 28 = .ok (.ifCond .ne 10, 3) := sorry
theorem dX10_stone_31S : decode cX10_stone 31 = .ok (.aload_n 0, 1) := sorry
theorem dX10_stone_32S : decode cX10_stone 32 = .ok (.bipush (-2), 2) := sorry
theorem dX10_stone_34S : decode cX10_stone 34 = .ok (.invokevirtual 109, 3) := sorry
theorem dX10_stone_37S : decode cX10_stone 37 = .ok (.ireturn, 1) := sorry
theorem dX10_stone_38S : decode cX10_stone 38 = .ok (.aload_n 0, 1) := sorry
theorem dX10_stone_39S : decode cX10_stone 39 = .ok (.getfield 10, 3) := sorry
theorem dX10_stone_42S : decode cX10_stone 42 = .ok (.getfield 99, 3) := sorry
theorem dX10_stone_45S : decode cX10_stone 45 = .ok (.iload_n 1, 1) := sorry
theorem dX10_stone_46S : decode cX10_stone 46 = .ok (.iload_n 2, 1) := sorry
theorem dX10_stone_47S : decode cX10_stone 47 = .ok (.invokevirtual 126, 3) := sorry
theorem dX10_stone_50S : decode cX10_stone 50 = .ok (.ifCond .ne 10, 3) := sorry
theorem dX10_stone_53S : decode cX10_stone 53 = .ok (.aload_n 0, 1) := sorry
theorem dX10_stone_54S : decode cX10_stone 54 = .ok (.bipush (-5), 2) := sorry
theorem dX10_stone_56S : decode cX10_stone 56 = .ok (.invokevirtual 109, 3) := sorry
theorem dX10_stone_59S : decode cX10_stone 59 = .ok (.ireturn, 1) := sorry
theorem dX10_stone_60S : decode cX10_stone 60 = .ok (.aload_n 0, 1) := sorry
theorem dX10_stone_61S : decode cX10_stone 61 = .ok (.aload_n 0, 1) := sorry
theorem dX10_stone_62S : decode cX10_stone 62 = .ok (.getfield 10, 3) := sorry
theorem dX10_stone_65S : decode cX10_stone 65 = .ok (.getfield 99, 3) := sorry
theorem dX10_stone_68S : decode cX10_stone 68 = .ok (.iload_n 1, 1) := sorry
theorem dX10_stone_69S : decode cX10_stone 69 = .ok (.invokevirtual 130, 3) := sorry
theorem dX10_stone_72S : decode cX10_stone 72 = .ok (.invokevirtual 119, 3) := sorry
theorem dX10_stone_75S : decode cX10_stone 75 = .ok (.ireturn, 1) := sorry
theorem dX1_top_0S : decode cX1_top 0 = .ok (.aload_n 0, 1) := sorry
theorem dX1_top_1S : decode cX1_top 1 = .ok (.iload_n 1, 1) := sorry
theorem dX1_top_2S : decode cX1_top 2 = .ok (.invokevirtual 26, 3) := sorry
theorem dX1_top_5S : decode cX1_top 5 = .ok (.istore_n 2, 1) := sorry
theorem dX1_top_6S : decode cX1_top 6 = .ok (.iload_n 2, 1) := sorry
theorem dX1_top_7S : decode cX1_top 7 = .ok (.ifCond .le 19, 3) := sorry
theorem dX1_top_10S : decode cX1_top 10 = .ok (.aload_n 0, 1) := sorry
theorem dX1_top_11S : decode cX1_top 11 = .ok (.getfield 19, 3) := sorry
theorem dX1_top_14S : decode cX1_top 14 = .ok (.iload_n 1, 1) := sorry
theorem dX1_top_15S : decode cX1_top 15 = .ok (.bipush 10, 2) := sorry
theorem dX1_top_17S : decode cX1_top 17 = .ok (.imul, 1) := sorry
theorem dX1_top_18S : decode cX1_top 18 = .ok (.iload_n 2, 1) := sorry
theorem dX1_top_19S : decode cX1_top 19 = .ok (.iadd, 1) := sorry
theorem dX1_top_20S : decode cX1_top 20 = .ok (.iconst 1, 1) := sorry
theorem dX1_top_21S : decode cX1_top 21 = .ok (.isub, 1) := sorry
theorem dX1_top_22S : decode cX1_top 22 = .ok (.iaload, 1) := sorry
theorem dX1_top_23S : decode cX1_top 23 = .ok (.goto 4, 3) := sorry
theorem dX1_top_26S : decode cX1_top 26 = .ok (.iconst 0, 1) := sorry
theorem dX1_top_27S : decode cX1_top 27 = .ok (.ireturn, 1) := sorry
theorem dX1_take_0S : decode cX1_take 0 = .ok (.aload_n 0, 1) := sorry
theorem dX1_take_1S : decode cX1_take 1 = .ok (.iload_n 1, 1) := sorry
theorem dX1_take_2S : decode cX1_take 2 = .ok (.invokevirtual 34, 3) := sorry
theorem dX1_take_5S : decode cX1_take 5 = .ok (.istore_n 2, 1) := sorry
theorem dX1_take_6S : decode cX1_take 6 = .ok (.aload_n 0, 1) := sorry
theorem dX1_take_7S : decode cX1_take 7 = .ok (.iload_n 1, 1) := sorry
theorem dX1_take_8S : decode cX1_take 8 = .ok (.invokevirtual 26, 3) := sorry
theorem dX1_take_11S : decode cX1_take 11 = .ok (.ifCond .le 13, 3) := sorry
theorem dX1_take_14S : decode cX1_take 14 = .ok (.aload_n 0, 1) := sorry
theorem dX1_take_15S : decode cX1_take 15 = .ok (.getfield 15, 3) := sorry
theorem dX1_take_18S : decode cX1_take 18 = .ok (.iload_n 1, 1) := sorry
theorem dX1_take_19S : decode cX1_take 19 = .ok (.dup2, 1) := sorry
theorem dX1_take_20S : decode cX1_take 20 = .ok (.iaload, 1) := sorry
theorem dX1_take_21S : decode cX1_take 21 = .ok (.iconst 1, 1) := sorry
theorem dX1_take_22S : decode cX1_take 22 = .ok (.isub, 1) := sorry
theorem dX1_take_23S : decode cX1_take 23 = .ok (.iastore, 1) := sorry
theorem dX1_take_24S : decode cX1_take 24 = .ok (.iload_n 2, 1) := sorry
theorem dX1_take_25S : decode cX1_take 25 = .ok (.ireturn, 1) := sorry
theorem dX10_lift_0S : decode cX10_lift 0 = .ok (.aload_n 0, 1) := sorry
theorem dX10_lift_1S : decode cX10_lift 1 = .ok (.getfield 10, 3) := sorry
theorem dX10_lift_4S : decode cX10_lift 4 = .ok (.getfield 99, 3) := sorry
theorem dX10_lift_7S : decode cX10_lift 7 = .ok (.iload_n 1, 1) := sorry
theorem dX10_lift_8S : decode cX10_lift 8 = .ok (.invokevirtual 122, 3) := sorry
theorem dX10_lift_11S : decode cX10_lift 11 = .ok (.ifCond .ne 10, 3) := sorry
theorem dX10_lift_14S : decode cX10_lift 14 = .ok (.aload_n 0, 1) := sorry
theorem dX10_lift_15S : decode cX10_lift 15 = .ok (.bipush (-2), 2) := sorry
theorem dX10_lift_17S : decode cX10_lift 17 = .ok (.invokevirtual 109, 3) := sorry
theorem dX10_lift_20S : decode cX10_lift 20 = .ok (.ireturn, 1) := sorry
theorem dX10_lift_21S : decode cX10_lift 21 = .ok (.aload_n 0, 1) := sorry
theorem dX10_lift_22S : decode cX10_lift 22 = .ok (.getfield 10, 3) := sorry
theorem dX10_lift_25S : decode cX10_lift 25 = .ok (.getfield 99, 3) := sorry
theorem dX10_lift_28S : decode cX10_lift 28 = .ok (.iload_n 1, 1) := sorry
theorem dX10_lift_29S : decode cX10_lift 29 = .ok (.invokevirtual 130, 3) := sorry
theorem dX10_lift_32S : decode cX10_lift 32 = .ok (.ifCond .ne 10, 3) := sorry
theorem dX10_lift_35S : decode cX10_lift 35 = .ok (.aload_n 0, 1) := sorry
theorem dX10_lift_36S : decode cX10_lift 36 = .ok (.bipush (-3), 2) := sorry
theorem dX10_lift_38S : decode cX10_lift 38 = .ok (.invokevirtual 109, 3) := sorry
theorem dX10_lift_41S : decode cX10_lift 41 = .ok (.ireturn, 1) := sorry
theorem dX10_lift_42S : decode cX10_lift 42 = .ok (.aload_n 0, 1) := sorry
theorem dX10_lift_43S : decode cX10_lift 43 = .ok (.aload_n 0, 1) := sorry
theorem dX10_lift_44S : decode cX10_lift 44 = .ok (.getfield 10, 3) := sorry
theorem dX10_lift_47S : decode cX10_lift 47 = .ok (.getfield 99, 3) := sorry
theorem dX10_lift_50S : decode cX10_lift 50 = .ok (.iload_n 1, 1) := sorry
theorem dX10_lift_51S : decode cX10_lift 51 = .ok (.invokevirtual 133, 3) := sorry
theorem dX10_lift_54S : decode cX10_lift 54 = .ok (.invokevirtual 119, 3) := sorry
theorem dX10_lift_57S : decode cX10_lift 57 = .ok (.ireturn, 1) := sorry
theorem dX1_heft_0S : decode cX1_heft 0 = .ok (.iload_n 2, 1) := sorry
theorem dX1_heft_1S : decode cX1_heft 1 = .ok (.ifCond .lt 26, 3) := sorry
theorem dX1_heft_4S : decode cX1_heft 4 = .ok (.iload_n 2, 1) := sorry
theorem dX1_heft_5S : decode cX1_heft 5 = .ok (.aload_n 0, 1) := sorry
theorem dX1_heft_6S : decode cX1_heft 6 = .ok (.iload_n 1, 1) := sorry
theorem dX1_heft_7S : decode cX1_heft 7 = .ok (.invokevirtual 26, 3) := sorry
theorem dX1_heft_10S : decode cX1_heft 10 = .ok (.if_icmp .ge 17, 3) := sorry
theorem dX1_heft_13S : decode cX1_heft 13 = .ok (.aload_n 0, 1) := sorry
theorem dX1_heft_14S : decode cX1_heft 14 = .ok (.getfield 19, 3) := sorry
theorem dX1_heft_17S : decode cX1_heft 17 = .ok (.iload_n 1, 1) := sorry
theorem dX1_heft_18S : decode cX1_heft 18 = .ok (.bipush 10, 2) := sorry
theorem dX1_heft_20S : decode cX1_heft 20 = .ok (.imul, 1) := sorry
theorem dX1_heft_21S : decode cX1_heft 21 = .ok (.iload_n 2, 1) := sorry
theorem dX1_heft_22S : decode cX1_heft 22 = .ok (.iadd, 1) := sorry
theorem dX1_heft_23S : decode cX1_heft 23 = .ok (.iaload, 1) := sorry
theorem dX1_heft_24S : decode cX1_heft 24 = .ok (.goto 4, 3) := sorry
theorem dX1_heft_27S : decode cX1_heft 27 = .ok (.iconst 0, 1) := sorry
theorem dX1_heft_28S : decode cX1_heft 28 = .ok (.ireturn, 1) := sorry
theorem dX10_of_0S : decode cX10_of 0 = .ok (.aload_n 0, 1) := sorry
theorem dX10_of_1S : decode cX10_of 1 = .ok (.getfield 10, 3) := sorry
theorem dX10_of_4S : decode cX10_of 4 = .ok (.getfield 99, 3) := sorry
theorem dX10_of_7S : decode cX10_of 7 = .ok (.iload_n 1, 1) := sorry
theorem dX10_of_8S : decode cX10_of 8 = .ok (.invokevirtual 122, 3) := sorry
theorem dX10_of_11S : decode cX10_of 11 = .ok (.ifCond .ne 5, 3) := sorry
theorem dX10_of_14S : decode cX10_of 14 = .ok (.iconst (-1), 1) := sorry
theorem dX10_of_15S : decode cX10_of 15 = .ok (.ireturn, 1) := sorry
theorem dX10_of_16S : decode cX10_of 16 = .ok (.iload_n 2, 1) := sorry
theorem dX10_of_17S : decode cX10_of 17 = .ok (.iconst (-1), 1) := sorry
theorem dX10_of_18S : decode cX10_of 18 = .ok (.if_icmp .ne 15, 3) := sorry
theorem dX10_of_21S : decode cX10_of 21 = .ok (.aload_n 0, 1) := sorry
theorem dX10_of_22S : decode cX10_of 22 = .ok (.getfield 10, 3) := sorry
theorem dX10_of_25S : decode cX10_of 25 = .ok (.getfield 99, 3) := sorry
theorem dX10_of_28S : decode cX10_of 28 = .ok (.iload_n 1, 1) := sorry
theorem dX10_of_29S : decode cX10_of 29 = .ok (.invokevirtual 130, 3) := sorry
theorem dX10_of_32S : decode cX10_of 32 = .ok (.ireturn, 1) := sorry
theorem dX10_of_33S : decode cX10_of 33 = .ok (.iload_n 2, 1) := sorry
theorem dX10_of_34S : decode cX10_of 34 = .ok (.ifCond .lt 18, 3) := sorry
theorem dX10_of_37S : decode cX10_of 37 = .ok (.iload_n 2, 1) := sorry
theorem dX10_of_38S : decode cX10_of 38 = .ok (.aload_n 0, 1) := sorry
theorem dX10_of_39S : decode cX10_of 39 = .ok (.getfield 10, 3) := sorry
theorem dX10_of_42S : decode cX10_of 42 = .ok (.getfield 99, 3) := sorry
theorem dX10_of_45S : decode cX10_of 45 = .ok (.iload_n 1, 1) := sorry
theorem dX10_of_46S : decode cX10_of 46 = .ok (.invokevirtual 130, 3) := sorry
theorem dX10_of_49S : decode cX10_of 49 = .ok (.if_icmp .lt 5, 3) := sorry
theorem dX10_of_52S : decode cX10_of 52 = .ok (.iconst (-1), 1) := sorry
theorem dX10_of_53S : decode cX10_of 53 = .ok (.ireturn, 1) := sorry
theorem dX10_of_54S : decode cX10_of 54 = .ok (.aload_n 0, 1) := sorry
theorem dX10_of_55S : decode cX10_of 55 = .ok (.getfield 10, 3) := sorry
theorem dX10_of_58S : decode cX10_of 58 = .ok (.getfield 99, 3) := sorry
theorem dX10_of_61S : decode cX10_of 61 = .ok (.iload_n 1, 1) := sorry
theorem dX10_of_62S : decode cX10_of 62 = .ok (.iload_n 2, 1) := sorry
theorem dX10_of_63S : decode cX10_of 63 = .ok (.invokevirtual 136, 3) := sorry
theorem dX10_of_66S : decode cX10_of 66 = .ok (.ireturn, 1) := sorry
theorem dX1_load_0S : decode cX1_load 0 = .ok (.iconst 0, 1) := sorry
theorem dX1_load_1S : decode cX1_load 1 = .ok (.istore_n 2, 1) := sorry
theorem dX1_load_2S : decode cX1_load 2 = .ok (.iconst 0, 1) := sorry
theorem dX1_load_3S : decode cX1_load 3 = .ok (.istore_n 3, 1) := sorry
theorem dX1_load_4S : decode cX1_load 4 = .ok (.iload_n 3, 1) := sorry
theorem dX1_load_5S : decode cX1_load 5 = .ok (.aload_n 0, 1) := sorry
theorem dX1_load_6S : decode cX1_load 6 = .ok (.iload_n 1, 1) := sorry
theorem dX1_load_7S : decode cX1_load 7 = .ok (.invokevirtual 26, 3) := sorry
theorem dX1_load_10S : decode cX1_load 10 = .ok (.if_icmp .ge 18, 3) := sorry
theorem dX1_load_13S : decode cX1_load 13 = .ok (.iload_n 2, 1) := sorry
theorem dX1_load_14S : decode cX1_load 14 = .ok (.aload_n 0, 1) := sorry
theorem dX1_load_15S : decode cX1_load 15 = .ok (.iload_n 1, 1) := sorry
theorem dX1_load_16S : decode cX1_load 16 = .ok (.iload_n 3, 1) := sorry
theorem dX1_load_17S : decode cX1_load 17 = .ok (.invokevirtual 30, 3) := sorry
theorem dX1_load_20S : decode cX1_load 20 = .ok (.iadd, 1) := sorry
theorem dX1_load_21S : decode cX1_load 21 = .ok (.istore_n 2, 1) := sorry
theorem dX1_load_22S : decode cX1_load 22 = .ok (.iinc 3 1, 3) := sorry
theorem dX1_load_25S : decode cX1_load 25 = .ok (.goto (-21), 3) := sorry
theorem dX1_load_28S : decode cX1_load 28 = .ok (.iload_n 2, 1) := sorry
theorem dX1_load_29S : decode cX1_load 29 = .ok (.ireturn, 1) := sorry
theorem dX10_weight_0S : decode cX10_weight 0 = .ok (.aload_n 0, 1) := sorry
theorem dX10_weight_1S : decode cX10_weight 1 = .ok (.getfield 10, 3) := sorry
theorem dX10_weight_4S : decode cX10_weight 4 = .ok (.getfield 99, 3) := sorry
theorem dX10_weight_7S : decode cX10_weight 7 = .ok (.iload_n 1, 1) := sorry
theorem dX10_weight_8S : decode cX10_weight 8 = .ok (.invokevirtual 122, 3) := sorry
theorem dX10_weight_11S : decode cX10_weight 11 = .ok (.ifCond .eq 17, 3) := sorry
theorem dX10_weight_14S : decode cX10_weight 14 = .ok (.aload_n 0, 1) := sorry
theorem dX10_weight_15S : decode cX10_weight 15 = .ok (.getfield 10, 3) := sorry
theorem dX10_weight_18S : decode cX10_weight 18 = .ok (.getfield 99, 3) := sorry
theorem dX10_weight_21S : decode cX10_weight 21 = .ok (.iload_n 1, 1) := sorry
theorem dX10_weight_22S : decode cX10_weight 22 = .ok (.invokevirtual 140, 3) := sorry
theorem dX10_weight_25S : decode cX10_weight 25 = .ok (.goto 4, 3) := sorry
theorem dX10_weight_28S : decode cX10_weight 28 = .ok (.iconst (-1), 1) := sorry
theorem dX10_weight_29S : decode cX10_weight 29 = .ok (.ireturn, 1) := sorry
theorem dX2_enroll_0S : decode cX2_enroll 0 = .ok (.aload_n 0, 1) := sorry
theorem dX2_enroll_1S : decode cX2_enroll 1 = .ok (.getfield 18, 3) := sorry
theorem dX2_enroll_4S : decode cX2_enroll 4 = .ok (.istore_n 2, 1) := sorry
theorem dX2_enroll_5S : decode cX2_enroll 5 = .ok (.iload_n 2, 1) := sorry
theorem dX2_enroll_6S : decode cX2_enroll 6 = .ok (.bipush 6, 2) := sorry
theorem dX2_enroll_8S : decode cX2_enroll 8 = .ok (.if_icmp .lt 5, 3) := sorry
theorem dX2_enroll_11S : decode cX2_enroll 11 = .ok (.iconst (-1), 1) := sorry
theorem dX2_enroll_12S : decode cX2_enroll 12 = .ok (.ireturn, 1) := sorry
theorem dX2_enroll_13S : decode cX2_enroll 13 = .ok (.aload_n 0, 1) := sorry
theorem dX2_enroll_14S : decode cX2_enroll 14 = .ok (.getfield 22, 3) := sorry
theorem dX2_enroll_17S : decode cX2_enroll 17 = .ok (.iload_n 2, 1) := sorry
theorem dX2_enroll_18S : decode cX2_enroll 18 = .ok (.iload_n 1, 1) := sorry
theorem dX2_enroll_19S : decode cX2_enroll 19 = .ok (.iastore, 1) := sorry
theorem dX2_enroll_20S : decode cX2_enroll 20 = .ok (.aload_n 0, 1) := sorry
theorem dX2_enroll_21S : decode cX2_enroll 21 = .ok (.getfield 26, 3) := sorry
theorem dX2_enroll_24S : decode cX2_enroll 24 = .ok (.iload_n 2, 1) := sorry
theorem dX2_enroll_25S : decode cX2_enroll 25 = .ok (.iconst 0, 1) := sorry
theorem dX2_enroll_26S : decode cX2_enroll 26 = .ok (.iastore, 1) := sorry
theorem dX2_enroll_27S : decode cX2_enroll 27 = .ok (.aload_n 0, 1) := sorry
theorem dX2_enroll_28S : decode cX2_enroll 28 = .ok (.getfield 29, 3) := sorry
theorem dX2_enroll_31S : decode cX2_enroll 31 = .ok (.iload_n 2, 1) := sorry
theorem dX2_enroll_32S : decode cX2_enroll 32 = .ok (.iconst 0, 1) := sorry
theorem dX2_enroll_33S : decode cX2_enroll 33 = .ok (.iastore, 1) := sorry
theorem dX2_enroll_34S : decode cX2_enroll 34 = .ok (.aload_n 0, 1) := sorry
theorem dX2_enroll_35S : decode cX2_enroll 35 = .ok (.dup, 1) := sorry
theorem dX2_enroll_36S : decode cX2_enroll 36 = .ok (.getfield 18, 3) := sorry
theorem dX2_enroll_39S : decode cX2_enroll 39 = .ok (.iconst 1, 1) := sorry
theorem dX2_enroll_40S : decode cX2_enroll 40 = .ok (.iadd, 1) := sorry
theorem dX2_enroll_41S : decode cX2_enroll 41 = .ok (.putfield 18, 3) := sorry
theorem dX2_enroll_44S : decode cX2_enroll 44 = .ok (.iload_n 2, 1) := sorry
theorem dX2_enroll_45S : decode cX2_enroll 45 = .ok (.ireturn, 1) := sorry
theorem dX10_child_0S : decode cX10_child 0 = .ok (.iload_n 1, 1) := sorry
theorem dX10_child_1S : decode cX10_child 1 = .ok (.iconst 1, 1) := sorry
theorem dX10_child_2S : decode cX10_child 2 = .ok (.if_icmp .lt 9, 3) := sorry
theorem dX10_child_5S : decode cX10_child 5 = .ok (.iload_n 1, 1) := sorry
theorem dX10_child_6S : decode cX10_child 6 = .ok (.bipush 60, 2) := sorry
theorem dX10_child_8S : decode cX10_child 8 = .ok (.if_icmp .le 9, 3) := sorry
theorem dX10_child_11S : decode cX10_child 11 = .ok (.aload_n 0, 1) := sorry
theorem dX10_child_12S : decode cX10_child 12 = .ok (.iconst (-1), 1) := sorry
theorem dX10_child_13S : decode cX10_child 13 = .ok (.invokevirtual 109, 3) := sorry
theorem dX10_child_16S : decode cX10_child 16 = .ok (.ireturn, 1) := sorry
theorem dX10_child_17S : decode cX10_child 17 = .ok (.aload_n 0, 1) := sorry
theorem dX10_child_18S : decode cX10_child 18 = .ok (.getfield 10, 3) := sorry
theorem dX10_child_21S : decode cX10_child 21 = .ok (.getfield 143, 3) := sorry
theorem dX10_child_24S : decode cX10_child 24 = .ok (.bipush 6, 2) := sorry
theorem dX10_child_26S : decode cX10_child 26 = .ok (.if_icmp .lt 10, 3) := sorry
theorem dX10_child_29S : decode cX10_child 29 = .ok (.aload_n 0, 1) := sorry
theorem dX10_child_30S : decode cX10_child 30 = .ok (.bipush (-5), 2) := sorry
theorem dX10_child_32S : decode cX10_child 32 = .ok (.invokevirtual 109, 3) := sorry
theorem dX10_child_35S : decode cX10_child 35 = .ok (.ireturn, 1) := sorry
theorem dX10_child_36S : decode cX10_child 36 = .ok (.aload_n 0, 1) := sorry
theorem dX10_child_37S : decode cX10_child 37 = .ok (.aload_n 0, 1) := sorry
theorem dX10_child_38S : decode cX10_child 38 = .ok (.getfield 10, 3) := sorry
theorem dX10_child_41S : decode cX10_child 41 = .ok (.iload_n 1, 1) := sorry
theorem dX10_child_42S : decode cX10_child 42 = .ok (.invokevirtual 146, 3) := sorry
theorem dX10_child_45S : decode cX10_child 45 = .ok (.invokevirtual 119, 3) := sorry
theorem dX10_child_48S : decode cX10_child 48 = .ok (.ireturn, 1) := sorry
theorem dX2_hasChild_0S : decode cX2_hasChild 0 = .ok (.iload_n 1, 1) := sorry
theorem dX2_hasChild_1S : decode cX2_hasChild 1 = .ok (.ifCond .lt 15, 3) := sorry
theorem dX2_hasChild_4S : decode cX2_hasChild 4 = .ok (.iload_n 1, 1) := sorry
theorem dX2_hasChild_5S : decode cX2_hasChild 5 = .ok (.aload_n 0, 1) := sorry
theorem dX2_hasChild_6S : decode cX2_hasChild 6 = .ok (.getfield 18, 3) := sorry
theorem dX2_hasChild_9S : decode cX2_hasChild 9 = .ok (.if_icmp .ge 7, 3) := sorry
theorem dX2_hasChild_12S : decode cX2_hasChild 12 = .ok (.iconst 1, 1) := sorry
theorem dX2_hasChild_13S : decode cX2_hasChild 13 = .ok (.goto 4, 3) := sorry
theorem dX2_hasChild_16S : decode cX2_hasChild 16 = .ok (.iconst 0, 1) := sorry
theorem dX2_hasChild_17S : decode cX2_hasChild 17 = .ok (.ireturn, 1) := sorry
theorem dX10_expel_0S : decode cX10_expel 0 = .ok (.iload_n 2, 1) := sorry
theorem dX10_expel_1S : decode cX10_expel 1 = .ok (.ifCond .lt 8, 3) := sorry
theorem dX10_expel_4S : decode cX10_expel 4 = .ok (.iload_n 2, 1) := sorry
theorem dX10_expel_5S : decode cX10_expel 5 = .ok (.iconst 1, 1) := sorry
theorem dX10_expel_6S : decode cX10_expel 6 = .ok (.if_icmp .le 9, 3) := sorry
theorem dX10_expel_9S : decode cX10_expel 9 = .ok (.aload_n 0, 1) := sorry
theorem dX10_expel_10S : decode cX10_expel 10 = .ok (.iconst (-1), 1) := sorry
theorem dX10_expel_11S : decode cX10_expel 11 = .ok (.invokevirtual 109, 3) := sorry
theorem dX10_expel_14S : decode cX10_expel 14 = .ok (.ireturn, 1) := sorry
theorem dX10_expel_15S : decode cX10_expel 15 = .ok (.aload_n 0, 1) := sorry
theorem dX10_expel_16S : decode cX10_expel 16 = .ok (.getfield 10, 3) := sorry
theorem dX10_expel_19S : decode cX10_expel 19 = .ok (.iload_n 1, 1) := sorry
theorem dX10_expel_20S : decode cX10_expel 20 = .ok (.invokevirtual 149, 3) := sorry
theorem dX10_expel_23S : decode cX10_expel 23 = .ok (.ifCond .ne 10, 3) := sorry
theorem dX10_expel_26S : decode cX10_expel 26 = .ok (.aload_n 0, 1) := sorry
theorem dX10_expel_27S : decode cX10_expel 27 = .ok (.bipush (-2), 2) := sorry
theorem dX10_expel_29S : decode cX10_expel 29 = .ok (.invokevirtual 109, 3) := sorry
theorem dX10_expel_32S : decode cX10_expel 32 = .ok (.ireturn, 1) := sorry
theorem dX10_expel_33S : decode cX10_expel 33 = .ok (.aload_n 0, 1) := sorry
theorem dX10_expel_34S : decode cX10_expel 34 = .ok (.getfield 10, 3) := sorry
theorem dX10_expel_37S : decode cX10_expel 37 = .ok (.getfield 152, 3) := sorry
theorem dX10_expel_40S : decode cX10_expel 40 = .ok (.iload_n 1, 1) := sorry
theorem dX10_expel_41S : decode cX10_expel 41 = .ok (.iaload, 1) := sorry
theorem dX10_expel_42S : decode cX10_expel 42 = .ok (.istore_n 3, 1) := sorry
theorem dX10_expel_43S : decode cX10_expel 43 = .ok (.aload_n 0, 1) := sorry
theorem dX10_expel_44S : decode cX10_expel 44 = .ok (.getfield 10, 3) := sorry
theorem dX10_expel_47S : decode cX10_expel 47 = .ok (.getfield 152, 3) := sorry
theorem dX10_expel_50S : decode cX10_expel 50 = .ok (.iload_n 1, 1) := sorry
theorem dX10_expel_51S : decode cX10_expel 51 = .ok (.iload_n 2, 1) := sorry
theorem dX10_expel_52S : decode cX10_expel 52 = .ok (.iastore, 1) := sorry
theorem dX10_expel_53S : decode cX10_expel 53 = .ok (.aload_n 0, 1) := sorry
theorem dX10_expel_54S : decode cX10_expel 54 = .ok (.iload_n 3, 1) := sorry
theorem dX10_expel_55S : decode cX10_expel 55 = .ok (.invokevirtual 119, 3) := sorry
theorem dX10_expel_58S : decode cX10_expel 58 = .ok (.ireturn, 1) := sorry
