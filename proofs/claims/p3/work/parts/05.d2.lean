theorem dX10_accept_0R : decode cX10_accept 0 = .ok (.aload_n 0, 1) := rfl
theorem dX10_accept_1R : decode cX10_accept 1 = .ok (.iconst 0, 1) := rfl
theorem dX10_accept_2R : decode cX10_accept 2 = .ok (.putfield 41, 3) := rfl
theorem dX10_accept_5R : decode cX10_accept 5 = .ok (.aload_n 0, 1) := rfl
theorem dX10_accept_6R : decode cX10_accept 6 = .ok (.getfield 10, 3) := rfl
theorem dX10_accept_9R : decode cX10_accept 9 = .ok (.dup, 1) := rfl
theorem dX10_accept_10R : decode cX10_accept 10 = .ok (.getfield 220, 3) := rfl
theorem dX10_accept_13R : decode cX10_accept 13 = .ok (.iconst 1, 1) := rfl
theorem dX10_accept_14R : decode cX10_accept 14 = .ok (.iadd, 1) := rfl
theorem dX10_accept_15R : decode cX10_accept 15 = .ok (.putfield 220, 3) := rfl
theorem dX10_accept_18R : decode cX10_accept 18 = .ok (.iload_n 1, 1) := rfl
theorem dX10_accept_19R : decode cX10_accept 19 = .ok (.ireturn, 1) := rfl
theorem dX10_refuse_0R : decode cX10_refuse 0 = .ok (.aload_n 0, 1) := rfl
theorem dX10_refuse_1R : decode cX10_refuse 1 = .ok (.iload_n 1, 1) := rfl
theorem dX10_refuse_2R : decode cX10_refuse 2 = .ok (.putfield 41, 3) := rfl
theorem dX10_refuse_5R : decode cX10_refuse 5 = .ok (.aload_n 0, 1) := rfl
theorem dX10_refuse_6R : decode cX10_refuse 6 = .ok (.getfield 38, 3) := rfl
theorem dX10_refuse_9R : decode cX10_refuse 9 = .ok (.iload_n 1, 1) := rfl
theorem dX10_refuse_10R : decode cX10_refuse 10 = .ok (.ineg, 1) := rfl
theorem dX10_refuse_11R : decode cX10_refuse 11 = .ok (.dup2, 1) := rfl
theorem dX10_refuse_12R : decode cX10_refuse 12 = .ok (.iaload, 1) := rfl
theorem dX10_refuse_13R : decode cX10_refuse 13 = .ok (.iconst 1, 1) := rfl
theorem dX10_refuse_14R : decode cX10_refuse 14 = .ok (.iadd, 1) := rfl
theorem dX10_refuse_15R : decode cX10_refuse 15 = .ok (.iastore, 1) := rfl
theorem dX10_refuse_16R : decode cX10_refuse 16 = .ok (.iload_n 1, 1) := rfl
theorem dX10_refuse_17R : decode cX10_refuse 17 = .ok (.ireturn, 1) := rfl
theorem dX1_grow_0R : decode cX1_grow 0 = .ok (.aload_n 0, 1) := rfl
theorem dX1_grow_1R : decode cX1_grow 1 = .ok (.getfield 9, 3) := rfl
theorem dX1_grow_4R : decode cX1_grow 4 = .ok (.bipush 12, 2) := rfl
theorem dX1_grow_6R : decode cX1_grow 6 = .ok (.if_icmp .lt 5, 3) := rfl
theorem dX1_grow_9R : decode cX1_grow 9 = .ok (.iconst 0, 1) := rfl
theorem dX1_grow_10R : decode cX1_grow 10 = .ok (.ireturn, 1) := rfl
theorem dX1_grow_11R : decode cX1_grow 11 = .ok (.aload_n 0, 1) := rfl
theorem dX1_grow_12R : decode cX1_grow 12 = .ok (.getfield 15, 3) := rfl
theorem dX1_grow_15R : decode cX1_grow 15 = .ok (.aload_n 0, 1) := rfl
theorem dX1_grow_16R : decode cX1_grow 16 = .ok (.getfield 9, 3) := rfl
theorem dX1_grow_19R : decode cX1_grow 19 = .ok (.iconst 0, 1) := rfl
theorem dX1_grow_20R : decode cX1_grow 20 = .ok (.iastore, 1) := rfl
theorem dX1_grow_21R : decode cX1_grow 21 = .ok (.aload_n 0, 1) := rfl
theorem dX1_grow_22R : decode cX1_grow 22 = .ok (.dup, 1) := rfl
theorem dX1_grow_23R : decode cX1_grow 23 = .ok (.getfield 9, 3) := rfl
theorem dX1_grow_26R : decode cX1_grow 26 = .ok (.iconst 1, 1) := rfl
theorem dX1_grow_27R : decode cX1_grow 27 = .ok (.iadd, 1) := rfl
theorem dX1_grow_28R : decode cX1_grow 28 = .ok (.putfield 9, 3) := rfl
theorem dX1_grow_31R : decode cX1_grow 31 = .ok (.iconst 1, 1) := rfl
theorem dX1_grow_32R : decode cX1_grow 32 = .ok (.ireturn, 1) := rfl
theorem dX10_column_0R : decode cX10_column 0 = .ok (.aload_n 0, 1) := rfl
theorem dX10_column_1R : decode cX10_column 1 = .ok (.getfield 10, 3) := rfl
theorem dX10_column_4R : decode cX10_column 4 = .ok (.getfield 99, 3) := rfl
theorem dX10_column_7R : decode cX10_column 7 = .ok (.invokevirtual 103, 3) := rfl
theorem dX10_column_10R : decode cX10_column 10 = .ok (.ifCond .ne 10, 3) := rfl
theorem dX10_column_13R : decode cX10_column 13 = .ok (.aload_n 0, 1) := rfl
theorem dX10_column_14R : decode cX10_column 14 = .ok (.bipush (-5), 2) := rfl
theorem dX10_column_16R : decode cX10_column 16 = .ok (.invokevirtual 109, 3) := rfl
theorem dX10_column_19R : decode cX10_column 19 = .ok (.ireturn, 1) := rfl
theorem dX10_column_20R : decode cX10_column 20 = .ok (.aload_n 0, 1) := rfl
theorem dX10_column_21R : decode cX10_column 21 = .ok (.getfield 10, 3) := rfl
theorem dX10_column_24R : decode cX10_column 24 = .ok (.getfield 99, 3) := rfl
theorem dX10_column_27R : decode cX10_column 27 = .ok (.getfield 113, 3) := rfl
theorem dX10_column_30R : decode cX10_column 30 = .ok (.iconst 1, 1) := rfl
