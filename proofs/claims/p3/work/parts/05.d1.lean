theorem zdg {c : ByteArray} {l : List (Nat × Instr × Nat)} (h : l.all (fun q => decide (decode c q.1 = .ok (q.2.1, q.2.2))) = true) (k : Nat) {pc n : Nat} {i : Instr} (e : l[k]? = some (pc, i, n)) : decode c pc = .ok (i, n) := of_decide_eq_true (List.all_eq_true.mp h (pc, i, n) (List.mem_of_getElem? e))
def eX10_accept : List (Nat × Instr × Nat) := [(0, .aload_n 0, 1), (1, .iconst 0, 1), (2, .putfield 41, 3), (5, .aload_n 0, 1), (6, .getfield 10, 3), (9, .dup, 1), (10, .getfield 220, 3), (13, .iconst 1, 1), (14, .iadd, 1), (15, .putfield 220, 3), (18, .iload_n 1, 1), (19, .ireturn, 1)]
theorem eX10_accept_ok : eX10_accept.all (fun q => decide (decode cX10_accept q.1 = .ok (q.2.1, q.2.2))) = true := by decide +kernel
theorem dX10_accept_0E : decode cX10_accept 0 = .ok (.aload_n 0, 1) := zdg eX10_accept_ok 0 rfl
theorem dX10_accept_1E : decode cX10_accept 1 = .ok (.iconst 0, 1) := zdg eX10_accept_ok 1 rfl
theorem dX10_accept_2E : decode cX10_accept 2 = .ok (.putfield 41, 3) := zdg eX10_accept_ok 2 rfl
theorem dX10_accept_5E : decode cX10_accept 5 = .ok (.aload_n 0, 1) := zdg eX10_accept_ok 3 rfl
theorem dX10_accept_6E : decode cX10_accept 6 = .ok (.getfield 10, 3) := zdg eX10_accept_ok 4 rfl
theorem dX10_accept_9E : decode cX10_accept 9 = .ok (.dup, 1) := zdg eX10_accept_ok 5 rfl
theorem dX10_accept_10E : decode cX10_accept 10 = .ok (.getfield 220, 3) := zdg eX10_accept_ok 6 rfl
theorem dX10_accept_13E : decode cX10_accept 13 = .ok (.iconst 1, 1) := zdg eX10_accept_ok 7 rfl
theorem dX10_accept_14E : decode cX10_accept 14 = .ok (.iadd, 1) := zdg eX10_accept_ok 8 rfl
theorem dX10_accept_15E : decode cX10_accept 15 = .ok (.putfield 220, 3) := zdg eX10_accept_ok 9 rfl
theorem dX10_accept_18E : decode cX10_accept 18 = .ok (.iload_n 1, 1) := zdg eX10_accept_ok 10 rfl
theorem dX10_accept_19E : decode cX10_accept 19 = .ok (.ireturn, 1) := zdg eX10_accept_ok 11 rfl
def eX10_refuse : List (Nat × Instr × Nat) := [(0, .aload_n 0, 1), (1, .iload_n 1, 1), (2, .putfield 41, 3), (5, .aload_n 0, 1), (6, .getfield 38, 3), (9, .iload_n 1, 1), (10, .ineg, 1), (11, .dup2, 1), (12, .iaload, 1), (13, .iconst 1, 1), (14, .iadd, 1), (15, .iastore, 1), (16, .iload_n 1, 1), (17, .ireturn, 1)]
theorem eX10_refuse_ok : eX10_refuse.all (fun q => decide (decode cX10_refuse q.1 = .ok (q.2.1, q.2.2))) = true := by decide +kernel
theorem dX10_refuse_0E : decode cX10_refuse 0 = .ok (.aload_n 0, 1) := zdg eX10_refuse_ok 0 rfl
theorem dX10_refuse_1E : decode cX10_refuse 1 = .ok (.iload_n 1, 1) := zdg eX10_refuse_ok 1 rfl
theorem dX10_refuse_2E : decode cX10_refuse 2 = .ok (.putfield 41, 3) := zdg eX10_refuse_ok 2 rfl
theorem dX10_refuse_5E : decode cX10_refuse 5 = .ok (.aload_n 0, 1) := zdg eX10_refuse_ok 3 rfl
theorem dX10_refuse_6E : decode cX10_refuse 6 = .ok (.getfield 38, 3) := zdg eX10_refuse_ok 4 rfl
theorem dX10_refuse_9E : decode cX10_refuse 9 = .ok (.iload_n 1, 1) := zdg eX10_refuse_ok 5 rfl
theorem dX10_refuse_10E : decode cX10_refuse 10 = .ok (.ineg, 1) := zdg eX10_refuse_ok 6 rfl
theorem dX10_refuse_11E : decode cX10_refuse 11 = .ok (.dup2, 1) := zdg eX10_refuse_ok 7 rfl
theorem dX10_refuse_12E : decode cX10_refuse 12 = .ok (.iaload, 1) := zdg eX10_refuse_ok 8 rfl
theorem dX10_refuse_13E : decode cX10_refuse 13 = .ok (.iconst 1, 1) := zdg eX10_refuse_ok 9 rfl
theorem dX10_refuse_14E : decode cX10_refuse 14 = .ok (.iadd, 1) := zdg eX10_refuse_ok 10 rfl
theorem dX10_refuse_15E : decode cX10_refuse 15 = .ok (.iastore, 1) := zdg eX10_refuse_ok 11 rfl
theorem dX10_refuse_16E : decode cX10_refuse 16 = .ok (.iload_n 1, 1) := zdg eX10_refuse_ok 12 rfl
theorem dX10_refuse_17E : decode cX10_refuse 17 = .ok (.ireturn, 1) := zdg eX10_refuse_ok 13 rfl
def eX1_grow : List (Nat × Instr × Nat) := [(0, .aload_n 0, 1), (1, .getfield 9, 3), (4, .bipush 12, 2), (6, .if_icmp .lt 5, 3), (9, .iconst 0, 1), (10, .ireturn, 1), (11, .aload_n 0, 1), (12, .getfield 15, 3), (15, .aload_n 0, 1), (16, .getfield 9, 3), (19, .iconst 0, 1), (20, .iastore, 1), (21, .aload_n 0, 1), (22, .dup, 1), (23, .getfield 9, 3), (26, .iconst 1, 1), (27, .iadd, 1), (28, .putfield 9, 3), (31, .iconst 1, 1), (32, .ireturn, 1)]
theorem eX1_grow_ok : eX1_grow.all (fun q => decide (decode cX1_grow q.1 = .ok (q.2.1, q.2.2))) = true := by decide +kernel
theorem dX1_grow_0E : decode cX1_grow 0 = .ok (.aload_n 0, 1) := zdg eX1_grow_ok 0 rfl
theorem dX1_grow_1E : decode cX1_grow 1 = .ok (.getfield 9, 3) := zdg eX1_grow_ok 1 rfl
theorem dX1_grow_4E : decode cX1_grow 4 = .ok (.bipush 12, 2) := zdg eX1_grow_ok 2 rfl
theorem dX1_grow_6E : decode cX1_grow 6 = .ok (.if_icmp .lt 5, 3) := zdg eX1_grow_ok 3 rfl
theorem dX1_grow_9E : decode cX1_grow 9 = .ok (.iconst 0, 1) := zdg eX1_grow_ok 4 rfl
theorem dX1_grow_10E : decode cX1_grow 10 = .ok (.ireturn, 1) := zdg eX1_grow_ok 5 rfl
theorem dX1_grow_11E : decode cX1_grow 11 = .ok (.aload_n 0, 1) := zdg eX1_grow_ok 6 rfl
theorem dX1_grow_12E : decode cX1_grow 12 = .ok (.getfield 15, 3) := zdg eX1_grow_ok 7 rfl
theorem dX1_grow_15E : decode cX1_grow 15 = .ok (.aload_n 0, 1) := zdg eX1_grow_ok 8 rfl
theorem dX1_grow_16E : decode cX1_grow 16 = .ok (.getfield 9, 3) := zdg eX1_grow_ok 9 rfl
theorem dX1_grow_19E : decode cX1_grow 19 = .ok (.iconst 0, 1) := zdg eX1_grow_ok 10 rfl
theorem dX1_grow_20E : decode cX1_grow 20 = .ok (.iastore, 1) := zdg eX1_grow_ok 11 rfl
theorem dX1_grow_21E : decode cX1_grow 21 = .ok (.aload_n 0, 1) := zdg eX1_grow_ok 12 rfl
theorem dX1_grow_22E : decode cX1_grow 22 = .ok (.dup, 1) := zdg eX1_grow_ok 13 rfl
theorem dX1_grow_23E : decode cX1_grow 23 = .ok (.getfield 9, 3) := zdg eX1_grow_ok 14 rfl
theorem dX1_grow_26E : decode cX1_grow 26 = .ok (.iconst 1, 1) := zdg eX1_grow_ok 15 rfl
theorem dX1_grow_27E : decode cX1_grow 27 = .ok (.iadd, 1) := zdg eX1_grow_ok 16 rfl
theorem dX1_grow_28E : decode cX1_grow 28 = .ok (.putfield 9, 3) := zdg eX1_grow_ok 17 rfl
theorem dX1_grow_31E : decode cX1_grow 31 = .ok (.iconst 1, 1) := zdg eX1_grow_ok 18 rfl
theorem dX1_grow_32E : decode cX1_grow 32 = .ok (.ireturn, 1) := zdg eX1_grow_ok 19 rfl
def eX10_column : List (Nat × Instr × Nat) := [(0, .aload_n 0, 1), (1, .getfield 10, 3), (4, .getfield 99, 3), (7, .invokevirtual 103, 3), (10, .ifCond .ne 10, 3), (13, .aload_n 0, 1), (14, .bipush (-5), 2), (16, .invokevirtual 109, 3), (19, .ireturn, 1), (20, .aload_n 0, 1), (21, .getfield 10, 3), (24, .getfield 99, 3), (27, .getfield 113, 3), (30, .iconst 1, 1), (31, .isub, 1), (32, .istore_n 1, 1), (33, .aload_n 0, 1), (34, .getfield 10, 3), (37, .getfield 116, 3), (40, .iload_n 1, 1), (41, .iconst (-1), 1), (42, .iastore, 1), (43, .aload_n 0, 1), (44, .iload_n 1, 1), (45, .invokevirtual 119, 3), (48, .ireturn, 1)]
theorem eX10_column_ok : eX10_column.all (fun q => decide (decode cX10_column q.1 = .ok (q.2.1, q.2.2))) = true := by decide +kernel
theorem dX10_column_0E : decode cX10_column 0 = .ok (.aload_n 0, 1) := zdg eX10_column_ok 0 rfl
theorem dX10_column_1E : decode cX10_column 1 = .ok (.getfield 10, 3) := zdg eX10_column_ok 1 rfl
theorem dX10_column_4E : decode cX10_column 4 = .ok (.getfield 99, 3) := zdg eX10_column_ok 2 rfl
theorem dX10_column_7E : decode cX10_column 7 = .ok (.invokevirtual 103, 3) := zdg eX10_column_ok 3 rfl
theorem dX10_column_10E : decode cX10_column 10 = .ok (.ifCond .ne 10, 3) := zdg eX10_column_ok 4 rfl
theorem dX10_column_13E : decode cX10_column 13 = .ok (.aload_n 0, 1) := zdg eX10_column_ok 5 rfl
theorem dX10_column_14E : decode cX10_column 14 = .ok (.bipush (-5), 2) := zdg eX10_column_ok 6 rfl
theorem dX10_column_16E : decode cX10_column 16 = .ok (.invokevirtual 109, 3) := zdg eX10_column_ok 7 rfl
theorem dX10_column_19E : decode cX10_column 19 = .ok (.ireturn, 1) := zdg eX10_column_ok 8 rfl
theorem dX10_column_20E : decode cX10_column 20 = .ok (.aload_n 0, 1) := zdg eX10_column_ok 9 rfl
theorem dX10_column_21E : decode cX10_column 21 = .ok (.getfield 10, 3) := zdg eX10_column_ok 10 rfl
theorem dX10_column_24E : decode cX10_column 24 = .ok (.getfield 99, 3) := zdg eX10_column_ok 11 rfl
theorem dX10_column_27E : decode cX10_column 27 = .ok (.getfield 113, 3) := zdg eX10_column_ok 12 rfl
theorem dX10_column_30E : decode cX10_column 30 = .ok (.iconst 1, 1) := zdg eX10_column_ok 13 rfl
theorem dX10_column_31E : decode cX10_column 31 = .ok (.isub, 1) := zdg eX10_column_ok 14 rfl
theorem dX10_column_32E : decode cX10_column 32 = .ok (.istore_n 1, 1) := zdg eX10_column_ok 15 rfl
theorem dX10_column_33E : decode cX10_column 33 = .ok (.aload_n 0, 1) := zdg eX10_column_ok 16 rfl
theorem dX10_column_34E : decode cX10_column 34 = .ok (.getfield 10, 3) := zdg eX10_column_ok 17 rfl
theorem dX10_column_37E : decode cX10_column 37 = .ok (.getfield 116, 3) := zdg eX10_column_ok 18 rfl
theorem dX10_column_40E : decode cX10_column 40 = .ok (.iload_n 1, 1) := zdg eX10_column_ok 19 rfl
theorem dX10_column_41E : decode cX10_column 41 = .ok (.iconst (-1), 1) := zdg eX10_column_ok 20 rfl
theorem dX10_column_42E : decode cX10_column 42 = .ok (.iastore, 1) := zdg eX10_column_ok 21 rfl
theorem dX10_column_43E : decode cX10_column 43 = .ok (.aload_n 0, 1) := zdg eX10_column_ok 22 rfl
theorem dX10_column_44E : decode cX10_column 44 = .ok (.iload_n 1, 1) := zdg eX10_column_ok 23 rfl
theorem dX10_column_45E : decode cX10_column 45 = .ok (.invokevirtual 119, 3) := zdg eX10_column_ok 24 rfl
theorem dX10_column_48E : decode cX10_column 48 = .ok (.ireturn, 1) := zdg eX10_column_ok 25 rfl
def eX1_has : List (Nat × Instr × Nat) := [(0, .iload_n 1, 1), (1, .ifCond .lt 15, 3), (4, .iload_n 1, 1), (5, .aload_n 0, 1), (6, .getfield 9, 3), (9, .if_icmp .ge 7, 3), (12, .iconst 1, 1), (13, .goto 4, 3), (16, .iconst 0, 1), (17, .ireturn, 1)]
theorem eX1_has_ok : eX1_has.all (fun q => decide (decode cX1_has q.1 = .ok (q.2.1, q.2.2))) = true := by decide +kernel
theorem dX1_has_0E : decode cX1_has 0 = .ok (.iload_n 1, 1) := zdg eX1_has_ok 0 rfl
theorem dX1_has_1E : decode cX1_has 1 = .ok (.ifCond .lt 15, 3) := zdg eX1_has_ok 1 rfl
theorem dX1_has_4E : decode cX1_has 4 = .ok (.iload_n 1, 1) := zdg eX1_has_ok 2 rfl
theorem dX1_has_5E : decode cX1_has 5 = .ok (.aload_n 0, 1) := zdg eX1_has_ok 3 rfl
theorem dX1_has_6E : decode cX1_has 6 = .ok (.getfield 9, 3) := zdg eX1_has_ok 4 rfl
theorem dX1_has_9E : decode cX1_has 9 = .ok (.if_icmp .ge 7, 3) := zdg eX1_has_ok 5 rfl
theorem dX1_has_12E : decode cX1_has 12 = .ok (.iconst 1, 1) := zdg eX1_has_ok 6 rfl
theorem dX1_has_13E : decode cX1_has 13 = .ok (.goto 4, 3) := zdg eX1_has_ok 7 rfl
theorem dX1_has_16E : decode cX1_has 16 = .ok (.iconst 0, 1) := zdg eX1_has_ok 8 rfl
theorem dX1_has_17E : decode cX1_has 17 = .ok (.ireturn, 1) := zdg eX1_has_ok 9 rfl
def eX1_put : List (Nat × Instr × Nat) := [(0, .aload_n 0, 1), (1, .iload_n 1, 1), (2, .invokevirtual 22, 3), (5, .ifCond .eq 14, 3), (8, .aload_n 0, 1), (9, .getfield 15, 3), (12, .iload_n 1, 1), (13, .iaload, 1), (14, .bipush 10, 2), (16, .if_icmp .lt 5, 3), (19, .iconst 0, 1), (20, .ireturn, 1), (21, .aload_n 0, 1), (22, .getfield 19, 3), (25, .iload_n 1, 1), (26, .bipush 10, 2), (28, .imul, 1), (29, .aload_n 0, 1), (30, .getfield 15, 3), (33, .iload_n 1, 1), (34, .iaload, 1), (35, .iadd, 1), (36, .iload_n 2, 1), (37, .iastore, 1), (38, .aload_n 0, 1), (39, .getfield 15, 3), (42, .iload_n 1, 1), (43, .dup2, 1), (44, .iaload, 1), (45, .iconst 1, 1), (46, .iadd, 1), (47, .iastore, 1), (48, .iconst 1, 1), (49, .ireturn, 1)]
theorem eX1_put_ok : eX1_put.all (fun q => decide (decode cX1_put q.1 = .ok (q.2.1, q.2.2))) = true := by decide +kernel
theorem dX1_put_0E : decode cX1_put 0 = .ok (.aload_n 0, 1) := zdg eX1_put_ok 0 rfl
theorem dX1_put_1E : decode cX1_put 1 = .ok (.iload_n 1, 1) := zdg eX1_put_ok 1 rfl
theorem dX1_put_2E : decode cX1_put 2 = .ok (.invokevirtual 22, 3) := zdg eX1_put_ok 2 rfl
theorem dX1_put_5E : decode cX1_put 5 = .ok (.ifCond .eq 14, 3) := zdg eX1_put_ok 3 rfl
theorem dX1_put_8E : decode cX1_put 8 = .ok (.aload_n 0, 1) := zdg eX1_put_ok 4 rfl
theorem dX1_put_9E : decode cX1_put 9 = .ok (.getfield 15, 3) := zdg eX1_put_ok 5 rfl
theorem dX1_put_12E : decode cX1_put 12 = .ok (.iload_n 1, 1) := zdg eX1_put_ok 6 rfl
theorem dX1_put_13E : decode cX1_put 13 = .ok (.iaload, 1) := zdg eX1_put_ok 7 rfl
theorem dX1_put_14E : decode cX1_put 14 = .ok (.bipush 10, 2) := zdg eX1_put_ok 8 rfl
theorem dX1_put_16E : decode cX1_put 16 = .ok (.if_icmp .lt 5, 3) := zdg eX1_put_ok 9 rfl
theorem dX1_put_19E : decode cX1_put 19 = .ok (.iconst 0, 1) := zdg eX1_put_ok 10 rfl
theorem dX1_put_20E : decode cX1_put 20 = .ok (.ireturn, 1) := zdg eX1_put_ok 11 rfl
theorem dX1_put_21E : decode cX1_put 21 = .ok (.aload_n 0, 1) := zdg eX1_put_ok 12 rfl
theorem dX1_put_22E : decode cX1_put 22 = .ok (.getfield 19, 3) := zdg eX1_put_ok 13 rfl
theorem dX1_put_25E : decode cX1_put 25 = .ok (.iload_n 1, 1) := zdg eX1_put_ok 14 rfl
theorem dX1_put_26E : decode cX1_put 26 = .ok (.bipush 10, 2) := zdg eX1_put_ok 15 rfl
theorem dX1_put_28E : decode cX1_put 28 = .ok (.imul, 1) := zdg eX1_put_ok 16 rfl
theorem dX1_put_29E : decode cX1_put 29 = .ok (.aload_n 0, 1) := zdg eX1_put_ok 17 rfl
theorem dX1_put_30E : decode cX1_put 30 = .ok (.getfield 15, 3) := zdg eX1_put_ok 18 rfl
theorem dX1_put_33E : decode cX1_put 33 = .ok (.iload_n 1, 1) := zdg eX1_put_ok 19 rfl
theorem dX1_put_34E : decode cX1_put 34 = .ok (.iaload, 1) := zdg eX1_put_ok 20 rfl
theorem dX1_put_35E : decode cX1_put 35 = .ok (.iadd, 1) := zdg eX1_put_ok 21 rfl
theorem dX1_put_36E : decode cX1_put 36 = .ok (.iload_n 2, 1) := zdg eX1_put_ok 22 rfl
theorem dX1_put_37E : decode cX1_put 37 = .ok (.iastore, 1) := zdg eX1_put_ok 23 rfl
theorem dX1_put_38E : decode cX1_put 38 = .ok (.aload_n 0, 1) := zdg eX1_put_ok 24 rfl
theorem dX1_put_39E : decode cX1_put 39 = .ok (.getfield 15, 3) := zdg eX1_put_ok 25 rfl
theorem dX1_put_42E : decode cX1_put 42 = .ok (.iload_n 1, 1) := zdg eX1_put_ok 26 rfl
theorem dX1_put_43E : decode cX1_put 43 = .ok (.dup2, 1) := zdg eX1_put_ok 27 rfl
theorem dX1_put_44E : decode cX1_put 44 = .ok (.iaload, 1) := zdg eX1_put_ok 28 rfl
theorem dX1_put_45E : decode cX1_put 45 = .ok (.iconst 1, 1) := zdg eX1_put_ok 29 rfl
theorem dX1_put_46E : decode cX1_put 46 = .ok (.iadd, 1) := zdg eX1_put_ok 30 rfl
theorem dX1_put_47E : decode cX1_put 47 = .ok (.iastore, 1) := zdg eX1_put_ok 31 rfl
theorem dX1_put_48E : decode cX1_put 48 = .ok (.iconst 1, 1) := zdg eX1_put_ok 32 rfl
theorem dX1_put_49E : decode cX1_put 49 = .ok (.ireturn, 1) := zdg eX1_put_ok 33 rfl
def eX1_high : List (Nat × Instr × Nat) := [(0, .aload_n 0, 1), (1, .iload_n 1, 1), (2, .invokevirtual 22, 3), (5, .ifCond .eq 12, 3), (8, .aload_n 0, 1), (9, .getfield 15, 3), (12, .iload_n 1, 1), (13, .iaload, 1), (14, .goto 4, 3), (17, .iconst 0, 1), (18, .ireturn, 1)]
theorem eX1_high_ok : eX1_high.all (fun q => decide (decode cX1_high q.1 = .ok (q.2.1, q.2.2))) = true := by decide +kernel
theorem dX1_high_0E : decode cX1_high 0 = .ok (.aload_n 0, 1) := zdg eX1_high_ok 0 rfl
theorem dX1_high_1E : decode cX1_high 1 = .ok (.iload_n 1, 1) := zdg eX1_high_ok 1 rfl
theorem dX1_high_2E : decode cX1_high 2 = .ok (.invokevirtual 22, 3) := zdg eX1_high_ok 2 rfl
theorem dX1_high_5E : decode cX1_high 5 = .ok (.ifCond .eq 12, 3) := zdg eX1_high_ok 3 rfl
theorem dX1_high_8E : decode cX1_high 8 = .ok (.aload_n 0, 1) := zdg eX1_high_ok 4 rfl
theorem dX1_high_9E : decode cX1_high 9 = .ok (.getfield 15, 3) := zdg eX1_high_ok 5 rfl
theorem dX1_high_12E : decode cX1_high 12 = .ok (.iload_n 1, 1) := zdg eX1_high_ok 6 rfl
theorem dX1_high_13E : decode cX1_high 13 = .ok (.iaload, 1) := zdg eX1_high_ok 7 rfl
theorem dX1_high_14E : decode cX1_high 14 = .ok (.goto 4, 3) := zdg eX1_high_ok 8 rfl
theorem dX1_high_17E : decode cX1_high 17 = .ok (.iconst 0, 1) := zdg eX1_high_ok 9 rfl
theorem dX1_high_18E : decode cX1_high 18 = .ok (.ireturn, 1) := zdg eX1_high_ok 10 rfl
def eX10_stone : List (Nat × Instr × Nat) := [(0, .iload_n 2, 1), (1, .iconst 1, 1), (2, .if_icmp .lt 9, 3), (5, .iload_n 2, 1), (6, .bipush 30, 2), (8, .if_icmp .le 9, 3), (11, .aload_n 0, 1), (12, .iconst (-1), 1), (13, .invokevirtual 109, 3), (16, .ireturn, 1), (17, .aload_n 0, 1), (18, .getfield 10, 3), (21, .getfield 99, 3), (24, .iload_n 1, 1), (25, .invokevirtual 122, 3), (28, .ifCond .ne 10, 3), (31, .aload_n 0, 1), (32, .bipush (-2), 2), (34, .invokevirtual 109, 3), (37, .ireturn, 1), (38, .aload_n 0, 1), (39, .getfield 10, 3), (42, .getfield 99, 3), (45, .iload_n 1, 1), (46, .iload_n 2, 1), (47, .invokevirtual 126, 3), (50, .ifCond .ne 10, 3), (53, .aload_n 0, 1), (54, .bipush (-5), 2), (56, .invokevirtual 109, 3), (59, .ireturn, 1), (60, .aload_n 0, 1), (61, .aload_n 0, 1), (62, .getfield 10, 3), (65, .getfield 99, 3), (68, .iload_n 1, 1), (69, .invokevirtual 130, 3), (72, .invokevirtual 119, 3), (75, .ireturn, 1)]
theorem eX10_stone_ok : eX10_stone.all (fun q => decide (decode cX10_stone q.1 = .ok (q.2.1, q.2.2))) = true := by decide +kernel
theorem dX10_stone_0E : decode cX10_stone 0 = .ok (.iload_n 2, 1) := zdg eX10_stone_ok 0 rfl
theorem dX10_stone_1E : decode cX10_stone 1 = .ok (.iconst 1, 1) := zdg eX10_stone_ok 1 rfl
theorem dX10_stone_2E : decode cX10_stone 2 = .ok (.if_icmp .lt 9, 3) := zdg eX10_stone_ok 2 rfl
theorem dX10_stone_5E : decode cX10_stone 5 = .ok (.iload_n 2, 1) := zdg eX10_stone_ok 3 rfl
theorem dX10_stone_6E : decode cX10_stone 6 = .ok (.bipush 30, 2) := zdg eX10_stone_ok 4 rfl
theorem dX10_stone_8E : decode cX10_stone 8 = .ok (.if_icmp .le 9, 3) := zdg eX10_stone_ok 5 rfl
theorem dX10_stone_11E : decode cX10_stone 11 = .ok (.aload_n 0, 1) := zdg eX10_stone_ok 6 rfl
theorem dX10_stone_12E : decode cX10_stone 12 = .ok (.iconst (-1), 1) := zdg eX10_stone_ok 7 rfl
theorem dX10_stone_13E : decode cX10_stone 13 = .ok (.invokevirtual 109, 3) := zdg eX10_stone_ok 8 rfl
theorem dX10_stone_16E : decode cX10_stone 16 = .ok (.ireturn, 1) := zdg eX10_stone_ok 9 rfl
theorem dX10_stone_17E : decode cX10_stone 17 = .ok (.aload_n 0, 1) := zdg eX10_stone_ok 10 rfl
theorem dX10_stone_18E : decode cX10_stone 18 = .ok (.getfield 10, 3) := zdg eX10_stone_ok 11 rfl
theorem dX10_stone_21E : decode cX10_stone 21 = .ok (.getfield 99, 3) := zdg eX10_stone_ok 12 rfl
theorem dX10_stone_24E : decode cX10_stone 24 = .ok (.iload_n 1, 1) := zdg eX10_stone_ok 13 rfl
theorem dX10_stone_25E : decode cX10_stone 25 = .ok (.invokevirtual 122, 3) := zdg eX10_stone_ok 14 rfl
theorem dX10_stone_28E : decode cX10_stone 28 = .ok (.ifCond .ne 10, 3) := zdg eX10_stone_ok 15 rfl
theorem dX10_stone_31E : decode cX10_stone 31 = .ok (.aload_n 0, 1) := zdg eX10_stone_ok 16 rfl
theorem dX10_stone_32E : decode cX10_stone 32 = .ok (.bipush (-2), 2) := zdg eX10_stone_ok 17 rfl
theorem dX10_stone_34E : decode cX10_stone 34 = .ok (.invokevirtual 109, 3) := zdg eX10_stone_ok 18 rfl
theorem dX10_stone_37E : decode cX10_stone 37 = .ok (.ireturn, 1) := zdg eX10_stone_ok 19 rfl
theorem dX10_stone_38E : decode cX10_stone 38 = .ok (.aload_n 0, 1) := zdg eX10_stone_ok 20 rfl
theorem dX10_stone_39E : decode cX10_stone 39 = .ok (.getfield 10, 3) := zdg eX10_stone_ok 21 rfl
theorem dX10_stone_42E : decode cX10_stone 42 = .ok (.getfield 99, 3) := zdg eX10_stone_ok 22 rfl
theorem dX10_stone_45E : decode cX10_stone 45 = .ok (.iload_n 1, 1) := zdg eX10_stone_ok 23 rfl
theorem dX10_stone_46E : decode cX10_stone 46 = .ok (.iload_n 2, 1) := zdg eX10_stone_ok 24 rfl
theorem dX10_stone_47E : decode cX10_stone 47 = .ok (.invokevirtual 126, 3) := zdg eX10_stone_ok 25 rfl
theorem dX10_stone_50E : decode cX10_stone 50 = .ok (.ifCond .ne 10, 3) := zdg eX10_stone_ok 26 rfl
theorem dX10_stone_53E : decode cX10_stone 53 = .ok (.aload_n 0, 1) := zdg eX10_stone_ok 27 rfl
theorem dX10_stone_54E : decode cX10_stone 54 = .ok (.bipush (-5), 2) := zdg eX10_stone_ok 28 rfl
theorem dX10_stone_56E : decode cX10_stone 56 = .ok (.invokevirtual 109, 3) := zdg eX10_stone_ok 29 rfl
theorem dX10_stone_59E : decode cX10_stone 59 = .ok (.ireturn, 1) := zdg eX10_stone_ok 30 rfl
theorem dX10_stone_60E : decode cX10_stone 60 = .ok (.aload_n 0, 1) := zdg eX10_stone_ok 31 rfl
theorem dX10_stone_61E : decode cX10_stone 61 = .ok (.aload_n 0, 1) := zdg eX10_stone_ok 32 rfl
theorem dX10_stone_62E : decode cX10_stone 62 = .ok (.getfield 10, 3) := zdg eX10_stone_ok 33 rfl
theorem dX10_stone_65E : decode cX10_stone 65 = .ok (.getfield 99, 3) := zdg eX10_stone_ok 34 rfl
theorem dX10_stone_68E : decode cX10_stone 68 = .ok (.iload_n 1, 1) := zdg eX10_stone_ok 35 rfl
theorem dX10_stone_69E : decode cX10_stone 69 = .ok (.invokevirtual 130, 3) := zdg eX10_stone_ok 36 rfl
theorem dX10_stone_72E : decode cX10_stone 72 = .ok (.invokevirtual 119, 3) := zdg eX10_stone_ok 37 rfl
theorem dX10_stone_75E : decode cX10_stone 75 = .ok (.ireturn, 1) := zdg eX10_stone_ok 38 rfl
def eX1_top : List (Nat × Instr × Nat) := [(0, .aload_n 0, 1), (1, .iload_n 1, 1), (2, .invokevirtual 26, 3), (5, .istore_n 2, 1), (6, .iload_n 2, 1), (7, .ifCond .le 19, 3), (10, .aload_n 0, 1), (11, .getfield 19, 3), (14, .iload_n 1, 1), (15, .bipush 10, 2), (17, .imul, 1), (18, .iload_n 2, 1), (19, .iadd, 1), (20, .iconst 1, 1), (21, .isub, 1), (22, .iaload, 1), (23, .goto 4, 3), (26, .iconst 0, 1), (27, .ireturn, 1)]
theorem eX1_top_ok : eX1_top.all (fun q => decide (decode cX1_top q.1 = .ok (q.2.1, q.2.2))) = true := by decide +kernel
theorem dX1_top_0E : decode cX1_top 0 = .ok (.aload_n 0, 1) := zdg eX1_top_ok 0 rfl
theorem dX1_top_1E : decode cX1_top 1 = .ok (.iload_n 1, 1) := zdg eX1_top_ok 1 rfl
theorem dX1_top_2E : decode cX1_top 2 = .ok (.invokevirtual 26, 3) := zdg eX1_top_ok 2 rfl
theorem dX1_top_5E : decode cX1_top 5 = .ok (.istore_n 2, 1) := zdg eX1_top_ok 3 rfl
theorem dX1_top_6E : decode cX1_top 6 = .ok (.iload_n 2, 1) := zdg eX1_top_ok 4 rfl
theorem dX1_top_7E : decode cX1_top 7 = .ok (.ifCond .le 19, 3) := zdg eX1_top_ok 5 rfl
theorem dX1_top_10E : decode cX1_top 10 = .ok (.aload_n 0, 1) := zdg eX1_top_ok 6 rfl
theorem dX1_top_11E : decode cX1_top 11 = .ok (.getfield 19, 3) := zdg eX1_top_ok 7 rfl
theorem dX1_top_14E : decode cX1_top 14 = .ok (.iload_n 1, 1) := zdg eX1_top_ok 8 rfl
theorem dX1_top_15E : decode cX1_top 15 = .ok (.bipush 10, 2) := zdg eX1_top_ok 9 rfl
theorem dX1_top_17E : decode cX1_top 17 = .ok (.imul, 1) := zdg eX1_top_ok 10 rfl
theorem dX1_top_18E : decode cX1_top 18 = .ok (.iload_n 2, 1) := zdg eX1_top_ok 11 rfl
theorem dX1_top_19E : decode cX1_top 19 = .ok (.iadd, 1) := zdg eX1_top_ok 12 rfl
theorem dX1_top_20E : decode cX1_top 20 = .ok (.iconst 1, 1) := zdg eX1_top_ok 13 rfl
theorem dX1_top_21E : decode cX1_top 21 = .ok (.isub, 1) := zdg eX1_top_ok 14 rfl
theorem dX1_top_22E : decode cX1_top 22 = .ok (.iaload, 1) := zdg eX1_top_ok 15 rfl
theorem dX1_top_23E : decode cX1_top 23 = .ok (.goto 4, 3) := zdg eX1_top_ok 16 rfl
theorem dX1_top_26E : decode cX1_top 26 = .ok (.iconst 0, 1) := zdg eX1_top_ok 17 rfl
theorem dX1_top_27E : decode cX1_top 27 = .ok (.ireturn, 1) := zdg eX1_top_ok 18 rfl
def eX1_take : List (Nat × Instr × Nat) := [(0, .aload_n 0, 1), (1, .iload_n 1, 1), (2, .invokevirtual 34, 3), (5, .istore_n 2, 1), (6, .aload_n 0, 1), (7, .iload_n 1, 1), (8, .invokevirtual 26, 3), (11, .ifCond .le 13, 3), (14, .aload_n 0, 1), (15, .getfield 15, 3), (18, .iload_n 1, 1), (19, .dup2, 1), (20, .iaload, 1), (21, .iconst 1, 1), (22, .isub, 1), (23, .iastore, 1), (24, .iload_n 2, 1), (25, .ireturn, 1)]
theorem eX1_take_ok : eX1_take.all (fun q => decide (decode cX1_take q.1 = .ok (q.2.1, q.2.2))) = true := by decide +kernel
theorem dX1_take_0E : decode cX1_take 0 = .ok (.aload_n 0, 1) := zdg eX1_take_ok 0 rfl
theorem dX1_take_1E : decode cX1_take 1 = .ok (.iload_n 1, 1) := zdg eX1_take_ok 1 rfl
theorem dX1_take_2E : decode cX1_take 2 = .ok (.invokevirtual 34, 3) := zdg eX1_take_ok 2 rfl
theorem dX1_take_5E : decode cX1_take 5 = .ok (.istore_n 2, 1) := zdg eX1_take_ok 3 rfl
theorem dX1_take_6E : decode cX1_take 6 = .ok (.aload_n 0, 1) := zdg eX1_take_ok 4 rfl
theorem dX1_take_7E : decode cX1_take 7 = .ok (.iload_n 1, 1) := zdg eX1_take_ok 5 rfl
theorem dX1_take_8E : decode cX1_take 8 = .ok (.invokevirtual 26, 3) := zdg eX1_take_ok 6 rfl
theorem dX1_take_11E : decode cX1_take 11 = .ok (.ifCond .le 13, 3) := zdg eX1_take_ok 7 rfl
theorem dX1_take_14E : decode cX1_take 14 = .ok (.aload_n 0, 1) := zdg eX1_take_ok 8 rfl
theorem dX1_take_15E : decode cX1_take 15 = .ok (.getfield 15, 3) := zdg eX1_take_ok 9 rfl
theorem dX1_take_18E : decode cX1_take 18 = .ok (.iload_n 1, 1) := zdg eX1_take_ok 10 rfl
theorem dX1_take_19E : decode cX1_take 19 = .ok (.dup2, 1) := zdg eX1_take_ok 11 rfl
theorem dX1_take_20E : decode cX1_take 20 = .ok (.iaload, 1) := zdg eX1_take_ok 12 rfl
theorem dX1_take_21E : decode cX1_take 21 = .ok (.iconst 1, 1) := zdg eX1_take_ok 13 rfl
theorem dX1_take_22E : decode cX1_take 22 = .ok (.isub, 1) := zdg eX1_take_ok 14 rfl
theorem dX1_take_23E : decode cX1_take 23 = .ok (.iastore, 1) := zdg eX1_take_ok 15 rfl
theorem dX1_take_24E : decode cX1_take 24 = .ok (.iload_n 2, 1) := zdg eX1_take_ok 16 rfl
theorem dX1_take_25E : decode cX1_take 25 = .ok (.ireturn, 1) := zdg eX1_take_ok 17 rfl
def eX10_lift : List (Nat × Instr × Nat) := [(0, .aload_n 0, 1), (1, .getfield 10, 3), (4, .getfield 99, 3), (7, .iload_n 1, 1), (8, .invokevirtual 122, 3), (11, .ifCond .ne 10, 3), (14, .aload_n 0, 1), (15, .bipush (-2), 2), (17, .invokevirtual 109, 3), (20, .ireturn, 1), (21, .aload_n 0, 1), (22, .getfield 10, 3), (25, .getfield 99, 3), (28, .iload_n 1, 1), (29, .invokevirtual 130, 3), (32, .ifCond .ne 10, 3), (35, .aload_n 0, 1), (36, .bipush (-3), 2), (38, .invokevirtual 109, 3), (41, .ireturn, 1), (42, .aload_n 0, 1), (43, .aload_n 0, 1), (44, .getfield 10, 3), (47, .getfield 99, 3), (50, .iload_n 1, 1), (51, .invokevirtual 133, 3), (54, .invokevirtual 119, 3), (57, .ireturn, 1)]
theorem eX10_lift_ok : eX10_lift.all (fun q => decide (decode cX10_lift q.1 = .ok (q.2.1, q.2.2))) = true := by decide +kernel
theorem dX10_lift_0E : decode cX10_lift 0 = .ok (.aload_n 0, 1) := zdg eX10_lift_ok 0 rfl
theorem dX10_lift_1E : decode cX10_lift 1 = .ok (.getfield 10, 3) := zdg eX10_lift_ok 1 rfl
theorem dX10_lift_4E : decode cX10_lift 4 = .ok (.getfield 99, 3) := zdg eX10_lift_ok 2 rfl
theorem dX10_lift_7E : decode cX10_lift 7 = .ok (.iload_n 1, 1) := zdg eX10_lift_ok 3 rfl
theorem dX10_lift_8E : decode cX10_lift 8 = .ok (.invokevirtual 122, 3) := zdg eX10_lift_ok 4 rfl
theorem dX10_lift_11E : decode cX10_lift 11 = .ok (.ifCond .ne 10, 3) := zdg eX10_lift_ok 5 rfl
theorem dX10_lift_14E : decode cX10_lift 14 = .ok (.aload_n 0, 1) := zdg eX10_lift_ok 6 rfl
theorem dX10_lift_15E : decode cX10_lift 15 = .ok (.bipush (-2), 2) := zdg eX10_lift_ok 7 rfl
theorem dX10_lift_17E : decode cX10_lift 17 = .ok (.invokevirtual 109, 3) := zdg eX10_lift_ok 8 rfl
theorem dX10_lift_20E : decode cX10_lift 20 = .ok (.ireturn, 1) := zdg eX10_lift_ok 9 rfl
theorem dX10_lift_21E : decode cX10_lift 21 = .ok (.aload_n 0, 1) := zdg eX10_lift_ok 10 rfl
theorem dX10_lift_22E : decode cX10_lift 22 = .ok (.getfield 10, 3) := zdg eX10_lift_ok 11 rfl
theorem dX10_lift_25E : decode cX10_lift 25 = .ok (.getfield 99, 3) := zdg eX10_lift_ok 12 rfl
theorem dX10_lift_28E : decode cX10_lift 28 = .ok (.iload_n 1, 1) := zdg eX10_lift_ok 13 rfl
theorem dX10_lift_29E : decode cX10_lift 29 = .ok (.invokevirtual 130, 3) := zdg eX10_lift_ok 14 rfl
theorem dX10_lift_32E : decode cX10_lift 32 = .ok (.ifCond .ne 10, 3) := zdg eX10_lift_ok 15 rfl
theorem dX10_lift_35E : decode cX10_lift 35 = .ok (.aload_n 0, 1) := zdg eX10_lift_ok 16 rfl
theorem dX10_lift_36E : decode cX10_lift 36 = .ok (.bipush (-3), 2) := zdg eX10_lift_ok 17 rfl
theorem dX10_lift_38E : decode cX10_lift 38 = .ok (.invokevirtual 109, 3) := zdg eX10_lift_ok 18 rfl
theorem dX10_lift_41E : decode cX10_lift 41 = .ok (.ireturn, 1) := zdg eX10_lift_ok 19 rfl
theorem dX10_lift_42E : decode cX10_lift 42 = .ok (.aload_n 0, 1) := zdg eX10_lift_ok 20 rfl
theorem dX10_lift_43E : decode cX10_lift 43 = .ok (.aload_n 0, 1) := zdg eX10_lift_ok 21 rfl
theorem dX10_lift_44E : decode cX10_lift 44 = .ok (.getfield 10, 3) := zdg eX10_lift_ok 22 rfl
theorem dX10_lift_47E : decode cX10_lift 47 = .ok (.getfield 99, 3) := zdg eX10_lift_ok 23 rfl
theorem dX10_lift_50E : decode cX10_lift 50 = .ok (.iload_n 1, 1) := zdg eX10_lift_ok 24 rfl
theorem dX10_lift_51E : decode cX10_lift 51 = .ok (.invokevirtual 133, 3) := zdg eX10_lift_ok 25 rfl
theorem dX10_lift_54E : decode cX10_lift 54 = .ok (.invokevirtual 119, 3) := zdg eX10_lift_ok 26 rfl
theorem dX10_lift_57E : decode cX10_lift 57 = .ok (.ireturn, 1) := zdg eX10_lift_ok 27 rfl
def eX1_heft : List (Nat × Instr × Nat) := [(0, .iload_n 2, 1), (1, .ifCond .lt 26, 3), (4, .iload_n 2, 1), (5, .aload_n 0, 1), (6, .iload_n 1, 1), (7, .invokevirtual 26, 3), (10, .if_icmp .ge 17, 3), (13, .aload_n 0, 1), (14, .getfield 19, 3), (17, .iload_n 1, 1), (18, .bipush 10, 2), (20, .imul, 1), (21, .iload_n 2, 1), (22, .iadd, 1), (23, .iaload, 1), (24, .goto 4, 3), (27, .iconst 0, 1), (28, .ireturn, 1)]
theorem eX1_heft_ok : eX1_heft.all (fun q => decide (decode cX1_heft q.1 = .ok (q.2.1, q.2.2))) = true := by decide +kernel
theorem dX1_heft_0E : decode cX1_heft 0 = .ok (.iload_n 2, 1) := zdg eX1_heft_ok 0 rfl
theorem dX1_heft_1E : decode cX1_heft 1 = .ok (.ifCond .lt 26, 3) := zdg eX1_heft_ok 1 rfl
theorem dX1_heft_4E : decode cX1_heft 4 = .ok (.iload_n 2, 1) := zdg eX1_heft_ok 2 rfl
theorem dX1_heft_5E : decode cX1_heft 5 = .ok (.aload_n 0, 1) := zdg eX1_heft_ok 3 rfl
theorem dX1_heft_6E : decode cX1_heft 6 = .ok (.iload_n 1, 1) := zdg eX1_heft_ok 4 rfl
theorem dX1_heft_7E : decode cX1_heft 7 = .ok (.invokevirtual 26, 3) := zdg eX1_heft_ok 5 rfl
theorem dX1_heft_10E : decode cX1_heft 10 = .ok (.if_icmp .ge 17, 3) := zdg eX1_heft_ok 6 rfl
theorem dX1_heft_13E : decode cX1_heft 13 = .ok (.aload_n 0, 1) := zdg eX1_heft_ok 7 rfl
theorem dX1_heft_14E : decode cX1_heft 14 = .ok (.getfield 19, 3) := zdg eX1_heft_ok 8 rfl
theorem dX1_heft_17E : decode cX1_heft 17 = .ok (.iload_n 1, 1) := zdg eX1_heft_ok 9 rfl
theorem dX1_heft_18E : decode cX1_heft 18 = .ok (.bipush 10, 2) := zdg eX1_heft_ok 10 rfl
theorem dX1_heft_20E : decode cX1_heft 20 = .ok (.imul, 1) := zdg eX1_heft_ok 11 rfl
theorem dX1_heft_21E : decode cX1_heft 21 = .ok (.iload_n 2, 1) := zdg eX1_heft_ok 12 rfl
theorem dX1_heft_22E : decode cX1_heft 22 = .ok (.iadd, 1) := zdg eX1_heft_ok 13 rfl
theorem dX1_heft_23E : decode cX1_heft 23 = .ok (.iaload, 1) := zdg eX1_heft_ok 14 rfl
theorem dX1_heft_24E : decode cX1_heft 24 = .ok (.goto 4, 3) := zdg eX1_heft_ok 15 rfl
theorem dX1_heft_27E : decode cX1_heft 27 = .ok (.iconst 0, 1) := zdg eX1_heft_ok 16 rfl
theorem dX1_heft_28E : decode cX1_heft 28 = .ok (.ireturn, 1) := zdg eX1_heft_ok 17 rfl
def eX10_of : List (Nat × Instr × Nat) := [(0, .aload_n 0, 1), (1, .getfield 10, 3), (4, .getfield 99, 3), (7, .iload_n 1, 1), (8, .invokevirtual 122, 3), (11, .ifCond .ne 5, 3), (14, .iconst (-1), 1), (15, .ireturn, 1), (16, .iload_n 2, 1), (17, .iconst (-1), 1), (18, .if_icmp .ne 15, 3), (21, .aload_n 0, 1), (22, .getfield 10, 3), (25, .getfield 99, 3), (28, .iload_n 1, 1), (29, .invokevirtual 130, 3), (32, .ireturn, 1), (33, .iload_n 2, 1), (34, .ifCond .lt 18, 3), (37, .iload_n 2, 1), (38, .aload_n 0, 1), (39, .getfield 10, 3), (42, .getfield 99, 3), (45, .iload_n 1, 1), (46, .invokevirtual 130, 3), (49, .if_icmp .lt 5, 3), (52, .iconst (-1), 1), (53, .ireturn, 1), (54, .aload_n 0, 1), (55, .getfield 10, 3), (58, .getfield 99, 3), (61, .iload_n 1, 1), (62, .iload_n 2, 1), (63, .invokevirtual 136, 3), (66, .ireturn, 1)]
theorem eX10_of_ok : eX10_of.all (fun q => decide (decode cX10_of q.1 = .ok (q.2.1, q.2.2))) = true := by decide +kernel
theorem dX10_of_0E : decode cX10_of 0 = .ok (.aload_n 0, 1) := zdg eX10_of_ok 0 rfl
theorem dX10_of_1E : decode cX10_of 1 = .ok (.getfield 10, 3) := zdg eX10_of_ok 1 rfl
theorem dX10_of_4E : decode cX10_of 4 = .ok (.getfield 99, 3) := zdg eX10_of_ok 2 rfl
theorem dX10_of_7E : decode cX10_of 7 = .ok (.iload_n 1, 1) := zdg eX10_of_ok 3 rfl
theorem dX10_of_8E : decode cX10_of 8 = .ok (.invokevirtual 122, 3) := zdg eX10_of_ok 4 rfl
theorem dX10_of_11E : decode cX10_of 11 = .ok (.ifCond .ne 5, 3) := zdg eX10_of_ok 5 rfl
theorem dX10_of_14E : decode cX10_of 14 = .ok (.iconst (-1), 1) := zdg eX10_of_ok 6 rfl
theorem dX10_of_15E : decode cX10_of 15 = .ok (.ireturn, 1) := zdg eX10_of_ok 7 rfl
theorem dX10_of_16E : decode cX10_of 16 = .ok (.iload_n 2, 1) := zdg eX10_of_ok 8 rfl
theorem dX10_of_17E : decode cX10_of 17 = .ok (.iconst (-1), 1) := zdg eX10_of_ok 9 rfl
theorem dX10_of_18E : decode cX10_of 18 = .ok (.if_icmp .ne 15, 3) := zdg eX10_of_ok 10 rfl
theorem dX10_of_21E : decode cX10_of 21 = .ok (.aload_n 0, 1) := zdg eX10_of_ok 11 rfl
theorem dX10_of_22E : decode cX10_of 22 = .ok (.getfield 10, 3) := zdg eX10_of_ok 12 rfl
theorem dX10_of_25E : decode cX10_of 25 = .ok (.getfield 99, 3) := zdg eX10_of_ok 13 rfl
theorem dX10_of_28E : decode cX10_of 28 = .ok (.iload_n 1, 1) := zdg eX10_of_ok 14 rfl
theorem dX10_of_29E : decode cX10_of 29 = .ok (.invokevirtual 130, 3) := zdg eX10_of_ok 15 rfl
theorem dX10_of_32E : decode cX10_of 32 = .ok (.ireturn, 1) := zdg eX10_of_ok 16 rfl
theorem dX10_of_33E : decode cX10_of 33 = .ok (.iload_n 2, 1) := zdg eX10_of_ok 17 rfl
theorem dX10_of_34E : decode cX10_of 34 = .ok (.ifCond .lt 18, 3) := zdg eX10_of_ok 18 rfl
theorem dX10_of_37E : decode cX10_of 37 = .ok (.iload_n 2, 1) := zdg eX10_of_ok 19 rfl
theorem dX10_of_38E : decode cX10_of 38 = .ok (.aload_n 0, 1) := zdg eX10_of_ok 20 rfl
theorem dX10_of_39E : decode cX10_of 39 = .ok (.getfield 10, 3) := zdg eX10_of_ok 21 rfl
theorem dX10_of_42E : decode cX10_of 42 = .ok (.getfield 99, 3) := zdg eX10_of_ok 22 rfl
theorem dX10_of_45E : decode cX10_of 45 = .ok (.iload_n 1, 1) := zdg eX10_of_ok 23 rfl
theorem dX10_of_46E : decode cX10_of 46 = .ok (.invokevirtual 130, 3) := zdg eX10_of_ok 24 rfl
theorem dX10_of_49E : decode cX10_of 49 = .ok (.if_icmp .lt 5, 3) := zdg eX10_of_ok 25 rfl
theorem dX10_of_52E : decode cX10_of 52 = .ok (.iconst (-1), 1) := zdg eX10_of_ok 26 rfl
theorem dX10_of_53E : decode cX10_of 53 = .ok (.ireturn, 1) := zdg eX10_of_ok 27 rfl
theorem dX10_of_54E : decode cX10_of 54 = .ok (.aload_n 0, 1) := zdg eX10_of_ok 28 rfl
theorem dX10_of_55E : decode cX10_of 55 = .ok (.getfield 10, 3) := zdg eX10_of_ok 29 rfl
theorem dX10_of_58E : decode cX10_of 58 = .ok (.getfield 99, 3) := zdg eX10_of_ok 30 rfl
theorem dX10_of_61E : decode cX10_of 61 = .ok (.iload_n 1, 1) := zdg eX10_of_ok 31 rfl
theorem dX10_of_62E : decode cX10_of 62 = .ok (.iload_n 2, 1) := zdg eX10_of_ok 32 rfl
theorem dX10_of_63E : decode cX10_of 63 = .ok (.invokevirtual 136, 3) := zdg eX10_of_ok 33 rfl
theorem dX10_of_66E : decode cX10_of 66 = .ok (.ireturn, 1) := zdg eX10_of_ok 34 rfl
def eX1_load : List (Nat × Instr × Nat) := [(0, .iconst 0, 1), (1, .istore_n 2, 1), (2, .iconst 0, 1), (3, .istore_n 3, 1), (4, .iload_n 3, 1), (5, .aload_n 0, 1), (6, .iload_n 1, 1), (7, .invokevirtual 26, 3), (10, .if_icmp .ge 18, 3), (13, .iload_n 2, 1), (14, .aload_n 0, 1), (15, .iload_n 1, 1), (16, .iload_n 3, 1), (17, .invokevirtual 30, 3), (20, .iadd, 1), (21, .istore_n 2, 1), (22, .iinc 3 1, 3), (25, .goto (-21), 3), (28, .iload_n 2, 1), (29, .ireturn, 1)]
theorem eX1_load_ok : eX1_load.all (fun q => decide (decode cX1_load q.1 = .ok (q.2.1, q.2.2))) = true := by decide +kernel
theorem dX1_load_0E : decode cX1_load 0 = .ok (.iconst 0, 1) := zdg eX1_load_ok 0 rfl
theorem dX1_load_1E : decode cX1_load 1 = .ok (.istore_n 2, 1) := zdg eX1_load_ok 1 rfl
theorem dX1_load_2E : decode cX1_load 2 = .ok (.iconst 0, 1) := zdg eX1_load_ok 2 rfl
theorem dX1_load_3E : decode cX1_load 3 = .ok (.istore_n 3, 1) := zdg eX1_load_ok 3 rfl
theorem dX1_load_4E : decode cX1_load 4 = .ok (.iload_n 3, 1) := zdg eX1_load_ok 4 rfl
theorem dX1_load_5E : decode cX1_load 5 = .ok (.aload_n 0, 1) := zdg eX1_load_ok 5 rfl
theorem dX1_load_6E : decode cX1_load 6 = .ok (.iload_n 1, 1) := zdg eX1_load_ok 6 rfl
theorem dX1_load_7E : decode cX1_load 7 = .ok (.invokevirtual 26, 3) := zdg eX1_load_ok 7 rfl
theorem dX1_load_10E : decode cX1_load 10 = .ok (.if_icmp .ge 18, 3) := zdg eX1_load_ok 8 rfl
theorem dX1_load_13E : decode cX1_load 13 = .ok (.iload_n 2, 1) := zdg eX1_load_ok 9 rfl
theorem dX1_load_14E : decode cX1_load 14 = .ok (.aload_n 0, 1) := zdg eX1_load_ok 10 rfl
theorem dX1_load_15E : decode cX1_load 15 = .ok (.iload_n 1, 1) := zdg eX1_load_ok 11 rfl
theorem dX1_load_16E : decode cX1_load 16 = .ok (.iload_n 3, 1) := zdg eX1_load_ok 12 rfl
theorem dX1_load_17E : decode cX1_load 17 = .ok (.invokevirtual 30, 3) := zdg eX1_load_ok 13 rfl
theorem dX1_load_20E : decode cX1_load 20 = .ok (.iadd, 1) := zdg eX1_load_ok 14 rfl
theorem dX1_load_21E : decode cX1_load 21 = .ok (.istore_n 2, 1) := zdg eX1_load_ok 15 rfl
theorem dX1_load_22E : decode cX1_load 22 = .ok (.iinc 3 1, 3) := zdg eX1_load_ok 16 rfl
theorem dX1_load_25E : decode cX1_load 25 = .ok (.goto (-21), 3) := zdg eX1_load_ok 17 rfl
theorem dX1_load_28E : decode cX1_load 28 = .ok (.iload_n 2, 1) := zdg eX1_load_ok 18 rfl
theorem dX1_load_29E : decode cX1_load 29 = .ok (.ireturn, 1) := zdg eX1_load_ok 19 rfl
def eX10_weight : List (Nat × Instr × Nat) := [(0, .aload_n 0, 1), (1, .getfield 10, 3), (4, .getfield 99, 3), (7, .iload_n 1, 1), (8, .invokevirtual 122, 3), (11, .ifCond .eq 17, 3), (14, .aload_n 0, 1), (15, .getfield 10, 3), (18, .getfield 99, 3), (21, .iload_n 1, 1), (22, .invokevirtual 140, 3), (25, .goto 4, 3), (28, .iconst (-1), 1), (29, .ireturn, 1)]
theorem eX10_weight_ok : eX10_weight.all (fun q => decide (decode cX10_weight q.1 = .ok (q.2.1, q.2.2))) = true := by decide +kernel
theorem dX10_weight_0E : decode cX10_weight 0 = .ok (.aload_n 0, 1) := zdg eX10_weight_ok 0 rfl
theorem dX10_weight_1E : decode cX10_weight 1 = .ok (.getfield 10, 3) := zdg eX10_weight_ok 1 rfl
theorem dX10_weight_4E : decode cX10_weight 4 = .ok (.getfield 99, 3) := zdg eX10_weight_ok 2 rfl
theorem dX10_weight_7E : decode cX10_weight 7 = .ok (.iload_n 1, 1) := zdg eX10_weight_ok 3 rfl
theorem dX10_weight_8E : decode cX10_weight 8 = .ok (.invokevirtual 122, 3) := zdg eX10_weight_ok 4 rfl
theorem dX10_weight_11E : decode cX10_weight 11 = .ok (.ifCond .eq 17, 3) := zdg eX10_weight_ok 5 rfl
theorem dX10_weight_14E : decode cX10_weight 14 = .ok (.aload_n 0, 1) := zdg eX10_weight_ok 6 rfl
theorem dX10_weight_15E : decode cX10_weight 15 = .ok (.getfield 10, 3) := zdg eX10_weight_ok 7 rfl
theorem dX10_weight_18E : decode cX10_weight 18 = .ok (.getfield 99, 3) := zdg eX10_weight_ok 8 rfl
theorem dX10_weight_21E : decode cX10_weight 21 = .ok (.iload_n 1, 1) := zdg eX10_weight_ok 9 rfl
theorem dX10_weight_22E : decode cX10_weight 22 = .ok (.invokevirtual 140, 3) := zdg eX10_weight_ok 10 rfl
theorem dX10_weight_25E : decode cX10_weight 25 = .ok (.goto 4, 3) := zdg eX10_weight_ok 11 rfl
theorem dX10_weight_28E : decode cX10_weight 28 = .ok (.iconst (-1), 1) := zdg eX10_weight_ok 12 rfl
theorem dX10_weight_29E : decode cX10_weight 29 = .ok (.ireturn, 1) := zdg eX10_weight_ok 13 rfl
def eX2_enroll : List (Nat × Instr × Nat) := [(0, .aload_n 0, 1), (1, .getfield 18, 3), (4, .istore_n 2, 1), (5, .iload_n 2, 1), (6, .bipush 6, 2), (8, .if_icmp .lt 5, 3), (11, .iconst (-1), 1), (12, .ireturn, 1), (13, .aload_n 0, 1), (14, .getfield 22, 3), (17, .iload_n 2, 1), (18, .iload_n 1, 1), (19, .iastore, 1), (20, .aload_n 0, 1), (21, .getfield 26, 3), (24, .iload_n 2, 1), (25, .iconst 0, 1), (26, .iastore, 1), (27, .aload_n 0, 1), (28, .getfield 29, 3), (31, .iload_n 2, 1), (32, .iconst 0, 1), (33, .iastore, 1), (34, .aload_n 0, 1), (35, .dup, 1), (36, .getfield 18, 3), (39, .iconst 1, 1), (40, .iadd, 1), (41, .putfield 18, 3), (44, .iload_n 2, 1), (45, .ireturn, 1)]
theorem eX2_enroll_ok : eX2_enroll.all (fun q => decide (decode cX2_enroll q.1 = .ok (q.2.1, q.2.2))) = true := by decide +kernel
theorem dX2_enroll_0E : decode cX2_enroll 0 = .ok (.aload_n 0, 1) := zdg eX2_enroll_ok 0 rfl
theorem dX2_enroll_1E : decode cX2_enroll 1 = .ok (.getfield 18, 3) := zdg eX2_enroll_ok 1 rfl
theorem dX2_enroll_4E : decode cX2_enroll 4 = .ok (.istore_n 2, 1) := zdg eX2_enroll_ok 2 rfl
theorem dX2_enroll_5E : decode cX2_enroll 5 = .ok (.iload_n 2, 1) := zdg eX2_enroll_ok 3 rfl
theorem dX2_enroll_6E : decode cX2_enroll 6 = .ok (.bipush 6, 2) := zdg eX2_enroll_ok 4 rfl
theorem dX2_enroll_8E : decode cX2_enroll 8 = .ok (.if_icmp .lt 5, 3) := zdg eX2_enroll_ok 5 rfl
theorem dX2_enroll_11E : decode cX2_enroll 11 = .ok (.iconst (-1), 1) := zdg eX2_enroll_ok 6 rfl
theorem dX2_enroll_12E : decode cX2_enroll 12 = .ok (.ireturn, 1) := zdg eX2_enroll_ok 7 rfl
theorem dX2_enroll_13E : decode cX2_enroll 13 = .ok (.aload_n 0, 1) := zdg eX2_enroll_ok 8 rfl
theorem dX2_enroll_14E : decode cX2_enroll 14 = .ok (.getfield 22, 3) := zdg eX2_enroll_ok 9 rfl
theorem dX2_enroll_17E : decode cX2_enroll 17 = .ok (.iload_n 2, 1) := zdg eX2_enroll_ok 10 rfl
theorem dX2_enroll_18E : decode cX2_enroll 18 = .ok (.iload_n 1, 1) := zdg eX2_enroll_ok 11 rfl
theorem dX2_enroll_19E : decode cX2_enroll 19 = .ok (.iastore, 1) := zdg eX2_enroll_ok 12 rfl
theorem dX2_enroll_20E : decode cX2_enroll 20 = .ok (.aload_n 0, 1) := zdg eX2_enroll_ok 13 rfl
theorem dX2_enroll_21E : decode cX2_enroll 21 = .ok (.getfield 26, 3) := zdg eX2_enroll_ok 14 rfl
theorem dX2_enroll_24E : decode cX2_enroll 24 = .ok (.iload_n 2, 1) := zdg eX2_enroll_ok 15 rfl
theorem dX2_enroll_25E : decode cX2_enroll 25 = .ok (.iconst 0, 1) := zdg eX2_enroll_ok 16 rfl
theorem dX2_enroll_26E : decode cX2_enroll 26 = .ok (.iastore, 1) := zdg eX2_enroll_ok 17 rfl
theorem dX2_enroll_27E : decode cX2_enroll 27 = .ok (.aload_n 0, 1) := zdg eX2_enroll_ok 18 rfl
theorem dX2_enroll_28E : decode cX2_enroll 28 = .ok (.getfield 29, 3) := zdg eX2_enroll_ok 19 rfl
theorem dX2_enroll_31E : decode cX2_enroll 31 = .ok (.iload_n 2, 1) := zdg eX2_enroll_ok 20 rfl
theorem dX2_enroll_32E : decode cX2_enroll 32 = .ok (.iconst 0, 1) := zdg eX2_enroll_ok 21 rfl
theorem dX2_enroll_33E : decode cX2_enroll 33 = .ok (.iastore, 1) := zdg eX2_enroll_ok 22 rfl
theorem dX2_enroll_34E : decode cX2_enroll 34 = .ok (.aload_n 0, 1) := zdg eX2_enroll_ok 23 rfl
theorem dX2_enroll_35E : decode cX2_enroll 35 = .ok (.dup, 1) := zdg eX2_enroll_ok 24 rfl
theorem dX2_enroll_36E : decode cX2_enroll 36 = .ok (.getfield 18, 3) := zdg eX2_enroll_ok 25 rfl
theorem dX2_enroll_39E : decode cX2_enroll 39 = .ok (.iconst 1, 1) := zdg eX2_enroll_ok 26 rfl
theorem dX2_enroll_40E : decode cX2_enroll 40 = .ok (.iadd, 1) := zdg eX2_enroll_ok 27 rfl
theorem dX2_enroll_41E : decode cX2_enroll 41 = .ok (.putfield 18, 3) := zdg eX2_enroll_ok 28 rfl
theorem dX2_enroll_44E : decode cX2_enroll 44 = .ok (.iload_n 2, 1) := zdg eX2_enroll_ok 29 rfl
theorem dX2_enroll_45E : decode cX2_enroll 45 = .ok (.ireturn, 1) := zdg eX2_enroll_ok 30 rfl
def eX10_child : List (Nat × Instr × Nat) := [(0, .iload_n 1, 1), (1, .iconst 1, 1), (2, .if_icmp .lt 9, 3), (5, .iload_n 1, 1), (6, .bipush 60, 2), (8, .if_icmp .le 9, 3), (11, .aload_n 0, 1), (12, .iconst (-1), 1), (13, .invokevirtual 109, 3), (16, .ireturn, 1), (17, .aload_n 0, 1), (18, .getfield 10, 3), (21, .getfield 143, 3), (24, .bipush 6, 2), (26, .if_icmp .lt 10, 3), (29, .aload_n 0, 1), (30, .bipush (-5), 2), (32, .invokevirtual 109, 3), (35, .ireturn, 1), (36, .aload_n 0, 1), (37, .aload_n 0, 1), (38, .getfield 10, 3), (41, .iload_n 1, 1), (42, .invokevirtual 146, 3), (45, .invokevirtual 119, 3), (48, .ireturn, 1)]
theorem eX10_child_ok : eX10_child.all (fun q => decide (decode cX10_child q.1 = .ok (q.2.1, q.2.2))) = true := by decide +kernel
theorem dX10_child_0E : decode cX10_child 0 = .ok (.iload_n 1, 1) := zdg eX10_child_ok 0 rfl
theorem dX10_child_1E : decode cX10_child 1 = .ok (.iconst 1, 1) := zdg eX10_child_ok 1 rfl
theorem dX10_child_2E : decode cX10_child 2 = .ok (.if_icmp .lt 9, 3) := zdg eX10_child_ok 2 rfl
theorem dX10_child_5E : decode cX10_child 5 = .ok (.iload_n 1, 1) := zdg eX10_child_ok 3 rfl
theorem dX10_child_6E : decode cX10_child 6 = .ok (.bipush 60, 2) := zdg eX10_child_ok 4 rfl
theorem dX10_child_8E : decode cX10_child 8 = .ok (.if_icmp .le 9, 3) := zdg eX10_child_ok 5 rfl
theorem dX10_child_11E : decode cX10_child 11 = .ok (.aload_n 0, 1) := zdg eX10_child_ok 6 rfl
theorem dX10_child_12E : decode cX10_child 12 = .ok (.iconst (-1), 1) := zdg eX10_child_ok 7 rfl
theorem dX10_child_13E : decode cX10_child 13 = .ok (.invokevirtual 109, 3) := zdg eX10_child_ok 8 rfl
theorem dX10_child_16E : decode cX10_child 16 = .ok (.ireturn, 1) := zdg eX10_child_ok 9 rfl
theorem dX10_child_17E : decode cX10_child 17 = .ok (.aload_n 0, 1) := zdg eX10_child_ok 10 rfl
theorem dX10_child_18E : decode cX10_child 18 = .ok (.getfield 10, 3) := zdg eX10_child_ok 11 rfl
theorem dX10_child_21E : decode cX10_child 21 = .ok (.getfield 143, 3) := zdg eX10_child_ok 12 rfl
theorem dX10_child_24E : decode cX10_child 24 = .ok (.bipush 6, 2) := zdg eX10_child_ok 13 rfl
theorem dX10_child_26E : decode cX10_child 26 = .ok (.if_icmp .lt 10, 3) := zdg eX10_child_ok 14 rfl
theorem dX10_child_29E : decode cX10_child 29 = .ok (.aload_n 0, 1) := zdg eX10_child_ok 15 rfl
theorem dX10_child_30E : decode cX10_child 30 = .ok (.bipush (-5), 2) := zdg eX10_child_ok 16 rfl
theorem dX10_child_32E : decode cX10_child 32 = .ok (.invokevirtual 109, 3) := zdg eX10_child_ok 17 rfl
theorem dX10_child_35E : decode cX10_child 35 = .ok (.ireturn, 1) := zdg eX10_child_ok 18 rfl
theorem dX10_child_36E : decode cX10_child 36 = .ok (.aload_n 0, 1) := zdg eX10_child_ok 19 rfl
theorem dX10_child_37E : decode cX10_child 37 = .ok (.aload_n 0, 1) := zdg eX10_child_ok 20 rfl
theorem dX10_child_38E : decode cX10_child 38 = .ok (.getfield 10, 3) := zdg eX10_child_ok 21 rfl
theorem dX10_child_41E : decode cX10_child 41 = .ok (.iload_n 1, 1) := zdg eX10_child_ok 22 rfl
theorem dX10_child_42E : decode cX10_child 42 = .ok (.invokevirtual 146, 3) := zdg eX10_child_ok 23 rfl
theorem dX10_child_45E : decode cX10_child 45 = .ok (.invokevirtual 119, 3) := zdg eX10_child_ok 24 rfl
theorem dX10_child_48E : decode cX10_child 48 = .ok (.ireturn, 1) := zdg eX10_child_ok 25 rfl
def eX2_hasChild : List (Nat × Instr × Nat) := [(0, .iload_n 1, 1), (1, .ifCond .lt 15, 3), (4, .iload_n 1, 1), (5, .aload_n 0, 1), (6, .getfield 18, 3), (9, .if_icmp .ge 7, 3), (12, .iconst 1, 1), (13, .goto 4, 3), (16, .iconst 0, 1), (17, .ireturn, 1)]
theorem eX2_hasChild_ok : eX2_hasChild.all (fun q => decide (decode cX2_hasChild q.1 = .ok (q.2.1, q.2.2))) = true := by decide +kernel
theorem dX2_hasChild_0E : decode cX2_hasChild 0 = .ok (.iload_n 1, 1) := zdg eX2_hasChild_ok 0 rfl
theorem dX2_hasChild_1E : decode cX2_hasChild 1 = .ok (.ifCond .lt 15, 3) := zdg eX2_hasChild_ok 1 rfl
theorem dX2_hasChild_4E : decode cX2_hasChild 4 = .ok (.iload_n 1, 1) := zdg eX2_hasChild_ok 2 rfl
theorem dX2_hasChild_5E : decode cX2_hasChild 5 = .ok (.aload_n 0, 1) := zdg eX2_hasChild_ok 3 rfl
theorem dX2_hasChild_6E : decode cX2_hasChild 6 = .ok (.getfield 18, 3) := zdg eX2_hasChild_ok 4 rfl
theorem dX2_hasChild_9E : decode cX2_hasChild 9 = .ok (.if_icmp .ge 7, 3) := zdg eX2_hasChild_ok 5 rfl
theorem dX2_hasChild_12E : decode cX2_hasChild 12 = .ok (.iconst 1, 1) := zdg eX2_hasChild_ok 6 rfl
theorem dX2_hasChild_13E : decode cX2_hasChild 13 = .ok (.goto 4, 3) := zdg eX2_hasChild_ok 7 rfl
theorem dX2_hasChild_16E : decode cX2_hasChild 16 = .ok (.iconst 0, 1) := zdg eX2_hasChild_ok 8 rfl
theorem dX2_hasChild_17E : decode cX2_hasChild 17 = .ok (.ireturn, 1) := zdg eX2_hasChild_ok 9 rfl
def eX10_expel : List (Nat × Instr × Nat) := [(0, .iload_n 2, 1), (1, .ifCond .lt 8, 3), (4, .iload_n 2, 1), (5, .iconst 1, 1), (6, .if_icmp .le 9, 3), (9, .aload_n 0, 1), (10, .iconst (-1), 1), (11, .invokevirtual 109, 3), (14, .ireturn, 1), (15, .aload_n 0, 1), (16, .getfield 10, 3), (19, .iload_n 1, 1), (20, .invokevirtual 149, 3), (23, .ifCond .ne 10, 3), (26, .aload_n 0, 1), (27, .bipush (-2), 2), (29, .invokevirtual 109, 3), (32, .ireturn, 1), (33, .aload_n 0, 1), (34, .getfield 10, 3), (37, .getfield 152, 3), (40, .iload_n 1, 1), (41, .iaload, 1), (42, .istore_n 3, 1), (43, .aload_n 0, 1), (44, .getfield 10, 3), (47, .getfield 152, 3), (50, .iload_n 1, 1), (51, .iload_n 2, 1), (52, .iastore, 1), (53, .aload_n 0, 1), (54, .iload_n 3, 1), (55, .invokevirtual 119, 3), (58, .ireturn, 1)]
theorem eX10_expel_ok : eX10_expel.all (fun q => decide (decode cX10_expel q.1 = .ok (q.2.1, q.2.2))) = true := by decide +kernel
theorem dX10_expel_0E : decode cX10_expel 0 = .ok (.iload_n 2, 1) := zdg eX10_expel_ok 0 rfl
theorem dX10_expel_1E : decode cX10_expel 1 = .ok (.ifCond .lt 8, 3) := zdg eX10_expel_ok 1 rfl
theorem dX10_expel_4E : decode cX10_expel 4 = .ok (.iload_n 2, 1) := zdg eX10_expel_ok 2 rfl
theorem dX10_expel_5E : decode cX10_expel 5 = .ok (.iconst 1, 1) := zdg eX10_expel_ok 3 rfl
theorem dX10_expel_6E : decode cX10_expel 6 = .ok (.if_icmp .le 9, 3) := zdg eX10_expel_ok 4 rfl
theorem dX10_expel_9E : decode cX10_expel 9 = .ok (.aload_n 0, 1) := zdg eX10_expel_ok 5 rfl
theorem dX10_expel_10E : decode cX10_expel 10 = .ok (.iconst (-1), 1) := zdg eX10_expel_ok 6 rfl
theorem dX10_expel_11E : decode cX10_expel 11 = .ok (.invokevirtual 109, 3) := zdg eX10_expel_ok 7 rfl
theorem dX10_expel_14E : decode cX10_expel 14 = .ok (.ireturn, 1) := zdg eX10_expel_ok 8 rfl
theorem dX10_expel_15E : decode cX10_expel 15 = .ok (.aload_n 0, 1) := zdg eX10_expel_ok 9 rfl
theorem dX10_expel_16E : decode cX10_expel 16 = .ok (.getfield 10, 3) := zdg eX10_expel_ok 10 rfl
theorem dX10_expel_19E : decode cX10_expel 19 = .ok (.iload_n 1, 1) := zdg eX10_expel_ok 11 rfl
theorem dX10_expel_20E : decode cX10_expel 20 = .ok (.invokevirtual 149, 3) := zdg eX10_expel_ok 12 rfl
theorem dX10_expel_23E : decode cX10_expel 23 = .ok (.ifCond .ne 10, 3) := zdg eX10_expel_ok 13 rfl
theorem dX10_expel_26E : decode cX10_expel 26 = .ok (.aload_n 0, 1) := zdg eX10_expel_ok 14 rfl
theorem dX10_expel_27E : decode cX10_expel 27 = .ok (.bipush (-2), 2) := zdg eX10_expel_ok 15 rfl
theorem dX10_expel_29E : decode cX10_expel 29 = .ok (.invokevirtual 109, 3) := zdg eX10_expel_ok 16 rfl
theorem dX10_expel_32E : decode cX10_expel 32 = .ok (.ireturn, 1) := zdg eX10_expel_ok 17 rfl
theorem dX10_expel_33E : decode cX10_expel 33 = .ok (.aload_n 0, 1) := zdg eX10_expel_ok 18 rfl
theorem dX10_expel_34E : decode cX10_expel 34 = .ok (.getfield 10, 3) := zdg eX10_expel_ok 19 rfl
theorem dX10_expel_37E : decode cX10_expel 37 = .ok (.getfield 152, 3) := zdg eX10_expel_ok 20 rfl
theorem dX10_expel_40E : decode cX10_expel 40 = .ok (.iload_n 1, 1) := zdg eX10_expel_ok 21 rfl
theorem dX10_expel_41E : decode cX10_expel 41 = .ok (.iaload, 1) := zdg eX10_expel_ok 22 rfl
theorem dX10_expel_42E : decode cX10_expel 42 = .ok (.istore_n 3, 1) := zdg eX10_expel_ok 23 rfl
theorem dX10_expel_43E : decode cX10_expel 43 = .ok (.aload_n 0, 1) := zdg eX10_expel_ok 24 rfl
theorem dX10_expel_44E : decode cX10_expel 44 = .ok (.getfield 10, 3) := zdg eX10_expel_ok 25 rfl
theorem dX10_expel_47E : decode cX10_expel 47 = .ok (.getfield 152, 3) := zdg eX10_expel_ok 26 rfl
theorem dX10_expel_50E : decode cX10_expel 50 = .ok (.iload_n 1, 1) := zdg eX10_expel_ok 27 rfl
theorem dX10_expel_51E : decode cX10_expel 51 = .ok (.iload_n 2, 1) := zdg eX10_expel_ok 28 rfl
theorem dX10_expel_52E : decode cX10_expel 52 = .ok (.iastore, 1) := zdg eX10_expel_ok 29 rfl
theorem dX10_expel_53E : decode cX10_expel 53 = .ok (.aload_n 0, 1) := zdg eX10_expel_ok 30 rfl
theorem dX10_expel_54E : decode cX10_expel 54 = .ok (.iload_n 3, 1) := zdg eX10_expel_ok 31 rfl
theorem dX10_expel_55E : decode cX10_expel 55 = .ok (.invokevirtual 119, 3) := zdg eX10_expel_ok 32 rfl
theorem dX10_expel_58E : decode cX10_expel 58 = .ok (.ireturn, 1) := zdg eX10_expel_ok 33 rfl
