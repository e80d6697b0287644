set_option maxHeartbeats 4000000 in
set_option maxRecDepth 10000 in
theorem z_26 {N : Int} {σ : Nat → Int} {τ : Nat → Nat → Int} (hX : XX3 σ τ) (hS : SIM2 σ τ) (hT : SIM3 σ τ) (a1 : Int) (a2 : Int) (a3 : Int) (b_a1 : (-2147483648) ≤ a1 ∧ a1 ≤ 2147483647) (b_a2 : (-2147483648) ≤ a2 ∧ a2 ≤ 2147483647) (b_a3 : (-2147483648) ≤ a3 ∧ a3 ≤ 2147483647) {o : Int × Int × Int × Int × Int × Int × Int × Int × Int × Int × Int × Int × Int × Int × Int × Int × Int × Int × Int × Int × Int × Int × Int × (Nat → Int) × (Nat → Int) × (Nat → Int) × (Nat → Int) × (Nat → Int) × (Nat → Int) × (Nat → Int) × (Nat → Int) × (Nat → Int) × (Nat → Int) × (Nat → Int) × (Nat → Int) × (Nat → Int) × (Nat → Int) × (Nat → Int) × (Nat → Int) × (Nat → Int) × (Nat → Int) × (Nat → Int) × (Nat → Int) × (Nat → Int) × (Nat → Int) × (Nat → Int) × (Nat → Int) × (Nat → Int) × (Nat → Int) × (Nat → Int) × (Nat → Int)} (h : f_OP_26 N a1 a2 a3 (σ 4) (σ 19) (σ 20) (σ 21) (σ 22) (σ 23) (σ 26) (σ 28) (σ 29) (σ 30) (σ 34) (σ 35) (σ 36) (σ 37) (σ 38) (σ 39) (σ 49) (σ 64) (σ 65) (σ 66) (σ 67) (σ 68) (σ 69) (σ 70) (σ 71) (σ 72) (τ 4) (τ 14) (τ 15) (τ 18) (τ 19) (τ 20) (τ 21) (τ 22) (τ 23) (τ 24) (τ 25) (τ 26) (τ 27) (τ 34) (τ 35) (τ 38) (τ 39) (τ 40) (τ 41) (τ 46) (τ 47) (τ 48) (τ 49) (τ 50) (τ 51) (τ 52) (τ 53) (τ 54) (τ 55) (τ 56) (τ 57) (τ 58) (τ 63) (τ 64) (τ 89) (τ 90) (τ 91) = some o) : (True) ∧ SIM3 (zst σ [(4, o.2.2.1), (19, o.2.2.2.1), (20, o.2.2.2.2.1), (21, o.2.2.2.2.2.1), (22, o.2.2.2.2.2.2.1), (23, o.2.2.2.2.2.2.2.1), (34, o.2.2.2.2.2.2.2.2.1), (35, o.2.2.2.2.2.2.2.2.2.1), (36, o.2.2.2.2.2.2.2.2.2.2.1), (37, o.2.2.2.2.2.2.2.2.2.2.2.1), (38, o.2.2.2.2.2.2.2.2.2.2.2.2.1), (39, o.2.2.2.2.2.2.2.2.2.2.2.2.2.1), (64, o.2.2.2.2.2.2.2.2.2.2.2.2.2.2.1), (65, o.2.2.2.2.2.2.2.2.2.2.2.2.2.2.2.1), (66, o.2.2.2.2.2.2.2.2.2.2.2.2.2.2.2.2.1), (67, o.2.2.2.2.2.2.2.2.2.2.2.2.2.2.2.2.2.1), (68, o.2.2.2.2.2.2.2.2.2.2.2.2.2.2.2.2.2.2.1), (69, o.2.2.2.2.2.2.2.2.2.2.2.2.2.2.2.2.2.2.2.1), (70, o.2.2.2.2.2.2.2.2.2.2.2.2.2.2.2.2.2.2.2.2.1), (71, o.2.2.2.2.2.2.2.2.2.2.2.2.2.2.2.2.2.2.2.2.2.1), (72, o.2.2.2.2.2.2.2.2.2.2.2.2.2.2.2.2.2.2.2.2.2.2.1)]) (zta τ [(14, o.2.2.2.2.2.2.2.2.2.2.2.2.2.2.2.2.2.2.2.2.2.2.2.1), (15, o.2.2.2.2.2.2.2.2.2.2.2.2.2.2.2.2.2.2.2.2.2.2.2.2.1), (18, o.2.2.2.2.2.2.2.2.2.2.2.2.2.2.2.2.2.2.2.2.2.2.2.2.2.1), (19, o.2.2.2.2.2.2.2.2.2.2.2.2.2.2.2.2.2.2.2.2.2.2.2.2.2.2.1), (20, o.2.2.2.2.2.2.2.2.2.2.2.2.2.2.2.2.2.2.2.2.2.2.2.2.2.2.2.1), (21, o.2.2.2.2.2.2.2.2.2.2.2.2.2.2.2.2.2.2.2.2.2.2.2.2.2.2.2.2.1), (22, o.2.2.2.2.2.2.2.2.2.2.2.2.2.2.2.2.2.2.2.2.2.2.2.2.2.2.2.2.2.1), (23, o.2.2.2.2.2.2.2.2.2.2.2.2.2.2.2.2.2.2.2.2.2.2.2.2.2.2.2.2.2.2.1), (24, o.2.2.2.2.2.2.2.2.2.2.2.2.2.2.2.2.2.2.2.2.2.2.2.2.2.2.2.2.2.2.2.1), (25, o.2.2.2.2.2.2.2.2.2.2.2.2.2.2.2.2.2.2.2.2.2.2.2.2.2.2.2.2.2.2.2.2.1), (26, o.2.2.2.2.2.2.2.2.2.2.2.2.2.2.2.2.2.2.2.2.2.2.2.2.2.2.2.2.2.2.2.2.2.1), (27, o.2.2.2.2.2.2.2.2.2.2.2.2.2.2.2.2.2.2.2.2.2.2.2.2.2.2.2.2.2.2.2.2.2.2.1), (46, o.2.2.2.2.2.2.2.2.2.2.2.2.2.2.2.2.2.2.2.2.2.2.2.2.2.2.2.2.2.2.2.2.2.2.2.1), (47, o.2.2.2.2.2.2.2.2.2.2.2.2.2.2.2.2.2.2.2.2.2.2.2.2.2.2.2.2.2.2.2.2.2.2.2.2.1), (48, o.2.2.2.2.2.2.2.2.2.2.2.2.2.2.2.2.2.2.2.2.2.2.2.2.2.2.2.2.2.2.2.2.2.2.2.2.2.1), (49, o.2.2.2.2.2.2.2.2.2.2.2.2.2.2.2.2.2.2.2.2.2.2.2.2.2.2.2.2.2.2.2.2.2.2.2.2.2.2.1), (50, o.2.2.2.2.2.2.2.2.2.2.2.2.2.2.2.2.2.2.2.2.2.2.2.2.2.2.2.2.2.2.2.2.2.2.2.2.2.2.2.1), (51, o.2.2.2.2.2.2.2.2.2.2.2.2.2.2.2.2.2.2.2.2.2.2.2.2.2.2.2.2.2.2.2.2.2.2.2.2.2.2.2.2.1), (52, o.2.2.2.2.2.2.2.2.2.2.2.2.2.2.2.2.2.2.2.2.2.2.2.2.2.2.2.2.2.2.2.2.2.2.2.2.2.2.2.2.2.1), (53, o.2.2.2.2.2.2.2.2.2.2.2.2.2.2.2.2.2.2.2.2.2.2.2.2.2.2.2.2.2.2.2.2.2.2.2.2.2.2.2.2.2.2.1), (54, o.2.2.2.2.2.2.2.2.2.2.2.2.2.2.2.2.2.2.2.2.2.2.2.2.2.2.2.2.2.2.2.2.2.2.2.2.2.2.2.2.2.2.2.1), (55, o.2.2.2.2.2.2.2.2.2.2.2.2.2.2.2.2.2.2.2.2.2.2.2.2.2.2.2.2.2.2.2.2.2.2.2.2.2.2.2.2.2.2.2.2.1), (56, o.2.2.2.2.2.2.2.2.2.2.2.2.2.2.2.2.2.2.2.2.2.2.2.2.2.2.2.2.2.2.2.2.2.2.2.2.2.2.2.2.2.2.2.2.2.1), (57, o.2.2.2.2.2.2.2.2.2.2.2.2.2.2.2.2.2.2.2.2.2.2.2.2.2.2.2.2.2.2.2.2.2.2.2.2.2.2.2.2.2.2.2.2.2.2.1), (58, o.2.2.2.2.2.2.2.2.2.2.2.2.2.2.2.2.2.2.2.2.2.2.2.2.2.2.2.2.2.2.2.2.2.2.2.2.2.2.2.2.2.2.2.2.2.2.2.1), (89, o.2.2.2.2.2.2.2.2.2.2.2.2.2.2.2.2.2.2.2.2.2.2.2.2.2.2.2.2.2.2.2.2.2.2.2.2.2.2.2.2.2.2.2.2.2.2.2.2.1), (90, o.2.2.2.2.2.2.2.2.2.2.2.2.2.2.2.2.2.2.2.2.2.2.2.2.2.2.2.2.2.2.2.2.2.2.2.2.2.2.2.2.2.2.2.2.2.2.2.2.2.1), (91, o.2.2.2.2.2.2.2.2.2.2.2.2.2.2.2.2.2.2.2.2.2.2.2.2.2.2.2.2.2.2.2.2.2.2.2.2.2.2.2.2.2.2.2.2.2.2.2.2.2.2)]) := by
  obtain ⟨x_RI, x_h16, x_h17, x_b0, x_e0, x_t1, x_m, x_em, x_ch, x_ech, x_pa, x_epa, x_la, x_fo, x_h63, x_h64, x_st, x_ex, x_pl, x_te, x_Rst, x_Rex, x_Rtr, x_Rpl, x_Rte, x_Rgo, x_im, x_k6, x_k0, x_kp, x_m0, x_m1, x_h85, x_h87, x_m61, x_h83⟩ := hX
  obtain ⟨S1, S2, S3, S4, S5, S6⟩ := hS
  obtain ⟨T1, T2, T3, T4, T5, T6, T7⟩ := hT
  unfold f_OP_26 at h
  obtain ⟨x_ans, n_s34, n_s35, n_s36, n_s37, n_s38, n_s39, n_t46, n_t47, n_t48, n_t49, n_t50, n_t51, n_t52, n_t53, n_t54, n_t55, n_t56, n_t57, n_t58, n_s64, n_s65, n_s66, n_s67, n_s68, n_s69, n_s70, n_s71, n_s72, n_t89, n_t90, n_t91, e1, h⟩ := xz_d32 h
  obtain ⟨y_ans, n_s4, n_s19, n_s20, n_s21, n_s22, n_s23, n_t14, n_t15, n_t18, n_t19, n_t20, n_t21, n_t22, n_t23, n_t24, n_t25, n_t26, n_t27, e2, h⟩ := xz_d19 h
  cases h
  exact ⟨trivial, T1, T2, T3, T4, T5, T6, T7⟩
set_option maxHeartbeats 4000000 in
set_option maxRecDepth 10000 in
theorem z_27 {N : Int} {σ : Nat → Int} {τ : Nat → Nat → Int} (hX : XX3 σ τ) (hS : SIM2 σ τ) (hT : SIM3 σ τ) (a1 : Int) (b_a1 : (-2147483648) ≤ a1 ∧ a1 ≤ 2147483647) {o : Int × Int × Int × Int × (Nat → Int) × (Nat → Int)} (h : f_OP_27 N a1 (σ 4) (σ 30) (σ 44) (σ 49) (τ 4) (τ 28) (τ 61) (τ 63) (τ 64) = some o) : (True) ∧ SIM3 (zst σ [(4, o.2.2.1), (44, o.2.2.2.1)]) (zta τ [(28, o.2.2.2.2.1), (61, o.2.2.2.2.2)]) := by
  obtain ⟨x_RI, x_h16, x_h17, x_b0, x_e0, x_t1, x_m, x_em, x_ch, x_ech, x_pa, x_epa, x_la, x_fo, x_h63, x_h64, x_st, x_ex, x_pl, x_te, x_Rst, x_Rex, x_Rtr, x_Rpl, x_Rte, x_Rgo, x_im, x_k6, x_k0, x_kp, x_m0, x_m1, x_h85, x_h87, x_m61, x_h83⟩ := hX
  obtain ⟨S1, S2, S3, S4, S5, S6⟩ := hS
  obtain ⟨T1, T2, T3, T4, T5, T6, T7⟩ := hT
  unfold f_OP_27 at h
  obtain ⟨x_ans, n_s44, n_t61, e1, h⟩ := xz_d3 h
  obtain ⟨y_ans, n_s4, n_t28, e2, h⟩ := xz_d3 h
  cases h
  exact ⟨trivial, T1, T2, T3, T4, T5, T6, T7⟩
set_option maxHeartbeats 4000000 in
set_option maxRecDepth 10000 in
theorem z_28 {N : Int} {σ : Nat → Int} {τ : Nat → Nat → Int} (hX : XX3 σ τ) (hS : SIM2 σ τ) (hT : SIM3 σ τ) (a1 : Int) (a2 : Int) (b_a1 : (-2147483648) ≤ a1 ∧ a1 ≤ 2147483647) (b_a2 : (-2147483648) ≤ a2 ∧ a2 ≤ 2147483647) {o : Int × Int × Int × Int × Int × Int × (Nat → Int) × (Nat → Int) × (Nat → Int) × (Nat → Int)} (h : f_OP_28 N a1 a2 (σ 3) (σ 4) (σ 5) (σ 26) (σ 27) (σ 30) (σ 49) (τ 2) (τ 3) (τ 4) (τ 34) (τ 35) (τ 36) (τ 37) (τ 38) (τ 39) = some o) : (True) ∧ SIM3 (zst σ [(3, o.2.2.1), (4, o.2.2.2.1), (5, o.2.2.2.2.1), (30, o.2.2.2.2.2.1)]) (zta τ [(2, o.2.2.2.2.2.2.1), (3, o.2.2.2.2.2.2.2.1), (4, o.2.2.2.2.2.2.2.2.1), (36, o.2.2.2.2.2.2.2.2.2)]) := by
  obtain ⟨x_RI, x_h16, x_h17, x_b0, x_e0, x_t1, x_m, x_em, x_ch, x_ech, x_pa, x_epa, x_la, x_fo, x_h63, x_h64, x_st, x_ex, x_pl, x_te, x_Rst, x_Rex, x_Rtr, x_Rpl, x_Rte, x_Rgo, x_im, x_k6, x_k0, x_kp, x_m0, x_m1, x_h85, x_h87, x_m61, x_h83⟩ := hX
  obtain ⟨S1, S2, S3, S4, S5, S6⟩ := hS
  obtain ⟨T1, T2, T3, T4, T5, T6, T7⟩ := hT
  unfold f_OP_28 at h
  obtain ⟨x_ans, n_s3, n_s30, n_t2, n_t36, e1, h⟩ := xz_d5 h
  obtain ⟨y_ans, n_s4, n_s5, n_t3, n_t4, e2, h⟩ := xz_d5 h
  have q := x_trips b_a1 b_a2 x_ch x_ech x_Rtr e1 e2
  have c := (HILL_f ⟨S4, T1⟩ x_m.2 x_h63 (fr_trips b_a1 (RI_1 x_RI) e2)).2
  cases h
  exact ⟨trivial, c, T2, T3, q.2.1, q.2.2 T5, T6, T7⟩
set_option maxHeartbeats 4000000 in
set_option maxRecDepth 10000 in
theorem z_29 {N : Int} {σ : Nat → Int} {τ : Nat → Nat → Int} (hX : XX3 σ τ) (hS : SIM2 σ τ) (hT : SIM3 σ τ) (a1 : Int) (a2 : Int) (a3 : Int) (b_a1 : (-2147483648) ≤ a1 ∧ a1 ≤ 2147483647) (b_a2 : (-2147483648) ≤ a2 ∧ a2 ≤ 2147483647) (b_a3 : (-2147483648) ≤ a3 ∧ a3 ≤ 2147483647) {o : Int × Int × Int × Int × Int × Int × Int × (Nat → Int) × (Nat → Int)} (h : f_OP_29 N a1 a2 a3 (σ 4) (σ 26) (σ 45) (σ 46) (σ 47) (σ 48) (τ 4) (τ 29) (τ 36) (τ 62) = some o) : (True) ∧ SIM3 (zst σ [(4, o.2.2.1), (45, o.2.2.2.1), (46, o.2.2.2.2.1), (47, o.2.2.2.2.2.1), (48, o.2.2.2.2.2.2.1)]) (zta τ [(29, o.2.2.2.2.2.2.2.1), (62, o.2.2.2.2.2.2.2.2)]) := by
  obtain ⟨x_RI, x_h16, x_h17, x_b0, x_e0, x_t1, x_m, x_em, x_ch, x_ech, x_pa, x_epa, x_la, x_fo, x_h63, x_h64, x_st, x_ex, x_pl, x_te, x_Rst, x_Rex, x_Rtr, x_Rpl, x_Rte, x_Rgo, x_im, x_k6, x_k0, x_kp, x_m0, x_m1, x_h85, x_h87, x_m61, x_h83⟩ := hX
  obtain ⟨S1, S2, S3, S4, S5, S6⟩ := hS
  obtain ⟨T1, T2, T3, T4, T5, T6, T7⟩ := hT
  unfold f_OP_29 at h
  obtain ⟨x_ans, n_s45, n_s46, n_s47, n_s48, n_t62, e1, h⟩ := xz_d6 h
  obtain ⟨y_ans, n_s4, n_t29, e2, h⟩ := xz_d3 h
  cases h
  exact ⟨trivial, T1, T2, T3, T4, T5, T6, T7⟩
set_option maxHeartbeats 4000000 in
set_option maxRecDepth 10000 in
theorem z_30 {N : Int} {σ : Nat → Int} {τ : Nat → Nat → Int} (hX : XX3 σ τ) (hS : SIM2 σ τ) (hT : SIM3 σ τ) (a1 : Int) (a2 : Int) (a3 : Int) (b_a1 : (-2147483648) ≤ a1 ∧ a1 ≤ 2147483647) (b_a2 : (-2147483648) ≤ a2 ∧ a2 ≤ 2147483647) (b_a3 : (-2147483648) ≤ a3 ∧ a3 ≤ 2147483647) {o : Int × Int × Int × Int × Int × Int × Int × Int × Int × Int × Int × Int × Int × Int × Int × (Nat → Int) × (Nat → Int) × (Nat → Int) × (Nat → Int) × (Nat → Int) × (Nat → Int) × (Nat → Int) × (Nat → Int) × (Nat → Int) × (Nat → Int) × (Nat → Int) × (Nat → Int) × (Nat → Int) × (Nat → Int)} (h : f_OP_30 N a1 a2 a3 (σ 4) (σ 19) (σ 20) (σ 21) (σ 22) (σ 26) (σ 27) (σ 28) (σ 29) (σ 30) (σ 34) (σ 35) (σ 36) (σ 40) (σ 41) (σ 42) (σ 43) (σ 49) (σ 60) (τ 4) (τ 14) (τ 15) (τ 16) (τ 17) (τ 30) (τ 31) (τ 32) (τ 34) (τ 35) (τ 37) (τ 38) (τ 40) (τ 41) (τ 46) (τ 47) (τ 48) (τ 59) (τ 60) (τ 63) (τ 64) (τ 81) (τ 82) = some o) : (True) ∧ SIM3 (zst σ [(4, o.2.2.1), (19, o.2.2.2.1), (20, o.2.2.2.2.1), (21, o.2.2.2.2.2.1), (22, o.2.2.2.2.2.2.1), (34, o.2.2.2.2.2.2.2.1), (35, o.2.2.2.2.2.2.2.2.1), (36, o.2.2.2.2.2.2.2.2.2.1), (40, o.2.2.2.2.2.2.2.2.2.2.1), (41, o.2.2.2.2.2.2.2.2.2.2.2.1), (42, o.2.2.2.2.2.2.2.2.2.2.2.2.1), (43, o.2.2.2.2.2.2.2.2.2.2.2.2.2.1), (60, o.2.2.2.2.2.2.2.2.2.2.2.2.2.2.1)]) (zta τ [(14, o.2.2.2.2.2.2.2.2.2.2.2.2.2.2.2.1), (15, o.2.2.2.2.2.2.2.2.2.2.2.2.2.2.2.2.1), (16, o.2.2.2.2.2.2.2.2.2.2.2.2.2.2.2.2.2.1), (17, o.2.2.2.2.2.2.2.2.2.2.2.2.2.2.2.2.2.2.1), (30, o.2.2.2.2.2.2.2.2.2.2.2.2.2.2.2.2.2.2.2.1), (31, o.2.2.2.2.2.2.2.2.2.2.2.2.2.2.2.2.2.2.2.2.1), (32, o.2.2.2.2.2.2.2.2.2.2.2.2.2.2.2.2.2.2.2.2.2.1), (46, o.2.2.2.2.2.2.2.2.2.2.2.2.2.2.2.2.2.2.2.2.2.2.1), (47, o.2.2.2.2.2.2.2.2.2.2.2.2.2.2.2.2.2.2.2.2.2.2.2.1), (48, o.2.2.2.2.2.2.2.2.2.2.2.2.2.2.2.2.2.2.2.2.2.2.2.2.1), (59, o.2.2.2.2.2.2.2.2.2.2.2.2.2.2.2.2.2.2.2.2.2.2.2.2.2.1), (60, o.2.2.2.2.2.2.2.2.2.2.2.2.2.2.2.2.2.2.2.2.2.2.2.2.2.2.1), (81, o.2.2.2.2.2.2.2.2.2.2.2.2.2.2.2.2.2.2.2.2.2.2.2.2.2.2.2.1), (82, o.2.2.2.2.2.2.2.2.2.2.2.2.2.2.2.2.2.2.2.2.2.2.2.2.2.2.2.2)]) := by
  obtain ⟨x_RI, x_h16, x_h17, x_b0, x_e0, x_t1, x_m, x_em, x_ch, x_ech, x_pa, x_epa, x_la, x_fo, x_h63, x_h64, x_st, x_ex, x_pl, x_te, x_Rst, x_Rex, x_Rtr, x_Rpl, x_Rte, x_Rgo, x_im, x_k6, x_k0, x_kp, x_m0, x_m1, x_h85, x_h87, x_m61, x_h83⟩ := hX
  obtain ⟨S1, S2, S3, S4, S5, S6⟩ := hS
  obtain ⟨T1, T2, T3, T4, T5, T6, T7⟩ := hT
  unfold f_OP_30 at h
  obtain ⟨x_ans, n_s34, n_s35, n_s36, n_s40, n_s41, n_s42, n_s43, n_t46, n_t47, n_t48, n_s60, n_t59, n_t60, n_t81, n_t82, e1, h⟩ := xz_d16 h
  obtain ⟨y_ans, n_s4, n_s19, n_s20, n_s21, n_s22, n_t14, n_t15, n_t16, n_t17, n_t30, n_t31, n_t32, e2, h⟩ := xz_d13 h
  cases h
  exact ⟨trivial, T1, T2, T3, T4, T5, T6, T7⟩
set_option maxHeartbeats 4000000 in
set_option maxRecDepth 10000 in
theorem z_31 {N : Int} {σ : Nat → Int} {τ : Nat → Nat → Int} (hX : XX3 σ τ) (hS : SIM2 σ τ) (hT : SIM3 σ τ) (a1 : Int) (b_a1 : (-2147483648) ≤ a1 ∧ a1 ≤ 2147483647) {o : Int × Int × Int} (h : f_OP_31 N a1 (σ 4) (σ 49) (τ 4) (τ 63) (τ 64) = some o) : (o.1 = o.2.1) ∧ SIM3 (zst σ [(4, o.2.2)]) τ := by
  obtain ⟨x_RI, x_h16, x_h17, x_b0, x_e0, x_t1, x_m, x_em, x_ch, x_ech, x_pa, x_epa, x_la, x_fo, x_h63, x_h64, x_st, x_ex, x_pl, x_te, x_Rst, x_Rex, x_Rtr, x_Rpl, x_Rte, x_Rgo, x_im, x_k6, x_k0, x_kp, x_m0, x_m1, x_h85, x_h87, x_m61, x_h83⟩ := hX
  obtain ⟨S1, S2, S3, S4, S5, S6⟩ := hS
  obtain ⟨T1, T2, T3, T4, T5, T6, T7⟩ := hT
  unfold f_OP_31 at h
  obtain ⟨x_ans, e1, h⟩ := xz_d1 h
  obtain ⟨y_ans, n_s4, e2, h⟩ := xz_d2 h
  have q := x_layers b_a1 x_m x_em x_h63 x_h64 T1 e1 e2
  cases h
  exact ⟨q, T1, T2, T3, T4, T5, T6, T7⟩
set_option maxHeartbeats 4000000 in
set_option maxRecDepth 10000 in
theorem z_32 {N : Int} {σ : Nat → Int} {τ : Nat → Nat → Int} (hX : XX3 σ τ) (hS : SIM2 σ τ) (hT : SIM3 σ τ) (a1 : Int) (a2 : Int) (b_a1 : (-2147483648) ≤ a1 ∧ a1 ≤ 2147483647) (b_a2 : (-2147483648) ≤ a2 ∧ a2 ≤ 2147483647) {o : Int × Int × Int × Int × Int × Int × Int × Int × Int × (Nat → Int) × (Nat → Int) × (Nat → Int) × (Nat → Int) × (Nat → Int) × (Nat → Int) × (Nat → Int)} (h : f_OP_32 N a1 a2 (σ 3) (σ 4) (σ 5) (σ 24) (σ 25) (σ 30) (σ 49) (σ 61) (τ 2) (τ 3) (τ 4) (τ 16) (τ 17) (τ 33) (τ 38) (τ 63) (τ 64) (τ 83) (τ 84) = some o) : (o.1 = o.2.1) ∧ SIM3 (zst σ [(3, o.2.2.1), (4, o.2.2.2.1), (5, o.2.2.2.2.1), (24, o.2.2.2.2.2.1), (25, o.2.2.2.2.2.2.1), (30, o.2.2.2.2.2.2.2.1), (61, o.2.2.2.2.2.2.2.2.1)]) (zta τ [(2, o.2.2.2.2.2.2.2.2.2.1), (3, o.2.2.2.2.2.2.2.2.2.2.1), (16, o.2.2.2.2.2.2.2.2.2.2.2.1), (17, o.2.2.2.2.2.2.2.2.2.2.2.2.1), (33, o.2.2.2.2.2.2.2.2.2.2.2.2.2.1), (83, o.2.2.2.2.2.2.2.2.2.2.2.2.2.2.1), (84, o.2.2.2.2.2.2.2.2.2.2.2.2.2.2.2)]) := by
  obtain ⟨x_RI, x_h16, x_h17, x_b0, x_e0, x_t1, x_m, x_em, x_ch, x_ech, x_pa, x_epa, x_la, x_fo, x_h63, x_h64, x_st, x_ex, x_pl, x_te, x_Rst, x_Rex, x_Rtr, x_Rpl, x_Rte, x_Rgo, x_im, x_k6, x_k0, x_kp, x_m0, x_m1, x_h85, x_h87, x_m61, x_h83⟩ := hX
  obtain ⟨S1, S2, S3, S4, S5, S6⟩ := hS
  obtain ⟨T1, T2, T3, T4, T5, T6, T7⟩ := hT
  unfold f_OP_32 at h
  obtain ⟨x_ans, n_s3, n_s30, n_t2, n_s61, n_t83, n_t84, e1, h⟩ := xz_d7 h
  obtain ⟨y_ans, n_s4, n_s5, n_s24, n_s25, n_t3, n_t16, n_t17, n_t33, e2, h⟩ := xz_d9 h
  have q := x_rain b_a1 b_a2 x_m x_em x_h63 x_h83 (x3_t2 x_RI x_Rte) T1 e1 e2
  cases h
  exact ⟨q.1.1, T1, T2, T3, q.1.2.1, q.1.2.2 T5, T6, q.2 T7⟩
set_option maxHeartbeats 4000000 in
set_option maxRecDepth 10000 in
theorem z_33 {N : Int} {σ : Nat → Int} {τ : Nat → Nat → Int} (hX : XX3 σ τ) (hS : SIM2 σ τ) (hT : SIM3 σ τ) (a1 : Int) (a2 : Int) (b_a1 : (-2147483648) ≤ a1 ∧ a1 ≤ 2147483647) (b_a2 : (-2147483648) ≤ a2 ∧ a2 ≤ 2147483647) {o : Int × Int × Int} (h : f_OP_33 N a1 a2 (σ 4) (σ 25) (σ 61) (τ 33) (τ 83) (τ 84) = some o) : (o.1 = o.2.1) ∧ SIM3 (zst σ [(4, o.2.2)]) τ := by
  obtain ⟨x_RI, x_h16, x_h17, x_b0, x_e0, x_t1, x_m, x_em, x_ch, x_ech, x_pa, x_epa, x_la, x_fo, x_h63, x_h64, x_st, x_ex, x_pl, x_te, x_Rst, x_Rex, x_Rtr, x_Rpl, x_Rte, x_Rgo, x_im, x_k6, x_k0, x_kp, x_m0, x_m1, x_h85, x_h87, x_m61, x_h83⟩ := hX
  obtain ⟨S1, S2, S3, S4, S5, S6⟩ := hS
  obtain ⟨T1, T2, T3, T4, T5, T6, T7⟩ := hT
  unfold f_OP_33 at h
  obtain ⟨x_ans, e1, h⟩ := xz_d1 h
  obtain ⟨y_ans, n_s4, e2, h⟩ := xz_d2 h
  have q := x_rained b_a1 b_a2 x_m61 x_h83 T7 e1 e2
  cases h
  exact ⟨q, T1, T2, T3, T4, T5, T6, T7⟩
set_option maxHeartbeats 4000000 in
set_option maxRecDepth 10000 in
theorem z_34 {N : Int} {σ : Nat → Int} {τ : Nat → Nat → Int} (hX : XX3 σ τ) (hS : SIM2 σ τ) (hT : SIM3 σ τ) (a1 : Int) (b_a1 : (-2147483648) ≤ a1 ∧ a1 ≤ 2147483647) {o : Int × Int × Int × Int × Int × Int × Int × Int × Int × Int × Int × Int × Int × Int × Int × Int × (Nat → Int) × (Nat → Int) × (Nat → Int) × (Nat → Int) × (Nat → Int) × (Nat → Int) × (Nat → Int) × (Nat → Int) × (Nat → Int) × (Nat → Int) × (Nat → Int) × (Nat → Int) × (Nat → Int) × (Nat → Int) × (Nat → Int) × (Nat → Int) × (Nat → Int) × (Nat → Int) × (Nat → Int) × (Nat → Int) × (Nat → Int) × (Nat → Int) × (Nat → Int) × (Nat → Int) × (Nat → Int)} (h : f_OP_34 N a1 (σ 3) (σ 4) (σ 5) (σ 26) (σ 27) (σ 28) (σ 29) (σ 30) (σ 49) (σ 50) (σ 51) (σ 52) (σ 53) (σ 55) (σ 56) (σ 57) (σ 58) (σ 62) (σ 63) (τ 0) (τ 2) (τ 3) (τ 4) (τ 5) (τ 6) (τ 34) (τ 35) (τ 36) (τ 37) (τ 38) (τ 39) (τ 40) (τ 41) (τ 63) (τ 64) (τ 65) (τ 66) (τ 67) (τ 68) (τ 69) (τ 70) (τ 71) (τ 72) (τ 73) (τ 74) (τ 75) (τ 76) (τ 77) (τ 78) (τ 79) (τ 80) (τ 85) (τ 86) (τ 87) (τ 88) = some o) : (True) ∧ SIM3 (zst σ [(3, o.2.2.1), (4, o.2.2.2.1), (5, o.2.2.2.2.1), (30, o.2.2.2.2.2.1), (50, o.2.2.2.2.2.2.1), (51, o.2.2.2.2.2.2.2.1), (52, o.2.2.2.2.2.2.2.2.1), (53, o.2.2.2.2.2.2.2.2.2.1), (55, o.2.2.2.2.2.2.2.2.2.2.1), (56, o.2.2.2.2.2.2.2.2.2.2.2.1), (57, o.2.2.2.2.2.2.2.2.2.2.2.2.1), (58, o.2.2.2.2.2.2.2.2.2.2.2.2.2.1), (62, o.2.2.2.2.2.2.2.2.2.2.2.2.2.2.1), (63, o.2.2.2.2.2.2.2.2.2.2.2.2.2.2.2.1)]) (zta τ [(0, o.2.2.2.2.2.2.2.2.2.2.2.2.2.2.2.2.1), (2, o.2.2.2.2.2.2.2.2.2.2.2.2.2.2.2.2.2.1), (3, o.2.2.2.2.2.2.2.2.2.2.2.2.2.2.2.2.2.2.1), (5, o.2.2.2.2.2.2.2.2.2.2.2.2.2.2.2.2.2.2.2.1), (6, o.2.2.2.2.2.2.2.2.2.2.2.2.2.2.2.2.2.2.2.2.1), (65, o.2.2.2.2.2.2.2.2.2.2.2.2.2.2.2.2.2.2.2.2.2.1), (66, o.2.2.2.2.2.2.2.2.2.2.2.2.2.2.2.2.2.2.2.2.2.2.1), (67, o.2.2.2.2.2.2.2.2.2.2.2.2.2.2.2.2.2.2.2.2.2.2.2.1), (68, o.2.2.2.2.2.2.2.2.2.2.2.2.2.2.2.2.2.2.2.2.2.2.2.2.1), (69, o.2.2.2.2.2.2.2.2.2.2.2.2.2.2.2.2.2.2.2.2.2.2.2.2.2.1), (70, o.2.2.2.2.2.2.2.2.2.2.2.2.2.2.2.2.2.2.2.2.2.2.2.2.2.2.1), (71, o.2.2.2.2.2.2.2.2.2.2.2.2.2.2.2.2.2.2.2.2.2.2.2.2.2.2.2.1), (72, o.2.2.2.2.2.2.2.2.2.2.2.2.2.2.2.2.2.2.2.2.2.2.2.2.2.2.2.2.1), (73, o.2.2.2.2.2.2.2.2.2.2.2.2.2.2.2.2.2.2.2.2.2.2.2.2.2.2.2.2.2.1), (74, o.2.2.2.2.2.2.2.2.2.2.2.2.2.2.2.2.2.2.2.2.2.2.2.2.2.2.2.2.2.2.1), (75, o.2.2.2.2.2.2.2.2.2.2.2.2.2.2.2.2.2.2.2.2.2.2.2.2.2.2.2.2.2.2.2.1), (76, o.2.2.2.2.2.2.2.2.2.2.2.2.2.2.2.2.2.2.2.2.2.2.2.2.2.2.2.2.2.2.2.2.1), (77, o.2.2.2.2.2.2.2.2.2.2.2.2.2.2.2.2.2.2.2.2.2.2.2.2.2.2.2.2.2.2.2.2.2.1), (78, o.2.2.2.2.2.2.2.2.2.2.2.2.2.2.2.2.2.2.2.2.2.2.2.2.2.2.2.2.2.2.2.2.2.2.1), (79, o.2.2.2.2.2.2.2.2.2.2.2.2.2.2.2.2.2.2.2.2.2.2.2.2.2.2.2.2.2.2.2.2.2.2.2.1), (80, o.2.2.2.2.2.2.2.2.2.2.2.2.2.2.2.2.2.2.2.2.2.2.2.2.2.2.2.2.2.2.2.2.2.2.2.2.1), (85, o.2.2.2.2.2.2.2.2.2.2.2.2.2.2.2.2.2.2.2.2.2.2.2.2.2.2.2.2.2.2.2.2.2.2.2.2.2.1), (86, o.2.2.2.2.2.2.2.2.2.2.2.2.2.2.2.2.2.2.2.2.2.2.2.2.2.2.2.2.2.2.2.2.2.2.2.2.2.2.1), (87, o.2.2.2.2.2.2.2.2.2.2.2.2.2.2.2.2.2.2.2.2.2.2.2.2.2.2.2.2.2.2.2.2.2.2.2.2.2.2.2.1), (88, o.2.2.2.2.2.2.2.2.2.2.2.2.2.2.2.2.2.2.2.2.2.2.2.2.2.2.2.2.2.2.2.2.2.2.2.2.2.2.2.2)]) := by
  obtain ⟨x_RI, x_h16, x_h17, x_b0, x_e0, x_t1, x_m, x_em, x_ch, x_ech, x_pa, x_epa, x_la, x_fo, x_h63, x_h64, x_st, x_ex, x_pl, x_te, x_Rst, x_Rex, x_Rtr, x_Rpl, x_Rte, x_Rgo, x_im, x_k6, x_k0, x_kp, x_m0, x_m1, x_h85, x_h87, x_m61, x_h83⟩ := hX
  obtain ⟨S1, S2, S3, S4, S5, S6⟩ := hS
  obtain ⟨T1, T2, T3, T4, T5, T6, T7⟩ := hT
  unfold f_OP_34 at h
  obtain ⟨x_ans, n_s3, n_s30, n_t0, n_t2, n_s50, n_s51, n_s52, n_s53, n_s55, n_s56, n_s57, n_s58, n_s62, n_t65, n_t66, n_t67, n_t68, n_t69, n_t70, n_t71, n_t72, n_s63, n_t73, n_t74, n_t75, n_t76, n_t77, n_t78, n_t79, n_t80, n_t85, n_t86, n_t87, n_t88, e1, h⟩ := xz_d35 h
  obtain ⟨y_ans, n_s4, n_s5, n_t3, n_t5, n_t6, e2, h⟩ := xz_d6 h
  have w := zok_x (ww_HM_image _ _ _ _ _ _ _ b_a1 x_RI x_k6 x_im) e2
  dsimp only at w
  obtain ⟨w1, w2, w3, w4, w5, w6⟩ := w
  have q := k_image b_a1 e1
  obtain ⟨x1, x2, x3, x4, x5, r1, r2⟩ := r_image b_a1 e2
  have sr : n_s3 = n_s5 ∧ ∀ k, k < 7 → n_t2 k = n_t3 k := by
    cases r2
    rcases k_image3 b_a1 e1 with ⟨g1, g2, g3, g4⟩ | ⟨g1, g2, g3, g4⟩
    · rw [if_pos g1] at r1
      have z := SR_tell0 (f := (τ 2)) r1
      rw [g3, g4]
      exact ⟨z.1, z.2 T5⟩
    · rw [if_neg g1] at r1
      have z := SR_tell (f := (τ 2)) (u := (-1, -1, zu (τ 2) 1 ((τ 2) 1 + 1))) (by decide) rfl r1
      rw [g3, g4]
      exact ⟨z.1, z.2 T5⟩
  cases h
  refine ⟨trivial, T1, ?_, ?_, sr.1, sr.2, T6, T7⟩
  · show n_t6 0 ≠ 0 → CREL n_s62 n_t85 n_t86 (fun c => (fun j => n_t5 (5580 * 0 + j)) (9 + c)) (fun j => (fun j => n_t5 (5580 * 0 + j)) (21 + j))
    intro hk
    have k6 := w6 0 (by decide)
    rcases q with ⟨q1, q2, q3⟩ | ⟨q1, q2, q3⟩ | ⟨q1, q2, q3⟩
    · have qq := q2
      rw [qq.2.2.1]
      exact CREL_c x_m.2 x_h63 T1 qq.2.2.2.2.2.1 qq.2.2.2.2.2.2 (fun j hj => by have z := w4 (by omega) (9 + j) (by omega); rw [q1] at z; exact z) (fun j hj => by have z := w4 (by omega) (21 + j) (by omega); rw [q1] at z; exact z)
    · have qq := q3
      rw [qq.2.2.1, qq.2.2.2.2.2.1, qq.2.2.2.2.2.2]
      rw [if_neg (by omega)] at k6
      exact CREL_c x_m0.2 x_h85 (T2 (by rw [← k6]; exact hk)) (fun _ _ => rfl) (fun _ _ => rfl) (fun j hj => w5 0 (by decide) (by omega) (9 + j) (by omega)) (fun j hj => w5 0 (by decide) (by omega) (21 + j) (by omega))
    · have qq := q2
      rw [qq.2.2.1, qq.2.2.2.2.2.1, qq.2.2.2.2.2.2]
      rw [if_neg (by omega)] at k6
      exact CREL_c x_m0.2 x_h85 (T2 (by rw [← k6]; exact hk)) (fun _ _ => rfl) (fun _ _ => rfl) (fun j hj => w5 0 (by decide) (by omega) (9 + j) (by omega)) (fun j hj => w5 0 (by decide) (by omega) (21 + j) (by omega))
  · show n_t6 1 ≠ 0 → CREL n_s63 n_t87 n_t88 (fun c => (fun j => n_t5 (5580 * 1 + j)) (9 + c)) (fun j => (fun j => n_t5 (5580 * 1 + j)) (21 + j))
    intro hk
    have k6 := w6 1 (by decide)
    rcases q with ⟨q1, q2, q3⟩ | ⟨q1, q2, q3⟩ | ⟨q1, q2, q3⟩
    · have qq := q3
      rw [qq.2.2.1, qq.2.2.2.2.2.1, qq.2.2.2.2.2.2]
      rw [if_neg (by omega)] at k6
      exact CREL_c x_m1.2 x_h87 (T3 (by rw [← k6]; exact hk)) (fun _ _ => rfl) (fun _ _ => rfl) (fun j hj => w5 1 (by decide) (by omega) (9 + j) (by omega)) (fun j hj => w5 1 (by decide) (by omega) (21 + j) (by omega))
    · have qq := q2
      rw [qq.2.2.1]
      exact CREL_c x_m.2 x_h63 T1 qq.2.2.2.2.2.1 qq.2.2.2.2.2.2 (fun j hj => by have z := w4 (by omega) (9 + j) (by omega); rw [q1] at z; exact z) (fun j hj => by have z := w4 (by omega) (21 + j) (by omega); rw [q1] at z; exact z)
    · have qq := q3
      rw [qq.2.2.1, qq.2.2.2.2.2.1, qq.2.2.2.2.2.2]
      rw [if_neg (by omega)] at k6
      exact CREL_c x_m1.2 x_h87 (T3 (by rw [← k6]; exact hk)) (fun _ _ => rfl) (fun _ _ => rfl) (fun j hj => w5 1 (by decide) (by omega) (9 + j) (by omega)) (fun j hj => w5 1 (by decide) (by omega) (21 + j) (by omega))
set_option maxHeartbeats 4000000 in
set_option maxRecDepth 10000 in
theorem z_35 {N : Int} {σ : Nat → Int} {τ : Nat → Nat → Int} (hX : XX3 σ τ) (hS : SIM2 σ τ) (hT : SIM3 σ τ) (a1 : Int) (b_a1 : (-2147483648) ≤ a1 ∧ a1 ≤ 2147483647) {o : Int × Int × Int × Int × Int × Int × Int × Int × Int × Int × Int × (Nat → Int) × (Nat → Int) × (Nat → Int) × (Nat → Int) × (Nat → Int) × (Nat → Int) × (Nat → Int) × (Nat → Int) × (Nat → Int) × (Nat → Int) × (Nat → Int) × (Nat → Int) × (Nat → Int)} (h : f_OP_35 N a1 (σ 3) (σ 4) (σ 5) (σ 26) (σ 27) (σ 28) (σ 29) (σ 30) (σ 49) (σ 50) (σ 51) (σ 52) (σ 53) (σ 55) (σ 56) (σ 57) (σ 58) (σ 62) (σ 63) (τ 0) (τ 2) (τ 3) (τ 4) (τ 5) (τ 6) (τ 34) (τ 35) (τ 36) (τ 37) (τ 38) (τ 39) (τ 40) (τ 41) (τ 63) (τ 64) (τ 65) (τ 66) (τ 67) (τ 68) (τ 69) (τ 70) (τ 71) (τ 72) (τ 73) (τ 74) (τ 75) (τ 76) (τ 77) (τ 78) (τ 79) (τ 80) (τ 85) (τ 86) (τ 87) (τ 88) = some o) : (True) ∧ SIM3 (zst σ [(3, o.2.2.1), (4, o.2.2.2.1), (5, o.2.2.2.2.1), (26, o.2.2.2.2.2.1), (27, o.2.2.2.2.2.2.1), (28, o.2.2.2.2.2.2.2.1), (29, o.2.2.2.2.2.2.2.2.1), (30, o.2.2.2.2.2.2.2.2.2.1), (49, o.2.2.2.2.2.2.2.2.2.2.1)]) (zta τ [(2, o.2.2.2.2.2.2.2.2.2.2.2.1), (3, o.2.2.2.2.2.2.2.2.2.2.2.2.1), (4, o.2.2.2.2.2.2.2.2.2.2.2.2.2.1), (34, o.2.2.2.2.2.2.2.2.2.2.2.2.2.2.1), (35, o.2.2.2.2.2.2.2.2.2.2.2.2.2.2.2.1), (36, o.2.2.2.2.2.2.2.2.2.2.2.2.2.2.2.2.1), (37, o.2.2.2.2.2.2.2.2.2.2.2.2.2.2.2.2.2.1), (38, o.2.2.2.2.2.2.2.2.2.2.2.2.2.2.2.2.2.2.1), (39, o.2.2.2.2.2.2.2.2.2.2.2.2.2.2.2.2.2.2.2.1), (40, o.2.2.2.2.2.2.2.2.2.2.2.2.2.2.2.2.2.2.2.2.1), (41, o.2.2.2.2.2.2.2.2.2.2.2.2.2.2.2.2.2.2.2.2.2.1), (63, o.2.2.2.2.2.2.2.2.2.2.2.2.2.2.2.2.2.2.2.2.2.2.1), (64, o.2.2.2.2.2.2.2.2.2.2.2.2.2.2.2.2.2.2.2.2.2.2.2)]) := by
  obtain ⟨x_RI, x_h16, x_h17, x_b0, x_e0, x_t1, x_m, x_em, x_ch, x_ech, x_pa, x_epa, x_la, x_fo, x_h63, x_h64, x_st, x_ex, x_pl, x_te, x_Rst, x_Rex, x_Rtr, x_Rpl, x_Rte, x_Rgo, x_im, x_k6, x_k0, x_kp, x_m0, x_m1, x_h85, x_h87, x_m61, x_h83⟩ := hX
  obtain ⟨S1, S2, S3, S4, S5, S6⟩ := hS
  obtain ⟨T1, T2, T3, T4, T5, T6, T7⟩ := hT
  unfold f_OP_35 at h
  obtain ⟨x_ans, n_s3, n_s26, n_s27, n_s28, n_s29, n_s30, n_t2, n_s49, n_t34, n_t35, n_t36, n_t37, n_t38, n_t39, n_t40, n_t41, n_t63, n_t64, e1, h⟩ := xz_d19 h
  obtain ⟨y_ans, n_s4, n_s5, n_t3, n_t4, e2, h⟩ := xz_d5 h
  have w := zok_x (ww_HM_back _ _ _ _ _ _ _ b_a1 x_k6 x_RI x_im) e2
  dsimp only at w
  obtain ⟨w1, w2, w3, w4, w5⟩ := w
  have q := k_back b_a1 e1
  obtain ⟨x1, x2, x3, x4, r1, r2⟩ := r_back b_a1 x_k6 e2
  have ek : ∀ k, k < 2 → (τ 0) k = (τ 6) k := fun k hk => by
    rcases (show k = 0 ∨ k = 1 by omega) with e | e <;> subst e
    · exact x_kp.1
    · exact x_kp.2
  have sr : (n_s3 = n_s5 ∧ ∀ k, k < 7 → n_t2 k = n_t3 k) ∧ x_ans = y_ans := by
    cases r2
    unfold BKX at r1
    rcases k_back3 b_a1 x_k0 e1 with ⟨g1, g0, g2, g3, g4⟩ | ⟨g1, g0, g2, g3, g4⟩ | ⟨g1, g2, g3, g4⟩
    · rw [if_pos g1, if_pos (by rw [← ek _ (by omega)]; exact g0)] at r1
      have z := SR_tell0 (f := (τ 2)) r1
      rw [g2, g3, g4]
      exact ⟨⟨z.1, z.2 T5⟩, (tell_a (by decide) r1).symm⟩
    · rw [if_pos g1, if_neg (by rw [← ek _ (by omega)]; exact fun z => z g0)] at r1
      have z := SR_tell (f := (τ 2)) (u := (-2, -2, zu (τ 2) 2 ((τ 2) 2 + 1))) (by decide) rfl r1
      rw [g2, g3, g4]
      exact ⟨⟨z.1, z.2 T5⟩, (tell_a (by decide) r1).symm⟩
    · rw [if_neg g1] at r1
      have z := SR_tell (f := (τ 2)) (u := (-1, -1, zu (τ 2) 1 ((τ 2) 1 + 1))) (by decide) rfl r1
      rw [g2, g3, g4]
      exact ⟨⟨z.1, z.2 T5⟩, (tell_a (by decide) r1).symm⟩
  have ea := sr.2
  cases h
  refine ⟨trivial, ?_, T2, T3, sr.1.1, sr.1.2, T6, T7⟩
  show CREL n_s49 n_t63 n_t64 (fun c => n_t4 (9 + c)) (fun j => n_t4 (21 + j))
  rcases q with ⟨q1, q2, q3⟩ | ⟨q1, q2, q3⟩ | ⟨q1, q2⟩
  · have z := w3 (by omega)
    have zk := w5 (by omega)
    rw [q1] at z zk
    rw [q3.2.2.1]
    exact CREL_c x_m0.2 x_h85 (T2 zk) q3.2.2.2.2.2.1 q3.2.2.2.2.2.2 (fun j hj => z (9 + j) (by omega)) (fun j hj => z (21 + j) (by omega))
  · have z := w3 (by omega)
    have zk := w5 (by omega)
    rw [q1] at z zk
    rw [q3.2.2.1]
    exact CREL_c x_m1.2 x_h87 (T3 zk) q3.2.2.2.2.2.1 q3.2.2.2.2.2.2 (fun j hj => z (9 + j) (by omega)) (fun j hj => z (21 + j) (by omega))
  · have z := w4 (by omega)
    rw [q2.2.2.1, q2.2.2.2.2.2.1, q2.2.2.2.2.2.2, z]
    exact T1
set_option maxHeartbeats 4000000 in
set_option maxRecDepth 10000 in
theorem z_36 {N : Int} {σ : Nat → Int} {τ : Nat → Nat → Int} (hX : XX3 σ τ) (hS : SIM2 σ τ) (hT : SIM3 σ τ) (a1 : Int) (b_a1 : (-2147483648) ≤ a1 ∧ a1 ≤ 2147483647) {o : Int × Int × Int} (h : f_OP_36 N a1 (σ 0) (σ 4) (σ 7) (σ 26) (σ 27) (σ 28) (σ 29) (σ 49) (τ 2) (τ 3) (τ 4) (τ 38) (τ 63) = some o) : (o.1 = o.2.1) ∧ SIM3 (zst σ [(4, o.2.2)]) τ := by
  obtain ⟨x_RI, x_h16, x_h17, x_b0, x_e0, x_t1, x_m, x_em, x_ch, x_ech, x_pa, x_epa, x_la, x_fo, x_h63, x_h64, x_st, x_ex, x_pl, x_te, x_Rst, x_Rex, x_Rtr, x_Rpl, x_Rte, x_Rgo, x_im, x_k6, x_k0, x_kp, x_m0, x_m1, x_h85, x_h87, x_m61, x_h83⟩ := hX
  obtain ⟨S1, S2, S3, S4, S5, S6⟩ := hS
  obtain ⟨T1, T2, T3, T4, T5, T6, T7⟩ := hT
  unfold f_OP_36 at h
  obtain ⟨x_ans, e1, h⟩ := xz_d1 h
  obtain ⟨y_ans, n_s4, e2, h⟩ := xz_d2 h
  rw [← x_e0] at e2
  have q := x_count b_a1 x_m x_em T1.1 x_ech x_epa S4.1 S4.2.1 (x3_te x_Rte) T5 e1 e2
  cases h
  exact ⟨q, T1, T2, T3, T4, T5, T6, T7⟩
set_option maxHeartbeats 4000000 in
set_option maxRecDepth 10000 in
theorem z_37 {N : Int} {σ : Nat → Int} {τ : Nat → Nat → Int} (hX : XX3 σ τ) (hS : SIM2 σ τ) (hT : SIM3 σ τ)  {o : Int × Int × Int} (h : f_OP_37 N (σ 3) (σ 4) (σ 5) = some o) : (o.1 = o.2.1) ∧ SIM3 (zst σ [(4, o.2.2)]) τ := by
  obtain ⟨x_RI, x_h16, x_h17, x_b0, x_e0, x_t1, x_m, x_em, x_ch, x_ech, x_pa, x_epa, x_la, x_fo, x_h63, x_h64, x_st, x_ex, x_pl, x_te, x_Rst, x_Rex, x_Rtr, x_Rpl, x_Rte, x_Rgo, x_im, x_k6, x_k0, x_kp, x_m0, x_m1, x_h85, x_h87, x_m61, x_h83⟩ := hX
  obtain ⟨S1, S2, S3, S4, S5, S6⟩ := hS
  obtain ⟨T1, T2, T3, T4, T5, T6, T7⟩ := hT
  unfold f_OP_37 at h
  obtain ⟨x_ans, e1, h⟩ := xz_d1 h
  obtain ⟨y_ans, n_s4, e2, h⟩ := xz_d2 h
  unfold f_HS_status at e1
  unfold f_HM_status at e2
  cases e1
  cases e2
  cases h
  exact ⟨T4, T1, T2, T3, T4, T5, T6, T7⟩
