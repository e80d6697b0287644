set_option maxHeartbeats 4000000 in
set_option maxRecDepth 10000 in
theorem z_13 {N : Int} {σ : Nat → Int} {τ : Nat → Nat → Int} (hX : XX3 σ τ) (hS : SIM2 σ τ) (hT : SIM3 σ τ)  {o : Int × Int × Int} (h : f_OP_13 N (σ 2) (σ 4) (σ 6) = some o) : (o.1 = o.2.1) ∧ SIM3 (zst σ [(4, o.2.2)]) τ := by
  obtain ⟨x_RI, x_h16, x_h17, x_b0, x_e0, x_t1, x_m, x_em, x_ch, x_ech, x_pa, x_epa, x_la, x_fo, x_h63, x_h64, x_st, x_ex, x_pl, x_te, x_Rst, x_Rex, x_Rtr, x_Rpl, x_Rte, x_Rgo, x_im, x_k6, x_k0, x_kp, x_m0, x_m1, x_h85, x_h87, x_m61, x_h83⟩ := hX
  obtain ⟨S1, S2, S3, S4, S5, S6⟩ := hS
  obtain ⟨T1, T2, T3, T4, T5, T6, T7⟩ := hT
  unfold f_OP_13 at h
  obtain ⟨x_ans, e1, h⟩ := xz_d1 h
  obtain ⟨y_ans, n_s4, e2, h⟩ := xz_d2 h
  unfold f_HS_gravel at e1
  unfold f_HM_gravel at e2
  cases e1
  cases e2
  cases h
  exact ⟨T6, T1, T2, T3, T4, T5, T6, T7⟩
set_option maxHeartbeats 4000000 in
set_option maxRecDepth 10000 in
theorem z_14 {N : Int} {σ : Nat → Int} {τ : Nat → Nat → Int} (hX : XX3 σ τ) (hS : SIM2 σ τ) (hT : SIM3 σ τ)  {o : Int × Int × Int × Int × Int × Int × Int × Int × Int × Int × Int × Int × Int × Int × Int × Int × Int × Int × Int × Int × Int × Int × Int × Int × (Nat → Int) × (Nat → Int) × (Nat → Int) × (Nat → Int) × (Nat → Int) × (Nat → Int) × (Nat → Int) × (Nat → Int) × (Nat → Int) × (Nat → Int) × (Nat → Int) × (Nat → Int) × (Nat → Int) × (Nat → Int)} (h : f_OP_14 N (σ 0) (σ 1) (σ 3) (σ 4) (σ 5) (σ 7) (σ 8) (σ 9) (σ 10) (σ 11) (σ 12) (σ 13) (σ 14) (σ 15) (σ 16) (σ 17) (σ 18) (σ 26) (σ 27) (σ 28) (σ 30) (σ 31) (σ 32) (σ 33) (σ 49) (τ 1) (τ 2) (τ 3) (τ 4) (τ 7) (τ 8) (τ 9) (τ 10) (τ 11) (τ 12) (τ 13) (τ 34) (τ 35) (τ 36) (τ 37) (τ 38) (τ 39) (τ 40) (τ 41) (τ 42) (τ 43) (τ 44) (τ 45) = some o) : (True) ∧ SIM3 (zst σ [(0, o.2.2.1), (1, o.2.2.2.1), (3, o.2.2.2.2.1), (4, o.2.2.2.2.2.1), (5, o.2.2.2.2.2.2.1), (7, o.2.2.2.2.2.2.2.1), (8, o.2.2.2.2.2.2.2.2.1), (9, o.2.2.2.2.2.2.2.2.2.1), (10, o.2.2.2.2.2.2.2.2.2.2.1), (11, o.2.2.2.2.2.2.2.2.2.2.2.1), (12, o.2.2.2.2.2.2.2.2.2.2.2.2.1), (13, o.2.2.2.2.2.2.2.2.2.2.2.2.2.1), (14, o.2.2.2.2.2.2.2.2.2.2.2.2.2.2.1), (15, o.2.2.2.2.2.2.2.2.2.2.2.2.2.2.2.1), (16, o.2.2.2.2.2.2.2.2.2.2.2.2.2.2.2.2.1), (17, o.2.2.2.2.2.2.2.2.2.2.2.2.2.2.2.2.2.1), (18, o.2.2.2.2.2.2.2.2.2.2.2.2.2.2.2.2.2.2.1), (28, o.2.2.2.2.2.2.2.2.2.2.2.2.2.2.2.2.2.2.2.1), (30, o.2.2.2.2.2.2.2.2.2.2.2.2.2.2.2.2.2.2.2.2.1), (31, o.2.2.2.2.2.2.2.2.2.2.2.2.2.2.2.2.2.2.2.2.2.1), (32, o.2.2.2.2.2.2.2.2.2.2.2.2.2.2.2.2.2.2.2.2.2.2.1), (33, o.2.2.2.2.2.2.2.2.2.2.2.2.2.2.2.2.2.2.2.2.2.2.2.1)]) (zta τ [(2, o.2.2.2.2.2.2.2.2.2.2.2.2.2.2.2.2.2.2.2.2.2.2.2.2.1), (3, o.2.2.2.2.2.2.2.2.2.2.2.2.2.2.2.2.2.2.2.2.2.2.2.2.2.1), (4, o.2.2.2.2.2.2.2.2.2.2.2.2.2.2.2.2.2.2.2.2.2.2.2.2.2.2.1), (8, o.2.2.2.2.2.2.2.2.2.2.2.2.2.2.2.2.2.2.2.2.2.2.2.2.2.2.2.1), (9, o.2.2.2.2.2.2.2.2.2.2.2.2.2.2.2.2.2.2.2.2.2.2.2.2.2.2.2.2.1), (10, o.2.2.2.2.2.2.2.2.2.2.2.2.2.2.2.2.2.2.2.2.2.2.2.2.2.2.2.2.2.1), (11, o.2.2.2.2.2.2.2.2.2.2.2.2.2.2.2.2.2.2.2.2.2.2.2.2.2.2.2.2.2.2.1), (12, o.2.2.2.2.2.2.2.2.2.2.2.2.2.2.2.2.2.2.2.2.2.2.2.2.2.2.2.2.2.2.2.1), (40, o.2.2.2.2.2.2.2.2.2.2.2.2.2.2.2.2.2.2.2.2.2.2.2.2.2.2.2.2.2.2.2.2.1), (41, o.2.2.2.2.2.2.2.2.2.2.2.2.2.2.2.2.2.2.2.2.2.2.2.2.2.2.2.2.2.2.2.2.2.1), (42, o.2.2.2.2.2.2.2.2.2.2.2.2.2.2.2.2.2.2.2.2.2.2.2.2.2.2.2.2.2.2.2.2.2.2.1), (43, o.2.2.2.2.2.2.2.2.2.2.2.2.2.2.2.2.2.2.2.2.2.2.2.2.2.2.2.2.2.2.2.2.2.2.2.1), (44, o.2.2.2.2.2.2.2.2.2.2.2.2.2.2.2.2.2.2.2.2.2.2.2.2.2.2.2.2.2.2.2.2.2.2.2.2.1), (45, o.2.2.2.2.2.2.2.2.2.2.2.2.2.2.2.2.2.2.2.2.2.2.2.2.2.2.2.2.2.2.2.2.2.2.2.2.2)]) := by
  obtain ⟨x_RI, x_h16, x_h17, x_b0, x_e0, x_t1, x_m, x_em, x_ch, x_ech, x_pa, x_epa, x_la, x_fo, x_h63, x_h64, x_st, x_ex, x_pl, x_te, x_Rst, x_Rex, x_Rtr, x_Rpl, x_Rte, x_Rgo, x_im, x_k6, x_k0, x_kp, x_m0, x_m1, x_h85, x_h87, x_m61, x_h83⟩ := hX
  obtain ⟨S1, S2, S3, S4, S5, S6⟩ := hS
  obtain ⟨T1, T2, T3, T4, T5, T6, T7⟩ := hT
  unfold f_OP_14 at h
  obtain ⟨x_ans, n_s0, n_s1, n_s3, n_s28, n_s30, n_t2, n_s31, n_s32, n_s33, n_t40, n_t41, n_t42, n_t43, n_t44, n_t45, e1, h⟩ := xz_d16 h
  obtain ⟨y_ans, n_s4, n_s5, n_s7, n_s8, n_s9, n_s10, n_s11, n_s12, n_s13, n_s14, n_s15, n_s16, n_s17, n_s18, n_t3, n_t4, n_t8, n_t9, n_t10, n_t11, n_t12, e2, h⟩ := xz_d22 h
  rw [← S1, ← x_e0, ← S3] at e2
  have q := law_eq x_t1 S2 x_b0 x_la S4.1 S4.2.2 e1 e2
  have c := CREL_c x_m.2 x_h63 T1 (fun _ _ => rfl) (fun _ _ => rfl) (fun j hj => q.2.2.2.2.2.1 (9 + j) (by omega) (by omega)) (fun j hj => q.2.2.2.2.2.1 (21 + j) (by omega) (by omega))
  cases h
  exact ⟨trivial, c, T2, T3, q.2.2.1, q.2.2.2.1 T5, T6, T7⟩
set_option maxHeartbeats 4000000 in
set_option maxRecDepth 10000 in
theorem z_15 {N : Int} {σ : Nat → Int} {τ : Nat → Nat → Int} (hX : XX3 σ τ) (hS : SIM2 σ τ) (hT : SIM3 σ τ)  {o : Int × Int × Int} (h : f_OP_15 N (σ 1) (σ 4) (σ 12) = some o) : (True) ∧ SIM3 (zst σ [(4, o.2.2)]) τ := by
  obtain ⟨x_RI, x_h16, x_h17, x_b0, x_e0, x_t1, x_m, x_em, x_ch, x_ech, x_pa, x_epa, x_la, x_fo, x_h63, x_h64, x_st, x_ex, x_pl, x_te, x_Rst, x_Rex, x_Rtr, x_Rpl, x_Rte, x_Rgo, x_im, x_k6, x_k0, x_kp, x_m0, x_m1, x_h85, x_h87, x_m61, x_h83⟩ := hX
  obtain ⟨S1, S2, S3, S4, S5, S6⟩ := hS
  obtain ⟨T1, T2, T3, T4, T5, T6, T7⟩ := hT
  unfold f_OP_15 at h
  obtain ⟨x_ans, e1, h⟩ := xz_d1 h
  obtain ⟨y_ans, n_s4, e2, h⟩ := xz_d2 h
  cases h
  exact ⟨trivial, T1, T2, T3, T4, T5, T6, T7⟩
set_option maxHeartbeats 4000000 in
set_option maxRecDepth 10000 in
theorem z_16 {N : Int} {σ : Nat → Int} {τ : Nat → Nat → Int} (hX : XX3 σ τ) (hS : SIM2 σ τ) (hT : SIM3 σ τ) (a1 : Int) (b_a1 : (-2147483648) ≤ a1 ∧ a1 ≤ 2147483647) {o : Int × Int × Int × Int × Int × Int × Int × (Nat → Int) × (Nat → Int) × (Nat → Int)} (h : f_OP_16 N a1 (σ 3) (σ 4) (σ 5) (σ 26) (σ 27) (σ 28) (σ 29) (σ 30) (σ 49) (τ 2) (τ 3) (τ 4) (τ 34) (τ 35) (τ 36) (τ 37) (τ 38) (τ 39) = some o) : (True) ∧ SIM3 (zst σ [(3, o.2.2.1), (4, o.2.2.2.1), (5, o.2.2.2.2.1), (29, o.2.2.2.2.2.1), (30, o.2.2.2.2.2.2.1)]) (zta τ [(2, o.2.2.2.2.2.2.2.1), (3, o.2.2.2.2.2.2.2.2.1), (4, o.2.2.2.2.2.2.2.2.2)]) := by
  obtain ⟨x_RI, x_h16, x_h17, x_b0, x_e0, x_t1, x_m, x_em, x_ch, x_ech, x_pa, x_epa, x_la, x_fo, x_h63, x_h64, x_st, x_ex, x_pl, x_te, x_Rst, x_Rex, x_Rtr, x_Rpl, x_Rte, x_Rgo, x_im, x_k6, x_k0, x_kp, x_m0, x_m1, x_h85, x_h87, x_m61, x_h83⟩ := hX
  obtain ⟨S1, S2, S3, S4, S5, S6⟩ := hS
  obtain ⟨T1, T2, T3, T4, T5, T6, T7⟩ := hT
  unfold f_OP_16 at h
  obtain ⟨x_ans, n_s3, n_s29, n_s30, n_t2, e1, h⟩ := xz_d5 h
  obtain ⟨y_ans, n_s4, n_s5, n_t3, n_t4, e2, h⟩ := xz_d5 h
  have q := x_force b_a1 x_la x_fo S4 e1 e2
  have c := CREL_c x_m.2 x_h63 T1 (fun _ _ => rfl) (fun _ _ => rfl) (fun j hj => q.2.2.2.2 (9 + j) (by omega)) (fun j hj => q.2.2.2.2 (21 + j) (by omega))
  cases h
  exact ⟨trivial, c, T2, T3, q.2.1, q.2.2.1 T5, T6, T7⟩
set_option maxHeartbeats 4000000 in
set_option maxRecDepth 10000 in
theorem z_17 {N : Int} {σ : Nat → Int} {τ : Nat → Nat → Int} (hX : XX3 σ τ) (hS : SIM2 σ τ) (hT : SIM3 σ τ) (a1 : Int) (a2 : Int) (a3 : Int) (b_a1 : (-2147483648) ≤ a1 ∧ a1 ≤ 2147483647) (b_a2 : (-2147483648) ≤ a2 ∧ a2 ≤ 2147483647) (b_a3 : (-2147483648) ≤ a3 ∧ a3 ≤ 2147483647) {o : Int × Int × Int × Int × Int × Int × Int × Int × Int × Int × (Nat → Int) × (Nat → Int) × (Nat → Int) × (Nat → Int) × (Nat → Int) × (Nat → Int)} (h : f_OP_17 N a1 a2 a3 (σ 4) (σ 19) (σ 20) (σ 21) (σ 22) (σ 26) (σ 28) (σ 29) (σ 34) (σ 35) (σ 36) (σ 49) (τ 4) (τ 14) (τ 15) (τ 16) (τ 17) (τ 34) (τ 35) (τ 38) (τ 40) (τ 41) (τ 46) (τ 47) (τ 63) (τ 64) = some o) : (o.1 = o.2.1) ∧ SIM3 (zst σ [(4, o.2.2.1), (19, o.2.2.2.1), (20, o.2.2.2.2.1), (21, o.2.2.2.2.2.1), (22, o.2.2.2.2.2.2.1), (34, o.2.2.2.2.2.2.2.1), (35, o.2.2.2.2.2.2.2.2.1), (36, o.2.2.2.2.2.2.2.2.2.1)]) (zta τ [(14, o.2.2.2.2.2.2.2.2.2.2.1), (15, o.2.2.2.2.2.2.2.2.2.2.2.1), (16, o.2.2.2.2.2.2.2.2.2.2.2.2.1), (17, o.2.2.2.2.2.2.2.2.2.2.2.2.2.1), (46, o.2.2.2.2.2.2.2.2.2.2.2.2.2.2.1), (47, o.2.2.2.2.2.2.2.2.2.2.2.2.2.2.2)]) := by
  obtain ⟨x_RI, x_h16, x_h17, x_b0, x_e0, x_t1, x_m, x_em, x_ch, x_ech, x_pa, x_epa, x_la, x_fo, x_h63, x_h64, x_st, x_ex, x_pl, x_te, x_Rst, x_Rex, x_Rtr, x_Rpl, x_Rte, x_Rgo, x_im, x_k6, x_k0, x_kp, x_m0, x_m1, x_h85, x_h87, x_m61, x_h83⟩ := hX
  obtain ⟨S1, S2, S3, S4, S5, S6⟩ := hS
  obtain ⟨T1, T2, T3, T4, T5, T6, T7⟩ := hT
  unfold f_OP_17 at h
  obtain ⟨x_ans, n_s34, n_s35, n_s36, n_t46, n_t47, e1, h⟩ := xz_d6 h
  obtain ⟨y_ans, n_s4, n_s19, n_s20, n_s21, n_s22, n_t14, n_t15, n_t16, n_t17, e2, h⟩ := xz_d10 h
  have q := x_can b_a1 b_a2 b_a3 (x3_J x_RI x_ch x_ech x_Rst x_Rex x_st x_ex x_Rte x_te x_la x_fo S4) x_m x_em x_h63 x_h64 ⟨S4, T1⟩ e1 e2
  cases h
  exact ⟨q, T1, T2, T3, T4, T5, T6, T7⟩
set_option maxHeartbeats 4000000 in
set_option maxRecDepth 10000 in
theorem z_18 {N : Int} {σ : Nat → Int} {τ : Nat → Nat → Int} (hX : XX3 σ τ) (hS : SIM2 σ τ) (hT : SIM3 σ τ) (a1 : Int) (a2 : Int) (a3 : Int) (b_a1 : (-2147483648) ≤ a1 ∧ a1 ≤ 2147483647) (b_a2 : (-2147483648) ≤ a2 ∧ a2 ≤ 2147483647) (b_a3 : (-2147483648) ≤ a3 ∧ a3 ≤ 2147483647) {o : Int × Int × Int × Int × Int × Int × Int × Int × Int × Int × (Nat → Int) × (Nat → Int) × (Nat → Int) × (Nat → Int) × (Nat → Int) × (Nat → Int)} (h : f_OP_18 N a1 a2 a3 (σ 4) (σ 19) (σ 20) (σ 21) (σ 22) (σ 26) (σ 28) (σ 29) (σ 34) (σ 35) (σ 36) (σ 49) (τ 4) (τ 14) (τ 15) (τ 16) (τ 17) (τ 34) (τ 35) (τ 38) (τ 40) (τ 41) (τ 46) (τ 47) (τ 63) (τ 64) = some o) : (o.1 = o.2.1) ∧ SIM3 (zst σ [(4, o.2.2.1), (19, o.2.2.2.1), (20, o.2.2.2.2.1), (21, o.2.2.2.2.2.1), (22, o.2.2.2.2.2.2.1), (34, o.2.2.2.2.2.2.2.1), (35, o.2.2.2.2.2.2.2.2.1), (36, o.2.2.2.2.2.2.2.2.2.1)]) (zta τ [(14, o.2.2.2.2.2.2.2.2.2.2.1), (15, o.2.2.2.2.2.2.2.2.2.2.2.1), (16, o.2.2.2.2.2.2.2.2.2.2.2.2.1), (17, o.2.2.2.2.2.2.2.2.2.2.2.2.2.1), (46, o.2.2.2.2.2.2.2.2.2.2.2.2.2.2.1), (47, o.2.2.2.2.2.2.2.2.2.2.2.2.2.2.2)]) := by
  obtain ⟨x_RI, x_h16, x_h17, x_b0, x_e0, x_t1, x_m, x_em, x_ch, x_ech, x_pa, x_epa, x_la, x_fo, x_h63, x_h64, x_st, x_ex, x_pl, x_te, x_Rst, x_Rex, x_Rtr, x_Rpl, x_Rte, x_Rgo, x_im, x_k6, x_k0, x_kp, x_m0, x_m1, x_h85, x_h87, x_m61, x_h83⟩ := hX
  obtain ⟨S1, S2, S3, S4, S5, S6⟩ := hS
  obtain ⟨T1, T2, T3, T4, T5, T6, T7⟩ := hT
  unfold f_OP_18 at h
  obtain ⟨x_ans, n_s34, n_s35, n_s36, n_t46, n_t47, e1, h⟩ := xz_d6 h
  obtain ⟨y_ans, n_s4, n_s19, n_s20, n_s21, n_s22, n_t14, n_t15, n_t16, n_t17, e2, h⟩ := xz_d10 h
  have q := x_tires b_a1 b_a2 b_a3 (x3_J x_RI x_ch x_ech x_Rst x_Rex x_st x_ex x_Rte x_te x_la x_fo S4) x_m x_em x_h63 x_h64 ⟨S4, T1⟩ e1 e2
  cases h
  exact ⟨q, T1, T2, T3, T4, T5, T6, T7⟩
set_option maxHeartbeats 4000000 in
set_option maxRecDepth 10000 in
theorem z_19 {N : Int} {σ : Nat → Int} {τ : Nat → Nat → Int} (hX : XX3 σ τ) (hS : SIM2 σ τ) (hT : SIM3 σ τ) (a1 : Int) (a2 : Int) (a3 : Int) (b_a1 : (-2147483648) ≤ a1 ∧ a1 ≤ 2147483647) (b_a2 : (-2147483648) ≤ a2 ∧ a2 ≤ 2147483647) (b_a3 : (-2147483648) ≤ a3 ∧ a3 ≤ 2147483647) {o : Int × Int × Int × Int × Int × Int × Int × Int × Int × Int × Int × Int × Int × (Nat → Int) × (Nat → Int) × (Nat → Int) × (Nat → Int) × (Nat → Int) × (Nat → Int) × (Nat → Int) × (Nat → Int) × (Nat → Int) × (Nat → Int) × (Nat → Int)} (h : f_OP_19 N a1 a2 a3 (σ 3) (σ 4) (σ 5) (σ 19) (σ 20) (σ 21) (σ 22) (σ 26) (σ 27) (σ 28) (σ 29) (σ 30) (σ 34) (σ 35) (σ 36) (σ 49) (τ 2) (τ 3) (τ 4) (τ 14) (τ 15) (τ 16) (τ 17) (τ 34) (τ 35) (τ 36) (τ 37) (τ 38) (τ 39) (τ 40) (τ 41) (τ 46) (τ 47) (τ 63) (τ 64) = some o) : (o.1 = o.2.1) ∧ SIM3 (zst σ [(3, o.2.2.1), (4, o.2.2.2.1), (5, o.2.2.2.2.1), (19, o.2.2.2.2.2.1), (20, o.2.2.2.2.2.2.1), (21, o.2.2.2.2.2.2.2.1), (22, o.2.2.2.2.2.2.2.2.1), (30, o.2.2.2.2.2.2.2.2.2.1), (34, o.2.2.2.2.2.2.2.2.2.2.1), (35, o.2.2.2.2.2.2.2.2.2.2.2.1), (36, o.2.2.2.2.2.2.2.2.2.2.2.2.1)]) (zta τ [(2, o.2.2.2.2.2.2.2.2.2.2.2.2.2.1), (3, o.2.2.2.2.2.2.2.2.2.2.2.2.2.2.1), (4, o.2.2.2.2.2.2.2.2.2.2.2.2.2.2.2.1), (14, o.2.2.2.2.2.2.2.2.2.2.2.2.2.2.2.2.1), (15, o.2.2.2.2.2.2.2.2.2.2.2.2.2.2.2.2.2.1), (16, o.2.2.2.2.2.2.2.2.2.2.2.2.2.2.2.2.2.2.1), (17, o.2.2.2.2.2.2.2.2.2.2.2.2.2.2.2.2.2.2.2.1), (46, o.2.2.2.2.2.2.2.2.2.2.2.2.2.2.2.2.2.2.2.2.1), (47, o.2.2.2.2.2.2.2.2.2.2.2.2.2.2.2.2.2.2.2.2.2.1), (63, o.2.2.2.2.2.2.2.2.2.2.2.2.2.2.2.2.2.2.2.2.2.2.1), (64, o.2.2.2.2.2.2.2.2.2.2.2.2.2.2.2.2.2.2.2.2.2.2.2)]) := by
  obtain ⟨x_RI, x_h16, x_h17, x_b0, x_e0, x_t1, x_m, x_em, x_ch, x_ech, x_pa, x_epa, x_la, x_fo, x_h63, x_h64, x_st, x_ex, x_pl, x_te, x_Rst, x_Rex, x_Rtr, x_Rpl, x_Rte, x_Rgo, x_im, x_k6, x_k0, x_kp, x_m0, x_m1, x_h85, x_h87, x_m61, x_h83⟩ := hX
  obtain ⟨S1, S2, S3, S4, S5, S6⟩ := hS
  obtain ⟨T1, T2, T3, T4, T5, T6, T7⟩ := hT
  unfold f_OP_19 at h
  obtain ⟨x_ans, n_s3, n_s30, n_t2, n_s34, n_s35, n_s36, n_t46, n_t47, n_t63, n_t64, e1, h⟩ := xz_d11 h
  obtain ⟨y_ans, n_s4, n_s5, n_s19, n_s20, n_s21, n_s22, n_t3, n_t4, n_t14, n_t15, n_t16, n_t17, e2, h⟩ := xz_d13 h
  have q := x_carry b_a1 b_a2 b_a3 (x3_J x_RI x_ch x_ech x_Rst x_Rex x_st x_ex x_Rte x_te x_la x_fo S4) x_m x_em x_h63 x_h64 ⟨S4, T1⟩ e1 e2
  cases h
  exact ⟨q.1.1, q.2.2, T2, T3, q.1.2.1, q.1.2.2 T5, T6, T7⟩
set_option maxHeartbeats 4000000 in
set_option maxRecDepth 10000 in
theorem z_20 {N : Int} {σ : Nat → Int} {τ : Nat → Nat → Int} (hX : XX3 σ τ) (hS : SIM2 σ τ) (hT : SIM3 σ τ) (a1 : Int) (a2 : Int) (a3 : Int) (a4 : Int) (b_a1 : (-2147483648) ≤ a1 ∧ a1 ≤ 2147483647) (b_a2 : (-2147483648) ≤ a2 ∧ a2 ≤ 2147483647) (b_a3 : (-2147483648) ≤ a3 ∧ a3 ≤ 2147483647) (b_a4 : (-2147483648) ≤ a4 ∧ a4 ≤ 2147483647) {o : Int × Int × Int × Int × Int × Int × Int × Int × Int × Int × Int × Int × Int × (Nat → Int) × (Nat → Int) × (Nat → Int) × (Nat → Int) × (Nat → Int) × (Nat → Int) × (Nat → Int) × (Nat → Int) × (Nat → Int) × (Nat → Int) × (Nat → Int)} (h : f_OP_20 N a1 a2 a3 a4 (σ 3) (σ 4) (σ 5) (σ 19) (σ 20) (σ 21) (σ 22) (σ 26) (σ 27) (σ 28) (σ 29) (σ 30) (σ 34) (σ 35) (σ 36) (σ 49) (τ 2) (τ 3) (τ 4) (τ 14) (τ 15) (τ 16) (τ 17) (τ 34) (τ 35) (τ 36) (τ 37) (τ 38) (τ 39) (τ 40) (τ 41) (τ 46) (τ 47) (τ 63) (τ 64) = some o) : (o.1 = o.2.1) ∧ SIM3 (zst σ [(3, o.2.2.1), (4, o.2.2.2.1), (5, o.2.2.2.2.1), (19, o.2.2.2.2.2.1), (20, o.2.2.2.2.2.2.1), (21, o.2.2.2.2.2.2.2.1), (22, o.2.2.2.2.2.2.2.2.1), (30, o.2.2.2.2.2.2.2.2.2.1), (34, o.2.2.2.2.2.2.2.2.2.2.1), (35, o.2.2.2.2.2.2.2.2.2.2.2.1), (36, o.2.2.2.2.2.2.2.2.2.2.2.2.1)]) (zta τ [(2, o.2.2.2.2.2.2.2.2.2.2.2.2.2.1), (3, o.2.2.2.2.2.2.2.2.2.2.2.2.2.2.1), (4, o.2.2.2.2.2.2.2.2.2.2.2.2.2.2.2.1), (14, o.2.2.2.2.2.2.2.2.2.2.2.2.2.2.2.2.1), (15, o.2.2.2.2.2.2.2.2.2.2.2.2.2.2.2.2.2.1), (16, o.2.2.2.2.2.2.2.2.2.2.2.2.2.2.2.2.2.2.1), (17, o.2.2.2.2.2.2.2.2.2.2.2.2.2.2.2.2.2.2.2.1), (46, o.2.2.2.2.2.2.2.2.2.2.2.2.2.2.2.2.2.2.2.2.1), (47, o.2.2.2.2.2.2.2.2.2.2.2.2.2.2.2.2.2.2.2.2.2.1), (63, o.2.2.2.2.2.2.2.2.2.2.2.2.2.2.2.2.2.2.2.2.2.2.1), (64, o.2.2.2.2.2.2.2.2.2.2.2.2.2.2.2.2.2.2.2.2.2.2.2)]) := by
  obtain ⟨x_RI, x_h16, x_h17, x_b0, x_e0, x_t1, x_m, x_em, x_ch, x_ech, x_pa, x_epa, x_la, x_fo, x_h63, x_h64, x_st, x_ex, x_pl, x_te, x_Rst, x_Rex, x_Rtr, x_Rpl, x_Rte, x_Rgo, x_im, x_k6, x_k0, x_kp, x_m0, x_m1, x_h85, x_h87, x_m61, x_h83⟩ := hX
  obtain ⟨S1, S2, S3, S4, S5, S6⟩ := hS
  obtain ⟨T1, T2, T3, T4, T5, T6, T7⟩ := hT
  unfold f_OP_20 at h
  obtain ⟨x_ans, n_s3, n_s30, n_t2, n_s34, n_s35, n_s36, n_t46, n_t47, n_t63, n_t64, e1, h⟩ := xz_d11 h
  obtain ⟨y_ans, n_s4, n_s5, n_s19, n_s20, n_s21, n_s22, n_t3, n_t4, n_t14, n_t15, n_t16, n_t17, e2, h⟩ := xz_d13 h
  have q := x_exchange b_a1 b_a2 b_a3 b_a4 (x3_J x_RI x_ch x_ech x_Rst x_Rex x_st x_ex x_Rte x_te x_la x_fo S4) x_m x_em x_h63 x_h64 ⟨S4, T1⟩ (x3_t3 x_RI x_Rte) e1 e2
  cases h
  exact ⟨q.1.1, q.2.2, T2, T3, q.1.2.1, q.1.2.2 T5, T6, T7⟩
set_option maxHeartbeats 4000000 in
set_option maxRecDepth 10000 in
theorem z_21 {N : Int} {σ : Nat → Int} {τ : Nat → Nat → Int} (hX : XX3 σ τ) (hS : SIM2 σ τ) (hT : SIM3 σ τ)  {o : Int × Int × Int × (Nat → Int) × (Nat → Int)} (h : f_OP_21 N (σ 4) (σ 49) (τ 4) (τ 16) (τ 17) (τ 38) (τ 63) = some o) : (o.1 = o.2.1) ∧ SIM3 (zst σ [(4, o.2.2.1)]) (zta τ [(16, o.2.2.2.1), (17, o.2.2.2.2)]) := by
  obtain ⟨x_RI, x_h16, x_h17, x_b0, x_e0, x_t1, x_m, x_em, x_ch, x_ech, x_pa, x_epa, x_la, x_fo, x_h63, x_h64, x_st, x_ex, x_pl, x_te, x_Rst, x_Rex, x_Rtr, x_Rpl, x_Rte, x_Rgo, x_im, x_k6, x_k0, x_kp, x_m0, x_m1, x_h85, x_h87, x_m61, x_h83⟩ := hX
  obtain ⟨S1, S2, S3, S4, S5, S6⟩ := hS
  obtain ⟨T1, T2, T3, T4, T5, T6, T7⟩ := hT
  unfold f_OP_21 at h
  obtain ⟨x_ans, e1, h⟩ := xz_d1 h
  obtain ⟨y_ans, n_s4, n_t16, n_t17, e2, h⟩ := xz_d4 h
  have q := x_steep x_m x_em x_h63 (x3_t2 x_RI x_Rte) T1 e1 e2
  cases h
  exact ⟨q, T1, T2, T3, T4, T5, T6, T7⟩
set_option maxHeartbeats 4000000 in
set_option maxRecDepth 10000 in
theorem z_22 {N : Int} {σ : Nat → Int} {τ : Nat → Nat → Int} (hX : XX3 σ τ) (hS : SIM2 σ τ) (hT : SIM3 σ τ)  {o : Int × Int × Int × Int × (Nat → Int) × (Nat → Int) × (Nat → Int) × (Nat → Int) × (Nat → Int)} (h : f_OP_22 N (σ 4) (σ 26) (σ 27) (σ 30) (σ 49) (τ 4) (τ 16) (τ 17) (τ 34) (τ 35) (τ 36) (τ 37) (τ 38) (τ 39) (τ 63) (τ 64) = some o) : (o.1 = o.2.1) ∧ SIM3 (zst σ [(4, o.2.2.1), (30, o.2.2.2.1)]) (zta τ [(4, o.2.2.2.2.1), (16, o.2.2.2.2.2.1), (17, o.2.2.2.2.2.2.1), (63, o.2.2.2.2.2.2.2.1), (64, o.2.2.2.2.2.2.2.2)]) := by
  obtain ⟨x_RI, x_h16, x_h17, x_b0, x_e0, x_t1, x_m, x_em, x_ch, x_ech, x_pa, x_epa, x_la, x_fo, x_h63, x_h64, x_st, x_ex, x_pl, x_te, x_Rst, x_Rex, x_Rtr, x_Rpl, x_Rte, x_Rgo, x_im, x_k6, x_k0, x_kp, x_m0, x_m1, x_h85, x_h87, x_m61, x_h83⟩ := hX
  obtain ⟨S1, S2, S3, S4, S5, S6⟩ := hS
  obtain ⟨T1, T2, T3, T4, T5, T6, T7⟩ := hT
  unfold f_OP_22 at h
  obtain ⟨x_ans, n_s30, n_t63, n_t64, e1, h⟩ := xz_d4 h
  obtain ⟨y_ans, n_s4, n_t4, n_t16, n_t17, e2, h⟩ := xz_d5 h
  have q := x_slide x_m x_em x_h63 (x3_t2 x_RI x_Rte) ⟨S4, T1⟩ e1 e2
  cases h
  exact ⟨q.1, q.2.2, T2, T3, T4, T5, T6, T7⟩
set_option maxHeartbeats 4000000 in
set_option maxRecDepth 10000 in
theorem z_23 {N : Int} {σ : Nat → Int} {τ : Nat → Nat → Int} (hX : XX3 σ τ) (hS : SIM2 σ τ) (hT : SIM3 σ τ) (a1 : Int) (b_a1 : (-2147483648) ≤ a1 ∧ a1 ≤ 2147483647) {o : Int × Int × Int × (Nat → Int) × (Nat → Int)} (h : f_OP_23 N a1 (σ 4) (σ 27) (σ 49) (τ 4) (τ 16) (τ 17) (τ 37) (τ 38) (τ 63) = some o) : (o.1 = o.2.1) ∧ SIM3 (zst σ [(4, o.2.2.1)]) (zta τ [(16, o.2.2.2.1), (17, o.2.2.2.2)]) := by
  obtain ⟨x_RI, x_h16, x_h17, x_b0, x_e0, x_t1, x_m, x_em, x_ch, x_ech, x_pa, x_epa, x_la, x_fo, x_h63, x_h64, x_st, x_ex, x_pl, x_te, x_Rst, x_Rex, x_Rtr, x_Rpl, x_Rte, x_Rgo, x_im, x_k6, x_k0, x_kp, x_m0, x_m1, x_h85, x_h87, x_m61, x_h83⟩ := hX
  obtain ⟨S1, S2, S3, S4, S5, S6⟩ := hS
  obtain ⟨T1, T2, T3, T4, T5, T6, T7⟩ := hT
  unfold f_OP_23 at h
  obtain ⟨x_ans, e1, h⟩ := xz_d1 h
  obtain ⟨y_ans, n_s4, n_t16, n_t17, e2, h⟩ := xz_d4 h
  have q := x_shade b_a1 x_m x_em x_h63 (x3_P x_RI x_pa x_epa x_Rpl x_pl x_Rte) T1 e1 e2
  cases h
  exact ⟨q, T1, T2, T3, T4, T5, T6, T7⟩
set_option maxHeartbeats 4000000 in
set_option maxRecDepth 10000 in
theorem z_24 {N : Int} {σ : Nat → Int} {τ : Nat → Nat → Int} (hX : XX3 σ τ) (hS : SIM2 σ τ) (hT : SIM3 σ τ) (a1 : Int) (a2 : Int) (a3 : Int) (a4 : Int) (b_a1 : (-2147483648) ≤ a1 ∧ a1 ≤ 2147483647) (b_a2 : (-2147483648) ≤ a2 ∧ a2 ≤ 2147483647) (b_a3 : (-2147483648) ≤ a3 ∧ a3 ≤ 2147483647) (b_a4 : (-2147483648) ≤ a4 ∧ a4 ≤ 2147483647) {o : Int × Int × Int × Int × Int × Int × Int × Int × Int × Int × (Nat → Int) × (Nat → Int) × (Nat → Int) × (Nat → Int) × (Nat → Int) × (Nat → Int) × (Nat → Int) × (Nat → Int)} (h : f_OP_24 N a1 a2 a3 a4 (σ 4) (σ 19) (σ 20) (σ 21) (σ 22) (σ 26) (σ 27) (σ 28) (σ 29) (σ 34) (σ 35) (σ 36) (σ 49) (τ 4) (τ 14) (τ 15) (τ 16) (τ 17) (τ 34) (τ 35) (τ 37) (τ 38) (τ 40) (τ 41) (τ 46) (τ 47) (τ 63) (τ 64) = some o) : (o.1 = o.2.1) ∧ SIM3 (zst σ [(4, o.2.2.1), (19, o.2.2.2.1), (20, o.2.2.2.2.1), (21, o.2.2.2.2.2.1), (22, o.2.2.2.2.2.2.1), (34, o.2.2.2.2.2.2.2.1), (35, o.2.2.2.2.2.2.2.2.1), (36, o.2.2.2.2.2.2.2.2.2.1)]) (zta τ [(14, o.2.2.2.2.2.2.2.2.2.2.1), (15, o.2.2.2.2.2.2.2.2.2.2.2.1), (16, o.2.2.2.2.2.2.2.2.2.2.2.2.1), (17, o.2.2.2.2.2.2.2.2.2.2.2.2.2.1), (46, o.2.2.2.2.2.2.2.2.2.2.2.2.2.2.1), (47, o.2.2.2.2.2.2.2.2.2.2.2.2.2.2.2.1), (63, o.2.2.2.2.2.2.2.2.2.2.2.2.2.2.2.2.1), (64, o.2.2.2.2.2.2.2.2.2.2.2.2.2.2.2.2.2)]) := by
  obtain ⟨x_RI, x_h16, x_h17, x_b0, x_e0, x_t1, x_m, x_em, x_ch, x_ech, x_pa, x_epa, x_la, x_fo, x_h63, x_h64, x_st, x_ex, x_pl, x_te, x_Rst, x_Rex, x_Rtr, x_Rpl, x_Rte, x_Rgo, x_im, x_k6, x_k0, x_kp, x_m0, x_m1, x_h85, x_h87, x_m61, x_h83⟩ := hX
  obtain ⟨S1, S2, S3, S4, S5, S6⟩ := hS
  obtain ⟨T1, T2, T3, T4, T5, T6, T7⟩ := hT
  unfold f_OP_24 at h
  obtain ⟨x_ans, n_s34, n_s35, n_s36, n_t46, n_t47, n_t63, n_t64, e1, h⟩ := xz_d8 h
  obtain ⟨y_ans, n_s4, n_s19, n_s20, n_s21, n_s22, n_t14, n_t15, n_t16, n_t17, e2, h⟩ := xz_d10 h
  have q := x_gains b_a1 b_a2 b_a3 b_a4 (x3_J x_RI x_ch x_ech x_Rst x_Rex x_st x_ex x_Rte x_te x_la x_fo S4) x_m x_em x_h63 x_h64 ⟨S4, T1⟩ (x3_P x_RI x_pa x_epa x_Rpl x_pl x_Rte) e1 e2
  cases h
  exact ⟨q.1, q.2.2, T2, T3, T4, T5, T6, T7⟩
set_option maxHeartbeats 4000000 in
set_option maxRecDepth 10000 in
theorem z_25 {N : Int} {σ : Nat → Int} {τ : Nat → Nat → Int} (hX : XX3 σ τ) (hS : SIM2 σ τ) (hT : SIM3 σ τ) (a1 : Int) (a2 : Int) (b_a1 : (-2147483648) ≤ a1 ∧ a1 ≤ 2147483647) (b_a2 : (-2147483648) ≤ a2 ∧ a2 ≤ 2147483647) {o : Int × Int × Int × Int × Int × Int × (Nat → Int) × (Nat → Int) × (Nat → Int) × (Nat → Int)} (h : f_OP_25 N a1 a2 (σ 3) (σ 4) (σ 5) (σ 26) (σ 27) (σ 30) (σ 49) (τ 2) (τ 3) (τ 4) (τ 34) (τ 35) (τ 36) (τ 37) (τ 38) (τ 39) = some o) : (True) ∧ SIM3 (zst σ [(3, o.2.2.1), (4, o.2.2.2.1), (5, o.2.2.2.2.1), (30, o.2.2.2.2.2.1)]) (zta τ [(2, o.2.2.2.2.2.2.1), (3, o.2.2.2.2.2.2.2.1), (4, o.2.2.2.2.2.2.2.2.1), (39, o.2.2.2.2.2.2.2.2.2)]) := by
  obtain ⟨x_RI, x_h16, x_h17, x_b0, x_e0, x_t1, x_m, x_em, x_ch, x_ech, x_pa, x_epa, x_la, x_fo, x_h63, x_h64, x_st, x_ex, x_pl, x_te, x_Rst, x_Rex, x_Rtr, x_Rpl, x_Rte, x_Rgo, x_im, x_k6, x_k0, x_kp, x_m0, x_m1, x_h85, x_h87, x_m61, x_h83⟩ := hX
  obtain ⟨S1, S2, S3, S4, S5, S6⟩ := hS
  obtain ⟨T1, T2, T3, T4, T5, T6, T7⟩ := hT
  unfold f_OP_25 at h
  obtain ⟨x_ans, n_s3, n_s30, n_t2, n_t39, e1, h⟩ := xz_d5 h
  obtain ⟨y_ans, n_s4, n_s5, n_t3, n_t4, e2, h⟩ := xz_d5 h
  have q := x_goal b_a1 b_a2 x_m x_em (RV1 x_Rgo) e1 e2
  have c := (HILL_f ⟨S4, T1⟩ x_m.2 x_h63 (fr_goal b_a1 (RI_0 x_RI) e2)).2
  cases h
  exact ⟨trivial, c, T2, T3, q.1, q.2 T5, T6, T7⟩
