set_option maxHeartbeats 4000000 in
set_option maxRecDepth 10000 in
theorem y_0 {N : Int} {σ : Nat → Int} {τ : Nat → Nat → Int} (hX : XX σ τ) (hS : SIM2 σ τ)  {o : Int × Int × Int × Int × Int × Int × Int × (Nat → Int) × (Nat → Int) × (Nat → Int) × (Nat → Int) × (Nat → Int)} (h : f_OP_0 N (σ 3) (σ 4) (σ 5) (σ 26) (σ 27) (σ 30) (σ 49) (τ 2) (τ 3) (τ 4) (τ 34) (τ 35) (τ 36) (τ 37) (τ 38) (τ 39) (τ 63) = some o) : (True) ∧ SIM2 (zst σ [(3, o.2.2.1), (4, o.2.2.2.1), (5, o.2.2.2.2.1), (30, o.2.2.2.2.2.1), (49, o.2.2.2.2.2.2.1)]) (zta τ [(2, o.2.2.2.2.2.2.2.1), (3, o.2.2.2.2.2.2.2.2.1), (4, o.2.2.2.2.2.2.2.2.2.1), (39, o.2.2.2.2.2.2.2.2.2.2.1), (63, o.2.2.2.2.2.2.2.2.2.2.2)]) := by
  obtain ⟨x_RI, x_h16, x_h17, x_b0, x_e0, x_t1, x_la, x_fo, x_im, x_k6, x_la0, x_la1, x_t7, x_b7⟩ := hX
  obtain ⟨S1, S2, S3, S4, S5, S6⟩ := hS
  unfold f_OP_0 at h
  obtain ⟨x_ans, n_s3, n_s30, n_t2, n_s49, n_t39, n_t63, e1, h⟩ := xz_d7 h
  obtain ⟨y_ans, n_s4, n_s5, n_t3, n_t4, e2, h⟩ := xz_d5 h
  have fr : FRM (τ 4) n_t4 := fr_column (RI_0 x_RI) e2
  cases h
  exact ⟨trivial, S1, S2, S3, HILL2_f S4 fr, S5, S6⟩
set_option maxHeartbeats 4000000 in
set_option maxRecDepth 10000 in
theorem y_1 {N : Int} {σ : Nat → Int} {τ : Nat → Nat → Int} (hX : XX σ τ) (hS : SIM2 σ τ) (a1 : Int) (a2 : Int) (b_a1 : (-2147483648) ≤ a1 ∧ a1 ≤ 2147483647) (b_a2 : (-2147483648) ≤ a2 ∧ a2 ≤ 2147483647) {o : Int × Int × Int × Int × Int × Int × (Nat → Int) × (Nat → Int) × (Nat → Int) × (Nat → Int) × (Nat → Int)} (h : f_OP_1 N a1 a2 (σ 3) (σ 4) (σ 5) (σ 26) (σ 27) (σ 30) (σ 49) (τ 2) (τ 3) (τ 4) (τ 34) (τ 35) (τ 36) (τ 37) (τ 38) (τ 39) (τ 63) (τ 64) = some o) : (True) ∧ SIM2 (zst σ [(3, o.2.2.1), (4, o.2.2.2.1), (5, o.2.2.2.2.1), (30, o.2.2.2.2.2.1)]) (zta τ [(2, o.2.2.2.2.2.2.1), (3, o.2.2.2.2.2.2.2.1), (4, o.2.2.2.2.2.2.2.2.1), (63, o.2.2.2.2.2.2.2.2.2.1), (64, o.2.2.2.2.2.2.2.2.2.2)]) := by
  obtain ⟨x_RI, x_h16, x_h17, x_b0, x_e0, x_t1, x_la, x_fo, x_im, x_k6, x_la0, x_la1, x_t7, x_b7⟩ := hX
  obtain ⟨S1, S2, S3, S4, S5, S6⟩ := hS
  unfold f_OP_1 at h
  obtain ⟨x_ans, n_s3, n_s30, n_t2, n_t63, n_t64, e1, h⟩ := xz_d6 h
  obtain ⟨y_ans, n_s4, n_s5, n_t3, n_t4, e2, h⟩ := xz_d5 h
  have fr : FRM (τ 4) n_t4 := FRM_g (zok_x (s_HM_stone _ _ _ _ _ _ b_a1 b_a2 x_RI) e2).2
  cases h
  exact ⟨trivial, S1, S2, S3, HILL2_f S4 fr, S5, S6⟩
set_option maxHeartbeats 4000000 in
set_option maxRecDepth 10000 in
theorem y_2 {N : Int} {σ : Nat → Int} {τ : Nat → Nat → Int} (hX : XX σ τ) (hS : SIM2 σ τ) (a1 : Int) (b_a1 : (-2147483648) ≤ a1 ∧ a1 ≤ 2147483647) {o : Int × Int × Int × Int × Int × Int × (Nat → Int) × (Nat → Int) × (Nat → Int) × (Nat → Int)} (h : f_OP_2 N a1 (σ 3) (σ 4) (σ 5) (σ 26) (σ 27) (σ 30) (σ 49) (τ 2) (τ 3) (τ 4) (τ 34) (τ 35) (τ 36) (τ 37) (τ 38) (τ 39) (τ 63) (τ 64) = some o) : (True) ∧ SIM2 (zst σ [(3, o.2.2.1), (4, o.2.2.2.1), (5, o.2.2.2.2.1), (30, o.2.2.2.2.2.1)]) (zta τ [(2, o.2.2.2.2.2.2.1), (3, o.2.2.2.2.2.2.2.1), (4, o.2.2.2.2.2.2.2.2.1), (63, o.2.2.2.2.2.2.2.2.2)]) := by
  obtain ⟨x_RI, x_h16, x_h17, x_b0, x_e0, x_t1, x_la, x_fo, x_im, x_k6, x_la0, x_la1, x_t7, x_b7⟩ := hX
  obtain ⟨S1, S2, S3, S4, S5, S6⟩ := hS
  unfold f_OP_2 at h
  obtain ⟨x_ans, n_s3, n_s30, n_t2, n_t63, e1, h⟩ := xz_d5 h
  obtain ⟨y_ans, n_s4, n_s5, n_t3, n_t4, e2, h⟩ := xz_d5 h
  have fr : FRM (τ 4) n_t4 := FRM_g (zok_x (s_HM_lift _ _ _ _ _ b_a1 x_RI) e2).2
  cases h
  exact ⟨trivial, S1, S2, S3, HILL2_f S4 fr, S5, S6⟩
set_option maxHeartbeats 4000000 in
set_option maxRecDepth 10000 in
theorem y_3 {N : Int} {σ : Nat → Int} {τ : Nat → Nat → Int} (hX : XX σ τ) (hS : SIM2 σ τ) (a1 : Int) (a2 : Int) (b_a1 : (-2147483648) ≤ a1 ∧ a1 ≤ 2147483647) (b_a2 : (-2147483648) ≤ a2 ∧ a2 ≤ 2147483647) {o : Int × Int × Int} (h : f_OP_3 N a1 a2 (σ 4) (σ 49) (τ 4) (τ 63) (τ 64) = some o) : (True) ∧ SIM2 (zst σ [(4, o.2.2)]) τ := by
  obtain ⟨x_RI, x_h16, x_h17, x_b0, x_e0, x_t1, x_la, x_fo, x_im, x_k6, x_la0, x_la1, x_t7, x_b7⟩ := hX
  obtain ⟨S1, S2, S3, S4, S5, S6⟩ := hS
  unfold f_OP_3 at h
  obtain ⟨x_ans, e1, h⟩ := xz_d1 h
  obtain ⟨y_ans, n_s4, e2, h⟩ := xz_d2 h
  cases h
  exact ⟨trivial, S1, S2, S3, S4, S5, S6⟩
set_option maxHeartbeats 4000000 in
set_option maxRecDepth 10000 in
theorem y_4 {N : Int} {σ : Nat → Int} {τ : Nat → Nat → Int} (hX : XX σ τ) (hS : SIM2 σ τ) (a1 : Int) (b_a1 : (-2147483648) ≤ a1 ∧ a1 ≤ 2147483647) {o : Int × Int × Int} (h : f_OP_4 N a1 (σ 4) (σ 49) (τ 4) (τ 63) (τ 64) = some o) : (True) ∧ SIM2 (zst σ [(4, o.2.2)]) τ := by
  obtain ⟨x_RI, x_h16, x_h17, x_b0, x_e0, x_t1, x_la, x_fo, x_im, x_k6, x_la0, x_la1, x_t7, x_b7⟩ := hX
  obtain ⟨S1, S2, S3, S4, S5, S6⟩ := hS
  unfold f_OP_4 at h
  obtain ⟨x_ans, e1, h⟩ := xz_d1 h
  obtain ⟨y_ans, n_s4, e2, h⟩ := xz_d2 h
  cases h
  exact ⟨trivial, S1, S2, S3, S4, S5, S6⟩
set_option maxHeartbeats 4000000 in
set_option maxRecDepth 10000 in
theorem y_5 {N : Int} {σ : Nat → Int} {τ : Nat → Nat → Int} (hX : XX σ τ) (hS : SIM2 σ τ) (a1 : Int) (b_a1 : (-2147483648) ≤ a1 ∧ a1 ≤ 2147483647) {o : Int × Int × Int × Int × Int × Int × Int × (Nat → Int) × (Nat → Int) × (Nat → Int) × (Nat → Int) × (Nat → Int) × (Nat → Int)} (h : f_OP_5 N a1 (σ 3) (σ 4) (σ 5) (σ 26) (σ 27) (σ 30) (σ 49) (τ 2) (τ 3) (τ 4) (τ 34) (τ 35) (τ 36) (τ 37) (τ 38) (τ 39) = some o) : (True) ∧ SIM2 (zst σ [(3, o.2.2.1), (4, o.2.2.2.1), (5, o.2.2.2.2.1), (26, o.2.2.2.2.2.1), (30, o.2.2.2.2.2.2.1)]) (zta τ [(2, o.2.2.2.2.2.2.2.1), (3, o.2.2.2.2.2.2.2.2.1), (4, o.2.2.2.2.2.2.2.2.2.1), (34, o.2.2.2.2.2.2.2.2.2.2.1), (35, o.2.2.2.2.2.2.2.2.2.2.2.1), (36, o.2.2.2.2.2.2.2.2.2.2.2.2)]) := by
  obtain ⟨x_RI, x_h16, x_h17, x_b0, x_e0, x_t1, x_la, x_fo, x_im, x_k6, x_la0, x_la1, x_t7, x_b7⟩ := hX
  obtain ⟨S1, S2, S3, S4, S5, S6⟩ := hS
  unfold f_OP_5 at h
  obtain ⟨x_ans, n_s3, n_s26, n_s30, n_t2, n_t34, n_t35, n_t36, e1, h⟩ := xz_d8 h
  obtain ⟨y_ans, n_s4, n_s5, n_t3, n_t4, e2, h⟩ := xz_d5 h
  have fr : FRM (τ 4) n_t4 := FRM_3 (fr_child (RI_1 x_RI) e2)
  cases h
  exact ⟨trivial, S1, S2, S3, HILL2_f S4 fr, S5, S6⟩
set_option maxHeartbeats 4000000 in
set_option maxRecDepth 10000 in
theorem y_6 {N : Int} {σ : Nat → Int} {τ : Nat → Nat → Int} (hX : XX σ τ) (hS : SIM2 σ τ) (a1 : Int) (a2 : Int) (b_a1 : (-2147483648) ≤ a1 ∧ a1 ≤ 2147483647) (b_a2 : (-2147483648) ≤ a2 ∧ a2 ≤ 2147483647) {o : Int × Int × Int × Int × Int × Int × (Nat → Int) × (Nat → Int) × (Nat → Int) × (Nat → Int)} (h : f_OP_6 N a1 a2 (σ 3) (σ 4) (σ 5) (σ 26) (σ 27) (σ 30) (σ 49) (τ 2) (τ 3) (τ 4) (τ 34) (τ 35) (τ 36) (τ 37) (τ 38) (τ 39) = some o) : (True) ∧ SIM2 (zst σ [(3, o.2.2.1), (4, o.2.2.2.1), (5, o.2.2.2.2.1), (30, o.2.2.2.2.2.1)]) (zta τ [(2, o.2.2.2.2.2.2.1), (3, o.2.2.2.2.2.2.2.1), (4, o.2.2.2.2.2.2.2.2.1), (35, o.2.2.2.2.2.2.2.2.2)]) := by
  obtain ⟨x_RI, x_h16, x_h17, x_b0, x_e0, x_t1, x_la, x_fo, x_im, x_k6, x_la0, x_la1, x_t7, x_b7⟩ := hX
  obtain ⟨S1, S2, S3, S4, S5, S6⟩ := hS
  unfold f_OP_6 at h
  obtain ⟨x_ans, n_s3, n_s30, n_t2, n_t35, e1, h⟩ := xz_d5 h
  obtain ⟨y_ans, n_s4, n_s5, n_t3, n_t4, e2, h⟩ := xz_d5 h
  have fr : FRM (τ 4) n_t4 := FRM_3 (fr_expel b_a1 (RI_1 x_RI) e2)
  cases h
  exact ⟨trivial, S1, S2, S3, HILL2_f S4 fr, S5, S6⟩
set_option maxHeartbeats 4000000 in
set_option maxRecDepth 10000 in
theorem y_7 {N : Int} {σ : Nat → Int} {τ : Nat → Nat → Int} (hX : XX σ τ) (hS : SIM2 σ τ) (a1 : Int) (a2 : Int) (b_a1 : (-2147483648) ≤ a1 ∧ a1 ≤ 2147483647) (b_a2 : (-2147483648) ≤ a2 ∧ a2 ≤ 2147483647) {o : Int × Int × Int} (h : f_OP_7 N a1 a2 (σ 4) (σ 26) (τ 4) (τ 34) (τ 35) (τ 36) = some o) : (True) ∧ SIM2 (zst σ [(4, o.2.2)]) τ := by
  obtain ⟨x_RI, x_h16, x_h17, x_b0, x_e0, x_t1, x_la, x_fo, x_im, x_k6, x_la0, x_la1, x_t7, x_b7⟩ := hX
  obtain ⟨S1, S2, S3, S4, S5, S6⟩ := hS
  unfold f_OP_7 at h
  obtain ⟨x_ans, e1, h⟩ := xz_d1 h
  obtain ⟨y_ans, n_s4, e2, h⟩ := xz_d2 h
  cases h
  exact ⟨trivial, S1, S2, S3, S4, S5, S6⟩
set_option maxHeartbeats 4000000 in
set_option maxRecDepth 10000 in
theorem y_8 {N : Int} {σ : Nat → Int} {τ : Nat → Nat → Int} (hX : XX σ τ) (hS : SIM2 σ τ) (a1 : Int) (b_a1 : (-2147483648) ≤ a1 ∧ a1 ≤ 2147483647) {o : Int × Int × Int × Int × Int × Int × Int × (Nat → Int) × (Nat → Int) × (Nat → Int) × (Nat → Int)} (h : f_OP_8 N a1 (σ 3) (σ 4) (σ 5) (σ 26) (σ 27) (σ 30) (σ 49) (τ 2) (τ 3) (τ 4) (τ 34) (τ 35) (τ 36) (τ 37) (τ 38) (τ 39) = some o) : (True) ∧ SIM2 (zst σ [(3, o.2.2.1), (4, o.2.2.2.1), (5, o.2.2.2.2.1), (27, o.2.2.2.2.2.1), (30, o.2.2.2.2.2.2.1)]) (zta τ [(2, o.2.2.2.2.2.2.2.1), (3, o.2.2.2.2.2.2.2.2.1), (4, o.2.2.2.2.2.2.2.2.2.1), (37, o.2.2.2.2.2.2.2.2.2.2)]) := by
  obtain ⟨x_RI, x_h16, x_h17, x_b0, x_e0, x_t1, x_la, x_fo, x_im, x_k6, x_la0, x_la1, x_t7, x_b7⟩ := hX
  obtain ⟨S1, S2, S3, S4, S5, S6⟩ := hS
  unfold f_OP_8 at h
  obtain ⟨x_ans, n_s3, n_s27, n_s30, n_t2, n_t37, e1, h⟩ := xz_d6 h
  obtain ⟨y_ans, n_s4, n_s5, n_t3, n_t4, e2, h⟩ := xz_d5 h
  have fr : FRM (τ 4) n_t4 := FRM_3 (fr_parish (RI_2 x_RI) e2)
  cases h
  exact ⟨trivial, S1, S2, S3, HILL2_f S4 fr, S5, S6⟩
set_option maxHeartbeats 4000000 in
set_option maxRecDepth 10000 in
theorem y_9 {N : Int} {σ : Nat → Int} {τ : Nat → Nat → Int} (hX : XX σ τ) (hS : SIM2 σ τ) (a1 : Int) (a2 : Int) (b_a1 : (-2147483648) ≤ a1 ∧ a1 ≤ 2147483647) (b_a2 : (-2147483648) ≤ a2 ∧ a2 ≤ 2147483647) {o : Int × Int × Int × Int × Int × Int × (Nat → Int) × (Nat → Int) × (Nat → Int) × (Nat → Int)} (h : f_OP_9 N a1 a2 (σ 3) (σ 4) (σ 5) (σ 26) (σ 27) (σ 30) (σ 49) (τ 2) (τ 3) (τ 4) (τ 34) (τ 35) (τ 36) (τ 37) (τ 38) (τ 39) = some o) : (True) ∧ SIM2 (zst σ [(3, o.2.2.1), (4, o.2.2.2.1), (5, o.2.2.2.2.1), (30, o.2.2.2.2.2.1)]) (zta τ [(2, o.2.2.2.2.2.2.1), (3, o.2.2.2.2.2.2.2.1), (4, o.2.2.2.2.2.2.2.2.1), (38, o.2.2.2.2.2.2.2.2.2)]) := by
  obtain ⟨x_RI, x_h16, x_h17, x_b0, x_e0, x_t1, x_la, x_fo, x_im, x_k6, x_la0, x_la1, x_t7, x_b7⟩ := hX
  obtain ⟨S1, S2, S3, S4, S5, S6⟩ := hS
  unfold f_OP_9 at h
  obtain ⟨x_ans, n_s3, n_s30, n_t2, n_t38, e1, h⟩ := xz_d5 h
  obtain ⟨y_ans, n_s4, n_s5, n_t3, n_t4, e2, h⟩ := xz_d5 h
  have fr : FRM (τ 4) n_t4 := FRM_3 (fr_terms b_a1 e2)
  cases h
  exact ⟨trivial, S1, S2, S3, HILL2_f S4 fr, S5, S6⟩
set_option maxHeartbeats 4000000 in
set_option maxRecDepth 10000 in
theorem y_10 {N : Int} {σ : Nat → Int} {τ : Nat → Nat → Int} (hX : XX σ τ) (hS : SIM2 σ τ) (a1 : Int) (a2 : Int) (a3 : Int) (a4 : Int) (a5 : Int) (b_a1 : (-2147483648) ≤ a1 ∧ a1 ≤ 2147483647) (b_a2 : (-2147483648) ≤ a2 ∧ a2 ≤ 2147483647) (b_a3 : (-2147483648) ≤ a3 ∧ a3 ≤ 2147483647) (b_a4 : (-2147483648) ≤ a4 ∧ a4 ≤ 2147483647) (b_a5 : (-2147483648) ≤ a5 ∧ a5 ≤ 2147483647) {o : Int × Int × Int × Int × Int × (Nat → Int) × (Nat → Int)} (h : f_OP_10 N a1 a2 a3 a4 a5 (σ 0) (σ 4) (σ 7) (τ 1) (τ 7) = some o) : (True) ∧ SIM2 (zst σ [(0, o.2.2.1), (4, o.2.2.2.1), (7, o.2.2.2.2.1)]) (zta τ [(1, o.2.2.2.2.2.1), (7, o.2.2.2.2.2.2)]) := by
  obtain ⟨x_RI, x_h16, x_h17, x_b0, x_e0, x_t1, x_la, x_fo, x_im, x_k6, x_la0, x_la1, x_t7, x_b7⟩ := hX
  obtain ⟨S1, S2, S3, S4, S5, S6⟩ := hS
  unfold f_OP_10 at h
  obtain ⟨x_ans, n_s0, n_t1, e1, h⟩ := xz_d3 h
  obtain ⟨y_ans, n_s4, n_s7, n_t7, e2, h⟩ := xz_d4 h
  have ft : n_t1 = n_t7 := by
    rw [← S1, ← x_e0] at e2
    exact x_feed x_b0 e1 e2
  cases h
  exact ⟨trivial, ft, S2, S3, S4, S5, S6⟩
set_option maxHeartbeats 4000000 in
set_option maxRecDepth 10000 in
theorem y_11 {N : Int} {σ : Nat → Int} {τ : Nat → Nat → Int} (hX : XX σ τ) (hS : SIM2 σ τ) (a1 : Int) (b_a1 : (-2147483648) ≤ a1 ∧ a1 ≤ 2147483647) {o : Int × Int × Int × Int × Int} (h : f_OP_11 N a1 (σ 0) (σ 4) (σ 7) = some o) : (True) ∧ SIM2 (zst σ [(0, o.2.2.1), (4, o.2.2.2.1), (7, o.2.2.2.2)]) τ := by
  obtain ⟨x_RI, x_h16, x_h17, x_b0, x_e0, x_t1, x_la, x_fo, x_im, x_k6, x_la0, x_la1, x_t7, x_b7⟩ := hX
  obtain ⟨S1, S2, S3, S4, S5, S6⟩ := hS
  unfold f_OP_11 at h
  obtain ⟨x_ans, n_s0, e1, h⟩ := xz_d2 h
  obtain ⟨y_ans, n_s4, n_s7, e2, h⟩ := xz_d3 h
  cases h
  exact ⟨trivial, S1, S2, S3, S4, S5, S6⟩
set_option maxHeartbeats 4000000 in
set_option maxRecDepth 10000 in
theorem y_12 {N : Int} {σ : Nat → Int} {τ : Nat → Nat → Int} (hX : XX σ τ) (hS : SIM2 σ τ)  {o : Int × Int × Int × Int × Int × Int × Int × Int × Int × Int × (Nat → Int) × (Nat → Int) × (Nat → Int) × (Nat → Int) × (Nat → Int)} (h : f_OP_12 N (σ 0) (σ 2) (σ 3) (σ 4) (σ 5) (σ 6) (σ 7) (σ 26) (σ 27) (σ 30) (σ 49) (τ 1) (τ 2) (τ 3) (τ 4) (τ 7) (τ 34) (τ 35) (τ 36) (τ 37) (τ 38) (τ 39) (τ 63) (τ 64) = some o) : (True) ∧ SIM2 (zst σ [(0, o.2.2.1), (2, o.2.2.2.1), (3, o.2.2.2.2.1), (4, o.2.2.2.2.2.1), (5, o.2.2.2.2.2.2.1), (6, o.2.2.2.2.2.2.2.1), (7, o.2.2.2.2.2.2.2.2.1), (30, o.2.2.2.2.2.2.2.2.2.1)]) (zta τ [(2, o.2.2.2.2.2.2.2.2.2.2.1), (3, o.2.2.2.2.2.2.2.2.2.2.2.1), (4, o.2.2.2.2.2.2.2.2.2.2.2.2.1), (63, o.2.2.2.2.2.2.2.2.2.2.2.2.2.1), (64, o.2.2.2.2.2.2.2.2.2.2.2.2.2.2)]) := by
  obtain ⟨x_RI, x_h16, x_h17, x_b0, x_e0, x_t1, x_la, x_fo, x_im, x_k6, x_la0, x_la1, x_t7, x_b7⟩ := hX
  obtain ⟨S1, S2, S3, S4, S5, S6⟩ := hS
  unfold f_OP_12 at h
  obtain ⟨x_ans, n_s0, n_s2, n_s3, n_s30, n_t2, n_t63, n_t64, e1, h⟩ := xz_d8 h
  obtain ⟨y_ans, n_s4, n_s5, n_s6, n_s7, n_t3, n_t4, e2, h⟩ := xz_d7 h
  have fr : FRM (τ 4) n_t4 := FRM_g (zok_x (s_HM_row _ _ _ _ _ _ _ x_t7 x_b7 x_RI) e2).2.2.2
  cases h
  exact ⟨trivial, S1, S2, S3, HILL2_f S4 fr, S5, S6⟩
