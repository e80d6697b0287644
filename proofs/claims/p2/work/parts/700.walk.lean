set_option maxHeartbeats 40000000 in
set_option maxRecDepth 100000 in
theorem law_step (L : Nat) (zx : Nat → Int) (hL : L ≤ 3072) (hz : ∀ j, (-2147483648) ≤ zx j ∧ zx j ≤ 2147483647) (k18 : Int → (Nat → Int) → (Nat → Nat → Int) → Option Int) (x3 : Int) (σ : Nat → Int) (τ : Nat → Nat → Int) (h0 : 0 ≤ x3 ∧ x3 ≤ (L : Int)) (hI : INV x3 σ τ) (hk : ∀ (σ' : Nat → Int) (τ' : Nat → Nat → Int), x3 + 6 ≤ (L : Int) → INV (x3 + 6) σ' τ' → zok (k18 (x3 + 6) σ' τ') (fun o => o = 1)) : zok (f_LW_law_18_b L zx k18 x3 σ τ) (fun o => o = 1) := by
  unfold f_LW_law_18_b
  refine zk_n ?_
  refine zk_n ?_
  refine zk_ifc (zci_lt (by omega) (by omega)) (fun hc => zk_ret rfl) (fun hc => ?_)
  refine zk_gv (by omega) (by omega) (fun v4 h4 => ?_)
  refine zk_nE (fun v5 h5 => ?_)
  have r5 := zi_and_m v4 (m := 63) (by decide)
  rw [← h5] at r5
  refine zk_ifc (zci_eqr (by omega)) (fun c0 => ?_) (fun c0 => ?_)
  · obtain ⟨o, e, ho⟩ := st_0 x3 σ τ hI  
    unfold f_OP_0 at e
    obtain ⟨v6, v7, v8, a9, v10, a11, a12, e1, e⟩ := xz_d7 e
    obtain ⟨v13, v14, v15, a16, a17, e2, e⟩ := xz_d5 e
    cases e
    refine zk_e7 e1 ?_
    refine zk_e5 e2 ?_
    refine zk_ifp (congrArg zi_w (show v6 = v13 from ho.1)) ?_
    unfold f_LW_law_1304
    refine zk_n ?_
    exact hk _ _ (by omega) ho.2
  refine zk_ifc (zci_eqr (by omega)) (fun c1 => ?_) (fun c1 => ?_)
  · obtain ⟨o, e, ho⟩ := st_1 x3 σ τ hI (zx (x3 + 1).toNat) (zx (x3 + 2).toNat) (hz _) (hz _)
    unfold f_OP_1 at e
    obtain ⟨v22, v23, v24, a25, a26, a27, e1, e⟩ := xz_d6 e
    obtain ⟨v32, v33, v34, a35, a36, e2, e⟩ := xz_d5 e
    cases e
    refine zk_n ?_
    refine zk_gv (by omega) (by omega) (fun _ q => ?_)
    subst q
    refine zk_n ?_
    refine zk_gv (by omega) (by omega) (fun _ q => ?_)
    subst q
    refine zk_e6 e1 ?_
    refine zk_n ?_
    refine zk_gv (by omega) (by omega) (fun _ q => ?_)
    subst q
    refine zk_n ?_
    refine zk_gv (by omega) (by omega) (fun _ q => ?_)
    subst q
    refine zk_e5 e2 ?_
    unfold f_LW_law_1304
    refine zk_n ?_
    exact hk _ _ (by omega) ho.2
  refine zk_ifc (zci_eqr (by omega)) (fun c2 => ?_) (fun c2 => ?_)
  · obtain ⟨o, e, ho⟩ := st_2 x3 σ τ hI (zx (x3 + 1).toNat) (hz _)
    unfold f_OP_2 at e
    obtain ⟨v39, v40, v41, a42, a43, e1, e⟩ := xz_d5 e
    obtain ⟨v46, v47, v48, a49, a50, e2, e⟩ := xz_d5 e
    cases e
    refine zk_n ?_
    refine zk_gv (by omega) (by omega) (fun _ q => ?_)
    subst q
    refine zk_e5 e1 ?_
    refine zk_n ?_
    refine zk_gv (by omega) (by omega) (fun _ q => ?_)
    subst q
    refine zk_e5 e2 ?_
    unfold f_LW_law_1304
    refine zk_n ?_
    exact hk _ _ (by omega) ho.2
  refine zk_ifc (zci_eqr (by omega)) (fun c3 => ?_) (fun c3 => ?_)
  · obtain ⟨o, e, ho⟩ := st_3 x3 σ τ hI (zx (x3 + 1).toNat) (zx (x3 + 2).toNat) (hz _) (hz _)
    unfold f_OP_3 at e
    obtain ⟨v55, e1, e⟩ := xz_d1 e
    obtain ⟨v60, v61, e2, e⟩ := xz_d2 e
    cases e
    refine zk_n ?_
    refine zk_gv (by omega) (by omega) (fun _ q => ?_)
    subst q
    refine zk_n ?_
    refine zk_gv (by omega) (by omega) (fun _ q => ?_)
    subst q
    refine zk_e1 e1 ?_
    refine zk_n ?_
    refine zk_gv (by omega) (by omega) (fun _ q => ?_)
    subst q
    refine zk_n ?_
    refine zk_gv (by omega) (by omega) (fun _ q => ?_)
    subst q
    refine zk_e2 e2 ?_
    unfold f_LW_law_1304
    refine zk_n ?_
    exact hk _ _ (by omega) ho.2
  refine zk_ifc (zci_eqr (by omega)) (fun c4 => ?_) (fun c4 => ?_)
  · obtain ⟨o, e, ho⟩ := st_4 x3 σ τ hI (zx (x3 + 1).toNat) (hz _)
    unfold f_OP_4 at e
    obtain ⟨v64, e1, e⟩ := xz_d1 e
    obtain ⟨v67, v68, e2, e⟩ := xz_d2 e
    cases e
    refine zk_n ?_
    refine zk_gv (by omega) (by omega) (fun _ q => ?_)
    subst q
    refine zk_e1 e1 ?_
    refine zk_n ?_
    refine zk_gv (by omega) (by omega) (fun _ q => ?_)
    subst q
    refine zk_e2 e2 ?_
    unfold f_LW_law_1304
    refine zk_n ?_
    exact hk _ _ (by omega) ho.2
  refine zk_ifc (zci_eqr (by omega)) (fun c5 => ?_) (fun c5 => ?_)
  · obtain ⟨o, e, ho⟩ := st_5 x3 σ τ hI (zx (x3 + 1).toNat) (hz _)
    unfold f_OP_5 at e
    obtain ⟨v71, v72, v73, v74, a75, a76, a77, a78, e1, e⟩ := xz_d8 e
    obtain ⟨v81, v82, v83, a84, a85, e2, e⟩ := xz_d5 e
    cases e
    refine zk_n ?_
    refine zk_gv (by omega) (by omega) (fun _ q => ?_)
    subst q
    refine zk_e8 e1 ?_
    refine zk_n ?_
    refine zk_gv (by omega) (by omega) (fun _ q => ?_)
    subst q
    refine zk_e5 e2 ?_
    unfold f_LW_law_1304
    refine zk_n ?_
    exact hk _ _ (by omega) ho.2
  refine zk_ifc (zci_eqr (by omega)) (fun c6 => ?_) (fun c6 => ?_)
  · obtain ⟨o, e, ho⟩ := st_6 x3 σ τ hI (zx (x3 + 1).toNat) (zx (x3 + 2).toNat) (hz _) (hz _)
    unfold f_OP_6 at e
    obtain ⟨v90, v91, v92, a93, a94, e1, e⟩ := xz_d5 e
    obtain ⟨v99, v100, v101, a102, a103, e2, e⟩ := xz_d5 e
    cases e
    refine zk_n ?_
    refine zk_gv (by omega) (by omega) (fun _ q => ?_)
    subst q
    refine zk_n ?_
    refine zk_gv (by omega) (by omega) (fun _ q => ?_)
    subst q
    refine zk_e5 e1 ?_
    refine zk_n ?_
    refine zk_gv (by omega) (by omega) (fun _ q => ?_)
    subst q
    refine zk_n ?_
    refine zk_gv (by omega) (by omega) (fun _ q => ?_)
    subst q
    refine zk_e5 e2 ?_
    unfold f_LW_law_1304
    refine zk_n ?_
    exact hk _ _ (by omega) ho.2
  refine zk_ifc (zci_eqr (by omega)) (fun c7 => ?_) (fun c7 => ?_)
  · obtain ⟨o, e, ho⟩ := st_7 x3 σ τ hI (zx (x3 + 1).toNat) (zx (x3 + 2).toNat) (hz _) (hz _)
    unfold f_OP_7 at e
    obtain ⟨v108, e1, e⟩ := xz_d1 e
    obtain ⟨v113, v114, e2, e⟩ := xz_d2 e
    cases e
    refine zk_n ?_
    refine zk_gv (by omega) (by omega) (fun _ q => ?_)
    subst q
    refine zk_n ?_
    refine zk_gv (by omega) (by omega) (fun _ q => ?_)
    subst q
    refine zk_e1 e1 ?_
    refine zk_n ?_
    refine zk_gv (by omega) (by omega) (fun _ q => ?_)
    subst q
    refine zk_n ?_
    refine zk_gv (by omega) (by omega) (fun _ q => ?_)
    subst q
    refine zk_e2 e2 ?_
    unfold f_LW_law_1304
    refine zk_n ?_
    exact hk _ _ (by omega) ho.2
  refine zk_ifc (zci_eqr (by omega)) (fun c8 => ?_) (fun c8 => ?_)
  · obtain ⟨o, e, ho⟩ := st_8 x3 σ τ hI (zx (x3 + 1).toNat) (hz _)
    unfold f_OP_8 at e
    obtain ⟨v117, v118, v119, v120, a121, a122, e1, e⟩ := xz_d6 e
    obtain ⟨v125, v126, v127, a128, a129, e2, e⟩ := xz_d5 e
    cases e
    refine zk_n ?_
    refine zk_gv (by omega) (by omega) (fun _ q => ?_)
    subst q
    refine zk_e6 e1 ?_
    refine zk_n ?_
    refine zk_gv (by omega) (by omega) (fun _ q => ?_)
    subst q
    refine zk_e5 e2 ?_
    unfold f_LW_law_1304
    refine zk_n ?_
    exact hk _ _ (by omega) ho.2
  refine zk_ifc (zci_eqr (by omega)) (fun c9 => ?_) (fun c9 => ?_)
  · obtain ⟨o, e, ho⟩ := st_9 x3 σ τ hI (zx (x3 + 1).toNat) (zx (x3 + 2).toNat) (hz _) (hz _)
    unfold f_OP_9 at e
    obtain ⟨v134, v135, v136, a137, a138, e1, e⟩ := xz_d5 e
    obtain ⟨v143, v144, v145, a146, a147, e2, e⟩ := xz_d5 e
    cases e
    refine zk_n ?_
    refine zk_gv (by omega) (by omega) (fun _ q => ?_)
    subst q
    refine zk_n ?_
    refine zk_gv (by omega) (by omega) (fun _ q => ?_)
    subst q
    refine zk_e5 e1 ?_
    refine zk_n ?_
    refine zk_gv (by omega) (by omega) (fun _ q => ?_)
    subst q
    refine zk_n ?_
    refine zk_gv (by omega) (by omega) (fun _ q => ?_)
    subst q
    refine zk_e5 e2 ?_
    unfold f_LW_law_1304
    refine zk_n ?_
    exact hk _ _ (by omega) ho.2
  refine zk_ifc (zci_eqr (by omega)) (fun c10 => ?_) (fun c10 => ?_)
  · obtain ⟨o, e, ho⟩ := st_10 x3 σ τ hI (zx (x3 + 1).toNat) (zx (x3 + 2).toNat) (zx (x3 + 3).toNat) (zx (x3 + 4).toNat) (zx (x3 + 5).toNat) (hz _) (hz _) (hz _) (hz _) (hz _)
    unfold f_OP_10 at e
    obtain ⟨v158, v159, a160, e1, e⟩ := xz_d3 e
    obtain ⟨v171, v172, v173, a174, e2, e⟩ := xz_d4 e
    cases e
    refine zk_n ?_
    refine zk_gv (by omega) (by omega) (fun _ q => ?_)
    subst q
    refine zk_n ?_
    refine zk_gv (by omega) (by omega) (fun _ q => ?_)
    subst q
    refine zk_n ?_
    refine zk_gv (by omega) (by omega) (fun _ q => ?_)
    subst q
    refine zk_n ?_
    refine zk_gv (by omega) (by omega) (fun _ q => ?_)
    subst q
    refine zk_n ?_
    refine zk_gv (by omega) (by omega) (fun _ q => ?_)
    subst q
    refine zk_e3 e1 ?_
    refine zk_n ?_
    refine zk_gv (by omega) (by omega) (fun _ q => ?_)
    subst q
    refine zk_n ?_
    refine zk_gv (by omega) (by omega) (fun _ q => ?_)
    subst q
    refine zk_n ?_
    refine zk_gv (by omega) (by omega) (fun _ q => ?_)
    subst q
    refine zk_n ?_
    refine zk_gv (by omega) (by omega) (fun _ q => ?_)
    subst q
    refine zk_n ?_
    refine zk_gv (by omega) (by omega) (fun _ q => ?_)
    subst q
    refine zk_e4 e2 ?_
    unfold f_LW_law_1304
    refine zk_n ?_
    exact hk _ _ (by omega) ho.2
  refine zk_ifc (zci_eqr (by omega)) (fun c11 => ?_) (fun c11 => ?_)
  · obtain ⟨o, e, ho⟩ := st_11 x3 σ τ hI (zx (x3 + 1).toNat) (hz _)
    unfold f_OP_11 at e
    obtain ⟨v177, v178, e1, e⟩ := xz_d2 e
    obtain ⟨v181, v182, v183, e2, e⟩ := xz_d3 e
    cases e
    refine zk_n ?_
    refine zk_gv (by omega) (by omega) (fun _ q => ?_)
    subst q
    refine zk_e2 e1 ?_
    refine zk_n ?_
    refine zk_gv (by omega) (by omega) (fun _ q => ?_)
    subst q
    refine zk_e3 e2 ?_
    unfold f_LW_law_1304
    refine zk_n ?_
    exact hk _ _ (by omega) ho.2
  refine zk_ifc (zci_eqr (by omega)) (fun c12 => ?_) (fun c12 => ?_)
  · obtain ⟨o, e, ho⟩ := st_12 x3 σ τ hI  
    unfold f_OP_12 at e
    obtain ⟨v184, v185, v186, v187, v188, a189, a190, a191, e1, e⟩ := xz_d8 e
    obtain ⟨v192, v193, v194, v195, v196, a197, a198, e2, e⟩ := xz_d7 e
    cases e
    refine zk_e8 e1 ?_
    refine zk_e7 e2 ?_
    unfold f_LW_law_1304
    refine zk_n ?_
    exact hk _ _ (by omega) ho.2
  refine zk_ifc (zci_eqr (by omega)) (fun c13 => ?_) (fun c13 => ?_)
  · obtain ⟨o, e, ho⟩ := st_13 x3 σ τ hI  
    unfold f_OP_13 at e
    obtain ⟨v199, e1, e⟩ := xz_d1 e
    obtain ⟨v200, v201, e2, e⟩ := xz_d2 e
    cases e
    refine zk_e1 e1 ?_
    refine zk_e2 e2 ?_
    unfold f_LW_law_1304
    refine zk_n ?_
    exact hk _ _ (by omega) ho.2
  refine zk_ifc (zci_eqr (by omega)) (fun c14 => ?_) (fun c14 => ?_)
  · obtain ⟨o, e, ho⟩ := st_14 x3 σ τ hI  
    unfold f_OP_14 at e
    obtain ⟨v202, v203, v204, v205, v206, v207, a208, v209, v210, v211, a212, a213, a214, a215, a216, a217, e1, e⟩ := xz_d16 e
    obtain ⟨v218, v219, v220, v221, v222, v223, v224, v225, v226, v227, v228, v229, v230, v231, v232, a233, a234, a235, a236, a237, a238, a239, e2, e⟩ := xz_d22 e
    cases e
    refine zk_e16 e1 ?_
    refine zk_e22 e2 ?_
    unfold f_LW_law_1304
    refine zk_n ?_
    exact hk _ _ (by omega) ho.2
  refine zk_ifc (zci_eqr (by omega)) (fun c15 => ?_) (fun c15 => ?_)
  · obtain ⟨o, e, ho⟩ := st_15 x3 σ τ hI  
    unfold f_OP_15 at e
    obtain ⟨v240, e1, e⟩ := xz_d1 e
    obtain ⟨v241, v242, e2, e⟩ := xz_d2 e
    cases e
    refine zk_e1 e1 ?_
    refine zk_e2 e2 ?_
    unfold f_LW_law_1304
    refine zk_n ?_
    exact hk _ _ (by omega) ho.2
  refine zk_ifc (zci_eqr (by omega)) (fun c16 => ?_) (fun c16 => ?_)
  · obtain ⟨o, e, ho⟩ := st_16 x3 σ τ hI (zx (x3 + 1).toNat) (hz _)
    unfold f_OP_16 at e
    obtain ⟨v245, v246, v247, v248, a249, e1, e⟩ := xz_d5 e
    obtain ⟨v252, v253, v254, a255, a256, e2, e⟩ := xz_d5 e
    cases e
    refine zk_n ?_
    refine zk_gv (by omega) (by omega) (fun _ q => ?_)
    subst q
    refine zk_e5 e1 ?_
    refine zk_n ?_
    refine zk_gv (by omega) (by omega) (fun _ q => ?_)
    subst q
    refine zk_e5 e2 ?_
    unfold f_LW_law_1304
    refine zk_n ?_
    exact hk _ _ (by omega) ho.2
  refine zk_ifc (zci_eqr (by omega)) (fun c17 => ?_) (fun c17 => ?_)
  · obtain ⟨o, e, ho⟩ := st_17 x3 σ τ hI (zx (x3 + 1).toNat) (zx (x3 + 2).toNat) (zx (x3 + 3).toNat) (hz _) (hz _) (hz _)
    unfold f_OP_17 at e
    obtain ⟨v263, v264, v265, v266, a267, a268, e1, e⟩ := xz_d6 e
    obtain ⟨v275, v276, v277, v278, v279, v280, a281, a282, a283, a284, e2, e⟩ := xz_d10 e
    cases e
    refine zk_n ?_
    refine zk_gv (by omega) (by omega) (fun _ q => ?_)
    subst q
    refine zk_n ?_
    refine zk_gv (by omega) (by omega) (fun _ q => ?_)
    subst q
    refine zk_n ?_
    refine zk_gv (by omega) (by omega) (fun _ q => ?_)
    subst q
    refine zk_e6 e1 ?_
    refine zk_n ?_
    refine zk_gv (by omega) (by omega) (fun _ q => ?_)
    subst q
    refine zk_n ?_
    refine zk_gv (by omega) (by omega) (fun _ q => ?_)
    subst q
    refine zk_n ?_
    refine zk_gv (by omega) (by omega) (fun _ q => ?_)
    subst q
    refine zk_e10 e2 ?_
    unfold f_LW_law_1304
    refine zk_n ?_
    exact hk _ _ (by omega) ho.2
  refine zk_ifc (zci_eqr (by omega)) (fun c18 => ?_) (fun c18 => ?_)
  · obtain ⟨o, e, ho⟩ := st_18 x3 σ τ hI (zx (x3 + 1).toNat) (zx (x3 + 2).toNat) (zx (x3 + 3).toNat) (hz _) (hz _) (hz _)
    unfold f_OP_18 at e
    obtain ⟨v291, v292, v293, v294, a295, a296, e1, e⟩ := xz_d6 e
    obtain ⟨v303, v304, v305, v306, v307, v308, a309, a310, a311, a312, e2, e⟩ := xz_d10 e
    cases e
    refine zk_n ?_
    refine zk_gv (by omega) (by omega) (fun _ q => ?_)
    subst q
    refine zk_n ?_
    refine zk_gv (by omega) (by omega) (fun _ q => ?_)
    subst q
    refine zk_n ?_
    refine zk_gv (by omega) (by omega) (fun _ q => ?_)
    subst q
    refine zk_e6 e1 ?_
    refine zk_n ?_
    refine zk_gv (by omega) (by omega) (fun _ q => ?_)
    subst q
    refine zk_n ?_
    refine zk_gv (by omega) (by omega) (fun _ q => ?_)
    subst q
    refine zk_n ?_
    refine zk_gv (by omega) (by omega) (fun _ q => ?_)
    subst q
    refine zk_e10 e2 ?_
    unfold f_LW_law_1304
    refine zk_n ?_
    exact hk _ _ (by omega) ho.2
  refine zk_ifc (zci_eqr (by omega)) (fun c19 => ?_) (fun c19 => ?_)
  · obtain ⟨o, e, ho⟩ := st_19 x3 σ τ hI (zx (x3 + 1).toNat) (zx (x3 + 2).toNat) (zx (x3 + 3).toNat) (hz _) (hz _) (hz _)
    unfold f_OP_19 at e
    obtain ⟨v319, v320, v321, a322, v323, v324, v325, a326, a327, a328, a329, e1, e⟩ := xz_d11 e
    obtain ⟨v336, v337, v338, v339, v340, v341, v342, a343, a344, a345, a346, a347, a348, e2, e⟩ := xz_d13 e
    cases e
    refine zk_n ?_
    refine zk_gv (by omega) (by omega) (fun _ q => ?_)
    subst q
    refine zk_n ?_
    refine zk_gv (by omega) (by omega) (fun _ q => ?_)
    subst q
    refine zk_n ?_
    refine zk_gv (by omega) (by omega) (fun _ q => ?_)
    subst q
    refine zk_e11 e1 ?_
    refine zk_n ?_
    refine zk_gv (by omega) (by omega) (fun _ q => ?_)
    subst q
    refine zk_n ?_
    refine zk_gv (by omega) (by omega) (fun _ q => ?_)
    subst q
    refine zk_n ?_
    refine zk_gv (by omega) (by omega) (fun _ q => ?_)
    subst q
    refine zk_e13 e2 ?_
    unfold f_LW_law_1304
    refine zk_n ?_
    exact hk _ _ (by omega) ho.2
  refine zk_ifc (zci_eqr (by omega)) (fun c20 => ?_) (fun c20 => ?_)
  · obtain ⟨o, e, ho⟩ := st_20 x3 σ τ hI (zx (x3 + 1).toNat) (zx (x3 + 2).toNat) (zx (x3 + 3).toNat) (zx (x3 + 4).toNat) (hz _) (hz _) (hz _) (hz _)
    unfold f_OP_20 at e
    obtain ⟨v357, v358, v359, a360, v361, v362, v363, a364, a365, a366, a367, e1, e⟩ := xz_d11 e
    obtain ⟨v376, v377, v378, v379, v380, v381, v382, a383, a384, a385, a386, a387, a388, e2, e⟩ := xz_d13 e
    cases e
    refine zk_n ?_
    refine zk_gv (by omega) (by omega) (fun _ q => ?_)
    subst q
    refine zk_n ?_
    refine zk_gv (by omega) (by omega) (fun _ q => ?_)
    subst q
    refine zk_n ?_
    refine zk_gv (by omega) (by omega) (fun _ q => ?_)
    subst q
    refine zk_n ?_
    refine zk_gv (by omega) (by omega) (fun _ q => ?_)
    subst q
    refine zk_e11 e1 ?_
    refine zk_n ?_
    refine zk_gv (by omega) (by omega) (fun _ q => ?_)
    subst q
    refine zk_n ?_
    refine zk_gv (by omega) (by omega) (fun _ q => ?_)
    subst q
    refine zk_n ?_
    refine zk_gv (by omega) (by omega) (fun _ q => ?_)
    subst q
    refine zk_n ?_
    refine zk_gv (by omega) (by omega) (fun _ q => ?_)
    subst q
    refine zk_e13 e2 ?_
    unfold f_LW_law_1304
    refine zk_n ?_
    exact hk _ _ (by omega) ho.2
  refine zk_ifc (zci_eqr (by omega)) (fun c21 => ?_) (fun c21 => ?_)
  · obtain ⟨o, e, ho⟩ := st_21 x3 σ τ hI  
    unfold f_OP_21 at e
    obtain ⟨v389, e1, e⟩ := xz_d1 e
    obtain ⟨v390, v391, a392, a393, e2, e⟩ := xz_d4 e
    cases e
    refine zk_e1 e1 ?_
    refine zk_e4 e2 ?_
    unfold f_LW_law_1304
    refine zk_n ?_
    exact hk _ _ (by omega) ho.2
  refine zk_ifc (zci_eqr (by omega)) (fun c22 => ?_) (fun c22 => ?_)
  · obtain ⟨o, e, ho⟩ := st_22 x3 σ τ hI  
    unfold f_OP_22 at e
    obtain ⟨v394, v395, a396, a397, e1, e⟩ := xz_d4 e
    obtain ⟨v398, v399, a400, a401, a402, e2, e⟩ := xz_d5 e
    cases e
    refine zk_e4 e1 ?_
    refine zk_e5 e2 ?_
    unfold f_LW_law_1304
    refine zk_n ?_
    exact hk _ _ (by omega) ho.2
  refine zk_ifc (zci_eqr (by omega)) (fun c23 => ?_) (fun c23 => ?_)
  · obtain ⟨o, e, ho⟩ := st_23 x3 σ τ hI (zx (x3 + 1).toNat) (hz _)
    unfold f_OP_23 at e
    obtain ⟨v405, e1, e⟩ := xz_d1 e
    obtain ⟨v408, v409, a410, a411, e2, e⟩ := xz_d4 e
    cases e
    refine zk_n ?_
    refine zk_gv (by omega) (by omega) (fun _ q => ?_)
    subst q
    refine zk_e1 e1 ?_
    refine zk_n ?_
    refine zk_gv (by omega) (by omega) (fun _ q => ?_)
    subst q
    refine zk_e4 e2 ?_
    unfold f_LW_law_1304
    refine zk_n ?_
    exact hk _ _ (by omega) ho.2
  refine zk_ifc (zci_eqr (by omega)) (fun c24 => ?_) (fun c24 => ?_)
  · obtain ⟨o, e, ho⟩ := st_24 x3 σ τ hI (zx (x3 + 1).toNat) (zx (x3 + 2).toNat) (zx (x3 + 3).toNat) (zx (x3 + 4).toNat) (hz _) (hz _) (hz _) (hz _)
    unfold f_OP_24 at e
    obtain ⟨v420, v421, v422, v423, a424, a425, a426, a427, e1, e⟩ := xz_d8 e
    obtain ⟨v436, v437, v438, v439, v440, v441, a442, a443, a444, a445, e2, e⟩ := xz_d10 e
    cases e
    refine zk_n ?_
    refine zk_gv (by omega) (by omega) (fun _ q => ?_)
    subst q
    refine zk_n ?_
    refine zk_gv (by omega) (by omega) (fun _ q => ?_)
    subst q
    refine zk_n ?_
    refine zk_gv (by omega) (by omega) (fun _ q => ?_)
    subst q
    refine zk_n ?_
    refine zk_gv (by omega) (by omega) (fun _ q => ?_)
    subst q
    refine zk_e8 e1 ?_
    refine zk_n ?_
    refine zk_gv (by omega) (by omega) (fun _ q => ?_)
    subst q
    refine zk_n ?_
    refine zk_gv (by omega) (by omega) (fun _ q => ?_)
    subst q
    refine zk_n ?_
    refine zk_gv (by omega) (by omega) (fun _ q => ?_)
    subst q
    refine zk_n ?_
    refine zk_gv (by omega) (by omega) (fun _ q => ?_)
    subst q
    refine zk_e10 e2 ?_
    unfold f_LW_law_1304
    refine zk_n ?_
    exact hk _ _ (by omega) ho.2
  refine zk_ifc (zci_eqr (by omega)) (fun c25 => ?_) (fun c25 => ?_)
  · obtain ⟨o, e, ho⟩ := st_25 x3 σ τ hI (zx (x3 + 1).toNat) (zx (x3 + 2).toNat) (hz _) (hz _)
    unfold f_OP_25 at e
    obtain ⟨v450, v451, v452, a453, a454, e1, e⟩ := xz_d5 e
    obtain ⟨v459, v460, v461, a462, a463, e2, e⟩ := xz_d5 e
    cases e
    refine zk_n ?_
    refine zk_gv (by omega) (by omega) (fun _ q => ?_)
    subst q
    refine zk_n ?_
    refine zk_gv (by omega) (by omega) (fun _ q => ?_)
    subst q
    refine zk_e5 e1 ?_
    refine zk_n ?_
    refine zk_gv (by omega) (by omega) (fun _ q => ?_)
    subst q
    refine zk_n ?_
    refine zk_gv (by omega) (by omega) (fun _ q => ?_)
    subst q
    refine zk_e5 e2 ?_
    unfold f_LW_law_1304
    refine zk_n ?_
    exact hk _ _ (by omega) ho.2
  refine zk_ifc (zci_eqr (by omega)) (fun c26 => ?_) (fun c26 => ?_)
  · obtain ⟨o, e, ho⟩ := st_26 x3 σ τ hI (zx (x3 + 1).toNat) (zx (x3 + 2).toNat) (zx (x3 + 3).toNat) (hz _) (hz _) (hz _)
    unfold f_OP_26 at e
    obtain ⟨v470, v471, v472, v473, v474, v475, v476, a477, a478, a479, a480, a481, a482, a483, a484, a485, a486, a487, a488, a489, v490, v491, v492, v493, v494, v495, v496, v497, v498, a499, a500, a501, e1, e⟩ := xz_d32 e
    obtain ⟨v508, v509, v510, v511, v512, v513, v514, a515, a516, a517, a518, a519, a520, a521, a522, a523, a524, a525, a526, e2, e⟩ := xz_d19 e
    cases e
    refine zk_n ?_
    refine zk_gv (by omega) (by omega) (fun _ q => ?_)
    subst q
    refine zk_n ?_
    refine zk_gv (by omega) (by omega) (fun _ q => ?_)
    subst q
    refine zk_n ?_
    refine zk_gv (by omega) (by omega) (fun _ q => ?_)
    subst q
    refine zk_e32 e1 ?_
    refine zk_n ?_
    refine zk_gv (by omega) (by omega) (fun _ q => ?_)
    subst q
    refine zk_n ?_
    refine zk_gv (by omega) (by omega) (fun _ q => ?_)
    subst q
    refine zk_n ?_
    refine zk_gv (by omega) (by omega) (fun _ q => ?_)
    subst q
    refine zk_e19 e2 ?_
    unfold f_LW_law_1304
    refine zk_n ?_
    exact hk _ _ (by omega) ho.2
  refine zk_ifc (zci_eqr (by omega)) (fun c27 => ?_) (fun c27 => ?_)
  · obtain ⟨o, e, ho⟩ := st_27 x3 σ τ hI (zx (x3 + 1).toNat) (hz _)
    unfold f_OP_27 at e
    obtain ⟨v529, v530, a531, e1, e⟩ := xz_d3 e
    obtain ⟨v534, v535, a536, e2, e⟩ := xz_d3 e
    cases e
    refine zk_n ?_
    refine zk_gv (by omega) (by omega) (fun _ q => ?_)
    subst q
    refine zk_e3 e1 ?_
    refine zk_n ?_
    refine zk_gv (by omega) (by omega) (fun _ q => ?_)
    subst q
    refine zk_e3 e2 ?_
    unfold f_LW_law_1304
    refine zk_n ?_
    exact hk _ _ (by omega) ho.2
  refine zk_ifc (zci_eqr (by omega)) (fun c28 => ?_) (fun c28 => ?_)
  · obtain ⟨o, e, ho⟩ := st_28 x3 σ τ hI (zx (x3 + 1).toNat) (zx (x3 + 2).toNat) (hz _) (hz _)
    unfold f_OP_28 at e
    obtain ⟨v541, v542, v543, a544, a545, e1, e⟩ := xz_d5 e
    obtain ⟨v550, v551, v552, a553, a554, e2, e⟩ := xz_d5 e
    cases e
    refine zk_n ?_
    refine zk_gv (by omega) (by omega) (fun _ q => ?_)
    subst q
    refine zk_n ?_
    refine zk_gv (by omega) (by omega) (fun _ q => ?_)
    subst q
    refine zk_e5 e1 ?_
    refine zk_n ?_
    refine zk_gv (by omega) (by omega) (fun _ q => ?_)
    subst q
    refine zk_n ?_
    refine zk_gv (by omega) (by omega) (fun _ q => ?_)
    subst q
    refine zk_e5 e2 ?_
    unfold f_LW_law_1304
    refine zk_n ?_
    exact hk _ _ (by omega) ho.2
  refine zk_ifc (zci_eqr (by omega)) (fun c29 => ?_) (fun c29 => ?_)
  · obtain ⟨o, e, ho⟩ := st_29 x3 σ τ hI (zx (x3 + 1).toNat) (zx (x3 + 2).toNat) (zx (x3 + 3).toNat) (hz _) (hz _) (hz _)
    unfold f_OP_29 at e
    obtain ⟨v561, v562, v563, v564, v565, a566, e1, e⟩ := xz_d6 e
    obtain ⟨v573, v574, a575, e2, e⟩ := xz_d3 e
    cases e
    refine zk_n ?_
    refine zk_gv (by omega) (by omega) (fun _ q => ?_)
    subst q
    refine zk_n ?_
    refine zk_gv (by omega) (by omega) (fun _ q => ?_)
    subst q
    refine zk_n ?_
    refine zk_gv (by omega) (by omega) (fun _ q => ?_)
    subst q
    refine zk_e6 e1 ?_
    refine zk_n ?_
    refine zk_gv (by omega) (by omega) (fun _ q => ?_)
    subst q
    refine zk_n ?_
    refine zk_gv (by omega) (by omega) (fun _ q => ?_)
    subst q
    refine zk_n ?_
    refine zk_gv (by omega) (by omega) (fun _ q => ?_)
    subst q
    refine zk_e3 e2 ?_
    unfold f_LW_law_1304
    refine zk_n ?_
    exact hk _ _ (by omega) ho.2
  refine zk_ifc (zci_eqr (by omega)) (fun c30 => ?_) (fun c30 => ?_)
  · obtain ⟨o, e, ho⟩ := st_30 x3 σ τ hI (zx (x3 + 1).toNat) (zx (x3 + 2).toNat) (zx (x3 + 3).toNat) (hz _) (hz _) (hz _)
    unfold f_OP_30 at e
    obtain ⟨v582, v583, v584, v585, v586, v587, v588, v589, a590, a591, a592, v593, a594, a595, a596, a597, e1, e⟩ := xz_d16 e
    obtain ⟨v604, v605, v606, v607, v608, v609, a610, a611, a612, a613, a614, a615, a616, e2, e⟩ := xz_d13 e
    cases e
    refine zk_n ?_
    refine zk_gv (by omega) (by omega) (fun _ q => ?_)
    subst q
    refine zk_n ?_
    refine zk_gv (by omega) (by omega) (fun _ q => ?_)
    subst q
    refine zk_n ?_
    refine zk_gv (by omega) (by omega) (fun _ q => ?_)
    subst q
    refine zk_e16 e1 ?_
    refine zk_n ?_
    refine zk_gv (by omega) (by omega) (fun _ q => ?_)
    subst q
    refine zk_n ?_
    refine zk_gv (by omega) (by omega) (fun _ q => ?_)
    subst q
    refine zk_n ?_
    refine zk_gv (by omega) (by omega) (fun _ q => ?_)
    subst q
    refine zk_e13 e2 ?_
    unfold f_LW_law_1304
    refine zk_n ?_
    exact hk _ _ (by omega) ho.2
  refine zk_ifc (zci_eqr (by omega)) (fun c31 => ?_) (fun c31 => ?_)
  · obtain ⟨o, e, ho⟩ := st_31 x3 σ τ hI (zx (x3 + 1).toNat) (hz _)
    unfold f_OP_31 at e
    obtain ⟨v619, e1, e⟩ := xz_d1 e
    obtain ⟨v622, v623, e2, e⟩ := xz_d2 e
    cases e
    refine zk_n ?_
    refine zk_gv (by omega) (by omega) (fun _ q => ?_)
    subst q
    refine zk_e1 e1 ?_
    refine zk_n ?_
    refine zk_gv (by omega) (by omega) (fun _ q => ?_)
    subst q
    refine zk_e2 e2 ?_
    unfold f_LW_law_1304
    refine zk_n ?_
    exact hk _ _ (by omega) ho.2
  refine zk_ifc (zci_eqr (by omega)) (fun c32 => ?_) (fun c32 => ?_)
  · obtain ⟨o, e, ho⟩ := st_32 x3 σ τ hI (zx (x3 + 1).toNat) (zx (x3 + 2).toNat) (hz _) (hz _)
    unfold f_OP_32 at e
    obtain ⟨v628, v629, v630, a631, v632, a633, a634, e1, e⟩ := xz_d7 e
    obtain ⟨v639, v640, v641, v642, v643, a644, a645, a646, a647, e2, e⟩ := xz_d9 e
    cases e
    refine zk_n ?_
    refine zk_gv (by omega) (by omega) (fun _ q => ?_)
    subst q
    refine zk_n ?_
    refine zk_gv (by omega) (by omega) (fun _ q => ?_)
    subst q
    refine zk_e7 e1 ?_
    refine zk_n ?_
    refine zk_gv (by omega) (by omega) (fun _ q => ?_)
    subst q
    refine zk_n ?_
    refine zk_gv (by omega) (by omega) (fun _ q => ?_)
    subst q
    refine zk_e9 e2 ?_
    unfold f_LW_law_1304
    refine zk_n ?_
    exact hk _ _ (by omega) ho.2
  refine zk_ifc (zci_eqr (by omega)) (fun c33 => ?_) (fun c33 => ?_)
  · obtain ⟨o, e, ho⟩ := st_33 x3 σ τ hI (zx (x3 + 1).toNat) (zx (x3 + 2).toNat) (hz _) (hz _)
    unfold f_OP_33 at e
    obtain ⟨v652, e1, e⟩ := xz_d1 e
    obtain ⟨v657, v658, e2, e⟩ := xz_d2 e
    cases e
    refine zk_n ?_
    refine zk_gv (by omega) (by omega) (fun _ q => ?_)
    subst q
    refine zk_n ?_
    refine zk_gv (by omega) (by omega) (fun _ q => ?_)
    subst q
    refine zk_e1 e1 ?_
    refine zk_n ?_
    refine zk_gv (by omega) (by omega) (fun _ q => ?_)
    subst q
    refine zk_n ?_
    refine zk_gv (by omega) (by omega) (fun _ q => ?_)
    subst q
    refine zk_e2 e2 ?_
    unfold f_LW_law_1304
    refine zk_n ?_
    exact hk _ _ (by omega) ho.2
  refine zk_ifc (zci_eqr (by omega)) (fun c34 => ?_) (fun c34 => ?_)
  · obtain ⟨o, e, ho⟩ := st_34 x3 σ τ hI (zx (x3 + 1).toNat) (hz _)
    unfold f_OP_34 at e
    obtain ⟨v661, v662, v663, a664, a665, v666, v667, v668, v669, v670, v671, v672, v673, v674, a675, a676, a677, a678, a679, a680, a681, a682, v683, a684, a685, a686, a687, a688, a689, a690, a691, a692, a693, a694, a695, e1, e⟩ := xz_d35 e
    obtain ⟨v698, v699, v700, a701, a702, a703, e2, e⟩ := xz_d6 e
    cases e
    refine zk_n ?_
    refine zk_gv (by omega) (by omega) (fun _ q => ?_)
    subst q
    refine zk_e35 e1 ?_
    refine zk_n ?_
    refine zk_gv (by omega) (by omega) (fun _ q => ?_)
    subst q
    refine zk_e6 e2 ?_
    unfold f_LW_law_1304
    refine zk_n ?_
    exact hk _ _ (by omega) ho.2
  refine zk_ifc (zci_eqr (by omega)) (fun c35 => ?_) (fun c35 => ?_)
  · obtain ⟨o, e, ho⟩ := st_35 x3 σ τ hI (zx (x3 + 1).toNat) (hz _)
    unfold f_OP_35 at e
    obtain ⟨v706, v707, v708, v709, v710, v711, v712, a713, v714, a715, a716, a717, a718, a719, a720, a721, a722, a723, a724, e1, e⟩ := xz_d19 e
    obtain ⟨v727, v728, v729, a730, a731, e2, e⟩ := xz_d5 e
    cases e
    refine zk_n ?_
    refine zk_gv (by omega) (by omega) (fun _ q => ?_)
    subst q
    refine zk_e19 e1 ?_
    refine zk_n ?_
    refine zk_gv (by omega) (by omega) (fun _ q => ?_)
    subst q
    refine zk_e5 e2 ?_
    unfold f_LW_law_1304
    refine zk_n ?_
    exact hk _ _ (by omega) ho.2
  refine zk_ifc (zci_eqr (by omega)) (fun c36 => ?_) (fun c36 => ?_)
  · obtain ⟨o, e, ho⟩ := st_36 x3 σ τ hI (zx (x3 + 1).toNat) (hz _)
    unfold f_OP_36 at e
    obtain ⟨v734, e1, e⟩ := xz_d1 e
    obtain ⟨v737, v738, e2, e⟩ := xz_d2 e
    cases e
    refine zk_n ?_
    refine zk_gv (by omega) (by omega) (fun _ q => ?_)
    subst q
    refine zk_e1 e1 ?_
    refine zk_n ?_
    refine zk_gv (by omega) (by omega) (fun _ q => ?_)
    subst q
    refine zk_e2 e2 ?_
    unfold f_LW_law_1304
    refine zk_n ?_
    exact hk _ _ (by omega) ho.2
  refine zk_ifc (zci_eqr (by omega)) (fun c37 => ?_) (fun c37 => ?_)
  · obtain ⟨o, e, ho⟩ := st_37 x3 σ τ hI  
    unfold f_OP_37 at e
    obtain ⟨v739, e1, e⟩ := xz_d1 e
    obtain ⟨v740, v741, e2, e⟩ := xz_d2 e
    cases e
    refine zk_e1 e1 ?_
    refine zk_e2 e2 ?_
    unfold f_LW_law_1304
    refine zk_n ?_
    exact hk _ _ (by omega) ho.2
  unfold f_LW_law_1304
  refine zk_n ?_
  exact hk _ _ (by omega) (INV_up hI)
theorem law_all (L : Nat) (zx : Nat → Int) (hL : L ≤ 3072) (hz : ∀ j, (-2147483648) ≤ zx j ∧ zx j ≤ 2147483647) : ∀ (n : Nat) (x3 : Int) (σ : Nat → Int) (τ : Nat → Nat → Int), (0 ≤ x3 ∧ x3 ≤ (L : Int)) → INV x3 σ τ → (L : Int) + 1 - x3 ≤ (n : Int) → zok (f_LW_law_18 L zx n x3 σ τ) (fun o => o = 1) := by
  intro n
  induction n with
  | zero => intro x3 σ τ h0 hI hm; exfalso; omega
  | succ n ih =>
    intro x3 σ τ h0 hI hm
    show zok (f_LW_law_18_b L zx (f_LW_law_18 L zx n) x3 σ τ) _
    exact law_step L zx hL hz _ x3 σ τ h0 hI (fun σ' τ' h h' => ih _ σ' τ' (by omega) h' (by omega))
