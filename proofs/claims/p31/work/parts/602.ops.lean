def f_OP_0 (N : Int) (s3 : Int) (s4 : Int) (s5 : Int) (s26 : Int) (s27 : Int) (s30 : Int) (s49 : Int) (t2 : Nat → Int) (t3 : Nat → Int) (t4 : Nat → Int) (t34 : Nat → Int) (t35 : Nat → Int) (t36 : Nat → Int) (t37 : Nat → Int) (t38 : Nat → Int) (t39 : Nat → Int) (t63 : Nat → Int) : Option (Int × Int × Int × Int × Int × Int × Int × (Nat → Int) × (Nat → Int) × (Nat → Int) × (Nat → Int) × (Nat → Int)) :=
  zd7 (f_HS_column s3 s30 t2 s49 t39 t63) fun v6 v7 v8 a9 v10 a11 a12 =>
  zd5 (f_HM_column s4 s5 t3 t4) fun v13 v14 v15 a16 a17 =>
  some (v6, v13, v7, v14, v15, v8, v10, a9, a16, a17, a11, a12)
def f_OP_1 (N : Int) (a1 : Int) (a2 : Int) (s3 : Int) (s4 : Int) (s5 : Int) (s26 : Int) (s27 : Int) (s30 : Int) (s49 : Int) (t2 : Nat → Int) (t3 : Nat → Int) (t4 : Nat → Int) (t34 : Nat → Int) (t35 : Nat → Int) (t36 : Nat → Int) (t37 : Nat → Int) (t38 : Nat → Int) (t39 : Nat → Int) (t63 : Nat → Int) (t64 : Nat → Int) : Option (Int × Int × Int × Int × Int × Int × (Nat → Int) × (Nat → Int) × (Nat → Int) × (Nat → Int) × (Nat → Int)) :=
  zd6 (f_HS_stone a1 a2 s49 s3 s30 t2 t63 t64) fun v22 v23 v24 a25 a26 a27 =>
  zd5 (f_HM_stone a1 a2 s4 s5 t3 t4) fun v32 v33 v34 a35 a36 =>
  some (v22, v32, v23, v33, v34, v24, a25, a35, a36, a26, a27)
def f_OP_2 (N : Int) (a1 : Int) (s3 : Int) (s4 : Int) (s5 : Int) (s26 : Int) (s27 : Int) (s30 : Int) (s49 : Int) (t2 : Nat → Int) (t3 : Nat → Int) (t4 : Nat → Int) (t34 : Nat → Int) (t35 : Nat → Int) (t36 : Nat → Int) (t37 : Nat → Int) (t38 : Nat → Int) (t39 : Nat → Int) (t63 : Nat → Int) (t64 : Nat → Int) : Option (Int × Int × Int × Int × Int × Int × (Nat → Int) × (Nat → Int) × (Nat → Int) × (Nat → Int)) :=
  zd5 (f_HS_lift a1 s49 t64 s3 s30 t2 t63) fun v39 v40 v41 a42 a43 =>
  zd5 (f_HM_lift a1 s4 s5 t3 t4) fun v46 v47 v48 a49 a50 =>
  some (v39, v46, v40, v47, v48, v41, a42, a49, a50, a43)
def f_OP_3 (N : Int) (a1 : Int) (a2 : Int) (s4 : Int) (s49 : Int) (t4 : Nat → Int) (t63 : Nat → Int) (t64 : Nat → Int) : Option (Int × Int × Int) :=
  zd1 (f_HS_of a1 a2 s49 t63 t64) fun v55 =>
  zd2 (f_HM_of a1 a2 t4 s4) fun v60 v61 =>
  some (v55, v60, v61)
def f_OP_4 (N : Int) (a1 : Int) (s4 : Int) (s49 : Int) (t4 : Nat → Int) (t63 : Nat → Int) (t64 : Nat → Int) : Option (Int × Int × Int) :=
  zd1 (f_HS_weight a1 s49 t63 t64) fun v64 =>
  zd2 (f_HM_weight a1 t4 s4) fun v67 v68 =>
  some (v64, v67, v68)
def f_OP_5 (N : Int) (a1 : Int) (s3 : Int) (s4 : Int) (s5 : Int) (s26 : Int) (s27 : Int) (s30 : Int) (s49 : Int) (t2 : Nat → Int) (t3 : Nat → Int) (t4 : Nat → Int) (t34 : Nat → Int) (t35 : Nat → Int) (t36 : Nat → Int) (t37 : Nat → Int) (t38 : Nat → Int) (t39 : Nat → Int) : Option (Int × Int × Int × Int × Int × Int × Int × (Nat → Int) × (Nat → Int) × (Nat → Int) × (Nat → Int) × (Nat → Int) × (Nat → Int)) :=
  zd8 (f_HS_child a1 s3 s26 s30 t2 t34 t35 t36) fun v71 v72 v73 v74 a75 a76 a77 a78 =>
  zd5 (f_HM_child a1 s4 s5 t3 t4) fun v81 v82 v83 a84 a85 =>
  some (v71, v81, v72, v82, v83, v73, v74, a75, a84, a85, a76, a77, a78)
def f_OP_6 (N : Int) (a1 : Int) (a2 : Int) (s3 : Int) (s4 : Int) (s5 : Int) (s26 : Int) (s27 : Int) (s30 : Int) (s49 : Int) (t2 : Nat → Int) (t3 : Nat → Int) (t4 : Nat → Int) (t34 : Nat → Int) (t35 : Nat → Int) (t36 : Nat → Int) (t37 : Nat → Int) (t38 : Nat → Int) (t39 : Nat → Int) : Option (Int × Int × Int × Int × Int × Int × (Nat → Int) × (Nat → Int) × (Nat → Int) × (Nat → Int)) :=
  zd5 (f_HS_expel a1 a2 s26 s3 s30 t2 t35) fun v90 v91 v92 a93 a94 =>
  zd5 (f_HM_expel a1 a2 s4 s5 t3 t4) fun v99 v100 v101 a102 a103 =>
  some (v90, v99, v91, v100, v101, v92, a93, a102, a103, a94)
def f_OP_7 (N : Int) (a1 : Int) (a2 : Int) (s4 : Int) (s26 : Int) (t4 : Nat → Int) (t34 : Nat → Int) (t35 : Nat → Int) (t36 : Nat → Int) : Option (Int × Int × Int) :=
  zd1 (f_HS_fact a1 a2 s26 t34 t35 t36) fun v108 =>
  zd2 (f_HM_fact a1 a2 t4 s4) fun v113 v114 =>
  some (v108, v113, v114)
def f_OP_8 (N : Int) (a1 : Int) (s3 : Int) (s4 : Int) (s5 : Int) (s26 : Int) (s27 : Int) (s30 : Int) (s49 : Int) (t2 : Nat → Int) (t3 : Nat → Int) (t4 : Nat → Int) (t34 : Nat → Int) (t35 : Nat → Int) (t36 : Nat → Int) (t37 : Nat → Int) (t38 : Nat → Int) (t39 : Nat → Int) : Option (Int × Int × Int × Int × Int × Int × Int × (Nat → Int) × (Nat → Int) × (Nat → Int) × (Nat → Int)) :=
  zd6 (f_HS_parish a1 s49 s3 s27 s30 t2 t37) fun v117 v118 v119 v120 a121 a122 =>
  zd5 (f_HM_parish a1 s4 s5 t3 t4) fun v125 v126 v127 a128 a129 =>
  some (v117, v125, v118, v126, v127, v119, v120, a121, a128, a129, a122)
def f_OP_9 (N : Int) (a1 : Int) (a2 : Int) (s3 : Int) (s4 : Int) (s5 : Int) (s26 : Int) (s27 : Int) (s30 : Int) (s49 : Int) (t2 : Nat → Int) (t3 : Nat → Int) (t4 : Nat → Int) (t34 : Nat → Int) (t35 : Nat → Int) (t36 : Nat → Int) (t37 : Nat → Int) (t38 : Nat → Int) (t39 : Nat → Int) : Option (Int × Int × Int × Int × Int × Int × (Nat → Int) × (Nat → Int) × (Nat → Int) × (Nat → Int)) :=
  zd5 (f_HS_terms a1 a2 s3 s30 t2 t38) fun v134 v135 v136 a137 a138 =>
  zd5 (f_HM_terms a1 a2 s4 s5 t3 t4) fun v143 v144 v145 a146 a147 =>
  some (v134, v143, v135, v144, v145, v136, a137, a146, a147, a138)
def f_OP_10 (N : Int) (a1 : Int) (a2 : Int) (a3 : Int) (a4 : Int) (a5 : Int) (s0 : Int) (s4 : Int) (s7 : Int) (t1 : Nat → Int) (t7 : Nat → Int) : Option (Int × Int × Int × Int × Int × (Nat → Int) × (Nat → Int)) :=
  zd3 (f_HS_feed a1 a2 a3 a4 a5 s0 t1) fun v158 v159 a160 =>
  zd4 (f_HM_feed a1 a2 a3 a4 a5 s4 s7 t7) fun v171 v172 v173 a174 =>
  some (v158, v171, v159, v172, v173, a160, a174)
def f_OP_11 (N : Int) (a1 : Int) (s0 : Int) (s4 : Int) (s7 : Int) : Option (Int × Int × Int × Int × Int) :=
  zd2 (f_HS_end a1 s0) fun v177 v178 =>
  zd3 (f_HM_end a1 s4 s7) fun v181 v182 v183 =>
  some (v177, v181, v178, v182, v183)
def f_OP_12 (N : Int) (s0 : Int) (s2 : Int) (s3 : Int) (s4 : Int) (s5 : Int) (s6 : Int) (s7 : Int) (s26 : Int) (s27 : Int) (s30 : Int) (s49 : Int) (t1 : Nat → Int) (t2 : Nat → Int) (t3 : Nat → Int) (t4 : Nat → Int) (t7 : Nat → Int) (t34 : Nat → Int) (t35 : Nat → Int) (t36 : Nat → Int) (t37 : Nat → Int) (t38 : Nat → Int) (t39 : Nat → Int) (t63 : Nat → Int) (t64 : Nat → Int) : Option (Int × Int × Int × Int × Int × Int × Int × Int × Int × Int × (Nat → Int) × (Nat → Int) × (Nat → Int) × (Nat → Int) × (Nat → Int)) :=
  zd8 (f_HS_row t1 s49 s0 s2 s3 s30 t2 t63 t64) fun v184 v185 v186 v187 v188 a189 a190 a191 =>
  zd7 (f_HM_row t7 s4 s5 s6 s7 t3 t4) fun v192 v193 v194 v195 v196 a197 a198 =>
  some (v184, v192, v185, v186, v187, v193, v194, v195, v196, v188, a189, a197, a198, a190, a191)
def f_OP_13 (N : Int) (s2 : Int) (s4 : Int) (s6 : Int) : Option (Int × Int × Int) :=
  zd1 (f_HS_gravel s2) fun v199 =>
  zd2 (f_HM_gravel s6 s4) fun v200 v201 =>
  some (v199, v200, v201)
def f_OP_14 (N : Int) (s0 : Int) (s1 : Int) (s3 : Int) (s4 : Int) (s5 : Int) (s7 : Int) (s8 : Int) (s9 : Int) (s10 : Int) (s11 : Int) (s12 : Int) (s13 : Int) (s14 : Int) (s15 : Int) (s16 : Int) (s17 : Int) (s18 : Int) (s26 : Int) (s27 : Int) (s28 : Int) (s30 : Int) (s31 : Int) (s32 : Int) (s33 : Int) (s49 : Int) (t1 : Nat → Int) (t2 : Nat → Int) (t3 : Nat → Int) (t4 : Nat → Int) (t7 : Nat → Int) (t8 : Nat → Int) (t9 : Nat → Int) (t10 : Nat → Int) (t11 : Nat → Int) (t12 : Nat → Int) (t13 : Nat → Int) (t34 : Nat → Int) (t35 : Nat → Int) (t36 : Nat → Int) (t37 : Nat → Int) (t38 : Nat → Int) (t39 : Nat → Int) (t40 : Nat → Int) (t41 : Nat → Int) (t42 : Nat → Int) (t43 : Nat → Int) (t44 : Nat → Int) (t45 : Nat → Int) : Option (Int × Int × Int × Int × Int × Int × Int × Int × Int × Int × Int × Int × Int × Int × Int × Int × Int × Int × Int × Int × Int × Int × Int × Int × (Nat → Int) × (Nat → Int) × (Nat → Int) × (Nat → Int) × (Nat → Int) × (Nat → Int) × (Nat → Int) × (Nat → Int) × (Nat → Int) × (Nat → Int) × (Nat → Int) × (Nat → Int) × (Nat → Int) × (Nat → Int)) :=
  zd16 (f_HS_law t1 s0 s1 s3 s28 s30 t2 s31 s32 s33 t40 t41 t42 t43 t44 t45) fun v202 v203 v204 v205 v206 v207 a208 v209 v210 v211 a212 a213 a214 a215 a216 a217 =>
  zd22 (f_HM_law t7 t13 s4 s5 s7 s8 s9 s10 s11 s12 s13 s14 s15 s16 s17 s18 t3 t4 t8 t9 t10 t11 t12) fun v218 v219 v220 v221 v222 v223 v224 v225 v226 v227 v228 v229 v230 v231 v232 a233 a234 a235 a236 a237 a238 a239 =>
  some (v202, v218, v203, v204, v205, v219, v220, v221, v222, v223, v224, v225, v226, v227, v228, v229, v230, v231, v232, v206, v207, v209, v210, v211, a208, a233, a234, a235, a236, a237, a238, a239, a212, a213, a214, a215, a216, a217)
def f_OP_15 (N : Int) (s1 : Int) (s4 : Int) (s12 : Int) : Option (Int × Int × Int) :=
  zd1 (f_HS_fault s1) fun v240 =>
  zd2 (f_HM_fault s12 s4) fun v241 v242 =>
  some (v240, v241, v242)
def f_OP_16 (N : Int) (a1 : Int) (s3 : Int) (s4 : Int) (s5 : Int) (s26 : Int) (s27 : Int) (s28 : Int) (s29 : Int) (s30 : Int) (s49 : Int) (t2 : Nat → Int) (t3 : Nat → Int) (t4 : Nat → Int) (t34 : Nat → Int) (t35 : Nat → Int) (t36 : Nat → Int) (t37 : Nat → Int) (t38 : Nat → Int) (t39 : Nat → Int) : Option (Int × Int × Int × Int × Int × Int × Int × (Nat → Int) × (Nat → Int) × (Nat → Int)) :=
  zd5 (f_HS_force a1 s28 s3 s29 s30 t2) fun v245 v246 v247 v248 a249 =>
  zd5 (f_HM_force a1 s4 s5 t3 t4) fun v252 v253 v254 a255 a256 =>
  some (v245, v252, v246, v253, v254, v247, v248, a249, a255, a256)
def f_OP_17 (N : Int) (a1 : Int) (a2 : Int) (a3 : Int) (s4 : Int) (s19 : Int) (s20 : Int) (s21 : Int) (s22 : Int) (s26 : Int) (s28 : Int) (s29 : Int) (s34 : Int) (s35 : Int) (s36 : Int) (s49 : Int) (t4 : Nat → Int) (t14 : Nat → Int) (t15 : Nat → Int) (t16 : Nat → Int) (t17 : Nat → Int) (t34 : Nat → Int) (t35 : Nat → Int) (t38 : Nat → Int) (t40 : Nat → Int) (t41 : Nat → Int) (t46 : Nat → Int) (t47 : Nat → Int) (t63 : Nat → Int) (t64 : Nat → Int) : Option (Int × Int × Int × Int × Int × Int × Int × Int × Int × Int × (Nat → Int) × (Nat → Int) × (Nat → Int) × (Nat → Int) × (Nat → Int) × (Nat → Int)) :=
  zd6 (f_HS_can a1 a2 a3 s26 s28 s29 s49 t34 t35 t38 t40 t41 t63 t64 s34 s35 s36 t46 t47) fun v263 v264 v265 v266 a267 a268 =>
  zd10 (f_HM_can a1 a2 a3 t4 s4 s19 s20 s21 s22 t14 t15 t16 t17) fun v275 v276 v277 v278 v279 v280 a281 a282 a283 a284 =>
  some (v263, v275, v276, v277, v278, v279, v280, v264, v265, v266, a281, a282, a283, a284, a267, a268)
def f_OP_18 (N : Int) (a1 : Int) (a2 : Int) (a3 : Int) (s4 : Int) (s19 : Int) (s20 : Int) (s21 : Int) (s22 : Int) (s26 : Int) (s28 : Int) (s29 : Int) (s34 : Int) (s35 : Int) (s36 : Int) (s49 : Int) (t4 : Nat → Int) (t14 : Nat → Int) (t15 : Nat → Int) (t16 : Nat → Int) (t17 : Nat → Int) (t34 : Nat → Int) (t35 : Nat → Int) (t38 : Nat → Int) (t40 : Nat → Int) (t41 : Nat → Int) (t46 : Nat → Int) (t47 : Nat → Int) (t63 : Nat → Int) (t64 : Nat → Int) : Option (Int × Int × Int × Int × Int × Int × Int × Int × Int × Int × (Nat → Int) × (Nat → Int) × (Nat → Int) × (Nat → Int) × (Nat → Int) × (Nat → Int)) :=
  zd6 (f_HS_tires a1 a2 a3 s26 s28 s29 s49 t34 t35 t38 t40 t41 t63 t64 s34 s35 s36 t46 t47) fun v291 v292 v293 v294 a295 a296 =>
  zd10 (f_HM_tires a1 a2 a3 t4 s4 s19 s20 s21 s22 t14 t15 t16 t17) fun v303 v304 v305 v306 v307 v308 a309 a310 a311 a312 =>
  some (v291, v303, v304, v305, v306, v307, v308, v292, v293, v294, a309, a310, a311, a312, a295, a296)
def f_OP_19 (N : Int) (a1 : Int) (a2 : Int) (a3 : Int) (s3 : Int) (s4 : Int) (s5 : Int) (s19 : Int) (s20 : Int) (s21 : Int) (s22 : Int) (s26 : Int) (s27 : Int) (s28 : Int) (s29 : Int) (s30 : Int) (s34 : Int) (s35 : Int) (s36 : Int) (s49 : Int) (t2 : Nat → Int) (t3 : Nat → Int) (t4 : Nat → Int) (t14 : Nat → Int) (t15 : Nat → Int) (t16 : Nat → Int) (t17 : Nat → Int) (t34 : Nat → Int) (t35 : Nat → Int) (t36 : Nat → Int) (t37 : Nat → Int) (t38 : Nat → Int) (t39 : Nat → Int) (t40 : Nat → Int) (t41 : Nat → Int) (t46 : Nat → Int) (t47 : Nat → Int) (t63 : Nat → Int) (t64 : Nat → Int) : Option (Int × Int × Int × Int × Int × Int × Int × Int × Int × Int × Int × Int × Int × (Nat → Int) × (Nat → Int) × (Nat → Int) × (Nat → Int) × (Nat → Int) × (Nat → Int) × (Nat → Int) × (Nat → Int) × (Nat → Int) × (Nat → Int) × (Nat → Int)) :=
  zd11 (f_HS_carry a1 a2 a3 s26 s28 s29 s49 t34 t35 t38 t40 t41 s3 s30 t2 s34 s35 s36 t46 t47 t63 t64) fun v319 v320 v321 a322 v323 v324 v325 a326 a327 a328 a329 =>
  zd13 (f_HM_carry a1 a2 a3 s4 s5 s19 s20 s21 s22 t3 t4 t14 t15 t16 t17) fun v336 v337 v338 v339 v340 v341 v342 a343 a344 a345 a346 a347 a348 =>
  some (v319, v336, v320, v337, v338, v339, v340, v341, v342, v321, v323, v324, v325, a322, a343, a344, a345, a346, a347, a348, a326, a327, a328, a329)
def f_OP_20 (N : Int) (a1 : Int) (a2 : Int) (a3 : Int) (a4 : Int) (s3 : Int) (s4 : Int) (s5 : Int) (s19 : Int) (s20 : Int) (s21 : Int) (s22 : Int) (s26 : Int) (s27 : Int) (s28 : Int) (s29 : Int) (s30 : Int) (s34 : Int) (s35 : Int) (s36 : Int) (s49 : Int) (t2 : Nat → Int) (t3 : Nat → Int) (t4 : Nat → Int) (t14 : Nat → Int) (t15 : Nat → Int) (t16 : Nat → Int) (t17 : Nat → Int) (t34 : Nat → Int) (t35 : Nat → Int) (t36 : Nat → Int) (t37 : Nat → Int) (t38 : Nat → Int) (t39 : Nat → Int) (t40 : Nat → Int) (t41 : Nat → Int) (t46 : Nat → Int) (t47 : Nat → Int) (t63 : Nat → Int) (t64 : Nat → Int) : Option (Int × Int × Int × Int × Int × Int × Int × Int × Int × Int × Int × Int × Int × (Nat → Int) × (Nat → Int) × (Nat → Int) × (Nat → Int) × (Nat → Int) × (Nat → Int) × (Nat → Int) × (Nat → Int) × (Nat → Int) × (Nat → Int) × (Nat → Int)) :=
  zd11 (f_HS_exchange a1 a2 a3 a4 s26 s28 s29 s49 t34 t35 t38 t40 t41 s3 s30 t2 s34 s35 s36 t46 t47 t63 t64) fun v357 v358 v359 a360 v361 v362 v363 a364 a365 a366 a367 =>
  zd13 (f_HM_exchange a1 a2 a3 a4 s4 s5 s19 s20 s21 s22 t3 t4 t14 t15 t16 t17) fun v376 v377 v378 v379 v380 v381 v382 a383 a384 a385 a386 a387 a388 =>
  some (v357, v376, v358, v377, v378, v379, v380, v381, v382, v359, v361, v362, v363, a360, a383, a384, a385, a386, a387, a388, a364, a365, a366, a367)
def f_OP_21 (N : Int) (s4 : Int) (s49 : Int) (t4 : Nat → Int) (t16 : Nat → Int) (t17 : Nat → Int) (t38 : Nat → Int) (t63 : Nat → Int) : Option (Int × Int × Int × (Nat → Int) × (Nat → Int)) :=
  zd1 (f_HS_steep s49 t38 t63) fun v389 =>
  zd4 (f_HM_steep t4 s4 t16 t17) fun v390 v391 a392 a393 =>
  some (v389, v390, v391, a392, a393)
def f_OP_22 (N : Int) (s4 : Int) (s26 : Int) (s27 : Int) (s30 : Int) (s49 : Int) (t4 : Nat → Int) (t16 : Nat → Int) (t17 : Nat → Int) (t34 : Nat → Int) (t35 : Nat → Int) (t36 : Nat → Int) (t37 : Nat → Int) (t38 : Nat → Int) (t39 : Nat → Int) (t63 : Nat → Int) (t64 : Nat → Int) : Option (Int × Int × Int × Int × (Nat → Int) × (Nat → Int) × (Nat → Int) × (Nat → Int) × (Nat → Int)) :=
  zd4 (f_HS_slide s49 t38 s30 t63 t64) fun v394 v395 a396 a397 =>
  zd5 (f_HM_slide s4 t4 t16 t17) fun v398 v399 a400 a401 a402 =>
  some (v394, v398, v399, v395, a400, a401, a402, a396, a397)
def f_OP_23 (N : Int) (a1 : Int) (s4 : Int) (s27 : Int) (s49 : Int) (t4 : Nat → Int) (t16 : Nat → Int) (t17 : Nat → Int) (t37 : Nat → Int) (t38 : Nat → Int) (t63 : Nat → Int) : Option (Int × Int × Int × (Nat → Int) × (Nat → Int)) :=
  zd1 (f_HS_shade a1 s27 s49 t37 t38 t63) fun v405 =>
  zd4 (f_HM_shade a1 t4 s4 t16 t17) fun v408 v409 a410 a411 =>
  some (v405, v408, v409, a410, a411)
def f_OP_24 (N : Int) (a1 : Int) (a2 : Int) (a3 : Int) (a4 : Int) (s4 : Int) (s19 : Int) (s20 : Int) (s21 : Int) (s22 : Int) (s26 : Int) (s27 : Int) (s28 : Int) (s29 : Int) (s34 : Int) (s35 : Int) (s36 : Int) (s49 : Int) (t4 : Nat → Int) (t14 : Nat → Int) (t15 : Nat → Int) (t16 : Nat → Int) (t17 : Nat → Int) (t34 : Nat → Int) (t35 : Nat → Int) (t37 : Nat → Int) (t38 : Nat → Int) (t40 : Nat → Int) (t41 : Nat → Int) (t46 : Nat → Int) (t47 : Nat → Int) (t63 : Nat → Int) (t64 : Nat → Int) : Option (Int × Int × Int × Int × Int × Int × Int × Int × Int × Int × (Nat → Int) × (Nat → Int) × (Nat → Int) × (Nat → Int) × (Nat → Int) × (Nat → Int) × (Nat → Int) × (Nat → Int)) :=
  zd8 (f_HS_gains a1 a2 a3 a4 s26 s27 s28 s29 s49 t34 t35 t37 t38 t40 t41 s34 s35 s36 t46 t47 t63 t64) fun v420 v421 v422 v423 a424 a425 a426 a427 =>
  zd10 (f_HM_gains a1 a2 a3 a4 t4 s4 s19 s20 s21 s22 t14 t15 t16 t17) fun v436 v437 v438 v439 v440 v441 a442 a443 a444 a445 =>
  some (v420, v436, v437, v438, v439, v440, v441, v421, v422, v423, a442, a443, a444, a445, a424, a425, a426, a427)
def f_OP_25 (N : Int) (a1 : Int) (a2 : Int) (s3 : Int) (s4 : Int) (s5 : Int) (s26 : Int) (s27 : Int) (s30 : Int) (s49 : Int) (t2 : Nat → Int) (t3 : Nat → Int) (t4 : Nat → Int) (t34 : Nat → Int) (t35 : Nat → Int) (t36 : Nat → Int) (t37 : Nat → Int) (t38 : Nat → Int) (t39 : Nat → Int) : Option (Int × Int × Int × Int × Int × Int × (Nat → Int) × (Nat → Int) × (Nat → Int) × (Nat → Int)) :=
  zd5 (f_HS_goal a1 a2 s49 s3 s30 t2 t39) fun v450 v451 v452 a453 a454 =>
  zd5 (f_HM_goal a1 a2 s4 s5 t3 t4) fun v459 v460 v461 a462 a463 =>
  some (v450, v459, v451, v460, v461, v452, a453, a462, a463, a454)
def f_OP_26 (N : Int) (a1 : Int) (a2 : Int) (a3 : Int) (s4 : Int) (s19 : Int) (s20 : Int) (s21 : Int) (s22 : Int) (s23 : Int) (s26 : Int) (s28 : Int) (s29 : Int) (s30 : Int) (s34 : Int) (s35 : Int) (s36 : Int) (s37 : Int) (s38 : Int) (s39 : Int) (s49 : Int) (s64 : Int) (s65 : Int) (s66 : Int) (s67 : Int) (s68 : Int) (s69 : Int) (s70 : Int) (s71 : Int) (s72 : Int) (t4 : Nat → Int) (t14 : Nat → Int) (t15 : Nat → Int) (t18 : Nat → Int) (t19 : Nat → Int) (t20 : Nat → Int) (t21 : Nat → Int) (t22 : Nat → Int) (t23 : Nat → Int) (t24 : Nat → Int) (t25 : Nat → Int) (t26 : Nat → Int) (t27 : Nat → Int) (t34 : Nat → Int) (t35 : Nat → Int) (t38 : Nat → Int) (t39 : Nat → Int) (t40 : Nat → Int) (t41 : Nat → Int) (t46 : Nat → Int) (t47 : Nat → Int) (t48 : Nat → Int) (t49 : Nat → Int) (t50 : Nat → Int) (t51 : Nat → Int) (t52 : Nat → Int) (t53 : Nat → Int) (t54 : Nat → Int) (t55 : Nat → Int) (t56 : Nat → Int) (t57 : Nat → Int) (t58 : Nat → Int) (t63 : Nat → Int) (t64 : Nat → Int) (t89 : Nat → Int) (t90 : Nat → Int) (t91 : Nat → Int) : Option (Int × Int × Int × Int × Int × Int × Int × Int × Int × Int × Int × Int × Int × Int × Int × Int × Int × Int × Int × Int × Int × Int × Int × (Nat → Int) × (Nat → Int) × (Nat → Int) × (Nat → Int) × (Nat → Int) × (Nat → Int) × (Nat → Int) × (Nat → Int) × (Nat → Int) × (Nat → Int) × (Nat → Int) × (Nat → Int) × (Nat → Int) × (Nat → Int) × (Nat → Int) × (Nat → Int) × (Nat → Int) × (Nat → Int) × (Nat → Int) × (Nat → Int) × (Nat → Int) × (Nat → Int) × (Nat → Int) × (Nat → Int) × (Nat → Int) × (Nat → Int) × (Nat → Int) × (Nat → Int)) :=
  zd32 (f_HS_plan a1 a2 a3 s26 s28 s29 s30 s49 t34 t35 t38 t39 t40 t41 t63 t64 s34 s35 s36 s37 s38 s39 t46 t47 t48 t49 t50 t51 t52 t53 t54 t55 t56 t57 t58 s64 s65 s66 s67 s68 s69 s70 s71 s72 t89 t90 t91) fun v470 v471 v472 v473 v474 v475 v476 a477 a478 a479 a480 a481 a482 a483 a484 a485 a486 a487 a488 a489 v490 v491 v492 v493 v494 v495 v496 v497 v498 a499 a500 a501 =>
  zd19 (f_HM_plan a1 a2 a3 t4 s4 s19 s20 s21 s22 s23 t14 t15 t18 t19 t20 t21 t22 t23 t24 t25 t26 t27) fun v508 v509 v510 v511 v512 v513 v514 a515 a516 a517 a518 a519 a520 a521 a522 a523 a524 a525 a526 =>
  some (v470, v508, v509, v510, v511, v512, v513, v514, v471, v472, v473, v474, v475, v476, v490, v491, v492, v493, v494, v495, v496, v497, v498, a515, a516, a517, a518, a519, a520, a521, a522, a523, a524, a525, a526, a477, a478, a479, a480, a481, a482, a483, a484, a485, a486, a487, a488, a489, a499, a500, a501)
def f_OP_27 (N : Int) (a1 : Int) (s4 : Int) (s30 : Int) (s44 : Int) (s49 : Int) (t4 : Nat → Int) (t28 : Nat → Int) (t61 : Nat → Int) (t63 : Nat → Int) (t64 : Nat → Int) : Option (Int × Int × Int × Int × (Nat → Int) × (Nat → Int)) :=
  zd3 (f_HS_weighs a1 s30 s49 t63 t64 s44 t61) fun v529 v530 a531 =>
  zd3 (f_HM_weighs a1 t4 s4 t28) fun v534 v535 a536 =>
  some (v529, v534, v535, v530, a536, a531)
def f_OP_28 (N : Int) (a1 : Int) (a2 : Int) (s3 : Int) (s4 : Int) (s5 : Int) (s26 : Int) (s27 : Int) (s30 : Int) (s49 : Int) (t2 : Nat → Int) (t3 : Nat → Int) (t4 : Nat → Int) (t34 : Nat → Int) (t35 : Nat → Int) (t36 : Nat → Int) (t37 : Nat → Int) (t38 : Nat → Int) (t39 : Nat → Int) : Option (Int × Int × Int × Int × Int × Int × (Nat → Int) × (Nat → Int) × (Nat → Int) × (Nat → Int)) :=
  zd5 (f_HS_trips a1 a2 s26 s3 s30 t2 t36) fun v541 v542 v543 a544 a545 =>
  zd5 (f_HM_trips a1 a2 s4 s5 t3 t4) fun v550 v551 v552 a553 a554 =>
  some (v541, v550, v542, v551, v552, v543, a544, a553, a554, a545)
def f_OP_29 (N : Int) (a1 : Int) (a2 : Int) (a3 : Int) (s4 : Int) (s26 : Int) (s45 : Int) (s46 : Int) (s47 : Int) (s48 : Int) (t4 : Nat → Int) (t29 : Nat → Int) (t36 : Nat → Int) (t62 : Nat → Int) : Option (Int × Int × Int × Int × Int × Int × Int × (Nat → Int) × (Nat → Int)) :=
  zd6 (f_HS_culprits a1 a2 a3 s26 t36 s45 s46 s47 s48 t62) fun v561 v562 v563 v564 v565 a566 =>
  zd3 (f_HM_culprits a1 a2 a3 t4 s4 t29) fun v573 v574 a575 =>
  some (v561, v573, v574, v562, v563, v564, v565, a575, a566)
def f_OP_30 (N : Int) (a1 : Int) (a2 : Int) (a3 : Int) (s4 : Int) (s19 : Int) (s20 : Int) (s21 : Int) (s22 : Int) (s26 : Int) (s27 : Int) (s28 : Int) (s29 : Int) (s30 : Int) (s34 : Int) (s35 : Int) (s36 : Int) (s40 : Int) (s41 : Int) (s42 : Int) (s43 : Int) (s49 : Int) (s60 : Int) (t4 : Nat → Int) (t14 : Nat → Int) (t15 : Nat → Int) (t16 : Nat → Int) (t17 : Nat → Int) (t30 : Nat → Int) (t31 : Nat → Int) (t32 : Nat → Int) (t34 : Nat → Int) (t35 : Nat → Int) (t37 : Nat → Int) (t38 : Nat → Int) (t40 : Nat → Int) (t41 : Nat → Int) (t46 : Nat → Int) (t47 : Nat → Int) (t48 : Nat → Int) (t59 : Nat → Int) (t60 : Nat → Int) (t63 : Nat → Int) (t64 : Nat → Int) (t81 : Nat → Int) (t82 : Nat → Int) : Option (Int × Int × Int × Int × Int × Int × Int × Int × Int × Int × Int × Int × Int × Int × Int × (Nat → Int) × (Nat → Int) × (Nat → Int) × (Nat → Int) × (Nat → Int) × (Nat → Int) × (Nat → Int) × (Nat → Int) × (Nat → Int) × (Nat → Int) × (Nat → Int) × (Nat → Int) × (Nat → Int) × (Nat → Int)) :=
  zd16 (f_HS_duel a1 a2 a3 s26 s27 s28 s29 s30 s49 t34 t35 t37 t38 t40 t41 t63 t64 s34 s35 s36 s40 s41 s42 s43 t46 t47 t48 s60 t59 t60 t81 t82) fun v582 v583 v584 v585 v586 v587 v588 v589 a590 a591 a592 v593 a594 a595 a596 a597 =>
  zd13 (f_HM_duel a1 a2 a3 t4 s4 s19 s20 s21 s22 t14 t15 t16 t17 t30 t31 t32) fun v604 v605 v606 v607 v608 v609 a610 a611 a612 a613 a614 a615 a616 =>
  some (v582, v604, v605, v606, v607, v608, v609, v583, v584, v585, v586, v587, v588, v589, v593, a610, a611, a612, a613, a614, a615, a616, a590, a591, a592, a594, a595, a596, a597)
def f_OP_31 (N : Int) (a1 : Int) (s4 : Int) (s49 : Int) (t4 : Nat → Int) (t63 : Nat → Int) (t64 : Nat → Int) : Option (Int × Int × Int) :=
  zd1 (f_HS_layers a1 s49 t63 t64) fun v619 =>
  zd2 (f_HM_layers a1 t4 s4) fun v622 v623 =>
  some (v619, v622, v623)
def f_OP_32 (N : Int) (a1 : Int) (a2 : Int) (s3 : Int) (s4 : Int) (s5 : Int) (s24 : Int) (s25 : Int) (s30 : Int) (s49 : Int) (s61 : Int) (t2 : Nat → Int) (t3 : Nat → Int) (t4 : Nat → Int) (t16 : Nat → Int) (t17 : Nat → Int) (t33 : Nat → Int) (t38 : Nat → Int) (t63 : Nat → Int) (t64 : Nat → Int) (t83 : Nat → Int) (t84 : Nat → Int) : Option (Int × Int × Int × Int × Int × Int × Int × Int × Int × (Nat → Int) × (Nat → Int) × (Nat → Int) × (Nat → Int) × (Nat → Int) × (Nat → Int) × (Nat → Int)) :=
  zd7 (f_HS_rain a1 a2 s49 t38 t63 t64 s3 s30 t2 s61 t83 t84) fun v628 v629 v630 a631 v632 a633 a634 =>
  zd9 (f_HM_rain a1 a2 t4 s4 s5 s24 s25 t3 t16 t17 t33) fun v639 v640 v641 v642 v643 a644 a645 a646 a647 =>
  some (v628, v639, v629, v640, v641, v642, v643, v630, v632, a631, a644, a645, a646, a647, a633, a634)
def f_OP_33 (N : Int) (a1 : Int) (a2 : Int) (s4 : Int) (s25 : Int) (s61 : Int) (t33 : Nat → Int) (t83 : Nat → Int) (t84 : Nat → Int) : Option (Int × Int × Int) :=
  zd1 (f_HS_rained a1 a2 s61 t83 t84) fun v652 =>
  zd2 (f_HM_rained a1 a2 s25 t33 s4) fun v657 v658 =>
  some (v652, v657, v658)
def f_OP_34 (N : Int) (a1 : Int) (s3 : Int) (s4 : Int) (s5 : Int) (s26 : Int) (s27 : Int) (s28 : Int) (s29 : Int) (s30 : Int) (s49 : Int) (s50 : Int) (s51 : Int) (s52 : Int) (s53 : Int) (s55 : Int) (s56 : Int) (s57 : Int) (s58 : Int) (s62 : Int) (s63 : Int) (t0 : Nat → Int) (t2 : Nat → Int) (t3 : Nat → Int) (t4 : Nat → Int) (t5 : Nat → Int) (t6 : Nat → Int) (t34 : Nat → Int) (t35 : Nat → Int) (t36 : Nat → Int) (t37 : Nat → Int) (t38 : Nat → Int) (t39 : Nat → Int) (t40 : Nat → Int) (t41 : Nat → Int) (t63 : Nat → Int) (t64 : Nat → Int) (t65 : Nat → Int) (t66 : Nat → Int) (t67 : Nat → Int) (t68 : Nat → Int) (t69 : Nat → Int) (t70 : Nat → Int) (t71 : Nat → Int) (t72 : Nat → Int) (t73 : Nat → Int) (t74 : Nat → Int) (t75 : Nat → Int) (t76 : Nat → Int) (t77 : Nat → Int) (t78 : Nat → Int) (t79 : Nat → Int) (t80 : Nat → Int) (t85 : Nat → Int) (t86 : Nat → Int) (t87 : Nat → Int) (t88 : Nat → Int) : Option (Int × Int × Int × Int × Int × Int × Int × Int × Int × Int × Int × Int × Int × Int × Int × Int × (Nat → Int) × (Nat → Int) × (Nat → Int) × (Nat → Int) × (Nat → Int) × (Nat → Int) × (Nat → Int) × (Nat → Int) × (Nat → Int) × (Nat → Int) × (Nat → Int) × (Nat → Int) × (Nat → Int) × (Nat → Int) × (Nat → Int) × (Nat → Int) × (Nat → Int) × (Nat → Int) × (Nat → Int) × (Nat → Int) × (Nat → Int) × (Nat → Int) × (Nat → Int) × (Nat → Int) × (Nat → Int)) :=
  zd35 (f_HS_image a1 s26 s27 s28 s29 s49 t34 t35 t36 t37 t38 t39 t40 t41 t63 t64 s3 s30 t0 t2 s50 s51 s52 s53 s55 s56 s57 s58 s62 t65 t66 t67 t68 t69 t70 t71 t72 s63 t73 t74 t75 t76 t77 t78 t79 t80 t85 t86 t87 t88) fun v661 v662 v663 a664 a665 v666 v667 v668 v669 v670 v671 v672 v673 v674 a675 a676 a677 a678 a679 a680 a681 a682 v683 a684 a685 a686 a687 a688 a689 a690 a691 a692 a693 a694 a695 =>
  zd6 (f_HM_image a1 t4 s4 s5 t3 t5 t6) fun v698 v699 v700 a701 a702 a703 =>
  some (v661, v698, v662, v699, v700, v663, v666, v667, v668, v669, v670, v671, v672, v673, v674, v683, a664, a665, a701, a702, a703, a675, a676, a677, a678, a679, a680, a681, a682, a684, a685, a686, a687, a688, a689, a690, a691, a692, a693, a694, a695)
def f_OP_35 (N : Int) (a1 : Int) (s3 : Int) (s4 : Int) (s5 : Int) (s26 : Int) (s27 : Int) (s28 : Int) (s29 : Int) (s30 : Int) (s49 : Int) (s50 : Int) (s51 : Int) (s52 : Int) (s53 : Int) (s55 : Int) (s56 : Int) (s57 : Int) (s58 : Int) (s62 : Int) (s63 : Int) (t0 : Nat → Int) (t2 : Nat → Int) (t3 : Nat → Int) (t4 : Nat → Int) (t5 : Nat → Int) (t6 : Nat → Int) (t34 : Nat → Int) (t35 : Nat → Int) (t36 : Nat → Int) (t37 : Nat → Int) (t38 : Nat → Int) (t39 : Nat → Int) (t40 : Nat → Int) (t41 : Nat → Int) (t63 : Nat → Int) (t64 : Nat → Int) (t65 : Nat → Int) (t66 : Nat → Int) (t67 : Nat → Int) (t68 : Nat → Int) (t69 : Nat → Int) (t70 : Nat → Int) (t71 : Nat → Int) (t72 : Nat → Int) (t73 : Nat → Int) (t74 : Nat → Int) (t75 : Nat → Int) (t76 : Nat → Int) (t77 : Nat → Int) (t78 : Nat → Int) (t79 : Nat → Int) (t80 : Nat → Int) (t85 : Nat → Int) (t86 : Nat → Int) (t87 : Nat → Int) (t88 : Nat → Int) : Option (Int × Int × Int × Int × Int × Int × Int × Int × Int × Int × Int × (Nat → Int) × (Nat → Int) × (Nat → Int) × (Nat → Int) × (Nat → Int) × (Nat → Int) × (Nat → Int) × (Nat → Int) × (Nat → Int) × (Nat → Int) × (Nat → Int) × (Nat → Int) × (Nat → Int)) :=
  zd19 (f_HS_back a1 t0 s50 s51 s52 s53 s55 s56 s57 s58 s62 t65 t66 t67 t68 t69 t70 t71 t72 s63 t73 t74 t75 t76 t77 t78 t79 t80 t85 t86 t87 t88 s3 s26 s27 s28 s29 s30 t2 s49 t34 t35 t36 t37 t38 t39 t40 t41 t63 t64) fun v706 v707 v708 v709 v710 v711 v712 a713 v714 a715 a716 a717 a718 a719 a720 a721 a722 a723 a724 =>
  zd5 (f_HM_back a1 t5 t6 s4 s5 t3 t4) fun v727 v728 v729 a730 a731 =>
  some (v706, v727, v707, v728, v729, v708, v709, v710, v711, v712, v714, a713, a730, a731, a715, a716, a717, a718, a719, a720, a721, a722, a723, a724)
def f_OP_36 (N : Int) (a1 : Int) (s0 : Int) (s4 : Int) (s7 : Int) (s26 : Int) (s27 : Int) (s28 : Int) (s29 : Int) (s49 : Int) (t2 : Nat → Int) (t3 : Nat → Int) (t4 : Nat → Int) (t38 : Nat → Int) (t63 : Nat → Int) : Option (Int × Int × Int) :=
  zd1 (f_HS_count a1 s0 s26 s27 s28 s29 t2 s49 t38 t63) fun v734 =>
  zd2 (f_HM_count a1 s7 t3 t4 s4) fun v737 v738 =>
  some (v734, v737, v738)
def f_OP_37 (N : Int) (s3 : Int) (s4 : Int) (s5 : Int) : Option (Int × Int × Int) :=
  zd1 (f_HS_status s3) fun v739 =>
  zd2 (f_HM_status s5 s4) fun v740 v741 =>
  some (v739, v740, v741)
