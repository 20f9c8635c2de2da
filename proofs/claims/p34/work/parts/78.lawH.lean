/-! THE LAW: an act: a hire, a back, a find, hours -/
section ACT2
variable {sc : Nat × (Nat → Int32)} {σ : SG} {T K S N O E : Nat} {kind a b : Int32} {Q : Option Value → MS → Prop}
set_option maxHeartbeats 1000000 in
set_option maxRecDepth 20000 in
theorem lp_L_act_D (h : LwS σ T K S N O E) {r : Nat} (hr : r ≤ K) (hN : N < 200) (hQ : ∀ σ', ActQ σ kind σ' → Q (some (.int 1)) (emb σ')) : Vf 97 sp_L_act ((127, SLT), sc) 239 [.ref 0, .ref 126, .int kind, .int a, .int b, .int (oN r), .int (oN T), .int 0, .int (σ 0 8 6), .int 1, .null, .null, .null, .null, .null, .null, .null, .null] [] (emb σ) Q := by
  have hb := J_bd h.1
  obtain ⟨y1, hy1, f1⟩ := lowF_n b (n := 60) (by decide) (by decide)
  obtain ⟨y2, hy2, f2⟩ := lowF_n (b >>> ((6 : Int32) &&& 31)) (n := 6) (by decide) (by decide)
  obtain ⟨z, hz, f3⟩ := and63 (b >>> ((9 : Int32) &&& 31))
  have e1 : 1 + lowF b 60 = oN (1 + y1) := by rw [show lowF b 60 = oN y1 from f1]; exact oN_add 1 y1
  have e2 : (1 : Int32) + lowF (b >>> ((6 : Int32) &&& 31)) 6 = oN (1 + y2) := by rw [show lowF (b >>> ((6 : Int32) &&& 31)) 6 = oN y2 from f2]; exact oN_add 1 y2
  have ew := fun t => rd_why h.1 (k := oN r) (m := oN (1 + y1)) (l := oN (1 + y2)) (t := t)
  obtain ⟨told, σ2, ek, ex⟩ : ∃ told σ2, f_X_hire [.ref 0, .int (oN r), .int (oN (1 + y1)), .int (oN (1 + y2)), .int (oN z)] (emb σ) = (True, some (.int told), emb σ2) ∧ hiF σ (oN r) (oN (1 + y1)) (oN (1 + y2)) (oN z) = (told, σ2) := by
    refine ⟨(hiF σ (oN r) (oN (1 + y1)) (oN (1 + y2)) (oN z)).1, (hiF σ (oN r) (oN (1 + y1)) (oN (1 + y2)) (oN z)).2, ?_, rfl⟩
    have hp : ltP σ ∧ sm (σ 0 8 2) 10 := ⟨LwS_lt h, J_s2 h.1⟩
    rw [q_X_hire, eq_true hp]
  have ho := hiF_o h hN hr (show 1 ≤ 1 + y1 by omega) (show 1 + y1 ≤ 300 by omega) (show 1 ≤ 1 + y2 by omega) (show 1 + y2 ≤ 12 by omega) hz
  rw [ex] at ho
  have hW := ew (oN z)
  generalize wyF σ (oN r) (oN (1 + y1)) (oN (1 + y2)) (oN z) = wy at ho hW
  have ref : ∀ {r10 r11 r12 r13 r14 r15 r16 r17 : Value}, told < 0 → σ2 = σ → Vf 97 sp_L_act ((127, SLT), sc) 839 [.ref 0, .ref 126, .int kind, .int a, .int b, .int (oN r), .int (oN T), .int told, .int (σ 0 8 6), .int 1, r10, r11, r12, r13, r14, r15, r16, r17] [] (emb σ2) Q := by
    intro r10 r11 r12 r13 r14 r15 r16 r17 h1 h2
    subst h2
    refine lp_L_act_E h.1 (fun _ => rfl) (hQ _ (ActQ_n h (fun c hc => ?_) ?_))
    · rw [u2k, if_neg (by omega)]
    · rw [u2k, if_pos rfl]
      unfold tbF
      rw [if_pos h1]
  rcases ho with ⟨g1, g2⟩ | ⟨g1, g2, g3, g4⟩ | ⟨g1, g2, w2, g3, j, j1, j2, j3, j4⟩
  · obtain ⟨g2, g3⟩ := Prod.mk.inj g2
    have g1t := eq_true g1
    simp only [rL_act_239, rL_act_240, rL_act_242, rL_act_243, rL_act_245, rL_act_247, rL_act_250, rL_act_251, rL_act_252, rL_act_254, rL_act_256, rL_act_257, rL_act_259, rL_act_262, rL_act_263, rL_act_265, rL_act_267, rL_act_268, rL_act_270, rL_act_271, rL_act_274, rL_act_276, rL_act_277, rL_act_279, rL_act_282, rL_act_284, rL_act_285, rL_act_287, rL_act_288, rL_act_290, rL_act_292, rL_act_295, rL_act_296, rL_act_297, rL_act_299, rL_act_301, rL_act_302, rL_act_304, rL_act_307, rL_act_308, rL_act_310, rL_act_312, rL_act_313, rL_act_315, rL_act_316, rL_act_319, rL_act_321, rL_act_323, rL_act_326, rL_act_328, rL_act_330, rL_act_333, rL_act_334, rL_act_337, rL_act_338, rL_act_341, rL_act_343, rL_act_346, rL_act_348, rL_act_350, rL_act_352, rL_act_353, rL_act_356, rL_act_357, rL_act_360, rL_act_361, rL_act_364, rL_act_366, rL_act_368, rL_act_371, rL_act_372, rL_act_374, rL_act_377, rL_act_379, rL_act_380, rL_act_382, rL_act_383, rL_act_386, rL_act_387, rL_act_389, rL_act_391, rL_act_392, rL_act_394, rL_act_397, rL_act_398, rL_act_399, rL_act_400, rL_act_403, rL_act_404, rL_act_406, rL_act_407, rL_act_410, rL_act_411, rL_act_413, rL_act_415, rL_act_416, rL_act_418, rL_act_421, rL_act_422, rL_act_425, rL_act_426, rL_act_429, rL_act_430, rL_act_432, ct1_i, ct1_r, ct1_n, true_and, and_true, tl_s, tl_n, le4_0, le4_1, le4_2, le4_3, le4_4, le4_5, isO_r, cl_, emb1, emb2, le_rN, sp_L_act_X_count, sp_L_act_L_low, sp_L_act_X_kite, sp_L_act_X_spool, sp_L_act_X_tails, sp_L_act_X_why, sp_L_act_X_hire, sp_L_act_X_kiteOf, sp_L_act_X_hireOf, sp_L_act_X_back, sp_L_act_X_ended, sp_L_act_X_tailsOf, sp_L_act_X_found, sp_L_act_X_ifPassed, sp_L_act_X_pass, sp_L_act_X_wind, sp_L_act_X_set, obX, q_low (show ¬ (6 : Int32) = 0 by decide), q_low (show ¬ (14 : Int32) = 0 by decide), q_low (show ¬ (10 : Int32) = 0 by decide), q_low (show ¬ (30 : Int32) = 0 by decide), q_low (show ¬ (150 : Int32) = 0 by decide), q_low (show ¬ (7 : Int32) = 0 by decide), q_low (show ¬ (8 : Int32) = 0 by decide), q_low (show ¬ (60 : Int32) = 0 by decide), q_low (show ¬ (3 : Int32) = 0 by decide), q_low (show ¬ (12 : Int32) = 0 by decide), q_low (show ¬ (4 : Int32) = 0 by decide), z10, z00, z11, z01, if_true, if_false, e1, e2, f3, hW, ct_6 h.1, ek, g1t, g2]
    rw [← g2]
    exact ref (by rw [g2]; exact g1) g3
  · obtain ⟨g3, g5⟩ := Prod.mk.inj g3
    have g1t := eq_true g1
    have g2f := eq_false g2
    simp only [rL_act_239, rL_act_240, rL_act_242, rL_act_243, rL_act_245, rL_act_247, rL_act_250, rL_act_251, rL_act_252, rL_act_254, rL_act_256, rL_act_257, rL_act_259, rL_act_262, rL_act_263, rL_act_265, rL_act_267, rL_act_268, rL_act_270, rL_act_271, rL_act_274, rL_act_276, rL_act_277, rL_act_279, rL_act_282, rL_act_284, rL_act_285, rL_act_287, rL_act_288, rL_act_290, rL_act_292, rL_act_295, rL_act_296, rL_act_297, rL_act_299, rL_act_301, rL_act_302, rL_act_304, rL_act_307, rL_act_308, rL_act_310, rL_act_312, rL_act_313, rL_act_315, rL_act_316, rL_act_319, rL_act_321, rL_act_323, rL_act_326, rL_act_328, rL_act_330, rL_act_333, rL_act_334, rL_act_337, rL_act_338, rL_act_341, rL_act_343, rL_act_346, rL_act_348, rL_act_350, rL_act_352, rL_act_353, rL_act_356, rL_act_357, rL_act_360, rL_act_361, rL_act_364, rL_act_366, rL_act_368, rL_act_371, rL_act_372, rL_act_374, rL_act_377, rL_act_379, rL_act_380, rL_act_382, rL_act_383, rL_act_386, rL_act_387, rL_act_389, rL_act_391, rL_act_392, rL_act_394, rL_act_397, rL_act_398, rL_act_399, rL_act_400, rL_act_403, rL_act_404, rL_act_406, rL_act_407, rL_act_410, rL_act_411, rL_act_413, rL_act_415, rL_act_416, rL_act_418, rL_act_421, rL_act_422, rL_act_425, rL_act_426, rL_act_429, rL_act_430, rL_act_432, ct1_i, ct1_r, ct1_n, true_and, and_true, tl_s, tl_n, le4_0, le4_1, le4_2, le4_3, le4_4, le4_5, isO_r, cl_, emb1, emb2, le_rN, sp_L_act_X_count, sp_L_act_L_low, sp_L_act_X_kite, sp_L_act_X_spool, sp_L_act_X_tails, sp_L_act_X_why, sp_L_act_X_hire, sp_L_act_X_kiteOf, sp_L_act_X_hireOf, sp_L_act_X_back, sp_L_act_X_ended, sp_L_act_X_tailsOf, sp_L_act_X_found, sp_L_act_X_ifPassed, sp_L_act_X_pass, sp_L_act_X_wind, sp_L_act_X_set, obX, q_low (show ¬ (6 : Int32) = 0 by decide), q_low (show ¬ (14 : Int32) = 0 by decide), q_low (show ¬ (10 : Int32) = 0 by decide), q_low (show ¬ (30 : Int32) = 0 by decide), q_low (show ¬ (150 : Int32) = 0 by decide), q_low (show ¬ (7 : Int32) = 0 by decide), q_low (show ¬ (8 : Int32) = 0 by decide), q_low (show ¬ (60 : Int32) = 0 by decide), q_low (show ¬ (3 : Int32) = 0 by decide), q_low (show ¬ (12 : Int32) = 0 by decide), q_low (show ¬ (4 : Int32) = 0 by decide), z10, z00, z11, z01, if_true, if_false, e1, e2, f3, hW, ct_6 h.1, ek, g1t, g2f, g3]
    rw [← g3]
    exact ref (by rw [g3]; exact g4) g5
  · obtain ⟨g3, g5⟩ := Prod.mk.inj g3
    subst g1
    subst g3
    subst g5
    have J2 : J (up1 (rcW σ) 0 w2 0) (σ 8 0) T K S (N + 1) (O + 1) E (10 * T) := by rw [up1_at]; exact j
    have z0 : ((0 : Int32) < 0) = False := eq_false (by decide)
    have n1 : up1 (rcW σ) 0 w2 0 5 (O * 7 + 6) = oN N := by rw [up1_at]; exact j3
    simp only [rL_act_239, rL_act_240, rL_act_242, rL_act_243, rL_act_245, rL_act_247, rL_act_250, rL_act_251, rL_act_252, rL_act_254, rL_act_256, rL_act_257, rL_act_259, rL_act_262, rL_act_263, rL_act_265, rL_act_267, rL_act_268, rL_act_270, rL_act_271, rL_act_274, rL_act_276, rL_act_277, rL_act_279, rL_act_282, rL_act_284, rL_act_285, rL_act_287, rL_act_288, rL_act_290, rL_act_292, rL_act_295, rL_act_296, rL_act_297, rL_act_299, rL_act_301, rL_act_302, rL_act_304, rL_act_307, rL_act_308, rL_act_310, rL_act_312, rL_act_313, rL_act_315, rL_act_316, rL_act_319, rL_act_321, rL_act_323, rL_act_326, rL_act_328, rL_act_330, rL_act_333, rL_act_334, rL_act_337, rL_act_338, rL_act_341, rL_act_343, rL_act_346, rL_act_348, rL_act_350, rL_act_352, rL_act_353, rL_act_356, rL_act_357, rL_act_360, rL_act_361, rL_act_364, rL_act_366, rL_act_368, rL_act_371, rL_act_372, rL_act_374, rL_act_377, rL_act_379, rL_act_380, rL_act_382, rL_act_383, rL_act_386, rL_act_387, rL_act_389, rL_act_391, rL_act_392, rL_act_394, rL_act_397, rL_act_398, rL_act_399, rL_act_400, rL_act_403, rL_act_404, rL_act_406, rL_act_407, rL_act_410, rL_act_411, rL_act_413, rL_act_415, rL_act_416, rL_act_418, rL_act_421, rL_act_422, rL_act_425, rL_act_426, rL_act_429, rL_act_430, rL_act_432, ct1_i, ct1_r, ct1_n, true_and, and_true, tl_s, tl_n, le4_0, le4_1, le4_2, le4_3, le4_4, le4_5, isO_r, cl_, emb1, emb2, le_rN, sp_L_act_X_count, sp_L_act_L_low, sp_L_act_X_kite, sp_L_act_X_spool, sp_L_act_X_tails, sp_L_act_X_why, sp_L_act_X_hire, sp_L_act_X_kiteOf, sp_L_act_X_hireOf, sp_L_act_X_back, sp_L_act_X_ended, sp_L_act_X_tailsOf, sp_L_act_X_found, sp_L_act_X_ifPassed, sp_L_act_X_pass, sp_L_act_X_wind, sp_L_act_X_set, obX, q_low (show ¬ (6 : Int32) = 0 by decide), q_low (show ¬ (14 : Int32) = 0 by decide), q_low (show ¬ (10 : Int32) = 0 by decide), q_low (show ¬ (30 : Int32) = 0 by decide), q_low (show ¬ (150 : Int32) = 0 by decide), q_low (show ¬ (7 : Int32) = 0 by decide), q_low (show ¬ (8 : Int32) = 0 by decide), q_low (show ¬ (60 : Int32) = 0 by decide), q_low (show ¬ (3 : Int32) = 0 by decide), q_low (show ¬ (12 : Int32) = 0 by decide), q_low (show ¬ (4 : Int32) = 0 by decide), z10, z00, z11, z01, if_true, if_false, e1, e2, f3, hW, ct_6 h.1, ek, z0, ct_11 J2, rk_4 J2 g2, rh_3 J2 (show O < O + 1 by omega) n1, up1_at, j1, j2, j4]
    have nn : ¬ oN N < 0 := by rw [oN_nn (by omega)]; exact id
    have h8 := rcW_8 σ (LwS_lt h)
    have e8 : up1 (rcW σ) 0 w2 8 = σ 8 := by rw [up1_nt (by decide)]; exact h8
    refine lp_L_act_E J2 (fun q => absurd q nn) ?_
    rw [e8]
    refine hQ _ (ActQ_y h j (by omega) (by omega) (fun c hc => ?_) ?_ (fun _ c hc => ?_))
    · rw [u2k, if_neg (by omega)]
    · rw [u2k, if_pos rfl]
      unfold tbF
      rw [if_neg nn]
    · rw [u2k, if_neg (by omega)]
set_option maxHeartbeats 1000000 in
set_option maxRecDepth 20000 in
theorem lp_L_act_K (h : LwS σ T K S N O E) {kx : Int32} (hQ : ∀ σ', ActQ σ kind σ' → Q (some (.int 1)) (emb σ')) : Vf 97 sp_L_act ((127, SLT), sc) 435 [.ref 0, .ref 126, .int kind, .int a, .int b, .int kx, .int (oN T), .int 0, .int (σ 0 8 6), .int 1, .null, .null, .null, .null, .null, .null, .null, .null] [] (emb σ) Q := by
  have hb := J_bd h.1
  obtain ⟨r, hr, f1⟩ := lowF_n a (n := N + 1) (by omega) (by omega)
  have m1lt : ((-1 : Int32) < 0) = True := eq_true (by decide)
  have ek : ∀ x m, f_X_back [.ref 0, .int x, .int m] (emb σ) = (True, some (.int (baF σ x m).1), emb (baF σ x m).2) := fun x m => by
    have hp : ltP σ ∧ sm (σ 0 8 4) 10 := ⟨LwS_lt h, J_s4 h.1⟩
    rw [q_X_back, eq_true hp]
  by_cases hrow : ∃ P, P < O ∧ σ 0 5 (P * 7 + 6) = oN r
  · obtain ⟨P, hP, hx⟩ := hrow
    obtain ⟨k, s, n, p1, p2, p3, p4, p5, p6, p7, p8, p9, pA, -⟩ := h.1.1.2.2.2.1 P hP
    have ey := sm_eq pA
    obtain ⟨z, hz, ez, ez2⟩ := and_sub3 (y := (σ 0 5 (P * 7 + 4)).toNatClampNeg) (by have := pA.2; omega) b
    rw [← ey] at ez ez2
    have ynn := eq_false pA.1
    obtain ⟨told, w2, g1, g2, j, j1, j2, j3, j4, j5⟩ := baF_y h hP hx hz ez2
    have ekb := ek (oN r) (oN z)
    rw [g1] at ekb
    have g2f := eq_false g2
    have J2 : J (up1 (rcW σ) 0 w2 0) (σ 8 0) T K S N (O - 1) (E + 1) (10 * T) := by rw [up1_at]; exact j
    have n5 : up1 (rcW σ) 0 w2 0 8 5 = oN (E + 1) := by rw [up1_at]; exact j2
    have n0 : f_X_ended [.ref 0, .int 0, .int 0] (emb (up1 (rcW σ) 0 w2)) = (True, some (.int (oN r)), emb (up1 (rcW σ) 0 w2)) := (rd_ended (c := 0) J2 n5 (by omega) (by decide)).trans (by rw [up1_at, j3])
    have n1 : f_X_ended [.ref 0, .int 0, .int 1] (emb (up1 (rcW σ) 0 w2)) = (True, some (.int 0), emb (up1 (rcW σ) 0 w2)) := (rd_ended (c := 1) J2 n5 (by omega) (by decide)).trans (by rw [up1_at, j4])
    have n2 : f_X_ended [.ref 0, .int 0, .int 2] (emb (up1 (rcW σ) 0 w2)) = (True, some (.int (oN T)), emb (up1 (rcW σ) 0 w2)) := (rd_ended (c := 2) J2 n5 (by omega) (by decide)).trans (by rw [up1_at, j5])
    have nz : ¬ oN N + 1 = 0 := by
      rw [oN_succ]
      intro q
      have := oN_inj (b := 0) (by omega) (by decide) q
      omega
    rw [← oN_succ] at f1
    simp only [rL_act_435, rL_act_436, rL_act_437, rL_act_439, rL_act_442, rL_act_443, rL_act_444, rL_act_447, rL_act_449, rL_act_450, rL_act_452, rL_act_453, rL_act_456, rL_act_458, rL_act_459, rL_act_461, rL_act_463, rL_act_466, rL_act_467, rL_act_470, rL_act_472, rL_act_474, rL_act_475, rL_act_478, rL_act_480, rL_act_482, rL_act_485, rL_act_487, rL_act_488, rL_act_491, rL_act_492, rL_act_495, rL_act_496, rL_act_499, rL_act_500, rL_act_502, rL_act_505, rL_act_507, rL_act_510, rL_act_511, rL_act_513, rL_act_514, rL_act_517, rL_act_518, rL_act_519, rL_act_520, rL_act_523, rL_act_525, rL_act_528, rL_act_529, rL_act_530, rL_act_531, rL_act_534, rL_act_537, rL_act_538, rL_act_539, rL_act_540, rL_act_543, rL_act_545, rL_act_548, rL_act_549, rL_act_552, rL_act_553, rL_act_555, ct1_i, ct1_r, ct1_n, true_and, and_true, tl_s, tl_n, le4_0, le4_1, le4_2, le4_3, le4_4, le4_5, isO_r, cl_, emb1, emb2, le_rN, sp_L_act_X_count, sp_L_act_L_low, sp_L_act_X_kite, sp_L_act_X_spool, sp_L_act_X_tails, sp_L_act_X_why, sp_L_act_X_hire, sp_L_act_X_kiteOf, sp_L_act_X_hireOf, sp_L_act_X_back, sp_L_act_X_ended, sp_L_act_X_tailsOf, sp_L_act_X_found, sp_L_act_X_ifPassed, sp_L_act_X_pass, sp_L_act_X_wind, sp_L_act_X_set, obX, q_low (show ¬ (6 : Int32) = 0 by decide), q_low (show ¬ (14 : Int32) = 0 by decide), q_low (show ¬ (10 : Int32) = 0 by decide), q_low (show ¬ (30 : Int32) = 0 by decide), q_low (show ¬ (150 : Int32) = 0 by decide), q_low (show ¬ (7 : Int32) = 0 by decide), q_low (show ¬ (8 : Int32) = 0 by decide), q_low (show ¬ (60 : Int32) = 0 by decide), q_low (show ¬ (3 : Int32) = 0 by decide), q_low (show ¬ (12 : Int32) = 0 by decide), q_low (show ¬ (4 : Int32) = 0 by decide), z10, z00, z11, z01, if_true, if_false, q_low nz, f1, ct_6 h.1, rh_4 h.1 hP hx, ynn, ez, ekb, g2f, ct_11 J2, up1_at, j1, n0, n1, n2]
    have h8 := rcW_8 σ (LwS_lt h)
    have e8 : up1 (rcW σ) 0 w2 8 = σ 8 := by rw [up1_nt (by decide)]; exact h8
    refine lp_L_act_E J2 (fun q => absurd q g2) ?_
    rw [e8]
    refine hQ _ (ActQ_y h j (by omega) (by omega) (fun c hc => ?_) ?_ (fun _ c hc => ?_))
    · rw [u2k, if_neg (by omega)]
    · rw [u2k, if_pos rfl]
      unfold tbF
      rw [if_neg g2]
    · rw [u2k, if_neg (by omega)]
  · have hno : ∀ q, q < O → σ 0 5 (q * 7 + 6) ≠ oN r := fun q h1 h2 => hrow ⟨q, h1, h2⟩
    have ekb := ek (oN r) 0
    rw [baF_n h hno] at ekb
    have nz : ¬ oN N + 1 = 0 := by
      rw [oN_succ]
      intro q
      have := oN_inj (b := 0) (by omega) (by decide) q
      omega
    rw [← oN_succ] at f1
    simp only [rL_act_435, rL_act_436, rL_act_437, rL_act_439, rL_act_442, rL_act_443, rL_act_444, rL_act_447, rL_act_449, rL_act_450, rL_act_452, rL_act_453, rL_act_456, rL_act_458, rL_act_459, rL_act_461, rL_act_463, rL_act_466, rL_act_467, rL_act_470, rL_act_472, rL_act_474, rL_act_475, rL_act_478, rL_act_480, rL_act_482, rL_act_485, rL_act_487, rL_act_488, rL_act_491, rL_act_492, rL_act_495, rL_act_496, rL_act_499, rL_act_500, rL_act_502, rL_act_505, rL_act_507, rL_act_510, rL_act_511, rL_act_513, rL_act_514, rL_act_517, rL_act_518, rL_act_519, rL_act_520, rL_act_523, rL_act_525, rL_act_528, rL_act_529, rL_act_530, rL_act_531, rL_act_534, rL_act_537, rL_act_538, rL_act_539, rL_act_540, rL_act_543, rL_act_545, rL_act_548, rL_act_549, rL_act_552, rL_act_553, rL_act_555, ct1_i, ct1_r, ct1_n, true_and, and_true, tl_s, tl_n, le4_0, le4_1, le4_2, le4_3, le4_4, le4_5, isO_r, cl_, emb1, emb2, le_rN, sp_L_act_X_count, sp_L_act_L_low, sp_L_act_X_kite, sp_L_act_X_spool, sp_L_act_X_tails, sp_L_act_X_why, sp_L_act_X_hire, sp_L_act_X_kiteOf, sp_L_act_X_hireOf, sp_L_act_X_back, sp_L_act_X_ended, sp_L_act_X_tailsOf, sp_L_act_X_found, sp_L_act_X_ifPassed, sp_L_act_X_pass, sp_L_act_X_wind, sp_L_act_X_set, obX, q_low (show ¬ (6 : Int32) = 0 by decide), q_low (show ¬ (14 : Int32) = 0 by decide), q_low (show ¬ (10 : Int32) = 0 by decide), q_low (show ¬ (30 : Int32) = 0 by decide), q_low (show ¬ (150 : Int32) = 0 by decide), q_low (show ¬ (7 : Int32) = 0 by decide), q_low (show ¬ (8 : Int32) = 0 by decide), q_low (show ¬ (60 : Int32) = 0 by decide), q_low (show ¬ (3 : Int32) = 0 by decide), q_low (show ¬ (12 : Int32) = 0 by decide), q_low (show ¬ (4 : Int32) = 0 by decide), z10, z00, z11, z01, if_true, if_false, q_low nz, f1, ct_6 h.1, rd_hireN h.1 hno, m1lt, zm1, ekb]
    refine lp_L_act_E h.1 (fun _ => rfl) (hQ _ (ActQ_n h (fun c hc => ?_) ?_))
    · rw [u2k, if_neg (by omega)]
    · rw [u2k, if_pos rfl]
      rfl
set_option maxHeartbeats 1000000 in
set_option maxRecDepth 20000 in
theorem lp_L_act_F (h : LwS σ T K S N O E) {kx : Int32} (hQ : ∀ σ', ActQ σ kind σ' → Q (some (.int 1)) (emb σ')) : Vf 97 sp_L_act ((127, SLT), sc) 558 [.ref 0, .ref 126, .int kind, .int a, .int b, .int kx, .int (oN T), .int 0, .int (σ 0 8 6), .int 1, .null, .null, .null, .null, .null, .null, .null, .null] [] (emb σ) Q := by
  obtain ⟨c, hc, f1⟩ := lowF_n a (n := 6) (by decide) (by decide)
  have f1 : lowF a 6 = oN c := f1
  have ek : f_X_found [.ref 0, .int (oN c)] (emb σ) = (True, some (.int (foF σ (oN c)).1), emb (foF σ (oN c)).2) := by rw [q_X_found, eq_true (LwS_lt h)]
  rcases foF_o h hc with ⟨g1, g2⟩ | ⟨g1, r, w2, g2, g3, g4, j⟩
  · rw [g2] at ek
    simp only [rL_act_558, rL_act_559, rL_act_560, rL_act_562, rL_act_565, rL_act_566, rL_act_569, rL_act_571, rL_act_572, rL_act_573, rL_act_575, rL_act_578, rL_act_581, rL_act_583, rL_act_585, rL_act_587, rL_act_590, rL_act_591, rL_act_594, rL_act_595, rL_act_597, rL_act_600, rL_act_601, rL_act_604, rL_act_605, rL_act_608, rL_act_609, rL_act_612, rL_act_613, rL_act_615, ct1_i, ct1_r, ct1_n, true_and, and_true, tl_s, tl_n, le4_0, le4_1, le4_2, le4_3, le4_4, le4_5, isO_r, cl_, emb1, emb2, le_rN, sp_L_act_X_count, sp_L_act_L_low, sp_L_act_X_kite, sp_L_act_X_spool, sp_L_act_X_tails, sp_L_act_X_why, sp_L_act_X_hire, sp_L_act_X_kiteOf, sp_L_act_X_hireOf, sp_L_act_X_back, sp_L_act_X_ended, sp_L_act_X_tailsOf, sp_L_act_X_found, sp_L_act_X_ifPassed, sp_L_act_X_pass, sp_L_act_X_wind, sp_L_act_X_set, obX, q_low (show ¬ (6 : Int32) = 0 by decide), q_low (show ¬ (14 : Int32) = 0 by decide), q_low (show ¬ (10 : Int32) = 0 by decide), q_low (show ¬ (30 : Int32) = 0 by decide), q_low (show ¬ (150 : Int32) = 0 by decide), q_low (show ¬ (7 : Int32) = 0 by decide), q_low (show ¬ (8 : Int32) = 0 by decide), q_low (show ¬ (60 : Int32) = 0 by decide), q_low (show ¬ (3 : Int32) = 0 by decide), q_low (show ¬ (12 : Int32) = 0 by decide), q_low (show ¬ (4 : Int32) = 0 by decide), z10, z00, z11, z01, if_true, if_false, f1, rt_2 (σ := σ) hc, ek, g1, z55]
    refine lp_L_act_E h.1 (fun _ => rfl) (hQ _ (ActQ_n h (fun c hc => ?_) ?_))
    · rw [u2k, if_neg (by omega)]
    · rw [u2k, if_pos rfl]
      rfl
  · rw [g2] at ek
    have g1f := eq_false g1
    have g4f := eq_false g4
    simp only [rL_act_558, rL_act_559, rL_act_560, rL_act_562, rL_act_565, rL_act_566, rL_act_569, rL_act_571, rL_act_572, rL_act_573, rL_act_575, rL_act_578, rL_act_581, rL_act_583, rL_act_585, rL_act_587, rL_act_590, rL_act_591, rL_act_594, rL_act_595, rL_act_597, rL_act_600, rL_act_601, rL_act_604, rL_act_605, rL_act_608, rL_act_609, rL_act_612, rL_act_613, rL_act_615, ct1_i, ct1_r, ct1_n, true_and, and_true, tl_s, tl_n, le4_0, le4_1, le4_2, le4_3, le4_4, le4_5, isO_r, cl_, emb1, emb2, le_rN, sp_L_act_X_count, sp_L_act_L_low, sp_L_act_X_kite, sp_L_act_X_spool, sp_L_act_X_tails, sp_L_act_X_why, sp_L_act_X_hire, sp_L_act_X_kiteOf, sp_L_act_X_hireOf, sp_L_act_X_back, sp_L_act_X_ended, sp_L_act_X_tailsOf, sp_L_act_X_found, sp_L_act_X_ifPassed, sp_L_act_X_pass, sp_L_act_X_wind, sp_L_act_X_set, obX, q_low (show ¬ (6 : Int32) = 0 by decide), q_low (show ¬ (14 : Int32) = 0 by decide), q_low (show ¬ (10 : Int32) = 0 by decide), q_low (show ¬ (30 : Int32) = 0 by decide), q_low (show ¬ (150 : Int32) = 0 by decide), q_low (show ¬ (7 : Int32) = 0 by decide), q_low (show ¬ (8 : Int32) = 0 by decide), q_low (show ¬ (60 : Int32) = 0 by decide), q_low (show ¬ (3 : Int32) = 0 by decide), q_low (show ¬ (12 : Int32) = 0 by decide), q_low (show ¬ (4 : Int32) = 0 by decide), z10, z00, z11, z01, if_true, if_false, f1, rt_2 (σ := σ) hc, ek, g1f, g4f]
    have h8 := rcW_8 σ (LwS_lt h)
    have e8 : up1 (rcW σ) 0 w2 8 = σ 8 := by rw [up1_nt (by decide)]; exact h8
    refine lp_L_act_E (cf := σ 8 0) (T := T) (K := K) (S := S) (N := N) (O := O) (E := E) (bb := 10 * T) (by rw [up1_at]; exact j) (fun q => absurd q g3) ?_
    rw [e8]
    refine hQ _ (ActQ_y h j (by omega) (by omega) (fun c hc => ?_) ?_ (fun _ c hc => ?_))
    · rw [u2k, if_neg (by omega)]
    · rw [u2k, if_pos rfl]
      unfold tbF
      rw [if_neg g3]
    · rw [u2k, if_neg (by omega)]
set_option maxHeartbeats 1000000 in
set_option maxRecDepth 20000 in
theorem lp_L_act_Gs (h : LwS σ T K S N O E) {hh x : Nat} {kx th : Int32} {u : HV} (eh : 1 + lowF a 4 = oN hh) (h1 : 1 ≤ hh) (h2 : hh ≤ 99) (hT : T + hh ≤ 1000) (hx : x < 3) (hQ : ∀ u2, Vf 97 sp_L_act ((127, SLT), sc) 624 [.ref 0, .ref 126, .int kind, .int a, .int b, .int kx, .int (oN T), .int 0, .int (σ 0 8 6), .int 1, .null, .null, .null, .null, .null, .int (th + (paN (σ 0) hh 7 x - σ 0 7 x)), .int (oN (x + 1)), .null] [] (emb (up1 σ 1 u2)) Q) : Vf 97 sp_L_act ((127, SLT), sc) 624 [.ref 0, .ref 126, .int kind, .int a, .int b, .int kx, .int (oN T), .int 0, .int (σ 0 8 6), .int 1, .null, .null, .null, .null, .null, .int th, .int (oN x), .null] [] (emb (up1 σ 1 u)) Q := by
  obtain ⟨u2, e⟩ := ip_w h h1 h2 hT u hx
  have hlt : (oN x < 3) = True := eq_true (by show oN x < oN 3; rw [oN_lt (by omega) (by decide)]; exact hx)
  rw [rL_act_624]
  simp only [rL_act_626, rL_act_627, rL_act_630, rL_act_632, rL_act_633, rL_act_634, rL_act_635, rL_act_636, rL_act_639, rL_act_640, rL_act_642, rL_act_645, rL_act_646, rL_act_648, rL_act_651, ct1_i, ct1_r, ct1_n, true_and, and_true, tl_s, tl_n, le4_0, le4_1, le4_2, le4_3, le4_4, le4_5, isO_r, cl_, emb1, emb2, le_rN, sp_L_act_X_count, sp_L_act_L_low, sp_L_act_X_kite, sp_L_act_X_spool, sp_L_act_X_tails, sp_L_act_X_why, sp_L_act_X_hire, sp_L_act_X_kiteOf, sp_L_act_X_hireOf, sp_L_act_X_back, sp_L_act_X_ended, sp_L_act_X_tailsOf, sp_L_act_X_found, sp_L_act_X_ifPassed, sp_L_act_X_pass, sp_L_act_X_wind, sp_L_act_X_set, obX, q_low (show ¬ (6 : Int32) = 0 by decide), q_low (show ¬ (14 : Int32) = 0 by decide), q_low (show ¬ (10 : Int32) = 0 by decide), q_low (show ¬ (30 : Int32) = 0 by decide), q_low (show ¬ (150 : Int32) = 0 by decide), q_low (show ¬ (7 : Int32) = 0 by decide), q_low (show ¬ (8 : Int32) = 0 by decide), q_low (show ¬ (60 : Int32) = 0 by decide), q_low (show ¬ (3 : Int32) = 0 by decide), q_low (show ¬ (12 : Int32) = 0 by decide), q_low (show ¬ (4 : Int32) = 0 by decide), z10, z00, z11, z01, if_true, if_false, eh, e, hlt, oN_succ]
  exact hQ u2
theorem grP (p0 p1 p2 w0 w1 w2 x y : Int32) (h1 : p0 + p1 + p2 = x) (h2 : w0 + w1 + w2 = y) : 0 + (p0 - w0) + (p1 - w1) + (p2 - w2) = x - y := by grind
theorem grQ (c p : Int32) : c + (p - c + 100000 - 100000) = p := by grind
theorem grR (c p : Int32) : c + (p - c) = p := by grind
set_option maxHeartbeats 1000000 in
set_option maxRecDepth 20000 in
theorem lp_L_act_G (h : LwS σ T K S N O E) {kx : Int32} (hT4 : T + 4 ≤ 1000) (hQ : ∀ σ', ActQ σ kind σ' → Q (some (.int 1)) (emb σ')) : Vf 97 sp_L_act ((127, SLT), sc) 618 [.ref 0, .ref 126, .int kind, .int a, .int b, .int kx, .int (oN T), .int 0, .int (σ 0 8 6), .int 1, .null, .null, .null, .null, .null, .null, .null, .null] [] (emb σ) Q := by
  have hb := J_bd h.1
  obtain ⟨y, hy, f1⟩ := lowF_n a (n := 4) (by decide) (by decide)
  have f1 : lowF a 4 = oN y := f1
  have eh : 1 + lowF a 4 = oN (1 + y) := by rw [f1]; exact oN_add 1 y
  generalize hhh : 1 + y = hh at eh
  have eh' : 1 + oN y = oN hh := by rw [← f1]; exact eh
  have h1 : 1 ≤ hh := by omega
  have h2 : hh ≤ 99 := by omega
  have hT : T + hh ≤ 1000 := by omega
  have e0 : ∀ u : HV, up1 σ 1 u 0 = σ 0 := fun u => up1_nt (by decide)
  have start : emb σ = emb (up1 σ 1 (σ 1)) := by rw [up1_self]
  rw [start]
  simp only [rL_act_618, rL_act_619, rL_act_621, rL_act_622, ct1_i, ct1_r, ct1_n, true_and, and_true, tl_s, tl_n, le4_0, le4_1, le4_2, le4_3, le4_4, le4_5, isO_r]
  refine lp_L_act_Gs (x := 0) h eh h1 h2 hT (by decide) (fun u1 => ?_)
  refine lp_L_act_Gs (x := 1) h eh h1 h2 hT (by decide) (fun u2 => ?_)
  refine lp_L_act_Gs (x := 2) h eh h1 h2 hT (by decide) (fun u3 => ?_)
  obtain ⟨u4, e4⟩ := ip_4 h h1 h2 hT u3
  obtain ⟨u5, e5⟩ := ip_3 h h1 h2 hT u4
  have c14 := ct_14 (LwS_1 (u := u4) h).1
  rw [e0] at c14
  have h6 := LwS_1 (u := u5) h
  obtain ⟨O2, E2, y1, y2, y3, j⟩ := psW_o h6 h1 h2 hT
  rw [e0, show up1 σ 1 u5 8 = σ 8 from up1_nt (by decide)] at j
  rw [e0] at y3
  have ekp : f_X_pass [.ref 0, .int (oN hh)] (emb (up1 σ 1 u5)) = (True, some (.int (oN (E2 - E))), emb (up1 (rcW (up1 σ 1 u5)) 0 (paN (σ 0) hh))) := by
    have hp : ltP (up1 σ 1 u5) ∧ sm (up1 σ 1 u5 0 8 4) 10 := ⟨LwS_lt h6, J_s4 h6.1⟩
    rw [q_X_pass, eq_true hp, y3]
  have eth : 0 + (paN (σ 0) hh 7 0 - σ 0 7 0) + (paN (σ 0) hh 7 1 - σ 0 7 1) + (paN (σ 0) hh 7 2 - σ 0 7 2) = oN (E2 - E) := by
    rw [grP _ _ _ _ _ _ (oN E2) (oN E) j.2.1.2.2.2.2.2.2 h.1.2.1.2.2.2.2.2.2, oN_sub y1]
  have J2 : J (up1 (rcW (up1 σ 1 u5)) 0 (paN (σ 0) hh) 0) (σ 8 0) (T + hh) K S N O2 E2 (10 * (T + hh)) := by rw [up1_at]; exact j
  have z33 : ((3 : Int32) < 3) = False := eq_false (by decide)
  have eT : oN T + 1 + oN y = oN (T + hh) := by
    rw [oN_succ, oN_add]
    exact congrArg oN (by omega)
  rw [eth]
  show Vf 97 sp_L_act ((127, SLT), sc) 624 [.ref 0, .ref 126, .int kind, .int a, .int b, .int kx, .int (oN T), .int 0, .int (σ 0 8 6), .int 1, .null, .null, .null, .null, .null, .int (oN (E2 - E)), .int 3, .null] [] (emb (up1 σ 1 u3)) Q
  simp only [rL_act_624, rL_act_626, rL_act_627, rL_act_630, rL_act_632, rL_act_633, rL_act_634, rL_act_635, rL_act_636, rL_act_639, rL_act_640, rL_act_642, rL_act_645, rL_act_646, rL_act_648, rL_act_651, rL_act_654, rL_act_655, rL_act_656, rL_act_657, rL_act_658, rL_act_661, rL_act_662, rL_act_663, rL_act_666, rL_act_668, rL_act_669, rL_act_671, rL_act_672, rL_act_674, rL_act_677, rL_act_678, rL_act_679, rL_act_680, rL_act_681, rL_act_684, rL_act_685, rL_act_686, rL_act_689, rL_act_690, rL_act_692, rL_act_693, rL_act_694, rL_act_695, rL_act_696, rL_act_699, rL_act_700, rL_act_703, rL_act_705, rL_act_707, rL_act_709, rL_act_712, rL_act_713, rL_act_715, rL_act_718, rL_act_720, rL_act_722, rL_act_723, rL_act_726, rL_act_727, rL_act_729, rL_act_732, rL_act_734, rL_act_737, rL_act_738, rL_act_739, rL_act_742, rL_act_744, rL_act_745, rL_act_746, rL_act_747, rL_act_748, rL_act_751, rL_act_752, rL_act_755, rL_act_756, rL_act_759, rL_act_760, rL_act_762, ct1_i, ct1_r, ct1_n, true_and, and_true, tl_s, tl_n, le4_0, le4_1, le4_2, le4_3, le4_4, le4_5, isO_r, cl_, emb1, emb2, le_rN, sp_L_act_X_count, sp_L_act_L_low, sp_L_act_X_kite, sp_L_act_X_spool, sp_L_act_X_tails, sp_L_act_X_why, sp_L_act_X_hire, sp_L_act_X_kiteOf, sp_L_act_X_hireOf, sp_L_act_X_back, sp_L_act_X_ended, sp_L_act_X_tailsOf, sp_L_act_X_found, sp_L_act_X_ifPassed, sp_L_act_X_pass, sp_L_act_X_wind, sp_L_act_X_set, obX, q_low (show ¬ (6 : Int32) = 0 by decide), q_low (show ¬ (14 : Int32) = 0 by decide), q_low (show ¬ (10 : Int32) = 0 by decide), q_low (show ¬ (30 : Int32) = 0 by decide), q_low (show ¬ (150 : Int32) = 0 by decide), q_low (show ¬ (7 : Int32) = 0 by decide), q_low (show ¬ (8 : Int32) = 0 by decide), q_low (show ¬ (60 : Int32) = 0 by decide), q_low (show ¬ (3 : Int32) = 0 by decide), q_low (show ¬ (12 : Int32) = 0 by decide), q_low (show ¬ (4 : Int32) = 0 by decide), z10, z00, z11, z01, if_true, if_false, z33, eh', e4, e5, c14, ekp, grQ, grR, ct_11 J2, ct_14 J2, ct_0 J2, up1_at, f1, eT]
  have nn : ¬ oN (E2 - E) < 0 := by rw [oN_nn (by omega)]; exact id
  have h8 := rcW_8 (up1 σ 1 u5) (LwS_lt h6)
  have e8 : up1 (rcW (up1 σ 1 u5)) 0 (paN (σ 0) hh) 8 = σ 8 := by rw [up1_nt (by decide), h8]; exact up1_nt (by decide)
  refine lp_L_act_E J2 (fun q => absurd q nn) ?_
  rw [e8]
  refine hQ _ (ActQ_1 (u := u5) (ActQ_y h6 (cf2 := σ 8 0) j (by omega) (by omega) (fun c hc => ?_) ?_ (fun _ c hc => ?_)))
  · rw [u2k, if_neg (by omega)]
  · rw [u2k, if_pos rfl]
    unfold tbF
    rw [if_neg nn]
  · rw [u2k, if_neg (by omega)]
    exact congrFun (congrFun (up1_nt (show (8 : Nat) ≠ 1 by decide)).symm 0) c
end ACT2
