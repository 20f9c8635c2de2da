/-! PURE: acts: a kite comes back -/
theorem and_sub : ∀ x, x < 64 → ∀ y, y < 64 → (oN x &&& (oN y ^^^ -1) = 0 ↔ oN x &&& oN y = oN x) ∧ (oN x &&& oN y = oN x → oN y &&& (oN x ^^^ -1) = oN (y - x) ∧ x ≤ y) := by decide +kernel
theorem bx_comm (a b c : Int32) : a - b - c = a + -c + -b := by
  rw [Int32.sub_eq_add_neg, Int32.sub_eq_add_neg, Int32.add_assoc, Int32.add_comm (-b), ← Int32.add_assoc]
theorem back_ok {w v : HV} {T K S N O E b P x y : Nat} (h : Rel w (v 1) S O E 100) (i : Ivt w T K S N O E b 100) (hP : P < O) (hx : x < 64) (hy : y < 64) (ey : w 5 (P * 7 + 4) = oN y) (hs : oN x &&& oN y = oN x) :
    bgM v (oN P) = bkG w (oN P) ∧ bfM v (oN x) = bkC w (oN x) ∧ sm (uh v (oN P) 1) 15 ∧ cbP (bw3 v (oN P) (oN x)) (oN P) ∧ Rel (enH (tcH w (oN P) (bkC w (oN x) - bkG w (oN P))) (oN P) 0 (oN x)) (cbM (bw3 v (oN P) (oN x)) (oN P) 1) S (O - 1) (E + 1) 100 ∧ Ivt (enH (tcH w (oN P) (bkC w (oN x) - bkG w (oN P))) (oN P) 0 (oN x)) T K S N (O - 1) (E + 1) b 100 := by
  obtain ⟨hO, hE, hS⟩ := Ivt_O i
  have hP10 : P < 10 := by omega
  obtain ⟨k, s, n, p1, p2, p3, p4, p5, p6, p7, p8, p9, pA, -⟩ := i.2.2.2.1 P hP
  have hK : K ≤ 16 := i.2.1.2.1
  have hh := h.2.2.2.2.2.1
  have u1 : uh v (oN P) 1 = oN k := by
    show v 1 (1187 + 7 * oN P + 1).toNatClampNeg = _
    rw [adH_1 (by omega)]
    exact ((hh P hP).2 0 (by decide) (by omega)).trans p4
  have u4 : uh v (oN P) 4 = w 5 (P * 7 + 3) := by
    show v 1 (1187 + 7 * oN P + 4).toNatClampNeg = _
    rw [adH_4 (by omega)]
    exact (hh P hP).2 3 (by decide) (by omega)
  have k4 : uk v (oN k) 4 = w 2 (k * 8 + 4) := ukn (c := 4) h (by omega) (by decide)
  have g1 : bgM v (oN P) = bkG w (oN P) := by
    unfold bgM bkG
    rw [u1, u4, k4, hr_0 hP10, hr_3 hP10, p4, kt_4 (by omega)]
  have g2 : bfM v (oN x) = bkC w (oN x) := by
    unfold bfM bkC
    rw [bc_bt x hx, se_3, h.1.2.1 3 (by decide)]
  refine ⟨g1, g2, by rw [u1]; exact sm_oN (by omega) (by decide), ?_⟩
  obtain ⟨q1, q2⟩ := (and_sub x hx y hy).2 hs
  generalize hc : bkC w (oN x) - bkG w (oN P) = c
  have e1 : bw1 v (oN P) (oN x) = pyM v (oN P) c := by
    unfold bw1
    rw [g1, g2, hc]
  obtain ⟨r1, i1⟩ := pay_ok c h i hP
  have w5 : ∀ t, t ≠ P * 7 + 5 → tcH w (oN P) c 5 t = w 5 t := by
    intro t ht
    rw [tcH_n hP10, u2n (by decide), u2k, if_neg ht]
  obtain ⟨hA, hwi, hk, hss, htt, hh2, he, hL⟩ := id r1
  generalize hv1 : pyM v (oN P) c = v1 at e1 r1 hA hwi hk hss htt hh2 he hL
  generalize hw1 : tcH w (oN P) c = w1 at r1 i1 w5 hA hwi hk hss htt hh2 he hL ⊢
  have b2 : bw2 v (oN P) (oN x) = tgF (oN x) 2 0 6 v1 := by
    unfold bw2
    rw [e1]
  have r5 : v1 1 (1187 + 7 * P + 5) = oN y := by
    rw [(hh2 P hP).2 4 (by decide) (by omega), w5 _ (by omega)]
    exact ey
  have b3 : ∀ t, bw3 v (oN P) (oN x) 1 t = if t = 1187 + 7 * P + 5 then oN (y - x) else tgF (oN x) 2 0 6 v1 1 t := by
    intro t
    have z : tgF (oN x) 2 0 6 v1 1 (1187 + 7 * P + 5) = oN y := (tgF_out (w := 2) (Or.inr rfl) (by omega)).trans r5
    unfold bw3
    rw [b2, adH_5 (by omega), dcr1, z, oN_sub q2]
  have e0 : cb0 (bw3 v (oN P) (oN x)) (oN P) = tgF (oN (y - x)) 0 0 6 (bw3 v (oN P) (oN x)) := by
    unfold cb0
    have z : uh (bw3 v (oN P) (oN x)) (oN P) 5 = oN (y - x) := by
      show bw3 v (oN P) (oN x) 1 (1187 + 7 * oN P + 5).toNatClampNeg = _
      rw [adH_5 (by omega), b3, if_pos rfl]
    rw [z]
  generalize bw3 v (oN P) (oN x) = B at b3 e0 ⊢
  unfold cbM
  show (sm (oN P) 9 ∧ enP (cb0 B (oN P)) (oN P) 0) ∧ _
  rw [e0]
  have c2 : ∀ t, ¬ (1169 ≤ t ∧ t < 1187) → t ≠ 1187 + 7 * P + 5 → tgF (oN (y - x)) 0 0 6 B 1 t = v1 1 t := by
    intro t h1 h2
    refine (tgF_out (w := 0) (Or.inl rfl) h1).trans ?_
    rw [b3, if_neg h2]
    exact tgF_out (w := 2) (Or.inr rfl) h1
  have c3 : ∀ t, t < 18 → tgF (oN (y - x)) 0 0 6 B 1 (1169 + t) = etF w1 P (oN x) t := by
    intro t ht
    have z1 := tgF_at (s := oN (y - x)) (w := 0) (Or.inl rfl) 6 0 B (1169 + t) (by decide)
    have z2 := tgF_at (s := oN x) (w := 2) (Or.inr rfl) 6 0 v1 (1169 + t) (by decide)
    rw [if_pos (show 1169 + 3 * 0 ≤ 1169 + t ∧ 1169 + t < 1169 + 3 * (0 + 6) by omega), show 1169 + t - 1169 = t by omega] at z1 z2
    have z3 : B 1 (1169 + t) = if t % 3 = 1 then w1 4 t - bit (oN x) (t / 3) else if t % 3 = 2 then w1 4 t + bit (oN x) (t / 3) else w1 4 t := by
      rw [b3, if_neg (by omega), ← htt t ht]
      exact z2
    refine z1.trans ?_
    unfold etF
    rw [w5 _ (by omega), ey, q1, z3]
    rcases (show t % 3 = 0 ∨ t % 3 = 1 ∨ t % 3 = 2 by omega) with z | z | z
    · rw [if_neg (show ¬ t % 3 = 1 by omega), if_pos z, if_neg (show ¬ t % 3 = 1 by omega), if_neg (show ¬ t % 3 = 2 by omega), if_neg (show ¬ t % 3 = 1 by omega), if_pos z]
    · rw [if_pos z, if_pos z, if_pos z, bx_comm]
    · rw [if_neg (show ¬ t % 3 = 1 by omega), if_neg (show ¬ t % 3 = 0 by omega), if_neg (show ¬ t % 3 = 1 by omega), if_pos z, if_neg (show ¬ t % 3 = 1 by omega), if_neg (show ¬ t % 3 = 0 by omega)]
  have he' := end_rel (w := w1) (v := v1) (v2 := tgF (oN (y - x)) 0 0 6 B) (mis := oN x) (K := k) (S := s) (W := 0) (Sp := S) hP hO (by omega) (by omega) (by decide) hE hS (by rw [w5 _ (by omega)]; exact p4) (by rw [w5 _ (by omega)]; exact p5) i1.1.2.2.2.2.2.1 i1.1.2.2.2.2.1 hA hwi hk hss hh2 he hL c2 c3
  exact ⟨⟨sm_oN (by omega) (by decide), he'.1⟩, he'.2, end_ivt (W := 0) (Ivt_c i1 (P2 := P) (fun t _ => rfl) i1.1.2.2.2.2.2.2 (fun _ _ => rfl) (fun _ _ => ⟨rfl, rfl⟩) (fun _ _ => ⟨rfl, rfl, rfl, rfl⟩) (fun r hr _ => ⟨by omega, rfl⟩) rfl (fun _ _ _ => ⟨rfl, rfl⟩) (fun _ _ _ => ⟨rfl, rfl⟩)) hP (by decide)⟩
theorem s_back (σ : SG) (h x : Int32) (hR : RG σ) : StI RG f_X_back f_M_back [.int h, .int x] σ := by
  obtain ⟨T, K, S, N, O, E, hr, i⟩ := id hR.1
  obtain ⟨e0, e6, e7, e16, hT, hK, hS, hO⟩ := g_0 hr i
  have p1 : ltP σ ∧ sm (σ 0 8 4) 10 := ⟨RG_lt hR, by rw [i.1.2.2.2.2.1]; exact sm_oN hO (by decide)⟩
  have h16 : sm (σ 8 1 16) 10 := by rw [e16]; exact sm_oN hO (by decide)
  have hrk : Rel (σ 0) (knM (σ 8) 1) S O E 100 := by rw [knM_1]; exact hr
  rcases row_ok hr i h with ⟨z1, z2⟩ | ⟨P, hP, z1, z2, -⟩
  · have hX : baF σ h x = (-1, σ) := by unfold baF; rw [z1, if_pos (by decide)]
    have hM : baM (σ 8) h x = (-1, σ 8) := by unfold baM; rw [z2, if_pos rfl]
    exact StI_2 (M := fun v => baM v h x) q_X_back p1 q_M_back (by rw [hX]; exact ⟨RG_k hR, h16, fun q => absurd z2 q⟩) hX hM (RG_self hR)
  have np : ¬ oN P < 0 := by
    show ¬ oN P < oN 0
    rw [oN_lt (by omega) (by decide)]
    omega
  have nq : ¬ oN P = -5 := oN_m5 (by omega)
  rcases Decidable.em (wi x 0 63) with c1 | c1
  case inr =>
    have hX : baF σ h x = (-2, σ) := by unfold baF; rw [z1, if_neg np, if_neg c1]
    have hM : baM (σ 8) h x = (-2, σ 8) := by unfold baM; rw [z2, if_neg nq, if_neg c1]
    exact StI_2 (M := fun v => baM v h x) q_X_back p1 q_M_back (by rw [hX]; exact ⟨RG_k hR, h16, fun _ q => absurd q c1⟩) hX hM (RG_self hR)
  obtain ⟨n, hn, rfl⟩ := wiN (n := 63) c1 (by decide)
  obtain ⟨k, s, n2, -, -, -, -, -, -, -, -, -, pA, -⟩ := i.2.2.2.1 P hP
  have hy := sm_eq pA
  have hy64 : (σ 0 5 (P * 7 + 4)).toNatClampNeg < 64 := by have := pA.2; omega
  generalize (σ 0 5 (P * 7 + 4)).toNatClampNeg = y at hy hy64
  have u5 : uh (σ 8) (oN P) 5 = oN y := by
    show σ 8 1 (1187 + 7 * oN P + 5).toNatClampNeg = _
    rw [adH_5 (by omega)]
    exact ((hr.2.2.2.2.2.1 P hP).2 4 (by decide) (by omega)).trans hy
  have hiff := (and_sub n (by omega) y hy64).1
  by_cases c2 : oN n &&& oN y = oN n
  case neg =>
    have hX : baF σ h (oN n) = (-2, σ) := by unfold baF; rw [z1, if_neg np, if_pos c1, hr_4 (by omega), hy, if_neg (fun q => c2 (hiff.mp q))]
    have hM : baM (σ 8) h (oN n) = (-2, σ 8) := by unfold baM; rw [z2, if_neg nq, if_pos c1, u5, if_neg c2]
    exact StI_2 (M := fun v => baM v h (oN n)) q_X_back p1 q_M_back (by rw [hX]; exact ⟨RG_k hR, h16, fun _ _ q => absurd (by rw [z2, u5] at q; exact q) c2⟩) hX hM (RG_self hR)
  obtain ⟨g1, g2, g3, g4, g5, g6⟩ := back_ok hrk i hP (show n < 64 by omega) hy64 hy c2
  have hX : baF σ h (oN n) = (bkG (σ 0) (oN P) - bkC (σ 0) (oN n) + 1000, up1 (rcW σ) 0 (enH (tcH (σ 0) (oN P) (bkC (σ 0) (oN n) - bkG (σ 0) (oN P))) (oN P) 0 (oN n))) := by
    unfold baF
    rw [z1, if_neg np, if_pos c1, hr_4 (by omega), hy, if_pos (hiff.mpr c2)]
  have hM : baM (σ 8) h (oN n) = (bkG (σ 0) (oN P) - bkC (σ 0) (oN n) + 1000, cbM (bw3 (knM (σ 8)) (oN P) (oN n)) (oN P)) := by
    unfold baM
    rw [z2, if_neg nq, if_pos c1, u5, if_pos c2, g1, g2]
  have u1 : uh (σ 8) (oN P) 1 = uh (knM (σ 8)) (oN P) 1 := by
    show σ 8 1 _ = knM (σ 8) 1 _
    rw [knM_1]
  refine StI_2 (M := fun v => baM v h (oN n)) q_X_back p1 q_M_back ?_ hX (by rw [r08 (RG_lt hR)]; exact hM) ?_
  · rw [hX]
    show sm (up1 (rcW σ) 0 (enH (tcH (σ 0) (oN P) (bkC (σ 0) (oN n) - bkG (σ 0) (oN P))) (oN P) 0 (oN n)) 8 0 1) 4 ∧ sm (up1 (rcW σ) 0 (enH (tcH (σ 0) (oN P) (bkC (σ 0) (oN n) - bkG (σ 0) (oN P))) (oN P) 0 (oN n)) 8 1 16) 10 ∧ (¬ plF (up1 (rcW σ) 0 (enH (tcH (σ 0) (oN P) (bkC (σ 0) (oN n) - bkG (σ 0) (oN P))) (oN P) 0 (oN n)) 8) h = -5 → wi (oN n) 0 63 → oN n &&& uh (up1 (rcW σ) 0 (enH (tcH (σ 0) (oN P) (bkC (σ 0) (oN n) - bkG (σ 0) (oN P))) (oN P) 0 (oN n)) 8) (plF (up1 (rcW σ) 0 (enH (tcH (σ 0) (oN P) (bkC (σ 0) (oN n) - bkG (σ 0) (oN P))) (oN P) 0 (oN n)) 8) h) 5 = oN n → sm (uh (up1 (rcW σ) 0 (enH (tcH (σ 0) (oN P) (bkC (σ 0) (oN n) - bkG (σ 0) (oN P))) (oN P) 0 (oN n)) 8) (plF (up1 (rcW σ) 0 (enH (tcH (σ 0) (oN P) (bkC (σ 0) (oN n) - bkG (σ 0) (oN P))) (oN P) 0 (oN n)) 8) h) 1) 15 ∧ cbP (bw3 (knM (up1 (rcW σ) 0 (enH (tcH (σ 0) (oN P) (bkC (σ 0) (oN n) - bkG (σ 0) (oN P))) (oN P) 0 (oN n)) 8)) (plF (up1 (rcW σ) 0 (enH (tcH (σ 0) (oN P) (bkC (σ 0) (oN n) - bkG (σ 0) (oN P))) (oN P) 0 (oN n)) 8) h) (oN n)) (plF (up1 (rcW σ) 0 (enH (tcH (σ 0) (oN P) (bkC (σ 0) (oN n) - bkG (σ 0) (oN P))) (oN P) 0 (oN n)) 8) h))
    rw [r08 (RG_lt hR), z2]
    exact ⟨RG_k hR, h16, fun _ _ _ => ⟨by rw [u1]; exact g3, g4⟩⟩
  · refine act_kn hR (fun j hj => ?_) ⟨T, K, S, N, O - 1, E + 1, g5, g6⟩
    unfold cbM cb0
    rw [enM_k hj, tgF_k hj]
    unfold bw3 bw2 bw1
    rw [dcr_k hj, tgF_k hj, pyM_k hj]

