/-! PURE: acts: kites, spools; what would pass -/
theorem akH_n {w : HV} {K : Nat} {a b c d : Int32} (e : w 8 1 = oN K) (hK : K < 16) : akH w a b c d = up2 (up2 (up2 (up2 (up2 (up2 w 2 (K * 8 + 1) a) 2 (K * 8 + 2) b) 2 (K * 8 + 3) c) 2 (K * 8 + 4) d) 2 (K * 8 + 7) (-5)) 8 1 (oN (K + 1)) := by
  show up2 (pt (pt (pt (pt (pt w 2 8 128 (w 8 1) 1 a) 2 8 128 (w 8 1) 2 b) 2 8 128 (w 8 1) 3 c) 2 8 128 (w 8 1) 4 d) 2 8 128 (w 8 1) 7 (-5)) 8 1 (w 8 1 + 1) = _
  rw [e, ptkt_1 hK, ptkt_2 hK, ptkt_3 hK, ptkt_4 hK, ptkt_7 hK, oN_succ]
theorem comes_ok {w v : HV} {T K S N O E b : Nat} (x1 x2 x3 x4 : Int32) (h : Rel w (v 1) S O E 100) (i : Ivt w T K S N O E b 100) (hK : K < 16) : Rel (akH w x1 x2 x3 x4) (cmM v x1 x2 x3 x4 1) S O E 100 ∧ Ivt (akH w x1 x2 x3 x4) T (K + 1) S N O E b 100 := by
  obtain ⟨hO, hE, hS⟩ := Ivt_O i
  rw [akH_n i.1.2.1 hK]
  generalize hw2 : up2 (up2 (up2 (up2 (up2 (up2 w 2 (K * 8 + 1) x1) 2 (K * 8 + 2) x2) 2 (K * 8 + 3) x3) 2 (K * 8 + 4) x4) 2 (K * 8 + 7) (-5)) 8 1 (oN (K + 1)) = w2
  have k8 : ∀ t, w2 8 t = if t = 1 then oN (K + 1) else w 8 t := by
    intro t
    rw [← hw2, u2k, u2n (by decide), u2n (by decide), u2n (by decide), u2n (by decide), u2n (by decide)]
  have k2 : ∀ t, w2 2 t = if t = K * 8 + 7 then -5 else if t = K * 8 + 4 then x4 else if t = K * 8 + 3 then x3 else if t = K * 8 + 2 then x2 else if t = K * 8 + 1 then x1 else w 2 t := by
    intro t
    rw [← hw2, u2n (by decide), u2k, u2k, u2k, u2k, u2k]
  have kk : ∀ k : Fin 9, k ≠ 2 → k ≠ 8 → w2 k = w k := by
    intro k h1 h2
    rw [← hw2, up2_kn h2, up2_kn h1, up2_kn h1, up2_kn h1, up2_kn h1, up2_kn h1]
  have e6 : v 1 6 = oN K := h.1.2.2.1.trans i.1.2.1
  have c : ∀ u, cmM v x1 x2 x3 x4 1 u = if u = 1017 + 7 * K + 6 then 0 else if u = 1017 + 7 * K + 5 then 0 else if u = 1017 + 7 * K + 4 then x4 else if u = 1017 + 7 * K + 3 then x3 else if u = 1017 + 7 * K + 2 then x2 else if u = 1017 + 7 * K + 1 then x1 else if u = 1017 + 7 * K + 0 then 0 else if u = 6 then oN (K + 1) else v 1 u := by
    intro u
    unfold cmM
    rw [e6, adK_0 (by omega), adK_1 (by omega), adK_2 (by omega), adK_3 (by omega), adK_4 (by omega), adK_5 (by omega), adK_6 (by omega), u21, u21, u21, u21, u21, u21, u21, inc1, e6, oN_succ]
  have co : ∀ u, u ≠ 6 → ¬ (1017 + 7 * K ≤ u ∧ u < 1017 + 7 * K + 7) → cmM v x1 x2 x3 x4 1 u = v 1 u := by
    intro u h6 hu
    rw [c, if_neg (by omega), if_neg (by omega), if_neg (by omega), if_neg (by omega), if_neg (by omega), if_neg (by omega), if_neg (by omega), if_neg h6]
  obtain ⟨⟨a0, a1, a6, a7, a8, a9, a12, a14, a16⟩, hw, hk, hsp, ht, hh, he, hl⟩ := id h
  obtain ⟨⟨b0, b1, b2, b3, b4, b5, b7⟩, ⟨d1, d2, d3, d4, d5⟩, hc, hH, hD, hN, hTl, hZ⟩ := id i
  constructor
  · refine ⟨⟨?_, ?_, ?_, ?_, ?_, ?_, ?_, ?_, ?_⟩, ?_, ?_, ?_, ?_, ?_, ?_, ?_⟩
    · rw [co 0 (by omega) (by omega), k8, if_neg (by decide)]; exact a0
    · intro q hq; rw [co _ (by omega) (by omega), kk 1 (by decide) (by decide)]; exact a1 q hq
    · rw [c, if_neg (by omega), if_neg (by omega), if_neg (by omega), if_neg (by omega), if_neg (by omega), if_neg (by omega), if_neg (by omega), if_pos rfl, k8, if_pos rfl]
    · rw [co 7 (by omega) (by omega), k8, if_neg (by decide)]; exact a7
    · rw [co 8 (by omega) (by omega), k8, if_neg (by decide)]; exact a8
    · intro q hq; rw [co _ (by omega) (by omega), kk 7 (by decide) (by decide)]; exact a9 q hq
    · rw [co 12 (by omega) (by omega), k8, if_neg (by decide)]; exact a12
    · rw [co 14 (by omega) (by omega), k8, if_neg (by decide)]; exact a14
    · rw [co 16 (by omega) (by omega), k8, if_neg (by decide)]; exact a16
    · intro q hq; rw [co _ (by omega) (by omega), kk 0 (by decide) (by decide)]; exact hw q hq
    · intro r hr q hq
      by_cases e : r = K
      · subst e
        obtain ⟨z0, z5, z6⟩ := hZ.1 r (Nat.le_refl _) hr
        rcases (show q = 0 ∨ q = 1 ∨ q = 2 ∨ q = 3 ∨ q = 4 ∨ q = 5 ∨ q = 6 by omega) with z | z | z | z | z | z | z <;> subst z
        · rw [c, if_neg (by omega), if_neg (by omega), if_neg (by omega), if_neg (by omega), if_neg (by omega), if_neg (by omega), if_pos rfl, k2, if_neg (by omega), if_neg (by omega), if_neg (by omega), if_neg (by omega), if_neg (by omega), z0]
        · rw [c, if_neg (by omega), if_neg (by omega), if_neg (by omega), if_neg (by omega), if_neg (by omega), if_pos rfl, k2, if_neg (by omega), if_neg (by omega), if_neg (by omega), if_neg (by omega), if_pos rfl]
        · rw [c, if_neg (by omega), if_neg (by omega), if_neg (by omega), if_neg (by omega), if_pos rfl, k2, if_neg (by omega), if_neg (by omega), if_neg (by omega), if_pos rfl]
        · rw [c, if_neg (by omega), if_neg (by omega), if_neg (by omega), if_pos rfl, k2, if_neg (by omega), if_neg (by omega), if_pos rfl]
        · rw [c, if_neg (by omega), if_neg (by omega), if_pos rfl, k2, if_neg (by omega), if_pos rfl]
        · rw [c, if_neg (by omega), if_pos rfl, k2, if_neg (by omega), if_neg (by omega), if_neg (by omega), if_neg (by omega), if_neg (by omega), z5]
        · rw [c, if_pos rfl, k2, if_neg (by omega), if_neg (by omega), if_neg (by omega), if_neg (by omega), if_neg (by omega), z6]
      · rw [co _ (by omega) (by omega), k2, if_neg (by omega), if_neg (by omega), if_neg (by omega), if_neg (by omega), if_neg (by omega)]; exact hk r hr q hq
    · intro t h3; rw [co _ (by omega) (by omega), kk 3 (by decide) (by decide)]; exact hsp t h3
    · intro t h3; rw [co _ (by omega) (by omega), kk 4 (by decide) (by decide)]; exact ht t h3
    · intro r hr
      refine ⟨?_, fun q hq hx => ?_⟩
      · rw [co _ (by omega) (by omega), kk 5 (by decide) (by decide)]; exact (hh r hr).1
      · rw [co _ (by omega) (by omega), kk 5 (by decide) (by decide)]; exact (hh r hr).2 q hq hx
    · refine ⟨?_, fun j hj q hq => ?_⟩
      · rw [co _ (by omega) (by omega)]; exact he.1
      · have hj8 : j < 8 := by omega
        rw [co _ (by omega) (by omega), kk 6 (by decide) (by decide)]; exact he.2 j hj q hq
    · show cmM v x1 x2 x3 x4 1 13 = _
      rw [co _ (by omega) (by omega), kk 3 (by decide) (by decide)]; exact hl
  · refine ⟨⟨?_, ?_, ?_, ?_, ?_, ?_, ?_⟩, ⟨d1, by omega, d3, d4, d5⟩, ?_, ?_, ?_, ?_, ?_, ?_, ?_⟩
    · rw [k8, if_neg (by decide)]; exact b0
    · rw [k8, if_pos rfl]
    · rw [k8, if_neg (by decide)]; exact b2
    · rw [k8, if_neg (by decide)]; exact b3
    · rw [k8, if_neg (by decide)]; exact b4
    · rw [k8, if_neg (by decide)]; exact b5
    · rw [k8, if_neg (by decide)]; exact b7
    · rw [kk 3 (by decide) (by decide)]; exact hc
    · intro r hr
      obtain ⟨k, s, n, p1, p2, p3, p4, p5, p6, p7, p8, p9, pA, pB⟩ := hH r hr
      refine ⟨k, s, n, by omega, p2, p3, ?_, ?_, ?_, ?_, ?_, ?_, ?_, ?_⟩
      · rw [kk 5 (by decide) (by decide)]; exact p4
      · rw [kk 5 (by decide) (by decide)]; exact p5
      · rw [kk 5 (by decide) (by decide)]; exact p6
      · rw [kk 3 (by decide) (by decide)]; exact p7
      · rw [k2, if_neg (by omega), if_neg (by omega), if_neg (by omega), if_neg (by omega), if_neg (by omega)]; exact p8
      · rw [k2, if_neg (by omega), if_neg (by omega), if_neg (by omega), if_neg (by omega), if_neg (by omega)]; exact p9
      · rw [kk 5 (by decide) (by decide)]; exact pA
      · rw [kk 5 (by decide) (by decide)]; exact pB
    · unfold ivD; rw [kk 5 (by decide) (by decide)]; exact hD
    · intro k hk2
      by_cases e : k = K
      · left
        rw [k2, if_pos (by omega)]
      · rw [k2, if_neg (by omega), if_neg (by omega), if_neg (by omega), if_neg (by omega), if_neg (by omega), kk 5 (by decide) (by decide)]
        exact hN k (by omega)
    · exact ivT_e (kk 4 (by decide) (by decide)) hTl
    · intro k h1 h2
      rw [k2, k2, k2, if_neg (by omega), if_neg (by omega), if_neg (by omega), if_neg (by omega), if_neg (by omega), if_neg (by omega), if_neg (by omega), if_neg (by omega), if_neg (by omega), if_neg (by omega), if_neg (by omega), if_neg (by omega), if_neg (by omega), if_neg (by omega), if_neg (by omega)]
      exact hZ.1 k (by omega) h2
    · rw [kk 3 (by decide) (by decide)]; exact hZ.2
theorem s_kite (σ : SG) (a b c d : Int32) (hR : RG σ) : StI RG f_X_kite f_M_kite [.int a, .int b, .int c, .int d] σ := by
  obtain ⟨T, K, S, N, O, E, hr, i⟩ := id hR.1
  obtain ⟨e0, e6, e7, e16, hT, hK, hS, hO⟩ := g_0 hr i
  have e81 : σ 0 8 1 = oN K := i.1.2.1
  have hp2 : sm (σ 8 1 6) 16 ∧ sm (σ 8 0 1) 4 := ⟨by rw [e6]; exact sm_oN hK (by decide), RG_k hR⟩
  have bad : ∀ r, kiF σ a b c d = (r, σ) → kiM (σ 8) a b c d = (r, σ 8) → StI RG f_X_kite f_M_kite [.int a, .int b, .int c, .int d] σ := fun r hX hM => StI_2 (M := fun v => kiM v a b c d) q_X_kite (RG_lt hR) q_M_kite (by rw [hX]; exact hp2) hX hM (RG_self hR)
  rcases Decidable.em (wi a 0 12) with c1 | c1
  case inr => exact bad (-2) (by unfold kiF; rw [if_neg c1]) (by unfold kiM; rw [if_neg c1])
  rcases Decidable.em (wi b a 12) with c2 | c2
  case inr => exact bad (-2) (by unfold kiF; rw [if_pos c1, if_neg c2]) (by unfold kiM; rw [if_pos c1, if_neg c2])
  rcases Decidable.em (wi c 1 9) with c3 | c3
  case inr => exact bad (-2) (by unfold kiF; rw [if_pos c1, if_pos c2, if_neg c3]) (by unfold kiM; rw [if_pos c1, if_pos c2, if_neg c3])
  rcases Decidable.em (wi d 1 99) with c4 | c4
  case inr => exact bad (-2) (by unfold kiF; rw [if_pos c1, if_pos c2, if_pos c3, if_neg c4]) (by unfold kiM; rw [if_pos c1, if_pos c2, if_pos c3, if_neg c4])
  by_cases c5 : K = 16
  · exact bad (-3) (by unfold kiF; rw [if_pos c1, if_pos c2, if_pos c3, if_pos c4, e81, c5, if_neg (by decide)]) (by unfold kiM; rw [if_pos c1, if_pos c2, if_pos c3, if_pos c4, e6, c5, if_pos (show oN 16 = 16 from rfl)])
  · have hX : kiF σ a b c d = (oN K, up1 (rcW σ) 0 (akH (σ 0) a b c d)) := by
      unfold kiF
      rw [if_pos c1, if_pos c2, if_pos c3, if_pos c4, e81, if_pos (by show oN K < oN 16; rw [oN_lt (by omega) (by decide)]; omega)]
    have hM : kiM (σ 8) a b c d = (oN K, cmM (knM (σ 8)) a b c d) := by
      unfold kiM
      rw [if_pos c1, if_pos c2, if_pos c3, if_pos c4, e6, if_neg (show ¬ oN K = 16 from fun q => c5 (oN_inj (b := 16) (by omega) (by decide) q))]
    refine StI_2 (M := fun v => kiM v a b c d) q_X_kite (RG_lt hR) q_M_kite (by rw [hX]; show sm (up1 (rcW σ) 0 (akH (σ 0) a b c d) 8 1 6) 16 ∧ sm (up1 (rcW σ) 0 (akH (σ 0) a b c d) 8 0 1) 4; rw [r08 (RG_lt hR)]; exact hp2) hX (by rw [r08 (RG_lt hR)]; exact hM) ?_
    obtain ⟨z1, z2⟩ := comes_ok (v := knM (σ 8)) a b c d (by rw [knM_1]; exact hr) i (by omega)
    exact act_kn hR (fun k hk => cmM_k hk) ⟨T, K + 1, S, N, O, E, z1, z2⟩
theorem suF_s (f : Nat → Int32) : ∀ (k n : Nat) (d : Int32), suF f n (k + 1) d = suF f n k d + f (n + k) := by
  intro k
  induction k with
  | zero => intro n d; rfl
  | succ k ih =>
    intro n d
    show suF f (n + 1) (k + 1) (d + f n) = _
    rw [ih, show n + 1 + k = n + (k + 1) by omega]
    rfl
theorem s_spool (σ : SG) (a : Int32) (hR : RG σ) : StI RG f_X_spool f_M_spool [.int a] σ := by
  obtain ⟨T, K, S, N, O, E, h, i⟩ := id hR.1
  obtain ⟨e0, e6, e7, e16, hT, hK, hS, hO⟩ := g_0 h i
  have e82 : σ 0 8 2 = oN S := i.1.2.2.1
  have hp2 : sm (σ 8 1 7) 10 ∧ sm (σ 8 0 1) 4 := ⟨by rw [e7]; exact sm_oN hS (by decide), RG_k hR⟩
  have bad : ∀ r, spoF σ a = (r, σ) → spM (σ 8) a = (r, σ 8) → StI RG f_X_spool f_M_spool [.int a] σ := fun r hX hM => StI_2 (M := fun v => spM v a) q_X_spool (RG_lt hR) q_M_spool (by rw [hX]; exact hp2) hX hM (RG_self hR)
  rcases Decidable.em (wi a 1 300) with c1 | c1
  case inr => exact bad (-2) (by unfold spoF; rw [if_neg c1]) (by unfold spM; rw [if_neg c1])
  by_cases c5 : S = 10
  · exact bad (-3) (by unfold spoF; rw [if_pos c1, e82, c5, if_neg (by decide)]) (by unfold spM; rw [if_pos c1, e7, c5, if_pos (show oN 10 = 10 from rfl)])
  have hS10 : S < 10 := by omega
  have hX : spoF σ a = (oN S, up1 (rcW σ) 0 (asH (σ 0) a)) := by
    unfold spoF
    rw [if_pos c1, e82, if_pos (by show oN S < oN 10; rw [oN_lt (by omega) (by decide)]; omega)]
  have hM : spM (σ 8) a = (oN S, sp1 (knM (σ 8)) a) := by
    unfold spM
    rw [if_pos c1, e7, if_neg (show ¬ oN S = 10 from fun q => c5 (oN_inj (b := 10) (by omega) (by decide) q))]
  refine StI_2 (M := fun v => spM v a) q_X_spool (RG_lt hR) q_M_spool (by rw [hX]; show sm (up1 (rcW σ) 0 (asH (σ 0) a) 8 1 7) 10 ∧ sm (up1 (rcW σ) 0 (asH (σ 0) a) 8 0 1) 4; rw [r08 (RG_lt hR)]; exact hp2) hX (by rw [r08 (RG_lt hR)]; exact hM) ?_
  have kM : ∀ k : Fin 9, k ≠ 1 → sp1 (knM (σ 8)) a k = knM (σ 8) k := by
    intro k hk
    unfold sp1
    rw [up2_kn hk, up2_kn hk, up2_kn hk, up2_kn hk, inc_k hk]
  have c : ∀ u, sp1 (knM (σ 8)) a 1 u = if u = 1129 + 4 * S + 3 then 0 else if u = 1129 + 4 * S + 2 then -5 else if u = 1129 + 4 * S + 1 then 0 else if u = 1129 + 4 * S + 0 then a else if u = 7 then oN (S + 1) else σ 8 1 u := by
    intro u
    unfold sp1
    rw [knM_1, e7, adS_0 (by omega), adS_1 (by omega), adS_2 (by omega), adS_3 (by omega), u21, u21, u21, u21, inc1, knM_1, e7, oN_succ]
  have co : ∀ u, u ≠ 7 → ¬ (1129 + 4 * S ≤ u ∧ u < 1129 + 4 * S + 4) → sp1 (knM (σ 8)) a 1 u = σ 8 1 u := by
    intro u h6 hu
    rw [c, if_neg (by omega), if_neg (by omega), if_neg (by omega), if_neg (by omega), if_neg h6]
  have ea : asH (σ 0) a = up2 (up2 (up2 (σ 0) 3 (S * 4 + 0) a) 3 (S * 4 + 2) (-5)) 8 2 (oN (S + 1)) := by
    show up2 (pt (pt (σ 0) 3 4 40 (σ 0 8 2) 0 a) 3 4 40 (σ 0 8 2) 2 (-5)) 8 2 (σ 0 8 2 + 1) = _
    rw [e82, ptsl_0 hS10, ptsl_2 hS10, oN_succ]
  generalize hw2 : asH (σ 0) a = w2 at ea
  have k8 : ∀ t, w2 8 t = if t = 2 then oN (S + 1) else σ 0 8 t := by
    intro t
    rw [ea, u2k, u2n (by decide), u2n (by decide)]
  have k3 : ∀ t, w2 3 t = if t = S * 4 + 2 then -5 else if t = S * 4 + 0 then a else σ 0 3 t := by
    intro t
    rw [ea, u2n (by decide), u2k, u2k]
  have kk : ∀ k : Fin 9, k ≠ 3 → k ≠ 8 → w2 k = σ 0 k := by
    intro k h1 h2
    rw [ea, up2_kn h2, up2_kn h1, up2_kn h1]
  obtain ⟨⟨a0, a1, a6, a7, a8, a9, a12, a14, a16⟩, hw, hk, hsp, ht, hh, he, hl⟩ := id h
  obtain ⟨⟨b0, b1, b2, b3, b4, b5, b7⟩, ⟨d1, d2, d3, d4, d5⟩, hc, hH, hD, hN, hTl, hZ⟩ := id i
  obtain ⟨y1, y3⟩ := hZ.2 S (Nat.le_refl _) hS10
  refine act_kn hR kM ⟨T, K, S + 1, N, O, E, ?_, ?_⟩
  · refine ⟨⟨?_, ?_, ?_, ?_, ?_, ?_, ?_, ?_, ?_⟩, ?_, ?_, ?_, ?_, ?_, ?_, ?_⟩
    · rw [co 0 (by omega) (by omega), k8, if_neg (by decide)]; exact a0
    · intro q hq; rw [co _ (by omega) (by omega), kk 1 (by decide) (by decide)]; exact a1 q hq
    · rw [co 6 (by omega) (by omega), k8, if_neg (by decide)]; exact a6
    · rw [c, if_neg (by omega), if_neg (by omega), if_neg (by omega), if_neg (by omega), if_pos rfl, k8, if_pos rfl]
    · rw [co 8 (by omega) (by omega), k8, if_neg (by decide)]; exact a8
    · intro q hq; rw [co _ (by omega) (by omega), kk 7 (by decide) (by decide)]; exact a9 q hq
    · rw [co 12 (by omega) (by omega), k8, if_neg (by decide)]; exact a12
    · rw [co 14 (by omega) (by omega), k8, if_neg (by decide)]; exact a14
    · rw [co 16 (by omega) (by omega), k8, if_neg (by decide)]; exact a16
    · intro q hq; rw [co _ (by omega) (by omega), kk 0 (by decide) (by decide)]; exact hw q hq
    · intro r hr q hq; rw [co _ (by omega) (by omega), kk 2 (by decide) (by decide)]; exact hk r hr q hq
    · intro t h3
      rcases (show t = S * 4 + 0 ∨ t = S * 4 + 1 ∨ t = S * 4 + 2 ∨ t = S * 4 + 3 ∨ ¬ (S * 4 ≤ t ∧ t < S * 4 + 4) by omega) with z | z | z | z | z
      · rw [c, if_neg (by omega), if_neg (by omega), if_neg (by omega), if_pos (by omega), k3, if_neg (by omega), if_pos z]
      · rw [c, if_neg (by omega), if_neg (by omega), if_pos (by omega), k3, if_neg (by omega), if_neg (by omega), z, y1]
      · rw [c, if_neg (by omega), if_pos (by omega), k3, if_pos z]
      · rw [c, if_pos (by omega), k3, if_neg (by omega), if_neg (by omega), z, y3]
      · rw [co _ (by omega) (by omega), k3, if_neg (by omega), if_neg (by omega)]; exact hsp t h3
    · intro t h3; rw [co _ (by omega) (by omega), kk 4 (by decide) (by decide)]; exact ht t h3
    · intro r hr
      refine ⟨?_, fun q hq hx => ?_⟩
      · rw [co _ (by omega) (by omega), kk 5 (by decide) (by decide)]; exact (hh r hr).1
      · rw [co _ (by omega) (by omega), kk 5 (by decide) (by decide)]; exact (hh r hr).2 q hq hx
    · refine ⟨?_, fun j hj q hq => ?_⟩
      · rw [co _ (by omega) (by omega)]; exact he.1
      · have hj8 : j < 8 := by omega
        rw [co _ (by omega) (by omega), kk 6 (by decide) (by decide)]; exact he.2 j hj q hq
    · show sp1 (knM (σ 8)) a 1 13 = _
      rw [co _ (by omega) (by omega), suF_s, Nat.zero_add, k3, if_neg (by omega), if_neg (by omega), y3, Int32.add_zero]
      refine Eq.trans hl (suF_c _ _ _ (fun r _ hr2 => ?_))
      rw [k3, if_neg (by omega), if_neg (by omega)]
  · refine ⟨⟨?_, ?_, ?_, ?_, ?_, ?_, ?_⟩, ⟨d1, d2, by omega, d4, d5⟩, ?_, ?_, ?_, ?_, ?_, ?_, ?_⟩
    · rw [k8, if_neg (by decide)]; exact b0
    · rw [k8, if_neg (by decide)]; exact b1
    · rw [k8, if_pos rfl]
    · rw [k8, if_neg (by decide)]; exact b3
    · rw [k8, if_neg (by decide)]; exact b4
    · rw [k8, if_neg (by decide)]; exact b5
    · rw [k8, if_neg (by decide)]; exact b7
    · show cnF (fun r => w2 3 (r * 4 + 2)) S + (if w2 3 (S * 4 + 2) = -5 then 0 else 1) = O
      rw [k3, if_pos rfl, if_pos rfl, cnF_c (f := fun r => w2 3 (r * 4 + 2)) (g := fun r => σ 0 3 (r * 4 + 2)) S (fun r hr => by
        show w2 3 (r * 4 + 2) = σ 0 3 (r * 4 + 2)
        rw [k3, if_neg (by omega), if_neg (by omega)])]
      exact hc
    · intro r hr
      obtain ⟨k, s, n, p1, p2, p3, p4, p5, p6, p7, p8, p9, pA, pB⟩ := hH r hr
      refine ⟨k, s, n, p1, by omega, p3, ?_, ?_, ?_, ?_, ?_, ?_, ?_, ?_⟩
      · rw [kk 5 (by decide) (by decide)]; exact p4
      · rw [kk 5 (by decide) (by decide)]; exact p5
      · rw [kk 5 (by decide) (by decide)]; exact p6
      · rw [k3, if_neg (by omega), if_neg (by omega)]; exact p7
      · rw [kk 2 (by decide) (by decide)]; exact p8
      · rw [kk 2 (by decide) (by decide)]; exact p9
      · rw [kk 5 (by decide) (by decide)]; exact pA
      · rw [kk 5 (by decide) (by decide)]; exact pB
    · unfold ivD; rw [kk 5 (by decide) (by decide)]; exact hD
    · unfold ivN; rw [kk 5 (by decide) (by decide), kk 2 (by decide) (by decide)]; exact hN
    · exact ivT_e (kk 4 (by decide) (by decide)) hTl
    · rw [kk 2 (by decide) (by decide)]; exact hZ.1
    · intro r h1 h2
      rw [k3, k3, if_neg (by omega), if_neg (by omega), if_neg (by omega), if_neg (by omega)]
      exact hZ.2 r (by omega) h2
theorem s_ifPassed (σ : SG) (h x : Int32) (hR : RG σ) : StI RG f_X_ifPassed f_M_ifPassed [.int h, .int x] σ := by
  obtain ⟨T, K, S, N, O, E, hr, i⟩ := id hR.1
  obtain ⟨e0, e6, e7, e16, hT, hK, hS, hO⟩ := g_0 hr i
  have hp1 : sm (σ 0 8 4) 10 := by rw [i.1.2.2.2.2.1]; exact sm_oN hO (by decide)
  rcases Decidable.em (wi h 1 99) with c1 | c1
  case inr =>
    have hX : ipF σ h x = (-2, σ) := by unfold ipF; rw [if_neg c1]
    have hM : iaM (σ 8) h x = (-2, σ 8) := by unfold iaM; rw [if_neg c1]
    exact StI_2 (M := fun v => iaM v h x) q_X_ifPassed hp1 q_M_ifPassed (by rw [hX]; exact fun q => absurd q c1) hX hM (RG_self hR)
  rcases Decidable.em (wi x 0 4) with c2 | c2
  case inr =>
    have hX : ipF σ h x = (-2, σ) := by unfold ipF; rw [if_pos c1, if_neg c2]
    have hM : iaM (σ 8) h x = (-2, σ 8) := by unfold iaM; rw [if_pos c1, if_neg c2]
    exact StI_2 (M := fun v => iaM v h x) q_X_ifPassed hp1 q_M_ifPassed (by rw [hX]; exact fun _ q => absurd q c2) hX hM (RG_self hR)
  obtain ⟨n, n1, n2, rfl⟩ := wi1 (n := 99) c1 (by decide)
  obtain ⟨c, hc, rfl⟩ := wiN (n := 4) c2 (by decide)
  generalize hm : (if 1000 < T + n then 1000 - T else n) = m
  have hmT : T + m ≤ 1000 := by rw [← hm]; split <;> omega
  have p1 : paM (σ 8) 1 = σ 8 1 := by unfold paM; rw [cpL_kn (by decide)]
  have hr' : Rel (cpH (σ 1) (σ 0)) (paM (σ 8) 1) S O E 100 := by rw [p1]; exact Rel_w (cpH_in _ _) hr hO hS
  have i' : Ivt (cpH (σ 1) (σ 0)) T K S N O E (10 * T) 100 := Ivt_w (cpH_in _ _) i
  have eV : ipV σ (oN n) = paN (cpH (σ 1) (σ 0)) m := by
    unfold ipV
    rw [oN_nat (show n < 2 ^ 31 by omega), ip_ok n _ _ T O E hT hr' i', hm]
  have eH : iaH (paM (σ 8)) (oN n) = oN m := by
    unfold iaH
    rw [p1, e0, oN_add, ← hm]
    by_cases z : 1000 < T + n
    · rw [if_pos (show (1000 : Int32) < oN (T + n) by show oN 1000 < oN (T + n); rw [oN_lt (by decide) (by omega)]; exact z), if_pos z, show (1000 : Int32) = oN 1000 from rfl, oN_sub hT]
    · rw [if_neg (show ¬ (1000 : Int32) < oN (T + n) by show ¬ oN 1000 < oN (T + n); rw [oN_lt (by decide) (by omega)]; exact z), if_neg z]
  obtain ⟨z1, O2, E2, z2, z3, z4, z5⟩ := pm_ok m 0 _ _ T O E hmT hr' i'
  have eW : iaV (σ 8) (oN n) = (pmM m 0 (paM (σ 8))).2 := by
    unfold iaV
    rw [eH, oN_nat (show m < 2 ^ 31 by omega)]
  generalize hV : paN (cpH (σ 1) (σ 0)) m = V at eV z3 z4
  generalize hv2 : (pmM m 0 (paM (σ 8))).2 = v2 at eW z3
  have hX : ipF σ (oN n) (oN c) = (ipR (σ 0) V (oN c), up1 σ 1 V) := by unfold ipF; rw [if_pos c1, if_pos c2, eV]
  have hM : iaM (σ 8) (oN n) (oN c) = (v2 1 (iaI (oN c)).toNatClampNeg - σ 8 1 (iaI (oN c)).toNatClampNeg + (if oN c = 4 then 100000 else 0), pbM v2) := by unfold iaM; rw [if_pos c1, if_pos c2, eW, p1]
  obtain ⟨⟨a0, a1, a6, a7, a8, a9, a12, a14, a16⟩, -⟩ := id hr
  obtain ⟨⟨b0, b1, b6, b7, b8, b9, b12, b14, b16⟩, -⟩ := id z3
  have e8 : up1 σ 1 V 8 = σ 8 := up1_nt (by decide)
  have ea : ipR (σ 0) V (oN c) = v2 1 (iaI (oN c)).toNatClampNeg - σ 8 1 (iaI (oN c)).toNatClampNeg + (if oN c = 4 then 100000 else 0) := by
    rcases (show c = 0 ∨ c = 1 ∨ c = 2 ∨ c = 3 ∨ c = 4 by omega) with q | q | q | q | q <;> subst q
    · show at_ (V 7) 1 3 (oN 0) 0 - at_ (σ 0 7) 1 3 (oN 0) 0 = v2 1 (9 + 0) - σ 8 1 (9 + 0) + 0
      rw [atW_n (by decide), atW_n (by decide), b9 0 (by decide), a9 0 (by decide), Int32.add_zero]
    · show at_ (V 7) 1 3 (oN 1) 0 - at_ (σ 0 7) 1 3 (oN 1) 0 = v2 1 (9 + 1) - σ 8 1 (9 + 1) + 0
      rw [atW_n (by decide), atW_n (by decide), b9 1 (by decide), a9 1 (by decide), Int32.add_zero]
    · show at_ (V 7) 1 3 (oN 2) 0 - at_ (σ 0 7) 1 3 (oN 2) 0 = v2 1 (9 + 2) - σ 8 1 (9 + 2) + 0
      rw [atW_n (by decide), atW_n (by decide), b9 2 (by decide), a9 2 (by decide), Int32.add_zero]
    · show V 8 7 - σ 0 8 7 = v2 1 14 - σ 8 1 14 + 0
      rw [b14, a14, Int32.add_zero]
    · show V 8 6 - σ 0 8 6 + 100000 = v2 1 12 - σ 8 1 12 + 100000
      rw [b12, a12]
  refine StI_2 (M := fun v => iaM v (oN n) (oN c)) q_X_ifPassed hp1 q_M_ifPassed ?_ hX (by rw [e8, ea]; exact hM) ?_
  · rw [hX]
    show wi (oN n) 1 99 → wi (oN c) 0 4 → sm (iaH (paM (up1 σ 1 V 8)) (oN n)) 1000 ∧ pmP (iaH (paM (up1 σ 1 V 8)) (oN n)).toNatClampNeg 0 (paM (up1 σ 1 V 8))
    rw [e8, eH, oN_nat (show m < 2 ^ 31 by omega)]
    exact fun _ _ => ⟨sm_oN (by omega) (by decide), z1⟩
  · have hR1 : RG (up1 σ 1 V) := by
      obtain ⟨r0, ⟨la, hd, g1, g2, g3, g4, g5, g6⟩, ⟨k1, k2⟩, ⟨len, l1, l2, l3, l4⟩⟩ := hR
      have si : ∀ i, i ≠ 1 → up1 σ 1 V i = σ i := fun i h => up1_nt h
      refine ⟨?_, ⟨la, hd, g1, g2, ?_, ?_, ?_, ?_⟩, ⟨?_, ?_⟩, ⟨len, l1, ?_, ?_, ?_⟩⟩
      · rw [si 0 (by decide), si 8 (by decide)]; exact r0
      · rw [si 7 (by decide)]; exact g3
      · rw [si 7 (by decide)]; exact g4
      · rw [si 8 (by decide)]; exact g5
      · intro j hj; rw [si _ (by omega), si 8 (by decide)]; exact g6 j hj
      · rw [si 7 (by decide), si 8 (by decide)]; exact k1
      · rw [si 7 (by decide), si 8 (by decide), si 2 (by decide)]; exact k2
      · rw [si 7 (by decide)]; exact l2
      · rw [si 8 (by decide)]; exact l3
      · rw [si 7 (by decide), si 8 (by decide)]; exact l4
    have vk : ∀ k : Fin 9, k ≠ 1 → v2 k = paM (σ 8) k := fun k hk => by rw [← hv2]; exact pmM_k hk _ _ _
    have pk : ∀ k : Fin 9, k ≠ 2 → paM (σ 8) k = σ 8 k := fun k hk => by unfold paM; rw [cpL_kn hk]
    have bk : ∀ k : Fin 9, k ≠ 1 → pbM v2 k = v2 k := fun k hk => by unfold pbM; rw [cpL_kn hk]
    refine RG_8 hR1 ?_ ?_ ?_ ?_ ?_
    · intro t _
      rw [e8, bk 0 (by decide), vk 0 (by decide), pk 0 (by decide)]
    · intro t ht
      rw [e8]
      unfold pbM
      rw [cpL_eq (Or.inl (by decide)), if_pos ⟨rfl, by omega, by omega⟩, show 0 + (t - 0) = t by omega, vk 2 (by decide)]
      unfold paM
      rw [cpL_eq (Or.inl (by decide)), if_pos ⟨rfl, by omega, by omega⟩, show 0 + (t - 0) = t by omega]
    · rw [e8, bk 4 (by decide), vk 4 (by decide), pk 4 (by decide)]
    · rw [e8, bk 5 (by decide), vk 5 (by decide), pk 5 (by decide)]
    · rw [e8, bk 6 (by decide), vk 6 (by decide), pk 6 (by decide)]

