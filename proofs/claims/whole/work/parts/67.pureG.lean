/-! PURE: a line snaps; an hour of a hire, whole -/
theorem sn_ok {w v : HV} {T K S N O E b P : Nat} (h : Rel w (v 1) S O E 100) (i : Ivt w T K S N O E b 100) (hP : P < O) : snP v (oN P) ∧ Rel (snH w (oN P)) (snM v (oN P) 1) S (O - 1) (E + 1) 100 ∧ Ivt (snH w (oN P)) T K S N (O - 1) (E + 1) b 100 := by
  obtain ⟨hO, hE, hS⟩ := Ivt_O i
  have hP10 : P < 10 := by omega
  obtain ⟨h8, hB, hc, hH, hD, hN, hT, hZ⟩ := id i
  obtain ⟨k, s, n, p1, p2, p3, p4, p5, p6, p7, p8, p9, pA, pB⟩ := hH P hP
  obtain ⟨⟨a0, a1, a6, a7, a8, a9, a12, a14, a16⟩, hwi, hk, hs, hTl, hh, he, hL⟩ := id h
  have hx := sm_eq pA
  have hx64 : (w 5 (P * 7 + 4)).toNatClampNeg < 64 := by have := pA.2; omega
  generalize (w 5 (P * 7 + 4)).toNatClampNeg = x at hx hx64
  have hs10 : s < 10 := by omega
  have smP : sm (oN P) 9 := sm_oN (by omega) (by decide)
  generalize hm : w 5 (P * 7 + 2) = m
  generalize hC : w 1 2 + bcnt (oN x) * w 1 3 = C
  -- the hut
  have wc : snH1 w (oN P) = up2 (up2 (up2 w 3 (s * 4 + 0) (w 3 (s * 4 + 0) + -m)) 3 (s * 4 + 3) (w 3 (s * 4 + 3) + m)) 3 (s * 4 + 1) 0 := by
    unfold snH1
    rw [hr_1 hP10, hr_2 hP10, p5, hm, pasl_0 hs10, pasl_3 hs10, ptsl_1 hs10, u2k, if_neg (by omega)]
  have wC : snC w (oN P) = C := by
    unfold snC
    rw [hr_4 hP10, hx, se_2, se_3, hC]
  have w5 : ∀ t, snH1 w (oN P) 5 t = w 5 t := by
    intro t
    rw [wc, u2n (by decide), u2n (by decide), u2n (by decide)]
  have wH : snH w (oN P) = enH (up2 (up2 (snH1 w (oN P)) 5 (P * 7 + 5) (w 5 (P * 7 + 5) + C)) 8 6 (w 8 6 + C)) (oN P) (oN 2) (oN x) := by
    unfold snH
    rw [wC, hr_4 hP10, hx, pahr_5 hP10, w5]
    rfl
  -- the check
  have u2 : uh v (oN P) 2 = oN s := by
    show v 1 (1187 + 7 * oN P + 2).toNatClampNeg = _
    rw [adH_2 (by omega)]
    exact ((hh P hP).2 1 (by decide) (by omega)).trans p5
  have u3 : uh v (oN P) 3 = m := by
    show v 1 (1187 + 7 * oN P + 3).toNatClampNeg = _
    rw [adH_3 (by omega), ← hm]
    exact (hh P hP).2 2 (by decide) (by omega)
  have vS : ∀ c, c < 4 → v 1 (1129 + 4 * s + c) = w 3 (s * 4 + c) := by
    intro c hc
    rw [show 1129 + 4 * s + c = 1129 + (s * 4 + c) by omega]
    exact hs _ (by omega)
  have v1 : ∀ u, sn1 v (oN P) 1 u = if u = 1129 + (s * 4 + 0) then w 3 (s * 4 + 0) + -m else v 1 u := by
    intro u
    unfold sn1
    rw [u2, u3, adS_0 (by omega), dcr1, vS 0 (by decide), show 1129 + 4 * s + 0 = 1129 + (s * 4 + 0) by omega, Int32.sub_eq_add_neg]
  have u3' : uh (sn1 v (oN P)) (oN P) 3 = m := by
    show sn1 v (oN P) 1 (1187 + 7 * oN P + 3).toNatClampNeg = _
    rw [adH_3 (by omega), v1, if_neg (by omega), ← u3]
    show _ = v 1 (1187 + 7 * oN P + 3).toNatClampNeg
    rw [adH_3 (by omega)]
  have v2 : ∀ u, sn2 v (oN P) 1 u = if u = 1129 + (s * 4 + 3) then w 3 (s * 4 + 3) + m else sn1 v (oN P) 1 u := by
    intro u
    unfold sn2
    rw [u2, u3', adS_3 (by omega), inc1, v1 (1129 + 4 * s + 3), if_neg (show ¬ 1129 + 4 * s + 3 = 1129 + (s * 4 + 0) by omega), vS 3 (by decide), show 1129 + 4 * s + 3 = 1129 + (s * 4 + 3) by omega]
  have v3 : ∀ u, sn3 v (oN P) 1 u = if u = 1129 + (s * 4 + 1) then 0 else sn2 v (oN P) 1 u := by
    intro u
    unfold sn3
    rw [u2, adS_1 (by omega), u21, show 1129 + 4 * s + 1 = 1129 + (s * 4 + 1) by omega]
  have v3o : ∀ u, u < 1129 ∨ 1169 ≤ u → sn3 v (oN P) 1 u = v 1 u := by
    intro u hu
    rw [v3, if_neg (by omega), v2, if_neg (by omega), v1, if_neg (by omega)]
  have u3'' : uh (sn3 v (oN P)) (oN P) 3 = m := by
    show sn3 v (oN P) 1 (1187 + 7 * oN P + 3).toNatClampNeg = _
    rw [← u3]
    show _ = v 1 (1187 + 7 * oN P + 3).toNatClampNeg
    rw [adH_3 (by omega), v3o _ (by omega)]
  have v4 : ∀ u, sn4 v (oN P) 1 u = if u = 13 then v 1 13 + m else sn3 v (oN P) 1 u := by
    intro u
    unfold sn4
    rw [u3'', inc1, v3o 13 (by omega)]
  have v4o : ∀ u, u ≠ 13 → u < 1129 ∨ 1169 ≤ u → sn4 v (oN P) 1 u = v 1 u := by
    intro u h13 hu
    rw [v4, if_neg h13, v3o u hu]
  have hCm : sn4 v (oN P) 1 3 + btF (uh (sn4 v (oN P)) (oN P) 5) 0 6 0 * sn4 v (oN P) 1 4 = C := by
    have e5 : uh (sn4 v (oN P)) (oN P) 5 = oN x := by
      show sn4 v (oN P) 1 (1187 + 7 * oN P + 5).toNatClampNeg = _
      rw [adH_5 (by omega), v4o _ (by omega) (by omega)]
      exact ((hh P hP).2 4 (by decide) (by omega)).trans hx
    have g2 : v 1 3 = w 1 2 := a1 2 (by decide)
    have g3 : v 1 4 = w 1 3 := a1 3 (by decide)
    rw [e5, v4o 3 (by omega) (by omega), v4o 4 (by omega) (by omega), ← bc_bt x hx64, g2, g3, hC]
  have v5 : ∀ u, sn5 v (oN P) 1 u = if u = 12 then w 8 6 + C else if u = 1187 + 7 * P + (5 + 1) then w 5 (P * 7 + 5) + C else sn4 v (oN P) 1 u := by
    intro u
    unfold sn5
    rw [hCm, pyM_at (by omega), v4o 12 (by omega) (by omega), v4o (1187 + 7 * P + 6) (by omega) (by omega), a12]
    have e6 : v 1 (1187 + 7 * P + 6) = w 5 (P * 7 + 5) := (hh P hP).2 5 (by decide) (by omega)
    rw [e6]
  have e55 : uh (sn5 v (oN P)) (oN P) 5 = oN x := by
    show sn5 v (oN P) 1 (1187 + 7 * oN P + 5).toNatClampNeg = _
    rw [adH_5 (by omega), v5, if_neg (by omega), if_neg (by omega), v4o _ (by omega) (by omega)]
    exact ((hh P hP).2 4 (by decide) (by omega)).trans hx
  have c6 : sn6 v (oN P) = tgF (oN x) 2 0 6 (sn5 v (oN P)) := by unfold sn6; rw [e55]
  -- both, step by step
  have r1 := rel_sp (s2 := sn1 v (oN P) 1) h hS hO (show s * 4 + 0 < 40 by omega) (by omega) v1
  have r2 := rel_lo (q := s) (m := m) r1 hS hO p2 (s2 := fun u => if u = 13 then sn1 v (oN P) 1 13 + m else if u = 1129 + (s * 4 + 3) then up2 w 3 (s * 4 + 0) (w 3 (s * 4 + 0) + -m) 3 (s * 4 + 3) + m else sn1 v (oN P) 1 u) (fun u => rfl)
  have e33 : up2 w 3 (s * 4 + 0) (w 3 (s * 4 + 0) + -m) 3 (s * 4 + 3) = w 3 (s * 4 + 3) := by rw [u2k, if_neg (by omega)]
  rw [e33] at r2
  have r3 := rel_sp (t := s * 4 + 1) (x := 0) r2 hS hO (by omega) (by omega) (s2 := fun u => if u = 1129 + (s * 4 + 1) then 0 else if u = 13 then sn1 v (oN P) 1 13 + m else if u = 1129 + (s * 4 + 3) then w 3 (s * 4 + 3) + m else sn1 v (oN P) 1 u) (fun u => rfl)
  rw [← wc] at r3
  have r4 := rel_h (q := P) (c0 := 5) (x := w 5 (P * 7 + 5) + C) r3 hS hO hP10 (by decide) (s2 := fun u => if u = 1187 + 7 * P + (5 + 1) then w 5 (P * 7 + 5) + C else if u = 1129 + (s * 4 + 1) then 0 else if u = 13 then sn1 v (oN P) 1 13 + m else if u = 1129 + (s * 4 + 3) then w 3 (s * 4 + 3) + m else sn1 v (oN P) 1 u) (fun u => rfl)
  have r5 := rel_co (x := w 8 6 + C) r4 hS hO (s2 := fun u => if u = 12 then w 8 6 + C else if u = 1187 + 7 * P + (5 + 1) then w 5 (P * 7 + 5) + C else if u = 1129 + (s * 4 + 1) then 0 else if u = 13 then sn1 v (oN P) 1 13 + m else if u = 1129 + (s * 4 + 3) then w 3 (s * 4 + 3) + m else sn1 v (oN P) 1 u) (fun u => rfl)
  have r6 := Rel_c (s2 := sn5 v (oN P) 1) r5 hO (fun u hu => by
    show _ = if u = 12 then w 8 6 + C else if u = 1187 + 7 * P + (5 + 1) then w 5 (P * 7 + 5) + C else if u = 1129 + (s * 4 + 1) then 0 else if u = 13 then sn1 v (oN P) 1 13 + m else if u = 1129 + (s * 4 + 3) then w 3 (s * 4 + 3) + m else sn1 v (oN P) 1 u
    rw [v5]
    by_cases g1 : u = 12
    · rw [if_pos g1, if_pos g1]
    rw [if_neg g1, if_neg g1]
    by_cases g2 : u = 1187 + 7 * P + (5 + 1)
    · rw [if_pos g2, if_pos g2]
    rw [if_neg g2, if_neg g2, v4, v3, v2, v1 13, if_neg (show ¬ 13 = 1129 + (s * 4 + 0) by omega)]
    by_cases g3 : u = 13
    · rw [if_pos g3, if_neg (show ¬ u = 1129 + (s * 4 + 1) by omega), if_pos g3]
    rw [if_neg g3, if_neg g3])
  generalize hW1 : up2 (up2 (snH1 w (oN P)) 5 (P * 7 + 5) (w 5 (P * 7 + 5) + C)) 8 6 (w 8 6 + C) = W1 at r6 wH
  have y5 : ∀ t, t ≠ P * 7 + 5 → W1 5 t = w 5 t := by
    intro t ht
    rw [← hW1, u2n (by decide), u2k, if_neg ht, w5]
  have y8 : ∀ t, t ≠ 6 → W1 8 t = w 8 t := by
    intro t ht
    rw [← hW1, u2k, if_neg ht, u2n (by decide), wc, u2n (by decide), u2n (by decide), u2n (by decide)]
  have yk : ∀ k : Fin 9, k ≠ 8 → k ≠ 5 → k ≠ 3 → W1 k = w k := by
    intro k h8 h5 h3
    rw [← hW1, up2_kn h8, up2_kn h5, wc, up2_kn h3, up2_kn h3, up2_kn h3]
  have y3 : ∀ t, t ≠ s * 4 + 0 → t ≠ s * 4 + 1 → t ≠ s * 4 + 3 → W1 3 t = w 3 t := by
    intro t t0 t1 t3
    rw [← hW1, u2n (by decide), u2n (by decide), wc, u2k, if_neg t1, u2k, if_neg t3, u2k, if_neg t0]
  have hI : Ivt W1 T K S N O E b P := by
    refine Ivt_c i (fun t ht => y8 t (by omega)) (by rw [y8 7 (by decide)]; exact h8.2.2.2.2.2.2) (fun r hr => y3 _ (by omega) (by omega) (by omega)) (fun r hr => ⟨by rw [yk 2 (by decide) (by decide) (by decide)], by rw [yk 2 (by decide) (by decide) (by decide)]⟩) (fun r hr => ⟨y5 _ (by omega), y5 _ (by omega), y5 _ (by omega), y5 _ (by omega)⟩) (fun r hr hr2 => ⟨by omega, y5 _ (by omega)⟩) (yk 4 (by decide) (by decide) (by decide)) (fun r _ _ => ⟨by rw [yk 2 (by decide) (by decide) (by decide)], by rw [yk 2 (by decide) (by decide) (by decide)]⟩) (fun r h1 h2 => ⟨y3 _ (by omega) (by omega) (by omega), y3 _ (by omega) (by omega) (by omega)⟩)
  obtain ⟨hA6, hw6, hk6, hs6, ht6, hh6, he6, hl6⟩ := id r6
  have hw5 : W1 5 (P * 7 + 4) = oN x := by rw [y5 _ (by omega), hx]
  have he' := end_rel (w := W1) (v := sn5 v (oN P)) (v2 := sn6 v (oN P)) (mis := oN x) (K := k) (S := s) (W := 2) (Sp := S) hP hO (by have := hB.2.1; omega) hs10 (by decide) hE hS (by rw [y5 _ (by omega)]; exact p4) (by rw [y5 _ (by omega)]; exact p5) (by rw [y8 _ (by decide)]; exact h8.2.2.2.2.2.1) (by rw [y8 _ (by decide)]; exact h8.2.2.2.2.1)
    hA6 hw6 hk6 hs6 hh6 he6 hl6 (fun t h1 _ => by rw [c6]; exact tgF_out (w := 2) (Or.inr rfl) h1) (by rw [c6]; exact tails_c hx64 hw5 ht6)
  rw [wH]
  exact ⟨⟨smP, by rw [u2]; exact sm_oN (by omega) (by decide), he'.1⟩, he'.2, end_ivt hI hP (by decide)⟩

