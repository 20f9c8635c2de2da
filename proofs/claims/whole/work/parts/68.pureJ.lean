/-! PURE: an hour of a hire, whole -/
theorem Ivt_b {w : HV} {T K S N O E b b2 P : Nat} (h : Ivt w T K S N O E b P) (hb : b ≤ b2) : Ivt w T K S N O E b2 P := by
  obtain ⟨⟨a0, a1, a2, a3, a4, a5, a7⟩, r⟩ := h
  exact ⟨⟨a0, a1, a2, a3, a4, a5, sm_mono a7 hb⟩, r⟩
theorem HrOK_b {w2 : HV} {s2 : Nat → Int32} {e : Bool} {T K S N O E b b2 : Nat} (h : HrOK w2 s2 e T K S N O E b) (hb : b ≤ b2) : HrOK w2 s2 e T K S N O E b2 := by
  unfold HrOK at h ⊢
  split at h
  · rename_i he
    rw [if_pos he]
    exact ⟨h.1, Ivt_b h.2 hb⟩
  · rename_i he
    rw [if_neg he]
    exact ⟨h.1, Ivt_b h.2 hb⟩
theorem tcH_n {w : HV} {P : Nat} {c : Int32} (hP : P < 10) : tcH w (oN P) c = up2 (up2 w 5 (P * 7 + 5) (w 5 (P * 7 + 5) + c)) 8 6 (w 8 6 + c) := by
  unfold tcH
  rw [pahr_5 hP]
theorem pay_ok {w v : HV} {T K S N O E b P : Nat} (c : Int32) (h : Rel w (v 1) S O E 100) (i : Ivt w T K S N O E b 100) (hP : P < O) : Rel (tcH w (oN P) c) (pyM v (oN P) c 1) S O E 100 ∧ Ivt (tcH w (oN P) c) T K S N O E b 100 := by
  obtain ⟨hO, hE, hS⟩ := Ivt_O i
  have hP10 : P < 10 := by omega
  obtain ⟨⟨a0, a1, a6, a7, a8, a9, a12, a14, a16⟩, hwi, hk, hs, hTl, hh, he, hL⟩ := id h
  rw [tcH_n hP10]
  constructor
  · have r4 := rel_h (q := P) (c0 := 5) (x := w 5 (P * 7 + 5) + c) h hS hO hP10 (by decide) (s2 := fun u => if u = 1187 + 7 * P + (5 + 1) then w 5 (P * 7 + 5) + c else v 1 u) (fun u => rfl)
    have r5 := rel_co (x := w 8 6 + c) r4 hS hO (s2 := fun u => if u = 12 then w 8 6 + c else if u = 1187 + 7 * P + (5 + 1) then w 5 (P * 7 + 5) + c else v 1 u) (fun u => rfl)
    refine Rel_c r5 hO (fun u hu => ?_)
    have e6 : v 1 (1187 + 7 * P + 6) = w 5 (P * 7 + 5) := (hh P hP).2 5 (by decide) (by omega)
    rw [pyM_at (by omega), a12, e6]
  · refine Ivt_c i (fun t ht => by rw [u2k, if_neg (by omega), u2n (by decide)]) (by rw [u2k, if_neg (by decide), u2n (by decide)]; exact i.1.2.2.2.2.2.2) (fun r hr => by rw [u2n (by decide), u2n (by decide)]) (fun r hr => ⟨by rw [u2n (by decide), u2n (by decide)], by rw [u2n (by decide), u2n (by decide)]⟩) (fun r hr => ⟨by rw [u2n (by decide), u2k, if_neg (by omega)], by rw [u2n (by decide), u2k, if_neg (by omega)], by rw [u2n (by decide), u2k, if_neg (by omega)], by rw [u2n (by decide), u2k, if_neg (by omega)]⟩) (fun r hr hr2 => ⟨by omega, by rw [u2n (by decide), u2k, if_neg (by omega)]⟩) (by rw [up2_kn (by decide), up2_kn (by decide)]) (fun r _ _ => ⟨by rw [u2n (by decide), u2n (by decide)], by rw [u2n (by decide), u2n (by decide)]⟩) (fun r _ _ => ⟨by rw [u2n (by decide), u2n (by decide)], by rw [u2n (by decide), u2n (by decide)]⟩)
/-- an end whose tails come in again -/
theorem end0_ok {w v : HV} {T K S N O E b P W : Nat} (h : Rel w (v 1) S O E 100) (i : Ivt w T K S N O E b 100) (hP : P < O) (hW : W < 3) : enP (tgF (uh v (oN P) 5) 0 0 6 v) (oN P) (oN W) ∧ Rel (enH w (oN P) (oN W) 0) (enM (tgF (uh v (oN P) 5) 0 0 6 v) (oN P) (oN W) 1) S (O - 1) (E + 1) 100 ∧ Ivt (enH w (oN P) (oN W) 0) T K S N (O - 1) (E + 1) b 100 := by
  obtain ⟨hO, hE, hS⟩ := Ivt_O i
  obtain ⟨h8, hB, hc, hH, hD, hN, hT, hZ⟩ := id i
  obtain ⟨k, s, n, p1, p2, p3, p4, p5, p6, p7, p8, p9, pA, pB⟩ := hH P hP
  obtain ⟨hA, hwi, hk, hs, hTl, hh, he, hL⟩ := id h
  have hx := sm_eq pA
  have hx64 : (w 5 (P * 7 + 4)).toNatClampNeg < 64 := by have := pA.2; omega
  generalize (w 5 (P * 7 + 4)).toNatClampNeg = x at hx hx64
  have e5 : uh v (oN P) 5 = oN x := by
    show v 1 (1187 + 7 * oN P + 5).toNatClampNeg = _
    rw [adH_5 (by omega)]
    exact ((hh P hP).2 4 (by decide) (by omega)).trans hx
  rw [e5]
  have he' := end_rel (w := w) (v := v) (v2 := tgF (oN x) 0 0 6 v) (mis := 0) (K := k) (S := s) (W := W) (Sp := S) hP hO (by have := hB.2.1; omega) (by omega) hW hE hS p4 p5 h8.2.2.2.2.2.1 h8.2.2.2.2.1
      hA hwi hk hs hh he hL (fun t h1 _ => tgF_out (w := 0) (Or.inl rfl) h1) (tails_a hx64 hx hTl)
  exact ⟨he'.1, he'.2, end_ivt (Ivt_c i (P2 := P) (fun t _ => rfl) h8.2.2.2.2.2.2 (fun _ _ => rfl) (fun _ _ => ⟨rfl, rfl⟩) (fun _ _ => ⟨rfl, rfl, rfl, rfl⟩) (fun r hr _ => ⟨by omega, rfl⟩) rfl (fun _ _ _ => ⟨rfl, rfl⟩) (fun _ _ _ => ⟨rfl, rfl⟩)) hP hW⟩
theorem hour_ok {w v : HV} {T K S N O E b P : Nat} (h : Rel w (v 1) S O E 100) (i : Ivt w T K S N O E b 100) (hP : P < O) (hT : T < 1000) (hb : b ≤ 1000000) : hoP v (oN P) ∧ HrOK (phH w (oN P)) ((hoM v (oN P)).2 1) (hoM v (oN P)).1 T K S N O E (b + 1) := by
  obtain ⟨hO, hE, hS⟩ := Ivt_O i
  have hP10 : P < 10 := by omega
  obtain ⟨h8, hB, hc, hH, hD, hN, hTl0, hZ⟩ := id i
  obtain ⟨k, s, n, p1, p2, p3, p4, p5, p6, p7, p8, p9, pA, pB⟩ := hH P hP
  obtain ⟨⟨a0, a1, a6, a7, a8, a9, a12, a14, a16⟩, hwi, hk, hs, hTl, hh, he, hL⟩ := id h
  have hk16 : k < 16 := by have := hB.2.1; omega
  have hs10 : s < 10 := by omega
  have smP : sm (oN P) 9 := sm_oN (by omega) (by decide)
  have u1 : uh v (oN P) 1 = oN k := by
    show v 1 (1187 + 7 * oN P + 1).toNatClampNeg = _
    rw [adH_1 (by omega)]
    exact ((hh P hP).2 0 (by decide) (by omega)).trans p4
  have u2 : uh v (oN P) 2 = oN s := by
    show v 1 (1187 + 7 * oN P + 2).toNatClampNeg = _
    rw [adH_2 (by omega)]
    exact ((hh P hP).2 1 (by decide) (by omega)).trans p5
  have u4 : uh v (oN P) 4 = w 5 (P * 7 + 3) := by
    show v 1 (1187 + 7 * oN P + 4).toNatClampNeg = _
    rw [adH_4 (by omega)]
    exact (hh P hP).2 3 (by decide) (by omega)
  have uK : ∀ c, c < 7 → v 1 (1017 + 7 * k + c) = w 2 (k * 8 + c) := fun c hc => hk k hk16 c hc
  have k1 : uk v (oN k) 1 = w 2 (k * 8 + 1) := by show v 1 (1017 + 7 * oN k + 1).toNatClampNeg = _; rw [adK_1 (by omega), uK 1 (by decide)]
  have k2 : uk v (oN k) 2 = w 2 (k * 8 + 2) := by show v 1 (1017 + 7 * oN k + 2).toNatClampNeg = _; rw [adK_2 (by omega), uK 2 (by decide)]
  have k3 : uk v (oN k) 3 = w 2 (k * 8 + 3) := by show v 1 (1017 + 7 * oN k + 3).toNatClampNeg = _; rw [adK_3 (by omega), uK 3 (by decide)]
  have k4 : uk v (oN k) 4 = w 2 (k * 8 + 4) := by show v 1 (1017 + 7 * oN k + 4).toNatClampNeg = _; rw [adK_4 (by omega), uK 4 (by decide)]
  have e0 : v 1 0 = oN T := a0.trans h8.1
  have wd : wdM v = w 0 T := by
    show v 1 (17 + v 1 0).toNatClampNeg = _
    rw [e0, adW (by omega), hwi T hT]
  have wA : windAt w (oN T) = w 0 T := wi_n hT
  have g1 : v 1 1 = w 1 0 := a1 0 (by decide)
  have g2 : v 1 2 = w 1 1 := a1 1 (by decide)
  have hlt : oN T < 1000 := by show oN T < oN 1000; rw [oN_lt (by omega) (by decide)]; exact hT
  have cW : tooWP w (oN k) (oN T) ↔ (w 2 (k * 8 + 2) < w 0 T ∨ ¬ w 0 T < w 1 0) := by
    unfold tooWP
    rw [kt_2 hk16, wA, se_0]
    exact ⟨fun q => q.2, fun q => ⟨hlt, q⟩⟩
  have cC : tooCP w (oN k) (oN T) ↔ w 0 T < w 2 (k * 8 + 1) := by
    unfold tooCP
    rw [kt_1 hk16, wA]
    exact ⟨fun q => q.2, fun q => ⟨hlt, q⟩⟩
  have mW : tmP v (oN k) (w 0 T) ↔ (w 2 (k * 8 + 2) < w 0 T ∨ ¬ w 0 T < w 1 0) := by
    unfold tmP
    rw [k2, g1]
  have mF : flP v (oN k) (w 0 T) ↔ ¬ (w 2 (k * 8 + 2) < w 0 T ∨ ¬ w 0 T < w 1 0) ∧ ¬ w 0 T < w 2 (k * 8 + 1) := by
    unfold flP
    rw [mW, k1]
  have sm0 : sm (v 1 0) 999 := by rw [e0]; exact sm_oN (by omega) (by decide)
  have sk : sm (oN k) 15 := sm_oN (by omega) (by decide)
  have ss : sm (oN s) 9 := sm_oN (by omega) (by decide)
  unfold hoP hoM phH
  rw [u1, wd, u2, hr_0 hP10, p4, h8.1, hr_1 hP10, p5, hr_3 hP10, kt_4 hk16]
  by_cases cA : w 2 (k * 8 + 2) < w 0 T ∨ ¬ w 0 T < w 1 0
  · obtain ⟨q1, q2⟩ := pay_ok (P := P) (-(w 2 (k * 8 + 4) * w 5 (P * 7 + 3))) h i hP
    have hc1' : hc1 v (oN P) = pyM v (oN P) (-(w 2 (k * 8 + 4) * w 5 (P * 7 + 3))) := by
      unfold hc1
      rw [u1, k4, u4, Int32.neg_mul]
    obtain ⟨z1, z2, z3⟩ := end0_ok (W := 1) q1 q2 hP (by decide)
    have hc2' : hc2 v (oN P) = tgF (uh (pyM v (oN P) (-(w 2 (k * 8 + 4) * w 5 (P * 7 + 3)))) (oN P) 5) 0 0 6 (pyM v (oN P) (-(w 2 (k * 8 + 4) * w 5 (P * 7 + 3)))) := by
      unfold hc2
      rw [hc1']
    rw [if_pos (mW.mpr cA), if_pos (cW.mpr cA), hc2']
    refine ⟨⟨sm0, smP, sk, ss, fun _ => z1, fun q => absurd (mW.mpr cA) q, fun q => absurd (mW.mpr cA) q, fun q => absurd (mW.mpr cA) q⟩, ?_⟩
    unfold HrOK
    rw [if_pos rfl]
    exact ⟨z2, Ivt_b z3 (by omega)⟩
  have nM : ¬ tmP v (oN k) (w 0 T) := fun q => cA (mW.mp q)
  rw [if_neg nM, if_neg (fun q => cA (cW.mp q))]
  by_cases cB : w 0 T < w 2 (k * 8 + 1)
  · obtain ⟨q1, q2⟩ := pay_ok (P := P) (-(w 2 (k * 8 + 4))) h i hP
    have hg' : hg1 v (oN P) = pyM v (oN P) (-(w 2 (k * 8 + 4))) := by
      unfold hg1
      rw [u1, k4]
    have nF : ¬ flP v (oN k) (w 0 T) := fun q => (mF.mp q).2 cB
    obtain ⟨z1, z2⟩ := fi_ok q1 q2 hP
    rw [if_neg nF, if_pos (cC.mpr cB), hg']
    exact ⟨⟨sm0, smP, sk, ss, fun q => absurd q nM, fun _ q => absurd q nF, fun _ q => absurd q nF, fun _ _ => z1⟩, HrOK_b z2 (by omega)⟩
  have pF : flP v (oN k) (w 0 T) := mF.mpr ⟨cA, cB⟩
  rw [if_pos pF, if_neg (fun q => cB (cC.mp q)), se_1]
  -- it flies
  have wr : wrW w (oN P) = up2 (up2 (up2 w 2 (k * 8 + 5) (w 2 (k * 8 + 5) + 1)) 8 7 (w 8 7 + 1)) 3 (s * 4 + 1) (w 3 (s * 4 + 1) + w 0 T * w 2 (k * 8 + 3)) := by
    unfold wrW
    rw [hr_0 hP10, p4, hr_1 hP10, p5, pakt_5 hk16, h8.1, wA, kt_3 hk16, u2k, if_neg (by omega), pasl_1 hs10, u2n (by decide), u2n (by decide)]
  have f1 : ∀ u, hf1 v (oN P) 1 u = if u = 1129 + (s * 4 + 1) then w 3 (s * 4 + 1) + w 0 T * w 2 (k * 8 + 3) else v 1 u := by
    intro u
    unfold hf1
    rw [u2, wd, u1, k3, adS_1 (by omega), inc1, show 1129 + 4 * s + 1 = 1129 + (s * 4 + 1) by omega, hs _ (by omega)]
  have f2 : ∀ u, hf2 v (oN P) 1 u = if u = 1017 + 7 * k + 5 then w 2 (k * 8 + 5) + 1 else hf1 v (oN P) 1 u := by
    intro u
    unfold hf2
    rw [u1, adK_5 (by omega), inc1, f1 (1017 + 7 * k + 5), if_neg (show ¬ 1017 + 7 * k + 5 = 1129 + (s * 4 + 1) by omega), uK 5 (by decide)]
  have f3 : ∀ u, hf3 v (oN P) 1 u = if u = 14 then w 8 7 + 1 else hf2 v (oN P) 1 u := by
    intro u
    unfold hf3
    rw [inc1, f2 14, if_neg (show ¬ 14 = 1017 + 7 * k + 5 by omega), f1 14, if_neg (show ¬ 14 = 1129 + (s * 4 + 1) by omega), a14]
  have r1 := rel_k (k := k) (c0 := 5) (x := w 2 (k * 8 + 5) + 1) h hS hO hk16 (by decide) (s2 := fun u => if u = 1017 + 7 * k + 5 then w 2 (k * 8 + 5) + 1 else v 1 u) (fun u => rfl)
  have r2 := rel_fl (x := w 8 7 + 1) r1 hS hO (s2 := fun u => if u = 14 then w 8 7 + 1 else if u = 1017 + 7 * k + 5 then w 2 (k * 8 + 5) + 1 else v 1 u) (fun u => rfl)
  have r3 := rel_sp (t := s * 4 + 1) (x := w 3 (s * 4 + 1) + w 0 T * w 2 (k * 8 + 3)) r2 hS hO (by omega) (by omega) (s2 := fun u => if u = 1129 + (s * 4 + 1) then w 3 (s * 4 + 1) + w 0 T * w 2 (k * 8 + 3) else if u = 14 then w 8 7 + 1 else if u = 1017 + 7 * k + 5 then w 2 (k * 8 + 5) + 1 else v 1 u) (fun u => rfl)
  have r4 := Rel_c (s2 := hf3 v (oN P) 1) r3 hO (fun u hu => by
    show _ = if u = 1129 + (s * 4 + 1) then w 3 (s * 4 + 1) + w 0 T * w 2 (k * 8 + 3) else if u = 14 then w 8 7 + 1 else if u = 1017 + 7 * k + 5 then w 2 (k * 8 + 5) + 1 else v 1 u
    rw [f3, f2, f1]
    by_cases z1 : u = 14
    · rw [if_pos z1, if_neg (show ¬ u = 1129 + (s * 4 + 1) by omega), if_pos z1]
    rw [if_neg z1, if_neg z1]
    by_cases z2 : u = 1017 + 7 * k + 5
    · rw [if_pos z2, if_neg (show ¬ u = 1129 + (s * 4 + 1) by omega), if_pos z2]
    rw [if_neg z2, if_neg z2])
  have hI : Ivt (wrW w (oN P)) T K S N O E (b + 1) 100 := by
    have h7 : sm (w 8 7 + 1) (b + 1) := by
      have := h8.2.2.2.2.2.2
      have h2 := this.2
      rw [sm_eq this, oN_succ]
      exact sm_oN (by omega) (by omega)
    rw [wr]
    refine Ivt_c i (fun t ht => by rw [u2n (by decide), u2k, if_neg (by omega), u2n (by decide)]) (by rw [u2n (by decide), u2k, if_pos rfl]; exact h7) (fun r hr => by rw [u2k, if_neg (by omega), u2n (by decide), u2n (by decide)]) (fun r hr => ⟨by rw [u2n (by decide), u2n (by decide), u2k, if_neg (by omega)], by rw [u2n (by decide), u2n (by decide), u2k, if_neg (by omega)]⟩) (fun r hr => ⟨by rw [u2n (by decide), u2n (by decide), u2n (by decide)], by rw [u2n (by decide), u2n (by decide), u2n (by decide)], by rw [u2n (by decide), u2n (by decide), u2n (by decide)], by rw [u2n (by decide), u2n (by decide), u2n (by decide)]⟩) (fun r hr hr2 => ⟨by omega, by rw [u2n (by decide), u2n (by decide), u2n (by decide)]⟩) (by rw [up2_kn (by decide), up2_kn (by decide), up2_kn (by decide)]) (fun r h1 h2 => ⟨by rw [u2n (by decide), u2n (by decide), u2k, if_neg (by omega)], by rw [u2n (by decide), u2n (by decide), u2k, if_neg (by omega)]⟩) (fun r h1 h2 => ⟨by rw [u2k, if_neg (by omega), u2n (by decide), u2n (by decide)], by rw [u2k, if_neg (by omega), u2n (by decide), u2n (by decide)]⟩)
  rw [← wr] at r4
  have c1 : sl (wrW w (oN P)) (oN s) 1 = w 3 (s * 4 + 1) + w 0 T * w 2 (k * 8 + 3) := by rw [sl_1 hs10, wr, u2k, if_pos rfl]
  have c2 : hf3 v (oN P) 1 (1129 + 4 * oN s + 1).toNatClampNeg = w 3 (s * 4 + 1) + w 0 T * w 2 (k * 8 + 3) := by rw [adS_1 (by omega), f3, if_neg (by omega), f2, if_neg (by omega), f1, if_pos (by omega)]
  have c3 : hf3 v (oN P) 1 2 = w 1 1 := by rw [f3, if_neg (by omega), f2, if_neg (by omega), f1, if_neg (by omega), g2]
  rw [c1, c2, c3]
  by_cases cZ : w 3 (s * 4 + 1) + w 0 T * w 2 (k * 8 + 3) < w 1 1
  · obtain ⟨z1, z2⟩ := fi_ok r4 hI hP
    rw [if_pos cZ, if_neg (fun q => q cZ)]
    exact ⟨⟨sm0, smP, sk, ss, fun q => absurd q nM, fun _ _ _ => z1, fun _ _ q => absurd cZ q, fun _ q => absurd pF q⟩, z2⟩
  · obtain ⟨z1, z2, z3⟩ := sn_ok r4 hI hP
    rw [if_neg cZ, if_pos cZ]
    refine ⟨⟨sm0, smP, sk, ss, fun q => absurd q nM, fun _ _ q => absurd q cZ, fun _ _ _ => z1, fun _ q => absurd pF q⟩, ?_⟩
    unfold HrOK
    rw [if_pos rfl]
    exact ⟨z2, z3⟩

