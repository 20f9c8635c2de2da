/-! PURE: an hour of a hire, whole; hours pass -/
theorem J_b {w : HV} {cf : Nat → Int32} {T K S N O E b b2 : Nat} (h : J w cf T K S N O E b) (hb : b ≤ b2) : J w cf T K S N O E b2 := ⟨Ivt_b h.1 hb, h.2⟩
theorem Ivt_q {w : HV} {T K S N O E b P : Nat} (h : Ivt w T K S N O E b 100) : Ivt w T K S N O E b P := by
  obtain ⟨hO, hE, hS⟩ := Ivt_O h
  obtain ⟨h8, hB, hc, hH, hD, hN, hT, hZ⟩ := h
  refine ⟨h8, hB, hc, fun r hr => ?_, hD, hN, hT, hZ⟩
  obtain ⟨k, s, n, p1, p2, p3, p4, p5, p6, p7, p8, p9, pA, pB⟩ := hH r hr
  exact ⟨k, s, n, p1, p2, p3, p4, p5, p6, p7, p8, p9, pA, fun _ => pB (by omega)⟩
set_option maxHeartbeats 1000000 in
theorem hour_J {w : HV} {cf : Nat → Int32} {T K S N O E b P : Nat} (h : J w cf T K S N O E b) (hP : P < O) (hT : T < 1000) (hb : b ≤ 1000000) : (J (phH w (oN P)) cf T K S N (O - 1) (E + 1) (b + 1) ∧ phH w (oN P) 8 5 = oN (E + 1)) ∨ (J (phH w (oN P)) cf T K S N O E (b + 1) ∧ phH w (oN P) 8 5 = oN E) := by
  obtain ⟨i, x, xT, xM⟩ := h
  obtain ⟨hO, hE, hS⟩ := Ivt_O i
  have hP10 : P < 10 := by omega
  obtain ⟨h8, hB, hc, hH, hD, hN, hTl0, hZ⟩ := id i
  have hK : K ≤ 16 := hB.2.1
  obtain ⟨k, s, n, p1, p2, p3, p4, p5, p6, p7, p8, p9, pA, pB⟩ := hH P hP
  obtain ⟨l0, l1, l2, l3⟩ := pB (by omega)
  obtain ⟨l, rfl⟩ : ∃ l, l0 = l + 1 := ⟨l0 - 1, by omega⟩
  obtain ⟨k', s', m, M, p, l', q, g1, g2, g3, g4, g5, g6, g7, g8, g9, gA, gB, gC, gD, gE⟩ := x.2.2.2.2.2.1 P hP (by omega)
  have ek : k' = k := oN_inj (by omega) (by omega) (g3.symm.trans p4)
  have es : s' = s := oN_inj (by omega) (by omega) (g4.symm.trans p5)
  subst ek
  subst es
  have hl' : l' < 2 ^ 31 := by
    rcases Nat.lt_or_ge p 1 with h | h
    · have : p = 0 := by omega
      subst this
      obtain ⟨-, -, ⟨p', h1, h2, h3⟩, -⟩ := x.2.2.1 k' p1
      have := oN_inj (by omega) (by omega) (g7.symm.trans h3)
      omega
    · have := Nat.mul_le_mul_right l' h
      omega
  have el : l' = l + 1 := oN_inj hl' (by omega) (g8.symm.trans l3)
  subst el
  have hpl : p * l + p ≤ q := by rw [Nat.mul_succ] at gD; exact gD
  have wA : windAt w (oN T) = w 0 T := wi_n hT
  unfold phH
  rw [hr_0 hP10, p4, h8.1, hr_1 hP10, p5, hr_3 hP10, kt_4 g1]
  by_cases cA : tooWP w (oN k') (oN T)
  · rw [if_pos cA, tcH_eq hP10]
    left
    have z := J_end (W := 1) (mis := 0) (P := P) (Ivt_q (Ivt_pay (x := w 5 (P * 7 + 5) + -(w 2 (k' * 8 + 4) * w 5 (P * 7 + 3))) (y := w 8 6 + -(w 2 (k' * 8 + 4) * w 5 (P * 7 + 3))) i hP)) (JX_pay (P := P) x hK) (jT_e (fun c _ => by simp only [u2n (show (4 : Fin 9) ≠ 8 by decide), u2n (show (4 : Fin 9) ≠ 5 by decide)]) xT) (jM_e (fun s _ => ⟨by rw [u2n (by decide), u2n (by decide)], by rw [u2n (by decide), u2n (by decide)]⟩) xM) hP (by decide)
    exact ⟨J_b z.1 (by omega), z.2⟩
  rw [if_neg cA]
  by_cases cB : tooCP w (oN k') (oN T)
  · rw [if_pos cB, tcH_eq hP10]
    have z := fi_J (l := l) (Ivt_pay (x := w 5 (P * 7 + 5) + -(w 2 (k' * 8 + 4))) (y := w 8 6 + -(w 2 (k' * 8 + 4))) i hP) (JX_pay (P := P) x hK) (jT_e (fun c _ => by simp only [u2n (show (4 : Fin 9) ≠ 8 by decide), u2n (show (4 : Fin 9) ≠ 5 by decide)]) xT) (jM_e (fun s _ => ⟨by rw [u2n (by decide), u2n (by decide)], by rw [u2n (by decide), u2n (by decide)]⟩) xM) hP (by omega) (by rw [u2n (by decide), u2k, if_neg (by omega), l3]) (fun hl => by
      refine ⟨k', s', m, M, p, l, q - p, g1, g2, ?_, ?_, ?_, ?_, ?_, ?_, ?_, gA, gB, gC, by omega, by omega⟩
      · rw [u2k, if_neg (by omega), u2n (by decide), u2k, if_neg (by omega)]; exact g3
      · rw [u2k, if_neg (by omega), u2n (by decide), u2k, if_neg (by omega)]; exact g4
      · rw [u2k, if_neg (by omega), u2n (by decide), u2k, if_neg (by omega)]; exact g5
      · rw [u2n (by decide), u2n (by decide), u2n (by decide)]; exact g6
      · rw [u2n (by decide), u2n (by decide), u2n (by decide)]; exact g7
      · rw [u2k, if_pos rfl]
      · rw [u2k, if_neg (by omega), u2n (by decide), u2k, if_pos rfl, g9, g7, ← Int32.sub_eq_add_neg, oN_sub (by omega)])
    rcases z with ⟨z1, z2⟩ | ⟨z1, z2⟩
    · exact Or.inl ⟨J_b z1 (by omega), z2⟩
    · exact Or.inr ⟨J_b z1 (by omega), z2⟩
  rw [if_neg cB]
  have wr : wrW w (oN P) = up2 (up2 (up2 w 2 (k' * 8 + 5) (w 2 (k' * 8 + 5) + 1)) 8 7 (w 8 7 + 1)) 3 (s' * 4 + 1) (w 3 (s' * 4 + 1) + w 0 T * w 2 (k' * 8 + 3)) := by
    unfold wrW
    rw [hr_0 hP10, p4, hr_1 hP10, p5, pakt_5 g1, h8.1, wA, kt_3 g1, u2k, if_neg (by omega), pasl_1 g2, u2n (by decide), u2n (by decide)]
  -- the wear
  obtain ⟨sW, sL⟩ := x.2.2.2.2.1 s' p2
  have sD := x.2.1 T hT
  have sU := (x.2.2.1 k' p1).2.2.2
  have ew : w 3 (s' * 4 + 1) + w 0 T * w 2 (k' * 8 + 3) = oN ((w 3 (s' * 4 + 1)).toNatClampNeg + (w 0 T).toNatClampNeg * (w 2 (k' * 8 + 3)).toNatClampNeg) := by
    rw [← oN_add, ← oN_mul, ← sm_eq sL, ← sm_eq sD, ← sm_eq sU]
  have hwr : (w 3 (s' * 4 + 1)).toNatClampNeg + (w 0 T).toNatClampNeg * (w 2 (k' * 8 + 3)).toNatClampNeg ≤ 998 + 108 := by
    have := Nat.mul_le_mul sD.2 sU.2
    have := sL.2
    omega
  generalize (w 3 (s' * 4 + 1)).toNatClampNeg + (w 0 T).toNatClampNeg * (w 2 (k' * 8 + 3)).toNatClampNeg = y at ew hwr
  rw [ew] at wr
  have h7 : sm (w 8 7 + 1) (b + 1) := by
    have := h8.2.2.2.2.2.2
    have h2 := this.2
    rw [sm_eq this, oN_succ]
    exact sm_oN (by omega) (by omega)
  have v0 : wrW w (oN P) 0 = w 0 := by rw [wr, up2_kn (by decide), up2_kn (by decide), up2_kn (by decide)]
  have v1 : wrW w (oN P) 1 = w 1 := by rw [wr, up2_kn (by decide), up2_kn (by decide), up2_kn (by decide)]
  have v2 : ∀ t, t ≠ k' * 8 + 5 → wrW w (oN P) 2 t = w 2 t := fun t ht => by rw [wr, u2n (by decide), u2n (by decide), u2k, if_neg ht]
  have v3 : ∀ t, t ≠ s' * 4 + 1 → wrW w (oN P) 3 t = w 3 t := fun t ht => by rw [wr, u2k, if_neg ht, u2n (by decide), u2n (by decide)]
  have v31 : wrW w (oN P) 3 (s' * 4 + 1) = oN y := by rw [wr, u2k, if_pos rfl]
  have v4 : wrW w (oN P) 4 = w 4 := by rw [wr, up2_kn (by decide), up2_kn (by decide), up2_kn (by decide)]
  have v5 : wrW w (oN P) 5 = w 5 := by rw [wr, up2_kn (by decide), up2_kn (by decide), up2_kn (by decide)]
  have v7 : wrW w (oN P) 7 = w 7 := by rw [wr, up2_kn (by decide), up2_kn (by decide), up2_kn (by decide)]
  have v8 : ∀ t, t ≠ 7 → wrW w (oN P) 8 t = w 8 t := fun t ht => by rw [wr, u2n (by decide), u2k, if_neg ht, u2n (by decide)]
  have v87 : wrW w (oN P) 8 7 = w 8 7 + 1 := by rw [wr, u2n (by decide), u2k, if_pos rfl]
  have c1 : sl (wrW w (oN P)) (oN s') 1 = oN y := by rw [sl_1 g2, v31]
  rw [c1, se_1]
  generalize wrW w (oN P) = v at v0 v1 v2 v3 v31 v4 v5 v7 v8 v87 ⊢
  have hI : Ivt v T K S N O E (b + 1) 100 := by
    refine Ivt_c i (fun t ht => v8 t (by omega)) (by rw [v87]; exact h7) (fun r hr => v3 _ (by omega)) (fun r hr => ⟨v2 _ (by omega), v2 _ (by omega)⟩) (fun r hr => ⟨by rw [v5], by rw [v5], by rw [v5], by rw [v5]⟩) (fun r hr hr2 => ⟨by omega, by rw [v5]⟩) v4 (fun r h1 h2 => ⟨v2 _ (by omega), v2 _ (by omega)⟩) (fun r h1 h2 => ⟨v3 _ (by omega), v3 _ (by omega)⟩)
  have hT2 : jT v cf := jT_e (fun c _ => by rw [v4]) xT
  have hM2 : jM v S cf := jM_e (fun s _ => ⟨v3 _ (by omega), v3 _ (by omega)⟩) xM
  have hk2 : ∀ k, k < 16 → v 2 (k * 8 + 0) = w 2 (k * 8 + 0) ∧ v 2 (k * 8 + 7) = w 2 (k * 8 + 7) ∧ v 2 (k * 8 + 4) = w 2 (k * 8 + 4) ∧ v 2 (k * 8 + 3) = w 2 (k * 8 + 3) := fun k _ => ⟨v2 _ (by omega), v2 _ (by omega), v2 _ (by omega), v2 _ (by omega)⟩
  by_cases cZ : oN y < w 1 1
  · rw [if_neg (fun q => q cZ)]
    have hy : y ≤ 998 := by
      have h1 := x.1.2.1
      have h2 := h1.2
      rw [sm_eq h1, oN_lt (by omega) (by omega)] at cZ
      omega
    have hX : JX v K S O E 100 := by
      refine JX_u x hK v0 v1 hk2 v7 ?_ ?_
      · intro q hq
        by_cases e : q = s'
        · subst e
          rw [v31, v3 _ (by omega)]
          exact ⟨sW, sm_oN hy (by decide)⟩
        · rw [v3 _ (by omega), v3 _ (by omega)]
          exact x.2.2.2.2.1 q hq
      · intro r hr hr2
        exact jR_c (r := r) (fun c _ => by rw [v5]) (fun q _ _ => v3 _ (by omega)) (fun k hk => (hk2 k hk).2.2.1) (x.2.2.2.2.2.1 r hr hr2)
    refine fi_J (l := l) hI ⟨hX.1, hX.2.1, hX.2.2.1, hX.2.2.2.1, hX.2.2.2.2.1, fun r hr _ => hX.2.2.2.2.2.1 r hr (by omega), hX.2.2.2.2.2.2⟩ hT2 hM2 hP (by omega) (by rw [v5]; exact l3) (fun hl => ?_)
    refine ⟨k', s', m, M, p, l, q, g1, g2, ?_, ?_, ?_, ?_, ?_, ?_, ?_, gA, gB, gC, by omega, by omega⟩
    · rw [u2k, if_neg (by omega), v5]; exact g3
    · rw [u2k, if_neg (by omega), v5]; exact g4
    · rw [u2k, if_neg (by omega), v5]; exact g5
    · rw [u2n (by decide), v3 _ (by omega)]; exact g6
    · rw [u2n (by decide), v2 _ (by omega)]; exact g7
    · rw [u2k, if_pos rfl]
    · rw [u2k, if_neg (by omega), v5]; exact g9
  · rw [if_pos cZ]
    left
    exact sn_J (w := w) hI x hT2 hM2 hP p2 (by rw [v5]; exact p5) (by rw [v5]; exact g5) (by rw [v3 _ (by omega)]; exact g6) gA gB v0 v1 hk2 v3 v5 v7
theorem pss_J {cf : Nat → Int32} {T K S N : Nat} (hT : T < 1000) : ∀ (m r : Nat) (w : HV) (O E b : Nat), J w cf T K S N O E b → r + m = O → b + m ≤ 1000000 → ∃ O2 E2, E ≤ E2 ∧ J (psF w r m) cf T K S N O2 E2 (b + m) := by
  intro m
  induction m with
  | zero => intro r w O E b h _ _; exact ⟨O, E, Nat.le_refl _, h⟩
  | succ m ih =>
    intro r w O E b h hr hb
    have e85 : w 8 5 = oN E := h.1.1.2.2.2.2.2.1
    obtain ⟨hO, hE, hS⟩ := Ivt_O h.1
    rcases hour_J (P := r) h (by omega) hT (by omega) with ⟨z1, z2⟩ | ⟨z1, z2⟩
    · have hne : ¬ phH w (oN r) 8 5 = w 8 5 := by
        rw [z2, e85]
        intro q
        have := oN_inj (by omega) (by omega) q
        omega
      obtain ⟨O2, E2, yE, y⟩ := ih r (phH w (oN r)) (O - 1) (E + 1) (b + 1) z1 (by omega) (by omega)
      refine ⟨O2, E2, by omega, ?_⟩
      have eF : psF w r (m + 1) = psF (phH w (oN r)) r m := by
        show psF (phH w (oN r)) (if phH w (oN r) 8 5 = w 8 5 then r + 1 else r) m = _
        rw [if_neg hne]
      rw [eF]
      exact J_b y (by omega)
    · obtain ⟨O2, E2, yE, y⟩ := ih (r + 1) (phH w (oN r)) O E (b + 1) z1 (by omega) (by omega)
      refine ⟨O2, E2, yE, ?_⟩
      have eF : psF w r (m + 1) = psF (phH w (oN r)) (r + 1) m := by
        show psF (phH w (oN r)) (if phH w (oN r) 8 5 = w 8 5 then r + 1 else r) m = _
        rw [if_pos (z2.trans e85.symm)]
      rw [eF]
      exact J_b y (by omega)
theorem J_T {w : HV} {cf : Nat → Int32} {T K S N O E b T2 : Nat} (h : J w cf T K S N O E b) (hT : T2 ≤ 1000) : J (up2 w 8 0 (oN T2)) cf T2 K S N O E b := by
  obtain ⟨i, x, xT, xM⟩ := h
  refine ⟨Ivt_T i hT, JX_u x i.2.1.2.1 (up2_kn (by decide)) (up2_kn (by decide)) (fun k _ => ⟨u2n (by decide), u2n (by decide), u2n (by decide), u2n (by decide)⟩) (up2_kn (by decide)) ?_ ?_, jT_e (fun c _ => by rw [u2n (by decide), u2n (by decide), u2n (by decide)]) xT, jM_e (fun s _ => ⟨u2n (by decide), u2n (by decide)⟩) xM⟩
  · intro s hs
    rw [u2n (by decide), u2n (by decide)]
    exact x.2.2.2.2.1 s hs
  · intro r hr hr2
    exact jR_c (r := r) (fun c _ => u2n (by decide)) (fun q _ _ => u2n (by decide)) (fun k _ => u2n (by decide)) (x.2.2.2.2.2.1 r hr hr2)
theorem pa_J {w : HV} {cf : Nat → Int32} {T K S N O E : Nat} (hT : T < 1000) (h : J w cf T K S N O E (10 * T)) : ∃ O2 E2, E ≤ E2 ∧ J (paH w) cf (T + 1) K S N O2 E2 (10 * (T + 1)) := by
  obtain ⟨hO, hE, hS⟩ := Ivt_O h.1
  have e84 : w 8 4 = oN O := h.1.1.2.2.2.2.1
  have eW : (w 8 4).toNatClampNeg = O := by rw [e84, oN_nat (by omega)]
  obtain ⟨O2, E2, yE, y⟩ := pss_J hT O 0 w O E (10 * T) h (Nat.zero_add _) (by omega)
  refine ⟨O2, E2, yE, ?_⟩
  unfold paH
  rw [eW, show psF w 0 O 8 0 = oN T from y.1.1.1, oN_succ]
  exact J_T (J_b y (by omega)) (by omega)
theorem pn_J {cf : Nat → Int32} {K S N : Nat} : ∀ (hh : Nat) (w : HV) (T O E : Nat), T + hh ≤ 1000 → J w cf T K S N O E (10 * T) → ∃ O2 E2, E ≤ E2 ∧ J (paN w hh) cf (T + hh) K S N O2 E2 (10 * (T + hh)) := by
  intro hh
  induction hh with
  | zero => intro w T O E _ h; exact ⟨O, E, Nat.le_refl _, h⟩
  | succ hh ih =>
    intro w T O E hT h
    obtain ⟨O2, E2, yE, y⟩ := pa_J (by omega) h
    obtain ⟨O3, E3, zE, z⟩ := ih (paH w) (T + 1) O2 E2 (by omega) y
    refine ⟨O3, E3, by omega, ?_⟩
    rw [show T + (hh + 1) = T + 1 + hh by omega]
    exact z
theorem ip_J {cf : Nat → Int32} {K S N : Nat} : ∀ (hh : Nat) (w : HV) (T O E : Nat), T + hh ≤ 1000 → J w cf T K S N O E (10 * T) → ipN w hh = paN w hh := by
  intro hh
  induction hh with
  | zero => intro w T O E _ h; rfl
  | succ hh ih =>
    intro w T O E hT h
    obtain ⟨O2, E2, -, y⟩ := pa_J (by omega) h
    have e0 : w 8 0 = oN T := h.1.1.1
    show (if w 8 0 < 1000 then ipN (paH w) hh else w) = _
    rw [if_pos (by rw [e0]; show oN T < oN 1000; rw [oN_lt (by omega) (by decide)]; omega)]
    exact ih (paH w) (T + 1) O2 E2 (by omega) y
