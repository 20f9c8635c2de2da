/-! PURE: acts on a hut: a hire begins, comes back; the row of a hire -/
theorem refu_c (w : HV) (k m h s : Int32) : (refu w k m h s = 0 ∧ kt w k 0 = 0 ∧ spF w m 0 (w 8 2).toNatClampNeg (-5) ≠ -5 ∧ ¬ exF (fun c => decide (bit s c = 1 ∧ ¬ 0 < w 4 (c * 3))) 0 6 = true) ∨ 0 < refu w k m h s := by
  unfold refu
  rcases Decidable.em (kt w k 0 = 0) with c1 | c1
  case inr => rw [if_neg c1]; exact Or.inr (by decide)
  rw [if_pos c1]
  rcases Decidable.em (exF (fun a => decide (tooWP w k (w 8 0 + oN a))) 0 h.toNatClampNeg = true) with c2 | c2
  case inl => rw [if_pos c2]; exact Or.inr (by decide)
  rw [if_neg c2]
  rcases Decidable.em (tooCP w k (w 8 0)) with c3 | c3
  case inl => rw [if_pos c3]; exact Or.inr (by decide)
  rw [if_neg c3]
  rcases Decidable.em (spF w m 0 (w 8 2).toNatClampNeg (-5) = -5) with c4 | c4
  case inl => rw [if_pos c4]; exact Or.inr (by decide)
  rw [if_neg c4]
  rcases Decidable.em (exF (fun c => decide (bit s c = 1 ∧ ¬ 0 < w 4 (c * 3))) 0 6 = true) with c5 | c5
  case inl => rw [if_pos c5]; exact Or.inr (by decide)
  rw [if_neg c5]
  rcases Decidable.em (1000 < w 8 0 + h) with c6 | c6
  case inl => rw [if_pos c6]; exact Or.inr (by decide)
  rw [if_neg c6]
  exact Or.inl ⟨rfl, c1, c4, c5⟩
theorem bgH_at {w : HV} {k O q N : Nat} {m h s : Int32} (hk : k < 16) (hO : O < 10) (hq : q < 10) (e4 : w 8 4 = oN O) (e3 : w 8 3 = oN N) (es : spF w m 0 (w 8 2).toNatClampNeg (-5) = oN q) :
    bgH w (oN k) m h s 0 = w 0 ∧ bgH w (oN k) m h s 1 = w 1 ∧ (∀ t, bgH w (oN k) m h s 2 t = if t = k * 8 + 6 then w 2 (k * 8 + 6) + 1 else if t = k * 8 + 7 then oN N else if t = k * 8 + 0 then 1 else w 2 t) ∧
    (∀ t, bgH w (oN k) m h s 3 t = if t = q * 4 + 2 then oN N else w 3 t) ∧
    (∀ t, t < 18 → bgH w (oN k) m h s 4 t = if t % 3 = 0 then w 4 t + -(bit s (t / 3)) else if t % 3 = 1 then w 4 t + bit s (t / 3) else w 4 t) ∧
    (∀ t, bgH w (oN k) m h s 5 t = if t = O * 7 + 5 then 0 + w 2 (k * 8 + 4) * h else if t = O * 7 + 6 then oN N else if t = O * 7 + 4 then s else if t = O * 7 + 3 then h else if t = O * 7 + 2 then m else if t = O * 7 + 1 then oN q else if t = O * 7 + 0 then oN k else w 5 t) ∧
    bgH w (oN k) m h s 6 = w 6 ∧ bgH w (oN k) m h s 7 = w 7 ∧
    (∀ t, bgH w (oN k) m h s 8 t = if t = 6 then w 8 6 + w 2 (k * 8 + 4) * h else if t = 4 then oN (O + 1) else if t = 3 then oN (N + 1) else w 8 t) := by
  have e1 : bgH1 w (oN k) m h s = up2 (up2 (up2 (up2 (up2 (up2 (up2 w 5 (O * 7 + 0) (oN k)) 5 (O * 7 + 1) (oN q)) 5 (O * 7 + 2) m) 5 (O * 7 + 3) h) 5 (O * 7 + 4) s) 5 (O * 7 + 5) 0) 5 (O * 7 + 6) (oN N) := by
    unfold bgH1
    rw [e4, e3, es, pthr_0 hO, pthr_1 hO, pthr_2 hO, pthr_3 hO, pthr_4 hO, pthr_5 hO, pthr_6 hO]
  have f5 : ∀ t, bgH1 w (oN k) m h s 5 t = if t = O * 7 + 6 then oN N else if t = O * 7 + 5 then 0 else if t = O * 7 + 4 then s else if t = O * 7 + 3 then h else if t = O * 7 + 2 then m else if t = O * 7 + 1 then oN q else if t = O * 7 + 0 then oN k else w 5 t := by
    intro t
    rw [e1, u2k, u2k, u2k, u2k, u2k, u2k, u2k]
  have fk : ∀ j : Fin 9, j ≠ 5 → bgH1 w (oN k) m h s j = w j := by
    intro j hj
    rw [e1, up2_kn hj, up2_kn hj, up2_kn hj, up2_kn hj, up2_kn hj, up2_kn hj, up2_kn hj]
  have e2 : bgH2 w (oN k) m h s = up2 (up2 (up2 (up2 (up2 (up2 (bgH1 w (oN k) m h s) 8 3 (oN (N + 1))) 8 4 (oN (O + 1))) 2 (k * 8 + 0) 1) 2 (k * 8 + 7) (oN N)) 2 (k * 8 + 6) (w 2 (k * 8 + 6) + 1)) 3 (q * 4 + 2) (oN N) := by
    unfold bgH2
    rw [e4, e3, es, ptkt_0 hk, ptkt_7 hk, pakt_6 hk, ptsl_2 hq, oN_succ, oN_succ]
    rw [u2k, if_neg (show ¬ k * 8 + 6 = k * 8 + 7 by omega), u2k, if_neg (show ¬ k * 8 + 6 = k * 8 + 0 by omega), u2n (show (2 : Fin 9) ≠ 8 by decide), u2n (show (2 : Fin 9) ≠ 8 by decide), fk 2 (by decide)]
  have g2 : ∀ t, bgH2 w (oN k) m h s 2 t = if t = k * 8 + 6 then w 2 (k * 8 + 6) + 1 else if t = k * 8 + 7 then oN N else if t = k * 8 + 0 then 1 else w 2 t := by
    intro t
    rw [e2, u2n (by decide), u2k, u2k, u2k, u2n (by decide), u2n (by decide), fk 2 (by decide)]
  have g3 : ∀ t, bgH2 w (oN k) m h s 3 t = if t = q * 4 + 2 then oN N else w 3 t := by
    intro t
    rw [e2, u2k, u2n (by decide), u2n (by decide), u2n (by decide), u2n (by decide), u2n (by decide), fk 3 (by decide)]
  have g8 : ∀ t, bgH2 w (oN k) m h s 8 t = if t = 4 then oN (O + 1) else if t = 3 then oN (N + 1) else w 8 t := by
    intro t
    rw [e2, u2n (by decide), u2n (by decide), u2n (by decide), u2n (by decide), u2k, u2k, fk 8 (by decide)]
  have gk : ∀ j : Fin 9, j ≠ 2 → j ≠ 3 → j ≠ 8 → bgH2 w (oN k) m h s j = bgH1 w (oN k) m h s j := by
    intro j h1 h2 h3
    rw [e2, up2_kn h2, up2_kn h1, up2_kn h1, up2_kn h1, up2_kn h3, up2_kn h3]
  have i4 : ∀ j : Fin 9, j ≠ 4 → bgH3 w (oN k) m h s j = bgH2 w (oN k) m h s j := fun j hj => mvT_o hj
  have eP : bgP w (oN k) m h s = w 2 (k * 8 + 4) * h := by
    unfold bgP
    rw [e4, hr_0 hO, hr_3 hO, i4 5 (by decide), gk 5 (by decide) (by decide) (by decide), f5, f5]
    rw [if_neg (by omega), if_neg (by omega), if_neg (by omega), if_neg (by omega), if_neg (by omega), if_neg (by omega), if_pos rfl, if_neg (by omega), if_neg (by omega), if_neg (by omega), if_pos rfl]
    rw [kt_4 hk, i4 2 (by decide), g2, if_neg (by omega), if_neg (by omega), if_neg (by omega)]
  have eB : bgH w (oN k) m h s = up2 (up2 (bgH3 w (oN k) m h s) 5 (O * 7 + 5) (0 + w 2 (k * 8 + 4) * h)) 8 6 (w 8 6 + w 2 (k * 8 + 4) * h) := by
    unfold bgH
    rw [eP, e4, pahr_5 hO, i4 5 (by decide), gk 5 (by decide) (by decide) (by decide), f5, if_neg (by omega), if_pos rfl]
  have jk : ∀ j : Fin 9, j ≠ 5 → j ≠ 8 → bgH w (oN k) m h s j = bgH3 w (oN k) m h s j := by
    intro j h1 h2
    rw [eB, up2_kn h2, up2_kn h1]
  refine ⟨?_, ?_, ?_, ?_, ?_, ?_, ?_, ?_, ?_⟩
  · rw [jk 0 (by decide) (by decide), i4 0 (by decide), gk 0 (by decide) (by decide) (by decide), fk 0 (by decide)]
  · rw [jk 1 (by decide) (by decide), i4 1 (by decide), gk 1 (by decide) (by decide) (by decide), fk 1 (by decide)]
  · intro t; rw [jk 2 (by decide) (by decide), i4 2 (by decide), g2]
  · intro t; rw [jk 3 (by decide) (by decide), i4 3 (by decide), g3]
  · intro t ht
    rw [jk 4 (by decide) (by decide)]
    have hm := mvT_at (w := bgH2 w (oN k) m h s) (s := s) (a := 0) (b := 1) (by decide) (by decide) (by decide) 6 (by decide) t
    rw [if_pos (show t < 3 * 6 by omega), gk 4 (by decide) (by decide) (by decide), fk 4 (by decide)] at hm
    exact hm
  · intro t
    rw [eB, u2n (by decide), u2k, i4 5 (by decide), gk 5 (by decide) (by decide) (by decide), f5]
    by_cases z : t = O * 7 + 5
    · rw [if_pos z, if_pos z]
    · rw [if_neg z, if_neg z, if_neg z]
  · rw [jk 6 (by decide) (by decide), i4 6 (by decide), gk 6 (by decide) (by decide) (by decide), fk 6 (by decide)]
  · rw [jk 7 (by decide) (by decide), i4 7 (by decide), gk 7 (by decide) (by decide) (by decide), fk 7 (by decide)]
  · intro t
    rw [eB, u2k, u2n (by decide), i4 8 (by decide), g8]
theorem hire_ivt {w : HV} {T K S N O E b r q l : Nat} {m t : Int32} (i : Ivt w T K S N O E b 100) (hr : r < K) (hN : N < 200) (hq : q < S) (es : spF w m 0 (w 8 2).toNatClampNeg (-5) = oN q) (e3 : w 3 (q * 4 + 2) = -5) (e2 : w 2 (r * 8 + 0) = 0) (htl : ¬ exF (fun c => decide (bit t c = 1 ∧ ¬ 0 < w 4 (c * 3))) 0 6 = true) (l1 : 1 ≤ l) (l2 : l ≤ 12) (ht : sm t 63) (hO10 : O < 10) : Ivt (bgH w (oN r) m (oN l) t) T K S (N + 1) (O + 1) E b 100 := by
  obtain ⟨hO, hE, hS⟩ := Ivt_O i
  obtain ⟨⟨b0, b1, b2, b3, b4, b5, b7⟩, ⟨d1, d2, d3, d4, d5⟩, hc, hH, hD, hNN, hTT, hZ⟩ := id i
  obtain ⟨c0, c1, c2, c3, c4, c5, c6, c7, c8⟩ := bgH_at (m := m) (h := oN l) (s := t) (show r < 16 by omega) hO10 (show q < 10 by omega) b4 b3 es
  generalize hW : bgH w (oN r) m (oN l) t = W at c0 c1 c2 c3 c4 c5 c6 c7 c8 ⊢
  refine ⟨⟨?_, ?_, ?_, ?_, ?_, ?_, ?_⟩, ⟨d1, d2, d3, by omega, by omega⟩, ?_, ?_, ?_, ?_, ?_, ?_, ?_⟩
  · rw [c8, if_neg (by decide), if_neg (by decide), if_neg (by decide)]; exact b0
  · rw [c8, if_neg (by decide), if_neg (by decide), if_neg (by decide)]; exact b1
  · rw [c8, if_neg (by decide), if_neg (by decide), if_neg (by decide)]; exact b2
  · rw [c8, if_neg (by decide), if_neg (by decide), if_pos rfl]
  · rw [c8, if_neg (by decide), if_pos rfl]
  · rw [c8, if_neg (by decide), if_neg (by decide), if_neg (by decide)]; exact b5
  · rw [c8, if_neg (by decide), if_neg (by decide), if_neg (by decide)]; exact b7
  · have h1 := cnF_off (f := fun r => W 3 (r * 4 + 2)) (g := fun r => w 3 (r * 4 + 2)) (s := q) e3 (by show W 3 (q * 4 + 2) ≠ -5; rw [c3, if_pos rfl]; exact oN_m5 (by omega)) (fun r2 hr2 => by
      show W 3 (r2 * 4 + 2) = w 3 (r2 * 4 + 2)
      rw [c3, if_neg (by omega)]) S hq
    omega
  · intro r2 hr2
    by_cases z : r2 = O
    · subst z
      refine ⟨r, q, N, hr, hq, by omega, ?_, ?_, ?_, ?_, ?_, ?_, ?_, fun _ => ⟨l, l1, l2, ?_⟩⟩
      · rw [c5, if_neg (by omega), if_neg (by omega), if_neg (by omega), if_neg (by omega), if_neg (by omega), if_neg (by omega), if_pos rfl]
      · rw [c5, if_neg (by omega), if_neg (by omega), if_neg (by omega), if_neg (by omega), if_neg (by omega), if_pos rfl]
      · rw [c5, if_neg (by omega), if_pos rfl]
      · rw [c3, if_pos rfl]
      · rw [c2, if_neg (by omega), if_pos rfl]
      · rw [c2, if_neg (by omega), if_neg (by omega), if_pos rfl]
      · rw [c5, if_neg (by omega), if_neg (by omega), if_pos rfl]; exact ht
      · rw [c5, if_neg (by omega), if_neg (by omega), if_neg (by omega), if_pos rfl]
    · have c5' : ∀ c, c < 7 → W 5 (r2 * 7 + c) = w 5 (r2 * 7 + c) := by
        intro c hc
        rw [c5, if_neg (by omega), if_neg (by omega), if_neg (by omega), if_neg (by omega), if_neg (by omega), if_neg (by omega), if_neg (by omega)]
      obtain ⟨k, s, n, p1, p2, p3, p4, p5, p6, p7, p8, p9, pA, pB⟩ := hH r2 (by omega)
      have nk : k ≠ r := by
        intro e
        subst e
        rw [e2] at p9
        exact absurd p9 (by decide)
      have ns : s ≠ q := by
        intro e
        subst e
        rw [e3] at p7
        exact oN_m5 (by omega) p7.symm
      refine ⟨k, s, n, p1, p2, by omega, ?_, ?_, ?_, ?_, ?_, ?_, ?_, ?_⟩
      · rw [c5' 0 (by decide)]; exact p4
      · rw [c5' 1 (by decide)]; exact p5
      · rw [c5' 6 (by decide)]; exact p6
      · rw [c3, if_neg (by omega)]; exact p7
      · rw [c2, if_neg (by omega), if_neg (by omega), if_neg (by omega)]; exact p8
      · rw [c2, if_neg (by omega), if_neg (by omega), if_neg (by omega)]; exact p9
      · rw [c5' 4 (by decide)]; exact pA
      · rw [c5' 3 (by decide)]; exact pB
  · have c56 : ∀ r2, r2 < O → W 5 (r2 * 7 + 6) = w 5 (r2 * 7 + 6) := by
      intro r2 hr2
      rw [c5, if_neg (by omega), if_neg (by omega), if_neg (by omega), if_neg (by omega), if_neg (by omega), if_neg (by omega), if_neg (by omega)]
    have cO : W 5 (O * 7 + 6) = oN N := by rw [c5, if_neg (by omega), if_pos rfl]
    have no : ∀ r2, r2 < O → W 5 (r2 * 7 + 6) ≠ oN N := by
      intro r2 hr2 e
      rw [c56 r2 hr2] at e
      obtain ⟨k, s, n, p1, p2, p3, p4, p5, p6, -⟩ := hH r2 hr2
      rw [p6] at e
      have := oN_inj (by omega) (by omega) e
      omega
    intro r2 hr2 q2 hq2 e
    by_cases z1 : r2 = O
    · by_cases z2 : q2 = O
      · omega
      · rw [z1, cO] at e
        exact absurd e.symm (no q2 (by omega))
    · by_cases z2 : q2 = O
      · rw [z2, cO] at e
        exact absurd e (no r2 (by omega))
      · rw [c56 r2 (by omega), c56 q2 (by omega)] at e
        exact hD r2 (by omega) q2 (by omega) e
  · intro k hk
    by_cases z : k = r
    · right
      refine ⟨O, by omega, ?_⟩
      rw [c5, if_neg (by omega), if_neg (by omega), if_neg (by omega), if_neg (by omega), if_neg (by omega), if_neg (by omega), if_pos rfl, z]
    · rcases hNN k hk with y | ⟨r2, y1, y2⟩
      · left
        rw [c2, if_neg (by omega), if_neg (by omega), if_neg (by omega)]; exact y
      · right
        refine ⟨r2, by omega, ?_⟩
        rw [c5, if_neg (by omega), if_neg (by omega), if_neg (by omega), if_neg (by omega), if_neg (by omega), if_neg (by omega), if_neg (by omega)]
        exact y2
  · intro c hc2
    obtain ⟨t1, t2, t3, t4⟩ := hTT c hc2
    have hb : bit t c = 0 ∨ (bit t c = 1 ∧ 1 ≤ (w 4 (c * 3 + 0)).toInt) := by
      rcases bit_01 t c with y | y
      · exact Or.inl y
      · right
        refine ⟨y, ?_⟩
        rcases Decidable.em (0 < w 4 (c * 3)) with x | x
        · rw [Int32.lt_iff_toInt_lt] at x
          exact x
        · exact absurd (exF_iff 6 0 |>.mpr ⟨c, by omega, by omega, decide_eq_true ⟨y, x⟩⟩) htl
    have e1 : (-(bit t c)).toInt = -(bit t c).toInt := by
      rcases hb with y | ⟨y, -⟩ <;> rw [y] <;> rfl
    have e4 : 0 ≤ (bit t c).toInt ∧ (bit t c).toInt ≤ 1 := bit_ti t c
    have e5 : (bit t c).toInt ≤ (w 4 (c * 3 + 0)).toInt := by
      rcases hb with y | ⟨y, y2⟩
      · rw [y]; exact t1
      · rw [y]; exact y2
    rw [c4 _ (by omega), c4 _ (by omega), c4 _ (by omega), if_pos (by omega), if_neg (by omega), if_neg (by omega), if_neg (by omega), if_pos (by omega), show (c * 3 + 0) / 3 = c by omega, show (c * 3 + 1) / 3 = c by omega]
    rw [ti_add (by omega) (by omega), ti_add (by omega) (by omega), e1]
    omega
  · intro k h1 h2
    rw [c2, c2, c2, if_neg (by omega), if_neg (by omega), if_neg (by omega), if_neg (by omega), if_neg (by omega), if_neg (by omega), if_neg (by omega), if_neg (by omega), if_neg (by omega)]
    exact hZ.1 k h1 h2
  · intro s h1 h2
    rw [c3, c3, if_neg (by omega), if_neg (by omega)]
    exact hZ.2 s h1 h2
theorem O_lt {w : HV} {T K S N O E b q : Nat} (i : Ivt w T K S N O E b 100) (hq : q < S) (e3 : w 3 (q * 4 + 2) = -5) : O < 10 := by
  obtain ⟨hO, hE, hS⟩ := Ivt_O i
  have := cnF_lt (f := fun r => w 3 (r * 4 + 2)) (s := q) e3 S hq
  have := i.2.2.1
  omega
theorem hire_J {w : HV} {cf : Nat → Int32} {T K S N O E b r q l mm M : Nat} {t : Int32} (h : J w cf T K S N O E b) (hr : r < K) (hN : N < 200) (hq : q < S) (es : spF w (oN mm) 0 (w 8 2).toNatClampNeg (-5) = oN q) (e3 : w 3 (q * 4 + 2) = -5) (e2 : w 2 (r * 8 + 0) = 0) (htl : ¬ exF (fun c => decide (bit t c = 1 ∧ ¬ 0 < w 4 (c * 3))) 0 6 = true) (l1 : 1 ≤ l) (l2 : l ≤ 12) (ht : sm t 63) (eM : w 3 (q * 4 + 0) = oN M) (hm : mm ≤ M) (hM : M ≤ 300) :
    J (bgH w (oN r) (oN mm) (oN l) t) cf T K S (N + 1) (O + 1) E b ∧ bgH w (oN r) (oN mm) (oN l) t 8 6 = w 8 6 + w 2 (r * 8 + 4) * oN l ∧ bgH w (oN r) (oN mm) (oN l) t 5 (O * 7 + 3) = oN l ∧ bgH w (oN r) (oN mm) (oN l) t 5 (O * 7 + 6) = oN N ∧ (∀ k, bgH w (oN r) (oN mm) (oN l) t 2 (k * 8 + 4) = w 2 (k * 8 + 4)) := by
  obtain ⟨i, ⟨xS, xW, xK, xC, xL, xH, xE⟩, xT, xM⟩ := h
  have hO10 := O_lt i hq e3
  have hI := hire_ivt i hr hN hq es e3 e2 htl l1 l2 ht hO10
  obtain ⟨hO, hE, hS⟩ := Ivt_O i
  obtain ⟨⟨b0, b1, b2, b3, b4, b5, b7⟩, ⟨d1, d2, d3, d4, d5⟩, hc, hH, hD, hNN, hTT, hZ⟩ := id i
  obtain ⟨c0, c1, c2, c3, c4, c5, c6, c7, c8⟩ := bgH_at (m := oN mm) (h := oN l) (s := t) (show r < 16 by omega) hO10 (show q < 10 by omega) b4 b3 es
  generalize bgH w (oN r) (oN mm) (oN l) t = W at c0 c1 c2 c3 c4 c5 c6 c7 c8 hI ⊢
  have ko : ∀ t, t ≠ r * 8 + 6 → t ≠ r * 8 + 7 → t ≠ r * 8 + 0 → W 2 t = w 2 t := fun t h1 h2 h3 => by rw [c2, if_neg h1, if_neg h2, if_neg h3]
  have k3 : ∀ t, t ≠ q * 4 + 2 → W 3 t = w 3 t := fun t h1 => by rw [c3, if_neg h1]
  have k5 : ∀ t, t < O * 7 → W 5 t = w 5 t := fun t h1 => by rw [c5, if_neg (by omega), if_neg (by omega), if_neg (by omega), if_neg (by omega), if_neg (by omega), if_neg (by omega), if_neg (by omega)]
  have f0 : W 5 (O * 7 + 0) = oN r := by rw [c5, if_neg (by omega), if_neg (by omega), if_neg (by omega), if_neg (by omega), if_neg (by omega), if_neg (by omega), if_pos rfl]
  have f1 : W 5 (O * 7 + 1) = oN q := by rw [c5, if_neg (by omega), if_neg (by omega), if_neg (by omega), if_neg (by omega), if_neg (by omega), if_pos rfl]
  have f2 : W 5 (O * 7 + 2) = oN mm := by rw [c5, if_neg (by omega), if_neg (by omega), if_neg (by omega), if_neg (by omega), if_pos rfl]
  have f3 : W 5 (O * 7 + 3) = oN l := by rw [c5, if_neg (by omega), if_neg (by omega), if_neg (by omega), if_pos rfl]
  have f5 : W 5 (O * 7 + 5) = 0 + w 2 (r * 8 + 4) * oN l := by rw [c5, if_pos rfl]
  have f6 : W 5 (O * 7 + 6) = oN N := by rw [c5, if_neg (by omega), if_pos rfl]
  obtain ⟨-, -, ⟨p, p1, p2, p3⟩, -⟩ := xK r hr
  refine ⟨⟨hI, ⟨jS_k c1 xS, jW_k c0 xW, ?_, ?_, ?_, ?_, ?_⟩, ?_, ?_⟩, by rw [c8, if_pos rfl], f3, f6, fun k => ?_⟩
  · intro k hk
    obtain ⟨y1, y2, y3, y4⟩ := xK k hk
    rw [ko (k * 8 + 4) (by omega) (by omega) (by omega), ko (k * 8 + 3) (by omega) (by omega) (by omega)]
    by_cases e : k = r
    · subst e
      refine ⟨Or.inr (Or.inl ?_), fun _ => ?_, y3, y4⟩
      · rw [c2, if_neg (by omega), if_neg (by omega), if_pos rfl]
      · rw [c2, if_neg (by omega), if_pos rfl]
        exact oN_m5 (by omega)
    · rw [ko (k * 8 + 0) (by omega) (by omega) (by omega), ko (k * 8 + 7) (by omega) (by omega) (by omega)]
      exact ⟨y1, y2, y3, y4⟩
  · have h1 := ctF_off (f := fun k => W 2 (k * 8 + 0)) (g := fun k => w 2 (k * 8 + 0)) (v := 1) (s := r) (by show W 2 (r * 8 + 0) = 1; rw [c2, if_neg (by omega), if_neg (by omega), if_pos rfl]) (by show w 2 (r * 8 + 0) ≠ 1; rw [e2]; decide) (fun k hk => ko _ (by omega) (by omega) (by omega)) K hr
    unfold jC at xC ⊢
    omega
  · intro s hs
    rw [k3 _ (by omega), k3 _ (by omega)]
    exact xL s hs
  · intro r2 hr2 hr3
    by_cases e : r2 = O
    · subst e
      refine ⟨r, q, mm, M, p, l, p * l, by omega, by omega, f0, f1, f2, ?_, ?_, f3, ?_, hm, hM, p2, Nat.le_refl _, ?_⟩
      · rw [k3 _ (by omega)]; exact eM
      · rw [ko _ (by omega) (by omega) (by omega)]; exact p3
      · rw [f5, p3, oN_mul, Int32.zero_add]
      · have := Nat.mul_le_mul p2 l2
        omega
    · exact jR_c (r := r2) (fun c hc => k5 _ (by omega)) (fun s _ _ => k3 _ (by omega)) (fun k _ => ko _ (by omega) (by omega) (by omega)) (xH r2 (by omega) hr3)
  · unfold jE; rw [c7]; exact xE
  · refine jT_e (fun c hc => ?_) xT
    rw [c4 _ (by omega), c4 _ (by omega), c4 _ (by omega), if_pos (by omega), if_neg (by omega), if_pos (by omega), if_neg (by omega), if_neg (by omega), show (c * 3 + 0) / 3 = c by omega, show (c * 3 + 1) / 3 = c by omega]
    exact gr3h _ _ _ _
  · exact jM_e (fun s _ => ⟨k3 _ (by omega), k3 _ (by omega)⟩) xM
  · exact ko _ (by omega) (by omega) (by omega)
/-- the row of a hire, or none -/
theorem row_J {w : HV} {T K S N O E b : Nat} (i : Ivt w T K S N O E b 100) (x : Int32) : (rwF w x = -5 ∧ ∀ r, r < O → w 5 (r * 7 + 6) ≠ x) ∨ ∃ P, P < O ∧ rwF w x = oN P ∧ w 5 (P * 7 + 6) = x := by
  obtain ⟨hO, hE, hS⟩ := Ivt_O i
  have eO : (w 8 4).toNatClampNeg = O := by rw [i.1.2.2.2.2.1, oN_nat (by omega)]
  unfold rwF
  rw [eO]
  rcases fsF_y (p := fun r => decide (hr w (oN r) 6 = x)) O 0 with ⟨r, a, b, c, d⟩ | ⟨h1, h2⟩
  · right
    refine ⟨r, by omega, d, ?_⟩
    have := of_decide_eq_true c
    rw [hr_6 (by omega)] at this
    exact this
  · left
    refine ⟨h2, fun r hr e => ?_⟩
    have := h1 r (Nat.zero_le _) (by omega)
    have := of_decide_eq_false this
    rw [hr_6 (by omega)] at this
    exact this e
theorem spF_g {w : HV} {S : Nat} {m : Int32} (hS : S ≤ 10) : ∀ (k s : Nat) (d : Int32), s + k ≤ S → (d = -5 ∨ ∃ q, q < S ∧ d = oN q ∧ w 3 (q * 4 + 2) = -5 ∧ ¬ w 3 (q * 4 + 0) < m + w 1 4) → (spF w m s k d = -5 ∨ ∃ q, q < S ∧ spF w m s k d = oN q ∧ w 3 (q * 4 + 2) = -5 ∧ ¬ w 3 (q * 4 + 0) < m + w 1 4) := by
  intro k
  induction k with
  | zero => intro s d _ h; exact h
  | succ k ih =>
    intro s d hs h
    unfold spF
    refine ih (s + 1) _ (by omega) ?_
    split
    · rename_i p1
      have := p1.1
      rw [sl_2 (show s < 10 by omega), sl_0 (show s < 10 by omega), se_4] at this
      exact Or.inr ⟨s, by omega, rfl, this.1, this.2⟩
    · exact h
/-- the coins of a back -/
theorem bcnt_le : ∀ x, x < 64 → ∃ c, c ≤ 6 ∧ bcnt (oN x) = oN c := by
  have key : ∀ x, x < 64 → (bcnt (oN x)).toNatClampNeg ≤ 6 ∧ bcnt (oN x) = oN (bcnt (oN x)).toNatClampNeg := by decide +kernel
  exact fun x hx => ⟨_, (key x hx).1, (key x hx).2⟩
theorem half_n : ∀ x, x < 1189 → oN x / 2 = oN (x / 2) := by decide +kernel
set_option maxHeartbeats 1000000 in
theorem back_J {w : HV} {cf : Nat → Int32} {T K S N O E b P x : Nat} (h : J w cf T K S N O E b) (hP : P < O) (hx : x < 64) :
    J (enH (tcH w (oN P) (bkC w (oN x) - bkG w (oN P))) (oN P) 0 (oN x)) cf T K S N (O - 1) (E + 1) b ∧ 0 ≤ (bkG w (oN P) - bkC w (oN x) + 1000).toInt ∧
    enH (tcH w (oN P) (bkC w (oN x) - bkG w (oN P))) (oN P) 0 (oN x) 8 6 = w 8 6 + (bkC w (oN x) - bkG w (oN P)) ∧ enH (tcH w (oN P) (bkC w (oN x) - bkG w (oN P))) (oN P) 0 (oN x) 8 5 = oN (E + 1) ∧
    enH (tcH w (oN P) (bkC w (oN x) - bkG w (oN P))) (oN P) 0 (oN x) 6 (E % 8 * 4 + 0) = w 5 (P * 7 + 6) ∧ enH (tcH w (oN P) (bkC w (oN x) - bkG w (oN P))) (oN P) 0 (oN x) 6 (E % 8 * 4 + 1) = 0 ∧ enH (tcH w (oN P) (bkC w (oN x) - bkG w (oN P))) (oN P) 0 (oN x) 6 (E % 8 * 4 + 2) = w 8 0 := by
  obtain ⟨i, xx, xT, xM⟩ := h
  obtain ⟨hO, hE, hS⟩ := Ivt_O i
  have hP10 : P < 10 := by omega
  have hK : K ≤ 16 := i.2.1.2.1
  obtain ⟨k, s, n, p1, p2, p3, p4, p5, p6, p7, p8, p9, pA, pB⟩ := i.2.2.2.1 P hP
  obtain ⟨l, l1, l2, l3⟩ := pB (by omega)
  obtain ⟨-, -, ⟨p, g1, g2, g3⟩, -⟩ := xx.2.2.1 k p1
  obtain ⟨c, hc, ec⟩ := bcnt_le x hx
  have eG : bkG w (oN P) = oN (p * l / 2) := by
    unfold bkG
    have := Nat.mul_le_mul g2 l2
    rw [hr_0 hP10, hr_3 hP10, p4, kt_4 (by omega), g3, l3, oN_mul, half_n _ (by omega)]
  have s3 := xx.1.2.2.2.1
  have eC : bkC w (oN x) = oN (c * (w 1 3).toNatClampNeg) := by
    unfold bkC
    rw [ec, se_3, ← oN_mul, ← sm_eq s3]
  have hC : c * (w 1 3).toNatClampNeg ≤ 594 := by
    have := Nat.mul_le_mul hc s3.2
    omega
  have hG : p * l / 2 ≤ 594 := by
    have := Nat.mul_le_mul g2 l2
    omega
  generalize hgg : bkC w (oN x) - bkG w (oN P) = cc
  have z := J_end (W := 0) (mis := oN x) (P := P) (Ivt_q (Ivt_pay (x := w 5 (P * 7 + 5) + cc) (y := w 8 6 + cc) i hP)) (JX_pay (P := P) xx hK) (jT_e (fun c _ => by simp only [u2n (show (4 : Fin 9) ≠ 8 by decide), u2n (show (4 : Fin 9) ≠ 5 by decide)]) xT) (jM_e (fun s _ => ⟨by rw [u2n (by decide), u2n (by decide)], by rw [u2n (by decide), u2n (by decide)]⟩) xM) hP (by decide)
  rw [← tcH_eq hP10] at z
  have e5 : ∀ t, t ≠ P * 7 + 5 → tcH w (oN P) cc 5 t = w 5 t := fun t ht => by rw [tcH_eq hP10, u2n (by decide), u2k, if_neg ht]
  have e8 : ∀ t, t ≠ 6 → tcH w (oN P) cc 8 t = w 8 t := fun t ht => by rw [tcH_eq hP10, u2k, if_neg ht, u2n (by decide)]
  have e86 : tcH w (oN P) cc 8 6 = w 8 6 + cc := by rw [tcH_eq hP10, u2k, if_pos rfl]
  obtain ⟨q0, q1, q2, q3, q4, q5, q6, q7, q8⟩ := enH_at (w := tcH w (oN P) cc) (P := P) (K := k) (S := s) (W := 0) (E := E) (mis := oN x) hP10 (by omega) (by omega) (by decide) (by omega) (by rw [e5 _ (by omega)]; exact p4) (by rw [e5 _ (by omega)]; exact p5) (by rw [e8 _ (by omega)]; exact i.1.2.2.2.2.2.1)
  refine ⟨z.1, ?_, ?_, z.2, ?_, ?_, ?_⟩
  · rw [eG, eC]
    have t1 : (oN (p * l / 2)).toInt = ((p * l / 2 : Nat) : Int) := oN_toInt (by omega)
    have t2 : (oN (c * (w 1 3).toNatClampNeg)).toInt = ((c * (w 1 3).toNatClampNeg : Nat) : Int) := oN_toInt (by omega)
    generalize c * (w 1 3).toNatClampNeg = y at *
    generalize p * l / 2 = v at *
    have t3 := ti_sub (x := oN v) (y := oN y) (by omega) (by omega)
    have t4 : (1000 : Int32).toInt = 1000 := rfl
    rw [ti_add (by omega) (by omega)]
    omega
  · exact (q8 6).trans (by rw [if_neg (by decide), if_neg (by decide)]; exact e86)
  · exact (q6 _).trans (by rw [if_neg (by omega), if_neg (by omega), if_neg (by omega), if_pos rfl]; exact e5 _ (by omega))
  · exact (q6 _).trans (by rw [if_neg (by omega), if_neg (by omega), if_pos rfl]; rfl)
  · exact (q6 _).trans (by rw [if_neg (by omega), if_pos rfl]; exact e8 0 (by omega))
