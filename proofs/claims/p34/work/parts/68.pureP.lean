/-! PURE: acts on a hut: kites, spools, tails, winds, settings -/
theorem akH_n {w : HV} {K : Nat} {a b c d : Int32} (e : w 8 1 = oN K) (hK : K < 16) : akH w a b c d = up2 (up2 (up2 (up2 (up2 (up2 w 2 (K * 8 + 1) a) 2 (K * 8 + 2) b) 2 (K * 8 + 3) c) 2 (K * 8 + 4) d) 2 (K * 8 + 7) (-5)) 8 1 (oN (K + 1)) := by
  show up2 (pt (pt (pt (pt (pt w 2 8 128 (w 8 1) 1 a) 2 8 128 (w 8 1) 2 b) 2 8 128 (w 8 1) 3 c) 2 8 128 (w 8 1) 4 d) 2 8 128 (w 8 1) 7 (-5)) 8 1 (w 8 1 + 1) = _
  rw [e, ptkt_1 hK, ptkt_2 hK, ptkt_3 hK, ptkt_4 hK, ptkt_7 hK, oN_succ]
theorem bit_1 : ∀ a, a < 6 → ∀ c, c < 6 → bit ((1 : Int32) <<< (oN a &&& 31)) c = if c = a then 1 else 0 := by decide +kernel
theorem JX_k {w w2 : HV} {K S O E : Nat} (h : JX w K S O E 100) (e2 : w2 2 = w 2) (e3 : w2 3 = w 3) (e5 : w2 5 = w 5) (e7 : w2 7 = w 7) (h1 : jS w2) (h0 : jW w2) : JX w2 K S O E 100 := by
  obtain ⟨xS, xW, xK, xC, xL, xH, xE⟩ := h
  refine ⟨h1, h0, ?_, ?_, ?_, ?_, ?_⟩
  · unfold jK; rw [e2]; exact xK
  · unfold jC; rw [e2]; exact xC
  · unfold jL; rw [e3]; exact xL
  · unfold jH jR; rw [e5, e3, e2]; exact xH
  · unfold jE; rw [e7]; exact xE
theorem jT_k {w w2 : HV} {cf : Nat → Int32} (e : w2 4 = w 4) (h : jT w cf) : jT w2 cf := by unfold jT; rw [e]; exact h
theorem jM_k {w w2 : HV} {S : Nat} {cf : Nat → Int32} (e : w2 3 = w 3) (h : jM w S cf) : jM w2 S cf := by unfold jM; rw [e]; exact h
theorem jS_k {w w2 : HV} (e : w2 1 = w 1) (h : jS w) : jS w2 := by unfold jS; rw [e]; exact h
theorem jW_k {w w2 : HV} (e : w2 0 = w 0) (h : jW w) : jW w2 := by unfold jW; rw [e]; exact h
theorem wind_J {w : HV} {cf : Nat → Int32} {T K S N O E b A B : Nat} {x : Int32} (h : J w cf T K S N O E b) (hx : sm x 12) : J (lyw w x A B) cf T K S N O E b := by
  obtain ⟨i, xx, xT, xM⟩ := h
  refine ⟨Ivt_k i (lyw_k (by decide)) (lyw_k (by decide)) (lyw_k (by decide)) (lyw_k (by decide)) (ivT_e (lyw_k (by decide)) i.2.2.2.2.2.2.1), JX_k xx (lyw_k (by decide)) (lyw_k (by decide)) (lyw_k (by decide)) (lyw_k (by decide)) (jS_k (lyw_k (by decide)) xx.1) ?_, jT_k (lyw_k (by decide)) xT, jM_k (lyw_k (by decide)) xM⟩
  intro t ht
  rw [lyw_z]
  split
  · exact hx
  · exact xx.2.1 t ht
theorem st_rng : ∀ c, c < 5 → lst (oN c) = oN ((stv 0).getD c 0).toNatClampNeg ∧ mst (oN c) = oN ((stv 1).getD c 0).toNatClampNeg ∧ ((stv 1).getD c 0).toNatClampNeg ≤ 999 := by decide +kernel
theorem set_J {w : HV} {cf : Nat → Int32} {T K S N O E b c : Nat} {x : Int32} (h : J w cf T K S N O E b) (hc : c < 5) (hx : wi x (lst (oN c)) (mst (oN c))) : J (up2 w 1 c x) cf T K S N O E b := by
  obtain ⟨i, xx, xT, xM⟩ := h
  refine ⟨Ivt_k i (up2_kn (by decide)) (up2_kn (by decide)) (up2_kn (by decide)) (up2_kn (by decide)) (ivT_e (up2_kn (by decide)) i.2.2.2.2.2.2.1), JX_k xx (up2_kn (by decide)) (up2_kn (by decide)) (up2_kn (by decide)) (up2_kn (by decide)) ?_ (jW_k (up2_kn (by decide)) xx.2.1), jT_k (up2_kn (by decide)) xT, jM_k (up2_kn (by decide)) xM⟩
  obtain ⟨x0, x1, x2, x3, x4⟩ := xx.1
  have key : ∀ n : Nat, mst (oN c) = oN n → n ≤ 999 → sm x n := by
    intro n hn h9
    rw [hn] at hx
    have : ¬ lst (oN c) < 0 := by
      rcases (show c = 0 ∨ c = 1 ∨ c = 2 ∨ c = 3 ∨ c = 4 by omega) with z | z | z | z | z <;> subst z <;> decide
    exact wi_sm hx this (by omega)
  refine ⟨?_, ?_, ?_, ?_, ?_⟩
  · rw [u2k]
    split
    · subst_vars; exact key 13 rfl (by decide)
    · exact x0
  · rw [u2k]
    split
    · subst_vars; exact key 999 rfl (by decide)
    · exact x1
  · rw [u2k]
    split
    · subst_vars; exact key 99 rfl (by decide)
    · exact x2
  · rw [u2k]
    split
    · subst_vars; exact key 99 rfl (by decide)
    · exact x3
  · rw [u2k]
    split
    · subst_vars; exact key 50 rfl (by decide)
    · exact x4
theorem tails_J {w : HV} {cf : Nat → Int32} {T K S N O E b c n : Nat} (h : J w cf T K S N O E b) (hc6 : c < 6) (n2 : n ≤ 20) (c3 : ¬ 99 < w 4 (c * 3 + 0) + w 4 (c * 3 + 1) + w 4 (c * 3 + 2) + oN n) : J (up2 w 4 (c * 3 + 0) (w 4 (c * 3 + 0) + oN n)) (fun t => if t = c then cf c + oN n else cf t) T K S N O E b ∧ 0 ≤ (w 4 (c * 3 + 0) + oN n).toInt := by
  obtain ⟨i, xx, xT, xM⟩ := h
  obtain ⟨hO2, hE, -⟩ := Ivt_O i
  obtain ⟨t0, t1, t2, t3⟩ := i.2.2.2.2.2.2.1 c hc6
  have tn : (oN n).toInt = (n : Int) := oN_toInt (by omega)
  have x1 := ti_add (x := w 4 (c * 3 + 0)) (y := oN n) (by omega) (by omega)
  have y1 := ti_add (x := w 4 (c * 3 + 0)) (y := w 4 (c * 3 + 1)) (by omega) (by omega)
  have y2 := ti_add (x := w 4 (c * 3 + 0) + w 4 (c * 3 + 1)) (y := w 4 (c * 3 + 2)) (by omega) (by omega)
  have y3 := ti_add (x := w 4 (c * 3 + 0) + w 4 (c * 3 + 1) + w 4 (c * 3 + 2)) (y := oN n) (by omega) (by omega)
  have h99 : (99 : Int32).toInt = 99 := rfl
  rw [Int32.lt_iff_toInt_lt] at c3
  refine ⟨⟨Ivt_k i (up2_kn (by decide)) (up2_kn (by decide)) (up2_kn (by decide)) (up2_kn (by decide)) (fun d hd => ?_), JX_k xx (up2_kn (by decide)) (up2_kn (by decide)) (up2_kn (by decide)) (up2_kn (by decide)) (jS_k (up2_kn (by decide)) xx.1) (jW_k (up2_kn (by decide)) xx.2.1), ?_, ?_⟩, by omega⟩
  · rw [u2k, u2k, u2k, if_neg (show ¬ d * 3 + 1 = c * 3 + 0 by omega), if_neg (show ¬ d * 3 + 2 = c * 3 + 0 by omega)]
    by_cases z : d = c
    · subst z
      rw [if_pos rfl, x1]
      refine ⟨by omega, t1, t2, by omega⟩
    · rw [if_neg (show ¬ d * 3 + 0 = c * 3 + 0 by omega)]
      exact i.2.2.2.2.2.2.1 d hd
  · intro d hd
    show _ = 5 + (if d = c then cf c + oN n else cf d)
    rw [u2k, u2k, u2k, if_neg (show ¬ d * 3 + 1 = c * 3 + 0 by omega), if_neg (show ¬ d * 3 + 2 = c * 3 + 0 by omega)]
    by_cases z : d = c
    · subst z
      rw [if_pos rfl, if_pos rfl]
      exact gr3b _ _ _ _ _ (xT d hd)
    · rw [if_neg (show ¬ d * 3 + 0 = c * 3 + 0 by omega), if_neg z]
      exact xT d hd
  · have e6 : (if 6 = c then cf c + oN n else cf 6) = cf 6 := if_neg (by omega)
    unfold jM at xM ⊢
    rw [up2_kn (show (3 : Fin 9) ≠ 4 by decide), xM]
    exact e6.symm
theorem found_J {w mv : HV} {cf : Nat → Int32} {T K S N O E b c : Nat} (h : J w cf T K S N O E b) (hc6 : c < 6) (c4 : 0 < w 4 (c * 3 + 2)) (hmv : mvT w ((1 : Int32) <<< (oN c &&& 31)) 2 0 6 = mv) : J mv cf T K S N O E b ∧ at_ (mv 4) 3 18 (oN c) 0 = w 4 (c * 3 + 0) + 1 ∧ 0 ≤ (w 4 (c * 3 + 0) + 1).toInt ∧ mv 8 = w 8 := by
  obtain ⟨i, xx, xT, xM⟩ := h
  obtain ⟨t0, t1, t2, t3⟩ := i.2.2.2.2.2.2.1 c hc6
  obtain ⟨hO2, hE, -⟩ := Ivt_O i
  have h0i : (0 : Int32).toInt = 0 := rfl
  have hm := fun t => mvT_at (w := w) (s := (1 : Int32) <<< (oN c &&& 31)) (a := 2) (b := 0) (by decide) (by decide) (by decide) 6 (Nat.le_refl _) t
  have hm' : ∀ t, t < 18 → mv 4 t = if t = c * 3 + 2 then w 4 t + -1 else if t = c * 3 + 0 then w 4 t + 1 else w 4 t := by
    intro t ht
    rw [← hmv]
    refine (hm t).trans ?_
    rw [if_pos (show t < 3 * 6 by omega), bit_1 c hc6 (t / 3) (by omega)]
    by_cases z : t / 3 = c
    · rw [if_pos z]
      rcases (show t % 3 = 0 ∨ t % 3 = 1 ∨ t % 3 = 2 by omega) with y | y | y
      · rw [if_neg (show ¬ t % 3 = 2 by omega), if_pos y, if_neg (show ¬ t = c * 3 + 2 by omega), if_pos (show t = c * 3 + 0 by omega)]
      · rw [if_neg (show ¬ t % 3 = 2 by omega), if_neg (show ¬ t % 3 = 0 by omega), if_neg (show ¬ t = c * 3 + 2 by omega), if_neg (show ¬ t = c * 3 + 0 by omega)]
      · rw [if_pos y, if_pos (show t = c * 3 + 2 by omega)]
    · rw [if_neg z, if_neg (show ¬ t = c * 3 + 2 by omega), if_neg (show ¬ t = c * 3 + 0 by omega), Int32.neg_zero, Int32.add_zero]
      split
      · rfl
      · split <;> rfl
  have hmk : ∀ k : Fin 9, k ≠ 4 → mv k = w k := fun k hk => by rw [← hmv]; exact mvT_o hk
  have ea : at_ (mv 4) 3 18 (oN c) 0 = w 4 (c * 3 + 0) + 1 := by
    refine (at_oN (C := 3) (c := 0) (by omega) (by decide)).trans ?_
    rw [hm' _ (by omega), if_neg (show ¬ c * 3 + 0 = c * 3 + 2 by omega), if_pos rfl]
  have o1 : (1 : Int32).toInt = 1 := rfl
  have om1 : (-1 : Int32).toInt = -1 := rfl
  rw [Int32.lt_iff_toInt_lt, h0i] at c4
  have s1 := ti_add (x := w 4 (c * 3 + 0)) (y := 1) (by omega) (by omega)
  have s2 := ti_add (x := w 4 (c * 3 + 2)) (y := -1) (by omega) (by omega)
  refine ⟨⟨Ivt_k i (hmk 2 (by decide)) (hmk 3 (by decide)) (hmk 5 (by decide)) (hmk 8 (by decide)) (fun d hd => ?_), JX_k xx (hmk 2 (by decide)) (hmk 3 (by decide)) (hmk 5 (by decide)) (hmk 7 (by decide)) (jS_k (hmk 1 (by decide)) xx.1) (jW_k (hmk 0 (by decide)) xx.2.1), ?_, jM_k (hmk 3 (by decide)) xM⟩, ea, by omega, hmk 8 (by decide)⟩
  · rw [hm' _ (by omega), hm' _ (by omega), hm' _ (by omega), if_neg (show ¬ d * 3 + 0 = c * 3 + 2 by omega), if_neg (show ¬ d * 3 + 1 = c * 3 + 2 by omega), if_neg (show ¬ d * 3 + 1 = c * 3 + 0 by omega), if_neg (show ¬ d * 3 + 2 = c * 3 + 0 by omega)]
    by_cases z : d = c
    · subst z
      rw [if_pos rfl, if_pos rfl, s1, s2, o1, om1]
      clear s1 s2 ea hm hm' o1 om1
      refine ⟨by omega, by omega, t2, by omega⟩
    · rw [if_neg (show ¬ d * 3 + 0 = c * 3 + 0 by omega), if_neg (show ¬ d * 3 + 2 = c * 3 + 2 by omega)]
      exact i.2.2.2.2.2.2.1 d hd
  · refine jT_e (fun d hd => ?_) xT
    rw [hm' _ (by omega), hm' _ (by omega), hm' _ (by omega), if_neg (show ¬ d * 3 + 0 = c * 3 + 2 by omega), if_neg (show ¬ d * 3 + 1 = c * 3 + 2 by omega), if_neg (show ¬ d * 3 + 1 = c * 3 + 0 by omega), if_neg (show ¬ d * 3 + 2 = c * 3 + 0 by omega)]
    by_cases z : d = c
    · subst z
      rw [if_pos rfl, if_pos rfl]
      exact gr3f _ _ _ _
    · rw [if_neg (show ¬ d * 3 + 0 = c * 3 + 0 by omega), if_neg (show ¬ d * 3 + 2 = c * 3 + 2 by omega)]
theorem kite_J {w : HV} {cf : Nat → Int32} {T K S N O E b p : Nat} {x1 x2 x3 : Int32} (h : J w cf T K S N O E b) (hK : K < 16) (p1 : 1 ≤ p) (p2 : p ≤ 99) (h3 : sm x3 9) : J (akH w x1 x2 x3 (oN p)) cf T (K + 1) S N O E b ∧ akH w x1 x2 x3 (oN p) 8 6 = w 8 6 := by
  obtain ⟨i, xx, xT, xM⟩ := h
  obtain ⟨hO, hE, hS⟩ := Ivt_O i
  rw [akH_n i.1.2.1 hK]
  generalize hw2 : up2 (up2 (up2 (up2 (up2 (up2 w 2 (K * 8 + 1) x1) 2 (K * 8 + 2) x2) 2 (K * 8 + 3) x3) 2 (K * 8 + 4) (oN p)) 2 (K * 8 + 7) (-5)) 8 1 (oN (K + 1)) = w2
  have k8 : ∀ t, w2 8 t = if t = 1 then oN (K + 1) else w 8 t := by
    intro t
    rw [← hw2, u2k, u2n (by decide), u2n (by decide), u2n (by decide), u2n (by decide), u2n (by decide)]
  have k2 : ∀ t, w2 2 t = if t = K * 8 + 7 then -5 else if t = K * 8 + 4 then oN p else if t = K * 8 + 3 then x3 else if t = K * 8 + 2 then x2 else if t = K * 8 + 1 then x1 else w 2 t := by
    intro t
    rw [← hw2, u2n (by decide), u2k, u2k, u2k, u2k, u2k]
  have ko : ∀ t, ¬ (K * 8 + 1 ≤ t ∧ t < K * 8 + 8) → w2 2 t = w 2 t := fun t ht => by rw [k2, if_neg (by omega), if_neg (by omega), if_neg (by omega), if_neg (by omega), if_neg (by omega)]
  have kk : ∀ k : Fin 9, k ≠ 2 → k ≠ 8 → w2 k = w k := by
    intro k h1 h2
    rw [← hw2, up2_kn h2, up2_kn h1, up2_kn h1, up2_kn h1, up2_kn h1, up2_kn h1]
  obtain ⟨⟨b0, b1, b2, b3, b4, b5, b7⟩, ⟨d1, d2, d3, d4, d5⟩, hc, hH, hD, hN, hTl, hZ⟩ := id i
  obtain ⟨xS, xW, xK, xC, xL, xH, xE⟩ := xx
  have z0 := (hZ.1 K (Nat.le_refl _) hK).1
  refine ⟨⟨⟨⟨?_, ?_, ?_, ?_, ?_, ?_, ?_⟩, ⟨d1, by omega, d3, d4, d5⟩, ?_, ?_, ?_, ?_, ?_, ?_, ?_⟩, ⟨?_, ?_, ?_, ?_, ?_, ?_, ?_⟩, jT_k (kk 4 (by decide) (by decide)) xT, jM_k (kk 3 (by decide) (by decide)) xM⟩, by rw [k8, if_neg (by decide)]⟩
  · rw [k8, if_neg (by decide)]; exact b0
  · rw [k8, if_pos rfl]
  · rw [k8, if_neg (by decide)]; exact b2
  · rw [k8, if_neg (by decide)]; exact b3
  · rw [k8, if_neg (by decide)]; exact b4
  · rw [k8, if_neg (by decide)]; exact b5
  · rw [k8, if_neg (by decide)]; exact b7
  · rw [kk 3 (by decide) (by decide)]; exact hc
  · intro r hr
    obtain ⟨k, s, n, p1, p2, p3, p4, p5, p6, p7, p8, p9, pA, pB⟩ := hH r hr
    refine ⟨k, s, n, by omega, p2, p3, ?_, ?_, ?_, ?_, ?_, ?_, ?_, ?_⟩
    · rw [kk 5 (by decide) (by decide)]; exact p4
    · rw [kk 5 (by decide) (by decide)]; exact p5
    · rw [kk 5 (by decide) (by decide)]; exact p6
    · rw [kk 3 (by decide) (by decide)]; exact p7
    · rw [ko _ (by omega)]; exact p8
    · rw [ko _ (by omega)]; exact p9
    · rw [kk 5 (by decide) (by decide)]; exact pA
    · rw [kk 5 (by decide) (by decide)]; exact pB
  · unfold ivD; rw [kk 5 (by decide) (by decide)]; exact hD
  · intro k hk2
    by_cases e : k = K
    · left
      rw [k2, if_pos (by omega)]
    · rw [ko _ (by omega), kk 5 (by decide) (by decide)]
      exact hN k (by omega)
  · exact ivT_e (kk 4 (by decide) (by decide)) hTl
  · intro k h1 h2
    rw [ko _ (by omega), ko _ (by omega), ko _ (by omega)]
    exact hZ.1 k (by omega) h2
  · rw [kk 3 (by decide) (by decide)]; exact hZ.2
  · exact jS_k (kk 1 (by decide) (by decide)) xS
  · exact jW_k (kk 0 (by decide) (by decide)) xW
  · intro k hk
    by_cases e : k = K
    · subst e
      rw [ko (k * 8 + 0) (by omega), z0]
      refine ⟨Or.inl rfl, fun h => absurd h (by decide), ⟨p, p1, p2, ?_⟩, ?_⟩
      · rw [k2, if_neg (by omega), if_pos rfl]
      · rw [k2, if_neg (by omega), if_neg (by omega), if_pos rfl]; exact h3
    · rw [ko _ (by omega), ko _ (by omega), ko _ (by omega), ko _ (by omega)]
      exact xK k (by omega)
  · show ctF (fun k => w2 2 (k * 8 + 0)) 1 K + (if w2 2 (K * 8 + 0) = 1 then 1 else 0) = O
    rw [ko _ (by omega), z0, if_neg (by decide), ctF_c (f := fun k => w2 2 (k * 8 + 0)) (g := fun k => w 2 (k * 8 + 0)) K (fun r hr => ko _ (by omega))]
    exact xC
  · unfold jL; rw [kk 3 (by decide) (by decide)]; exact xL
  · intro r hr hr2
    obtain ⟨k, s, m, M, p', l, q, g1, g2, g3, g4, g5, g6, g7, g8, g9, gA⟩ := xH r hr hr2
    obtain ⟨k', -, -, y1, -, -, y4, -⟩ := hH r hr
    have ek : k' = k := oN_inj (by omega) (by omega) (y4.symm.trans g3)
    refine ⟨k, s, m, M, p', l, q, g1, g2, ?_, ?_, ?_, ?_, ?_, ?_, ?_, gA⟩
    · rw [kk 5 (by decide) (by decide)]; exact g3
    · rw [kk 5 (by decide) (by decide)]; exact g4
    · rw [kk 5 (by decide) (by decide)]; exact g5
    · rw [kk 3 (by decide) (by decide)]; exact g6
    · rw [ko _ (by omega)]; exact g7
    · rw [kk 5 (by decide) (by decide)]; exact g8
    · rw [kk 5 (by decide) (by decide)]; exact g9
  · unfold jE; rw [kk 7 (by decide) (by decide)]; exact xE
theorem spool_J {w : HV} {cf : Nat → Int32} {T K S N O E b m : Nat} (h : J w cf T K S N O E b) (hS10 : S < 10) (m2 : m ≤ 300) : J (asH w (oN m)) (fun t => if t = 6 then cf 6 + oN m else cf t) T K (S + 1) N O E b ∧ asH w (oN m) 8 6 = w 8 6 := by
  obtain ⟨i, xx, xT, xM⟩ := h
  obtain ⟨hO, hE, hS⟩ := Ivt_O i
  have e82 : w 8 2 = oN S := i.1.2.2.1
  have ea : asH w (oN m) = up2 (up2 (up2 w 3 (S * 4 + 0) (oN m)) 3 (S * 4 + 2) (-5)) 8 2 (oN (S + 1)) := by
    show up2 (pt (pt w 3 4 40 (w 8 2) 0 (oN m)) 3 4 40 (w 8 2) 2 (-5)) 8 2 (w 8 2 + 1) = _
    rw [e82, ptsl_0 hS10, ptsl_2 hS10, oN_succ]
  rw [ea]
  generalize hw2 : up2 (up2 (up2 w 3 (S * 4 + 0) (oN m)) 3 (S * 4 + 2) (-5)) 8 2 (oN (S + 1)) = w2
  have k8 : ∀ t, w2 8 t = if t = 2 then oN (S + 1) else w 8 t := by
    intro t
    rw [← hw2, u2k, u2n (by decide), u2n (by decide)]
  have k3 : ∀ t, w2 3 t = if t = S * 4 + 2 then -5 else if t = S * 4 + 0 then oN m else w 3 t := by
    intro t
    rw [← hw2, u2n (by decide), u2k, u2k]
  have ko : ∀ t, t ≠ S * 4 + 2 → t ≠ S * 4 + 0 → w2 3 t = w 3 t := fun t h1 h2 => by rw [k3, if_neg h1, if_neg h2]
  have kk : ∀ k : Fin 9, k ≠ 3 → k ≠ 8 → w2 k = w k := by
    intro k h1 h2
    rw [← hw2, up2_kn h2, up2_kn h1, up2_kn h1]
  obtain ⟨⟨b0, b1, b2, b3, b4, b5, b7⟩, ⟨d1, d2, d3, d4, d5⟩, hc, hH, hD, hN, hTl, hZ⟩ := id i
  obtain ⟨xS, xW, xK, xC, xL, xH, xE⟩ := xx
  obtain ⟨y1, y3⟩ := hZ.2 S (Nat.le_refl _) hS10
  refine ⟨⟨⟨⟨?_, ?_, ?_, ?_, ?_, ?_, ?_⟩, ⟨d1, d2, by omega, d4, d5⟩, ?_, ?_, ?_, ?_, ?_, ?_, ?_⟩, ⟨?_, ?_, ?_, ?_, ?_, ?_, ?_⟩, ?_, ?_⟩, by rw [k8, if_neg (by decide)]⟩
  · rw [k8, if_neg (by decide)]; exact b0
  · rw [k8, if_neg (by decide)]; exact b1
  · rw [k8, if_pos rfl]
  · rw [k8, if_neg (by decide)]; exact b3
  · rw [k8, if_neg (by decide)]; exact b4
  · rw [k8, if_neg (by decide)]; exact b5
  · rw [k8, if_neg (by decide)]; exact b7
  · show cnF (fun r => w2 3 (r * 4 + 2)) S + (if w2 3 (S * 4 + 2) = -5 then 0 else 1) = O
    rw [k3, if_pos rfl, if_pos rfl, cnF_c (f := fun r => w2 3 (r * 4 + 2)) (g := fun r => w 3 (r * 4 + 2)) S (fun r hr => ko _ (by omega) (by omega))]
    exact hc
  · intro r hr
    obtain ⟨k, s, n, p1, p2, p3, p4, p5, p6, p7, p8, p9, pA, pB⟩ := hH r hr
    refine ⟨k, s, n, p1, by omega, p3, ?_, ?_, ?_, ?_, ?_, ?_, ?_, ?_⟩
    · rw [kk 5 (by decide) (by decide)]; exact p4
    · rw [kk 5 (by decide) (by decide)]; exact p5
    · rw [kk 5 (by decide) (by decide)]; exact p6
    · rw [ko _ (by omega) (by omega)]; exact p7
    · rw [kk 2 (by decide) (by decide)]; exact p8
    · rw [kk 2 (by decide) (by decide)]; exact p9
    · rw [kk 5 (by decide) (by decide)]; exact pA
    · rw [kk 5 (by decide) (by decide)]; exact pB
  · unfold ivD; rw [kk 5 (by decide) (by decide)]; exact hD
  · unfold ivN; rw [kk 5 (by decide) (by decide), kk 2 (by decide) (by decide)]; exact hN
  · exact ivT_e (kk 4 (by decide) (by decide)) hTl
  · rw [kk 2 (by decide) (by decide)]; exact hZ.1
  · intro r h1 h2
    rw [ko _ (by omega) (by omega), ko _ (by omega) (by omega)]
    exact hZ.2 r (by omega) h2
  · exact jS_k (kk 1 (by decide) (by decide)) xS
  · exact jW_k (kk 0 (by decide) (by decide)) xW
  · unfold jK; rw [kk 2 (by decide) (by decide)]; exact xK
  · unfold jC; rw [kk 2 (by decide) (by decide)]; exact xC
  · intro s hs
    by_cases e : s = S
    · subst e
      rw [k3, if_neg (by omega), if_pos rfl, ko _ (by omega) (by omega), y1]
      exact ⟨sm_oN m2 (by decide), ⟨by decide, by decide⟩⟩
    · rw [ko _ (by omega) (by omega), ko _ (by omega) (by omega)]
      exact xL s (by omega)
  · intro r hr hr2
    obtain ⟨k, s, m', M, p', l, q, g1, g2, g3, g4, g5, g6, g7, g8, g9, gA⟩ := xH r hr hr2
    obtain ⟨-, s', -, -, z2, -, -, z5, -⟩ := hH r hr
    have es : s' = s := oN_inj (by omega) (by omega) (z5.symm.trans g4)
    refine ⟨k, s, m', M, p', l, q, g1, g2, ?_, ?_, ?_, ?_, ?_, ?_, ?_, gA⟩
    · rw [kk 5 (by decide) (by decide)]; exact g3
    · rw [kk 5 (by decide) (by decide)]; exact g4
    · rw [kk 5 (by decide) (by decide)]; exact g5
    · rw [ko _ (by omega) (by omega)]; exact g6
    · rw [kk 2 (by decide) (by decide)]; exact g7
    · rw [kk 5 (by decide) (by decide)]; exact g8
    · rw [kk 5 (by decide) (by decide)]; exact g9
  · unfold jE; rw [kk 7 (by decide) (by decide)]; exact xE
  · intro d hd
    show _ = 5 + (if d = 6 then _ else cf d)
    rw [if_neg (by omega), kk 4 (by decide) (by decide)]
    exact xT d hd
  · show suF (fun s => w2 3 (s * 4 + 0)) 0 (S + 1) 0 + suF (fun s => w2 3 (s * 4 + 3)) 0 (S + 1) 0 = (if 6 = 6 then cf 6 + oN m else cf 6)
    unfold jM at xM
    rw [if_pos rfl, suF_s, suF_s, Nat.zero_add, k3 (S * 4 + 0), if_neg (by omega), if_pos rfl, ko (S * 4 + 3) (by omega) (by omega), y3, suF_c (f := fun s => w2 3 (s * 4 + 0)) (g := fun s => w 3 (s * 4 + 0)) S 0 0 (fun r _ hr => ko _ (by omega) (by omega)), suF_c (f := fun s => w2 3 (s * 4 + 3)) (g := fun s => w 3 (s * 4 + 3)) S 0 0 (fun r _ hr => ko _ (by omega) (by omega)), ← xM]
    grind
