/-! PURE: an hour of a hire -/
theorem tcH_eq {w : HV} {P : Nat} {c : Int32} (hP : P < 10) : tcH w (oN P) c = up2 (up2 w 5 (P * 7 + 5) (w 5 (P * 7 + 5) + c)) 8 6 (w 8 6 + c) := by
  unfold tcH
  rw [pahr_5 hP]
theorem Ivt_pay {w : HV} {T K S N O E b P : Nat} {x y : Int32} (i : Ivt w T K S N O E b 100) (hP : P < O) : Ivt (up2 (up2 w 5 (P * 7 + 5) x) 8 6 y) T K S N O E b 100 := by
  obtain ⟨hO, hE, hS⟩ := Ivt_O i
  refine Ivt_c i (fun t ht => by rw [u2k, if_neg (by omega), u2n (by decide)]) (by rw [u2k, if_neg (by decide), u2n (by decide)]; exact i.1.2.2.2.2.2.2) (fun r hr => by rw [u2n (by decide), u2n (by decide)]) (fun r hr => ⟨by rw [u2n (by decide), u2n (by decide)], by rw [u2n (by decide), u2n (by decide)]⟩) (fun r hr => ⟨?_, ?_, ?_, ?_⟩) (fun r hr hr2 => ⟨by omega, ?_⟩) (by rw [up2_kn (by decide), up2_kn (by decide)]) (fun r _ _ => ⟨by rw [u2n (by decide), u2n (by decide)], by rw [u2n (by decide), u2n (by decide)]⟩) (fun r _ _ => ⟨by rw [u2n (by decide), u2n (by decide)], by rw [u2n (by decide), u2n (by decide)]⟩)
  all_goals rw [u2n (by decide), u2k, if_neg (by omega)]
theorem JX_pay {w : HV} {K S O E P : Nat} {x y : Int32} (h : JX w K S O E 100) (hK : K ≤ 16) : JX (up2 (up2 w 5 (P * 7 + 5) x) 8 6 y) K S O E P := by
  refine JX_u h hK (by rw [up2_kn (by decide), up2_kn (by decide)]) (by rw [up2_kn (by decide), up2_kn (by decide)]) (fun k _ => ?_) (by rw [up2_kn (by decide), up2_kn (by decide)]) ?_ ?_
  · refine ⟨?_, ?_, ?_, ?_⟩ <;> rw [u2n (by decide), u2n (by decide)]
  · intro s hs
    rw [u2n (by decide), u2n (by decide), u2n (by decide), u2n (by decide)]
    exact h.2.2.2.2.1 s hs
  · intro r hr hrP
    by_cases e : r = 100
    · subst e
      refine jR_c (r := 100) (fun c hc => ?_) (fun s hs _ => by rw [u2n (by decide), u2n (by decide)]) (fun k hk => by rw [u2n (by decide), u2n (by decide)]) ?_
      · rw [u2n (by decide), u2k, if_neg (by omega)]
      · exact absurd hr (by
          obtain ⟨-, -, -, xC, -⟩ := h
          have : ∀ n f, ctF f 1 n ≤ n := by
            intro n f
            induction n with
            | zero => exact Nat.le_refl _
            | succ n ih => unfold ctF; split <;> omega
          have h2 := this K (fun k => w 2 (k * 8 + 0))
          unfold jC at xC
          omega)
    · refine jR_c (r := r) (fun c hc => ?_) (fun s hs _ => by rw [u2n (by decide), u2n (by decide)]) (fun k hk => by rw [u2n (by decide), u2n (by decide)]) (h.2.2.2.2.2.1 r hr e)
      rw [u2n (by decide), u2k, if_neg (by omega)]
/-- an hour less is left -/
theorem fi_J {w : HV} {cf : Nat → Int32} {T K S N O E b P l : Nat} (i : Ivt w T K S N O E b 100) (x : JX w K S O E P) (xT : jT w cf) (xM : jM w S cf) (hP : P < O) (hl : l ≤ 11) (el : w 5 (P * 7 + 3) = oN (l + 1)) (hR : 0 < l → jR (up2 w 5 (P * 7 + 3) (oN l)) P) : (J (fiH w (oN P)) cf T K S N (O - 1) (E + 1) b ∧ fiH w (oN P) 8 5 = oN (E + 1)) ∨ (J (fiH w (oN P)) cf T K S N O E b ∧ fiH w (oN P) 8 5 = oN E) := by
  obtain ⟨hO, hE, hS⟩ := Ivt_O i
  have hP10 : P < 10 := by omega
  have hK : K ≤ 16 := i.2.1.2.1
  have w1 : fiH1 w (oN P) = up2 w 5 (P * 7 + 3) (oN l) := by
    unfold fiH1
    rw [pahr_3 hP10, el, oN_dec]
  have e1 : hr (fiH1 w (oN P)) (oN P) 3 = oN l := by rw [hr_3 hP10, w1, u2k, if_pos rfl]
  have hI : Ivt (up2 w 5 (P * 7 + 3) (oN l)) T K S N O E b P := by
    refine Ivt_c i (fun t ht => u2n (by decide)) (by rw [u2n (by decide)]; exact i.1.2.2.2.2.2.2) (fun r hr => u2n (by decide)) (fun r hr => ⟨u2n (by decide), u2n (by decide)⟩) (fun r hr => ⟨by rw [u2k, if_neg (by omega)], by rw [u2k, if_neg (by omega)], by rw [u2k, if_neg (by omega)], by rw [u2k, if_neg (by omega)]⟩) (fun r hr hr2 => ⟨by omega, by rw [u2k, if_neg (by omega)]⟩) (up2_kn (by decide)) (fun r _ _ => ⟨u2n (by decide), u2n (by decide)⟩) (fun r _ _ => ⟨u2n (by decide), u2n (by decide)⟩)
  have hX : ∀ P2, (∀ r, r < O → r ≠ P2 → r = P → jR (up2 w 5 (P * 7 + 3) (oN l)) P) → JX (up2 w 5 (P * 7 + 3) (oN l)) K S O E P2 := by
    intro P2 hp
    refine JX_u x hK (up2_kn (by decide)) (up2_kn (by decide)) (fun k _ => ⟨u2n (by decide), u2n (by decide), u2n (by decide), u2n (by decide)⟩) (up2_kn (by decide)) ?_ ?_
    · intro s hs
      rw [u2n (by decide), u2n (by decide)]
      exact x.2.2.2.2.1 s hs
    · intro r hr hr2
      by_cases e : r = P
      · rw [e]; exact hp r hr hr2 e
      · exact jR_c (r := r) (fun c hc => by rw [u2k, if_neg (by omega)]) (fun s _ _ => u2n (by decide)) (fun k _ => u2n (by decide)) (x.2.2.2.2.2.1 r hr e)
  have hT : jT (up2 w 5 (P * 7 + 3) (oN l)) cf := jT_e (fun c _ => by rw [u2n (by decide), u2n (by decide), u2n (by decide)]) xT
  have hM : jM (up2 w 5 (P * 7 + 3) (oN l)) S cf := jM_e (fun s _ => ⟨u2n (by decide), u2n (by decide)⟩) xM
  unfold fiH
  rw [e1, w1]
  by_cases hl0 : l = 0
  · subst hl0
    rw [if_neg (show ¬ (0 : Int32) < oN 0 by decide)]
    left
    exact J_end (W := 0) hI (hX P (fun r _ h1 h2 => absurd h2 h1)) hT hM hP (by decide)
  · rw [if_pos (show (0 : Int32) < oN l by show oN 0 < oN l; rw [oN_lt (by decide) (by omega)]; omega)]
    right
    refine ⟨⟨Ivt_p hI ⟨l, by omega, by omega, by rw [u2k, if_pos rfl]⟩, hX 100 (fun r _ _ _ => hR (by omega)), hT, hM⟩, ?_⟩
    rw [u2n (by decide)]
    exact i.1.2.2.2.2.2.1
/-- the spools of two hires are two -/
theorem two_sp {w : HV} {T K S N O E b P Q s : Nat} (i : Ivt w T K S N O E b 100) (hP : P < O) (hQ : Q < O) (hne : Q ≠ P) (hs : s < 10) (e1 : w 5 (P * 7 + 1) = oN s) : w 5 (Q * 7 + 1) ≠ oN s := by
  intro e2
  obtain ⟨-, ⟨b1, b2, b3, b4, b5⟩, -, hH, hD, -⟩ := i
  obtain ⟨k, s1, n, p1, p2, p3, p4, p5, p6, p7, -⟩ := hH P hP
  obtain ⟨k', s2, n', r1, r2, r3, r4, r5, r6, r7, -⟩ := hH Q hQ
  have g1 : s1 = s := oN_inj (by omega) (by omega) (p5.symm.trans e1)
  have g2 : s2 = s := oN_inj (by omega) (by omega) (r5.symm.trans e2)
  subst g1
  subst g2
  exact hne (hD Q hQ P hP (by rw [r6, p6, ← r7, ← p7]))
set_option maxHeartbeats 1000000 in
theorem sn_J {w v : HV} {cf : Nat → Int32} {T K S N O E b P s m M : Nat} (i : Ivt v T K S N O E b 100) (x : JX w K S O E 100) (xT : jT v cf) (xM : jM v S cf) (hP : P < O) (hs : s < S) (e1 : v 5 (P * 7 + 1) = oN s) (em : v 5 (P * 7 + 2) = oN m) (eM : v 3 (s * 4 + 0) = oN M) (hm : m ≤ M) (hM3 : M ≤ 300)
    (y0 : v 0 = w 0) (y1 : v 1 = w 1) (y2 : ∀ k, k < 16 → v 2 (k * 8 + 0) = w 2 (k * 8 + 0) ∧ v 2 (k * 8 + 7) = w 2 (k * 8 + 7) ∧ v 2 (k * 8 + 4) = w 2 (k * 8 + 4) ∧ v 2 (k * 8 + 3) = w 2 (k * 8 + 3)) (y3 : ∀ t, t ≠ s * 4 + 1 → v 3 t = w 3 t) (y5 : v 5 = w 5) (y7 : v 7 = w 7) :
    J (snH v (oN P)) cf T K S N (O - 1) (E + 1) b ∧ snH v (oN P) 8 5 = oN (E + 1) := by
  obtain ⟨hO, hE, hS⟩ := Ivt_O i
  have hP10 : P < 10 := by omega
  have hs10 : s < 10 := by omega
  have hK : K ≤ 16 := i.2.1.2.1
  have wc : snH1 v (oN P) = up2 (up2 (up2 v 3 (s * 4 + 0) (v 3 (s * 4 + 0) + -(oN m))) 3 (s * 4 + 3) (v 3 (s * 4 + 3) + oN m)) 3 (s * 4 + 1) 0 := by
    unfold snH1
    rw [hr_1 hP10, hr_2 hP10, e1, em, pasl_0 hs10, pasl_3 hs10, ptsl_1 hs10, u2k, if_neg (by omega)]
  have w5 : ∀ t, snH1 v (oN P) 5 t = v 5 t := by
    intro t
    rw [wc, u2n (by decide), u2n (by decide), u2n (by decide)]
  have wH : ∃ C X : Int32, snH v (oN P) = enH (up2 (up2 (snH1 v (oN P)) 5 (P * 7 + 5) (v 5 (P * 7 + 5) + C)) 8 6 (v 8 6 + C)) (oN P) (oN 2) X := by
    refine ⟨snC v (oN P), hr v (oN P) 4, ?_⟩
    unfold snH
    rw [pahr_5 hP10, w5]
    rfl
  obtain ⟨C, X, wH⟩ := wH
  rw [wH]
  clear wH
  generalize hW1 : up2 (up2 (snH1 v (oN P)) 5 (P * 7 + 5) (v 5 (P * 7 + 5) + C)) 8 6 (v 8 6 + C) = W1
  have z5 : ∀ t, t ≠ P * 7 + 5 → W1 5 t = v 5 t := by
    intro t ht
    rw [← hW1, u2n (by decide), u2k, if_neg ht, w5]
  have z8 : ∀ t, t ≠ 6 → W1 8 t = v 8 t := by
    intro t ht
    rw [← hW1, u2k, if_neg ht, u2n (by decide), wc, u2n (by decide), u2n (by decide), u2n (by decide)]
  have zk : ∀ k : Fin 9, k ≠ 8 → k ≠ 5 → k ≠ 3 → W1 k = v k := by
    intro k h8 h5 h3
    rw [← hW1, up2_kn h8, up2_kn h5, wc, up2_kn h3, up2_kn h3, up2_kn h3]
  have z3 : ∀ t, W1 3 t = if t = s * 4 + 1 then 0 else if t = s * 4 + 3 then v 3 (s * 4 + 3) + oN m else if t = s * 4 + 0 then v 3 (s * 4 + 0) + -(oN m) else v 3 t := by
    intro t
    rw [← hW1, u2n (by decide), u2n (by decide), wc, u2k, u2k, u2k]
  have eMm : v 3 (s * 4 + 0) + -(oN m) = oN (M - m) := by rw [eM, ← Int32.sub_eq_add_neg, oN_sub hm]
  have hI : Ivt W1 T K S N O E b P := by
    refine Ivt_c i (fun t ht => z8 t (by omega)) (by rw [z8 7 (by decide)]; exact i.1.2.2.2.2.2.2) (fun r hr => ?_) (fun r hr => ⟨by rw [zk 2 (by decide) (by decide) (by decide)], by rw [zk 2 (by decide) (by decide) (by decide)]⟩) (fun r hr => ⟨z5 _ (by omega), z5 _ (by omega), z5 _ (by omega), z5 _ (by omega)⟩) (fun r hr hr2 => ⟨by omega, z5 _ (by omega)⟩) (zk 4 (by decide) (by decide) (by decide)) (fun r _ _ => ⟨by rw [zk 2 (by decide) (by decide) (by decide)], by rw [zk 2 (by decide) (by decide) (by decide)]⟩) (fun r h1 h2 => ⟨?_, ?_⟩)
    · rw [z3, if_neg (by omega), if_neg (by omega), if_neg (by omega)]
    · rw [z3, if_neg (by omega), if_neg (by omega), if_neg (by omega)]
    · rw [z3, if_neg (by omega), if_neg (by omega), if_neg (by omega)]
  have hX : JX W1 K S O E P := by
    refine JX_u x hK ((zk 0 (by decide) (by decide) (by decide)).trans y0) ((zk 1 (by decide) (by decide) (by decide)).trans y1) (fun k hk => ?_) ((zk 7 (by decide) (by decide) (by decide)).trans y7) ?_ ?_
    · rw [zk 2 (by decide) (by decide) (by decide)]; exact y2 k hk
    · intro q hq
      by_cases e : q = s
      · subst e
        rw [z3, if_neg (by omega), if_neg (by omega), if_pos rfl, eMm, z3, if_pos rfl]
        exact ⟨sm_oN (by omega) (by decide), ⟨by decide, by decide⟩⟩
      · rw [z3, if_neg (by omega), if_neg (by omega), if_neg (by omega), z3, if_neg (by omega), if_neg (by omega), if_neg (by omega), y3 _ (by omega), y3 _ (by omega)]
        exact x.2.2.2.2.1 q hq
    · intro r hr hrP
      refine jR_c (r := r) (fun c hc => by rw [z5 _ (by omega), y5]) (fun q hq e => ?_) (fun k hk => by rw [zk 2 (by decide) (by decide) (by decide)]; exact (y2 k hk).2.2.1) (x.2.2.2.2.2.1 r hr (by omega))
      have hqs : q ≠ s := fun h => two_sp i hP hr hrP hs10 e1 (by rw [y5, e, h])
      rw [z3, if_neg (by omega), if_neg (by omega), if_neg (by omega), y3 _ (by omega)]
  have hT : jT W1 cf := jT_e (fun c _ => by rw [zk 4 (by decide) (by decide) (by decide)]) xT
  have hM : jM W1 S cf := by
    unfold jM at xM ⊢
    rw [suF_u (f := fun q => v 3 (q * 4 + 0)) (g := fun q => W1 3 (q * 4 + 0)) (s := s) (x := -(oN m)) (by show W1 3 (s * 4 + 0) = v 3 (s * 4 + 0) + -(oN m); rw [z3, if_neg (by omega), if_neg (by omega), if_pos rfl]) (fun r hr => by show W1 3 (r * 4 + 0) = v 3 (r * 4 + 0); rw [z3, if_neg (by omega), if_neg (by omega), if_neg (by omega)]) S 0 0 (Nat.zero_le _) (by omega),
      suF_u (f := fun q => v 3 (q * 4 + 3)) (g := fun q => W1 3 (q * 4 + 3)) (s := s) (x := oN m) (by show W1 3 (s * 4 + 3) = v 3 (s * 4 + 3) + oN m; rw [z3, if_neg (by omega), if_pos rfl]) (fun r hr => by show W1 3 (r * 4 + 3) = v 3 (r * 4 + 3); rw [z3, if_neg (by omega), if_neg (by omega), if_neg (by omega)]) S 0 0 (Nat.zero_le _) (by omega), grM]
    exact xM
  exact J_end (W := 2) hI hX hT hM hP (by decide)
