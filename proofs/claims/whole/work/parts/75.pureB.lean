/-! PURE: acts: winds, tails, settings; what would pass -/
theorem rel_s {w : HV} {s s2 : Nat → Int32} {S O E P c0 : Nat} {x : Int32} (h : Rel w s S O E P) (hS : S ≤ 10) (hO : O ≤ 10) (hc0 : c0 < 5) (hs : ∀ u, s2 u = if u = 1 + c0 then x else s u) : Rel (up2 w 1 (c0) x) s2 S O E P := by
  obtain ⟨⟨a0, a1, a6, a7, a8, a9, a12, a14, a16⟩, hw, hk, hsp, ht, hh, he, hl⟩ := h
  refine ⟨⟨?_, ?_, ?_, ?_, ?_, ?_, ?_, ?_, ?_⟩, ?_, ?_, ?_, ?_, ?_, ?_, ?_⟩
  · rw [hs, if_neg (by omega), u2n (by decide)]; exact a0
  · intro c hc
    by_cases e : c = c0
    · rw [hs, if_pos (by omega), u2k, if_pos (by omega)]
    · rw [hs, if_neg (by omega), u2k, if_neg (by omega)]; exact a1 c hc
  · rw [hs, if_neg (by omega), u2n (by decide)]; exact a6
  · rw [hs, if_neg (by omega), u2n (by decide)]; exact a7
  · rw [hs, if_neg (by omega), u2n (by decide)]; exact a8
  · intro c hc
    rw [hs, if_neg (by omega), u2n (by decide)]; exact a9 c hc
  · rw [hs, if_neg (by omega), u2n (by decide)]; exact a12
  · rw [hs, if_neg (by omega), u2n (by decide)]; exact a14
  · rw [hs, if_neg (by omega), u2n (by decide)]; exact a16
  · intro c hc
    rw [hs, if_neg (by omega), u2n (by decide)]; exact hw c hc
  · intro r hr c hc
    rw [hs, if_neg (by omega), u2n (by decide)]; exact hk r hr c hc
  · intro t2 h2
    rw [hs, if_neg (by omega), u2n (by decide)]; exact hsp t2 h2
  · intro t2 h2
    rw [hs, if_neg (by omega), u2n (by decide)]; exact ht t2 h2
  · intro r hr
    refine ⟨?_, fun c hc hx => ?_⟩
    · rw [hs, if_neg (by omega), u2n (by decide)]; exact (hh r hr).1
    · rw [hs, if_neg (by omega), u2n (by decide)]; exact (hh r hr).2 c hc hx
  · refine ⟨?_, fun j hj c hc => ?_⟩
    · rw [hs, if_neg (by omega)]; exact he.1
    · have hj8 : j < 8 := by omega
      rw [hs, if_neg (by omega), u2n (by decide)]; exact he.2 j hj c hc
  · show s2 13 = _
    rw [hs, if_neg (by omega)]
    refine hl.trans (suF_c _ _ _ (fun r h1 h2 => ?_))
    rw [u2n (by decide)]
theorem Ivt_k {w w2 : HV} {T K S N O E b P : Nat} (h : Ivt w T K S N O E b P) (e2 : w2 2 = w 2) (e3 : w2 3 = w 3) (e5 : w2 5 = w 5) (e8 : w2 8 = w 8) (hT : ivT w2 E) : Ivt w2 T K S N O E b P := by
  obtain ⟨h8, hB, hc, hH, hD, hN, hTl, hZ⟩ := h
  refine ⟨?_, hB, ?_, ?_, ?_, ?_, hT, ?_, ?_⟩
  · unfold iv8; rw [e8]; exact h8
  · rw [e3]; exact hc
  · unfold ivH; rw [e5, e3, e2]; exact hH
  · unfold ivD; rw [e5]; exact hD
  · unfold ivN; rw [e5, e2]; exact hN
  · rw [e2]; exact hZ.1
  · rw [e3]; exact hZ.2
theorem ivT_e {w w2 : HV} {E : Nat} (e : w2 4 = w 4) (h : ivT w E) : ivT w2 E := by unfold ivT; rw [e]; exact h
/-- only tails change -/
theorem rel_T {w w2 : HV} {s s2 : Nat → Int32} {S O E P : Nat} (h : Rel w s S O E P) (hO : O ≤ 10) (hw2 : ∀ k : Fin 9, k ≠ 4 → w2 k = w k) (h4 : ∀ t, t < 18 → s2 (1169 + t) = w2 4 t) (hs : ∀ u, u < 1289 → ¬ (1169 ≤ u ∧ u < 1187) → s2 u = s u) : Rel w2 s2 S O E P := by
  obtain ⟨⟨a0, a1, a6, a7, a8, a9, a12, a14, a16⟩, hw, hk, hsp, ht, hh, he, hl⟩ := h
  refine ⟨⟨?_, ?_, ?_, ?_, ?_, ?_, ?_, ?_, ?_⟩, ?_, ?_, ?_, ?_, ?_, ?_, ?_⟩
  · rw [hs _ (by omega) (by omega), hw2 8 (by decide)]; exact a0
  · intro c hc; rw [hs _ (by omega) (by omega), hw2 1 (by decide)]; exact a1 c hc
  · rw [hs _ (by omega) (by omega), hw2 8 (by decide)]; exact a6
  · rw [hs _ (by omega) (by omega), hw2 8 (by decide)]; exact a7
  · rw [hs _ (by omega) (by omega), hw2 8 (by decide)]; exact a8
  · intro c hc; rw [hs _ (by omega) (by omega), hw2 7 (by decide)]; exact a9 c hc
  · rw [hs _ (by omega) (by omega), hw2 8 (by decide)]; exact a12
  · rw [hs _ (by omega) (by omega), hw2 8 (by decide)]; exact a14
  · rw [hs _ (by omega) (by omega), hw2 8 (by decide)]; exact a16
  · intro c hc; rw [hs _ (by omega) (by omega), hw2 0 (by decide)]; exact hw c hc
  · intro r hr c hc; rw [hs _ (by omega) (by omega), hw2 2 (by decide)]; exact hk r hr c hc
  · intro t h; rw [hs _ (by omega) (by omega), hw2 3 (by decide)]; exact hsp t h
  · exact h4
  · intro r hr
    refine ⟨?_, fun c hc hx => ?_⟩
    · rw [hs _ (by omega) (by omega), hw2 5 (by decide)]; exact (hh r hr).1
    · rw [hs _ (by omega) (by omega), hw2 5 (by decide)]; exact (hh r hr).2 c hc hx
  · refine ⟨?_, fun j hj c hc => ?_⟩
    · rw [hs _ (by omega) (by omega)]; exact he.1
    · have hj8 : j < 8 := by omega
      rw [hs _ (by omega) (by omega), hw2 6 (by decide)]; exact he.2 j hj c hc
  · show s2 13 = _
    rw [hs _ (by omega) (by omega), hw2 3 (by decide)]; exact hl
theorem lyw_k {w : HV} {x : Int32} {a n : Nat} {k : Fin 9} (h : k ≠ 0) : lyw w x a n k = w k := by
  funext t
  unfold lyw
  rw [if_neg (fun q => h q.1)]
theorem lyw_z {w : HV} {x : Int32} {a n t : Nat} : lyw w x a n 0 t = if a ≤ t ∧ t < n then x else w 0 t := by
  unfold lyw
  by_cases h : a ≤ t ∧ t < n
  · rw [if_pos ⟨rfl, h.1, h.2⟩, if_pos h]
  · rw [if_neg (fun q => h q.2), if_neg h]
/-- only winds change -/
theorem rel_w {w : HV} {s s2 : Nat → Int32} {S O E P a n : Nat} {x : Int32} (h : Rel w s S O E P) (hO : O ≤ 10) (hn : n ≤ 1000) (hs : ∀ u, u < 1289 → s2 u = if 17 + a ≤ u ∧ u < 17 + n then x else s u) : Rel (lyw w x a n) s2 S O E P := by
  obtain ⟨⟨a0, a1, a6, a7, a8, a9, a12, a14, a16⟩, hw, hk, hsp, ht, hh, he, hl⟩ := h
  refine ⟨⟨?_, ?_, ?_, ?_, ?_, ?_, ?_, ?_, ?_⟩, ?_, ?_, ?_, ?_, ?_, ?_, ?_⟩
  · rw [hs _ (by omega), if_neg (by omega), lyw_k (by decide)]; exact a0
  · intro c hc; rw [hs _ (by omega), if_neg (by omega), lyw_k (by decide)]; exact a1 c hc
  · rw [hs _ (by omega), if_neg (by omega), lyw_k (by decide)]; exact a6
  · rw [hs _ (by omega), if_neg (by omega), lyw_k (by decide)]; exact a7
  · rw [hs _ (by omega), if_neg (by omega), lyw_k (by decide)]; exact a8
  · intro c hc; rw [hs _ (by omega), if_neg (by omega), lyw_k (by decide)]; exact a9 c hc
  · rw [hs _ (by omega), if_neg (by omega), lyw_k (by decide)]; exact a12
  · rw [hs _ (by omega), if_neg (by omega), lyw_k (by decide)]; exact a14
  · rw [hs _ (by omega), if_neg (by omega), lyw_k (by decide)]; exact a16
  · intro c hc
    rw [hs _ (by omega), lyw_z]
    by_cases q : a ≤ c ∧ c < n
    · rw [if_pos q, if_pos (by omega)]
    · rw [if_neg q, if_neg (by omega)]; exact hw c hc
  · intro r hr c hc; rw [hs _ (by omega), if_neg (by omega), lyw_k (by decide)]; exact hk r hr c hc
  · intro t h; rw [hs _ (by omega), if_neg (by omega), lyw_k (by decide)]; exact hsp t h
  · intro t h; rw [hs _ (by omega), if_neg (by omega), lyw_k (by decide)]; exact ht t h
  · intro r hr
    refine ⟨?_, fun c hc hx => ?_⟩
    · rw [hs _ (by omega), if_neg (by omega), lyw_k (by decide)]; exact (hh r hr).1
    · rw [hs _ (by omega), if_neg (by omega), lyw_k (by decide)]; exact (hh r hr).2 c hc hx
  · refine ⟨?_, fun j hj c hc => ?_⟩
    · rw [hs _ (by omega), if_neg (by omega)]; exact he.1
    · have hj8 : j < 8 := by omega
      rw [hs _ (by omega), if_neg (by omega), lyw_k (by decide)]; exact he.2 j hj c hc
  · show s2 13 = _
    rw [hs _ (by omega), if_neg (by omega), lyw_k (by decide)]; exact hl
theorem lyF_ok {x : Int32} : ∀ (m n : Nat) (c : Int32) (v : HV), (lyF x n m c v).1 = c + smF (fun j => if v 1 (17 + j) = x then 0 else 1) n m ∧ ∀ t, (lyF x n m c v).2 1 t = if 17 + n ≤ t ∧ t < 17 + n + m then x else v 1 t := by
  intro m
  induction m with
  | zero =>
    intro n c v
    exact ⟨(Int32.add_zero c).symm, fun t => by rw [if_neg (by omega)]; rfl⟩
  | succ m ih =>
    intro n c v
    obtain ⟨h1, h2⟩ := ih (n + 1) (c + (if v 1 (17 + n) = x then 0 else 1)) (up2 v 1 (17 + n) x)
    constructor
    · show (lyF x (n + 1) m (c + (if v 1 (17 + n) = x then 0 else 1)) (up2 v 1 (17 + n) x)).1 = _
      rw [h1]
      show _ = c + ((if v 1 (17 + n) = x then 0 else 1) + smF (fun j => if v 1 (17 + j) = x then 0 else 1) (n + 1) m)
      rw [← Int32.add_assoc, smF_s0, smF_s0]
      refine congrArg (fun z => _ + z) (suF_c _ _ _ (fun r h3 _ => ?_))
      show (if up2 v 1 (17 + n) x 1 (17 + r) = x then (0 : Int32) else 1) = _
      rw [u21, if_neg (show ¬ 17 + r = 17 + n by omega)]
    · intro t
      show (lyF x (n + 1) m (c + (if v 1 (17 + n) = x then 0 else 1)) (up2 v 1 (17 + n) x)).2 1 t = _
      rw [h2, u21]
      by_cases q : 17 + (n + 1) ≤ t ∧ t < 17 + (n + 1) + m
      · rw [if_pos q, if_pos (by omega)]
      · rw [if_neg q]
        by_cases q2 : t = 17 + n
        · rw [if_pos q2, if_pos (by omega)]
        · rw [if_neg q2, if_neg (by omega)]
theorem smF_n {f : Nat → Int32} (hf : ∀ j, f j = 0 ∨ f j = 1) : ∀ k n, ∃ c, c ≤ k ∧ smF f n k = oN c ∧ (c = 0 → ∀ j, n ≤ j → j < n + k → f j = 0) := by
  intro k
  induction k with
  | zero => intro n; exact ⟨0, Nat.le_refl _, rfl, fun _ j h1 h2 => by omega⟩
  | succ k ih =>
    intro n
    obtain ⟨c, h1, h2, h3⟩ := ih (n + 1)
    unfold smF
    rcases hf n with q | q
    · refine ⟨c, by omega, by rw [q, h2, Int32.zero_add], fun hc j h4 h5 => ?_⟩
      by_cases e : j = n
      · rw [e, q]
      · exact h3 hc j (by omega) (by omega)
    · refine ⟨c + 1, by omega, ?_, fun hc => by omega⟩
      rw [q, h2, Int32.add_comm]
      exact oN_succ c
theorem s_wind (σ : SG) (a b x : Int32) (hR : RG σ) : StI RG f_X_wind f_M_wind [.int a, .int b, .int x] σ := by
  obtain ⟨T, K, S, N, O, E, hr, i⟩ := id hR.1
  obtain ⟨e0, e6, e7, e16, hT, hK, hS, hO⟩ := g_0 hr i
  have e80 : σ 0 8 0 = oN T := i.1.1
  have hp1 : sm (σ 0 8 0) 1000 ∧ ltP σ := ⟨by rw [e80]; exact sm_oN hT (by decide), RG_lt hR⟩
  have hp2 : sm (σ 8 1 0) 1000 ∧ sm (σ 8 0 1) 4 := ⟨by rw [e0]; exact sm_oN hT (by decide), RG_k hR⟩
  have bad : wnF σ a b x = (-2, σ) → wnM (σ 8) a b x = (-2, σ 8) → StI RG f_X_wind f_M_wind [.int a, .int b, .int x] σ := fun hX hM => StI_2 (M := fun v => wnM v a b x) q_X_wind hp1 q_M_wind (by rw [hX]; exact hp2) hX hM (RG_self hR)
  rcases Decidable.em (wi a (oN T) 999) with c1 | c1
  case inr => exact bad (by unfold wnF; rw [e80, if_neg c1]) (by unfold wnM; rw [e0, if_neg c1])
  rcases Decidable.em (wi b a 999) with c2 | c2
  case inr => exact bad (by unfold wnF; rw [e80, if_pos c1, if_neg c2]) (by unfold wnM; rw [e0, if_pos c1, if_neg c2])
  rcases Decidable.em (wi x 0 12) with c3 | c3
  case inr => exact bad (by unfold wnF; rw [e80, if_pos c1, if_pos c2, if_neg c3]) (by unfold wnM; rw [e0, if_pos c1, if_pos c2, if_neg c3])
  obtain ⟨q1, q2, q3, q4⟩ := wi_999 (by rw [oN_nn (by omega)]; exact id) c1 c2
  have q32 := q3.2
  generalize hAe : a.toNatClampNeg = A at q4
  generalize hBe : (b + 1).toNatClampNeg = B at q4 q32
  obtain ⟨m1, m2⟩ := lyF_ok (x := x) (B - A) A 0 (lkM (σ 8))
  have eLa : laM (lkM (σ 8)) a b x = lyF x A (B - A) 0 (lkM (σ 8)) := by unfold laM; rw [hAe, hBe]
  have lk1 : lkM (σ 8) 1 = σ 8 1 := lkM_k (by decide)
  have eC : (lyF x A (B - A) 0 (lkM (σ 8))).1 = smF (fun j => if σ 0 0 j = x then 0 else 1) A (B - A) := by
    rw [m1, Int32.zero_add, smF_s0, smF_s0]
    refine suF_c _ _ _ (fun r h1 h2 => ?_)
    show (if lkM (σ 8) 1 (17 + r) = x then (0 : Int32) else 1) = _
    rw [lk1, hr.2.1 r (by omega)]
  have e2 : ∀ t, (lyF x A (B - A) 0 (lkM (σ 8))).2 1 t = if 17 + A ≤ t ∧ t < 17 + B then x else σ 8 1 t := by
    intro t
    rw [m2, lk1, show 17 + A + (B - A) = 17 + B by omega]
  obtain ⟨c, d1, d2, d3⟩ := smF_n (f := fun j => if σ 0 0 j = x then 0 else 1) (fun j => by
    show (if σ 0 0 j = x then (0 : Int32) else 1) = 0 ∨ (if σ 0 0 j = x then (0 : Int32) else 1) = 1
    by_cases z : σ 0 0 j = x
    · rw [if_pos z]; exact Or.inl rfl
    · rw [if_neg z]; exact Or.inr rfl) (B - A) A
  have kk : ∀ k : Fin 9, k ≠ 1 → (lyF x A (B - A) 0 (lkM (σ 8))).2 k = lkM (σ 8) k := fun k hk => lyF_0 hk _ _ _ _
  by_cases hc : c = 0
  · have hX : wnF σ a b x = (-5, σ) := by
      unfold wnF
      rw [e80, if_pos c1, if_pos c2, if_pos c3, hAe, hBe, d2, hc, if_pos (show oN 0 = 0 from rfl)]
    have hM : wnM (σ 8) a b x = (-5, (lyF x A (B - A) 0 (lkM (σ 8))).2) := by
      unfold wnM
      rw [e0, if_pos c1, if_pos c2, if_pos c3, eLa, eC, d2, hc, if_neg (show ¬ (0 : Int32) < oN 0 by decide)]
    refine StI_2 (M := fun v => wnM v a b x) q_X_wind hp1 q_M_wind (by rw [hX]; exact hp2) hX hM (RG_8 hR ?_ ?_ ?_ ?_ ?_)
    · intro t _
      rw [kk 0 (by decide), lkM_k (by decide)]
    · intro t ht
      rw [e2]
      by_cases z : 17 + A ≤ t ∧ t < 17 + B
      · rw [if_pos z]
        have h1 := d3 hc (t - 17) (by omega) (by omega)
        have h2 : σ 0 0 (t - 17) = x := Decidable.byContradiction (fun q => by
          have h1 : (if σ 0 0 (t - 17) = x then (0 : Int32) else 1) = 0 := h1
          rw [if_neg q] at h1
          exact absurd h1 (by decide))
        rw [← h2]
        have := hr.2.1 (t - 17) (by omega)
        rw [show 17 + (t - 17) = t by omega] at this
        exact this.symm
      · rw [if_neg z]
    · rw [kk 4 (by decide), lkM_k (by decide)]
    · rw [kk 5 (by decide), lkM_k (by decide)]
    · rw [kk 6 (by decide), lkM_k (by decide)]
  · have hc0 : ¬ oN c = 0 := fun q => hc (oN_inj (b := 0) (by omega) (by decide) q)
    have hX : wnF σ a b x = (oN c, up1 (rcW σ) 0 (lyw (σ 0) x A B)) := by
      unfold wnF
      rw [e80, if_pos c1, if_pos c2, if_pos c3, hAe, hBe, d2, if_neg hc0]
    have hM : wnM (σ 8) a b x = (oN c, rcM (lyF x A (B - A) 0 (lkM (σ 8))).2) := by
      unfold wnM
      rw [e0, if_pos c1, if_pos c2, if_pos c3, eLa, eC, d2, if_pos (by show oN 0 < oN c; rw [oN_lt (by decide) (by omega)]; omega)]
    refine StI_2 (M := fun v => wnM v a b x) q_X_wind hp1 q_M_wind (by rw [hX]; show sm (up1 (rcW σ) 0 (lyw (σ 0) x A B) 8 1 0) 1000 ∧ sm (up1 (rcW σ) 0 (lyw (σ 0) x A B) 8 0 1) 4; rw [r08 (RG_lt hR)]; exact hp2) hX (by rw [r08 (RG_lt hR)]; exact hM) ?_
    have h1 : rcM (lyF x A (B - A) 0 (lkM (σ 8))).2 1 = (lyF x A (B - A) 0 (lkM (σ 8))).2 1 := by
      unfold rcM rc2
      rw [up2_kn (by decide), cpL_kn (by decide)]
      unfold rc1
      split
      · rw [up2_kn (by decide), cpL_kn (by decide)]
      · rfl
    refine act_ok (u := (lyF x A (B - A) 0 (lkM (σ 8))).2) hR (by rw [kk 0 (by decide), lkM_k (by decide)]) (by rw [kk 0 (by decide), lkM_k (by decide)]) (by rw [kk 0 (by decide), lkM_k (by decide)]) (fun t ht => by rw [kk 3 (by decide)]; exact lkM_3 ht) (by rw [kk 4 (by decide), lkM_k (by decide)]) (by rw [kk 5 (by decide), lkM_k (by decide)]) (by rw [kk 6 (by decide), lkM_k (by decide)]) (fun k hk => rfl) ⟨T, K, S, N, O, E, ?_, ?_⟩
    · rw [h1]
      exact rel_w hr hO q32 (fun u _ => e2 u)
    · exact Ivt_k i (lyw_k (by decide)) (lyw_k (by decide)) (lyw_k (by decide)) (lyw_k (by decide)) (ivT_e (lyw_k (by decide)) i.2.2.2.2.2.2.1)
theorem lm_ok : ∀ c, c < 5 → lst (oN c) = mlF (oN c) ∧ mst (oN c) = mmF (oN c) := by decide +kernel
theorem s_set (σ : SG) (a b : Int32) (hR : RG σ) : StI RG f_X_set f_M_set [.int a, .int b] σ := by
  obtain ⟨T, K, S, N, O, E, hr, i⟩ := id hR.1
  obtain ⟨e0, e6, e7, e16, hT, hK, hS, hO⟩ := g_0 hr i
  have bad : stF σ a b = (-2, σ) → seM (σ 8) a b = (-2, σ 8) → StI RG f_X_set f_M_set [.int a, .int b] σ := fun hX hM => StI_2 (M := fun v => seM v a b) q_X_set (RG_lt hR) q_M_set (by rw [hX]; exact RG_k hR) hX hM (RG_self hR)
  rcases Decidable.em (wi a 0 4) with c1 | c1
  case inr =>
    refine bad ?_ (by unfold seM; rw [if_neg c1])
    unfold stF
    rw [if_neg]
    rintro ⟨z1, z2, -⟩
    refine c1 ⟨z1, fun q => ?_⟩
    have a4 : (4 : Int32).toInt = 4 := rfl
    have a5 : (5 : Int32).toInt = 5 := rfl
    rw [Int32.lt_iff_toInt_lt] at z2 q
    omega
  obtain ⟨c, hc, rfl⟩ := wiN (n := 4) c1 (by decide)
  obtain ⟨l1, l2⟩ := lm_ok c (by omega)
  have hsv : svP (oN c) b ↔ wi b (mlF (oN c)) (mmF (oN c)) := by
    unfold svP
    rw [l1, l2]
    exact ⟨fun q => q.2.2, fun q => ⟨c1.1, by show oN c < oN 5; rw [oN_lt (by omega) (by decide)]; omega, q⟩⟩
  rcases Decidable.em (wi b (mlF (oN c)) (mmF (oN c))) with c2 | c2
  case inr => exact bad (by unfold stF; rw [if_neg (fun q => c2 (hsv.mp q))]) (by unfold seM; rw [if_pos c1, if_neg c2])
  have es : settg (σ 0) (oN c) = σ 0 1 c := se_n (by omega)
  have ev : σ 8 1 (1 + oN c).toNatClampNeg = σ 0 1 c := by rw [ad1 (by omega)]; exact hr.1.2.1 c (by omega)
  by_cases c3 : σ 0 1 c = b
  · have hX : stF σ (oN c) b = (-5, σ) := by unfold stF; rw [if_pos (hsv.mpr c2), es, if_pos c3]
    have hM : seM (σ 8) (oN c) b = (-5, σ 8) := by unfold seM; rw [if_pos c1, if_pos c2, ev, if_pos c3]
    exact StI_2 (M := fun v => seM v (oN c) b) q_X_set (RG_lt hR) q_M_set (by rw [hX]; exact RG_k hR) hX hM (RG_self hR)
  · have ep : pt (σ 0) 1 1 5 (oN c) 0 b = up2 (σ 0) 1 c b := by
      have := pt_oN (w := σ 0) (k := 1) (C := 1) (len := 5) (r := c) (c := 0) (x := b) (by omega) (by decide)
      rw [Nat.mul_one, Nat.add_zero] at this
      exact this
    have hX : stF σ (oN c) b = (σ 0 1 c, up1 (rcW σ) 0 (up2 (σ 0) 1 c b)) := by unfold stF; rw [if_pos (hsv.mpr c2), es, if_neg c3, ep]
    have hM : seM (σ 8) (oN c) b = (σ 0 1 c, up2 (knM (σ 8)) 1 (1 + c) b) := by unfold seM; rw [if_pos c1, if_pos c2, ev, if_neg c3, ad1 (by omega)]
    refine StI_2 (M := fun v => seM v (oN c) b) q_X_set (RG_lt hR) q_M_set (by rw [hX]; show sm (up1 (rcW σ) 0 (up2 (σ 0) 1 c b) 8 0 1) 4; rw [r08 (RG_lt hR)]; exact RG_k hR) hX (by rw [r08 (RG_lt hR)]; exact hM) ?_
    refine act_kn hR (fun k hk => up2_kn hk) ⟨T, K, S, N, O, E, ?_, ?_⟩
    · exact rel_s hr hS hO (by omega) (fun u => by rw [u21, knM_1])
    · exact Ivt_k i (up2_kn (by decide)) (up2_kn (by decide)) (up2_kn (by decide)) (up2_kn (by decide)) (ivT_e (up2_kn (by decide)) i.2.2.2.2.2.2.1)
theorem ut_n {w v : HV} {S O E : Nat} (h : Rel w (v 1) S O E 100) {a j : Nat} (ha : a < 6) (hj : j < 3) : v 1 (1169 + 3 * a + j) = w 4 (a * 3 + j) := by
  rw [show 1169 + 3 * a + j = 1169 + (a * 3 + j) by omega]
  exact h.2.2.2.2.1 _ (by omega)
theorem s_tails (σ : SG) (a b : Int32) (hR : RG σ) : StI RG f_X_tails f_M_tails [.int a, .int b] σ := by
  obtain ⟨T, K, S, N, O, E, hr, i⟩ := id hR.1
  obtain ⟨e0, e6, e7, e16, hT, hK, hS, hO⟩ := g_0 hr i
  have bad : ∀ r, taF σ a b = (r, σ) → taM (σ 8) a b = (r, σ 8) → StI RG f_X_tails f_M_tails [.int a, .int b] σ := fun r hX hM => StI_2 (M := fun v => taM v a b) q_X_tails (RG_lt hR) q_M_tails (by rw [hX]; exact RG_k hR) hX hM (RG_self hR)
  rcases Decidable.em (wi a 0 5) with c1 | c1
  case inr => exact bad (-1) (by unfold taF; rw [if_neg c1]) (by unfold taM; rw [if_neg c1])
  rcases Decidable.em (wi b 1 20) with c2 | c2
  case inr => exact bad (-2) (by unfold taF; rw [if_pos c1, if_neg c2]) (by unfold taM; rw [if_pos c1, if_neg c2])
  obtain ⟨c, hc, rfl⟩ := wiN (n := 5) c1 (by decide)
  have hc6 : c < 6 := by omega
  obtain ⟨n, n1, n2, rfl⟩ := wi1 (n := 20) c2 (by decide)
  have u0 : ut (σ 8) (oN c) 0 = σ 0 4 (c * 3 + 0) := by show σ 8 1 (1169 + 3 * oN c + 0).toNatClampNeg = _; rw [adT_0 (by omega), ut_n hr hc6 (by decide)]
  have u1 : ut (σ 8) (oN c) 1 = σ 0 4 (c * 3 + 1) := by show σ 8 1 (1169 + 3 * oN c + 1).toNatClampNeg = _; rw [adT_1 (by omega), ut_n hr hc6 (by decide)]
  have u2 : ut (σ 8) (oN c) 2 = σ 0 4 (c * 3 + 2) := by show σ 8 1 (1169 + 3 * oN c + 2).toNatClampNeg = _; rw [adT_2 (by omega), ut_n hr hc6 (by decide)]
  obtain ⟨t0, t1, t2, t3⟩ := i.2.2.2.2.2.2.1 c hc6
  obtain ⟨hO2, hE, -⟩ := Ivt_O i
  by_cases c3 : 99 < σ 0 4 (c * 3 + 0) + σ 0 4 (c * 3 + 1) + σ 0 4 (c * 3 + 2) + oN n
  · exact bad (-3) (by unfold taF; rw [if_pos c1, if_pos c2, tll_0 hc6, tll_1 hc6, tll_2 hc6, if_pos c3]) (by unfold taM; rw [if_pos c1, if_pos c2, u0, u1, u2, if_pos c3])
  · have ep : pa (σ 0) 4 3 18 (oN c) 0 (oN n) = up2 (σ 0) 4 (c * 3 + 0) (σ 0 4 (c * 3 + 0) + oN n) := patl_0 hc6
    have ea : at_ (up2 (σ 0) 4 (c * 3 + 0) (σ 0 4 (c * 3 + 0) + oN n) 4) 3 18 (oN c) 0 = σ 0 4 (c * 3 + 0) + oN n := by
      refine (at_oN (C := 3) (c := 0) (by omega) (by decide)).trans ?_
      rw [u2k, if_pos rfl]
    have hX : taF σ (oN c) (oN n) = (σ 0 4 (c * 3 + 0) + oN n, up1 (rcW σ) 0 (up2 (σ 0) 4 (c * 3 + 0) (σ 0 4 (c * 3 + 0) + oN n))) := by unfold taF; rw [if_pos c1, if_pos c2, tll_0 hc6, tll_1 hc6, tll_2 hc6, if_neg c3, ep, ea]
    have k1 : ∀ u, inc (knM (σ 8)) (1169 + 3 * c + 0) (oN n) 1 u = if u = 1169 + 3 * c + 0 then σ 0 4 (c * 3 + 0) + oN n else σ 8 1 u := by
      intro u
      rw [inc1, knM_1, ut_n hr hc6 (by decide)]
    have hM : taM (σ 8) (oN c) (oN n) = (σ 0 4 (c * 3 + 0) + oN n, inc (knM (σ 8)) (1169 + 3 * c + 0) (oN n)) := by
      unfold taM
      rw [if_pos c1, if_pos c2, u0, u1, u2, if_neg c3, adT_0 (by omega)]
      refine congrArg (fun z => (z, _)) ?_
      show inc (knM (σ 8)) (1169 + 3 * c + 0) (oN n) 1 (1169 + 3 * oN c + 0).toNatClampNeg = _
      rw [adT_0 (by omega), k1, if_pos rfl]
    refine StI_2 (M := fun v => taM v (oN c) (oN n)) q_X_tails (RG_lt hR) q_M_tails (by rw [hX]; show sm (up1 (rcW σ) 0 (up2 (σ 0) 4 (c * 3 + 0) (σ 0 4 (c * 3 + 0) + oN n)) 8 0 1) 4; rw [r08 (RG_lt hR)]; exact RG_k hR) hX (by rw [r08 (RG_lt hR)]; exact hM) ?_
    refine act_kn hR (fun k hk => inc_k hk) ⟨T, K, S, N, O, E, ?_, ?_⟩
    · refine rel_T hr hO (fun k hk => up2_kn hk) (fun t ht => ?_) (fun u _ hu => ?_)
      · rw [k1, u2k]
        by_cases z : t = c * 3 + 0
        · rw [if_pos z, if_pos (by omega)]
        · rw [if_neg z, if_neg (by omega)]
          exact hr.2.2.2.2.1 t ht
      · rw [k1, if_neg (by omega)]
    · refine Ivt_k i (up2_kn (by decide)) (up2_kn (by decide)) (up2_kn (by decide)) (up2_kn (by decide)) (fun d hd => ?_)
      rw [u2k, u2k, u2k, if_neg (show ¬ d * 3 + 1 = c * 3 + 0 by omega), if_neg (show ¬ d * 3 + 2 = c * 3 + 0 by omega)]
      by_cases z : d = c
      · subst z
        rw [if_pos rfl]
        have tn : (oN n).toInt = (n : Int) := oN_toInt (by omega)
        have x1 := ti_add (x := σ 0 4 (d * 3 + 0)) (y := oN n) (by omega) (by omega)
        have y1 := ti_add (x := σ 0 4 (d * 3 + 0)) (y := σ 0 4 (d * 3 + 1)) (by omega) (by omega)
        have y2 := ti_add (x := σ 0 4 (d * 3 + 0) + σ 0 4 (d * 3 + 1)) (y := σ 0 4 (d * 3 + 2)) (by omega) (by omega)
        have y3 := ti_add (x := σ 0 4 (d * 3 + 0) + σ 0 4 (d * 3 + 1) + σ 0 4 (d * 3 + 2)) (y := oN n) (by omega) (by omega)
        have h99 : (99 : Int32).toInt = 99 := rfl
        rw [Int32.lt_iff_toInt_lt] at c3
        rw [x1]
        refine ⟨by omega, t1, t2, by omega⟩
      · rw [if_neg (show ¬ d * 3 + 0 = c * 3 + 0 by omega)]
        exact i.2.2.2.2.2.2.1 d hd
theorem bit_1 : ∀ a, a < 6 → ∀ c, c < 6 → bit ((1 : Int32) <<< (oN a &&& 31)) c = if c = a then 1 else 0 := by decide +kernel
theorem s_found (σ : SG) (a : Int32) (hR : RG σ) : StI RG f_X_found f_M_found [.int a] σ := by
  obtain ⟨T, K, S, N, O, E, hr, i⟩ := id hR.1
  obtain ⟨e0, e6, e7, e16, hT, hK, hS, hO⟩ := g_0 hr i
  have bad : ∀ r, foF σ a = (r, σ) → foM (σ 8) a = (r, σ 8) → StI RG f_X_found f_M_found [.int a] σ := fun r hX hM => StI_2 (M := fun v => foM v a) q_X_found (RG_lt hR) q_M_found (by rw [hX]; exact RG_k hR) hX hM (RG_self hR)
  rcases Decidable.em (wi a 0 5) with c1 | c1
  case inr => exact bad (-1) (by unfold foF; rw [if_neg c1]) (by unfold foM; rw [if_neg c1])
  obtain ⟨c, hc, rfl⟩ := wiN (n := 5) c1 (by decide)
  have hc6 : c < 6 := by omega
  have u2 : ut (σ 8) (oN c) 2 = σ 0 4 (c * 3 + 2) := by show σ 8 1 (1169 + 3 * oN c + 2).toNatClampNeg = _; rw [adT_2 (by omega), ut_n hr hc6 (by decide)]
  obtain ⟨t0, t1, t2, t3⟩ := i.2.2.2.2.2.2.1 c hc6
  obtain ⟨hO2, hE, -⟩ := Ivt_O i
  have h0i : (0 : Int32).toInt = 0 := rfl
  by_cases c3 : σ 0 4 (c * 3 + 2) = 0
  · exact bad (-5) (by unfold foF; rw [if_pos c1, tll_2 hc6, c3, if_neg (by decide)]) (by unfold foM; rw [if_pos c1, u2, if_pos c3])
  · have c4 : 0 < σ 0 4 (c * 3 + 2) := by
      rw [Int32.lt_iff_toInt_lt, h0i]
      have : (σ 0 4 (c * 3 + 2)).toInt ≠ 0 := fun q => c3 (Int32.toInt_inj.mp (q.trans h0i.symm))
      omega
    have hm := fun t => mvT_at (w := σ 0) (s := (1 : Int32) <<< (oN c &&& 31)) (a := 2) (b := 0) (by decide) (by decide) (by decide) 6 (Nat.le_refl _) t
    generalize hmv : mvT (σ 0) ((1 : Int32) <<< (oN c &&& 31)) 2 0 6 = mv
    have hm' : ∀ t, t < 18 → mv 4 t = if t = c * 3 + 2 then σ 0 4 t - 1 else if t = c * 3 + 0 then σ 0 4 t + 1 else σ 0 4 t := by
      intro t ht
      rw [← hmv]
      refine (hm t).trans ?_
      rw [if_pos (show t < 3 * 6 by omega), bit_1 c hc6 (t / 3) (by omega)]
      by_cases z : t / 3 = c
      · rw [if_pos z]
        rcases (show t % 3 = 0 ∨ t % 3 = 1 ∨ t % 3 = 2 by omega) with y | y | y
        · rw [if_neg (show ¬ t % 3 = 2 by omega), if_pos y, if_neg (show ¬ t = c * 3 + 2 by omega), if_pos (show t = c * 3 + 0 by omega)]
        · rw [if_neg (show ¬ t % 3 = 2 by omega), if_neg (show ¬ t % 3 = 0 by omega), if_neg (show ¬ t = c * 3 + 2 by omega), if_neg (show ¬ t = c * 3 + 0 by omega)]
        · rw [if_pos y, if_pos (show t = c * 3 + 2 by omega), Int32.sub_eq_add_neg]
      · rw [if_neg z, if_neg (show ¬ t = c * 3 + 2 by omega), if_neg (show ¬ t = c * 3 + 0 by omega), Int32.neg_zero, Int32.add_zero]
        split
        · rfl
        · split <;> rfl
    have hmk : ∀ k : Fin 9, k ≠ 4 → mv k = σ 0 k := fun k hk => by rw [← hmv]; exact mvT_o hk
    have ea : at_ (mv 4) 3 18 (oN c) 0 = σ 0 4 (c * 3 + 0) + 1 := by
      refine (at_oN (C := 3) (c := 0) (by omega) (by decide)).trans ?_
      rw [hm' _ (by omega), if_neg (show ¬ c * 3 + 0 = c * 3 + 2 by omega), if_pos rfl]
    have hX : foF σ (oN c) = (σ 0 4 (c * 3 + 0) + 1, up1 (rcW σ) 0 mv) := by unfold foF; rw [if_pos c1, tll_2 hc6, if_pos c4, hmv, ea]
    have k1 : ∀ u, inc (dcr (knM (σ 8)) (1169 + 3 * c + 2) 1) (1169 + 3 * c + 0) 1 1 u = if u = 1169 + 3 * c + 0 then σ 0 4 (c * 3 + 0) + 1 else if u = 1169 + 3 * c + 2 then σ 0 4 (c * 3 + 2) - 1 else σ 8 1 u := by
      intro u
      rw [inc1, dcr1, dcr1, knM_1, if_neg (show ¬ 1169 + 3 * c + 0 = 1169 + 3 * c + 2 by omega), ut_n hr hc6 (by decide), ut_n hr hc6 (by decide)]
    have hM : foM (σ 8) (oN c) = (σ 0 4 (c * 3 + 0) + 1, inc (dcr (knM (σ 8)) (1169 + 3 * c + 2) 1) (1169 + 3 * c + 0) 1) := by
      unfold foM
      rw [if_pos c1, u2, if_neg c3, adT_0 (by omega), adT_2 (by omega)]
      refine congrArg (fun z => (z, _)) ?_
      show inc (dcr (knM (σ 8)) (1169 + 3 * c + 2) 1) (1169 + 3 * c + 0) 1 1 (1169 + 3 * oN c + 0).toNatClampNeg = _
      rw [adT_0 (by omega), k1, if_pos rfl]
    refine StI_2 (M := fun v => foM v (oN c)) q_X_found (RG_lt hR) q_M_found (by rw [hX]; show sm (up1 (rcW σ) 0 mv 8 0 1) 4; rw [r08 (RG_lt hR)]; exact RG_k hR) hX (by rw [r08 (RG_lt hR)]; exact hM) ?_
    refine act_kn hR (fun k hk => by rw [inc_k hk, dcr_k hk]) ⟨T, K, S, N, O, E, ?_, ?_⟩
    · refine rel_T hr hO hmk (fun t ht => ?_) (fun u _ hu => ?_)
      · rw [k1, hm' t ht]
        by_cases z : t = c * 3 + 0
        · rw [if_pos (show 1169 + t = 1169 + 3 * c + 0 by omega), if_neg (show ¬ t = c * 3 + 2 by omega), if_pos z, z]
        · rw [if_neg (show ¬ 1169 + t = 1169 + 3 * c + 0 by omega), if_neg z]
          by_cases y : t = c * 3 + 2
          · rw [if_pos (show 1169 + t = 1169 + 3 * c + 2 by omega), if_pos y, y]
          · rw [if_neg (show ¬ 1169 + t = 1169 + 3 * c + 2 by omega), if_neg y]
            exact hr.2.2.2.2.1 t ht
      · rw [k1, if_neg (by omega), if_neg (by omega)]
    · refine Ivt_k i (hmk 2 (by decide)) (hmk 3 (by decide)) (hmk 5 (by decide)) (hmk 8 (by decide)) (fun d hd => ?_)
      rw [hm' _ (by omega), hm' _ (by omega), hm' _ (by omega), if_neg (show ¬ d * 3 + 0 = c * 3 + 2 by omega), if_neg (show ¬ d * 3 + 1 = c * 3 + 2 by omega), if_neg (show ¬ d * 3 + 1 = c * 3 + 0 by omega), if_neg (show ¬ d * 3 + 2 = c * 3 + 0 by omega)]
      by_cases z : d = c
      · subst z
        rw [if_pos rfl, if_pos rfl]
        have o1 : (1 : Int32).toInt = 1 := rfl
        rw [Int32.lt_iff_toInt_lt, h0i] at c4
        rw [ti_add (by omega) (by omega), ti_sub (by omega) (by omega)]
        refine ⟨by omega, by omega, t2, by omega⟩
      · rw [if_neg (show ¬ d * 3 + 0 = c * 3 + 0 by omega), if_neg (show ¬ d * 3 + 2 = c * 3 + 2 by omega)]
        exact i.2.2.2.2.2.2.1 d hd

