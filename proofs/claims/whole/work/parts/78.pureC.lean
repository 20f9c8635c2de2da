/-! PURE: acts: a hire begins, on both sides -/
theorem refu_c (w : HV) (k m h s : Int32) : (refu w k m h s = 0 ∧ kt w k 0 = 0 ∧ spF w m 0 (w 8 2).toNatClampNeg (-5) ≠ -5 ∧ ¬ exF (fun c => decide (bit s c = 1 ∧ ¬ 0 < w 4 (c * 3))) 0 6 = true) ∨ 0 < refu w k m h s := by
  unfold refu
  rcases Decidable.em (kt w k 0 = 0) with c1 | c1
  case inr => rw [if_neg c1]; exact Or.inr (by decide)
  rw [if_pos c1]
  rcases Decidable.em (exF (fun a => decide (tooWP w k (w 8 0 + oN a))) 0 h.toNatClampNeg = true) with c2 | c2
  case inl => rw [if_pos c2]; exact Or.inr (by decide)
  rw [if_neg c2]
  rcases Decidable.em (tooCP w k (w 8 0)) with c3 | c3
  case inl => rw [if_pos c3]; exact Or.inr (by decide)
  rw [if_neg c3]
  rcases Decidable.em (spF w m 0 (w 8 2).toNatClampNeg (-5) = -5) with c4 | c4
  case inl => rw [if_pos c4]; exact Or.inr (by decide)
  rw [if_neg c4]
  rcases Decidable.em (exF (fun c => decide (bit s c = 1 ∧ ¬ 0 < w 4 (c * 3))) 0 6 = true) with c5 | c5
  case inl => rw [if_pos c5]; exact Or.inr (by decide)
  rw [if_neg c5]
  rcases Decidable.em (1000 < w 8 0 + h) with c6 | c6
  case inl => rw [if_pos c6]; exact Or.inr (by decide)
  rw [if_neg c6]
  exact Or.inl ⟨rfl, c1, c4, c5⟩
theorem hire_ok {w v : HV} {T K S N O E b r q l : Nat} {m t : Int32} (h : Rel w (v 1) S O E 100) (i : Ivt w T K S N O E b 100) (hr : r < K) (hN : N < 200) (hq : q < S) (es : spF w m 0 (w 8 2).toNatClampNeg (-5) = oN q) (e3 : w 3 (q * 4 + 2) = -5) (e2 : w 2 (r * 8 + 0) = 0) (htl : ¬ exF (fun c => decide (bit t c = 1 ∧ ¬ 0 < w 4 (c * 3))) 0 6 = true) (l1 : 1 ≤ l) (l2 : l ≤ 12) (ht : sm t 63) :
    v 1 16 = oN O ∧ O < 10 ∧ Rel (bgH w (oN r) m (oN l) t) (hjM v (oN r) (oN q) m (oN l) t 1) S (O + 1) E 100 ∧ Ivt (bgH w (oN r) m (oN l) t) T K S (N + 1) (O + 1) E b 100 := by
  obtain ⟨g0, g6, g7, g16, hT, hK, hS, hO⟩ := g_0 h i
  obtain ⟨⟨a0, a1, a6, a7, a8, a9, a12, a14, a16⟩, hwi, hkk, hss, htt, hhh, hee, hll⟩ := id h
  obtain ⟨⟨b0, b1, b2, b3, b4, b5, b7⟩, ⟨d1, d2, d3, d4, d5⟩, hc, hH, hD, hNN, hTT, hZ⟩ := id i
  have hO10 : O < 10 := by
    have := cnF_lt (f := fun r => w 3 (r * 4 + 2)) (s := q) e3 S hq
    omega
  have g8 : v 1 8 = oN N := a8.trans b3
  obtain ⟨c0, c1, c2, c3, c4, c5, c6, c7, c8⟩ := bgH_at (m := m) (h := oN l) (s := t) (show r < 16 by omega) hO10 (show q < 10 by omega) b4 b3 es
  have CM := hj_at (m := m) (h := oN l) (t := t) (show r < 16 by omega) (show q < 10 by omega) hO10 g16 g8
  have BM := hiB_at (m := m) (h := oN l) (t := t) (show r < 16 by omega) (show q < 10 by omega) hO10 g16 g8
  have rp : v 1 (1017 + 7 * r + 4) = w 2 (r * 8 + 4) := hkk r (by omega) 4 (by decide)
  rw [rp] at CM
  generalize hjM v (oN r) (oN q) m (oN l) t = V at CM ⊢
  generalize hiB v (oN O) (oN r) (oN q) m (oN l) t = B at CM BM
  generalize hW : bgH w (oN r) m (oN l) t = W at c0 c1 c2 c3 c4 c5 c6 c7 c8 ⊢
  have co : ∀ u, u ≠ 8 → u ≠ 12 → u ≠ 16 → ¬ (1187 + 7 * O ≤ u ∧ u < 1187 + 7 * O + 7) → ¬ (1169 ≤ u ∧ u < 1187) → u ≠ 1129 + 4 * q + 2 → u ≠ 1017 + 7 * r + 6 → u ≠ 1017 + 7 * r + 0 → V 1 u = v 1 u := by
    intro u h1 h2 h3 h4 h5 h6 h7 h8
    rw [CM, if_neg h1, if_neg h2, if_neg (by omega), if_neg h5, BM, if_neg h6, if_neg h7, if_neg h8, if_neg (by omega), if_neg (by omega), if_neg (by omega), if_neg (by omega), if_neg (by omega), if_neg (by omega), if_neg (by omega), if_neg h3]
  have cB : ∀ u, u ≠ 8 → u ≠ 12 → u ≠ 1187 + 7 * O + 6 → ¬ (1169 ≤ u ∧ u < 1187) → V 1 u = B 1 u := by
    intro u h1 h2 h3 h4
    rw [CM, if_neg h1, if_neg h2, if_neg h3, if_neg h4]
  refine ⟨g16, hO10, ⟨⟨?_, ?_, ?_, ?_, ?_, ?_, ?_, ?_, ?_⟩, ?_, ?_, ?_, ?_, ?_, ?_, ?_⟩, ?_⟩
  · rw [co 0 (by omega) (by omega) (by omega) (by omega) (by omega) (by omega) (by omega) (by omega), c8, if_neg (by decide), if_neg (by decide), if_neg (by decide)]; exact a0
  · intro c hc; rw [co (1 + c) (by omega) (by omega) (by omega) (by omega) (by omega) (by omega) (by omega) (by omega), c1]; exact a1 c hc
  · rw [co 6 (by omega) (by omega) (by omega) (by omega) (by omega) (by omega) (by omega) (by omega), c8, if_neg (by decide), if_neg (by decide), if_neg (by decide)]; exact a6
  · rw [co 7 (by omega) (by omega) (by omega) (by omega) (by omega) (by omega) (by omega) (by omega), c8, if_neg (by decide), if_neg (by decide), if_neg (by decide)]; exact a7
  · rw [CM, if_pos rfl, c8, if_neg (by decide), if_neg (by decide), if_pos rfl]
  · intro c hc; rw [co (9 + c) (by omega) (by omega) (by omega) (by omega) (by omega) (by omega) (by omega) (by omega), c7]; exact a9 c hc
  · rw [CM, if_neg (by decide), if_pos rfl, c8, if_pos rfl, a12]
  · rw [co 14 (by omega) (by omega) (by omega) (by omega) (by omega) (by omega) (by omega) (by omega), c8, if_neg (by decide), if_neg (by decide), if_neg (by decide)]; exact a14
  · rw [cB 16 (by omega) (by omega) (by omega) (by omega), BM, if_neg (by omega), if_neg (by omega), if_neg (by omega), if_neg (by omega), if_neg (by omega), if_neg (by omega), if_neg (by omega), if_neg (by omega), if_neg (by omega), if_neg (by omega), if_pos rfl, c8, if_neg (by decide), if_pos rfl]
  · intro n hn; rw [co (17 + n) (by omega) (by omega) (by omega) (by omega) (by omega) (by omega) (by omega) (by omega), c0]; exact hwi n hn
  · intro r2 hr2 c hc
    by_cases z : r2 = r ∧ (c = 0 ∨ c = 6)
    · obtain ⟨z1, z2⟩ := z
      subst z1
      rcases z2 with z2 | z2 <;> subst z2
      · rw [cB _ (by omega) (by omega) (by omega) (by omega), BM, if_neg (by omega), if_neg (by omega), if_pos rfl, c2, if_neg (by omega), if_neg (by omega), if_pos rfl]
      · rw [cB _ (by omega) (by omega) (by omega) (by omega), BM, if_neg (by omega), if_pos rfl, c2, if_pos rfl, hkk r2 hr2 6 (by decide)]
    · rw [co _ (by omega) (by omega) (by omega) (by omega) (by omega) (by omega) (by omega) (by omega), c2, if_neg (by omega), if_neg (by omega), if_neg (by omega)]
      exact hkk r2 hr2 c hc
  · intro u hu
    by_cases z : u = q * 4 + 2
    · rw [cB _ (by omega) (by omega) (by omega) (by omega), BM, if_pos (by omega), c3, if_pos z]
    · rw [co _ (by omega) (by omega) (by omega) (by omega) (by omega) (by omega) (by omega) (by omega), c3, if_neg z]
      exact hss u hu
  · intro u hu
    rw [CM, if_neg (by omega), if_neg (by omega), if_neg (by omega), if_pos (by omega), c4 u hu, show 1169 + u - 1169 = u by omega, htt u hu, Int32.sub_eq_add_neg]
  · intro r2 hr2
    by_cases z : r2 = O
    · subst z
      refine ⟨?_, fun c hc hx => ?_⟩
      · rw [cB _ (by omega) (by omega) (by omega) (by omega), BM, if_neg (by omega), if_neg (by omega), if_neg (by omega), if_neg (by omega), if_neg (by omega), if_neg (by omega), if_neg (by omega), if_neg (by omega), if_neg (by omega), if_pos rfl, c5, if_neg (by omega), if_pos rfl]
      · rcases (show c = 0 ∨ c = 1 ∨ c = 2 ∨ c = 3 ∨ c = 4 ∨ c = 5 by omega) with y | y | y | y | y | y <;> subst y
        · rw [cB _ (by omega) (by omega) (by omega) (by omega), BM, if_neg (by omega), if_neg (by omega), if_neg (by omega), if_neg (by omega), if_neg (by omega), if_neg (by omega), if_neg (by omega), if_neg (by omega), if_pos (by omega), c5, if_neg (by omega), if_neg (by omega), if_neg (by omega), if_neg (by omega), if_neg (by omega), if_neg (by omega), if_pos rfl]
        · rw [cB _ (by omega) (by omega) (by omega) (by omega), BM, if_neg (by omega), if_neg (by omega), if_neg (by omega), if_neg (by omega), if_neg (by omega), if_neg (by omega), if_neg (by omega), if_pos (by omega), c5, if_neg (by omega), if_neg (by omega), if_neg (by omega), if_neg (by omega), if_neg (by omega), if_pos rfl]
        · rw [cB _ (by omega) (by omega) (by omega) (by omega), BM, if_neg (by omega), if_neg (by omega), if_neg (by omega), if_neg (by omega), if_neg (by omega), if_neg (by omega), if_pos (by omega), c5, if_neg (by omega), if_neg (by omega), if_neg (by omega), if_neg (by omega), if_pos rfl]
        · rw [cB _ (by omega) (by omega) (by omega) (by omega), BM, if_neg (by omega), if_neg (by omega), if_neg (by omega), if_neg (by omega), if_neg (by omega), if_pos (by omega), c5, if_neg (by omega), if_neg (by omega), if_neg (by omega), if_pos rfl]
        · rw [cB _ (by omega) (by omega) (by omega) (by omega), BM, if_neg (by omega), if_neg (by omega), if_neg (by omega), if_neg (by omega), if_pos (by omega), c5, if_neg (by omega), if_neg (by omega), if_pos rfl]
        · rw [CM, if_neg (by omega), if_neg (by omega), if_pos (by omega), c5, if_pos rfl]
    · refine ⟨?_, fun c hc hx => ?_⟩
      · rw [co _ (by omega) (by omega) (by omega) (by omega) (by omega) (by omega) (by omega) (by omega), c5, if_neg (by omega), if_neg (by omega), if_neg (by omega), if_neg (by omega), if_neg (by omega), if_neg (by omega), if_neg (by omega)]
        exact (hhh r2 (by omega)).1
      · rw [co _ (by omega) (by omega) (by omega) (by omega) (by omega) (by omega) (by omega) (by omega), c5, if_neg (by omega), if_neg (by omega), if_neg (by omega), if_neg (by omega), if_neg (by omega), if_neg (by omega), if_neg (by omega)]
        exact (hhh r2 (by omega)).2 c hc (by omega)
  · refine ⟨?_, fun j hj c hc => ?_⟩
    · rw [co _ (by omega) (by omega) (by omega) (by omega) (by omega) (by omega) (by omega) (by omega)]; exact hee.1
    · have hj8 : j < 8 := by omega
      rw [co _ (by omega) (by omega) (by omega) (by omega) (by omega) (by omega) (by omega) (by omega), c6]; exact hee.2 j hj c hc
  · show V 1 13 = _
    rw [co _ (by omega) (by omega) (by omega) (by omega) (by omega) (by omega) (by omega) (by omega)]
    refine Eq.trans hll (suF_c _ _ _ (fun r2 _ hr2 => ?_))
    rw [c3, if_neg (by omega)]
  · refine ⟨⟨?_, ?_, ?_, ?_, ?_, ?_, ?_⟩, ⟨d1, d2, d3, by omega, by omega⟩, ?_, ?_, ?_, ?_, ?_, ?_, ?_⟩
    · rw [c8, if_neg (by decide), if_neg (by decide), if_neg (by decide)]; exact b0
    · rw [c8, if_neg (by decide), if_neg (by decide), if_neg (by decide)]; exact b1
    · rw [c8, if_neg (by decide), if_neg (by decide), if_neg (by decide)]; exact b2
    · rw [c8, if_neg (by decide), if_neg (by decide), if_pos rfl]
    · rw [c8, if_neg (by decide), if_pos rfl]
    · rw [c8, if_neg (by decide), if_neg (by decide), if_neg (by decide)]; exact b5
    · rw [c8, if_neg (by decide), if_neg (by decide), if_neg (by decide)]; exact b7
    · have h1 := cnF_off (f := fun r => W 3 (r * 4 + 2)) (g := fun r => w 3 (r * 4 + 2)) (s := q) e3 (by show W 3 (q * 4 + 2) ≠ -5; rw [c3, if_pos rfl]; exact oN_m5 (by omega)) (fun r2 hr2 => by
        show W 3 (r2 * 4 + 2) = w 3 (r2 * 4 + 2)
        rw [c3, if_neg (by omega)]) S hq
      omega
    · intro r2 hr2
      by_cases z : r2 = O
      · subst z
        refine ⟨r, q, N, hr, hq, by omega, ?_, ?_, ?_, ?_, ?_, ?_, ?_, fun _ => ⟨l, l1, l2, ?_⟩⟩
        · rw [c5, if_neg (by omega), if_neg (by omega), if_neg (by omega), if_neg (by omega), if_neg (by omega), if_neg (by omega), if_pos rfl]
        · rw [c5, if_neg (by omega), if_neg (by omega), if_neg (by omega), if_neg (by omega), if_neg (by omega), if_pos rfl]
        · rw [c5, if_neg (by omega), if_pos rfl]
        · rw [c3, if_pos rfl]
        · rw [c2, if_neg (by omega), if_pos rfl]
        · rw [c2, if_neg (by omega), if_neg (by omega), if_pos rfl]
        · rw [c5, if_neg (by omega), if_neg (by omega), if_pos rfl]; exact ht
        · rw [c5, if_neg (by omega), if_neg (by omega), if_neg (by omega), if_pos rfl]
      · have c5' : ∀ c, c < 7 → W 5 (r2 * 7 + c) = w 5 (r2 * 7 + c) := by
          intro c hc
          rw [c5, if_neg (by omega), if_neg (by omega), if_neg (by omega), if_neg (by omega), if_neg (by omega), if_neg (by omega), if_neg (by omega)]
        obtain ⟨k, s, n, p1, p2, p3, p4, p5, p6, p7, p8, p9, pA, pB⟩ := hH r2 (by omega)
        have nk : k ≠ r := by
          intro e
          subst e
          rw [e2] at p9
          exact absurd p9 (by decide)
        have ns : s ≠ q := by
          intro e
          subst e
          rw [e3] at p7
          exact oN_m5 (by omega) p7.symm
        refine ⟨k, s, n, p1, p2, by omega, ?_, ?_, ?_, ?_, ?_, ?_, ?_, ?_⟩
        · rw [c5' 0 (by decide)]; exact p4
        · rw [c5' 1 (by decide)]; exact p5
        · rw [c5' 6 (by decide)]; exact p6
        · rw [c3, if_neg (by omega)]; exact p7
        · rw [c2, if_neg (by omega), if_neg (by omega), if_neg (by omega)]; exact p8
        · rw [c2, if_neg (by omega), if_neg (by omega), if_neg (by omega)]; exact p9
        · rw [c5' 4 (by decide)]; exact pA
        · rw [c5' 3 (by decide)]; exact pB
    · have c56 : ∀ r2, r2 < O → W 5 (r2 * 7 + 6) = w 5 (r2 * 7 + 6) := by
        intro r2 hr2
        rw [c5, if_neg (by omega), if_neg (by omega), if_neg (by omega), if_neg (by omega), if_neg (by omega), if_neg (by omega), if_neg (by omega)]
      have cO : W 5 (O * 7 + 6) = oN N := by rw [c5, if_neg (by omega), if_pos rfl]
      have no : ∀ r2, r2 < O → W 5 (r2 * 7 + 6) ≠ oN N := by
        intro r2 hr2 e
        rw [c56 r2 hr2] at e
        obtain ⟨k, s, n, p1, p2, p3, p4, p5, p6, -⟩ := hH r2 hr2
        rw [p6] at e
        have := oN_inj (by omega) (by omega) e
        omega
      intro r2 hr2 q2 hq2 e
      by_cases z1 : r2 = O
      · by_cases z2 : q2 = O
        · omega
        · rw [z1, cO] at e
          exact absurd e.symm (no q2 (by omega))
      · by_cases z2 : q2 = O
        · rw [z2, cO] at e
          exact absurd e (no r2 (by omega))
        · rw [c56 r2 (by omega), c56 q2 (by omega)] at e
          exact hD r2 (by omega) q2 (by omega) e
    · intro k hk
      by_cases z : k = r
      · right
        refine ⟨O, by omega, ?_⟩
        rw [c5, if_neg (by omega), if_neg (by omega), if_neg (by omega), if_neg (by omega), if_neg (by omega), if_neg (by omega), if_pos rfl, z]
      · rcases hNN k hk with y | ⟨r2, y1, y2⟩
        · left
          rw [c2, if_neg (by omega), if_neg (by omega), if_neg (by omega)]; exact y
        · right
          refine ⟨r2, by omega, ?_⟩
          rw [c5, if_neg (by omega), if_neg (by omega), if_neg (by omega), if_neg (by omega), if_neg (by omega), if_neg (by omega), if_neg (by omega)]
          exact y2
    · intro c hc2
      obtain ⟨t1, t2, t3, t4⟩ := hTT c hc2
      have hb : bit t c = 0 ∨ (bit t c = 1 ∧ 1 ≤ (w 4 (c * 3 + 0)).toInt) := by
        rcases bit_01 t c with y | y
        · exact Or.inl y
        · right
          refine ⟨y, ?_⟩
          rcases Decidable.em (0 < w 4 (c * 3)) with x | x
          · rw [Int32.lt_iff_toInt_lt] at x
            exact x
          · exact absurd (exF_iff 6 0 |>.mpr ⟨c, by omega, by omega, decide_eq_true ⟨y, x⟩⟩) htl
      have e1 : (-(bit t c)).toInt = -(bit t c).toInt := by
        rcases hb with y | ⟨y, -⟩ <;> rw [y] <;> rfl
      have e4 : 0 ≤ (bit t c).toInt ∧ (bit t c).toInt ≤ 1 := bit_ti t c
      have e5 : (bit t c).toInt ≤ (w 4 (c * 3 + 0)).toInt := by
        rcases hb with y | ⟨y, y2⟩
        · rw [y]; exact t1
        · rw [y]; exact y2
      rw [c4 _ (by omega), c4 _ (by omega), c4 _ (by omega), if_pos (by omega), if_neg (by omega), if_neg (by omega), if_neg (by omega), if_pos (by omega), show (c * 3 + 0) / 3 = c by omega, show (c * 3 + 1) / 3 = c by omega]
      rw [ti_add (by omega) (by omega), ti_add (by omega) (by omega), e1]
      omega
    · intro k h1 h2
      rw [c2, c2, c2, if_neg (by omega), if_neg (by omega), if_neg (by omega), if_neg (by omega), if_neg (by omega), if_neg (by omega), if_neg (by omega), if_neg (by omega), if_neg (by omega)]
      exact hZ.1 k h1 h2
    · intro s h1 h2
      rw [c3, c3, if_neg (by omega), if_neg (by omega)]
      exact hZ.2 s h1 h2

