/-! PURE: acts: hire -/
theorem s_hire (σ : SG) (k m h t : Int32) (hR : RG σ) : StI RG f_X_hire f_M_hire [.int k, .int m, .int h, .int t] σ := by
  obtain ⟨T, K, S, N, O, E, hr, i⟩ := id hR.1
  obtain ⟨e0, e6, e7, e16, hT, hK, hS, hO⟩ := g_0 hr i
  have e81 : σ 0 8 1 = oN K := i.1.2.1
  have e82 : σ 0 8 2 = oN S := i.1.2.2.1
  have e83 : σ 0 8 3 = oN N := i.1.2.2.2.1
  have hN : N ≤ 200 := i.2.1.2.2.2.1
  have e18 : σ 8 1 8 = oN N := hr.1.2.2.2.2.1.trans e83
  have p1 : ltP σ ∧ sm (σ 0 8 2) 10 := ⟨RG_lt hR, by rw [e82]; exact sm_oN hS (by decide)⟩
  have hrk : Rel (σ 0) (knM (σ 8) 1) S O E 100 := by rw [knM_1]; exact hr
  have core : ∀ r l, r < K → 1 ≤ l → l ≤ 12 → N < 200 → sm t 63 → ¬ 0 < refu (σ 0) (oN r) m (oN l) t → ∃ q, q < 10 ∧ sfM (knM (σ 8)) m = oN q ∧ O < 10 ∧ Rel (bgH (σ 0) (oN r) m (oN l) t) (hjM (knM (σ 8)) (oN r) (oN q) m (oN l) t 1) S (O + 1) E 100 ∧ Ivt (bgH (σ 0) (oN r) m (oN l) t) T K S (N + 1) (O + 1) E (10 * T) 100 := by
    intro r l hr1 l1 l2 hN2 ht h0
    rcases refu_c (σ 0) (oN r) m (oN l) t with ⟨-, c1, c4, c5⟩ | hc
    case inr => exact absurd hc h0
    have eS : (σ 0 8 2).toNatClampNeg = S := by rw [e82, oN_nat (by omega)]
    have hs := spool_ok hrk hS (m := m) S 0 (-5) (by omega) (Or.inl rfl)
    rw [eS] at c4
    rcases hs.2 with y | ⟨q, y1, y2, y3⟩
    · exact absurd y c4
    · have es : spF (σ 0) m 0 (σ 0 8 2).toNatClampNeg (-5) = oN q := by rw [eS]; exact y2
      rw [kt_0 (by omega)] at c1
      obtain ⟨-, z2, z3, z4⟩ := hire_ok hrk i hr1 hN2 y1 es y3 c1 c5 l1 l2 ht
      refine ⟨q, by omega, ?_, z2, z3, z4⟩
      unfold sfM
      rw [knM_1, e7, oN_nat (by omega), ← hs.1]
      exact y2
  have p2 : sm (σ 8 0 1) 4 ∧ sm (σ 8 1 0) 1000 ∧ sm (σ 8 1 6) 16 ∧ sm (σ 8 1 7) 10 ∧ (wi k 0 (σ 8 1 6 - 1) → ihP m h t → ¬ 0 < rnM (σ 8) k m h t → ¬ σ 8 1 8 = 200 → sm (knM (σ 8) 1 16) 9 ∧ sm (sfM (knM (σ 8)) m) 9) := by
    refine ⟨RG_k hR, by rw [e0]; exact sm_oN hT (by decide), by rw [e6]; exact sm_oN hK (by decide), by rw [e7]; exact sm_oN hS (by decide), ?_⟩
    intro q1 q2 q3 q4
    rw [e6] at q1
    obtain ⟨r, hr1, rfl⟩ := wiK (by omega) q1
    obtain ⟨l, l1, l2, rfl⟩ := wi1 (n := 12) q2.2.1 (by decide)
    rw [← ref_ok hr i (by omega) l2] at q3
    rw [e18] at q4
    have hN2 : N < 200 := by
      rcases Nat.lt_or_ge N 200 with y | y
      · exact y
      · exact absurd (congrArg oN (show N = 200 by omega)) q4
    obtain ⟨q, hq, z1, z2, -⟩ := core r l hr1 l1 l2 hN2 (wi_sm (n := 63) q2.2.2 (by decide) (by decide)) q3
    rw [knM_1, e16, z1]
    exact ⟨sm_oN (by omega) (by decide), sm_oN (by omega) (by decide)⟩
  have bad : ∀ r, hiF σ k m h t = (r, σ) → hrM (σ 8) k m h t = (r, σ 8) → StI RG f_X_hire f_M_hire [.int k, .int m, .int h, .int t] σ := fun r hX hM => StI_2 (M := fun v => hrM v k m h t) q_X_hire p1 q_M_hire (by rw [hX]; exact p2) hX hM (RG_self hR)
  rcases Decidable.em (wi k 0 (oN K - 1)) with c1 | c1
  case inr =>
    have ew : wyF σ k m h t = -1 := by unfold wyF; rw [e81, if_neg c1]
    exact bad (-1) (by unfold hiF; rw [ew, if_pos (by decide)]) (by unfold hrM; rw [e6, if_neg c1])
  by_cases c2 : ihP m h t
  case neg =>
    have ew : wyF σ k m h t = -2 := by
      unfold wyF
      rw [e81, if_pos c1]
      by_cases d1 : wi m 1 300
      · rw [if_pos d1]
        by_cases d2 : wi h 1 12
        · rw [if_pos d2]
          by_cases d3 : wi t 0 63
          · exact absurd ⟨d1, d2, d3⟩ c2
          · rw [if_neg d3]
        · rw [if_neg d2]
      · rw [if_neg d1]
    exact bad (-2) (by unfold hiF; rw [ew, if_pos (by decide)]) (by unfold hrM; rw [e6, if_pos c1, if_neg c2])
  obtain ⟨r, hr1, rfl⟩ := wiK (by omega) c1
  obtain ⟨l, l1, l2, rfl⟩ := wi1 (n := 12) c2.2.1 (by decide)
  have hrf := ref_ok hr i (r := r) (hn := l) (by omega) l2 m t
  have ew : wyF σ (oN r) m (oN l) t = refu (σ 0) (oN r) m (oN l) t := by
    unfold wyF
    rw [e81, if_pos c1, if_pos c2.1, if_pos c2.2.1, if_pos c2.2.2]
  by_cases c3 : 0 < refu (σ 0) (oN r) m (oN l) t
  · refine bad (-10 - refu (σ 0) (oN r) m (oN l) t) ?_ ?_
    · unfold hiF
      rw [ew, if_neg ?_, if_pos c3]
      intro z
      rw [Int32.lt_iff_toInt_lt] at z c3
      omega
    · unfold hrM
      rw [e6, if_pos c1, if_pos c2, ← hrf, if_pos c3]
  have hz : refu (σ 0) (oN r) m (oN l) t = 0 := by
    rcases refu_c (σ 0) (oN r) m (oN l) t with ⟨y, -⟩ | y
    · exact y
    · exact absurd y c3
  by_cases c4 : N = 200
  · refine bad (-3) ?_ ?_
    · unfold hiF
      rw [ew, hz, if_neg (by decide), if_neg (by decide), e83, c4, if_neg (by decide)]
    · unfold hrM
      rw [e6, if_pos c1, if_pos c2, ← hrf, if_neg c3, e18, c4, if_pos (show oN 200 = 200 from rfl)]
  obtain ⟨q, hq, z1, z2, z3, z4⟩ := core r l hr1 l1 l2 (by omega) (wi_sm (n := 63) c2.2.2 (by decide) (by decide)) c3
  have hX : hiF σ (oN r) m (oN l) t = (oN N, up1 (rcW σ) 0 (bgH (σ 0) (oN r) m (oN l) t)) := by
    unfold hiF
    rw [ew, hz, if_neg (by decide), if_neg (by decide), e83, if_pos (by show oN N < oN 200; rw [oN_lt (by omega) (by decide)]; omega)]
  have h8 : hjM (knM (σ 8)) (oN r) (oN q) m (oN l) t 1 8 = oN (N + 1) := by
    rw [z3.1.2.2.2.2.1]
    exact z4.1.2.2.2.1
  have hM : hrM (σ 8) (oN r) m (oN l) t = (oN N, hjM (knM (σ 8)) (oN r) (oN q) m (oN l) t) := by
    unfold hrM
    rw [e6, if_pos c1, if_pos c2, ← hrf, if_neg c3, e18, if_neg (show ¬ oN N = 200 from fun y => c4 (oN_inj (b := 200) (by omega) (by decide) y)), z1, h8, show (1 : Int32) = oN 1 from rfl, oN_sub (by omega), show N + 1 - 1 = N by omega]
  have e8 : (oN N, up1 (rcW σ) 0 (bgH (σ 0) (oN r) m (oN l) t)).2 8 = σ 8 := r08 (w := bgH (σ 0) (oN r) m (oN l) t) (RG_lt hR)
  refine StI_2 (M := fun v => hrM v (oN r) m (oN l) t) q_X_hire p1 q_M_hire (by rw [hX, e8]; exact p2) hX (by rw [r08 (RG_lt hR)]; exact hM) ?_
  exact act_kn hR (fun k hk => hj_k hk) ⟨T, K, S, N + 1, O + 1, E, z3, z4⟩

