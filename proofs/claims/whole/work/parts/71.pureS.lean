/-! PURE: what is told, without the reasons -/
theorem StI_of {R : SG → Prop} {fX fM : Sp} {as : List Value} {σ σ1 σ2 : SG} {p1 p2 : Prop} {r1 r2 : Int32} (e1 : fX (.ref 0 :: as) (emb σ) = (p1, some (.int r1), emb σ1)) (h1 : p1) (e2 : fM (.ref 126 :: as) (emb σ1) = (p2, some (.int r2), emb σ2)) (h2 : p2) (hr : r1 = r2) (hR : R σ2) : StI R fX fM as σ := by
  subst hr
  exact ⟨p1, p2, r1, σ1, σ2, e1, h1, e2, h2, hR⟩
theorem wiN {x : Int32} {n : Nat} (h : wi x 0 (oN n)) (hn : n < 2 ^ 31) : ∃ r, r ≤ n ∧ x = oN r := by
  have hs := wi_sm (n := n) h (by decide) hn
  exact ⟨x.toNatClampNeg, hs.2, sm_eq hs⟩
theorem wiK {x : Int32} {K : Nat} (hK : K ≤ 1000) (h : wi x 0 (oN K - 1)) : ∃ r, r < K ∧ x = oN r := by
  cases K with
  | zero =>
    exfalso
    have h1 := h.1
    have h2 := h.2
    rw [Int32.lt_iff_toInt_lt] at h1 h2
    have e1 : (oN 0 - 1).toInt = -1 := by decide
    have e2 : (0 : Int32).toInt = 0 := rfl
    rw [e1] at h2
    rw [e2] at h1
    omega
  | succ K =>
    have hs := wi_sub (b := K) (by omega) (sm_oN (Nat.le_refl _) (by omega)) h
    exact ⟨x.toNatClampNeg, Nat.lt_succ_of_le hs.2, sm_eq hs⟩
theorem wi1 {x : Int32} {n : Nat} (h : wi x 1 (oN n)) (hn : n < 2 ^ 31) : ∃ r, 1 ≤ r ∧ r ≤ n ∧ x = oN r := by
  have hs := wi_sm (n := n) h (by decide) hn
  have h2 := hs.2
  refine ⟨x.toNatClampNeg, ?_, h2, sm_eq hs⟩
  have h1 := h.1
  rw [sm_eq hs] at h1
  change ¬ oN _ < oN 1 at h1
  rw [oN_lt (by omega) (by decide)] at h1
  omega
theorem laF_y {p : Nat → Bool} {f : Nat → Int32} {y : Int32} : ∀ (k n : Nat) (d : Int32), (∀ r, n ≤ r → r < n + k → p r = true → f r = y) → ((∃ r, n ≤ r ∧ r < n + k ∧ p r = true) ∨ d = y) → laF p f n k d = y := by
  intro k
  induction k with
  | zero =>
    intro n d _ h
    rcases h with ⟨r, h1, h2, -⟩ | h
    · omega
    · exact h
  | succ k ih =>
    intro n d h1 h2
    unfold laF
    refine ih (n + 1) _ (fun r a b c => h1 r (by omega) (by omega) c) ?_
    by_cases hp : p n = true
    · right
      rw [if_pos hp]
      exact h1 n (Nat.le_refl _) (by omega) hp
    · rw [if_neg hp]
      rcases h2 with ⟨r, a, b, c⟩ | h2
      · left
        exact ⟨r, by rcases Nat.lt_or_ge n r with q | q; exact q; exact absurd (show p n = true by rw [show n = r by omega]; exact c) hp, by omega, c⟩
      · exact Or.inr h2
theorem fsF_y {p : Nat → Bool} : ∀ (k n : Nat), (∃ r, n ≤ r ∧ r < n + k ∧ p r = true ∧ fsF p n k = oN r) ∨ ((∀ r, n ≤ r → r < n + k → p r = false) ∧ fsF p n k = -5) := by
  intro k
  induction k with
  | zero => intro n; right; exact ⟨fun r h1 h2 => by omega, rfl⟩
  | succ k ih =>
    intro n
    unfold fsF
    by_cases hp : p n = true
    · left
      exact ⟨n, Nat.le_refl _, by omega, hp, by rw [if_pos hp]⟩
    · rw [if_neg hp]
      rcases ih (n + 1) with ⟨r, a, b, c, d⟩ | ⟨h1, h2⟩
      · exact Or.inl ⟨r, by omega, by omega, c, d⟩
      · right
        refine ⟨fun r a b => ?_, h2⟩
        by_cases e : r = n
        · rw [e]; exact Bool.eq_false_iff.mpr hp
        · exact h1 r (by omega) (by omega)
theorem fsF_c {p q : Nat → Bool} : ∀ (k n : Nat), (∀ r, n ≤ r → r < n + k → p r = q r) → fsF p n k = fsF q n k := by
  intro k
  induction k with
  | zero => intro n _; rfl
  | succ k ih =>
    intro n h
    unfold fsF
    rw [h n (Nat.le_refl _) (by omega), ih (n + 1) (fun r a b => h r (by omega) (by omega))]
theorem smF_su (f : Nat → Int32) : ∀ (k n : Nat) (d : Int32), suF f n k d = d + smF f n k := by
  intro k
  induction k with
  | zero => intro n d; exact (Int32.add_zero d).symm
  | succ k ih =>
    intro n d
    unfold suF smF
    rw [ih, Int32.add_assoc]
theorem smF_s0 {f : Nat → Int32} {n k : Nat} : smF f n k = suF f n k 0 := by rw [smF_su, Int32.zero_add]
/-- the row of a hire, on both sides -/
theorem row_ok {w v : HV} {T K S N O E b : Nat} (h : Rel w (v 1) S O E 100) (i : Ivt w T K S N O E b 100) (x : Int32) : (rwF w x = -5 ∧ plF v x = -5) ∨ ∃ P, P < O ∧ rwF w x = oN P ∧ plF v x = oN P ∧ w 5 (P * 7 + 6) = x := by
  obtain ⟨hO, hE, hS⟩ := Ivt_O i
  have eW : (w 8 4).toNatClampNeg = O := by rw [i.1.2.2.2.2.1, oN_nat (by omega)]
  have eV : (v 1 16).toNatClampNeg = O := by rw [h.1.2.2.2.2.2.2.2.2, i.1.2.2.2.2.1, oN_nat (by omega)]
  have hw : ∀ r, r < O → hr w (oN r) 6 = w 5 (r * 7 + 6) := fun r hr => hr_6 (by omega)
  have hv : ∀ r, r < O → uh v (oN r) 0 = w 5 (r * 7 + 6) := by
    intro r hr
    show v 1 (1187 + 7 * oN r + 0).toNatClampNeg = _
    rw [adH_0 (by omega)]
    exact (h.2.2.2.2.2.1 r hr).1
  unfold rwF plF
  rw [eW, eV]
  rcases fsF_y (p := fun r => decide (hr w (oN r) 6 = x)) O 0 with ⟨P, -, hP, hp, he⟩ | ⟨hn, he⟩
  · right
    have hp := of_decide_eq_true hp
    rw [hw P (by omega)] at hp
    refine ⟨P, by omega, he, ?_, hp⟩
    refine laF_y O 0 (-5) (fun r _ hr hq => ?_) (Or.inl ⟨P, Nat.zero_le _, hP, ?_⟩)
    · have hq := of_decide_eq_true hq
      rw [hv r (by omega)] at hq
      rw [i.2.2.2.2.1 r (by omega) P (by omega) (hq.trans hp.symm)]
    · exact decide_eq_true (by rw [hv P (by omega)]; exact hp)
  · left
    refine ⟨he, laF_y O 0 (-5) (fun r _ hr hq => ?_) (Or.inr rfl)⟩
    have hq := of_decide_eq_true hq
    have := of_decide_eq_false (hn r (Nat.zero_le _) hr)
    rw [hv r (by omega)] at hq
    rw [hw r (by omega)] at this
    exact absurd hq this
theorem m5_lt : ((-5 : Int32) < 0) = True := eq_true (by decide)
theorem s_hireOf (σ : SG) (x y : Int32) (hR : RG σ) : StI RG f_X_hireOf f_M_hireOf [.int x, .int y] σ := by
  obtain ⟨T, K, S, N, O, E, h, i⟩ := id hR.1
  obtain ⟨hO, hE, hS⟩ := Ivt_O i
  have e84 : σ 0 8 4 = oN O := i.1.2.2.2.2.1
  have e16 : σ 8 1 16 = oN O := h.1.2.2.2.2.2.2.2.2.trans e84
  refine StI_of q_X_hireOf (by rw [e84]; exact sm_oN hO (by decide)) q_M_hireOf (by rw [e16]; exact sm_oN hO (by decide)) ?_ hR
  rcases row_ok h i x with ⟨h1, h2⟩ | ⟨P, hP, h1, h2, -⟩
  · rw [h1, h2, if_pos (by decide), if_pos rfl]
  · rw [h1, h2, if_neg (by rw [oN_nn (by omega)]; exact id), if_neg (oN_m5 (by omega))]
    by_cases hy : wi y 0 5
    · rw [if_pos hy, if_pos hy]
      obtain ⟨c, hc, rfl⟩ := wiN (n := 5) hy (by decide)
      rw [hr_n (by omega) (by omega), oN_succ]
      show _ = σ 8 1 (1187 + 7 * oN P + oN (c + 1)).toNatClampNeg
      rw [adH (by omega) (by omega)]
      exact ((h.2.2.2.2.2.1 P hP).2 c (by omega) (by omega)).symm
    · rw [if_neg hy, if_neg hy]
theorem s_kiteOf (σ : SG) (x y : Int32) (hR : RG σ) : StI RG f_X_kiteOf f_M_kiteOf [.int x, .int y] σ := by
  obtain ⟨T, K, S, N, O, E, h, i⟩ := id hR.1
  obtain ⟨hO, hE, hS⟩ := Ivt_O i
  have hK : K ≤ 16 := i.2.1.2.1
  have e81 : σ 0 8 1 = oN K := i.1.2.1
  have e6 : σ 8 1 6 = oN K := h.1.2.2.1.trans e81
  have e16 : σ 8 1 16 = oN O := h.1.2.2.2.2.2.2.2.2.trans i.1.2.2.2.2.1
  refine StI_of q_X_kiteOf trivial q_M_kiteOf ⟨by rw [e6]; exact sm_oN hK (by decide), by rw [e16]; exact sm_oN hO (by decide)⟩ ?_ hR
  rw [e81, e6]
  rcases Decidable.em (wi x 0 (oN K - 1)) with hx | hx
  case inr => rw [if_neg hx, if_neg hx]
  rw [if_pos hx, if_pos hx]
  obtain ⟨r, hr, rfl⟩ := wiK (by omega) hx
  by_cases hy : wi y 0 6
  · rw [if_pos hy]
    obtain ⟨c, hc, rfl⟩ := wiN (n := 6) hy (by decide)
    rw [if_pos (show wi (oN c) 0 7 from ⟨hy.1, by show ¬ oN 7 < oN c; rw [oN_lt (by decide) (by omega)]; omega⟩), kt_n (by omega) (by omega)]
    show _ = σ 8 1 (1017 + 7 * oN r + oN c).toNatClampNeg
    rw [adK (by omega) (by omega)]
    exact (h.2.2.1 r (by omega) c (by omega)).symm
  rw [if_neg hy]
  by_cases hy7 : y = 7
  · subst hy7
    rw [if_pos (show wi 7 0 7 by decide), if_pos rfl, kt_7 (by omega)]
    unfold hwF
    rw [show (σ 8 1 16).toNatClampNeg = O by rw [e16, oN_nat (by omega)]]
    have hv : ∀ q, q < O → uh (σ 8) (oN q) 0 = σ 0 5 (q * 7 + 6) ∧ uh (σ 8) (oN q) 1 = σ 0 5 (q * 7 + 0) := by
      intro q hq
      constructor
      · show σ 8 1 (1187 + 7 * oN q + 0).toNatClampNeg = _
        rw [adH_0 (by omega)]
        exact (h.2.2.2.2.2.1 q hq).1
      · show σ 8 1 (1187 + 7 * oN q + 1).toNatClampNeg = _
        rw [adH_1 (by omega)]
        exact (h.2.2.2.2.2.1 q hq).2 0 (by decide) (by omega)
    symm
    refine laF_y O 0 (-5) (fun q _ hq hp => ?_) ?_
    · have hp := of_decide_eq_true hp
      rw [(hv q (by omega)).2] at hp
      obtain ⟨k, s, n, p1, p2, p3, p4, p5, p6, p7, p8, -⟩ := i.2.2.2.1 q (by omega)
      have : k = r := oN_inj (by omega) (by omega) (p4.symm.trans hp)
      subst this
      rw [(hv q (by omega)).1, p6, p8]
    · rcases i.2.2.2.2.2.1 r hr with hN | ⟨q, hq, hN⟩
      · exact Or.inr hN.symm
      · left
        exact ⟨q, Nat.zero_le _, by omega, decide_eq_true (by rw [(hv q hq).2]; exact hN)⟩
  · rw [if_neg hy7]
    rw [if_neg]
    intro q
    obtain ⟨c, hc, rfl⟩ := wiN (n := 7) q (by decide)
    rcases Nat.lt_or_ge c 7 with hc7 | hc7
    · exact hy ⟨q.1, by show ¬ oN 6 < oN c; rw [oN_lt (by decide) (by omega)]; omega⟩
    · exact hy7 (by rw [show c = 7 by omega]; rfl)
theorem s_spoolOf (σ : SG) (x y : Int32) (hR : RG σ) : StI RG f_X_spoolOf f_M_spoolOf [.int x, .int y] σ := by
  obtain ⟨T, K, S, N, O, E, h, i⟩ := id hR.1
  obtain ⟨hO, hE, hS⟩ := Ivt_O i
  have e82 : σ 0 8 2 = oN S := i.1.2.2.1
  have e7 : σ 8 1 7 = oN S := h.1.2.2.2.1.trans e82
  refine StI_of q_X_spoolOf trivial q_M_spoolOf (by rw [e7]; exact sm_oN hS (by decide)) ?_ hR
  rw [e82, e7]
  rcases Decidable.em (wi x 0 (oN S - 1)) with hx | hx
  case inr => rw [if_neg hx, if_neg hx]
  rw [if_pos hx, if_pos hx]
  obtain ⟨r, hr, rfl⟩ := wiK (by omega) hx
  by_cases hy : wi y 0 3
  · rw [if_pos hy, if_pos hy]
    obtain ⟨c, hc, rfl⟩ := wiN (n := 3) hy (by decide)
    rw [sl_n (by omega) (by omega)]
    show _ = σ 8 1 (1129 + 4 * oN r + oN c).toNatClampNeg
    rw [adS (by omega) (by omega), show 1129 + 4 * r + c = 1129 + (r * 4 + c) by omega]
    exact (h.2.2.2.1 _ (by omega)).symm
  · rw [if_neg hy, if_neg hy]
theorem s_tailsOf (σ : SG) (x y : Int32) (hR : RG σ) : StI RG f_X_tailsOf f_M_tailsOf [.int x, .int y] σ := by
  obtain ⟨T, K, S, N, O, E, h, i⟩ := id hR.1
  refine StI_of q_X_tailsOf trivial q_M_tailsOf trivial ?_ hR
  rcases Decidable.em (wi x 0 5) with hx | hx
  case inr => rw [if_neg hx, if_neg hx]
  rw [if_pos hx, if_pos hx]
  obtain ⟨r, hr, rfl⟩ := wiN (n := 5) hx (by decide)
  by_cases hy : wi y 0 2
  · rw [if_pos hy, if_pos hy]
    obtain ⟨c, hc, rfl⟩ := wiN (n := 2) hy (by decide)
    rw [tll_n (by omega) (by omega)]
    show _ = σ 8 1 (1169 + 3 * oN r + oN c).toNatClampNeg
    rw [adT (by omega) (by omega), show 1169 + 3 * r + c = 1169 + (r * 3 + c) by omega]
    exact (h.2.2.2.2.1 _ (by omega)).symm
  · rw [if_neg hy, if_neg hy]
theorem s_ended (σ : SG) (x y : Int32) (hR : RG σ) : StI RG f_X_ended f_M_ended [.int x, .int y] σ := by
  obtain ⟨T, K, S, N, O, E, h, i⟩ := id hR.1
  obtain ⟨hO, hE, hS⟩ := Ivt_O i
  have e85 : σ 0 8 5 = oN E := i.1.2.2.2.2.2.1
  have e15 : σ 8 1 15 = oN (min E 8) := h.2.2.2.2.2.2.1.1
  refine StI_of q_X_ended trivial q_M_ended trivial ?_ hR
  rw [e85, e15]
  rcases Decidable.em (wi x 0 7) with hx | hx
  case inr => rw [if_neg hx, if_neg hx]
  rw [if_pos hx, if_pos hx]
  obtain ⟨j, hj, rfl⟩ := wiN (n := 7) hx (by decide)
  rcases Decidable.em (wi y 0 3) with hy | hy
  case inr => rw [if_neg hy, if_neg hy]
  rw [if_pos hy, if_pos hy]
  obtain ⟨c, hc, rfl⟩ := wiN (n := 3) hy (by decide)
  by_cases hl : j < E
  · rw [if_pos (show oN j < oN E by rw [oN_lt (by omega) (by omega)]; exact hl), if_pos (show oN j < oN (min E 8) by rw [oN_lt (by omega) (by omega)]; omega)]
    have em : (E - 1 - j) % 8 < 8 := Nat.mod_lt _ (by decide)
    rw [show oN E - 1 - oN j = oN (E - 1 - j) by rw [show (1 : Int32) = oN 1 from rfl, oN_sub (by omega), oN_sub (by omega)], mod8 _ (by omega)]
    have e1 : (1257 + 4 * oN j + oN c).toNatClampNeg = 1257 + 4 * j + c := by
      rw [show (1257 : Int32) = oN 1257 from rfl, show (4 : Int32) = oN 4 from rfl, oN_mul, oN_add, oN_add, oN_nat (by omega)]
    rw [e1, h.2.2.2.2.2.2.1.2 j (by omega) c (by omega)]
    exact at_oN (C := 4) (by omega) (by decide)
  · rw [if_neg (show ¬ oN j < oN E by rw [oN_lt (by omega) (by omega)]; exact hl), if_neg (show ¬ oN j < oN (min E 8) by rw [oN_lt (by omega) (by omega)]; omega)]
theorem s_windOf (σ : SG) (x : Int32) (hR : RG σ) : StI RG f_X_windOf f_M_windOf [.int x] σ := by
  obtain ⟨T, K, S, N, O, E, h, i⟩ := id hR.1
  refine StI_of q_X_windOf trivial q_M_windOf trivial ?_ hR
  rcases Decidable.em (wi x 0 999) with hx | hx
  case inr => rw [if_neg hx, if_neg hx]
  rw [if_pos hx, if_pos hx]
  obtain ⟨j, hj, rfl⟩ := wiN (n := 999) hx (by decide)
  rw [wi_n (by omega), adW (by omega)]
  exact (h.2.1 j (by omega)).symm
theorem s_perHour (σ : SG) (hR : RG σ) : StV UInt64 Value.double RG f_X_perHour f_M_perHour [] σ := by
  obtain ⟨T, K, S, N, O, E, h, i⟩ := id hR.1
  have e7 := i.1.2.2.2.2.2.2
  have e14 : σ 8 1 14 = σ 0 8 7 := h.1.2.2.2.2.2.2.2.1
  have e12 : σ 8 1 12 = σ 0 8 6 := h.1.2.2.2.2.2.2.1
  have hd : phD (σ 0) = phM (σ 8) := by
    unfold phD phM
    rw [e14, e12]
    have h2 := e7.2
    have hT : T ≤ 1000 := i.2.1.1
    by_cases h0 : σ 0 8 7 = 0
    · rw [if_neg (by rw [h0]; decide), if_pos h0]
    · rw [if_pos, if_neg h0]
      rw [sm_eq e7]
      show oN 0 < oN _
      rw [oN_lt (by decide) (by omega)]
      rcases Nat.eq_zero_or_pos (σ 0 8 7).toNatClampNeg with q | q
      · exact absurd (by rw [sm_eq e7, q]; rfl) h0
      · exact q
  refine ⟨_, _, phD (σ 0), σ, σ, q_X_perHour, trivial, ?_, trivial, hR⟩
  rw [hd]
  exact q_M_perHour

