/-! PURE: counts -/
theorem s_count (σ : SG) (x : Int32) (hR : RG σ) : StI RG f_X_count f_M_count [.int x] σ := by
  obtain ⟨T, K, S, N, O, E, h, i⟩ := id hR.1
  obtain ⟨e0, e6, e7, e16, hT, hK, hS, hO⟩ := g_0 h i
  obtain ⟨la, hd, -, -, -, gh, gk, -⟩ := hR.2.1
  obtain ⟨len, l1, l2, l3, -⟩ := hR.2.2.2
  refine StI_of q_X_count ⟨by rw [i.1.2.1]; exact sm_oN hK (by decide), by rw [i.1.2.2.1]; exact sm_oN hS (by decide)⟩ q_M_count ⟨by rw [e0]; exact sm_oN hT (by decide), by rw [e6]; exact sm_oN hK (by decide), by rw [e7]; exact sm_oN hS (by decide)⟩ ?_ hR
  unfold cuF coM
  rcases Decidable.em (wi x 0 22) with c1 | c1
  case inr =>
    have h1 : ¬ wi x 18 22 := fun q => c1 ⟨fun z => q.1 (by
      rw [Int32.lt_iff_toInt_lt] at z ⊢
      have a1 : (0 : Int32).toInt = 0 := rfl
      have a2 : (18 : Int32).toInt = 18 := rfl
      omega), q.2⟩
    rw [if_neg c1, if_neg h1, coT_d]
    have a1 : (0 : Int32).toInt = 0 := rfl
    have a2 : (22 : Int32).toInt = 22 := rfl
    rcases Decidable.em (x < 0) with z | z
    · rw [Int32.lt_iff_toInt_lt] at z
      left; omega
    · right
      have : (22 : Int32) < x := Decidable.byContradiction (fun q => c1 ⟨z, q⟩)
      rw [Int32.lt_iff_toInt_lt] at this
      omega
  rw [if_pos c1]
  obtain ⟨n, hn, rfl⟩ := wiN (n := 22) c1 (by decide)
  by_cases h18 : n < 18
  · have hx : oN n < 18 := by show oN n < oN 18; rw [oN_lt (by omega) (by decide)]; exact h18
    rw [if_pos hx, if_neg (fun q : wi (oN n) 18 22 => q.1 hx)]
    have eK : (σ 0 8 1).toNatClampNeg = K := by rw [i.1.2.1, oN_nat (by omega)]
    have eS : (σ 0 8 2).toNatClampNeg = S := by rw [i.1.2.2.1, oN_nat (by omega)]
    have eK' : (σ 8 1 6).toNatClampNeg = K := by rw [e6, oN_nat (by omega)]
    have eS' : (σ 8 1 7).toNatClampNeg = S := by rw [e7, oN_nat (by omega)]
    have hkt : ∀ y : Int32, smF (fun r => if kt (σ 0) (oN r) 0 = y then 1 else 0) 0 (σ 0 8 1).toNatClampNeg = ktF (σ 8) y := by
      intro y
      unfold ktF
      rw [eK, eK', smF_s0]
      refine suF_c _ _ _ (fun r _ hr => ?_)
      have e : uk (σ 8) (oN r) 0 = kt (σ 0) (oN r) 0 := (ukn (c := 0) h (by omega) (by decide)).trans (kt_0 (by omega)).symm
      rw [e]
    have hm : smF (fun r => sl (σ 0) (oN r) 0) 0 (σ 0 8 2).toNatClampNeg = amF (σ 8) := by
      unfold amF
      rw [eS, eS', smF_s0]
      refine suF_c _ _ _ (fun r _ hr => ?_)
      exact (sl_0 (by omega)).trans (usn (c := 0) h (by omega) (by decide)).symm
    have hl : smF (fun r => sl (σ 0) (oN r) 3) 0 (σ 0 8 2).toNatClampNeg = σ 8 1 13 := by
      rw [eS, smF_s0]
      refine Eq.trans (suF_c _ _ _ (fun r _ hr => ?_)) h.2.2.2.2.2.2.2.symm
      exact sl_3 (by omega)
    have hr : bi (σ 0 8 0 < 1000 ∧ ¬ windAt (σ 0) (σ 0 8 0) < settg (σ 0) 0) = rdM (σ 8) := by
      have key : (σ 0 8 0 < 1000 ∧ ¬ windAt (σ 0) (σ 0 8 0) < settg (σ 0) 0) ↔ rdP (σ 8) := by
        unfold rdP
        rw [i.1.1, e0, se_0]
        have g1 : σ 8 1 1 = σ 0 1 0 := h.1.2.1 0 (by decide)
        rw [g1]
        by_cases hT2 : T < 1000
        · have e2 : σ 8 1 (17 + oN T).toNatClampNeg = σ 0 0 T := by rw [adW (by omega)]; exact h.2.1 T hT2
          rw [wi_n hT2, e2]
        · have hT3 : ¬ oN T < 1000 := by show ¬ oN T < oN 1000; rw [oN_lt (by omega) (by decide)]; exact hT2
          exact ⟨fun q => absurd q.1 hT3, fun q => absurd q.1 hT3⟩
      unfold bi rdM
      by_cases z : rdP (σ 8)
      · rw [if_pos z, if_pos (key.mpr z)]
      · rw [if_neg z, if_neg (fun q => z (key.mp q))]
    rcases (show n = 0 ∨ n = 1 ∨ n = 2 ∨ n = 3 ∨ n = 4 ∨ n = 5 ∨ n = 6 ∨ n = 7 ∨ n = 8 ∨ n = 9 ∨ n = 10 ∨ n = 11 ∨ n = 12 ∨ n = 13 ∨ n = 14 ∨ n = 15 ∨ n = 16 ∨ n = 17 by omega) with q | q | q | q | q | q | q | q | q | q | q | q | q | q | q | q | q | q <;> subst q
    · rw [show coT (σ 8) (oN 0) = _ from coT_0 (σ 8)]
      rw [if_neg (by decide), if_neg (by decide)]
      exact (i.1.1).trans e0.symm
    · rw [show coT (σ 8) (oN 1) = _ from coT_1 (σ 8)]
      rw [if_neg (by decide), if_neg (by decide)]
      exact (i.1.2.1).trans e6.symm
    · rw [show coT (σ 8) (oN 2) = _ from coT_2 (σ 8)]
      rw [if_neg (by decide), if_neg (by decide)]
      exact hkt 0
    · rw [show coT (σ 8) (oN 3) = _ from coT_3 (σ 8)]
      rw [if_neg (by decide), if_neg (by decide)]
      exact hkt 1
    · rw [show coT (σ 8) (oN 4) = _ from coT_4 (σ 8)]
      rw [if_neg (by decide), if_neg (by decide)]
      exact hkt 2
    · rw [show coT (σ 8) (oN 5) = _ from coT_5 (σ 8)]
      rw [if_neg (by decide), if_neg (by decide)]
      exact (i.1.2.2.1).trans e7.symm
    · rw [show coT (σ 8) (oN 6) = _ from coT_6 (σ 8)]
      rw [if_neg (by decide), if_neg (by decide)]
      exact h.1.2.2.2.2.1.symm
    · rw [show coT (σ 8) (oN 7) = _ from coT_7 (σ 8)]
      rw [if_neg (by decide), if_neg (by decide)]
      exact (i.1.2.2.2.2.1).trans e16.symm
    · rw [show coT (σ 8) (oN 8) = _ from coT_8 (σ 8)]
      rw [if_neg (by decide), if_neg (by decide)]
      exact (atW_n (r := 0) (by decide)).trans (h.1.2.2.2.2.2.1 0 (by decide)).symm
    · rw [show coT (σ 8) (oN 9) = _ from coT_9 (σ 8)]
      rw [if_neg (by decide), if_neg (by decide)]
      exact (atW_n (r := 1) (by decide)).trans (h.1.2.2.2.2.2.1 1 (by decide)).symm
    · rw [show coT (σ 8) (oN 10) = _ from coT_10 (σ 8)]
      rw [if_neg (by decide), if_neg (by decide)]
      exact (atW_n (r := 2) (by decide)).trans (h.1.2.2.2.2.2.1 2 (by decide)).symm
    · rw [show coT (σ 8) (oN 11) = _ from coT_11 (σ 8)]
      rw [if_neg (by decide), if_neg (by decide)]
      exact h.1.2.2.2.2.2.2.1.symm
    · rw [show coT (σ 8) (oN 12) = _ from coT_12 (σ 8)]
      rw [if_neg (by decide), if_neg (by decide)]
      exact hm
    · rw [show coT (σ 8) (oN 13) = _ from coT_13 (σ 8)]
      rw [if_neg (by decide), if_neg (by decide)]
      exact hl
    · rw [show coT (σ 8) (oN 14) = _ from coT_14 (σ 8)]
      rw [if_neg (by decide), if_neg (by decide)]
      exact h.1.2.2.2.2.2.2.2.1.symm
    · rw [show coT (σ 8) (oN 15) = _ from coT_15 (σ 8)]
      rw [if_neg (by decide), if_neg (by decide)]
      exact hr
    · rw [show coT (σ 8) (oN 16) = _ from coT_16 (σ 8)]
      rw [if_pos (by decide)]
      exact gh.trans gk.symm
    · rw [show coT (σ 8) (oN 17) = _ from coT_17 (σ 8)]
      rw [if_neg (by decide), if_pos (by decide)]
      exact l2.trans l3.symm
  · have hx : ¬ oN n < 18 := by show ¬ oN n < oN 18; rw [oN_lt (by omega) (by decide)]; exact h18
    rw [if_neg hx, if_pos (show wi (oN n) 18 22 from ⟨hx, c1.2⟩)]
    rw [show oN n - 18 = oN (n - 18) by rw [show (18 : Int32) = oN 18 from rfl, oN_sub (by omega)], se_n (by omega)]
    rw [show 1 + oN n - 18 = oN (1 + (n - 18)) by rw [show (18 : Int32) = oN 18 from rfl, show (1 : Int32) = oN 1 from rfl, oN_add, oN_sub (by omega)]; exact congrArg oN (by omega), oN_nat (by omega)]
    exact (h.1.2.1 (n - 18) (by omega)).symm

