/-! THE LAW: what a hire, a back, hours do; what would be -/
theorem refu_r (w : HV) (k m h s : Int32) : ∃ n, n ≤ 6 ∧ refu w k m h s = oN n := by
  unfold refu
  split
  · split
    · exact ⟨2, by decide, rfl⟩
    · split
      · exact ⟨3, by decide, rfl⟩
      · split
        · exact ⟨4, by decide, rfl⟩
        · split
          · exact ⟨5, by decide, rfl⟩
          · split
            · exact ⟨6, by decide, rfl⟩
            · exact ⟨0, by decide, rfl⟩
  · exact ⟨1, by decide, rfl⟩
theorem m10 : ∀ n, n ≤ 6 → (-10 : Int32) - oN n < 0 := by decide +kernel
section OUT2
variable {σ : SG} {T K S N O E : Nat}
theorem hiF_o (h : LwS σ T K S N O E) (hN : N < 200) {r mm l z : Nat} (hr : r ≤ K) (m1 : 1 ≤ mm) (m2 : mm ≤ 300) (l1 : 1 ≤ l) (l2 : l ≤ 12) (hz : z < 64) :
    (wyF σ (oN r) (oN mm) (oN l) (oN z) < 0 ∧ hiF σ (oN r) (oN mm) (oN l) (oN z) = (wyF σ (oN r) (oN mm) (oN l) (oN z), σ)) ∨
    (0 < wyF σ (oN r) (oN mm) (oN l) (oN z) ∧ ¬ wyF σ (oN r) (oN mm) (oN l) (oN z) < 0 ∧ hiF σ (oN r) (oN mm) (oN l) (oN z) = (-10 - wyF σ (oN r) (oN mm) (oN l) (oN z), σ) ∧ -10 - wyF σ (oN r) (oN mm) (oN l) (oN z) < 0) ∨
    (wyF σ (oN r) (oN mm) (oN l) (oN z) = 0 ∧ r < K ∧ ∃ w2, hiF σ (oN r) (oN mm) (oN l) (oN z) = (oN N, up1 (rcW σ) 0 w2) ∧ J w2 (σ 8 0) T K S (N + 1) (O + 1) E (10 * T) ∧ w2 8 6 = σ 0 8 6 + σ 0 2 (r * 8 + 4) * oN l ∧ w2 5 (O * 7 + 3) = oN l ∧ w2 5 (O * 7 + 6) = oN N ∧ ∀ k, w2 2 (k * 8 + 4) = σ 0 2 (k * 8 + 4)) := by
  have hb := J_bd h.1
  by_cases hrK : r = K
  · subst hrK
    left
    have ew : wyF σ (oN r) (oN mm) (oN l) (oN z) = -1 := by
      unfold wyF
      rw [J_81 h.1, if_neg (wi_nK (by omega))]
    refine ⟨by rw [ew]; decide, ?_⟩
    unfold hiF
    rw [ew, if_pos (by decide)]
  · right
    have hr2 : r < K := by omega
    have ew : wyF σ (oN r) (oN mm) (oN l) (oN z) = refu (σ 0) (oN r) (oN mm) (oN l) (oN z) := by
      unfold wyF
      rw [J_81 h.1, if_pos (wi_oK (by omega) hr2), if_pos (wi_1 (C := 300) (c := 300) rfl (by decide) m1 m2), if_pos (wi_1 (C := 12) (c := 12) rfl (by decide) l1 l2), if_pos (wi_o (K := 63) (c := 63) rfl (by decide) (by omega))]
    obtain ⟨n, hn, en⟩ := refu_r (σ 0) (oN r) (oN mm) (oN l) (oN z)
    by_cases hn0 : n = 0
    · right
      subst hn0
      have ew0 : wyF σ (oN r) (oN mm) (oN l) (oN z) = 0 := ew.trans en
      refine ⟨ew0, hr2, ?_⟩
      rcases refu_c (σ 0) (oN r) (oN mm) (oN l) (oN z) with ⟨-, c1, c4, c5⟩ | hc
      case inr => rw [en] at hc; exact absurd hc (by decide)
      have eS : (σ 0 8 2).toNatClampNeg = S := by rw [J_82 h.1, oN_nat (by omega)]
      rw [eS] at c4
      rcases spF_g (w := σ 0) (m := oN mm) hb.2.2.1 S 0 (-5) (by omega) (Or.inl rfl) with y | ⟨q, y1, y2, y3, y4⟩
      · exact absurd y c4
      rw [kt_0 (by omega)] at c1
      have hl := h.1.2.1.2.2.2.2.1 q y1
      have s4 := h.1.2.1.1.2.2.2.2
      have eM := sm_eq hl.1
      have hM := hl.1.2
      have hmm : mm ≤ (σ 0 3 (q * 4 + 0)).toNatClampNeg := by
        rw [eM, sm_eq s4, oN_add] at y4
        have := s4.2
        rw [oN_lt (by omega) (by omega)] at y4
        omega
      obtain ⟨j1, j2, j3, j4, j5⟩ := hire_J (t := oN z) h.1 hr2 hN y1 (by rw [eS]; exact y2) y3 c1 c5 l1 l2 (sm_oN (by omega) (by decide)) eM hmm hM
      refine ⟨bgH (σ 0) (oN r) (oN mm) (oN l) (oN z), ?_, j1, j2, j3, j4, j5⟩
      unfold hiF
      rw [ew0, if_neg (by decide), if_neg (by decide), J_83 h.1, if_pos (by show oN N < oN 200; rw [oN_lt (by omega) (by decide)]; exact hN)]
    · left
      have en2 := ew.trans en
      have p1 : 0 < wyF σ (oN r) (oN mm) (oN l) (oN z) := by rw [en2]; show oN 0 < oN n; rw [oN_lt (by decide) (by omega)]; omega
      have p2 : ¬ wyF σ (oN r) (oN mm) (oN l) (oN z) < 0 := by rw [en2, oN_nn (by omega)]; exact id
      refine ⟨p1, p2, ?_, by rw [en2]; exact m10 n hn⟩
      unfold hiF
      rw [if_neg p2, if_pos p1]
theorem baF_n (h : LwS σ T K S N O E) {x m : Int32} (hx : ∀ r, r < O → σ 0 5 (r * 7 + 6) ≠ x) : baF σ x m = (-1, σ) := by
  rcases row_J h.1.1 x with ⟨h1, -⟩ | ⟨Q, q1, q2, q3⟩
  · unfold baF
    rw [h1, if_pos (by decide)]
  · exact absurd q3 (hx Q q1)
theorem baF_y (h : LwS σ T K S N O E) {x : Int32} {P z : Nat} (hP : P < O) (hx : σ 0 5 (P * 7 + 6) = x) (hz : z < 64) (hzy : oN z &&& (σ 0 5 (P * 7 + 4) ^^^ -1) = 0) :
    ∃ (told : Int32) (w2 : HV), baF σ x (oN z) = (told, up1 (rcW σ) 0 w2) ∧ ¬ told < 0 ∧ J w2 (σ 8 0) T K S N (O - 1) (E + 1) (10 * T) ∧ w2 8 6 = σ 0 8 6 + 1000 - told ∧ w2 8 5 = oN (E + 1) ∧ w2 6 (E % 8 * 4 + 0) = x ∧ w2 6 (E % 8 * 4 + 1) = 0 ∧ w2 6 (E % 8 * 4 + 2) = oN T := by
  have hb := J_bd h.1
  obtain ⟨j1, j2, j3, j4, j5, j6, j7⟩ := back_J (x := z) h.1 hP hz
  refine ⟨bkG (σ 0) (oN P) - bkC (σ 0) (oN z) + 1000, enH (tcH (σ 0) (oN P) (bkC (σ 0) (oN z) - bkG (σ 0) (oN P))) (oN P) 0 (oN z), ?_, nn_ti j2, j1, ?_, j4, j5.trans hx, j6, j7.trans (J_80 h.1)⟩
  · unfold baF
    rw [rwF_at h.1 hP hx, if_neg (of_eq_false (oN_nn (show P < 2 ^ 31 by omega))), if_pos (wi_o (K := 63) (c := 63) rfl (by decide) (by omega)), hr_4 (by omega), if_pos hzy]
  · rw [j3]
    grind
theorem rd_ended {σ : SG} {cf : Nat → Int32} {T K S N O E b E' c : Nat} (h : J (σ 0) cf T K S N O E b) (hE : σ 0 8 5 = oN (E' + 1)) (hE' : E' < 256) (hc : c < 4) : f_X_ended [.ref 0, .int 0, .int (oN c)] (emb σ) = (True, some (.int (σ 0 6 (E' % 8 * 4 + c))), emb σ) := by
  have hb := J_bd h
  have hm : E' % 8 < 8 := Nat.mod_lt _ (by decide)
  have e1 : oN (E' + 1) - 1 - 0 = oN E' := by
    rw [oN_pred]
    grind
  have hlt : (0 : Int32) < oN (E' + 1) := by show oN 0 < _; rw [oN_lt (by decide) (by omega)]; omega
  rw [q_X_ended, if_pos (by decide), if_pos (wi_o (K := 3) (c := 3) rfl (by decide) (by omega)), hE, if_pos hlt, e1, mod8 E' hE']
  have e2 : at_ (σ 0 6) 4 32 (oN (E' % 8)) (oN c) = σ 0 6 (E' % 8 * 4 + c) := at_oN (C := 4) (by omega) (by decide)
  rw [e2]
/-- hours pass -/
theorem psW_o (h : LwS σ T K S N O E) {hh : Nat} (h1 : 1 ≤ hh) (h2 : hh ≤ 99) (hT : T + hh ≤ 1000) : ∃ O2 E2, E ≤ E2 ∧ E2 < 256 ∧ psW σ (oN hh) = (oN (E2 - E), up1 (rcW σ) 0 (paN (σ 0) hh)) ∧ J (paN (σ 0) hh) (σ 8 0) (T + hh) K S N O2 E2 (10 * (T + hh)) := by
  obtain ⟨O2, E2, e1, j⟩ := pn_J hh (σ 0) T O E hT h.1
  obtain ⟨hO, hE, hS⟩ := Ivt_O j.1
  refine ⟨O2, E2, e1, hE, ?_, j⟩
  unfold psW
  rw [if_pos (wi_1 (C := 99) (c := 99) rfl (by decide) h1 h2), J_80 h.1, oN_add, if_neg (by show ¬ oN 1000 < _; rw [oN_lt (by decide) (by omega)]; omega), oN_nat (by omega), j.1.1.2.2.2.2.2.1, J_85 h.1, oN_sub e1]
theorem ipV_R (h : LwS σ T K S N O E) {hh : Nat} (hT : T + hh ≤ 1000) (u : HV) : InR (ipV (up1 σ 1 u) (oN hh)) (paN (σ 0) hh) := by
  unfold ipV
  rw [up1_at, up1_nt (show (0 : Nat) ≠ 1 by decide), oN_nat (by omega), ip_J hh _ T O E hT (J_w (cpH_in _ _) h.1)]
  exact paN_R hh _ _ (cpH_in _ _)
theorem ip_g (h : LwS σ T K S N O E) {hh : Nat} (h1 : 1 ≤ hh) (h2 : hh ≤ 99) (u : HV) {x : Int32} (hx : wi x 0 4) : f_X_ifPassed [.ref 0, .int (oN hh), .int x] (emb (up1 σ 1 u)) = (True, some (.int (ipR (σ 0) (ipV (up1 σ 1 u) (oN hh)) x)), emb (up1 σ 1 (ipV (up1 σ 1 u) (oN hh)))) := by
  rw [q_X_ifPassed]
  unfold ipF
  rw [if_pos (wi_1 (C := 99) (c := 99) rfl (by decide) h1 h2), if_pos hx, up1_nt (show (0 : Nat) ≠ 1 by decide), eq_true (J_s4 h.1), up1_up1]
theorem ip_w (h : LwS σ T K S N O E) {hh x : Nat} (h1 : 1 ≤ hh) (h2 : hh ≤ 99) (hT : T + hh ≤ 1000) (u : HV) (hx : x < 3) : ∃ u2, f_X_ifPassed [.ref 0, .int (oN hh), .int (oN x)] (emb (up1 σ 1 u)) = (True, some (.int (paN (σ 0) hh 7 x - σ 0 7 x)), emb (up1 σ 1 u2)) := by
  refine ⟨ipV (up1 σ 1 u) (oN hh), ?_⟩
  rw [ip_g h h1 h2 u (wi_o (K := 4) (c := 4) rfl (by decide) (by omega))]
  have e := ipV_R h hT u
  have e1 : ipR (σ 0) (ipV (up1 σ 1 u) (oN hh)) (oN x) = paN (σ 0) hh 7 x - σ 0 7 x := by
    unfold ipR
    rw [if_neg (by rw [oN_toInt (by omega)]; omega), if_neg (by rw [oN_toInt (by omega)]; omega), atW_n hx, atW_n hx, e 7 x (show x < 3 from hx)]
  rw [e1]
theorem ip_3 (h : LwS σ T K S N O E) {hh : Nat} (h1 : 1 ≤ hh) (h2 : hh ≤ 99) (hT : T + hh ≤ 1000) (u : HV) : ∃ u2, f_X_ifPassed [.ref 0, .int (oN hh), .int 3] (emb (up1 σ 1 u)) = (True, some (.int (paN (σ 0) hh 8 7 - σ 0 8 7)), emb (up1 σ 1 u2)) := by
  refine ⟨ipV (up1 σ 1 u) (oN hh), ?_⟩
  rw [ip_g h h1 h2 u (by decide)]
  have e1 : ipR (σ 0) (ipV (up1 σ 1 u) (oN hh)) 3 = paN (σ 0) hh 8 7 - σ 0 8 7 := by
    unfold ipR
    rw [if_pos (by decide), R8 (ipV_R h hT u) (by decide)]
  rw [e1]
theorem ip_4 (h : LwS σ T K S N O E) {hh : Nat} (h1 : 1 ≤ hh) (h2 : hh ≤ 99) (hT : T + hh ≤ 1000) (u : HV) : ∃ u2, f_X_ifPassed [.ref 0, .int (oN hh), .int 4] (emb (up1 σ 1 u)) = (True, some (.int (paN (σ 0) hh 8 6 - σ 0 8 6 + 100000)), emb (up1 σ 1 u2)) := by
  refine ⟨ipV (up1 σ 1 u) (oN hh), ?_⟩
  rw [ip_g h h1 h2 u (by decide)]
  have e1 : ipR (σ 0) (ipV (up1 σ 1 u) (oN hh)) 4 = paN (σ 0) hh 8 6 - σ 0 8 6 + 100000 := by
    unfold ipR
    rw [if_neg (by decide), if_pos (by decide), R8 (ipV_R h hT u) (by decide)]
  rw [e1]
end OUT2
theorem and_sub2 : ∀ y, y < 64 → ∀ z, z < 64 → (oN y &&& oN z) = oN (oN y &&& oN z).toNatClampNeg ∧ (oN y &&& oN z).toNatClampNeg < 64 ∧ (oN y &&& oN z) &&& (oN y ^^^ -1) = 0 := by decide +kernel
theorem and63 (v : Int32) : ∃ z, z < 64 ∧ v &&& 63 = oN z := by
  have h31 : (63 : Int32).toUInt32.toNat = 2 ^ 6 - 1 := by decide
  have e : (v &&& 63).toUInt32.toNat = v.toUInt32.toNat &&& (2 ^ 6 - 1) := by
    rw [Int32.toUInt32_and, UInt32.toNat_and, h31]
  refine ⟨(v &&& 63).toUInt32.toNat, ?_, (oN_u _).symm⟩
  rw [e, Nat.and_two_pow_sub_one_eq_mod]
  exact Nat.mod_lt _ (by decide)
theorem and_y63 : ∀ y, y < 64 → oN y &&& 63 = oN y := by decide +kernel
theorem and_sub3 {y : Nat} (hy : y < 64) (b : Int32) : ∃ z, z < 64 ∧ oN y &&& b = oN z ∧ oN z &&& (oN y ^^^ -1) = 0 := by
  obtain ⟨z, hz, ez⟩ := and63 b
  have e1 : oN y &&& b = oN y &&& oN z := by
    rw [← ez, ← and_y63 y hy, Int32.and_assoc, Int32.and_assoc]
    rw [Int32.and_comm b 63, ← Int32.and_assoc 63 63 b, show (63 : Int32) &&& 63 = 63 by decide]
  obtain ⟨g1, g2, g3⟩ := and_sub2 y hy z hz
  refine ⟨(oN y &&& oN z).toNatClampNeg, g2, e1.trans g1, ?_⟩
  rw [← g1]
  exact g3
