/-! THE LAW: what an act does to all that is kept -/
theorem J_cf {w : HV} {cf cf2 : Nat → Int32} {T K S N O E b : Nat} (h : J w cf T K S N O E b) (e : ∀ c, c < 7 → cf2 c = cf c) : J w cf2 T K S N O E b := by
  obtain ⟨i, x, xT, xM⟩ := h
  refine ⟨i, x, fun c hc => ?_, ?_⟩
  · rw [e c (by omega)]; exact xT c hc
  · unfold jM; rw [e 6 (by decide)]; exact xM
def LwS (σ : SG) (T K S N O E : Nat) : Prop := J (σ 0) (σ 8 0) T K S N O E (10 * T) ∧ (∃ la hd : Nat, la < 4 ∧ hd ≤ 4 ∧ σ 7 1 0 = oN la ∧ σ 7 1 1 = oN hd) ∧ σ 7 0 0 ≠ 0 ∧ ∀ t, t < 8 → σ 2 8 t = 0
theorem LwS_lt {σ : SG} {T K S N O E : Nat} (h : LwS σ T K S N O E) : ltP σ := by
  obtain ⟨-, ⟨la, hd, g1, g2, g3, g4⟩, -⟩ := h
  show sm (σ 7 1 0) 3
  rw [g3]
  exact sm_oN (by omega) (by decide)
theorem LwS_8 {σ : SG} {T K S N O E : Nat} {v : HV} (h : LwS σ T K S N O E) (e : ∀ c, c < 7 → v 0 c = σ 8 0 c) : LwS (up1 σ 8 v) T K S N O E := by
  obtain ⟨hJ, hh, h0, h2⟩ := h
  refine ⟨?_, ?_, ?_, ?_⟩
  · rw [up1_nt (by decide), up1_at]
    exact J_cf hJ e
  · rw [up1_nt (by decide)]; exact hh
  · rw [up1_nt (by decide)]; exact h0
  · rw [up1_nt (by decide)]; exact h2
theorem LwS_1 {σ : SG} {T K S N O E : Nat} {u : HV} (h : LwS σ T K S N O E) : LwS (up1 σ 1 u) T K S N O E := by
  obtain ⟨hJ, hh, h0, h2⟩ := h
  refine ⟨?_, ?_, ?_, ?_⟩
  · rw [up1_nt (by decide), up1_nt (by decide)]; exact hJ
  · rw [up1_nt (by decide)]; exact hh
  · rw [up1_nt (by decide)]; exact h0
  · rw [up1_nt (by decide)]; exact h2
theorem rcW_8 (σ : SG) (h : ltP σ) : rcW σ 8 = σ 8 := by
  have := (lu_sm h).2
  unfold rcW
  rw [up1_nt (by decide), up1_nt (by unfold pA; omega)]
/-- an act that is recorded -/
theorem LwS_rec {σ : SG} {T K S N O E : Nat} (h : LwS σ T K S N O E) {w2 v : HV} {cf2 : Nat → Int32} {T2 K2 S2 N2 O2 E2 : Nat} (hJ : J w2 cf2 T2 K2 S2 N2 O2 E2 (10 * T2)) (hv : ∀ c, c < 7 → v 0 c = cf2 c) :
    LwS (up1 (up1 (rcW σ) 0 w2) 8 v) T2 K2 S2 N2 O2 E2 ∧ up1 (up1 (rcW σ) 0 w2) 8 v 7 1 1 = hl1 (σ 7 1 1) ∧ InR (up1 (up1 (rcW σ) 0 w2) 8 v (pA (up1 (up1 (rcW σ) 0 w2) 8 v 7 1 0))) (σ 0) := by
  have hlt := LwS_lt h
  obtain ⟨-, ⟨la, hd, g1, g2, g3, g4⟩, h0, h2⟩ := h
  have elu : lu (σ 7 1 0) = oN ((la + 1) % 4) := by rw [g3, lu_n la g1]
  have hm : (la + 1) % 4 < 4 := Nat.mod_lt _ (by decide)
  have epA : pA (lu (σ 7 1 0)) = 3 + (la + 1) % 4 := by
    unfold pA
    rw [elu, oN_nat (by omega)]
  have c7 : up1 (up1 (rcW σ) 0 w2) 8 v 7 = up2 (up2 (σ 7) 1 0 (oN ((la + 1) % 4))) 1 1 (oN (min (hd + 1) 4)) := by
    rw [up1_nt (by decide), up1_nt (by decide), rcW_7, elu, g4, hl_n hd (by omega)]
  have ci : ∀ i, i ≠ 8 → i ≠ 0 → i ≠ 7 → i ≠ 3 + (la + 1) % 4 → up1 (up1 (rcW σ) 0 w2) 8 v i = σ i := by
    intro i q8 q0 q7 q3
    rw [up1_nt q8, up1_nt q0]
    unfold rcW
    rw [up1_nt q7, up1_nt (by rw [epA]; exact q3)]
  refine ⟨⟨?_, ⟨(la + 1) % 4, min (hd + 1) 4, hm, by omega, ?_, ?_⟩, ?_, ?_⟩, ?_, ?_⟩
  · rw [up1_nt (show (0 : Nat) ≠ 8 by decide), up1_at, up1_at]
    exact J_cf hJ hv
  · rw [c7, u2k, if_neg (by decide), u2k, if_pos rfl]
  · rw [c7, u2k, if_pos rfl]
  · rw [c7, u2n (by decide), u2n (by decide)]; exact h0
  · rw [ci 2 (by decide) (by decide) (by decide) (by omega)]; exact h2
  · rw [c7, u2k, if_pos rfl, g4, hl_n hd (by omega)]
  · rw [c7, u2k, if_neg (by decide), u2k, if_pos rfl]
    have e1 : pA (oN ((la + 1) % 4)) = 3 + (la + 1) % 4 := by
      unfold pA
      rw [oN_nat (by omega)]
    rw [e1, up1_nt (by omega), up1_nt (by omega)]
    have cn : rcW σ (3 + (la + 1) % 4) = cpH (σ (3 + (la + 1) % 4)) (σ 0) := by
      unfold rcW
      rw [up1_nt (by omega), epA, up1_at]
    rw [cn]
    exact cpH_in _ _
/-- an answer: refused, and nothing is changed; or recorded -/
def Oc (σ : SG) (x : Int32 × SG) (G : HV → Prop) : Prop := (x.1 < 0 ∧ x.2 = σ) ∨ (¬ x.1 < 0 ∧ ∃ w2, x.2 = up1 (rcW σ) 0 w2 ∧ G w2)
theorem Oc_n {σ : SG} {x : Int32 × SG} {G : HV → Prop} {r : Int32} (e : x = (r, σ)) (hr : r < 0) : Oc σ x G := by rw [e]; exact Or.inl ⟨hr, rfl⟩
theorem Oc_y {σ : SG} {x : Int32 × SG} {G : HV → Prop} {r : Int32} {w2 : HV} (e : x = (r, up1 (rcW σ) 0 w2)) (hr : ¬ r < 0) (h : G w2) : Oc σ x G := by rw [e]; exact Or.inr ⟨hr, w2, rfl, h⟩
theorem nn_ti {x : Int32} (h : 0 ≤ x.toInt) : ¬ x < 0 := by
  rw [Int32.lt_iff_toInt_lt]
  have : (0 : Int32).toInt = 0 := rfl
  omega
section OUT
variable {σ : SG} {T K S N O E : Nat}
theorem kiF_o (h : LwS σ T K S N O E) (a b c d : Int32) : Oc σ (kiF σ a b c d) (fun w2 => J w2 (σ 8 0) T (K + 1) S N O E (10 * T)) := by
  have hb := J_bd h.1
  rcases Decidable.em (wi a 0 12) with c1 | c1
  case inr => exact Oc_n (r := -2) (by unfold kiF; rw [if_neg c1]) (by decide)
  rcases Decidable.em (wi b a 12) with c2 | c2
  case inr => exact Oc_n (r := -2) (by unfold kiF; rw [if_pos c1, if_neg c2]) (by decide)
  rcases Decidable.em (wi c 1 9) with c3 | c3
  case inr => exact Oc_n (r := -2) (by unfold kiF; rw [if_pos c1, if_pos c2, if_neg c3]) (by decide)
  rcases Decidable.em (wi d 1 99) with c4 | c4
  case inr => exact Oc_n (r := -2) (by unfold kiF; rw [if_pos c1, if_pos c2, if_pos c3, if_neg c4]) (by decide)
  by_cases c5 : K = 16
  · exact Oc_n (r := -3) (by unfold kiF; rw [if_pos c1, if_pos c2, if_pos c3, if_pos c4, J_81 h.1, c5, if_neg (by decide)]) (by decide)
  · obtain ⟨p, p1, p2, rfl⟩ := wi1 (n := 99) c4 (by decide)
    refine Oc_y (r := oN K) (w2 := akH (σ 0) a b c (oN p)) ?_ (by rw [oN_nn (by omega)]; exact id) (kite_J h.1 (by omega) p1 p2 (wi_sm (n := 9) c3 (by decide) (by decide))).1
    unfold kiF
    rw [if_pos c1, if_pos c2, if_pos c3, if_pos c4, J_81 h.1, if_pos (by show oN K < oN 16; rw [oN_lt (by omega) (by decide)]; omega)]
theorem spoF_o (h : LwS σ T K S N O E) (a : Int32) : Oc σ (spoF σ a) (fun w2 => J w2 (fun t => if t = 6 then σ 8 0 6 + a else σ 8 0 t) T K (S + 1) N O E (10 * T)) := by
  have hb := J_bd h.1
  rcases Decidable.em (wi a 1 300) with c1 | c1
  case inr => exact Oc_n (r := -2) (by unfold spoF; rw [if_neg c1]) (by decide)
  by_cases c5 : S = 10
  · exact Oc_n (r := -3) (by unfold spoF; rw [if_pos c1, J_82 h.1, c5, if_neg (by decide)]) (by decide)
  · obtain ⟨m, m1, m2, rfl⟩ := wi1 (n := 300) c1 (by decide)
    refine Oc_y (r := oN S) (w2 := asH (σ 0) (oN m)) ?_ (by rw [oN_nn (by omega)]; exact id) (spool_J h.1 (by omega) m2).1
    unfold spoF
    rw [if_pos c1, J_82 h.1, if_pos (by show oN S < oN 10; rw [oN_lt (by omega) (by decide)]; omega)]
theorem taF_o (h : LwS σ T K S N O E) {c : Nat} (hc : c < 7) (b : Int32) : Oc σ (taF σ (oN c) b) (fun w2 => c < 6 ∧ J w2 (fun t => if t = c then σ 8 0 c + b else σ 8 0 t) T K S N O E (10 * T)) := by
  have hb := J_bd h.1
  rcases Decidable.em (wi (oN c) 0 5) with c1 | c1
  case inr => exact Oc_n (r := -1) (by unfold taF; rw [if_neg c1]) (by decide)
  have hc6 : c < 6 := by
    obtain ⟨r, r1, r2⟩ := wiN (n := 5) c1 (by decide)
    have := oN_inj (by omega) (by omega) r2
    omega
  rcases Decidable.em (wi b 1 20) with c2 | c2
  case inr => exact Oc_n (r := -2) (by unfold taF; rw [if_pos c1, if_neg c2]) (by decide)
  obtain ⟨n, n1, n2, rfl⟩ := wi1 (n := 20) c2 (by decide)
  by_cases c3 : 99 < σ 0 4 (c * 3 + 0) + σ 0 4 (c * 3 + 1) + σ 0 4 (c * 3 + 2) + oN n
  · exact Oc_n (r := -3) (by unfold taF; rw [if_pos c1, if_pos c2, tll_0 hc6, tll_1 hc6, tll_2 hc6, if_pos c3]) (by decide)
  · have ep : pa (σ 0) 4 3 18 (oN c) 0 (oN n) = up2 (σ 0) 4 (c * 3 + 0) (σ 0 4 (c * 3 + 0) + oN n) := patl_0 hc6
    have ea : at_ (up2 (σ 0) 4 (c * 3 + 0) (σ 0 4 (c * 3 + 0) + oN n) 4) 3 18 (oN c) 0 = σ 0 4 (c * 3 + 0) + oN n := by
      refine (at_oN (C := 3) (c := 0) (by omega) (by decide)).trans ?_
      rw [u2k, if_pos rfl]
    obtain ⟨j1, j2⟩ := tails_J h.1 hc6 n2 c3
    refine Oc_y (r := σ 0 4 (c * 3 + 0) + oN n) (w2 := up2 (σ 0) 4 (c * 3 + 0) (σ 0 4 (c * 3 + 0) + oN n)) ?_ (nn_ti j2) ⟨hc6, j1⟩
    unfold taF
    rw [if_pos c1, if_pos c2, tll_0 hc6, tll_1 hc6, tll_2 hc6, if_neg c3, ep, ea]
theorem foF_o (h : LwS σ T K S N O E) {c : Nat} (hc : c < 6) : (σ 0 4 (c * 3 + 2) = 0 ∧ foF σ (oN c) = (-5, σ)) ∨ (σ 0 4 (c * 3 + 2) ≠ 0 ∧ ∃ r w2, foF σ (oN c) = (r, up1 (rcW σ) 0 w2) ∧ ¬ r < 0 ∧ r ≠ -5 ∧ J w2 (σ 8 0) T K S N O E (10 * T)) := by
  have c1 : wi (oN c) 0 5 := wi_o (K := 5) (c := 5) rfl (by decide) (by omega)
  obtain ⟨t0, t1, t2, t3⟩ := h.1.1.2.2.2.2.2.2.1 c hc
  have h0i : (0 : Int32).toInt = 0 := rfl
  by_cases c3 : σ 0 4 (c * 3 + 2) = 0
  · left
    exact ⟨c3, by unfold foF; rw [if_pos c1, tll_2 hc, c3, if_neg (by decide)]⟩
  · right
    have c4 : 0 < σ 0 4 (c * 3 + 2) := by
      rw [Int32.lt_iff_toInt_lt, h0i]
      have : (σ 0 4 (c * 3 + 2)).toInt ≠ 0 := fun q => c3 (Int32.toInt_inj.mp (q.trans h0i.symm))
      omega
    generalize hmv : mvT (σ 0) ((1 : Int32) <<< (oN c &&& 31)) 2 0 6 = mv
    obtain ⟨j1, j2, j3, -⟩ := found_J h.1 hc c4 hmv
    refine ⟨c3, σ 0 4 (c * 3 + 0) + 1, mv, ?_, nn_ti j3, fun q => ?_, j1⟩
    · unfold foF
      rw [if_pos c1, tll_2 hc, if_pos c4, hmv, j2]
    · rw [q] at j3
      exact absurd j3 (by decide)
theorem wnF_o (h : LwS σ T K S N O E) (a b x : Int32) : Oc σ (wnF σ a b x) (fun w2 => J w2 (σ 8 0) T K S N O E (10 * T)) := by
  rcases Decidable.em (wi a (σ 0 8 0) 999) with c1 | c1
  case inr => exact Oc_n (r := -2) (by unfold wnF; rw [if_neg c1]) (by decide)
  rcases Decidable.em (wi b a 999) with c2 | c2
  case inr => exact Oc_n (r := -2) (by unfold wnF; rw [if_pos c1, if_neg c2]) (by decide)
  rcases Decidable.em (wi x 0 12) with c3 | c3
  case inr => exact Oc_n (r := -2) (by unfold wnF; rw [if_pos c1, if_pos c2, if_neg c3]) (by decide)
  have h9 := wi_999 (J_s0 h.1).1 c1 c2
  obtain ⟨n, d1, d2, -⟩ := smF_n (f := fun j => if σ 0 0 j = x then 0 else 1) (fun j => by by_cases e : σ 0 0 j = x; exact Or.inl (if_pos e); exact Or.inr (if_neg e)) ((b + 1).toNatClampNeg - a.toNatClampNeg) a.toNatClampNeg
  have hn : n < 2 ^ 31 := by have := h9.2.2.1.2; omega
  by_cases c4 : oN n = 0
  · exact Oc_n (r := -5) (by unfold wnF; rw [if_pos c1, if_pos c2, if_pos c3, d2, if_pos c4]) (by decide)
  · refine Oc_y (r := oN n) (w2 := lyw (σ 0) x a.toNatClampNeg (b + 1).toNatClampNeg) ?_ (by rw [oN_nn hn]; exact id) (wind_J h.1 (wi_sm (n := 12) c3 (by decide) (by decide)))
    unfold wnF
    rw [if_pos c1, if_pos c2, if_pos c3, d2, if_neg c4]
theorem stF_o (h : LwS σ T K S N O E) (a b : Int32) : Oc σ (stF σ a b) (fun w2 => J w2 (σ 8 0) T K S N O E (10 * T)) := by
  rcases Decidable.em (svP a b) with c1 | c1
  case inr => exact Oc_n (r := -2) (by unfold stF; rw [if_neg c1]) (by decide)
  obtain ⟨a0, a5, hw⟩ := c1
  have hs : sm a 4 := by
    refine ⟨a0, ?_⟩
    rw [Int32.lt_iff_toInt_lt] at a5 a0
    have h1 : (0 : Int32).toInt = 0 := rfl
    have h2 : (5 : Int32).toInt = 5 := rfl
    show a.toInt.toNat ≤ 4
    omega
  obtain ⟨c, hc, rfl⟩ : ∃ c, c < 5 ∧ a = oN c := ⟨a.toNatClampNeg, by have := hs.2; omega, sm_eq hs⟩
  have es : settg (σ 0) (oN c) = σ 0 1 c := se_n hc
  have hv : svP (oN c) b := ⟨a0, a5, hw⟩
  by_cases c3 : σ 0 1 c = b
  · exact Oc_n (r := -5) (by unfold stF; rw [if_pos hv, es, if_pos c3]) (by decide)
  · have ep : pt (σ 0) 1 1 5 (oN c) 0 b = up2 (σ 0) 1 c b := by
      have := pt_oN (w := σ 0) (k := 1) (C := 1) (len := 5) (r := c) (c := 0) (x := b) (by omega) (by decide)
      rw [Nat.mul_one, Nat.add_zero] at this
      exact this
    have nn : ¬ σ 0 1 c < 0 := by
      obtain ⟨x0, x1, x2, x3, x4⟩ := h.1.2.1.1
      rcases (show c = 0 ∨ c = 1 ∨ c = 2 ∨ c = 3 ∨ c = 4 by omega) with z | z | z | z | z <;> subst z
      · exact x0.1
      · exact x1.1
      · exact x2.1
      · exact x3.1
      · exact x4.1
    refine Oc_y (r := σ 0 1 c) (w2 := up2 (σ 0) 1 c b) ?_ nn (set_J h.1 hc hw)
    unfold stF
    rw [if_pos hv, es, if_neg c3, ep]
end OUT
