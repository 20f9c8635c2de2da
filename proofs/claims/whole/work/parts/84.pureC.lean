/-! PURE: the text: what its parts do, on both sides -/
theorem do_sim {U : Nat → Int32} {ww x : HV} {H K r S N O E b T : Nat} (hr : r < 15) (hx5 : x 0 5 = oN H) (hH : H ≤ 1000) (h : Rel ww (x 1) S O E 100) (i : Ivt ww T K S N O E b 100) (hp : Wp U (x 7) r ∨ Kp U (x 7) r) :
    doP x ∧ ((∃ e : Int32, e < 0 ∧ (doM x).1 = e ∧ ∀ k, epF U r (k + 1) (oN H) (oN K) = e) ∨ ((doM x).1 = 0 ∧ ∃ (H' K' : Nat) (ww' : HV), H' ≤ 1000 ∧ (doM x).2 0 5 = oN H' ∧ Rel ww' ((doM x).2 1) S O E 100 ∧ Ivt ww' T K' S N O E b 100 ∧ ∀ k, epF U r (k + 1) (oN H) (oN K) = epF U (r + 1) k (oN H') (oN K') ∧ tpF U r (k + 1) (oN H) ww = tpF U (r + 1) k (oN H') ww' ∧ (tpP U (r + 1) k (oN H') → tpP U r (k + 1) (oN H)))) := by
  obtain ⟨hO, hE, hS⟩ := Ivt_O i
  have hK : K ≤ 16 := i.2.1.2.1
  have x6 : x 1 6 = oN K := h.1.2.2.1.trans i.1.2.1
  have n0 : nm U (oN r) 0 = U (r * 5 + 0) := at_oN (C := 5) (c := 0) (by omega) (by decide)
  have n1 : nm U (oN r) 1 = U (r * 5 + 1) := at_oN (C := 5) (c := 1) (by omega) (by decide)
  have n2 : nm U (oN r) 2 = U (r * 5 + 2) := at_oN (C := 5) (c := 2) (by omega) (by decide)
  have n3 : nm U (oN r) 3 = U (r * 5 + 3) := at_oN (C := 5) (c := 3) (by omega) (by decide)
  have n4 : nm U (oN r) 4 = U (r * 5 + 4) := at_oN (C := 5) (c := 4) (by omega) (by decide)
  rcases hp with ⟨w0, w1, w2, w3, y, y1, y2, y3⟩ | ⟨w0, w1, w2⟩
  · rw [w1] at n0
    rw [w3, y3] at n2
    have e1 : oN H + oN y - 1 = oN (H + y - 1) := by rw [oN_add, show (1 : Int32) = oN 1 from rfl, oN_sub (by omega)]
    have e2 : oN (H + y - 1) + 1 = oN (H + y) := by rw [oN_succ]; exact congrArg oN (by omega)
    have ebig : (1000 : Int32) < oN (H + y) ↔ 1000 < H + y := by
      show oN 1000 < oN (H + y) ↔ _
      rw [oN_lt (by decide) (by omega)]
    refine ⟨⟨by rw [x6]; exact sm_oN hK (by decide), fun _ hn => ?_⟩, ?_⟩
    · rw [hx5, y3, oN_add] at hn
      have hle : H + y ≤ 1000 := Nat.le_of_not_lt (fun z => hn (ebig.mpr z))
      rw [hx5, y3, e1]
      refine ⟨sm_oN hH (by decide), ?_, by rw [e2]; exact sm_oN hle (by decide), by rw [e2, oN_nat (by omega), oN_nat (by omega)]; omega⟩
      show oN (H + y - 1) < oN 1000
      rw [oN_lt (by omega) (by decide)]
      omega
    · unfold doM
      rw [if_pos w0, hx5, y3, oN_add]
      by_cases big : 1000 < H + y
      · left
        rw [if_pos (ebig.mpr big)]
        refine ⟨-2, by decide, rfl, fun k => ?_⟩
        unfold epF
        rw [n0, if_pos rfl, n2, oN_add, if_pos (ebig.mpr big)]
      · right
        rw [if_neg (fun z => big (ebig.mp z))]
        have eD : do1 x = (lyF (x 7 1) H y 0 x).2 := by
          unfold do1 laM
          rw [hx5, y3, e1, e2, oN_nat (by omega), oN_nat (by omega), show H + y - H = y by omega]
        have k0 : do1 x 0 = x 0 := by rw [eD]; exact lyF_0 (by decide) _ _ _ _
        have k7 : do1 x 7 = x 7 := by rw [eD]; exact lyF_0 (by decide) _ _ _ _
        have k1 : ∀ t, do2 x 1 t = if 17 + H ≤ t ∧ t < 17 + (H + y) then x 7 1 else x 1 t := by
          intro t
          unfold do2
          rw [up2_kn (by decide), eD, (lyF_ok y H 0 x).2, show 17 + H + y = 17 + (H + y) by omega]
        refine ⟨rfl, H + y, K, lyw ww (x 7 1) H (H + y), by omega, ?_, ?_, ?_, fun k => ⟨?_, ?_, ?_⟩⟩
        · show do2 x 0 5 = _
          unfold do2
          rw [up2_at, k0, k7, hx5, y3, oN_add]
        · exact rel_w h hO (by omega) (fun u _ => k1 u)
        · refine Ivt_k i (lyw_k (by decide)) (lyw_k (by decide)) (lyw_k (by decide)) (lyw_k (by decide)) (fun c hc => ?_)
          rw [lyw_k (by decide)]
          exact i.2.2.2.2.2.2.1 c hc
        · conv => lhs; unfold epF
          rw [n0, if_pos rfl, n2, oN_add, if_neg (fun z => big (ebig.mp z))]
        · conv => lhs; unfold tpF
          rw [n0, if_pos rfl, n2, n1, w2, e1, e2, oN_add, oN_nat (by omega), oN_nat (by omega)]
        · intro z
          unfold tpP
          rw [n0, if_pos rfl, n2, e1, oN_add]
          refine ⟨sm_oN hH (by decide), ?_, z⟩
          show oN (H + y - 1) < oN 1000
          rw [oN_lt (by omega) (by decide)]
          omega
  · rw [w1] at n0
    rw [w2 1 (by decide) (by decide)] at n1
    rw [w2 2 (by decide) (by decide)] at n2
    rw [w2 3 (by decide) (by decide)] at n3
    rw [w2 4 (by decide) (by decide)] at n4
    have z0 : ¬ x 7 0 = 119 := by rw [w0]; decide
    have z1 : ¬ nm U (oN r) 0 = 1 := by rw [n0]; decide
    refine ⟨⟨by rw [x6]; exact sm_oN hK (by decide), fun q => absurd q z0⟩, ?_⟩
    unfold doM
    rw [if_neg z0, x6]
    by_cases c1 : x 7 2 < x 7 1
    · left
      rw [if_pos c1]
      refine ⟨-2, by decide, rfl, fun k => ?_⟩
      unfold epF
      rw [if_neg z1, n1, n2, if_pos c1]
    rw [if_neg c1]
    by_cases c2 : K = 16
    · left
      subst c2
      rw [if_pos (show oN 16 = 16 from rfl)]
      refine ⟨-3, by decide, rfl, fun k => ?_⟩
      unfold epF
      rw [if_neg z1, n1, n2, if_neg c1, if_pos (by decide)]
    right
    have c3 : ¬ (16 : Int32) < oN K + 1 := by
      rw [oN_succ]
      show ¬ oN 16 < oN (K + 1)
      rw [oN_lt (by decide) (by omega)]
      omega
    rw [if_neg (show ¬ oN K = 16 from fun q => c2 (oN_inj (b := 16) (by omega) (by decide) q))]
    obtain ⟨y1, y2⟩ := comes_ok (v := x) (x 7 1) (x 7 2) (x 7 3) (x 7 4) h i (by omega)
    refine ⟨rfl, H, K + 1, akH ww (x 7 1) (x 7 2) (x 7 3) (x 7 4), hH, ?_, y1, y2, fun k => ⟨?_, ?_, ?_⟩⟩
    · show cmM x (x 7 1) (x 7 2) (x 7 3) (x 7 4) 0 5 = _
      rw [cmM_k (by decide)]
      exact hx5
    · conv => lhs; unfold epF
      rw [if_neg z1, n1, n2, if_neg c1, if_neg c3, oN_succ]
    · conv => lhs; unfold tpF
      rw [if_neg z1, n1, n2, n3, n4]
    · intro z
      unfold tpP
      rw [if_neg z1]
      exact z
def TeR (U : Nat → Int32) (ww : HV) (G : Int32 × HV) (n : Int32) (r k H K S N O E b T : Nat) : Prop :=
  (epF U r k (oN H) (oN K) = 0 ∧ G.2 0 6 = 0 ∧ G.1 = n + oN k ∧ tpP U r k (oN H) ∧ ∃ K', Rel (tpF U r k (oN H) ww) (G.2 1) S O E 100 ∧ Ivt (tpF U r k (oN H) ww) T K' S N O E b 100) ∨ (epF U r k (oN H) (oN K) < 0 ∧ G.2 0 6 = epF U r k (oN H) (oN K))
theorem TeR_s {U : Nat → Int32} {ww ww' : HV} {G : Int32 × HV} {n : Int32} {r k H K H' K' S N O E b T : Nat} (h : TeR U ww' G (n + 1) (r + 1) k H' K' S N O E b T) (e : epF U r (k + 1) (oN H) (oN K) = epF U (r + 1) k (oN H') (oN K') ∧ tpF U r (k + 1) (oN H) ww = tpF U (r + 1) k (oN H') ww' ∧ (tpP U (r + 1) k (oN H') → tpP U r (k + 1) (oN H))) : TeR U ww G n r (k + 1) H K S N O E b T := by
  unfold TeR
  rw [e.1, e.2.1]
  rcases h with ⟨h1, h2, h3, h4, h5⟩ | h
  · refine Or.inl ⟨h1, h2, ?_, e.2.2 h4, h5⟩
    rw [h3, Int32.add_assoc]
    refine congrArg (n + ·) ?_
    show oN 1 + oN k = _
    rw [oN_add]
    exact congrArg oN (by omega)
  · exact Or.inr h
theorem gs1_1 {v : HV} : gs1 1 v = up2 (doM (rpM v)).2 0 6 (doM (rpM v)).1 := by unfold gs1; rw [if_neg (by decide)]
theorem tell_sim : ∀ (m : Nat) (w u : HV) (L p r : Nat) (n : Int32) (M : Nat) (ww : HV) (H K S N O E b T R : Nat), M = m + 1 → Sm w u L p r → 5 * r ≤ p → 60 < p + 5 * m → u 0 5 = oN H → H ≤ 1000 → Rel ww (u 1) S O E 100 → Ivt ww T K S N O E b 100 → (ffF m w).1 = -5 → (ffF m w).2 2 1 = oN R → R ≤ 13 → r < R ∧ goP 1 M u ∧ TeR ((ffF m w).2 4) ww (goL 1 M n u) n r (R - r) H K S N O E b T := by
  intro m
  induction m with
  | zero => intro w u L p r n M ww H K S N O E b T R hM h h5 h60; have := h.1; have := h.2.1; omega
  | succ m ih =>
    intro w u L p r n M ww H K S N O E b T R hM h h5 h60 h05 hH hRel hIvt hF hR hR13
    subst hM
    have hr : r < 15 := by have := h.1; have := h.2.1; omega
    rw [ffF_s] at hF hR ⊢
    unfold ffS at hF hR ⊢
    rcases pt_sim h hr with ⟨g1, q, g2, g3, g4, g5⟩ | ⟨g1, q, g0, g2, g3⟩
    case inr =>
      rw [if_pos g1] at hF
      change (rdB w).2 2 2 = -5 at hF
      rw [g2] at hF
      exact absurd hF (oN_m5 (by omega))
    rw [if_neg (by rw [g1]; decide)] at hF hR ⊢
    have x05 : rpM u 0 5 = oN H := by rw [rpM_0 (by decide) (by decide)]; exact h05
    have x1 : rpM u 1 = u 1 := rpM_k (by decide) (by decide)
    have eg := gs1_1 (v := u)
    have d0 : ∀ t, t < 5 → gs1 1 u 0 t = rpM u 0 t := by
      intro t ht
      rw [eg, up2_nt (by omega), doM_k (by decide) (by omega)]
    have d6 : gs1 1 u 6 = rpM u 6 := by
      rw [gs1_k (by decide) (by decide) (Or.inl (by decide)), rpM_k (by decide) (by decide)]
    have s1 : Sm (up2 (rdB w).2 2 1 ((rdB w).2 2 1 + 1)) (gs1 1 u) L q (r + 1) := sm_nx (sm_do g3 d0 d6)
    have k4 : up2 (rdB w).2 2 1 ((rdB w).2 2 1 + 1) 4 = (rdB w).2 4 := up2_kn (by decide)
    generalize up2 (rdB w).2 2 1 ((rdB w).2 2 1 + 1) = w1 at s1 k4 hF hR ⊢
    have hq := s1.1
    have hq2 := s1.2.1
    -- the rows of this part in the note at the end
    have hU : ∀ t, t < (r + 1) * 5 → (ffT w1 (ffF m)).2 4 t = (rdB w).2 4 t := by
      intro t ht
      unfold ffT at hF ⊢
      by_cases hL : q < L
      · rw [if_pos ((sm_tl s1).mpr hL)] at hF ⊢
        rcases tk_sim s1 (c := 59) (by decide) with ⟨f1, -, -, f4⟩ | ⟨f1, -, f3⟩
        · rw [f1, if_neg (show ¬ (true, adv w1).1 = false from fun q => nomatch q)] at hF ⊢
          change (ffF m (adv w1)).1 = -5 at hF
          show (ffF m (adv w1)).2 4 t = _
          rcases ff_sim m (adv w1) _ L (q + 1) (r + 1) 0 (m + 1) rfl f4 (by omega) (by omega) with ⟨-, -, R2, -, -, -, y6⟩ | ⟨q2, z1, z2, -⟩
          · rw [y6 t ht, adv_k (by decide), k4]
          · rw [z2] at hF
            exact absurd hF (oN_m5 (by omega))
        · rw [f1, if_pos (show (false, w1).1 = false from rfl)] at hF
          change w1 2 2 = -5 at hF
          rw [s1.2.2.2.2.1] at hF
          exact absurd hF (oN_m5 (by omega))
      · rw [if_neg (fun z => hL ((sm_tl s1).mp z))]
        show w1 4 t = _
        rw [k4]
    have hrow : ∀ c, c < 5 → (ffT w1 (ffF m)).2 4 (r * 5 + c) = (rdB w).2 4 (r * 5 + c) := fun c hc => hU _ (by omega)
    have hp : Wp ((ffT w1 (ffF m)).2 4) (rpM u 7) r ∨ Kp ((ffT w1 (ffF m)).2 4) (rpM u 7) r := by
      rcases g5 with ⟨a0, a1, a2, a3, a4⟩ | ⟨a0, a1, a2⟩
      · exact Or.inl ⟨a0, (hrow 0 (by decide)).trans a1, (hrow 1 (by decide)).trans a2, (hrow 2 (by decide)).trans a3, a4⟩
      · exact Or.inr ⟨a0, (hrow 0 (by decide)).trans a1, fun c h1 h2 => (hrow c h2).trans (a2 c h1 h2)⟩
    obtain ⟨dP, dd⟩ := do_sim (U := (ffT w1 (ffF m)).2 4) (ww := ww) (x := rpM u) hr x05 hH (by rw [x1]; exact hRel) hIvt hp
    clear g5 hp hrow hU
    rw [goL_s]
    show r < R ∧ ((¬ (1 : Int32) = 0 → doP (rpM u)) ∧ (gsC (gs1 1 u) → tkM (gs1 1 u) 59 59 0 4 = 0 → goP 1 (m + 1) (tkM (gs1 1 u) 59 59))) ∧ _
    have v06 : gs1 1 u 0 6 = (doM (rpM u)).1 := by rw [eg, up2_at]
    have v05 : gs1 1 u 0 5 = (doM (rpM u)).2 0 5 := by rw [eg, up2_nt (by decide)]
    have v1 : gs1 1 u 1 = (doM (rpM u)).2 1 := by rw [eg, up2_kn (by decide)]
    generalize gs1 1 u = g at s1 v06 v05 v1 ⊢
    have hlt : r < R := by
      unfold ffT at hF hR
      by_cases hL : q < L
      · rw [if_pos ((sm_tl s1).mpr hL)] at hF hR
        rcases tk_sim s1 (c := 59) (by decide) with ⟨f1, -, -, f4⟩ | ⟨f1, -, f3⟩
        · rw [f1, if_neg (show ¬ (true, adv w1).1 = false from fun q => nomatch q)] at hF hR
          change (ffF m (adv w1)).1 = -5 at hF
          change (ffF m (adv w1)).2 2 1 = oN R at hR
          rcases ff_sim m (adv w1) _ L (q + 1) (r + 1) 0 (m + 1) rfl f4 (by omega) (by omega) with ⟨-, -, R2, b1, b2, b3, -⟩ | ⟨q2, z1, z2, -⟩
          · rw [b3] at hR
            have := oN_inj (by omega) (by omega) hR
            omega
          · rw [z2] at hF
            exact absurd hF (oN_m5 (by omega))
        · rw [f1, if_pos (show (false, w1).1 = false from rfl)] at hF
          change w1 2 2 = -5 at hF
          rw [s1.2.2.2.2.1] at hF
          exact absurd hF (oN_m5 (by omega))
      · rw [if_neg (fun z => hL ((sm_tl s1).mp z))] at hR
        change w1 2 1 = oN R at hR
        rw [s1.2.2.2.1] at hR
        have := oN_inj (by omega) (by omega) hR
        omega
    obtain ⟨k, hk⟩ : ∃ k, R - r = k + 1 := ⟨R - r - 1, by omega⟩
    rw [hk]
    refine ⟨hlt, ?_⟩
    rcases dd with ⟨e, d1, d2, d3⟩ | ⟨d1, H', K', ww', c1, c2, c3, c4, c5⟩
    · have nC : ¬ gsC g := by
        intro z
        have := z.1
        rw [v06, d2] at this
        rw [this] at d1
        exact absurd d1 (by decide)
      rw [if_neg nC]
      refine ⟨⟨fun _ => dP, fun z => absurd z nC⟩, Or.inr ⟨by rw [d3]; exact d1, ?_⟩⟩
      show g 0 6 = _
      rw [v06, d2, d3]
    · rw [d1] at v06
      rw [c2] at v05
      rw [← v1] at c3
      unfold ffT at hF hR ⊢
      unfold ffT at c5
      by_cases hL : q < L
      · rw [if_pos ((sm_tl s1).mpr hL)] at hF hR c5 ⊢
        rcases tk_sim s1 (c := 59) (by decide) with ⟨f1, -, -, f4⟩ | ⟨f1, -, f3⟩
        · rw [f1, if_neg (show ¬ (true, adv w1).1 = false from fun q => nomatch q)] at hF hR c5 ⊢
          have z := ih (adv w1) (tkM g 59 59) L (q + 1) (r + 1) (n + 1) (m + 1) ww' H' K' S N O E b T R rfl f4 (by omega) (by omega) (by rw [tkM_0 (by decide) (by decide)]; exact v05) c1 (by rw [tkM_k (by decide)]; exact c3) c4 hF hR hR13
          obtain ⟨z1, z2, z3⟩ := z
          rw [if_pos ((sm_gc s1 v06).mpr hL), if_pos f4.2.2.2.2.2.2.2.1]
          refine ⟨⟨fun _ => dP, fun _ _ => z2⟩, ?_⟩
          rw [show R - (r + 1) = k by omega] at z3
          exact TeR_s z3 (c5 k)
        · rw [f1, if_pos (show (false, w1).1 = false from rfl)] at hF
          change w1 2 2 = -5 at hF
          rw [s1.2.2.2.2.1] at hF
          exact absurd hF (oN_m5 (by omega))
      · rw [if_neg (fun z => hL ((sm_tl s1).mp z))] at hF hR c5 ⊢
        have nC : ¬ gsC g := fun z => hL ((sm_gc s1 v06).mp z)
        rw [if_neg nC]
        refine ⟨⟨fun _ => dP, fun z => absurd z nC⟩, ?_⟩
        change w1 2 1 = oN R at hR
        rw [s1.2.2.2.1] at hR
        have hRr := oN_inj (by omega) (by omega) hR
        have hk0 : k = 0 := by omega
        subst hk0
        refine TeR_s (ww' := ww') (H' := H') (K' := K') ?_ (c5 0)
        refine Or.inl ⟨rfl, v06, (Int32.add_zero _).symm, trivial, K', ?_, ?_⟩
        · exact c3
        · exact c4

