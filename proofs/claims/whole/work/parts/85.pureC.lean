/-! PURE: the text: tell all -/
theorem rcM_1 (v : HV) : rcM v 1 = v 1 := by
  unfold rcM rc2 rc1
  rw [up2_kn (by decide), cpL_kn (by decide)]
  split
  · rw [up2_kn (by decide), cpL_kn (by decide)]
  · rfl
theorem ta2_e (v : HV) : ta2 v = goL 1 61 0 (g0M (lkM (fuM v))) := rfl
theorem ta2_0 {v : HV} {t : Nat} (ht : t < 3) : (ta2 v).2 0 t = lkM (fuM v) 0 t := by
  rw [ta2_e]
  generalize lkM (fuM v) = x
  rw [goL_0 ht, g0_0 ht]
theorem ta2_k {v : HV} {k : Fin 9} (h0 : k ≠ 0) (h7 : k ≠ 7) (h1 : k ≠ 1) : (ta2 v).2 k = lkM (fuM v) k := by
  rw [ta2_e]
  generalize lkM (fuM v) = x
  rw [goL_k h0 h7 (Or.inl h1), g0_k h0]
theorem tell_ok {σ : SG} (hR : RG σ) (h5 : (ffW (σ 7)).1 = -5) : ∃ T K S N O E R, R ≤ 13 ∧ rdN σ 7 2 1 = oN R ∧ rdN σ 0 8 0 = oN T ∧ rdN σ 0 8 1 = oN K ∧ sm (lkM (fuM (σ 8)) 0 2) 60 ∧ goP 1 61 (g0M (lkM (fuM (σ 8)))) ∧ TeR (rdN σ 7 4) (σ 0) (ta2 (σ 8)) 0 0 R T K S N O E (10 * T) T ∧
    (∀ t, t < 3 → (ta2 (σ 8)).2 0 t = σ 8 0 t) ∧ (∀ t, t < 1289 → (ta2 (σ 8)).2 3 t = σ 8 1 t) ∧ (∀ k : Fin 9, k ≠ 0 → k ≠ 7 → k ≠ 1 → k ≠ 3 → (ta2 (σ 8)).2 k = σ 8 k) := by
  obtain ⟨-, f0, fk, -⟩ := fault_ok hR
  obtain ⟨⟨T, K, S, N, O, E, hr, i⟩, -, -, ⟨len, l1, l2, l3, l4⟩⟩ := id hR
  have hT : T ≤ 1000 := i.2.1.1
  have e7 : rdN σ 7 = (ffW (σ 7)).2 := up1_at _ _ _
  have e0 : rdN σ 0 = σ 0 := up1_nt (by decide)
  have v02 : lkM (fuM (σ 8)) 0 2 = oN len := by rw [lkM_k (by decide), f0 2 (by decide)]; exact l3
  have v6 : lkM (fuM (σ 8)) 6 = σ 8 6 := by rw [lkM_k (by decide), fk 6 (by decide) (by decide)]
  have v1 : lkM (fuM (σ 8)) 1 = σ 8 1 := by rw [lkM_k (by decide), fk 1 (by decide) (by decide)]
  have hs := g0_sm (u := σ 7) (v := lkM (fuM (σ 8))) l1 l2 v02 (fun j hj => by rw [v6]; exact l4 j hj)
  have u05 : g0M (lkM (fuM (σ 8))) 0 5 = oN T := by
    unfold g0M
    rw [up2_nt (by decide), up2_at, v1]
    exact hr.1.1.trans i.1.1
  have u1 : g0M (lkM (fuM (σ 8))) 1 = σ 8 1 := by rw [g0_k (by decide), v1]
  have hF : (ffF 60 (up2 (up2 (σ 7) 2 2 0) 2 1 0)).1 = -5 := h5
  obtain ⟨R, hR1, hR2⟩ : ∃ R, R ≤ 13 ∧ (ffF 60 (up2 (up2 (σ 7) 2 2 0) 2 1 0)).2 2 1 = oN R := by
    rcases ff_sim 60 _ _ len 0 0 0 61 rfl hs (by decide) (by decide) with ⟨-, -, R, -, b2, b3, -⟩ | ⟨q, z1, z2, -⟩
    · exact ⟨R, b2, b3⟩
    · rw [z2] at hF
      exact absurd hF (oN_m5 (by omega))
  obtain ⟨-, z2, z3⟩ := tell_sim 60 _ _ len 0 0 0 61 (σ 0) T K S N O E (10 * T) T R rfl hs (by decide) (by decide) u05 hT (by rw [u1]; exact hr) i hF hR2 hR1
  refine ⟨T, K, S, N, O, E, R, hR1, ?_, ?_, ?_, ?_, z2, ?_, ?_, ?_, ?_⟩
  · rw [e7]; exact hR2
  · rw [e0]; exact i.1.1
  · rw [e0]; exact i.1.2.1
  · rw [v02]; exact sm_oN l1 (by decide)
  · rw [e7]; exact z3
  · intro t ht
    rw [ta2_0 ht, lkM_k (by decide), f0 t ht]
  · intro t ht
    rw [ta2_k (by decide) (by decide) (by decide), lkM_3 ht, fk 1 (by decide) (by decide)]
  · intro k h0 h7 h1 h3
    rw [ta2_k h0 h7 h1, lkM_k h3, fk k h0 h7]
theorem s_tellAll (σ : SG) (hR : RG σ) : StI RG f_X_tellAll f_M_tellAll [] σ := by
  obtain ⟨hf, f0, fk, hfr⟩ := fault_ok hR
  have p02 : sm (σ 8 0 2) 60 := by
    obtain ⟨-, -, -, ⟨len, l1, l2, l3, l4⟩⟩ := hR
    rw [l3]
    exact sm_oN l1 (by decide)
  have r1 : RG (rdN σ) := RG_7 hR (by rw [hfr.1 0 (by decide) (by decide)]) (hfr.1 1 (by decide) (by decide)) hfr.2 (hfr.1 3 (by decide) (by decide))
  have e8 : rdN σ 8 = σ 8 := up1_nt (by decide)
  have eM : ∀ v : HV, taL v = ((taL v).1, (taL v).2) := fun _ => rfl
  rcases hf with ⟨h5, h4⟩ | ⟨q, q1, q2, q3⟩
  · obtain ⟨T, K, S, N, O, E, R, c1, c2, c3, c4, c5, c6, c7, c8, c9, c10⟩ := tell_ok hR h5
    have eO : eoF (rdN σ) = epF (rdN σ 7 4) 0 R (oN T) (oN K) := by
      unfold eoF
      rw [c2, c3, c4, oN_nat (by omega)]
    have hp2 : taP (σ 8) := by
      refine ⟨p02, fun _ => ⟨⟨c5, c6⟩, fun _ => ?_⟩⟩
      rw [c8 1 (by decide)]
      exact RG_k hR
    have eT1 : taL (σ 8) = if (ta2 (σ 8)).2 0 6 < 0 then ((ta2 (σ 8)).2 0 6, cpL 1 3 0 0 0 1289 (ta2 (σ 8)).2) else ((ta2 (σ 8)).1, rcM (ta2 (σ 8)).2) := by
      unfold taL
      rw [if_pos h4]
    clear c5 c6
    generalize ta2 (σ 8) = G at c7 c8 c9 c10 eT1
    rcases c7 with ⟨d1, d2, d3, d4, K', d5, d6⟩ | ⟨d1, d2⟩
    · have hp1 : teP σ := by
        refine ⟨RG_lt r1, fun _ => ⟨by rw [c2]; exact sm_oN (by omega) (by decide), fun _ => ?_⟩⟩
        rw [c2, c3, oN_nat (by omega)]
        exact d4
      generalize hW : tpF (rdN σ 7 4) 0 R (oN T) (σ 0) = W at d5 d6
      have eW : tpW (rcW (rdN σ)) = up1 (rcW (rdN σ)) 0 W := by
        unfold tpW
        rw [rcW_7k _ (by decide), rcW_7k _ (by decide), rcW_0, c2, c3, oN_nat (by omega), show rdN σ 0 = σ 0 from up1_nt (by decide), hW]
      have hX : teA σ = (oN R, up1 (rcW (rdN σ)) 0 W) := by
        unfold teA
        rw [if_pos h5, eO, if_pos d1, c2, eW]
      have e8' : up1 (rcW (rdN σ)) 0 W 8 = σ 8 := (r08 (RG_lt r1)).trans e8
      have hM : taL (σ 8) = (oN R, rcM G.2) := by
        rw [eT1, d2, if_neg (by decide), d3, Int32.zero_add]
      refine StI_2 (M := taL) q_X_tellAll hp1 q_M_tellAll (by rw [hX]; show taP (up1 (rcW (rdN σ)) 0 W 8); rw [e8']; exact hp2) hX (by rw [e8']; exact hM) ?_
      refine act_ok (u := G.2) r1 (by rw [e8]; exact c8 0 (by decide)) (by rw [e8]; exact c8 1 (by decide)) (by rw [e8]; exact c8 2 (by decide)) (fun t ht => by rw [e8]; exact c9 t ht) (by rw [e8]; exact c10 4 (by decide) (by decide) (by decide) (by decide)) (by rw [e8]; exact c10 5 (by decide) (by decide) (by decide) (by decide)) (by rw [e8]; exact c10 6 (by decide) (by decide) (by decide) (by decide)) (fun _ _ => rfl) ?_
      rw [rcM_1]
      exact ⟨T, K', S, N, O, E, d5, d6⟩
    · rw [← eO] at d1 d2
      generalize hEo : eoF (rdN σ) = e at d1 d2
      have ne : e ≠ 0 := by
        intro z
        rw [z] at d1
        exact absurd d1 (by decide)
      have hp1 : teP σ := by
        refine ⟨RG_lt r1, fun _ => ⟨by rw [c2]; exact sm_oN (by omega) (by decide), fun z => absurd (hEo.symm.trans z) ne⟩⟩
      have hX : teA σ = (e, rdN σ) := by
        unfold teA
        rw [if_pos h5, hEo, if_neg ne]
      have hM : taL (σ 8) = (e, cpL 1 3 0 0 0 1289 G.2) := by
        rw [eT1, d2, if_pos d1]
      refine StI_2 (M := taL) q_X_tellAll hp1 q_M_tellAll (by rw [hX]; show taP (rdN σ 8); rw [e8]; exact hp2) hX (by rw [e8]; exact hM) ?_
      refine RG_8 r1 (fun t ht => ?_) (fun t ht => ?_) ?_ ?_ ?_
      · rw [e8, cpL_kn (by decide)]; exact c8 t ht
      · rw [e8, cpL_eq (Or.inl (by decide)), if_pos ⟨rfl, by omega, by omega⟩, show 0 + (t - 0) = t by omega]
        exact c9 t ht
      · rw [e8, cpL_kn (by decide)]; exact c10 4 (by decide) (by decide) (by decide) (by decide)
      · rw [e8, cpL_kn (by decide)]; exact c10 5 (by decide) (by decide) (by decide) (by decide)
      · rw [e8, cpL_kn (by decide)]; exact c10 6 (by decide) (by decide) (by decide) (by decide)
  · have n5 : ¬ (ffW (σ 7)).1 = -5 := by rw [q2]; exact oN_m5 (by omega)
    have hp1 : teP σ := ⟨RG_lt r1, fun z => absurd z n5⟩
    have hp2 : taP (σ 8) := ⟨p02, fun z => absurd z q3.1⟩
    have hX : teA σ = (-100 - oN q, rdN σ) := by
      unfold teA
      rw [if_neg n5, q2]
    have hM : taL (σ 8) = (-100 - oN q, fuM (σ 8)) := by
      unfold taL
      rw [if_neg q3.1, q3.2]
    refine StI_2 (M := taL) q_X_tellAll hp1 q_M_tellAll (by rw [hX]; show taP (rdN σ 8); rw [e8]; exact hp2) hX (by rw [e8]; exact hM) ?_
    exact RG_8 r1 (fun t ht => by rw [e8]; exact f0 t ht) (fun t _ => by rw [e8, fk 1 (by decide) (by decide)]) (by rw [e8]; exact fk 4 (by decide) (by decide)) (by rw [e8]; exact fk 5 (by decide) (by decide)) (by rw [e8]; exact fk 6 (by decide) (by decide))

