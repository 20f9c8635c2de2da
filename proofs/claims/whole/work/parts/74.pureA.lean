/-! PURE: acts: history, snapshot, text's signs, hours -/
theorem StI_2 {fX fM : Sp} {as : List Value} {σ σ1 : SG} {p1 p2 : Prop} {X : Int32 × SG} {M : HV → Int32 × HV} {r : Int32} {v2 : HV} (e1 : fX (.ref 0 :: as) (emb σ) = (p1, some (.int X.1), emb X.2)) (h1 : p1) (e2 : fM (.ref 126 :: as) (emb X.2) = (p2, some (.int (M (X.2 8)).1), emb (up1 X.2 8 (M (X.2 8)).2))) (h2 : p2) (hX : X = (r, σ1)) (hM : M (σ1 8) = (r, v2)) (hR : RG (up1 σ1 8 v2)) : StI RG fX fM as σ := by
  subst hX
  have e2 : fM (.ref 126 :: as) (emb σ1) = (p2, some (.int (M (σ1 8)).1), emb (up1 σ1 8 (M (σ1 8)).2)) := e2
  rw [hM] at e2
  exact StI_of e1 h1 e2 h2 rfl hR
theorem RG_self {σ : SG} (h : RG σ) : RG (up1 σ 8 (σ 8)) := by rw [up1_self]; exact h
theorem RG_8 {σ : SG} {v2 : HV} (h : RG σ) (h0 : ∀ t, t < 3 → v2 0 t = σ 8 0 t) (h1 : ∀ t, t < 1289 → v2 1 t = σ 8 1 t) (h4 : v2 4 = σ 8 4) (h5 : v2 5 = σ 8 5) (h6 : v2 6 = σ 8 6) : RG (up1 σ 8 v2) := by
  obtain ⟨r0, ⟨la, hd, g1, g2, g3, g4, g5, g6⟩, ⟨k1, k2⟩, ⟨len, l1, l2, l3, l4⟩⟩ := h
  have s8 : up1 σ 8 v2 8 = v2 := up1_at _ _ _
  have si : ∀ i, i ≠ 8 → up1 σ 8 v2 i = σ i := fun i h => up1_nt h
  refine ⟨?_, ⟨la, hd, g1, g2, ?_, ?_, ?_, ?_⟩, ⟨?_, ?_⟩, ⟨len, l1, ?_, ?_, ?_⟩⟩
  · rw [s8, si 0 (by decide)]
    exact RelI_c r0 h1
  · rw [si 7 (by decide)]; exact g3
  · rw [si 7 (by decide)]; exact g4
  · rw [s8, h0 1 (by decide)]; exact g5
  · intro j hj
    rw [si _ (by omega), s8, h5]
    exact g6 j hj
  · rw [s8, h0 0 (by decide), si 7 (by decide)]; exact k1
  · intro hk
    rw [si 7 (by decide)] at hk
    rw [s8, h4, si 2 (by decide)]
    exact k2 hk
  · rw [si 7 (by decide)]; exact l2
  · rw [s8, h0 2 (by decide)]; exact l3
  · intro j hj
    rw [s8, h6, si 7 (by decide)]
    exact l4 j hj
theorem lkM_3 {v : HV} {t : Nat} (h : t < 1289) : lkM v 3 t = v 1 t := by
  unfold lkM
  rw [cpL_eq (Or.inl (by decide)), if_pos ⟨rfl, by omega, by omega⟩, show 0 + (t - 0) = t by omega]
theorem lkM_k {v : HV} {k : Fin 9} (h : k ≠ 3) : lkM v k = v k := by unfold lkM; rw [cpL_kn h]
theorem act_kn {σ : SG} {v2 w2 : HV} (h : RG σ) (hv : ∀ k : Fin 9, k ≠ 1 → v2 k = knM (σ 8) k) (hR : RelI w2 (v2 1)) : RG (up1 (up1 (rcW σ) 0 w2) 8 v2) := act_ok (u := lkM (σ 8)) h (by rw [lkM_k (by decide)]) (by rw [lkM_k (by decide)]) (by rw [lkM_k (by decide)]) (fun t ht => lkM_3 ht) (lkM_k (by decide)) (lkM_k (by decide)) (lkM_k (by decide)) hv hR
theorem rcW_8 (σ : SG) (h : ltP σ) : rcW σ 8 = σ 8 := by
  unfold rcW
  have := pA_7 (lu_sm h)
  rw [up1_nt (by decide), up1_nt (by omega)]
theorem RG_lt {σ : SG} (h : RG σ) : ltP σ := by
  obtain ⟨la, hd, g1, g2, g3, -⟩ := h.2.1
  show sm (σ 7 1 0) 3
  rw [g3]
  exact sm_oN (by omega) (by decide)
theorem RG_k {σ : SG} (h : RG σ) : sm (σ 8 0 1) 4 := by
  obtain ⟨la, hd, g1, g2, -, -, g5, -⟩ := h.2.1
  rw [g5]
  exact sm_oN (by omega) (by decide)
theorem r08 {σ : SG} {w : HV} (h : ltP σ) : up1 (rcW σ) 0 w 8 = σ 8 := by rw [up1_nt (by decide), rcW_8 σ h]
theorem s_clearText (σ : SG) (hR : RG σ) : StI RG f_X_clearText f_M_clearText [] σ := by
  obtain ⟨r0, ⟨la, hd, g1, g2, g3, g4, g5, g6⟩, ⟨k1, k2⟩, ⟨len, l1, l2, l3, l4⟩⟩ := hR
  refine StI_of (σ1 := up1 σ 7 (up2 (σ 7) 2 0 0)) q_X_clearText trivial q_M_clearText trivial ?_ ?_
  · rw [up1_nt (by decide), l2, l3]
  · have e8 : up1 σ 7 (up2 (σ 7) 2 0 0) 8 = σ 8 := up1_nt (by decide)
    rw [e8]
    have si : ∀ i, i ≠ 8 → i ≠ 7 → up1 (up1 σ 7 (up2 (σ 7) 2 0 0)) 8 (up2 (σ 8) 0 2 0) i = σ i := fun i h1 h2 => by rw [up1_nt h1, up1_nt h2]
    have s8 : up1 (up1 σ 7 (up2 (σ 7) 2 0 0)) 8 (up2 (σ 8) 0 2 0) 8 = up2 (σ 8) 0 2 0 := up1_at _ _ _
    have s7 : up1 (up1 σ 7 (up2 (σ 7) 2 0 0)) 8 (up2 (σ 8) 0 2 0) 7 = up2 (σ 7) 2 0 0 := by rw [up1_nt (by decide), up1_at]
    refine ⟨?_, ⟨la, hd, g1, g2, ?_, ?_, ?_, ?_⟩, ⟨?_, ?_⟩, ⟨0, by decide, ?_, ?_, fun j hj => by omega⟩⟩
    · rw [si 0 (by decide) (by decide), s8, up2_kn (by decide)]; exact r0
    · rw [s7, u2n (by decide)]; exact g3
    · rw [s7, u2n (by decide)]; exact g4
    · rw [s8, u2k, if_neg (by decide)]; exact g5
    · intro j hj
      rw [si _ (by omega) (by omega), s8, up2_kn (by decide)]; exact g6 j hj
    · rw [s8, s7, u2k, if_neg (by decide), u2n (by decide)]; exact k1
    · intro hk
      rw [s7, u2n (by decide)] at hk
      rw [si 2 (by decide) (by decide), s8, up2_kn (by decide)]; exact k2 hk
    · rw [s7, u2k, if_pos rfl]; rfl
    · rw [s8, u2k, if_pos rfl]; rfl
theorem nar_ch (a : Int32) : vp_nar .char (a.toUInt32 % 65536).toInt32 = (a.toUInt32 % 65536).toInt32 := by
  have h : (a.toUInt32 % 65536).toNat < 65536 := by
    rw [UInt32.toNat_mod]
    exact Nat.mod_lt _ (by decide)
  generalize a.toUInt32 % 65536 = u at h
  show (u.toInt32.toUInt32 % 65536).toInt32 = u.toInt32
  have e : u.toInt32.toUInt32 = u := rfl
  rw [e]
  have e2 : u % 65536 = u := by
    apply UInt32.toNat_inj.mp
    rw [UInt32.toNat_mod]
    exact Nat.mod_eq_of_lt h
  rw [e2]
theorem s_type (σ : SG) (a : Int32) (hR : RG σ) : StI RG f_X_type f_M_type [.int (a.toUInt32 % 65536).toInt32] σ := by
  obtain ⟨r0, ⟨la, hd, g1, g2, g3, g4, g5, g6⟩, ⟨k1, k2⟩, ⟨len, l1, l2, l3, l4⟩⟩ := id hR
  have hn := nar_ch a
  generalize (a.toUInt32 % 65536).toInt32 = x at hn
  have e1 := q_X_type (x := x) (σ := σ)
  rw [hn, l2] at e1
  by_cases hl : len = 60
  · have c1 : ¬ (¬ oN len < 0 ∧ oN len < 60) := fun q => by
      have := q.2
      change oN len < oN 60 at this
      rw [oN_lt (by omega) (by decide)] at this
      omega
    rw [if_neg c1, if_neg c1] at e1
    have e2 := q_M_type (x := x) (σ := σ)
    have eM : ttM (σ 8) x = (-3, σ 8) := by
      unfold ttM
      rw [l3, if_pos (by rw [hl]; rfl)]
    rw [eM] at e2
    exact StI_of e1 trivial e2 (by rw [l3]; exact sm_oN l1 (by decide)) rfl (RG_self hR)
  · have c1 : ¬ oN len < 0 ∧ oN len < 60 := ⟨by rw [oN_nn (by omega)]; exact id, by show oN len < oN 60; rw [oN_lt (by omega) (by decide)]; omega⟩
    rw [if_pos c1, if_pos c1, oN_succ, oN_nat (show len < 2 ^ 31 by omega)] at e1
    have e2 := q_M_type (x := x) (σ := up1 σ 7 (up2 (up2 (σ 7) 3 len x) 2 0 (oN (len + 1))))
    have e8 : up1 σ 7 (up2 (up2 (σ 7) 3 len x) 2 0 (oN (len + 1))) 8 = σ 8 := up1_nt (by decide)
    have eM : ttM (σ 8) x = (oN (len + 1), up2 (up2 (σ 8) 6 len x) 0 2 (oN (len + 1))) := by
      unfold ttM
      rw [l3, if_neg (show ¬ oN len = 60 from fun q => hl (oN_inj (b := 60) (by omega) (by decide) q)), oN_succ, oN_nat (show len < 2 ^ 31 by omega)]
    rw [e8, eM] at e2
    refine StI_of e1 trivial e2 (by rw [l3]; exact sm_oN l1 (by decide)) rfl ?_
    have si : ∀ i, i ≠ 8 → i ≠ 7 → up1 (up1 σ 7 (up2 (up2 (σ 7) 3 len x) 2 0 (oN (len + 1)))) 8 (up2 (up2 (σ 8) 6 len x) 0 2 (oN (len + 1))) i = σ i := fun i h1 h2 => by rw [up1_nt h1, up1_nt h2]
    have s8 : up1 (up1 σ 7 (up2 (up2 (σ 7) 3 len x) 2 0 (oN (len + 1)))) 8 (up2 (up2 (σ 8) 6 len x) 0 2 (oN (len + 1))) 8 = up2 (up2 (σ 8) 6 len x) 0 2 (oN (len + 1)) := up1_at _ _ _
    have s7 : up1 (up1 σ 7 (up2 (up2 (σ 7) 3 len x) 2 0 (oN (len + 1)))) 8 (up2 (up2 (σ 8) 6 len x) 0 2 (oN (len + 1))) 7 = up2 (up2 (σ 7) 3 len x) 2 0 (oN (len + 1)) := by rw [up1_nt (by decide), up1_at]
    refine ⟨?_, ⟨la, hd, g1, g2, ?_, ?_, ?_, ?_⟩, ⟨?_, ?_⟩, ⟨len + 1, by omega, ?_, ?_, ?_⟩⟩
    · rw [si 0 (by decide) (by decide), s8, up2_kn (by decide), up2_kn (by decide)]; exact r0
    · rw [s7, u2n (by decide), u2n (by decide)]; exact g3
    · rw [s7, u2n (by decide), u2n (by decide)]; exact g4
    · rw [s8, u2k, if_neg (by decide), u2n (by decide)]; exact g5
    · intro j hj
      rw [si _ (by omega) (by omega), s8, up2_kn (by decide), up2_kn (by decide)]; exact g6 j hj
    · rw [s8, s7, u2k, if_neg (by decide), u2n (by decide), u2n (by decide), u2n (by decide)]; exact k1
    · intro hk
      rw [s7, u2n (by decide), u2n (by decide)] at hk
      rw [si 2 (by decide) (by decide), s8, up2_kn (by decide), up2_kn (by decide)]; exact k2 hk
    · rw [s7, u2k, if_pos rfl]
    · rw [s8, u2k, if_pos rfl]
    · intro j hj
      rw [s8, u2n (by decide), u2k, s7, u2n (by decide), u2k]
      by_cases e : j = len
      · rw [if_pos e, if_pos e]
      · rw [if_neg e, if_neg e]
        exact l4 j (by omega)
theorem s_keep (σ : SG) (hR : RG σ) : StI RG f_X_keep f_M_keep [] σ := by
  obtain ⟨r0, ⟨la, hd, g1, g2, g3, g4, g5, g6⟩, ⟨k1, k2⟩, ⟨len, l1, l2, l3, l4⟩⟩ := hR
  have e0 : σ 8 1 0 = σ 0 8 0 := by obtain ⟨T, K, S, N, O, E, h, i⟩ := r0; exact h.1.1
  have e8 : up1 (up1 σ 2 (cpH (σ 2) (σ 0))) 7 (up2 (σ 7) 0 0 1) 8 = σ 8 := by rw [up1_nt (by decide), up1_nt (by decide)]
  have c1 : kpM (σ 8) 1 = σ 8 1 := by unfold kpM kp1; rw [up2_kn (by decide), cpL_kn (by decide)]
  refine StI_of (σ1 := up1 (up1 σ 2 (cpH (σ 2) (σ 0))) 7 (up2 (σ 7) 0 0 1)) q_X_keep trivial q_M_keep trivial ?_ ?_
  · rw [e8, c1, e0]
  · rw [e8]
    generalize hs : up1 (up1 (up1 σ 2 (cpH (σ 2) (σ 0))) 7 (up2 (σ 7) 0 0 1)) 8 (kpM (σ 8)) = σ'
    have s8 : σ' 8 = kpM (σ 8) := by rw [← hs]; exact up1_at _ _ _
    have s7 : σ' 7 = up2 (σ 7) 0 0 1 := by rw [← hs, up1_nt (by decide), up1_at]
    have s2 : σ' 2 = cpH (σ 2) (σ 0) := by rw [← hs, up1_nt (by decide), up1_nt (by decide), up1_at]
    have si : ∀ i, i ≠ 8 → i ≠ 7 → i ≠ 2 → σ' i = σ i := fun i h1 h2 h3 => by rw [← hs, up1_nt h1, up1_nt h2, up1_nt h3]
    have ck : ∀ k : Fin 9, k ≠ 0 → k ≠ 4 → kpM (σ 8) k = σ 8 k := by
      intro k h0 h4
      unfold kpM kp1
      rw [up2_kn h0, cpL_kn h4]
    have c0 : ∀ t, t ≠ 0 → kpM (σ 8) 0 t = σ 8 0 t := by
      intro t ht
      unfold kpM kp1
      rw [up2_nt ht, cpL_kn (by decide)]
    refine ⟨?_, ⟨la, hd, g1, g2, ?_, ?_, ?_, ?_⟩, ⟨?_, ?_⟩, ⟨len, l1, ?_, ?_, ?_⟩⟩
    · rw [si 0 (by decide) (by decide) (by decide), s8, c1]; exact r0
    · rw [s7, u2n (by decide)]; exact g3
    · rw [s7, u2n (by decide)]; exact g4
    · rw [s8, c0 1 (by decide)]; exact g5
    · intro j hj
      rw [si _ (by omega) (by omega) (by omega), s8, ck 5 (by decide) (by decide)]; exact g6 j hj
    · rw [s8, s7, u2k, if_pos rfl]
      unfold kpM
      rw [up2_at]
    · intro _
      rw [s2, s8]
      refine RelI_c (RelI_w (cpH_in _ _) r0) (fun t ht => ?_)
      unfold kpM kp1
      rw [up2_kn (by decide), cpL_eq (Or.inl (by decide)), if_pos ⟨rfl, by omega, by omega⟩, show 0 + (t - 0) = t by omega]
    · rw [s7, u2n (by decide)]; exact l2
    · rw [s8, c0 2 (by decide)]; exact l3
    · intro j hj
      rw [s8, ck 6 (by decide) (by decide), s7, u2n (by decide)]; exact l4 j hj
theorem s_restore (σ : SG) (hR : RG σ) : StI RG f_X_restore f_M_restore [] σ := by
  obtain ⟨r0, -, ⟨k1, k2⟩, -⟩ := id hR
  by_cases hk : σ 7 0 0 = 0
  · have hX : reF σ = (-5, σ) := by unfold reF; rw [if_pos hk]
    have hM : rsM (σ 8) = (-5, σ 8) := by unfold rsM; rw [k1, if_pos hk]
    exact StI_2 (M := rsM) q_X_restore (RG_lt hR) q_M_restore (by rw [hX]; exact RG_k hR) hX hM (RG_self hR)
  · have hX : reF σ = (cpH (σ 0) (σ 2) 8 0, up1 (rcW σ) 0 (cpH (σ 0) (σ 2))) := by unfold reF; rw [if_neg hk]
    have hM : rsM (σ 8) = (cpL 1 4 0 0 0 1289 (knM (σ 8)) 1 0, cpL 1 4 0 0 0 1289 (knM (σ 8))) := by unfold rsM; rw [k1, if_neg hk]
    have r2 := k2 hk
    have k4 : knM (σ 8) 4 = σ 8 4 := by
      obtain ⟨la, hd, g1, g2, g3, g4, g5, g6⟩ := hR.2.1
      obtain ⟨-, -, mk, -⟩ := rcM_ok (u := lkM (σ 8)) (v := σ 8) g2 (by rw [lkM_k (by decide)]; exact g5) (fun t ht => lkM_3 ht) (fun t => by rw [lkM_k (by decide)])
      unfold knM
      rw [mk 4 (by decide) (by decide), lkM_k (by decide)]
    have c1 : ∀ t, t < 1289 → cpL 1 4 0 0 0 1289 (knM (σ 8)) 1 t = σ 8 4 t := by
      intro t ht
      rw [cpL_eq (Or.inl (by decide)), if_pos ⟨rfl, by omega, by omega⟩, show 0 + (t - 0) = t by omega, k4]
    have rr : RelI (cpH (σ 0) (σ 2)) (cpL 1 4 0 0 0 1289 (knM (σ 8)) 1) := RelI_c (RelI_w (cpH_in _ _) r2) c1
    have e0 : cpH (σ 0) (σ 2) 8 0 = cpL 1 4 0 0 0 1289 (knM (σ 8)) 1 0 := by obtain ⟨T, K, S, N, O, E, h, i⟩ := rr; exact h.1.1.symm
    refine StI_2 (M := rsM) q_X_restore (RG_lt hR) q_M_restore (by rw [hX]; show sm (up1 (rcW σ) 0 (cpH (σ 0) (σ 2)) 8 0 1) 4; rw [r08 (RG_lt hR)]; exact RG_k hR) hX (by rw [r08 (RG_lt hR), hM, e0]) ?_
    exact act_kn hR (fun k hk1 => by rw [cpL_kn hk1]) rr
theorem s_undo (σ : SG) (hR : RG σ) : StI RG f_X_undo f_M_undo [] σ := by
  obtain ⟨r0, ⟨la, hd, g1, g2, g3, g4, g5, g6⟩, ⟨k1, k2⟩, ⟨len, l1, l2, l3, l4⟩⟩ := id hR
  by_cases hz : hd = 0
  · subst hz
    have hT : tlW σ = (false, σ) := by
      unfold tlW
      rw [g4, if_neg (by decide)]
    have hX : unF σ = (-5, σ) := by unfold unF; rw [hT, if_pos rfl]
    have hM : udM (σ 8) = (-5, σ 8) := by unfold udM; rw [g5, if_pos (show oN 0 = 0 from rfl)]
    exact StI_2 (M := udM) q_X_undo (RG_lt hR) q_M_undo (by rw [hX]; exact RG_k hR) hX hM (RG_self hR)
  · have elA : pA (oN la) = 3 + la := by unfold pA; rw [oN_nat (by omega)]
    have hT : tlW σ = (true, up1 (up1 σ 0 (cpH (σ 0) (σ (3 + la)))) 7 (up2 (up2 (σ 7) 1 0 (oN ((la + 3) % 4))) 1 1 (oN (hd - 1)))) := by
      unfold tlW
      rw [g4, g3, if_pos (show (0 : Int32) < oN hd by show oN 0 < oN hd; rw [oN_lt (by decide) (by omega)]; omega), elA, ld_n la g1, show (1 : Int32) = oN 1 from rfl, oN_sub (by omega)]
    have hX : unF σ = (oN (hd - 1), up1 (up1 σ 0 (cpH (σ 0) (σ (3 + la)))) 7 (up2 (up2 (σ 7) 1 0 (oN ((la + 3) % 4))) 1 1 (oN (hd - 1)))) := by
      unfold unF
      rw [hT, if_neg (show ¬ (true = false) by decide)]
      refine congrArg (fun z => (z, _)) ?_
      show up1 (up1 σ 0 (cpH (σ 0) (σ (3 + la)))) 7 (up2 (up2 (σ 7) 1 0 (oN ((la + 3) % 4))) 1 1 (oN (hd - 1))) 7 1 1 = _
      rw [up1_at, u2k, if_pos rfl]
    have hM : udM (σ 8) = (oN (hd - 1), cpL 1 5 0 (1289 * (hd - 1)) 0 1289 (up2 (σ 8) 0 1 (oN (hd - 1)))) := by
      unfold udM
      rw [g5, if_neg (show ¬ oN hd = 0 from fun q => hz (oN_inj (b := 0) (by omega) (by decide) q)), show (1 : Int32) = oN 1 from rfl, oN_sub (by omega), oN_nat (by omega)]
    have e8 : up1 (up1 σ 0 (cpH (σ 0) (σ (3 + la)))) 7 (up2 (up2 (σ 7) 1 0 (oN ((la + 3) % 4))) 1 1 (oN (hd - 1))) 8 = σ 8 := by rw [up1_nt (by decide), up1_nt (by decide)]
    refine StI_2 (M := udM) q_X_undo (RG_lt hR) q_M_undo (by rw [hX]; show sm (up1 (up1 σ 0 (cpH (σ 0) (σ (3 + la)))) 7 (up2 (up2 (σ 7) 1 0 (oN ((la + 3) % 4))) 1 1 (oN (hd - 1))) 8 0 1) 4; rw [e8]; exact RG_k hR) hX (by rw [e8]; exact hM) ?_
    generalize hs : up1 (up1 (up1 σ 0 (cpH (σ 0) (σ (3 + la)))) 7 (up2 (up2 (σ 7) 1 0 (oN ((la + 3) % 4))) 1 1 (oN (hd - 1)))) 8 (cpL 1 5 0 (1289 * (hd - 1)) 0 1289 (up2 (σ 8) 0 1 (oN (hd - 1)))) = σ'
    have s8 : σ' 8 = cpL 1 5 0 (1289 * (hd - 1)) 0 1289 (up2 (σ 8) 0 1 (oN (hd - 1))) := by rw [← hs]; exact up1_at _ _ _
    have s7 : σ' 7 = up2 (up2 (σ 7) 1 0 (oN ((la + 3) % 4))) 1 1 (oN (hd - 1)) := by rw [← hs, up1_nt (by decide), up1_at]
    have s0 : σ' 0 = cpH (σ 0) (σ (3 + la)) := by rw [← hs, up1_nt (by decide), up1_nt (by decide), up1_at]
    have si : ∀ i, i ≠ 8 → i ≠ 7 → i ≠ 0 → σ' i = σ i := fun i h1 h2 h3 => by rw [← hs, up1_nt h1, up1_nt h2, up1_nt h3]
    have ck : ∀ k : Fin 9, k ≠ 0 → k ≠ 1 → σ' 8 k = σ 8 k := by
      intro k h0 h1
      rw [s8, cpL_kn h1, up2_kn h0]
    have c0 : ∀ t, t ≠ 1 → σ' 8 0 t = σ 8 0 t := by
      intro t ht
      rw [s8, cpL_kn (by decide), up2_nt ht]
    refine ⟨?_, ⟨(la + 3) % 4, hd - 1, Nat.mod_lt _ (by decide), by omega, ?_, ?_, ?_, ?_⟩, ⟨?_, ?_⟩, ⟨len, l1, ?_, ?_, ?_⟩⟩
    · have g60 := g6 0 (by omega)
      rw [show 3 + (la + 4 - 0) % 4 = 3 + la by omega] at g60
      rw [s0]
      refine RelI_c (RelI_w (cpH_in _ _) g60) (fun t ht => ?_)
      rw [s8, cpL_eq (Or.inl (by decide)), if_pos ⟨rfl, by omega, by omega⟩, up2_kn (by decide)]
      exact congrArg (σ 8 5) (by omega)
    · rw [s7, u2k, if_neg (by decide), u2k, if_pos rfl]
    · rw [s7, u2k, if_pos rfl]
    · rw [s8, cpL_kn (by decide), up2_at]
    · intro j hj
      have h1 := g6 (j + 1) (by omega)
      have hm : (la + 3) % 4 < 4 := Nat.mod_lt _ (by decide)
      rw [si _ (by omega) (by omega) (by omega), ck 5 (by decide) (by decide), show 3 + ((la + 3) % 4 + 4 - j) % 4 = 3 + (la + 4 - (j + 1)) % 4 by omega, show hd - 1 - 1 - j = hd - 1 - (j + 1) by omega]
      exact h1
    · rw [c0 0 (by decide), s7, u2n (by decide), u2n (by decide)]; exact k1
    · intro hk
      rw [s7, u2n (by decide), u2n (by decide)] at hk
      rw [si 2 (by decide) (by decide) (by decide), ck 4 (by decide) (by decide)]; exact k2 hk
    · rw [s7, u2n (by decide), u2n (by decide)]; exact l2
    · rw [c0 2 (by decide)]; exact l3
    · intro j hj
      rw [ck 6 (by decide) (by decide), s7, u2n (by decide), u2n (by decide)]; exact l4 j hj
theorem s_pass (σ : SG) (h : Int32) (hR : RG σ) : StI RG f_X_pass f_M_pass [.int h] σ := by
  obtain ⟨T, K, S, N, O, E, hr, i⟩ := id hR.1
  obtain ⟨e0, e6, e7, e16, hT, hK, hS, hO⟩ := g_0 hr i
  have e80 : σ 0 8 0 = oN T := i.1.1
  have hp1 : ltP σ ∧ sm (σ 0 8 4) 10 := ⟨RG_lt hR, by rw [i.1.2.2.2.2.1]; exact sm_oN hO (by decide)⟩
  have hlt : ∀ n, n ≤ 99 → ((1000 : Int32) < oN T + oN n ↔ 1000 < T + n) := by
    intro n hn
    rw [oN_add]
    show oN 1000 < oN (T + n) ↔ _
    rw [oN_lt (by decide) (by omega)]
  rcases Decidable.em (wi h 1 99) with c1 | c1
  case inr =>
    have hX : psW σ h = (-2, σ) := by unfold psW; rw [if_neg c1]
    have hM : psV (σ 8) h = (-2, σ 8) := by unfold psV; rw [if_neg c1]
    exact StI_2 (M := fun v => psV v h) q_X_pass hp1 q_M_pass (by rw [hX]; exact ⟨RG_k hR, fun q => absurd q c1⟩) hX hM (RG_self hR)
  obtain ⟨n, n1, n2, rfl⟩ := wi1 (n := 99) c1 (by decide)
  by_cases c2 : 1000 < T + n
  · have c3 : (1000 : Int32) < oN T + oN n := (hlt n n2).mpr c2
    have hX : psW σ (oN n) = (-3, σ) := by unfold psW; rw [if_pos c1, e80, if_pos c3]
    have hM : psV (σ 8) (oN n) = (-3, σ 8) := by unfold psV; rw [if_pos c1, e0, if_pos c3]
    exact StI_2 (M := fun v => psV v (oN n)) q_X_pass hp1 q_M_pass (by rw [hX]; exact ⟨RG_k hR, fun _ q => absurd (show 1000 < σ 8 1 0 + oN n by rw [e0]; exact c3) q⟩) hX hM (RG_self hR)
  · have c3 : ¬ (1000 : Int32) < oN T + oN n := fun q => c2 ((hlt n n2).mp q)
    have hX : psW σ (oN n) = (paN (σ 0) n 8 5 - σ 0 8 5, up1 (rcW σ) 0 (paN (σ 0) n)) := by unfold psW; rw [if_pos c1, e80, if_neg c3, oN_nat (by omega)]
    have hM : psV (σ 8) (oN n) = pmM n 0 (knM (σ 8)) := by unfold psV; rw [if_pos c1, e0, if_neg c3, oN_nat (by omega)]
    have hr' : Rel (σ 0) (knM (σ 8) 1) S O E 100 := by rw [knM_1]; exact hr
    obtain ⟨z1, O2, E2, z2, z3, z4, z5⟩ := pm_ok n 0 (σ 0) (knM (σ 8)) T O E (by omega) hr' i
    have ea : paN (σ 0) n 8 5 - σ 0 8 5 = (pmM n 0 (knM (σ 8))).1 := by
      rw [z5, z4.1.2.2.2.2.2.1, i.1.2.2.2.2.2.1, oN_sub z2, Int32.zero_add]
    refine StI_2 (M := fun v => psV v (oN n)) q_X_pass hp1 q_M_pass ?_ hX (by rw [r08 (RG_lt hR), hM, ea]) ?_
    · rw [hX]
      show sm (up1 (rcW σ) 0 (paN (σ 0) n) 8 0 1) 4 ∧ (wi (oN n) 1 99 → ¬ 1000 < up1 (rcW σ) 0 (paN (σ 0) n) 8 1 0 + oN n → pmP (oN n).toNatClampNeg 0 (knM (up1 (rcW σ) 0 (paN (σ 0) n) 8)))
      rw [r08 (RG_lt hR), oN_nat (show n < 2 ^ 31 by omega)]
      exact ⟨RG_k hR, fun _ _ => z1⟩
    · exact act_kn hR (fun k hk => pmM_k hk _ _ _) ⟨T + n, K, S, N, O2, E2, z3, z4⟩

