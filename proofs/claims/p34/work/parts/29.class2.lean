/-! THE CLASS: methods that change its state, without loops -/
theorem pA_n0 (x : Int32) : (0 : Nat) ≠ pA x := by unfold pA; omega
theorem pA_n1 (x : Int32) : (1 : Nat) ≠ pA x := by unfold pA; omega
theorem pA_n2 (x : Int32) : (2 : Nat) ≠ pA x := by unfold pA; omega
theorem rcW_0 (σ : SG) : rcW σ 0 = σ 0 := by
  unfold rcW
  rw [up1_ne _ _ (show (0 : Nat) ≠ 7 by decide), up1_ne _ _ (pA_n0 _)]
theorem rcW_2 (σ : SG) : rcW σ 2 = σ 2 := by
  unfold rcW
  rw [up1_ne _ _ (show (2 : Nat) ≠ 7 by decide), up1_ne _ _ (pA_n2 _)]
theorem rcW_7 (σ : SG) : rcW σ 7 = up2 (up2 (σ 7) 1 0 (lu (σ 7 1 0))) 1 1 (hl1 (σ 7 1 1)) := up1_at _ _ _
abbrev ltP (σ : SG) : Prop := sm (σ 7 1 0) 3
def wnF (σ : SG) (a b x : Int32) : Int32 × SG :=
  if wi a (σ 0 8 0) 999 then if wi b a 999 then if wi x 0 12 then
    (if smF (fun j => if σ 0 0 j = x then 0 else 1) a.toNatClampNeg ((b + 1).toNatClampNeg - a.toNatClampNeg) = 0 then (-5, σ)
     else (smF (fun j => if σ 0 0 j = x then 0 else 1) a.toNatClampNeg ((b + 1).toNatClampNeg - a.toNatClampNeg), up1 (rcW σ) 0 (lyw (σ 0) x a.toNatClampNeg (b + 1).toNatClampNeg)))
    else (-2, σ) else (-2, σ) else (-2, σ)
theorem wi_999 {a b n : Int32} (hn : ¬ n < 0) (h1 : wi a n 999) (h2 : wi b a 999) : sm a 1000 ∧ b < 1000 ∧ sm (b + 1) 1000 ∧ a.toNatClampNeg ≤ (b + 1).toNatClampNeg := by
  have s1 : sm a 999 := wi_sm (n := 999) h1 hn (by decide)
  have s2 : sm b 999 := wi_sm (n := 999) h2 s1.1 (by decide)
  have e2 := sm_eq s2
  have e1 := sm_eq s1
  have h3 := h2.1
  have k1 := s1.2
  have k2 := s2.2
  have hb : b + 1 = oN (b.toNatClampNeg + 1) := by rw [← oN_succ, ← e2]
  refine ⟨⟨s1.1, by omega⟩, ?_, ?_, ?_⟩
  · rw [e2]
    show oN _ < oN 1000
    rw [oN_lt (by omega) (by decide)]
    omega
  · rw [hb]
    exact sm_oN (by omega) (by decide)
  · rw [hb, oN_nat (by omega)]
    rw [e1, e2, oN_lt (by omega) (by omega)] at h3
    omega

def sp_X_wind : Nat → Sp := spL [(56, f_X_within), (24, f_H_otherWinds), (54, f_P_record), (10, f_H_foresee)]
theorem sp_X_wind_X_within : sp_X_wind 56 = f_X_within := rfl
theorem sp_X_wind_H_otherWinds : sp_X_wind 24 = f_H_otherWinds := rfl
theorem sp_X_wind_P_record : sp_X_wind 54 = f_P_record := rfl
theorem sp_X_wind_H_foresee : sp_X_wind 10 = f_H_foresee := rfl
def f_X_wind : Sp := aS 9 (fun _ => 0) 3 (gL3 (fun _ a b x σ => (sm (σ 0 8 0) 1000 ∧ ltP σ, some (.int (wnF σ a b x).1), (wnF σ a b x).2)))
theorem q_X_wind {a b x : Int32} {σ : SG} : f_X_wind [.ref 0, .int a, .int b, .int x] (emb σ) = (sm (σ 0 8 0) 1000 ∧ ltP σ, some (.int (wnF σ a b x).1), emb ((wnF σ a b x).2)) := aS3_at (ad := (fun _ => 0)) (i := hI 0) (by decide) rfl
set_option maxHeartbeats 4000000 in
set_option maxRecDepth 20000 in
theorem ok_X_wind : SpecOK 73 f_X_wind := SpecOK.of (sp := sp_X_wind) (by decide) (by decide) (spL_ok (List.forall_mem_cons.mpr ⟨ok_X_within, (List.forall_mem_cons.mpr ⟨ok_H_otherWinds, (List.forall_mem_cons.mpr ⟨ok_P_record, (List.forall_mem_cons.mpr ⟨ok_H_foresee, (fun q h => absurd h List.not_mem_nil)⟩)⟩)⟩)⟩)) (Does_aS3 (Nat.le_of_ble_eq_true rfl) (fun sc i a b x σ hi had hp => by
  refine Vf_q ?_ ⟨rfl, rfl⟩
  intro Q hQ
  dsimp only at hQ hp
  show Vf 73 _ _ 0 [.ref (0), .int a, .int b, .int x, .null] [] (emb σ) _

  simp only [rX_wind_0, rX_wind_1, rX_wind_2, rX_wind_5, rX_wind_8, rX_wind_11, rX_wind_14, rX_wind_17, rX_wind_18, rX_wind_19, rX_wind_22, rX_wind_25, rX_wind_28, rX_wind_29, rX_wind_30, rX_wind_32, rX_wind_35, rX_wind_38, rX_wind_40, rX_wind_41, rX_wind_42, rX_wind_45, rX_wind_46, rX_wind_47, rX_wind_48, rX_wind_51, rX_wind_53, rX_wind_55, rX_wind_58, rX_wind_60, rX_wind_61, rX_wind_62, rX_wind_65, rX_wind_66, rX_wind_69, rX_wind_72, rX_wind_73, rX_wind_76, rX_wind_77, rX_wind_78, rX_wind_79, rX_wind_82, rX_wind_84, ct1_i, ct1_r, ct1_n, true_and, and_true, tl_s, tl_n, le4_0, le4_1, le4_2, le4_3, le4_4, le4_5, isO_r, cl_, emb1, emb2, le_rN, up1_at, up1_up1, sp_X_wind_X_within, sp_X_wind_H_otherWinds, sp_X_wind_P_record, sp_X_wind_H_foresee, obX, obP, obN, obQ, xr_0, xr_1, xr_2, xr_3, xr_4, ob_h i07, ob_h i17, ob_h i27, isO_r, fok_i, rb_0, rb_1, rb_bi, bi_eq0, rb_b2, b2_0, ite_not, ni_0, ni_1, pi_0, pi_1, xi_0, sxi_0, sni_0, q_X_within, Option.toList, List.cons_append, List.nil_append, vh_0 i07, vs_0 i07, vs_0 i17, ss_0 i07, obt_0 i07, qT_at_0 i07, qT_put_0 i07, qT_add_0 i07, vh_1 i07, vs_1 i07, vs_1 i17, ss_1 i07, obt_1 i07, qT_at_1 i07, qT_put_1 i07, qT_add_1 i07, vh_2 i07, vs_2 i07, vs_2 i17, ss_2 i07, obt_2 i07, qT_at_2 i07, qT_put_2 i07, qT_add_2 i07, vh_3 i07, vs_3 i07, vs_3 i17, ss_3 i07, obt_3 i07, qT_at_3 i07, qT_put_3 i07, qT_add_3 i07, vh_4 i07, vs_4 i07, vs_4 i17, ss_4 i07, obt_4 i07, qT_at_4 i07, qT_put_4 i07, qT_add_4 i07, vh_5 i07, vs_5 i07, vs_5 i17, ss_5 i07, obt_5 i07, qT_at_5 i07, qT_put_5 i07, qT_add_5 i07, vh_6 i07, vs_6 i07, vs_6 i17, ss_6 i07, obt_6 i07, qT_at_6 i07, qT_put_6 i07, qT_add_6 i07, vh_7 i07, vs_7 i07, vs_7 i17, ss_7 i07, obt_7 i07, qT_at_7 i07, qT_put_7 i07, qT_add_7 i07, vh_7 i17, obt_7 i17, qT_at_7 i17, q_H_otherWinds i07, q_P_record hp.2, q_H_foresee i07, rcW_0]
  unfold wnF at hQ
  rcases Decidable.em (wi a (σ 0 8 0) 999) with h1 | h1
  case inr => rw [if_neg h1] at hQ ⊢; exact hQ
  rw [if_pos h1] at hQ ⊢
  rcases Decidable.em (wi b a 999) with h2 | h2
  case inr => rw [if_neg h2] at hQ ⊢; exact hQ
  rw [if_pos h2] at hQ ⊢
  rcases Decidable.em (wi x 0 12) with h3 | h3
  case inr => rw [if_neg h3] at hQ ⊢; exact hQ
  rw [if_pos h3] at hQ ⊢
  have h4 := wi_999 hp.1.1 h1 h2
  refine ⟨h4, ?_⟩
  rcases Decidable.em (smF (fun j => if σ 0 0 j = x then 0 else 1) a.toNatClampNeg ((b + 1).toNatClampNeg - a.toNatClampNeg) = 0) with h5 | h5
  · rw [if_pos h5] at hQ ⊢
    exact hQ
  · rw [if_neg h5] at hQ ⊢
    exact ⟨⟨h4.1, h4.2.1⟩, hQ⟩))
abbrev akH (w : HV) (a b c d : Int32) : HV := up2 (pt (pt (pt (pt (pt w 2 8 128 (w 8 1) 1 a) 2 8 128 (w 8 1) 2 b) 2 8 128 (w 8 1) 3 c) 2 8 128 (w 8 1) 4 d) 2 8 128 (w 8 1) 7 (-5)) 8 1 (w 8 1 + 1)
def kiF (σ : SG) (a b c d : Int32) : Int32 × SG :=
  if wi a 0 12 then if wi b a 12 then if wi c 1 9 then if wi d 1 99 then
    (if σ 0 8 1 < 16 then (σ 0 8 1, up1 (rcW σ) 0 (akH (σ 0) a b c d)) else (-3, σ))
    else (-2, σ) else (-2, σ) else (-2, σ) else (-2, σ)
def sp_X_kite : Nat → Sp := spL [(56, f_X_within), (54, f_P_record), (11, f_H_addKite)]
theorem sp_X_kite_X_within : sp_X_kite 56 = f_X_within := rfl
theorem sp_X_kite_P_record : sp_X_kite 54 = f_P_record := rfl
theorem sp_X_kite_H_addKite : sp_X_kite 11 = f_H_addKite := rfl
def f_X_kite : Sp := aS 9 (fun _ => 0) 4 (gL4 (fun _ a b c d σ => (ltP σ, some (.int (kiF σ a b c d).1), (kiF σ a b c d).2)))
theorem q_X_kite {a b c d : Int32} {σ : SG} : f_X_kite [.ref 0, .int a, .int b, .int c, .int d] (emb σ) = (ltP σ, some (.int (kiF σ a b c d).1), emb ((kiF σ a b c d).2)) := aS4_at (ad := (fun _ => 0)) (i := hI 0) (by decide) rfl
set_option maxHeartbeats 4000000 in
set_option maxRecDepth 20000 in
theorem ok_X_kite : SpecOK 74 f_X_kite := SpecOK.of (sp := sp_X_kite) (by decide) (by decide) (spL_ok (List.forall_mem_cons.mpr ⟨ok_X_within, (List.forall_mem_cons.mpr ⟨ok_P_record, (List.forall_mem_cons.mpr ⟨ok_H_addKite, (fun q h => absurd h List.not_mem_nil)⟩)⟩)⟩)) (Does_aS4 (Nat.le_of_ble_eq_true rfl) (fun sc i a b c d σ hi had hp => by
  refine Vf_q ?_ ⟨rfl, rfl⟩
  intro Q hQ
  dsimp only at hQ hp
  show Vf 74 _ _ 0 [.ref (0), .int a, .int b, .int c, .int d] [] (emb σ) _

  simp only [rX_kite_0, rX_kite_1, rX_kite_2, rX_kite_4, rX_kite_7, rX_kite_10, rX_kite_11, rX_kite_12, rX_kite_14, rX_kite_17, rX_kite_20, rX_kite_21, rX_kite_22, rX_kite_24, rX_kite_27, rX_kite_30, rX_kite_32, rX_kite_33, rX_kite_35, rX_kite_38, rX_kite_41, rX_kite_43, rX_kite_44, rX_kite_45, rX_kite_48, rX_kite_51, rX_kite_53, rX_kite_56, rX_kite_58, rX_kite_59, rX_kite_60, rX_kite_63, rX_kite_64, rX_kite_67, rX_kite_70, rX_kite_71, rX_kite_74, rX_kite_75, rX_kite_76, rX_kite_77, rX_kite_79, rX_kite_82, ct1_i, ct1_r, ct1_n, true_and, and_true, tl_s, tl_n, le4_0, le4_1, le4_2, le4_3, le4_4, le4_5, isO_r, cl_, emb1, emb2, le_rN, up1_at, up1_up1, sp_X_kite_X_within, sp_X_kite_P_record, sp_X_kite_H_addKite, obX, obP, obN, obQ, xr_0, xr_1, xr_2, xr_3, xr_4, ob_h i07, ob_h i17, ob_h i27, isO_r, fok_i, rb_0, rb_1, rb_bi, bi_eq0, rb_b2, b2_0, ite_not, ni_0, ni_1, pi_0, pi_1, xi_0, sxi_0, sni_0, q_X_within, Option.toList, List.cons_append, List.nil_append, vh_0 i07, vs_0 i07, vs_0 i17, ss_0 i07, obt_0 i07, qT_at_0 i07, qT_put_0 i07, qT_add_0 i07, vh_1 i07, vs_1 i07, vs_1 i17, ss_1 i07, obt_1 i07, qT_at_1 i07, qT_put_1 i07, qT_add_1 i07, vh_2 i07, vs_2 i07, vs_2 i17, ss_2 i07, obt_2 i07, qT_at_2 i07, qT_put_2 i07, qT_add_2 i07, vh_3 i07, vs_3 i07, vs_3 i17, ss_3 i07, obt_3 i07, qT_at_3 i07, qT_put_3 i07, qT_add_3 i07, vh_4 i07, vs_4 i07, vs_4 i17, ss_4 i07, obt_4 i07, qT_at_4 i07, qT_put_4 i07, qT_add_4 i07, vh_5 i07, vs_5 i07, vs_5 i17, ss_5 i07, obt_5 i07, qT_at_5 i07, qT_put_5 i07, qT_add_5 i07, vh_6 i07, vs_6 i07, vs_6 i17, ss_6 i07, obt_6 i07, qT_at_6 i07, qT_put_6 i07, qT_add_6 i07, vh_7 i07, vs_7 i07, vs_7 i17, ss_7 i07, obt_7 i07, qT_at_7 i07, qT_put_7 i07, qT_add_7 i07, vh_7 i17, obt_7 i17, qT_at_7 i17, q_P_record hp, q_H_addKite i07, rcW_0]
  unfold kiF at hQ
  rcases Decidable.em (wi a 0 12) with h1 | h1
  case inr => rw [if_neg h1] at hQ ⊢; exact hQ
  rw [if_pos h1] at hQ ⊢
  rcases Decidable.em (wi b a 12) with h2 | h2
  case inr => rw [if_neg h2] at hQ ⊢; exact hQ
  rw [if_pos h2] at hQ ⊢
  rcases Decidable.em (wi c 1 9) with h3 | h3
  case inr => rw [if_neg h3] at hQ ⊢; exact hQ
  rw [if_pos h3] at hQ ⊢
  rcases Decidable.em (wi d 1 99) with h4 | h4
  case inr => rw [if_neg h4] at hQ ⊢; exact hQ
  rw [if_pos h4] at hQ ⊢
  rcases Decidable.em (σ 0 8 1 < 16) with h5 | h5
  case inr => rw [if_neg h5] at hQ ⊢; exact hQ
  rw [if_pos h5] at hQ ⊢
  exact hQ))
abbrev asH (w : HV) (a : Int32) : HV := up2 (pt (pt w 3 4 40 (w 8 2) 0 a) 3 4 40 (w 8 2) 2 (-5)) 8 2 (w 8 2 + 1)
def spoF (σ : SG) (a : Int32) : Int32 × SG :=
  if wi a 1 300 then (if σ 0 8 2 < 10 then (σ 0 8 2, up1 (rcW σ) 0 (asH (σ 0) a)) else (-3, σ)) else (-2, σ)
def sp_X_spool : Nat → Sp := spL [(56, f_X_within), (54, f_P_record), (12, f_H_addSpool)]
theorem sp_X_spool_X_within : sp_X_spool 56 = f_X_within := rfl
theorem sp_X_spool_P_record : sp_X_spool 54 = f_P_record := rfl
theorem sp_X_spool_H_addSpool : sp_X_spool 12 = f_H_addSpool := rfl
def f_X_spool : Sp := aS 9 (fun _ => 0) 1 (gL1 (fun _ a σ => (ltP σ, some (.int (spoF σ a).1), (spoF σ a).2)))
theorem q_X_spool {a : Int32} {σ : SG} : f_X_spool [.ref 0, .int a] (emb σ) = (ltP σ, some (.int (spoF σ a).1), emb ((spoF σ a).2)) := aS1_at (ad := (fun _ => 0)) (i := hI 0) (by decide) rfl
set_option maxHeartbeats 4000000 in
set_option maxRecDepth 20000 in
theorem ok_X_spool : SpecOK 75 f_X_spool := SpecOK.of (sp := sp_X_spool) (by decide) (by decide) (spL_ok (List.forall_mem_cons.mpr ⟨ok_X_within, (List.forall_mem_cons.mpr ⟨ok_P_record, (List.forall_mem_cons.mpr ⟨ok_H_addSpool, (fun q h => absurd h List.not_mem_nil)⟩)⟩)⟩)) (Does_aS1 (Nat.le_of_ble_eq_true rfl) (fun sc i a σ hi had hp => by
  refine Vf_q ?_ ⟨rfl, rfl⟩
  intro Q hQ
  dsimp only at hQ hp
  show Vf 75 _ _ 0 [.ref (0), .int a] [] (emb σ) _

  simp only [rX_spool_0, rX_spool_1, rX_spool_2, rX_spool_5, rX_spool_8, rX_spool_11, rX_spool_13, rX_spool_14, rX_spool_15, rX_spool_18, rX_spool_21, rX_spool_23, rX_spool_26, rX_spool_28, rX_spool_29, rX_spool_30, rX_spool_33, rX_spool_34, rX_spool_37, rX_spool_40, rX_spool_41, rX_spool_44, rX_spool_45, rX_spool_48, ct1_i, ct1_r, ct1_n, true_and, and_true, tl_s, tl_n, le4_0, le4_1, le4_2, le4_3, le4_4, le4_5, isO_r, cl_, emb1, emb2, le_rN, up1_at, up1_up1, sp_X_spool_X_within, sp_X_spool_P_record, sp_X_spool_H_addSpool, obX, obP, obN, obQ, xr_0, xr_1, xr_2, xr_3, xr_4, ob_h i07, ob_h i17, ob_h i27, isO_r, fok_i, rb_0, rb_1, rb_bi, bi_eq0, rb_b2, b2_0, ite_not, ni_0, ni_1, pi_0, pi_1, xi_0, sxi_0, sni_0, q_X_within, Option.toList, List.cons_append, List.nil_append, vh_0 i07, vs_0 i07, vs_0 i17, ss_0 i07, obt_0 i07, qT_at_0 i07, qT_put_0 i07, qT_add_0 i07, vh_1 i07, vs_1 i07, vs_1 i17, ss_1 i07, obt_1 i07, qT_at_1 i07, qT_put_1 i07, qT_add_1 i07, vh_2 i07, vs_2 i07, vs_2 i17, ss_2 i07, obt_2 i07, qT_at_2 i07, qT_put_2 i07, qT_add_2 i07, vh_3 i07, vs_3 i07, vs_3 i17, ss_3 i07, obt_3 i07, qT_at_3 i07, qT_put_3 i07, qT_add_3 i07, vh_4 i07, vs_4 i07, vs_4 i17, ss_4 i07, obt_4 i07, qT_at_4 i07, qT_put_4 i07, qT_add_4 i07, vh_5 i07, vs_5 i07, vs_5 i17, ss_5 i07, obt_5 i07, qT_at_5 i07, qT_put_5 i07, qT_add_5 i07, vh_6 i07, vs_6 i07, vs_6 i17, ss_6 i07, obt_6 i07, qT_at_6 i07, qT_put_6 i07, qT_add_6 i07, vh_7 i07, vs_7 i07, vs_7 i17, ss_7 i07, obt_7 i07, qT_at_7 i07, qT_put_7 i07, qT_add_7 i07, vh_7 i17, obt_7 i17, qT_at_7 i17, q_P_record hp, q_H_addSpool i07, rcW_0]
  unfold spoF at hQ
  rcases Decidable.em (wi a 1 300) with h1 | h1
  case inr => rw [if_neg h1] at hQ ⊢; exact hQ
  rw [if_pos h1] at hQ ⊢
  rcases Decidable.em (σ 0 8 2 < 10) with h2 | h2
  case inr => rw [if_neg h2] at hQ ⊢; exact hQ
  rw [if_pos h2] at hQ ⊢
  exact hQ))
def taF (σ : SG) (a b : Int32) : Int32 × SG :=
  if wi a 0 5 then (if wi b 1 20 then (if 99 < tl (σ 0) a 0 + tl (σ 0) a 1 + tl (σ 0) a 2 + b then (-3, σ)
    else (at_ (pa (σ 0) 4 3 18 a 0 b 4) 3 18 a 0, up1 (rcW σ) 0 (pa (σ 0) 4 3 18 a 0 b))) else (-2, σ)) else (-1, σ)
def sp_X_tails : Nat → Sp := spL [(56, f_X_within), (59, f_X_isColour), (13, f_H_tailsOfColour), (54, f_P_record), (5, f_T_add), (4, f_T_at)]
theorem sp_X_tails_X_within : sp_X_tails 56 = f_X_within := rfl
theorem sp_X_tails_X_isColour : sp_X_tails 59 = f_X_isColour := rfl
theorem sp_X_tails_H_tailsOfColour : sp_X_tails 13 = f_H_tailsOfColour := rfl
theorem sp_X_tails_P_record : sp_X_tails 54 = f_P_record := rfl
theorem sp_X_tails_T_add : sp_X_tails 5 = f_T_add := rfl
theorem sp_X_tails_T_at : sp_X_tails 4 = f_T_at := rfl
def f_X_tails : Sp := aS 9 (fun _ => 0) 2 (gL2 (fun _ a b σ => (ltP σ, some (.int (taF σ a b).1), (taF σ a b).2)))
theorem q_X_tails {a b : Int32} {σ : SG} : f_X_tails [.ref 0, .int a, .int b] (emb σ) = (ltP σ, some (.int (taF σ a b).1), emb ((taF σ a b).2)) := aS2_at (ad := (fun _ => 0)) (i := hI 0) (by decide) rfl
set_option maxHeartbeats 4000000 in
set_option maxRecDepth 20000 in
theorem ok_X_tails : SpecOK 76 f_X_tails := SpecOK.of (sp := sp_X_tails) (by decide) (by decide) (spL_ok (List.forall_mem_cons.mpr ⟨ok_X_within, (List.forall_mem_cons.mpr ⟨ok_X_isColour, (List.forall_mem_cons.mpr ⟨ok_H_tailsOfColour, (List.forall_mem_cons.mpr ⟨ok_P_record, (List.forall_mem_cons.mpr ⟨ok_T_add, (List.forall_mem_cons.mpr ⟨ok_T_at, (fun q h => absurd h List.not_mem_nil)⟩)⟩)⟩)⟩)⟩)⟩)) (Does_aS2 (Nat.le_of_ble_eq_true rfl) (fun sc i a b σ hi had hp => by
  refine Vf_q ?_ ⟨rfl, rfl⟩
  intro Q hQ
  dsimp only at hQ hp
  show Vf 76 _ _ 0 [.ref (0), .int a, .int b] [] (emb σ) _

  simp only [rX_tails_0, rX_tails_1, rX_tails_4, rX_tails_7, rX_tails_8, rX_tails_9, rX_tails_10, rX_tails_11, rX_tails_13, rX_tails_16, rX_tails_19, rX_tails_21, rX_tails_22, rX_tails_23, rX_tails_26, rX_tails_27, rX_tails_30, rX_tails_31, rX_tails_32, rX_tails_34, rX_tails_37, rX_tails_39, rX_tails_40, rX_tails_41, rX_tails_44, rX_tails_45, rX_tails_48, rX_tails_51, rX_tails_52, rX_tails_55, rX_tails_58, rX_tails_59, rX_tails_60, rX_tails_61, rX_tails_64, rX_tails_65, rX_tails_68, rX_tails_71, rX_tails_72, rX_tails_73, rX_tails_76, ct1_i, ct1_r, ct1_n, true_and, and_true, tl_s, tl_n, le4_0, le4_1, le4_2, le4_3, le4_4, le4_5, isO_r, cl_, emb1, emb2, le_rN, up1_at, up1_up1, sp_X_tails_X_within, sp_X_tails_X_isColour, sp_X_tails_H_tailsOfColour, sp_X_tails_P_record, sp_X_tails_T_add, sp_X_tails_T_at, obX, obP, obN, obQ, xr_0, xr_1, xr_2, xr_3, xr_4, ob_h i07, ob_h i17, ob_h i27, isO_r, fok_i, rb_0, rb_1, rb_bi, bi_eq0, rb_b2, b2_0, ite_not, ni_0, ni_1, pi_0, pi_1, xi_0, sxi_0, sni_0, q_X_within, Option.toList, List.cons_append, List.nil_append, vh_0 i07, vs_0 i07, vs_0 i17, ss_0 i07, obt_0 i07, qT_at_0 i07, qT_put_0 i07, qT_add_0 i07, vh_1 i07, vs_1 i07, vs_1 i17, ss_1 i07, obt_1 i07, qT_at_1 i07, qT_put_1 i07, qT_add_1 i07, vh_2 i07, vs_2 i07, vs_2 i17, ss_2 i07, obt_2 i07, qT_at_2 i07, qT_put_2 i07, qT_add_2 i07, vh_3 i07, vs_3 i07, vs_3 i17, ss_3 i07, obt_3 i07, qT_at_3 i07, qT_put_3 i07, qT_add_3 i07, vh_4 i07, vs_4 i07, vs_4 i17, ss_4 i07, obt_4 i07, qT_at_4 i07, qT_put_4 i07, qT_add_4 i07, vh_5 i07, vs_5 i07, vs_5 i17, ss_5 i07, obt_5 i07, qT_at_5 i07, qT_put_5 i07, qT_add_5 i07, vh_6 i07, vs_6 i07, vs_6 i17, ss_6 i07, obt_6 i07, qT_at_6 i07, qT_put_6 i07, qT_add_6 i07, vh_7 i07, vs_7 i07, vs_7 i17, ss_7 i07, obt_7 i07, qT_at_7 i07, qT_put_7 i07, qT_add_7 i07, vh_7 i17, obt_7 i17, qT_at_7 i17, q_X_isColour, q_P_record hp, q_H_tailsOfColour i07, rcW_0]
  unfold taF at hQ
  rcases Decidable.em (wi a 0 5) with h1 | h1
  case inr => rw [if_neg h1] at hQ ⊢; exact hQ
  rw [if_pos h1] at hQ ⊢
  rcases Decidable.em (wi b 1 20) with h2 | h2
  case inr => rw [if_neg h2] at hQ ⊢; exact hQ
  rw [if_pos h2] at hQ ⊢
  rcases Decidable.em (99 < tl (σ 0) a 0 + tl (σ 0) a 1 + tl (σ 0) a 2 + b) with h3 | h3
  case inl => rw [if_pos h3] at hQ ⊢; exact hQ
  rw [if_neg h3] at hQ ⊢
  exact hQ))
def stF (σ : SG) (a b : Int32) : Int32 × SG :=
  if svP a b then (if settg (σ 0) a = b then (-5, σ) else (settg (σ 0) a, up1 (rcW σ) 0 (pt (σ 0) 1 1 5 a 0 b))) else (-2, σ)
def sp_X_set : Nat → Sp := spL [(61, f_X_isSettingValue), (14, f_H_setting), (54, f_P_record), (3, f_T_put)]
theorem sp_X_set_X_isSettingValue : sp_X_set 61 = f_X_isSettingValue := rfl
theorem sp_X_set_H_setting : sp_X_set 14 = f_H_setting := rfl
theorem sp_X_set_P_record : sp_X_set 54 = f_P_record := rfl
theorem sp_X_set_T_put : sp_X_set 3 = f_T_put := rfl
def f_X_set : Sp := aS 9 (fun _ => 0) 2 (gL2 (fun _ a b σ => (ltP σ, some (.int (stF σ a b).1), (stF σ a b).2)))
theorem q_X_set {a b : Int32} {σ : SG} : f_X_set [.ref 0, .int a, .int b] (emb σ) = (ltP σ, some (.int (stF σ a b).1), emb ((stF σ a b).2)) := aS2_at (ad := (fun _ => 0)) (i := hI 0) (by decide) rfl
set_option maxHeartbeats 4000000 in
set_option maxRecDepth 20000 in
theorem ok_X_set : SpecOK 80 f_X_set := SpecOK.of (sp := sp_X_set) (by decide) (by decide) (spL_ok (List.forall_mem_cons.mpr ⟨ok_X_isSettingValue, (List.forall_mem_cons.mpr ⟨ok_H_setting, (List.forall_mem_cons.mpr ⟨ok_P_record, (List.forall_mem_cons.mpr ⟨ok_T_put, (fun q h => absurd h List.not_mem_nil)⟩)⟩)⟩)⟩)) (Does_aS2 (Nat.le_of_ble_eq_true rfl) (fun sc i a b σ hi had hp => by
  refine Vf_q ?_ ⟨rfl, rfl⟩
  intro Q hQ
  dsimp only at hQ hp
  show Vf 80 _ _ 0 [.ref (0), .int a, .int b, .null] [] (emb σ) _

  simp only [rX_set_0, rX_set_1, rX_set_2, rX_set_5, rX_set_8, rX_set_10, rX_set_11, rX_set_12, rX_set_15, rX_set_16, rX_set_19, rX_set_20, rX_set_21, rX_set_22, rX_set_25, rX_set_27, rX_set_28, rX_set_29, rX_set_32, rX_set_33, rX_set_36, rX_set_39, rX_set_40, rX_set_43, rX_set_46, rX_set_47, rX_set_48, rX_set_49, rX_set_52, rX_set_53, ct1_i, ct1_r, ct1_n, true_and, and_true, tl_s, tl_n, le4_0, le4_1, le4_2, le4_3, le4_4, le4_5, isO_r, cl_, emb1, emb2, le_rN, up1_at, up1_up1, sp_X_set_X_isSettingValue, sp_X_set_H_setting, sp_X_set_P_record, sp_X_set_T_put, obX, obP, obN, obQ, xr_0, xr_1, xr_2, xr_3, xr_4, ob_h i07, ob_h i17, ob_h i27, isO_r, fok_i, rb_0, rb_1, rb_bi, bi_eq0, rb_b2, b2_0, ite_not, ni_0, ni_1, pi_0, pi_1, xi_0, sxi_0, sni_0, q_X_within, Option.toList, List.cons_append, List.nil_append, vh_0 i07, vs_0 i07, vs_0 i17, ss_0 i07, obt_0 i07, qT_at_0 i07, qT_put_0 i07, qT_add_0 i07, vh_1 i07, vs_1 i07, vs_1 i17, ss_1 i07, obt_1 i07, qT_at_1 i07, qT_put_1 i07, qT_add_1 i07, vh_2 i07, vs_2 i07, vs_2 i17, ss_2 i07, obt_2 i07, qT_at_2 i07, qT_put_2 i07, qT_add_2 i07, vh_3 i07, vs_3 i07, vs_3 i17, ss_3 i07, obt_3 i07, qT_at_3 i07, qT_put_3 i07, qT_add_3 i07, vh_4 i07, vs_4 i07, vs_4 i17, ss_4 i07, obt_4 i07, qT_at_4 i07, qT_put_4 i07, qT_add_4 i07, vh_5 i07, vs_5 i07, vs_5 i17, ss_5 i07, obt_5 i07, qT_at_5 i07, qT_put_5 i07, qT_add_5 i07, vh_6 i07, vs_6 i07, vs_6 i17, ss_6 i07, obt_6 i07, qT_at_6 i07, qT_put_6 i07, qT_add_6 i07, vh_7 i07, vs_7 i07, vs_7 i17, ss_7 i07, obt_7 i07, qT_at_7 i07, qT_put_7 i07, qT_add_7 i07, vh_7 i17, obt_7 i17, qT_at_7 i17, q_X_isSettingValue, q_P_record hp, q_H_setting i07, rcW_0]
  unfold stF at hQ
  rcases Decidable.em (svP a b) with h1 | h1
  case inr => rw [if_neg h1] at hQ ⊢; exact hQ
  rw [if_pos h1] at hQ ⊢
  rcases Decidable.em (settg (σ 0) a = b) with h2 | h2
  case inl => rw [if_pos h2] at hQ ⊢; exact hQ
  rw [if_neg h2] at hQ ⊢
  exact hQ))
def foF (σ : SG) (a : Int32) : Int32 × SG :=
  if wi a 0 5 then (if 0 < tl (σ 0) a 2 then (at_ (mvT (σ 0) ((1 : Int32) <<< (a &&& 31)) 2 0 6 4) 3 18 a 0, up1 (rcW σ) 0 (mvT (σ 0) ((1 : Int32) <<< (a &&& 31)) 2 0 6)) else (-5, σ)) else (-1, σ)
def sp_X_found : Nat → Sp := spL [(59, f_X_isColour), (4, f_T_at), (54, f_P_record), (17, f_H_moveTails)]
theorem sp_X_found_X_isColour : sp_X_found 59 = f_X_isColour := rfl
theorem sp_X_found_T_at : sp_X_found 4 = f_T_at := rfl
theorem sp_X_found_P_record : sp_X_found 54 = f_P_record := rfl
theorem sp_X_found_H_moveTails : sp_X_found 17 = f_H_moveTails := rfl
def f_X_found : Sp := aS 9 (fun _ => 0) 1 (gL1 (fun _ a σ => (ltP σ, some (.int (foF σ a).1), (foF σ a).2)))
theorem q_X_found {a : Int32} {σ : SG} : f_X_found [.ref 0, .int a] (emb σ) = (ltP σ, some (.int (foF σ a).1), emb ((foF σ a).2)) := aS1_at (ad := (fun _ => 0)) (i := hI 0) (by decide) rfl
set_option maxHeartbeats 4000000 in
set_option maxRecDepth 20000 in
theorem ok_X_found : SpecOK 79 f_X_found := SpecOK.of (sp := sp_X_found) (by decide) (by decide) (spL_ok (List.forall_mem_cons.mpr ⟨ok_X_isColour, (List.forall_mem_cons.mpr ⟨ok_T_at, (List.forall_mem_cons.mpr ⟨ok_P_record, (List.forall_mem_cons.mpr ⟨ok_H_moveTails, (fun q h => absurd h List.not_mem_nil)⟩)⟩)⟩)⟩)) (Does_aS1 (Nat.le_of_ble_eq_true rfl) (fun sc i a σ hi had hp => by
  refine Vf_q ?_ ⟨rfl, rfl⟩
  intro Q hQ
  dsimp only at hQ hp
  show Vf 79 _ _ 0 [.ref (0), .int a] [] (emb σ) _

  simp only [rX_found_0, rX_found_1, rX_found_4, rX_found_7, rX_found_8, rX_found_9, rX_found_10, rX_found_13, rX_found_16, rX_found_17, rX_found_18, rX_found_21, rX_found_24, rX_found_26, rX_found_27, rX_found_28, rX_found_31, rX_found_32, rX_found_35, rX_found_38, rX_found_39, rX_found_42, rX_found_43, rX_found_44, rX_found_45, rX_found_46, rX_found_47, rX_found_50, rX_found_51, rX_found_54, rX_found_57, rX_found_58, rX_found_59, rX_found_62, ct1_i, ct1_r, ct1_n, true_and, and_true, tl_s, tl_n, le4_0, le4_1, le4_2, le4_3, le4_4, le4_5, isO_r, cl_, emb1, emb2, le_rN, up1_at, up1_up1, sp_X_found_X_isColour, sp_X_found_T_at, sp_X_found_P_record, sp_X_found_H_moveTails, obX, obP, obN, obQ, xr_0, xr_1, xr_2, xr_3, xr_4, ob_h i07, ob_h i17, ob_h i27, isO_r, fok_i, rb_0, rb_1, rb_bi, bi_eq0, rb_b2, b2_0, ite_not, ni_0, ni_1, pi_0, pi_1, xi_0, sxi_0, sni_0, q_X_within, Option.toList, List.cons_append, List.nil_append, vh_0 i07, vs_0 i07, vs_0 i17, ss_0 i07, obt_0 i07, qT_at_0 i07, qT_put_0 i07, qT_add_0 i07, vh_1 i07, vs_1 i07, vs_1 i17, ss_1 i07, obt_1 i07, qT_at_1 i07, qT_put_1 i07, qT_add_1 i07, vh_2 i07, vs_2 i07, vs_2 i17, ss_2 i07, obt_2 i07, qT_at_2 i07, qT_put_2 i07, qT_add_2 i07, vh_3 i07, vs_3 i07, vs_3 i17, ss_3 i07, obt_3 i07, qT_at_3 i07, qT_put_3 i07, qT_add_3 i07, vh_4 i07, vs_4 i07, vs_4 i17, ss_4 i07, obt_4 i07, qT_at_4 i07, qT_put_4 i07, qT_add_4 i07, vh_5 i07, vs_5 i07, vs_5 i17, ss_5 i07, obt_5 i07, qT_at_5 i07, qT_put_5 i07, qT_add_5 i07, vh_6 i07, vs_6 i07, vs_6 i17, ss_6 i07, obt_6 i07, qT_at_6 i07, qT_put_6 i07, qT_add_6 i07, vh_7 i07, vs_7 i07, vs_7 i17, ss_7 i07, obt_7 i07, qT_at_7 i07, qT_put_7 i07, qT_add_7 i07, vh_7 i17, obt_7 i17, qT_at_7 i17, q_X_isColour, q_P_record hp, q_H_moveTails i07, rcW_0]
  unfold foF at hQ
  rcases Decidable.em (wi a 0 5) with h1 | h1
  case inr => rw [if_neg h1] at hQ ⊢; exact hQ
  rw [if_pos h1] at hQ ⊢
  change if 0 < tl (σ 0) a 2 then _ else _
  rcases Decidable.em (0 < tl (σ 0) a 2) with h2 | h2
  case inr => rw [if_neg h2] at hQ ⊢; exact hQ
  rw [if_pos h2] at hQ ⊢
  exact hQ))
def unF (σ : SG) : Int32 × SG := if (tlW σ).1 = false then (-5, (tlW σ).2) else ((tlW σ).2 7 1 1, (tlW σ).2)
def sp_X_undo : Nat → Sp := spL [(55, f_P_takeLatest)]
theorem sp_X_undo_P_takeLatest : sp_X_undo 55 = f_P_takeLatest := rfl
def f_X_undo : Sp := aS 9 (fun _ => 0) 0 (gL0 (fun _  σ => (ltP σ, some (.int (unF σ).1), (unF σ).2)))
theorem q_X_undo {σ : SG} : f_X_undo [.ref 0] (emb σ) = (ltP σ, some (.int (unF σ).1), emb ((unF σ).2)) := aS0_at (ad := (fun _ => 0)) (i := hI 0) (by decide) rfl
set_option maxHeartbeats 4000000 in
set_option maxRecDepth 20000 in
theorem ok_X_undo : SpecOK 82 f_X_undo := SpecOK.of (sp := sp_X_undo) (by decide) (by decide) (spL_ok (List.forall_mem_cons.mpr ⟨ok_P_takeLatest, (fun q h => absurd h List.not_mem_nil)⟩)) (Does_aS0 (Nat.le_of_ble_eq_true rfl) (fun sc i  σ hi had hp => by
  refine Vf_q ?_ ⟨rfl, rfl⟩
  intro Q hQ
  dsimp only at hQ hp
  show Vf 82 _ _ 0 [.ref (0)] [] (emb σ) _

  simp only [rX_undo_0, rX_undo_1, rX_undo_4, rX_undo_5, rX_undo_8, rX_undo_11, rX_undo_14, rX_undo_16, rX_undo_17, rX_undo_18, rX_undo_21, rX_undo_24, ct1_i, ct1_r, ct1_n, true_and, and_true, tl_s, tl_n, le4_0, le4_1, le4_2, le4_3, le4_4, le4_5, isO_r, cl_, emb1, emb2, le_rN, up1_at, up1_up1, sp_X_undo_P_takeLatest, obX, obP, obN, obQ, xr_0, xr_1, xr_2, xr_3, xr_4, ob_h i07, ob_h i17, ob_h i27, isO_r, fok_i, rb_0, rb_1, rb_bi, bi_eq0, rb_b2, b2_0, ite_not, ni_0, ni_1, pi_0, pi_1, xi_0, sxi_0, sni_0, q_X_within, Option.toList, List.cons_append, List.nil_append, vh_0 i07, vs_0 i07, vs_0 i17, ss_0 i07, obt_0 i07, qT_at_0 i07, qT_put_0 i07, qT_add_0 i07, vh_1 i07, vs_1 i07, vs_1 i17, ss_1 i07, obt_1 i07, qT_at_1 i07, qT_put_1 i07, qT_add_1 i07, vh_2 i07, vs_2 i07, vs_2 i17, ss_2 i07, obt_2 i07, qT_at_2 i07, qT_put_2 i07, qT_add_2 i07, vh_3 i07, vs_3 i07, vs_3 i17, ss_3 i07, obt_3 i07, qT_at_3 i07, qT_put_3 i07, qT_add_3 i07, vh_4 i07, vs_4 i07, vs_4 i17, ss_4 i07, obt_4 i07, qT_at_4 i07, qT_put_4 i07, qT_add_4 i07, vh_5 i07, vs_5 i07, vs_5 i17, ss_5 i07, obt_5 i07, qT_at_5 i07, qT_put_5 i07, qT_add_5 i07, vh_6 i07, vs_6 i07, vs_6 i17, ss_6 i07, obt_6 i07, qT_at_6 i07, qT_put_6 i07, qT_add_6 i07, vh_7 i07, vs_7 i07, vs_7 i17, ss_7 i07, obt_7 i07, qT_at_7 i07, qT_put_7 i07, qT_add_7 i07, vh_7 i17, obt_7 i17, qT_at_7 i17, q_P_takeLatest hp]
  unfold unF at hQ
  rcases b2_cases (tlW σ).1 with h1 | h1
  · rw [if_neg (by rw [h1]; decide)] at hQ ⊢
    exact hQ
  · rw [if_pos h1] at hQ ⊢
    exact hQ))
def reF (σ : SG) : Int32 × SG := if σ 7 0 0 = 0 then (-5, σ) else (cpH (σ 0) (σ 2) 8 0, up1 (rcW σ) 0 (cpH (σ 0) (σ 2)))
def sp_X_restore : Nat → Sp := spL [(54, f_P_record), (25, f_H_copyFrom)]
theorem sp_X_restore_P_record : sp_X_restore 54 = f_P_record := rfl
theorem sp_X_restore_H_copyFrom : sp_X_restore 25 = f_H_copyFrom := rfl
def f_X_restore : Sp := aS 9 (fun _ => 0) 0 (gL0 (fun _  σ => (ltP σ, some (.int (reF σ).1), (reF σ).2)))
theorem q_X_restore {σ : SG} : f_X_restore [.ref 0] (emb σ) = (ltP σ, some (.int (reF σ).1), emb ((reF σ).2)) := aS0_at (ad := (fun _ => 0)) (i := hI 0) (by decide) rfl
set_option maxHeartbeats 4000000 in
set_option maxRecDepth 20000 in
theorem ok_X_restore : SpecOK 83 f_X_restore := SpecOK.of (sp := sp_X_restore) (by decide) (by decide) (spL_ok (List.forall_mem_cons.mpr ⟨ok_P_record, (List.forall_mem_cons.mpr ⟨ok_H_copyFrom, (fun q h => absurd h List.not_mem_nil)⟩)⟩)) (Does_aS0 (Nat.le_of_ble_eq_true rfl) (fun sc i  σ hi had hp => by
  refine Vf_q ?_ ⟨rfl, rfl⟩
  intro Q hQ
  dsimp only at hQ hp
  show Vf 83 _ _ 0 [.ref (0)] [] (emb σ) _

  simp only [rX_restore_0, rX_restore_1, rX_restore_4, rX_restore_7, rX_restore_9, rX_restore_10, rX_restore_11, rX_restore_14, rX_restore_15, rX_restore_18, rX_restore_21, rX_restore_22, rX_restore_25, rX_restore_26, rX_restore_29, rX_restore_32, rX_restore_33, rX_restore_36, rX_restore_39, ct1_i, ct1_r, ct1_n, true_and, and_true, tl_s, tl_n, le4_0, le4_1, le4_2, le4_3, le4_4, le4_5, isO_r, cl_, emb1, emb2, le_rN, up1_at, up1_up1, sp_X_restore_P_record, sp_X_restore_H_copyFrom, obX, obP, obN, obQ, xr_0, xr_1, xr_2, xr_3, xr_4, ob_h i07, ob_h i17, ob_h i27, isO_r, fok_i, rb_0, rb_1, rb_bi, bi_eq0, rb_b2, b2_0, ite_not, ni_0, ni_1, pi_0, pi_1, xi_0, sxi_0, sni_0, q_X_within, Option.toList, List.cons_append, List.nil_append, vh_0 i07, vs_0 i07, vs_0 i17, ss_0 i07, obt_0 i07, qT_at_0 i07, qT_put_0 i07, qT_add_0 i07, vh_1 i07, vs_1 i07, vs_1 i17, ss_1 i07, obt_1 i07, qT_at_1 i07, qT_put_1 i07, qT_add_1 i07, vh_2 i07, vs_2 i07, vs_2 i17, ss_2 i07, obt_2 i07, qT_at_2 i07, qT_put_2 i07, qT_add_2 i07, vh_3 i07, vs_3 i07, vs_3 i17, ss_3 i07, obt_3 i07, qT_at_3 i07, qT_put_3 i07, qT_add_3 i07, vh_4 i07, vs_4 i07, vs_4 i17, ss_4 i07, obt_4 i07, qT_at_4 i07, qT_put_4 i07, qT_add_4 i07, vh_5 i07, vs_5 i07, vs_5 i17, ss_5 i07, obt_5 i07, qT_at_5 i07, qT_put_5 i07, qT_add_5 i07, vh_6 i07, vs_6 i07, vs_6 i17, ss_6 i07, obt_6 i07, qT_at_6 i07, qT_put_6 i07, qT_add_6 i07, vh_7 i07, vs_7 i07, vs_7 i17, ss_7 i07, obt_7 i07, qT_at_7 i07, qT_put_7 i07, qT_add_7 i07, vh_7 i17, obt_7 i17, qT_at_7 i17, q_P_record hp, q_H_copyFrom i07 i27 (show (2 : Nat) ≠ 0 by decide), rcW_0, rcW_2]
  unfold reF at hQ
  rcases Decidable.em (σ 7 0 0 = 0) with h1 | h1
  case inl => rw [if_pos h1] at hQ ⊢; exact hQ
  rw [if_neg h1] at hQ ⊢
  exact hQ))
def cuF (σ : SG) (x : Int32) : Int32 := if wi x 0 22 then (if x < 18 then (if 16 = x.toInt then σ 7 1 1 else if 17 = x.toInt then σ 7 2 0 else tyF (σ 0) x) else settg (σ 0) (x - 18)) else -2
def sp_X_count : Nat → Sp := spL [(56, f_X_within), (14, f_H_setting), (36, f_H_tally)]
theorem sp_X_count_X_within : sp_X_count 56 = f_X_within := rfl
theorem sp_X_count_H_setting : sp_X_count 14 = f_H_setting := rfl
theorem sp_X_count_H_tally : sp_X_count 36 = f_H_tally := rfl
def f_X_count : Sp := aS 9 (fun _ => 0) 1 (gL1 (fun _ x σ => (sm (σ 0 8 1) 16 ∧ sm (σ 0 8 2) 10, some (.int (cuF σ x)), σ)))
theorem q_X_count {x : Int32} {σ : SG} : f_X_count [.ref 0, .int x] (emb σ) = (sm (σ 0 8 1) 16 ∧ sm (σ 0 8 2) 10, some (.int (cuF σ x)), emb (σ)) := aS1_at (ad := (fun _ => 0)) (i := hI 0) (by decide) rfl
set_option maxHeartbeats 4000000 in
set_option maxRecDepth 20000 in
theorem ok_X_count : SpecOK 84 f_X_count := SpecOK.of (sp := sp_X_count) (by decide) (by decide) (spL_ok (List.forall_mem_cons.mpr ⟨ok_X_within, (List.forall_mem_cons.mpr ⟨ok_H_setting, (List.forall_mem_cons.mpr ⟨ok_H_tally, (fun q h => absurd h List.not_mem_nil)⟩)⟩)⟩)) (Does_aS1 (Nat.le_of_ble_eq_true rfl) (fun sc i x σ hi had hp => by
  refine Vf_q ?_ ⟨rfl, rfl⟩
  intro Q hQ
  dsimp only at hQ hp
  show Vf 84 _ _ 0 [.ref (0), .int x] [] (emb σ) _

  simp only [rX_count_0, rX_count_1, rX_count_2, rX_count_4, rX_count_7, rX_count_10, rX_count_12, rX_count_13, rX_count_14, rX_count_16, rX_count_19, rX_count_20, rX_count_23, rX_count_24, rX_count_26, rX_count_27, rX_count_30, rX_count_31, ct1_i, ct1_r, ct1_n, true_and, and_true, tl_s, tl_n, le4_0, le4_1, le4_2, le4_3, le4_4, le4_5, isO_r, cl_, emb1, emb2, le_rN, up1_at, up1_up1, sp_X_count_X_within, sp_X_count_H_setting, sp_X_count_H_tally, obX, obP, obN, obQ, xr_0, xr_1, xr_2, xr_3, xr_4, ob_h i07, ob_h i17, ob_h i27, isO_r, fok_i, rb_0, rb_1, rb_bi, bi_eq0, rb_b2, b2_0, ite_not, ni_0, ni_1, pi_0, pi_1, xi_0, sxi_0, sni_0, q_X_within, Option.toList, List.cons_append, List.nil_append, vh_0 i07, vs_0 i07, vs_0 i17, ss_0 i07, obt_0 i07, qT_at_0 i07, qT_put_0 i07, qT_add_0 i07, vh_1 i07, vs_1 i07, vs_1 i17, ss_1 i07, obt_1 i07, qT_at_1 i07, qT_put_1 i07, qT_add_1 i07, vh_2 i07, vs_2 i07, vs_2 i17, ss_2 i07, obt_2 i07, qT_at_2 i07, qT_put_2 i07, qT_add_2 i07, vh_3 i07, vs_3 i07, vs_3 i17, ss_3 i07, obt_3 i07, qT_at_3 i07, qT_put_3 i07, qT_add_3 i07, vh_4 i07, vs_4 i07, vs_4 i17, ss_4 i07, obt_4 i07, qT_at_4 i07, qT_put_4 i07, qT_add_4 i07, vh_5 i07, vs_5 i07, vs_5 i17, ss_5 i07, obt_5 i07, qT_at_5 i07, qT_put_5 i07, qT_add_5 i07, vh_6 i07, vs_6 i07, vs_6 i17, ss_6 i07, obt_6 i07, qT_at_6 i07, qT_put_6 i07, qT_add_6 i07, vh_7 i07, vs_7 i07, vs_7 i17, ss_7 i07, obt_7 i07, qT_at_7 i07, qT_put_7 i07, qT_add_7 i07, vh_7 i17, obt_7 i17, qT_at_7 i17, q_H_setting i07]
  unfold cuF at hQ
  rcases Decidable.em (wi x 0 22) with h1 | h1
  case inr => rw [if_neg h1] at hQ ⊢; exact hQ
  rw [if_pos h1] at hQ ⊢
  rcases Decidable.em (x < 18) with h2 | h2
  case inr => rw [if_neg h2] at hQ ⊢; exact hQ
  rw [if_pos h2] at hQ ⊢
  have hs : sm x 22 := wi_sm (n := 22) h1 (by decide) (by decide)
  have he := sm_eq hs
  have hk := hs.2
  have h18 : x.toNatClampNeg < 18 := by
    rw [he] at h2
    change oN _ < oN 18 at h2
    rw [oN_lt (by omega) (by decide)] at h2
    exact h2
  have ht : x.toInt = (x.toNatClampNeg : Int) := by
    have := oN_toInt (n := x.toNatClampNeg) (by omega)
    rw [← he] at this
    exact this
  rcases Decidable.em (16 = x.toInt) with h3 | h3
  · rw [if_pos h3] at hQ
    have : x = 16 := by
      rw [he, show x.toNatClampNeg = 16 by omega]
      rfl
    subst this
    rw [rX_count_32_16]
    simp only [rX_count_60, rX_count_61, rX_count_64, rX_count_67, rX_count_68, rX_count_69, rX_count_72, rX_count_75, rX_count_76, rX_count_77, rX_count_80, rX_count_81, rX_count_84, ct1_i, ct1_r, ct1_n, true_and, and_true, tl_s, tl_n, le4_0, le4_1, le4_2, le4_3, le4_4, le4_5, isO_r, cl_, emb1, emb2, le_rN, up1_at, up1_up1, sp_X_count_X_within, sp_X_count_H_setting, sp_X_count_H_tally, obX, obP, obN, obQ, xr_0, xr_1, xr_2, xr_3, xr_4, ob_h i07, ob_h i17, ob_h i27, isO_r, fok_i, rb_0, rb_1, rb_bi, bi_eq0, rb_b2, b2_0, ite_not, ni_0, ni_1, pi_0, pi_1, xi_0, sxi_0, sni_0, q_X_within, Option.toList, List.cons_append, List.nil_append, vh_0 i07, vs_0 i07, vs_0 i17, ss_0 i07, obt_0 i07, qT_at_0 i07, qT_put_0 i07, qT_add_0 i07, vh_1 i07, vs_1 i07, vs_1 i17, ss_1 i07, obt_1 i07, qT_at_1 i07, qT_put_1 i07, qT_add_1 i07, vh_2 i07, vs_2 i07, vs_2 i17, ss_2 i07, obt_2 i07, qT_at_2 i07, qT_put_2 i07, qT_add_2 i07, vh_3 i07, vs_3 i07, vs_3 i17, ss_3 i07, obt_3 i07, qT_at_3 i07, qT_put_3 i07, qT_add_3 i07, vh_4 i07, vs_4 i07, vs_4 i17, ss_4 i07, obt_4 i07, qT_at_4 i07, qT_put_4 i07, qT_add_4 i07, vh_5 i07, vs_5 i07, vs_5 i17, ss_5 i07, obt_5 i07, qT_at_5 i07, qT_put_5 i07, qT_add_5 i07, vh_6 i07, vs_6 i07, vs_6 i17, ss_6 i07, obt_6 i07, qT_at_6 i07, qT_put_6 i07, qT_add_6 i07, vh_7 i07, vs_7 i07, vs_7 i17, ss_7 i07, obt_7 i07, qT_at_7 i07, qT_put_7 i07, qT_add_7 i07, vh_7 i17, obt_7 i17, qT_at_7 i17]
    exact hQ
  · rw [if_neg h3] at hQ
    rcases Decidable.em (17 = x.toInt) with h4 | h4
    · rw [if_pos h4] at hQ
      have : x = 17 := by
        rw [he, show x.toNatClampNeg = 17 by omega]
        rfl
      subst this
      rw [rX_count_32_17]
      simp only [rX_count_60, rX_count_61, rX_count_64, rX_count_67, rX_count_68, rX_count_69, rX_count_72, rX_count_75, rX_count_76, rX_count_77, rX_count_80, rX_count_81, rX_count_84, ct1_i, ct1_r, ct1_n, true_and, and_true, tl_s, tl_n, le4_0, le4_1, le4_2, le4_3, le4_4, le4_5, isO_r, cl_, emb1, emb2, le_rN, up1_at, up1_up1, sp_X_count_X_within, sp_X_count_H_setting, sp_X_count_H_tally, obX, obP, obN, obQ, xr_0, xr_1, xr_2, xr_3, xr_4, ob_h i07, ob_h i17, ob_h i27, isO_r, fok_i, rb_0, rb_1, rb_bi, bi_eq0, rb_b2, b2_0, ite_not, ni_0, ni_1, pi_0, pi_1, xi_0, sxi_0, sni_0, q_X_within, Option.toList, List.cons_append, List.nil_append, vh_0 i07, vs_0 i07, vs_0 i17, ss_0 i07, obt_0 i07, qT_at_0 i07, qT_put_0 i07, qT_add_0 i07, vh_1 i07, vs_1 i07, vs_1 i17, ss_1 i07, obt_1 i07, qT_at_1 i07, qT_put_1 i07, qT_add_1 i07, vh_2 i07, vs_2 i07, vs_2 i17, ss_2 i07, obt_2 i07, qT_at_2 i07, qT_put_2 i07, qT_add_2 i07, vh_3 i07, vs_3 i07, vs_3 i17, ss_3 i07, obt_3 i07, qT_at_3 i07, qT_put_3 i07, qT_add_3 i07, vh_4 i07, vs_4 i07, vs_4 i17, ss_4 i07, obt_4 i07, qT_at_4 i07, qT_put_4 i07, qT_add_4 i07, vh_5 i07, vs_5 i07, vs_5 i17, ss_5 i07, obt_5 i07, qT_at_5 i07, qT_put_5 i07, qT_add_5 i07, vh_6 i07, vs_6 i07, vs_6 i17, ss_6 i07, obt_6 i07, qT_at_6 i07, qT_put_6 i07, qT_add_6 i07, vh_7 i07, vs_7 i07, vs_7 i17, ss_7 i07, obt_7 i07, qT_at_7 i07, qT_put_7 i07, qT_add_7 i07, vh_7 i17, obt_7 i17, qT_at_7 i17]
      exact hQ
    · rw [if_neg h4] at hQ
      rw [rX_count_32_d h3 h4]
      simp only [rX_count_60, rX_count_61, rX_count_64, rX_count_67, rX_count_68, rX_count_69, rX_count_72, rX_count_75, rX_count_76, rX_count_77, rX_count_80, rX_count_81, rX_count_84, ct1_i, ct1_r, ct1_n, true_and, and_true, tl_s, tl_n, le4_0, le4_1, le4_2, le4_3, le4_4, le4_5, isO_r, cl_, emb1, emb2, le_rN, up1_at, up1_up1, sp_X_count_X_within, sp_X_count_H_setting, sp_X_count_H_tally, obX, obP, obN, obQ, xr_0, xr_1, xr_2, xr_3, xr_4, ob_h i07, ob_h i17, ob_h i27, isO_r, fok_i, rb_0, rb_1, rb_bi, bi_eq0, rb_b2, b2_0, ite_not, ni_0, ni_1, pi_0, pi_1, xi_0, sxi_0, sni_0, q_X_within, Option.toList, List.cons_append, List.nil_append, vh_0 i07, vs_0 i07, vs_0 i17, ss_0 i07, obt_0 i07, qT_at_0 i07, qT_put_0 i07, qT_add_0 i07, vh_1 i07, vs_1 i07, vs_1 i17, ss_1 i07, obt_1 i07, qT_at_1 i07, qT_put_1 i07, qT_add_1 i07, vh_2 i07, vs_2 i07, vs_2 i17, ss_2 i07, obt_2 i07, qT_at_2 i07, qT_put_2 i07, qT_add_2 i07, vh_3 i07, vs_3 i07, vs_3 i17, ss_3 i07, obt_3 i07, qT_at_3 i07, qT_put_3 i07, qT_add_3 i07, vh_4 i07, vs_4 i07, vs_4 i17, ss_4 i07, obt_4 i07, qT_at_4 i07, qT_put_4 i07, qT_add_4 i07, vh_5 i07, vs_5 i07, vs_5 i17, ss_5 i07, obt_5 i07, qT_at_5 i07, qT_put_5 i07, qT_add_5 i07, vh_6 i07, vs_6 i07, vs_6 i17, ss_6 i07, obt_6 i07, qT_at_6 i07, qT_put_6 i07, qT_add_6 i07, vh_7 i07, vs_7 i07, vs_7 i17, ss_7 i07, obt_7 i07, qT_at_7 i07, qT_put_7 i07, qT_add_7 i07, vh_7 i17, obt_7 i17, qT_at_7 i17, q_H_tally i07]
      exact ⟨⟨⟨hs.1, by omega⟩, hp⟩, hQ⟩))
def wyF (σ : SG) (k m h s : Int32) : Int32 := if wi k 0 (σ 0 8 1 - 1) then (if wi m 1 300 then (if wi h 1 12 then (if wi s 0 63 then refu (σ 0) k m h s else -2) else -2) else -2) else -1
def sp_X_why : Nat → Sp := spL [(60, f_X_isKite), (56, f_X_within), (38, f_H_refusal)]
theorem sp_X_why_X_isKite : sp_X_why 60 = f_X_isKite := rfl
theorem sp_X_why_X_within : sp_X_why 56 = f_X_within := rfl
theorem sp_X_why_H_refusal : sp_X_why 38 = f_H_refusal := rfl
def f_X_why : Sp := aS 9 (fun _ => 0) 4 (gL4 (fun _ k m h s σ => (sm (σ 0 8 2) 10, some (.int (wyF σ k m h s)), σ)))
theorem q_X_why {k m h s : Int32} {σ : SG} : f_X_why [.ref 0, .int k, .int m, .int h, .int s] (emb σ) = (sm (σ 0 8 2) 10, some (.int (wyF σ k m h s)), emb (σ)) := aS4_at (ad := (fun _ => 0)) (i := hI 0) (by decide) rfl
set_option maxHeartbeats 4000000 in
set_option maxRecDepth 20000 in
theorem ok_X_why : SpecOK 87 f_X_why := SpecOK.of (sp := sp_X_why) (by decide) (by decide) (spL_ok (List.forall_mem_cons.mpr ⟨ok_X_isKite, (List.forall_mem_cons.mpr ⟨ok_X_within, (List.forall_mem_cons.mpr ⟨ok_H_refusal, (fun q h => absurd h List.not_mem_nil)⟩)⟩)⟩)) (Does_aS4 (Nat.le_of_ble_eq_true rfl) (fun sc i k m h s σ hi had hp => by
  refine Vf_q ?_ ⟨rfl, rfl⟩
  intro Q hQ
  dsimp only at hQ hp
  show Vf 87 _ _ 0 [.ref (0), .int k, .int m, .int h, .int s] [] (emb σ) _

  simp only [rX_why_0, rX_why_1, rX_why_2, rX_why_5, rX_why_8, rX_why_9, rX_why_10, rX_why_11, rX_why_12, rX_why_15, rX_why_18, rX_why_21, rX_why_22, rX_why_23, rX_why_25, rX_why_28, rX_why_31, rX_why_33, rX_why_34, rX_why_36, rX_why_39, rX_why_42, rX_why_44, rX_why_45, rX_why_46, rX_why_49, rX_why_50, rX_why_51, rX_why_52, rX_why_54, rX_why_57, ct1_i, ct1_r, ct1_n, true_and, and_true, tl_s, tl_n, le4_0, le4_1, le4_2, le4_3, le4_4, le4_5, isO_r, cl_, emb1, emb2, le_rN, up1_at, up1_up1, sp_X_why_X_isKite, sp_X_why_X_within, sp_X_why_H_refusal, obX, obP, obN, obQ, xr_0, xr_1, xr_2, xr_3, xr_4, ob_h i07, ob_h i17, ob_h i27, isO_r, fok_i, rb_0, rb_1, rb_bi, bi_eq0, rb_b2, b2_0, ite_not, ni_0, ni_1, pi_0, pi_1, xi_0, sxi_0, sni_0, q_X_within, Option.toList, List.cons_append, List.nil_append, vh_0 i07, vs_0 i07, vs_0 i17, ss_0 i07, obt_0 i07, qT_at_0 i07, qT_put_0 i07, qT_add_0 i07, vh_1 i07, vs_1 i07, vs_1 i17, ss_1 i07, obt_1 i07, qT_at_1 i07, qT_put_1 i07, qT_add_1 i07, vh_2 i07, vs_2 i07, vs_2 i17, ss_2 i07, obt_2 i07, qT_at_2 i07, qT_put_2 i07, qT_add_2 i07, vh_3 i07, vs_3 i07, vs_3 i17, ss_3 i07, obt_3 i07, qT_at_3 i07, qT_put_3 i07, qT_add_3 i07, vh_4 i07, vs_4 i07, vs_4 i17, ss_4 i07, obt_4 i07, qT_at_4 i07, qT_put_4 i07, qT_add_4 i07, vh_5 i07, vs_5 i07, vs_5 i17, ss_5 i07, obt_5 i07, qT_at_5 i07, qT_put_5 i07, qT_add_5 i07, vh_6 i07, vs_6 i07, vs_6 i17, ss_6 i07, obt_6 i07, qT_at_6 i07, qT_put_6 i07, qT_add_6 i07, vh_7 i07, vs_7 i07, vs_7 i17, ss_7 i07, obt_7 i07, qT_at_7 i07, qT_put_7 i07, qT_add_7 i07, vh_7 i17, obt_7 i17, qT_at_7 i17, q_X_isKite, q_H_refusal i07]
  unfold wyF at hQ
  rcases Decidable.em (wi k 0 (σ 0 8 1 - 1)) with h1 | h1
  case inr => rw [if_neg h1] at hQ ⊢; exact hQ
  rw [if_pos h1] at hQ ⊢
  rcases Decidable.em (wi m 1 300) with h2 | h2
  case inr => rw [if_neg h2] at hQ ⊢; exact hQ
  rw [if_pos h2] at hQ ⊢
  rcases Decidable.em (wi h 1 12) with h3 | h3
  case inr => rw [if_neg h3] at hQ ⊢; exact hQ
  rw [if_pos h3] at hQ ⊢
  rcases Decidable.em (wi s 0 63) with h4 | h4
  case inr => rw [if_neg h4] at hQ ⊢; exact hQ
  rw [if_pos h4] at hQ ⊢
  exact ⟨⟨wi_sm (n := 12) h3 (by decide) (by decide), hp⟩, hQ⟩))
def hiF (σ : SG) (k m h s : Int32) : Int32 × SG :=
  if wyF σ k m h s < 0 then (wyF σ k m h s, σ) else if 0 < wyF σ k m h s then (-10 - wyF σ k m h s, σ) else if σ 0 8 3 < 200 then (σ 0 8 3, up1 (rcW σ) 0 (bgH (σ 0) k m h s)) else (-3, σ)
def sp_X_hire : Nat → Sp := spL [(87, f_X_why), (54, f_P_record), (34, f_H_beginHire)]
theorem sp_X_hire_X_why : sp_X_hire 87 = f_X_why := rfl
theorem sp_X_hire_P_record : sp_X_hire 54 = f_P_record := rfl
theorem sp_X_hire_H_beginHire : sp_X_hire 34 = f_H_beginHire := rfl
def f_X_hire : Sp := aS 9 (fun _ => 0) 4 (gL4 (fun _ k m h s σ => (ltP σ ∧ sm (σ 0 8 2) 10, some (.int (hiF σ k m h s).1), (hiF σ k m h s).2)))
theorem q_X_hire {k m h s : Int32} {σ : SG} : f_X_hire [.ref 0, .int k, .int m, .int h, .int s] (emb σ) = (ltP σ ∧ sm (σ 0 8 2) 10, some (.int (hiF σ k m h s).1), emb ((hiF σ k m h s).2)) := aS4_at (ad := (fun _ => 0)) (i := hI 0) (by decide) rfl
set_option maxHeartbeats 4000000 in
set_option maxRecDepth 20000 in
theorem ok_X_hire : SpecOK 89 f_X_hire := SpecOK.of (sp := sp_X_hire) (by decide) (by decide) (spL_ok (List.forall_mem_cons.mpr ⟨ok_X_why, (List.forall_mem_cons.mpr ⟨ok_P_record, (List.forall_mem_cons.mpr ⟨ok_H_beginHire, (fun q h => absurd h List.not_mem_nil)⟩)⟩)⟩)) (Does_aS4 (Nat.le_of_ble_eq_true rfl) (fun sc i k m h s σ hi had hp => by
  refine Vf_q ?_ ⟨rfl, rfl⟩
  intro Q hQ
  dsimp only at hQ hp
  show Vf 89 _ _ 0 [.ref (0), .int k, .int m, .int h, .int s, .null] [] (emb σ) _

  simp only [rX_hire_0, rX_hire_1, rX_hire_2, rX_hire_3, rX_hire_4, rX_hire_6, rX_hire_9, rX_hire_11, rX_hire_13, rX_hire_16, rX_hire_18, rX_hire_19, rX_hire_21, rX_hire_24, rX_hire_26, rX_hire_28, rX_hire_29, rX_hire_30, rX_hire_31, rX_hire_34, rX_hire_37, rX_hire_40, rX_hire_43, rX_hire_45, rX_hire_46, rX_hire_47, rX_hire_50, rX_hire_51, rX_hire_54, rX_hire_57, rX_hire_58, rX_hire_61, rX_hire_62, rX_hire_63, rX_hire_64, rX_hire_66, rX_hire_69, ct1_i, ct1_r, ct1_n, true_and, and_true, tl_s, tl_n, le4_0, le4_1, le4_2, le4_3, le4_4, le4_5, isO_r, cl_, emb1, emb2, le_rN, up1_at, up1_up1, sp_X_hire_X_why, sp_X_hire_P_record, sp_X_hire_H_beginHire, obX, obP, obN, obQ, xr_0, xr_1, xr_2, xr_3, xr_4, ob_h i07, ob_h i17, ob_h i27, isO_r, fok_i, rb_0, rb_1, rb_bi, bi_eq0, rb_b2, b2_0, ite_not, ni_0, ni_1, pi_0, pi_1, xi_0, sxi_0, sni_0, q_X_within, Option.toList, List.cons_append, List.nil_append, vh_0 i07, vs_0 i07, vs_0 i17, ss_0 i07, obt_0 i07, qT_at_0 i07, qT_put_0 i07, qT_add_0 i07, vh_1 i07, vs_1 i07, vs_1 i17, ss_1 i07, obt_1 i07, qT_at_1 i07, qT_put_1 i07, qT_add_1 i07, vh_2 i07, vs_2 i07, vs_2 i17, ss_2 i07, obt_2 i07, qT_at_2 i07, qT_put_2 i07, qT_add_2 i07, vh_3 i07, vs_3 i07, vs_3 i17, ss_3 i07, obt_3 i07, qT_at_3 i07, qT_put_3 i07, qT_add_3 i07, vh_4 i07, vs_4 i07, vs_4 i17, ss_4 i07, obt_4 i07, qT_at_4 i07, qT_put_4 i07, qT_add_4 i07, vh_5 i07, vs_5 i07, vs_5 i17, ss_5 i07, obt_5 i07, qT_at_5 i07, qT_put_5 i07, qT_add_5 i07, vh_6 i07, vs_6 i07, vs_6 i17, ss_6 i07, obt_6 i07, qT_at_6 i07, qT_put_6 i07, qT_add_6 i07, vh_7 i07, vs_7 i07, vs_7 i17, ss_7 i07, obt_7 i07, qT_at_7 i07, qT_put_7 i07, qT_add_7 i07, vh_7 i17, obt_7 i17, qT_at_7 i17, q_X_why, q_P_record hp.1, q_H_beginHire i07, rcW_0, hp.2]
  unfold hiF at hQ
  rcases Decidable.em (wyF σ k m h s < 0) with h1 | h1
  case inl => rw [if_pos h1] at hQ ⊢; exact hQ
  rw [if_neg h1] at hQ ⊢
  rcases Decidable.em (0 < wyF σ k m h s) with h2 | h2
  case inl => rw [if_pos h2] at hQ ⊢; exact hQ
  rw [if_neg h2] at hQ ⊢
  rcases Decidable.em (σ 0 8 3 < 200) with h3 | h3
  case inr => rw [if_neg h3] at hQ ⊢; exact hQ
  rw [if_pos h3] at hQ ⊢
  exact hQ))
def loF (σ : SG) (k m : Int32) : Int32 := if wi k 0 (σ 0 8 1 - 1) then (if wi m 1 300 then (if 0 < lgF (σ 0) k m 12 then lgF (σ 0) k m 12 else -5) else -2) else -1
def sp_X_longest : Nat → Sp := spL [(60, f_X_isKite), (56, f_X_within), (42, f_H_longestHire)]
theorem sp_X_longest_X_isKite : sp_X_longest 60 = f_X_isKite := rfl
theorem sp_X_longest_X_within : sp_X_longest 56 = f_X_within := rfl
theorem sp_X_longest_H_longestHire : sp_X_longest 42 = f_H_longestHire := rfl
def f_X_longest : Sp := aS 9 (fun _ => 0) 2 (gL2 (fun _ k m σ => (sm (σ 0 8 2) 10, some (.int (loF σ k m)), σ)))
theorem q_X_longest {k m : Int32} {σ : SG} : f_X_longest [.ref 0, .int k, .int m] (emb σ) = (sm (σ 0 8 2) 10, some (.int (loF σ k m)), emb (σ)) := aS2_at (ad := (fun _ => 0)) (i := hI 0) (by decide) rfl
set_option maxHeartbeats 4000000 in
set_option maxRecDepth 20000 in
theorem ok_X_longest : SpecOK 91 f_X_longest := SpecOK.of (sp := sp_X_longest) (by decide) (by decide) (spL_ok (List.forall_mem_cons.mpr ⟨ok_X_isKite, (List.forall_mem_cons.mpr ⟨ok_X_within, (List.forall_mem_cons.mpr ⟨ok_H_longestHire, (fun q h => absurd h List.not_mem_nil)⟩)⟩)⟩)) (Does_aS2 (Nat.le_of_ble_eq_true rfl) (fun sc i k m σ hi had hp => by
  refine Vf_q ?_ ⟨rfl, rfl⟩
  intro Q hQ
  dsimp only at hQ hp
  show Vf 91 _ _ 0 [.ref (0), .int k, .int m, .null] [] (emb σ) _

  simp only [rX_longest_0, rX_longest_1, rX_longest_2, rX_longest_5, rX_longest_8, rX_longest_9, rX_longest_10, rX_longest_11, rX_longest_12, rX_longest_15, rX_longest_18, rX_longest_21, rX_longest_23, rX_longest_24, rX_longest_25, rX_longest_28, rX_longest_29, rX_longest_30, rX_longest_33, rX_longest_34, rX_longest_35, rX_longest_38, rX_longest_39, rX_longest_42, rX_longest_44, ct1_i, ct1_r, ct1_n, true_and, and_true, tl_s, tl_n, le4_0, le4_1, le4_2, le4_3, le4_4, le4_5, isO_r, cl_, emb1, emb2, le_rN, up1_at, up1_up1, sp_X_longest_X_isKite, sp_X_longest_X_within, sp_X_longest_H_longestHire, obX, obP, obN, obQ, xr_0, xr_1, xr_2, xr_3, xr_4, ob_h i07, ob_h i17, ob_h i27, isO_r, fok_i, rb_0, rb_1, rb_bi, bi_eq0, rb_b2, b2_0, ite_not, ni_0, ni_1, pi_0, pi_1, xi_0, sxi_0, sni_0, q_X_within, Option.toList, List.cons_append, List.nil_append, vh_0 i07, vs_0 i07, vs_0 i17, ss_0 i07, obt_0 i07, qT_at_0 i07, qT_put_0 i07, qT_add_0 i07, vh_1 i07, vs_1 i07, vs_1 i17, ss_1 i07, obt_1 i07, qT_at_1 i07, qT_put_1 i07, qT_add_1 i07, vh_2 i07, vs_2 i07, vs_2 i17, ss_2 i07, obt_2 i07, qT_at_2 i07, qT_put_2 i07, qT_add_2 i07, vh_3 i07, vs_3 i07, vs_3 i17, ss_3 i07, obt_3 i07, qT_at_3 i07, qT_put_3 i07, qT_add_3 i07, vh_4 i07, vs_4 i07, vs_4 i17, ss_4 i07, obt_4 i07, qT_at_4 i07, qT_put_4 i07, qT_add_4 i07, vh_5 i07, vs_5 i07, vs_5 i17, ss_5 i07, obt_5 i07, qT_at_5 i07, qT_put_5 i07, qT_add_5 i07, vh_6 i07, vs_6 i07, vs_6 i17, ss_6 i07, obt_6 i07, qT_at_6 i07, qT_put_6 i07, qT_add_6 i07, vh_7 i07, vs_7 i07, vs_7 i17, ss_7 i07, obt_7 i07, qT_at_7 i07, qT_put_7 i07, qT_add_7 i07, vh_7 i17, obt_7 i17, qT_at_7 i17, q_X_isKite, q_H_longestHire i07, hp]
  unfold loF at hQ
  rcases Decidable.em (wi k 0 (σ 0 8 1 - 1)) with h1 | h1
  case inr => rw [if_neg h1] at hQ ⊢; exact hQ
  rw [if_pos h1] at hQ ⊢
  rcases Decidable.em (wi m 1 300) with h2 | h2
  case inr => rw [if_neg h2] at hQ ⊢; exact hQ
  rw [if_pos h2] at hQ ⊢
  rcases Decidable.em (0 < lgF (σ 0) k m 12) with h3 | h3
  case inr => rw [if_neg h3] at hQ ⊢; exact hQ
  rw [if_pos h3] at hQ ⊢
  exact hQ))
def siF (w : HV) (h : Int32) : Int32 := if rwF w h < 0 then -1 else hsF w (hr w (rwF w h) 0) (w 8 0).toNatClampNeg (1000 - (w 8 0).toNatClampNeg) (sl w (hr w (rwF w h) 1) 1)
def sp_X_snapsIn : Nat → Sp := spL [(20, f_H_rowOfHire), (40, f_H_hoursToSnap)]
theorem sp_X_snapsIn_H_rowOfHire : sp_X_snapsIn 20 = f_H_rowOfHire := rfl
theorem sp_X_snapsIn_H_hoursToSnap : sp_X_snapsIn 40 = f_H_hoursToSnap := rfl
def f_X_snapsIn : Sp := aS 9 (fun _ => 0) 1 (gL1 (fun _ h σ => (sm (σ 0 8 4) 10 ∧ sm (σ 0 8 0) 1000, some (.int (siF (σ 0) h)), σ)))
theorem q_X_snapsIn {h : Int32} {σ : SG} : f_X_snapsIn [.ref 0, .int h] (emb σ) = (sm (σ 0 8 4) 10 ∧ sm (σ 0 8 0) 1000, some (.int (siF (σ 0) h)), emb (σ)) := aS1_at (ad := (fun _ => 0)) (i := hI 0) (by decide) rfl
set_option maxHeartbeats 4000000 in
set_option maxRecDepth 20000 in
theorem ok_X_snapsIn : SpecOK 88 f_X_snapsIn := SpecOK.of (sp := sp_X_snapsIn) (by decide) (by decide) (spL_ok (List.forall_mem_cons.mpr ⟨ok_H_rowOfHire, (List.forall_mem_cons.mpr ⟨ok_H_hoursToSnap, (fun q h => absurd h List.not_mem_nil)⟩)⟩)) (Does_aS1 (Nat.le_of_ble_eq_true rfl) (fun sc i h σ hi had hp => by
  refine Vf_q ?_ ⟨rfl, rfl⟩
  intro Q hQ
  dsimp only at hQ hp
  show Vf 88 _ _ 0 [.ref (0), .int h, .null] [] (emb σ) _

  simp only [rX_snapsIn_0, rX_snapsIn_1, rX_snapsIn_4, rX_snapsIn_5, rX_snapsIn_8, rX_snapsIn_9, rX_snapsIn_10, rX_snapsIn_13, rX_snapsIn_14, rX_snapsIn_17, rX_snapsIn_18, rX_snapsIn_21, rX_snapsIn_22, rX_snapsIn_25, ct1_i, ct1_r, ct1_n, true_and, and_true, tl_s, tl_n, le4_0, le4_1, le4_2, le4_3, le4_4, le4_5, isO_r, cl_, emb1, emb2, le_rN, up1_at, up1_up1, sp_X_snapsIn_H_rowOfHire, sp_X_snapsIn_H_hoursToSnap, obX, obP, obN, obQ, xr_0, xr_1, xr_2, xr_3, xr_4, ob_h i07, ob_h i17, ob_h i27, isO_r, fok_i, rb_0, rb_1, rb_bi, bi_eq0, rb_b2, b2_0, ite_not, ni_0, ni_1, pi_0, pi_1, xi_0, sxi_0, sni_0, q_X_within, Option.toList, List.cons_append, List.nil_append, vh_0 i07, vs_0 i07, vs_0 i17, ss_0 i07, obt_0 i07, qT_at_0 i07, qT_put_0 i07, qT_add_0 i07, vh_1 i07, vs_1 i07, vs_1 i17, ss_1 i07, obt_1 i07, qT_at_1 i07, qT_put_1 i07, qT_add_1 i07, vh_2 i07, vs_2 i07, vs_2 i17, ss_2 i07, obt_2 i07, qT_at_2 i07, qT_put_2 i07, qT_add_2 i07, vh_3 i07, vs_3 i07, vs_3 i17, ss_3 i07, obt_3 i07, qT_at_3 i07, qT_put_3 i07, qT_add_3 i07, vh_4 i07, vs_4 i07, vs_4 i17, ss_4 i07, obt_4 i07, qT_at_4 i07, qT_put_4 i07, qT_add_4 i07, vh_5 i07, vs_5 i07, vs_5 i17, ss_5 i07, obt_5 i07, qT_at_5 i07, qT_put_5 i07, qT_add_5 i07, vh_6 i07, vs_6 i07, vs_6 i17, ss_6 i07, obt_6 i07, qT_at_6 i07, qT_put_6 i07, qT_add_6 i07, vh_7 i07, vs_7 i07, vs_7 i17, ss_7 i07, obt_7 i07, qT_at_7 i07, qT_put_7 i07, qT_add_7 i07, vh_7 i17, obt_7 i17, qT_at_7 i17, q_H_rowOfHire i07, q_H_hoursToSnap i07, hp.1, hp.2]
  unfold siF at hQ
  rcases Decidable.em (rwF (σ 0) h < 0) with h1 | h1
  case inl => rw [if_pos h1] at hQ ⊢; exact hQ
  rw [if_neg h1] at hQ ⊢
  exact hQ))
theorem fsF_lt {p : Nat → Bool} : ∀ (k r : Nat), r + k < 2 ^ 31 → ¬ fsF p r k < 0 → (fsF p r k).toNatClampNeg < r + k := by
  intro k
  induction k with
  | zero => intro r _ h; exact absurd (show fsF p r 0 < 0 by show (-5 : Int32) < 0; decide) h
  | succ k ih =>
    intro r hr h
    show (if p r = true then oN r else fsF p (r + 1) k).toNatClampNeg < _
    change ¬ (if p r = true then oN r else fsF p (r + 1) k) < 0 at h
    split
    · rw [oN_nat (by omega)]; omega
    · rename_i hp
      rw [if_neg hp] at h
      have := ih (r + 1) (by omega) h
      omega
theorem rwF_sm {w : HV} {h : Int32} (hm : sm (w 8 4) 10) (h0 : ¬ rwF w h < 0) : sm (rwF w h) 9 := by
  refine ⟨h0, ?_⟩
  have := fsF_lt (w 8 4).toNatClampNeg 0 (by have := hm.2; omega) h0
  have := hm.2
  show (fsF _ 0 (w 8 4).toNatClampNeg).toNatClampNeg ≤ 9
  omega
def bkG (w : HV) (row : Int32) : Int32 := kt w (hr w row 0) 4 * hr w row 3 / 2
def bkC (w : HV) (mis : Int32) : Int32 := bcnt mis * settg w 3
def baF (σ : SG) (h mis : Int32) : Int32 × SG :=
  if rwF (σ 0) h < 0 then (-1, σ) else if wi mis 0 63 then (if mis &&& (hr (σ 0) (rwF (σ 0) h) 4 ^^^ -1) = 0 then
    (bkG (σ 0) (rwF (σ 0) h) - bkC (σ 0) mis + 1000, up1 (rcW σ) 0 (enH (tcH (σ 0) (rwF (σ 0) h) (bkC (σ 0) mis - bkG (σ 0) (rwF (σ 0) h))) (rwF (σ 0) h) 0 mis)) else (-2, σ)) else (-2, σ)
def sp_X_back : Nat → Sp := spL [(20, f_H_rowOfHire), (56, f_X_within), (4, f_T_at), (54, f_P_record), (29, f_H_priceOfRest), (2, f_J_bitCount), (14, f_H_setting), (19, f_H_takeCoins), (30, f_H_endHire)]
theorem sp_X_back_H_rowOfHire : sp_X_back 20 = f_H_rowOfHire := rfl
theorem sp_X_back_X_within : sp_X_back 56 = f_X_within := rfl
theorem sp_X_back_T_at : sp_X_back 4 = f_T_at := rfl
theorem sp_X_back_P_record : sp_X_back 54 = f_P_record := rfl
theorem sp_X_back_H_priceOfRest : sp_X_back 29 = f_H_priceOfRest := rfl
theorem sp_X_back_J_bitCount : sp_X_back 2 = f_J_bitCount := rfl
theorem sp_X_back_H_setting : sp_X_back 14 = f_H_setting := rfl
theorem sp_X_back_H_takeCoins : sp_X_back 19 = f_H_takeCoins := rfl
theorem sp_X_back_H_endHire : sp_X_back 30 = f_H_endHire := rfl
def f_X_back : Sp := aS 9 (fun _ => 0) 2 (gL2 (fun _ h mis σ => (ltP σ ∧ sm (σ 0 8 4) 10, some (.int (baF σ h mis).1), (baF σ h mis).2)))
theorem q_X_back {h mis : Int32} {σ : SG} : f_X_back [.ref 0, .int h, .int mis] (emb σ) = (ltP σ ∧ sm (σ 0 8 4) 10, some (.int (baF σ h mis).1), emb ((baF σ h mis).2)) := aS2_at (ad := (fun _ => 0)) (i := hI 0) (by decide) rfl
set_option maxHeartbeats 4000000 in
set_option maxRecDepth 20000 in
theorem ok_X_back : SpecOK 78 f_X_back := SpecOK.of (sp := sp_X_back) (by decide) (by decide) (spL_ok (List.forall_mem_cons.mpr ⟨ok_H_rowOfHire, (List.forall_mem_cons.mpr ⟨ok_X_within, (List.forall_mem_cons.mpr ⟨ok_T_at, (List.forall_mem_cons.mpr ⟨ok_P_record, (List.forall_mem_cons.mpr ⟨ok_H_priceOfRest, (List.forall_mem_cons.mpr ⟨ok_J_bitCount, (List.forall_mem_cons.mpr ⟨ok_H_setting, (List.forall_mem_cons.mpr ⟨ok_H_takeCoins, (List.forall_mem_cons.mpr ⟨ok_H_endHire, (fun q h => absurd h List.not_mem_nil)⟩)⟩)⟩)⟩)⟩)⟩)⟩)⟩)⟩)) (Does_aS2 (Nat.le_of_ble_eq_true rfl) (fun sc i h mis σ hi had hp => by
  refine Vf_q ?_ ⟨rfl, rfl⟩
  intro Q hQ
  dsimp only at hQ hp
  show Vf 78 _ _ 0 [.ref (0), .int h, .int mis, .null, .null, .null] [] (emb σ) _

  simp only [rX_back_0, rX_back_1, rX_back_4, rX_back_5, rX_back_8, rX_back_9, rX_back_10, rX_back_13, rX_back_14, rX_back_15, rX_back_16, rX_back_17, rX_back_19, rX_back_22, rX_back_25, rX_back_26, rX_back_27, rX_back_30, rX_back_33, rX_back_34, rX_back_35, rX_back_38, rX_back_39, rX_back_40, rX_back_41, rX_back_44, rX_back_46, rX_back_47, rX_back_48, rX_back_51, rX_back_52, rX_back_55, rX_back_58, rX_back_59, rX_back_62, rX_back_63, rX_back_66, rX_back_67, rX_back_68, rX_back_70, rX_back_71, rX_back_74, rX_back_75, rX_back_78, rX_back_79, rX_back_82, rX_back_83, rX_back_85, rX_back_86, rX_back_89, rX_back_90, rX_back_92, rX_back_94, rX_back_95, rX_back_98, rX_back_99, rX_back_102, rX_back_103, rX_back_104, rX_back_105, rX_back_108, rX_back_110, rX_back_112, rX_back_113, rX_back_116, rX_back_117, ct1_i, ct1_r, ct1_n, true_and, and_true, tl_s, tl_n, le4_0, le4_1, le4_2, le4_3, le4_4, le4_5, isO_r, cl_, emb1, emb2, le_rN, up1_at, up1_up1, sp_X_back_H_rowOfHire, sp_X_back_X_within, sp_X_back_T_at, sp_X_back_P_record, sp_X_back_H_priceOfRest, sp_X_back_J_bitCount, sp_X_back_H_setting, sp_X_back_H_takeCoins, sp_X_back_H_endHire, obX, obP, obN, obQ, xr_0, xr_1, xr_2, xr_3, xr_4, ob_h i07, ob_h i17, ob_h i27, isO_r, fok_i, rb_0, rb_1, rb_bi, bi_eq0, rb_b2, b2_0, ite_not, ni_0, ni_1, pi_0, pi_1, xi_0, sxi_0, sni_0, q_X_within, Option.toList, List.cons_append, List.nil_append, vh_0 i07, vs_0 i07, vs_0 i17, ss_0 i07, obt_0 i07, qT_at_0 i07, qT_put_0 i07, qT_add_0 i07, vh_1 i07, vs_1 i07, vs_1 i17, ss_1 i07, obt_1 i07, qT_at_1 i07, qT_put_1 i07, qT_add_1 i07, vh_2 i07, vs_2 i07, vs_2 i17, ss_2 i07, obt_2 i07, qT_at_2 i07, qT_put_2 i07, qT_add_2 i07, vh_3 i07, vs_3 i07, vs_3 i17, ss_3 i07, obt_3 i07, qT_at_3 i07, qT_put_3 i07, qT_add_3 i07, vh_4 i07, vs_4 i07, vs_4 i17, ss_4 i07, obt_4 i07, qT_at_4 i07, qT_put_4 i07, qT_add_4 i07, vh_5 i07, vs_5 i07, vs_5 i17, ss_5 i07, obt_5 i07, qT_at_5 i07, qT_put_5 i07, qT_add_5 i07, vh_6 i07, vs_6 i07, vs_6 i17, ss_6 i07, obt_6 i07, qT_at_6 i07, qT_put_6 i07, qT_add_6 i07, vh_7 i07, vs_7 i07, vs_7 i17, ss_7 i07, obt_7 i07, qT_at_7 i07, qT_put_7 i07, qT_add_7 i07, vh_7 i17, obt_7 i17, qT_at_7 i17, q_H_rowOfHire i07, hp.2, q_P_record hp.1, rcW_0, q_H_priceOfRest i07, q_J_bitCount, q_H_setting i07, q_H_takeCoins i07, q_H_endHire i07, show ¬ (2 : Int32) = 0 by decide, not_false_eq_true]
  unfold baF at hQ
  rcases Decidable.em (rwF (σ 0) h < 0) with h1 | h1
  case inl => rw [if_pos h1] at hQ ⊢; exact hQ
  rw [if_neg h1] at hQ ⊢
  rcases Decidable.em (wi mis 0 63) with h2 | h2
  case inr => rw [if_neg h2] at hQ ⊢; exact hQ
  rw [if_pos h2] at hQ ⊢
  change if mis &&& (hr (σ 0) (rwF (σ 0) h) 4 ^^^ -1) = 0 then _ else _
  rcases Decidable.em (mis &&& (hr (σ 0) (rwF (σ 0) h) 4 ^^^ -1) = 0) with h3 | h3
  case inr => rw [if_neg h3] at hQ ⊢; exact hQ
  rw [if_pos h3] at hQ ⊢
  exact ⟨rwF_sm hp.2 h1, hQ⟩))
