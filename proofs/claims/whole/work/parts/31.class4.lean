/-! THE CLASS: what the parts of a text tell -/
abbrev nm (u : Nat → Int32) (r c : Int32) : Int32 := at_ u 5 75 r c
def epF (u : Nat → Int32) : Nat → Nat → Int32 → Int32 → Int32
  | _, 0, _, _ => 0
  | n, m + 1, h, k => if nm u (oN n) 0 = 1 then (if 1000 < h + nm u (oN n) 2 then -2 else epF u (n + 1) m (h + nm u (oN n) 2) k)
    else if nm u (oN n) 2 < nm u (oN n) 1 then -2 else if 16 < k + 1 then -3 else epF u (n + 1) m h (k + 1)
set_option maxHeartbeats 4000000 in
set_option maxRecDepth 20000 in
theorem lp_X_errorOfParts {sp : Nat → Sp} (h47 : sp 47 = f_N_kindOf) (h48 : sp 48 = f_N_numberOf) {sc : Nat × (Nat → Int32)} {Q : Option Value → MS → Prop} (σ : SG) (N : Nat) (hN : N ≤ 60) (hNe : σ 7 2 1 = oN N) : ∀ (m n : Nat) (h k : Int32), n + m = N → Q (some (.int (epF (σ 7 4) n m h k))) (emb σ) → Vf 65 sp ((134, SLT), sc) 18 [.ref 0, .int h, .int k, .int (oN n)] [] (emb σ) Q := by
  intro m
  induction m with
  | zero =>
    intro n h k hm hQ
    have : ¬ oN n < oN N := by rw [oN_lt (by omega) (by omega)]; omega
    rw [rX_errorOfParts_18]
    simp only [rX_errorOfParts_19, rX_errorOfParts_20, rX_errorOfParts_23, rX_errorOfParts_26, rX_errorOfParts_29, rX_errorOfParts_30, rX_errorOfParts_33, rX_errorOfParts_34, rX_errorOfParts_37, rX_errorOfParts_38, rX_errorOfParts_41, rX_errorOfParts_42, rX_errorOfParts_43, rX_errorOfParts_46, rX_errorOfParts_47, rX_errorOfParts_48, rX_errorOfParts_51, rX_errorOfParts_52, rX_errorOfParts_53, rX_errorOfParts_54, rX_errorOfParts_57, rX_errorOfParts_60, rX_errorOfParts_62, rX_errorOfParts_63, rX_errorOfParts_64, rX_errorOfParts_67, rX_errorOfParts_68, rX_errorOfParts_69, rX_errorOfParts_72, rX_errorOfParts_73, rX_errorOfParts_76, rX_errorOfParts_77, rX_errorOfParts_78, rX_errorOfParts_81, rX_errorOfParts_84, rX_errorOfParts_86, rX_errorOfParts_87, rX_errorOfParts_90, rX_errorOfParts_91, rX_errorOfParts_93, rX_errorOfParts_96, rX_errorOfParts_98, rX_errorOfParts_99, rX_errorOfParts_102, rX_errorOfParts_105, rX_errorOfParts_106, ct1_i, ct1_r, ct1_n, true_and, and_true, tl_s, tl_n, le4_0, le4_1, le4_2, le4_3, le4_4, le4_5, isO_r, obX, obP, obN, obQ, xr_0, xr_1, xr_2, xr_3, xr_4, ob_h i07, ob_h i17, ob_h i27, isO_r, fok_i, rb_0, rb_1, rb_bi, bi_eq0, rb_b2, b2_0, ite_not, ni_0, ni_1, pi_0, pi_1, xi_0, sxi_0, sni_0, q_X_within, Option.toList, List.cons_append, List.nil_append, vh_0 i07, vs_0 i07, vs_0 i17, ss_0 i07, obt_0 i07, qT_at_0 i07, qT_put_0 i07, qT_add_0 i07, vh_1 i07, vs_1 i07, vs_1 i17, ss_1 i07, obt_1 i07, qT_at_1 i07, qT_put_1 i07, qT_add_1 i07, vh_2 i07, vs_2 i07, vs_2 i17, ss_2 i07, obt_2 i07, qT_at_2 i07, qT_put_2 i07, qT_add_2 i07, vh_3 i07, vs_3 i07, vs_3 i17, ss_3 i07, obt_3 i07, qT_at_3 i07, qT_put_3 i07, qT_add_3 i07, vh_4 i07, vs_4 i07, vs_4 i17, ss_4 i07, obt_4 i07, qT_at_4 i07, qT_put_4 i07, qT_add_4 i07, vh_5 i07, vs_5 i07, vs_5 i17, ss_5 i07, obt_5 i07, qT_at_5 i07, qT_put_5 i07, qT_add_5 i07, vh_6 i07, vs_6 i07, vs_6 i17, ss_6 i07, obt_6 i07, qT_at_6 i07, qT_put_6 i07, qT_add_6 i07, vh_7 i07, vs_7 i07, vs_7 i17, ss_7 i07, obt_7 i07, qT_at_7 i07, qT_put_7 i07, qT_add_7 i07, vh_7 i17, obt_7 i17, qT_at_7 i17, hNe, if_neg this]
    exact hQ
  | succ m ih =>
    intro n h k hm hQ
    have : oN n < oN N := by rw [oN_lt (by omega) (by omega)]; omega
    rw [rX_errorOfParts_18]
    simp only [rX_errorOfParts_19, rX_errorOfParts_20, rX_errorOfParts_23, rX_errorOfParts_26, rX_errorOfParts_29, rX_errorOfParts_30, rX_errorOfParts_33, rX_errorOfParts_34, rX_errorOfParts_37, rX_errorOfParts_38, rX_errorOfParts_41, rX_errorOfParts_42, rX_errorOfParts_43, rX_errorOfParts_46, rX_errorOfParts_47, rX_errorOfParts_48, rX_errorOfParts_51, rX_errorOfParts_52, rX_errorOfParts_53, rX_errorOfParts_54, rX_errorOfParts_57, rX_errorOfParts_60, rX_errorOfParts_62, rX_errorOfParts_63, rX_errorOfParts_64, rX_errorOfParts_67, rX_errorOfParts_68, rX_errorOfParts_69, rX_errorOfParts_72, rX_errorOfParts_73, rX_errorOfParts_76, rX_errorOfParts_77, rX_errorOfParts_78, rX_errorOfParts_81, rX_errorOfParts_84, rX_errorOfParts_86, rX_errorOfParts_87, rX_errorOfParts_90, rX_errorOfParts_91, rX_errorOfParts_93, rX_errorOfParts_96, rX_errorOfParts_98, rX_errorOfParts_99, rX_errorOfParts_102, rX_errorOfParts_105, rX_errorOfParts_106, ct1_i, ct1_r, ct1_n, true_and, and_true, tl_s, tl_n, le4_0, le4_1, le4_2, le4_3, le4_4, le4_5, isO_r, cl_, emb1, emb2, le_rN, h47, h48, obX, obP, obN, obQ, xr_0, xr_1, xr_2, xr_3, xr_4, ob_h i07, ob_h i17, ob_h i27, isO_r, fok_i, rb_0, rb_1, rb_bi, bi_eq0, rb_b2, b2_0, ite_not, ni_0, ni_1, pi_0, pi_1, xi_0, sxi_0, sni_0, q_X_within, Option.toList, List.cons_append, List.nil_append, vh_0 i07, vs_0 i07, vs_0 i17, ss_0 i07, obt_0 i07, qT_at_0 i07, qT_put_0 i07, qT_add_0 i07, vh_1 i07, vs_1 i07, vs_1 i17, ss_1 i07, obt_1 i07, qT_at_1 i07, qT_put_1 i07, qT_add_1 i07, vh_2 i07, vs_2 i07, vs_2 i17, ss_2 i07, obt_2 i07, qT_at_2 i07, qT_put_2 i07, qT_add_2 i07, vh_3 i07, vs_3 i07, vs_3 i17, ss_3 i07, obt_3 i07, qT_at_3 i07, qT_put_3 i07, qT_add_3 i07, vh_4 i07, vs_4 i07, vs_4 i17, ss_4 i07, obt_4 i07, qT_at_4 i07, qT_put_4 i07, qT_add_4 i07, vh_5 i07, vs_5 i07, vs_5 i17, ss_5 i07, obt_5 i07, qT_at_5 i07, qT_put_5 i07, qT_add_5 i07, vh_6 i07, vs_6 i07, vs_6 i17, ss_6 i07, obt_6 i07, qT_at_6 i07, qT_put_6 i07, qT_add_6 i07, vh_7 i07, vs_7 i07, vs_7 i17, ss_7 i07, obt_7 i07, qT_at_7 i07, qT_put_7 i07, qT_add_7 i07, vh_7 i17, obt_7 i17, qT_at_7 i17, q_N_kindOf, q_N_numberOf, hNe, if_pos this, oN_succ]
    simp only [epF] at hQ
    rcases Decidable.em (nm (σ 7 4) (oN n) 0 = 1) with h1 | h1
    · rw [if_pos h1] at hQ ⊢
      rcases Decidable.em (1000 < h + nm (σ 7 4) (oN n) 2) with h2 | h2
      case inl => rw [if_pos h2] at hQ ⊢; exact hQ
      rw [if_neg h2] at hQ ⊢
      exact ih (n + 1) _ _ (by omega) hQ
    · rw [if_neg h1] at hQ ⊢
      rcases Decidable.em (nm (σ 7 4) (oN n) 2 < nm (σ 7 4) (oN n) 1) with h2 | h2
      case inl => rw [if_pos h2] at hQ ⊢; exact hQ
      rw [if_neg h2] at hQ ⊢
      rcases Decidable.em (16 < k + 1) with h3 | h3
      case inl => rw [if_pos h3] at hQ ⊢; exact hQ
      rw [if_neg h3] at hQ ⊢
      exact ih (n + 1) _ _ (by omega) hQ
def eoF (σ : SG) : Int32 := epF (σ 7 4) 0 (σ 7 2 1).toNatClampNeg (σ 0 8 0) (σ 0 8 1)

def sp_X_errorOfParts : Nat → Sp := spL [(47, f_N_kindOf), (48, f_N_numberOf)]
theorem sp_X_errorOfParts_N_kindOf : sp_X_errorOfParts 47 = f_N_kindOf := rfl
theorem sp_X_errorOfParts_N_numberOf : sp_X_errorOfParts 48 = f_N_numberOf := rfl
def f_X_errorOfParts : Sp := aS 9 (fun _ => 0) 0 (gL0 (fun _  σ => (sm (σ 7 2 1) 60, some (.int (eoF σ)), σ)))
theorem q_X_errorOfParts {σ : SG} : f_X_errorOfParts [.ref 0] (emb σ) = (sm (σ 7 2 1) 60, some (.int (eoF σ)), emb (σ)) := aS0_at (ad := (fun _ => 0)) (i := hI 0) (by decide) rfl
set_option maxHeartbeats 4000000 in
set_option maxRecDepth 20000 in
theorem ok_X_errorOfParts : SpecOK 65 f_X_errorOfParts := SpecOK.of (sp := sp_X_errorOfParts) (by decide) (by decide) (spL_ok (List.forall_mem_cons.mpr ⟨ok_N_kindOf, (List.forall_mem_cons.mpr ⟨ok_N_numberOf, (fun q h => absurd h List.not_mem_nil)⟩)⟩)) (Does_aS0 (Nat.le_of_ble_eq_true rfl) (fun sc i  σ hi had hp => by
  refine Vf_q ?_ ⟨rfl, rfl⟩
  intro Q hQ
  dsimp only at hQ hp
  show Vf 65 _ _ 0 [.ref (0), .null, .null, .null] [] (emb σ) _

  simp only [rX_errorOfParts_0, rX_errorOfParts_1, rX_errorOfParts_4, rX_errorOfParts_7, rX_errorOfParts_8, rX_errorOfParts_9, rX_errorOfParts_12, rX_errorOfParts_15, rX_errorOfParts_16, rX_errorOfParts_17, ct1_i, ct1_r, ct1_n, true_and, and_true, tl_s, tl_n, le4_0, le4_1, le4_2, le4_3, le4_4, le4_5, isO_r, cl_, emb1, emb2, le_rN, up1_at, up1_up1, sp_X_errorOfParts_N_kindOf, sp_X_errorOfParts_N_numberOf, obX, obP, obN, obQ, xr_0, xr_1, xr_2, xr_3, xr_4, ob_h i07, ob_h i17, ob_h i27, isO_r, fok_i, rb_0, rb_1, rb_bi, bi_eq0, rb_b2, b2_0, ite_not, ni_0, ni_1, pi_0, pi_1, xi_0, sxi_0, sni_0, q_X_within, Option.toList, List.cons_append, List.nil_append, vh_0 i07, vs_0 i07, vs_0 i17, ss_0 i07, obt_0 i07, qT_at_0 i07, qT_put_0 i07, qT_add_0 i07, vh_1 i07, vs_1 i07, vs_1 i17, ss_1 i07, obt_1 i07, qT_at_1 i07, qT_put_1 i07, qT_add_1 i07, vh_2 i07, vs_2 i07, vs_2 i17, ss_2 i07, obt_2 i07, qT_at_2 i07, qT_put_2 i07, qT_add_2 i07, vh_3 i07, vs_3 i07, vs_3 i17, ss_3 i07, obt_3 i07, qT_at_3 i07, qT_put_3 i07, qT_add_3 i07, vh_4 i07, vs_4 i07, vs_4 i17, ss_4 i07, obt_4 i07, qT_at_4 i07, qT_put_4 i07, qT_add_4 i07, vh_5 i07, vs_5 i07, vs_5 i17, ss_5 i07, obt_5 i07, qT_at_5 i07, qT_put_5 i07, qT_add_5 i07, vh_6 i07, vs_6 i07, vs_6 i17, ss_6 i07, obt_6 i07, qT_at_6 i07, qT_put_6 i07, qT_add_6 i07, vh_7 i07, vs_7 i07, vs_7 i17, ss_7 i07, obt_7 i07, qT_at_7 i07, qT_put_7 i07, qT_add_7 i07, vh_7 i17, obt_7 i17, qT_at_7 i17]
  exact lp_X_errorOfParts sp_X_errorOfParts_N_kindOf sp_X_errorOfParts_N_numberOf σ _ hp.2 (sm_eq hp) _ 0 _ _ (Nat.zero_add _) hQ))
def tpP (u : Nat → Int32) : Nat → Nat → Int32 → Prop
  | _, 0, _ => True
  | n, m + 1, h => if nm u (oN n) 0 = 1 then (sm h 1000 ∧ h + nm u (oN n) 2 - 1 < 1000 ∧ tpP u (n + 1) m (h + nm u (oN n) 2)) else tpP u (n + 1) m h
def tpF (u : Nat → Int32) : Nat → Nat → Int32 → HV → HV
  | _, 0, _, w => w
  | n, m + 1, h, w => if nm u (oN n) 0 = 1 then tpF u (n + 1) m (h + nm u (oN n) 2) (lyw w (nm u (oN n) 1) h.toNatClampNeg (h + nm u (oN n) 2 - 1 + 1).toNatClampNeg)
    else tpF u (n + 1) m h (akH w (nm u (oN n) 1) (nm u (oN n) 2) (nm u (oN n) 3) (nm u (oN n) 4))
set_option maxHeartbeats 4000000 in
set_option maxRecDepth 20000 in
theorem lp_X_tellParts {sp : Nat → Sp} (h10 : sp 10 = f_H_foresee) (h11 : sp 11 = f_H_addKite) (h47 : sp 47 = f_N_kindOf) (h48 : sp 48 = f_N_numberOf) {sc : Nat × (Nat → Int32)} {Q : Option Value → MS → Prop} (N : Nat) (hN : N ≤ 60) : ∀ (m n : Nat) (σ : SG) (h : Int32) (a b : Value), n + m = N → σ 7 2 1 = oN N → ct1 a → ct1 b → tpP (σ 7 4) n m h → Q none (emb (up1 σ 0 (tpF (σ 7 4) n m h (σ 0)))) → Vf 66 sp ((134, SLT), sc) 10 [.ref 0, .int h, .int (oN n), a, b] [] (emb σ) Q := by
  intro m
  induction m with
  | zero =>
    intro n σ h a b hm hNe _ _ _ hQ
    have : ¬ oN n < oN N := by rw [oN_lt (by omega) (by omega)]; omega
    rw [rX_tellParts_10]
    simp only [rX_tellParts_11, rX_tellParts_12, rX_tellParts_15, rX_tellParts_18, rX_tellParts_21, rX_tellParts_22, rX_tellParts_25, rX_tellParts_26, rX_tellParts_27, rX_tellParts_30, rX_tellParts_31, rX_tellParts_32, rX_tellParts_35, rX_tellParts_36, rX_tellParts_37, rX_tellParts_40, rX_tellParts_42, rX_tellParts_43, rX_tellParts_46, rX_tellParts_47, rX_tellParts_50, rX_tellParts_51, rX_tellParts_54, rX_tellParts_55, rX_tellParts_58, rX_tellParts_59, rX_tellParts_60, rX_tellParts_62, rX_tellParts_63, rX_tellParts_64, rX_tellParts_65, rX_tellParts_66, rX_tellParts_69, rX_tellParts_70, rX_tellParts_72, rX_tellParts_73, rX_tellParts_74, rX_tellParts_77, rX_tellParts_78, rX_tellParts_81, rX_tellParts_82, rX_tellParts_84, rX_tellParts_85, rX_tellParts_88, rX_tellParts_89, rX_tellParts_90, rX_tellParts_93, rX_tellParts_94, rX_tellParts_97, rX_tellParts_98, rX_tellParts_99, rX_tellParts_102, rX_tellParts_105, rX_tellParts_106, rX_tellParts_109, rX_tellParts_112, ct1_i, ct1_r, ct1_n, true_and, and_true, tl_s, tl_n, le4_0, le4_1, le4_2, le4_3, le4_4, le4_5, isO_r, obX, obP, obN, obQ, xr_0, xr_1, xr_2, xr_3, xr_4, ob_h i07, ob_h i17, ob_h i27, isO_r, fok_i, rb_0, rb_1, rb_bi, bi_eq0, rb_b2, b2_0, ite_not, ni_0, ni_1, pi_0, pi_1, xi_0, sxi_0, sni_0, q_X_within, Option.toList, List.cons_append, List.nil_append, vh_0 i07, vs_0 i07, vs_0 i17, ss_0 i07, obt_0 i07, qT_at_0 i07, qT_put_0 i07, qT_add_0 i07, vh_1 i07, vs_1 i07, vs_1 i17, ss_1 i07, obt_1 i07, qT_at_1 i07, qT_put_1 i07, qT_add_1 i07, vh_2 i07, vs_2 i07, vs_2 i17, ss_2 i07, obt_2 i07, qT_at_2 i07, qT_put_2 i07, qT_add_2 i07, vh_3 i07, vs_3 i07, vs_3 i17, ss_3 i07, obt_3 i07, qT_at_3 i07, qT_put_3 i07, qT_add_3 i07, vh_4 i07, vs_4 i07, vs_4 i17, ss_4 i07, obt_4 i07, qT_at_4 i07, qT_put_4 i07, qT_add_4 i07, vh_5 i07, vs_5 i07, vs_5 i17, ss_5 i07, obt_5 i07, qT_at_5 i07, qT_put_5 i07, qT_add_5 i07, vh_6 i07, vs_6 i07, vs_6 i17, ss_6 i07, obt_6 i07, qT_at_6 i07, qT_put_6 i07, qT_add_6 i07, vh_7 i07, vs_7 i07, vs_7 i17, ss_7 i07, obt_7 i07, qT_at_7 i07, qT_put_7 i07, qT_add_7 i07, vh_7 i17, obt_7 i17, qT_at_7 i17, hNe, if_neg this]
    change Q _ (emb (up1 σ 0 (σ 0))) at hQ
    rw [up1_self] at hQ
    exact hQ
  | succ m ih =>
    intro n σ h a b hm hNe ha hb hP hQ
    have : oN n < oN N := by rw [oN_lt (by omega) (by omega)]; omega
    rw [rX_tellParts_10]
    simp only [rX_tellParts_11, rX_tellParts_12, rX_tellParts_15, rX_tellParts_18, rX_tellParts_21, rX_tellParts_22, rX_tellParts_25, rX_tellParts_26, rX_tellParts_27, rX_tellParts_30, rX_tellParts_31, rX_tellParts_32, rX_tellParts_35, rX_tellParts_36, rX_tellParts_37, rX_tellParts_40, rX_tellParts_42, rX_tellParts_43, rX_tellParts_46, rX_tellParts_47, rX_tellParts_50, rX_tellParts_51, rX_tellParts_54, rX_tellParts_55, rX_tellParts_58, rX_tellParts_59, rX_tellParts_60, rX_tellParts_62, rX_tellParts_63, rX_tellParts_64, rX_tellParts_65, rX_tellParts_66, rX_tellParts_69, rX_tellParts_70, rX_tellParts_72, rX_tellParts_73, rX_tellParts_74, rX_tellParts_77, rX_tellParts_78, rX_tellParts_81, rX_tellParts_82, rX_tellParts_84, rX_tellParts_85, rX_tellParts_88, rX_tellParts_89, rX_tellParts_90, rX_tellParts_93, rX_tellParts_94, rX_tellParts_97, rX_tellParts_98, rX_tellParts_99, rX_tellParts_102, rX_tellParts_105, rX_tellParts_106, rX_tellParts_109, rX_tellParts_112, ct1_i, ct1_r, ct1_n, true_and, and_true, tl_s, tl_n, le4_0, le4_1, le4_2, le4_3, le4_4, le4_5, isO_r, cl_, emb1, emb2, le_rN, h10, h11, h47, h48, obX, obP, obN, obQ, xr_0, xr_1, xr_2, xr_3, xr_4, ob_h i07, ob_h i17, ob_h i27, isO_r, fok_i, rb_0, rb_1, rb_bi, bi_eq0, rb_b2, b2_0, ite_not, ni_0, ni_1, pi_0, pi_1, xi_0, sxi_0, sni_0, q_X_within, Option.toList, List.cons_append, List.nil_append, vh_0 i07, vs_0 i07, vs_0 i17, ss_0 i07, obt_0 i07, qT_at_0 i07, qT_put_0 i07, qT_add_0 i07, vh_1 i07, vs_1 i07, vs_1 i17, ss_1 i07, obt_1 i07, qT_at_1 i07, qT_put_1 i07, qT_add_1 i07, vh_2 i07, vs_2 i07, vs_2 i17, ss_2 i07, obt_2 i07, qT_at_2 i07, qT_put_2 i07, qT_add_2 i07, vh_3 i07, vs_3 i07, vs_3 i17, ss_3 i07, obt_3 i07, qT_at_3 i07, qT_put_3 i07, qT_add_3 i07, vh_4 i07, vs_4 i07, vs_4 i17, ss_4 i07, obt_4 i07, qT_at_4 i07, qT_put_4 i07, qT_add_4 i07, vh_5 i07, vs_5 i07, vs_5 i17, ss_5 i07, obt_5 i07, qT_at_5 i07, qT_put_5 i07, qT_add_5 i07, vh_6 i07, vs_6 i07, vs_6 i17, ss_6 i07, obt_6 i07, qT_at_6 i07, qT_put_6 i07, qT_add_6 i07, vh_7 i07, vs_7 i07, vs_7 i17, ss_7 i07, obt_7 i07, qT_at_7 i07, qT_put_7 i07, qT_add_7 i07, vh_7 i17, obt_7 i17, qT_at_7 i17, q_N_kindOf, q_N_numberOf, q_H_foresee i07, q_H_addKite i07, hNe, if_pos this, oN_succ, eq_true ha, eq_true hb]
    simp only [tpP] at hP
    simp only [tpF] at hQ
    have e7 : ∀ w : HV, up1 σ 0 w 7 = σ 7 := fun w => up1_ne _ _ (by decide)
    rcases Decidable.em (nm (σ 7 4) (oN n) 0 = 1) with h1 | h1
    · rw [if_pos h1] at hQ hP ⊢
      refine ⟨⟨hP.1, hP.2.1⟩, ?_⟩
      refine ih (n + 1) _ _ _ _ (by omega) (by rw [e7]; exact hNe) (of_eq_true (ct1_i _)) (of_eq_true (ct1_i _)) (by rw [e7]; exact hP.2.2) ?_
      rw [e7, up1_at, up1_up1]
      exact hQ
    · rw [if_neg h1] at hQ hP ⊢
      refine ih (n + 1) _ _ _ _ (by omega) (by rw [e7]; exact hNe) (of_eq_true (ct1_i _)) (of_eq_true (ct1_i _)) (by rw [e7]; exact hP) ?_
      rw [e7, up1_at, up1_up1]
      exact hQ
def tpW (σ : SG) : SG := up1 σ 0 (tpF (σ 7 4) 0 (σ 7 2 1).toNatClampNeg (σ 0 8 0) (σ 0))
def sp_X_tellParts : Nat → Sp := spL [(10, f_H_foresee), (11, f_H_addKite), (47, f_N_kindOf), (48, f_N_numberOf)]
theorem sp_X_tellParts_H_foresee : sp_X_tellParts 10 = f_H_foresee := rfl
theorem sp_X_tellParts_H_addKite : sp_X_tellParts 11 = f_H_addKite := rfl
theorem sp_X_tellParts_N_kindOf : sp_X_tellParts 47 = f_N_kindOf := rfl
theorem sp_X_tellParts_N_numberOf : sp_X_tellParts 48 = f_N_numberOf := rfl
def f_X_tellParts : Sp := aS 9 (fun _ => 0) 0 (gL0 (fun _  σ => (sm (σ 7 2 1) 60 ∧ tpP (σ 7 4) 0 (σ 7 2 1).toNatClampNeg (σ 0 8 0), none, tpW σ)))
theorem q_X_tellParts {σ : SG} : f_X_tellParts [.ref 0] (emb σ) = (sm (σ 7 2 1) 60 ∧ tpP (σ 7 4) 0 (σ 7 2 1).toNatClampNeg (σ 0 8 0), none, emb (tpW σ)) := aS0_at (ad := (fun _ => 0)) (i := hI 0) (by decide) rfl
set_option maxHeartbeats 4000000 in
set_option maxRecDepth 20000 in
theorem ok_X_tellParts : SpecOK 66 f_X_tellParts := SpecOK.of (sp := sp_X_tellParts) (by decide) (by decide) (spL_ok (List.forall_mem_cons.mpr ⟨ok_H_foresee, (List.forall_mem_cons.mpr ⟨ok_H_addKite, (List.forall_mem_cons.mpr ⟨ok_N_kindOf, (List.forall_mem_cons.mpr ⟨ok_N_numberOf, (fun q h => absurd h List.not_mem_nil)⟩)⟩)⟩)⟩)) (Does_aS0 (Nat.le_of_ble_eq_true rfl) (fun sc i  σ hi had hp => by
  refine Vf_q ?_ ⟨rfl, rfl⟩
  intro Q hQ
  dsimp only at hQ hp
  show Vf 66 _ _ 0 [.ref (0), .null, .null, .null, .null] [] (emb σ) _

  simp only [rX_tellParts_0, rX_tellParts_1, rX_tellParts_4, rX_tellParts_7, rX_tellParts_8, rX_tellParts_9, ct1_i, ct1_r, ct1_n, true_and, and_true, tl_s, tl_n, le4_0, le4_1, le4_2, le4_3, le4_4, le4_5, isO_r, cl_, emb1, emb2, le_rN, up1_at, up1_up1, sp_X_tellParts_H_foresee, sp_X_tellParts_H_addKite, sp_X_tellParts_N_kindOf, sp_X_tellParts_N_numberOf, obX, obP, obN, obQ, xr_0, xr_1, xr_2, xr_3, xr_4, ob_h i07, ob_h i17, ob_h i27, isO_r, fok_i, rb_0, rb_1, rb_bi, bi_eq0, rb_b2, b2_0, ite_not, ni_0, ni_1, pi_0, pi_1, xi_0, sxi_0, sni_0, q_X_within, Option.toList, List.cons_append, List.nil_append, vh_0 i07, vs_0 i07, vs_0 i17, ss_0 i07, obt_0 i07, qT_at_0 i07, qT_put_0 i07, qT_add_0 i07, vh_1 i07, vs_1 i07, vs_1 i17, ss_1 i07, obt_1 i07, qT_at_1 i07, qT_put_1 i07, qT_add_1 i07, vh_2 i07, vs_2 i07, vs_2 i17, ss_2 i07, obt_2 i07, qT_at_2 i07, qT_put_2 i07, qT_add_2 i07, vh_3 i07, vs_3 i07, vs_3 i17, ss_3 i07, obt_3 i07, qT_at_3 i07, qT_put_3 i07, qT_add_3 i07, vh_4 i07, vs_4 i07, vs_4 i17, ss_4 i07, obt_4 i07, qT_at_4 i07, qT_put_4 i07, qT_add_4 i07, vh_5 i07, vs_5 i07, vs_5 i17, ss_5 i07, obt_5 i07, qT_at_5 i07, qT_put_5 i07, qT_add_5 i07, vh_6 i07, vs_6 i07, vs_6 i17, ss_6 i07, obt_6 i07, qT_at_6 i07, qT_put_6 i07, qT_add_6 i07, vh_7 i07, vs_7 i07, vs_7 i17, ss_7 i07, obt_7 i07, qT_at_7 i07, qT_put_7 i07, qT_add_7 i07, vh_7 i17, obt_7 i17, qT_at_7 i17]
  exact lp_X_tellParts sp_X_tellParts_H_foresee sp_X_tellParts_H_addKite sp_X_tellParts_N_kindOf sp_X_tellParts_N_numberOf _ hp.1.2 _ 0 σ _ _ _ (Nat.zero_add _) (sm_eq hp.1) (of_eq_true ct1_n) (of_eq_true ct1_n) hp.2 hQ))
/-- the note is read -/
def rdN (σ : SG) : SG := up1 σ 7 (ffW (σ 7)).2
def teF (σ : SG) : Int32 × SG := if (ffW (σ 7)).1 = -5 then (if eoF (rdN σ) = 0 then (σ 7 2 1, σ) else (eoF (rdN σ), rdN σ)) else (-100 - (ffW (σ 7)).1, rdN σ)
def teA (σ : SG) : Int32 × SG := if (ffW (σ 7)).1 = -5 then (if eoF (rdN σ) = 0 then (rdN σ 7 2 1, tpW (rcW (rdN σ))) else (eoF (rdN σ), rdN σ)) else (-100 - (ffW (σ 7)).1, rdN σ)
abbrev teP (σ : SG) : Prop := ltP (rdN σ) ∧ ((ffW (σ 7)).1 = -5 → sm (rdN σ 7 2 1) 60 ∧ (eoF (rdN σ) = 0 → tpP (rdN σ 7 4) 0 (rdN σ 7 2 1).toNatClampNeg (rdN σ 0 8 0)))
def sp_X_tellAll : Nat → Sp := spL [(51, f_N_findFault), (65, f_X_errorOfParts), (54, f_P_record), (66, f_X_tellParts)]
theorem sp_X_tellAll_N_findFault : sp_X_tellAll 51 = f_N_findFault := rfl
theorem sp_X_tellAll_X_errorOfParts : sp_X_tellAll 65 = f_X_errorOfParts := rfl
theorem sp_X_tellAll_P_record : sp_X_tellAll 54 = f_P_record := rfl
theorem sp_X_tellAll_X_tellParts : sp_X_tellAll 66 = f_X_tellParts := rfl
def f_X_tellAll : Sp := aS 9 (fun _ => 0) 0 (gL0 (fun _  σ => (teP σ, some (.int (teA σ).1), (teA σ).2)))
theorem q_X_tellAll {σ : SG} : f_X_tellAll [.ref 0] (emb σ) = (teP σ, some (.int (teA σ).1), emb ((teA σ).2)) := aS0_at (ad := (fun _ => 0)) (i := hI 0) (by decide) rfl
set_option maxHeartbeats 4000000 in
set_option maxRecDepth 20000 in
theorem ok_X_tellAll : SpecOK 77 f_X_tellAll := SpecOK.of (sp := sp_X_tellAll) (by decide) (by decide) (spL_ok (List.forall_mem_cons.mpr ⟨ok_N_findFault, (List.forall_mem_cons.mpr ⟨ok_X_errorOfParts, (List.forall_mem_cons.mpr ⟨ok_P_record, (List.forall_mem_cons.mpr ⟨ok_X_tellParts, (fun q h => absurd h List.not_mem_nil)⟩)⟩)⟩)⟩)) (Does_aS0 (Nat.le_of_ble_eq_true rfl) (fun sc i  σ hi had hp => by
  refine Vf_q ?_ ⟨rfl, rfl⟩
  intro Q hQ
  dsimp only at hQ hp
  show Vf 77 _ _ 0 [.ref (0), .null, .null] [] (emb σ) _

  have hr : ∀ ρ : SG, up1 ρ 7 (ffW (ρ 7)).2 = rdN ρ := fun _ => rfl
  simp only [rX_tellAll_0, rX_tellAll_1, rX_tellAll_4, rX_tellAll_7, rX_tellAll_8, rX_tellAll_9, rX_tellAll_11, rX_tellAll_14, rX_tellAll_16, rX_tellAll_17, rX_tellAll_18, rX_tellAll_19, rX_tellAll_20, rX_tellAll_23, rX_tellAll_24, rX_tellAll_25, rX_tellAll_28, rX_tellAll_29, rX_tellAll_30, rX_tellAll_31, rX_tellAll_34, rX_tellAll_35, rX_tellAll_38, rX_tellAll_41, rX_tellAll_42, rX_tellAll_45, rX_tellAll_46, rX_tellAll_49, rX_tellAll_52, ct1_i, ct1_r, ct1_n, true_and, and_true, tl_s, tl_n, le4_0, le4_1, le4_2, le4_3, le4_4, le4_5, isO_r, cl_, emb1, emb2, le_rN, up1_at, up1_up1, sp_X_tellAll_N_findFault, sp_X_tellAll_X_errorOfParts, sp_X_tellAll_P_record, sp_X_tellAll_X_tellParts, obX, obP, obN, obQ, xr_0, xr_1, xr_2, xr_3, xr_4, ob_h i07, ob_h i17, ob_h i27, isO_r, fok_i, rb_0, rb_1, rb_bi, bi_eq0, rb_b2, b2_0, ite_not, ni_0, ni_1, pi_0, pi_1, xi_0, sxi_0, sni_0, q_X_within, Option.toList, List.cons_append, List.nil_append, vh_0 i07, vs_0 i07, vs_0 i17, ss_0 i07, obt_0 i07, qT_at_0 i07, qT_put_0 i07, qT_add_0 i07, vh_1 i07, vs_1 i07, vs_1 i17, ss_1 i07, obt_1 i07, qT_at_1 i07, qT_put_1 i07, qT_add_1 i07, vh_2 i07, vs_2 i07, vs_2 i17, ss_2 i07, obt_2 i07, qT_at_2 i07, qT_put_2 i07, qT_add_2 i07, vh_3 i07, vs_3 i07, vs_3 i17, ss_3 i07, obt_3 i07, qT_at_3 i07, qT_put_3 i07, qT_add_3 i07, vh_4 i07, vs_4 i07, vs_4 i17, ss_4 i07, obt_4 i07, qT_at_4 i07, qT_put_4 i07, qT_add_4 i07, vh_5 i07, vs_5 i07, vs_5 i17, ss_5 i07, obt_5 i07, qT_at_5 i07, qT_put_5 i07, qT_add_5 i07, vh_6 i07, vs_6 i07, vs_6 i17, ss_6 i07, obt_6 i07, qT_at_6 i07, qT_put_6 i07, qT_add_6 i07, vh_7 i07, vs_7 i07, vs_7 i17, ss_7 i07, obt_7 i07, qT_at_7 i07, qT_put_7 i07, qT_add_7 i07, vh_7 i17, obt_7 i17, qT_at_7 i17, q_N_findFault, hr, q_X_errorOfParts, q_P_record hp.1, q_X_tellParts]
  unfold teA at hQ
  rcases Decidable.em ((ffW (σ 7)).1 = -5) with h1 | h1
  case inr => rw [if_neg h1] at hQ ⊢; exact hQ
  rw [if_pos h1] at hQ ⊢
  have h2 := hp.2 h1
  refine ⟨h2.1, ?_⟩
  rcases Decidable.em (eoF (rdN σ) = 0) with h3 | h3
  case inr => rw [if_neg h3] at hQ ⊢; exact hQ
  rw [if_pos h3] at hQ ⊢
  have k2 : rcW (rdN σ) 7 2 = rdN σ 7 2 := rcW_7k _ (by decide)
  have k4 : rcW (rdN σ) 7 4 = rdN σ 7 4 := rcW_7k _ (by decide)
  have k0 : rcW (rdN σ) 0 = rdN σ 0 := rcW_0 _
  refine ⟨?_, ?_⟩
  · rw [k2, k4, k0]
    exact ⟨h2.1, h2.2 h3⟩
  · have e : tpW (rcW (rdN σ)) 7 2 1 = rdN σ 7 2 1 := by
      unfold tpW
      rw [up1_ne _ _ (by decide), k2]
    rw [e]
    exact hQ))
