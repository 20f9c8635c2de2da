/-! THE CHECK: reasons, why, the longest hire -/
def rnM (v : HV) (k m h t : Int32) : Int32 :=
  if uk v k 0 = 0 then (if icF v k (v 1 0) h = true then 2 else
    if v 1 0 < 1000 then (if v 1 (17 + v 1 0).toNatClampNeg < uk v k 1 then 3 else if sfM v m = -5 then 4 else if ltF v t = true then 5 else if 1000 < v 1 0 + h then 6 else 0)
    else (if sfM v m = -5 then 4 else if ltF v t = true then 5 else if 1000 < v 1 0 + h then 6 else 0))
  else 1
theorem lt_999 {x : Int32} (h : sm x 1000) (h2 : x < 1000) : sm x 999 := by
  refine ⟨h.1, ?_⟩
  have hk := h.2
  rw [sm_eq h] at h2
  change oN _ < oN 1000 at h2
  rw [oN_lt (by omega) (by decide)] at h2
  omega
set_option maxHeartbeats 1000000 in
set_option maxRecDepth 20000 in
theorem lp_M_reason {sp : Nat → Sp} (h122 : sp 122 = f_M_spoolFor) (h123 : sp 123 = f_M_lacksTails) {sc : Nat × (Nat → Int32)} {k m h t n : Int32} {Q : Option Value → MS → Prop} (σ : SG) (hs : sm (σ 8 1 7) 10) (hQ : Q (some (.int (if sfM (σ 8) m = -5 then 4 else if ltF (σ 8) t = true then 5 else if 1000 < n + h then 6 else 0))) (emb σ)) : Vf 151 sp ((134, SLT), sc) 69 [.ref 126, .int k, .int m, .int h, .int t, .int n] [] (emb σ) Q := by
  simp only [rM_reason_69, rM_reason_70, rM_reason_71, rM_reason_74, rM_reason_76, rM_reason_79, rM_reason_80, rM_reason_83, rM_reason_84, rM_reason_86, rM_reason_89, rM_reason_92, rM_reason_93, rM_reason_96, rM_reason_98, rM_reason_99, rM_reason_100, rM_reason_103, rM_reason_106, rM_reason_108, rM_reason_111, rM_reason_112, ct1_i, ct1_r, ct1_n, true_and, and_true, tl_s, tl_n, le4_0, le4_1, le4_2, le4_3, le4_4, le4_5, isO_r, cl_, emb1, emb2, le_rN, h122, h123, obM, mr_0, mr_1, mr_2, mr_3, mr_5, mr_7, mr_11, mi_0, mi_1, mi_2, mi_3, mi_4, mi_5, mi_6, smi_0, smi_1, smi_2, smi_3, smi_4, smi_5, smi_6, fok_i, fok_b1, rb_0, rb_1, rb_bi, bi_eq0, rb_b2, b2_0, ite_not, isO_r, Option.toList, List.cons_append, List.nil_append, q_M_in, q_M_atKite, q_M_atSpool, q_M_atHire, q_M_tail, il_0, tn_0, il_1, tn_1, il_2, tn_2, il_3, tn_3, il_4, tn_4, il_5, tn_5, il_6, tn_6, il_7, tn_7, il_8, tn_8, il_9, tn_9, il_10, tn_10, il_11, tn_11, il_12, tn_12, il_13, tn_13, il_14, tn_14, il_15, tn_15, il_16, tn_16, il_17, tn_17, il_1257, tn_1257, il_1258, tn_1258, il_1259, tn_1259, il_1260, tn_1260, sm2_0, sm2_1, sm2_2, sm6_0, sm6_1, sm6_2, sm6_3, sm6_4, sm6_5, sm6_6, m1_ok, m1_al, m1_rd, m1_re, m1_ln, m1_s, m6_ok, m6_al, m6_rd, m6_re, m6_ln, m6_s, m7_ok, m7_al, m7_rd, m7_re, m7_ln, m7_s, q_M_spoolFor, q_M_lacksTails, hs]
  rcases Decidable.em (sfM (σ 8) m = -5) with h1 | h1
  · rw [if_pos h1] at hQ ⊢; exact hQ
  rw [if_neg h1] at hQ ⊢
  rcases b2_cases (ltF (σ 8) t) with h2 | h2
  · rw [if_neg (by rw [h2]; decide)]
    rw [if_pos h2] at hQ
    exact hQ
  · rw [if_pos h2]
    rw [if_neg (by rw [h2]; decide)] at hQ
    rcases Decidable.em (1000 < n + h) with h3 | h3
    case inl => rw [if_pos h3] at hQ ⊢; exact hQ
    rw [if_neg h3] at hQ ⊢
    exact hQ
abbrev rnP (v : HV) (k h : Int32) : Prop := sm (v 1 0) 1000 ∧ sm k 15 ∧ sm h 12 ∧ sm (v 1 7) 10

def sp_M_reason : Nat → Sp := spL [(99, f_M_atKite), (138, f_M_isCalled), (122, f_M_spoolFor), (123, f_M_lacksTails)]
theorem sp_M_reason_M_atKite : sp_M_reason 99 = f_M_atKite := rfl
theorem sp_M_reason_M_isCalled : sp_M_reason 138 = f_M_isCalled := rfl
theorem sp_M_reason_M_spoolFor : sp_M_reason 122 = f_M_spoolFor := rfl
theorem sp_M_reason_M_lacksTails : sp_M_reason 123 = f_M_lacksTails := rfl
def f_M_reason : Sp := aS 9 (fun _ => 126) 4 (gL4 (fun _ k m h t σ => (rnP (σ 8) k h, some (.int (rnM (σ 8) k m h t)), σ)))
theorem q_M_reason {k m h t : Int32} {σ : SG} : f_M_reason [.ref 126, .int k, .int m, .int h, .int t] (emb σ) = (rnP (σ 8) k h, some (.int (rnM (σ 8) k m h t)), emb (σ)) := aS4_at (ad := (fun _ => 126)) (i := hI 126) (by decide) rfl
set_option maxHeartbeats 600000 in
set_option maxRecDepth 20000 in
theorem ok_M_reason : SpecOK 151 f_M_reason := SpecOK.of (sp := sp_M_reason) (by decide) (by decide) (spL_ok (List.forall_mem_cons.mpr ⟨ok_M_atKite, (List.forall_mem_cons.mpr ⟨ok_M_isCalled, (List.forall_mem_cons.mpr ⟨ok_M_spoolFor, (List.forall_mem_cons.mpr ⟨ok_M_lacksTails, (fun q h => absurd h List.not_mem_nil)⟩)⟩)⟩)⟩)) (Does_aS4 (Nat.le_of_ble_eq_true rfl) (fun sc i k m h t σ hi had hp => by
  refine Vf_q ?_ ⟨rfl, rfl⟩
  intro Q hQ
  dsimp only at hQ hp
  show Vf 151 _ _ 0 [.ref (126), .int k, .int m, .int h, .int t, .null] [] (emb σ) _

  obtain ⟨h1, h2, h3, h4⟩ := hp
  unfold rnM at hQ
  simp only [rM_reason_0, rM_reason_1, rM_reason_4, rM_reason_5, rM_reason_6, rM_reason_8, rM_reason_9, rM_reason_12, rM_reason_13, rM_reason_14, rM_reason_17, rM_reason_18, rM_reason_21, rM_reason_22, rM_reason_23, rM_reason_24, rM_reason_25, rM_reason_27, rM_reason_28, rM_reason_31, rM_reason_34, rM_reason_35, rM_reason_36, rM_reason_38, rM_reason_41, ct1_i, ct1_r, ct1_n, true_and, and_true, tl_s, tl_n, le4_0, le4_1, le4_2, le4_3, le4_4, le4_5, isO_r, cl_, emb1, emb2, le_rN, up1_at, up1_up1, sp_M_reason_M_atKite, sp_M_reason_M_isCalled, sp_M_reason_M_spoolFor, sp_M_reason_M_lacksTails, obM, mr_0, mr_1, mr_2, mr_3, mr_5, mr_7, mr_11, mi_0, mi_1, mi_2, mi_3, mi_4, mi_5, mi_6, smi_0, smi_1, smi_2, smi_3, smi_4, smi_5, smi_6, fok_i, fok_b1, rb_0, rb_1, rb_bi, bi_eq0, rb_b2, b2_0, ite_not, isO_r, Option.toList, List.cons_append, List.nil_append, q_M_in, q_M_atKite, q_M_atSpool, q_M_atHire, q_M_tail, il_0, tn_0, il_1, tn_1, il_2, tn_2, il_3, tn_3, il_4, tn_4, il_5, tn_5, il_6, tn_6, il_7, tn_7, il_8, tn_8, il_9, tn_9, il_10, tn_10, il_11, tn_11, il_12, tn_12, il_13, tn_13, il_14, tn_14, il_15, tn_15, il_16, tn_16, il_17, tn_17, il_1257, tn_1257, il_1258, tn_1258, il_1259, tn_1259, il_1260, tn_1260, sm2_0, sm2_1, sm2_2, sm6_0, sm6_1, sm6_2, sm6_3, sm6_4, sm6_5, sm6_6, m1_ok, m1_al, m1_rd, m1_re, m1_ln, m1_s, m6_ok, m6_al, m6_rd, m6_re, m6_ln, m6_s, m7_ok, m7_al, m7_rd, m7_re, m7_ln, m7_s, q_M_isCalled, h1, h2, h3, iK_0 h2]
  rcases Decidable.em (uk (σ 8) k 0 = 0) with c1 | c1
  case inr => rw [if_neg c1] at hQ ⊢; exact hQ
  rw [if_pos c1] at hQ ⊢
  rcases b2_cases (icF (σ 8) k (σ 8 1 0) h) with c2 | c2
  · rw [if_neg (by rw [c2]; decide)]
    rw [if_pos c2] at hQ
    exact hQ
  rw [if_pos c2]
  rw [if_neg (by rw [c2]; decide)] at hQ
  rcases Decidable.em (σ 8 1 0 < 1000) with c3 | c3
  · rw [if_pos c3] at hQ ⊢
    have h9 := lt_999 h1 c3
    simp only [rM_reason_44, rM_reason_45, rM_reason_48, rM_reason_50, rM_reason_52, rM_reason_53, rM_reason_54, rM_reason_55, rM_reason_58, rM_reason_59, rM_reason_60, rM_reason_63, rM_reason_64, rM_reason_67, rM_reason_68, ct1_i, ct1_r, ct1_n, true_and, and_true, tl_s, tl_n, le4_0, le4_1, le4_2, le4_3, le4_4, le4_5, isO_r, cl_, emb1, emb2, le_rN, up1_at, up1_up1, sp_M_reason_M_atKite, sp_M_reason_M_isCalled, sp_M_reason_M_spoolFor, sp_M_reason_M_lacksTails, obM, mr_0, mr_1, mr_2, mr_3, mr_5, mr_7, mr_11, mi_0, mi_1, mi_2, mi_3, mi_4, mi_5, mi_6, smi_0, smi_1, smi_2, smi_3, smi_4, smi_5, smi_6, fok_i, fok_b1, rb_0, rb_1, rb_bi, bi_eq0, rb_b2, b2_0, ite_not, isO_r, Option.toList, List.cons_append, List.nil_append, q_M_in, q_M_atKite, q_M_atSpool, q_M_atHire, q_M_tail, il_0, tn_0, il_1, tn_1, il_2, tn_2, il_3, tn_3, il_4, tn_4, il_5, tn_5, il_6, tn_6, il_7, tn_7, il_8, tn_8, il_9, tn_9, il_10, tn_10, il_11, tn_11, il_12, tn_12, il_13, tn_13, il_14, tn_14, il_15, tn_15, il_16, tn_16, il_17, tn_17, il_1257, tn_1257, il_1258, tn_1258, il_1259, tn_1259, il_1260, tn_1260, sm2_0, sm2_1, sm2_2, sm6_0, sm6_1, sm6_2, sm6_3, sm6_4, sm6_5, sm6_6, m1_ok, m1_al, m1_rd, m1_re, m1_ln, m1_s, m6_ok, m6_al, m6_rd, m6_re, m6_ln, m6_s, m7_ok, m7_al, m7_rd, m7_re, m7_ln, m7_s, iW h9, iK_1 h2]
    rcases Decidable.em (σ 8 1 (17 + σ 8 1 0).toNatClampNeg < uk (σ 8) k 1) with c4 | c4
    · rw [if_pos c4] at hQ ⊢
      exact hQ
    · rw [if_neg c4] at hQ ⊢
      exact lp_M_reason sp_M_reason_M_spoolFor sp_M_reason_M_lacksTails σ h4 hQ
  · rw [if_neg c3] at hQ ⊢
    exact lp_M_reason sp_M_reason_M_spoolFor sp_M_reason_M_lacksTails σ h4 hQ))
