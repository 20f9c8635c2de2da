/-! THE CHECK: why, the longest hire -/
def wyM (v : HV) (k m h t : Int32) : Int32 := if wi k 0 (v 1 6 - 1) then (if ihP m h t then rnM v k m h t else -2) else -1

def sp_M_why : Nat → Sp := spL [(119, f_M_isKite), (120, f_M_isHire), (151, f_M_reason)]
theorem sp_M_why_M_isKite : sp_M_why 119 = f_M_isKite := rfl
theorem sp_M_why_M_isHire : sp_M_why 120 = f_M_isHire := rfl
theorem sp_M_why_M_reason : sp_M_why 151 = f_M_reason := rfl
def f_M_why : Sp := aS 9 (fun _ => 126) 4 (gL4 (fun _ k m h t σ => (sm (σ 8 1 0) 1000 ∧ sm (σ 8 1 6) 16 ∧ sm (σ 8 1 7) 10, some (.int (wyM (σ 8) k m h t)), σ)))
theorem q_M_why {k m h t : Int32} {σ : SG} : f_M_why [.ref 126, .int k, .int m, .int h, .int t] (emb σ) = (sm (σ 8 1 0) 1000 ∧ sm (σ 8 1 6) 16 ∧ sm (σ 8 1 7) 10, some (.int (wyM (σ 8) k m h t)), emb (σ)) := aS4_at (ad := (fun _ => 126)) (i := hI 126) (by decide) rfl
set_option maxHeartbeats 600000 in
set_option maxRecDepth 20000 in
theorem ok_M_why : SpecOK 163 f_M_why := SpecOK.of (sp := sp_M_why) (by decide) (by decide) (spL_ok (List.forall_mem_cons.mpr ⟨ok_M_isKite, (List.forall_mem_cons.mpr ⟨ok_M_isHire, (List.forall_mem_cons.mpr ⟨ok_M_reason, (fun q h => absurd h List.not_mem_nil)⟩)⟩)⟩)) (Does_aS4 (Nat.le_of_ble_eq_true rfl) (fun sc i k m h t σ hi had hp => by
  refine Vf_q ?_ ⟨rfl, rfl⟩
  intro Q hQ
  dsimp only at hQ hp
  show Vf 163 _ _ 0 [.ref (126), .int k, .int m, .int h, .int t] [] (emb σ) _

  unfold wyM at hQ
  simp only [rM_why_0, rM_why_1, rM_why_2, rM_why_5, rM_why_8, rM_why_9, rM_why_12, rM_why_13, rM_why_14, rM_why_16, rM_why_19, rM_why_22, rM_why_23, rM_why_24, rM_why_25, rM_why_26, rM_why_28, rM_why_31, rM_why_34, rM_why_36, ct1_i, ct1_r, ct1_n, true_and, and_true, tl_s, tl_n, le4_0, le4_1, le4_2, le4_3, le4_4, le4_5, isO_r, cl_, emb1, emb2, le_rN, up1_at, up1_up1, sp_M_why_M_isKite, sp_M_why_M_isHire, sp_M_why_M_reason, obM, mr_0, mr_1, mr_2, mr_3, mr_5, mr_7, mr_11, mi_0, mi_1, mi_2, mi_3, mi_4, mi_5, mi_6, smi_0, smi_1, smi_2, smi_3, smi_4, smi_5, smi_6, fok_i, fok_b1, rb_0, rb_1, rb_bi, bi_eq0, rb_b2, b2_0, ite_not, isO_r, Option.toList, List.cons_append, List.nil_append, q_M_in, q_M_atKite, q_M_atSpool, q_M_atHire, q_M_tail, il_0, tn_0, il_1, tn_1, il_2, tn_2, il_3, tn_3, il_4, tn_4, il_5, tn_5, il_6, tn_6, il_7, tn_7, il_8, tn_8, il_9, tn_9, il_10, tn_10, il_11, tn_11, il_12, tn_12, il_13, tn_13, il_14, tn_14, il_15, tn_15, il_16, tn_16, il_17, tn_17, il_1257, tn_1257, il_1258, tn_1258, il_1259, tn_1259, il_1260, tn_1260, sm2_0, sm2_1, sm2_2, sm6_0, sm6_1, sm6_2, sm6_3, sm6_4, sm6_5, sm6_6, m1_ok, m1_al, m1_rd, m1_re, m1_ln, m1_s, m6_ok, m6_al, m6_rd, m6_re, m6_ln, m6_s, m7_ok, m7_al, m7_rd, m7_re, m7_ln, m7_s, q_M_isKite, q_M_isHire, q_M_reason]
  rcases Decidable.em (wi k 0 (σ 8 1 6 - 1)) with h1 | h1
  case inr => rw [if_neg h1] at hQ ⊢; exact hQ
  rw [if_pos h1] at hQ ⊢
  rcases Decidable.em (ihP m h t) with h2 | h2
  case inr => rw [if_neg h2] at hQ ⊢; exact hQ
  rw [if_pos h2] at hQ ⊢
  exact ⟨⟨hp.1, wi_sub (by decide) hp.2.1 h1, wi_sm (n := 12) h2.2.1 (by decide) (by decide), hp.2.2⟩, hQ⟩))
def loM (v : HV) (k m : Int32) : Nat → Nat → Int32 → Int32
  | _, 0, d => d
  | r, n + 1, d => loM v k m (r + 1) n (if rnM v k m (oN r) 0 = 0 then oN r else d)
set_option maxHeartbeats 1000000 in
set_option maxRecDepth 20000 in
theorem lp_M_longestOf {sp : Nat → Sp} (h151 : sp 151 = f_M_reason) {sc : Nat × (Nat → Int32)} {k m : Int32} {Q : Option Value → MS → Prop} (σ : SG) (hs : sm (σ 8 1 0) 1000 ∧ sm k 15 ∧ sm (σ 8 1 7) 10) : ∀ (q n : Nat) (d : Int32), n + q = 13 → Q (some (.int (loM (σ 8) k m n q d))) (emb σ) → Vf 164 sp ((134, SLT), sc) 6 [.ref 126, .int k, .int m, .int d, .int (oN n)] [] (emb σ) Q := by
  intro q
  induction q with
  | zero =>
    intro n d hn hQ
    have : 12 < oN n := by show oN 12 < oN n; rw [oN_lt (by decide) (by omega)]; omega
    rw [rM_longestOf_6]
    simp only [rM_longestOf_8, rM_longestOf_10, rM_longestOf_13, rM_longestOf_14, rM_longestOf_15, rM_longestOf_16, rM_longestOf_18, rM_longestOf_19, rM_longestOf_22, rM_longestOf_25, rM_longestOf_27, rM_longestOf_30, rM_longestOf_31, rM_longestOf_32, rM_longestOf_35, rM_longestOf_38, rM_longestOf_39, ct1_i, ct1_r, ct1_n, true_and, and_true, tl_s, tl_n, le4_0, le4_1, le4_2, le4_3, le4_4, le4_5, isO_r, obM, mr_0, mr_1, mr_2, mr_3, mr_5, mr_7, mr_11, mi_0, mi_1, mi_2, mi_3, mi_4, mi_5, mi_6, smi_0, smi_1, smi_2, smi_3, smi_4, smi_5, smi_6, fok_i, fok_b1, rb_0, rb_1, rb_bi, bi_eq0, rb_b2, b2_0, ite_not, isO_r, Option.toList, List.cons_append, List.nil_append, q_M_in, q_M_atKite, q_M_atSpool, q_M_atHire, q_M_tail, il_0, tn_0, il_1, tn_1, il_2, tn_2, il_3, tn_3, il_4, tn_4, il_5, tn_5, il_6, tn_6, il_7, tn_7, il_8, tn_8, il_9, tn_9, il_10, tn_10, il_11, tn_11, il_12, tn_12, il_13, tn_13, il_14, tn_14, il_15, tn_15, il_16, tn_16, il_17, tn_17, il_1257, tn_1257, il_1258, tn_1258, il_1259, tn_1259, il_1260, tn_1260, sm2_0, sm2_1, sm2_2, sm6_0, sm6_1, sm6_2, sm6_3, sm6_4, sm6_5, sm6_6, m1_ok, m1_al, m1_rd, m1_re, m1_ln, m1_s, m6_ok, m6_al, m6_rd, m6_re, m6_ln, m6_s, m7_ok, m7_al, m7_rd, m7_re, m7_ln, m7_s, if_pos this]
    exact hQ
  | succ q ih =>
    intro n d hn hQ
    have : ¬ 12 < oN n := by show ¬ oN 12 < oN n; rw [oN_lt (by decide) (by omega)]; omega
    have h12 : sm (oN n) 12 := sm_oN (by omega) (by decide)
    simp only [loM] at hQ
    rw [rM_longestOf_6]
    simp only [rM_longestOf_8, rM_longestOf_10, rM_longestOf_13, rM_longestOf_14, rM_longestOf_15, rM_longestOf_16, rM_longestOf_18, rM_longestOf_19, rM_longestOf_22, rM_longestOf_25, rM_longestOf_27, rM_longestOf_30, rM_longestOf_31, rM_longestOf_32, rM_longestOf_35, rM_longestOf_38, rM_longestOf_39, ct1_i, ct1_r, ct1_n, true_and, and_true, tl_s, tl_n, le4_0, le4_1, le4_2, le4_3, le4_4, le4_5, isO_r, cl_, emb1, emb2, le_rN, h151, obM, mr_0, mr_1, mr_2, mr_3, mr_5, mr_7, mr_11, mi_0, mi_1, mi_2, mi_3, mi_4, mi_5, mi_6, smi_0, smi_1, smi_2, smi_3, smi_4, smi_5, smi_6, fok_i, fok_b1, rb_0, rb_1, rb_bi, bi_eq0, rb_b2, b2_0, ite_not, isO_r, Option.toList, List.cons_append, List.nil_append, q_M_in, q_M_atKite, q_M_atSpool, q_M_atHire, q_M_tail, il_0, tn_0, il_1, tn_1, il_2, tn_2, il_3, tn_3, il_4, tn_4, il_5, tn_5, il_6, tn_6, il_7, tn_7, il_8, tn_8, il_9, tn_9, il_10, tn_10, il_11, tn_11, il_12, tn_12, il_13, tn_13, il_14, tn_14, il_15, tn_15, il_16, tn_16, il_17, tn_17, il_1257, tn_1257, il_1258, tn_1258, il_1259, tn_1259, il_1260, tn_1260, sm2_0, sm2_1, sm2_2, sm6_0, sm6_1, sm6_2, sm6_3, sm6_4, sm6_5, sm6_6, m1_ok, m1_al, m1_rd, m1_re, m1_ln, m1_s, m6_ok, m6_al, m6_rd, m6_re, m6_ln, m6_s, m7_ok, m7_al, m7_rd, m7_re, m7_ln, m7_s, q_M_reason, if_neg this, h12, hs.1, hs.2.1, hs.2.2, oN_succ]
    refine ⟨⟨hs.1, hs.2.1, h12, hs.2.2⟩, ?_⟩
    rcases Decidable.em (rnM (σ 8) k m (oN n) 0 = 0) with h1 | h1
    · rw [if_pos h1] at hQ ⊢
      exact ih (n + 1) _ (by omega) hQ
    · rw [if_neg h1] at hQ ⊢
      exact ih (n + 1) _ (by omega) hQ
def sp_M_longestOf : Nat → Sp := spL [(151, f_M_reason)]
theorem sp_M_longestOf_M_reason : sp_M_longestOf 151 = f_M_reason := rfl
def f_M_longestOf : Sp := aS 9 (fun _ => 126) 2 (gL2 (fun _ k m σ => (sm (σ 8 1 0) 1000 ∧ sm k 15 ∧ sm (σ 8 1 7) 10, some (.int (loM (σ 8) k m 1 12 (-5))), σ)))
theorem q_M_longestOf {k m : Int32} {σ : SG} : f_M_longestOf [.ref 126, .int k, .int m] (emb σ) = (sm (σ 8 1 0) 1000 ∧ sm k 15 ∧ sm (σ 8 1 7) 10, some (.int (loM (σ 8) k m 1 12 (-5))), emb (σ)) := aS2_at (ad := (fun _ => 126)) (i := hI 126) (by decide) rfl
set_option maxHeartbeats 600000 in
set_option maxRecDepth 20000 in
theorem ok_M_longestOf : SpecOK 164 f_M_longestOf := SpecOK.of (sp := sp_M_longestOf) (by decide) (by decide) (spL_ok (List.forall_mem_cons.mpr ⟨ok_M_reason, (fun q h => absurd h List.not_mem_nil)⟩)) (Does_aS2 (Nat.le_of_ble_eq_true rfl) (fun sc i k m σ hi had hp => by
  refine Vf_q ?_ ⟨rfl, rfl⟩
  intro Q hQ
  dsimp only at hQ hp
  show Vf 164 _ _ 0 [.ref (126), .int k, .int m, .null, .null] [] (emb σ) _

  simp only [rM_longestOf_0, rM_longestOf_2, rM_longestOf_3, rM_longestOf_4, ct1_i, ct1_r, ct1_n, true_and, and_true, tl_s, tl_n, le4_0, le4_1, le4_2, le4_3, le4_4, le4_5, isO_r]
  exact lp_M_longestOf sp_M_longestOf_M_reason σ hp 12 1 _ rfl hQ))
