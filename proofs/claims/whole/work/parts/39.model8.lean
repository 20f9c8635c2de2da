/-! THE CHECK: what is told; searches -/
theorem wi_sub {x n : Int32} {b : Nat} (hb : b < 1000) (hn : sm n (b + 1)) (h : wi x 0 (n - 1)) : sm x b := by
  obtain ⟨h1, h2⟩ := h
  have hk := hn.2
  refine ⟨h1, ?_⟩
  rw [sm_eq hn] at h2
  rw [Int32.lt_iff_toInt_lt, Int32.toInt_sub, oN_toInt (by omega)] at h2
  have e1 : (1 : Int32).toInt = 1 := rfl
  rw [e1, Int.bmod_eq_of_le (by omega) (by omega)] at h2
  rw [Int32.lt_iff_toInt_lt, Int32.toInt_zero] at h1
  show x.toInt.toNat ≤ b
  omega

def sp_M_isKite : Nat → Sp := spL [(95, f_M_in)]
theorem sp_M_isKite_M_in : sp_M_isKite 95 = f_M_in := rfl
def f_M_isKite : Sp := aS 9 (fun _ => 126) 1 (gL1 (fun _ x σ => (True, some (.int (bi (wi x 0 (σ 8 1 6 - 1)))), σ)))
theorem q_M_isKite {x : Int32} {σ : SG} : f_M_isKite [.ref 126, .int x] (emb σ) = (True, some (.int (bi (wi x 0 (σ 8 1 6 - 1)))), emb (σ)) := aS1_at (ad := (fun _ => 126)) (i := hI 126) (by decide) rfl
set_option maxHeartbeats 600000 in
set_option maxRecDepth 20000 in
theorem ok_M_isKite : SpecOK 119 f_M_isKite := SpecOK.of (sp := sp_M_isKite) (by decide) (by decide) (spL_ok (List.forall_mem_cons.mpr ⟨ok_M_in, (fun q h => absurd h List.not_mem_nil)⟩)) (Does_aS1 (Nat.le_of_ble_eq_true rfl) (fun sc i x σ hi had hp => by
  refine Vf_q ?_ ⟨rfl, rfl⟩
  intro Q hQ
  dsimp only at hQ hp
  show Vf 119 _ _ 0 [.ref (126), .int x] [] (emb σ) _

  simp only [rM_isKite_0, rM_isKite_1, rM_isKite_2, rM_isKite_3, rM_isKite_6, rM_isKite_8, rM_isKite_9, rM_isKite_10, rM_isKite_11, rM_isKite_14, ct1_i, ct1_r, ct1_n, true_and, and_true, tl_s, tl_n, le4_0, le4_1, le4_2, le4_3, le4_4, le4_5, isO_r, cl_, emb1, emb2, le_rN, up1_at, up1_up1, sp_M_isKite_M_in, obM, mr_0, mr_1, mr_2, mr_3, mr_5, mr_7, mr_11, mi_0, mi_1, mi_2, mi_3, mi_4, mi_5, mi_6, smi_0, smi_1, smi_2, smi_3, smi_4, smi_5, smi_6, fok_i, fok_b1, rb_0, rb_1, rb_bi, bi_eq0, rb_b2, b2_0, ite_not, isO_r, Option.toList, List.cons_append, List.nil_append, q_M_in, q_M_atKite, q_M_atSpool, q_M_atHire, q_M_tail, il_0, tn_0, il_1, tn_1, il_2, tn_2, il_3, tn_3, il_4, tn_4, il_5, tn_5, il_6, tn_6, il_7, tn_7, il_8, tn_8, il_9, tn_9, il_10, tn_10, il_11, tn_11, il_12, tn_12, il_13, tn_13, il_14, tn_14, il_15, tn_15, il_16, tn_16, il_17, tn_17, il_1257, tn_1257, il_1258, tn_1258, il_1259, tn_1259, il_1260, tn_1260, sm2_0, sm2_1, sm2_2, sm6_0, sm6_1, sm6_2, sm6_3, sm6_4, sm6_5, sm6_6, m1_ok, m1_al, m1_rd, m1_re, m1_ln, m1_s, m6_ok, m6_al, m6_rd, m6_re, m6_ln, m6_s, m7_ok, m7_al, m7_rd, m7_re, m7_ln, m7_s]
  exact hQ))
def sp_M_spoolOf : Nat → Sp := spL [(95, f_M_in), (100, f_M_atSpool)]
theorem sp_M_spoolOf_M_in : sp_M_spoolOf 95 = f_M_in := rfl
theorem sp_M_spoolOf_M_atSpool : sp_M_spoolOf 100 = f_M_atSpool := rfl
def f_M_spoolOf : Sp := aS 9 (fun _ => 126) 2 (gL2 (fun _ x y σ => (sm (σ 8 1 7) 10, some (.int (if wi x 0 (σ 8 1 7 - 1) then (if wi y 0 3 then us (σ 8) x y else -2) else -1)), σ)))
theorem q_M_spoolOf {x y : Int32} {σ : SG} : f_M_spoolOf [.ref 126, .int x, .int y] (emb σ) = (sm (σ 8 1 7) 10, some (.int (if wi x 0 (σ 8 1 7 - 1) then (if wi y 0 3 then us (σ 8) x y else -2) else -1)), emb (σ)) := aS2_at (ad := (fun _ => 126)) (i := hI 126) (by decide) rfl
set_option maxHeartbeats 600000 in
set_option maxRecDepth 20000 in
theorem ok_M_spoolOf : SpecOK 130 f_M_spoolOf := SpecOK.of (sp := sp_M_spoolOf) (by decide) (by decide) (spL_ok (List.forall_mem_cons.mpr ⟨ok_M_in, (List.forall_mem_cons.mpr ⟨ok_M_atSpool, (fun q h => absurd h List.not_mem_nil)⟩)⟩)) (Does_aS2 (Nat.le_of_ble_eq_true rfl) (fun sc i x y σ hi had hp => by
  refine Vf_q ?_ ⟨rfl, rfl⟩
  intro Q hQ
  dsimp only at hQ hp
  show Vf 130 _ _ 0 [.ref (126), .int x, .int y] [] (emb σ) _

  rcases Decidable.em (wi x 0 (σ 8 1 7 - 1)) with h1 | h1
  · have hs := wi_sub (by decide) hp h1
    rw [if_pos h1] at hQ
    rcases Decidable.em (wi y 0 3) with h2 | h2
    · have hy : sm y 3 := wi_sm (n := 3) h2 (by decide) (by decide)
      rw [if_pos h2] at hQ
      simp only [rM_spoolOf_0, rM_spoolOf_1, rM_spoolOf_2, rM_spoolOf_3, rM_spoolOf_6, rM_spoolOf_8, rM_spoolOf_9, rM_spoolOf_10, rM_spoolOf_11, rM_spoolOf_14, rM_spoolOf_17, rM_spoolOf_18, rM_spoolOf_21, rM_spoolOf_22, rM_spoolOf_23, rM_spoolOf_24, rM_spoolOf_27, rM_spoolOf_30, rM_spoolOf_31, rM_spoolOf_34, rM_spoolOf_35, rM_spoolOf_36, rM_spoolOf_39, rM_spoolOf_40, rM_spoolOf_43, rM_spoolOf_45, ct1_i, ct1_r, ct1_n, true_and, and_true, tl_s, tl_n, le4_0, le4_1, le4_2, le4_3, le4_4, le4_5, isO_r, cl_, emb1, emb2, le_rN, up1_at, up1_up1, sp_M_spoolOf_M_in, sp_M_spoolOf_M_atSpool, obM, mr_0, mr_1, mr_2, mr_3, mr_5, mr_7, mr_11, mi_0, mi_1, mi_2, mi_3, mi_4, mi_5, mi_6, smi_0, smi_1, smi_2, smi_3, smi_4, smi_5, smi_6, fok_i, fok_b1, rb_0, rb_1, rb_bi, bi_eq0, rb_b2, b2_0, ite_not, isO_r, Option.toList, List.cons_append, List.nil_append, q_M_in, q_M_atKite, q_M_atSpool, q_M_atHire, q_M_tail, il_0, tn_0, il_1, tn_1, il_2, tn_2, il_3, tn_3, il_4, tn_4, il_5, tn_5, il_6, tn_6, il_7, tn_7, il_8, tn_8, il_9, tn_9, il_10, tn_10, il_11, tn_11, il_12, tn_12, il_13, tn_13, il_14, tn_14, il_15, tn_15, il_16, tn_16, il_17, tn_17, il_1257, tn_1257, il_1258, tn_1258, il_1259, tn_1259, il_1260, tn_1260, sm2_0, sm2_1, sm2_2, sm6_0, sm6_1, sm6_2, sm6_3, sm6_4, sm6_5, sm6_6, m1_ok, m1_al, m1_rd, m1_re, m1_ln, m1_s, m6_ok, m6_al, m6_rd, m6_re, m6_ln, m6_s, m7_ok, m7_al, m7_rd, m7_re, m7_ln, m7_s, if_pos h1, if_pos h2, iS_v hs hy]
      exact hQ
    · rw [if_neg h2] at hQ
      simp only [rM_spoolOf_0, rM_spoolOf_1, rM_spoolOf_2, rM_spoolOf_3, rM_spoolOf_6, rM_spoolOf_8, rM_spoolOf_9, rM_spoolOf_10, rM_spoolOf_11, rM_spoolOf_14, rM_spoolOf_17, rM_spoolOf_18, rM_spoolOf_21, rM_spoolOf_22, rM_spoolOf_23, rM_spoolOf_24, rM_spoolOf_27, rM_spoolOf_30, rM_spoolOf_31, rM_spoolOf_34, rM_spoolOf_35, rM_spoolOf_36, rM_spoolOf_39, rM_spoolOf_40, rM_spoolOf_43, rM_spoolOf_45, ct1_i, ct1_r, ct1_n, true_and, and_true, tl_s, tl_n, le4_0, le4_1, le4_2, le4_3, le4_4, le4_5, isO_r, cl_, emb1, emb2, le_rN, up1_at, up1_up1, sp_M_spoolOf_M_in, sp_M_spoolOf_M_atSpool, obM, mr_0, mr_1, mr_2, mr_3, mr_5, mr_7, mr_11, mi_0, mi_1, mi_2, mi_3, mi_4, mi_5, mi_6, smi_0, smi_1, smi_2, smi_3, smi_4, smi_5, smi_6, fok_i, fok_b1, rb_0, rb_1, rb_bi, bi_eq0, rb_b2, b2_0, ite_not, isO_r, Option.toList, List.cons_append, List.nil_append, q_M_in, q_M_atKite, q_M_atSpool, q_M_atHire, q_M_tail, il_0, tn_0, il_1, tn_1, il_2, tn_2, il_3, tn_3, il_4, tn_4, il_5, tn_5, il_6, tn_6, il_7, tn_7, il_8, tn_8, il_9, tn_9, il_10, tn_10, il_11, tn_11, il_12, tn_12, il_13, tn_13, il_14, tn_14, il_15, tn_15, il_16, tn_16, il_17, tn_17, il_1257, tn_1257, il_1258, tn_1258, il_1259, tn_1259, il_1260, tn_1260, sm2_0, sm2_1, sm2_2, sm6_0, sm6_1, sm6_2, sm6_3, sm6_4, sm6_5, sm6_6, m1_ok, m1_al, m1_rd, m1_re, m1_ln, m1_s, m6_ok, m6_al, m6_rd, m6_re, m6_ln, m6_s, m7_ok, m7_al, m7_rd, m7_re, m7_ln, m7_s, if_pos h1, if_neg h2]
      exact hQ
  · rw [if_neg h1] at hQ
    simp only [rM_spoolOf_0, rM_spoolOf_1, rM_spoolOf_2, rM_spoolOf_3, rM_spoolOf_6, rM_spoolOf_8, rM_spoolOf_9, rM_spoolOf_10, rM_spoolOf_11, rM_spoolOf_14, rM_spoolOf_17, rM_spoolOf_18, rM_spoolOf_21, rM_spoolOf_22, rM_spoolOf_23, rM_spoolOf_24, rM_spoolOf_27, rM_spoolOf_30, rM_spoolOf_31, rM_spoolOf_34, rM_spoolOf_35, rM_spoolOf_36, rM_spoolOf_39, rM_spoolOf_40, rM_spoolOf_43, rM_spoolOf_45, ct1_i, ct1_r, ct1_n, true_and, and_true, tl_s, tl_n, le4_0, le4_1, le4_2, le4_3, le4_4, le4_5, isO_r, cl_, emb1, emb2, le_rN, up1_at, up1_up1, sp_M_spoolOf_M_in, sp_M_spoolOf_M_atSpool, obM, mr_0, mr_1, mr_2, mr_3, mr_5, mr_7, mr_11, mi_0, mi_1, mi_2, mi_3, mi_4, mi_5, mi_6, smi_0, smi_1, smi_2, smi_3, smi_4, smi_5, smi_6, fok_i, fok_b1, rb_0, rb_1, rb_bi, bi_eq0, rb_b2, b2_0, ite_not, isO_r, Option.toList, List.cons_append, List.nil_append, q_M_in, q_M_atKite, q_M_atSpool, q_M_atHire, q_M_tail, il_0, tn_0, il_1, tn_1, il_2, tn_2, il_3, tn_3, il_4, tn_4, il_5, tn_5, il_6, tn_6, il_7, tn_7, il_8, tn_8, il_9, tn_9, il_10, tn_10, il_11, tn_11, il_12, tn_12, il_13, tn_13, il_14, tn_14, il_15, tn_15, il_16, tn_16, il_17, tn_17, il_1257, tn_1257, il_1258, tn_1258, il_1259, tn_1259, il_1260, tn_1260, sm2_0, sm2_1, sm2_2, sm6_0, sm6_1, sm6_2, sm6_3, sm6_4, sm6_5, sm6_6, m1_ok, m1_al, m1_rd, m1_re, m1_ln, m1_s, m6_ok, m6_al, m6_rd, m6_re, m6_ln, m6_s, m7_ok, m7_al, m7_rd, m7_re, m7_ln, m7_s, if_neg h1]
    exact hQ))
def sp_M_tailsOf : Nat → Sp := spL [(118, f_M_isColour), (95, f_M_in), (94, f_M_tail)]
theorem sp_M_tailsOf_M_isColour : sp_M_tailsOf 118 = f_M_isColour := rfl
theorem sp_M_tailsOf_M_in : sp_M_tailsOf 95 = f_M_in := rfl
theorem sp_M_tailsOf_M_tail : sp_M_tailsOf 94 = f_M_tail := rfl
def f_M_tailsOf : Sp := aS 9 (fun _ => 126) 2 (gL2 (fun _ x y σ => (True, some (.int (if wi x 0 5 then (if wi y 0 2 then ut (σ 8) x y else -2) else -1)), σ)))
theorem q_M_tailsOf {x y : Int32} {σ : SG} : f_M_tailsOf [.ref 126, .int x, .int y] (emb σ) = (True, some (.int (if wi x 0 5 then (if wi y 0 2 then ut (σ 8) x y else -2) else -1)), emb (σ)) := aS2_at (ad := (fun _ => 126)) (i := hI 126) (by decide) rfl
set_option maxHeartbeats 600000 in
set_option maxRecDepth 20000 in
theorem ok_M_tailsOf : SpecOK 148 f_M_tailsOf := SpecOK.of (sp := sp_M_tailsOf) (by decide) (by decide) (spL_ok (List.forall_mem_cons.mpr ⟨ok_M_isColour, (List.forall_mem_cons.mpr ⟨ok_M_in, (List.forall_mem_cons.mpr ⟨ok_M_tail, (fun q h => absurd h List.not_mem_nil)⟩)⟩)⟩)) (Does_aS2 (Nat.le_of_ble_eq_true rfl) (fun sc i x y σ hi had hp => by
  refine Vf_q ?_ ⟨rfl, rfl⟩
  intro Q hQ
  dsimp only at hQ hp
  show Vf 148 _ _ 0 [.ref (126), .int x, .int y] [] (emb σ) _

  rcases Decidable.em (wi x 0 5) with h1 | h1
  · have hs : sm x 5 := wi_sm (n := 5) h1 (by decide) (by decide)
    rw [if_pos h1] at hQ
    rcases Decidable.em (wi y 0 2) with h2 | h2
    · have hy : sm y 2 := wi_sm (n := 2) h2 (by decide) (by decide)
      rw [if_pos h2] at hQ
      simp only [rM_tailsOf_0, rM_tailsOf_1, rM_tailsOf_4, rM_tailsOf_7, rM_tailsOf_8, rM_tailsOf_11, rM_tailsOf_12, rM_tailsOf_13, rM_tailsOf_14, rM_tailsOf_17, rM_tailsOf_20, rM_tailsOf_21, rM_tailsOf_24, rM_tailsOf_25, rM_tailsOf_26, rM_tailsOf_29, rM_tailsOf_30, rM_tailsOf_33, rM_tailsOf_35, ct1_i, ct1_r, ct1_n, true_and, and_true, tl_s, tl_n, le4_0, le4_1, le4_2, le4_3, le4_4, le4_5, isO_r, cl_, emb1, emb2, le_rN, up1_at, up1_up1, sp_M_tailsOf_M_isColour, sp_M_tailsOf_M_in, sp_M_tailsOf_M_tail, obM, mr_0, mr_1, mr_2, mr_3, mr_5, mr_7, mr_11, mi_0, mi_1, mi_2, mi_3, mi_4, mi_5, mi_6, smi_0, smi_1, smi_2, smi_3, smi_4, smi_5, smi_6, fok_i, fok_b1, rb_0, rb_1, rb_bi, bi_eq0, rb_b2, b2_0, ite_not, isO_r, Option.toList, List.cons_append, List.nil_append, q_M_in, q_M_atKite, q_M_atSpool, q_M_atHire, q_M_tail, il_0, tn_0, il_1, tn_1, il_2, tn_2, il_3, tn_3, il_4, tn_4, il_5, tn_5, il_6, tn_6, il_7, tn_7, il_8, tn_8, il_9, tn_9, il_10, tn_10, il_11, tn_11, il_12, tn_12, il_13, tn_13, il_14, tn_14, il_15, tn_15, il_16, tn_16, il_17, tn_17, il_1257, tn_1257, il_1258, tn_1258, il_1259, tn_1259, il_1260, tn_1260, sm2_0, sm2_1, sm2_2, sm6_0, sm6_1, sm6_2, sm6_3, sm6_4, sm6_5, sm6_6, m1_ok, m1_al, m1_rd, m1_re, m1_ln, m1_s, m6_ok, m6_al, m6_rd, m6_re, m6_ln, m6_s, m7_ok, m7_al, m7_rd, m7_re, m7_ln, m7_s, q_M_isColour, if_pos h1, if_pos h2, iT_v hs hy]
      exact hQ
    · rw [if_neg h2] at hQ
      simp only [rM_tailsOf_0, rM_tailsOf_1, rM_tailsOf_4, rM_tailsOf_7, rM_tailsOf_8, rM_tailsOf_11, rM_tailsOf_12, rM_tailsOf_13, rM_tailsOf_14, rM_tailsOf_17, rM_tailsOf_20, rM_tailsOf_21, rM_tailsOf_24, rM_tailsOf_25, rM_tailsOf_26, rM_tailsOf_29, rM_tailsOf_30, rM_tailsOf_33, rM_tailsOf_35, ct1_i, ct1_r, ct1_n, true_and, and_true, tl_s, tl_n, le4_0, le4_1, le4_2, le4_3, le4_4, le4_5, isO_r, cl_, emb1, emb2, le_rN, up1_at, up1_up1, sp_M_tailsOf_M_isColour, sp_M_tailsOf_M_in, sp_M_tailsOf_M_tail, obM, mr_0, mr_1, mr_2, mr_3, mr_5, mr_7, mr_11, mi_0, mi_1, mi_2, mi_3, mi_4, mi_5, mi_6, smi_0, smi_1, smi_2, smi_3, smi_4, smi_5, smi_6, fok_i, fok_b1, rb_0, rb_1, rb_bi, bi_eq0, rb_b2, b2_0, ite_not, isO_r, Option.toList, List.cons_append, List.nil_append, q_M_in, q_M_atKite, q_M_atSpool, q_M_atHire, q_M_tail, il_0, tn_0, il_1, tn_1, il_2, tn_2, il_3, tn_3, il_4, tn_4, il_5, tn_5, il_6, tn_6, il_7, tn_7, il_8, tn_8, il_9, tn_9, il_10, tn_10, il_11, tn_11, il_12, tn_12, il_13, tn_13, il_14, tn_14, il_15, tn_15, il_16, tn_16, il_17, tn_17, il_1257, tn_1257, il_1258, tn_1258, il_1259, tn_1259, il_1260, tn_1260, sm2_0, sm2_1, sm2_2, sm6_0, sm6_1, sm6_2, sm6_3, sm6_4, sm6_5, sm6_6, m1_ok, m1_al, m1_rd, m1_re, m1_ln, m1_s, m6_ok, m6_al, m6_rd, m6_re, m6_ln, m6_s, m7_ok, m7_al, m7_rd, m7_re, m7_ln, m7_s, q_M_isColour, if_pos h1, if_neg h2]
      exact hQ
  · rw [if_neg h1] at hQ
    simp only [rM_tailsOf_0, rM_tailsOf_1, rM_tailsOf_4, rM_tailsOf_7, rM_tailsOf_8, rM_tailsOf_11, rM_tailsOf_12, rM_tailsOf_13, rM_tailsOf_14, rM_tailsOf_17, rM_tailsOf_20, rM_tailsOf_21, rM_tailsOf_24, rM_tailsOf_25, rM_tailsOf_26, rM_tailsOf_29, rM_tailsOf_30, rM_tailsOf_33, rM_tailsOf_35, ct1_i, ct1_r, ct1_n, true_and, and_true, tl_s, tl_n, le4_0, le4_1, le4_2, le4_3, le4_4, le4_5, isO_r, cl_, emb1, emb2, le_rN, up1_at, up1_up1, sp_M_tailsOf_M_isColour, sp_M_tailsOf_M_in, sp_M_tailsOf_M_tail, obM, mr_0, mr_1, mr_2, mr_3, mr_5, mr_7, mr_11, mi_0, mi_1, mi_2, mi_3, mi_4, mi_5, mi_6, smi_0, smi_1, smi_2, smi_3, smi_4, smi_5, smi_6, fok_i, fok_b1, rb_0, rb_1, rb_bi, bi_eq0, rb_b2, b2_0, ite_not, isO_r, Option.toList, List.cons_append, List.nil_append, q_M_in, q_M_atKite, q_M_atSpool, q_M_atHire, q_M_tail, il_0, tn_0, il_1, tn_1, il_2, tn_2, il_3, tn_3, il_4, tn_4, il_5, tn_5, il_6, tn_6, il_7, tn_7, il_8, tn_8, il_9, tn_9, il_10, tn_10, il_11, tn_11, il_12, tn_12, il_13, tn_13, il_14, tn_14, il_15, tn_15, il_16, tn_16, il_17, tn_17, il_1257, tn_1257, il_1258, tn_1258, il_1259, tn_1259, il_1260, tn_1260, sm2_0, sm2_1, sm2_2, sm6_0, sm6_1, sm6_2, sm6_3, sm6_4, sm6_5, sm6_6, m1_ok, m1_al, m1_rd, m1_re, m1_ln, m1_s, m6_ok, m6_al, m6_rd, m6_re, m6_ln, m6_s, m7_ok, m7_al, m7_rd, m7_re, m7_ln, m7_s, q_M_isColour, if_neg h1]
    exact hQ))
def sp_M_ended : Nat → Sp := spL [(95, f_M_in)]
theorem sp_M_ended_M_in : sp_M_ended 95 = f_M_in := rfl
def f_M_ended : Sp := aS 9 (fun _ => 126) 2 (gL2 (fun _ x y σ => (True, some (.int (if wi x 0 7 then (if wi y 0 3 then (if x < σ 8 1 15 then σ 8 1 (1257 + 4 * x + y).toNatClampNeg else -5) else -2) else -2)), σ)))
theorem q_M_ended {x y : Int32} {σ : SG} : f_M_ended [.ref 126, .int x, .int y] (emb σ) = (True, some (.int (if wi x 0 7 then (if wi y 0 3 then (if x < σ 8 1 15 then σ 8 1 (1257 + 4 * x + y).toNatClampNeg else -5) else -2) else -2)), emb (σ)) := aS2_at (ad := (fun _ => 126)) (i := hI 126) (by decide) rfl
set_option maxHeartbeats 600000 in
set_option maxRecDepth 20000 in
theorem ok_M_ended : SpecOK 131 f_M_ended := SpecOK.of (sp := sp_M_ended) (by decide) (by decide) (spL_ok (List.forall_mem_cons.mpr ⟨ok_M_in, (fun q h => absurd h List.not_mem_nil)⟩)) (Does_aS2 (Nat.le_of_ble_eq_true rfl) (fun sc i x y σ hi had hp => by
  refine Vf_q ?_ ⟨rfl, rfl⟩
  intro Q hQ
  dsimp only at hQ hp
  show Vf 131 _ _ 0 [.ref (126), .int x, .int y] [] (emb σ) _

  rcases Decidable.em (wi x 0 7) with h1 | h1
  · have hs : sm x 7 := wi_sm (n := 7) h1 (by decide) (by decide)
    rw [if_pos h1] at hQ
    rcases Decidable.em (wi y 0 3) with h2 | h2
    · have hy : sm y 3 := wi_sm (n := 3) h2 (by decide) (by decide)
      have hi : iin (1257 + 4 * x + y) 1289 = True := ixv (B := 1257) (A := 4) hs hy (by decide)
      rw [if_pos h2] at hQ
      simp only [rM_ended_0, rM_ended_1, rM_ended_2, rM_ended_4, rM_ended_7, rM_ended_10, rM_ended_11, rM_ended_12, rM_ended_13, rM_ended_16, rM_ended_19, rM_ended_21, rM_ended_22, rM_ended_23, rM_ended_24, rM_ended_27, rM_ended_29, rM_ended_30, rM_ended_33, rM_ended_34, rM_ended_37, rM_ended_40, rM_ended_41, rM_ended_42, rM_ended_43, rM_ended_44, rM_ended_45, rM_ended_46, rM_ended_47, rM_ended_50, rM_ended_52, ct1_i, ct1_r, ct1_n, true_and, and_true, tl_s, tl_n, le4_0, le4_1, le4_2, le4_3, le4_4, le4_5, isO_r, cl_, emb1, emb2, le_rN, up1_at, up1_up1, sp_M_ended_M_in, obM, mr_0, mr_1, mr_2, mr_3, mr_5, mr_7, mr_11, mi_0, mi_1, mi_2, mi_3, mi_4, mi_5, mi_6, smi_0, smi_1, smi_2, smi_3, smi_4, smi_5, smi_6, fok_i, fok_b1, rb_0, rb_1, rb_bi, bi_eq0, rb_b2, b2_0, ite_not, isO_r, Option.toList, List.cons_append, List.nil_append, q_M_in, q_M_atKite, q_M_atSpool, q_M_atHire, q_M_tail, il_0, tn_0, il_1, tn_1, il_2, tn_2, il_3, tn_3, il_4, tn_4, il_5, tn_5, il_6, tn_6, il_7, tn_7, il_8, tn_8, il_9, tn_9, il_10, tn_10, il_11, tn_11, il_12, tn_12, il_13, tn_13, il_14, tn_14, il_15, tn_15, il_16, tn_16, il_17, tn_17, il_1257, tn_1257, il_1258, tn_1258, il_1259, tn_1259, il_1260, tn_1260, sm2_0, sm2_1, sm2_2, sm6_0, sm6_1, sm6_2, sm6_3, sm6_4, sm6_5, sm6_6, m1_ok, m1_al, m1_rd, m1_re, m1_ln, m1_s, m6_ok, m6_al, m6_rd, m6_re, m6_ln, m6_s, m7_ok, m7_al, m7_rd, m7_re, m7_ln, m7_s, if_pos h1, if_pos h2, hi]
      rcases Decidable.em (x < σ 8 1 15) with h3 | h3
      case inr => rw [if_neg h3] at hQ ⊢; exact hQ
      rw [if_pos h3] at hQ ⊢
      exact hQ
    · rw [if_neg h2] at hQ
      simp only [rM_ended_0, rM_ended_1, rM_ended_2, rM_ended_4, rM_ended_7, rM_ended_10, rM_ended_11, rM_ended_12, rM_ended_13, rM_ended_16, rM_ended_19, rM_ended_21, rM_ended_22, rM_ended_23, rM_ended_24, rM_ended_27, rM_ended_29, rM_ended_30, rM_ended_33, rM_ended_34, rM_ended_37, rM_ended_40, rM_ended_41, rM_ended_42, rM_ended_43, rM_ended_44, rM_ended_45, rM_ended_46, rM_ended_47, rM_ended_50, rM_ended_52, ct1_i, ct1_r, ct1_n, true_and, and_true, tl_s, tl_n, le4_0, le4_1, le4_2, le4_3, le4_4, le4_5, isO_r, cl_, emb1, emb2, le_rN, up1_at, up1_up1, sp_M_ended_M_in, obM, mr_0, mr_1, mr_2, mr_3, mr_5, mr_7, mr_11, mi_0, mi_1, mi_2, mi_3, mi_4, mi_5, mi_6, smi_0, smi_1, smi_2, smi_3, smi_4, smi_5, smi_6, fok_i, fok_b1, rb_0, rb_1, rb_bi, bi_eq0, rb_b2, b2_0, ite_not, isO_r, Option.toList, List.cons_append, List.nil_append, q_M_in, q_M_atKite, q_M_atSpool, q_M_atHire, q_M_tail, il_0, tn_0, il_1, tn_1, il_2, tn_2, il_3, tn_3, il_4, tn_4, il_5, tn_5, il_6, tn_6, il_7, tn_7, il_8, tn_8, il_9, tn_9, il_10, tn_10, il_11, tn_11, il_12, tn_12, il_13, tn_13, il_14, tn_14, il_15, tn_15, il_16, tn_16, il_17, tn_17, il_1257, tn_1257, il_1258, tn_1258, il_1259, tn_1259, il_1260, tn_1260, sm2_0, sm2_1, sm2_2, sm6_0, sm6_1, sm6_2, sm6_3, sm6_4, sm6_5, sm6_6, m1_ok, m1_al, m1_rd, m1_re, m1_ln, m1_s, m6_ok, m6_al, m6_rd, m6_re, m6_ln, m6_s, m7_ok, m7_al, m7_rd, m7_re, m7_ln, m7_s, if_pos h1, if_neg h2]
      exact hQ
  · rw [if_neg h1] at hQ
    simp only [rM_ended_0, rM_ended_1, rM_ended_2, rM_ended_4, rM_ended_7, rM_ended_10, rM_ended_11, rM_ended_12, rM_ended_13, rM_ended_16, rM_ended_19, rM_ended_21, rM_ended_22, rM_ended_23, rM_ended_24, rM_ended_27, rM_ended_29, rM_ended_30, rM_ended_33, rM_ended_34, rM_ended_37, rM_ended_40, rM_ended_41, rM_ended_42, rM_ended_43, rM_ended_44, rM_ended_45, rM_ended_46, rM_ended_47, rM_ended_50, rM_ended_52, ct1_i, ct1_r, ct1_n, true_and, and_true, tl_s, tl_n, le4_0, le4_1, le4_2, le4_3, le4_4, le4_5, isO_r, cl_, emb1, emb2, le_rN, up1_at, up1_up1, sp_M_ended_M_in, obM, mr_0, mr_1, mr_2, mr_3, mr_5, mr_7, mr_11, mi_0, mi_1, mi_2, mi_3, mi_4, mi_5, mi_6, smi_0, smi_1, smi_2, smi_3, smi_4, smi_5, smi_6, fok_i, fok_b1, rb_0, rb_1, rb_bi, bi_eq0, rb_b2, b2_0, ite_not, isO_r, Option.toList, List.cons_append, List.nil_append, q_M_in, q_M_atKite, q_M_atSpool, q_M_atHire, q_M_tail, il_0, tn_0, il_1, tn_1, il_2, tn_2, il_3, tn_3, il_4, tn_4, il_5, tn_5, il_6, tn_6, il_7, tn_7, il_8, tn_8, il_9, tn_9, il_10, tn_10, il_11, tn_11, il_12, tn_12, il_13, tn_13, il_14, tn_14, il_15, tn_15, il_16, tn_16, il_17, tn_17, il_1257, tn_1257, il_1258, tn_1258, il_1259, tn_1259, il_1260, tn_1260, sm2_0, sm2_1, sm2_2, sm6_0, sm6_1, sm6_2, sm6_3, sm6_4, sm6_5, sm6_6, m1_ok, m1_al, m1_rd, m1_re, m1_ln, m1_s, m6_ok, m6_al, m6_rd, m6_re, m6_ln, m6_s, m7_ok, m7_al, m7_rd, m7_re, m7_ln, m7_s, if_neg h1]
    exact hQ))
/-- the last of k from r on, else d -/
def laF (p : Nat → Bool) (f : Nat → Int32) : Nat → Nat → Int32 → Int32
  | _, 0, d => d
  | r, k + 1, d => laF p f (r + 1) k (if p r = true then f r else d)
set_option maxHeartbeats 600000 in
set_option maxRecDepth 20000 in
theorem lp_M_placeOf {sp : Nat → Sp} (h103 : sp 103 = f_M_atHire) {sc : Nat × (Nat → Int32)} {x : Int32} {Q : Option Value → MS → Prop} (σ : SG) (N : Nat) (hN : N ≤ 10) (hNe : σ 8 1 16 = oN N) : ∀ (m n : Nat) (d : Int32), n + m = N → Q (some (.int (laF (fun r => decide (uh (σ 8) (oN r) 0 = x)) oN n m d))) (emb σ) → Vf 125 sp ((134, SLT), sc) 5 [.ref 126, .int x, .int d, .int (oN n)] [] (emb σ) Q := by
  intro m
  induction m with
  | zero =>
    intro n d hn hQ
    have : ¬ oN n < oN N := by rw [oN_lt (by omega) (by omega)]; omega
    rw [rM_placeOf_5]
    simp only [rM_placeOf_6, rM_placeOf_7, rM_placeOf_10, rM_placeOf_12, rM_placeOf_13, rM_placeOf_16, rM_placeOf_17, rM_placeOf_20, rM_placeOf_21, rM_placeOf_22, rM_placeOf_25, rM_placeOf_26, rM_placeOf_27, rM_placeOf_30, rM_placeOf_31, rM_placeOf_34, rM_placeOf_35, rM_placeOf_36, rM_placeOf_39, rM_placeOf_42, rM_placeOf_43, ct1_i, ct1_r, ct1_n, true_and, and_true, tl_s, tl_n, le4_0, le4_1, le4_2, le4_3, le4_4, le4_5, isO_r, obM, mr_0, mr_1, mr_2, mr_3, mr_5, mr_7, mr_11, mi_0, mi_1, mi_2, mi_3, mi_4, mi_5, mi_6, smi_0, smi_1, smi_2, smi_3, smi_4, smi_5, smi_6, fok_i, fok_b1, rb_0, rb_1, rb_bi, bi_eq0, rb_b2, b2_0, ite_not, isO_r, Option.toList, List.cons_append, List.nil_append, q_M_in, q_M_atKite, q_M_atSpool, q_M_atHire, q_M_tail, il_0, tn_0, il_1, tn_1, il_2, tn_2, il_3, tn_3, il_4, tn_4, il_5, tn_5, il_6, tn_6, il_7, tn_7, il_8, tn_8, il_9, tn_9, il_10, tn_10, il_11, tn_11, il_12, tn_12, il_13, tn_13, il_14, tn_14, il_15, tn_15, il_16, tn_16, il_17, tn_17, il_1257, tn_1257, il_1258, tn_1258, il_1259, tn_1259, il_1260, tn_1260, sm2_0, sm2_1, sm2_2, sm6_0, sm6_1, sm6_2, sm6_3, sm6_4, sm6_5, sm6_6, m1_ok, m1_al, m1_rd, m1_re, m1_ln, m1_s, m6_ok, m6_al, m6_rd, m6_re, m6_ln, m6_s, m7_ok, m7_al, m7_rd, m7_re, m7_ln, m7_s, hNe, if_neg this]
    exact hQ
  | succ m ih =>
    intro n d hn hQ
    have : oN n < oN N := by rw [oN_lt (by omega) (by omega)]; omega
    have hs : sm (oN n) 9 := sm_oN (by omega) (by decide)
    rw [rM_placeOf_5]
    simp only [rM_placeOf_6, rM_placeOf_7, rM_placeOf_10, rM_placeOf_12, rM_placeOf_13, rM_placeOf_16, rM_placeOf_17, rM_placeOf_20, rM_placeOf_21, rM_placeOf_22, rM_placeOf_25, rM_placeOf_26, rM_placeOf_27, rM_placeOf_30, rM_placeOf_31, rM_placeOf_34, rM_placeOf_35, rM_placeOf_36, rM_placeOf_39, rM_placeOf_42, rM_placeOf_43, ct1_i, ct1_r, ct1_n, true_and, and_true, tl_s, tl_n, le4_0, le4_1, le4_2, le4_3, le4_4, le4_5, isO_r, cl_, emb1, emb2, le_rN, h103, obM, mr_0, mr_1, mr_2, mr_3, mr_5, mr_7, mr_11, mi_0, mi_1, mi_2, mi_3, mi_4, mi_5, mi_6, smi_0, smi_1, smi_2, smi_3, smi_4, smi_5, smi_6, fok_i, fok_b1, rb_0, rb_1, rb_bi, bi_eq0, rb_b2, b2_0, ite_not, isO_r, Option.toList, List.cons_append, List.nil_append, q_M_in, q_M_atKite, q_M_atSpool, q_M_atHire, q_M_tail, il_0, tn_0, il_1, tn_1, il_2, tn_2, il_3, tn_3, il_4, tn_4, il_5, tn_5, il_6, tn_6, il_7, tn_7, il_8, tn_8, il_9, tn_9, il_10, tn_10, il_11, tn_11, il_12, tn_12, il_13, tn_13, il_14, tn_14, il_15, tn_15, il_16, tn_16, il_17, tn_17, il_1257, tn_1257, il_1258, tn_1258, il_1259, tn_1259, il_1260, tn_1260, sm2_0, sm2_1, sm2_2, sm6_0, sm6_1, sm6_2, sm6_3, sm6_4, sm6_5, sm6_6, m1_ok, m1_al, m1_rd, m1_re, m1_ln, m1_s, m6_ok, m6_al, m6_rd, m6_re, m6_ln, m6_s, m7_ok, m7_al, m7_rd, m7_re, m7_ln, m7_s, hNe, if_pos this, iH_0 hs, oN_succ]
    simp only [laF] at hQ
    rcases Decidable.em (uh (σ 8) (oN n) 0 = x) with h | h
    · rw [if_pos h]
      rw [if_pos (decide_eq_true h)] at hQ
      exact ih (n + 1) _ (by omega) hQ
    · rw [if_neg h]
      rw [if_neg (by rw [decide_eq_true_iff]; exact h)] at hQ
      exact ih (n + 1) _ (by omega) hQ
abbrev plF (v : HV) (x : Int32) : Int32 := laF (fun r => decide (uh v (oN r) 0 = x)) oN 0 (v 1 16).toNatClampNeg (-5)
def sp_M_placeOf : Nat → Sp := spL [(103, f_M_atHire)]
theorem sp_M_placeOf_M_atHire : sp_M_placeOf 103 = f_M_atHire := rfl
def f_M_placeOf : Sp := aS 9 (fun _ => 126) 1 (gL1 (fun _ x σ => (sm (σ 8 1 16) 10, some (.int (plF (σ 8) x)), σ)))
theorem q_M_placeOf {x : Int32} {σ : SG} : f_M_placeOf [.ref 126, .int x] (emb σ) = (sm (σ 8 1 16) 10, some (.int (plF (σ 8) x)), emb (σ)) := aS1_at (ad := (fun _ => 126)) (i := hI 126) (by decide) rfl
set_option maxHeartbeats 600000 in
set_option maxRecDepth 20000 in
theorem ok_M_placeOf : SpecOK 125 f_M_placeOf := SpecOK.of (sp := sp_M_placeOf) (by decide) (by decide) (spL_ok (List.forall_mem_cons.mpr ⟨ok_M_atHire, (fun q h => absurd h List.not_mem_nil)⟩)) (Does_aS1 (Nat.le_of_ble_eq_true rfl) (fun sc i x σ hi had hp => by
  refine Vf_q ?_ ⟨rfl, rfl⟩
  intro Q hQ
  dsimp only at hQ hp
  show Vf 125 _ _ 0 [.ref (126), .int x, .null, .null] [] (emb σ) _

  simp only [rM_placeOf_0, rM_placeOf_2, rM_placeOf_3, rM_placeOf_4, ct1_i, ct1_r, ct1_n, true_and, and_true, tl_s, tl_n, le4_0, le4_1, le4_2, le4_3, le4_4, le4_5, isO_r]
  exact lp_M_placeOf sp_M_placeOf_M_atHire σ _ hp.2 (sm_eq hp) _ 0 _ (Nat.zero_add _) hQ))
set_option maxHeartbeats 600000 in
set_option maxRecDepth 20000 in
theorem lp_M_hireWith {sp : Nat → Sp} (h126 : sp 126 = f_M_of) {sc : Nat × (Nat → Int32)} {x : Int32} {Q : Option Value → MS → Prop} (σ : SG) (N : Nat) (hN : N ≤ 10) (hNe : σ 8 1 16 = oN N) : ∀ (m n : Nat) (d : Int32), n + m = N → Q (some (.int (laF (fun r => decide (uh (σ 8) (oN r) 1 = x)) (fun r => uh (σ 8) (oN r) 0) n m d))) (emb σ) → Vf 147 sp ((134, SLT), sc) 5 [.ref 126, .int x, .int d, .int (oN n)] [] (emb σ) Q := by
  intro m
  induction m with
  | zero =>
    intro n d hn hQ
    have : ¬ oN n < oN N := by rw [oN_lt (by omega) (by omega)]; omega
    rw [rM_hireWith_5]
    simp only [rM_hireWith_6, rM_hireWith_7, rM_hireWith_10, rM_hireWith_12, rM_hireWith_13, rM_hireWith_16, rM_hireWith_17, rM_hireWith_18, rM_hireWith_19, rM_hireWith_22, rM_hireWith_23, rM_hireWith_26, rM_hireWith_27, rM_hireWith_28, rM_hireWith_29, rM_hireWith_32, rM_hireWith_35, rM_hireWith_36, rM_hireWith_37, rM_hireWith_40, rM_hireWith_43, rM_hireWith_44, ct1_i, ct1_r, ct1_n, true_and, and_true, tl_s, tl_n, le4_0, le4_1, le4_2, le4_3, le4_4, le4_5, isO_r, obM, mr_0, mr_1, mr_2, mr_3, mr_5, mr_7, mr_11, mi_0, mi_1, mi_2, mi_3, mi_4, mi_5, mi_6, smi_0, smi_1, smi_2, smi_3, smi_4, smi_5, smi_6, fok_i, fok_b1, rb_0, rb_1, rb_bi, bi_eq0, rb_b2, b2_0, ite_not, isO_r, Option.toList, List.cons_append, List.nil_append, q_M_in, q_M_atKite, q_M_atSpool, q_M_atHire, q_M_tail, il_0, tn_0, il_1, tn_1, il_2, tn_2, il_3, tn_3, il_4, tn_4, il_5, tn_5, il_6, tn_6, il_7, tn_7, il_8, tn_8, il_9, tn_9, il_10, tn_10, il_11, tn_11, il_12, tn_12, il_13, tn_13, il_14, tn_14, il_15, tn_15, il_16, tn_16, il_17, tn_17, il_1257, tn_1257, il_1258, tn_1258, il_1259, tn_1259, il_1260, tn_1260, sm2_0, sm2_1, sm2_2, sm6_0, sm6_1, sm6_2, sm6_3, sm6_4, sm6_5, sm6_6, m1_ok, m1_al, m1_rd, m1_re, m1_ln, m1_s, m6_ok, m6_al, m6_rd, m6_re, m6_ln, m6_s, m7_ok, m7_al, m7_rd, m7_re, m7_ln, m7_s, hNe, if_neg this]
    exact hQ
  | succ m ih =>
    intro n d hn hQ
    have : oN n < oN N := by rw [oN_lt (by omega) (by omega)]; omega
    have hs : sm (oN n) 9 := sm_oN (by omega) (by decide)
    rw [rM_hireWith_5]
    simp only [rM_hireWith_6, rM_hireWith_7, rM_hireWith_10, rM_hireWith_12, rM_hireWith_13, rM_hireWith_16, rM_hireWith_17, rM_hireWith_18, rM_hireWith_19, rM_hireWith_22, rM_hireWith_23, rM_hireWith_26, rM_hireWith_27, rM_hireWith_28, rM_hireWith_29, rM_hireWith_32, rM_hireWith_35, rM_hireWith_36, rM_hireWith_37, rM_hireWith_40, rM_hireWith_43, rM_hireWith_44, ct1_i, ct1_r, ct1_n, true_and, and_true, tl_s, tl_n, le4_0, le4_1, le4_2, le4_3, le4_4, le4_5, isO_r, cl_, emb1, emb2, le_rN, h126, obM, mr_0, mr_1, mr_2, mr_3, mr_5, mr_7, mr_11, mi_0, mi_1, mi_2, mi_3, mi_4, mi_5, mi_6, smi_0, smi_1, smi_2, smi_3, smi_4, smi_5, smi_6, fok_i, fok_b1, rb_0, rb_1, rb_bi, bi_eq0, rb_b2, b2_0, ite_not, isO_r, Option.toList, List.cons_append, List.nil_append, q_M_in, q_M_atKite, q_M_atSpool, q_M_atHire, q_M_tail, il_0, tn_0, il_1, tn_1, il_2, tn_2, il_3, tn_3, il_4, tn_4, il_5, tn_5, il_6, tn_6, il_7, tn_7, il_8, tn_8, il_9, tn_9, il_10, tn_10, il_11, tn_11, il_12, tn_12, il_13, tn_13, il_14, tn_14, il_15, tn_15, il_16, tn_16, il_17, tn_17, il_1257, tn_1257, il_1258, tn_1258, il_1259, tn_1259, il_1260, tn_1260, sm2_0, sm2_1, sm2_2, sm6_0, sm6_1, sm6_2, sm6_3, sm6_4, sm6_5, sm6_6, m1_ok, m1_al, m1_rd, m1_re, m1_ln, m1_s, m6_ok, m6_al, m6_rd, m6_re, m6_ln, m6_s, m7_ok, m7_al, m7_rd, m7_re, m7_ln, m7_s, q_M_of, hNe, if_pos this, hs, oN_succ]
    simp only [laF] at hQ
    rcases Decidable.em (uh (σ 8) (oN n) 1 = x) with h | h
    · rw [if_pos h]
      rw [if_pos (decide_eq_true h)] at hQ
      exact ih (n + 1) _ (by omega) hQ
    · rw [if_neg h]
      rw [if_neg (by rw [decide_eq_true_iff]; exact h)] at hQ
      exact ih (n + 1) _ (by omega) hQ
abbrev hwF (v : HV) (x : Int32) : Int32 := laF (fun r => decide (uh v (oN r) 1 = x)) (fun r => uh v (oN r) 0) 0 (v 1 16).toNatClampNeg (-5)
def sp_M_hireWith : Nat → Sp := spL [(126, f_M_of)]
theorem sp_M_hireWith_M_of : sp_M_hireWith 126 = f_M_of := rfl
def f_M_hireWith : Sp := aS 9 (fun _ => 126) 1 (gL1 (fun _ x σ => (sm (σ 8 1 16) 10, some (.int (hwF (σ 8) x)), σ)))
theorem q_M_hireWith {x : Int32} {σ : SG} : f_M_hireWith [.ref 126, .int x] (emb σ) = (sm (σ 8 1 16) 10, some (.int (hwF (σ 8) x)), emb (σ)) := aS1_at (ad := (fun _ => 126)) (i := hI 126) (by decide) rfl
set_option maxHeartbeats 600000 in
set_option maxRecDepth 20000 in
theorem ok_M_hireWith : SpecOK 147 f_M_hireWith := SpecOK.of (sp := sp_M_hireWith) (by decide) (by decide) (spL_ok (List.forall_mem_cons.mpr ⟨ok_M_of, (fun q h => absurd h List.not_mem_nil)⟩)) (Does_aS1 (Nat.le_of_ble_eq_true rfl) (fun sc i x σ hi had hp => by
  refine Vf_q ?_ ⟨rfl, rfl⟩
  intro Q hQ
  dsimp only at hQ hp
  show Vf 147 _ _ 0 [.ref (126), .int x, .null, .null] [] (emb σ) _

  simp only [rM_hireWith_0, rM_hireWith_2, rM_hireWith_3, rM_hireWith_4, ct1_i, ct1_r, ct1_n, true_and, and_true, tl_s, tl_n, le4_0, le4_1, le4_2, le4_3, le4_4, le4_5, isO_r]
  exact lp_M_hireWith sp_M_hireWith_M_of σ _ hp.2 (sm_eq hp) _ 0 _ (Nat.zero_add _) hQ))
