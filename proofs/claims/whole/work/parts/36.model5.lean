/-! THE CHECK: history, texts' signs -/
theorem cpL_kn {k j k' : Fin 9} {d e : Nat} (h : k' ≠ k) : ∀ (m n : Nat) (v : HV), cpL k j d e n m v k' = v k' := by
  intro m
  induction m with
  | zero => intro n v; rfl
  | succ m ih => intro n v; rw [cpL_s, ih, up2_kn h]
def lkM (v : HV) : HV := cpL 3 1 0 0 0 1289 v

def sp_M_looks : Nat → Sp := spL []
def f_M_looks : Sp := aS 9 (fun _ => 126) 0 (gL0 (fun _  σ => (True, none, up1 σ 8 (lkM (σ 8)))))
theorem q_M_looks {σ : SG} : f_M_looks [.ref 126] (emb σ) = (True, none, emb (up1 σ 8 (lkM (σ 8)))) := aS0_at (ad := (fun _ => 126)) (i := hI 126) (by decide) rfl
set_option maxHeartbeats 4000000 in
set_option maxRecDepth 20000 in
theorem ok_M_looks : SpecOK 96 f_M_looks := SpecOK.of (sp := sp_M_looks) (by decide) (by decide) (spL_ok (fun q h => absurd h List.not_mem_nil)) (Does_aS0 (Nat.le_of_ble_eq_true rfl) (fun sc i  σ hi had hp => by
  refine Vf_q ?_ ⟨rfl, rfl⟩
  intro Q hQ
  dsimp only at hQ hp
  show Vf 96 _ _ 0 [.ref (126), .null] [] (emb σ) _

  simp only [rM_looks_0, rM_looks_1, ct1_i, ct1_r, ct1_n, true_and, and_true, tl_s, tl_n, le4_0, le4_1, le4_2, le4_3, le4_4, le4_5, isO_r]
  refine lp_M_looks_2 (x := 0) (y := 0) (z := 0) (c := 0) (by decide) 1289 0 σ rfl ?_
  rw [rM_looks_27]
  exact hQ))
def paM (v : HV) : HV := cpL 2 1 0 0 0 1289 v
def sp_M_putAside : Nat → Sp := spL []
def f_M_putAside : Sp := aS 9 (fun _ => 126) 0 (gL0 (fun _  σ => (True, none, up1 σ 8 (paM (σ 8)))))
theorem q_M_putAside {σ : SG} : f_M_putAside [.ref 126] (emb σ) = (True, none, emb (up1 σ 8 (paM (σ 8)))) := aS0_at (ad := (fun _ => 126)) (i := hI 126) (by decide) rfl
set_option maxHeartbeats 4000000 in
set_option maxRecDepth 20000 in
theorem ok_M_putAside : SpecOK 112 f_M_putAside := SpecOK.of (sp := sp_M_putAside) (by decide) (by decide) (spL_ok (fun q h => absurd h List.not_mem_nil)) (Does_aS0 (Nat.le_of_ble_eq_true rfl) (fun sc i  σ hi had hp => by
  refine Vf_q ?_ ⟨rfl, rfl⟩
  intro Q hQ
  dsimp only at hQ hp
  show Vf 112 _ _ 0 [.ref (126), .null] [] (emb σ) _

  simp only [rM_putAside_0, rM_putAside_1, ct1_i, ct1_r, ct1_n, true_and, and_true, tl_s, tl_n, le4_0, le4_1, le4_2, le4_3, le4_4, le4_5, isO_r]
  refine lp_M_putAside_2 (x := 0) (y := 0) (z := 0) (c := 0) (by decide) 1289 0 σ rfl ?_
  rw [rM_putAside_27]
  exact hQ))
def pbM (v : HV) : HV := cpL 1 2 0 0 0 1289 v
def sp_M_putBack : Nat → Sp := spL []
def f_M_putBack : Sp := aS 9 (fun _ => 126) 0 (gL0 (fun _  σ => (True, none, up1 σ 8 (pbM (σ 8)))))
theorem q_M_putBack {σ : SG} : f_M_putBack [.ref 126] (emb σ) = (True, none, emb (up1 σ 8 (pbM (σ 8)))) := aS0_at (ad := (fun _ => 126)) (i := hI 126) (by decide) rfl
set_option maxHeartbeats 4000000 in
set_option maxRecDepth 20000 in
theorem ok_M_putBack : SpecOK 113 f_M_putBack := SpecOK.of (sp := sp_M_putBack) (by decide) (by decide) (spL_ok (fun q h => absurd h List.not_mem_nil)) (Does_aS0 (Nat.le_of_ble_eq_true rfl) (fun sc i  σ hi had hp => by
  refine Vf_q ?_ ⟨rfl, rfl⟩
  intro Q hQ
  dsimp only at hQ hp
  show Vf 113 _ _ 0 [.ref (126), .null] [] (emb σ) _

  simp only [rM_putBack_0, rM_putBack_1, ct1_i, ct1_r, ct1_n, true_and, and_true, tl_s, tl_n, le4_0, le4_1, le4_2, le4_3, le4_4, le4_5, isO_r]
  refine lp_M_putBack_2 (x := 0) (y := 0) (z := 0) (c := 0) (by decide) 1289 0 σ rfl ?_
  rw [rM_putBack_27]
  exact hQ))
def kp1 (v : HV) : HV := cpL 4 1 0 0 0 1289 v
def kpM (v : HV) : HV := up2 (kp1 v) 0 0 1
def sp_M_keep : Nat → Sp := spL []
def f_M_keep : Sp := aS 9 (fun _ => 126) 0 (gL0 (fun _  σ => (True, some (.int (kpM (σ 8) 1 0)), up1 σ 8 (kpM (σ 8)))))
theorem q_M_keep {σ : SG} : f_M_keep [.ref 126] (emb σ) = (True, some (.int (kpM (σ 8) 1 0)), emb (up1 σ 8 (kpM (σ 8)))) := aS0_at (ad := (fun _ => 126)) (i := hI 126) (by decide) rfl
set_option maxHeartbeats 4000000 in
set_option maxRecDepth 20000 in
theorem ok_M_keep : SpecOK 110 f_M_keep := SpecOK.of (sp := sp_M_keep) (by decide) (by decide) (spL_ok (fun q h => absurd h List.not_mem_nil)) (Does_aS0 (Nat.le_of_ble_eq_true rfl) (fun sc i  σ hi had hp => by
  refine Vf_q ?_ ⟨rfl, rfl⟩
  intro Q hQ
  dsimp only at hQ hp
  show Vf 110 _ _ 0 [.ref (126), .null] [] (emb σ) _

  simp only [rM_keep_0, rM_keep_1, ct1_i, ct1_r, ct1_n, true_and, and_true, tl_s, tl_n, le4_0, le4_1, le4_2, le4_3, le4_4, le4_5, isO_r]
  refine lp_M_keep_2 (x := 0) (y := 0) (z := 0) (c := 0) (by decide) 1289 0 σ rfl ?_
  simp only [rM_keep_27, rM_keep_28, rM_keep_29, rM_keep_32, rM_keep_33, rM_keep_36, rM_keep_37, rM_keep_38, ct1_i, ct1_r, ct1_n, true_and, and_true, tl_s, tl_n, le4_0, le4_1, le4_2, le4_3, le4_4, le4_5, isO_r, obM, mr_0, mr_1, mr_2, mr_3, mr_5, mr_7, mr_11, mi_0, mi_1, mi_2, mi_3, mi_4, mi_5, mi_6, smi_0, smi_1, smi_2, smi_3, smi_4, smi_5, smi_6, fok_i, fok_b1, rb_0, rb_1, rb_bi, bi_eq0, rb_b2, b2_0, ite_not, isO_r, Option.toList, List.cons_append, List.nil_append, q_M_in, q_M_atKite, q_M_atSpool, q_M_atHire, q_M_tail, il_0, tn_0, il_1, tn_1, il_2, tn_2, il_3, tn_3, il_4, tn_4, il_5, tn_5, il_6, tn_6, il_7, tn_7, il_8, tn_8, il_9, tn_9, il_10, tn_10, il_11, tn_11, il_12, tn_12, il_13, tn_13, il_14, tn_14, il_15, tn_15, il_16, tn_16, il_17, tn_17, il_1257, tn_1257, il_1258, tn_1258, il_1259, tn_1259, il_1260, tn_1260, sm2_0, sm2_1, sm2_2, sm6_0, sm6_1, sm6_2, sm6_3, sm6_4, sm6_5, sm6_6, m1_ok, m1_al, m1_rd, m1_re, m1_ln, m1_s, m6_ok, m6_al, m6_rd, m6_re, m6_ln, m6_s, m7_ok, m7_al, m7_rd, m7_re, m7_ln, m7_s, up1_at, up1_up1]
  exact hQ))
def rc1 (v : HV) : HV := if v 0 1 = 4 then up2 (cpL 5 5 0 1289 0 3867 v) 0 1 (cpL 5 5 0 1289 0 3867 v 0 1 - 1) else v
def rc2 (v : HV) : HV := cpL 5 3 (1289 * (rc1 v 0 1).toNatClampNeg) 0 0 1289 (rc1 v)
def rcM (v : HV) : HV := up2 (rc2 v) 0 1 (rc2 v 0 1 + 1)
theorem rc1_sm {v : HV} (h : sm (v 0 1) 4) : sm (rc1 v 0 1) 3 := by
  unfold rc1
  by_cases h4 : v 0 1 = 4
  · rw [if_pos h4, up2_at, cpL_kn (by decide), h4]
    exact ⟨by decide, by decide⟩
  · rw [if_neg h4]
    refine ⟨h.1, ?_⟩
    have h2 := h.2
    have : (v 0 1).toNatClampNeg ≠ 4 := fun q => h4 (by rw [sm_eq h, q]; rfl)
    omega
set_option maxHeartbeats 4000000 in
set_option maxRecDepth 20000 in
theorem lp_M_records_49 {sp : Nat → Sp} {sc : Nat × (Nat → Int32)} {u : Value} {Q : Option Value → MS → Prop} (σ : SG) (v : HV) (hv : σ 8 = rc1 v) (hs : sm (v 0 1) 4) (hQ : Q none (emb (up1 σ 8 (rcM v)))) : Vf 98 sp ((134, SLT), sc) 49 [.ref 126, u] [] (emb σ) Q := by
  have h3 := rc1_sm hs
  simp only [rM_records_49, rM_records_50, ct1_i, ct1_r, ct1_n, true_and, and_true, tl_s, tl_n, le4_0, le4_1, le4_2, le4_3, le4_4, le4_5, isO_r]
  refine lp_M_records_51 (x := 0) (y := 0) (z := 0) (c := (rc1 v 0 1).toNatClampNeg) (by have := h3.2; omega) 1289 0 σ rfl (by rw [hv]; exact sm_eq h3) ?_
  rw [hv]
  change Vf _ _ _ _ _ _ (emb (up1 σ 8 (rc2 v))) _
  simp only [rM_records_85, rM_records_86, rM_records_87, rM_records_90, rM_records_91, rM_records_92, rM_records_95, ct1_i, ct1_r, ct1_n, true_and, and_true, tl_s, tl_n, le4_0, le4_1, le4_2, le4_3, le4_4, le4_5, isO_r, obM, mr_0, mr_1, mr_2, mr_3, mr_5, mr_7, mr_11, mi_0, mi_1, mi_2, mi_3, mi_4, mi_5, mi_6, smi_0, smi_1, smi_2, smi_3, smi_4, smi_5, smi_6, fok_i, fok_b1, rb_0, rb_1, rb_bi, bi_eq0, rb_b2, b2_0, ite_not, isO_r, Option.toList, List.cons_append, List.nil_append, q_M_in, q_M_atKite, q_M_atSpool, q_M_atHire, q_M_tail, il_0, tn_0, il_1, tn_1, il_2, tn_2, il_3, tn_3, il_4, tn_4, il_5, tn_5, il_6, tn_6, il_7, tn_7, il_8, tn_8, il_9, tn_9, il_10, tn_10, il_11, tn_11, il_12, tn_12, il_13, tn_13, il_14, tn_14, il_15, tn_15, il_16, tn_16, il_17, tn_17, il_1257, tn_1257, il_1258, tn_1258, il_1259, tn_1259, il_1260, tn_1260, sm2_0, sm2_1, sm2_2, sm6_0, sm6_1, sm6_2, sm6_3, sm6_4, sm6_5, sm6_6, m1_ok, m1_al, m1_rd, m1_re, m1_ln, m1_s, m6_ok, m6_al, m6_rd, m6_re, m6_ln, m6_s, m7_ok, m7_al, m7_rd, m7_re, m7_ln, m7_s, up1_at, up1_up1]
  exact hQ
def sp_M_records : Nat → Sp := spL []
def f_M_records : Sp := aS 9 (fun _ => 126) 0 (gL0 (fun _  σ => (sm (σ 8 0 1) 4, none, up1 σ 8 (rcM (σ 8)))))
theorem q_M_records {σ : SG} : f_M_records [.ref 126] (emb σ) = (sm (σ 8 0 1) 4, none, emb (up1 σ 8 (rcM (σ 8)))) := aS0_at (ad := (fun _ => 126)) (i := hI 126) (by decide) rfl
set_option maxHeartbeats 4000000 in
set_option maxRecDepth 20000 in
theorem ok_M_records : SpecOK 98 f_M_records := SpecOK.of (sp := sp_M_records) (by decide) (by decide) (spL_ok (fun q h => absurd h List.not_mem_nil)) (Does_aS0 (Nat.le_of_ble_eq_true rfl) (fun sc i  σ hi had hp => by
  refine Vf_q ?_ ⟨rfl, rfl⟩
  intro Q hQ
  dsimp only at hQ hp
  show Vf 98 _ _ 0 [.ref (126), .null] [] (emb σ) _

  simp only [rM_records_0, rM_records_1, rM_records_4, rM_records_5, rM_records_8, rM_records_9, ct1_i, ct1_r, ct1_n, true_and, and_true, tl_s, tl_n, le4_0, le4_1, le4_2, le4_3, le4_4, le4_5, isO_r, cl_, emb1, emb2, le_rN, up1_at, up1_up1, obM, mr_0, mr_1, mr_2, mr_3, mr_5, mr_7, mr_11, mi_0, mi_1, mi_2, mi_3, mi_4, mi_5, mi_6, smi_0, smi_1, smi_2, smi_3, smi_4, smi_5, smi_6, fok_i, fok_b1, rb_0, rb_1, rb_bi, bi_eq0, rb_b2, b2_0, ite_not, isO_r, Option.toList, List.cons_append, List.nil_append, q_M_in, q_M_atKite, q_M_atSpool, q_M_atHire, q_M_tail, il_0, tn_0, il_1, tn_1, il_2, tn_2, il_3, tn_3, il_4, tn_4, il_5, tn_5, il_6, tn_6, il_7, tn_7, il_8, tn_8, il_9, tn_9, il_10, tn_10, il_11, tn_11, il_12, tn_12, il_13, tn_13, il_14, tn_14, il_15, tn_15, il_16, tn_16, il_17, tn_17, il_1257, tn_1257, il_1258, tn_1258, il_1259, tn_1259, il_1260, tn_1260, sm2_0, sm2_1, sm2_2, sm6_0, sm6_1, sm6_2, sm6_3, sm6_4, sm6_5, sm6_6, m1_ok, m1_al, m1_rd, m1_re, m1_ln, m1_s, m6_ok, m6_al, m6_rd, m6_re, m6_ln, m6_s, m7_ok, m7_al, m7_rd, m7_re, m7_ln, m7_s]
  rcases Decidable.em (σ 8 0 1 = 4) with h4 | h4
  · rw [if_pos h4]
    refine lp_M_records_10 (x := 0) (y := 0) (z := 0) (c := 0) (by decide) 3867 0 σ rfl ?_
    simp only [rM_records_39, rM_records_40, rM_records_41, rM_records_44, rM_records_45, rM_records_46, ct1_i, ct1_r, ct1_n, true_and, and_true, tl_s, tl_n, le4_0, le4_1, le4_2, le4_3, le4_4, le4_5, isO_r, obM, mr_0, mr_1, mr_2, mr_3, mr_5, mr_7, mr_11, mi_0, mi_1, mi_2, mi_3, mi_4, mi_5, mi_6, smi_0, smi_1, smi_2, smi_3, smi_4, smi_5, smi_6, fok_i, fok_b1, rb_0, rb_1, rb_bi, bi_eq0, rb_b2, b2_0, ite_not, isO_r, Option.toList, List.cons_append, List.nil_append, q_M_in, q_M_atKite, q_M_atSpool, q_M_atHire, q_M_tail, il_0, tn_0, il_1, tn_1, il_2, tn_2, il_3, tn_3, il_4, tn_4, il_5, tn_5, il_6, tn_6, il_7, tn_7, il_8, tn_8, il_9, tn_9, il_10, tn_10, il_11, tn_11, il_12, tn_12, il_13, tn_13, il_14, tn_14, il_15, tn_15, il_16, tn_16, il_17, tn_17, il_1257, tn_1257, il_1258, tn_1258, il_1259, tn_1259, il_1260, tn_1260, sm2_0, sm2_1, sm2_2, sm6_0, sm6_1, sm6_2, sm6_3, sm6_4, sm6_5, sm6_6, m1_ok, m1_al, m1_rd, m1_re, m1_ln, m1_s, m6_ok, m6_al, m6_rd, m6_re, m6_ln, m6_s, m7_ok, m7_al, m7_rd, m7_re, m7_ln, m7_s, up1_at, up1_up1]
    refine lp_M_records_49 _ (σ 8) ?_ hp ?_
    · rw [up1_at]
      unfold rc1
      rw [if_pos h4]
    · rw [up1_up1]
      exact hQ
  · rw [if_neg h4]
    refine lp_M_records_49 _ (σ 8) ?_ hp hQ
    unfold rc1
    rw [if_neg h4]))
theorem lkM_01 (v : HV) : lkM v 0 = v 0 := cpL_kn (by decide) _ _ _
def knM (v : HV) : HV := rcM (lkM v)
def sp_M_know : Nat → Sp := spL [(96, f_M_looks), (98, f_M_records)]
theorem sp_M_know_M_looks : sp_M_know 96 = f_M_looks := rfl
theorem sp_M_know_M_records : sp_M_know 98 = f_M_records := rfl
def f_M_know : Sp := aS 9 (fun _ => 126) 0 (gL0 (fun _  σ => (sm (σ 8 0 1) 4, none, up1 σ 8 (knM (σ 8)))))
theorem q_M_know {σ : SG} : f_M_know [.ref 126] (emb σ) = (sm (σ 8 0 1) 4, none, emb (up1 σ 8 (knM (σ 8)))) := aS0_at (ad := (fun _ => 126)) (i := hI 126) (by decide) rfl
set_option maxHeartbeats 4000000 in
set_option maxRecDepth 20000 in
theorem ok_M_know : SpecOK 116 f_M_know := SpecOK.of (sp := sp_M_know) (by decide) (by decide) (spL_ok (List.forall_mem_cons.mpr ⟨ok_M_looks, (List.forall_mem_cons.mpr ⟨ok_M_records, (fun q h => absurd h List.not_mem_nil)⟩)⟩)) (Does_aS0 (Nat.le_of_ble_eq_true rfl) (fun sc i  σ hi had hp => by
  refine Vf_q ?_ ⟨rfl, rfl⟩
  intro Q hQ
  dsimp only at hQ hp
  show Vf 116 _ _ 0 [.ref (126)] [] (emb σ) _

  simp only [rM_know_0, rM_know_1, rM_know_4, rM_know_5, rM_know_8, ct1_i, ct1_r, ct1_n, true_and, and_true, tl_s, tl_n, le4_0, le4_1, le4_2, le4_3, le4_4, le4_5, isO_r, cl_, emb1, emb2, le_rN, up1_at, up1_up1, sp_M_know_M_looks, sp_M_know_M_records, obM, mr_0, mr_1, mr_2, mr_3, mr_5, mr_7, mr_11, mi_0, mi_1, mi_2, mi_3, mi_4, mi_5, mi_6, smi_0, smi_1, smi_2, smi_3, smi_4, smi_5, smi_6, fok_i, fok_b1, rb_0, rb_1, rb_bi, bi_eq0, rb_b2, b2_0, ite_not, isO_r, Option.toList, List.cons_append, List.nil_append, q_M_in, q_M_atKite, q_M_atSpool, q_M_atHire, q_M_tail, il_0, tn_0, il_1, tn_1, il_2, tn_2, il_3, tn_3, il_4, tn_4, il_5, tn_5, il_6, tn_6, il_7, tn_7, il_8, tn_8, il_9, tn_9, il_10, tn_10, il_11, tn_11, il_12, tn_12, il_13, tn_13, il_14, tn_14, il_15, tn_15, il_16, tn_16, il_17, tn_17, il_1257, tn_1257, il_1258, tn_1258, il_1259, tn_1259, il_1260, tn_1260, sm2_0, sm2_1, sm2_2, sm6_0, sm6_1, sm6_2, sm6_3, sm6_4, sm6_5, sm6_6, m1_ok, m1_al, m1_rd, m1_re, m1_ln, m1_s, m6_ok, m6_al, m6_rd, m6_re, m6_ln, m6_s, m7_ok, m7_al, m7_rd, m7_re, m7_ln, m7_s, q_M_looks, q_M_records, lkM_01, hp]
  exact hQ))
def udM (v : HV) : Int32 × HV := if v 0 1 = 0 then (-5, v) else (v 0 1 - 1, cpL 1 5 0 (1289 * (v 0 1 - 1).toNatClampNeg) 0 1289 (up2 v 0 1 (v 0 1 - 1)))
def sp_M_undo : Nat → Sp := spL []
def f_M_undo : Sp := aS 9 (fun _ => 126) 0 (gL0 (fun _  σ => (sm (σ 8 0 1) 4, some (.int (udM (σ 8)).1), up1 σ 8 (udM (σ 8)).2)))
theorem q_M_undo {σ : SG} : f_M_undo [.ref 126] (emb σ) = (sm (σ 8 0 1) 4, some (.int (udM (σ 8)).1), emb (up1 σ 8 (udM (σ 8)).2)) := aS0_at (ad := (fun _ => 126)) (i := hI 126) (by decide) rfl
set_option maxHeartbeats 4000000 in
set_option maxRecDepth 20000 in
theorem ok_M_undo : SpecOK 109 f_M_undo := SpecOK.of (sp := sp_M_undo) (by decide) (by decide) (spL_ok (fun q h => absurd h List.not_mem_nil)) (Does_aS0 (Nat.le_of_ble_eq_true rfl) (fun sc i  σ hi had hp => by
  refine Vf_q ?_ ⟨rfl, rfl⟩
  intro Q hQ
  dsimp only at hQ hp
  show Vf 109 _ _ 0 [.ref (126), .null] [] (emb σ) _

  simp only [rM_undo_0, rM_undo_1, rM_undo_4, rM_undo_7, rM_undo_9, rM_undo_10, rM_undo_11, rM_undo_12, rM_undo_15, rM_undo_16, rM_undo_17, rM_undo_20, rM_undo_21, ct1_i, ct1_r, ct1_n, true_and, and_true, tl_s, tl_n, le4_0, le4_1, le4_2, le4_3, le4_4, le4_5, isO_r, cl_, emb1, emb2, le_rN, up1_at, up1_up1, obM, mr_0, mr_1, mr_2, mr_3, mr_5, mr_7, mr_11, mi_0, mi_1, mi_2, mi_3, mi_4, mi_5, mi_6, smi_0, smi_1, smi_2, smi_3, smi_4, smi_5, smi_6, fok_i, fok_b1, rb_0, rb_1, rb_bi, bi_eq0, rb_b2, b2_0, ite_not, isO_r, Option.toList, List.cons_append, List.nil_append, q_M_in, q_M_atKite, q_M_atSpool, q_M_atHire, q_M_tail, il_0, tn_0, il_1, tn_1, il_2, tn_2, il_3, tn_3, il_4, tn_4, il_5, tn_5, il_6, tn_6, il_7, tn_7, il_8, tn_8, il_9, tn_9, il_10, tn_10, il_11, tn_11, il_12, tn_12, il_13, tn_13, il_14, tn_14, il_15, tn_15, il_16, tn_16, il_17, tn_17, il_1257, tn_1257, il_1258, tn_1258, il_1259, tn_1259, il_1260, tn_1260, sm2_0, sm2_1, sm2_2, sm6_0, sm6_1, sm6_2, sm6_3, sm6_4, sm6_5, sm6_6, m1_ok, m1_al, m1_rd, m1_re, m1_ln, m1_s, m6_ok, m6_al, m6_rd, m6_re, m6_ln, m6_s, m7_ok, m7_al, m7_rd, m7_re, m7_ln, m7_s]
  unfold udM at hQ
  rcases Decidable.em (σ 8 0 1 = 0) with h0 | h0
  · rw [if_pos h0] at hQ ⊢
    dsimp only at hQ
    rw [up1_self] at hQ
    exact hQ
  rw [if_neg h0] at hQ ⊢
  have hs : σ 8 0 1 - 1 = oN ((σ 8 0 1).toNatClampNeg - 1) := by
    conv => lhs; rw [sm_eq hp]
    have : (σ 8 0 1).toNatClampNeg ≠ 0 := fun q => h0 (by rw [sm_eq hp, q]; rfl)
    rw [show (1 : Int32) = oN 1 from rfl, oN_sub (by omega)]
  have hk := hp.2
  have hn : (σ 8 0 1 - 1).toNatClampNeg = (σ 8 0 1).toNatClampNeg - 1 := by rw [hs, oN_nat (by omega)]
  refine lp_M_undo_22 (x := 0) (y := 0) (z := 0) (c := (σ 8 0 1).toNatClampNeg - 1) (by omega) 1289 0 _ rfl (by rw [up1_at, up2_at]; exact hs) ?_
  simp only [rM_undo_56, rM_undo_57, rM_undo_60, ct1_i, ct1_r, ct1_n, true_and, and_true, tl_s, tl_n, le4_0, le4_1, le4_2, le4_3, le4_4, le4_5, isO_r, obM, mr_0, mr_1, mr_2, mr_3, mr_5, mr_7, mr_11, mi_0, mi_1, mi_2, mi_3, mi_4, mi_5, mi_6, smi_0, smi_1, smi_2, smi_3, smi_4, smi_5, smi_6, fok_i, fok_b1, rb_0, rb_1, rb_bi, bi_eq0, rb_b2, b2_0, ite_not, isO_r, Option.toList, List.cons_append, List.nil_append, q_M_in, q_M_atKite, q_M_atSpool, q_M_atHire, q_M_tail, il_0, tn_0, il_1, tn_1, il_2, tn_2, il_3, tn_3, il_4, tn_4, il_5, tn_5, il_6, tn_6, il_7, tn_7, il_8, tn_8, il_9, tn_9, il_10, tn_10, il_11, tn_11, il_12, tn_12, il_13, tn_13, il_14, tn_14, il_15, tn_15, il_16, tn_16, il_17, tn_17, il_1257, tn_1257, il_1258, tn_1258, il_1259, tn_1259, il_1260, tn_1260, sm2_0, sm2_1, sm2_2, sm6_0, sm6_1, sm6_2, sm6_3, sm6_4, sm6_5, sm6_6, m1_ok, m1_al, m1_rd, m1_re, m1_ln, m1_s, m6_ok, m6_al, m6_rd, m6_re, m6_ln, m6_s, m7_ok, m7_al, m7_rd, m7_re, m7_ln, m7_s, up1_at, up1_up1]
  rw [cpL_kn (by decide), up2_at]
  rw [hn] at hQ
  exact hQ))
def rsM (v : HV) : Int32 × HV := if v 0 0 = 0 then (-5, v) else (cpL 1 4 0 0 0 1289 (knM v) 1 0, cpL 1 4 0 0 0 1289 (knM v))
def sp_M_restore : Nat → Sp := spL [(116, f_M_know)]
theorem sp_M_restore_M_know : sp_M_restore 116 = f_M_know := rfl
def f_M_restore : Sp := aS 9 (fun _ => 126) 0 (gL0 (fun _  σ => (sm (σ 8 0 1) 4, some (.int (rsM (σ 8)).1), up1 σ 8 (rsM (σ 8)).2)))
theorem q_M_restore {σ : SG} : f_M_restore [.ref 126] (emb σ) = (sm (σ 8 0 1) 4, some (.int (rsM (σ 8)).1), emb (up1 σ 8 (rsM (σ 8)).2)) := aS0_at (ad := (fun _ => 126)) (i := hI 126) (by decide) rfl
set_option maxHeartbeats 400000 in
set_option maxRecDepth 20000 in
theorem ok_M_restore : SpecOK 146 f_M_restore := SpecOK.of (sp := sp_M_restore) (by decide) (by decide) (spL_ok (List.forall_mem_cons.mpr ⟨ok_M_know, (fun q h => absurd h List.not_mem_nil)⟩)) (Does_aS0 (Nat.le_of_ble_eq_true rfl) (fun sc i  σ hi had hp => by
  refine Vf_q ?_ ⟨rfl, rfl⟩
  intro Q hQ
  dsimp only at hQ hp
  show Vf 146 _ _ 0 [.ref (126), .null] [] (emb σ) _

  simp only [rM_restore_0, rM_restore_1, rM_restore_4, rM_restore_7, rM_restore_9, rM_restore_10, rM_restore_11, rM_restore_14, rM_restore_15, ct1_i, ct1_r, ct1_n, true_and, and_true, tl_s, tl_n, le4_0, le4_1, le4_2, le4_3, le4_4, le4_5, isO_r, cl_, emb1, emb2, le_rN, up1_at, up1_up1, sp_M_restore_M_know, obM, mr_0, mr_1, mr_2, mr_3, mr_5, mr_7, mr_11, mi_0, mi_1, mi_2, mi_3, mi_4, mi_5, mi_6, smi_0, smi_1, smi_2, smi_3, smi_4, smi_5, smi_6, fok_i, fok_b1, rb_0, rb_1, rb_bi, bi_eq0, rb_b2, b2_0, ite_not, isO_r, Option.toList, List.cons_append, List.nil_append, q_M_in, q_M_atKite, q_M_atSpool, q_M_atHire, q_M_tail, il_0, tn_0, il_1, tn_1, il_2, tn_2, il_3, tn_3, il_4, tn_4, il_5, tn_5, il_6, tn_6, il_7, tn_7, il_8, tn_8, il_9, tn_9, il_10, tn_10, il_11, tn_11, il_12, tn_12, il_13, tn_13, il_14, tn_14, il_15, tn_15, il_16, tn_16, il_17, tn_17, il_1257, tn_1257, il_1258, tn_1258, il_1259, tn_1259, il_1260, tn_1260, sm2_0, sm2_1, sm2_2, sm6_0, sm6_1, sm6_2, sm6_3, sm6_4, sm6_5, sm6_6, m1_ok, m1_al, m1_rd, m1_re, m1_ln, m1_s, m6_ok, m6_al, m6_rd, m6_re, m6_ln, m6_s, m7_ok, m7_al, m7_rd, m7_re, m7_ln, m7_s, q_M_know, hp]
  unfold rsM at hQ
  rcases Decidable.em (σ 8 0 0 = 0) with h0 | h0
  · rw [if_pos h0] at hQ ⊢
    dsimp only at hQ
    rw [up1_self] at hQ
    exact hQ
  rw [if_neg h0] at hQ ⊢
  dsimp only at hQ
  generalize knM (σ 8) = w at hQ ⊢
  refine lp_M_restore_16 (x := 0) (y := 0) (z := 0) (c := 0) (by decide) 1289 0 _ rfl ?_
  rw [up1_at, up1_up1]
  generalize cpL 1 4 0 0 0 1289 w = w' at hQ ⊢
  simp only [rM_restore_41, rM_restore_42, rM_restore_45, rM_restore_46, rM_restore_47, ct1_i, ct1_r, ct1_n, true_and, and_true, tl_s, tl_n, le4_0, le4_1, le4_2, le4_3, le4_4, le4_5, isO_r, obM, mr_0, mr_1, mr_2, mr_3, mr_5, mr_7, mr_11, mi_0, mi_1, mi_2, mi_3, mi_4, mi_5, mi_6, smi_0, smi_1, smi_2, smi_3, smi_4, smi_5, smi_6, fok_i, fok_b1, rb_0, rb_1, rb_bi, bi_eq0, rb_b2, b2_0, ite_not, isO_r, Option.toList, List.cons_append, List.nil_append, q_M_in, q_M_atKite, q_M_atSpool, q_M_atHire, q_M_tail, il_0, tn_0, il_1, tn_1, il_2, tn_2, il_3, tn_3, il_4, tn_4, il_5, tn_5, il_6, tn_6, il_7, tn_7, il_8, tn_8, il_9, tn_9, il_10, tn_10, il_11, tn_11, il_12, tn_12, il_13, tn_13, il_14, tn_14, il_15, tn_15, il_16, tn_16, il_17, tn_17, il_1257, tn_1257, il_1258, tn_1258, il_1259, tn_1259, il_1260, tn_1260, sm2_0, sm2_1, sm2_2, sm6_0, sm6_1, sm6_2, sm6_3, sm6_4, sm6_5, sm6_6, m1_ok, m1_al, m1_rd, m1_re, m1_ln, m1_s, m6_ok, m6_al, m6_rd, m6_re, m6_ln, m6_s, m7_ok, m7_al, m7_rd, m7_re, m7_ln, m7_s, up1_at, up1_up1]
  exact hQ))
def sp_M_clearText : Nat → Sp := spL []
def f_M_clearText : Sp := aS 9 (fun _ => 126) 0 (gL0 (fun _  σ => (True, some (.int (σ 8 0 2)), up1 σ 8 (up2 (σ 8) 0 2 0))))
theorem q_M_clearText {σ : SG} : f_M_clearText [.ref 126] (emb σ) = (True, some (.int (σ 8 0 2)), emb (up1 σ 8 (up2 (σ 8) 0 2 0))) := aS0_at (ad := (fun _ => 126)) (i := hI 126) (by decide) rfl
set_option maxHeartbeats 4000000 in
set_option maxRecDepth 20000 in
theorem ok_M_clearText : SpecOK 108 f_M_clearText := SpecOK.of (sp := sp_M_clearText) (by decide) (by decide) (spL_ok (fun q h => absurd h List.not_mem_nil)) (Does_aS0 (Nat.le_of_ble_eq_true rfl) (fun sc i  σ hi had hp => by
  show Vf 108 _ _ 0 [.ref (126), .null] [] (emb σ) _
  simp only [rM_clearText_0, rM_clearText_1, rM_clearText_4, rM_clearText_5, rM_clearText_6, rM_clearText_7, rM_clearText_10, rM_clearText_11, ct1_i, ct1_r, ct1_n, true_and, and_true, tl_s, tl_n, le4_0, le4_1, le4_2, le4_3, le4_4, le4_5, isO_r, cl_, emb1, emb2, le_rN, up1_at, up1_up1, obM, mr_0, mr_1, mr_2, mr_3, mr_5, mr_7, mr_11, mi_0, mi_1, mi_2, mi_3, mi_4, mi_5, mi_6, smi_0, smi_1, smi_2, smi_3, smi_4, smi_5, smi_6, fok_i, fok_b1, rb_0, rb_1, rb_bi, bi_eq0, rb_b2, b2_0, ite_not, isO_r, Option.toList, List.cons_append, List.nil_append, q_M_in, q_M_atKite, q_M_atSpool, q_M_atHire, q_M_tail, il_0, tn_0, il_1, tn_1, il_2, tn_2, il_3, tn_3, il_4, tn_4, il_5, tn_5, il_6, tn_6, il_7, tn_7, il_8, tn_8, il_9, tn_9, il_10, tn_10, il_11, tn_11, il_12, tn_12, il_13, tn_13, il_14, tn_14, il_15, tn_15, il_16, tn_16, il_17, tn_17, il_1257, tn_1257, il_1258, tn_1258, il_1259, tn_1259, il_1260, tn_1260, sm2_0, sm2_1, sm2_2, sm6_0, sm6_1, sm6_2, sm6_3, sm6_4, sm6_5, sm6_6, m1_ok, m1_al, m1_rd, m1_re, m1_ln, m1_s, m6_ok, m6_al, m6_rd, m6_re, m6_ln, m6_s, m7_ok, m7_al, m7_rd, m7_re, m7_ln, m7_s]))
def ttM (v : HV) (x : Int32) : Int32 × HV := if v 0 2 = 60 then (-3, v) else (v 0 2 + 1, up2 (up2 v 6 (v 0 2).toNatClampNeg x) 0 2 (v 0 2 + 1))
def sp_M_type : Nat → Sp := spL []
def f_M_type : Sp := aS 9 (fun _ => 126) 1 (gL1 (fun _ x σ => (sm (σ 8 0 2) 60, some (.int (ttM (σ 8) x).1), up1 σ 8 (ttM (σ 8) x).2)))
theorem q_M_type {x : Int32} {σ : SG} : f_M_type [.ref 126, .int x] (emb σ) = (sm (σ 8 0 2) 60, some (.int (ttM (σ 8) x).1), emb (up1 σ 8 (ttM (σ 8) x).2)) := aS1_at (ad := (fun _ => 126)) (i := hI 126) (by decide) rfl
set_option maxHeartbeats 4000000 in
set_option maxRecDepth 20000 in
theorem ok_M_type : SpecOK 107 f_M_type := SpecOK.of (sp := sp_M_type) (by decide) (by decide) (spL_ok (fun q h => absurd h List.not_mem_nil)) (Does_aS1 (Nat.le_of_ble_eq_true rfl) (fun sc i x σ hi had hp => by
  refine Vf_q ?_ ⟨rfl, rfl⟩
  intro Q hQ
  dsimp only at hQ hp
  show Vf 107 _ _ 0 [.ref (126), .int x] [] (emb σ) _

  simp only [rM_type_0, rM_type_1, rM_type_4, rM_type_6, rM_type_9, rM_type_11, rM_type_12, rM_type_13, rM_type_16, rM_type_17, rM_type_20, rM_type_21, rM_type_22, rM_type_23, rM_type_24, rM_type_27, rM_type_28, rM_type_29, rM_type_32, rM_type_33, rM_type_36, ct1_i, ct1_r, ct1_n, true_and, and_true, tl_s, tl_n, le4_0, le4_1, le4_2, le4_3, le4_4, le4_5, isO_r, cl_, emb1, emb2, le_rN, up1_at, up1_up1, obM, mr_0, mr_1, mr_2, mr_3, mr_5, mr_7, mr_11, mi_0, mi_1, mi_2, mi_3, mi_4, mi_5, mi_6, smi_0, smi_1, smi_2, smi_3, smi_4, smi_5, smi_6, fok_i, fok_b1, rb_0, rb_1, rb_bi, bi_eq0, rb_b2, b2_0, ite_not, isO_r, Option.toList, List.cons_append, List.nil_append, q_M_in, q_M_atKite, q_M_atSpool, q_M_atHire, q_M_tail, il_0, tn_0, il_1, tn_1, il_2, tn_2, il_3, tn_3, il_4, tn_4, il_5, tn_5, il_6, tn_6, il_7, tn_7, il_8, tn_8, il_9, tn_9, il_10, tn_10, il_11, tn_11, il_12, tn_12, il_13, tn_13, il_14, tn_14, il_15, tn_15, il_16, tn_16, il_17, tn_17, il_1257, tn_1257, il_1258, tn_1258, il_1259, tn_1259, il_1260, tn_1260, sm2_0, sm2_1, sm2_2, sm6_0, sm6_1, sm6_2, sm6_3, sm6_4, sm6_5, sm6_6, m1_ok, m1_al, m1_rd, m1_re, m1_ln, m1_s, m6_ok, m6_al, m6_rd, m6_re, m6_ln, m6_s, m7_ok, m7_al, m7_rd, m7_re, m7_ln, m7_s]
  unfold ttM at hQ
  rcases Decidable.em (σ 8 0 2 = 60) with h0 | h0
  · rw [if_pos h0] at hQ ⊢
    dsimp only at hQ
    rw [up1_self] at hQ
    exact hQ
  rw [if_neg h0] at hQ ⊢
  have hk := hp.2
  have hlt : (σ 8 0 2).toNatClampNeg < 60 := by
    have : (σ 8 0 2).toNatClampNeg ≠ 60 := fun q => h0 (by rw [sm_eq hp, q]; rfl)
    omega
  have hi : iin (σ 8 0 2) 60 := by
    rw [sm_eq hp]
    exact of_eq_true (iin_n hlt (by decide))
  have e : up2 (σ 8) 6 (σ 8 0 2).toNatClampNeg x 0 2 = σ 8 0 2 := by rw [up2_kn (by decide)]
  rw [up2_at, e]
  exact ⟨hi, hQ⟩))
def phM (v : HV) : UInt64 := if v 1 14 = 0 then FP.dconst0 else FP.ddiv (FP.i2d (v 1 12)) (FP.i2d (v 1 14))
def sp_M_perHour : Nat → Sp := spL []
def f_M_perHour : Sp := aS 9 (fun _ => 126) 0 (gL0 (fun _  σ => (True, some (.double (phM (σ 8))), σ)))
theorem q_M_perHour {σ : SG} : f_M_perHour [.ref 126] (emb σ) = (True, some (.double (phM (σ 8))), emb (σ)) := aS0_at (ad := (fun _ => 126)) (i := hI 126) (by decide) rfl
set_option maxHeartbeats 4000000 in
set_option maxRecDepth 20000 in
theorem ok_M_perHour : SpecOK 111 f_M_perHour := SpecOK.of (sp := sp_M_perHour) (by decide) (by decide) (spL_ok (fun q h => absurd h List.not_mem_nil)) (Does_aS0 (Nat.le_of_ble_eq_true rfl) (fun sc i  σ hi had hp => by
  refine Vf_q ?_ ⟨rfl, rfl⟩
  intro Q hQ
  dsimp only at hQ hp
  show Vf 111 _ _ 0 [.ref (126)] [] (emb σ) _

  simp only [rM_perHour_0, rM_perHour_1, rM_perHour_4, rM_perHour_6, rM_perHour_7, rM_perHour_10, rM_perHour_11, rM_perHour_14, rM_perHour_15, rM_perHour_18, rM_perHour_20, rM_perHour_21, rM_perHour_22, rM_perHour_23, rM_perHour_26, rM_perHour_28, rM_perHour_29, rM_perHour_30, rM_perHour_31, ct1_i, ct1_r, ct1_n, true_and, and_true, tl_s, tl_n, le4_0, le4_1, le4_2, le4_3, le4_4, le4_5, isO_r, cl_, emb1, emb2, le_rN, up1_at, up1_up1, obM, mr_0, mr_1, mr_2, mr_3, mr_5, mr_7, mr_11, mi_0, mi_1, mi_2, mi_3, mi_4, mi_5, mi_6, smi_0, smi_1, smi_2, smi_3, smi_4, smi_5, smi_6, fok_i, fok_b1, rb_0, rb_1, rb_bi, bi_eq0, rb_b2, b2_0, ite_not, isO_r, Option.toList, List.cons_append, List.nil_append, q_M_in, q_M_atKite, q_M_atSpool, q_M_atHire, q_M_tail, il_0, tn_0, il_1, tn_1, il_2, tn_2, il_3, tn_3, il_4, tn_4, il_5, tn_5, il_6, tn_6, il_7, tn_7, il_8, tn_8, il_9, tn_9, il_10, tn_10, il_11, tn_11, il_12, tn_12, il_13, tn_13, il_14, tn_14, il_15, tn_15, il_16, tn_16, il_17, tn_17, il_1257, tn_1257, il_1258, tn_1258, il_1259, tn_1259, il_1260, tn_1260, sm2_0, sm2_1, sm2_2, sm6_0, sm6_1, sm6_2, sm6_3, sm6_4, sm6_5, sm6_6, m1_ok, m1_al, m1_rd, m1_re, m1_ln, m1_s, m6_ok, m6_al, m6_rd, m6_re, m6_ln, m6_s, m7_ok, m7_al, m7_rd, m7_re, m7_ln, m7_s]
  unfold phM at hQ
  rcases Decidable.em (σ 8 1 14 = 0) with h1 | h1
  case inl => rw [if_pos h1] at hQ ⊢; exact hQ
  rw [if_neg h1] at hQ ⊢
  exact ⟨n64_q h1, hQ⟩))
