/-! THE CHECK: spools, tails, settings; what is told without a loop -/
def sp1 (v : HV) (a : Int32) : HV :=
  up2 (up2 (up2 (up2 (inc v 7 1) 1 (1129 + 4 * v 1 7 + 0).toNatClampNeg a) 1 (1129 + 4 * v 1 7 + 1).toNatClampNeg 0) 1 (1129 + 4 * v 1 7 + 2).toNatClampNeg (-5)) 1 (1129 + 4 * v 1 7 + 3).toNatClampNeg 0
def spM (v : HV) (a : Int32) : Int32 × HV := if wi a 1 300 then (if v 1 7 = 10 then (-3, v) else (v 1 7, sp1 (knM v) a)) else (-2, v)

def sp_M_spool : Nat → Sp := spL [(95, f_M_in), (116, f_M_know), (100, f_M_atSpool)]
theorem sp_M_spool_M_in : sp_M_spool 95 = f_M_in := rfl
theorem sp_M_spool_M_know : sp_M_spool 116 = f_M_know := rfl
theorem sp_M_spool_M_atSpool : sp_M_spool 100 = f_M_atSpool := rfl
def f_M_spool : Sp := aS 9 (fun _ => 126) 1 (gL1 (fun _ a σ => (sm (σ 8 1 7) 10 ∧ sm (σ 8 0 1) 4, some (.int (spM (σ 8) a).1), up1 σ 8 (spM (σ 8) a).2)))
theorem q_M_spool {a : Int32} {σ : SG} : f_M_spool [.ref 126, .int a] (emb σ) = (sm (σ 8 1 7) 10 ∧ sm (σ 8 0 1) 4, some (.int (spM (σ 8) a).1), emb (up1 σ 8 (spM (σ 8) a).2)) := aS1_at (ad := (fun _ => 126)) (i := hI 126) (by decide) rfl
set_option maxHeartbeats 600000 in
set_option maxRecDepth 20000 in
theorem ok_M_spool : SpecOK 136 f_M_spool := SpecOK.of (sp := sp_M_spool) (by decide) (by decide) (spL_ok (List.forall_mem_cons.mpr ⟨ok_M_in, (List.forall_mem_cons.mpr ⟨ok_M_know, (List.forall_mem_cons.mpr ⟨ok_M_atSpool, (fun q h => absurd h List.not_mem_nil)⟩)⟩)⟩)) (Does_aS1 (Nat.le_of_ble_eq_true rfl) (fun sc i a σ hi had hp => by
  refine Vf_q ?_ ⟨rfl, rfl⟩
  intro Q hQ
  dsimp only at hQ hp
  show Vf 136 _ _ 0 [.ref (126), .int a, .null] [] (emb σ) _

  have e1 : up1 σ 8 (knM (σ 8)) 8 1 7 = σ 8 1 7 := by rw [up1_at, knM_1]
  rcases Decidable.em (σ 8 1 7 = 10) with h9 | h9
  · simp only [rM_spool_0, rM_spool_1, rM_spool_2, rM_spool_5, rM_spool_8, rM_spool_11, rM_spool_13, rM_spool_14, rM_spool_15, rM_spool_18, rM_spool_20, rM_spool_21, rM_spool_23, rM_spool_26, rM_spool_28, rM_spool_29, rM_spool_30, rM_spool_33, rM_spool_34, rM_spool_37, rM_spool_39, rM_spool_40, rM_spool_41, rM_spool_42, rM_spool_45, rM_spool_47, rM_spool_48, rM_spool_49, rM_spool_50, rM_spool_51, rM_spool_52, rM_spool_53, rM_spool_56, rM_spool_57, rM_spool_58, rM_spool_61, rM_spool_62, rM_spool_63, rM_spool_64, rM_spool_67, rM_spool_68, rM_spool_69, rM_spool_72, rM_spool_73, rM_spool_74, rM_spool_75, rM_spool_78, rM_spool_79, rM_spool_80, rM_spool_83, rM_spool_85, rM_spool_86, rM_spool_87, rM_spool_90, rM_spool_91, rM_spool_92, rM_spool_95, rM_spool_96, rM_spool_97, rM_spool_98, ct1_i, ct1_r, ct1_n, true_and, and_true, tl_s, tl_n, le4_0, le4_1, le4_2, le4_3, le4_4, le4_5, isO_r, cl_, emb1, emb2, le_rN, up1_at, up1_up1, sp_M_spool_M_in, sp_M_spool_M_know, sp_M_spool_M_atSpool, obM, mr_0, mr_1, mr_2, mr_3, mr_5, mr_7, mr_11, mi_0, mi_1, mi_2, mi_3, mi_4, mi_5, mi_6, smi_0, smi_1, smi_2, smi_3, smi_4, smi_5, smi_6, fok_i, fok_b1, rb_0, rb_1, rb_bi, bi_eq0, rb_b2, b2_0, ite_not, isO_r, Option.toList, List.cons_append, List.nil_append, q_M_in, q_M_atKite, q_M_atSpool, q_M_atHire, q_M_tail, il_0, tn_0, il_1, tn_1, il_2, tn_2, il_3, tn_3, il_4, tn_4, il_5, tn_5, il_6, tn_6, il_7, tn_7, il_8, tn_8, il_9, tn_9, il_10, tn_10, il_11, tn_11, il_12, tn_12, il_13, tn_13, il_14, tn_14, il_15, tn_15, il_16, tn_16, il_17, tn_17, il_1257, tn_1257, il_1258, tn_1258, il_1259, tn_1259, il_1260, tn_1260, sm2_0, sm2_1, sm2_2, sm6_0, sm6_1, sm6_2, sm6_3, sm6_4, sm6_5, sm6_6, m1_ok, m1_al, m1_rd, m1_re, m1_ln, m1_s, m6_ok, m6_al, m6_rd, m6_re, m6_ln, m6_s, m7_ok, m7_al, m7_rd, m7_re, m7_ln, m7_s, q_M_know, hp.2, if_pos h9]
    unfold spM at hQ
    rcases Decidable.em (wi a 1 300) with h1 | h1
    case inr => rw [if_neg h1] at hQ ⊢; dsimp only at hQ; rw [up1_self] at hQ; exact hQ
    rw [if_pos h1] at hQ ⊢
    rw [if_pos h9] at hQ
    dsimp only at hQ
    rw [up1_self] at hQ
    exact hQ
  · have hs : sm (knM (σ 8) 1 7) 9 := by rw [knM_1]; exact ne_sm (n := 9) hp.1 (by decide) h9
    have e2 : ∀ w : HV, inc w 7 1 = up2 w 1 7 (w 1 7 + 1) := fun _ => rfl
    unfold spM at hQ
    simp only [if_neg h9] at hQ
    unfold sp1 at hQ
    rw [e2] at hQ
    simp only [knM_1] at hQ
    rw [knM_1] at hs
    simp only [rM_spool_0, rM_spool_1, rM_spool_2, rM_spool_5, rM_spool_8, rM_spool_11, rM_spool_13, rM_spool_14, rM_spool_15, rM_spool_18, rM_spool_20, rM_spool_21, rM_spool_23, rM_spool_26, rM_spool_28, rM_spool_29, rM_spool_30, rM_spool_33, rM_spool_34, rM_spool_37, rM_spool_39, rM_spool_40, rM_spool_41, rM_spool_42, rM_spool_45, rM_spool_47, rM_spool_48, rM_spool_49, rM_spool_50, rM_spool_51, rM_spool_52, rM_spool_53, rM_spool_56, rM_spool_57, rM_spool_58, rM_spool_61, rM_spool_62, rM_spool_63, rM_spool_64, rM_spool_67, rM_spool_68, rM_spool_69, rM_spool_72, rM_spool_73, rM_spool_74, rM_spool_75, rM_spool_78, rM_spool_79, rM_spool_80, rM_spool_83, rM_spool_85, rM_spool_86, rM_spool_87, rM_spool_90, rM_spool_91, rM_spool_92, rM_spool_95, rM_spool_96, rM_spool_97, rM_spool_98, ct1_i, ct1_r, ct1_n, true_and, and_true, tl_s, tl_n, le4_0, le4_1, le4_2, le4_3, le4_4, le4_5, isO_r, cl_, emb1, emb2, le_rN, up1_at, up1_up1, sp_M_spool_M_in, sp_M_spool_M_know, sp_M_spool_M_atSpool, obM, mr_0, mr_1, mr_2, mr_3, mr_5, mr_7, mr_11, mi_0, mi_1, mi_2, mi_3, mi_4, mi_5, mi_6, smi_0, smi_1, smi_2, smi_3, smi_4, smi_5, smi_6, fok_i, fok_b1, rb_0, rb_1, rb_bi, bi_eq0, rb_b2, b2_0, ite_not, isO_r, Option.toList, List.cons_append, List.nil_append, q_M_in, q_M_atKite, q_M_atSpool, q_M_atHire, q_M_tail, il_0, tn_0, il_1, tn_1, il_2, tn_2, il_3, tn_3, il_4, tn_4, il_5, tn_5, il_6, tn_6, il_7, tn_7, il_8, tn_8, il_9, tn_9, il_10, tn_10, il_11, tn_11, il_12, tn_12, il_13, tn_13, il_14, tn_14, il_15, tn_15, il_16, tn_16, il_17, tn_17, il_1257, tn_1257, il_1258, tn_1258, il_1259, tn_1259, il_1260, tn_1260, sm2_0, sm2_1, sm2_2, sm6_0, sm6_1, sm6_2, sm6_3, sm6_4, sm6_5, sm6_6, m1_ok, m1_al, m1_rd, m1_re, m1_ln, m1_s, m6_ok, m6_al, m6_rd, m6_re, m6_ln, m6_s, m7_ok, m7_al, m7_rd, m7_re, m7_ln, m7_s, q_M_know, hp.2, if_neg h9, knM_1, iS_0 hs, iS_1 hs, iS_2 hs, iS_3 hs]
    rcases Decidable.em (wi a 1 300) with h1 | h1
    case inr => rw [if_neg h1] at hQ ⊢; dsimp only at hQ; rw [up1_self] at hQ; exact hQ
    rw [if_pos h1] at hQ ⊢
    exact hQ))
def taM (v : HV) (a b : Int32) : Int32 × HV := if wi a 0 5 then (if wi b 1 20 then (if 99 < ut v a 0 + ut v a 1 + ut v a 2 + b then (-3, v)
  else (ut (inc (knM v) (1169 + 3 * a + 0).toNatClampNeg b) a 0, inc (knM v) (1169 + 3 * a + 0).toNatClampNeg b)) else (-2, v)) else (-1, v)
def sp_M_tails : Nat → Sp := spL [(118, f_M_isColour), (95, f_M_in), (94, f_M_tail), (116, f_M_know)]
theorem sp_M_tails_M_isColour : sp_M_tails 118 = f_M_isColour := rfl
theorem sp_M_tails_M_in : sp_M_tails 95 = f_M_in := rfl
theorem sp_M_tails_M_tail : sp_M_tails 94 = f_M_tail := rfl
theorem sp_M_tails_M_know : sp_M_tails 116 = f_M_know := rfl
def f_M_tails : Sp := aS 9 (fun _ => 126) 2 (gL2 (fun _ a b σ => (sm (σ 8 0 1) 4, some (.int (taM (σ 8) a b).1), up1 σ 8 (taM (σ 8) a b).2)))
theorem q_M_tails {a b : Int32} {σ : SG} : f_M_tails [.ref 126, .int a, .int b] (emb σ) = (sm (σ 8 0 1) 4, some (.int (taM (σ 8) a b).1), emb (up1 σ 8 (taM (σ 8) a b).2)) := aS2_at (ad := (fun _ => 126)) (i := hI 126) (by decide) rfl
set_option maxHeartbeats 600000 in
set_option maxRecDepth 20000 in
theorem ok_M_tails : SpecOK 137 f_M_tails := SpecOK.of (sp := sp_M_tails) (by decide) (by decide) (spL_ok (List.forall_mem_cons.mpr ⟨ok_M_isColour, (List.forall_mem_cons.mpr ⟨ok_M_in, (List.forall_mem_cons.mpr ⟨ok_M_tail, (List.forall_mem_cons.mpr ⟨ok_M_know, (fun q h => absurd h List.not_mem_nil)⟩)⟩)⟩)⟩)) (Does_aS2 (Nat.le_of_ble_eq_true rfl) (fun sc i a b σ hi had hp => by
  refine Vf_q ?_ ⟨rfl, rfl⟩
  intro Q hQ
  dsimp only at hQ hp
  show Vf 137 _ _ 0 [.ref (126), .int a, .int b] [] (emb σ) _

  unfold taM at hQ
  rcases Decidable.em (wi a 0 5) with h1 | h1
  · have hs : sm a 5 := wi_sm (n := 5) h1 (by decide) (by decide)
    simp only [rM_tails_0, rM_tails_1, rM_tails_4, rM_tails_7, rM_tails_8, rM_tails_9, rM_tails_10, rM_tails_11, rM_tails_13, rM_tails_16, rM_tails_19, rM_tails_21, rM_tails_22, rM_tails_23, rM_tails_26, rM_tails_27, rM_tails_28, rM_tails_31, rM_tails_32, rM_tails_33, rM_tails_36, rM_tails_37, rM_tails_38, rM_tails_41, rM_tails_42, rM_tails_43, rM_tails_44, rM_tails_47, rM_tails_48, rM_tails_49, rM_tails_52, rM_tails_53, rM_tails_54, rM_tails_55, rM_tails_56, rM_tails_58, rM_tails_61, rM_tails_63, rM_tails_64, rM_tails_65, rM_tails_68, rM_tails_69, rM_tails_72, rM_tails_73, rM_tails_74, rM_tails_77, rM_tails_78, rM_tails_79, rM_tails_80, rM_tails_81, rM_tails_82, rM_tails_83, rM_tails_86, rM_tails_87, rM_tails_88, rM_tails_91, rM_tails_92, ct1_i, ct1_r, ct1_n, true_and, and_true, tl_s, tl_n, le4_0, le4_1, le4_2, le4_3, le4_4, le4_5, isO_r, cl_, emb1, emb2, le_rN, up1_at, up1_up1, sp_M_tails_M_isColour, sp_M_tails_M_in, sp_M_tails_M_tail, sp_M_tails_M_know, obM, mr_0, mr_1, mr_2, mr_3, mr_5, mr_7, mr_11, mi_0, mi_1, mi_2, mi_3, mi_4, mi_5, mi_6, smi_0, smi_1, smi_2, smi_3, smi_4, smi_5, smi_6, fok_i, fok_b1, rb_0, rb_1, rb_bi, bi_eq0, rb_b2, b2_0, ite_not, isO_r, Option.toList, List.cons_append, List.nil_append, q_M_in, q_M_atKite, q_M_atSpool, q_M_atHire, q_M_tail, il_0, tn_0, il_1, tn_1, il_2, tn_2, il_3, tn_3, il_4, tn_4, il_5, tn_5, il_6, tn_6, il_7, tn_7, il_8, tn_8, il_9, tn_9, il_10, tn_10, il_11, tn_11, il_12, tn_12, il_13, tn_13, il_14, tn_14, il_15, tn_15, il_16, tn_16, il_17, tn_17, il_1257, tn_1257, il_1258, tn_1258, il_1259, tn_1259, il_1260, tn_1260, sm2_0, sm2_1, sm2_2, sm6_0, sm6_1, sm6_2, sm6_3, sm6_4, sm6_5, sm6_6, m1_ok, m1_al, m1_rd, m1_re, m1_ln, m1_s, m6_ok, m6_al, m6_rd, m6_re, m6_ln, m6_s, m7_ok, m7_al, m7_rd, m7_re, m7_ln, m7_s, q_M_isColour, q_M_know, hp, iT_0 hs, iT_1 hs, iT_2 hs]
    rw [if_pos h1] at hQ ⊢
    rcases Decidable.em (wi b 1 20) with h2 | h2
    case inr => rw [if_neg h2] at hQ ⊢; dsimp only at hQ; rw [up1_self] at hQ; exact hQ
    rw [if_pos h2] at hQ ⊢
    rcases Decidable.em (99 < ut (σ 8) a 0 + ut (σ 8) a 1 + ut (σ 8) a 2 + b) with h3 | h3
    case inl => rw [if_pos h3] at hQ ⊢; dsimp only at hQ; rw [up1_self] at hQ; exact hQ
    rw [if_neg h3] at hQ ⊢
    exact hQ
  · simp only [rM_tails_0, rM_tails_1, rM_tails_4, rM_tails_7, rM_tails_8, ct1_i, ct1_r, ct1_n, true_and, and_true, tl_s, tl_n, le4_0, le4_1, le4_2, le4_3, le4_4, le4_5, isO_r, cl_, emb1, emb2, le_rN, up1_at, up1_up1, sp_M_tails_M_isColour, sp_M_tails_M_in, sp_M_tails_M_tail, sp_M_tails_M_know, obM, mr_0, mr_1, mr_2, mr_3, mr_5, mr_7, mr_11, mi_0, mi_1, mi_2, mi_3, mi_4, mi_5, mi_6, smi_0, smi_1, smi_2, smi_3, smi_4, smi_5, smi_6, fok_i, fok_b1, rb_0, rb_1, rb_bi, bi_eq0, rb_b2, b2_0, ite_not, isO_r, Option.toList, List.cons_append, List.nil_append, q_M_in, q_M_atKite, q_M_atSpool, q_M_atHire, q_M_tail, il_0, tn_0, il_1, tn_1, il_2, tn_2, il_3, tn_3, il_4, tn_4, il_5, tn_5, il_6, tn_6, il_7, tn_7, il_8, tn_8, il_9, tn_9, il_10, tn_10, il_11, tn_11, il_12, tn_12, il_13, tn_13, il_14, tn_14, il_15, tn_15, il_16, tn_16, il_17, tn_17, il_1257, tn_1257, il_1258, tn_1258, il_1259, tn_1259, il_1260, tn_1260, sm2_0, sm2_1, sm2_2, sm6_0, sm6_1, sm6_2, sm6_3, sm6_4, sm6_5, sm6_6, m1_ok, m1_al, m1_rd, m1_re, m1_ln, m1_s, m6_ok, m6_al, m6_rd, m6_re, m6_ln, m6_s, m7_ok, m7_al, m7_rd, m7_re, m7_ln, m7_s, q_M_isColour, if_neg h1]
    rw [if_neg h1] at hQ
    dsimp only at hQ
    rw [up1_self] at hQ
    exact hQ))
def foM (v : HV) (a : Int32) : Int32 × HV := if wi a 0 5 then (if ut v a 2 = 0 then (-5, v)
  else (ut (inc (dcr (knM v) (1169 + 3 * a + 2).toNatClampNeg 1) (1169 + 3 * a + 0).toNatClampNeg 1) a 0, inc (dcr (knM v) (1169 + 3 * a + 2).toNatClampNeg 1) (1169 + 3 * a + 0).toNatClampNeg 1)) else (-1, v)
def sp_M_found : Nat → Sp := spL [(118, f_M_isColour), (94, f_M_tail), (116, f_M_know)]
theorem sp_M_found_M_isColour : sp_M_found 118 = f_M_isColour := rfl
theorem sp_M_found_M_tail : sp_M_found 94 = f_M_tail := rfl
theorem sp_M_found_M_know : sp_M_found 116 = f_M_know := rfl
def f_M_found : Sp := aS 9 (fun _ => 126) 1 (gL1 (fun _ a σ => (sm (σ 8 0 1) 4, some (.int (foM (σ 8) a).1), up1 σ 8 (foM (σ 8) a).2)))
theorem q_M_found {a : Int32} {σ : SG} : f_M_found [.ref 126, .int a] (emb σ) = (sm (σ 8 0 1) 4, some (.int (foM (σ 8) a).1), emb (up1 σ 8 (foM (σ 8) a).2)) := aS1_at (ad := (fun _ => 126)) (i := hI 126) (by decide) rfl
set_option maxHeartbeats 600000 in
set_option maxRecDepth 20000 in
theorem ok_M_found : SpecOK 141 f_M_found := SpecOK.of (sp := sp_M_found) (by decide) (by decide) (spL_ok (List.forall_mem_cons.mpr ⟨ok_M_isColour, (List.forall_mem_cons.mpr ⟨ok_M_tail, (List.forall_mem_cons.mpr ⟨ok_M_know, (fun q h => absurd h List.not_mem_nil)⟩)⟩)⟩)) (Does_aS1 (Nat.le_of_ble_eq_true rfl) (fun sc i a σ hi had hp => by
  refine Vf_q ?_ ⟨rfl, rfl⟩
  intro Q hQ
  dsimp only at hQ hp
  show Vf 141 _ _ 0 [.ref (126), .int a] [] (emb σ) _

  unfold foM at hQ
  rcases Decidable.em (wi a 0 5) with h1 | h1
  · have hs : sm a 5 := wi_sm (n := 5) h1 (by decide) (by decide)
    simp only [rM_found_0, rM_found_1, rM_found_4, rM_found_7, rM_found_8, rM_found_9, rM_found_10, rM_found_13, rM_found_14, rM_found_15, rM_found_18, rM_found_19, rM_found_22, rM_found_24, rM_found_25, rM_found_26, rM_found_29, rM_found_30, rM_found_33, rM_found_34, rM_found_35, rM_found_38, rM_found_39, rM_found_40, rM_found_41, rM_found_42, rM_found_43, rM_found_44, rM_found_47, rM_found_48, rM_found_49, rM_found_52, rM_found_53, rM_found_54, rM_found_55, rM_found_56, rM_found_57, rM_found_58, rM_found_61, rM_found_62, rM_found_63, rM_found_66, rM_found_67, ct1_i, ct1_r, ct1_n, true_and, and_true, tl_s, tl_n, le4_0, le4_1, le4_2, le4_3, le4_4, le4_5, isO_r, cl_, emb1, emb2, le_rN, up1_at, up1_up1, sp_M_found_M_isColour, sp_M_found_M_tail, sp_M_found_M_know, obM, mr_0, mr_1, mr_2, mr_3, mr_5, mr_7, mr_11, mi_0, mi_1, mi_2, mi_3, mi_4, mi_5, mi_6, smi_0, smi_1, smi_2, smi_3, smi_4, smi_5, smi_6, fok_i, fok_b1, rb_0, rb_1, rb_bi, bi_eq0, rb_b2, b2_0, ite_not, isO_r, Option.toList, List.cons_append, List.nil_append, q_M_in, q_M_atKite, q_M_atSpool, q_M_atHire, q_M_tail, il_0, tn_0, il_1, tn_1, il_2, tn_2, il_3, tn_3, il_4, tn_4, il_5, tn_5, il_6, tn_6, il_7, tn_7, il_8, tn_8, il_9, tn_9, il_10, tn_10, il_11, tn_11, il_12, tn_12, il_13, tn_13, il_14, tn_14, il_15, tn_15, il_16, tn_16, il_17, tn_17, il_1257, tn_1257, il_1258, tn_1258, il_1259, tn_1259, il_1260, tn_1260, sm2_0, sm2_1, sm2_2, sm6_0, sm6_1, sm6_2, sm6_3, sm6_4, sm6_5, sm6_6, m1_ok, m1_al, m1_rd, m1_re, m1_ln, m1_s, m6_ok, m6_al, m6_rd, m6_re, m6_ln, m6_s, m7_ok, m7_al, m7_rd, m7_re, m7_ln, m7_s, q_M_isColour, q_M_know, hp, iT_0 hs, iT_1 hs, iT_2 hs]
    rw [if_pos h1] at hQ ⊢
    rcases Decidable.em (ut (σ 8) a 2 = 0) with h3 | h3
    case inl => rw [if_pos h3] at hQ ⊢; dsimp only at hQ; rw [up1_self] at hQ; exact hQ
    rw [if_neg h3] at hQ ⊢
    exact hQ
  · simp only [rM_found_0, rM_found_1, rM_found_4, rM_found_7, rM_found_8, ct1_i, ct1_r, ct1_n, true_and, and_true, tl_s, tl_n, le4_0, le4_1, le4_2, le4_3, le4_4, le4_5, isO_r, cl_, emb1, emb2, le_rN, up1_at, up1_up1, sp_M_found_M_isColour, sp_M_found_M_tail, sp_M_found_M_know, obM, mr_0, mr_1, mr_2, mr_3, mr_5, mr_7, mr_11, mi_0, mi_1, mi_2, mi_3, mi_4, mi_5, mi_6, smi_0, smi_1, smi_2, smi_3, smi_4, smi_5, smi_6, fok_i, fok_b1, rb_0, rb_1, rb_bi, bi_eq0, rb_b2, b2_0, ite_not, isO_r, Option.toList, List.cons_append, List.nil_append, q_M_in, q_M_atKite, q_M_atSpool, q_M_atHire, q_M_tail, il_0, tn_0, il_1, tn_1, il_2, tn_2, il_3, tn_3, il_4, tn_4, il_5, tn_5, il_6, tn_6, il_7, tn_7, il_8, tn_8, il_9, tn_9, il_10, tn_10, il_11, tn_11, il_12, tn_12, il_13, tn_13, il_14, tn_14, il_15, tn_15, il_16, tn_16, il_17, tn_17, il_1257, tn_1257, il_1258, tn_1258, il_1259, tn_1259, il_1260, tn_1260, sm2_0, sm2_1, sm2_2, sm6_0, sm6_1, sm6_2, sm6_3, sm6_4, sm6_5, sm6_6, m1_ok, m1_al, m1_rd, m1_re, m1_ln, m1_s, m6_ok, m6_al, m6_rd, m6_re, m6_ln, m6_s, m7_ok, m7_al, m7_rd, m7_re, m7_ln, m7_s, q_M_isColour, if_neg h1]
    rw [if_neg h1] at hQ
    dsimp only at hQ
    rw [up1_self] at hQ
    exact hQ))
def seM (v : HV) (a b : Int32) : Int32 × HV := if wi a 0 4 then (if wi b (mlF a) (mmF a) then (if v 1 (1 + a).toNatClampNeg = b then (-5, v)
  else (v 1 (1 + a).toNatClampNeg, up2 (knM v) 1 (1 + a).toNatClampNeg b)) else (-2, v)) else (-2, v)
def sp_M_set : Nat → Sp := spL [(95, f_M_in), (105, f_M_least), (106, f_M_most), (116, f_M_know)]
theorem sp_M_set_M_in : sp_M_set 95 = f_M_in := rfl
theorem sp_M_set_M_least : sp_M_set 105 = f_M_least := rfl
theorem sp_M_set_M_most : sp_M_set 106 = f_M_most := rfl
theorem sp_M_set_M_know : sp_M_set 116 = f_M_know := rfl
def f_M_set : Sp := aS 9 (fun _ => 126) 2 (gL2 (fun _ a b σ => (sm (σ 8 0 1) 4, some (.int (seM (σ 8) a b).1), up1 σ 8 (seM (σ 8) a b).2)))
theorem q_M_set {a b : Int32} {σ : SG} : f_M_set [.ref 126, .int a, .int b] (emb σ) = (sm (σ 8 0 1) 4, some (.int (seM (σ 8) a b).1), emb (up1 σ 8 (seM (σ 8) a b).2)) := aS2_at (ad := (fun _ => 126)) (i := hI 126) (by decide) rfl
set_option maxHeartbeats 600000 in
set_option maxRecDepth 20000 in
theorem ok_M_set : SpecOK 143 f_M_set := SpecOK.of (sp := sp_M_set) (by decide) (by decide) (spL_ok (List.forall_mem_cons.mpr ⟨ok_M_in, (List.forall_mem_cons.mpr ⟨ok_M_least, (List.forall_mem_cons.mpr ⟨ok_M_most, (List.forall_mem_cons.mpr ⟨ok_M_know, (fun q h => absurd h List.not_mem_nil)⟩)⟩)⟩)⟩)) (Does_aS2 (Nat.le_of_ble_eq_true rfl) (fun sc i a b σ hi had hp => by
  refine Vf_q ?_ ⟨rfl, rfl⟩
  intro Q hQ
  dsimp only at hQ hp
  show Vf 143 _ _ 0 [.ref (126), .int a, .int b, .null] [] (emb σ) _

  unfold seM at hQ
  rcases Decidable.em (wi a 0 4) with h1 | h1
  · have hs : sm a 4 := wi_sm (n := 4) h1 (by decide) (by decide)
    simp only [rM_set_0, rM_set_1, rM_set_2, rM_set_3, rM_set_6, rM_set_9, rM_set_10, rM_set_11, rM_set_14, rM_set_15, rM_set_18, rM_set_21, rM_set_24, rM_set_26, rM_set_27, rM_set_28, rM_set_31, rM_set_32, rM_set_33, rM_set_34, rM_set_35, rM_set_36, rM_set_37, rM_set_38, rM_set_41, rM_set_43, rM_set_44, rM_set_45, rM_set_48, rM_set_49, rM_set_52, rM_set_53, rM_set_54, rM_set_55, rM_set_56, rM_set_57, rM_set_58, ct1_i, ct1_r, ct1_n, true_and, and_true, tl_s, tl_n, le4_0, le4_1, le4_2, le4_3, le4_4, le4_5, isO_r, cl_, emb1, emb2, le_rN, up1_at, up1_up1, sp_M_set_M_in, sp_M_set_M_least, sp_M_set_M_most, sp_M_set_M_know, obM, mr_0, mr_1, mr_2, mr_3, mr_5, mr_7, mr_11, mi_0, mi_1, mi_2, mi_3, mi_4, mi_5, mi_6, smi_0, smi_1, smi_2, smi_3, smi_4, smi_5, smi_6, fok_i, fok_b1, rb_0, rb_1, rb_bi, bi_eq0, rb_b2, b2_0, ite_not, isO_r, Option.toList, List.cons_append, List.nil_append, q_M_in, q_M_atKite, q_M_atSpool, q_M_atHire, q_M_tail, il_0, tn_0, il_1, tn_1, il_2, tn_2, il_3, tn_3, il_4, tn_4, il_5, tn_5, il_6, tn_6, il_7, tn_7, il_8, tn_8, il_9, tn_9, il_10, tn_10, il_11, tn_11, il_12, tn_12, il_13, tn_13, il_14, tn_14, il_15, tn_15, il_16, tn_16, il_17, tn_17, il_1257, tn_1257, il_1258, tn_1258, il_1259, tn_1259, il_1260, tn_1260, sm2_0, sm2_1, sm2_2, sm6_0, sm6_1, sm6_2, sm6_3, sm6_4, sm6_5, sm6_6, m1_ok, m1_al, m1_rd, m1_re, m1_ln, m1_s, m6_ok, m6_al, m6_rd, m6_re, m6_ln, m6_s, m7_ok, m7_al, m7_rd, m7_re, m7_ln, m7_s, q_M_least, q_M_most, q_M_know, hp, iSe hs]
    rw [if_pos h1] at hQ ⊢
    rcases Decidable.em (wi b (mlF a) (mmF a)) with h2 | h2
    case inr => rw [if_neg h2] at hQ ⊢; dsimp only at hQ; rw [up1_self] at hQ; exact hQ
    rw [if_pos h2] at hQ ⊢
    rcases Decidable.em (σ 8 1 (1 + a).toNatClampNeg = b) with h3 | h3
    case inl => rw [if_pos h3] at hQ ⊢; dsimp only at hQ; rw [up1_self] at hQ; exact hQ
    rw [if_neg h3] at hQ ⊢
    exact hQ
  · simp only [rM_set_0, rM_set_1, rM_set_2, rM_set_3, rM_set_6, rM_set_24, rM_set_26, ct1_i, ct1_r, ct1_n, true_and, and_true, tl_s, tl_n, le4_0, le4_1, le4_2, le4_3, le4_4, le4_5, isO_r, cl_, emb1, emb2, le_rN, up1_at, up1_up1, sp_M_set_M_in, sp_M_set_M_least, sp_M_set_M_most, sp_M_set_M_know, obM, mr_0, mr_1, mr_2, mr_3, mr_5, mr_7, mr_11, mi_0, mi_1, mi_2, mi_3, mi_4, mi_5, mi_6, smi_0, smi_1, smi_2, smi_3, smi_4, smi_5, smi_6, fok_i, fok_b1, rb_0, rb_1, rb_bi, bi_eq0, rb_b2, b2_0, ite_not, isO_r, Option.toList, List.cons_append, List.nil_append, q_M_in, q_M_atKite, q_M_atSpool, q_M_atHire, q_M_tail, il_0, tn_0, il_1, tn_1, il_2, tn_2, il_3, tn_3, il_4, tn_4, il_5, tn_5, il_6, tn_6, il_7, tn_7, il_8, tn_8, il_9, tn_9, il_10, tn_10, il_11, tn_11, il_12, tn_12, il_13, tn_13, il_14, tn_14, il_15, tn_15, il_16, tn_16, il_17, tn_17, il_1257, tn_1257, il_1258, tn_1258, il_1259, tn_1259, il_1260, tn_1260, sm2_0, sm2_1, sm2_2, sm6_0, sm6_1, sm6_2, sm6_3, sm6_4, sm6_5, sm6_6, m1_ok, m1_al, m1_rd, m1_re, m1_ln, m1_s, m6_ok, m6_al, m6_rd, m6_re, m6_ln, m6_s, m7_ok, m7_al, m7_rd, m7_re, m7_ln, m7_s, if_neg h1]
    rw [if_neg h1] at hQ
    dsimp only at hQ
    rw [up1_self] at hQ
    exact hQ))
def sp_M_windOf : Nat → Sp := spL [(95, f_M_in)]
theorem sp_M_windOf_M_in : sp_M_windOf 95 = f_M_in := rfl
def f_M_windOf : Sp := aS 9 (fun _ => 126) 1 (gL1 (fun _ x σ => (True, some (.int (if wi x 0 999 then σ 8 1 (17 + x).toNatClampNeg else -1)), σ)))
theorem q_M_windOf {x : Int32} {σ : SG} : f_M_windOf [.ref 126, .int x] (emb σ) = (True, some (.int (if wi x 0 999 then σ 8 1 (17 + x).toNatClampNeg else -1)), emb (σ)) := aS1_at (ad := (fun _ => 126)) (i := hI 126) (by decide) rfl
set_option maxHeartbeats 600000 in
set_option maxRecDepth 20000 in
theorem ok_M_windOf : SpecOK 132 f_M_windOf := SpecOK.of (sp := sp_M_windOf) (by decide) (by decide) (spL_ok (List.forall_mem_cons.mpr ⟨ok_M_in, (fun q h => absurd h List.not_mem_nil)⟩)) (Does_aS1 (Nat.le_of_ble_eq_true rfl) (fun sc i x σ hi had hp => by
  refine Vf_q ?_ ⟨rfl, rfl⟩
  intro Q hQ
  dsimp only at hQ hp
  show Vf 132 _ _ 0 [.ref (126), .int x] [] (emb σ) _

  rcases Decidable.em (wi x 0 999) with h1 | h1
  · have hs : sm x 999 := wi_sm (n := 999) h1 (by decide) (by decide)
    simp only [rM_windOf_0, rM_windOf_1, rM_windOf_2, rM_windOf_5, rM_windOf_8, rM_windOf_11, rM_windOf_12, rM_windOf_15, rM_windOf_17, rM_windOf_18, rM_windOf_19, rM_windOf_20, rM_windOf_23, rM_windOf_24, ct1_i, ct1_r, ct1_n, true_and, and_true, tl_s, tl_n, le4_0, le4_1, le4_2, le4_3, le4_4, le4_5, isO_r, cl_, emb1, emb2, le_rN, up1_at, up1_up1, sp_M_windOf_M_in, obM, mr_0, mr_1, mr_2, mr_3, mr_5, mr_7, mr_11, mi_0, mi_1, mi_2, mi_3, mi_4, mi_5, mi_6, smi_0, smi_1, smi_2, smi_3, smi_4, smi_5, smi_6, fok_i, fok_b1, rb_0, rb_1, rb_bi, bi_eq0, rb_b2, b2_0, ite_not, isO_r, Option.toList, List.cons_append, List.nil_append, q_M_in, q_M_atKite, q_M_atSpool, q_M_atHire, q_M_tail, il_0, tn_0, il_1, tn_1, il_2, tn_2, il_3, tn_3, il_4, tn_4, il_5, tn_5, il_6, tn_6, il_7, tn_7, il_8, tn_8, il_9, tn_9, il_10, tn_10, il_11, tn_11, il_12, tn_12, il_13, tn_13, il_14, tn_14, il_15, tn_15, il_16, tn_16, il_17, tn_17, il_1257, tn_1257, il_1258, tn_1258, il_1259, tn_1259, il_1260, tn_1260, sm2_0, sm2_1, sm2_2, sm6_0, sm6_1, sm6_2, sm6_3, sm6_4, sm6_5, sm6_6, m1_ok, m1_al, m1_rd, m1_re, m1_ln, m1_s, m6_ok, m6_al, m6_rd, m6_re, m6_ln, m6_s, m7_ok, m7_al, m7_rd, m7_re, m7_ln, m7_s, if_pos h1, iW hs]
    rw [if_pos h1] at hQ
    exact hQ
  · simp only [rM_windOf_0, rM_windOf_1, rM_windOf_2, rM_windOf_5, rM_windOf_8, rM_windOf_11, rM_windOf_12, rM_windOf_15, rM_windOf_17, rM_windOf_18, rM_windOf_19, rM_windOf_20, rM_windOf_23, rM_windOf_24, ct1_i, ct1_r, ct1_n, true_and, and_true, tl_s, tl_n, le4_0, le4_1, le4_2, le4_3, le4_4, le4_5, isO_r, cl_, emb1, emb2, le_rN, up1_at, up1_up1, sp_M_windOf_M_in, obM, mr_0, mr_1, mr_2, mr_3, mr_5, mr_7, mr_11, mi_0, mi_1, mi_2, mi_3, mi_4, mi_5, mi_6, smi_0, smi_1, smi_2, smi_3, smi_4, smi_5, smi_6, fok_i, fok_b1, rb_0, rb_1, rb_bi, bi_eq0, rb_b2, b2_0, ite_not, isO_r, Option.toList, List.cons_append, List.nil_append, q_M_in, q_M_atKite, q_M_atSpool, q_M_atHire, q_M_tail, il_0, tn_0, il_1, tn_1, il_2, tn_2, il_3, tn_3, il_4, tn_4, il_5, tn_5, il_6, tn_6, il_7, tn_7, il_8, tn_8, il_9, tn_9, il_10, tn_10, il_11, tn_11, il_12, tn_12, il_13, tn_13, il_14, tn_14, il_15, tn_15, il_16, tn_16, il_17, tn_17, il_1257, tn_1257, il_1258, tn_1258, il_1259, tn_1259, il_1260, tn_1260, sm2_0, sm2_1, sm2_2, sm6_0, sm6_1, sm6_2, sm6_3, sm6_4, sm6_5, sm6_6, m1_ok, m1_al, m1_rd, m1_re, m1_ln, m1_s, m6_ok, m6_al, m6_rd, m6_re, m6_ln, m6_s, m7_ok, m7_al, m7_rd, m7_re, m7_ln, m7_s, if_neg h1]
    rw [if_neg h1] at hQ
    exact hQ))
