/-! THE CHECK: back, ifPassed -/
def bgM (v : HV) (p : Int32) : Int32 := uk v (uh v p 1) 4 * uh v p 4 / 2
def bfM (v : HV) (mis : Int32) : Int32 := btF mis 0 6 0 * v 1 4
def bw1 (v : HV) (p mis : Int32) : HV := pyM v p (bfM v mis - bgM v p)
def bw2 (v : HV) (p mis : Int32) : HV := tgF mis 2 0 6 (bw1 v p mis)
def bw3 (v : HV) (p mis : Int32) : HV := dcr (bw2 v p mis) (1187 + 7 * p + 5).toNatClampNeg mis
def baM (v : HV) (h mis : Int32) : Int32 × HV :=
  if plF v h = -5 then (-1, v) else if wi mis 0 63 then (if mis &&& uh v (plF v h) 5 = mis then
    (bgM (knM v) (plF v h) - bfM (knM v) mis + 1000, cbM (bw3 (knM v) (plF v h) mis) (plF v h)) else (-2, v)) else (-2, v)

def sp_M_back : Nat → Sp := spL [(125, f_M_placeOf), (95, f_M_in), (126, f_M_of), (116, f_M_know), (139, f_M_priceOf), (104, f_M_bits), (124, f_M_pays), (127, f_M_tailsGo), (103, f_M_atHire), (152, f_M_comesBack)]
theorem sp_M_back_M_placeOf : sp_M_back 125 = f_M_placeOf := rfl
theorem sp_M_back_M_in : sp_M_back 95 = f_M_in := rfl
theorem sp_M_back_M_of : sp_M_back 126 = f_M_of := rfl
theorem sp_M_back_M_know : sp_M_back 116 = f_M_know := rfl
theorem sp_M_back_M_priceOf : sp_M_back 139 = f_M_priceOf := rfl
theorem sp_M_back_M_bits : sp_M_back 104 = f_M_bits := rfl
theorem sp_M_back_M_pays : sp_M_back 124 = f_M_pays := rfl
theorem sp_M_back_M_tailsGo : sp_M_back 127 = f_M_tailsGo := rfl
theorem sp_M_back_M_atHire : sp_M_back 103 = f_M_atHire := rfl
theorem sp_M_back_M_comesBack : sp_M_back 152 = f_M_comesBack := rfl
def f_M_back : Sp := aS 9 (fun _ => 126) 2 (gL2 (fun _ h mis σ => (sm (σ 8 0 1) 4 ∧ sm (σ 8 1 16) 10 ∧ (¬ plF (σ 8) h = -5 → wi mis 0 63 → mis &&& uh (σ 8) (plF (σ 8) h) 5 = mis → sm (uh (σ 8) (plF (σ 8) h) 1) 15 ∧ cbP (bw3 (knM (σ 8)) (plF (σ 8) h) mis) (plF (σ 8) h)), some (.int (baM (σ 8) h mis).1), up1 σ 8 (baM (σ 8) h mis).2)))
theorem q_M_back {h mis : Int32} {σ : SG} : f_M_back [.ref 126, .int h, .int mis] (emb σ) = (sm (σ 8 0 1) 4 ∧ sm (σ 8 1 16) 10 ∧ (¬ plF (σ 8) h = -5 → wi mis 0 63 → mis &&& uh (σ 8) (plF (σ 8) h) 5 = mis → sm (uh (σ 8) (plF (σ 8) h) 1) 15 ∧ cbP (bw3 (knM (σ 8)) (plF (σ 8) h) mis) (plF (σ 8) h)), some (.int (baM (σ 8) h mis).1), emb (up1 σ 8 (baM (σ 8) h mis).2)) := aS2_at (ad := (fun _ => 126)) (i := hI 126) (by decide) rfl
set_option maxHeartbeats 600000 in
set_option maxRecDepth 20000 in
theorem ok_M_back : SpecOK 160 f_M_back := SpecOK.of (sp := sp_M_back) (by decide) (by decide) (spL_ok (List.forall_mem_cons.mpr ⟨ok_M_placeOf, (List.forall_mem_cons.mpr ⟨ok_M_in, (List.forall_mem_cons.mpr ⟨ok_M_of, (List.forall_mem_cons.mpr ⟨ok_M_know, (List.forall_mem_cons.mpr ⟨ok_M_priceOf, (List.forall_mem_cons.mpr ⟨ok_M_bits, (List.forall_mem_cons.mpr ⟨ok_M_pays, (List.forall_mem_cons.mpr ⟨ok_M_tailsGo, (List.forall_mem_cons.mpr ⟨ok_M_atHire, (List.forall_mem_cons.mpr ⟨ok_M_comesBack, (fun q h => absurd h List.not_mem_nil)⟩)⟩)⟩)⟩)⟩)⟩)⟩)⟩)⟩)⟩)) (Does_aS2 (Nat.le_of_ble_eq_true rfl) (fun sc i h mis σ hi had hp => by
  refine Vf_q ?_ ⟨rfl, rfl⟩
  intro Q hQ
  dsimp only at hQ hp
  show Vf 160 _ _ 0 [.ref (126), .int h, .int mis, .null, .null, .null] [] (emb σ) _

  unfold baM at hQ
  rcases Decidable.em (plF (σ 8) h = -5) with h1 | h1
  · rw [if_pos h1] at hQ
    simp only [rM_back_0, rM_back_1, rM_back_2, rM_back_5, rM_back_6, rM_back_7, rM_back_9, rM_back_12, rM_back_13, ct1_i, ct1_r, ct1_n, true_and, and_true, tl_s, tl_n, le4_0, le4_1, le4_2, le4_3, le4_4, le4_5, isO_r, cl_, emb1, emb2, le_rN, up1_at, up1_up1, sp_M_back_M_placeOf, sp_M_back_M_in, sp_M_back_M_of, sp_M_back_M_know, sp_M_back_M_priceOf, sp_M_back_M_bits, sp_M_back_M_pays, sp_M_back_M_tailsGo, sp_M_back_M_atHire, sp_M_back_M_comesBack, obM, mr_0, mr_1, mr_2, mr_3, mr_5, mr_7, mr_11, mi_0, mi_1, mi_2, mi_3, mi_4, mi_5, mi_6, smi_0, smi_1, smi_2, smi_3, smi_4, smi_5, smi_6, fok_i, fok_b1, rb_0, rb_1, rb_bi, bi_eq0, rb_b2, b2_0, ite_not, isO_r, Option.toList, List.cons_append, List.nil_append, q_M_in, q_M_atKite, q_M_atSpool, q_M_atHire, q_M_tail, il_0, tn_0, il_1, tn_1, il_2, tn_2, il_3, tn_3, il_4, tn_4, il_5, tn_5, il_6, tn_6, il_7, tn_7, il_8, tn_8, il_9, tn_9, il_10, tn_10, il_11, tn_11, il_12, tn_12, il_13, tn_13, il_14, tn_14, il_15, tn_15, il_16, tn_16, il_17, tn_17, il_1257, tn_1257, il_1258, tn_1258, il_1259, tn_1259, il_1260, tn_1260, sm2_0, sm2_1, sm2_2, sm6_0, sm6_1, sm6_2, sm6_3, sm6_4, sm6_5, sm6_6, m1_ok, m1_al, m1_rd, m1_re, m1_ln, m1_s, m6_ok, m6_al, m6_rd, m6_re, m6_ln, m6_s, m7_ok, m7_al, m7_rd, m7_re, m7_ln, m7_s, q_M_placeOf, hp.2.1, if_pos h1]
    dsimp only at hQ
    rw [up1_self] at hQ
    exact hQ
  have hs := plF_sm hp.2.1 h1
  have h3 := hp.2.2 h1
  rw [if_neg h1] at hQ
  generalize hP : plF (σ 8) h = P at hQ hs h3 h1 ⊢
  have g1 : ∀ v : HV, pyM v P (bfM v mis - bgM v P) = bw1 v P mis := fun _ => rfl
  have g2 : ∀ v : HV, tgF mis 2 0 6 (bw1 v P mis) = bw2 v P mis := fun _ => rfl
  have g3 : ∀ v : HV, up2 (bw2 v P mis) 1 (1187 + 7 * P + 5).toNatClampNeg (bw2 v P mis 1 (1187 + 7 * P + 5).toNatClampNeg - mis) = bw3 v P mis := fun _ => rfl
  have g4 : ∀ v : HV, uk v (uh v P 1) 4 * uh v P 4 / 2 = bgM v P := fun _ => rfl
  have g5 : ∀ v : HV, btF mis 0 6 0 * v 1 4 = bfM v mis := fun _ => rfl
  simp only [rM_back_0, rM_back_1, rM_back_2, rM_back_5, rM_back_6, rM_back_7, rM_back_9, rM_back_12, rM_back_13, rM_back_14, rM_back_15, rM_back_16, rM_back_18, rM_back_21, rM_back_24, rM_back_25, rM_back_26, rM_back_27, rM_back_28, rM_back_31, rM_back_32, rM_back_33, rM_back_36, rM_back_38, rM_back_39, rM_back_40, rM_back_43, rM_back_44, rM_back_45, rM_back_48, rM_back_49, rM_back_50, rM_back_51, rM_back_54, rM_back_55, rM_back_56, rM_back_57, rM_back_59, rM_back_60, rM_back_63, rM_back_64, rM_back_67, rM_back_68, rM_back_69, rM_back_70, rM_back_72, rM_back_73, rM_back_74, rM_back_76, rM_back_78, rM_back_79, rM_back_82, rM_back_83, rM_back_84, rM_back_85, rM_back_88, rM_back_89, rM_back_92, rM_back_93, rM_back_94, rM_back_97, rM_back_98, rM_back_99, rM_back_100, rM_back_101, rM_back_102, rM_back_103, rM_back_104, rM_back_107, rM_back_109, rM_back_111, rM_back_112, rM_back_115, rM_back_116, ct1_i, ct1_r, ct1_n, true_and, and_true, tl_s, tl_n, le4_0, le4_1, le4_2, le4_3, le4_4, le4_5, isO_r, cl_, emb1, emb2, le_rN, up1_at, up1_up1, sp_M_back_M_placeOf, sp_M_back_M_in, sp_M_back_M_of, sp_M_back_M_know, sp_M_back_M_priceOf, sp_M_back_M_bits, sp_M_back_M_pays, sp_M_back_M_tailsGo, sp_M_back_M_atHire, sp_M_back_M_comesBack, obM, mr_0, mr_1, mr_2, mr_3, mr_5, mr_7, mr_11, mi_0, mi_1, mi_2, mi_3, mi_4, mi_5, mi_6, smi_0, smi_1, smi_2, smi_3, smi_4, smi_5, smi_6, fok_i, fok_b1, rb_0, rb_1, rb_bi, bi_eq0, rb_b2, b2_0, ite_not, isO_r, Option.toList, List.cons_append, List.nil_append, q_M_in, q_M_atKite, q_M_atSpool, q_M_atHire, q_M_tail, il_0, tn_0, il_1, tn_1, il_2, tn_2, il_3, tn_3, il_4, tn_4, il_5, tn_5, il_6, tn_6, il_7, tn_7, il_8, tn_8, il_9, tn_9, il_10, tn_10, il_11, tn_11, il_12, tn_12, il_13, tn_13, il_14, tn_14, il_15, tn_15, il_16, tn_16, il_17, tn_17, il_1257, tn_1257, il_1258, tn_1258, il_1259, tn_1259, il_1260, tn_1260, sm2_0, sm2_1, sm2_2, sm6_0, sm6_1, sm6_2, sm6_3, sm6_4, sm6_5, sm6_6, m1_ok, m1_al, m1_rd, m1_re, m1_ln, m1_s, m6_ok, m6_al, m6_rd, m6_re, m6_ln, m6_s, m7_ok, m7_al, m7_rd, m7_re, m7_ln, m7_s, q_M_placeOf, hp.2.1, hP, if_neg h1, q_M_of, q_M_know, q_M_priceOf, q_M_bits, q_M_pays, q_M_tailsGo, q_M_comesBack, hp.1, hs, iH_5 hs, g1, g2, g3, g4, g5, show ¬ (2 : Int32) = 0 by decide, not_false_eq_true]
  rcases Decidable.em (wi mis 0 63) with h2 | h2
  case inr => rw [if_neg h2] at hQ ⊢; dsimp only at hQ; rw [up1_self] at hQ; exact hQ
  rw [if_pos h2] at hQ ⊢
  rcases Decidable.em (mis &&& uh (σ 8) P 5 = mis) with h4 | h4
  case inr => rw [if_neg h4] at hQ ⊢; dsimp only at hQ; rw [up1_self] at hQ; exact hQ
  rw [if_pos h4] at hQ ⊢
  have h5 := h3 h2 h4
  refine ⟨?_, h5.2, hQ⟩
  change sm (knM (σ 8) 1 (1187 + 7 * P + 1).toNatClampNeg) 15
  rw [knM_1]
  exact h5.1))
def iaI (x : Int32) : Int32 := if x < 3 then 9 + x else if x = 3 then 14 else 12
def iaH (v : HV) (h : Int32) : Int32 := if 1000 < v 1 0 + h then 1000 - v 1 0 else h
def iaV (v : HV) (h : Int32) : HV := (pmM (iaH (paM v) h).toNatClampNeg 0 (paM v)).2
def iaM (v : HV) (h x : Int32) : Int32 × HV := if wi h 1 99 then (if wi x 0 4 then (iaV v h 1 (iaI x).toNatClampNeg - paM v 1 (iaI x).toNatClampNeg + (if x = 4 then 100000 else 0), pbM (iaV v h)) else (-2, v)) else (-2, v)
theorem iaI_ok {x : Int32} (h : wi x 0 4) : iin (iaI x) 1289 = True := by
  unfold iaI
  have hs : sm x 4 := wi_sm (n := 4) h (by decide) (by decide)
  split
  · exact ix1 (B := 9) (b := 4) hs (by decide)
  · split
    · exact il_14
    · exact il_12
set_option maxHeartbeats 1000000 in
set_option maxRecDepth 20000 in
theorem lp_M_ifPassed {sp : Nat → Sp} (h113 : sp 113 = f_M_putBack) (h165 : sp 165 = f_M_passes) {sc : Nat × (Nat → Int32)} {h x : Int32} {Q : Option Value → MS → Prop} (σ : SG) (i : Int32) (hi : iin i 1289) (hs : sm (iaH (σ 8) h) 1000) (hP : pmP (iaH (σ 8) h).toNatClampNeg 0 (σ 8)) (hQ : Q (some (.int ((pmM (iaH (σ 8) h).toNatClampNeg 0 (σ 8)).2 1 i.toNatClampNeg - σ 8 1 i.toNatClampNeg + (if x = 4 then 100000 else 0)))) (emb (up1 σ 8 (pbM (pmM (iaH (σ 8) h).toNatClampNeg 0 (σ 8)).2)))) : Vf 172 sp ((134, SLT), sc) 50 [.ref 126, .int h, .int x, .null, .null, .null, .null] [.int i] (emb σ) Q := by
  have key : ∀ H : Int32, H = iaH (σ 8) h → Vf 172 sp ((134, SLT), sc) 88 [.ref 126, .int h, .int x, .int i, .int (σ 8 1 i.toNatClampNeg), .null, .null] [.int H, .ref 126] (emb σ) Q := by
    intro H hH
    subst hH
    simp only [rM_ifPassed_88, rM_ifPassed_91, rM_ifPassed_93, rM_ifPassed_94, rM_ifPassed_97, rM_ifPassed_98, rM_ifPassed_99, rM_ifPassed_101, rM_ifPassed_102, rM_ifPassed_103, rM_ifPassed_104, rM_ifPassed_107, rM_ifPassed_109, rM_ifPassed_112, rM_ifPassed_113, rM_ifPassed_114, rM_ifPassed_116, rM_ifPassed_117, rM_ifPassed_120, rM_ifPassed_122, ct1_i, ct1_r, ct1_n, true_and, and_true, tl_s, tl_n, le4_0, le4_1, le4_2, le4_3, le4_4, le4_5, isO_r, cl_, emb1, emb2, le_rN, up1_at, up1_up1, h113, h165, obM, mr_0, mr_1, mr_2, mr_3, mr_5, mr_7, mr_11, mi_0, mi_1, mi_2, mi_3, mi_4, mi_5, mi_6, smi_0, smi_1, smi_2, smi_3, smi_4, smi_5, smi_6, fok_i, fok_b1, rb_0, rb_1, rb_bi, bi_eq0, rb_b2, b2_0, ite_not, isO_r, Option.toList, List.cons_append, List.nil_append, q_M_in, q_M_atKite, q_M_atSpool, q_M_atHire, q_M_tail, il_0, tn_0, il_1, tn_1, il_2, tn_2, il_3, tn_3, il_4, tn_4, il_5, tn_5, il_6, tn_6, il_7, tn_7, il_8, tn_8, il_9, tn_9, il_10, tn_10, il_11, tn_11, il_12, tn_12, il_13, tn_13, il_14, tn_14, il_15, tn_15, il_16, tn_16, il_17, tn_17, il_1257, tn_1257, il_1258, tn_1258, il_1259, tn_1259, il_1260, tn_1260, sm2_0, sm2_1, sm2_2, sm6_0, sm6_1, sm6_2, sm6_3, sm6_4, sm6_5, sm6_6, m1_ok, m1_al, m1_rd, m1_re, m1_ln, m1_s, m6_ok, m6_al, m6_rd, m6_re, m6_ln, m6_s, m7_ok, m7_al, m7_rd, m7_re, m7_ln, m7_s, q_M_passes, q_M_putBack, hs, hP, eq_true hi]
    rcases Decidable.em (x = 4) with h4 | h4
    case inr => rw [if_neg h4] at hQ ⊢; exact hQ
    rw [if_pos h4] at hQ ⊢
    exact hQ
  simp only [rM_ifPassed_50, rM_ifPassed_51, rM_ifPassed_52, rM_ifPassed_55, rM_ifPassed_56, rM_ifPassed_57, rM_ifPassed_59, rM_ifPassed_60, rM_ifPassed_61, rM_ifPassed_64, rM_ifPassed_65, rM_ifPassed_66, rM_ifPassed_67, rM_ifPassed_68, rM_ifPassed_71, rM_ifPassed_74, rM_ifPassed_77, rM_ifPassed_78, rM_ifPassed_81, rM_ifPassed_82, rM_ifPassed_83, rM_ifPassed_84, rM_ifPassed_87, ct1_i, ct1_r, ct1_n, true_and, and_true, tl_s, tl_n, le4_0, le4_1, le4_2, le4_3, le4_4, le4_5, isO_r, obM, mr_0, mr_1, mr_2, mr_3, mr_5, mr_7, mr_11, mi_0, mi_1, mi_2, mi_3, mi_4, mi_5, mi_6, smi_0, smi_1, smi_2, smi_3, smi_4, smi_5, smi_6, fok_i, fok_b1, rb_0, rb_1, rb_bi, bi_eq0, rb_b2, b2_0, ite_not, isO_r, Option.toList, List.cons_append, List.nil_append, q_M_in, q_M_atKite, q_M_atSpool, q_M_atHire, q_M_tail, il_0, tn_0, il_1, tn_1, il_2, tn_2, il_3, tn_3, il_4, tn_4, il_5, tn_5, il_6, tn_6, il_7, tn_7, il_8, tn_8, il_9, tn_9, il_10, tn_10, il_11, tn_11, il_12, tn_12, il_13, tn_13, il_14, tn_14, il_15, tn_15, il_16, tn_16, il_17, tn_17, il_1257, tn_1257, il_1258, tn_1258, il_1259, tn_1259, il_1260, tn_1260, sm2_0, sm2_1, sm2_2, sm6_0, sm6_1, sm6_2, sm6_3, sm6_4, sm6_5, sm6_6, m1_ok, m1_al, m1_rd, m1_re, m1_ln, m1_s, m6_ok, m6_al, m6_rd, m6_re, m6_ln, m6_s, m7_ok, m7_al, m7_rd, m7_re, m7_ln, m7_s, eq_true hi]
  unfold iaH at key
  rcases Decidable.em (1000 < σ 8 1 0 + h) with h5 | h5
  · rw [if_pos h5]
    exact key _ (by rw [if_pos h5])
  · rw [if_neg h5]
    exact key _ (by rw [if_neg h5])
def sp_M_ifPassed : Nat → Sp := spL [(95, f_M_in), (112, f_M_putAside), (165, f_M_passes), (113, f_M_putBack)]
theorem sp_M_ifPassed_M_in : sp_M_ifPassed 95 = f_M_in := rfl
theorem sp_M_ifPassed_M_putAside : sp_M_ifPassed 112 = f_M_putAside := rfl
theorem sp_M_ifPassed_M_passes : sp_M_ifPassed 165 = f_M_passes := rfl
theorem sp_M_ifPassed_M_putBack : sp_M_ifPassed 113 = f_M_putBack := rfl
def f_M_ifPassed : Sp := aS 9 (fun _ => 126) 2 (gL2 (fun _ h x σ => (wi h 1 99 → wi x 0 4 → sm (iaH (paM (σ 8)) h) 1000 ∧ pmP (iaH (paM (σ 8)) h).toNatClampNeg 0 (paM (σ 8)), some (.int (iaM (σ 8) h x).1), up1 σ 8 (iaM (σ 8) h x).2)))
theorem q_M_ifPassed {h x : Int32} {σ : SG} : f_M_ifPassed [.ref 126, .int h, .int x] (emb σ) = (wi h 1 99 → wi x 0 4 → sm (iaH (paM (σ 8)) h) 1000 ∧ pmP (iaH (paM (σ 8)) h).toNatClampNeg 0 (paM (σ 8)), some (.int (iaM (σ 8) h x).1), emb (up1 σ 8 (iaM (σ 8) h x).2)) := aS2_at (ad := (fun _ => 126)) (i := hI 126) (by decide) rfl
set_option maxHeartbeats 600000 in
set_option maxRecDepth 20000 in
theorem ok_M_ifPassed : SpecOK 172 f_M_ifPassed := SpecOK.of (sp := sp_M_ifPassed) (by decide) (by decide) (spL_ok (List.forall_mem_cons.mpr ⟨ok_M_in, (List.forall_mem_cons.mpr ⟨ok_M_putAside, (List.forall_mem_cons.mpr ⟨ok_M_passes, (List.forall_mem_cons.mpr ⟨ok_M_putBack, (fun q h => absurd h List.not_mem_nil)⟩)⟩)⟩)⟩)) (Does_aS2 (Nat.le_of_ble_eq_true rfl) (fun sc i h x σ hi had hp => by
  refine Vf_q ?_ ⟨rfl, rfl⟩
  intro Q hQ
  dsimp only at hQ hp
  show Vf 172 _ _ 0 [.ref (126), .int h, .int x, .null, .null, .null, .null] [] (emb σ) _

  unfold iaM iaV at hQ
  simp only [rM_ifPassed_0, rM_ifPassed_1, rM_ifPassed_2, rM_ifPassed_4, rM_ifPassed_7, rM_ifPassed_10, rM_ifPassed_11, rM_ifPassed_12, rM_ifPassed_13, rM_ifPassed_16, rM_ifPassed_19, rM_ifPassed_21, rM_ifPassed_22, rM_ifPassed_23, rM_ifPassed_26, rM_ifPassed_27, rM_ifPassed_28, rM_ifPassed_31, rM_ifPassed_33, rM_ifPassed_34, rM_ifPassed_35, rM_ifPassed_38, rM_ifPassed_39, rM_ifPassed_40, rM_ifPassed_43, rM_ifPassed_45, rM_ifPassed_48, ct1_i, ct1_r, ct1_n, true_and, and_true, tl_s, tl_n, le4_0, le4_1, le4_2, le4_3, le4_4, le4_5, isO_r, cl_, emb1, emb2, le_rN, up1_at, up1_up1, sp_M_ifPassed_M_in, sp_M_ifPassed_M_putAside, sp_M_ifPassed_M_passes, sp_M_ifPassed_M_putBack, obM, mr_0, mr_1, mr_2, mr_3, mr_5, mr_7, mr_11, mi_0, mi_1, mi_2, mi_3, mi_4, mi_5, mi_6, smi_0, smi_1, smi_2, smi_3, smi_4, smi_5, smi_6, fok_i, fok_b1, rb_0, rb_1, rb_bi, bi_eq0, rb_b2, b2_0, ite_not, isO_r, Option.toList, List.cons_append, List.nil_append, q_M_in, q_M_atKite, q_M_atSpool, q_M_atHire, q_M_tail, il_0, tn_0, il_1, tn_1, il_2, tn_2, il_3, tn_3, il_4, tn_4, il_5, tn_5, il_6, tn_6, il_7, tn_7, il_8, tn_8, il_9, tn_9, il_10, tn_10, il_11, tn_11, il_12, tn_12, il_13, tn_13, il_14, tn_14, il_15, tn_15, il_16, tn_16, il_17, tn_17, il_1257, tn_1257, il_1258, tn_1258, il_1259, tn_1259, il_1260, tn_1260, sm2_0, sm2_1, sm2_2, sm6_0, sm6_1, sm6_2, sm6_3, sm6_4, sm6_5, sm6_6, m1_ok, m1_al, m1_rd, m1_re, m1_ln, m1_s, m6_ok, m6_al, m6_rd, m6_re, m6_ln, m6_s, m7_ok, m7_al, m7_rd, m7_re, m7_ln, m7_s, q_M_putAside]
  rcases Decidable.em (wi h 1 99) with h1 | h1
  case inr => rw [if_neg h1] at hQ ⊢; dsimp only at hQ; rw [up1_self] at hQ; exact hQ
  rw [if_pos h1] at hQ ⊢
  rcases Decidable.em (wi x 0 4) with h2 | h2
  case inr => rw [if_neg h2] at hQ ⊢; dsimp only at hQ; rw [up1_self] at hQ; exact hQ
  rw [if_pos h2] at hQ ⊢
  have h3 := hp h1 h2
  have h4 := of_eq_true (iaI_ok h2)
  unfold iaI at hQ h4
  have e8 : ∀ w : HV, up1 σ 8 w 8 = w := fun w => up1_at _ _ _
  rcases Decidable.em (x < 3) with h5 | h5
  · rw [if_pos h5] at hQ h4 ⊢
    refine lp_M_ifPassed sp_M_ifPassed_M_putBack sp_M_ifPassed_M_passes _ _ h4 (by rw [e8]; exact h3.1) (by rw [e8]; exact h3.2) ?_
    rw [e8, up1_up1]
    dsimp only at hQ
    exact hQ
  · rw [if_neg h5] at hQ h4 ⊢
    rcases Decidable.em (x = 3) with h6 | h6
    · rw [if_pos h6] at hQ h4 ⊢
      refine lp_M_ifPassed sp_M_ifPassed_M_putBack sp_M_ifPassed_M_passes _ _ h4 (by rw [e8]; exact h3.1) (by rw [e8]; exact h3.2) ?_
      rw [e8, up1_up1]
      dsimp only at hQ
      exact hQ
    · rw [if_neg h6] at hQ h4 ⊢
      refine lp_M_ifPassed sp_M_ifPassed_M_putBack sp_M_ifPassed_M_passes _ _ h4 (by rw [e8]; exact h3.1) (by rw [e8]; exact h3.2) ?_
      rw [e8, up1_up1]
      dsimp only at hQ
      exact hQ))
