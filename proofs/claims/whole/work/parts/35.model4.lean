/-! THE CHECK: hours -/
def cb0 (v : HV) (p : Int32) : HV := tgF (uh v p 5) 0 0 6 v
def cbM (v : HV) (p : Int32) : HV := enM (cb0 v p) p 0
abbrev cbP (v : HV) (p : Int32) : Prop := sm p 9 ∧ enP (cb0 v p) p 0

def sp_M_comesBack : Nat → Sp := spL [(126, f_M_of), (127, f_M_tailsGo), (140, f_M_ends)]
theorem sp_M_comesBack_M_of : sp_M_comesBack 126 = f_M_of := rfl
theorem sp_M_comesBack_M_tailsGo : sp_M_comesBack 127 = f_M_tailsGo := rfl
theorem sp_M_comesBack_M_ends : sp_M_comesBack 140 = f_M_ends := rfl
def f_M_comesBack : Sp := aS 9 (fun _ => 126) 1 (gL1 (fun _ p σ => (cbP (σ 8) p, none, up1 σ 8 (cbM (σ 8) p))))
theorem q_M_comesBack {p : Int32} {σ : SG} : f_M_comesBack [.ref 126, .int p] (emb σ) = (cbP (σ 8) p, none, emb (up1 σ 8 (cbM (σ 8) p))) := aS1_at (ad := (fun _ => 126)) (i := hI 126) (by decide) rfl
set_option maxHeartbeats 4000000 in
set_option maxRecDepth 20000 in
theorem ok_M_comesBack : SpecOK 152 f_M_comesBack := SpecOK.of (sp := sp_M_comesBack) (by decide) (by decide) (spL_ok (List.forall_mem_cons.mpr ⟨ok_M_of, (List.forall_mem_cons.mpr ⟨ok_M_tailsGo, (List.forall_mem_cons.mpr ⟨ok_M_ends, (fun q h => absurd h List.not_mem_nil)⟩)⟩)⟩)) (Does_aS1 (Nat.le_of_ble_eq_true rfl) (fun sc i p σ hi had hp => by
  refine Vf_q ?_ ⟨rfl, rfl⟩
  intro Q hQ
  dsimp only at hQ hp
  show Vf 152 _ _ 0 [.ref (126), .int p] [] (emb σ) _

  have e : ∀ v, tgF (uh v p 5) 0 0 6 v = cb0 v p := fun _ => rfl
  simp only [rM_comesBack_0, rM_comesBack_1, rM_comesBack_2, rM_comesBack_3, rM_comesBack_4, rM_comesBack_7, rM_comesBack_8, rM_comesBack_11, rM_comesBack_12, rM_comesBack_13, rM_comesBack_14, rM_comesBack_17, ct1_i, ct1_r, ct1_n, true_and, and_true, tl_s, tl_n, le4_0, le4_1, le4_2, le4_3, le4_4, le4_5, isO_r, cl_, emb1, emb2, le_rN, up1_at, up1_up1, sp_M_comesBack_M_of, sp_M_comesBack_M_tailsGo, sp_M_comesBack_M_ends, obM, mr_0, mr_1, mr_2, mr_3, mr_5, mr_7, mr_11, mi_0, mi_1, mi_2, mi_3, mi_4, mi_5, mi_6, smi_0, smi_1, smi_2, smi_3, smi_4, smi_5, smi_6, fok_i, fok_b1, rb_0, rb_1, rb_bi, bi_eq0, rb_b2, b2_0, ite_not, isO_r, Option.toList, List.cons_append, List.nil_append, q_M_in, q_M_atKite, q_M_atSpool, q_M_atHire, q_M_tail, il_0, tn_0, il_1, tn_1, il_2, tn_2, il_3, tn_3, il_4, tn_4, il_5, tn_5, il_6, tn_6, il_7, tn_7, il_8, tn_8, il_9, tn_9, il_10, tn_10, il_11, tn_11, il_12, tn_12, il_13, tn_13, il_14, tn_14, il_15, tn_15, il_16, tn_16, il_17, tn_17, il_1257, tn_1257, il_1258, tn_1258, il_1259, tn_1259, il_1260, tn_1260, sm2_0, sm2_1, sm2_2, sm6_0, sm6_1, sm6_2, sm6_3, sm6_4, sm6_5, sm6_6, m1_ok, m1_al, m1_rd, m1_re, m1_ln, m1_s, m6_ok, m6_al, m6_rd, m6_re, m6_ln, m6_s, m7_ok, m7_al, m7_rd, m7_re, m7_ln, m7_s, q_M_of, q_M_tailsGo, q_M_ends, hp.1, e, hp.2]
  exact hQ))
def sn1 (v : HV) (p : Int32) : HV := dcr v (1129 + 4 * uh v p 2 + 0).toNatClampNeg (uh v p 3)
def sn2 (v : HV) (p : Int32) : HV := inc (sn1 v p) (1129 + 4 * uh v p 2 + 3).toNatClampNeg (uh (sn1 v p) p 3)
def sn3 (v : HV) (p : Int32) : HV := up2 (sn2 v p) 1 (1129 + 4 * uh v p 2 + 1).toNatClampNeg 0
def sn4 (v : HV) (p : Int32) : HV := inc (sn3 v p) 13 (uh (sn3 v p) p 3)
def sn5 (v : HV) (p : Int32) : HV := pyM (sn4 v p) p (sn4 v p 1 3 + btF (uh (sn4 v p) p 5) 0 6 0 * sn4 v p 1 4)
def sn6 (v : HV) (p : Int32) : HV := tgF (uh (sn5 v p) p 5) 2 0 6 (sn5 v p)
def snM (v : HV) (p : Int32) : HV := enM (sn6 v p) p 2
abbrev snP (v : HV) (p : Int32) : Prop := sm p 9 ∧ sm (uh v p 2) 9 ∧ enP (sn6 v p) p 2
def sp_M_snaps : Nat → Sp := spL [(126, f_M_of), (100, f_M_atSpool), (104, f_M_bits), (124, f_M_pays), (127, f_M_tailsGo), (140, f_M_ends)]
theorem sp_M_snaps_M_of : sp_M_snaps 126 = f_M_of := rfl
theorem sp_M_snaps_M_atSpool : sp_M_snaps 100 = f_M_atSpool := rfl
theorem sp_M_snaps_M_bits : sp_M_snaps 104 = f_M_bits := rfl
theorem sp_M_snaps_M_pays : sp_M_snaps 124 = f_M_pays := rfl
theorem sp_M_snaps_M_tailsGo : sp_M_snaps 127 = f_M_tailsGo := rfl
theorem sp_M_snaps_M_ends : sp_M_snaps 140 = f_M_ends := rfl
def f_M_snaps : Sp := aS 9 (fun _ => 126) 1 (gL1 (fun _ p σ => (snP (σ 8) p, none, up1 σ 8 (snM (σ 8) p))))
theorem q_M_snaps {p : Int32} {σ : SG} : f_M_snaps [.ref 126, .int p] (emb σ) = (snP (σ 8) p, none, emb (up1 σ 8 (snM (σ 8) p))) := aS1_at (ad := (fun _ => 126)) (i := hI 126) (by decide) rfl
set_option maxHeartbeats 4000000 in
set_option maxRecDepth 20000 in
theorem ok_M_snaps : SpecOK 153 f_M_snaps := SpecOK.of (sp := sp_M_snaps) (by decide) (by decide) (spL_ok (List.forall_mem_cons.mpr ⟨ok_M_of, (List.forall_mem_cons.mpr ⟨ok_M_atSpool, (List.forall_mem_cons.mpr ⟨ok_M_bits, (List.forall_mem_cons.mpr ⟨ok_M_pays, (List.forall_mem_cons.mpr ⟨ok_M_tailsGo, (List.forall_mem_cons.mpr ⟨ok_M_ends, (fun q h => absurd h List.not_mem_nil)⟩)⟩)⟩)⟩)⟩)⟩)) (Does_aS1 (Nat.le_of_ble_eq_true rfl) (fun sc i p σ hi had hp => by
  refine Vf_q ?_ ⟨rfl, rfl⟩
  intro Q hQ
  dsimp only at hQ hp
  show Vf 153 _ _ 0 [.ref (126), .int p, .null] [] (emb σ) _

  obtain ⟨h1, h2, h3⟩ := hp
  have g1 : ∀ v : HV, up2 v 1 (1129 + 4 * uh v p 2 + 0).toNatClampNeg (v 1 (1129 + 4 * uh v p 2 + 0).toNatClampNeg - uh v p 3) = sn1 v p := fun _ => rfl
  have g2 : ∀ v : HV, up2 (sn1 v p) 1 (1129 + 4 * uh v p 2 + 3).toNatClampNeg (sn1 v p 1 (1129 + 4 * uh v p 2 + 3).toNatClampNeg + uh (sn1 v p) p 3) = sn2 v p := fun _ => rfl
  have g3 : ∀ v : HV, up2 (sn2 v p) 1 (1129 + 4 * uh v p 2 + 1).toNatClampNeg 0 = sn3 v p := fun _ => rfl
  have g4 : ∀ v : HV, up2 (sn3 v p) 1 13 (sn3 v p 1 13 + uh (sn3 v p) p 3) = sn4 v p := fun _ => rfl
  have g5 : ∀ v : HV, pyM (sn4 v p) p (sn4 v p 1 3 + btF (uh (sn4 v p) p 5) 0 6 0 * sn4 v p 1 4) = sn5 v p := fun _ => rfl
  have g6 : ∀ v : HV, tgF (uh (sn5 v p) p 5) 2 0 6 (sn5 v p) = sn6 v p := fun _ => rfl
  simp only [rM_snaps_0, rM_snaps_1, rM_snaps_2, rM_snaps_3, rM_snaps_6, rM_snaps_7, rM_snaps_8, rM_snaps_11, rM_snaps_12, rM_snaps_13, rM_snaps_16, rM_snaps_17, rM_snaps_18, rM_snaps_19, rM_snaps_20, rM_snaps_21, rM_snaps_24, rM_snaps_25, rM_snaps_26, rM_snaps_27, rM_snaps_30, rM_snaps_31, rM_snaps_32, rM_snaps_35, rM_snaps_36, rM_snaps_37, rM_snaps_38, rM_snaps_39, rM_snaps_40, rM_snaps_43, rM_snaps_44, rM_snaps_45, rM_snaps_46, rM_snaps_49, rM_snaps_50, rM_snaps_51, rM_snaps_54, rM_snaps_55, rM_snaps_56, rM_snaps_57, rM_snaps_60, rM_snaps_62, rM_snaps_63, rM_snaps_64, rM_snaps_65, rM_snaps_66, rM_snaps_67, rM_snaps_70, rM_snaps_71, rM_snaps_72, rM_snaps_73, rM_snaps_74, rM_snaps_75, rM_snaps_78, rM_snaps_79, rM_snaps_80, rM_snaps_81, rM_snaps_82, rM_snaps_83, rM_snaps_86, rM_snaps_89, rM_snaps_90, rM_snaps_93, rM_snaps_94, rM_snaps_95, rM_snaps_96, rM_snaps_97, rM_snaps_100, rM_snaps_101, rM_snaps_102, rM_snaps_103, rM_snaps_104, rM_snaps_107, rM_snaps_108, rM_snaps_111, rM_snaps_112, rM_snaps_113, rM_snaps_114, rM_snaps_117, ct1_i, ct1_r, ct1_n, true_and, and_true, tl_s, tl_n, le4_0, le4_1, le4_2, le4_3, le4_4, le4_5, isO_r, cl_, emb1, emb2, le_rN, up1_at, up1_up1, sp_M_snaps_M_of, sp_M_snaps_M_atSpool, sp_M_snaps_M_bits, sp_M_snaps_M_pays, sp_M_snaps_M_tailsGo, sp_M_snaps_M_ends, obM, mr_0, mr_1, mr_2, mr_3, mr_5, mr_7, mr_11, mi_0, mi_1, mi_2, mi_3, mi_4, mi_5, mi_6, smi_0, smi_1, smi_2, smi_3, smi_4, smi_5, smi_6, fok_i, fok_b1, rb_0, rb_1, rb_bi, bi_eq0, rb_b2, b2_0, ite_not, isO_r, Option.toList, List.cons_append, List.nil_append, q_M_in, q_M_atKite, q_M_atSpool, q_M_atHire, q_M_tail, il_0, tn_0, il_1, tn_1, il_2, tn_2, il_3, tn_3, il_4, tn_4, il_5, tn_5, il_6, tn_6, il_7, tn_7, il_8, tn_8, il_9, tn_9, il_10, tn_10, il_11, tn_11, il_12, tn_12, il_13, tn_13, il_14, tn_14, il_15, tn_15, il_16, tn_16, il_17, tn_17, il_1257, tn_1257, il_1258, tn_1258, il_1259, tn_1259, il_1260, tn_1260, sm2_0, sm2_1, sm2_2, sm6_0, sm6_1, sm6_2, sm6_3, sm6_4, sm6_5, sm6_6, m1_ok, m1_al, m1_rd, m1_re, m1_ln, m1_s, m6_ok, m6_al, m6_rd, m6_re, m6_ln, m6_s, m7_ok, m7_al, m7_rd, m7_re, m7_ln, m7_s, q_M_of, q_M_bits, q_M_pays, q_M_tailsGo, q_M_ends, h1, iS_0 h2, iS_1 h2, iS_3 h2, g1, g2, g3, g4, g5, g6, h3]
  exact hQ))
def fh1 (v : HV) (p : Int32) : HV := dcr v (1187 + 7 * p + 4).toNatClampNeg 1
def fhM (v : HV) (p : Int32) : Bool × HV := if uh (fh1 v p) p 4 = 0 then (true, cbM (fh1 v p) p) else (false, fh1 v p)
def fhP (v : HV) (p : Int32) : Prop := sm p 9 ∧ (uh (fh1 v p) p 4 = 0 → cbP (fh1 v p) p)
theorem b2_t : b2 true = 1 := rfl
theorem b2_f : b2 false = 0 := rfl
set_option maxHeartbeats 4000000 in
set_option maxRecDepth 20000 in
theorem lp_M_hourOf {sp : Nat → Sp} (h103 : sp 103 = f_M_atHire) (h126 : sp 126 = f_M_of) (h152 : sp 152 = f_M_comesBack) {sc : Nat × (Nat → Int32)} {p a b : Int32} {u : Value} {Q : Option Value → MS → Prop} (σ : SG) (hp : fhP (σ 8) p) (hu : ct1 u) (hQ : Q (some (.int (b2 (fhM (σ 8) p).1))) (emb (up1 σ 8 (fhM (σ 8) p).2))) : Vf 161 sp ((134, SLT), sc) 177 [.ref 126, .int p, .int a, .int b, u] [] (emb σ) Q := by
  have g1 : ∀ v : HV, up2 v 1 (1187 + 7 * p + 4).toNatClampNeg (v 1 (1187 + 7 * p + 4).toNatClampNeg - 1) = fh1 v p := fun _ => rfl
  simp only [rM_hourOf_177, rM_hourOf_178, rM_hourOf_181, rM_hourOf_182, rM_hourOf_183, rM_hourOf_186, rM_hourOf_187, rM_hourOf_188, rM_hourOf_189, rM_hourOf_190, rM_hourOf_191, rM_hourOf_192, rM_hourOf_193, rM_hourOf_194, rM_hourOf_197, rM_hourOf_200, rM_hourOf_201, rM_hourOf_204, rM_hourOf_205, rM_hourOf_207, rM_hourOf_209, rM_hourOf_212, rM_hourOf_213, rM_hourOf_214, rM_hourOf_217, rM_hourOf_219, ct1_i, ct1_r, ct1_n, true_and, and_true, tl_s, tl_n, le4_0, le4_1, le4_2, le4_3, le4_4, le4_5, isO_r, cl_, emb1, emb2, le_rN, up1_at, up1_up1, h103, h126, h152, obM, mr_0, mr_1, mr_2, mr_3, mr_5, mr_7, mr_11, mi_0, mi_1, mi_2, mi_3, mi_4, mi_5, mi_6, smi_0, smi_1, smi_2, smi_3, smi_4, smi_5, smi_6, fok_i, fok_b1, rb_0, rb_1, rb_bi, bi_eq0, rb_b2, b2_0, ite_not, isO_r, Option.toList, List.cons_append, List.nil_append, q_M_in, q_M_atKite, q_M_atSpool, q_M_atHire, q_M_tail, il_0, tn_0, il_1, tn_1, il_2, tn_2, il_3, tn_3, il_4, tn_4, il_5, tn_5, il_6, tn_6, il_7, tn_7, il_8, tn_8, il_9, tn_9, il_10, tn_10, il_11, tn_11, il_12, tn_12, il_13, tn_13, il_14, tn_14, il_15, tn_15, il_16, tn_16, il_17, tn_17, il_1257, tn_1257, il_1258, tn_1258, il_1259, tn_1259, il_1260, tn_1260, sm2_0, sm2_1, sm2_2, sm6_0, sm6_1, sm6_2, sm6_3, sm6_4, sm6_5, sm6_6, m1_ok, m1_al, m1_rd, m1_re, m1_ln, m1_s, m6_ok, m6_al, m6_rd, m6_re, m6_ln, m6_s, m7_ok, m7_al, m7_rd, m7_re, m7_ln, m7_s, q_M_of, q_M_comesBack, hp.1, iH_4 hp.1, g1, eq_true hu]
  unfold fhM at hQ
  rcases Decidable.em (uh (fh1 (σ 8) p) p 4 = 0) with h | h
  · rw [if_pos h] at hQ ⊢
    have h2 : cbP (fh1 (σ 8) p) p := hp.2 h
    exact ⟨⟨h2.1, h2.2⟩, hQ⟩
  · rw [if_neg h] at hQ ⊢
    exact hQ
abbrev wdM (v : HV) : Int32 := v 1 (17 + v 1 0).toNatClampNeg
def hc1 (v : HV) (p : Int32) : HV := pyM v p (-(uk v (uh v p 1) 4) * uh v p 4)
def hc2 (v : HV) (p : Int32) : HV := tgF (uh (hc1 v p) p 5) 0 0 6 (hc1 v p)
def hf1 (v : HV) (p : Int32) : HV := inc v (1129 + 4 * uh v p 2 + 1).toNatClampNeg (wdM v * uk v (uh v p 1) 3)
def hf2 (v : HV) (p : Int32) : HV := inc (hf1 v p) (1017 + 7 * uh v p 1 + 5).toNatClampNeg 1
def hf3 (v : HV) (p : Int32) : HV := inc (hf2 v p) 14 1
def hg1 (v : HV) (p : Int32) : HV := pyM v p (-(uk v (uh v p 1) 4))
def hoM (v : HV) (p : Int32) : Bool × HV :=
  if tmP v (uh v p 1) (wdM v) then (true, enM (hc2 v p) p 1)
  else if flP v (uh v p 1) (wdM v) then (if hf3 v p 1 (1129 + 4 * uh v p 2 + 1).toNatClampNeg < hf3 v p 1 2 then fhM (hf3 v p) p else (true, snM (hf3 v p) p))
  else fhM (hg1 v p) p
def hoP (v : HV) (p : Int32) : Prop :=
  sm (v 1 0) 999 ∧ sm p 9 ∧ sm (uh v p 1) 15 ∧ sm (uh v p 2) 9 ∧
  (tmP v (uh v p 1) (wdM v) → enP (hc2 v p) p 1) ∧
  (¬ tmP v (uh v p 1) (wdM v) → flP v (uh v p 1) (wdM v) → hf3 v p 1 (1129 + 4 * uh v p 2 + 1).toNatClampNeg < hf3 v p 1 2 → fhP (hf3 v p) p) ∧
  (¬ tmP v (uh v p 1) (wdM v) → flP v (uh v p 1) (wdM v) → ¬ hf3 v p 1 (1129 + 4 * uh v p 2 + 1).toNatClampNeg < hf3 v p 1 2 → snP (hf3 v p) p) ∧
  (¬ tmP v (uh v p 1) (wdM v) → ¬ flP v (uh v p 1) (wdM v) → fhP (hg1 v p) p)
def sp_M_hourOf : Nat → Sp := spL [(126, f_M_of), (121, f_M_isTooMuch), (139, f_M_priceOf), (124, f_M_pays), (127, f_M_tailsGo), (140, f_M_ends), (142, f_M_flies), (100, f_M_atSpool), (99, f_M_atKite), (153, f_M_snaps), (103, f_M_atHire), (152, f_M_comesBack)]
theorem sp_M_hourOf_M_of : sp_M_hourOf 126 = f_M_of := rfl
theorem sp_M_hourOf_M_isTooMuch : sp_M_hourOf 121 = f_M_isTooMuch := rfl
theorem sp_M_hourOf_M_priceOf : sp_M_hourOf 139 = f_M_priceOf := rfl
theorem sp_M_hourOf_M_pays : sp_M_hourOf 124 = f_M_pays := rfl
theorem sp_M_hourOf_M_tailsGo : sp_M_hourOf 127 = f_M_tailsGo := rfl
theorem sp_M_hourOf_M_ends : sp_M_hourOf 140 = f_M_ends := rfl
theorem sp_M_hourOf_M_flies : sp_M_hourOf 142 = f_M_flies := rfl
theorem sp_M_hourOf_M_atSpool : sp_M_hourOf 100 = f_M_atSpool := rfl
theorem sp_M_hourOf_M_atKite : sp_M_hourOf 99 = f_M_atKite := rfl
theorem sp_M_hourOf_M_snaps : sp_M_hourOf 153 = f_M_snaps := rfl
theorem sp_M_hourOf_M_atHire : sp_M_hourOf 103 = f_M_atHire := rfl
theorem sp_M_hourOf_M_comesBack : sp_M_hourOf 152 = f_M_comesBack := rfl
def f_M_hourOf : Sp := aS 9 (fun _ => 126) 1 (gL1 (fun _ p σ => (hoP (σ 8) p, some (.int (b2 (hoM (σ 8) p).1)), up1 σ 8 (hoM (σ 8) p).2)))
theorem q_M_hourOf {p : Int32} {σ : SG} : f_M_hourOf [.ref 126, .int p] (emb σ) = (hoP (σ 8) p, some (.int (b2 (hoM (σ 8) p).1)), emb (up1 σ 8 (hoM (σ 8) p).2)) := aS1_at (ad := (fun _ => 126)) (i := hI 126) (by decide) rfl
set_option maxHeartbeats 4000000 in
set_option maxRecDepth 20000 in
theorem ok_M_hourOf : SpecOK 161 f_M_hourOf := SpecOK.of (sp := sp_M_hourOf) (by decide) (by decide) (spL_ok (List.forall_mem_cons.mpr ⟨ok_M_of, (List.forall_mem_cons.mpr ⟨ok_M_isTooMuch, (List.forall_mem_cons.mpr ⟨ok_M_priceOf, (List.forall_mem_cons.mpr ⟨ok_M_pays, (List.forall_mem_cons.mpr ⟨ok_M_tailsGo, (List.forall_mem_cons.mpr ⟨ok_M_ends, (List.forall_mem_cons.mpr ⟨ok_M_flies, (List.forall_mem_cons.mpr ⟨ok_M_atSpool, (List.forall_mem_cons.mpr ⟨ok_M_atKite, (List.forall_mem_cons.mpr ⟨ok_M_snaps, (List.forall_mem_cons.mpr ⟨ok_M_atHire, (List.forall_mem_cons.mpr ⟨ok_M_comesBack, (fun q h => absurd h List.not_mem_nil)⟩)⟩)⟩)⟩)⟩)⟩)⟩)⟩)⟩)⟩)⟩)⟩)) (Does_aS1 (Nat.le_of_ble_eq_true rfl) (fun sc i p σ hi had hp => by
  refine Vf_q ?_ ⟨rfl, rfl⟩
  intro Q hQ
  dsimp only at hQ hp
  show Vf 161 _ _ 0 [.ref (126), .int p, .null, .null, .null] [] (emb σ) _

  obtain ⟨h1, h2, h3, h4, h5, h6, h7, h8⟩ := hp
  have g1 : ∀ v : HV, pyM v p (-(uk v (uh v p 1) 4) * uh v p 4) = hc1 v p := fun _ => rfl
  have g2 : ∀ v : HV, tgF (uh (hc1 v p) p 5) 0 0 6 (hc1 v p) = hc2 v p := fun _ => rfl
  have g3 : ∀ v : HV, up2 v 1 (1129 + 4 * uh v p 2 + 1).toNatClampNeg (v 1 (1129 + 4 * uh v p 2 + 1).toNatClampNeg + wdM v * uk v (uh v p 1) 3) = hf1 v p := fun _ => rfl
  have g4 : ∀ v : HV, up2 (hf1 v p) 1 (1017 + 7 * uh v p 1 + 5).toNatClampNeg (hf1 v p 1 (1017 + 7 * uh v p 1 + 5).toNatClampNeg + 1) = hf2 v p := fun _ => rfl
  have g5 : ∀ v : HV, up2 (hf2 v p) 1 14 (hf2 v p 1 14 + 1) = hf3 v p := fun _ => rfl
  have g6 : ∀ v : HV, pyM v p (-(uk v (uh v p 1) 4)) = hg1 v p := fun _ => rfl
  simp only [rM_hourOf_0, rM_hourOf_1, rM_hourOf_4, rM_hourOf_6, rM_hourOf_7, rM_hourOf_10, rM_hourOf_11, rM_hourOf_12, rM_hourOf_13, rM_hourOf_14, rM_hourOf_15, rM_hourOf_16, rM_hourOf_17, rM_hourOf_18, rM_hourOf_21, rM_hourOf_22, rM_hourOf_23, rM_hourOf_24, rM_hourOf_25, rM_hourOf_28, rM_hourOf_31, rM_hourOf_32, rM_hourOf_33, rM_hourOf_34, rM_hourOf_35, rM_hourOf_38, rM_hourOf_39, rM_hourOf_40, rM_hourOf_41, rM_hourOf_42, rM_hourOf_45, rM_hourOf_46, rM_hourOf_49, rM_hourOf_50, rM_hourOf_51, rM_hourOf_52, rM_hourOf_53, rM_hourOf_56, rM_hourOf_57, rM_hourOf_60, rM_hourOf_61, rM_hourOf_62, rM_hourOf_63, rM_hourOf_66, rM_hourOf_67, rM_hourOf_68, rM_hourOf_69, rM_hourOf_70, rM_hourOf_71, rM_hourOf_74, rM_hourOf_77, rM_hourOf_78, rM_hourOf_79, rM_hourOf_80, rM_hourOf_81, rM_hourOf_84, rM_hourOf_85, rM_hourOf_88, rM_hourOf_91, rM_hourOf_92, rM_hourOf_93, rM_hourOf_94, rM_hourOf_97, rM_hourOf_99, rM_hourOf_100, rM_hourOf_103, rM_hourOf_105, rM_hourOf_106, rM_hourOf_109, rM_hourOf_110, rM_hourOf_111, rM_hourOf_112, rM_hourOf_113, rM_hourOf_116, rM_hourOf_117, rM_hourOf_118, rM_hourOf_121, rM_hourOf_122, rM_hourOf_123, rM_hourOf_124, rM_hourOf_125, rM_hourOf_126, rM_hourOf_129, rM_hourOf_130, rM_hourOf_131, rM_hourOf_134, rM_hourOf_135, rM_hourOf_136, rM_hourOf_137, rM_hourOf_138, rM_hourOf_139, rM_hourOf_140, rM_hourOf_143, rM_hourOf_145, rM_hourOf_146, rM_hourOf_147, rM_hourOf_148, rM_hourOf_149, rM_hourOf_150, rM_hourOf_151, rM_hourOf_154, rM_hourOf_156, rM_hourOf_157, rM_hourOf_160, rM_hourOf_161, rM_hourOf_162, rM_hourOf_165, rM_hourOf_166, rM_hourOf_167, rM_hourOf_170, rM_hourOf_171, rM_hourOf_172, rM_hourOf_175, rM_hourOf_176, ct1_i, ct1_r, ct1_n, true_and, and_true, tl_s, tl_n, le4_0, le4_1, le4_2, le4_3, le4_4, le4_5, isO_r, cl_, emb1, emb2, le_rN, up1_at, up1_up1, sp_M_hourOf_M_of, sp_M_hourOf_M_isTooMuch, sp_M_hourOf_M_priceOf, sp_M_hourOf_M_pays, sp_M_hourOf_M_tailsGo, sp_M_hourOf_M_ends, sp_M_hourOf_M_flies, sp_M_hourOf_M_atSpool, sp_M_hourOf_M_atKite, sp_M_hourOf_M_snaps, sp_M_hourOf_M_atHire, sp_M_hourOf_M_comesBack, obM, mr_0, mr_1, mr_2, mr_3, mr_5, mr_7, mr_11, mi_0, mi_1, mi_2, mi_3, mi_4, mi_5, mi_6, smi_0, smi_1, smi_2, smi_3, smi_4, smi_5, smi_6, fok_i, fok_b1, rb_0, rb_1, rb_bi, bi_eq0, rb_b2, b2_0, ite_not, isO_r, Option.toList, List.cons_append, List.nil_append, q_M_in, q_M_atKite, q_M_atSpool, q_M_atHire, q_M_tail, il_0, tn_0, il_1, tn_1, il_2, tn_2, il_3, tn_3, il_4, tn_4, il_5, tn_5, il_6, tn_6, il_7, tn_7, il_8, tn_8, il_9, tn_9, il_10, tn_10, il_11, tn_11, il_12, tn_12, il_13, tn_13, il_14, tn_14, il_15, tn_15, il_16, tn_16, il_17, tn_17, il_1257, tn_1257, il_1258, tn_1258, il_1259, tn_1259, il_1260, tn_1260, sm2_0, sm2_1, sm2_2, sm6_0, sm6_1, sm6_2, sm6_3, sm6_4, sm6_5, sm6_6, m1_ok, m1_al, m1_rd, m1_re, m1_ln, m1_s, m6_ok, m6_al, m6_rd, m6_re, m6_ln, m6_s, m7_ok, m7_al, m7_rd, m7_re, m7_ln, m7_s, q_M_of, q_M_isTooMuch, q_M_priceOf, q_M_pays, q_M_tailsGo, q_M_ends, q_M_flies, q_M_snaps, h1, h2, h3, iW h1, iS_1 h4, iK_3 h3, iK_5 h3, g1, g2, g3, g4, g5, g6]
  unfold hoM at hQ
  rcases Decidable.em (tmP (σ 8) (uh (σ 8) p 1) (wdM (σ 8))) with c1 | c1
  · rw [if_pos c1] at hQ ⊢
    exact ⟨h5 c1, hQ⟩
  rw [if_neg c1] at hQ ⊢
  rcases Decidable.em (flP (σ 8) (uh (σ 8) p 1) (wdM (σ 8))) with c2 | c2
  · rw [if_pos c2] at hQ ⊢
    rcases Decidable.em (hf3 (σ 8) p 1 (1129 + 4 * uh (σ 8) p 2 + 1).toNatClampNeg < hf3 (σ 8) p 1 2) with c3 | c3
    · rw [if_pos c3] at hQ ⊢
      refine lp_M_hourOf sp_M_hourOf_M_atHire sp_M_hourOf_M_of sp_M_hourOf_M_comesBack _ ?_ (of_eq_true (ct1_i _)) ?_
      · rw [up1_at]
        exact h6 c1 c2 c3
      · rw [up1_at, up1_up1]
        exact hQ
    · rw [if_neg c3] at hQ ⊢
      exact ⟨h7 c1 c2 c3, hQ⟩
  · rw [if_neg c2] at hQ ⊢
    refine lp_M_hourOf sp_M_hourOf_M_atHire sp_M_hourOf_M_of sp_M_hourOf_M_comesBack _ ?_ (of_eq_true ct1_n) ?_
    · rw [up1_at]
      exact h8 c1 c2
    · rw [up1_at, up1_up1]
      exact hQ))
def psM : Nat → Int32 → Int32 → HV → Int32 × HV
  | 0, _, n, v => (n, v)
  | m + 1, p, n, v => if (hoM v p).1 = true then psM m p (n + 1) (hoM v p).2 else psM m (p + 1) n (hoM v p).2
def psP : Nat → Int32 → HV → Prop
  | 0, p, v => ¬ p < v 1 16
  | m + 1, p, v => p < v 1 16 ∧ hoP v p ∧ (if (hoM v p).1 = true then psP m p (hoM v p).2 else psP m (p + 1) (hoM v p).2)
set_option maxHeartbeats 4000000 in
set_option maxRecDepth 20000 in
theorem lp_M_passes_1 {sp : Nat → Sp} (h161 : sp 161 = f_M_hourOf) {sc : Nat × (Nat → Int32)} {h k : Int32} {Q : Option Value → MS → Prop} : ∀ (m : Nat) (p n : Int32) (u : Value) (σ : SG), ct1 u → psP m p (σ 8) → (∀ (q : Int32) (u : Value), ct1 u → Vf 165 sp ((134, SLT), sc) 63 [.ref 126, .int h, .int (psM m p n (σ 8)).1, .int k, .int q, u] [] (emb (up1 σ 8 (psM m p n (σ 8)).2)) Q) → Vf 165 sp ((134, SLT), sc) 12 [.ref 126, .int h, .int n, .int k, .int p, u] [] (emb σ) Q := by
  intro m
  induction m with
  | zero =>
    intro p n u σ hu hP hQ
    have hQ' := hQ p u hu
    change Vf _ _ _ _ [.ref 126, .int h, .int n, .int k, .int p, u] _ (emb (up1 σ 8 (σ 8))) _ at hQ'
    rw [up1_self] at hQ'
    rw [rM_passes_12]
    simp only [rM_passes_14, rM_passes_15, rM_passes_18, rM_passes_20, rM_passes_21, rM_passes_24, rM_passes_25, rM_passes_27, rM_passes_30, rM_passes_32, rM_passes_33, rM_passes_35, rM_passes_38, rM_passes_39, rM_passes_42, rM_passes_43, rM_passes_44, rM_passes_45, rM_passes_47, rM_passes_49, rM_passes_52, rM_passes_53, rM_passes_56, rM_passes_57, rM_passes_58, rM_passes_60, ct1_i, ct1_r, ct1_n, true_and, and_true, tl_s, tl_n, le4_0, le4_1, le4_2, le4_3, le4_4, le4_5, isO_r, obM, mr_0, mr_1, mr_2, mr_3, mr_5, mr_7, mr_11, mi_0, mi_1, mi_2, mi_3, mi_4, mi_5, mi_6, smi_0, smi_1, smi_2, smi_3, smi_4, smi_5, smi_6, fok_i, fok_b1, rb_0, rb_1, rb_bi, bi_eq0, rb_b2, b2_0, ite_not, isO_r, Option.toList, List.cons_append, List.nil_append, q_M_in, q_M_atKite, q_M_atSpool, q_M_atHire, q_M_tail, il_0, tn_0, il_1, tn_1, il_2, tn_2, il_3, tn_3, il_4, tn_4, il_5, tn_5, il_6, tn_6, il_7, tn_7, il_8, tn_8, il_9, tn_9, il_10, tn_10, il_11, tn_11, il_12, tn_12, il_13, tn_13, il_14, tn_14, il_15, tn_15, il_16, tn_16, il_17, tn_17, il_1257, tn_1257, il_1258, tn_1258, il_1259, tn_1259, il_1260, tn_1260, sm2_0, sm2_1, sm2_2, sm6_0, sm6_1, sm6_2, sm6_3, sm6_4, sm6_5, sm6_6, m1_ok, m1_al, m1_rd, m1_re, m1_ln, m1_s, m6_ok, m6_al, m6_rd, m6_re, m6_ln, m6_s, m7_ok, m7_al, m7_rd, m7_re, m7_ln, m7_s, if_neg (show ¬ p < σ 8 1 16 from hP)]
    exact hQ'
  | succ m ih =>
    intro p n u σ hu hP hQ
    obtain ⟨h1, h2, h3⟩ := hP
    rw [rM_passes_12]
    simp only [rM_passes_14, rM_passes_15, rM_passes_18, rM_passes_20, rM_passes_21, rM_passes_24, rM_passes_25, rM_passes_27, rM_passes_30, rM_passes_32, rM_passes_33, rM_passes_35, rM_passes_38, rM_passes_39, rM_passes_42, rM_passes_43, rM_passes_44, rM_passes_45, rM_passes_47, rM_passes_49, rM_passes_52, rM_passes_53, rM_passes_56, rM_passes_57, rM_passes_58, rM_passes_60, ct1_i, ct1_r, ct1_n, true_and, and_true, tl_s, tl_n, le4_0, le4_1, le4_2, le4_3, le4_4, le4_5, isO_r, cl_, emb1, emb2, le_rN, up1_at, up1_up1, h161, obM, mr_0, mr_1, mr_2, mr_3, mr_5, mr_7, mr_11, mi_0, mi_1, mi_2, mi_3, mi_4, mi_5, mi_6, smi_0, smi_1, smi_2, smi_3, smi_4, smi_5, smi_6, fok_i, fok_b1, rb_0, rb_1, rb_bi, bi_eq0, rb_b2, b2_0, ite_not, isO_r, Option.toList, List.cons_append, List.nil_append, q_M_in, q_M_atKite, q_M_atSpool, q_M_atHire, q_M_tail, il_0, tn_0, il_1, tn_1, il_2, tn_2, il_3, tn_3, il_4, tn_4, il_5, tn_5, il_6, tn_6, il_7, tn_7, il_8, tn_8, il_9, tn_9, il_10, tn_10, il_11, tn_11, il_12, tn_12, il_13, tn_13, il_14, tn_14, il_15, tn_15, il_16, tn_16, il_17, tn_17, il_1257, tn_1257, il_1258, tn_1258, il_1259, tn_1259, il_1260, tn_1260, sm2_0, sm2_1, sm2_2, sm6_0, sm6_1, sm6_2, sm6_3, sm6_4, sm6_5, sm6_6, m1_ok, m1_al, m1_rd, m1_re, m1_ln, m1_s, m6_ok, m6_al, m6_rd, m6_re, m6_ln, m6_s, m7_ok, m7_al, m7_rd, m7_re, m7_ln, m7_s, q_M_hourOf, if_pos h1, h2]
    simp only [psM] at hQ
    rcases b2_cases (hoM (σ 8) p).1 with c | c
    · rw [if_neg (by rw [c]; decide), if_neg (by rw [c]; decide), Int32.add_zero]
      rw [if_pos c] at h3
      refine ih p (n + 1) _ _ (of_eq_true (ct1_i _)) ?_ ?_
      · rw [up1_at]; exact h3
      intro q u hu
      have := hQ q u hu
      rw [if_pos c] at this
      rw [up1_at, up1_up1]
      exact this
    · rw [if_pos c, if_pos c, Int32.add_zero]
      rw [if_neg (by rw [c]; decide)] at h3
      refine ih (p + 1) n _ _ (of_eq_true (ct1_i _)) ?_ ?_
      · rw [up1_at]; exact h3
      intro q u hu
      have := hQ q u hu
      rw [if_neg (by rw [c]; decide)] at this
      rw [up1_at, up1_up1]
      exact this

def pmM : Nat → Int32 → HV → Int32 × HV
  | 0, n, v => (n, v)
  | k + 1, n, v => pmM k (psM (v 1 16).toNatClampNeg 0 n v).1 (inc (psM (v 1 16).toNatClampNeg 0 n v).2 0 1)
def pmP : Nat → Int32 → HV → Prop
  | 0, _, _ => True
  | k + 1, n, v => psP (v 1 16).toNatClampNeg 0 v ∧ pmP k (psM (v 1 16).toNatClampNeg 0 n v).1 (inc (psM (v 1 16).toNatClampNeg 0 n v).2 0 1)
set_option maxHeartbeats 4000000 in
set_option maxRecDepth 20000 in
theorem lp_M_passes {sp : Nat → Sp} (h161 : sp 161 = f_M_hourOf) {sc : Nat × (Nat → Int32)} {N : Nat} (hN : N ≤ 1000) {Q : Option Value → MS → Prop} : ∀ (m k : Nat) (n : Int32) (u w : Value) (σ : SG), k + m = N → ct1 u → ct1 w → pmP m n (σ 8) → Q (some (.int (pmM m n (σ 8)).1)) (emb (up1 σ 8 (pmM m n (σ 8)).2)) → Vf 165 sp ((134, SLT), sc) 4 [.ref 126, .int (oN N), .int n, .int (oN k), w, u] [] (emb σ) Q := by
  intro m
  induction m with
  | zero =>
    intro k n u w σ hk hu hw hP hQ
    change Q _ (emb (up1 σ 8 (σ 8))) at hQ
    rw [up1_self] at hQ
    have hlt : ¬ oN k < oN N := by rw [oN_lt (by omega) (by omega)]; omega
    rw [rM_passes_4]
    simp only [rM_passes_5, rM_passes_6, rM_passes_79, rM_passes_80, ct1_i, ct1_r, ct1_n, true_and, and_true, tl_s, tl_n, le4_0, le4_1, le4_2, le4_3, le4_4, le4_5, isO_r, obM, mr_0, mr_1, mr_2, mr_3, mr_5, mr_7, mr_11, mi_0, mi_1, mi_2, mi_3, mi_4, mi_5, mi_6, smi_0, smi_1, smi_2, smi_3, smi_4, smi_5, smi_6, fok_i, fok_b1, rb_0, rb_1, rb_bi, bi_eq0, rb_b2, b2_0, ite_not, isO_r, Option.toList, List.cons_append, List.nil_append, q_M_in, q_M_atKite, q_M_atSpool, q_M_atHire, q_M_tail, il_0, tn_0, il_1, tn_1, il_2, tn_2, il_3, tn_3, il_4, tn_4, il_5, tn_5, il_6, tn_6, il_7, tn_7, il_8, tn_8, il_9, tn_9, il_10, tn_10, il_11, tn_11, il_12, tn_12, il_13, tn_13, il_14, tn_14, il_15, tn_15, il_16, tn_16, il_17, tn_17, il_1257, tn_1257, il_1258, tn_1258, il_1259, tn_1259, il_1260, tn_1260, sm2_0, sm2_1, sm2_2, sm6_0, sm6_1, sm6_2, sm6_3, sm6_4, sm6_5, sm6_6, m1_ok, m1_al, m1_rd, m1_re, m1_ln, m1_s, m6_ok, m6_al, m6_rd, m6_re, m6_ln, m6_s, m7_ok, m7_al, m7_rd, m7_re, m7_ln, m7_s, if_neg hlt]
    exact hQ
  | succ m ih =>
    intro k n u w σ hk hu hw hP hQ
    obtain ⟨h1, h2⟩ := hP
    have hlt : oN k < oN N := by rw [oN_lt (by omega) (by omega)]; omega
    rw [rM_passes_4]
    simp only [rM_passes_5, rM_passes_6, rM_passes_9, rM_passes_10, ct1_i, ct1_r, ct1_n, true_and, and_true, tl_s, tl_n, le4_0, le4_1, le4_2, le4_3, le4_4, le4_5, isO_r, obM, mr_0, mr_1, mr_2, mr_3, mr_5, mr_7, mr_11, mi_0, mi_1, mi_2, mi_3, mi_4, mi_5, mi_6, smi_0, smi_1, smi_2, smi_3, smi_4, smi_5, smi_6, fok_i, fok_b1, rb_0, rb_1, rb_bi, bi_eq0, rb_b2, b2_0, ite_not, isO_r, Option.toList, List.cons_append, List.nil_append, q_M_in, q_M_atKite, q_M_atSpool, q_M_atHire, q_M_tail, il_0, tn_0, il_1, tn_1, il_2, tn_2, il_3, tn_3, il_4, tn_4, il_5, tn_5, il_6, tn_6, il_7, tn_7, il_8, tn_8, il_9, tn_9, il_10, tn_10, il_11, tn_11, il_12, tn_12, il_13, tn_13, il_14, tn_14, il_15, tn_15, il_16, tn_16, il_17, tn_17, il_1257, tn_1257, il_1258, tn_1258, il_1259, tn_1259, il_1260, tn_1260, sm2_0, sm2_1, sm2_2, sm6_0, sm6_1, sm6_2, sm6_3, sm6_4, sm6_5, sm6_6, m1_ok, m1_al, m1_rd, m1_re, m1_ln, m1_s, m6_ok, m6_al, m6_rd, m6_re, m6_ln, m6_s, m7_ok, m7_al, m7_rd, m7_re, m7_ln, m7_s, if_pos hlt, eq_true hu, eq_true hw]
    refine lp_M_passes_1 h161 (σ 8 1 16).toNatClampNeg 0 n u σ hu h1 ?_
    intro q u' hu'
    simp only [rM_passes_63, rM_passes_64, rM_passes_67, rM_passes_68, rM_passes_69, rM_passes_70, rM_passes_71, rM_passes_72, rM_passes_73, rM_passes_76, ct1_i, ct1_r, ct1_n, true_and, and_true, tl_s, tl_n, le4_0, le4_1, le4_2, le4_3, le4_4, le4_5, isO_r, obM, mr_0, mr_1, mr_2, mr_3, mr_5, mr_7, mr_11, mi_0, mi_1, mi_2, mi_3, mi_4, mi_5, mi_6, smi_0, smi_1, smi_2, smi_3, smi_4, smi_5, smi_6, fok_i, fok_b1, rb_0, rb_1, rb_bi, bi_eq0, rb_b2, b2_0, ite_not, isO_r, Option.toList, List.cons_append, List.nil_append, q_M_in, q_M_atKite, q_M_atSpool, q_M_atHire, q_M_tail, il_0, tn_0, il_1, tn_1, il_2, tn_2, il_3, tn_3, il_4, tn_4, il_5, tn_5, il_6, tn_6, il_7, tn_7, il_8, tn_8, il_9, tn_9, il_10, tn_10, il_11, tn_11, il_12, tn_12, il_13, tn_13, il_14, tn_14, il_15, tn_15, il_16, tn_16, il_17, tn_17, il_1257, tn_1257, il_1258, tn_1258, il_1259, tn_1259, il_1260, tn_1260, sm2_0, sm2_1, sm2_2, sm6_0, sm6_1, sm6_2, sm6_3, sm6_4, sm6_5, sm6_6, m1_ok, m1_al, m1_rd, m1_re, m1_ln, m1_s, m6_ok, m6_al, m6_rd, m6_re, m6_ln, m6_s, m7_ok, m7_al, m7_rd, m7_re, m7_ln, m7_s, up1_at, up1_up1, eq_true hu', oN_succ]
    refine ih (k + 1) _ _ _ _ (by omega) hu' (of_eq_true (ct1_i _)) ?_ ?_
    · rw [up1_at]; exact h2
    · rw [up1_at, up1_up1]; exact hQ
def sp_M_passes : Nat → Sp := spL [(161, f_M_hourOf)]
theorem sp_M_passes_M_hourOf : sp_M_passes 161 = f_M_hourOf := rfl
def f_M_passes : Sp := aS 9 (fun _ => 126) 1 (gL1 (fun _ h σ => (sm h 1000 ∧ pmP h.toNatClampNeg 0 (σ 8), some (.int (pmM h.toNatClampNeg 0 (σ 8)).1), up1 σ 8 (pmM h.toNatClampNeg 0 (σ 8)).2)))
theorem q_M_passes {h : Int32} {σ : SG} : f_M_passes [.ref 126, .int h] (emb σ) = (sm h 1000 ∧ pmP h.toNatClampNeg 0 (σ 8), some (.int (pmM h.toNatClampNeg 0 (σ 8)).1), emb (up1 σ 8 (pmM h.toNatClampNeg 0 (σ 8)).2)) := aS1_at (ad := (fun _ => 126)) (i := hI 126) (by decide) rfl
set_option maxHeartbeats 4000000 in
set_option maxRecDepth 20000 in
theorem ok_M_passes : SpecOK 165 f_M_passes := SpecOK.of (sp := sp_M_passes) (by decide) (by decide) (spL_ok (List.forall_mem_cons.mpr ⟨ok_M_hourOf, (fun q h => absurd h List.not_mem_nil)⟩)) (Does_aS1 (Nat.le_of_ble_eq_true rfl) (fun sc i h σ hi had hp => by
  refine Vf_q ?_ ⟨rfl, rfl⟩
  intro Q hQ
  dsimp only at hQ hp
  show Vf 165 _ _ 0 [.ref (126), .int h, .null, .null, .null, .null] [] (emb σ) _

  simp only [rM_passes_0, rM_passes_1, rM_passes_2, rM_passes_3, ct1_i, ct1_r, ct1_n, true_and, and_true, tl_s, tl_n, le4_0, le4_1, le4_2, le4_3, le4_4, le4_5, isO_r, cl_, emb1, emb2, le_rN, up1_at, up1_up1, sp_M_passes_M_hourOf]
  rw [sm_eq hp.1]
  exact lp_M_passes sp_M_passes_M_hourOf hp.1.2 _ 0 0 _ _ σ (Nat.zero_add _) (of_eq_true ct1_n) (of_eq_true ct1_n) hp.2 hQ))
