/-! THE CHECK: its text: signs and numbers -/
theorem fok_b0 : fok .boolean (.int 0) = True := eq_true ⟨rfl, rfl⟩
theorem n10 : ((1 : Int32) = 0) = False := eq_false (by decide)
theorem n00 : ((0 : Int32) = 0) = True := eq_true rfl
def tP (v : HV) (p : Nat) : Prop := sm (v 0 2) 60 ∧ sm (v 0 3) 60 ∧ p ≤ (v 0 3).toNatClampNeg ∧ (v 0 3).toNatClampNeg ≤ (v 0 2).toNatClampNeg
theorem tP_lt {v : HV} {p : Nat} (h : tP v p) : v 0 3 < v 0 2 ↔ (v 0 3).toNatClampNeg < (v 0 2).toNatClampNeg := by
  have h1 := h.1.2
  have h2 := h.2.1.2
  conv => lhs; rw [sm_eq h.1, sm_eq h.2.1]
  rw [oN_lt (by omega) (by omega)]
theorem tP_iin {v : HV} {p : Nat} (h : tP v p) (h2 : v 0 3 < v 0 2) : iin (v 0 3) 60 := by
  have h1 := h.1.2
  have h3 := (tP_lt h).mp h2
  rw [sm_eq h.2.1]
  exact of_eq_true (iin_n (by omega) (by decide))
theorem tP_0 {v : HV} {p : Nat} (h : tP v p) : tP v 0 := ⟨h.1, h.2.1, Nat.zero_le _, h.2.2.2⟩
theorem tP_c {v w : HV} {p : Nat} (h : tP v p) (h2 : w 0 2 = v 0 2) (h3 : w 0 3 = v 0 3) : tP w p := by
  unfold tP
  rw [h2, h3]
  exact h
/-- the sign at the place, 0 behind the end -/
def tcC (v : HV) : Int32 := if v 0 3 < v 0 2 then v 6 (v 0 3).toNatClampNeg else 0
def tk1 (v : HV) (a b c : Int32) : HV := up2 v 0 4 (if v 0 4 = 0 ∧ wi c a b then 0 else 1)
def tk2 (v : HV) : HV := up2 v 0 3 (v 0 3 + if v 0 4 = 0 then 1 else 0)
def tkM (v : HV) (a b : Int32) : HV := tk2 (tk1 v a b (tcC v))
theorem tk2_P {v : HV} {p : Nat} {w : Int32} (h : tP v p) (hc : w = 0 → v 0 3 < v 0 2) : tP (tk2 (up2 v 0 4 w)) p := by
  unfold tk2
  rw [up2_at]
  have e : up2 v 0 4 w 0 3 = v 0 3 := up2_nt (by decide)
  rw [e]
  by_cases hw : w = 0
  · rw [if_pos hw]
    have h1 := h.1.2
    have h2 := (tP_lt h).mp (hc hw)
    have h3 := h.2.2.1
    have e3 : v 0 3 + 1 = oN ((v 0 3).toNatClampNeg + 1) := by
      conv => lhs; rw [sm_eq h.2.1]
      exact oN_succ _
    have e4 : (v 0 3 + 1).toNatClampNeg = (v 0 3).toNatClampNeg + 1 := by rw [e3, oN_nat (by omega)]
    unfold tP
    rw [up2_at, up2_nt (by decide), up2_nt (by decide), e4]
    exact ⟨h.1, by rw [e3]; exact sm_oN (by omega) (by decide), by omega, by omega⟩
  · rw [if_neg hw, Int32.add_zero]
    exact tP_c h (by rw [up2_nt (by decide), up2_nt (by decide)]) (by rw [up2_at])
theorem tk2_P1 {v : HV} {p : Nat} {w : Int32} (h : tP v p) (hc : v 0 3 < v 0 2) (hw : w = 0) : tP (tk2 (up2 v 0 4 w)) (p + 1) := by
  have h0 := tk2_P (w := w) h (fun _ => hc)
  refine ⟨h0.1, h0.2.1, ?_, h0.2.2.2⟩
  have h1 := h.1.2
  have h2 := (tP_lt h).mp hc
  have h3 := h.2.2.1
  unfold tk2
  rw [up2_at, up2_at, up2_nt (by decide), if_pos hw]
  have e3 : v 0 3 + 1 = oN ((v 0 3).toNatClampNeg + 1) := by
    conv => lhs; rw [sm_eq h.2.1]
    exact oN_succ _
  rw [e3, oN_nat (by omega)]
  omega
theorem tc_lt {v : HV} {a b : Int32} (ha : 0 < a) (h : wi (tcC v) a b) : v 0 3 < v 0 2 := by
  rcases Decidable.em (v 0 3 < v 0 2) with h2 | h2
  · exact h2
  · unfold tcC at h
    rw [if_neg h2] at h
    exact absurd ha h.1
theorem tk_P {v : HV} {p : Nat} {a b : Int32} (h : tP v p) (ha : 0 < a) : tP (tkM v a b) p := by
  refine tk2_P h (fun q => ?_)
  split at q
  · rename_i h2
    exact tc_lt ha h2.2
  · exact absurd q (by decide)
theorem tkM_04 (v : HV) (a b : Int32) : tkM v a b 0 4 = if v 0 4 = 0 ∧ wi (tcC v) a b then 0 else 1 := by
  unfold tkM tk2 tk1
  rw [up2_nt (by decide), up2_at]
theorem tkM_ok {v : HV} {a b : Int32} (h : tkM v a b 0 4 = 0) : v 0 4 = 0 ∧ wi (tcC v) a b := by
  rw [tkM_04] at h
  split at h
  · assumption
  · exact absurd h (by decide)
theorem tk_P1 {v : HV} {p : Nat} {a b : Int32} (h : tP v p) (ha : 0 < a) (h0 : tkM v a b 0 4 = 0) : tP (tkM v a b) (p + 1) := by
  have h2 := tkM_ok h0
  exact tk2_P1 h (tc_lt ha h2.2) (if_pos h2)
theorem tkM_k {v : HV} {a b : Int32} {k : Fin 9} (h : k ≠ 0) : tkM v a b k = v k := by
  unfold tkM tk2 tk1
  rw [up2_kn h, up2_kn h]
theorem tkM_0 {v : HV} {a b : Int32} {t : Nat} (h3 : t ≠ 3) (h4 : t ≠ 4) : tkM v a b 0 t = v 0 t := by
  unfold tkM tk2 tk1
  rw [up2_nt h3, up2_nt h4]
set_option maxHeartbeats 1000000 in
set_option maxRecDepth 20000 in
theorem lp_M_takes_47 {sp : Nat → Sp} {sc : Nat × (Nat → Int32)} {a b c : Int32} {Q : Option Value → MS → Prop} (σ : SG) (x : Int32) (hx : x = 0 ∨ x = 1) (hQ : Q (some (.int (c - a))) (emb (up1 σ 8 (tk2 (up2 (σ 8) 0 4 x))))) : Vf 128 sp ((134, SLT), sc) 47 [.ref 126, .int a, .int b, .int c] [.int x, .ref 126] (emb σ) Q := by
  unfold tk2 at hQ
  rw [up2_at] at hQ
  rcases hx with hx | hx <;> subst hx
  · rw [if_pos rfl] at hQ
    simp only [rM_takes_47, rM_takes_50, rM_takes_51, rM_takes_52, rM_takes_55, rM_takes_56, rM_takes_59, rM_takes_62, rM_takes_63, rM_takes_66, rM_takes_67, rM_takes_68, rM_takes_71, rM_takes_72, rM_takes_73, rM_takes_74, ct1_i, ct1_r, ct1_n, true_and, and_true, tl_s, tl_n, le4_0, le4_1, le4_2, le4_3, le4_4, le4_5, isO_r, up1_at, up1_up1, obM, mr_0, mr_1, mr_2, mr_3, mr_5, mr_7, mr_11, mi_0, mi_1, mi_2, mi_3, mi_4, mi_5, mi_6, smi_0, smi_1, smi_2, smi_3, smi_4, smi_5, smi_6, fok_i, fok_b1, rb_0, rb_1, rb_bi, bi_eq0, rb_b2, b2_0, ite_not, isO_r, Option.toList, List.cons_append, List.nil_append, q_M_in, q_M_atKite, q_M_atSpool, q_M_atHire, q_M_tail, il_0, tn_0, il_1, tn_1, il_2, tn_2, il_3, tn_3, il_4, tn_4, il_5, tn_5, il_6, tn_6, il_7, tn_7, il_8, tn_8, il_9, tn_9, il_10, tn_10, il_11, tn_11, il_12, tn_12, il_13, tn_13, il_14, tn_14, il_15, tn_15, il_16, tn_16, il_17, tn_17, il_1257, tn_1257, il_1258, tn_1258, il_1259, tn_1259, il_1260, tn_1260, sm2_0, sm2_1, sm2_2, sm6_0, sm6_1, sm6_2, sm6_3, sm6_4, sm6_5, sm6_6, m1_ok, m1_al, m1_rd, m1_re, m1_ln, m1_s, m6_ok, m6_al, m6_rd, m6_re, m6_ln, m6_s, m7_ok, m7_al, m7_rd, m7_re, m7_ln, m7_s, fok_b0, up2_at, n00, n10, if_true, if_false]
    exact hQ
  · rw [if_neg (by decide)] at hQ
    simp only [rM_takes_47, rM_takes_50, rM_takes_51, rM_takes_52, rM_takes_55, rM_takes_56, rM_takes_59, rM_takes_62, rM_takes_63, rM_takes_66, rM_takes_67, rM_takes_68, rM_takes_71, rM_takes_72, rM_takes_73, rM_takes_74, ct1_i, ct1_r, ct1_n, true_and, and_true, tl_s, tl_n, le4_0, le4_1, le4_2, le4_3, le4_4, le4_5, isO_r, up1_at, up1_up1, obM, mr_0, mr_1, mr_2, mr_3, mr_5, mr_7, mr_11, mi_0, mi_1, mi_2, mi_3, mi_4, mi_5, mi_6, smi_0, smi_1, smi_2, smi_3, smi_4, smi_5, smi_6, fok_i, fok_b1, rb_0, rb_1, rb_bi, bi_eq0, rb_b2, b2_0, ite_not, isO_r, Option.toList, List.cons_append, List.nil_append, q_M_in, q_M_atKite, q_M_atSpool, q_M_atHire, q_M_tail, il_0, tn_0, il_1, tn_1, il_2, tn_2, il_3, tn_3, il_4, tn_4, il_5, tn_5, il_6, tn_6, il_7, tn_7, il_8, tn_8, il_9, tn_9, il_10, tn_10, il_11, tn_11, il_12, tn_12, il_13, tn_13, il_14, tn_14, il_15, tn_15, il_16, tn_16, il_17, tn_17, il_1257, tn_1257, il_1258, tn_1258, il_1259, tn_1259, il_1260, tn_1260, sm2_0, sm2_1, sm2_2, sm6_0, sm6_1, sm6_2, sm6_3, sm6_4, sm6_5, sm6_6, m1_ok, m1_al, m1_rd, m1_re, m1_ln, m1_s, m6_ok, m6_al, m6_rd, m6_re, m6_ln, m6_s, m7_ok, m7_al, m7_rd, m7_re, m7_ln, m7_s, fok_b0, up2_at, n00, n10, if_true, if_false]
    exact hQ
set_option maxHeartbeats 1000000 in
set_option maxRecDepth 20000 in
theorem lp_M_takes_24 {sp : Nat → Sp} (h93 : sp 95 = f_M_in) {sc : Nat × (Nat → Int32)} {a b c : Int32} {u : Value} (hu : ct1 u) {Q : Option Value → MS → Prop} (σ : SG) (hQ : Q (some (.int (c - a))) (emb (up1 σ 8 (tk2 (tk1 (σ 8) a b c))))) : Vf 128 sp ((134, SLT), sc) 24 [.ref 126, .int a, .int b, u] [.int c] (emb σ) Q := by
  simp only [rM_takes_24, rM_takes_25, rM_takes_26, rM_takes_27, rM_takes_30, rM_takes_33, rM_takes_34, rM_takes_35, rM_takes_36, rM_takes_39, rM_takes_42, rM_takes_43, rM_takes_46, ct1_i, ct1_r, ct1_n, true_and, and_true, tl_s, tl_n, le4_0, le4_1, le4_2, le4_3, le4_4, le4_5, isO_r, cl_, emb1, emb2, le_rN, up1_at, up1_up1, h93, obM, mr_0, mr_1, mr_2, mr_3, mr_5, mr_7, mr_11, mi_0, mi_1, mi_2, mi_3, mi_4, mi_5, mi_6, smi_0, smi_1, smi_2, smi_3, smi_4, smi_5, smi_6, fok_i, fok_b1, rb_0, rb_1, rb_bi, bi_eq0, rb_b2, b2_0, ite_not, isO_r, Option.toList, List.cons_append, List.nil_append, q_M_in, q_M_atKite, q_M_atSpool, q_M_atHire, q_M_tail, il_0, tn_0, il_1, tn_1, il_2, tn_2, il_3, tn_3, il_4, tn_4, il_5, tn_5, il_6, tn_6, il_7, tn_7, il_8, tn_8, il_9, tn_9, il_10, tn_10, il_11, tn_11, il_12, tn_12, il_13, tn_13, il_14, tn_14, il_15, tn_15, il_16, tn_16, il_17, tn_17, il_1257, tn_1257, il_1258, tn_1258, il_1259, tn_1259, il_1260, tn_1260, sm2_0, sm2_1, sm2_2, sm6_0, sm6_1, sm6_2, sm6_3, sm6_4, sm6_5, sm6_6, m1_ok, m1_al, m1_rd, m1_re, m1_ln, m1_s, m6_ok, m6_al, m6_rd, m6_re, m6_ln, m6_s, m7_ok, m7_al, m7_rd, m7_re, m7_ln, m7_s, eq_true hu]
  unfold tk1 at hQ
  rcases Decidable.em (σ 8 0 4 = 0) with h1 | h1
  · rw [if_pos h1]
    rcases Decidable.em (wi c a b) with h2 | h2
    · rw [if_pos h2]
      rw [if_pos ⟨h1, h2⟩] at hQ
      exact lp_M_takes_47 σ 0 (Or.inl rfl) hQ
    · rw [if_neg h2]
      rw [if_neg (fun q => h2 q.2)] at hQ
      exact lp_M_takes_47 σ 1 (Or.inr rfl) hQ
  · rw [if_neg h1]
    rw [if_neg (fun q => h1 q.1)] at hQ
    exact lp_M_takes_47 σ 1 (Or.inr rfl) hQ

def sp_M_takes : Nat → Sp := spL [(95, f_M_in)]
theorem sp_M_takes_M_in : sp_M_takes 95 = f_M_in := rfl
def f_M_takes : Sp := aS 9 (fun _ => 126) 2 (gL2 (fun _ a b σ => (tP (σ 8) 0, some (.int (tcC (σ 8) - a)), up1 σ 8 (tkM (σ 8) a b))))
theorem q_M_takes {a b : Int32} {σ : SG} : f_M_takes [.ref 126, .int a, .int b] (emb σ) = (tP (σ 8) 0, some (.int (tcC (σ 8) - a)), emb (up1 σ 8 (tkM (σ 8) a b))) := aS2_at (ad := (fun _ => 126)) (i := hI 126) (by decide) rfl
set_option maxHeartbeats 4000000 in
set_option maxRecDepth 20000 in
theorem ok_M_takes : SpecOK 128 f_M_takes := SpecOK.of (sp := sp_M_takes) (by decide) (by decide) (spL_ok (List.forall_mem_cons.mpr ⟨ok_M_in, (fun q h => absurd h List.not_mem_nil)⟩)) (Does_aS2 (Nat.le_of_ble_eq_true rfl) (fun sc i a b σ hi had hp => by
  refine Vf_q ?_ ⟨rfl, rfl⟩
  intro Q hQ
  dsimp only at hQ hp
  show Vf 128 _ _ 0 [.ref (126), .int a, .int b, .null] [] (emb σ) _

  simp only [rM_takes_0, rM_takes_1, rM_takes_4, rM_takes_5, rM_takes_8, rM_takes_11, rM_takes_12, rM_takes_15, rM_takes_16, rM_takes_19, rM_takes_20, rM_takes_23, ct1_i, ct1_r, ct1_n, true_and, and_true, tl_s, tl_n, le4_0, le4_1, le4_2, le4_3, le4_4, le4_5, isO_r, cl_, emb1, emb2, le_rN, up1_at, up1_up1, sp_M_takes_M_in, obM, mr_0, mr_1, mr_2, mr_3, mr_5, mr_7, mr_11, mi_0, mi_1, mi_2, mi_3, mi_4, mi_5, mi_6, smi_0, smi_1, smi_2, smi_3, smi_4, smi_5, smi_6, fok_i, fok_b1, rb_0, rb_1, rb_bi, bi_eq0, rb_b2, b2_0, ite_not, isO_r, Option.toList, List.cons_append, List.nil_append, q_M_in, q_M_atKite, q_M_atSpool, q_M_atHire, q_M_tail, il_0, tn_0, il_1, tn_1, il_2, tn_2, il_3, tn_3, il_4, tn_4, il_5, tn_5, il_6, tn_6, il_7, tn_7, il_8, tn_8, il_9, tn_9, il_10, tn_10, il_11, tn_11, il_12, tn_12, il_13, tn_13, il_14, tn_14, il_15, tn_15, il_16, tn_16, il_17, tn_17, il_1257, tn_1257, il_1258, tn_1258, il_1259, tn_1259, il_1260, tn_1260, sm2_0, sm2_1, sm2_2, sm6_0, sm6_1, sm6_2, sm6_3, sm6_4, sm6_5, sm6_6, m1_ok, m1_al, m1_rd, m1_re, m1_ln, m1_s, m6_ok, m6_al, m6_rd, m6_re, m6_ln, m6_s, m7_ok, m7_al, m7_rd, m7_re, m7_ln, m7_s]
  unfold tkM tcC at hQ
  rcases Decidable.em (σ 8 0 3 < σ 8 0 2) with h1 | h1
  · rw [if_pos h1] at hQ ⊢
    exact ⟨tP_iin hp h1, lp_M_takes_24 sp_M_takes_M_in (of_eq_true ct1_n) σ hQ⟩
  · rw [if_neg h1] at hQ ⊢
    exact lp_M_takes_24 sp_M_takes_M_in (of_eq_true ct1_n) σ hQ))
abbrev nyP (v : HV) (a b : Int32) : Prop := v 0 4 = 0 ∧ v 0 3 < v 0 2 ∧ wi (v 6 (v 0 3).toNatClampNeg) a b
def sp_M_isNext : Nat → Sp := spL [(95, f_M_in)]
theorem sp_M_isNext_M_in : sp_M_isNext 95 = f_M_in := rfl
def f_M_isNext : Sp := aS 9 (fun _ => 126) 2 (gL2 (fun _ a b σ => (tP (σ 8) 0, some (.int (bi (nyP (σ 8) a b))), σ)))
theorem q_M_isNext {a b : Int32} {σ : SG} : f_M_isNext [.ref 126, .int a, .int b] (emb σ) = (tP (σ 8) 0, some (.int (bi (nyP (σ 8) a b))), emb (σ)) := aS2_at (ad := (fun _ => 126)) (i := hI 126) (by decide) rfl
set_option maxHeartbeats 4000000 in
set_option maxRecDepth 20000 in
theorem ok_M_isNext : SpecOK 129 f_M_isNext := SpecOK.of (sp := sp_M_isNext) (by decide) (by decide) (spL_ok (List.forall_mem_cons.mpr ⟨ok_M_in, (fun q h => absurd h List.not_mem_nil)⟩)) (Does_aS2 (Nat.le_of_ble_eq_true rfl) (fun sc i a b σ hi had hp => by
  refine Vf_q ?_ ⟨rfl, rfl⟩
  intro Q hQ
  dsimp only at hQ hp
  show Vf 129 _ _ 0 [.ref (126), .int a, .int b] [] (emb σ) _

  simp only [rM_isNext_0, rM_isNext_1, rM_isNext_4, rM_isNext_7, rM_isNext_8, rM_isNext_11, rM_isNext_12, rM_isNext_15, rM_isNext_18, rM_isNext_19, rM_isNext_22, rM_isNext_23, rM_isNext_26, rM_isNext_27, rM_isNext_28, rM_isNext_29, rM_isNext_32, rM_isNext_35, rM_isNext_36, rM_isNext_39, rM_isNext_40, ct1_i, ct1_r, ct1_n, true_and, and_true, tl_s, tl_n, le4_0, le4_1, le4_2, le4_3, le4_4, le4_5, isO_r, cl_, emb1, emb2, le_rN, up1_at, up1_up1, sp_M_isNext_M_in, obM, mr_0, mr_1, mr_2, mr_3, mr_5, mr_7, mr_11, mi_0, mi_1, mi_2, mi_3, mi_4, mi_5, mi_6, smi_0, smi_1, smi_2, smi_3, smi_4, smi_5, smi_6, fok_i, fok_b1, rb_0, rb_1, rb_bi, bi_eq0, rb_b2, b2_0, ite_not, isO_r, Option.toList, List.cons_append, List.nil_append, q_M_in, q_M_atKite, q_M_atSpool, q_M_atHire, q_M_tail, il_0, tn_0, il_1, tn_1, il_2, tn_2, il_3, tn_3, il_4, tn_4, il_5, tn_5, il_6, tn_6, il_7, tn_7, il_8, tn_8, il_9, tn_9, il_10, tn_10, il_11, tn_11, il_12, tn_12, il_13, tn_13, il_14, tn_14, il_15, tn_15, il_16, tn_16, il_17, tn_17, il_1257, tn_1257, il_1258, tn_1258, il_1259, tn_1259, il_1260, tn_1260, sm2_0, sm2_1, sm2_2, sm6_0, sm6_1, sm6_2, sm6_3, sm6_4, sm6_5, sm6_6, m1_ok, m1_al, m1_rd, m1_re, m1_ln, m1_s, m6_ok, m6_al, m6_rd, m6_re, m6_ln, m6_s, m7_ok, m7_al, m7_rd, m7_re, m7_ln, m7_s]
  rcases Decidable.em (σ 8 0 4 = 0) with h1 | h1
  case inr =>
    rw [if_neg h1]
    rw [bi_f (fun q => h1 q.1)] at hQ
    exact hQ
  rw [if_pos h1]
  rcases Decidable.em (σ 8 0 3 < σ 8 0 2) with h2 | h2
  case inr =>
    rw [if_neg h2]
    rw [bi_f (fun q => h2 q.2.1)] at hQ
    exact hQ
  rw [if_pos h2]
  refine ⟨tP_iin hp h2, ?_⟩
  rcases Decidable.em (wi (σ 8 6 (σ 8 0 3).toNatClampNeg) a b) with h3 | h3
  · rw [if_pos h3]
    rw [bi_t ⟨h1, h2, h3⟩] at hQ
    exact hQ
  · rw [if_neg h3]
    rw [bi_f (fun q => h3 q.2.2)] at hQ
    exact hQ))
abbrev inP (v : HV) (b x : Int32) : Prop := nyP v 48 57 ∧ ¬ b < 10 * x + v 6 (v 0 3).toNatClampNeg - 48
def tnF (b : Int32) : Nat → Int32 → HV → Int32 × HV
  | 0, x, v => (x, v)
  | n + 1, x, v => if inP v b x then tnF b n (10 * x + (tcC v - 48)) (tkM v 48 57) else (x, v)
theorem nx_tk {v : HV} (h : nyP v 48 57) : tkM v 48 57 0 4 = 0 := by
  rw [tkM_04, if_pos]
  refine ⟨h.1, ?_⟩
  unfold tcC
  rw [if_pos h.2.1]
  exact h.2.2
theorem tnF_P {b : Int32} {p : Nat} : ∀ (n : Nat) (x : Int32) (v : HV), tP v p → tP (tnF b n x v).2 p := by
  intro n
  induction n with
  | zero => intro x v h; exact h
  | succ n ih =>
    intro x v h
    unfold tnF
    split
    · exact ih _ _ (tk_P h (by decide))
    · exact h
set_option maxHeartbeats 1000000 in
set_option maxRecDepth 20000 in
theorem lp_M_takesNumber {sp : Nat → Sp} (h128 : sp 128 = f_M_takes) (h129 : sp 129 = f_M_isNext) {sc : Nat × (Nat → Int32)} {a b : Int32} {Q : Option Value → MS → Prop} : ∀ (n p : Nat) (x : Int32) (σ : SG), tP (σ 8) p → p + n = 60 → Q (some (.int (tnF b n x (σ 8)).1)) (emb (up1 σ 8 (tnF b n x (σ 8)).2)) → Vf 144 sp ((134, SLT), sc) 24 [.ref 126, .int a, .int b, .int x, .int 1] [] (emb σ) Q := by
  intro n
  have ex : ∀ (x : Int32) (σ : SG), Q (some (.int x)) (emb σ) → Vf 144 sp ((134, SLT), sc) 24 [.ref 126, .int a, .int b, .int x, .int 0] [] (emb σ) Q := by
    intro x σ hQ
    simp only [rM_takesNumber_24, rM_takesNumber_26, rM_takesNumber_94, rM_takesNumber_95, ct1_i, ct1_r, ct1_n, true_and, and_true, tl_s, tl_n, le4_0, le4_1, le4_2, le4_3, le4_4, le4_5, isO_r, n00, if_true]
    exact hQ
  induction n with
  | zero =>
    intro p x σ h hp hQ
    have h1 := h.1.2
    have h2 := h.2.2
    have hl : ¬ σ 8 0 3 < σ 8 0 2 := fun q => by have := (tP_lt h).mp q; omega
    change Q (some (.int x)) (emb (up1 σ 8 (σ 8))) at hQ
    rw [up1_self] at hQ
    rw [rM_takesNumber_24]
    simp only [rM_takesNumber_26, rM_takesNumber_29, rM_takesNumber_30, rM_takesNumber_32, rM_takesNumber_34, rM_takesNumber_37, rM_takesNumber_40, rM_takesNumber_42, rM_takesNumber_43, rM_takesNumber_44, rM_takesNumber_45, rM_takesNumber_48, rM_takesNumber_49, rM_takesNumber_52, rM_takesNumber_53, rM_takesNumber_54, rM_takesNumber_56, rM_takesNumber_57, rM_takesNumber_58, rM_takesNumber_61, rM_takesNumber_62, rM_takesNumber_65, rM_takesNumber_66, rM_takesNumber_68, rM_takesNumber_70, rM_takesNumber_73, rM_takesNumber_75, rM_takesNumber_76, rM_takesNumber_77, rM_takesNumber_78, rM_takesNumber_80, rM_takesNumber_82, rM_takesNumber_85, rM_takesNumber_86, rM_takesNumber_89, rM_takesNumber_90, rM_takesNumber_91, ct1_i, ct1_r, ct1_n, true_and, and_true, tl_s, tl_n, le4_0, le4_1, le4_2, le4_3, le4_4, le4_5, isO_r, cl_, emb1, emb2, le_rN, up1_at, up1_up1, h128, h129, obM, mr_0, mr_1, mr_2, mr_3, mr_5, mr_7, mr_11, mi_0, mi_1, mi_2, mi_3, mi_4, mi_5, mi_6, smi_0, smi_1, smi_2, smi_3, smi_4, smi_5, smi_6, fok_i, fok_b1, rb_0, rb_1, rb_bi, bi_eq0, rb_b2, b2_0, ite_not, isO_r, Option.toList, List.cons_append, List.nil_append, q_M_in, q_M_atKite, q_M_atSpool, q_M_atHire, q_M_tail, il_0, tn_0, il_1, tn_1, il_2, tn_2, il_3, tn_3, il_4, tn_4, il_5, tn_5, il_6, tn_6, il_7, tn_7, il_8, tn_8, il_9, tn_9, il_10, tn_10, il_11, tn_11, il_12, tn_12, il_13, tn_13, il_14, tn_14, il_15, tn_15, il_16, tn_16, il_17, tn_17, il_1257, tn_1257, il_1258, tn_1258, il_1259, tn_1259, il_1260, tn_1260, sm2_0, sm2_1, sm2_2, sm6_0, sm6_1, sm6_2, sm6_3, sm6_4, sm6_5, sm6_6, m1_ok, m1_al, m1_rd, m1_re, m1_ln, m1_s, m6_ok, m6_al, m6_rd, m6_re, m6_ln, m6_s, m7_ok, m7_al, m7_rd, m7_re, m7_ln, m7_s, q_M_isNext, q_M_takes, tP_0 h, n00, n10, if_true, if_false]
    rw [if_neg (fun q => hl q.2.1)]
    exact ex x σ hQ
  | succ n ih =>
    intro p x σ h hp hQ
    simp only [tnF] at hQ
    rw [rM_takesNumber_24]
    simp only [rM_takesNumber_26, rM_takesNumber_29, rM_takesNumber_30, rM_takesNumber_32, rM_takesNumber_34, rM_takesNumber_37, rM_takesNumber_40, rM_takesNumber_42, rM_takesNumber_43, rM_takesNumber_44, rM_takesNumber_45, rM_takesNumber_48, rM_takesNumber_49, rM_takesNumber_52, rM_takesNumber_53, rM_takesNumber_54, rM_takesNumber_56, rM_takesNumber_57, rM_takesNumber_58, rM_takesNumber_61, rM_takesNumber_62, rM_takesNumber_65, rM_takesNumber_66, rM_takesNumber_68, rM_takesNumber_70, rM_takesNumber_73, rM_takesNumber_75, rM_takesNumber_76, rM_takesNumber_77, rM_takesNumber_78, rM_takesNumber_80, rM_takesNumber_82, rM_takesNumber_85, rM_takesNumber_86, rM_takesNumber_89, rM_takesNumber_90, rM_takesNumber_91, ct1_i, ct1_r, ct1_n, true_and, and_true, tl_s, tl_n, le4_0, le4_1, le4_2, le4_3, le4_4, le4_5, isO_r, cl_, emb1, emb2, le_rN, up1_at, up1_up1, h128, h129, obM, mr_0, mr_1, mr_2, mr_3, mr_5, mr_7, mr_11, mi_0, mi_1, mi_2, mi_3, mi_4, mi_5, mi_6, smi_0, smi_1, smi_2, smi_3, smi_4, smi_5, smi_6, fok_i, fok_b1, rb_0, rb_1, rb_bi, bi_eq0, rb_b2, b2_0, ite_not, isO_r, Option.toList, List.cons_append, List.nil_append, q_M_in, q_M_atKite, q_M_atSpool, q_M_atHire, q_M_tail, il_0, tn_0, il_1, tn_1, il_2, tn_2, il_3, tn_3, il_4, tn_4, il_5, tn_5, il_6, tn_6, il_7, tn_7, il_8, tn_8, il_9, tn_9, il_10, tn_10, il_11, tn_11, il_12, tn_12, il_13, tn_13, il_14, tn_14, il_15, tn_15, il_16, tn_16, il_17, tn_17, il_1257, tn_1257, il_1258, tn_1258, il_1259, tn_1259, il_1260, tn_1260, sm2_0, sm2_1, sm2_2, sm6_0, sm6_1, sm6_2, sm6_3, sm6_4, sm6_5, sm6_6, m1_ok, m1_al, m1_rd, m1_re, m1_ln, m1_s, m6_ok, m6_al, m6_rd, m6_re, m6_ln, m6_s, m7_ok, m7_al, m7_rd, m7_re, m7_ln, m7_s, q_M_isNext, q_M_takes, tP_0 h, n00, n10, if_true, if_false]
    rcases Decidable.em (nyP (σ 8) 48 57) with h1 | h1
    · rw [if_pos h1]
      refine ⟨tP_iin h h1.2.1, ?_⟩
      rcases Decidable.em (b < 10 * x + σ 8 6 (σ 8 0 3).toNatClampNeg - 48) with h2 | h2
      · rw [if_pos h2]
        rw [if_neg (fun q => q.2 h2)] at hQ
        dsimp only at hQ
        rw [up1_self] at hQ
        exact ex x σ hQ
      · rw [if_neg h2]
        rw [if_pos ⟨h1, h2⟩] at hQ
        refine ih (p + 1) _ _ ?_ (by omega) ?_
        · rw [up1_at]
          exact tk_P1 h (by decide) (nx_tk h1)
        · rw [up1_at, up1_up1]
          exact hQ
    · rw [if_neg h1]
      rw [if_neg (fun q => h1 q.1)] at hQ
      dsimp only at hQ
      rw [up1_self] at hQ
      exact ex x σ hQ
def tnX (v : HV) (a : Int32) : Int32 := a + (tcC v - (48 + a))
def tnM (v : HV) (a b : Int32) : Int32 × HV := if 0 < tnX v a then tnF b 60 (tnX v a) (tkM v (48 + a) 57) else (tnX v a, tkM v (48 + a) 57)
theorem tnM_P {v : HV} {a b : Int32} {p : Nat} (h : tP v p) (ha : 0 < 48 + a) : tP (tnM v a b).2 p := by
  unfold tnM
  split
  · exact tnF_P _ _ _ (tk_P h ha)
  · exact tk_P h ha
def sp_M_takesNumber : Nat → Sp := spL [(128, f_M_takes), (129, f_M_isNext)]
theorem sp_M_takesNumber_M_takes : sp_M_takesNumber 128 = f_M_takes := rfl
theorem sp_M_takesNumber_M_isNext : sp_M_takesNumber 129 = f_M_isNext := rfl
def f_M_takesNumber : Sp := aS 9 (fun _ => 126) 2 (gL2 (fun _ a b σ => (tP (σ 8) 0 ∧ 0 < 48 + a, some (.int (tnM (σ 8) a b).1), up1 σ 8 (tnM (σ 8) a b).2)))
theorem q_M_takesNumber {a b : Int32} {σ : SG} : f_M_takesNumber [.ref 126, .int a, .int b] (emb σ) = (tP (σ 8) 0 ∧ 0 < 48 + a, some (.int (tnM (σ 8) a b).1), emb (up1 σ 8 (tnM (σ 8) a b).2)) := aS2_at (ad := (fun _ => 126)) (i := hI 126) (by decide) rfl
set_option maxHeartbeats 4000000 in
set_option maxRecDepth 20000 in
theorem ok_M_takesNumber : SpecOK 144 f_M_takesNumber := SpecOK.of (sp := sp_M_takesNumber) (by decide) (by decide) (spL_ok (List.forall_mem_cons.mpr ⟨ok_M_takes, (List.forall_mem_cons.mpr ⟨ok_M_isNext, (fun q h => absurd h List.not_mem_nil)⟩)⟩)) (Does_aS2 (Nat.le_of_ble_eq_true rfl) (fun sc i a b σ hi had hp => by
  refine Vf_q ?_ ⟨rfl, rfl⟩
  intro Q hQ
  dsimp only at hQ hp
  show Vf 144 _ _ 0 [.ref (126), .int a, .int b, .null, .null] [] (emb σ) _

  have g1 : a + (tcC (σ 8) - (48 + a)) = tnX (σ 8) a := rfl
  simp only [rM_takesNumber_0, rM_takesNumber_1, rM_takesNumber_2, rM_takesNumber_4, rM_takesNumber_5, rM_takesNumber_6, rM_takesNumber_8, rM_takesNumber_11, rM_takesNumber_12, rM_takesNumber_13, rM_takesNumber_14, rM_takesNumber_17, rM_takesNumber_18, rM_takesNumber_21, rM_takesNumber_22, ct1_i, ct1_r, ct1_n, true_and, and_true, tl_s, tl_n, le4_0, le4_1, le4_2, le4_3, le4_4, le4_5, isO_r, cl_, emb1, emb2, le_rN, up1_at, up1_up1, sp_M_takesNumber_M_takes, sp_M_takesNumber_M_isNext, obM, mr_0, mr_1, mr_2, mr_3, mr_5, mr_7, mr_11, mi_0, mi_1, mi_2, mi_3, mi_4, mi_5, mi_6, smi_0, smi_1, smi_2, smi_3, smi_4, smi_5, smi_6, fok_i, fok_b1, rb_0, rb_1, rb_bi, bi_eq0, rb_b2, b2_0, ite_not, isO_r, Option.toList, List.cons_append, List.nil_append, q_M_in, q_M_atKite, q_M_atSpool, q_M_atHire, q_M_tail, il_0, tn_0, il_1, tn_1, il_2, tn_2, il_3, tn_3, il_4, tn_4, il_5, tn_5, il_6, tn_6, il_7, tn_7, il_8, tn_8, il_9, tn_9, il_10, tn_10, il_11, tn_11, il_12, tn_12, il_13, tn_13, il_14, tn_14, il_15, tn_15, il_16, tn_16, il_17, tn_17, il_1257, tn_1257, il_1258, tn_1258, il_1259, tn_1259, il_1260, tn_1260, sm2_0, sm2_1, sm2_2, sm6_0, sm6_1, sm6_2, sm6_3, sm6_4, sm6_5, sm6_6, m1_ok, m1_al, m1_rd, m1_re, m1_ln, m1_s, m6_ok, m6_al, m6_rd, m6_re, m6_ln, m6_s, m7_ok, m7_al, m7_rd, m7_re, m7_ln, m7_s, q_M_takes, hp.1, g1]
  unfold tnM at hQ
  rcases Decidable.em (0 < tnX (σ 8) a) with h1 | h1
  · rw [if_pos h1] at hQ ⊢
    refine lp_M_takesNumber sp_M_takesNumber_M_takes sp_M_takesNumber_M_isNext 60 0 _ _ ?_ rfl ?_
    · rw [up1_at]
      exact tk_P hp.1 hp.2
    · rw [up1_at, up1_up1]
      exact hQ
  · rw [if_neg h1] at hQ ⊢
    simp only [rM_takesNumber_24, rM_takesNumber_26, rM_takesNumber_94, rM_takesNumber_95, ct1_i, ct1_r, ct1_n, true_and, and_true, tl_s, tl_n, le4_0, le4_1, le4_2, le4_3, le4_4, le4_5, isO_r, n00, if_true]
    exact hQ))
def tbM (v : HV) (s a b : Int32) : Int32 × HV := tnM (tkM v s s) a b
theorem tbM_P {v : HV} {s a b : Int32} {p : Nat} (h : tP v p) (hs : 0 < s) (ha : 0 < 48 + a) : tP (tbM v s a b).2 p := tnM_P (tk_P h hs) ha
def sp_M_takesBehind : Nat → Sp := spL [(128, f_M_takes), (144, f_M_takesNumber)]
theorem sp_M_takesBehind_M_takes : sp_M_takesBehind 128 = f_M_takes := rfl
theorem sp_M_takesBehind_M_takesNumber : sp_M_takesBehind 144 = f_M_takesNumber := rfl
def f_M_takesBehind : Sp := aS 9 (fun _ => 126) 3 (gL3 (fun _ s a b σ => (tP (σ 8) 0 ∧ 0 < s ∧ 0 < 48 + a, some (.int (tbM (σ 8) s a b).1), up1 σ 8 (tbM (σ 8) s a b).2)))
theorem q_M_takesBehind {s a b : Int32} {σ : SG} : f_M_takesBehind [.ref 126, .int s, .int a, .int b] (emb σ) = (tP (σ 8) 0 ∧ 0 < s ∧ 0 < 48 + a, some (.int (tbM (σ 8) s a b).1), emb (up1 σ 8 (tbM (σ 8) s a b).2)) := aS3_at (ad := (fun _ => 126)) (i := hI 126) (by decide) rfl
set_option maxHeartbeats 4000000 in
set_option maxRecDepth 20000 in
theorem ok_M_takesBehind : SpecOK 154 f_M_takesBehind := SpecOK.of (sp := sp_M_takesBehind) (by decide) (by decide) (spL_ok (List.forall_mem_cons.mpr ⟨ok_M_takes, (List.forall_mem_cons.mpr ⟨ok_M_takesNumber, (fun q h => absurd h List.not_mem_nil)⟩)⟩)) (Does_aS3 (Nat.le_of_ble_eq_true rfl) (fun sc i s a b σ hi had hp => by
  refine Vf_q ?_ ⟨rfl, rfl⟩
  intro Q hQ
  dsimp only at hQ hp
  show Vf 154 _ _ 0 [.ref (126), .int s, .int a, .int b, .null] [] (emb σ) _

  have h1 : tP (tkM (σ 8) s s) 0 := tk_P hp.1 hp.2.1
  simp only [rM_takesBehind_0, rM_takesBehind_1, rM_takesBehind_2, rM_takesBehind_3, rM_takesBehind_6, rM_takesBehind_8, rM_takesBehind_9, rM_takesBehind_10, rM_takesBehind_11, rM_takesBehind_14, ct1_i, ct1_r, ct1_n, true_and, and_true, tl_s, tl_n, le4_0, le4_1, le4_2, le4_3, le4_4, le4_5, isO_r, cl_, emb1, emb2, le_rN, up1_at, up1_up1, sp_M_takesBehind_M_takes, sp_M_takesBehind_M_takesNumber, obM, mr_0, mr_1, mr_2, mr_3, mr_5, mr_7, mr_11, mi_0, mi_1, mi_2, mi_3, mi_4, mi_5, mi_6, smi_0, smi_1, smi_2, smi_3, smi_4, smi_5, smi_6, fok_i, fok_b1, rb_0, rb_1, rb_bi, bi_eq0, rb_b2, b2_0, ite_not, isO_r, Option.toList, List.cons_append, List.nil_append, q_M_in, q_M_atKite, q_M_atSpool, q_M_atHire, q_M_tail, il_0, tn_0, il_1, tn_1, il_2, tn_2, il_3, tn_3, il_4, tn_4, il_5, tn_5, il_6, tn_6, il_7, tn_7, il_8, tn_8, il_9, tn_9, il_10, tn_10, il_11, tn_11, il_12, tn_12, il_13, tn_13, il_14, tn_14, il_15, tn_15, il_16, tn_16, il_17, tn_17, il_1257, tn_1257, il_1258, tn_1258, il_1259, tn_1259, il_1260, tn_1260, sm2_0, sm2_1, sm2_2, sm6_0, sm6_1, sm6_2, sm6_3, sm6_4, sm6_5, sm6_6, m1_ok, m1_al, m1_rd, m1_re, m1_ln, m1_s, m6_ok, m6_al, m6_rd, m6_re, m6_ln, m6_s, m7_ok, m7_al, m7_rd, m7_re, m7_ln, m7_s, q_M_takes, q_M_takesNumber, hp.1, hp.2.2, h1]
  exact hQ))
