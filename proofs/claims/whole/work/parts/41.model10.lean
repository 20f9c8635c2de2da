/-! THE CHECK: reasons -/
/-- one of them, from the left -/
def orF (p : Nat → Bool) : Nat → Nat → Bool → Bool
  | _, 0, d => d
  | r, k + 1, d => orF p (r + 1) k (d || p r)
set_option maxHeartbeats 600000 in
set_option maxRecDepth 20000 in
theorem lp_M_lacksTails {sp : Nat → Sp} (h94 : sp 94 = f_M_tail) (h102 : sp 102 = f_M_has) {sc : Nat × (Nat → Int32)} {s : Int32} {Q : Option Value → MS → Prop} (σ : SG) : ∀ (m n : Nat) (d : Bool), n + m = 6 → Q (some (.int (b2 (orF (fun c => decide (bit s c = 1 ∧ ut (σ 8) (oN c) 0 = 0)) n m d)))) (emb σ) → Vf 123 sp ((134, SLT), sc) 4 [.ref 126, .int s, .int (b2 d), .int (oN n)] [] (emb σ) Q := by
  intro m
  induction m with
  | zero =>
    intro n d hn hQ
    have : n = 6 := by omega
    subst this
    rw [rM_lacksTails_4]
    simp only [rM_lacksTails_5, rM_lacksTails_7, rM_lacksTails_10, rM_lacksTails_11, rM_lacksTails_14, rM_lacksTails_15, rM_lacksTails_16, rM_lacksTails_19, rM_lacksTails_22, rM_lacksTails_23, rM_lacksTails_26, rM_lacksTails_27, rM_lacksTails_28, rM_lacksTails_31, rM_lacksTails_32, rM_lacksTails_35, rM_lacksTails_36, rM_lacksTails_39, rM_lacksTails_40, rM_lacksTails_41, rM_lacksTails_44, rM_lacksTails_47, rM_lacksTails_48, ct1_i, ct1_r, ct1_n, true_and, and_true, tl_s, tl_n, le4_0, le4_1, le4_2, le4_3, le4_4, le4_5, isO_r, obM, mr_0, mr_1, mr_2, mr_3, mr_5, mr_7, mr_11, mi_0, mi_1, mi_2, mi_3, mi_4, mi_5, mi_6, smi_0, smi_1, smi_2, smi_3, smi_4, smi_5, smi_6, fok_i, fok_b1, rb_0, rb_1, rb_bi, bi_eq0, rb_b2, b2_0, ite_not, isO_r, Option.toList, List.cons_append, List.nil_append, q_M_in, q_M_atKite, q_M_atSpool, q_M_atHire, q_M_tail, il_0, tn_0, il_1, tn_1, il_2, tn_2, il_3, tn_3, il_4, tn_4, il_5, tn_5, il_6, tn_6, il_7, tn_7, il_8, tn_8, il_9, tn_9, il_10, tn_10, il_11, tn_11, il_12, tn_12, il_13, tn_13, il_14, tn_14, il_15, tn_15, il_16, tn_16, il_17, tn_17, il_1257, tn_1257, il_1258, tn_1258, il_1259, tn_1259, il_1260, tn_1260, sm2_0, sm2_1, sm2_2, sm6_0, sm6_1, sm6_2, sm6_3, sm6_4, sm6_5, sm6_6, m1_ok, m1_al, m1_rd, m1_re, m1_ln, m1_s, m6_ok, m6_al, m6_rd, m6_re, m6_ln, m6_s, m7_ok, m7_al, m7_rd, m7_re, m7_ln, m7_s, if_neg c6]
    exact hQ
  | succ m ih =>
    intro n d hn hQ
    have hs : sm (oN n) 5 := sm_oN (by omega) (by decide)
    simp only [orF] at hQ
    rw [rM_lacksTails_4]
    simp only [rM_lacksTails_5, rM_lacksTails_7, rM_lacksTails_10, rM_lacksTails_11, rM_lacksTails_14, rM_lacksTails_15, rM_lacksTails_16, rM_lacksTails_19, rM_lacksTails_22, rM_lacksTails_23, rM_lacksTails_26, rM_lacksTails_27, rM_lacksTails_28, rM_lacksTails_31, rM_lacksTails_32, rM_lacksTails_35, rM_lacksTails_36, rM_lacksTails_39, rM_lacksTails_40, rM_lacksTails_41, rM_lacksTails_44, rM_lacksTails_47, rM_lacksTails_48, ct1_i, ct1_r, ct1_n, true_and, and_true, tl_s, tl_n, le4_0, le4_1, le4_2, le4_3, le4_4, le4_5, isO_r, cl_, emb1, emb2, le_rN, h94, h102, obM, mr_0, mr_1, mr_2, mr_3, mr_5, mr_7, mr_11, mi_0, mi_1, mi_2, mi_3, mi_4, mi_5, mi_6, smi_0, smi_1, smi_2, smi_3, smi_4, smi_5, smi_6, fok_i, fok_b1, rb_0, rb_1, rb_bi, bi_eq0, rb_b2, b2_0, ite_not, isO_r, Option.toList, List.cons_append, List.nil_append, q_M_in, q_M_atKite, q_M_atSpool, q_M_atHire, q_M_tail, il_0, tn_0, il_1, tn_1, il_2, tn_2, il_3, tn_3, il_4, tn_4, il_5, tn_5, il_6, tn_6, il_7, tn_7, il_8, tn_8, il_9, tn_9, il_10, tn_10, il_11, tn_11, il_12, tn_12, il_13, tn_13, il_14, tn_14, il_15, tn_15, il_16, tn_16, il_17, tn_17, il_1257, tn_1257, il_1258, tn_1258, il_1259, tn_1259, il_1260, tn_1260, sm2_0, sm2_1, sm2_2, sm6_0, sm6_1, sm6_2, sm6_3, sm6_4, sm6_5, sm6_6, m1_ok, m1_al, m1_rd, m1_re, m1_ln, m1_s, m6_ok, m6_al, m6_rd, m6_re, m6_ln, m6_s, m7_ok, m7_al, m7_rd, m7_re, m7_ln, m7_s, q_M_has, if_pos (lt6 (show n < 6 by omega)), iT_0 hs, oN_succ]
    rcases b2_cases d with hd | hd
    · subst hd
      rw [if_neg (by decide)]
      refine ih (n + 1) true (by omega) ?_
      rw [Bool.true_or] at hQ
      exact hQ
    · subst hd
      rw [if_pos rfl]
      rw [Bool.false_or] at hQ
      change if bit s n = 1 then _ else _
      rcases Decidable.em (bit s n = 1) with h1 | h1
      · rw [if_pos h1]
        rcases Decidable.em (ut (σ 8) (oN n) 0 = 0) with h2 | h2
        · rw [if_pos h2]
          rw [decide_eq_true (show _ ∧ _ from ⟨h1, h2⟩)] at hQ
          exact ih (n + 1) true (by omega) hQ
        · rw [if_neg h2]
          rw [decide_eq_false (fun q => h2 q.2)] at hQ
          exact ih (n + 1) false (by omega) hQ
      · rw [if_neg h1]
        rw [decide_eq_false (fun q => h1 q.1)] at hQ
        exact ih (n + 1) false (by omega) hQ
abbrev ltF (v : HV) (s : Int32) : Bool := orF (fun c => decide (bit s c = 1 ∧ ut v (oN c) 0 = 0)) 0 6 false

def sp_M_lacksTails : Nat → Sp := spL [(94, f_M_tail), (102, f_M_has)]
theorem sp_M_lacksTails_M_tail : sp_M_lacksTails 94 = f_M_tail := rfl
theorem sp_M_lacksTails_M_has : sp_M_lacksTails 102 = f_M_has := rfl
def f_M_lacksTails : Sp := aS 9 (fun _ => 126) 1 (gL1 (fun _ s σ => (True, some (.int (b2 (ltF (σ 8) s))), σ)))
theorem q_M_lacksTails {s : Int32} {σ : SG} : f_M_lacksTails [.ref 126, .int s] (emb σ) = (True, some (.int (b2 (ltF (σ 8) s))), emb (σ)) := aS1_at (ad := (fun _ => 126)) (i := hI 126) (by decide) rfl
set_option maxHeartbeats 600000 in
set_option maxRecDepth 20000 in
theorem ok_M_lacksTails : SpecOK 123 f_M_lacksTails := SpecOK.of (sp := sp_M_lacksTails) (by decide) (by decide) (spL_ok (List.forall_mem_cons.mpr ⟨ok_M_tail, (List.forall_mem_cons.mpr ⟨ok_M_has, (fun q h => absurd h List.not_mem_nil)⟩)⟩)) (Does_aS1 (Nat.le_of_ble_eq_true rfl) (fun sc i s σ hi had hp => by
  refine Vf_q ?_ ⟨rfl, rfl⟩
  intro Q hQ
  dsimp only at hQ hp
  show Vf 123 _ _ 0 [.ref (126), .int s, .null, .null] [] (emb σ) _

  simp only [rM_lacksTails_0, rM_lacksTails_1, rM_lacksTails_2, rM_lacksTails_3, ct1_i, ct1_r, ct1_n, true_and, and_true, tl_s, tl_n, le4_0, le4_1, le4_2, le4_3, le4_4, le4_5, isO_r]
  exact lp_M_lacksTails sp_M_lacksTails_M_tail sp_M_lacksTails_M_has σ 6 0 false rfl hQ))
set_option maxHeartbeats 600000 in
set_option maxRecDepth 20000 in
theorem lp_M_isCalled {sp : Nat → Sp} (h121 : sp 121 = f_M_isTooMuch) {sc : Nat × (Nat → Int32)} {k : Int32} (hk : sm k 15) {F H : Nat} (hF : F ≤ 1000) (hH : H ≤ 12) {Q : Option Value → MS → Prop} (σ : SG) : ∀ (m n : Nat) (d : Bool), n ≤ 1012 → m = min (F + H) 1000 - n → Q (some (.int (b2 (orF (fun r => decide (tmP (σ 8) k (σ 8 1 (17 + r)))) n m d)))) (emb σ) → Vf 138 sp ((134, SLT), sc) 6 [.ref 126, .int k, .int (oN F), .int (oN H), .int (b2 d), .int (oN n)] [] (emb σ) Q := by
  intro m
  induction m with
  | zero =>
    intro n d hn hm hQ
    rw [rM_isCalled_6]
    simp only [rM_isCalled_8, rM_isCalled_9, rM_isCalled_10, rM_isCalled_11, rM_isCalled_14, rM_isCalled_16, rM_isCalled_19, rM_isCalled_22, rM_isCalled_24, rM_isCalled_27, rM_isCalled_28, rM_isCalled_29, rM_isCalled_30, rM_isCalled_33, rM_isCalled_35, rM_isCalled_37, rM_isCalled_38, rM_isCalled_39, rM_isCalled_42, rM_isCalled_45, rM_isCalled_46, rM_isCalled_49, rM_isCalled_50, rM_isCalled_52, rM_isCalled_55, rM_isCalled_58, rM_isCalled_60, ct1_i, ct1_r, ct1_n, true_and, and_true, tl_s, tl_n, le4_0, le4_1, le4_2, le4_3, le4_4, le4_5, isO_r, obM, mr_0, mr_1, mr_2, mr_3, mr_5, mr_7, mr_11, mi_0, mi_1, mi_2, mi_3, mi_4, mi_5, mi_6, smi_0, smi_1, smi_2, smi_3, smi_4, smi_5, smi_6, fok_i, fok_b1, rb_0, rb_1, rb_bi, bi_eq0, rb_b2, b2_0, ite_not, isO_r, Option.toList, List.cons_append, List.nil_append, q_M_in, q_M_atKite, q_M_atSpool, q_M_atHire, q_M_tail, il_0, tn_0, il_1, tn_1, il_2, tn_2, il_3, tn_3, il_4, tn_4, il_5, tn_5, il_6, tn_6, il_7, tn_7, il_8, tn_8, il_9, tn_9, il_10, tn_10, il_11, tn_11, il_12, tn_12, il_13, tn_13, il_14, tn_14, il_15, tn_15, il_16, tn_16, il_17, tn_17, il_1257, tn_1257, il_1258, tn_1258, il_1259, tn_1259, il_1260, tn_1260, sm2_0, sm2_1, sm2_2, sm6_0, sm6_1, sm6_2, sm6_3, sm6_4, sm6_5, sm6_6, m1_ok, m1_al, m1_rd, m1_re, m1_ln, m1_s, m6_ok, m6_al, m6_rd, m6_re, m6_ln, m6_s, m7_ok, m7_al, m7_rd, m7_re, m7_ln, m7_s, oN_add]
    rcases Nat.lt_or_ge n (F + H) with h | h
    · have : ¬ oN n < 1000 := by show ¬ oN n < oN 1000; rw [oN_lt (by omega) (by decide)]; omega
      rw [if_pos (by rw [oN_lt (by omega) (by omega)]; exact h), if_neg this]
      exact hQ
    · rw [if_neg (by rw [oN_lt (by omega) (by omega)]; omega)]
      exact hQ
  | succ m ih =>
    intro n d hn hm hQ
    have h1 : oN n < oN (F + H) := by rw [oN_lt (by omega) (by omega)]; omega
    have h2 : oN n < 1000 := by show oN n < oN 1000; rw [oN_lt (by omega) (by decide)]; omega
    simp only [orF] at hQ
    rw [rM_isCalled_6]
    simp only [rM_isCalled_8, rM_isCalled_9, rM_isCalled_10, rM_isCalled_11, rM_isCalled_14, rM_isCalled_16, rM_isCalled_19, rM_isCalled_22, rM_isCalled_24, rM_isCalled_27, rM_isCalled_28, rM_isCalled_29, rM_isCalled_30, rM_isCalled_33, rM_isCalled_35, rM_isCalled_37, rM_isCalled_38, rM_isCalled_39, rM_isCalled_42, rM_isCalled_45, rM_isCalled_46, rM_isCalled_49, rM_isCalled_50, rM_isCalled_52, rM_isCalled_55, ct1_i, ct1_r, ct1_n, true_and, and_true, tl_s, tl_n, le4_0, le4_1, le4_2, le4_3, le4_4, le4_5, isO_r, cl_, emb1, emb2, le_rN, h121, obM, mr_0, mr_1, mr_2, mr_3, mr_5, mr_7, mr_11, mi_0, mi_1, mi_2, mi_3, mi_4, mi_5, mi_6, smi_0, smi_1, smi_2, smi_3, smi_4, smi_5, smi_6, fok_i, fok_b1, rb_0, rb_1, rb_bi, bi_eq0, rb_b2, b2_0, ite_not, isO_r, Option.toList, List.cons_append, List.nil_append, q_M_in, q_M_atKite, q_M_atSpool, q_M_atHire, q_M_tail, il_0, tn_0, il_1, tn_1, il_2, tn_2, il_3, tn_3, il_4, tn_4, il_5, tn_5, il_6, tn_6, il_7, tn_7, il_8, tn_8, il_9, tn_9, il_10, tn_10, il_11, tn_11, il_12, tn_12, il_13, tn_13, il_14, tn_14, il_15, tn_15, il_16, tn_16, il_17, tn_17, il_1257, tn_1257, il_1258, tn_1258, il_1259, tn_1259, il_1260, tn_1260, sm2_0, sm2_1, sm2_2, sm6_0, sm6_1, sm6_2, sm6_3, sm6_4, sm6_5, sm6_6, m1_ok, m1_al, m1_rd, m1_re, m1_ln, m1_s, m6_ok, m6_al, m6_rd, m6_re, m6_ln, m6_s, m7_ok, m7_al, m7_rd, m7_re, m7_ln, m7_s, q_M_isTooMuch, oN_add, if_pos h1, if_pos h2, i17n, oNn (show 17 + n < 1289 by omega) (by decide), iin_n (show 17 + n < 1289 by omega) (by decide), hk, oN_succ]
    rcases b2_cases d with hd | hd
    · subst hd
      rw [if_neg (by decide)]
      refine ih (n + 1) true (by omega) (by omega) ?_
      rw [Bool.true_or] at hQ
      exact hQ
    · subst hd
      rw [if_pos rfl]
      rw [Bool.false_or] at hQ
      rcases Decidable.em (tmP (σ 8) k (σ 8 1 (17 + n))) with h3 | h3
      · rw [if_pos h3]
        rw [decide_eq_true h3] at hQ
        exact ih (n + 1) true (by omega) (by omega) hQ
      · rw [if_neg h3]
        rw [decide_eq_false h3] at hQ
        exact ih (n + 1) false (by omega) (by omega) hQ
abbrev icF (v : HV) (k f h : Int32) : Bool := orF (fun r => decide (tmP v k (v 1 (17 + r)))) f.toNatClampNeg (min (f.toNatClampNeg + h.toNatClampNeg) 1000 - f.toNatClampNeg) false
def sp_M_isCalled : Nat → Sp := spL [(121, f_M_isTooMuch)]
theorem sp_M_isCalled_M_isTooMuch : sp_M_isCalled 121 = f_M_isTooMuch := rfl
def f_M_isCalled : Sp := aS 9 (fun _ => 126) 3 (gL3 (fun _ k f h σ => (sm k 15 ∧ sm f 1000 ∧ sm h 12, some (.int (b2 (icF (σ 8) k f h))), σ)))
theorem q_M_isCalled {k f h : Int32} {σ : SG} : f_M_isCalled [.ref 126, .int k, .int f, .int h] (emb σ) = (sm k 15 ∧ sm f 1000 ∧ sm h 12, some (.int (b2 (icF (σ 8) k f h))), emb (σ)) := aS3_at (ad := (fun _ => 126)) (i := hI 126) (by decide) rfl
set_option maxHeartbeats 600000 in
set_option maxRecDepth 20000 in
theorem ok_M_isCalled : SpecOK 138 f_M_isCalled := SpecOK.of (sp := sp_M_isCalled) (by decide) (by decide) (spL_ok (List.forall_mem_cons.mpr ⟨ok_M_isTooMuch, (fun q h => absurd h List.not_mem_nil)⟩)) (Does_aS3 (Nat.le_of_ble_eq_true rfl) (fun sc i k f h σ hi had hp => by
  refine Vf_q ?_ ⟨rfl, rfl⟩
  intro Q hQ
  dsimp only at hQ hp
  show Vf 138 _ _ 0 [.ref (126), .int k, .int f, .int h, .null, .null] [] (emb σ) _

  simp only [rM_isCalled_0, rM_isCalled_1, rM_isCalled_3, rM_isCalled_4, ct1_i, ct1_r, ct1_n, true_and, and_true, tl_s, tl_n, le4_0, le4_1, le4_2, le4_3, le4_4, le4_5, isO_r]
  rw [sm_eq hp.2.1, sm_eq hp.2.2]
  refine lp_M_isCalled sp_M_isCalled_M_isTooMuch hp.1 hp.2.1.2 hp.2.2.2 σ _ _ false ?_ rfl hQ
  have := hp.2.1.2
  omega))
