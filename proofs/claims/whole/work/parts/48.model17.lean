/-! THE CHECK: count -/
abbrev rdP (v : HV) : Prop := v 1 0 < 1000 ∧ ¬ v 1 (17 + v 1 0).toNatClampNeg < v 1 1
def rdM (v : HV) : Int32 := if rdP v then 1 else 0
def coT (v : HV) (x : Int32) : Int32 := if x = 0 then v 1 0 else if x = 1 then v 1 6 else if x = 2 then ktF v 0 else if x = 3 then ktF v 1 else if x = 4 then ktF v 2 else if x = 5 then v 1 7 else if x = 6 then v 1 8 else if x = 7 then v 1 16 else if x = 8 then v 1 9 else if x = 9 then v 1 10 else if x = 10 then v 1 11 else if x = 11 then v 1 12 else if x = 12 then amF v else if x = 13 then v 1 13 else if x = 14 then v 1 14 else if x = 15 then rdM v else if x = 16 then v 0 1 else if x = 17 then v 0 2 else -2
theorem coT_0 (v : HV) : coT v 0 = v 1 0 := rfl
theorem coT_1 (v : HV) : coT v 1 = v 1 6 := rfl
theorem coT_2 (v : HV) : coT v 2 = ktF v 0 := rfl
theorem coT_3 (v : HV) : coT v 3 = ktF v 1 := rfl
theorem coT_4 (v : HV) : coT v 4 = ktF v 2 := rfl
theorem coT_5 (v : HV) : coT v 5 = v 1 7 := rfl
theorem coT_6 (v : HV) : coT v 6 = v 1 8 := rfl
theorem coT_7 (v : HV) : coT v 7 = v 1 16 := rfl
theorem coT_8 (v : HV) : coT v 8 = v 1 9 := rfl
theorem coT_9 (v : HV) : coT v 9 = v 1 10 := rfl
theorem coT_10 (v : HV) : coT v 10 = v 1 11 := rfl
theorem coT_11 (v : HV) : coT v 11 = v 1 12 := rfl
theorem coT_12 (v : HV) : coT v 12 = amF v := rfl
theorem coT_13 (v : HV) : coT v 13 = v 1 13 := rfl
theorem coT_14 (v : HV) : coT v 14 = v 1 14 := rfl
theorem coT_15 (v : HV) : coT v 15 = rdM v := rfl
theorem coT_16 (v : HV) : coT v 16 = v 0 1 := rfl
theorem coT_17 (v : HV) : coT v 17 = v 0 2 := rfl
theorem coT_d (v : HV) {x : Int32} (h : x.toInt < 0 ∨ 17 < x.toInt) : coT v x = -2 := by
  unfold coT
  have key : ∀ n : Nat, n < 18 → ¬ x = oN n := by intro n hn q; subst q; rw [oN_toInt (by omega)] at h; omega
  rw [if_neg (show ¬ x = 0 from key 0 (by decide))]
  rw [if_neg (show ¬ x = 1 from key 1 (by decide))]
  rw [if_neg (show ¬ x = 2 from key 2 (by decide))]
  rw [if_neg (show ¬ x = 3 from key 3 (by decide))]
  rw [if_neg (show ¬ x = 4 from key 4 (by decide))]
  rw [if_neg (show ¬ x = 5 from key 5 (by decide))]
  rw [if_neg (show ¬ x = 6 from key 6 (by decide))]
  rw [if_neg (show ¬ x = 7 from key 7 (by decide))]
  rw [if_neg (show ¬ x = 8 from key 8 (by decide))]
  rw [if_neg (show ¬ x = 9 from key 9 (by decide))]
  rw [if_neg (show ¬ x = 10 from key 10 (by decide))]
  rw [if_neg (show ¬ x = 11 from key 11 (by decide))]
  rw [if_neg (show ¬ x = 12 from key 12 (by decide))]
  rw [if_neg (show ¬ x = 13 from key 13 (by decide))]
  rw [if_neg (show ¬ x = 14 from key 14 (by decide))]
  rw [if_neg (show ¬ x = 15 from key 15 (by decide))]
  rw [if_neg (show ¬ x = 16 from key 16 (by decide))]
  rw [if_neg (show ¬ x = 17 from key 17 (by decide))]
def coM (v : HV) (x : Int32) : Int32 := if wi x 18 22 then v 1 (1 + x - 18).toNatClampNeg else coT v x
theorem wi18 {x : Int32} (h : wi x 18 22) : sm (1 + x - 18) 5 := by
  have hs := wi_sm (n := 22) h (by decide) (by decide)
  have h1 := h.1
  have h2 := hs.2
  rw [sm_eq hs] at h1 ⊢
  change ¬ oN _ < oN 18 at h1
  rw [oN_lt (by omega) (by decide)] at h1
  rw [show (1 : Int32) = oN 1 from rfl, show (18 : Int32) = oN 18 from rfl, oN_add, oN_sub (by omega)]
  exact sm_oN (by omega) (by omega)

def sp_M_count : Nat → Sp := spL [(95, f_M_in), (133, f_M_kitesThatAre), (134, f_M_allMetres), (101, f_M_isRed)]
theorem sp_M_count_M_in : sp_M_count 95 = f_M_in := rfl
theorem sp_M_count_M_kitesThatAre : sp_M_count 133 = f_M_kitesThatAre := rfl
theorem sp_M_count_M_allMetres : sp_M_count 134 = f_M_allMetres := rfl
theorem sp_M_count_M_isRed : sp_M_count 101 = f_M_isRed := rfl
def f_M_count : Sp := aS 9 (fun _ => 126) 1 (gL1 (fun _ x σ => (sm (σ 8 1 0) 1000 ∧ sm (σ 8 1 6) 16 ∧ sm (σ 8 1 7) 10, some (.int (coM (σ 8) x)), σ)))
theorem q_M_count {x : Int32} {σ : SG} : f_M_count [.ref 126, .int x] (emb σ) = (sm (σ 8 1 0) 1000 ∧ sm (σ 8 1 6) 16 ∧ sm (σ 8 1 7) 10, some (.int (coM (σ 8) x)), emb (σ)) := aS1_at (ad := (fun _ => 126)) (i := hI 126) (by decide) rfl
set_option maxHeartbeats 4000000 in
set_option maxRecDepth 20000 in
theorem ok_M_count : SpecOK 150 f_M_count := SpecOK.of (sp := sp_M_count) (by decide) (by decide) (spL_ok (List.forall_mem_cons.mpr ⟨ok_M_in, (List.forall_mem_cons.mpr ⟨ok_M_kitesThatAre, (List.forall_mem_cons.mpr ⟨ok_M_allMetres, (List.forall_mem_cons.mpr ⟨ok_M_isRed, (fun q h => absurd h List.not_mem_nil)⟩)⟩)⟩)⟩)) (Does_aS1 (Nat.le_of_ble_eq_true rfl) (fun sc i x σ hi had hp => by
  refine Vf_q ?_ ⟨rfl, rfl⟩
  intro Q hQ
  dsimp only at hQ hp
  show Vf 150 _ _ 0 [.ref (126), .int x] [] (emb σ) _

  obtain ⟨g0, g6, g7⟩ := hp
  simp only [rM_count_0, rM_count_1, rM_count_3, rM_count_5, rM_count_8, rM_count_11, rM_count_12, rM_count_15, rM_count_16, rM_count_17, rM_count_18, rM_count_20, rM_count_21, rM_count_22, ct1_i, ct1_r, ct1_n, true_and, and_true, tl_s, tl_n, le4_0, le4_1, le4_2, le4_3, le4_4, le4_5, isO_r, cl_, emb1, emb2, le_rN, up1_at, up1_up1, sp_M_count_M_in, sp_M_count_M_kitesThatAre, sp_M_count_M_allMetres, sp_M_count_M_isRed, obM, mr_0, mr_1, mr_2, mr_3, mr_5, mr_7, mr_11, mi_0, mi_1, mi_2, mi_3, mi_4, mi_5, mi_6, smi_0, smi_1, smi_2, smi_3, smi_4, smi_5, smi_6, fok_i, fok_b1, rb_0, rb_1, rb_bi, bi_eq0, rb_b2, b2_0, ite_not, isO_r, Option.toList, List.cons_append, List.nil_append, q_M_in, q_M_atKite, q_M_atSpool, q_M_atHire, q_M_tail, il_0, tn_0, il_1, tn_1, il_2, tn_2, il_3, tn_3, il_4, tn_4, il_5, tn_5, il_6, tn_6, il_7, tn_7, il_8, tn_8, il_9, tn_9, il_10, tn_10, il_11, tn_11, il_12, tn_12, il_13, tn_13, il_14, tn_14, il_15, tn_15, il_16, tn_16, il_17, tn_17, il_1257, tn_1257, il_1258, tn_1258, il_1259, tn_1259, il_1260, tn_1260, sm2_0, sm2_1, sm2_2, sm6_0, sm6_1, sm6_2, sm6_3, sm6_4, sm6_5, sm6_6, m1_ok, m1_al, m1_rd, m1_re, m1_ln, m1_s, m6_ok, m6_al, m6_rd, m6_re, m6_ln, m6_s, m7_ok, m7_al, m7_rd, m7_re, m7_ln, m7_s]
  unfold coM at hQ
  rcases Decidable.em (wi x 18 22) with h1 | h1
  · rw [if_pos h1] at hQ ⊢
    have h5 := wi18 h1
    have h6 : iin (1 + x - 18) 1289 := by
      have h7 := h5.2
      rw [sm_eq h5]
      exact of_eq_true (iin_n (by omega) (by decide))
    exact ⟨h6, hQ⟩
  rw [if_neg h1] at hQ ⊢
  rcases Decidable.em (x.toInt < 0 ∨ 17 < x.toInt) with h2 | h2
  · rw [coT_d _ h2] at hQ
    simp only [rM_count_23, ct1_i, ct1_r, ct1_n, true_and, and_true, tl_s, tl_n, le4_0, le4_1, le4_2, le4_3, le4_4, le4_5, isO_r, rM_count_24_d h2, rM_count_242, rM_count_244]
    exact hQ
  obtain ⟨n, hn, he⟩ : ∃ n, n < 18 ∧ x = oN n := by
    refine ⟨x.toNatClampNeg, ?_, ?_⟩
    · show x.toInt.toNat < 18
      omega
    · refine sm_eq (b := 18) ⟨?_, ?_⟩
      · rw [Int32.lt_iff_toInt_lt]
        show ¬ x.toInt < 0
        omega
      · show x.toInt.toNat ≤ 18
        omega
  subst he
  clear h1 h2
  rcases (show n = 0 ∨ n = 1 ∨ n = 2 ∨ n = 3 ∨ n = 4 ∨ n = 5 ∨ n = 6 ∨ n = 7 ∨ n = 8 ∨ n = 9 ∨ n = 10 ∨ n = 11 ∨ n = 12 ∨ n = 13 ∨ n = 14 ∨ n = 15 ∨ n = 16 ∨ n = 17 by omega) with q | q | q | q | q | q | q | q | q | q | q | q | q | q | q | q | q | q <;> subst q
  · change Q (some (.int (coT (σ 8) 0))) _ at hQ
    show Vf 150 _ _ 23 [.ref 126, .int 0] [] (emb σ) _
    rw [coT_0] at hQ
    simp only [rM_count_23, rM_count_24_0, rM_count_112, rM_count_113, rM_count_116, rM_count_117, rM_count_118, ct1_i, ct1_r, ct1_n, true_and, and_true, tl_s, tl_n, le4_0, le4_1, le4_2, le4_3, le4_4, le4_5, isO_r, cl_, emb1, emb2, le_rN, up1_at, up1_up1, sp_M_count_M_in, sp_M_count_M_kitesThatAre, sp_M_count_M_allMetres, sp_M_count_M_isRed, obM, mr_0, mr_1, mr_2, mr_3, mr_5, mr_7, mr_11, mi_0, mi_1, mi_2, mi_3, mi_4, mi_5, mi_6, smi_0, smi_1, smi_2, smi_3, smi_4, smi_5, smi_6, fok_i, fok_b1, rb_0, rb_1, rb_bi, bi_eq0, rb_b2, b2_0, ite_not, isO_r, Option.toList, List.cons_append, List.nil_append, q_M_in, q_M_atKite, q_M_atSpool, q_M_atHire, q_M_tail, il_0, tn_0, il_1, tn_1, il_2, tn_2, il_3, tn_3, il_4, tn_4, il_5, tn_5, il_6, tn_6, il_7, tn_7, il_8, tn_8, il_9, tn_9, il_10, tn_10, il_11, tn_11, il_12, tn_12, il_13, tn_13, il_14, tn_14, il_15, tn_15, il_16, tn_16, il_17, tn_17, il_1257, tn_1257, il_1258, tn_1258, il_1259, tn_1259, il_1260, tn_1260, sm2_0, sm2_1, sm2_2, sm6_0, sm6_1, sm6_2, sm6_3, sm6_4, sm6_5, sm6_6, m1_ok, m1_al, m1_rd, m1_re, m1_ln, m1_s, m6_ok, m6_al, m6_rd, m6_re, m6_ln, m6_s, m7_ok, m7_al, m7_rd, m7_re, m7_ln, m7_s, q_M_kitesThatAre, q_M_allMetres, g6, g7]
    exact hQ
  · change Q (some (.int (coT (σ 8) 1))) _ at hQ
    show Vf 150 _ _ 23 [.ref 126, .int 1] [] (emb σ) _
    rw [coT_1] at hQ
    simp only [rM_count_23, rM_count_24_1, rM_count_119, rM_count_120, rM_count_123, rM_count_125, rM_count_126, ct1_i, ct1_r, ct1_n, true_and, and_true, tl_s, tl_n, le4_0, le4_1, le4_2, le4_3, le4_4, le4_5, isO_r, cl_, emb1, emb2, le_rN, up1_at, up1_up1, sp_M_count_M_in, sp_M_count_M_kitesThatAre, sp_M_count_M_allMetres, sp_M_count_M_isRed, obM, mr_0, mr_1, mr_2, mr_3, mr_5, mr_7, mr_11, mi_0, mi_1, mi_2, mi_3, mi_4, mi_5, mi_6, smi_0, smi_1, smi_2, smi_3, smi_4, smi_5, smi_6, fok_i, fok_b1, rb_0, rb_1, rb_bi, bi_eq0, rb_b2, b2_0, ite_not, isO_r, Option.toList, List.cons_append, List.nil_append, q_M_in, q_M_atKite, q_M_atSpool, q_M_atHire, q_M_tail, il_0, tn_0, il_1, tn_1, il_2, tn_2, il_3, tn_3, il_4, tn_4, il_5, tn_5, il_6, tn_6, il_7, tn_7, il_8, tn_8, il_9, tn_9, il_10, tn_10, il_11, tn_11, il_12, tn_12, il_13, tn_13, il_14, tn_14, il_15, tn_15, il_16, tn_16, il_17, tn_17, il_1257, tn_1257, il_1258, tn_1258, il_1259, tn_1259, il_1260, tn_1260, sm2_0, sm2_1, sm2_2, sm6_0, sm6_1, sm6_2, sm6_3, sm6_4, sm6_5, sm6_6, m1_ok, m1_al, m1_rd, m1_re, m1_ln, m1_s, m6_ok, m6_al, m6_rd, m6_re, m6_ln, m6_s, m7_ok, m7_al, m7_rd, m7_re, m7_ln, m7_s, q_M_kitesThatAre, q_M_allMetres, g6, g7]
    exact hQ
  · change Q (some (.int (coT (σ 8) 2))) _ at hQ
    show Vf 150 _ _ 23 [.ref 126, .int 2] [] (emb σ) _
    rw [coT_2] at hQ
    simp only [rM_count_23, rM_count_24_2, rM_count_127, rM_count_128, rM_count_129, rM_count_130, rM_count_131, rM_count_134, ct1_i, ct1_r, ct1_n, true_and, and_true, tl_s, tl_n, le4_0, le4_1, le4_2, le4_3, le4_4, le4_5, isO_r, cl_, emb1, emb2, le_rN, up1_at, up1_up1, sp_M_count_M_in, sp_M_count_M_kitesThatAre, sp_M_count_M_allMetres, sp_M_count_M_isRed, obM, mr_0, mr_1, mr_2, mr_3, mr_5, mr_7, mr_11, mi_0, mi_1, mi_2, mi_3, mi_4, mi_5, mi_6, smi_0, smi_1, smi_2, smi_3, smi_4, smi_5, smi_6, fok_i, fok_b1, rb_0, rb_1, rb_bi, bi_eq0, rb_b2, b2_0, ite_not, isO_r, Option.toList, List.cons_append, List.nil_append, q_M_in, q_M_atKite, q_M_atSpool, q_M_atHire, q_M_tail, il_0, tn_0, il_1, tn_1, il_2, tn_2, il_3, tn_3, il_4, tn_4, il_5, tn_5, il_6, tn_6, il_7, tn_7, il_8, tn_8, il_9, tn_9, il_10, tn_10, il_11, tn_11, il_12, tn_12, il_13, tn_13, il_14, tn_14, il_15, tn_15, il_16, tn_16, il_17, tn_17, il_1257, tn_1257, il_1258, tn_1258, il_1259, tn_1259, il_1260, tn_1260, sm2_0, sm2_1, sm2_2, sm6_0, sm6_1, sm6_2, sm6_3, sm6_4, sm6_5, sm6_6, m1_ok, m1_al, m1_rd, m1_re, m1_ln, m1_s, m6_ok, m6_al, m6_rd, m6_re, m6_ln, m6_s, m7_ok, m7_al, m7_rd, m7_re, m7_ln, m7_s, q_M_kitesThatAre, q_M_allMetres, g6, g7]
    exact hQ
  · change Q (some (.int (coT (σ 8) 3))) _ at hQ
    show Vf 150 _ _ 23 [.ref 126, .int 3] [] (emb σ) _
    rw [coT_3] at hQ
    simp only [rM_count_23, rM_count_24_3, rM_count_127, rM_count_128, rM_count_129, rM_count_130, rM_count_131, rM_count_134, ct1_i, ct1_r, ct1_n, true_and, and_true, tl_s, tl_n, le4_0, le4_1, le4_2, le4_3, le4_4, le4_5, isO_r, cl_, emb1, emb2, le_rN, up1_at, up1_up1, sp_M_count_M_in, sp_M_count_M_kitesThatAre, sp_M_count_M_allMetres, sp_M_count_M_isRed, obM, mr_0, mr_1, mr_2, mr_3, mr_5, mr_7, mr_11, mi_0, mi_1, mi_2, mi_3, mi_4, mi_5, mi_6, smi_0, smi_1, smi_2, smi_3, smi_4, smi_5, smi_6, fok_i, fok_b1, rb_0, rb_1, rb_bi, bi_eq0, rb_b2, b2_0, ite_not, isO_r, Option.toList, List.cons_append, List.nil_append, q_M_in, q_M_atKite, q_M_atSpool, q_M_atHire, q_M_tail, il_0, tn_0, il_1, tn_1, il_2, tn_2, il_3, tn_3, il_4, tn_4, il_5, tn_5, il_6, tn_6, il_7, tn_7, il_8, tn_8, il_9, tn_9, il_10, tn_10, il_11, tn_11, il_12, tn_12, il_13, tn_13, il_14, tn_14, il_15, tn_15, il_16, tn_16, il_17, tn_17, il_1257, tn_1257, il_1258, tn_1258, il_1259, tn_1259, il_1260, tn_1260, sm2_0, sm2_1, sm2_2, sm6_0, sm6_1, sm6_2, sm6_3, sm6_4, sm6_5, sm6_6, m1_ok, m1_al, m1_rd, m1_re, m1_ln, m1_s, m6_ok, m6_al, m6_rd, m6_re, m6_ln, m6_s, m7_ok, m7_al, m7_rd, m7_re, m7_ln, m7_s, q_M_kitesThatAre, q_M_allMetres, g6, g7]
    exact hQ
  · change Q (some (.int (coT (σ 8) 4))) _ at hQ
    show Vf 150 _ _ 23 [.ref 126, .int 4] [] (emb σ) _
    rw [coT_4] at hQ
    simp only [rM_count_23, rM_count_24_4, rM_count_127, rM_count_128, rM_count_129, rM_count_130, rM_count_131, rM_count_134, ct1_i, ct1_r, ct1_n, true_and, and_true, tl_s, tl_n, le4_0, le4_1, le4_2, le4_3, le4_4, le4_5, isO_r, cl_, emb1, emb2, le_rN, up1_at, up1_up1, sp_M_count_M_in, sp_M_count_M_kitesThatAre, sp_M_count_M_allMetres, sp_M_count_M_isRed, obM, mr_0, mr_1, mr_2, mr_3, mr_5, mr_7, mr_11, mi_0, mi_1, mi_2, mi_3, mi_4, mi_5, mi_6, smi_0, smi_1, smi_2, smi_3, smi_4, smi_5, smi_6, fok_i, fok_b1, rb_0, rb_1, rb_bi, bi_eq0, rb_b2, b2_0, ite_not, isO_r, Option.toList, List.cons_append, List.nil_append, q_M_in, q_M_atKite, q_M_atSpool, q_M_atHire, q_M_tail, il_0, tn_0, il_1, tn_1, il_2, tn_2, il_3, tn_3, il_4, tn_4, il_5, tn_5, il_6, tn_6, il_7, tn_7, il_8, tn_8, il_9, tn_9, il_10, tn_10, il_11, tn_11, il_12, tn_12, il_13, tn_13, il_14, tn_14, il_15, tn_15, il_16, tn_16, il_17, tn_17, il_1257, tn_1257, il_1258, tn_1258, il_1259, tn_1259, il_1260, tn_1260, sm2_0, sm2_1, sm2_2, sm6_0, sm6_1, sm6_2, sm6_3, sm6_4, sm6_5, sm6_6, m1_ok, m1_al, m1_rd, m1_re, m1_ln, m1_s, m6_ok, m6_al, m6_rd, m6_re, m6_ln, m6_s, m7_ok, m7_al, m7_rd, m7_re, m7_ln, m7_s, q_M_kitesThatAre, q_M_allMetres, g6, g7]
    exact hQ
  · change Q (some (.int (coT (σ 8) 5))) _ at hQ
    show Vf 150 _ _ 23 [.ref 126, .int 5] [] (emb σ) _
    rw [coT_5] at hQ
    simp only [rM_count_23, rM_count_24_5, rM_count_135, rM_count_136, rM_count_139, rM_count_141, rM_count_142, ct1_i, ct1_r, ct1_n, true_and, and_true, tl_s, tl_n, le4_0, le4_1, le4_2, le4_3, le4_4, le4_5, isO_r, cl_, emb1, emb2, le_rN, up1_at, up1_up1, sp_M_count_M_in, sp_M_count_M_kitesThatAre, sp_M_count_M_allMetres, sp_M_count_M_isRed, obM, mr_0, mr_1, mr_2, mr_3, mr_5, mr_7, mr_11, mi_0, mi_1, mi_2, mi_3, mi_4, mi_5, mi_6, smi_0, smi_1, smi_2, smi_3, smi_4, smi_5, smi_6, fok_i, fok_b1, rb_0, rb_1, rb_bi, bi_eq0, rb_b2, b2_0, ite_not, isO_r, Option.toList, List.cons_append, List.nil_append, q_M_in, q_M_atKite, q_M_atSpool, q_M_atHire, q_M_tail, il_0, tn_0, il_1, tn_1, il_2, tn_2, il_3, tn_3, il_4, tn_4, il_5, tn_5, il_6, tn_6, il_7, tn_7, il_8, tn_8, il_9, tn_9, il_10, tn_10, il_11, tn_11, il_12, tn_12, il_13, tn_13, il_14, tn_14, il_15, tn_15, il_16, tn_16, il_17, tn_17, il_1257, tn_1257, il_1258, tn_1258, il_1259, tn_1259, il_1260, tn_1260, sm2_0, sm2_1, sm2_2, sm6_0, sm6_1, sm6_2, sm6_3, sm6_4, sm6_5, sm6_6, m1_ok, m1_al, m1_rd, m1_re, m1_ln, m1_s, m6_ok, m6_al, m6_rd, m6_re, m6_ln, m6_s, m7_ok, m7_al, m7_rd, m7_re, m7_ln, m7_s, q_M_kitesThatAre, q_M_allMetres, g6, g7]
    exact hQ
  · change Q (some (.int (coT (σ 8) 6))) _ at hQ
    show Vf 150 _ _ 23 [.ref 126, .int 6] [] (emb σ) _
    rw [coT_6] at hQ
    simp only [rM_count_23, rM_count_24_6, rM_count_143, rM_count_144, rM_count_147, rM_count_149, rM_count_150, ct1_i, ct1_r, ct1_n, true_and, and_true, tl_s, tl_n, le4_0, le4_1, le4_2, le4_3, le4_4, le4_5, isO_r, cl_, emb1, emb2, le_rN, up1_at, up1_up1, sp_M_count_M_in, sp_M_count_M_kitesThatAre, sp_M_count_M_allMetres, sp_M_count_M_isRed, obM, mr_0, mr_1, mr_2, mr_3, mr_5, mr_7, mr_11, mi_0, mi_1, mi_2, mi_3, mi_4, mi_5, mi_6, smi_0, smi_1, smi_2, smi_3, smi_4, smi_5, smi_6, fok_i, fok_b1, rb_0, rb_1, rb_bi, bi_eq0, rb_b2, b2_0, ite_not, isO_r, Option.toList, List.cons_append, List.nil_append, q_M_in, q_M_atKite, q_M_atSpool, q_M_atHire, q_M_tail, il_0, tn_0, il_1, tn_1, il_2, tn_2, il_3, tn_3, il_4, tn_4, il_5, tn_5, il_6, tn_6, il_7, tn_7, il_8, tn_8, il_9, tn_9, il_10, tn_10, il_11, tn_11, il_12, tn_12, il_13, tn_13, il_14, tn_14, il_15, tn_15, il_16, tn_16, il_17, tn_17, il_1257, tn_1257, il_1258, tn_1258, il_1259, tn_1259, il_1260, tn_1260, sm2_0, sm2_1, sm2_2, sm6_0, sm6_1, sm6_2, sm6_3, sm6_4, sm6_5, sm6_6, m1_ok, m1_al, m1_rd, m1_re, m1_ln, m1_s, m6_ok, m6_al, m6_rd, m6_re, m6_ln, m6_s, m7_ok, m7_al, m7_rd, m7_re, m7_ln, m7_s, q_M_kitesThatAre, q_M_allMetres, g6, g7]
    exact hQ
  · change Q (some (.int (coT (σ 8) 7))) _ at hQ
    show Vf 150 _ _ 23 [.ref 126, .int 7] [] (emb σ) _
    rw [coT_7] at hQ
    simp only [rM_count_23, rM_count_24_7, rM_count_151, rM_count_152, rM_count_155, rM_count_157, rM_count_158, ct1_i, ct1_r, ct1_n, true_and, and_true, tl_s, tl_n, le4_0, le4_1, le4_2, le4_3, le4_4, le4_5, isO_r, cl_, emb1, emb2, le_rN, up1_at, up1_up1, sp_M_count_M_in, sp_M_count_M_kitesThatAre, sp_M_count_M_allMetres, sp_M_count_M_isRed, obM, mr_0, mr_1, mr_2, mr_3, mr_5, mr_7, mr_11, mi_0, mi_1, mi_2, mi_3, mi_4, mi_5, mi_6, smi_0, smi_1, smi_2, smi_3, smi_4, smi_5, smi_6, fok_i, fok_b1, rb_0, rb_1, rb_bi, bi_eq0, rb_b2, b2_0, ite_not, isO_r, Option.toList, List.cons_append, List.nil_append, q_M_in, q_M_atKite, q_M_atSpool, q_M_atHire, q_M_tail, il_0, tn_0, il_1, tn_1, il_2, tn_2, il_3, tn_3, il_4, tn_4, il_5, tn_5, il_6, tn_6, il_7, tn_7, il_8, tn_8, il_9, tn_9, il_10, tn_10, il_11, tn_11, il_12, tn_12, il_13, tn_13, il_14, tn_14, il_15, tn_15, il_16, tn_16, il_17, tn_17, il_1257, tn_1257, il_1258, tn_1258, il_1259, tn_1259, il_1260, tn_1260, sm2_0, sm2_1, sm2_2, sm6_0, sm6_1, sm6_2, sm6_3, sm6_4, sm6_5, sm6_6, m1_ok, m1_al, m1_rd, m1_re, m1_ln, m1_s, m6_ok, m6_al, m6_rd, m6_re, m6_ln, m6_s, m7_ok, m7_al, m7_rd, m7_re, m7_ln, m7_s, q_M_kitesThatAre, q_M_allMetres, g6, g7]
    exact hQ
  · change Q (some (.int (coT (σ 8) 8))) _ at hQ
    show Vf 150 _ _ 23 [.ref 126, .int 8] [] (emb σ) _
    rw [coT_8] at hQ
    simp only [rM_count_23, rM_count_24_8, rM_count_159, rM_count_160, rM_count_163, rM_count_165, rM_count_166, rM_count_167, rM_count_169, rM_count_170, rM_count_171, ct1_i, ct1_r, ct1_n, true_and, and_true, tl_s, tl_n, le4_0, le4_1, le4_2, le4_3, le4_4, le4_5, isO_r, cl_, emb1, emb2, le_rN, up1_at, up1_up1, sp_M_count_M_in, sp_M_count_M_kitesThatAre, sp_M_count_M_allMetres, sp_M_count_M_isRed, obM, mr_0, mr_1, mr_2, mr_3, mr_5, mr_7, mr_11, mi_0, mi_1, mi_2, mi_3, mi_4, mi_5, mi_6, smi_0, smi_1, smi_2, smi_3, smi_4, smi_5, smi_6, fok_i, fok_b1, rb_0, rb_1, rb_bi, bi_eq0, rb_b2, b2_0, ite_not, isO_r, Option.toList, List.cons_append, List.nil_append, q_M_in, q_M_atKite, q_M_atSpool, q_M_atHire, q_M_tail, il_0, tn_0, il_1, tn_1, il_2, tn_2, il_3, tn_3, il_4, tn_4, il_5, tn_5, il_6, tn_6, il_7, tn_7, il_8, tn_8, il_9, tn_9, il_10, tn_10, il_11, tn_11, il_12, tn_12, il_13, tn_13, il_14, tn_14, il_15, tn_15, il_16, tn_16, il_17, tn_17, il_1257, tn_1257, il_1258, tn_1258, il_1259, tn_1259, il_1260, tn_1260, sm2_0, sm2_1, sm2_2, sm6_0, sm6_1, sm6_2, sm6_3, sm6_4, sm6_5, sm6_6, m1_ok, m1_al, m1_rd, m1_re, m1_ln, m1_s, m6_ok, m6_al, m6_rd, m6_re, m6_ln, m6_s, m7_ok, m7_al, m7_rd, m7_re, m7_ln, m7_s, q_M_kitesThatAre, q_M_allMetres, g6, g7, show (9 : Int32) + 8 - 8 = 9 by decide]
    exact hQ
  · change Q (some (.int (coT (σ 8) 9))) _ at hQ
    show Vf 150 _ _ 23 [.ref 126, .int 9] [] (emb σ) _
    rw [coT_9] at hQ
    simp only [rM_count_23, rM_count_24_9, rM_count_159, rM_count_160, rM_count_163, rM_count_165, rM_count_166, rM_count_167, rM_count_169, rM_count_170, rM_count_171, ct1_i, ct1_r, ct1_n, true_and, and_true, tl_s, tl_n, le4_0, le4_1, le4_2, le4_3, le4_4, le4_5, isO_r, cl_, emb1, emb2, le_rN, up1_at, up1_up1, sp_M_count_M_in, sp_M_count_M_kitesThatAre, sp_M_count_M_allMetres, sp_M_count_M_isRed, obM, mr_0, mr_1, mr_2, mr_3, mr_5, mr_7, mr_11, mi_0, mi_1, mi_2, mi_3, mi_4, mi_5, mi_6, smi_0, smi_1, smi_2, smi_3, smi_4, smi_5, smi_6, fok_i, fok_b1, rb_0, rb_1, rb_bi, bi_eq0, rb_b2, b2_0, ite_not, isO_r, Option.toList, List.cons_append, List.nil_append, q_M_in, q_M_atKite, q_M_atSpool, q_M_atHire, q_M_tail, il_0, tn_0, il_1, tn_1, il_2, tn_2, il_3, tn_3, il_4, tn_4, il_5, tn_5, il_6, tn_6, il_7, tn_7, il_8, tn_8, il_9, tn_9, il_10, tn_10, il_11, tn_11, il_12, tn_12, il_13, tn_13, il_14, tn_14, il_15, tn_15, il_16, tn_16, il_17, tn_17, il_1257, tn_1257, il_1258, tn_1258, il_1259, tn_1259, il_1260, tn_1260, sm2_0, sm2_1, sm2_2, sm6_0, sm6_1, sm6_2, sm6_3, sm6_4, sm6_5, sm6_6, m1_ok, m1_al, m1_rd, m1_re, m1_ln, m1_s, m6_ok, m6_al, m6_rd, m6_re, m6_ln, m6_s, m7_ok, m7_al, m7_rd, m7_re, m7_ln, m7_s, q_M_kitesThatAre, q_M_allMetres, g6, g7, show (9 : Int32) + 9 - 8 = 10 by decide]
    exact hQ
  · change Q (some (.int (coT (σ 8) 10))) _ at hQ
    show Vf 150 _ _ 23 [.ref 126, .int 10] [] (emb σ) _
    rw [coT_10] at hQ
    simp only [rM_count_23, rM_count_24_10, rM_count_159, rM_count_160, rM_count_163, rM_count_165, rM_count_166, rM_count_167, rM_count_169, rM_count_170, rM_count_171, ct1_i, ct1_r, ct1_n, true_and, and_true, tl_s, tl_n, le4_0, le4_1, le4_2, le4_3, le4_4, le4_5, isO_r, cl_, emb1, emb2, le_rN, up1_at, up1_up1, sp_M_count_M_in, sp_M_count_M_kitesThatAre, sp_M_count_M_allMetres, sp_M_count_M_isRed, obM, mr_0, mr_1, mr_2, mr_3, mr_5, mr_7, mr_11, mi_0, mi_1, mi_2, mi_3, mi_4, mi_5, mi_6, smi_0, smi_1, smi_2, smi_3, smi_4, smi_5, smi_6, fok_i, fok_b1, rb_0, rb_1, rb_bi, bi_eq0, rb_b2, b2_0, ite_not, isO_r, Option.toList, List.cons_append, List.nil_append, q_M_in, q_M_atKite, q_M_atSpool, q_M_atHire, q_M_tail, il_0, tn_0, il_1, tn_1, il_2, tn_2, il_3, tn_3, il_4, tn_4, il_5, tn_5, il_6, tn_6, il_7, tn_7, il_8, tn_8, il_9, tn_9, il_10, tn_10, il_11, tn_11, il_12, tn_12, il_13, tn_13, il_14, tn_14, il_15, tn_15, il_16, tn_16, il_17, tn_17, il_1257, tn_1257, il_1258, tn_1258, il_1259, tn_1259, il_1260, tn_1260, sm2_0, sm2_1, sm2_2, sm6_0, sm6_1, sm6_2, sm6_3, sm6_4, sm6_5, sm6_6, m1_ok, m1_al, m1_rd, m1_re, m1_ln, m1_s, m6_ok, m6_al, m6_rd, m6_re, m6_ln, m6_s, m7_ok, m7_al, m7_rd, m7_re, m7_ln, m7_s, q_M_kitesThatAre, q_M_allMetres, g6, g7, show (9 : Int32) + 10 - 8 = 11 by decide]
    exact hQ
  · change Q (some (.int (coT (σ 8) 11))) _ at hQ
    show Vf 150 _ _ 23 [.ref 126, .int 11] [] (emb σ) _
    rw [coT_11] at hQ
    simp only [rM_count_23, rM_count_24_11, rM_count_159, rM_count_160, rM_count_163, rM_count_165, rM_count_166, rM_count_167, rM_count_169, rM_count_170, rM_count_171, ct1_i, ct1_r, ct1_n, true_and, and_true, tl_s, tl_n, le4_0, le4_1, le4_2, le4_3, le4_4, le4_5, isO_r, cl_, emb1, emb2, le_rN, up1_at, up1_up1, sp_M_count_M_in, sp_M_count_M_kitesThatAre, sp_M_count_M_allMetres, sp_M_count_M_isRed, obM, mr_0, mr_1, mr_2, mr_3, mr_5, mr_7, mr_11, mi_0, mi_1, mi_2, mi_3, mi_4, mi_5, mi_6, smi_0, smi_1, smi_2, smi_3, smi_4, smi_5, smi_6, fok_i, fok_b1, rb_0, rb_1, rb_bi, bi_eq0, rb_b2, b2_0, ite_not, isO_r, Option.toList, List.cons_append, List.nil_append, q_M_in, q_M_atKite, q_M_atSpool, q_M_atHire, q_M_tail, il_0, tn_0, il_1, tn_1, il_2, tn_2, il_3, tn_3, il_4, tn_4, il_5, tn_5, il_6, tn_6, il_7, tn_7, il_8, tn_8, il_9, tn_9, il_10, tn_10, il_11, tn_11, il_12, tn_12, il_13, tn_13, il_14, tn_14, il_15, tn_15, il_16, tn_16, il_17, tn_17, il_1257, tn_1257, il_1258, tn_1258, il_1259, tn_1259, il_1260, tn_1260, sm2_0, sm2_1, sm2_2, sm6_0, sm6_1, sm6_2, sm6_3, sm6_4, sm6_5, sm6_6, m1_ok, m1_al, m1_rd, m1_re, m1_ln, m1_s, m6_ok, m6_al, m6_rd, m6_re, m6_ln, m6_s, m7_ok, m7_al, m7_rd, m7_re, m7_ln, m7_s, q_M_kitesThatAre, q_M_allMetres, g6, g7, show (9 : Int32) + 11 - 8 = 12 by decide]
    exact hQ
  · change Q (some (.int (coT (σ 8) 12))) _ at hQ
    show Vf 150 _ _ 23 [.ref 126, .int 12] [] (emb σ) _
    rw [coT_12] at hQ
    simp only [rM_count_23, rM_count_24_12, rM_count_172, rM_count_173, rM_count_176, ct1_i, ct1_r, ct1_n, true_and, and_true, tl_s, tl_n, le4_0, le4_1, le4_2, le4_3, le4_4, le4_5, isO_r, cl_, emb1, emb2, le_rN, up1_at, up1_up1, sp_M_count_M_in, sp_M_count_M_kitesThatAre, sp_M_count_M_allMetres, sp_M_count_M_isRed, obM, mr_0, mr_1, mr_2, mr_3, mr_5, mr_7, mr_11, mi_0, mi_1, mi_2, mi_3, mi_4, mi_5, mi_6, smi_0, smi_1, smi_2, smi_3, smi_4, smi_5, smi_6, fok_i, fok_b1, rb_0, rb_1, rb_bi, bi_eq0, rb_b2, b2_0, ite_not, isO_r, Option.toList, List.cons_append, List.nil_append, q_M_in, q_M_atKite, q_M_atSpool, q_M_atHire, q_M_tail, il_0, tn_0, il_1, tn_1, il_2, tn_2, il_3, tn_3, il_4, tn_4, il_5, tn_5, il_6, tn_6, il_7, tn_7, il_8, tn_8, il_9, tn_9, il_10, tn_10, il_11, tn_11, il_12, tn_12, il_13, tn_13, il_14, tn_14, il_15, tn_15, il_16, tn_16, il_17, tn_17, il_1257, tn_1257, il_1258, tn_1258, il_1259, tn_1259, il_1260, tn_1260, sm2_0, sm2_1, sm2_2, sm6_0, sm6_1, sm6_2, sm6_3, sm6_4, sm6_5, sm6_6, m1_ok, m1_al, m1_rd, m1_re, m1_ln, m1_s, m6_ok, m6_al, m6_rd, m6_re, m6_ln, m6_s, m7_ok, m7_al, m7_rd, m7_re, m7_ln, m7_s, q_M_kitesThatAre, q_M_allMetres, g6, g7]
    exact hQ
  · change Q (some (.int (coT (σ 8) 13))) _ at hQ
    show Vf 150 _ _ 23 [.ref 126, .int 13] [] (emb σ) _
    rw [coT_13] at hQ
    simp only [rM_count_23, rM_count_24_13, rM_count_177, rM_count_178, rM_count_181, rM_count_183, rM_count_184, ct1_i, ct1_r, ct1_n, true_and, and_true, tl_s, tl_n, le4_0, le4_1, le4_2, le4_3, le4_4, le4_5, isO_r, cl_, emb1, emb2, le_rN, up1_at, up1_up1, sp_M_count_M_in, sp_M_count_M_kitesThatAre, sp_M_count_M_allMetres, sp_M_count_M_isRed, obM, mr_0, mr_1, mr_2, mr_3, mr_5, mr_7, mr_11, mi_0, mi_1, mi_2, mi_3, mi_4, mi_5, mi_6, smi_0, smi_1, smi_2, smi_3, smi_4, smi_5, smi_6, fok_i, fok_b1, rb_0, rb_1, rb_bi, bi_eq0, rb_b2, b2_0, ite_not, isO_r, Option.toList, List.cons_append, List.nil_append, q_M_in, q_M_atKite, q_M_atSpool, q_M_atHire, q_M_tail, il_0, tn_0, il_1, tn_1, il_2, tn_2, il_3, tn_3, il_4, tn_4, il_5, tn_5, il_6, tn_6, il_7, tn_7, il_8, tn_8, il_9, tn_9, il_10, tn_10, il_11, tn_11, il_12, tn_12, il_13, tn_13, il_14, tn_14, il_15, tn_15, il_16, tn_16, il_17, tn_17, il_1257, tn_1257, il_1258, tn_1258, il_1259, tn_1259, il_1260, tn_1260, sm2_0, sm2_1, sm2_2, sm6_0, sm6_1, sm6_2, sm6_3, sm6_4, sm6_5, sm6_6, m1_ok, m1_al, m1_rd, m1_re, m1_ln, m1_s, m6_ok, m6_al, m6_rd, m6_re, m6_ln, m6_s, m7_ok, m7_al, m7_rd, m7_re, m7_ln, m7_s, q_M_kitesThatAre, q_M_allMetres, g6, g7]
    exact hQ
  · change Q (some (.int (coT (σ 8) 14))) _ at hQ
    show Vf 150 _ _ 23 [.ref 126, .int 14] [] (emb σ) _
    rw [coT_14] at hQ
    simp only [rM_count_23, rM_count_24_14, rM_count_185, rM_count_186, rM_count_189, rM_count_191, rM_count_192, ct1_i, ct1_r, ct1_n, true_and, and_true, tl_s, tl_n, le4_0, le4_1, le4_2, le4_3, le4_4, le4_5, isO_r, cl_, emb1, emb2, le_rN, up1_at, up1_up1, sp_M_count_M_in, sp_M_count_M_kitesThatAre, sp_M_count_M_allMetres, sp_M_count_M_isRed, obM, mr_0, mr_1, mr_2, mr_3, mr_5, mr_7, mr_11, mi_0, mi_1, mi_2, mi_3, mi_4, mi_5, mi_6, smi_0, smi_1, smi_2, smi_3, smi_4, smi_5, smi_6, fok_i, fok_b1, rb_0, rb_1, rb_bi, bi_eq0, rb_b2, b2_0, ite_not, isO_r, Option.toList, List.cons_append, List.nil_append, q_M_in, q_M_atKite, q_M_atSpool, q_M_atHire, q_M_tail, il_0, tn_0, il_1, tn_1, il_2, tn_2, il_3, tn_3, il_4, tn_4, il_5, tn_5, il_6, tn_6, il_7, tn_7, il_8, tn_8, il_9, tn_9, il_10, tn_10, il_11, tn_11, il_12, tn_12, il_13, tn_13, il_14, tn_14, il_15, tn_15, il_16, tn_16, il_17, tn_17, il_1257, tn_1257, il_1258, tn_1258, il_1259, tn_1259, il_1260, tn_1260, sm2_0, sm2_1, sm2_2, sm6_0, sm6_1, sm6_2, sm6_3, sm6_4, sm6_5, sm6_6, m1_ok, m1_al, m1_rd, m1_re, m1_ln, m1_s, m6_ok, m6_al, m6_rd, m6_re, m6_ln, m6_s, m7_ok, m7_al, m7_rd, m7_re, m7_ln, m7_s, q_M_kitesThatAre, q_M_allMetres, g6, g7]
    exact hQ
  · change Q (some (.int (coT (σ 8) 15))) _ at hQ
    show Vf 150 _ _ 23 [.ref 126, .int 15] [] (emb σ) _
    rw [coT_15] at hQ
    simp only [rM_count_23, rM_count_24_15, rM_count_193, rM_count_194, rM_count_197, rM_count_198, rM_count_199, rM_count_202, ct1_i, ct1_r, ct1_n, true_and, and_true, tl_s, tl_n, le4_0, le4_1, le4_2, le4_3, le4_4, le4_5, isO_r, cl_, emb1, emb2, le_rN, up1_at, up1_up1, sp_M_count_M_in, sp_M_count_M_kitesThatAre, sp_M_count_M_allMetres, sp_M_count_M_isRed, obM, mr_0, mr_1, mr_2, mr_3, mr_5, mr_7, mr_11, mi_0, mi_1, mi_2, mi_3, mi_4, mi_5, mi_6, smi_0, smi_1, smi_2, smi_3, smi_4, smi_5, smi_6, fok_i, fok_b1, rb_0, rb_1, rb_bi, bi_eq0, rb_b2, b2_0, ite_not, isO_r, Option.toList, List.cons_append, List.nil_append, q_M_in, q_M_atKite, q_M_atSpool, q_M_atHire, q_M_tail, il_0, tn_0, il_1, tn_1, il_2, tn_2, il_3, tn_3, il_4, tn_4, il_5, tn_5, il_6, tn_6, il_7, tn_7, il_8, tn_8, il_9, tn_9, il_10, tn_10, il_11, tn_11, il_12, tn_12, il_13, tn_13, il_14, tn_14, il_15, tn_15, il_16, tn_16, il_17, tn_17, il_1257, tn_1257, il_1258, tn_1258, il_1259, tn_1259, il_1260, tn_1260, sm2_0, sm2_1, sm2_2, sm6_0, sm6_1, sm6_2, sm6_3, sm6_4, sm6_5, sm6_6, m1_ok, m1_al, m1_rd, m1_re, m1_ln, m1_s, m6_ok, m6_al, m6_rd, m6_re, m6_ln, m6_s, m7_ok, m7_al, m7_rd, m7_re, m7_ln, m7_s]
    unfold rdM at hQ
    rcases Decidable.em (σ 8 1 0 < 1000) with h3 | h3
    · rw [if_pos h3]
      have h9 := lt_999 g0 h3
      simp only [rM_count_205, rM_count_206, rM_count_207, rM_count_210, rM_count_212, rM_count_213, rM_count_216, rM_count_217, rM_count_218, rM_count_219, rM_count_220, rM_count_223, ct1_i, ct1_r, ct1_n, true_and, and_true, tl_s, tl_n, le4_0, le4_1, le4_2, le4_3, le4_4, le4_5, isO_r, cl_, emb1, emb2, le_rN, up1_at, up1_up1, sp_M_count_M_in, sp_M_count_M_kitesThatAre, sp_M_count_M_allMetres, sp_M_count_M_isRed, obM, mr_0, mr_1, mr_2, mr_3, mr_5, mr_7, mr_11, mi_0, mi_1, mi_2, mi_3, mi_4, mi_5, mi_6, smi_0, smi_1, smi_2, smi_3, smi_4, smi_5, smi_6, fok_i, fok_b1, rb_0, rb_1, rb_bi, bi_eq0, rb_b2, b2_0, ite_not, isO_r, Option.toList, List.cons_append, List.nil_append, q_M_in, q_M_atKite, q_M_atSpool, q_M_atHire, q_M_tail, il_0, tn_0, il_1, tn_1, il_2, tn_2, il_3, tn_3, il_4, tn_4, il_5, tn_5, il_6, tn_6, il_7, tn_7, il_8, tn_8, il_9, tn_9, il_10, tn_10, il_11, tn_11, il_12, tn_12, il_13, tn_13, il_14, tn_14, il_15, tn_15, il_16, tn_16, il_17, tn_17, il_1257, tn_1257, il_1258, tn_1258, il_1259, tn_1259, il_1260, tn_1260, sm2_0, sm2_1, sm2_2, sm6_0, sm6_1, sm6_2, sm6_3, sm6_4, sm6_5, sm6_6, m1_ok, m1_al, m1_rd, m1_re, m1_ln, m1_s, m6_ok, m6_al, m6_rd, m6_re, m6_ln, m6_s, m7_ok, m7_al, m7_rd, m7_re, m7_ln, m7_s, iW h9, q_M_isRed]
      rcases Decidable.em (σ 8 1 (17 + σ 8 1 0).toNatClampNeg < σ 8 1 1) with h4 | h4
      · rw [if_pos h4]
        rw [if_neg (fun q => q.2 h4)] at hQ
        simp only [rM_count_226, rM_count_227, rM_count_230, rM_count_231, ct1_i, ct1_r, ct1_n, true_and, and_true, tl_s, tl_n, le4_0, le4_1, le4_2, le4_3, le4_4, le4_5, isO_r, cl_, emb1, emb2, le_rN, up1_at, up1_up1, sp_M_count_M_in, sp_M_count_M_kitesThatAre, sp_M_count_M_allMetres, sp_M_count_M_isRed]
        exact hQ
      · rw [if_neg h4]
        rw [if_pos ⟨h3, h4⟩] at hQ
        simp only [rM_count_226, rM_count_227, rM_count_230, rM_count_231, ct1_i, ct1_r, ct1_n, true_and, and_true, tl_s, tl_n, le4_0, le4_1, le4_2, le4_3, le4_4, le4_5, isO_r, cl_, emb1, emb2, le_rN, up1_at, up1_up1, sp_M_count_M_in, sp_M_count_M_kitesThatAre, sp_M_count_M_allMetres, sp_M_count_M_isRed]
        exact hQ
    · rw [if_neg h3]
      rw [if_neg (fun q => h3 q.1)] at hQ
      simp only [rM_count_226, rM_count_227, rM_count_230, rM_count_231, ct1_i, ct1_r, ct1_n, true_and, and_true, tl_s, tl_n, le4_0, le4_1, le4_2, le4_3, le4_4, le4_5, isO_r, cl_, emb1, emb2, le_rN, up1_at, up1_up1, sp_M_count_M_in, sp_M_count_M_kitesThatAre, sp_M_count_M_allMetres, sp_M_count_M_isRed]
      exact hQ
  · change Q (some (.int (coT (σ 8) 16))) _ at hQ
    show Vf 150 _ _ 23 [.ref 126, .int 16] [] (emb σ) _
    rw [coT_16] at hQ
    simp only [rM_count_23, rM_count_24_16, rM_count_232, rM_count_233, rM_count_236, ct1_i, ct1_r, ct1_n, true_and, and_true, tl_s, tl_n, le4_0, le4_1, le4_2, le4_3, le4_4, le4_5, isO_r, cl_, emb1, emb2, le_rN, up1_at, up1_up1, sp_M_count_M_in, sp_M_count_M_kitesThatAre, sp_M_count_M_allMetres, sp_M_count_M_isRed, obM, mr_0, mr_1, mr_2, mr_3, mr_5, mr_7, mr_11, mi_0, mi_1, mi_2, mi_3, mi_4, mi_5, mi_6, smi_0, smi_1, smi_2, smi_3, smi_4, smi_5, smi_6, fok_i, fok_b1, rb_0, rb_1, rb_bi, bi_eq0, rb_b2, b2_0, ite_not, isO_r, Option.toList, List.cons_append, List.nil_append, q_M_in, q_M_atKite, q_M_atSpool, q_M_atHire, q_M_tail, il_0, tn_0, il_1, tn_1, il_2, tn_2, il_3, tn_3, il_4, tn_4, il_5, tn_5, il_6, tn_6, il_7, tn_7, il_8, tn_8, il_9, tn_9, il_10, tn_10, il_11, tn_11, il_12, tn_12, il_13, tn_13, il_14, tn_14, il_15, tn_15, il_16, tn_16, il_17, tn_17, il_1257, tn_1257, il_1258, tn_1258, il_1259, tn_1259, il_1260, tn_1260, sm2_0, sm2_1, sm2_2, sm6_0, sm6_1, sm6_2, sm6_3, sm6_4, sm6_5, sm6_6, m1_ok, m1_al, m1_rd, m1_re, m1_ln, m1_s, m6_ok, m6_al, m6_rd, m6_re, m6_ln, m6_s, m7_ok, m7_al, m7_rd, m7_re, m7_ln, m7_s, q_M_kitesThatAre, q_M_allMetres, g6, g7]
    exact hQ
  · change Q (some (.int (coT (σ 8) 17))) _ at hQ
    show Vf 150 _ _ 23 [.ref 126, .int 17] [] (emb σ) _
    rw [coT_17] at hQ
    simp only [rM_count_23, rM_count_24_17, rM_count_237, rM_count_238, rM_count_241, ct1_i, ct1_r, ct1_n, true_and, and_true, tl_s, tl_n, le4_0, le4_1, le4_2, le4_3, le4_4, le4_5, isO_r, cl_, emb1, emb2, le_rN, up1_at, up1_up1, sp_M_count_M_in, sp_M_count_M_kitesThatAre, sp_M_count_M_allMetres, sp_M_count_M_isRed, obM, mr_0, mr_1, mr_2, mr_3, mr_5, mr_7, mr_11, mi_0, mi_1, mi_2, mi_3, mi_4, mi_5, mi_6, smi_0, smi_1, smi_2, smi_3, smi_4, smi_5, smi_6, fok_i, fok_b1, rb_0, rb_1, rb_bi, bi_eq0, rb_b2, b2_0, ite_not, isO_r, Option.toList, List.cons_append, List.nil_append, q_M_in, q_M_atKite, q_M_atSpool, q_M_atHire, q_M_tail, il_0, tn_0, il_1, tn_1, il_2, tn_2, il_3, tn_3, il_4, tn_4, il_5, tn_5, il_6, tn_6, il_7, tn_7, il_8, tn_8, il_9, tn_9, il_10, tn_10, il_11, tn_11, il_12, tn_12, il_13, tn_13, il_14, tn_14, il_15, tn_15, il_16, tn_16, il_17, tn_17, il_1257, tn_1257, il_1258, tn_1258, il_1259, tn_1259, il_1260, tn_1260, sm2_0, sm2_1, sm2_2, sm6_0, sm6_1, sm6_2, sm6_3, sm6_4, sm6_5, sm6_6, m1_ok, m1_al, m1_rd, m1_re, m1_ln, m1_s, m6_ok, m6_al, m6_rd, m6_re, m6_ln, m6_s, m7_ok, m7_al, m7_rd, m7_re, m7_ln, m7_s, q_M_kitesThatAre, q_M_allMetres, g6, g7]
    exact hQ))
