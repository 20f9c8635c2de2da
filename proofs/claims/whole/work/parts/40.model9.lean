/-! THE CHECK: kiteOf, hireOf, sums, snapsIn -/
theorem laF_c {p : Nat → Bool} {P : Int32 → Prop} {f : Nat → Int32} : ∀ (k r : Nat) (d : Int32), P d → (∀ q, r ≤ q → q < r + k → p q = true → P (f q)) → P (laF p f r k d) := by
  intro k
  induction k with
  | zero => intro r d hd _; exact hd
  | succ k ih =>
    intro r d hd h
    show P (laF p f (r + 1) k (if p r = true then f r else d))
    refine ih (r + 1) _ ?_ (fun q h1 h2 => h q (by omega) (by omega))
    by_cases hp : p r = true
    · rw [if_pos hp]; exact h r (Nat.le_refl _) (by omega) hp
    · rw [if_neg hp]; exact hd
theorem plF_sm {v : HV} {x : Int32} (h : sm (v 1 16) 10) (h5 : ¬ plF v x = -5) : sm (plF v x) 9 := by
  have := laF_c (p := fun r => decide (uh v (oN r) 0 = x)) (f := oN) (P := fun d => d = -5 ∨ sm d 9) (v 1 16).toNatClampNeg 0 (-5) (Or.inl rfl) (fun q h1 h2 _ => Or.inr (sm_oN (by have := h.2; omega) (by decide)))
  exact this.resolve_left h5

def sp_M_hireOf : Nat → Sp := spL [(125, f_M_placeOf), (95, f_M_in), (126, f_M_of)]
theorem sp_M_hireOf_M_placeOf : sp_M_hireOf 125 = f_M_placeOf := rfl
theorem sp_M_hireOf_M_in : sp_M_hireOf 95 = f_M_in := rfl
theorem sp_M_hireOf_M_of : sp_M_hireOf 126 = f_M_of := rfl
def f_M_hireOf : Sp := aS 9 (fun _ => 126) 2 (gL2 (fun _ x y σ => (sm (σ 8 1 16) 10, some (.int (if plF (σ 8) x = -5 then -1 else (if wi y 0 5 then uh (σ 8) (plF (σ 8) x) (y + 1) else -2))), σ)))
theorem q_M_hireOf {x y : Int32} {σ : SG} : f_M_hireOf [.ref 126, .int x, .int y] (emb σ) = (sm (σ 8 1 16) 10, some (.int (if plF (σ 8) x = -5 then -1 else (if wi y 0 5 then uh (σ 8) (plF (σ 8) x) (y + 1) else -2))), emb (σ)) := aS2_at (ad := (fun _ => 126)) (i := hI 126) (by decide) rfl
set_option maxHeartbeats 600000 in
set_option maxRecDepth 20000 in
theorem ok_M_hireOf : SpecOK 149 f_M_hireOf := SpecOK.of (sp := sp_M_hireOf) (by decide) (by decide) (spL_ok (List.forall_mem_cons.mpr ⟨ok_M_placeOf, (List.forall_mem_cons.mpr ⟨ok_M_in, (List.forall_mem_cons.mpr ⟨ok_M_of, (fun q h => absurd h List.not_mem_nil)⟩)⟩)⟩)) (Does_aS2 (Nat.le_of_ble_eq_true rfl) (fun sc i x y σ hi had hp => by
  refine Vf_q ?_ ⟨rfl, rfl⟩
  intro Q hQ
  dsimp only at hQ hp
  show Vf 149 _ _ 0 [.ref (126), .int x, .int y, .null] [] (emb σ) _

  rcases Decidable.em (plF (σ 8) x = -5) with h1 | h1
  · rw [if_pos h1] at hQ
    simp only [rM_hireOf_0, rM_hireOf_1, rM_hireOf_2, rM_hireOf_5, rM_hireOf_6, rM_hireOf_7, rM_hireOf_9, rM_hireOf_12, rM_hireOf_13, rM_hireOf_16, rM_hireOf_17, rM_hireOf_18, rM_hireOf_19, rM_hireOf_22, rM_hireOf_25, rM_hireOf_26, rM_hireOf_27, rM_hireOf_28, rM_hireOf_29, rM_hireOf_30, rM_hireOf_33, rM_hireOf_36, rM_hireOf_38, ct1_i, ct1_r, ct1_n, true_and, and_true, tl_s, tl_n, le4_0, le4_1, le4_2, le4_3, le4_4, le4_5, isO_r, cl_, emb1, emb2, le_rN, up1_at, up1_up1, sp_M_hireOf_M_placeOf, sp_M_hireOf_M_in, sp_M_hireOf_M_of, obM, mr_0, mr_1, mr_2, mr_3, mr_5, mr_7, mr_11, mi_0, mi_1, mi_2, mi_3, mi_4, mi_5, mi_6, smi_0, smi_1, smi_2, smi_3, smi_4, smi_5, smi_6, fok_i, fok_b1, rb_0, rb_1, rb_bi, bi_eq0, rb_b2, b2_0, ite_not, isO_r, Option.toList, List.cons_append, List.nil_append, q_M_in, q_M_atKite, q_M_atSpool, q_M_atHire, q_M_tail, il_0, tn_0, il_1, tn_1, il_2, tn_2, il_3, tn_3, il_4, tn_4, il_5, tn_5, il_6, tn_6, il_7, tn_7, il_8, tn_8, il_9, tn_9, il_10, tn_10, il_11, tn_11, il_12, tn_12, il_13, tn_13, il_14, tn_14, il_15, tn_15, il_16, tn_16, il_17, tn_17, il_1257, tn_1257, il_1258, tn_1258, il_1259, tn_1259, il_1260, tn_1260, sm2_0, sm2_1, sm2_2, sm6_0, sm6_1, sm6_2, sm6_3, sm6_4, sm6_5, sm6_6, m1_ok, m1_al, m1_rd, m1_re, m1_ln, m1_s, m6_ok, m6_al, m6_rd, m6_re, m6_ln, m6_s, m7_ok, m7_al, m7_rd, m7_re, m7_ln, m7_s, q_M_placeOf, hp, if_pos h1]
    exact hQ
  · have hs := plF_sm hp h1
    rw [if_neg h1] at hQ
    rcases Decidable.em (wi y 0 5) with h2 | h2
    · have hy : sm y 5 := wi_sm (n := 5) h2 (by decide) (by decide)
      have hy1 : sm (y + 1) 6 := by
        rw [sm_eq hy, oN_succ]
        exact sm_oN (by have := hy.2; omega) (by decide)
      rw [if_pos h2] at hQ
      simp only [rM_hireOf_0, rM_hireOf_1, rM_hireOf_2, rM_hireOf_5, rM_hireOf_6, rM_hireOf_7, rM_hireOf_9, rM_hireOf_12, rM_hireOf_13, rM_hireOf_16, rM_hireOf_17, rM_hireOf_18, rM_hireOf_19, rM_hireOf_22, rM_hireOf_25, rM_hireOf_26, rM_hireOf_27, rM_hireOf_28, rM_hireOf_29, rM_hireOf_30, rM_hireOf_33, rM_hireOf_36, rM_hireOf_38, ct1_i, ct1_r, ct1_n, true_and, and_true, tl_s, tl_n, le4_0, le4_1, le4_2, le4_3, le4_4, le4_5, isO_r, cl_, emb1, emb2, le_rN, up1_at, up1_up1, sp_M_hireOf_M_placeOf, sp_M_hireOf_M_in, sp_M_hireOf_M_of, obM, mr_0, mr_1, mr_2, mr_3, mr_5, mr_7, mr_11, mi_0, mi_1, mi_2, mi_3, mi_4, mi_5, mi_6, smi_0, smi_1, smi_2, smi_3, smi_4, smi_5, smi_6, fok_i, fok_b1, rb_0, rb_1, rb_bi, bi_eq0, rb_b2, b2_0, ite_not, isO_r, Option.toList, List.cons_append, List.nil_append, q_M_in, q_M_atKite, q_M_atSpool, q_M_atHire, q_M_tail, il_0, tn_0, il_1, tn_1, il_2, tn_2, il_3, tn_3, il_4, tn_4, il_5, tn_5, il_6, tn_6, il_7, tn_7, il_8, tn_8, il_9, tn_9, il_10, tn_10, il_11, tn_11, il_12, tn_12, il_13, tn_13, il_14, tn_14, il_15, tn_15, il_16, tn_16, il_17, tn_17, il_1257, tn_1257, il_1258, tn_1258, il_1259, tn_1259, il_1260, tn_1260, sm2_0, sm2_1, sm2_2, sm6_0, sm6_1, sm6_2, sm6_3, sm6_4, sm6_5, sm6_6, m1_ok, m1_al, m1_rd, m1_re, m1_ln, m1_s, m6_ok, m6_al, m6_rd, m6_re, m6_ln, m6_s, m7_ok, m7_al, m7_rd, m7_re, m7_ln, m7_s, q_M_placeOf, q_M_of, hp, if_neg h1, if_pos h2, hs, hy1]
      exact hQ
    · rw [if_neg h2] at hQ
      simp only [rM_hireOf_0, rM_hireOf_1, rM_hireOf_2, rM_hireOf_5, rM_hireOf_6, rM_hireOf_7, rM_hireOf_9, rM_hireOf_12, rM_hireOf_13, rM_hireOf_16, rM_hireOf_17, rM_hireOf_18, rM_hireOf_19, rM_hireOf_22, rM_hireOf_25, rM_hireOf_26, rM_hireOf_27, rM_hireOf_28, rM_hireOf_29, rM_hireOf_30, rM_hireOf_33, rM_hireOf_36, rM_hireOf_38, ct1_i, ct1_r, ct1_n, true_and, and_true, tl_s, tl_n, le4_0, le4_1, le4_2, le4_3, le4_4, le4_5, isO_r, cl_, emb1, emb2, le_rN, up1_at, up1_up1, sp_M_hireOf_M_placeOf, sp_M_hireOf_M_in, sp_M_hireOf_M_of, obM, mr_0, mr_1, mr_2, mr_3, mr_5, mr_7, mr_11, mi_0, mi_1, mi_2, mi_3, mi_4, mi_5, mi_6, smi_0, smi_1, smi_2, smi_3, smi_4, smi_5, smi_6, fok_i, fok_b1, rb_0, rb_1, rb_bi, bi_eq0, rb_b2, b2_0, ite_not, isO_r, Option.toList, List.cons_append, List.nil_append, q_M_in, q_M_atKite, q_M_atSpool, q_M_atHire, q_M_tail, il_0, tn_0, il_1, tn_1, il_2, tn_2, il_3, tn_3, il_4, tn_4, il_5, tn_5, il_6, tn_6, il_7, tn_7, il_8, tn_8, il_9, tn_9, il_10, tn_10, il_11, tn_11, il_12, tn_12, il_13, tn_13, il_14, tn_14, il_15, tn_15, il_16, tn_16, il_17, tn_17, il_1257, tn_1257, il_1258, tn_1258, il_1259, tn_1259, il_1260, tn_1260, sm2_0, sm2_1, sm2_2, sm6_0, sm6_1, sm6_2, sm6_3, sm6_4, sm6_5, sm6_6, m1_ok, m1_al, m1_rd, m1_re, m1_ln, m1_s, m6_ok, m6_al, m6_rd, m6_re, m6_ln, m6_s, m7_ok, m7_al, m7_rd, m7_re, m7_ln, m7_s, q_M_placeOf, hp, if_neg h1, if_neg h2]
      exact hQ))
def sp_M_kiteOf : Nat → Sp := spL [(119, f_M_isKite), (95, f_M_in), (99, f_M_atKite), (147, f_M_hireWith)]
theorem sp_M_kiteOf_M_isKite : sp_M_kiteOf 119 = f_M_isKite := rfl
theorem sp_M_kiteOf_M_in : sp_M_kiteOf 95 = f_M_in := rfl
theorem sp_M_kiteOf_M_atKite : sp_M_kiteOf 99 = f_M_atKite := rfl
theorem sp_M_kiteOf_M_hireWith : sp_M_kiteOf 147 = f_M_hireWith := rfl
def f_M_kiteOf : Sp := aS 9 (fun _ => 126) 2 (gL2 (fun _ x y σ => (sm (σ 8 1 6) 16 ∧ sm (σ 8 1 16) 10, some (.int (if wi x 0 (σ 8 1 6 - 1) then (if wi y 0 6 then uk (σ 8) x y else if y = 7 then hwF (σ 8) x else -2) else -1)), σ)))
theorem q_M_kiteOf {x y : Int32} {σ : SG} : f_M_kiteOf [.ref 126, .int x, .int y] (emb σ) = (sm (σ 8 1 6) 16 ∧ sm (σ 8 1 16) 10, some (.int (if wi x 0 (σ 8 1 6 - 1) then (if wi y 0 6 then uk (σ 8) x y else if y = 7 then hwF (σ 8) x else -2) else -1)), emb (σ)) := aS2_at (ad := (fun _ => 126)) (i := hI 126) (by decide) rfl
set_option maxHeartbeats 600000 in
set_option maxRecDepth 20000 in
theorem ok_M_kiteOf : SpecOK 155 f_M_kiteOf := SpecOK.of (sp := sp_M_kiteOf) (by decide) (by decide) (spL_ok (List.forall_mem_cons.mpr ⟨ok_M_isKite, (List.forall_mem_cons.mpr ⟨ok_M_in, (List.forall_mem_cons.mpr ⟨ok_M_atKite, (List.forall_mem_cons.mpr ⟨ok_M_hireWith, (fun q h => absurd h List.not_mem_nil)⟩)⟩)⟩)⟩)) (Does_aS2 (Nat.le_of_ble_eq_true rfl) (fun sc i x y σ hi had hp => by
  refine Vf_q ?_ ⟨rfl, rfl⟩
  intro Q hQ
  dsimp only at hQ hp
  show Vf 155 _ _ 0 [.ref (126), .int x, .int y] [] (emb σ) _

  rcases Decidable.em (wi x 0 (σ 8 1 6 - 1)) with h1 | h1
  · have hs : sm x 15 := wi_sub (by decide) hp.1 h1
    rw [if_pos h1] at hQ
    rcases Decidable.em (wi y 0 6) with h2 | h2
    · have hy : sm y 6 := wi_sm (n := 6) h2 (by decide) (by decide)
      rw [if_pos h2] at hQ
      simp only [rM_kiteOf_0, rM_kiteOf_1, rM_kiteOf_2, rM_kiteOf_5, rM_kiteOf_8, rM_kiteOf_9, rM_kiteOf_12, rM_kiteOf_13, rM_kiteOf_14, rM_kiteOf_16, rM_kiteOf_19, rM_kiteOf_22, rM_kiteOf_23, rM_kiteOf_26, rM_kiteOf_27, rM_kiteOf_28, rM_kiteOf_31, rM_kiteOf_32, rM_kiteOf_35, rM_kiteOf_36, rM_kiteOf_38, rM_kiteOf_41, rM_kiteOf_42, rM_kiteOf_43, rM_kiteOf_46, rM_kiteOf_49, rM_kiteOf_51, ct1_i, ct1_r, ct1_n, true_and, and_true, tl_s, tl_n, le4_0, le4_1, le4_2, le4_3, le4_4, le4_5, isO_r, cl_, emb1, emb2, le_rN, up1_at, up1_up1, sp_M_kiteOf_M_isKite, sp_M_kiteOf_M_in, sp_M_kiteOf_M_atKite, sp_M_kiteOf_M_hireWith, obM, mr_0, mr_1, mr_2, mr_3, mr_5, mr_7, mr_11, mi_0, mi_1, mi_2, mi_3, mi_4, mi_5, mi_6, smi_0, smi_1, smi_2, smi_3, smi_4, smi_5, smi_6, fok_i, fok_b1, rb_0, rb_1, rb_bi, bi_eq0, rb_b2, b2_0, ite_not, isO_r, Option.toList, List.cons_append, List.nil_append, q_M_in, q_M_atKite, q_M_atSpool, q_M_atHire, q_M_tail, il_0, tn_0, il_1, tn_1, il_2, tn_2, il_3, tn_3, il_4, tn_4, il_5, tn_5, il_6, tn_6, il_7, tn_7, il_8, tn_8, il_9, tn_9, il_10, tn_10, il_11, tn_11, il_12, tn_12, il_13, tn_13, il_14, tn_14, il_15, tn_15, il_16, tn_16, il_17, tn_17, il_1257, tn_1257, il_1258, tn_1258, il_1259, tn_1259, il_1260, tn_1260, sm2_0, sm2_1, sm2_2, sm6_0, sm6_1, sm6_2, sm6_3, sm6_4, sm6_5, sm6_6, m1_ok, m1_al, m1_rd, m1_re, m1_ln, m1_s, m6_ok, m6_al, m6_rd, m6_re, m6_ln, m6_s, m7_ok, m7_al, m7_rd, m7_re, m7_ln, m7_s, q_M_isKite, if_pos h1, if_pos h2, iK_v hs hy]
      exact hQ
    · rw [if_neg h2] at hQ
      simp only [rM_kiteOf_0, rM_kiteOf_1, rM_kiteOf_2, rM_kiteOf_5, rM_kiteOf_8, rM_kiteOf_9, rM_kiteOf_12, rM_kiteOf_13, rM_kiteOf_14, rM_kiteOf_16, rM_kiteOf_19, rM_kiteOf_22, rM_kiteOf_23, rM_kiteOf_26, rM_kiteOf_27, rM_kiteOf_28, rM_kiteOf_31, rM_kiteOf_32, rM_kiteOf_35, rM_kiteOf_36, rM_kiteOf_38, rM_kiteOf_41, rM_kiteOf_42, rM_kiteOf_43, rM_kiteOf_46, rM_kiteOf_49, rM_kiteOf_51, ct1_i, ct1_r, ct1_n, true_and, and_true, tl_s, tl_n, le4_0, le4_1, le4_2, le4_3, le4_4, le4_5, isO_r, cl_, emb1, emb2, le_rN, up1_at, up1_up1, sp_M_kiteOf_M_isKite, sp_M_kiteOf_M_in, sp_M_kiteOf_M_atKite, sp_M_kiteOf_M_hireWith, obM, mr_0, mr_1, mr_2, mr_3, mr_5, mr_7, mr_11, mi_0, mi_1, mi_2, mi_3, mi_4, mi_5, mi_6, smi_0, smi_1, smi_2, smi_3, smi_4, smi_5, smi_6, fok_i, fok_b1, rb_0, rb_1, rb_bi, bi_eq0, rb_b2, b2_0, ite_not, isO_r, Option.toList, List.cons_append, List.nil_append, q_M_in, q_M_atKite, q_M_atSpool, q_M_atHire, q_M_tail, il_0, tn_0, il_1, tn_1, il_2, tn_2, il_3, tn_3, il_4, tn_4, il_5, tn_5, il_6, tn_6, il_7, tn_7, il_8, tn_8, il_9, tn_9, il_10, tn_10, il_11, tn_11, il_12, tn_12, il_13, tn_13, il_14, tn_14, il_15, tn_15, il_16, tn_16, il_17, tn_17, il_1257, tn_1257, il_1258, tn_1258, il_1259, tn_1259, il_1260, tn_1260, sm2_0, sm2_1, sm2_2, sm6_0, sm6_1, sm6_2, sm6_3, sm6_4, sm6_5, sm6_6, m1_ok, m1_al, m1_rd, m1_re, m1_ln, m1_s, m6_ok, m6_al, m6_rd, m6_re, m6_ln, m6_s, m7_ok, m7_al, m7_rd, m7_re, m7_ln, m7_s, q_M_isKite, q_M_hireWith, hp.2, if_pos h1, if_neg h2]
      rcases Decidable.em (y = 7) with h3 | h3
      case inr => rw [if_neg h3] at hQ ⊢; exact hQ
      rw [if_pos h3] at hQ ⊢
      exact hQ
  · rw [if_neg h1] at hQ
    simp only [rM_kiteOf_0, rM_kiteOf_1, rM_kiteOf_2, rM_kiteOf_5, rM_kiteOf_8, rM_kiteOf_9, rM_kiteOf_12, rM_kiteOf_13, rM_kiteOf_14, rM_kiteOf_16, rM_kiteOf_19, rM_kiteOf_22, rM_kiteOf_23, rM_kiteOf_26, rM_kiteOf_27, rM_kiteOf_28, rM_kiteOf_31, rM_kiteOf_32, rM_kiteOf_35, rM_kiteOf_36, rM_kiteOf_38, rM_kiteOf_41, rM_kiteOf_42, rM_kiteOf_43, rM_kiteOf_46, rM_kiteOf_49, rM_kiteOf_51, ct1_i, ct1_r, ct1_n, true_and, and_true, tl_s, tl_n, le4_0, le4_1, le4_2, le4_3, le4_4, le4_5, isO_r, cl_, emb1, emb2, le_rN, up1_at, up1_up1, sp_M_kiteOf_M_isKite, sp_M_kiteOf_M_in, sp_M_kiteOf_M_atKite, sp_M_kiteOf_M_hireWith, obM, mr_0, mr_1, mr_2, mr_3, mr_5, mr_7, mr_11, mi_0, mi_1, mi_2, mi_3, mi_4, mi_5, mi_6, smi_0, smi_1, smi_2, smi_3, smi_4, smi_5, smi_6, fok_i, fok_b1, rb_0, rb_1, rb_bi, bi_eq0, rb_b2, b2_0, ite_not, isO_r, Option.toList, List.cons_append, List.nil_append, q_M_in, q_M_atKite, q_M_atSpool, q_M_atHire, q_M_tail, il_0, tn_0, il_1, tn_1, il_2, tn_2, il_3, tn_3, il_4, tn_4, il_5, tn_5, il_6, tn_6, il_7, tn_7, il_8, tn_8, il_9, tn_9, il_10, tn_10, il_11, tn_11, il_12, tn_12, il_13, tn_13, il_14, tn_14, il_15, tn_15, il_16, tn_16, il_17, tn_17, il_1257, tn_1257, il_1258, tn_1258, il_1259, tn_1259, il_1260, tn_1260, sm2_0, sm2_1, sm2_2, sm6_0, sm6_1, sm6_2, sm6_3, sm6_4, sm6_5, sm6_6, m1_ok, m1_al, m1_rd, m1_re, m1_ln, m1_s, m6_ok, m6_al, m6_rd, m6_re, m6_ln, m6_s, m7_ok, m7_al, m7_rd, m7_re, m7_ln, m7_s, q_M_isKite, if_neg h1]
    exact hQ))
/-- a sum, from the left -/
def suF (f : Nat → Int32) : Nat → Nat → Int32 → Int32
  | _, 0, d => d
  | r, k + 1, d => suF f (r + 1) k (d + f r)
set_option maxHeartbeats 600000 in
set_option maxRecDepth 20000 in
theorem lp_M_kitesThatAre {sp : Nat → Sp} (h99 : sp 99 = f_M_atKite) {sc : Nat × (Nat → Int32)} {x : Int32} {Q : Option Value → MS → Prop} (σ : SG) (N : Nat) (hN : N ≤ 16) (hNe : σ 8 1 6 = oN N) : ∀ (m n : Nat) (d : Int32), n + m = N → Q (some (.int (suF (fun r => if uk (σ 8) (oN r) 0 = x then 1 else 0) n m d))) (emb σ) → Vf 133 sp ((134, SLT), sc) 4 [.ref 126, .int x, .int d, .int (oN n)] [] (emb σ) Q := by
  intro m
  induction m with
  | zero =>
    intro n d hn hQ
    have : ¬ oN n < oN N := by rw [oN_lt (by omega) (by omega)]; omega
    rw [rM_kitesThatAre_4]
    simp only [rM_kitesThatAre_5, rM_kitesThatAre_6, rM_kitesThatAre_9, rM_kitesThatAre_11, rM_kitesThatAre_12, rM_kitesThatAre_15, rM_kitesThatAre_16, rM_kitesThatAre_17, rM_kitesThatAre_20, rM_kitesThatAre_21, rM_kitesThatAre_22, rM_kitesThatAre_25, rM_kitesThatAre_26, rM_kitesThatAre_27, rM_kitesThatAre_30, rM_kitesThatAre_31, rM_kitesThatAre_34, rM_kitesThatAre_35, rM_kitesThatAre_36, rM_kitesThatAre_37, rM_kitesThatAre_40, rM_kitesThatAre_43, rM_kitesThatAre_44, ct1_i, ct1_r, ct1_n, true_and, and_true, tl_s, tl_n, le4_0, le4_1, le4_2, le4_3, le4_4, le4_5, isO_r, obM, mr_0, mr_1, mr_2, mr_3, mr_5, mr_7, mr_11, mi_0, mi_1, mi_2, mi_3, mi_4, mi_5, mi_6, smi_0, smi_1, smi_2, smi_3, smi_4, smi_5, smi_6, fok_i, fok_b1, rb_0, rb_1, rb_bi, bi_eq0, rb_b2, b2_0, ite_not, isO_r, Option.toList, List.cons_append, List.nil_append, q_M_in, q_M_atKite, q_M_atSpool, q_M_atHire, q_M_tail, il_0, tn_0, il_1, tn_1, il_2, tn_2, il_3, tn_3, il_4, tn_4, il_5, tn_5, il_6, tn_6, il_7, tn_7, il_8, tn_8, il_9, tn_9, il_10, tn_10, il_11, tn_11, il_12, tn_12, il_13, tn_13, il_14, tn_14, il_15, tn_15, il_16, tn_16, il_17, tn_17, il_1257, tn_1257, il_1258, tn_1258, il_1259, tn_1259, il_1260, tn_1260, sm2_0, sm2_1, sm2_2, sm6_0, sm6_1, sm6_2, sm6_3, sm6_4, sm6_5, sm6_6, m1_ok, m1_al, m1_rd, m1_re, m1_ln, m1_s, m6_ok, m6_al, m6_rd, m6_re, m6_ln, m6_s, m7_ok, m7_al, m7_rd, m7_re, m7_ln, m7_s, hNe, if_neg this]
    exact hQ
  | succ m ih =>
    intro n d hn hQ
    have : oN n < oN N := by rw [oN_lt (by omega) (by omega)]; omega
    have hs : sm (oN n) 15 := sm_oN (by omega) (by decide)
    rw [rM_kitesThatAre_4]
    simp only [rM_kitesThatAre_5, rM_kitesThatAre_6, rM_kitesThatAre_9, rM_kitesThatAre_11, rM_kitesThatAre_12, rM_kitesThatAre_15, rM_kitesThatAre_16, rM_kitesThatAre_17, rM_kitesThatAre_20, rM_kitesThatAre_21, rM_kitesThatAre_22, rM_kitesThatAre_25, rM_kitesThatAre_26, rM_kitesThatAre_27, rM_kitesThatAre_30, rM_kitesThatAre_31, rM_kitesThatAre_34, rM_kitesThatAre_35, rM_kitesThatAre_36, rM_kitesThatAre_37, rM_kitesThatAre_40, rM_kitesThatAre_43, rM_kitesThatAre_44, ct1_i, ct1_r, ct1_n, true_and, and_true, tl_s, tl_n, le4_0, le4_1, le4_2, le4_3, le4_4, le4_5, isO_r, cl_, emb1, emb2, le_rN, h99, obM, mr_0, mr_1, mr_2, mr_3, mr_5, mr_7, mr_11, mi_0, mi_1, mi_2, mi_3, mi_4, mi_5, mi_6, smi_0, smi_1, smi_2, smi_3, smi_4, smi_5, smi_6, fok_i, fok_b1, rb_0, rb_1, rb_bi, bi_eq0, rb_b2, b2_0, ite_not, isO_r, Option.toList, List.cons_append, List.nil_append, q_M_in, q_M_atKite, q_M_atSpool, q_M_atHire, q_M_tail, il_0, tn_0, il_1, tn_1, il_2, tn_2, il_3, tn_3, il_4, tn_4, il_5, tn_5, il_6, tn_6, il_7, tn_7, il_8, tn_8, il_9, tn_9, il_10, tn_10, il_11, tn_11, il_12, tn_12, il_13, tn_13, il_14, tn_14, il_15, tn_15, il_16, tn_16, il_17, tn_17, il_1257, tn_1257, il_1258, tn_1258, il_1259, tn_1259, il_1260, tn_1260, sm2_0, sm2_1, sm2_2, sm6_0, sm6_1, sm6_2, sm6_3, sm6_4, sm6_5, sm6_6, m1_ok, m1_al, m1_rd, m1_re, m1_ln, m1_s, m6_ok, m6_al, m6_rd, m6_re, m6_ln, m6_s, m7_ok, m7_al, m7_rd, m7_re, m7_ln, m7_s, hNe, if_pos this, iK_0 hs, oN_succ]
    simp only [suF] at hQ
    rcases Decidable.em (uk (σ 8) (oN n) 0 = x) with h | h
    · rw [if_pos h] at hQ ⊢
      exact ih (n + 1) _ (by omega) hQ
    · rw [if_neg h] at hQ ⊢
      exact ih (n + 1) _ (by omega) hQ
abbrev ktF (v : HV) (x : Int32) : Int32 := suF (fun r => if uk v (oN r) 0 = x then 1 else 0) 0 (v 1 6).toNatClampNeg 0
def sp_M_kitesThatAre : Nat → Sp := spL [(99, f_M_atKite)]
theorem sp_M_kitesThatAre_M_atKite : sp_M_kitesThatAre 99 = f_M_atKite := rfl
def f_M_kitesThatAre : Sp := aS 9 (fun _ => 126) 1 (gL1 (fun _ x σ => (sm (σ 8 1 6) 16, some (.int (ktF (σ 8) x)), σ)))
theorem q_M_kitesThatAre {x : Int32} {σ : SG} : f_M_kitesThatAre [.ref 126, .int x] (emb σ) = (sm (σ 8 1 6) 16, some (.int (ktF (σ 8) x)), emb (σ)) := aS1_at (ad := (fun _ => 126)) (i := hI 126) (by decide) rfl
set_option maxHeartbeats 600000 in
set_option maxRecDepth 20000 in
theorem ok_M_kitesThatAre : SpecOK 133 f_M_kitesThatAre := SpecOK.of (sp := sp_M_kitesThatAre) (by decide) (by decide) (spL_ok (List.forall_mem_cons.mpr ⟨ok_M_atKite, (fun q h => absurd h List.not_mem_nil)⟩)) (Does_aS1 (Nat.le_of_ble_eq_true rfl) (fun sc i x σ hi had hp => by
  refine Vf_q ?_ ⟨rfl, rfl⟩
  intro Q hQ
  dsimp only at hQ hp
  show Vf 133 _ _ 0 [.ref (126), .int x, .null, .null] [] (emb σ) _

  simp only [rM_kitesThatAre_0, rM_kitesThatAre_1, rM_kitesThatAre_2, rM_kitesThatAre_3, ct1_i, ct1_r, ct1_n, true_and, and_true, tl_s, tl_n, le4_0, le4_1, le4_2, le4_3, le4_4, le4_5, isO_r]
  exact lp_M_kitesThatAre sp_M_kitesThatAre_M_atKite σ _ hp.2 (sm_eq hp) _ 0 _ (Nat.zero_add _) hQ))
set_option maxHeartbeats 600000 in
set_option maxRecDepth 20000 in
theorem lp_M_allMetres {sp : Nat → Sp} (h100 : sp 100 = f_M_atSpool) {sc : Nat × (Nat → Int32)} {Q : Option Value → MS → Prop} (σ : SG) (N : Nat) (hN : N ≤ 10) (hNe : σ 8 1 7 = oN N) : ∀ (m n : Nat) (d : Int32), n + m = N → Q (some (.int (suF (fun r => us (σ 8) (oN r) 0) n m d))) (emb σ) → Vf 134 sp ((134, SLT), sc) 4 [.ref 126, .int d, .int (oN n)] [] (emb σ) Q := by
  intro m
  induction m with
  | zero =>
    intro n d hn hQ
    have : ¬ oN n < oN N := by rw [oN_lt (by omega) (by omega)]; omega
    rw [rM_allMetres_4]
    simp only [rM_allMetres_5, rM_allMetres_6, rM_allMetres_9, rM_allMetres_11, rM_allMetres_12, rM_allMetres_15, rM_allMetres_16, rM_allMetres_17, rM_allMetres_20, rM_allMetres_21, rM_allMetres_22, rM_allMetres_25, rM_allMetres_26, rM_allMetres_27, rM_allMetres_28, rM_allMetres_31, rM_allMetres_34, rM_allMetres_35, ct1_i, ct1_r, ct1_n, true_and, and_true, tl_s, tl_n, le4_0, le4_1, le4_2, le4_3, le4_4, le4_5, isO_r, obM, mr_0, mr_1, mr_2, mr_3, mr_5, mr_7, mr_11, mi_0, mi_1, mi_2, mi_3, mi_4, mi_5, mi_6, smi_0, smi_1, smi_2, smi_3, smi_4, smi_5, smi_6, fok_i, fok_b1, rb_0, rb_1, rb_bi, bi_eq0, rb_b2, b2_0, ite_not, isO_r, Option.toList, List.cons_append, List.nil_append, q_M_in, q_M_atKite, q_M_atSpool, q_M_atHire, q_M_tail, il_0, tn_0, il_1, tn_1, il_2, tn_2, il_3, tn_3, il_4, tn_4, il_5, tn_5, il_6, tn_6, il_7, tn_7, il_8, tn_8, il_9, tn_9, il_10, tn_10, il_11, tn_11, il_12, tn_12, il_13, tn_13, il_14, tn_14, il_15, tn_15, il_16, tn_16, il_17, tn_17, il_1257, tn_1257, il_1258, tn_1258, il_1259, tn_1259, il_1260, tn_1260, sm2_0, sm2_1, sm2_2, sm6_0, sm6_1, sm6_2, sm6_3, sm6_4, sm6_5, sm6_6, m1_ok, m1_al, m1_rd, m1_re, m1_ln, m1_s, m6_ok, m6_al, m6_rd, m6_re, m6_ln, m6_s, m7_ok, m7_al, m7_rd, m7_re, m7_ln, m7_s, hNe, if_neg this]
    exact hQ
  | succ m ih =>
    intro n d hn hQ
    have : oN n < oN N := by rw [oN_lt (by omega) (by omega)]; omega
    have hs : sm (oN n) 9 := sm_oN (by omega) (by decide)
    rw [rM_allMetres_4]
    simp only [rM_allMetres_5, rM_allMetres_6, rM_allMetres_9, rM_allMetres_11, rM_allMetres_12, rM_allMetres_15, rM_allMetres_16, rM_allMetres_17, rM_allMetres_20, rM_allMetres_21, rM_allMetres_22, rM_allMetres_25, rM_allMetres_26, rM_allMetres_27, rM_allMetres_28, rM_allMetres_31, rM_allMetres_34, rM_allMetres_35, ct1_i, ct1_r, ct1_n, true_and, and_true, tl_s, tl_n, le4_0, le4_1, le4_2, le4_3, le4_4, le4_5, isO_r, cl_, emb1, emb2, le_rN, h100, obM, mr_0, mr_1, mr_2, mr_3, mr_5, mr_7, mr_11, mi_0, mi_1, mi_2, mi_3, mi_4, mi_5, mi_6, smi_0, smi_1, smi_2, smi_3, smi_4, smi_5, smi_6, fok_i, fok_b1, rb_0, rb_1, rb_bi, bi_eq0, rb_b2, b2_0, ite_not, isO_r, Option.toList, List.cons_append, List.nil_append, q_M_in, q_M_atKite, q_M_atSpool, q_M_atHire, q_M_tail, il_0, tn_0, il_1, tn_1, il_2, tn_2, il_3, tn_3, il_4, tn_4, il_5, tn_5, il_6, tn_6, il_7, tn_7, il_8, tn_8, il_9, tn_9, il_10, tn_10, il_11, tn_11, il_12, tn_12, il_13, tn_13, il_14, tn_14, il_15, tn_15, il_16, tn_16, il_17, tn_17, il_1257, tn_1257, il_1258, tn_1258, il_1259, tn_1259, il_1260, tn_1260, sm2_0, sm2_1, sm2_2, sm6_0, sm6_1, sm6_2, sm6_3, sm6_4, sm6_5, sm6_6, m1_ok, m1_al, m1_rd, m1_re, m1_ln, m1_s, m6_ok, m6_al, m6_rd, m6_re, m6_ln, m6_s, m7_ok, m7_al, m7_rd, m7_re, m7_ln, m7_s, hNe, if_pos this, iS_0 hs, oN_succ]
    simp only [suF] at hQ
    exact ih (n + 1) _ (by omega) hQ
abbrev amF (v : HV) : Int32 := suF (fun r => us v (oN r) 0) 0 (v 1 7).toNatClampNeg 0
def sp_M_allMetres : Nat → Sp := spL [(100, f_M_atSpool)]
theorem sp_M_allMetres_M_atSpool : sp_M_allMetres 100 = f_M_atSpool := rfl
def f_M_allMetres : Sp := aS 9 (fun _ => 126) 0 (gL0 (fun _  σ => (sm (σ 8 1 7) 10, some (.int (amF (σ 8))), σ)))
theorem q_M_allMetres {σ : SG} : f_M_allMetres [.ref 126] (emb σ) = (sm (σ 8 1 7) 10, some (.int (amF (σ 8))), emb (σ)) := aS0_at (ad := (fun _ => 126)) (i := hI 126) (by decide) rfl
set_option maxHeartbeats 600000 in
set_option maxRecDepth 20000 in
theorem ok_M_allMetres : SpecOK 134 f_M_allMetres := SpecOK.of (sp := sp_M_allMetres) (by decide) (by decide) (spL_ok (List.forall_mem_cons.mpr ⟨ok_M_atSpool, (fun q h => absurd h List.not_mem_nil)⟩)) (Does_aS0 (Nat.le_of_ble_eq_true rfl) (fun sc i  σ hi had hp => by
  refine Vf_q ?_ ⟨rfl, rfl⟩
  intro Q hQ
  dsimp only at hQ hp
  show Vf 134 _ _ 0 [.ref (126), .null, .null] [] (emb σ) _

  simp only [rM_allMetres_0, rM_allMetres_1, rM_allMetres_2, rM_allMetres_3, ct1_i, ct1_r, ct1_n, true_and, and_true, tl_s, tl_n, le4_0, le4_1, le4_2, le4_3, le4_4, le4_5, isO_r]
  exact lp_M_allMetres sp_M_allMetres_M_atSpool σ _ hp.2 (sm_eq hp) _ 0 _ (Nat.zero_add _) hQ))
