/-! THE CHECK: longest, dearest, flyable, next, snapsIn -/

def sp_M_longest : Nat → Sp := spL [(119, f_M_isKite), (95, f_M_in), (164, f_M_longestOf)]
theorem sp_M_longest_M_isKite : sp_M_longest 119 = f_M_isKite := rfl
theorem sp_M_longest_M_in : sp_M_longest 95 = f_M_in := rfl
theorem sp_M_longest_M_longestOf : sp_M_longest 164 = f_M_longestOf := rfl
def f_M_longest : Sp := aS 9 (fun _ => 126) 2 (gL2 (fun _ k m σ => (sm (σ 8 1 0) 1000 ∧ sm (σ 8 1 6) 16 ∧ sm (σ 8 1 7) 10, some (.int (if wi k 0 (σ 8 1 6 - 1) then (if wi m 1 300 then loM (σ 8) k m 1 12 (-5) else -2) else -1)), σ)))
theorem q_M_longest {k m : Int32} {σ : SG} : f_M_longest [.ref 126, .int k, .int m] (emb σ) = (sm (σ 8 1 0) 1000 ∧ sm (σ 8 1 6) 16 ∧ sm (σ 8 1 7) 10, some (.int (if wi k 0 (σ 8 1 6 - 1) then (if wi m 1 300 then loM (σ 8) k m 1 12 (-5) else -2) else -1)), emb (σ)) := aS2_at (ad := (fun _ => 126)) (i := hI 126) (by decide) rfl
set_option maxHeartbeats 600000 in
set_option maxRecDepth 20000 in
theorem ok_M_longest : SpecOK 167 f_M_longest := SpecOK.of (sp := sp_M_longest) (by decide) (by decide) (spL_ok (List.forall_mem_cons.mpr ⟨ok_M_isKite, (List.forall_mem_cons.mpr ⟨ok_M_in, (List.forall_mem_cons.mpr ⟨ok_M_longestOf, (fun q h => absurd h List.not_mem_nil)⟩)⟩)⟩)) (Does_aS2 (Nat.le_of_ble_eq_true rfl) (fun sc i k m σ hi had hp => by
  refine Vf_q ?_ ⟨rfl, rfl⟩
  intro Q hQ
  dsimp only at hQ hp
  show Vf 167 _ _ 0 [.ref (126), .int k, .int m] [] (emb σ) _

  simp only [rM_longest_0, rM_longest_1, rM_longest_2, rM_longest_5, rM_longest_8, rM_longest_9, rM_longest_12, rM_longest_13, rM_longest_14, rM_longest_17, rM_longest_20, rM_longest_23, rM_longest_24, rM_longest_25, rM_longest_26, rM_longest_29, rM_longest_32, rM_longest_34, ct1_i, ct1_r, ct1_n, true_and, and_true, tl_s, tl_n, le4_0, le4_1, le4_2, le4_3, le4_4, le4_5, isO_r, cl_, emb1, emb2, le_rN, up1_at, up1_up1, sp_M_longest_M_isKite, sp_M_longest_M_in, sp_M_longest_M_longestOf, obM, mr_0, mr_1, mr_2, mr_3, mr_5, mr_7, mr_11, mi_0, mi_1, mi_2, mi_3, mi_4, mi_5, mi_6, smi_0, smi_1, smi_2, smi_3, smi_4, smi_5, smi_6, fok_i, fok_b1, rb_0, rb_1, rb_bi, bi_eq0, rb_b2, b2_0, ite_not, isO_r, Option.toList, List.cons_append, List.nil_append, q_M_in, q_M_atKite, q_M_atSpool, q_M_atHire, q_M_tail, il_0, tn_0, il_1, tn_1, il_2, tn_2, il_3, tn_3, il_4, tn_4, il_5, tn_5, il_6, tn_6, il_7, tn_7, il_8, tn_8, il_9, tn_9, il_10, tn_10, il_11, tn_11, il_12, tn_12, il_13, tn_13, il_14, tn_14, il_15, tn_15, il_16, tn_16, il_17, tn_17, il_1257, tn_1257, il_1258, tn_1258, il_1259, tn_1259, il_1260, tn_1260, sm2_0, sm2_1, sm2_2, sm6_0, sm6_1, sm6_2, sm6_3, sm6_4, sm6_5, sm6_6, m1_ok, m1_al, m1_rd, m1_re, m1_ln, m1_s, m6_ok, m6_al, m6_rd, m6_re, m6_ln, m6_s, m7_ok, m7_al, m7_rd, m7_re, m7_ln, m7_s, q_M_isKite, q_M_longestOf]
  rcases Decidable.em (wi k 0 (σ 8 1 6 - 1)) with h1 | h1
  case inr => rw [if_neg h1] at hQ ⊢; exact hQ
  rw [if_pos h1] at hQ ⊢
  rcases Decidable.em (wi m 1 300) with h2 | h2
  case inr => rw [if_neg h2] at hQ ⊢; exact hQ
  rw [if_pos h2] at hQ ⊢
  exact ⟨⟨hp.1, wi_sub (by decide) hp.2.1 h1, hp.2.2⟩, hQ⟩))
abbrev dcF (v : HV) (m : Int32) (n : Nat) : Int32 := if loM v (oN n) m 1 12 (-5) = -5 then 0 else loM v (oN n) m 1 12 (-5) * uk v (oN n) 4
def daM (v : HV) (m : Int32) : Nat → Nat → Int32 → Int32 → Int32
  | _, 0, d, _ => d
  | r, k + 1, d, x => daM v m (r + 1) k (if x < dcF v m r then oN r else d) (if x < dcF v m r then dcF v m r else x)
set_option maxHeartbeats 1000000 in
set_option maxRecDepth 20000 in
theorem lp_M_dearest {sp : Nat → Sp} (h99 : sp 99 = f_M_atKite) (h164 : sp 164 = f_M_longestOf) {sc : Nat × (Nat → Int32)} {m : Int32} {Q : Option Value → MS → Prop} (σ : SG) (hs : sm (σ 8 1 0) 1000 ∧ sm (σ 8 1 7) 10) (N : Nat) (hN : N ≤ 16) (hNe : σ 8 1 6 = oN N) : ∀ (q n : Nat) (d x : Int32) (a b : Value), n + q = N → ct1 a → ct1 b → Q (some (.int (daM (σ 8) m n q d x))) (emb σ) → Vf 168 sp ((134, SLT), sc) 22 [.ref 126, .int m, .int d, .int x, .int (oN n), a, b] [] (emb σ) Q := by
  intro q
  induction q with
  | zero =>
    intro n d x a b hn _ _ hQ
    have : ¬ oN n < oN N := by rw [oN_lt (by omega) (by omega)]; omega
    rw [rM_dearest_22]
    simp only [rM_dearest_24, rM_dearest_25, rM_dearest_28, rM_dearest_30, rM_dearest_31, rM_dearest_102, rM_dearest_103, ct1_i, ct1_r, ct1_n, true_and, and_true, tl_s, tl_n, le4_0, le4_1, le4_2, le4_3, le4_4, le4_5, isO_r, obM, mr_0, mr_1, mr_2, mr_3, mr_5, mr_7, mr_11, mi_0, mi_1, mi_2, mi_3, mi_4, mi_5, mi_6, smi_0, smi_1, smi_2, smi_3, smi_4, smi_5, smi_6, fok_i, fok_b1, rb_0, rb_1, rb_bi, bi_eq0, rb_b2, b2_0, ite_not, isO_r, Option.toList, List.cons_append, List.nil_append, q_M_in, q_M_atKite, q_M_atSpool, q_M_atHire, q_M_tail, il_0, tn_0, il_1, tn_1, il_2, tn_2, il_3, tn_3, il_4, tn_4, il_5, tn_5, il_6, tn_6, il_7, tn_7, il_8, tn_8, il_9, tn_9, il_10, tn_10, il_11, tn_11, il_12, tn_12, il_13, tn_13, il_14, tn_14, il_15, tn_15, il_16, tn_16, il_17, tn_17, il_1257, tn_1257, il_1258, tn_1258, il_1259, tn_1259, il_1260, tn_1260, sm2_0, sm2_1, sm2_2, sm6_0, sm6_1, sm6_2, sm6_3, sm6_4, sm6_5, sm6_6, m1_ok, m1_al, m1_rd, m1_re, m1_ln, m1_s, m6_ok, m6_al, m6_rd, m6_re, m6_ln, m6_s, m7_ok, m7_al, m7_rd, m7_re, m7_ln, m7_s, hNe, if_neg this]
    exact hQ
  | succ q ih =>
    intro n d x a b hn ha hb hQ
    have : oN n < oN N := by rw [oN_lt (by omega) (by omega)]; omega
    have h15 : sm (oN n) 15 := sm_oN (by omega) (by decide)
    change Q (some (.int (daM (σ 8) m (n + 1) q (if x < dcF (σ 8) m n then oN n else d) (if x < dcF (σ 8) m n then dcF (σ 8) m n else x)))) (emb σ) at hQ
    unfold dcF at hQ
    rw [rM_dearest_22]
    simp only [rM_dearest_24, rM_dearest_25, rM_dearest_28, rM_dearest_30, rM_dearest_31, rM_dearest_34, rM_dearest_35, rM_dearest_37, rM_dearest_38, rM_dearest_41, rM_dearest_43, rM_dearest_45, rM_dearest_47, rM_dearest_50, rM_dearest_51, rM_dearest_54, rM_dearest_56, rM_dearest_57, rM_dearest_60, rM_dearest_62, rM_dearest_63, rM_dearest_66, rM_dearest_67, rM_dearest_68, rM_dearest_70, rM_dearest_72, rM_dearest_73, rM_dearest_76, rM_dearest_78, rM_dearest_81, rM_dearest_82, rM_dearest_83, rM_dearest_85, rM_dearest_86, rM_dearest_89, rM_dearest_91, rM_dearest_94, rM_dearest_95, rM_dearest_96, rM_dearest_99, ct1_i, ct1_r, ct1_n, true_and, and_true, tl_s, tl_n, le4_0, le4_1, le4_2, le4_3, le4_4, le4_5, isO_r, cl_, emb1, emb2, le_rN, h99, h164, obM, mr_0, mr_1, mr_2, mr_3, mr_5, mr_7, mr_11, mi_0, mi_1, mi_2, mi_3, mi_4, mi_5, mi_6, smi_0, smi_1, smi_2, smi_3, smi_4, smi_5, smi_6, fok_i, fok_b1, rb_0, rb_1, rb_bi, bi_eq0, rb_b2, b2_0, ite_not, isO_r, Option.toList, List.cons_append, List.nil_append, q_M_in, q_M_atKite, q_M_atSpool, q_M_atHire, q_M_tail, il_0, tn_0, il_1, tn_1, il_2, tn_2, il_3, tn_3, il_4, tn_4, il_5, tn_5, il_6, tn_6, il_7, tn_7, il_8, tn_8, il_9, tn_9, il_10, tn_10, il_11, tn_11, il_12, tn_12, il_13, tn_13, il_14, tn_14, il_15, tn_15, il_16, tn_16, il_17, tn_17, il_1257, tn_1257, il_1258, tn_1258, il_1259, tn_1259, il_1260, tn_1260, sm2_0, sm2_1, sm2_2, sm6_0, sm6_1, sm6_2, sm6_3, sm6_4, sm6_5, sm6_6, m1_ok, m1_al, m1_rd, m1_re, m1_ln, m1_s, m6_ok, m6_al, m6_rd, m6_re, m6_ln, m6_s, m7_ok, m7_al, m7_rd, m7_re, m7_ln, m7_s, q_M_longestOf, hNe, if_pos this, iK_4 h15, hs.1, hs.2, h15, oN_succ, eq_true ha, eq_true hb]
    rcases Decidable.em (loM (σ 8) (oN n) m 1 12 (-5) = -5) with h1 | h1
    · simp only [if_pos h1] at hQ ⊢
      rcases Decidable.em (x < 0) with h2 | h2
      · simp only [if_pos h2] at hQ ⊢
        exact ih (n + 1) _ _ _ _ (by omega) (of_eq_true (ct1_i _)) (of_eq_true (ct1_i _)) hQ
      · simp only [if_neg h2] at hQ ⊢
        exact ih (n + 1) _ _ _ _ (by omega) (of_eq_true (ct1_i _)) (of_eq_true (ct1_i _)) hQ
    · simp only [if_neg h1] at hQ ⊢
      rcases Decidable.em (x < loM (σ 8) (oN n) m 1 12 (-5) * uk (σ 8) (oN n) 4) with h2 | h2
      · simp only [if_pos h2] at hQ ⊢
        exact ih (n + 1) _ _ _ _ (by omega) (of_eq_true (ct1_i _)) (of_eq_true (ct1_i _)) hQ
      · simp only [if_neg h2] at hQ ⊢
        exact ih (n + 1) _ _ _ _ (by omega) (of_eq_true (ct1_i _)) (of_eq_true (ct1_i _)) hQ
def sp_M_dearest : Nat → Sp := spL [(95, f_M_in), (164, f_M_longestOf), (99, f_M_atKite)]
theorem sp_M_dearest_M_in : sp_M_dearest 95 = f_M_in := rfl
theorem sp_M_dearest_M_longestOf : sp_M_dearest 164 = f_M_longestOf := rfl
theorem sp_M_dearest_M_atKite : sp_M_dearest 99 = f_M_atKite := rfl
def f_M_dearest : Sp := aS 9 (fun _ => 126) 1 (gL1 (fun _ m σ => (sm (σ 8 1 0) 1000 ∧ sm (σ 8 1 6) 16 ∧ sm (σ 8 1 7) 10, some (.int (if wi m 1 300 then daM (σ 8) m 0 (σ 8 1 6).toNatClampNeg (-5) 0 else -2)), σ)))
theorem q_M_dearest {m : Int32} {σ : SG} : f_M_dearest [.ref 126, .int m] (emb σ) = (sm (σ 8 1 0) 1000 ∧ sm (σ 8 1 6) 16 ∧ sm (σ 8 1 7) 10, some (.int (if wi m 1 300 then daM (σ 8) m 0 (σ 8 1 6).toNatClampNeg (-5) 0 else -2)), emb (σ)) := aS1_at (ad := (fun _ => 126)) (i := hI 126) (by decide) rfl
set_option maxHeartbeats 600000 in
set_option maxRecDepth 20000 in
theorem ok_M_dearest : SpecOK 168 f_M_dearest := SpecOK.of (sp := sp_M_dearest) (by decide) (by decide) (spL_ok (List.forall_mem_cons.mpr ⟨ok_M_in, (List.forall_mem_cons.mpr ⟨ok_M_longestOf, (List.forall_mem_cons.mpr ⟨ok_M_atKite, (fun q h => absurd h List.not_mem_nil)⟩)⟩)⟩)) (Does_aS1 (Nat.le_of_ble_eq_true rfl) (fun sc i m σ hi had hp => by
  refine Vf_q ?_ ⟨rfl, rfl⟩
  intro Q hQ
  dsimp only at hQ hp
  show Vf 168 _ _ 0 [.ref (126), .int m, .null, .null, .null, .null, .null] [] (emb σ) _

  simp only [rM_dearest_0, rM_dearest_1, rM_dearest_2, rM_dearest_5, rM_dearest_8, rM_dearest_11, rM_dearest_13, rM_dearest_14, rM_dearest_16, rM_dearest_17, rM_dearest_18, rM_dearest_19, rM_dearest_20, ct1_i, ct1_r, ct1_n, true_and, and_true, tl_s, tl_n, le4_0, le4_1, le4_2, le4_3, le4_4, le4_5, isO_r, cl_, emb1, emb2, le_rN, up1_at, up1_up1, sp_M_dearest_M_in, sp_M_dearest_M_longestOf, sp_M_dearest_M_atKite, obM, mr_0, mr_1, mr_2, mr_3, mr_5, mr_7, mr_11, mi_0, mi_1, mi_2, mi_3, mi_4, mi_5, mi_6, smi_0, smi_1, smi_2, smi_3, smi_4, smi_5, smi_6, fok_i, fok_b1, rb_0, rb_1, rb_bi, bi_eq0, rb_b2, b2_0, ite_not, isO_r, Option.toList, List.cons_append, List.nil_append, q_M_in, q_M_atKite, q_M_atSpool, q_M_atHire, q_M_tail, il_0, tn_0, il_1, tn_1, il_2, tn_2, il_3, tn_3, il_4, tn_4, il_5, tn_5, il_6, tn_6, il_7, tn_7, il_8, tn_8, il_9, tn_9, il_10, tn_10, il_11, tn_11, il_12, tn_12, il_13, tn_13, il_14, tn_14, il_15, tn_15, il_16, tn_16, il_17, tn_17, il_1257, tn_1257, il_1258, tn_1258, il_1259, tn_1259, il_1260, tn_1260, sm2_0, sm2_1, sm2_2, sm6_0, sm6_1, sm6_2, sm6_3, sm6_4, sm6_5, sm6_6, m1_ok, m1_al, m1_rd, m1_re, m1_ln, m1_s, m6_ok, m6_al, m6_rd, m6_re, m6_ln, m6_s, m7_ok, m7_al, m7_rd, m7_re, m7_ln, m7_s]
  rcases Decidable.em (wi m 1 300) with h1 | h1
  case inr => rw [if_neg h1] at hQ ⊢; exact hQ
  rw [if_pos h1] at hQ ⊢
  exact lp_M_dearest sp_M_dearest_M_atKite sp_M_dearest_M_longestOf σ ⟨hp.1, hp.2.2⟩ _ hp.2.1.2 (sm_eq hp.2.1) _ 0 _ _ _ _ (Nat.zero_add _) (of_eq_true ct1_n) (of_eq_true ct1_n) hQ))
def fyM (v : HV) (w : Int32) : Nat → Nat → Int32 → Int32
  | _, 0, d => d
  | r, k + 1, d => fyM v w (r + 1) k (d ||| (if uk v (oN r) 0 = 0 ∧ flP v (oN r) w then (1 : Int32) <<< (oN r &&& 31) else 0))
set_option maxHeartbeats 1000000 in
set_option maxRecDepth 20000 in
theorem lp_M_flyable {sp : Nat → Sp} (h99 : sp 99 = f_M_atKite) (h142 : sp 142 = f_M_flies) {sc : Nat × (Nat → Int32)} {x : Int32} (hx : sm x 999) {Q : Option Value → MS → Prop} (σ : SG) (N : Nat) (hN : N ≤ 16) (hNe : σ 8 1 6 = oN N) : ∀ (q n : Nat) (d : Int32), n + q = N → Q (some (.int (fyM (σ 8) (σ 8 1 (17 + x).toNatClampNeg) n q d))) (emb σ) → Vf 158 sp ((134, SLT), sc) 17 [.ref 126, .int x, .int d, .int (oN n)] [] (emb σ) Q := by
  intro q
  induction q with
  | zero =>
    intro n d hn hQ
    have : ¬ oN n < oN N := by rw [oN_lt (by omega) (by omega)]; omega
    rw [rM_flyable_17]
    simp only [rM_flyable_18, rM_flyable_19, rM_flyable_22, rM_flyable_24, rM_flyable_25, rM_flyable_74, rM_flyable_75, ct1_i, ct1_r, ct1_n, true_and, and_true, tl_s, tl_n, le4_0, le4_1, le4_2, le4_3, le4_4, le4_5, isO_r, obM, mr_0, mr_1, mr_2, mr_3, mr_5, mr_7, mr_11, mi_0, mi_1, mi_2, mi_3, mi_4, mi_5, mi_6, smi_0, smi_1, smi_2, smi_3, smi_4, smi_5, smi_6, fok_i, fok_b1, rb_0, rb_1, rb_bi, bi_eq0, rb_b2, b2_0, ite_not, isO_r, Option.toList, List.cons_append, List.nil_append, q_M_in, q_M_atKite, q_M_atSpool, q_M_atHire, q_M_tail, il_0, tn_0, il_1, tn_1, il_2, tn_2, il_3, tn_3, il_4, tn_4, il_5, tn_5, il_6, tn_6, il_7, tn_7, il_8, tn_8, il_9, tn_9, il_10, tn_10, il_11, tn_11, il_12, tn_12, il_13, tn_13, il_14, tn_14, il_15, tn_15, il_16, tn_16, il_17, tn_17, il_1257, tn_1257, il_1258, tn_1258, il_1259, tn_1259, il_1260, tn_1260, sm2_0, sm2_1, sm2_2, sm6_0, sm6_1, sm6_2, sm6_3, sm6_4, sm6_5, sm6_6, m1_ok, m1_al, m1_rd, m1_re, m1_ln, m1_s, m6_ok, m6_al, m6_rd, m6_re, m6_ln, m6_s, m7_ok, m7_al, m7_rd, m7_re, m7_ln, m7_s, hNe, if_neg this]
    exact hQ
  | succ q ih =>
    intro n d hn hQ
    have : oN n < oN N := by rw [oN_lt (by omega) (by omega)]; omega
    have h15 : sm (oN n) 15 := sm_oN (by omega) (by decide)
    simp only [fyM] at hQ
    rw [rM_flyable_17]
    simp only [rM_flyable_18, rM_flyable_19, rM_flyable_22, rM_flyable_24, rM_flyable_25, rM_flyable_28, rM_flyable_29, rM_flyable_30, rM_flyable_33, rM_flyable_34, rM_flyable_35, rM_flyable_38, rM_flyable_39, rM_flyable_42, rM_flyable_43, rM_flyable_44, rM_flyable_45, rM_flyable_48, rM_flyable_50, rM_flyable_51, rM_flyable_52, rM_flyable_53, rM_flyable_56, rM_flyable_59, rM_flyable_60, rM_flyable_61, rM_flyable_62, rM_flyable_65, rM_flyable_66, rM_flyable_67, rM_flyable_68, rM_flyable_71, ct1_i, ct1_r, ct1_n, true_and, and_true, tl_s, tl_n, le4_0, le4_1, le4_2, le4_3, le4_4, le4_5, isO_r, cl_, emb1, emb2, le_rN, h99, h142, obM, mr_0, mr_1, mr_2, mr_3, mr_5, mr_7, mr_11, mi_0, mi_1, mi_2, mi_3, mi_4, mi_5, mi_6, smi_0, smi_1, smi_2, smi_3, smi_4, smi_5, smi_6, fok_i, fok_b1, rb_0, rb_1, rb_bi, bi_eq0, rb_b2, b2_0, ite_not, isO_r, Option.toList, List.cons_append, List.nil_append, q_M_in, q_M_atKite, q_M_atSpool, q_M_atHire, q_M_tail, il_0, tn_0, il_1, tn_1, il_2, tn_2, il_3, tn_3, il_4, tn_4, il_5, tn_5, il_6, tn_6, il_7, tn_7, il_8, tn_8, il_9, tn_9, il_10, tn_10, il_11, tn_11, il_12, tn_12, il_13, tn_13, il_14, tn_14, il_15, tn_15, il_16, tn_16, il_17, tn_17, il_1257, tn_1257, il_1258, tn_1258, il_1259, tn_1259, il_1260, tn_1260, sm2_0, sm2_1, sm2_2, sm6_0, sm6_1, sm6_2, sm6_3, sm6_4, sm6_5, sm6_6, m1_ok, m1_al, m1_rd, m1_re, m1_ln, m1_s, m6_ok, m6_al, m6_rd, m6_re, m6_ln, m6_s, m7_ok, m7_al, m7_rd, m7_re, m7_ln, m7_s, q_M_flies, hNe, if_pos this, iK_0 h15, iW hx, h15, oN_succ]
    rcases Decidable.em (uk (σ 8) (oN n) 0 = 0) with h1 | h1
    · rw [if_pos h1]
      rcases Decidable.em (flP (σ 8) (oN n) (σ 8 1 (17 + x).toNatClampNeg)) with h2 | h2
      · rw [if_pos ⟨h1, h2⟩] at hQ
        rw [if_pos h2]
        exact ih (n + 1) _ (by omega) hQ
      · rw [if_neg (fun q => h2 q.2)] at hQ
        rw [if_neg h2]
        exact ih (n + 1) _ (by omega) hQ
    · rw [if_neg (fun q => h1 q.1)] at hQ
      rw [if_neg h1]
      exact ih (n + 1) _ (by omega) hQ
def sp_M_flyable : Nat → Sp := spL [(95, f_M_in), (99, f_M_atKite), (142, f_M_flies)]
theorem sp_M_flyable_M_in : sp_M_flyable 95 = f_M_in := rfl
theorem sp_M_flyable_M_atKite : sp_M_flyable 99 = f_M_atKite := rfl
theorem sp_M_flyable_M_flies : sp_M_flyable 142 = f_M_flies := rfl
def f_M_flyable : Sp := aS 9 (fun _ => 126) 1 (gL1 (fun _ x σ => (sm (σ 8 1 6) 16, some (.int (if wi x 0 999 then fyM (σ 8) (σ 8 1 (17 + x).toNatClampNeg) 0 (σ 8 1 6).toNatClampNeg 0 else -1)), σ)))
theorem q_M_flyable {x : Int32} {σ : SG} : f_M_flyable [.ref 126, .int x] (emb σ) = (sm (σ 8 1 6) 16, some (.int (if wi x 0 999 then fyM (σ 8) (σ 8 1 (17 + x).toNatClampNeg) 0 (σ 8 1 6).toNatClampNeg 0 else -1)), emb (σ)) := aS1_at (ad := (fun _ => 126)) (i := hI 126) (by decide) rfl
set_option maxHeartbeats 600000 in
set_option maxRecDepth 20000 in
theorem ok_M_flyable : SpecOK 158 f_M_flyable := SpecOK.of (sp := sp_M_flyable) (by decide) (by decide) (spL_ok (List.forall_mem_cons.mpr ⟨ok_M_in, (List.forall_mem_cons.mpr ⟨ok_M_atKite, (List.forall_mem_cons.mpr ⟨ok_M_flies, (fun q h => absurd h List.not_mem_nil)⟩)⟩)⟩)) (Does_aS1 (Nat.le_of_ble_eq_true rfl) (fun sc i x σ hi had hp => by
  refine Vf_q ?_ ⟨rfl, rfl⟩
  intro Q hQ
  dsimp only at hQ hp
  show Vf 158 _ _ 0 [.ref (126), .int x, .null, .null] [] (emb σ) _

  simp only [rM_flyable_0, rM_flyable_1, rM_flyable_2, rM_flyable_5, rM_flyable_8, rM_flyable_11, rM_flyable_12, rM_flyable_13, rM_flyable_14, rM_flyable_15, rM_flyable_16, ct1_i, ct1_r, ct1_n, true_and, and_true, tl_s, tl_n, le4_0, le4_1, le4_2, le4_3, le4_4, le4_5, isO_r, cl_, emb1, emb2, le_rN, up1_at, up1_up1, sp_M_flyable_M_in, sp_M_flyable_M_atKite, sp_M_flyable_M_flies, obM, mr_0, mr_1, mr_2, mr_3, mr_5, mr_7, mr_11, mi_0, mi_1, mi_2, mi_3, mi_4, mi_5, mi_6, smi_0, smi_1, smi_2, smi_3, smi_4, smi_5, smi_6, fok_i, fok_b1, rb_0, rb_1, rb_bi, bi_eq0, rb_b2, b2_0, ite_not, isO_r, Option.toList, List.cons_append, List.nil_append, q_M_in, q_M_atKite, q_M_atSpool, q_M_atHire, q_M_tail, il_0, tn_0, il_1, tn_1, il_2, tn_2, il_3, tn_3, il_4, tn_4, il_5, tn_5, il_6, tn_6, il_7, tn_7, il_8, tn_8, il_9, tn_9, il_10, tn_10, il_11, tn_11, il_12, tn_12, il_13, tn_13, il_14, tn_14, il_15, tn_15, il_16, tn_16, il_17, tn_17, il_1257, tn_1257, il_1258, tn_1258, il_1259, tn_1259, il_1260, tn_1260, sm2_0, sm2_1, sm2_2, sm6_0, sm6_1, sm6_2, sm6_3, sm6_4, sm6_5, sm6_6, m1_ok, m1_al, m1_rd, m1_re, m1_ln, m1_s, m6_ok, m6_al, m6_rd, m6_re, m6_ln, m6_s, m7_ok, m7_al, m7_rd, m7_re, m7_ln, m7_s]
  rcases Decidable.em (wi x 0 999) with h1 | h1
  case inr => rw [if_neg h1] at hQ ⊢; exact hQ
  rw [if_pos h1] at hQ ⊢
  exact lp_M_flyable sp_M_flyable_M_atKite sp_M_flyable_M_flies (wi_sm (n := 999) h1 (by decide) (by decide)) σ _ hp.2 (sm_eq hp) _ 0 _ (Nat.zero_add _) hQ))
