/-! THE CHECK: next, snapsIn, pass -/
def nxM (v : HV) (k h : Int32) (n : Nat) : Bool := decide (¬ icF v k (oN n) h = true ∧ ¬ v 1 (17 + n) < uk v k 1)
set_option maxHeartbeats 1000000 in
set_option maxRecDepth 20000 in
theorem lp_M_next {sp : Nat → Sp} (h99 : sp 99 = f_M_atKite) (h138 : sp 138 = f_M_isCalled) {sc : Nat × (Nat → Int32)} {k h : Int32} {Q : Option Value → MS → Prop} (hk : sm k 15) (hh : sm h 12) (h1h : 1 ≤ h.toNatClampNeg) (σ : SG) : ∀ (m n : Nat), m = 1001 - (n + h.toNatClampNeg) → n ≤ 1001 → Q (some (.int (fsF (nxM (σ 8) k h) n m))) (emb σ) → Vf 156 sp ((134, SLT), sc) 30 [.ref 126, .int k, .int h, .int (oN n)] [] (emb σ) Q := by
  intro m
  have hH := hh.2
  have he : ∀ n, oN n + h = oN (n + h.toNatClampNeg) := by intro n; rw [← oN_add, ← sm_eq hh]
  induction m with
  | zero =>
    intro n hm hn hQ
    have : 1000 < oN (n + h.toNatClampNeg) := by show oN 1000 < _; rw [oN_lt (by decide) (by omega)]; omega
    rw [rM_next_30]
    simp only [rM_next_31, rM_next_32, rM_next_33, rM_next_36, rM_next_79, rM_next_81, ct1_i, ct1_r, ct1_n, true_and, and_true, tl_s, tl_n, le4_0, le4_1, le4_2, le4_3, le4_4, le4_5, isO_r, he, if_pos this]
    exact hQ
  | succ m ih =>
    intro n hm hn hQ
    have : ¬ 1000 < oN (n + h.toNatClampNeg) := by show ¬ oN 1000 < _; rw [oN_lt (by decide) (by omega)]; omega
    have hs : sm (oN n) 1000 := sm_oN (by omega) (by decide)
    change Q (some (.int (if nxM (σ 8) k h n = true then oN n else fsF (nxM (σ 8) k h) (n + 1) m))) (emb σ) at hQ
    unfold nxM at hQ
    rw [rM_next_30]
    simp only [rM_next_31, rM_next_32, rM_next_33, rM_next_36, rM_next_39, rM_next_40, rM_next_41, rM_next_42, rM_next_43, rM_next_46, rM_next_49, rM_next_50, rM_next_53, rM_next_55, rM_next_56, rM_next_57, rM_next_58, rM_next_59, rM_next_62, rM_next_63, rM_next_64, rM_next_67, rM_next_68, rM_next_71, rM_next_72, rM_next_73, rM_next_76, ct1_i, ct1_r, ct1_n, true_and, and_true, tl_s, tl_n, le4_0, le4_1, le4_2, le4_3, le4_4, le4_5, isO_r, cl_, emb1, emb2, le_rN, h99, h138, obM, mr_0, mr_1, mr_2, mr_3, mr_5, mr_7, mr_11, mi_0, mi_1, mi_2, mi_3, mi_4, mi_5, mi_6, smi_0, smi_1, smi_2, smi_3, smi_4, smi_5, smi_6, fok_i, fok_b1, rb_0, rb_1, rb_bi, bi_eq0, rb_b2, b2_0, ite_not, isO_r, Option.toList, List.cons_append, List.nil_append, q_M_in, q_M_atKite, q_M_atSpool, q_M_atHire, q_M_tail, il_0, tn_0, il_1, tn_1, il_2, tn_2, il_3, tn_3, il_4, tn_4, il_5, tn_5, il_6, tn_6, il_7, tn_7, il_8, tn_8, il_9, tn_9, il_10, tn_10, il_11, tn_11, il_12, tn_12, il_13, tn_13, il_14, tn_14, il_15, tn_15, il_16, tn_16, il_17, tn_17, il_1257, tn_1257, il_1258, tn_1258, il_1259, tn_1259, il_1260, tn_1260, sm2_0, sm2_1, sm2_2, sm6_0, sm6_1, sm6_2, sm6_3, sm6_4, sm6_5, sm6_6, m1_ok, m1_al, m1_rd, m1_re, m1_ln, m1_s, m6_ok, m6_al, m6_rd, m6_re, m6_ln, m6_s, m7_ok, m7_al, m7_rd, m7_re, m7_ln, m7_s, q_M_isCalled, hk, hh, hs, he, if_neg this, i17n, oNn (show 17 + n < 1289 by omega) (by decide), iin_n (show 17 + n < 1289 by omega) (by decide), iK_1 hk, oN_succ]
    rcases b2_cases (icF (σ 8) k (oN n) h) with h1 | h1
    · rw [if_neg (by rw [h1]; decide)]
      refine ih (n + 1) (by omega) (by omega) ?_
      rw [if_neg (by rw [decide_eq_true_iff]; exact fun q => q.1 h1)] at hQ
      exact hQ
    · rw [if_pos h1]
      rcases Decidable.em (σ 8 1 (17 + n) < uk (σ 8) k 1) with h2 | h2
      · rw [if_pos h2]
        refine ih (n + 1) (by omega) (by omega) ?_
        rw [if_neg (by rw [decide_eq_true_iff]; exact fun q => q.2 h2)] at hQ
        exact hQ
      · rw [if_neg h2]
        rw [if_pos (by rw [decide_eq_true_iff]; exact ⟨by rw [h1]; decide, h2⟩)] at hQ
        exact hQ
def neM (v : HV) (k h : Int32) : Int32 := if wi k 0 (v 1 6 - 1) then (if wi h 1 12 then fsF (nxM v k h) (v 1 0).toNatClampNeg (1001 - ((v 1 0).toNatClampNeg + h.toNatClampNeg)) else -2) else -1
theorem wi_1 {h : Int32} (h1 : wi h 1 12) : 1 ≤ h.toNatClampNeg := by
  have hs := wi_sm (n := 12) h1 (by decide) (by decide)
  have h2 := h1.1
  rw [sm_eq hs] at h2
  change ¬ oN _ < oN 1 at h2
  rw [oN_lt (by have := hs.2; omega) (by decide)] at h2
  omega

def sp_M_next : Nat → Sp := spL [(119, f_M_isKite), (95, f_M_in), (138, f_M_isCalled), (99, f_M_atKite)]
theorem sp_M_next_M_isKite : sp_M_next 119 = f_M_isKite := rfl
theorem sp_M_next_M_in : sp_M_next 95 = f_M_in := rfl
theorem sp_M_next_M_isCalled : sp_M_next 138 = f_M_isCalled := rfl
theorem sp_M_next_M_atKite : sp_M_next 99 = f_M_atKite := rfl
def f_M_next : Sp := aS 9 (fun _ => 126) 2 (gL2 (fun _ k h σ => (sm (σ 8 1 0) 1000 ∧ sm (σ 8 1 6) 16, some (.int (neM (σ 8) k h)), σ)))
theorem q_M_next {k h : Int32} {σ : SG} : f_M_next [.ref 126, .int k, .int h] (emb σ) = (sm (σ 8 1 0) 1000 ∧ sm (σ 8 1 6) 16, some (.int (neM (σ 8) k h)), emb (σ)) := aS2_at (ad := (fun _ => 126)) (i := hI 126) (by decide) rfl
set_option maxHeartbeats 600000 in
set_option maxRecDepth 20000 in
theorem ok_M_next : SpecOK 156 f_M_next := SpecOK.of (sp := sp_M_next) (by decide) (by decide) (spL_ok (List.forall_mem_cons.mpr ⟨ok_M_isKite, (List.forall_mem_cons.mpr ⟨ok_M_in, (List.forall_mem_cons.mpr ⟨ok_M_isCalled, (List.forall_mem_cons.mpr ⟨ok_M_atKite, (fun q h => absurd h List.not_mem_nil)⟩)⟩)⟩)⟩)) (Does_aS2 (Nat.le_of_ble_eq_true rfl) (fun sc i k h σ hi had hp => by
  refine Vf_q ?_ ⟨rfl, rfl⟩
  intro Q hQ
  dsimp only at hQ hp
  show Vf 156 _ _ 0 [.ref (126), .int k, .int h, .null] [] (emb σ) _

  simp only [rM_next_0, rM_next_1, rM_next_2, rM_next_5, rM_next_8, rM_next_9, rM_next_10, rM_next_11, rM_next_12, rM_next_14, rM_next_17, rM_next_20, rM_next_22, rM_next_23, rM_next_24, rM_next_27, rM_next_28, rM_next_29, ct1_i, ct1_r, ct1_n, true_and, and_true, tl_s, tl_n, le4_0, le4_1, le4_2, le4_3, le4_4, le4_5, isO_r, cl_, emb1, emb2, le_rN, up1_at, up1_up1, sp_M_next_M_isKite, sp_M_next_M_in, sp_M_next_M_isCalled, sp_M_next_M_atKite, obM, mr_0, mr_1, mr_2, mr_3, mr_5, mr_7, mr_11, mi_0, mi_1, mi_2, mi_3, mi_4, mi_5, mi_6, smi_0, smi_1, smi_2, smi_3, smi_4, smi_5, smi_6, fok_i, fok_b1, rb_0, rb_1, rb_bi, bi_eq0, rb_b2, b2_0, ite_not, isO_r, Option.toList, List.cons_append, List.nil_append, q_M_in, q_M_atKite, q_M_atSpool, q_M_atHire, q_M_tail, il_0, tn_0, il_1, tn_1, il_2, tn_2, il_3, tn_3, il_4, tn_4, il_5, tn_5, il_6, tn_6, il_7, tn_7, il_8, tn_8, il_9, tn_9, il_10, tn_10, il_11, tn_11, il_12, tn_12, il_13, tn_13, il_14, tn_14, il_15, tn_15, il_16, tn_16, il_17, tn_17, il_1257, tn_1257, il_1258, tn_1258, il_1259, tn_1259, il_1260, tn_1260, sm2_0, sm2_1, sm2_2, sm6_0, sm6_1, sm6_2, sm6_3, sm6_4, sm6_5, sm6_6, m1_ok, m1_al, m1_rd, m1_re, m1_ln, m1_s, m6_ok, m6_al, m6_rd, m6_re, m6_ln, m6_s, m7_ok, m7_al, m7_rd, m7_re, m7_ln, m7_s, q_M_isKite]
  unfold neM at hQ
  rcases Decidable.em (wi k 0 (σ 8 1 6 - 1)) with h1 | h1
  case inr => rw [if_neg h1] at hQ ⊢; exact hQ
  rw [if_pos h1] at hQ ⊢
  rcases Decidable.em (wi h 1 12) with h2 | h2
  case inr => rw [if_neg h2] at hQ ⊢; exact hQ
  rw [if_pos h2] at hQ ⊢
  have := lp_M_next sp_M_next_M_atKite sp_M_next_M_isCalled (sc := sc) (k := k) (wi_sub (by decide) hp.2 h1) (wi_sm (n := 12) h2 (by decide) (by decide)) (wi_1 h2) σ _ (σ 8 1 0).toNatClampNeg rfl (by have := hp.1.2; omega) hQ
  rw [← sm_eq hp.1] at this
  exact this))
def hsM (v : HV) (k : Int32) : Nat → Nat → Int32 → Int32
  | _, 0, _ => -5
  | n, m + 1, w => if flP v k (v 1 (17 + n)) then (if w + v 1 (17 + n) * uk v k 3 < v 1 2 then hsM v k (n + 1) m (w + v 1 (17 + n) * uk v k 3) else oN n - v 1 0 + 1) else hsM v k (n + 1) m w
set_option maxHeartbeats 1000000 in
set_option maxRecDepth 20000 in
theorem lp_M_snapsIn {sp : Nat → Sp} (h99 : sp 99 = f_M_atKite) (h142 : sp 142 = f_M_flies) {sc : Nat × (Nat → Int32)} {a b k : Int32} {Q : Option Value → MS → Prop} (hk : sm k 15) (σ : SG) : ∀ (m n : Nat) (w : Int32), n + m = 1000 → Q (some (.int (hsM (σ 8) k n m w))) (emb σ) → Vf 157 sp ((134, SLT), sc) 46 [.ref 126, .int a, .int b, .int k, .int w, .int (oN n)] [] (emb σ) Q := by
  intro m
  induction m with
  | zero =>
    intro n w hn hQ
    have : ¬ oN n < 1000 := by show ¬ oN n < oN 1000; rw [oN_lt (by omega) (by decide)]; omega
    rw [rM_snapsIn_46]
    simp only [rM_snapsIn_48, rM_snapsIn_51, rM_snapsIn_127, rM_snapsIn_129, ct1_i, ct1_r, ct1_n, true_and, and_true, tl_s, tl_n, le4_0, le4_1, le4_2, le4_3, le4_4, le4_5, isO_r, if_neg this]
    exact hQ
  | succ m ih =>
    intro n w hn hQ
    have : oN n < 1000 := by show oN n < oN 1000; rw [oN_lt (by omega) (by decide)]; omega
    simp only [hsM] at hQ
    rw [rM_snapsIn_46]
    simp only [rM_snapsIn_48, rM_snapsIn_51, rM_snapsIn_54, rM_snapsIn_55, rM_snapsIn_56, rM_snapsIn_57, rM_snapsIn_60, rM_snapsIn_62, rM_snapsIn_64, rM_snapsIn_65, rM_snapsIn_66, rM_snapsIn_69, rM_snapsIn_72, rM_snapsIn_74, rM_snapsIn_75, rM_snapsIn_78, rM_snapsIn_80, rM_snapsIn_82, rM_snapsIn_83, rM_snapsIn_84, rM_snapsIn_85, rM_snapsIn_88, rM_snapsIn_89, rM_snapsIn_90, rM_snapsIn_93, rM_snapsIn_94, rM_snapsIn_95, rM_snapsIn_96, rM_snapsIn_98, rM_snapsIn_100, rM_snapsIn_101, rM_snapsIn_104, rM_snapsIn_105, rM_snapsIn_106, rM_snapsIn_109, rM_snapsIn_111, rM_snapsIn_112, rM_snapsIn_115, rM_snapsIn_116, rM_snapsIn_117, rM_snapsIn_118, rM_snapsIn_119, rM_snapsIn_120, rM_snapsIn_121, rM_snapsIn_124, ct1_i, ct1_r, ct1_n, true_and, and_true, tl_s, tl_n, le4_0, le4_1, le4_2, le4_3, le4_4, le4_5, isO_r, cl_, emb1, emb2, le_rN, h99, h142, obM, mr_0, mr_1, mr_2, mr_3, mr_5, mr_7, mr_11, mi_0, mi_1, mi_2, mi_3, mi_4, mi_5, mi_6, smi_0, smi_1, smi_2, smi_3, smi_4, smi_5, smi_6, fok_i, fok_b1, rb_0, rb_1, rb_bi, bi_eq0, rb_b2, b2_0, ite_not, isO_r, Option.toList, List.cons_append, List.nil_append, q_M_in, q_M_atKite, q_M_atSpool, q_M_atHire, q_M_tail, il_0, tn_0, il_1, tn_1, il_2, tn_2, il_3, tn_3, il_4, tn_4, il_5, tn_5, il_6, tn_6, il_7, tn_7, il_8, tn_8, il_9, tn_9, il_10, tn_10, il_11, tn_11, il_12, tn_12, il_13, tn_13, il_14, tn_14, il_15, tn_15, il_16, tn_16, il_17, tn_17, il_1257, tn_1257, il_1258, tn_1258, il_1259, tn_1259, il_1260, tn_1260, sm2_0, sm2_1, sm2_2, sm6_0, sm6_1, sm6_2, sm6_3, sm6_4, sm6_5, sm6_6, m1_ok, m1_al, m1_rd, m1_re, m1_ln, m1_s, m6_ok, m6_al, m6_rd, m6_re, m6_ln, m6_s, m7_ok, m7_al, m7_rd, m7_re, m7_ln, m7_s, q_M_flies, hk, if_pos this, i17n, oNn (show 17 + n < 1289 by omega) (by decide), iin_n (show 17 + n < 1289 by omega) (by decide), iK_3 hk, oN_succ]
    rcases Decidable.em (flP (σ 8) k (σ 8 1 (17 + n))) with h1 | h1
    · rw [if_pos h1] at hQ ⊢
      rcases Decidable.em (w + σ 8 1 (17 + n) * uk (σ 8) k 3 < σ 8 1 2) with h2 | h2
      · rw [if_pos h2] at hQ ⊢
        exact ih (n + 1) _ (by omega) hQ
      · rw [if_neg h2] at hQ ⊢
        exact hQ
    · rw [if_neg h1] at hQ ⊢
      exact ih (n + 1) _ (by omega) hQ
def siM (v : HV) (x : Int32) : Int32 := if plF v x = -5 then -1 else hsM v (uh v (plF v x) 1) (v 1 0).toNatClampNeg (1000 - (v 1 0).toNatClampNeg) (us v (uh v (plF v x) 2) 1)
def sp_M_snapsIn : Nat → Sp := spL [(125, f_M_placeOf), (126, f_M_of), (100, f_M_atSpool), (142, f_M_flies), (99, f_M_atKite)]
theorem sp_M_snapsIn_M_placeOf : sp_M_snapsIn 125 = f_M_placeOf := rfl
theorem sp_M_snapsIn_M_of : sp_M_snapsIn 126 = f_M_of := rfl
theorem sp_M_snapsIn_M_atSpool : sp_M_snapsIn 100 = f_M_atSpool := rfl
theorem sp_M_snapsIn_M_flies : sp_M_snapsIn 142 = f_M_flies := rfl
theorem sp_M_snapsIn_M_atKite : sp_M_snapsIn 99 = f_M_atKite := rfl
def f_M_snapsIn : Sp := aS 9 (fun _ => 126) 1 (gL1 (fun _ x σ => (sm (σ 8 1 0) 1000 ∧ sm (σ 8 1 16) 10 ∧ (¬ plF (σ 8) x = -5 → sm (uh (σ 8) (plF (σ 8) x) 1) 15 ∧ sm (uh (σ 8) (plF (σ 8) x) 2) 9), some (.int (siM (σ 8) x)), σ)))
theorem q_M_snapsIn {x : Int32} {σ : SG} : f_M_snapsIn [.ref 126, .int x] (emb σ) = (sm (σ 8 1 0) 1000 ∧ sm (σ 8 1 16) 10 ∧ (¬ plF (σ 8) x = -5 → sm (uh (σ 8) (plF (σ 8) x) 1) 15 ∧ sm (uh (σ 8) (plF (σ 8) x) 2) 9), some (.int (siM (σ 8) x)), emb (σ)) := aS1_at (ad := (fun _ => 126)) (i := hI 126) (by decide) rfl
set_option maxHeartbeats 600000 in
set_option maxRecDepth 20000 in
theorem ok_M_snapsIn : SpecOK 157 f_M_snapsIn := SpecOK.of (sp := sp_M_snapsIn) (by decide) (by decide) (spL_ok (List.forall_mem_cons.mpr ⟨ok_M_placeOf, (List.forall_mem_cons.mpr ⟨ok_M_of, (List.forall_mem_cons.mpr ⟨ok_M_atSpool, (List.forall_mem_cons.mpr ⟨ok_M_flies, (List.forall_mem_cons.mpr ⟨ok_M_atKite, (fun q h => absurd h List.not_mem_nil)⟩)⟩)⟩)⟩)⟩)) (Does_aS1 (Nat.le_of_ble_eq_true rfl) (fun sc i x σ hi had hp => by
  refine Vf_q ?_ ⟨rfl, rfl⟩
  intro Q hQ
  dsimp only at hQ hp
  show Vf 157 _ _ 0 [.ref (126), .int x, .null, .null, .null, .null] [] (emb σ) _

  unfold siM at hQ
  rcases Decidable.em (plF (σ 8) x = -5) with h1 | h1
  · rw [if_pos h1] at hQ
    simp only [rM_snapsIn_0, rM_snapsIn_1, rM_snapsIn_2, rM_snapsIn_5, rM_snapsIn_6, rM_snapsIn_7, rM_snapsIn_9, rM_snapsIn_12, rM_snapsIn_13, ct1_i, ct1_r, ct1_n, true_and, and_true, tl_s, tl_n, le4_0, le4_1, le4_2, le4_3, le4_4, le4_5, isO_r, cl_, emb1, emb2, le_rN, up1_at, up1_up1, sp_M_snapsIn_M_placeOf, sp_M_snapsIn_M_of, sp_M_snapsIn_M_atSpool, sp_M_snapsIn_M_flies, sp_M_snapsIn_M_atKite, obM, mr_0, mr_1, mr_2, mr_3, mr_5, mr_7, mr_11, mi_0, mi_1, mi_2, mi_3, mi_4, mi_5, mi_6, smi_0, smi_1, smi_2, smi_3, smi_4, smi_5, smi_6, fok_i, fok_b1, rb_0, rb_1, rb_bi, bi_eq0, rb_b2, b2_0, ite_not, isO_r, Option.toList, List.cons_append, List.nil_append, q_M_in, q_M_atKite, q_M_atSpool, q_M_atHire, q_M_tail, il_0, tn_0, il_1, tn_1, il_2, tn_2, il_3, tn_3, il_4, tn_4, il_5, tn_5, il_6, tn_6, il_7, tn_7, il_8, tn_8, il_9, tn_9, il_10, tn_10, il_11, tn_11, il_12, tn_12, il_13, tn_13, il_14, tn_14, il_15, tn_15, il_16, tn_16, il_17, tn_17, il_1257, tn_1257, il_1258, tn_1258, il_1259, tn_1259, il_1260, tn_1260, sm2_0, sm2_1, sm2_2, sm6_0, sm6_1, sm6_2, sm6_3, sm6_4, sm6_5, sm6_6, m1_ok, m1_al, m1_rd, m1_re, m1_ln, m1_s, m6_ok, m6_al, m6_rd, m6_re, m6_ln, m6_s, m7_ok, m7_al, m7_rd, m7_re, m7_ln, m7_s, q_M_placeOf, hp.2.1, if_pos h1]
    exact hQ
  · have hs := plF_sm hp.2.1 h1
    have h3 := hp.2.2 h1
    rw [if_neg h1] at hQ
    simp only [rM_snapsIn_0, rM_snapsIn_1, rM_snapsIn_2, rM_snapsIn_5, rM_snapsIn_6, rM_snapsIn_7, rM_snapsIn_9, rM_snapsIn_12, rM_snapsIn_13, rM_snapsIn_14, rM_snapsIn_15, rM_snapsIn_16, rM_snapsIn_17, rM_snapsIn_20, rM_snapsIn_21, rM_snapsIn_22, rM_snapsIn_25, rM_snapsIn_26, rM_snapsIn_27, rM_snapsIn_28, rM_snapsIn_31, rM_snapsIn_32, rM_snapsIn_35, rM_snapsIn_36, rM_snapsIn_38, rM_snapsIn_39, rM_snapsIn_42, rM_snapsIn_43, rM_snapsIn_44, ct1_i, ct1_r, ct1_n, true_and, and_true, tl_s, tl_n, le4_0, le4_1, le4_2, le4_3, le4_4, le4_5, isO_r, cl_, emb1, emb2, le_rN, up1_at, up1_up1, sp_M_snapsIn_M_placeOf, sp_M_snapsIn_M_of, sp_M_snapsIn_M_atSpool, sp_M_snapsIn_M_flies, sp_M_snapsIn_M_atKite, obM, mr_0, mr_1, mr_2, mr_3, mr_5, mr_7, mr_11, mi_0, mi_1, mi_2, mi_3, mi_4, mi_5, mi_6, smi_0, smi_1, smi_2, smi_3, smi_4, smi_5, smi_6, fok_i, fok_b1, rb_0, rb_1, rb_bi, bi_eq0, rb_b2, b2_0, ite_not, isO_r, Option.toList, List.cons_append, List.nil_append, q_M_in, q_M_atKite, q_M_atSpool, q_M_atHire, q_M_tail, il_0, tn_0, il_1, tn_1, il_2, tn_2, il_3, tn_3, il_4, tn_4, il_5, tn_5, il_6, tn_6, il_7, tn_7, il_8, tn_8, il_9, tn_9, il_10, tn_10, il_11, tn_11, il_12, tn_12, il_13, tn_13, il_14, tn_14, il_15, tn_15, il_16, tn_16, il_17, tn_17, il_1257, tn_1257, il_1258, tn_1258, il_1259, tn_1259, il_1260, tn_1260, sm2_0, sm2_1, sm2_2, sm6_0, sm6_1, sm6_2, sm6_3, sm6_4, sm6_5, sm6_6, m1_ok, m1_al, m1_rd, m1_re, m1_ln, m1_s, m6_ok, m6_al, m6_rd, m6_re, m6_ln, m6_s, m7_ok, m7_al, m7_rd, m7_re, m7_ln, m7_s, q_M_placeOf, q_M_of, hp.2.1, if_neg h1, hs, iS_1 h3.2]
    rw [sm_eq hp.1]
    refine lp_M_snapsIn sp_M_snapsIn_M_atKite sp_M_snapsIn_M_flies h3.1 σ (1000 - (σ 8 1 0).toNatClampNeg) _ _ (by have := hp.1.2; omega) hQ))
def psV (v : HV) (h : Int32) : Int32 × HV := if wi h 1 99 then (if 1000 < v 1 0 + h then (-3, v) else pmM h.toNatClampNeg 0 (knM v)) else (-2, v)
def sp_M_pass : Nat → Sp := spL [(95, f_M_in), (116, f_M_know), (165, f_M_passes)]
theorem sp_M_pass_M_in : sp_M_pass 95 = f_M_in := rfl
theorem sp_M_pass_M_know : sp_M_pass 116 = f_M_know := rfl
theorem sp_M_pass_M_passes : sp_M_pass 165 = f_M_passes := rfl
def f_M_pass : Sp := aS 9 (fun _ => 126) 1 (gL1 (fun _ h σ => (sm (σ 8 0 1) 4 ∧ (wi h 1 99 → ¬ 1000 < σ 8 1 0 + h → pmP h.toNatClampNeg 0 (knM (σ 8))), some (.int (psV (σ 8) h).1), up1 σ 8 (psV (σ 8) h).2)))
theorem q_M_pass {h : Int32} {σ : SG} : f_M_pass [.ref 126, .int h] (emb σ) = (sm (σ 8 0 1) 4 ∧ (wi h 1 99 → ¬ 1000 < σ 8 1 0 + h → pmP h.toNatClampNeg 0 (knM (σ 8))), some (.int (psV (σ 8) h).1), emb (up1 σ 8 (psV (σ 8) h).2)) := aS1_at (ad := (fun _ => 126)) (i := hI 126) (by decide) rfl
set_option maxHeartbeats 600000 in
set_option maxRecDepth 20000 in
theorem ok_M_pass : SpecOK 169 f_M_pass := SpecOK.of (sp := sp_M_pass) (by decide) (by decide) (spL_ok (List.forall_mem_cons.mpr ⟨ok_M_in, (List.forall_mem_cons.mpr ⟨ok_M_know, (List.forall_mem_cons.mpr ⟨ok_M_passes, (fun q h => absurd h List.not_mem_nil)⟩)⟩)⟩)) (Does_aS1 (Nat.le_of_ble_eq_true rfl) (fun sc i h σ hi had hp => by
  refine Vf_q ?_ ⟨rfl, rfl⟩
  intro Q hQ
  dsimp only at hQ hp
  show Vf 169 _ _ 0 [.ref (126), .int h] [] (emb σ) _

  simp only [rM_pass_0, rM_pass_1, rM_pass_2, rM_pass_4, rM_pass_7, rM_pass_10, rM_pass_12, rM_pass_13, rM_pass_14, rM_pass_17, rM_pass_18, rM_pass_19, rM_pass_20, rM_pass_21, rM_pass_24, rM_pass_27, rM_pass_29, rM_pass_30, rM_pass_31, rM_pass_34, rM_pass_35, rM_pass_36, rM_pass_39, ct1_i, ct1_r, ct1_n, true_and, and_true, tl_s, tl_n, le4_0, le4_1, le4_2, le4_3, le4_4, le4_5, isO_r, cl_, emb1, emb2, le_rN, up1_at, up1_up1, sp_M_pass_M_in, sp_M_pass_M_know, sp_M_pass_M_passes, obM, mr_0, mr_1, mr_2, mr_3, mr_5, mr_7, mr_11, mi_0, mi_1, mi_2, mi_3, mi_4, mi_5, mi_6, smi_0, smi_1, smi_2, smi_3, smi_4, smi_5, smi_6, fok_i, fok_b1, rb_0, rb_1, rb_bi, bi_eq0, rb_b2, b2_0, ite_not, isO_r, Option.toList, List.cons_append, List.nil_append, q_M_in, q_M_atKite, q_M_atSpool, q_M_atHire, q_M_tail, il_0, tn_0, il_1, tn_1, il_2, tn_2, il_3, tn_3, il_4, tn_4, il_5, tn_5, il_6, tn_6, il_7, tn_7, il_8, tn_8, il_9, tn_9, il_10, tn_10, il_11, tn_11, il_12, tn_12, il_13, tn_13, il_14, tn_14, il_15, tn_15, il_16, tn_16, il_17, tn_17, il_1257, tn_1257, il_1258, tn_1258, il_1259, tn_1259, il_1260, tn_1260, sm2_0, sm2_1, sm2_2, sm6_0, sm6_1, sm6_2, sm6_3, sm6_4, sm6_5, sm6_6, m1_ok, m1_al, m1_rd, m1_re, m1_ln, m1_s, m6_ok, m6_al, m6_rd, m6_re, m6_ln, m6_s, m7_ok, m7_al, m7_rd, m7_re, m7_ln, m7_s, q_M_know, q_M_passes, hp.1]
  unfold psV at hQ
  rcases Decidable.em (wi h 1 99) with h1 | h1
  case inr => rw [if_neg h1] at hQ ⊢; dsimp only at hQ; rw [up1_self] at hQ; exact hQ
  rw [if_pos h1] at hQ ⊢
  rcases Decidable.em (1000 < σ 8 1 0 + h) with h2 | h2
  case inl => rw [if_pos h2] at hQ ⊢; dsimp only at hQ; rw [up1_self] at hQ; exact hQ
  rw [if_neg h2] at hQ ⊢
  have hs := wi_sm (n := 99) h1 (by decide) (by decide)
  exact ⟨⟨⟨hs.1, by have := hs.2; omega⟩, hp.2 h1 h2⟩, hQ⟩))
