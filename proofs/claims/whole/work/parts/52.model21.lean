/-! THE CHECK: through the text: fault, tellAll -/
def g0M (v : HV) : HV := up2 (up2 (up2 (up2 v 0 3 0) 0 4 0) 0 5 (v 1 0)) 0 6 0
def gs1 (d : Int32) (v : HV) : HV := if d = 0 then up2 (rpM v) 0 6 0 else up2 (doM (rpM v)).2 0 6 (doM (rpM v)).1
abbrev gsC (v : HV) : Prop := v 0 6 = 0 ∧ v 0 4 = 0 ∧ v 0 3 < v 0 2
def goL (d : Int32) : Nat → Int32 → HV → Int32 × HV
  | 0, n, v => (n, v)
  | m + 1, n, v => if gsC (gs1 d v) then (if tkM (gs1 d v) 59 59 0 4 = 0 then goL d m (n + 1) (tkM (gs1 d v) 59 59) else (n + 1, tkM (gs1 d v) 59 59)) else (n + 1, gs1 d v)
def goP (d : Int32) : Nat → HV → Prop
  | 0, _ => True
  | m + 1, v => (¬ d = 0 → doP (rpM v)) ∧ (gsC (gs1 d v) → tkM (gs1 d v) 59 59 0 4 = 0 → goP d m (tkM (gs1 d v) 59 59))
theorem goP_0 : ∀ (m : Nat) (v : HV), goP 0 m v := by
  intro m
  induction m with
  | zero => intro v; exact trivial
  | succ m ih => intro v; exact ⟨fun q => absurd rfl q, fun _ _ => ih _⟩
theorem gs1_P {d : Int32} {v : HV} {p : Nat} (h : tP v p) : tP (gs1 d v) p := by
  unfold gs1
  have h1 := rpM_P h
  split
  · exact tP_c h1 (by rw [up2_nt (by decide)]) (by rw [up2_nt (by decide)])
  · exact tP_c h1 (by rw [up2_nt (by decide), doM_k (by decide) (by decide)]) (by rw [up2_nt (by decide), doM_k (by decide) (by decide)])
set_option maxHeartbeats 1000000 in
set_option maxRecDepth 20000 in
theorem lp_M_goes {sp : Nat → Sp} (h128 : sp 128 = f_M_takes) (h162 : sp 162 = f_M_readPart) (h145 : sp 145 = f_M_does) {sc : Nat × (Nat → Int32)} {d : Int32} {Q : Option Value → MS → Prop} : ∀ (m p : Nat) (n : Int32) (u : Value) (σ : SG), ct1 u → tP (σ 8) p → p + m = 60 → goP d (m + 1) (σ 8) → Q (some (.int (goL d (m + 1) n (σ 8)).1)) (emb (up1 σ 8 (goL d (m + 1) n (σ 8)).2)) → Vf 166 sp ((134, SLT), sc) 29 [.ref 126, .int d, .int n, .int 1, u] [] (emb σ) Q := by
  have ex : ∀ (n : Int32) (u : Value) (σ : SG), Q (some (.int n)) (emb σ) → Vf 166 sp ((134, SLT), sc) 29 [.ref 126, .int d, .int n, .int 0, u] [] (emb σ) Q := by
    intro n u σ hQ
    simp only [rM_goes_29, rM_goes_30, rM_goes_117, rM_goes_118, ct1_i, ct1_r, ct1_n, true_and, and_true, tl_s, tl_n, le4_0, le4_1, le4_2, le4_3, le4_4, le4_5, isO_r, n00, if_true]
    exact hQ
  have tail : ∀ (m p : Nat) (n : Int32) (u : Value) (σ : SG), ct1 u → tP (σ 8) p → p + m = 60 → (∀ (m' p' : Nat) (n : Int32) (u : Value) (σ : SG), m = m' + 1 → p' = p + 1 → ct1 u → tP (σ 8) p' → goP d (m' + 1) (σ 8) → Q (some (.int (goL d (m' + 1) n (σ 8)).1)) (emb (up1 σ 8 (goL d (m' + 1) n (σ 8)).2)) → Vf 166 sp ((134, SLT), sc) 29 [.ref 126, .int d, .int n, .int 1, u] [] (emb σ) Q) → (gsC (σ 8) → tkM (σ 8) 59 59 0 4 = 0 → goP d m (tkM (σ 8) 59 59)) → Q (some (.int (if gsC (σ 8) then (if tkM (σ 8) 59 59 0 4 = 0 then goL d m n (tkM (σ 8) 59 59) else (n, tkM (σ 8) 59 59)) else (n, σ 8)).1)) (emb (up1 σ 8 (if gsC (σ 8) then (if tkM (σ 8) 59 59 0 4 = 0 then goL d m n (tkM (σ 8) 59 59) else (n, tkM (σ 8) 59 59)) else (n, σ 8)).2)) → Vf 166 sp ((134, SLT), sc) 56 [.ref 126, .int d, .int n, .int 1, u] [] (emb σ) Q := by
    intro m p n u σ hu h hp ih hg hQ
    have hz : Q (some (.int n)) (emb σ) → (if (1 : Int32) = 1 then Vf 166 sp ((134, SLT), sc) 85 [.ref 126, .int d, .int n, .int 1, u] [] (emb σ) Q else True) := by
      intro hq
      rw [if_pos rfl]
      simp only [rM_goes_85, rM_goes_86, rM_goes_87, rM_goes_88, ct1_i, ct1_r, ct1_n, true_and, and_true, tl_s, tl_n, le4_0, le4_1, le4_2, le4_3, le4_4, le4_5, isO_r, n00, if_true]
      exact ex n u σ hq
    rw [if_pos rfl] at hz
    simp only [rM_goes_56, rM_goes_57, rM_goes_60, rM_goes_63, rM_goes_64, rM_goes_67, rM_goes_70, rM_goes_71, rM_goes_74, rM_goes_75, rM_goes_78, ct1_i, ct1_r, ct1_n, true_and, and_true, tl_s, tl_n, le4_0, le4_1, le4_2, le4_3, le4_4, le4_5, isO_r, obM, mr_0, mr_1, mr_2, mr_3, mr_5, mr_7, mr_11, mi_0, mi_1, mi_2, mi_3, mi_4, mi_5, mi_6, smi_0, smi_1, smi_2, smi_3, smi_4, smi_5, smi_6, fok_i, fok_b1, rb_0, rb_1, rb_bi, bi_eq0, rb_b2, b2_0, ite_not, isO_r, Option.toList, List.cons_append, List.nil_append, q_M_in, q_M_atKite, q_M_atSpool, q_M_atHire, q_M_tail, il_0, tn_0, il_1, tn_1, il_2, tn_2, il_3, tn_3, il_4, tn_4, il_5, tn_5, il_6, tn_6, il_7, tn_7, il_8, tn_8, il_9, tn_9, il_10, tn_10, il_11, tn_11, il_12, tn_12, il_13, tn_13, il_14, tn_14, il_15, tn_15, il_16, tn_16, il_17, tn_17, il_1257, tn_1257, il_1258, tn_1258, il_1259, tn_1259, il_1260, tn_1260, sm2_0, sm2_1, sm2_2, sm6_0, sm6_1, sm6_2, sm6_3, sm6_4, sm6_5, sm6_6, m1_ok, m1_al, m1_rd, m1_re, m1_ln, m1_s, m6_ok, m6_al, m6_rd, m6_re, m6_ln, m6_s, m7_ok, m7_al, m7_rd, m7_re, m7_ln, m7_s]
    rcases Decidable.em (σ 8 0 6 = 0) with h6 | h6
    case inr =>
      rw [if_neg (fun q => h6 q.1)] at hQ
      dsimp only at hQ
      rw [up1_self] at hQ
      rw [if_neg h6]
      exact hz hQ
    rw [if_pos h6]
    rcases Decidable.em (σ 8 0 4 = 0) with h4 | h4
    case inr =>
      rw [if_neg (fun q => h4 q.2.1)] at hQ
      dsimp only at hQ
      rw [up1_self] at hQ
      rw [if_neg h4]
      exact hz hQ
    rw [if_pos h4]
    rcases Decidable.em (σ 8 0 3 < σ 8 0 2) with h3 | h3
    case inr =>
      rw [if_neg (fun q => h3 q.2.2)] at hQ
      dsimp only at hQ
      rw [up1_self] at hQ
      rw [if_neg h3]
      exact hz hQ
    rw [if_pos h3]
    have hC : gsC (σ 8) := ⟨h6, h4, h3⟩
    rw [if_pos hC] at hQ
    simp only [rM_goes_81, rM_goes_82, rM_goes_85, rM_goes_86, rM_goes_87, rM_goes_88, rM_goes_91, rM_goes_92, rM_goes_94, rM_goes_96, rM_goes_99, rM_goes_101, rM_goes_102, rM_goes_105, rM_goes_108, rM_goes_109, rM_goes_112, rM_goes_113, rM_goes_114, ct1_i, ct1_r, ct1_n, true_and, and_true, tl_s, tl_n, le4_0, le4_1, le4_2, le4_3, le4_4, le4_5, isO_r, cl_, emb1, emb2, le_rN, up1_at, up1_up1, h128, obM, mr_0, mr_1, mr_2, mr_3, mr_5, mr_7, mr_11, mi_0, mi_1, mi_2, mi_3, mi_4, mi_5, mi_6, smi_0, smi_1, smi_2, smi_3, smi_4, smi_5, smi_6, fok_i, fok_b1, rb_0, rb_1, rb_bi, bi_eq0, rb_b2, b2_0, ite_not, isO_r, Option.toList, List.cons_append, List.nil_append, q_M_in, q_M_atKite, q_M_atSpool, q_M_atHire, q_M_tail, il_0, tn_0, il_1, tn_1, il_2, tn_2, il_3, tn_3, il_4, tn_4, il_5, tn_5, il_6, tn_6, il_7, tn_7, il_8, tn_8, il_9, tn_9, il_10, tn_10, il_11, tn_11, il_12, tn_12, il_13, tn_13, il_14, tn_14, il_15, tn_15, il_16, tn_16, il_17, tn_17, il_1257, tn_1257, il_1258, tn_1258, il_1259, tn_1259, il_1260, tn_1260, sm2_0, sm2_1, sm2_2, sm6_0, sm6_1, sm6_2, sm6_3, sm6_4, sm6_5, sm6_6, m1_ok, m1_al, m1_rd, m1_re, m1_ln, m1_s, m6_ok, m6_al, m6_rd, m6_re, m6_ln, m6_s, m7_ok, m7_al, m7_rd, m7_re, m7_ln, m7_s, q_M_takes, tP_0 h, n00, n10, if_true, if_false, eq_true hu]
    rcases Decidable.em (tkM (σ 8) 59 59 0 4 = 0) with h5 | h5
    · rw [if_pos h5] at hQ ⊢
      have h8 := tk_P1 h (by decide) h5
      have h9 := (tP_lt h).mp h3
      have hA := h.1.2
      have hB := h.2.2.1
      obtain ⟨m', rfl⟩ : ∃ m', m = m' + 1 := ⟨m - 1, by omega⟩
      refine ih m' (p + 1) n _ _ rfl rfl (of_eq_true (ct1_i _)) ?_ ?_ ?_
      · rw [up1_at]; exact h8
      · rw [up1_at]; exact hg hC h5
      · rw [up1_at, up1_up1]; exact hQ
    · rw [if_neg h5] at hQ ⊢
      exact ex n _ _ hQ
  intro m
  induction m with
  | zero =>
    intro p n u σ hu h hp hg hQ
    rw [rM_goes_29]
    simp only [rM_goes_30, rM_goes_33, rM_goes_34, rM_goes_37, rM_goes_38, rM_goes_39, rM_goes_42, rM_goes_43, rM_goes_46, rM_goes_49, rM_goes_50, rM_goes_53, ct1_i, ct1_r, ct1_n, true_and, and_true, tl_s, tl_n, le4_0, le4_1, le4_2, le4_3, le4_4, le4_5, isO_r, cl_, emb1, emb2, le_rN, up1_at, up1_up1, h162, h145, obM, mr_0, mr_1, mr_2, mr_3, mr_5, mr_7, mr_11, mi_0, mi_1, mi_2, mi_3, mi_4, mi_5, mi_6, smi_0, smi_1, smi_2, smi_3, smi_4, smi_5, smi_6, fok_i, fok_b1, rb_0, rb_1, rb_bi, bi_eq0, rb_b2, b2_0, ite_not, isO_r, Option.toList, List.cons_append, List.nil_append, q_M_in, q_M_atKite, q_M_atSpool, q_M_atHire, q_M_tail, il_0, tn_0, il_1, tn_1, il_2, tn_2, il_3, tn_3, il_4, tn_4, il_5, tn_5, il_6, tn_6, il_7, tn_7, il_8, tn_8, il_9, tn_9, il_10, tn_10, il_11, tn_11, il_12, tn_12, il_13, tn_13, il_14, tn_14, il_15, tn_15, il_16, tn_16, il_17, tn_17, il_1257, tn_1257, il_1258, tn_1258, il_1259, tn_1259, il_1260, tn_1260, sm2_0, sm2_1, sm2_2, sm6_0, sm6_1, sm6_2, sm6_3, sm6_4, sm6_5, sm6_6, m1_ok, m1_al, m1_rd, m1_re, m1_ln, m1_s, m6_ok, m6_al, m6_rd, m6_re, m6_ln, m6_s, m7_ok, m7_al, m7_rd, m7_re, m7_ln, m7_s, q_M_readPart, q_M_does, tP_0 h, n10, if_false]
    have hg1 := hg.1
    have hg2 := hg.2
    unfold goL at hQ
    unfold gs1 at hQ hg2
    rcases Decidable.em (d = 0) with h1 | h1
    · rw [if_pos h1]
      simp only [if_pos h1] at hQ hg2
      refine tail 0 p _ _ _ hu ?_ hp (fun m' p' n u σ e => absurd e (by omega)) ?_ ?_
      · rw [up1_at]
        have := gs1_P (d := d) h
        unfold gs1 at this
        rw [if_pos h1] at this
        exact this
      · rw [up1_at]
        exact hg2
      · rw [up1_at, up1_up1]
        exact hQ
    · rw [if_neg h1]
      simp only [if_neg h1] at hQ hg2
      refine ⟨hg1 h1, ?_⟩
      refine tail 0 p _ _ _ hu ?_ hp (fun m' p' n u σ e => absurd e (by omega)) ?_ ?_
      · rw [up1_at]
        have := gs1_P (d := d) h
        unfold gs1 at this
        rw [if_neg h1] at this
        exact this
      · rw [up1_at]
        exact hg2
      · rw [up1_at, up1_up1]
        exact hQ
  | succ m ih =>
    intro p n u σ hu h hp hg hQ
    rw [rM_goes_29]
    simp only [rM_goes_30, rM_goes_33, rM_goes_34, rM_goes_37, rM_goes_38, rM_goes_39, rM_goes_42, rM_goes_43, rM_goes_46, rM_goes_49, rM_goes_50, rM_goes_53, ct1_i, ct1_r, ct1_n, true_and, and_true, tl_s, tl_n, le4_0, le4_1, le4_2, le4_3, le4_4, le4_5, isO_r, cl_, emb1, emb2, le_rN, up1_at, up1_up1, h162, h145, obM, mr_0, mr_1, mr_2, mr_3, mr_5, mr_7, mr_11, mi_0, mi_1, mi_2, mi_3, mi_4, mi_5, mi_6, smi_0, smi_1, smi_2, smi_3, smi_4, smi_5, smi_6, fok_i, fok_b1, rb_0, rb_1, rb_bi, bi_eq0, rb_b2, b2_0, ite_not, isO_r, Option.toList, List.cons_append, List.nil_append, q_M_in, q_M_atKite, q_M_atSpool, q_M_atHire, q_M_tail, il_0, tn_0, il_1, tn_1, il_2, tn_2, il_3, tn_3, il_4, tn_4, il_5, tn_5, il_6, tn_6, il_7, tn_7, il_8, tn_8, il_9, tn_9, il_10, tn_10, il_11, tn_11, il_12, tn_12, il_13, tn_13, il_14, tn_14, il_15, tn_15, il_16, tn_16, il_17, tn_17, il_1257, tn_1257, il_1258, tn_1258, il_1259, tn_1259, il_1260, tn_1260, sm2_0, sm2_1, sm2_2, sm6_0, sm6_1, sm6_2, sm6_3, sm6_4, sm6_5, sm6_6, m1_ok, m1_al, m1_rd, m1_re, m1_ln, m1_s, m6_ok, m6_al, m6_rd, m6_re, m6_ln, m6_s, m7_ok, m7_al, m7_rd, m7_re, m7_ln, m7_s, q_M_readPart, q_M_does, tP_0 h, n10, if_false]
    have hg1 := hg.1
    have hg2 := hg.2
    rw [show goL d (m + 1 + 1) n (σ 8) = (if gsC (gs1 d (σ 8)) then (if tkM (gs1 d (σ 8)) 59 59 0 4 = 0 then goL d (m + 1) (n + 1) (tkM (gs1 d (σ 8)) 59 59) else (n + 1, tkM (gs1 d (σ 8)) 59 59)) else (n + 1, gs1 d (σ 8))) from rfl] at hQ
    have ih' : ∀ (m' p' : Nat) (n : Int32) (u : Value) (σ : SG), m + 1 = m' + 1 → p' = p + 1 → ct1 u → tP (σ 8) p' → goP d (m' + 1) (σ 8) → Q (some (.int (goL d (m' + 1) n (σ 8)).1)) (emb (up1 σ 8 (goL d (m' + 1) n (σ 8)).2)) → Vf 166 sp ((134, SLT), sc) 29 [.ref 126, .int d, .int n, .int 1, u] [] (emb σ) Q := by
      intro m' p' n u σ e1 e2 hu h hg hQ
      have : m = m' := by omega
      subst this
      exact ih p' n u σ hu h (by omega) hg hQ
    unfold gs1 at hQ hg2
    rcases Decidable.em (d = 0) with h1 | h1
    · rw [if_pos h1]
      simp only [if_pos h1] at hQ hg2
      refine tail (m + 1) p _ _ _ hu ?_ hp ih' ?_ ?_
      · rw [up1_at]
        have := gs1_P (d := d) h
        unfold gs1 at this
        rw [if_pos h1] at this
        exact this
      · rw [up1_at]
        exact hg2
      · rw [up1_at, up1_up1]
        exact hQ
    · rw [if_neg h1]
      simp only [if_neg h1] at hQ hg2
      refine ⟨hg1 h1, ?_⟩
      refine tail (m + 1) p _ _ _ hu ?_ hp ih' ?_ ?_
      · rw [up1_at]
        have := gs1_P (d := d) h
        unfold gs1 at this
        rw [if_neg h1] at this
        exact this
      · rw [up1_at]
        exact hg2
      · rw [up1_at, up1_up1]
        exact hQ
def goM (v : HV) (d : Int32) : Int32 × HV := goL d 61 0 (g0M v)
theorem g0M_P {v : HV} (h : sm (v 0 2) 60) : tP (g0M v) 0 := by
  have e2 : g0M v 0 2 = v 0 2 := by
    unfold g0M
    rw [up2_nt (by decide), up2_nt (by decide), up2_nt (by decide), up2_nt (by decide)]
  have e3 : g0M v 0 3 = 0 := by
    unfold g0M
    rw [up2_nt (by decide), up2_nt (by decide), up2_nt (by decide), up2_at]
  unfold tP
  rw [e2, e3]
  exact ⟨h, ⟨by decide, by decide⟩, by decide, Nat.zero_le _⟩

def sp_M_goes : Nat → Sp := spL [(162, f_M_readPart), (145, f_M_does), (128, f_M_takes)]
theorem sp_M_goes_M_readPart : sp_M_goes 162 = f_M_readPart := rfl
theorem sp_M_goes_M_does : sp_M_goes 145 = f_M_does := rfl
theorem sp_M_goes_M_takes : sp_M_goes 128 = f_M_takes := rfl
def f_M_goes : Sp := aS 9 (fun _ => 126) 1 (gL1 (fun _ d σ => (sm (σ 8 0 2) 60 ∧ goP d 61 (g0M (σ 8)), some (.int (goM (σ 8) d).1), up1 σ 8 (goM (σ 8) d).2)))
theorem q_M_goes {d : Int32} {σ : SG} : f_M_goes [.ref 126, .int d] (emb σ) = (sm (σ 8 0 2) 60 ∧ goP d 61 (g0M (σ 8)), some (.int (goM (σ 8) d).1), emb (up1 σ 8 (goM (σ 8) d).2)) := aS1_at (ad := (fun _ => 126)) (i := hI 126) (by decide) rfl
set_option maxHeartbeats 4000000 in
set_option maxRecDepth 20000 in
theorem ok_M_goes : SpecOK 166 f_M_goes := SpecOK.of (sp := sp_M_goes) (by decide) (by decide) (spL_ok (List.forall_mem_cons.mpr ⟨ok_M_readPart, (List.forall_mem_cons.mpr ⟨ok_M_does, (List.forall_mem_cons.mpr ⟨ok_M_takes, (fun q h => absurd h List.not_mem_nil)⟩)⟩)⟩)) (Does_aS1 (Nat.le_of_ble_eq_true rfl) (fun sc i d σ hi had hp => by
  refine Vf_q ?_ ⟨rfl, rfl⟩
  intro Q hQ
  dsimp only at hQ hp
  show Vf 166 _ _ 0 [.ref (126), .int d, .null, .null, .null] [] (emb σ) _

  have g1 : ∀ v : HV, up2 (up2 (up2 (up2 v 0 3 0) 0 4 0) 0 5 (up2 (up2 v 0 3 0) 0 4 0 1 0)) 0 6 0 = g0M v := by
    intro v
    unfold g0M
    rw [up2_kn (k' := 1) (by decide), up2_kn (k' := 1) (by decide)]
  simp only [rM_goes_0, rM_goes_1, rM_goes_2, rM_goes_5, rM_goes_6, rM_goes_7, rM_goes_10, rM_goes_11, rM_goes_12, rM_goes_15, rM_goes_16, rM_goes_17, rM_goes_20, rM_goes_21, rM_goes_22, rM_goes_25, rM_goes_26, rM_goes_27, rM_goes_28, ct1_i, ct1_r, ct1_n, true_and, and_true, tl_s, tl_n, le4_0, le4_1, le4_2, le4_3, le4_4, le4_5, isO_r, cl_, emb1, emb2, le_rN, up1_at, up1_up1, sp_M_goes_M_readPart, sp_M_goes_M_does, sp_M_goes_M_takes, obM, mr_0, mr_1, mr_2, mr_3, mr_5, mr_7, mr_11, mi_0, mi_1, mi_2, mi_3, mi_4, mi_5, mi_6, smi_0, smi_1, smi_2, smi_3, smi_4, smi_5, smi_6, fok_i, fok_b1, rb_0, rb_1, rb_bi, bi_eq0, rb_b2, b2_0, ite_not, isO_r, Option.toList, List.cons_append, List.nil_append, q_M_in, q_M_atKite, q_M_atSpool, q_M_atHire, q_M_tail, il_0, tn_0, il_1, tn_1, il_2, tn_2, il_3, tn_3, il_4, tn_4, il_5, tn_5, il_6, tn_6, il_7, tn_7, il_8, tn_8, il_9, tn_9, il_10, tn_10, il_11, tn_11, il_12, tn_12, il_13, tn_13, il_14, tn_14, il_15, tn_15, il_16, tn_16, il_17, tn_17, il_1257, tn_1257, il_1258, tn_1258, il_1259, tn_1259, il_1260, tn_1260, sm2_0, sm2_1, sm2_2, sm6_0, sm6_1, sm6_2, sm6_3, sm6_4, sm6_5, sm6_6, m1_ok, m1_al, m1_rd, m1_re, m1_ln, m1_s, m6_ok, m6_al, m6_rd, m6_re, m6_ln, m6_s, m7_ok, m7_al, m7_rd, m7_re, m7_ln, m7_s, fok_b0, g1]
  refine lp_M_goes sp_M_goes_M_takes sp_M_goes_M_readPart sp_M_goes_M_does 60 0 _ _ _ (of_eq_true ct1_n) ?_ rfl ?_ ?_
  · rw [up1_at]; exact g0M_P hp.1
  · rw [up1_at]; exact hp.2
  · rw [up1_at, up1_up1]; exact hQ))
def fuM (v : HV) : HV := (goM v 0).2
def sp_M_fault : Nat → Sp := spL [(166, f_M_goes)]
theorem sp_M_fault_M_goes : sp_M_fault 166 = f_M_goes := rfl
def f_M_fault : Sp := aS 9 (fun _ => 126) 0 (gL0 (fun _  σ => (sm (σ 8 0 2) 60, some (.int (if fuM (σ 8) 0 4 = 0 then -5 else fuM (σ 8) 0 3)), up1 σ 8 (fuM (σ 8)))))
theorem q_M_fault {σ : SG} : f_M_fault [.ref 126] (emb σ) = (sm (σ 8 0 2) 60, some (.int (if fuM (σ 8) 0 4 = 0 then -5 else fuM (σ 8) 0 3)), emb (up1 σ 8 (fuM (σ 8)))) := aS0_at (ad := (fun _ => 126)) (i := hI 126) (by decide) rfl
set_option maxHeartbeats 4000000 in
set_option maxRecDepth 20000 in
theorem ok_M_fault : SpecOK 170 f_M_fault := SpecOK.of (sp := sp_M_fault) (by decide) (by decide) (spL_ok (List.forall_mem_cons.mpr ⟨ok_M_goes, (fun q h => absurd h List.not_mem_nil)⟩)) (Does_aS0 (Nat.le_of_ble_eq_true rfl) (fun sc i  σ hi had hp => by
  refine Vf_q ?_ ⟨rfl, rfl⟩
  intro Q hQ
  dsimp only at hQ hp
  show Vf 170 _ _ 0 [.ref (126), .null] [] (emb σ) _

  have g1 : ∀ v : HV, (goM v 0).2 = fuM v := fun _ => rfl
  simp only [rM_fault_0, rM_fault_1, rM_fault_2, rM_fault_5, rM_fault_6, rM_fault_7, rM_fault_10, rM_fault_13, rM_fault_14, rM_fault_17, rM_fault_20, rM_fault_22, ct1_i, ct1_r, ct1_n, true_and, and_true, tl_s, tl_n, le4_0, le4_1, le4_2, le4_3, le4_4, le4_5, isO_r, cl_, emb1, emb2, le_rN, up1_at, up1_up1, sp_M_fault_M_goes, obM, mr_0, mr_1, mr_2, mr_3, mr_5, mr_7, mr_11, mi_0, mi_1, mi_2, mi_3, mi_4, mi_5, mi_6, smi_0, smi_1, smi_2, smi_3, smi_4, smi_5, smi_6, fok_i, fok_b1, rb_0, rb_1, rb_bi, bi_eq0, rb_b2, b2_0, ite_not, isO_r, Option.toList, List.cons_append, List.nil_append, q_M_in, q_M_atKite, q_M_atSpool, q_M_atHire, q_M_tail, il_0, tn_0, il_1, tn_1, il_2, tn_2, il_3, tn_3, il_4, tn_4, il_5, tn_5, il_6, tn_6, il_7, tn_7, il_8, tn_8, il_9, tn_9, il_10, tn_10, il_11, tn_11, il_12, tn_12, il_13, tn_13, il_14, tn_14, il_15, tn_15, il_16, tn_16, il_17, tn_17, il_1257, tn_1257, il_1258, tn_1258, il_1259, tn_1259, il_1260, tn_1260, sm2_0, sm2_1, sm2_2, sm6_0, sm6_1, sm6_2, sm6_3, sm6_4, sm6_5, sm6_6, m1_ok, m1_al, m1_rd, m1_re, m1_ln, m1_s, m6_ok, m6_al, m6_rd, m6_re, m6_ln, m6_s, m7_ok, m7_al, m7_rd, m7_re, m7_ln, m7_s, q_M_goes, hp, goP_0, g1]
  rcases Decidable.em (fuM (σ 8) 0 4 = 0) with h1 | h1
  · rw [if_pos h1] at hQ ⊢
    exact hQ
  · rw [if_neg h1] at hQ ⊢
    exact hQ))
def ta2 (v : HV) : Int32 × HV := goM (lkM (fuM v)) 1
def taL (v : HV) : Int32 × HV :=
  if fuM v 0 4 = 0 then (if (ta2 v).2 0 6 < 0 then ((ta2 v).2 0 6, cpL 1 3 0 0 0 1289 (ta2 v).2) else ((ta2 v).1, rcM (ta2 v).2)) else (-100 - fuM v 0 3, fuM v)
def taP (v : HV) : Prop := sm (v 0 2) 60 ∧ (fuM v 0 4 = 0 → (sm (lkM (fuM v) 0 2) 60 ∧ goP 1 61 (g0M (lkM (fuM v)))) ∧ (¬ (ta2 v).2 0 6 < 0 → sm ((ta2 v).2 0 1) 4))
def sp_M_tellAll : Nat → Sp := spL [(166, f_M_goes), (96, f_M_looks), (98, f_M_records)]
theorem sp_M_tellAll_M_goes : sp_M_tellAll 166 = f_M_goes := rfl
theorem sp_M_tellAll_M_looks : sp_M_tellAll 96 = f_M_looks := rfl
theorem sp_M_tellAll_M_records : sp_M_tellAll 98 = f_M_records := rfl
def f_M_tellAll : Sp := aS 9 (fun _ => 126) 0 (gL0 (fun _  σ => (taP (σ 8), some (.int (taL (σ 8)).1), up1 σ 8 (taL (σ 8)).2)))
theorem q_M_tellAll {σ : SG} : f_M_tellAll [.ref 126] (emb σ) = (taP (σ 8), some (.int (taL (σ 8)).1), emb (up1 σ 8 (taL (σ 8)).2)) := aS0_at (ad := (fun _ => 126)) (i := hI 126) (by decide) rfl
set_option maxHeartbeats 4000000 in
set_option maxRecDepth 20000 in
theorem ok_M_tellAll : SpecOK 171 f_M_tellAll := SpecOK.of (sp := sp_M_tellAll) (by decide) (by decide) (spL_ok (List.forall_mem_cons.mpr ⟨ok_M_goes, (List.forall_mem_cons.mpr ⟨ok_M_looks, (List.forall_mem_cons.mpr ⟨ok_M_records, (fun q h => absurd h List.not_mem_nil)⟩)⟩)⟩)) (Does_aS0 (Nat.le_of_ble_eq_true rfl) (fun sc i  σ hi had hp => by
  refine Vf_q ?_ ⟨rfl, rfl⟩
  intro Q hQ
  dsimp only at hQ hp
  show Vf 171 _ _ 0 [.ref (126), .null, .null, .null] [] (emb σ) _

  have g1 : ∀ v : HV, (goM v 0).2 = fuM v := fun _ => rfl
  have g2 : ∀ v : HV, goM (lkM (fuM v)) 1 = ta2 v := fun _ => rfl
  simp only [rM_tellAll_0, rM_tellAll_1, rM_tellAll_2, rM_tellAll_5, rM_tellAll_6, rM_tellAll_7, rM_tellAll_10, rM_tellAll_13, rM_tellAll_15, rM_tellAll_16, rM_tellAll_19, rM_tellAll_20, rM_tellAll_21, rM_tellAll_22, rM_tellAll_25, rM_tellAll_26, rM_tellAll_27, rM_tellAll_30, rM_tellAll_31, rM_tellAll_32, rM_tellAll_35, rM_tellAll_38, rM_tellAll_39, rM_tellAll_70, rM_tellAll_71, rM_tellAll_74, rM_tellAll_75, ct1_i, ct1_r, ct1_n, true_and, and_true, tl_s, tl_n, le4_0, le4_1, le4_2, le4_3, le4_4, le4_5, isO_r, cl_, emb1, emb2, le_rN, up1_at, up1_up1, sp_M_tellAll_M_goes, sp_M_tellAll_M_looks, sp_M_tellAll_M_records, obM, mr_0, mr_1, mr_2, mr_3, mr_5, mr_7, mr_11, mi_0, mi_1, mi_2, mi_3, mi_4, mi_5, mi_6, smi_0, smi_1, smi_2, smi_3, smi_4, smi_5, smi_6, fok_i, fok_b1, rb_0, rb_1, rb_bi, bi_eq0, rb_b2, b2_0, ite_not, isO_r, Option.toList, List.cons_append, List.nil_append, q_M_in, q_M_atKite, q_M_atSpool, q_M_atHire, q_M_tail, il_0, tn_0, il_1, tn_1, il_2, tn_2, il_3, tn_3, il_4, tn_4, il_5, tn_5, il_6, tn_6, il_7, tn_7, il_8, tn_8, il_9, tn_9, il_10, tn_10, il_11, tn_11, il_12, tn_12, il_13, tn_13, il_14, tn_14, il_15, tn_15, il_16, tn_16, il_17, tn_17, il_1257, tn_1257, il_1258, tn_1258, il_1259, tn_1259, il_1260, tn_1260, sm2_0, sm2_1, sm2_2, sm6_0, sm6_1, sm6_2, sm6_3, sm6_4, sm6_5, sm6_6, m1_ok, m1_al, m1_rd, m1_re, m1_ln, m1_s, m6_ok, m6_al, m6_rd, m6_re, m6_ln, m6_s, m7_ok, m7_al, m7_rd, m7_re, m7_ln, m7_s, q_M_goes, q_M_looks, q_M_records, hp.1, goP_0, g1, g2]
  unfold taL at hQ
  rcases Decidable.em (fuM (σ 8) 0 4 = 0) with h1 | h1
  · have h2 := hp.2 h1
    rw [if_pos h1] at hQ ⊢
    refine ⟨h2.1, ?_⟩
    have h4 := h2.2
    clear h2 hp g1 g2 h1
    generalize ta2 (σ 8) = T at hQ h4 ⊢
    have h5 : T.2 0 6 < 0 ∨ ¬ T.2 0 6 < 0 := Decidable.em _
    rcases h5 with h3 | h3
    · rw [if_pos h3] at hQ ⊢
      refine lp_M_tellAll_40 (z := 0) (c := 0) (by decide) 1289 0 _ rfl ?_
      rw [up1_at, up1_up1]
      have e : cpL 1 3 0 0 0 1289 T.2 0 6 = T.2 0 6 := by rw [cpL_kn (by decide)]
      simp only [rM_tellAll_65, rM_tellAll_66, rM_tellAll_69, ct1_i, ct1_r, ct1_n, true_and, and_true, tl_s, tl_n, le4_0, le4_1, le4_2, le4_3, le4_4, le4_5, isO_r, up1_at, up1_up1, obM, mr_0, mr_1, mr_2, mr_3, mr_5, mr_7, mr_11, mi_0, mi_1, mi_2, mi_3, mi_4, mi_5, mi_6, smi_0, smi_1, smi_2, smi_3, smi_4, smi_5, smi_6, fok_i, fok_b1, rb_0, rb_1, rb_bi, bi_eq0, rb_b2, b2_0, ite_not, isO_r, Option.toList, List.cons_append, List.nil_append, q_M_in, q_M_atKite, q_M_atSpool, q_M_atHire, q_M_tail, il_0, tn_0, il_1, tn_1, il_2, tn_2, il_3, tn_3, il_4, tn_4, il_5, tn_5, il_6, tn_6, il_7, tn_7, il_8, tn_8, il_9, tn_9, il_10, tn_10, il_11, tn_11, il_12, tn_12, il_13, tn_13, il_14, tn_14, il_15, tn_15, il_16, tn_16, il_17, tn_17, il_1257, tn_1257, il_1258, tn_1258, il_1259, tn_1259, il_1260, tn_1260, sm2_0, sm2_1, sm2_2, sm6_0, sm6_1, sm6_2, sm6_3, sm6_4, sm6_5, sm6_6, m1_ok, m1_al, m1_rd, m1_re, m1_ln, m1_s, m6_ok, m6_al, m6_rd, m6_re, m6_ln, m6_s, m7_ok, m7_al, m7_rd, m7_re, m7_ln, m7_s, e]
      exact hQ
    · rw [if_neg h3] at hQ ⊢
      exact ⟨h4 h3, hQ⟩
  · rw [if_neg h1] at hQ ⊢
    exact hQ))
