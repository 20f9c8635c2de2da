/-! THE CHECK: winds, kites, spools, tails, settings -/
theorem knM_1 (v : HV) : knM v 1 = v 1 := by
  unfold knM rcM rc2 rc1
  rw [up2_kn (by decide), cpL_kn (by decide)]
  split
  · rw [up2_kn (by decide), cpL_kn (by decide)]
    exact cpL_kn (by decide) _ _ _
  · exact cpL_kn (by decide) _ _ _
/-- a wind is laid on hours -/
def lyF (x : Int32) : Nat → Nat → Int32 → HV → Int32 × HV
  | _, 0, c, v => (c, v)
  | n, m + 1, c, v => lyF x (n + 1) m (c + (if v 1 (17 + n) = x then 0 else 1)) (up2 v 1 (17 + n) x)
theorem i17n (n : Nat) : 17 + oN n = oN (17 + n) := by rw [show (17 : Int32) = oN 17 from rfl, oN_add]
set_option maxHeartbeats 600000 in
set_option maxRecDepth 20000 in
theorem lp_M_lays {sp : Nat → Sp} {sc : Nat × (Nat → Int32)} {a b x : Int32} {N : Nat} (hb : b = oN N - 1) (hN : N ≤ 1000) {Q : Option Value → MS → Prop} : ∀ (m n : Nat) (c : Int32) (σ : SG), n + m = N → (m ≠ 0 ∨ n ≠ 0 ∨ True) → Q (some (.int (lyF x n m c (σ 8)).1)) (emb (up1 σ 8 (lyF x n m c (σ 8)).2)) → Vf 97 sp ((134, SLT), sc) 6 [.ref 126, .int a, .int b, .int x, .int c, .int (oN n)] [] (emb σ) Q := by
  intro m
  have key : ∀ n, n ≤ 1000 → (b < oN n) = (N ≤ n) := by
    intro n hn
    rw [hb, Int32.lt_iff_toInt_lt, Int32.toInt_sub, oN_toInt (by omega), oN_toInt (by omega)]
    have : (1 : Int32).toInt = 1 := rfl
    rw [this, Int.bmod_eq_of_le (by omega) (by omega)]
    exact propext ⟨fun h => by omega, fun h => by omega⟩
  induction m with
  | zero =>
    intro n c σ hn _ hQ
    change Q _ (emb (up1 σ 8 (σ 8))) at hQ
    rw [up1_self] at hQ
    have : b < oN n := by rw [key n (by omega)]; omega
    rw [rM_lays_6]
    simp only [rM_lays_8, rM_lays_9, rM_lays_12, rM_lays_14, rM_lays_15, rM_lays_18, rM_lays_20, rM_lays_22, rM_lays_23, rM_lays_24, rM_lays_25, rM_lays_28, rM_lays_29, rM_lays_32, rM_lays_33, rM_lays_34, rM_lays_36, rM_lays_37, rM_lays_40, rM_lays_42, rM_lays_44, rM_lays_45, rM_lays_46, rM_lays_47, rM_lays_50, rM_lays_53, rM_lays_55, ct1_i, ct1_r, ct1_n, true_and, and_true, tl_s, tl_n, le4_0, le4_1, le4_2, le4_3, le4_4, le4_5, isO_r, if_pos this]
    exact hQ
  | succ m ih =>
    intro n c σ hn _ hQ
    have : ¬ b < oN n := by rw [key n (by omega)]; omega
    change Q (some (.int (lyF x (n + 1) m (c + (if σ 8 1 (17 + n) = x then 0 else 1)) (up2 (σ 8) 1 (17 + n) x)).1)) (emb (up1 σ 8 (lyF x (n + 1) m (c + (if σ 8 1 (17 + n) = x then 0 else 1)) (up2 (σ 8) 1 (17 + n) x)).2)) at hQ
    rw [rM_lays_6]
    simp only [rM_lays_8, rM_lays_9, rM_lays_12, rM_lays_14, rM_lays_15, rM_lays_18, rM_lays_20, rM_lays_22, rM_lays_23, rM_lays_24, rM_lays_25, rM_lays_28, rM_lays_29, rM_lays_32, rM_lays_33, rM_lays_34, rM_lays_36, rM_lays_37, rM_lays_40, rM_lays_42, rM_lays_44, rM_lays_45, rM_lays_46, rM_lays_47, rM_lays_50, rM_lays_53, rM_lays_55, ct1_i, ct1_r, ct1_n, true_and, and_true, tl_s, tl_n, le4_0, le4_1, le4_2, le4_3, le4_4, le4_5, isO_r, obM, mr_0, mr_1, mr_2, mr_3, mr_5, mr_7, mr_11, mi_0, mi_1, mi_2, mi_3, mi_4, mi_5, mi_6, smi_0, smi_1, smi_2, smi_3, smi_4, smi_5, smi_6, fok_i, fok_b1, rb_0, rb_1, rb_bi, bi_eq0, rb_b2, b2_0, ite_not, isO_r, Option.toList, List.cons_append, List.nil_append, q_M_in, q_M_atKite, q_M_atSpool, q_M_atHire, q_M_tail, il_0, tn_0, il_1, tn_1, il_2, tn_2, il_3, tn_3, il_4, tn_4, il_5, tn_5, il_6, tn_6, il_7, tn_7, il_8, tn_8, il_9, tn_9, il_10, tn_10, il_11, tn_11, il_12, tn_12, il_13, tn_13, il_14, tn_14, il_15, tn_15, il_16, tn_16, il_17, tn_17, il_1257, tn_1257, il_1258, tn_1258, il_1259, tn_1259, il_1260, tn_1260, sm2_0, sm2_1, sm2_2, sm6_0, sm6_1, sm6_2, sm6_3, sm6_4, sm6_5, sm6_6, m1_ok, m1_al, m1_rd, m1_re, m1_ln, m1_s, m6_ok, m6_al, m6_rd, m6_re, m6_ln, m6_s, m7_ok, m7_al, m7_rd, m7_re, m7_ln, m7_s, i17n, oNn (show 17 + n < 1289 by omega) (by decide), iin_n (show 17 + n < 1289 by omega) (by decide), if_neg this, oN_succ]
    rcases Decidable.em (σ 8 1 (17 + n) = x) with h | h
    · rw [if_pos h] at hQ ⊢
      refine ih (n + 1) _ _ (by omega) (Or.inr (Or.inr trivial)) ?_
      rw [up1_at, up1_up1]
      exact hQ
    · rw [if_neg h] at hQ ⊢
      refine ih (n + 1) _ _ (by omega) (Or.inr (Or.inr trivial)) ?_
      rw [up1_at, up1_up1]
      exact hQ
def laM (v : HV) (a b x : Int32) : Int32 × HV := lyF x a.toNatClampNeg ((b + 1).toNatClampNeg - a.toNatClampNeg) 0 v
abbrev laP (a b : Int32) : Prop := sm a 1000 ∧ b < 1000 ∧ sm (b + 1) 1000 ∧ a.toNatClampNeg ≤ (b + 1).toNatClampNeg

def sp_M_lays : Nat → Sp := spL []
def f_M_lays : Sp := aS 9 (fun _ => 126) 3 (gL3 (fun _ a b x σ => (laP a b, some (.int (laM (σ 8) a b x).1), up1 σ 8 (laM (σ 8) a b x).2)))
theorem q_M_lays {a b x : Int32} {σ : SG} : f_M_lays [.ref 126, .int a, .int b, .int x] (emb σ) = (laP a b, some (.int (laM (σ 8) a b x).1), emb (up1 σ 8 (laM (σ 8) a b x).2)) := aS3_at (ad := (fun _ => 126)) (i := hI 126) (by decide) rfl
set_option maxHeartbeats 600000 in
set_option maxRecDepth 20000 in
theorem ok_M_lays : SpecOK 97 f_M_lays := SpecOK.of (sp := sp_M_lays) (by decide) (by decide) (spL_ok (fun q h => absurd h List.not_mem_nil)) (Does_aS3 (Nat.le_of_ble_eq_true rfl) (fun sc i a b x σ hi had hp => by
  refine Vf_q ?_ ⟨rfl, rfl⟩
  intro Q hQ
  dsimp only at hQ hp
  show Vf 97 _ _ 0 [.ref (126), .int a, .int b, .int x, .null, .null] [] (emb σ) _

  have hp2 := hp.2.2.1.2
  have hb : b = oN (b + 1).toNatClampNeg - 1 := by
    rw [← sm_eq hp.2.2.1, Int32.sub_eq_add_neg, Int32.add_assoc, Int32.add_right_neg, Int32.add_zero]
  simp only [rM_lays_0, rM_lays_1, rM_lays_3, rM_lays_4, ct1_i, ct1_r, ct1_n, true_and, and_true, tl_s, tl_n, le4_0, le4_1, le4_2, le4_3, le4_4, le4_5, isO_r, cl_, emb1, emb2, le_rN, up1_at, up1_up1]
  have := lp_M_lays (sp := sp_M_lays) (sc := sc) (a := a) (x := x) hb hp2 ((b + 1).toNatClampNeg - a.toNatClampNeg) a.toNatClampNeg 0 σ (by have := hp.2.2.2; omega) (Or.inr (Or.inr trivial)) hQ
  rw [← sm_eq hp.1] at this
  exact this))
theorem i0 : (0 : Int32) < 1 := by decide
def wnM (v : HV) (a b x : Int32) : Int32 × HV :=
  if wi a (v 1 0) 999 then if wi b a 999 then if wi x 0 12 then
    (if 0 < (laM (lkM v) a b x).1 then ((laM (lkM v) a b x).1, rcM (laM (lkM v) a b x).2) else (-5, (laM (lkM v) a b x).2))
    else (-2, v) else (-2, v) else (-2, v)
theorem lyF_0 {x : Int32} {k : Fin 9} (hk : k ≠ 1) : ∀ (m n : Nat) (c : Int32) (v : HV), (lyF x n m c v).2 k = v k := by
  intro m
  induction m with
  | zero => intro n c v; rfl
  | succ m ih => intro n c v; unfold lyF; rw [ih, up2_kn hk]
def sp_M_wind : Nat → Sp := spL [(95, f_M_in), (96, f_M_looks), (97, f_M_lays), (98, f_M_records)]
theorem sp_M_wind_M_in : sp_M_wind 95 = f_M_in := rfl
theorem sp_M_wind_M_looks : sp_M_wind 96 = f_M_looks := rfl
theorem sp_M_wind_M_lays : sp_M_wind 97 = f_M_lays := rfl
theorem sp_M_wind_M_records : sp_M_wind 98 = f_M_records := rfl
def f_M_wind : Sp := aS 9 (fun _ => 126) 3 (gL3 (fun _ a b x σ => (sm (σ 8 1 0) 1000 ∧ sm (σ 8 0 1) 4, some (.int (wnM (σ 8) a b x).1), up1 σ 8 (wnM (σ 8) a b x).2)))
theorem q_M_wind {a b x : Int32} {σ : SG} : f_M_wind [.ref 126, .int a, .int b, .int x] (emb σ) = (sm (σ 8 1 0) 1000 ∧ sm (σ 8 0 1) 4, some (.int (wnM (σ 8) a b x).1), emb (up1 σ 8 (wnM (σ 8) a b x).2)) := aS3_at (ad := (fun _ => 126)) (i := hI 126) (by decide) rfl
set_option maxHeartbeats 600000 in
set_option maxRecDepth 20000 in
theorem ok_M_wind : SpecOK 115 f_M_wind := SpecOK.of (sp := sp_M_wind) (by decide) (by decide) (spL_ok (List.forall_mem_cons.mpr ⟨ok_M_in, (List.forall_mem_cons.mpr ⟨ok_M_looks, (List.forall_mem_cons.mpr ⟨ok_M_lays, (List.forall_mem_cons.mpr ⟨ok_M_records, (fun q h => absurd h List.not_mem_nil)⟩)⟩)⟩)⟩)) (Does_aS3 (Nat.le_of_ble_eq_true rfl) (fun sc i a b x σ hi had hp => by
  refine Vf_q ?_ ⟨rfl, rfl⟩
  intro Q hQ
  dsimp only at hQ hp
  show Vf 115 _ _ 0 [.ref (126), .int a, .int b, .int x, .null] [] (emb σ) _

  simp only [rM_wind_0, rM_wind_1, rM_wind_2, rM_wind_5, rM_wind_6, rM_wind_7, rM_wind_10, rM_wind_13, rM_wind_16, rM_wind_17, rM_wind_18, rM_wind_21, rM_wind_24, rM_wind_27, rM_wind_28, rM_wind_29, rM_wind_31, rM_wind_34, rM_wind_37, rM_wind_39, rM_wind_40, rM_wind_41, rM_wind_44, rM_wind_45, rM_wind_46, rM_wind_47, rM_wind_48, rM_wind_51, rM_wind_53, rM_wind_55, rM_wind_58, rM_wind_59, rM_wind_62, rM_wind_64, rM_wind_67, rM_wind_69, rM_wind_72, rM_wind_74, ct1_i, ct1_r, ct1_n, true_and, and_true, tl_s, tl_n, le4_0, le4_1, le4_2, le4_3, le4_4, le4_5, isO_r, cl_, emb1, emb2, le_rN, up1_at, up1_up1, sp_M_wind_M_in, sp_M_wind_M_looks, sp_M_wind_M_lays, sp_M_wind_M_records, obM, mr_0, mr_1, mr_2, mr_3, mr_5, mr_7, mr_11, mi_0, mi_1, mi_2, mi_3, mi_4, mi_5, mi_6, smi_0, smi_1, smi_2, smi_3, smi_4, smi_5, smi_6, fok_i, fok_b1, rb_0, rb_1, rb_bi, bi_eq0, rb_b2, b2_0, ite_not, isO_r, Option.toList, List.cons_append, List.nil_append, q_M_in, q_M_atKite, q_M_atSpool, q_M_atHire, q_M_tail, il_0, tn_0, il_1, tn_1, il_2, tn_2, il_3, tn_3, il_4, tn_4, il_5, tn_5, il_6, tn_6, il_7, tn_7, il_8, tn_8, il_9, tn_9, il_10, tn_10, il_11, tn_11, il_12, tn_12, il_13, tn_13, il_14, tn_14, il_15, tn_15, il_16, tn_16, il_17, tn_17, il_1257, tn_1257, il_1258, tn_1258, il_1259, tn_1259, il_1260, tn_1260, sm2_0, sm2_1, sm2_2, sm6_0, sm6_1, sm6_2, sm6_3, sm6_4, sm6_5, sm6_6, m1_ok, m1_al, m1_rd, m1_re, m1_ln, m1_s, m6_ok, m6_al, m6_rd, m6_re, m6_ln, m6_s, m7_ok, m7_al, m7_rd, m7_re, m7_ln, m7_s, q_M_looks, q_M_lays, q_M_records]
  unfold wnM at hQ
  have hs : ∀ w : HV, up1 σ 8 w = up1 σ 8 w := fun _ => rfl
  rcases Decidable.em (wi a (σ 8 1 0) 999) with h1 | h1
  case inr => rw [if_neg h1] at hQ ⊢; dsimp only at hQ; rw [up1_self] at hQ; exact hQ
  rw [if_pos h1] at hQ ⊢
  rcases Decidable.em (wi b a 999) with h2 | h2
  case inr => rw [if_neg h2] at hQ ⊢; dsimp only at hQ; rw [up1_self] at hQ; exact hQ
  rw [if_pos h2] at hQ ⊢
  rcases Decidable.em (wi x 0 12) with h3 | h3
  case inr => rw [if_neg h3] at hQ ⊢; dsimp only at hQ; rw [up1_self] at hQ; exact hQ
  rw [if_pos h3] at hQ ⊢
  have h4 := wi_999 hp.1.1 h1 h2
  refine ⟨h4, ?_⟩
  rcases Decidable.em (0 < (laM (lkM (σ 8)) a b x).1) with h5 | h5
  · rw [if_pos h5] at hQ ⊢
    refine ⟨?_, ?_⟩
    · unfold laM
      rw [lyF_0 (by decide), lkM_01]
      exact hp.2
    · rw [if_pos h5]
      exact hQ
  · rw [if_neg h5] at hQ ⊢
    rw [if_neg h5]
    exact hQ))
def cm0 (v : HV) : HV := inc v 6 1
def cmM (v : HV) (a b c d : Int32) : HV :=
  up2 (up2 (up2 (up2 (up2 (up2 (up2 (inc v 6 1) 1 (1017 + 7 * v 1 6 + 0).toNatClampNeg 0) 1 (1017 + 7 * v 1 6 + 1).toNatClampNeg a) 1 (1017 + 7 * v 1 6 + 2).toNatClampNeg b) 1 (1017 + 7 * v 1 6 + 3).toNatClampNeg c) 1 (1017 + 7 * v 1 6 + 4).toNatClampNeg d) 1 (1017 + 7 * v 1 6 + 5).toNatClampNeg 0) 1 (1017 + 7 * v 1 6 + 6).toNatClampNeg 0
def sp_M_comes : Nat → Sp := spL [(99, f_M_atKite)]
theorem sp_M_comes_M_atKite : sp_M_comes 99 = f_M_atKite := rfl
def f_M_comes : Sp := aS 9 (fun _ => 126) 4 (gL4 (fun _ a b c d σ => (sm (σ 8 1 6) 15, some (.int (σ 8 1 6)), up1 σ 8 (cmM (σ 8) a b c d))))
theorem q_M_comes {a b c d : Int32} {σ : SG} : f_M_comes [.ref 126, .int a, .int b, .int c, .int d] (emb σ) = (sm (σ 8 1 6) 15, some (.int (σ 8 1 6)), emb (up1 σ 8 (cmM (σ 8) a b c d))) := aS4_at (ad := (fun _ => 126)) (i := hI 126) (by decide) rfl
set_option maxHeartbeats 600000 in
set_option maxRecDepth 20000 in
theorem ok_M_comes : SpecOK 117 f_M_comes := SpecOK.of (sp := sp_M_comes) (by decide) (by decide) (spL_ok (List.forall_mem_cons.mpr ⟨ok_M_atKite, (fun q h => absurd h List.not_mem_nil)⟩)) (Does_aS4 (Nat.le_of_ble_eq_true rfl) (fun sc i a b c d σ hi had hp => by
  refine Vf_q ?_ ⟨rfl, rfl⟩
  intro Q hQ
  dsimp only at hQ hp
  show Vf 117 _ _ 0 [.ref (126), .int a, .int b, .int c, .int d, .null] [] (emb σ) _

  simp only [rM_comes_0, rM_comes_1, rM_comes_4, rM_comes_6, rM_comes_7, rM_comes_9, rM_comes_10, rM_comes_13, rM_comes_15, rM_comes_16, rM_comes_17, rM_comes_18, rM_comes_19, rM_comes_20, rM_comes_21, rM_comes_24, rM_comes_26, rM_comes_27, rM_comes_30, rM_comes_31, rM_comes_32, rM_comes_33, rM_comes_36, rM_comes_38, rM_comes_39, rM_comes_42, rM_comes_43, rM_comes_44, rM_comes_45, rM_comes_48, rM_comes_50, rM_comes_51, rM_comes_54, rM_comes_55, rM_comes_56, rM_comes_57, rM_comes_60, rM_comes_62, rM_comes_63, rM_comes_66, rM_comes_67, rM_comes_68, rM_comes_69, rM_comes_72, rM_comes_74, rM_comes_75, rM_comes_78, rM_comes_80, rM_comes_81, rM_comes_82, rM_comes_85, rM_comes_87, rM_comes_88, rM_comes_91, rM_comes_92, rM_comes_93, rM_comes_94, rM_comes_97, rM_comes_99, rM_comes_101, rM_comes_104, rM_comes_105, rM_comes_106, rM_comes_108, ct1_i, ct1_r, ct1_n, true_and, and_true, tl_s, tl_n, le4_0, le4_1, le4_2, le4_3, le4_4, le4_5, isO_r, cl_, emb1, emb2, le_rN, up1_at, up1_up1, sp_M_comes_M_atKite, obM, mr_0, mr_1, mr_2, mr_3, mr_5, mr_7, mr_11, mi_0, mi_1, mi_2, mi_3, mi_4, mi_5, mi_6, smi_0, smi_1, smi_2, smi_3, smi_4, smi_5, smi_6, fok_i, fok_b1, rb_0, rb_1, rb_bi, bi_eq0, rb_b2, b2_0, ite_not, isO_r, Option.toList, List.cons_append, List.nil_append, q_M_in, q_M_atKite, q_M_atSpool, q_M_atHire, q_M_tail, il_0, tn_0, il_1, tn_1, il_2, tn_2, il_3, tn_3, il_4, tn_4, il_5, tn_5, il_6, tn_6, il_7, tn_7, il_8, tn_8, il_9, tn_9, il_10, tn_10, il_11, tn_11, il_12, tn_12, il_13, tn_13, il_14, tn_14, il_15, tn_15, il_16, tn_16, il_17, tn_17, il_1257, tn_1257, il_1258, tn_1258, il_1259, tn_1259, il_1260, tn_1260, sm2_0, sm2_1, sm2_2, sm6_0, sm6_1, sm6_2, sm6_3, sm6_4, sm6_5, sm6_6, m1_ok, m1_al, m1_rd, m1_re, m1_ln, m1_s, m6_ok, m6_al, m6_rd, m6_re, m6_ln, m6_s, m7_ok, m7_al, m7_rd, m7_re, m7_ln, m7_s, iK_0 hp, iK_1 hp, iK_2 hp, iK_3 hp, iK_4 hp, iK_5 hp, iK_6 hp]
  exact hQ))
theorem ne_sm {x : Int32} {n : Nat} (h : sm x (n + 1)) (hn : n < 1000) (h2 : ¬ x = oN (n + 1)) : sm x n := by
  refine ⟨h.1, ?_⟩
  have h3 := h.2
  have : x.toNatClampNeg ≠ n + 1 := fun q => h2 (by rw [sm_eq h, q])
  omega
def kiM (v : HV) (a b c d : Int32) : Int32 × HV :=
  if wi a 0 12 then if wi b a 12 then if wi c 1 9 then if wi d 1 99 then
    (if v 1 6 = 16 then (-3, v) else (v 1 6, cmM (knM v) a b c d))
    else (-2, v) else (-2, v) else (-2, v) else (-2, v)
def sp_M_kite : Nat → Sp := spL [(95, f_M_in), (116, f_M_know), (117, f_M_comes)]
theorem sp_M_kite_M_in : sp_M_kite 95 = f_M_in := rfl
theorem sp_M_kite_M_know : sp_M_kite 116 = f_M_know := rfl
theorem sp_M_kite_M_comes : sp_M_kite 117 = f_M_comes := rfl
def f_M_kite : Sp := aS 9 (fun _ => 126) 4 (gL4 (fun _ a b c d σ => (sm (σ 8 1 6) 16 ∧ sm (σ 8 0 1) 4, some (.int (kiM (σ 8) a b c d).1), up1 σ 8 (kiM (σ 8) a b c d).2)))
theorem q_M_kite {a b c d : Int32} {σ : SG} : f_M_kite [.ref 126, .int a, .int b, .int c, .int d] (emb σ) = (sm (σ 8 1 6) 16 ∧ sm (σ 8 0 1) 4, some (.int (kiM (σ 8) a b c d).1), emb (up1 σ 8 (kiM (σ 8) a b c d).2)) := aS4_at (ad := (fun _ => 126)) (i := hI 126) (by decide) rfl
set_option maxHeartbeats 600000 in
set_option maxRecDepth 20000 in
theorem ok_M_kite : SpecOK 135 f_M_kite := SpecOK.of (sp := sp_M_kite) (by decide) (by decide) (spL_ok (List.forall_mem_cons.mpr ⟨ok_M_in, (List.forall_mem_cons.mpr ⟨ok_M_know, (List.forall_mem_cons.mpr ⟨ok_M_comes, (fun q h => absurd h List.not_mem_nil)⟩)⟩)⟩)) (Does_aS4 (Nat.le_of_ble_eq_true rfl) (fun sc i a b c d σ hi had hp => by
  refine Vf_q ?_ ⟨rfl, rfl⟩
  intro Q hQ
  dsimp only at hQ hp
  show Vf 135 _ _ 0 [.ref (126), .int a, .int b, .int c, .int d] [] (emb σ) _

  simp only [rM_kite_0, rM_kite_1, rM_kite_2, rM_kite_4, rM_kite_7, rM_kite_10, rM_kite_11, rM_kite_12, rM_kite_14, rM_kite_17, rM_kite_20, rM_kite_21, rM_kite_22, rM_kite_24, rM_kite_27, rM_kite_30, rM_kite_32, rM_kite_33, rM_kite_35, rM_kite_38, rM_kite_41, rM_kite_43, rM_kite_44, rM_kite_45, rM_kite_48, rM_kite_50, rM_kite_51, rM_kite_53, rM_kite_56, rM_kite_58, rM_kite_59, rM_kite_60, rM_kite_63, rM_kite_64, rM_kite_65, rM_kite_66, rM_kite_67, rM_kite_69, rM_kite_72, ct1_i, ct1_r, ct1_n, true_and, and_true, tl_s, tl_n, le4_0, le4_1, le4_2, le4_3, le4_4, le4_5, isO_r, cl_, emb1, emb2, le_rN, up1_at, up1_up1, sp_M_kite_M_in, sp_M_kite_M_know, sp_M_kite_M_comes, obM, mr_0, mr_1, mr_2, mr_3, mr_5, mr_7, mr_11, mi_0, mi_1, mi_2, mi_3, mi_4, mi_5, mi_6, smi_0, smi_1, smi_2, smi_3, smi_4, smi_5, smi_6, fok_i, fok_b1, rb_0, rb_1, rb_bi, bi_eq0, rb_b2, b2_0, ite_not, isO_r, Option.toList, List.cons_append, List.nil_append, q_M_in, q_M_atKite, q_M_atSpool, q_M_atHire, q_M_tail, il_0, tn_0, il_1, tn_1, il_2, tn_2, il_3, tn_3, il_4, tn_4, il_5, tn_5, il_6, tn_6, il_7, tn_7, il_8, tn_8, il_9, tn_9, il_10, tn_10, il_11, tn_11, il_12, tn_12, il_13, tn_13, il_14, tn_14, il_15, tn_15, il_16, tn_16, il_17, tn_17, il_1257, tn_1257, il_1258, tn_1258, il_1259, tn_1259, il_1260, tn_1260, sm2_0, sm2_1, sm2_2, sm6_0, sm6_1, sm6_2, sm6_3, sm6_4, sm6_5, sm6_6, m1_ok, m1_al, m1_rd, m1_re, m1_ln, m1_s, m6_ok, m6_al, m6_rd, m6_re, m6_ln, m6_s, m7_ok, m7_al, m7_rd, m7_re, m7_ln, m7_s, q_M_know, q_M_comes, hp.2, knM_1]
  unfold kiM at hQ
  rcases Decidable.em (wi a 0 12) with h1 | h1
  case inr => rw [if_neg h1] at hQ ⊢; dsimp only at hQ; rw [up1_self] at hQ; exact hQ
  rw [if_pos h1] at hQ ⊢
  rcases Decidable.em (wi b a 12) with h2 | h2
  case inr => rw [if_neg h2] at hQ ⊢; dsimp only at hQ; rw [up1_self] at hQ; exact hQ
  rw [if_pos h2] at hQ ⊢
  rcases Decidable.em (wi c 1 9) with h3 | h3
  case inr => rw [if_neg h3] at hQ ⊢; dsimp only at hQ; rw [up1_self] at hQ; exact hQ
  rw [if_pos h3] at hQ ⊢
  rcases Decidable.em (wi d 1 99) with h4 | h4
  case inr => rw [if_neg h4] at hQ ⊢; dsimp only at hQ; rw [up1_self] at hQ; exact hQ
  rw [if_pos h4] at hQ ⊢
  rcases Decidable.em (σ 8 1 6 = 16) with h5 | h5
  case inl => rw [if_pos h5] at hQ ⊢; dsimp only at hQ; rw [up1_self] at hQ; exact hQ
  rw [if_neg h5] at hQ ⊢
  exact ⟨ne_sm (n := 15) hp.1 (by decide) h5, hQ⟩))
