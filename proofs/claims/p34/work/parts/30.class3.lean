/-! THE CLASS: its methods with loops; an average -/
theorem n64_q {a b : Int32} (h : b ≠ 0) : vf_n64 (FP.ddiv (FP.i2d a) (FP.i2d b)) := by
  have h1 : Jvm.FP.Core.dIsNaN (FP.ddiv (FP.i2d a) (FP.i2d b)) = false := by
    refine Jvm.FP.Core.ddiv_out (Jvm.FP.Core.DFin.notNaN (Jvm.FP.Core.i2d_fin a)) (Jvm.FP.Core.i2d_fin b) ?_
    rw [Jvm.FP.Core.zero_bits2]
    exact Jvm.FP.Core.i2d_ne_zero h
  have h2 := (Jvm.FP.Core.ne_nan _).mp ((Jvm.FP.Core.notNaN_iff _).mp h1)
  unfold vf_n64
  rw [UInt64.le_iff_toNat_le, UInt64.toNat_and]
  show _ &&& (2 ^ 63 - 1) ≤ _
  rw [Nat.and_two_pow_sub_one_eq_mod]
  exact h2
theorem up2_kn {w : HV} {k k' : Fin 9} {t : Nat} {x : Int32} (h : k' ≠ k) : up2 w k t x k' = w k' := by
  funext j
  unfold up2
  rw [if_neg (fun q => h q.1)]
theorem pt_kn {w : HV} {k k' : Fin 9} {c r d x : Int32} {l : Nat} (h : k' ≠ k) : pt w k c l r d x k' = w k' := by
  unfold pt
  split
  · rfl
  · split
    · exact up2_kn h
    · rfl
theorem pa_kn {w : HV} {k k' : Fin 9} {c r d x : Int32} {l : Nat} (h : k' ≠ k) : pa w k c l r d x k' = w k' := by
  unfold pa
  split
  · rfl
  · split
    · exact up2_kn h
    · rfl
theorem rcW_7k (σ : SG) {k : Fin 9} (h : k ≠ 1) : rcW σ 7 k = σ 7 k := by
  rw [rcW_7, up2_kn h, up2_kn h]
theorem enH_84 (w : HV) (r y m : Int32) : enH w r y m 8 4 = w 8 4 - 1 := by
  unfold enH enH3 enH2 enH1
  rw [up2_at]
theorem fiH_84 (w : HV) (r : Int32) : fiH w r 8 4 = w 8 4 ∨ fiH w r 8 4 = w 8 4 - 1 := by
  unfold fiH fiH1
  split
  · left; rw [pa_kn (by decide)]
  · right; rw [enH_84, pa_kn (by decide)]
theorem tcH_84 (w : HV) (r c : Int32) : tcH w r c 8 4 = w 8 4 := by
  unfold tcH
  rw [up2_nt (by decide), pa_kn (by decide)]
theorem wrW_84 (w : HV) (r : Int32) : wrW w r 8 4 = w 8 4 := by
  unfold wrW
  rw [pa_kn (by decide), up2_nt (by decide), pa_kn (by decide)]
theorem phH_84 (w : HV) (r : Int32) : phH w r 8 4 = w 8 4 ∨ phH w r 8 4 = w 8 4 - 1 := by
  unfold phH
  split
  · right; rw [enH_84, tcH_84]
  · split
    · have := fiH_84 (tcH w r (-(kt w (hr w r 0) 4))) r
      rw [tcH_84] at this
      exact this
    · split
      · right
        unfold snH snH1
        rw [enH_84, up2_nt (by decide), pa_kn (by decide), pt_kn (by decide), pa_kn (by decide), pa_kn (by decide), wrW_84]
      · have := fiH_84 (wrW w r) r
        rw [wrW_84] at this
        exact this
theorem oN_pred {n : Nat} : oN (n + 1) - 1 = oN n := by
  rw [← oN_succ]
  have : oN n + 1 - 1 = oN n := by rw [Int32.sub_eq_add_neg, Int32.add_assoc, Int32.add_right_neg, Int32.add_zero]
  exact this
theorem psF_84 : ∀ (m r : Nat) (w : HV) (n : Nat), m ≤ n → n ≤ 10 → w 8 4 = oN n → ∃ q, q ≤ n ∧ psF w r m 8 4 = oN q := by
  intro m
  induction m with
  | zero => intro r w n _ _ h; exact ⟨n, Nat.le_refl _, h⟩
  | succ m ih =>
    intro r w n hm hn h
    show ∃ q, q ≤ n ∧ psF (phH w (oN r)) (if phH w (oN r) 8 5 = w 8 5 then r + 1 else r) m 8 4 = oN q
    rcases phH_84 w (oN r) with h1 | h1
    · exact ih _ _ n (by omega) hn (by rw [h1, h])
    · obtain ⟨n', rfl⟩ : ∃ n', n = n' + 1 := ⟨n - 1, by omega⟩
      obtain ⟨q, hq, e⟩ := ih (if phH w (oN r) 8 5 = w 8 5 then r + 1 else r) (phH w (oN r)) n' (by omega) (by omega) (by rw [h1, h, oN_pred])
      exact ⟨q, by omega, e⟩
theorem paH_sm {w : HV} (h : sm (w 8 4) 10) : sm (paH w 8 4) 10 := by
  obtain ⟨q, hq, e⟩ := psF_84 (w 8 4).toNatClampNeg 0 w (w 8 4).toNatClampNeg (Nat.le_refl _) h.2 (sm_eq h)
  have := h.2
  unfold paH
  rw [up2_nt (by decide), e]
  exact sm_oN (by omega) (by decide)
def phD (w : HV) : UInt64 := if 0 < w 8 7 then FP.ddiv (FP.i2d (w 8 6)) (FP.i2d (w 8 7)) else FP.dconst0

def sp_X_perHour : Nat → Sp := spL []
def f_X_perHour : Sp := aS 9 (fun _ => 0) 0 (gL0 (fun _  σ => (True, some (.double (phD (σ 0))), σ)))
theorem q_X_perHour {σ : SG} : f_X_perHour [.ref 0] (emb σ) = (True, some (.double (phD (σ 0))), emb (σ)) := aS0_at (ad := (fun _ => 0)) (i := hI 0) (by decide) rfl
set_option maxHeartbeats 4000000 in
set_option maxRecDepth 20000 in
theorem ok_X_perHour : SpecOK 58 f_X_perHour := SpecOK.of (sp := sp_X_perHour) (by decide) (by decide) (spL_ok (fun q h => absurd h List.not_mem_nil)) (Does_aS0 (Nat.le_of_ble_eq_true rfl) (fun sc i  σ hi had hp => by
  refine Vf_q ?_ ⟨rfl, rfl⟩
  intro Q hQ
  dsimp only at hQ hp
  show Vf 58 _ _ 0 [.ref (0)] [] (emb σ) _

  simp only [rX_perHour_0, rX_perHour_1, rX_perHour_4, rX_perHour_7, rX_perHour_10, rX_perHour_11, rX_perHour_14, rX_perHour_17, rX_perHour_18, rX_perHour_19, rX_perHour_22, rX_perHour_25, rX_perHour_26, rX_perHour_27, rX_perHour_30, rX_perHour_31, ct1_i, ct1_r, ct1_n, true_and, and_true, tl_s, tl_n, le4_0, le4_1, le4_2, le4_3, le4_4, le4_5, isO_r, cl_, emb1, emb2, le_rN, up1_at, up1_up1, obX, obP, obN, obQ, xr_0, xr_1, xr_2, xr_3, xr_4, ob_h i07, ob_h i17, ob_h i27, isO_r, fok_i, rb_0, rb_1, rb_bi, bi_eq0, rb_b2, b2_0, ite_not, ni_0, ni_1, pi_0, pi_1, xi_0, sxi_0, sni_0, q_X_within, Option.toList, List.cons_append, List.nil_append, vh_0 i07, vs_0 i07, vs_0 i17, ss_0 i07, obt_0 i07, qT_at_0 i07, qT_put_0 i07, qT_add_0 i07, vh_1 i07, vs_1 i07, vs_1 i17, ss_1 i07, obt_1 i07, qT_at_1 i07, qT_put_1 i07, qT_add_1 i07, vh_2 i07, vs_2 i07, vs_2 i17, ss_2 i07, obt_2 i07, qT_at_2 i07, qT_put_2 i07, qT_add_2 i07, vh_3 i07, vs_3 i07, vs_3 i17, ss_3 i07, obt_3 i07, qT_at_3 i07, qT_put_3 i07, qT_add_3 i07, vh_4 i07, vs_4 i07, vs_4 i17, ss_4 i07, obt_4 i07, qT_at_4 i07, qT_put_4 i07, qT_add_4 i07, vh_5 i07, vs_5 i07, vs_5 i17, ss_5 i07, obt_5 i07, qT_at_5 i07, qT_put_5 i07, qT_add_5 i07, vh_6 i07, vs_6 i07, vs_6 i17, ss_6 i07, obt_6 i07, qT_at_6 i07, qT_put_6 i07, qT_add_6 i07, vh_7 i07, vs_7 i07, vs_7 i17, ss_7 i07, obt_7 i07, qT_at_7 i07, qT_put_7 i07, qT_add_7 i07, vh_7 i17, obt_7 i17, qT_at_7 i17]
  unfold phD at hQ
  rcases Decidable.em (0 < σ 0 8 7) with h1 | h1
  case inr => rw [if_neg h1] at hQ ⊢; exact hQ
  rw [if_pos h1] at hQ ⊢
  exact ⟨n64_q (fun h => by rw [h] at h1; exact absurd h1 (by decide)), hQ⟩))
def nxP (w : HV) (k h : Int32) (n : Nat) : Bool := decide (¬ tooCP w k (oN n) ∧ ¬ exF (fun a => decide (tooWP w k (oN n + oN a))) 0 h.toNatClampNeg = true)
set_option maxHeartbeats 4000000 in
set_option maxRecDepth 20000 in
theorem lp_X_next {sp : Nat → Sp} (h27 : sp 27 = f_H_tooCalm) (h33 : sp 33 = f_H_anyTooWindy) {sc : Nat × (Nat → Int32)} {k h : Int32} {Q : Option Value → MS → Prop} (hh : sm h 12) (σ : SG) : ∀ (m n : Nat), m = 1001 - (n + h.toNatClampNeg) → n ≤ 1001 → Q (some (.int (fsF (nxP (σ 0) k h) n m))) (emb σ) → Vf 85 sp ((127, SLT), sc) 31 [.ref 0, .int k, .int h, .int (oN n)] [] (emb σ) Q := by
  intro m
  have hH := hh.2
  have he : ∀ n, oN n + h = oN (n + h.toNatClampNeg) := by intro n; rw [← oN_add, ← sm_eq hh]
  induction m with
  | zero =>
    intro n hm hn hQ
    have : 1000 < oN (n + h.toNatClampNeg) := by show oN 1000 < _; rw [oN_lt (by decide) (by omega)]; omega
    rw [rX_next_31]
    simp only [rX_next_32, rX_next_33, rX_next_34, rX_next_37, rX_next_40, rX_next_41, rX_next_44, rX_next_45, rX_next_46, rX_next_49, rX_next_52, rX_next_53, rX_next_56, rX_next_57, rX_next_58, rX_next_59, rX_next_62, rX_next_65, rX_next_66, rX_next_67, rX_next_70, rX_next_73, rX_next_75, ct1_i, ct1_r, ct1_n, true_and, and_true, tl_s, tl_n, le4_0, le4_1, le4_2, le4_3, le4_4, le4_5, isO_r, he, if_pos this]
    exact hQ
  | succ m ih =>
    intro n hm hn hQ
    have : ¬ 1000 < oN (n + h.toNatClampNeg) := by show ¬ oN 1000 < _; rw [oN_lt (by decide) (by omega)]; omega
    rw [rX_next_31]
    simp only [rX_next_32, rX_next_33, rX_next_34, rX_next_37, rX_next_40, rX_next_41, rX_next_44, rX_next_45, rX_next_46, rX_next_49, rX_next_52, rX_next_53, rX_next_56, rX_next_57, rX_next_58, rX_next_59, rX_next_62, rX_next_65, rX_next_66, rX_next_67, rX_next_70, rX_next_73, rX_next_75, ct1_i, ct1_r, ct1_n, true_and, and_true, tl_s, tl_n, le4_0, le4_1, le4_2, le4_3, le4_4, le4_5, isO_r, cl_, emb1, emb2, le_rN, h27, h33, obX, obP, obN, obQ, xr_0, xr_1, xr_2, xr_3, xr_4, ob_h i07, ob_h i17, ob_h i27, isO_r, fok_i, rb_0, rb_1, rb_bi, bi_eq0, rb_b2, b2_0, ite_not, ni_0, ni_1, pi_0, pi_1, xi_0, sxi_0, sni_0, q_X_within, Option.toList, List.cons_append, List.nil_append, vh_0 i07, vs_0 i07, vs_0 i17, ss_0 i07, obt_0 i07, qT_at_0 i07, qT_put_0 i07, qT_add_0 i07, vh_1 i07, vs_1 i07, vs_1 i17, ss_1 i07, obt_1 i07, qT_at_1 i07, qT_put_1 i07, qT_add_1 i07, vh_2 i07, vs_2 i07, vs_2 i17, ss_2 i07, obt_2 i07, qT_at_2 i07, qT_put_2 i07, qT_add_2 i07, vh_3 i07, vs_3 i07, vs_3 i17, ss_3 i07, obt_3 i07, qT_at_3 i07, qT_put_3 i07, qT_add_3 i07, vh_4 i07, vs_4 i07, vs_4 i17, ss_4 i07, obt_4 i07, qT_at_4 i07, qT_put_4 i07, qT_add_4 i07, vh_5 i07, vs_5 i07, vs_5 i17, ss_5 i07, obt_5 i07, qT_at_5 i07, qT_put_5 i07, qT_add_5 i07, vh_6 i07, vs_6 i07, vs_6 i17, ss_6 i07, obt_6 i07, qT_at_6 i07, qT_put_6 i07, qT_add_6 i07, vh_7 i07, vs_7 i07, vs_7 i17, ss_7 i07, obt_7 i07, qT_at_7 i07, qT_put_7 i07, qT_add_7 i07, vh_7 i17, obt_7 i17, qT_at_7 i17, q_H_tooCalm i07, q_H_anyTooWindy i07, hh, he, if_neg this, oN_succ]
    change Q (some (.int (if nxP (σ 0) k h n = true then oN n else fsF (nxP (σ 0) k h) (n + 1) m))) (emb σ) at hQ
    unfold nxP at hQ
    rcases Decidable.em (tooCP (σ 0) k (oN n)) with h1 | h1
    · rw [if_pos h1]
      refine ih (n + 1) (by omega) (by omega) ?_
      rw [if_neg (by rw [decide_eq_true_iff]; exact fun q => q.1 h1)] at hQ
      exact hQ
    · rw [if_neg h1]
      rcases Decidable.em (exF (fun a => decide (tooWP (σ 0) k (oN n + oN a))) 0 h.toNatClampNeg = true) with h2 | h2
      · rw [if_pos h2]
        refine ih (n + 1) (by omega) (by omega) ?_
        rw [if_neg (by rw [decide_eq_true_iff]; exact fun q => q.2 h2)] at hQ
        exact hQ
      · rw [if_neg h2]
        rw [if_pos (by rw [decide_eq_true_iff]; exact ⟨h1, h2⟩)] at hQ
        exact hQ
def neF (σ : SG) (k h : Int32) : Int32 := if wi k 0 (σ 0 8 1 - 1) then (if wi h 1 12 then fsF (nxP (σ 0) k h) (σ 0 8 0).toNatClampNeg (1001 - ((σ 0 8 0).toNatClampNeg + h.toNatClampNeg)) else -2) else -1
def sp_X_next : Nat → Sp := spL [(60, f_X_isKite), (56, f_X_within), (27, f_H_tooCalm), (33, f_H_anyTooWindy)]
theorem sp_X_next_X_isKite : sp_X_next 60 = f_X_isKite := rfl
theorem sp_X_next_X_within : sp_X_next 56 = f_X_within := rfl
theorem sp_X_next_H_tooCalm : sp_X_next 27 = f_H_tooCalm := rfl
theorem sp_X_next_H_anyTooWindy : sp_X_next 33 = f_H_anyTooWindy := rfl
def f_X_next : Sp := aS 9 (fun _ => 0) 2 (gL2 (fun _ k h σ => (sm (σ 0 8 0) 1000, some (.int (neF σ k h)), σ)))
theorem q_X_next {k h : Int32} {σ : SG} : f_X_next [.ref 0, .int k, .int h] (emb σ) = (sm (σ 0 8 0) 1000, some (.int (neF σ k h)), emb (σ)) := aS2_at (ad := (fun _ => 0)) (i := hI 0) (by decide) rfl
set_option maxHeartbeats 4000000 in
set_option maxRecDepth 20000 in
theorem ok_X_next : SpecOK 85 f_X_next := SpecOK.of (sp := sp_X_next) (by decide) (by decide) (spL_ok (List.forall_mem_cons.mpr ⟨ok_X_isKite, (List.forall_mem_cons.mpr ⟨ok_X_within, (List.forall_mem_cons.mpr ⟨ok_H_tooCalm, (List.forall_mem_cons.mpr ⟨ok_H_anyTooWindy, (fun q h => absurd h List.not_mem_nil)⟩)⟩)⟩)⟩)) (Does_aS2 (Nat.le_of_ble_eq_true rfl) (fun sc i k h σ hi had hp => by
  refine Vf_q ?_ ⟨rfl, rfl⟩
  intro Q hQ
  dsimp only at hQ hp
  show Vf 85 _ _ 0 [.ref (0), .int k, .int h, .null] [] (emb σ) _

  simp only [rX_next_0, rX_next_1, rX_next_2, rX_next_5, rX_next_8, rX_next_9, rX_next_10, rX_next_11, rX_next_12, rX_next_14, rX_next_17, rX_next_20, rX_next_22, rX_next_23, rX_next_24, rX_next_27, rX_next_30, ct1_i, ct1_r, ct1_n, true_and, and_true, tl_s, tl_n, le4_0, le4_1, le4_2, le4_3, le4_4, le4_5, isO_r, cl_, emb1, emb2, le_rN, up1_at, up1_up1, sp_X_next_X_isKite, sp_X_next_X_within, sp_X_next_H_tooCalm, sp_X_next_H_anyTooWindy, obX, obP, obN, obQ, xr_0, xr_1, xr_2, xr_3, xr_4, ob_h i07, ob_h i17, ob_h i27, isO_r, fok_i, rb_0, rb_1, rb_bi, bi_eq0, rb_b2, b2_0, ite_not, ni_0, ni_1, pi_0, pi_1, xi_0, sxi_0, sni_0, q_X_within, Option.toList, List.cons_append, List.nil_append, vh_0 i07, vs_0 i07, vs_0 i17, ss_0 i07, obt_0 i07, qT_at_0 i07, qT_put_0 i07, qT_add_0 i07, vh_1 i07, vs_1 i07, vs_1 i17, ss_1 i07, obt_1 i07, qT_at_1 i07, qT_put_1 i07, qT_add_1 i07, vh_2 i07, vs_2 i07, vs_2 i17, ss_2 i07, obt_2 i07, qT_at_2 i07, qT_put_2 i07, qT_add_2 i07, vh_3 i07, vs_3 i07, vs_3 i17, ss_3 i07, obt_3 i07, qT_at_3 i07, qT_put_3 i07, qT_add_3 i07, vh_4 i07, vs_4 i07, vs_4 i17, ss_4 i07, obt_4 i07, qT_at_4 i07, qT_put_4 i07, qT_add_4 i07, vh_5 i07, vs_5 i07, vs_5 i17, ss_5 i07, obt_5 i07, qT_at_5 i07, qT_put_5 i07, qT_add_5 i07, vh_6 i07, vs_6 i07, vs_6 i17, ss_6 i07, obt_6 i07, qT_at_6 i07, qT_put_6 i07, qT_add_6 i07, vh_7 i07, vs_7 i07, vs_7 i17, ss_7 i07, obt_7 i07, qT_at_7 i07, qT_put_7 i07, qT_add_7 i07, vh_7 i17, obt_7 i17, qT_at_7 i17, q_X_isKite]
  unfold neF at hQ
  rcases Decidable.em (wi k 0 (σ 0 8 1 - 1)) with h1 | h1
  case inr => rw [if_neg h1] at hQ ⊢; exact hQ
  rw [if_pos h1] at hQ ⊢
  rcases Decidable.em (wi h 1 12) with h2 | h2
  case inr => rw [if_neg h2] at hQ ⊢; exact hQ
  rw [if_pos h2] at hQ ⊢
  have := lp_X_next sp_X_next_H_tooCalm sp_X_next_H_anyTooWindy (sc := sc) (k := k) (wi_sm (n := 12) h2 (by decide) (by decide)) σ _ (σ 0 8 0).toNatClampNeg rfl (by have := hp.2; omega) hQ
  rw [← sm_eq hp] at this
  exact this))
def flF (w : HV) (x : Int32) : Nat → Nat → Int32 → Int32
  | _, 0, v => v
  | r, k + 1, v => flF w x (r + 1) k (if kt w (oN r) 0 = 0 ∧ (¬ tooWP w (oN r) x ∧ ¬ tooCP w (oN r) x) then v ||| ((1 : Int32) <<< (oN r &&& 31)) else v)
set_option maxHeartbeats 4000000 in
set_option maxRecDepth 20000 in
theorem lp_X_flyable {sp : Nat → Sp} (h4 : sp 4 = f_T_at) (h37 : sp 37 = f_H_flies) {sc : Nat × (Nat → Int32)} {x : Int32} {Q : Option Value → MS → Prop} (σ : SG) (N : Nat) (hN : N ≤ 16) (hNe : σ 0 8 1 = oN N) : ∀ (m n : Nat) (v : Int32), n + m = N → Q (some (.int (flF (σ 0) x n m v))) (emb σ) → Vf 86 sp ((127, SLT), sc) 17 [.ref 0, .int x, .int v, .int (oN n)] [] (emb σ) Q := by
  intro m
  induction m with
  | zero =>
    intro n v hm hQ
    have : ¬ oN n < oN N := by rw [oN_lt (by omega) (by omega)]; omega
    rw [rX_flyable_17]
    simp only [rX_flyable_18, rX_flyable_19, rX_flyable_22, rX_flyable_25, rX_flyable_28, rX_flyable_29, rX_flyable_32, rX_flyable_35, rX_flyable_36, rX_flyable_37, rX_flyable_40, rX_flyable_43, rX_flyable_44, rX_flyable_47, rX_flyable_48, rX_flyable_49, rX_flyable_52, rX_flyable_55, rX_flyable_56, rX_flyable_57, rX_flyable_58, rX_flyable_59, rX_flyable_60, rX_flyable_61, rX_flyable_64, rX_flyable_67, rX_flyable_68, ct1_i, ct1_r, ct1_n, true_and, and_true, tl_s, tl_n, le4_0, le4_1, le4_2, le4_3, le4_4, le4_5, isO_r, obX, obP, obN, obQ, xr_0, xr_1, xr_2, xr_3, xr_4, ob_h i07, ob_h i17, ob_h i27, isO_r, fok_i, rb_0, rb_1, rb_bi, bi_eq0, rb_b2, b2_0, ite_not, ni_0, ni_1, pi_0, pi_1, xi_0, sxi_0, sni_0, q_X_within, Option.toList, List.cons_append, List.nil_append, vh_0 i07, vs_0 i07, vs_0 i17, ss_0 i07, obt_0 i07, qT_at_0 i07, qT_put_0 i07, qT_add_0 i07, vh_1 i07, vs_1 i07, vs_1 i17, ss_1 i07, obt_1 i07, qT_at_1 i07, qT_put_1 i07, qT_add_1 i07, vh_2 i07, vs_2 i07, vs_2 i17, ss_2 i07, obt_2 i07, qT_at_2 i07, qT_put_2 i07, qT_add_2 i07, vh_3 i07, vs_3 i07, vs_3 i17, ss_3 i07, obt_3 i07, qT_at_3 i07, qT_put_3 i07, qT_add_3 i07, vh_4 i07, vs_4 i07, vs_4 i17, ss_4 i07, obt_4 i07, qT_at_4 i07, qT_put_4 i07, qT_add_4 i07, vh_5 i07, vs_5 i07, vs_5 i17, ss_5 i07, obt_5 i07, qT_at_5 i07, qT_put_5 i07, qT_add_5 i07, vh_6 i07, vs_6 i07, vs_6 i17, ss_6 i07, obt_6 i07, qT_at_6 i07, qT_put_6 i07, qT_add_6 i07, vh_7 i07, vs_7 i07, vs_7 i17, ss_7 i07, obt_7 i07, qT_at_7 i07, qT_put_7 i07, qT_add_7 i07, vh_7 i17, obt_7 i17, qT_at_7 i17, hNe, if_neg this]
    exact hQ
  | succ m ih =>
    intro n v hm hQ
    have : oN n < oN N := by rw [oN_lt (by omega) (by omega)]; omega
    rw [rX_flyable_17]
    simp only [rX_flyable_18, rX_flyable_19, rX_flyable_22, rX_flyable_25, rX_flyable_28, rX_flyable_29, rX_flyable_32, rX_flyable_35, rX_flyable_36, rX_flyable_37, rX_flyable_40, rX_flyable_43, rX_flyable_44, rX_flyable_47, rX_flyable_48, rX_flyable_49, rX_flyable_52, rX_flyable_55, rX_flyable_56, rX_flyable_57, rX_flyable_58, rX_flyable_59, rX_flyable_60, rX_flyable_61, rX_flyable_64, rX_flyable_67, rX_flyable_68, ct1_i, ct1_r, ct1_n, true_and, and_true, tl_s, tl_n, le4_0, le4_1, le4_2, le4_3, le4_4, le4_5, isO_r, cl_, emb1, emb2, le_rN, h4, h37, obX, obP, obN, obQ, xr_0, xr_1, xr_2, xr_3, xr_4, ob_h i07, ob_h i17, ob_h i27, isO_r, fok_i, rb_0, rb_1, rb_bi, bi_eq0, rb_b2, b2_0, ite_not, ni_0, ni_1, pi_0, pi_1, xi_0, sxi_0, sni_0, q_X_within, Option.toList, List.cons_append, List.nil_append, vh_0 i07, vs_0 i07, vs_0 i17, ss_0 i07, obt_0 i07, qT_at_0 i07, qT_put_0 i07, qT_add_0 i07, vh_1 i07, vs_1 i07, vs_1 i17, ss_1 i07, obt_1 i07, qT_at_1 i07, qT_put_1 i07, qT_add_1 i07, vh_2 i07, vs_2 i07, vs_2 i17, ss_2 i07, obt_2 i07, qT_at_2 i07, qT_put_2 i07, qT_add_2 i07, vh_3 i07, vs_3 i07, vs_3 i17, ss_3 i07, obt_3 i07, qT_at_3 i07, qT_put_3 i07, qT_add_3 i07, vh_4 i07, vs_4 i07, vs_4 i17, ss_4 i07, obt_4 i07, qT_at_4 i07, qT_put_4 i07, qT_add_4 i07, vh_5 i07, vs_5 i07, vs_5 i17, ss_5 i07, obt_5 i07, qT_at_5 i07, qT_put_5 i07, qT_add_5 i07, vh_6 i07, vs_6 i07, vs_6 i17, ss_6 i07, obt_6 i07, qT_at_6 i07, qT_put_6 i07, qT_add_6 i07, vh_7 i07, vs_7 i07, vs_7 i17, ss_7 i07, obt_7 i07, qT_at_7 i07, qT_put_7 i07, qT_add_7 i07, vh_7 i17, obt_7 i17, qT_at_7 i17, q_H_flies i07, hNe, if_pos this, oN_succ]
    simp only [flF] at hQ
    change if kt (σ 0) (oN n) 0 = 0 then _ else _
    rcases Decidable.em (kt (σ 0) (oN n) 0 = 0) with h1 | h1
    · rw [if_pos h1]
      rcases Decidable.em (¬ tooWP (σ 0) (oN n) x ∧ ¬ tooCP (σ 0) (oN n) x) with h2 | h2
      · rw [if_pos h2]
        rw [if_pos ⟨h1, h2⟩] at hQ
        exact ih (n + 1) _ (by omega) hQ
      · rw [if_neg h2]
        rw [if_neg (fun q => h2 q.2)] at hQ
        exact ih (n + 1) _ (by omega) hQ
    · rw [if_neg h1]
      rw [if_neg (fun q => h1 q.1)] at hQ
      exact ih (n + 1) _ (by omega) hQ
def fyF (σ : SG) (x : Int32) : Int32 := if wi x 0 999 then flF (σ 0) x 0 (σ 0 8 1).toNatClampNeg 0 else -1
def sp_X_flyable : Nat → Sp := spL [(56, f_X_within), (4, f_T_at), (37, f_H_flies)]
theorem sp_X_flyable_X_within : sp_X_flyable 56 = f_X_within := rfl
theorem sp_X_flyable_T_at : sp_X_flyable 4 = f_T_at := rfl
theorem sp_X_flyable_H_flies : sp_X_flyable 37 = f_H_flies := rfl
def f_X_flyable : Sp := aS 9 (fun _ => 0) 1 (gL1 (fun _ x σ => (sm (σ 0 8 1) 16, some (.int (fyF σ x)), σ)))
theorem q_X_flyable {x : Int32} {σ : SG} : f_X_flyable [.ref 0, .int x] (emb σ) = (sm (σ 0 8 1) 16, some (.int (fyF σ x)), emb (σ)) := aS1_at (ad := (fun _ => 0)) (i := hI 0) (by decide) rfl
set_option maxHeartbeats 4000000 in
set_option maxRecDepth 20000 in
theorem ok_X_flyable : SpecOK 86 f_X_flyable := SpecOK.of (sp := sp_X_flyable) (by decide) (by decide) (spL_ok (List.forall_mem_cons.mpr ⟨ok_X_within, (List.forall_mem_cons.mpr ⟨ok_T_at, (List.forall_mem_cons.mpr ⟨ok_H_flies, (fun q h => absurd h List.not_mem_nil)⟩)⟩)⟩)) (Does_aS1 (Nat.le_of_ble_eq_true rfl) (fun sc i x σ hi had hp => by
  refine Vf_q ?_ ⟨rfl, rfl⟩
  intro Q hQ
  dsimp only at hQ hp
  show Vf 86 _ _ 0 [.ref (0), .int x, .null, .null] [] (emb σ) _

  simp only [rX_flyable_0, rX_flyable_1, rX_flyable_2, rX_flyable_5, rX_flyable_8, rX_flyable_11, rX_flyable_12, rX_flyable_13, rX_flyable_14, rX_flyable_15, rX_flyable_16, ct1_i, ct1_r, ct1_n, true_and, and_true, tl_s, tl_n, le4_0, le4_1, le4_2, le4_3, le4_4, le4_5, isO_r, cl_, emb1, emb2, le_rN, up1_at, up1_up1, sp_X_flyable_X_within, sp_X_flyable_T_at, sp_X_flyable_H_flies, obX, obP, obN, obQ, xr_0, xr_1, xr_2, xr_3, xr_4, ob_h i07, ob_h i17, ob_h i27, isO_r, fok_i, rb_0, rb_1, rb_bi, bi_eq0, rb_b2, b2_0, ite_not, ni_0, ni_1, pi_0, pi_1, xi_0, sxi_0, sni_0, q_X_within, Option.toList, List.cons_append, List.nil_append, vh_0 i07, vs_0 i07, vs_0 i17, ss_0 i07, obt_0 i07, qT_at_0 i07, qT_put_0 i07, qT_add_0 i07, vh_1 i07, vs_1 i07, vs_1 i17, ss_1 i07, obt_1 i07, qT_at_1 i07, qT_put_1 i07, qT_add_1 i07, vh_2 i07, vs_2 i07, vs_2 i17, ss_2 i07, obt_2 i07, qT_at_2 i07, qT_put_2 i07, qT_add_2 i07, vh_3 i07, vs_3 i07, vs_3 i17, ss_3 i07, obt_3 i07, qT_at_3 i07, qT_put_3 i07, qT_add_3 i07, vh_4 i07, vs_4 i07, vs_4 i17, ss_4 i07, obt_4 i07, qT_at_4 i07, qT_put_4 i07, qT_add_4 i07, vh_5 i07, vs_5 i07, vs_5 i17, ss_5 i07, obt_5 i07, qT_at_5 i07, qT_put_5 i07, qT_add_5 i07, vh_6 i07, vs_6 i07, vs_6 i17, ss_6 i07, obt_6 i07, qT_at_6 i07, qT_put_6 i07, qT_add_6 i07, vh_7 i07, vs_7 i07, vs_7 i17, ss_7 i07, obt_7 i07, qT_at_7 i07, qT_put_7 i07, qT_add_7 i07, vh_7 i17, obt_7 i17, qT_at_7 i17]
  unfold fyF at hQ
  rcases Decidable.em (wi x 0 999) with h1 | h1
  case inr => rw [if_neg h1] at hQ ⊢; exact hQ
  rw [if_pos h1] at hQ ⊢
  exact lp_X_flyable sp_X_flyable_T_at sp_X_flyable_H_flies σ _ hp.2 (sm_eq hp) _ 0 0 (Nat.zero_add _) hQ))
def paN : HV → Nat → HV
  | w, 0 => w
  | w, n + 1 => paN (paH w) n
set_option maxHeartbeats 4000000 in
set_option maxRecDepth 20000 in
theorem lp_X_pass {sp : Nat → Sp} (h41 : sp 41 = f_H_passHour) {sc : Nat × (Nat → Int32)} {e : Int32} {Q : Option Value → MS → Prop} (N : Nat) (hN : N ≤ 99) : ∀ (m n : Nat) (σ : SG), n + m = N → sm (σ 0 8 4) 10 → Q (some (.int (paN (σ 0) m 8 5 - e))) (emb (up1 σ 0 (paN (σ 0) m))) → Vf 90 sp ((127, SLT), sc) 52 [.ref 0, .int (oN N), .int e, .int (oN n)] [] (emb σ) Q := by
  intro m
  induction m with
  | zero =>
    intro n σ hm hs hQ
    have : ¬ oN n < oN N := by rw [oN_lt (by omega) (by omega)]; omega
    rw [rX_pass_52]
    simp only [rX_pass_53, rX_pass_54, rX_pass_57, rX_pass_58, rX_pass_61, rX_pass_64, rX_pass_67, rX_pass_70, rX_pass_71, rX_pass_74, rX_pass_77, rX_pass_78, rX_pass_79, ct1_i, ct1_r, ct1_n, true_and, and_true, tl_s, tl_n, le4_0, le4_1, le4_2, le4_3, le4_4, le4_5, isO_r, obX, obP, obN, obQ, xr_0, xr_1, xr_2, xr_3, xr_4, ob_h i07, ob_h i17, ob_h i27, isO_r, fok_i, rb_0, rb_1, rb_bi, bi_eq0, rb_b2, b2_0, ite_not, ni_0, ni_1, pi_0, pi_1, xi_0, sxi_0, sni_0, q_X_within, Option.toList, List.cons_append, List.nil_append, vh_0 i07, vs_0 i07, vs_0 i17, ss_0 i07, obt_0 i07, qT_at_0 i07, qT_put_0 i07, qT_add_0 i07, vh_1 i07, vs_1 i07, vs_1 i17, ss_1 i07, obt_1 i07, qT_at_1 i07, qT_put_1 i07, qT_add_1 i07, vh_2 i07, vs_2 i07, vs_2 i17, ss_2 i07, obt_2 i07, qT_at_2 i07, qT_put_2 i07, qT_add_2 i07, vh_3 i07, vs_3 i07, vs_3 i17, ss_3 i07, obt_3 i07, qT_at_3 i07, qT_put_3 i07, qT_add_3 i07, vh_4 i07, vs_4 i07, vs_4 i17, ss_4 i07, obt_4 i07, qT_at_4 i07, qT_put_4 i07, qT_add_4 i07, vh_5 i07, vs_5 i07, vs_5 i17, ss_5 i07, obt_5 i07, qT_at_5 i07, qT_put_5 i07, qT_add_5 i07, vh_6 i07, vs_6 i07, vs_6 i17, ss_6 i07, obt_6 i07, qT_at_6 i07, qT_put_6 i07, qT_add_6 i07, vh_7 i07, vs_7 i07, vs_7 i17, ss_7 i07, obt_7 i07, qT_at_7 i07, qT_put_7 i07, qT_add_7 i07, vh_7 i17, obt_7 i17, qT_at_7 i17, if_neg this]
    change Q _ (emb (up1 σ 0 (σ 0))) at hQ
    rw [up1_self] at hQ
    exact hQ
  | succ m ih =>
    intro n σ hm hs hQ
    have : oN n < oN N := by rw [oN_lt (by omega) (by omega)]; omega
    rw [rX_pass_52]
    simp only [rX_pass_53, rX_pass_54, rX_pass_57, rX_pass_58, rX_pass_61, rX_pass_64, rX_pass_67, rX_pass_70, rX_pass_71, rX_pass_74, rX_pass_77, rX_pass_78, rX_pass_79, ct1_i, ct1_r, ct1_n, true_and, and_true, tl_s, tl_n, le4_0, le4_1, le4_2, le4_3, le4_4, le4_5, isO_r, cl_, emb1, emb2, le_rN, h41, obX, obP, obN, obQ, xr_0, xr_1, xr_2, xr_3, xr_4, ob_h i07, ob_h i17, ob_h i27, isO_r, fok_i, rb_0, rb_1, rb_bi, bi_eq0, rb_b2, b2_0, ite_not, ni_0, ni_1, pi_0, pi_1, xi_0, sxi_0, sni_0, q_X_within, Option.toList, List.cons_append, List.nil_append, vh_0 i07, vs_0 i07, vs_0 i17, ss_0 i07, obt_0 i07, qT_at_0 i07, qT_put_0 i07, qT_add_0 i07, vh_1 i07, vs_1 i07, vs_1 i17, ss_1 i07, obt_1 i07, qT_at_1 i07, qT_put_1 i07, qT_add_1 i07, vh_2 i07, vs_2 i07, vs_2 i17, ss_2 i07, obt_2 i07, qT_at_2 i07, qT_put_2 i07, qT_add_2 i07, vh_3 i07, vs_3 i07, vs_3 i17, ss_3 i07, obt_3 i07, qT_at_3 i07, qT_put_3 i07, qT_add_3 i07, vh_4 i07, vs_4 i07, vs_4 i17, ss_4 i07, obt_4 i07, qT_at_4 i07, qT_put_4 i07, qT_add_4 i07, vh_5 i07, vs_5 i07, vs_5 i17, ss_5 i07, obt_5 i07, qT_at_5 i07, qT_put_5 i07, qT_add_5 i07, vh_6 i07, vs_6 i07, vs_6 i17, ss_6 i07, obt_6 i07, qT_at_6 i07, qT_put_6 i07, qT_add_6 i07, vh_7 i07, vs_7 i07, vs_7 i17, ss_7 i07, obt_7 i07, qT_at_7 i07, qT_put_7 i07, qT_add_7 i07, vh_7 i17, obt_7 i17, qT_at_7 i17, q_H_passHour i07, if_pos this, hs, oN_succ]
    refine ih (n + 1) _ (by omega) ?_ ?_
    · rw [up1_at]; exact paH_sm hs
    · rw [up1_at, up1_up1]; exact hQ
def psW (σ : SG) (h : Int32) : Int32 × SG := if wi h 1 99 then (if 1000 < σ 0 8 0 + h then (-3, σ) else (paN (σ 0) h.toNatClampNeg 8 5 - σ 0 8 5, up1 (rcW σ) 0 (paN (σ 0) h.toNatClampNeg))) else (-2, σ)
def sp_X_pass : Nat → Sp := spL [(56, f_X_within), (54, f_P_record), (41, f_H_passHour)]
theorem sp_X_pass_X_within : sp_X_pass 56 = f_X_within := rfl
theorem sp_X_pass_P_record : sp_X_pass 54 = f_P_record := rfl
theorem sp_X_pass_H_passHour : sp_X_pass 41 = f_H_passHour := rfl
def f_X_pass : Sp := aS 9 (fun _ => 0) 1 (gL1 (fun _ h σ => (ltP σ ∧ sm (σ 0 8 4) 10, some (.int (psW σ h).1), (psW σ h).2)))
theorem q_X_pass {h : Int32} {σ : SG} : f_X_pass [.ref 0, .int h] (emb σ) = (ltP σ ∧ sm (σ 0 8 4) 10, some (.int (psW σ h).1), emb ((psW σ h).2)) := aS1_at (ad := (fun _ => 0)) (i := hI 0) (by decide) rfl
set_option maxHeartbeats 4000000 in
set_option maxRecDepth 20000 in
theorem ok_X_pass : SpecOK 90 f_X_pass := SpecOK.of (sp := sp_X_pass) (by decide) (by decide) (spL_ok (List.forall_mem_cons.mpr ⟨ok_X_within, (List.forall_mem_cons.mpr ⟨ok_P_record, (List.forall_mem_cons.mpr ⟨ok_H_passHour, (fun q h => absurd h List.not_mem_nil)⟩)⟩)⟩)) (Does_aS1 (Nat.le_of_ble_eq_true rfl) (fun sc i h σ hi had hp => by
  refine Vf_q ?_ ⟨rfl, rfl⟩
  intro Q hQ
  dsimp only at hQ hp
  show Vf 90 _ _ 0 [.ref (0), .int h, .null, .null] [] (emb σ) _

  simp only [rX_pass_0, rX_pass_1, rX_pass_2, rX_pass_4, rX_pass_7, rX_pass_10, rX_pass_12, rX_pass_13, rX_pass_14, rX_pass_17, rX_pass_20, rX_pass_21, rX_pass_22, rX_pass_25, rX_pass_28, rX_pass_30, rX_pass_31, rX_pass_32, rX_pass_35, rX_pass_36, rX_pass_39, rX_pass_42, rX_pass_43, rX_pass_46, rX_pass_49, rX_pass_50, rX_pass_51, ct1_i, ct1_r, ct1_n, true_and, and_true, tl_s, tl_n, le4_0, le4_1, le4_2, le4_3, le4_4, le4_5, isO_r, cl_, emb1, emb2, le_rN, up1_at, up1_up1, sp_X_pass_X_within, sp_X_pass_P_record, sp_X_pass_H_passHour, obX, obP, obN, obQ, xr_0, xr_1, xr_2, xr_3, xr_4, ob_h i07, ob_h i17, ob_h i27, isO_r, fok_i, rb_0, rb_1, rb_bi, bi_eq0, rb_b2, b2_0, ite_not, ni_0, ni_1, pi_0, pi_1, xi_0, sxi_0, sni_0, q_X_within, Option.toList, List.cons_append, List.nil_append, vh_0 i07, vs_0 i07, vs_0 i17, ss_0 i07, obt_0 i07, qT_at_0 i07, qT_put_0 i07, qT_add_0 i07, vh_1 i07, vs_1 i07, vs_1 i17, ss_1 i07, obt_1 i07, qT_at_1 i07, qT_put_1 i07, qT_add_1 i07, vh_2 i07, vs_2 i07, vs_2 i17, ss_2 i07, obt_2 i07, qT_at_2 i07, qT_put_2 i07, qT_add_2 i07, vh_3 i07, vs_3 i07, vs_3 i17, ss_3 i07, obt_3 i07, qT_at_3 i07, qT_put_3 i07, qT_add_3 i07, vh_4 i07, vs_4 i07, vs_4 i17, ss_4 i07, obt_4 i07, qT_at_4 i07, qT_put_4 i07, qT_add_4 i07, vh_5 i07, vs_5 i07, vs_5 i17, ss_5 i07, obt_5 i07, qT_at_5 i07, qT_put_5 i07, qT_add_5 i07, vh_6 i07, vs_6 i07, vs_6 i17, ss_6 i07, obt_6 i07, qT_at_6 i07, qT_put_6 i07, qT_add_6 i07, vh_7 i07, vs_7 i07, vs_7 i17, ss_7 i07, obt_7 i07, qT_at_7 i07, qT_put_7 i07, qT_add_7 i07, vh_7 i17, obt_7 i17, qT_at_7 i17, q_P_record hp.1, rcW_0]
  unfold psW at hQ
  rcases Decidable.em (wi h 1 99) with h1 | h1
  case inr => rw [if_neg h1] at hQ ⊢; exact hQ
  rw [if_pos h1] at hQ ⊢
  rcases Decidable.em (1000 < σ 0 8 0 + h) with h2 | h2
  case inl => rw [if_pos h2] at hQ ⊢; exact hQ
  rw [if_neg h2] at hQ ⊢
  have hs := wi_sm (n := 99) h1 (by decide) (by decide)
  rw [sm_eq hs]
  refine lp_X_pass sp_X_pass_H_passHour _ hs.2 _ 0 _ (Nat.zero_add _) (by rw [rcW_0]; exact hp.2) ?_
  rw [rcW_0]
  exact hQ))
def ipN : HV → Nat → HV
  | w, 0 => w
  | w, n + 1 => if w 8 0 < 1000 then ipN (paH w) n else w
set_option maxHeartbeats 4000000 in
set_option maxRecDepth 20000 in
theorem lp_X_ifPassed {sp : Nat → Sp} (h41 : sp 41 = f_H_passHour) {sc : Nat × (Nat → Int32)} {e : Int32} {Q : Option Value → MS → Prop} (N : Nat) (hN : N ≤ 99) : ∀ (m n : Nat) (σ : SG), n + m = N → sm (σ 1 8 4) 10 → (∀ v : Int32, Vf 92 sp ((127, SLT), sc) 66 [.ref 0, .int (oN N), .int e, .int v] [] (emb (up1 σ 1 (ipN (σ 1) m))) Q) → Vf 92 sp ((127, SLT), sc) 35 [.ref 0, .int (oN N), .int e, .int (oN n)] [] (emb σ) Q := by
  intro m
  induction m with
  | zero =>
    intro n σ hm hs hQ
    have : ¬ oN n < oN N := by rw [oN_lt (by omega) (by omega)]; omega
    rw [rX_ifPassed_35]
    simp only [rX_ifPassed_36, rX_ifPassed_37, rX_ifPassed_40, rX_ifPassed_41, rX_ifPassed_44, rX_ifPassed_47, rX_ifPassed_50, rX_ifPassed_53, rX_ifPassed_54, rX_ifPassed_57, rX_ifPassed_60, rX_ifPassed_63, ct1_i, ct1_r, ct1_n, true_and, and_true, tl_s, tl_n, le4_0, le4_1, le4_2, le4_3, le4_4, le4_5, isO_r, obX, obP, obN, obQ, xr_0, xr_1, xr_2, xr_3, xr_4, ob_h i07, ob_h i17, ob_h i27, isO_r, fok_i, rb_0, rb_1, rb_bi, bi_eq0, rb_b2, b2_0, ite_not, ni_0, ni_1, pi_0, pi_1, xi_0, sxi_0, sni_0, q_X_within, Option.toList, List.cons_append, List.nil_append, vh_0 i07, vs_0 i07, vs_0 i17, ss_0 i07, obt_0 i07, qT_at_0 i07, qT_put_0 i07, qT_add_0 i07, vh_1 i07, vs_1 i07, vs_1 i17, ss_1 i07, obt_1 i07, qT_at_1 i07, qT_put_1 i07, qT_add_1 i07, vh_2 i07, vs_2 i07, vs_2 i17, ss_2 i07, obt_2 i07, qT_at_2 i07, qT_put_2 i07, qT_add_2 i07, vh_3 i07, vs_3 i07, vs_3 i17, ss_3 i07, obt_3 i07, qT_at_3 i07, qT_put_3 i07, qT_add_3 i07, vh_4 i07, vs_4 i07, vs_4 i17, ss_4 i07, obt_4 i07, qT_at_4 i07, qT_put_4 i07, qT_add_4 i07, vh_5 i07, vs_5 i07, vs_5 i17, ss_5 i07, obt_5 i07, qT_at_5 i07, qT_put_5 i07, qT_add_5 i07, vh_6 i07, vs_6 i07, vs_6 i17, ss_6 i07, obt_6 i07, qT_at_6 i07, qT_put_6 i07, qT_add_6 i07, vh_7 i07, vs_7 i07, vs_7 i17, ss_7 i07, obt_7 i07, qT_at_7 i07, qT_put_7 i07, qT_add_7 i07, vh_7 i17, obt_7 i17, qT_at_7 i17, if_neg this]
    have := hQ (oN n)
    change Vf _ _ _ _ _ _ (emb (up1 σ 1 (σ 1))) _ at this
    rw [up1_self] at this
    exact this
  | succ m ih =>
    intro n σ hm hs hQ
    have : oN n < oN N := by rw [oN_lt (by omega) (by omega)]; omega
    rw [rX_ifPassed_35]
    simp only [rX_ifPassed_36, rX_ifPassed_37, rX_ifPassed_40, rX_ifPassed_41, rX_ifPassed_44, rX_ifPassed_47, rX_ifPassed_50, rX_ifPassed_53, rX_ifPassed_54, rX_ifPassed_57, rX_ifPassed_60, rX_ifPassed_63, ct1_i, ct1_r, ct1_n, true_and, and_true, tl_s, tl_n, le4_0, le4_1, le4_2, le4_3, le4_4, le4_5, isO_r, cl_, emb1, emb2, le_rN, h41, obX, obP, obN, obQ, xr_0, xr_1, xr_2, xr_3, xr_4, ob_h i07, ob_h i17, ob_h i27, isO_r, fok_i, rb_0, rb_1, rb_bi, bi_eq0, rb_b2, b2_0, ite_not, ni_0, ni_1, pi_0, pi_1, xi_0, sxi_0, sni_0, q_X_within, Option.toList, List.cons_append, List.nil_append, vh_0 i07, vs_0 i07, vs_0 i17, ss_0 i07, obt_0 i07, qT_at_0 i07, qT_put_0 i07, qT_add_0 i07, vh_1 i07, vs_1 i07, vs_1 i17, ss_1 i07, obt_1 i07, qT_at_1 i07, qT_put_1 i07, qT_add_1 i07, vh_2 i07, vs_2 i07, vs_2 i17, ss_2 i07, obt_2 i07, qT_at_2 i07, qT_put_2 i07, qT_add_2 i07, vh_3 i07, vs_3 i07, vs_3 i17, ss_3 i07, obt_3 i07, qT_at_3 i07, qT_put_3 i07, qT_add_3 i07, vh_4 i07, vs_4 i07, vs_4 i17, ss_4 i07, obt_4 i07, qT_at_4 i07, qT_put_4 i07, qT_add_4 i07, vh_5 i07, vs_5 i07, vs_5 i17, ss_5 i07, obt_5 i07, qT_at_5 i07, qT_put_5 i07, qT_add_5 i07, vh_6 i07, vs_6 i07, vs_6 i17, ss_6 i07, obt_6 i07, qT_at_6 i07, qT_put_6 i07, qT_add_6 i07, vh_7 i07, vs_7 i07, vs_7 i17, ss_7 i07, obt_7 i07, qT_at_7 i07, qT_put_7 i07, qT_add_7 i07, vh_7 i17, obt_7 i17, qT_at_7 i17, q_H_passHour i17, if_pos this, hs, oN_succ]
    simp only [ipN] at hQ
    rcases Decidable.em (σ 1 8 0 < 1000) with h1 | h1
    · rw [if_pos h1]
      simp only [if_pos h1] at hQ
      refine ih (n + 1) _ (by omega) ?_ ?_
      · rw [up1_at]; exact paH_sm hs
      · rw [up1_at, up1_up1]; exact hQ
    · rw [if_neg h1]
      simp only [if_neg h1] at hQ
      have := hQ (oN n)
      rw [up1_self] at this
      exact this
def ipR (w v : HV) (x : Int32) : Int32 := if 3 = x.toInt then v 8 7 - w 8 7 else if 4 = x.toInt then v 8 6 - w 8 6 + 100000 else at_ (v 7) 1 3 x 0 - at_ (w 7) 1 3 x 0
def ipV (σ : SG) (h : Int32) : HV := ipN (cpH (σ 1) (σ 0)) h.toNatClampNeg
def ipF (σ : SG) (h x : Int32) : Int32 × SG := if wi h 1 99 then (if wi x 0 4 then (ipR (σ 0) (ipV σ h) x, up1 σ 1 (ipV σ h)) else (-2, σ)) else (-2, σ)
theorem cpH_8 {w v : HV} {t : Nat} (h : t < 8) : cpH w v 8 t = v 8 t := by
  unfold cpH
  rw [if_pos (show t < ln9 8 from h)]
def sp_X_ifPassed : Nat → Sp := spL [(56, f_X_within), (25, f_H_copyFrom), (41, f_H_passHour), (4, f_T_at)]
theorem sp_X_ifPassed_X_within : sp_X_ifPassed 56 = f_X_within := rfl
theorem sp_X_ifPassed_H_copyFrom : sp_X_ifPassed 25 = f_H_copyFrom := rfl
theorem sp_X_ifPassed_H_passHour : sp_X_ifPassed 41 = f_H_passHour := rfl
theorem sp_X_ifPassed_T_at : sp_X_ifPassed 4 = f_T_at := rfl
def f_X_ifPassed : Sp := aS 9 (fun _ => 0) 2 (gL2 (fun _ h x σ => (sm (σ 0 8 4) 10, some (.int (ipF σ h x).1), (ipF σ h x).2)))
theorem q_X_ifPassed {h x : Int32} {σ : SG} : f_X_ifPassed [.ref 0, .int h, .int x] (emb σ) = (sm (σ 0 8 4) 10, some (.int (ipF σ h x).1), emb ((ipF σ h x).2)) := aS2_at (ad := (fun _ => 0)) (i := hI 0) (by decide) rfl
set_option maxHeartbeats 4000000 in
set_option maxRecDepth 20000 in
theorem ok_X_ifPassed : SpecOK 92 f_X_ifPassed := SpecOK.of (sp := sp_X_ifPassed) (by decide) (by decide) (spL_ok (List.forall_mem_cons.mpr ⟨ok_X_within, (List.forall_mem_cons.mpr ⟨ok_H_copyFrom, (List.forall_mem_cons.mpr ⟨ok_H_passHour, (List.forall_mem_cons.mpr ⟨ok_T_at, (fun q h => absurd h List.not_mem_nil)⟩)⟩)⟩)⟩)) (Does_aS2 (Nat.le_of_ble_eq_true rfl) (fun sc i h x σ hi had hp => by
  refine Vf_q ?_ ⟨rfl, rfl⟩
  intro Q hQ
  dsimp only at hQ hp
  show Vf 92 _ _ 0 [.ref (0), .int h, .int x, .null] [] (emb σ) _

  simp only [rX_ifPassed_0, rX_ifPassed_1, rX_ifPassed_2, rX_ifPassed_4, rX_ifPassed_7, rX_ifPassed_10, rX_ifPassed_11, rX_ifPassed_12, rX_ifPassed_13, rX_ifPassed_16, rX_ifPassed_19, rX_ifPassed_21, rX_ifPassed_22, rX_ifPassed_23, rX_ifPassed_26, rX_ifPassed_27, rX_ifPassed_30, rX_ifPassed_33, rX_ifPassed_34, ct1_i, ct1_r, ct1_n, true_and, and_true, tl_s, tl_n, le4_0, le4_1, le4_2, le4_3, le4_4, le4_5, isO_r, cl_, emb1, emb2, le_rN, up1_at, up1_up1, sp_X_ifPassed_X_within, sp_X_ifPassed_H_copyFrom, sp_X_ifPassed_H_passHour, sp_X_ifPassed_T_at, obX, obP, obN, obQ, xr_0, xr_1, xr_2, xr_3, xr_4, ob_h i07, ob_h i17, ob_h i27, isO_r, fok_i, rb_0, rb_1, rb_bi, bi_eq0, rb_b2, b2_0, ite_not, ni_0, ni_1, pi_0, pi_1, xi_0, sxi_0, sni_0, q_X_within, Option.toList, List.cons_append, List.nil_append, vh_0 i07, vs_0 i07, vs_0 i17, ss_0 i07, obt_0 i07, qT_at_0 i07, qT_put_0 i07, qT_add_0 i07, vh_1 i07, vs_1 i07, vs_1 i17, ss_1 i07, obt_1 i07, qT_at_1 i07, qT_put_1 i07, qT_add_1 i07, vh_2 i07, vs_2 i07, vs_2 i17, ss_2 i07, obt_2 i07, qT_at_2 i07, qT_put_2 i07, qT_add_2 i07, vh_3 i07, vs_3 i07, vs_3 i17, ss_3 i07, obt_3 i07, qT_at_3 i07, qT_put_3 i07, qT_add_3 i07, vh_4 i07, vs_4 i07, vs_4 i17, ss_4 i07, obt_4 i07, qT_at_4 i07, qT_put_4 i07, qT_add_4 i07, vh_5 i07, vs_5 i07, vs_5 i17, ss_5 i07, obt_5 i07, qT_at_5 i07, qT_put_5 i07, qT_add_5 i07, vh_6 i07, vs_6 i07, vs_6 i17, ss_6 i07, obt_6 i07, qT_at_6 i07, qT_put_6 i07, qT_add_6 i07, vh_7 i07, vs_7 i07, vs_7 i17, ss_7 i07, obt_7 i07, qT_at_7 i07, qT_put_7 i07, qT_add_7 i07, vh_7 i17, obt_7 i17, qT_at_7 i17, q_H_copyFrom i17 i07 (show (0 : Nat) ≠ 1 by decide)]
  unfold ipF at hQ
  rcases Decidable.em (wi h 1 99) with h1 | h1
  case inr => rw [if_neg h1] at hQ ⊢; exact hQ
  rw [if_pos h1] at hQ ⊢
  rcases Decidable.em (wi x 0 4) with h2 | h2
  case inr => rw [if_neg h2] at hQ ⊢; exact hQ
  rw [if_pos h2] at hQ ⊢
  have hs := wi_sm (n := 99) h1 (by decide) (by decide)
  rw [sm_eq hs]
  refine lp_X_ifPassed sp_X_ifPassed_H_passHour _ hs.2 _ 0 _ (Nat.zero_add _) (by rw [up1_at, cpH_8 (by decide)]; exact hp) ?_
  intro v
  rw [up1_at, up1_up1]
  change Q (some (.int (ipR (σ 0) (ipV σ h) x))) (emb (up1 σ 1 (ipV σ h))) at hQ
  change Vf _ _ _ _ _ _ (emb (up1 σ 1 (ipV σ h))) _
  unfold ipR at hQ
  rcases Decidable.em (3 = x.toInt) with h3 | h3
  · have : x = 3 := Int32.toInt_inj.mp (by rw [← h3]; rfl)
    subst this
    rw [if_pos h3] at hQ
    rw [rX_ifPassed_66, rX_ifPassed_67_3]
    simp only [rX_ifPassed_92, rX_ifPassed_93, rX_ifPassed_96, rX_ifPassed_99, rX_ifPassed_100, rX_ifPassed_103, rX_ifPassed_106, rX_ifPassed_107, rX_ifPassed_108, rX_ifPassed_109, rX_ifPassed_112, rX_ifPassed_115, rX_ifPassed_116, rX_ifPassed_119, rX_ifPassed_122, rX_ifPassed_123, rX_ifPassed_125, rX_ifPassed_126, rX_ifPassed_127, rX_ifPassed_128, rX_ifPassed_131, rX_ifPassed_134, rX_ifPassed_135, rX_ifPassed_136, rX_ifPassed_139, rX_ifPassed_140, rX_ifPassed_143, rX_ifPassed_146, rX_ifPassed_147, rX_ifPassed_148, rX_ifPassed_151, rX_ifPassed_152, ct1_i, ct1_r, ct1_n, true_and, and_true, tl_s, tl_n, le4_0, le4_1, le4_2, le4_3, le4_4, le4_5, isO_r, cl_, emb1, emb2, le_rN, up1_at, up1_up1, sp_X_ifPassed_X_within, sp_X_ifPassed_H_copyFrom, sp_X_ifPassed_H_passHour, sp_X_ifPassed_T_at, obX, obP, obN, obQ, xr_0, xr_1, xr_2, xr_3, xr_4, ob_h i07, ob_h i17, ob_h i27, isO_r, fok_i, rb_0, rb_1, rb_bi, bi_eq0, rb_b2, b2_0, ite_not, ni_0, ni_1, pi_0, pi_1, xi_0, sxi_0, sni_0, q_X_within, Option.toList, List.cons_append, List.nil_append, vh_0 i07, vs_0 i07, vs_0 i17, ss_0 i07, obt_0 i07, qT_at_0 i07, qT_put_0 i07, qT_add_0 i07, vh_1 i07, vs_1 i07, vs_1 i17, ss_1 i07, obt_1 i07, qT_at_1 i07, qT_put_1 i07, qT_add_1 i07, vh_2 i07, vs_2 i07, vs_2 i17, ss_2 i07, obt_2 i07, qT_at_2 i07, qT_put_2 i07, qT_add_2 i07, vh_3 i07, vs_3 i07, vs_3 i17, ss_3 i07, obt_3 i07, qT_at_3 i07, qT_put_3 i07, qT_add_3 i07, vh_4 i07, vs_4 i07, vs_4 i17, ss_4 i07, obt_4 i07, qT_at_4 i07, qT_put_4 i07, qT_add_4 i07, vh_5 i07, vs_5 i07, vs_5 i17, ss_5 i07, obt_5 i07, qT_at_5 i07, qT_put_5 i07, qT_add_5 i07, vh_6 i07, vs_6 i07, vs_6 i17, ss_6 i07, obt_6 i07, qT_at_6 i07, qT_put_6 i07, qT_add_6 i07, vh_7 i07, vs_7 i07, vs_7 i17, ss_7 i07, obt_7 i07, qT_at_7 i07, qT_put_7 i07, qT_add_7 i07, vh_7 i17, obt_7 i17, qT_at_7 i17, up1_ne _ _ (show (0 : Nat) ≠ 1 by decide)]
    exact hQ
  · rw [if_neg h3] at hQ
    rcases Decidable.em (4 = x.toInt) with h4 | h4
    · have : x = 4 := Int32.toInt_inj.mp (by rw [← h4]; rfl)
      subst this
      rw [if_pos h4] at hQ
      rw [rX_ifPassed_66, rX_ifPassed_67_4]
      simp only [rX_ifPassed_92, rX_ifPassed_93, rX_ifPassed_96, rX_ifPassed_99, rX_ifPassed_100, rX_ifPassed_103, rX_ifPassed_106, rX_ifPassed_107, rX_ifPassed_108, rX_ifPassed_109, rX_ifPassed_112, rX_ifPassed_115, rX_ifPassed_116, rX_ifPassed_119, rX_ifPassed_122, rX_ifPassed_123, rX_ifPassed_125, rX_ifPassed_126, rX_ifPassed_127, rX_ifPassed_128, rX_ifPassed_131, rX_ifPassed_134, rX_ifPassed_135, rX_ifPassed_136, rX_ifPassed_139, rX_ifPassed_140, rX_ifPassed_143, rX_ifPassed_146, rX_ifPassed_147, rX_ifPassed_148, rX_ifPassed_151, rX_ifPassed_152, ct1_i, ct1_r, ct1_n, true_and, and_true, tl_s, tl_n, le4_0, le4_1, le4_2, le4_3, le4_4, le4_5, isO_r, cl_, emb1, emb2, le_rN, up1_at, up1_up1, sp_X_ifPassed_X_within, sp_X_ifPassed_H_copyFrom, sp_X_ifPassed_H_passHour, sp_X_ifPassed_T_at, obX, obP, obN, obQ, xr_0, xr_1, xr_2, xr_3, xr_4, ob_h i07, ob_h i17, ob_h i27, isO_r, fok_i, rb_0, rb_1, rb_bi, bi_eq0, rb_b2, b2_0, ite_not, ni_0, ni_1, pi_0, pi_1, xi_0, sxi_0, sni_0, q_X_within, Option.toList, List.cons_append, List.nil_append, vh_0 i07, vs_0 i07, vs_0 i17, ss_0 i07, obt_0 i07, qT_at_0 i07, qT_put_0 i07, qT_add_0 i07, vh_1 i07, vs_1 i07, vs_1 i17, ss_1 i07, obt_1 i07, qT_at_1 i07, qT_put_1 i07, qT_add_1 i07, vh_2 i07, vs_2 i07, vs_2 i17, ss_2 i07, obt_2 i07, qT_at_2 i07, qT_put_2 i07, qT_add_2 i07, vh_3 i07, vs_3 i07, vs_3 i17, ss_3 i07, obt_3 i07, qT_at_3 i07, qT_put_3 i07, qT_add_3 i07, vh_4 i07, vs_4 i07, vs_4 i17, ss_4 i07, obt_4 i07, qT_at_4 i07, qT_put_4 i07, qT_add_4 i07, vh_5 i07, vs_5 i07, vs_5 i17, ss_5 i07, obt_5 i07, qT_at_5 i07, qT_put_5 i07, qT_add_5 i07, vh_6 i07, vs_6 i07, vs_6 i17, ss_6 i07, obt_6 i07, qT_at_6 i07, qT_put_6 i07, qT_add_6 i07, vh_7 i07, vs_7 i07, vs_7 i17, ss_7 i07, obt_7 i07, qT_at_7 i07, qT_put_7 i07, qT_add_7 i07, vh_7 i17, obt_7 i17, qT_at_7 i17, up1_ne _ _ (show (0 : Nat) ≠ 1 by decide)]
      exact hQ
    · rw [if_neg h4] at hQ
      rw [rX_ifPassed_66, rX_ifPassed_67_d h3 h4]
      simp only [rX_ifPassed_92, rX_ifPassed_93, rX_ifPassed_96, rX_ifPassed_99, rX_ifPassed_100, rX_ifPassed_103, rX_ifPassed_106, rX_ifPassed_107, rX_ifPassed_108, rX_ifPassed_109, rX_ifPassed_112, rX_ifPassed_115, rX_ifPassed_116, rX_ifPassed_119, rX_ifPassed_122, rX_ifPassed_123, rX_ifPassed_125, rX_ifPassed_126, rX_ifPassed_127, rX_ifPassed_128, rX_ifPassed_131, rX_ifPassed_134, rX_ifPassed_135, rX_ifPassed_136, rX_ifPassed_139, rX_ifPassed_140, rX_ifPassed_143, rX_ifPassed_146, rX_ifPassed_147, rX_ifPassed_148, rX_ifPassed_151, rX_ifPassed_152, ct1_i, ct1_r, ct1_n, true_and, and_true, tl_s, tl_n, le4_0, le4_1, le4_2, le4_3, le4_4, le4_5, isO_r, cl_, emb1, emb2, le_rN, up1_at, up1_up1, sp_X_ifPassed_X_within, sp_X_ifPassed_H_copyFrom, sp_X_ifPassed_H_passHour, sp_X_ifPassed_T_at, obX, obP, obN, obQ, xr_0, xr_1, xr_2, xr_3, xr_4, ob_h i07, ob_h i17, ob_h i27, isO_r, fok_i, rb_0, rb_1, rb_bi, bi_eq0, rb_b2, b2_0, ite_not, ni_0, ni_1, pi_0, pi_1, xi_0, sxi_0, sni_0, q_X_within, Option.toList, List.cons_append, List.nil_append, vh_0 i07, vs_0 i07, vs_0 i17, ss_0 i07, obt_0 i07, qT_at_0 i07, qT_put_0 i07, qT_add_0 i07, vh_1 i07, vs_1 i07, vs_1 i17, ss_1 i07, obt_1 i07, qT_at_1 i07, qT_put_1 i07, qT_add_1 i07, vh_2 i07, vs_2 i07, vs_2 i17, ss_2 i07, obt_2 i07, qT_at_2 i07, qT_put_2 i07, qT_add_2 i07, vh_3 i07, vs_3 i07, vs_3 i17, ss_3 i07, obt_3 i07, qT_at_3 i07, qT_put_3 i07, qT_add_3 i07, vh_4 i07, vs_4 i07, vs_4 i17, ss_4 i07, obt_4 i07, qT_at_4 i07, qT_put_4 i07, qT_add_4 i07, vh_5 i07, vs_5 i07, vs_5 i17, ss_5 i07, obt_5 i07, qT_at_5 i07, qT_put_5 i07, qT_add_5 i07, vh_6 i07, vs_6 i07, vs_6 i17, ss_6 i07, obt_6 i07, qT_at_6 i07, qT_put_6 i07, qT_add_6 i07, vh_7 i07, vs_7 i07, vs_7 i17, ss_7 i07, obt_7 i07, qT_at_7 i07, qT_put_7 i07, qT_add_7 i07, vh_7 i17, obt_7 i17, qT_at_7 i17, up1_ne _ _ (show (0 : Nat) ≠ 1 by decide)]
      exact hQ))
def deF (w : HV) (m : Int32) : Nat → Nat → Int32 → Int32 → Int32
  | _, 0, d, _ => d
  | r, k + 1, d, v => if v < kt w (oN r) 4 * lgF w (oN r) m 12 then deF w m (r + 1) k (oN r) (kt w (oN r) 4 * lgF w (oN r) m 12) else deF w m (r + 1) k d v
set_option maxHeartbeats 4000000 in
set_option maxRecDepth 20000 in
theorem lp_X_dearest {sp : Nat → Sp} (h4 : sp 4 = f_T_at) (h42 : sp 42 = f_H_longestHire) {sc : Nat × (Nat → Int32)} {x : Int32} {Q : Option Value → MS → Prop} (σ : SG) (hs : sm (σ 0 8 2) 10) (N : Nat) (hN : N ≤ 16) (hNe : σ 0 8 1 = oN N) : ∀ (m n : Nat) (d v : Int32) (u : Value), n + m = N → Q (some (.int (deF (σ 0) x n m d v))) (emb σ) → Vf 93 sp ((127, SLT), sc) 22 [.ref 0, .int x, .int d, .int v, .int (oN n), u] [] (emb σ) Q := by
  intro m
  induction m with
  | zero =>
    intro n d v u hm hQ
    have : ¬ oN n < oN N := by rw [oN_lt (by omega) (by omega)]; omega
    rw [rX_dearest_22]
    simp only [rX_dearest_24, rX_dearest_25, rX_dearest_28, rX_dearest_31, rX_dearest_34, rX_dearest_35, rX_dearest_38, rX_dearest_41, rX_dearest_43, rX_dearest_44, rX_dearest_47, rX_dearest_48, rX_dearest_51, rX_dearest_53, rX_dearest_54, rX_dearest_57, rX_dearest_58, rX_dearest_60, rX_dearest_62, rX_dearest_63, rX_dearest_66, rX_dearest_68, rX_dearest_69, rX_dearest_71, rX_dearest_72, rX_dearest_75, rX_dearest_78, rX_dearest_79, ct1_i, ct1_r, ct1_n, true_and, and_true, tl_s, tl_n, le4_0, le4_1, le4_2, le4_3, le4_4, le4_5, isO_r, obX, obP, obN, obQ, xr_0, xr_1, xr_2, xr_3, xr_4, ob_h i07, ob_h i17, ob_h i27, isO_r, fok_i, rb_0, rb_1, rb_bi, bi_eq0, rb_b2, b2_0, ite_not, ni_0, ni_1, pi_0, pi_1, xi_0, sxi_0, sni_0, q_X_within, Option.toList, List.cons_append, List.nil_append, vh_0 i07, vs_0 i07, vs_0 i17, ss_0 i07, obt_0 i07, qT_at_0 i07, qT_put_0 i07, qT_add_0 i07, vh_1 i07, vs_1 i07, vs_1 i17, ss_1 i07, obt_1 i07, qT_at_1 i07, qT_put_1 i07, qT_add_1 i07, vh_2 i07, vs_2 i07, vs_2 i17, ss_2 i07, obt_2 i07, qT_at_2 i07, qT_put_2 i07, qT_add_2 i07, vh_3 i07, vs_3 i07, vs_3 i17, ss_3 i07, obt_3 i07, qT_at_3 i07, qT_put_3 i07, qT_add_3 i07, vh_4 i07, vs_4 i07, vs_4 i17, ss_4 i07, obt_4 i07, qT_at_4 i07, qT_put_4 i07, qT_add_4 i07, vh_5 i07, vs_5 i07, vs_5 i17, ss_5 i07, obt_5 i07, qT_at_5 i07, qT_put_5 i07, qT_add_5 i07, vh_6 i07, vs_6 i07, vs_6 i17, ss_6 i07, obt_6 i07, qT_at_6 i07, qT_put_6 i07, qT_add_6 i07, vh_7 i07, vs_7 i07, vs_7 i17, ss_7 i07, obt_7 i07, qT_at_7 i07, qT_put_7 i07, qT_add_7 i07, vh_7 i17, obt_7 i17, qT_at_7 i17, hNe, if_neg this]
    exact hQ
  | succ m ih =>
    intro n d v u hm hQ
    have : oN n < oN N := by rw [oN_lt (by omega) (by omega)]; omega
    rw [rX_dearest_22]
    simp only [rX_dearest_24, rX_dearest_25, rX_dearest_28, rX_dearest_31, rX_dearest_34, rX_dearest_35, rX_dearest_38, rX_dearest_41, rX_dearest_43, rX_dearest_44, rX_dearest_47, rX_dearest_48, rX_dearest_51, rX_dearest_53, rX_dearest_54, rX_dearest_57, rX_dearest_58, rX_dearest_60, rX_dearest_62, rX_dearest_63, rX_dearest_66, rX_dearest_68, rX_dearest_69, rX_dearest_71, rX_dearest_72, rX_dearest_75, rX_dearest_78, rX_dearest_79, ct1_i, ct1_r, ct1_n, true_and, and_true, tl_s, tl_n, le4_0, le4_1, le4_2, le4_3, le4_4, le4_5, isO_r, cl_, emb1, emb2, le_rN, h4, h42, obX, obP, obN, obQ, xr_0, xr_1, xr_2, xr_3, xr_4, ob_h i07, ob_h i17, ob_h i27, isO_r, fok_i, rb_0, rb_1, rb_bi, bi_eq0, rb_b2, b2_0, ite_not, ni_0, ni_1, pi_0, pi_1, xi_0, sxi_0, sni_0, q_X_within, Option.toList, List.cons_append, List.nil_append, vh_0 i07, vs_0 i07, vs_0 i17, ss_0 i07, obt_0 i07, qT_at_0 i07, qT_put_0 i07, qT_add_0 i07, vh_1 i07, vs_1 i07, vs_1 i17, ss_1 i07, obt_1 i07, qT_at_1 i07, qT_put_1 i07, qT_add_1 i07, vh_2 i07, vs_2 i07, vs_2 i17, ss_2 i07, obt_2 i07, qT_at_2 i07, qT_put_2 i07, qT_add_2 i07, vh_3 i07, vs_3 i07, vs_3 i17, ss_3 i07, obt_3 i07, qT_at_3 i07, qT_put_3 i07, qT_add_3 i07, vh_4 i07, vs_4 i07, vs_4 i17, ss_4 i07, obt_4 i07, qT_at_4 i07, qT_put_4 i07, qT_add_4 i07, vh_5 i07, vs_5 i07, vs_5 i17, ss_5 i07, obt_5 i07, qT_at_5 i07, qT_put_5 i07, qT_add_5 i07, vh_6 i07, vs_6 i07, vs_6 i17, ss_6 i07, obt_6 i07, qT_at_6 i07, qT_put_6 i07, qT_add_6 i07, vh_7 i07, vs_7 i07, vs_7 i17, ss_7 i07, obt_7 i07, qT_at_7 i07, qT_put_7 i07, qT_add_7 i07, vh_7 i17, obt_7 i17, qT_at_7 i17, q_H_longestHire i07, hs, hNe, if_pos this, oN_succ]
    simp only [deF] at hQ
    change if v < kt (σ 0) (oN n) 4 * lgF (σ 0) (oN n) x 12 then _ else _
    rcases Decidable.em (v < kt (σ 0) (oN n) 4 * lgF (σ 0) (oN n) x 12) with h1 | h1
    · rw [if_pos h1] at hQ ⊢
      exact ih (n + 1) _ _ _ (by omega) hQ
    · rw [if_neg h1] at hQ ⊢
      exact ih (n + 1) _ _ _ (by omega) hQ
def drF (σ : SG) (m : Int32) : Int32 := if wi m 1 300 then deF (σ 0) m 0 (σ 0 8 1).toNatClampNeg (-5) 0 else -2
def sp_X_dearest : Nat → Sp := spL [(56, f_X_within), (4, f_T_at), (42, f_H_longestHire)]
theorem sp_X_dearest_X_within : sp_X_dearest 56 = f_X_within := rfl
theorem sp_X_dearest_T_at : sp_X_dearest 4 = f_T_at := rfl
theorem sp_X_dearest_H_longestHire : sp_X_dearest 42 = f_H_longestHire := rfl
def f_X_dearest : Sp := aS 9 (fun _ => 0) 1 (gL1 (fun _ m σ => (sm (σ 0 8 1) 16 ∧ sm (σ 0 8 2) 10, some (.int (drF σ m)), σ)))
theorem q_X_dearest {m : Int32} {σ : SG} : f_X_dearest [.ref 0, .int m] (emb σ) = (sm (σ 0 8 1) 16 ∧ sm (σ 0 8 2) 10, some (.int (drF σ m)), emb (σ)) := aS1_at (ad := (fun _ => 0)) (i := hI 0) (by decide) rfl
set_option maxHeartbeats 4000000 in
set_option maxRecDepth 20000 in
theorem ok_X_dearest : SpecOK 93 f_X_dearest := SpecOK.of (sp := sp_X_dearest) (by decide) (by decide) (spL_ok (List.forall_mem_cons.mpr ⟨ok_X_within, (List.forall_mem_cons.mpr ⟨ok_T_at, (List.forall_mem_cons.mpr ⟨ok_H_longestHire, (fun q h => absurd h List.not_mem_nil)⟩)⟩)⟩)) (Does_aS1 (Nat.le_of_ble_eq_true rfl) (fun sc i m σ hi had hp => by
  refine Vf_q ?_ ⟨rfl, rfl⟩
  intro Q hQ
  dsimp only at hQ hp
  show Vf 93 _ _ 0 [.ref (0), .int m, .null, .null, .null, .null] [] (emb σ) _

  simp only [rX_dearest_0, rX_dearest_1, rX_dearest_2, rX_dearest_5, rX_dearest_8, rX_dearest_11, rX_dearest_13, rX_dearest_14, rX_dearest_16, rX_dearest_17, rX_dearest_18, rX_dearest_19, rX_dearest_20, ct1_i, ct1_r, ct1_n, true_and, and_true, tl_s, tl_n, le4_0, le4_1, le4_2, le4_3, le4_4, le4_5, isO_r, cl_, emb1, emb2, le_rN, up1_at, up1_up1, sp_X_dearest_X_within, sp_X_dearest_T_at, sp_X_dearest_H_longestHire, obX, obP, obN, obQ, xr_0, xr_1, xr_2, xr_3, xr_4, ob_h i07, ob_h i17, ob_h i27, isO_r, fok_i, rb_0, rb_1, rb_bi, bi_eq0, rb_b2, b2_0, ite_not, ni_0, ni_1, pi_0, pi_1, xi_0, sxi_0, sni_0, q_X_within, Option.toList, List.cons_append, List.nil_append, vh_0 i07, vs_0 i07, vs_0 i17, ss_0 i07, obt_0 i07, qT_at_0 i07, qT_put_0 i07, qT_add_0 i07, vh_1 i07, vs_1 i07, vs_1 i17, ss_1 i07, obt_1 i07, qT_at_1 i07, qT_put_1 i07, qT_add_1 i07, vh_2 i07, vs_2 i07, vs_2 i17, ss_2 i07, obt_2 i07, qT_at_2 i07, qT_put_2 i07, qT_add_2 i07, vh_3 i07, vs_3 i07, vs_3 i17, ss_3 i07, obt_3 i07, qT_at_3 i07, qT_put_3 i07, qT_add_3 i07, vh_4 i07, vs_4 i07, vs_4 i17, ss_4 i07, obt_4 i07, qT_at_4 i07, qT_put_4 i07, qT_add_4 i07, vh_5 i07, vs_5 i07, vs_5 i17, ss_5 i07, obt_5 i07, qT_at_5 i07, qT_put_5 i07, qT_add_5 i07, vh_6 i07, vs_6 i07, vs_6 i17, ss_6 i07, obt_6 i07, qT_at_6 i07, qT_put_6 i07, qT_add_6 i07, vh_7 i07, vs_7 i07, vs_7 i17, ss_7 i07, obt_7 i07, qT_at_7 i07, qT_put_7 i07, qT_add_7 i07, vh_7 i17, obt_7 i17, qT_at_7 i17]
  unfold drF at hQ
  rcases Decidable.em (wi m 1 300) with h1 | h1
  case inr => rw [if_neg h1] at hQ ⊢; exact hQ
  rw [if_pos h1] at hQ ⊢
  exact lp_X_dearest sp_X_dearest_T_at sp_X_dearest_H_longestHire σ hp.2 _ hp.1.2 (sm_eq hp.1) _ 0 _ _ _ (Nat.zero_add _) hQ))
