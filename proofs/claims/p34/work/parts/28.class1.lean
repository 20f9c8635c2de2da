/-! THE CLASS: its own methods without loops -/
theorem i07 : (0 : Nat) < 7 := by decide
theorem i17 : (1 : Nat) < 7 := by decide
theorem i27 : (2 : Nat) < 7 := by decide
abbrev wi (x a b : Int32) : Prop := ¬ x < a ∧ ¬ b < x
theorem wi_sm {x a : Int32} {n : Nat} (h : wi x a (oN n)) (ha : ¬ a < 0) (hn : n < 2 ^ 31) : sm x n := by
  obtain ⟨h1, h2⟩ := h
  have h0 : ¬ x < 0 := by
    intro h
    rw [Int32.lt_iff_toInt_lt] at h h1 ha
    rw [Int32.toInt_zero] at h ha
    omega
  refine ⟨h0, ?_⟩
  rw [Int32.lt_iff_toInt_lt] at h2 h0
  rw [Int32.toInt_zero] at h0
  rw [oN_toInt hn] at h2
  show x.toInt.toNat ≤ n
  omega
theorem st_al {e : En} {S : MS} : aln e S 1000 = 5 := rfl
theorem st_al1 {e : En} {S : MS} : aln e S 1001 = 5 := rfl
theorem st_ok {S : MS} : aok S 1000 7 = True := eq_true (by unfold aok; rw [if_neg (by omega)]; exact ⟨by rw [if_pos (by omega)]; omega, rfl⟩)
theorem st_ok1 {S : MS} : aok S 1001 7 = True := eq_true (by unfold aok; rw [if_neg (by omega)]; exact ⟨by rw [if_pos (by omega)]; omega, rfl⟩)
def lst (a : Int32) : Int32 := (stv 0).getD a.toNatClampNeg 0
def mst (a : Int32) : Int32 := (stv 1).getD a.toNatClampNeg 0
theorem st_rd {e : En} {S : MS} {a : Int32} : ard e S 1000 a.toNatClampNeg = lst a := rfl
theorem st_rd1 {e : En} {S : MS} {a : Int32} : ard e S 1001 a.toNatClampNeg = mst a := rfl

def sp_X_within : Nat → Sp := spL []
def f_X_within : Sp := fS 3 (gF3 (fun x a b => (True, some (.int (bi (wi x a b))))))
theorem q_X_within {x a b : Int32} {S : MS} : f_X_within [.int x, .int a, .int b] S = (True, some (.int (bi (wi x a b))), S) := fS3_at
set_option maxHeartbeats 4000000 in
set_option maxRecDepth 20000 in
theorem ok_X_within : SpecOK 56 f_X_within := SpecOK.of (sp := sp_X_within) (by decide) (by decide) (spL_ok (fun q h => absurd h List.not_mem_nil)) (Does_fS3 (Nat.le_of_ble_eq_true rfl) (fun e x a b S hp => by
  show Vf 56 _ _ 0 [.int x, .int a, .int b] [] S _

  simp only [rX_within_0, rX_within_1, rX_within_2, rX_within_5, rX_within_6, rX_within_7, rX_within_10, rX_within_11, rX_within_14, rX_within_15, ct1_i, ct1_r, ct1_n, true_and, and_true, tl_s, tl_n, le4_0, le4_1, le4_2, le4_3, le4_4, le4_5, isO_r]
  by_cases h1 : x < a
  · rw [bi_f (fun q => q.1 h1), if_pos h1]
    exact ⟨rfl, rfl⟩
  · rw [if_neg h1]
    by_cases h2 : b < x
    · rw [bi_f (fun q => q.2 h2), if_pos h2]
      exact ⟨rfl, rfl⟩
    · rw [bi_t ⟨h1, h2⟩, if_neg h2]
      exact ⟨rfl, rfl⟩))
def sp_X_isColour : Nat → Sp := spL [(56, f_X_within)]
theorem sp_X_isColour_X_within : sp_X_isColour 56 = f_X_within := rfl
def f_X_isColour : Sp := fS 1 (gF1 (fun x => (True, some (.int (bi (wi x 0 5))))))
theorem q_X_isColour {x : Int32} {S : MS} : f_X_isColour [.int x] S = (True, some (.int (bi (wi x 0 5))), S) := fS1_at
set_option maxHeartbeats 4000000 in
set_option maxRecDepth 20000 in
theorem ok_X_isColour : SpecOK 59 f_X_isColour := SpecOK.of (sp := sp_X_isColour) (by decide) (by decide) (spL_ok (List.forall_mem_cons.mpr ⟨ok_X_within, (fun q h => absurd h List.not_mem_nil)⟩)) (Does_fS1 (Nat.le_of_ble_eq_true rfl) (fun e x S hp => by
  show Vf 59 _ _ 0 [.int x] [] S _

  simp only [rX_isColour_0, rX_isColour_1, rX_isColour_2, rX_isColour_3, rX_isColour_6, ct1_i, ct1_r, ct1_n, true_and, and_true, tl_s, tl_n, le4_0, le4_1, le4_2, le4_3, le4_4, le4_5, isO_r, cl_, sp_X_isColour_X_within, q_X_within, le_rN, rb_bi, Option.toList, List.cons_append, List.nil_append]))
abbrev svP (a b : Int32) : Prop := ¬ a < 0 ∧ a < 5 ∧ wi b (lst a) (mst a)
def sp_X_isSettingValue : Nat → Sp := spL [(56, f_X_within)]
theorem sp_X_isSettingValue_X_within : sp_X_isSettingValue 56 = f_X_within := rfl
def f_X_isSettingValue : Sp := fS 2 (gF2 (fun a b => (True, some (.int (bi (svP a b))))))
theorem q_X_isSettingValue {a b : Int32} {S : MS} : f_X_isSettingValue [.int a, .int b] S = (True, some (.int (bi (svP a b))), S) := fS2_at
set_option maxHeartbeats 4000000 in
set_option maxRecDepth 20000 in
theorem ok_X_isSettingValue : SpecOK 61 f_X_isSettingValue := SpecOK.of (sp := sp_X_isSettingValue) (by decide) (by decide) (spL_ok (List.forall_mem_cons.mpr ⟨ok_X_within, (fun q h => absurd h List.not_mem_nil)⟩)) (Does_fS2 (Nat.le_of_ble_eq_true rfl) (fun e a b S hp => by
  show Vf 61 _ _ 0 [.int a, .int b] [] S _

  refine Vf_q ?_ ⟨rfl, rfl⟩
  intro Q hQ
  simp only [rX_isSettingValue_0, rX_isSettingValue_1, rX_isSettingValue_4, rX_isSettingValue_5, rX_isSettingValue_8, rX_isSettingValue_9, rX_isSettingValue_12, rX_isSettingValue_13, rX_isSettingValue_16, rX_isSettingValue_17, rX_isSettingValue_20, rX_isSettingValue_21, rX_isSettingValue_24, rX_isSettingValue_25, rX_isSettingValue_26, rX_isSettingValue_29, rX_isSettingValue_30, rX_isSettingValue_31, rX_isSettingValue_34, rX_isSettingValue_37, rX_isSettingValue_38, rX_isSettingValue_41, rX_isSettingValue_42, ct1_i, ct1_r, ct1_n, true_and, and_true, tl_s, tl_n, le4_0, le4_1, le4_2, le4_3, le4_4, le4_5, isO_r, cl_, sp_X_isSettingValue_X_within, q_X_within, le_rN, rb_bi, bi_eq0, ite_not, st_al, st_al1, st_ok, st_ok1, st_rd, st_rd1, true_or, Option.toList, List.cons_append, List.nil_append, rb_0, rb_1]
  rcases Decidable.em (a < 0) with h1 | h1
  · rw [if_pos h1]
    rw [bi_f (fun q => q.1 h1)] at hQ
    exact hQ
  rw [if_neg h1]
  rcases Decidable.em (a < 5) with h2 | h2
  case inr =>
    rw [if_neg (show ¬ a < Int32.ofNat 5 from h2)]
    rw [bi_f (fun q => h2 q.2.1)] at hQ
    exact hQ
  rw [if_pos (show a < Int32.ofNat 5 from h2), if_pos (show a < Int32.ofNat 5 from h2)]
  have h3 : iin a 5 := of_eq_true (iin_p (n := 5) h1 h2 (by decide))
  refine ⟨h3, h3, ?_⟩
  rcases Decidable.em (wi b (lst a) (mst a)) with h4 | h4
  · rw [if_pos h4]
    rw [bi_t ⟨h1, h2, h4⟩] at hQ
    exact hQ
  · rw [if_neg h4]
    rw [bi_f (fun q => h4 q.2.2)] at hQ
    exact hQ))
def sp_X_isKite : Nat → Sp := spL [(56, f_X_within)]
theorem sp_X_isKite_X_within : sp_X_isKite 56 = f_X_within := rfl
def f_X_isKite : Sp := aS 9 (fun _ => 0) 1 (gL1 (fun _ x σ => (True, some (.int (bi (wi x 0 (σ 0 8 1 - 1)))), σ)))
theorem q_X_isKite {x : Int32} {σ : SG} : f_X_isKite [.ref 0, .int x] (emb σ) = (True, some (.int (bi (wi x 0 (σ 0 8 1 - 1)))), emb (σ)) := aS1_at (ad := (fun _ => 0)) (i := hI 0) (by decide) rfl
set_option maxHeartbeats 4000000 in
set_option maxRecDepth 20000 in
theorem ok_X_isKite : SpecOK 60 f_X_isKite := SpecOK.of (sp := sp_X_isKite) (by decide) (by decide) (spL_ok (List.forall_mem_cons.mpr ⟨ok_X_within, (fun q h => absurd h List.not_mem_nil)⟩)) (Does_aS1 (Nat.le_of_ble_eq_true rfl) (fun sc i x σ hi had hp => by
  show Vf 60 _ _ 0 [.ref (0), .int x] [] (emb σ) _
  simp only [rX_isKite_0, rX_isKite_1, rX_isKite_2, rX_isKite_3, rX_isKite_6, rX_isKite_9, rX_isKite_10, rX_isKite_11, rX_isKite_14, ct1_i, ct1_r, ct1_n, true_and, and_true, tl_s, tl_n, le4_0, le4_1, le4_2, le4_3, le4_4, le4_5, isO_r, cl_, emb1, emb2, le_rN, up1_at, up1_up1, sp_X_isKite_X_within, obX, obP, obN, obQ, xr_0, xr_1, xr_2, xr_3, xr_4, ob_h i07, ob_h i17, ob_h i27, isO_r, fok_i, rb_0, rb_1, rb_bi, bi_eq0, rb_b2, b2_0, ite_not, ni_0, ni_1, pi_0, pi_1, xi_0, sxi_0, sni_0, q_X_within, Option.toList, List.cons_append, List.nil_append, vh_0 i07, vs_0 i07, vs_0 i17, ss_0 i07, obt_0 i07, qT_at_0 i07, qT_put_0 i07, qT_add_0 i07, vh_1 i07, vs_1 i07, vs_1 i17, ss_1 i07, obt_1 i07, qT_at_1 i07, qT_put_1 i07, qT_add_1 i07, vh_2 i07, vs_2 i07, vs_2 i17, ss_2 i07, obt_2 i07, qT_at_2 i07, qT_put_2 i07, qT_add_2 i07, vh_3 i07, vs_3 i07, vs_3 i17, ss_3 i07, obt_3 i07, qT_at_3 i07, qT_put_3 i07, qT_add_3 i07, vh_4 i07, vs_4 i07, vs_4 i17, ss_4 i07, obt_4 i07, qT_at_4 i07, qT_put_4 i07, qT_add_4 i07, vh_5 i07, vs_5 i07, vs_5 i17, ss_5 i07, obt_5 i07, qT_at_5 i07, qT_put_5 i07, qT_add_5 i07, vh_6 i07, vs_6 i07, vs_6 i17, ss_6 i07, obt_6 i07, qT_at_6 i07, qT_put_6 i07, qT_add_6 i07, vh_7 i07, vs_7 i07, vs_7 i17, ss_7 i07, obt_7 i07, qT_at_7 i07, qT_put_7 i07, qT_add_7 i07, vh_7 i17, obt_7 i17, qT_at_7 i17]))
def sp_X_spoolOf : Nat → Sp := spL [(56, f_X_within), (4, f_T_at)]
theorem sp_X_spoolOf_X_within : sp_X_spoolOf 56 = f_X_within := rfl
theorem sp_X_spoolOf_T_at : sp_X_spoolOf 4 = f_T_at := rfl
def f_X_spoolOf : Sp := aS 9 (fun _ => 0) 2 (gL2 (fun _ x y σ => (True, some (.int (if wi x 0 (σ 0 8 2 - 1) then (if wi y 0 3 then sl (σ 0) x y else -2) else -1)), σ)))
theorem q_X_spoolOf {x y : Int32} {σ : SG} : f_X_spoolOf [.ref 0, .int x, .int y] (emb σ) = (True, some (.int (if wi x 0 (σ 0 8 2 - 1) then (if wi y 0 3 then sl (σ 0) x y else -2) else -1)), emb (σ)) := aS2_at (ad := (fun _ => 0)) (i := hI 0) (by decide) rfl
set_option maxHeartbeats 4000000 in
set_option maxRecDepth 20000 in
theorem ok_X_spoolOf : SpecOK 63 f_X_spoolOf := SpecOK.of (sp := sp_X_spoolOf) (by decide) (by decide) (spL_ok (List.forall_mem_cons.mpr ⟨ok_X_within, (List.forall_mem_cons.mpr ⟨ok_T_at, (fun q h => absurd h List.not_mem_nil)⟩)⟩)) (Does_aS2 (Nat.le_of_ble_eq_true rfl) (fun sc i x y σ hi had hp => by
  refine Vf_q ?_ ⟨rfl, rfl⟩
  intro Q hQ
  dsimp only at hQ hp
  show Vf 63 _ _ 0 [.ref (0), .int x, .int y] [] (emb σ) _

  simp only [rX_spoolOf_0, rX_spoolOf_1, rX_spoolOf_2, rX_spoolOf_3, rX_spoolOf_6, rX_spoolOf_9, rX_spoolOf_10, rX_spoolOf_11, rX_spoolOf_14, rX_spoolOf_17, rX_spoolOf_18, rX_spoolOf_19, rX_spoolOf_20, rX_spoolOf_21, rX_spoolOf_22, rX_spoolOf_25, rX_spoolOf_28, rX_spoolOf_29, rX_spoolOf_32, rX_spoolOf_35, rX_spoolOf_36, rX_spoolOf_37, rX_spoolOf_40, rX_spoolOf_43, rX_spoolOf_45, ct1_i, ct1_r, ct1_n, true_and, and_true, tl_s, tl_n, le4_0, le4_1, le4_2, le4_3, le4_4, le4_5, isO_r, cl_, emb1, emb2, le_rN, up1_at, up1_up1, sp_X_spoolOf_X_within, sp_X_spoolOf_T_at, obX, obP, obN, obQ, xr_0, xr_1, xr_2, xr_3, xr_4, ob_h i07, ob_h i17, ob_h i27, isO_r, fok_i, rb_0, rb_1, rb_bi, bi_eq0, rb_b2, b2_0, ite_not, ni_0, ni_1, pi_0, pi_1, xi_0, sxi_0, sni_0, q_X_within, Option.toList, List.cons_append, List.nil_append, vh_0 i07, vs_0 i07, vs_0 i17, ss_0 i07, obt_0 i07, qT_at_0 i07, qT_put_0 i07, qT_add_0 i07, vh_1 i07, vs_1 i07, vs_1 i17, ss_1 i07, obt_1 i07, qT_at_1 i07, qT_put_1 i07, qT_add_1 i07, vh_2 i07, vs_2 i07, vs_2 i17, ss_2 i07, obt_2 i07, qT_at_2 i07, qT_put_2 i07, qT_add_2 i07, vh_3 i07, vs_3 i07, vs_3 i17, ss_3 i07, obt_3 i07, qT_at_3 i07, qT_put_3 i07, qT_add_3 i07, vh_4 i07, vs_4 i07, vs_4 i17, ss_4 i07, obt_4 i07, qT_at_4 i07, qT_put_4 i07, qT_add_4 i07, vh_5 i07, vs_5 i07, vs_5 i17, ss_5 i07, obt_5 i07, qT_at_5 i07, qT_put_5 i07, qT_add_5 i07, vh_6 i07, vs_6 i07, vs_6 i17, ss_6 i07, obt_6 i07, qT_at_6 i07, qT_put_6 i07, qT_add_6 i07, vh_7 i07, vs_7 i07, vs_7 i17, ss_7 i07, obt_7 i07, qT_at_7 i07, qT_put_7 i07, qT_add_7 i07, vh_7 i17, obt_7 i17, qT_at_7 i17]
  rcases Decidable.em (wi x 0 (σ 0 8 2 - 1)) with h1 | h1
  case inr => rw [if_neg h1] at hQ ⊢; exact hQ
  rw [if_pos h1] at hQ ⊢
  rcases Decidable.em (wi y 0 3) with h2 | h2
  case inr => rw [if_neg h2] at hQ ⊢; exact hQ
  rw [if_pos h2] at hQ ⊢
  exact hQ))
def sp_X_ended : Nat → Sp := spL [(56, f_X_within), (4, f_T_at)]
theorem sp_X_ended_X_within : sp_X_ended 56 = f_X_within := rfl
theorem sp_X_ended_T_at : sp_X_ended 4 = f_T_at := rfl
def f_X_ended : Sp := aS 9 (fun _ => 0) 2 (gL2 (fun _ x y σ => (True, some (.int (if wi x 0 7 then (if wi y 0 3 then (if x < σ 0 8 5 then at_ (σ 0 6) 4 32 ((σ 0 8 5 - 1 - x) - (σ 0 8 5 - 1 - x) / 8 * 8) y else -5) else -2) else -2)), σ)))
theorem q_X_ended {x y : Int32} {σ : SG} : f_X_ended [.ref 0, .int x, .int y] (emb σ) = (True, some (.int (if wi x 0 7 then (if wi y 0 3 then (if x < σ 0 8 5 then at_ (σ 0 6) 4 32 ((σ 0 8 5 - 1 - x) - (σ 0 8 5 - 1 - x) / 8 * 8) y else -5) else -2) else -2)), emb (σ)) := aS2_at (ad := (fun _ => 0)) (i := hI 0) (by decide) rfl
set_option maxHeartbeats 4000000 in
set_option maxRecDepth 20000 in
theorem ok_X_ended : SpecOK 64 f_X_ended := SpecOK.of (sp := sp_X_ended) (by decide) (by decide) (spL_ok (List.forall_mem_cons.mpr ⟨ok_X_within, (List.forall_mem_cons.mpr ⟨ok_T_at, (fun q h => absurd h List.not_mem_nil)⟩)⟩)) (Does_aS2 (Nat.le_of_ble_eq_true rfl) (fun sc i x y σ hi had hp => by
  refine Vf_q ?_ ⟨rfl, rfl⟩
  intro Q hQ
  dsimp only at hQ hp
  show Vf 64 _ _ 0 [.ref (0), .int x, .int y] [] (emb σ) _

  simp only [rX_ended_0, rX_ended_1, rX_ended_2, rX_ended_4, rX_ended_7, rX_ended_10, rX_ended_11, rX_ended_12, rX_ended_13, rX_ended_16, rX_ended_19, rX_ended_21, rX_ended_22, rX_ended_23, rX_ended_24, rX_ended_27, rX_ended_30, rX_ended_33, rX_ended_35, rX_ended_36, rX_ended_37, rX_ended_40, rX_ended_43, rX_ended_44, rX_ended_47, rX_ended_50, rX_ended_51, rX_ended_52, rX_ended_53, rX_ended_54, rX_ended_56, rX_ended_57, rX_ended_58, rX_ended_61, ct1_i, ct1_r, ct1_n, true_and, and_true, tl_s, tl_n, le4_0, le4_1, le4_2, le4_3, le4_4, le4_5, isO_r, cl_, emb1, emb2, le_rN, up1_at, up1_up1, sp_X_ended_X_within, sp_X_ended_T_at, obX, obP, obN, obQ, xr_0, xr_1, xr_2, xr_3, xr_4, ob_h i07, ob_h i17, ob_h i27, isO_r, fok_i, rb_0, rb_1, rb_bi, bi_eq0, rb_b2, b2_0, ite_not, ni_0, ni_1, pi_0, pi_1, xi_0, sxi_0, sni_0, q_X_within, Option.toList, List.cons_append, List.nil_append, vh_0 i07, vs_0 i07, vs_0 i17, ss_0 i07, obt_0 i07, qT_at_0 i07, qT_put_0 i07, qT_add_0 i07, vh_1 i07, vs_1 i07, vs_1 i17, ss_1 i07, obt_1 i07, qT_at_1 i07, qT_put_1 i07, qT_add_1 i07, vh_2 i07, vs_2 i07, vs_2 i17, ss_2 i07, obt_2 i07, qT_at_2 i07, qT_put_2 i07, qT_add_2 i07, vh_3 i07, vs_3 i07, vs_3 i17, ss_3 i07, obt_3 i07, qT_at_3 i07, qT_put_3 i07, qT_add_3 i07, vh_4 i07, vs_4 i07, vs_4 i17, ss_4 i07, obt_4 i07, qT_at_4 i07, qT_put_4 i07, qT_add_4 i07, vh_5 i07, vs_5 i07, vs_5 i17, ss_5 i07, obt_5 i07, qT_at_5 i07, qT_put_5 i07, qT_add_5 i07, vh_6 i07, vs_6 i07, vs_6 i17, ss_6 i07, obt_6 i07, qT_at_6 i07, qT_put_6 i07, qT_add_6 i07, vh_7 i07, vs_7 i07, vs_7 i17, ss_7 i07, obt_7 i07, qT_at_7 i07, qT_put_7 i07, qT_add_7 i07, vh_7 i17, obt_7 i17, qT_at_7 i17, show ¬ (8 : Int32) = 0 by decide, not_false_eq_true]
  rcases Decidable.em (wi x 0 7) with h1 | h1
  case inr => rw [if_neg h1] at hQ ⊢; exact hQ
  rw [if_pos h1] at hQ ⊢
  rcases Decidable.em (wi y 0 3) with h2 | h2
  case inr => rw [if_neg h2] at hQ ⊢; exact hQ
  rw [if_pos h2] at hQ ⊢
  rcases Decidable.em (x < σ 0 8 5) with h3 | h3
  case inr => rw [if_neg h3] at hQ ⊢; exact hQ
  rw [if_pos h3] at hQ ⊢
  exact hQ))
def sp_X_kiteOf : Nat → Sp := spL [(56, f_X_within), (60, f_X_isKite), (4, f_T_at)]
theorem sp_X_kiteOf_X_within : sp_X_kiteOf 56 = f_X_within := rfl
theorem sp_X_kiteOf_X_isKite : sp_X_kiteOf 60 = f_X_isKite := rfl
theorem sp_X_kiteOf_T_at : sp_X_kiteOf 4 = f_T_at := rfl
def f_X_kiteOf : Sp := aS 9 (fun _ => 0) 2 (gL2 (fun _ x y σ => (True, some (.int (if wi x 0 (σ 0 8 1 - 1) then (if wi y 0 7 then kt (σ 0) x y else -2) else -1)), σ)))
theorem q_X_kiteOf {x y : Int32} {σ : SG} : f_X_kiteOf [.ref 0, .int x, .int y] (emb σ) = (True, some (.int (if wi x 0 (σ 0 8 1 - 1) then (if wi y 0 7 then kt (σ 0) x y else -2) else -1)), emb (σ)) := aS2_at (ad := (fun _ => 0)) (i := hI 0) (by decide) rfl
set_option maxHeartbeats 4000000 in
set_option maxRecDepth 20000 in
theorem ok_X_kiteOf : SpecOK 67 f_X_kiteOf := SpecOK.of (sp := sp_X_kiteOf) (by decide) (by decide) (spL_ok (List.forall_mem_cons.mpr ⟨ok_X_within, (List.forall_mem_cons.mpr ⟨ok_X_isKite, (List.forall_mem_cons.mpr ⟨ok_T_at, (fun q h => absurd h List.not_mem_nil)⟩)⟩)⟩)) (Does_aS2 (Nat.le_of_ble_eq_true rfl) (fun sc i x y σ hi had hp => by
  refine Vf_q ?_ ⟨rfl, rfl⟩
  intro Q hQ
  dsimp only at hQ hp
  show Vf 67 _ _ 0 [.ref (0), .int x, .int y] [] (emb σ) _

  simp only [rX_kiteOf_0, rX_kiteOf_1, rX_kiteOf_2, rX_kiteOf_5, rX_kiteOf_8, rX_kiteOf_9, rX_kiteOf_10, rX_kiteOf_11, rX_kiteOf_12, rX_kiteOf_14, rX_kiteOf_17, rX_kiteOf_20, rX_kiteOf_21, rX_kiteOf_24, rX_kiteOf_27, rX_kiteOf_28, rX_kiteOf_29, rX_kiteOf_32, rX_kiteOf_35, rX_kiteOf_37, ct1_i, ct1_r, ct1_n, true_and, and_true, tl_s, tl_n, le4_0, le4_1, le4_2, le4_3, le4_4, le4_5, isO_r, cl_, emb1, emb2, le_rN, up1_at, up1_up1, sp_X_kiteOf_X_within, sp_X_kiteOf_X_isKite, sp_X_kiteOf_T_at, obX, obP, obN, obQ, xr_0, xr_1, xr_2, xr_3, xr_4, ob_h i07, ob_h i17, ob_h i27, isO_r, fok_i, rb_0, rb_1, rb_bi, bi_eq0, rb_b2, b2_0, ite_not, ni_0, ni_1, pi_0, pi_1, xi_0, sxi_0, sni_0, q_X_within, Option.toList, List.cons_append, List.nil_append, vh_0 i07, vs_0 i07, vs_0 i17, ss_0 i07, obt_0 i07, qT_at_0 i07, qT_put_0 i07, qT_add_0 i07, vh_1 i07, vs_1 i07, vs_1 i17, ss_1 i07, obt_1 i07, qT_at_1 i07, qT_put_1 i07, qT_add_1 i07, vh_2 i07, vs_2 i07, vs_2 i17, ss_2 i07, obt_2 i07, qT_at_2 i07, qT_put_2 i07, qT_add_2 i07, vh_3 i07, vs_3 i07, vs_3 i17, ss_3 i07, obt_3 i07, qT_at_3 i07, qT_put_3 i07, qT_add_3 i07, vh_4 i07, vs_4 i07, vs_4 i17, ss_4 i07, obt_4 i07, qT_at_4 i07, qT_put_4 i07, qT_add_4 i07, vh_5 i07, vs_5 i07, vs_5 i17, ss_5 i07, obt_5 i07, qT_at_5 i07, qT_put_5 i07, qT_add_5 i07, vh_6 i07, vs_6 i07, vs_6 i17, ss_6 i07, obt_6 i07, qT_at_6 i07, qT_put_6 i07, qT_add_6 i07, vh_7 i07, vs_7 i07, vs_7 i17, ss_7 i07, obt_7 i07, qT_at_7 i07, qT_put_7 i07, qT_add_7 i07, vh_7 i17, obt_7 i17, qT_at_7 i17, q_X_isKite]
  rcases Decidable.em (wi x 0 (σ 0 8 1 - 1)) with h1 | h1
  case inr => rw [if_neg h1] at hQ ⊢; exact hQ
  rw [if_pos h1] at hQ ⊢
  rcases Decidable.em (wi y 0 7) with h2 | h2
  case inr => rw [if_neg h2] at hQ ⊢; exact hQ
  rw [if_pos h2] at hQ ⊢
  exact hQ))
def sp_X_tailsOf : Nat → Sp := spL [(56, f_X_within), (59, f_X_isColour), (4, f_T_at)]
theorem sp_X_tailsOf_X_within : sp_X_tailsOf 56 = f_X_within := rfl
theorem sp_X_tailsOf_X_isColour : sp_X_tailsOf 59 = f_X_isColour := rfl
theorem sp_X_tailsOf_T_at : sp_X_tailsOf 4 = f_T_at := rfl
def f_X_tailsOf : Sp := aS 9 (fun _ => 0) 2 (gL2 (fun _ x y σ => (True, some (.int (if wi x 0 5 then (if wi y 0 2 then tl (σ 0) x y else -2) else -1)), σ)))
theorem q_X_tailsOf {x y : Int32} {σ : SG} : f_X_tailsOf [.ref 0, .int x, .int y] (emb σ) = (True, some (.int (if wi x 0 5 then (if wi y 0 2 then tl (σ 0) x y else -2) else -1)), emb (σ)) := aS2_at (ad := (fun _ => 0)) (i := hI 0) (by decide) rfl
set_option maxHeartbeats 4000000 in
set_option maxRecDepth 20000 in
theorem ok_X_tailsOf : SpecOK 68 f_X_tailsOf := SpecOK.of (sp := sp_X_tailsOf) (by decide) (by decide) (spL_ok (List.forall_mem_cons.mpr ⟨ok_X_within, (List.forall_mem_cons.mpr ⟨ok_X_isColour, (List.forall_mem_cons.mpr ⟨ok_T_at, (fun q h => absurd h List.not_mem_nil)⟩)⟩)⟩)) (Does_aS2 (Nat.le_of_ble_eq_true rfl) (fun sc i x y σ hi had hp => by
  refine Vf_q ?_ ⟨rfl, rfl⟩
  intro Q hQ
  dsimp only at hQ hp
  show Vf 68 _ _ 0 [.ref (0), .int x, .int y] [] (emb σ) _

  simp only [rX_tailsOf_0, rX_tailsOf_1, rX_tailsOf_4, rX_tailsOf_7, rX_tailsOf_8, rX_tailsOf_9, rX_tailsOf_10, rX_tailsOf_11, rX_tailsOf_12, rX_tailsOf_15, rX_tailsOf_18, rX_tailsOf_19, rX_tailsOf_22, rX_tailsOf_25, rX_tailsOf_26, rX_tailsOf_27, rX_tailsOf_30, rX_tailsOf_33, rX_tailsOf_35, ct1_i, ct1_r, ct1_n, true_and, and_true, tl_s, tl_n, le4_0, le4_1, le4_2, le4_3, le4_4, le4_5, isO_r, cl_, emb1, emb2, le_rN, up1_at, up1_up1, sp_X_tailsOf_X_within, sp_X_tailsOf_X_isColour, sp_X_tailsOf_T_at, obX, obP, obN, obQ, xr_0, xr_1, xr_2, xr_3, xr_4, ob_h i07, ob_h i17, ob_h i27, isO_r, fok_i, rb_0, rb_1, rb_bi, bi_eq0, rb_b2, b2_0, ite_not, ni_0, ni_1, pi_0, pi_1, xi_0, sxi_0, sni_0, q_X_within, Option.toList, List.cons_append, List.nil_append, vh_0 i07, vs_0 i07, vs_0 i17, ss_0 i07, obt_0 i07, qT_at_0 i07, qT_put_0 i07, qT_add_0 i07, vh_1 i07, vs_1 i07, vs_1 i17, ss_1 i07, obt_1 i07, qT_at_1 i07, qT_put_1 i07, qT_add_1 i07, vh_2 i07, vs_2 i07, vs_2 i17, ss_2 i07, obt_2 i07, qT_at_2 i07, qT_put_2 i07, qT_add_2 i07, vh_3 i07, vs_3 i07, vs_3 i17, ss_3 i07, obt_3 i07, qT_at_3 i07, qT_put_3 i07, qT_add_3 i07, vh_4 i07, vs_4 i07, vs_4 i17, ss_4 i07, obt_4 i07, qT_at_4 i07, qT_put_4 i07, qT_add_4 i07, vh_5 i07, vs_5 i07, vs_5 i17, ss_5 i07, obt_5 i07, qT_at_5 i07, qT_put_5 i07, qT_add_5 i07, vh_6 i07, vs_6 i07, vs_6 i17, ss_6 i07, obt_6 i07, qT_at_6 i07, qT_put_6 i07, qT_add_6 i07, vh_7 i07, vs_7 i07, vs_7 i17, ss_7 i07, obt_7 i07, qT_at_7 i07, qT_put_7 i07, qT_add_7 i07, vh_7 i17, obt_7 i17, qT_at_7 i17, q_X_isColour]
  rcases Decidable.em (wi x 0 5) with h1 | h1
  case inr => rw [if_neg h1] at hQ ⊢; exact hQ
  rw [if_pos h1] at hQ ⊢
  rcases Decidable.em (wi y 0 2) with h2 | h2
  case inr => rw [if_neg h2] at hQ ⊢; exact hQ
  rw [if_pos h2] at hQ ⊢
  exact hQ))
abbrev rwF (w : HV) (h : Int32) : Int32 := fsF (fun r => decide (hr w (oN r) 6 = h)) 0 (w 8 4).toNatClampNeg
def sp_X_hireOf : Nat → Sp := spL [(56, f_X_within), (20, f_H_rowOfHire), (4, f_T_at)]
theorem sp_X_hireOf_X_within : sp_X_hireOf 56 = f_X_within := rfl
theorem sp_X_hireOf_H_rowOfHire : sp_X_hireOf 20 = f_H_rowOfHire := rfl
theorem sp_X_hireOf_T_at : sp_X_hireOf 4 = f_T_at := rfl
def f_X_hireOf : Sp := aS 9 (fun _ => 0) 2 (gL2 (fun _ x y σ => (sm (σ 0 8 4) 10, some (.int (if rwF (σ 0) x < 0 then -1 else (if wi y 0 5 then hr (σ 0) (rwF (σ 0) x) y else -2))), σ)))
theorem q_X_hireOf {x y : Int32} {σ : SG} : f_X_hireOf [.ref 0, .int x, .int y] (emb σ) = (sm (σ 0 8 4) 10, some (.int (if rwF (σ 0) x < 0 then -1 else (if wi y 0 5 then hr (σ 0) (rwF (σ 0) x) y else -2))), emb (σ)) := aS2_at (ad := (fun _ => 0)) (i := hI 0) (by decide) rfl
set_option maxHeartbeats 4000000 in
set_option maxRecDepth 20000 in
theorem ok_X_hireOf : SpecOK 69 f_X_hireOf := SpecOK.of (sp := sp_X_hireOf) (by decide) (by decide) (spL_ok (List.forall_mem_cons.mpr ⟨ok_X_within, (List.forall_mem_cons.mpr ⟨ok_H_rowOfHire, (List.forall_mem_cons.mpr ⟨ok_T_at, (fun q h => absurd h List.not_mem_nil)⟩)⟩)⟩)) (Does_aS2 (Nat.le_of_ble_eq_true rfl) (fun sc i x y σ hi had hp => by
  refine Vf_q ?_ ⟨rfl, rfl⟩
  intro Q hQ
  dsimp only at hQ hp
  show Vf 69 _ _ 0 [.ref (0), .int x, .int y, .null] [] (emb σ) _

  simp only [rX_hireOf_0, rX_hireOf_1, rX_hireOf_4, rX_hireOf_5, rX_hireOf_8, rX_hireOf_9, rX_hireOf_10, rX_hireOf_13, rX_hireOf_14, rX_hireOf_15, rX_hireOf_16, rX_hireOf_17, rX_hireOf_18, rX_hireOf_21, rX_hireOf_24, rX_hireOf_25, rX_hireOf_28, rX_hireOf_31, rX_hireOf_32, rX_hireOf_33, rX_hireOf_36, rX_hireOf_39, rX_hireOf_41, ct1_i, ct1_r, ct1_n, true_and, and_true, tl_s, tl_n, le4_0, le4_1, le4_2, le4_3, le4_4, le4_5, isO_r, cl_, emb1, emb2, le_rN, up1_at, up1_up1, sp_X_hireOf_X_within, sp_X_hireOf_H_rowOfHire, sp_X_hireOf_T_at, obX, obP, obN, obQ, xr_0, xr_1, xr_2, xr_3, xr_4, ob_h i07, ob_h i17, ob_h i27, isO_r, fok_i, rb_0, rb_1, rb_bi, bi_eq0, rb_b2, b2_0, ite_not, ni_0, ni_1, pi_0, pi_1, xi_0, sxi_0, sni_0, q_X_within, Option.toList, List.cons_append, List.nil_append, vh_0 i07, vs_0 i07, vs_0 i17, ss_0 i07, obt_0 i07, qT_at_0 i07, qT_put_0 i07, qT_add_0 i07, vh_1 i07, vs_1 i07, vs_1 i17, ss_1 i07, obt_1 i07, qT_at_1 i07, qT_put_1 i07, qT_add_1 i07, vh_2 i07, vs_2 i07, vs_2 i17, ss_2 i07, obt_2 i07, qT_at_2 i07, qT_put_2 i07, qT_add_2 i07, vh_3 i07, vs_3 i07, vs_3 i17, ss_3 i07, obt_3 i07, qT_at_3 i07, qT_put_3 i07, qT_add_3 i07, vh_4 i07, vs_4 i07, vs_4 i17, ss_4 i07, obt_4 i07, qT_at_4 i07, qT_put_4 i07, qT_add_4 i07, vh_5 i07, vs_5 i07, vs_5 i17, ss_5 i07, obt_5 i07, qT_at_5 i07, qT_put_5 i07, qT_add_5 i07, vh_6 i07, vs_6 i07, vs_6 i17, ss_6 i07, obt_6 i07, qT_at_6 i07, qT_put_6 i07, qT_add_6 i07, vh_7 i07, vs_7 i07, vs_7 i17, ss_7 i07, obt_7 i07, qT_at_7 i07, qT_put_7 i07, qT_add_7 i07, vh_7 i17, obt_7 i17, qT_at_7 i17, q_H_rowOfHire i07, hp]
  rcases Decidable.em (rwF (σ 0) x < 0) with h1 | h1
  case inl => rw [if_pos h1] at hQ ⊢; exact hQ
  rw [if_neg h1] at hQ ⊢
  rcases Decidable.em (wi y 0 5) with h2 | h2
  case inr => rw [if_neg h2] at hQ ⊢; exact hQ
  rw [if_pos h2] at hQ ⊢
  exact hQ))
def sp_X_windOf : Nat → Sp := spL [(56, f_X_within), (9, f_H_windAt)]
theorem sp_X_windOf_X_within : sp_X_windOf 56 = f_X_within := rfl
theorem sp_X_windOf_H_windAt : sp_X_windOf 9 = f_H_windAt := rfl
def f_X_windOf : Sp := aS 9 (fun _ => 0) 1 (gL1 (fun _ x σ => (True, some (.int (if wi x 0 999 then windAt (σ 0) x else -1)), σ)))
theorem q_X_windOf {x : Int32} {σ : SG} : f_X_windOf [.ref 0, .int x] (emb σ) = (True, some (.int (if wi x 0 999 then windAt (σ 0) x else -1)), emb (σ)) := aS1_at (ad := (fun _ => 0)) (i := hI 0) (by decide) rfl
set_option maxHeartbeats 4000000 in
set_option maxRecDepth 20000 in
theorem ok_X_windOf : SpecOK 70 f_X_windOf := SpecOK.of (sp := sp_X_windOf) (by decide) (by decide) (spL_ok (List.forall_mem_cons.mpr ⟨ok_X_within, (List.forall_mem_cons.mpr ⟨ok_H_windAt, (fun q h => absurd h List.not_mem_nil)⟩)⟩)) (Does_aS1 (Nat.le_of_ble_eq_true rfl) (fun sc i x σ hi had hp => by
  refine Vf_q ?_ ⟨rfl, rfl⟩
  intro Q hQ
  dsimp only at hQ hp
  show Vf 70 _ _ 0 [.ref (0), .int x] [] (emb σ) _

  simp only [rX_windOf_0, rX_windOf_1, rX_windOf_2, rX_windOf_5, rX_windOf_8, rX_windOf_11, rX_windOf_12, rX_windOf_15, rX_windOf_16, rX_windOf_19, rX_windOf_22, rX_windOf_23, ct1_i, ct1_r, ct1_n, true_and, and_true, tl_s, tl_n, le4_0, le4_1, le4_2, le4_3, le4_4, le4_5, isO_r, cl_, emb1, emb2, le_rN, up1_at, up1_up1, sp_X_windOf_X_within, sp_X_windOf_H_windAt, obX, obP, obN, obQ, xr_0, xr_1, xr_2, xr_3, xr_4, ob_h i07, ob_h i17, ob_h i27, isO_r, fok_i, rb_0, rb_1, rb_bi, bi_eq0, rb_b2, b2_0, ite_not, ni_0, ni_1, pi_0, pi_1, xi_0, sxi_0, sni_0, q_X_within, Option.toList, List.cons_append, List.nil_append, vh_0 i07, vs_0 i07, vs_0 i17, ss_0 i07, obt_0 i07, qT_at_0 i07, qT_put_0 i07, qT_add_0 i07, vh_1 i07, vs_1 i07, vs_1 i17, ss_1 i07, obt_1 i07, qT_at_1 i07, qT_put_1 i07, qT_add_1 i07, vh_2 i07, vs_2 i07, vs_2 i17, ss_2 i07, obt_2 i07, qT_at_2 i07, qT_put_2 i07, qT_add_2 i07, vh_3 i07, vs_3 i07, vs_3 i17, ss_3 i07, obt_3 i07, qT_at_3 i07, qT_put_3 i07, qT_add_3 i07, vh_4 i07, vs_4 i07, vs_4 i17, ss_4 i07, obt_4 i07, qT_at_4 i07, qT_put_4 i07, qT_add_4 i07, vh_5 i07, vs_5 i07, vs_5 i17, ss_5 i07, obt_5 i07, qT_at_5 i07, qT_put_5 i07, qT_add_5 i07, vh_6 i07, vs_6 i07, vs_6 i17, ss_6 i07, obt_6 i07, qT_at_6 i07, qT_put_6 i07, qT_add_6 i07, vh_7 i07, vs_7 i07, vs_7 i17, ss_7 i07, obt_7 i07, qT_at_7 i07, qT_put_7 i07, qT_add_7 i07, vh_7 i17, obt_7 i17, qT_at_7 i17, q_H_windAt i07]
  rcases Decidable.em (wi x 0 999) with h1 | h1
  case inr => rw [if_neg h1] at hQ ⊢; exact hQ
  rw [if_pos h1] at hQ ⊢
  exact hQ))
theorem fok_b1 : fok .boolean (.int 1) = True := eq_true ⟨rfl, rfl⟩
def sp_X_keep : Nat → Sp := spL [(25, f_H_copyFrom)]
theorem sp_X_keep_H_copyFrom : sp_X_keep 25 = f_H_copyFrom := rfl
def f_X_keep : Sp := aS 9 (fun _ => 0) 0 (gL0 (fun _  σ => (True, some (.int (σ 0 8 0)), up1 (up1 σ 2 (cpH (σ 2) (σ 0))) 7 (up2 (σ 7) 0 0 1))))
theorem q_X_keep {σ : SG} : f_X_keep [.ref 0] (emb σ) = (True, some (.int (σ 0 8 0)), emb (up1 (up1 σ 2 (cpH (σ 2) (σ 0))) 7 (up2 (σ 7) 0 0 1))) := aS0_at (ad := (fun _ => 0)) (i := hI 0) (by decide) rfl
set_option maxHeartbeats 4000000 in
set_option maxRecDepth 20000 in
theorem ok_X_keep : SpecOK 71 f_X_keep := SpecOK.of (sp := sp_X_keep) (by decide) (by decide) (spL_ok (List.forall_mem_cons.mpr ⟨ok_H_copyFrom, (fun q h => absurd h List.not_mem_nil)⟩)) (Does_aS0 (Nat.le_of_ble_eq_true rfl) (fun sc i  σ hi had hp => by
  refine Vf_q ?_ ⟨rfl, rfl⟩
  intro Q hQ
  dsimp only at hQ hp
  show Vf 71 _ _ 0 [.ref (0)] [] (emb σ) _

  simp only [rX_keep_0, rX_keep_1, rX_keep_4, rX_keep_5, rX_keep_8, rX_keep_11, rX_keep_12, rX_keep_13, rX_keep_16, rX_keep_17, rX_keep_20, rX_keep_23, ct1_i, ct1_r, ct1_n, true_and, and_true, tl_s, tl_n, le4_0, le4_1, le4_2, le4_3, le4_4, le4_5, isO_r, cl_, emb1, emb2, le_rN, up1_at, up1_up1, sp_X_keep_H_copyFrom, obX, obP, obN, obQ, xr_0, xr_1, xr_2, xr_3, xr_4, ob_h i07, ob_h i17, ob_h i27, isO_r, fok_i, rb_0, rb_1, rb_bi, bi_eq0, rb_b2, b2_0, ite_not, ni_0, ni_1, pi_0, pi_1, xi_0, sxi_0, sni_0, q_X_within, Option.toList, List.cons_append, List.nil_append, vh_0 i07, vs_0 i07, vs_0 i17, ss_0 i07, obt_0 i07, qT_at_0 i07, qT_put_0 i07, qT_add_0 i07, vh_1 i07, vs_1 i07, vs_1 i17, ss_1 i07, obt_1 i07, qT_at_1 i07, qT_put_1 i07, qT_add_1 i07, vh_2 i07, vs_2 i07, vs_2 i17, ss_2 i07, obt_2 i07, qT_at_2 i07, qT_put_2 i07, qT_add_2 i07, vh_3 i07, vs_3 i07, vs_3 i17, ss_3 i07, obt_3 i07, qT_at_3 i07, qT_put_3 i07, qT_add_3 i07, vh_4 i07, vs_4 i07, vs_4 i17, ss_4 i07, obt_4 i07, qT_at_4 i07, qT_put_4 i07, qT_add_4 i07, vh_5 i07, vs_5 i07, vs_5 i17, ss_5 i07, obt_5 i07, qT_at_5 i07, qT_put_5 i07, qT_add_5 i07, vh_6 i07, vs_6 i07, vs_6 i17, ss_6 i07, obt_6 i07, qT_at_6 i07, qT_put_6 i07, qT_add_6 i07, vh_7 i07, vs_7 i07, vs_7 i17, ss_7 i07, obt_7 i07, qT_at_7 i07, qT_put_7 i07, qT_add_7 i07, vh_7 i17, obt_7 i17, qT_at_7 i17, fok_b1, q_H_copyFrom i27 i07 (show (0 : Nat) ≠ 2 by decide), up1_ne _ _ (show (0 : Nat) ≠ 2 by decide), up1_ne _ _ (show (7 : Nat) ≠ 2 by decide), up1_ne _ _ (show (0 : Nat) ≠ 7 by decide)]
  exact hQ))
