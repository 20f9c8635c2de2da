/-! THE PAST -/
theorem up1_com (σ : SG) {i j : Nat} (w v : HV) (h : j ≠ i) : up1 (up1 σ i w) j v = up1 (up1 σ j v) i w := by
  funext q
  unfold up1
  by_cases h1 : q = j
  · subst h1; rw [if_pos rfl, if_neg h, if_pos rfl]
  · rw [if_neg h1, if_neg h1]
theorem up1_mid (σ : SG) {i j : Nat} (a v b : HV) (h : j ≠ i) : up1 (up1 (up1 σ j a) i v) j b = up1 (up1 σ i v) j b := by
  rw [up1_com _ _ _ h, up1_com _ _ _ h, up1_up1]
theorem sm_cl {x : Int32} {b : Nat} (h : sm x b) : x.toNatClampNeg ≤ b := h.2
def lu (x : Int32) : Int32 := x + 1 - (x + 1) / 4 * 4
def ld (x : Int32) : Int32 := x + 4 - 1 - (x + 4 - 1) / 4 * 4
theorem lu_sm {x : Int32} (h : sm x 3) : sm (lu x) 3 := by
  rw [sm_eq h]
  have := h.2
  generalize x.toNatClampNeg = n at this
  rcases (show n = 0 ∨ n = 1 ∨ n = 2 ∨ n = 3 by omega) with q | q | q | q <;> subst q <;> exact ⟨by decide, by decide⟩
theorem ld_sm {x : Int32} (h : sm x 3) : sm (ld x) 3 := by
  rw [sm_eq h]
  have := h.2
  generalize x.toNatClampNeg = n at this
  rcases (show n = 0 ∨ n = 1 ∨ n = 2 ∨ n = 3 by omega) with q | q | q | q <;> subst q <;> exact ⟨by decide, by decide⟩
def pA (x : Int32) : Nat := 3 + x.toNatClampNeg
theorem pA_7 {x : Int32} (h : sm x 3) : pA x < 7 := by have := h.2; unfold pA; omega
theorem h_lt {i : Nat} (h : i < 7) : hutA i < 1000 := by unfold hutA; split <;> omega

def sp_P_stateAt : Nat → Sp := spL []
def f_P_stateAt : Sp := aS 9 (fun _ => 52) 1 (gL1 (fun _ x σ => (sm x 3, some (.ref (hutA (pA x))), σ)))
theorem q_P_stateAt {x : Int32} {σ : SG} : f_P_stateAt [.ref 52, .int x] (emb σ) = (sm x 3, some (.ref (hutA (pA x))), emb (σ)) := aS1_at (ad := (fun _ => 52)) (i := hI 52) (by decide) rfl
set_option maxHeartbeats 4000000 in
set_option maxRecDepth 20000 in
theorem ok_P_stateAt : SpecOK 52 f_P_stateAt := SpecOK.of (sp := sp_P_stateAt) (by decide) (by decide) (spL_ok (fun q h => absurd h List.not_mem_nil)) (Does_aS1 (Nat.le_of_ble_eq_true rfl) (fun sc i x σ hi had hp => by
  refine Vf_q ?_ ⟨rfl, rfl⟩
  intro Q hQ
  dsimp only at hQ hp
  show Vf 52 _ _ 0 [.ref (52), .int x] [] (emb σ) _

  have h1 : x.toNatClampNeg < 4 := Nat.lt_succ_of_le hp.2
  have h4 : x < Int32.ofNat 4 := by
    rw [sm_eq hp]
    show oN _ < oN 4
    rw [oN_lt (by omega) (by decide)]
    exact h1
  have h5 : iin x 4 = True := iin_of hp.1 h4 (by decide)
  have h6 : ∀ q : Nat, (some (hutA (3 + x.toNatClampNeg)) = some q → q < 1000) = True := fun q => eq_true (fun h => by cases h; exact h_lt (by omega))
  simp only [rP_stateAt_0, rP_stateAt_1, rP_stateAt_4, rP_stateAt_5, rP_stateAt_6, rP_stateAt_9, rP_stateAt_10, rP_stateAt_13, rP_stateAt_14, rP_stateAt_17, rP_stateAt_18, rP_stateAt_19, rP_stateAt_22, rP_stateAt_23, ct1_i, ct1_r, ct1_n, true_and, and_true, tl_s, tl_n, le4_0, le4_1, le4_2, le4_3, le4_4, le4_5, isO_r, cl_, emb1, emb2, le_rN, up1_at, up1_up1, obP, pr_0, ps_al, ps_ok, ps_re, ps_ln, ps_g h1, or_true, true_or, if_neg hp.1, if_pos h4, h5, toR, h6, implies_true]
  exact hQ))
def hl1 (x : Int32) : Int32 := if 4 < x + 1 then 4 else x + 1
def rcW (σ : SG) : SG := up1 (up1 σ (pA (lu (σ 7 1 0))) (cpH (σ (pA (lu (σ 7 1 0)))) (σ 0))) 7 (up2 (up2 (σ 7) 1 0 (lu (σ 7 1 0))) 1 1 (hl1 (σ 7 1 1)))
def f_P_record : Sp := fun av S => match av with
  | [.ref a, .ref b] => ((S = emb (prj S) ∧ a = 52 ∧ b = hutA 0 ∧ sm (prj S 7 1 0) 3), none, emb (rcW (prj S)))
  | _ => (False, none, svNil)
theorem q_P_record {σ : SG} (h : sm (σ 7 1 0) 3) : f_P_record [.ref 52, .ref (hutA 0)] (emb σ) = (True, none, emb (rcW σ)) := by
  show ((emb σ = emb (prj (emb σ)) ∧ 52 = 52 ∧ hutA 0 = hutA 0 ∧ sm (prj (emb σ) 7 1 0) 3), (none : Option Value), emb (rcW (prj (emb σ)))) = _
  rw [prj_emb]
  simp [h]
def sp_P_record : Nat → Sp := spL [(52, f_P_stateAt), (25, f_H_copyFrom)]
theorem sp_P_record_1 : sp_P_record 52 = f_P_stateAt := rfl
theorem sp_P_record_2 : sp_P_record 25 = f_H_copyFrom := rfl
set_option maxHeartbeats 4000000 in
set_option maxRecDepth 20000 in
theorem ok_P_record : SpecOK 54 f_P_record := SpecOK.of (sp := sp_P_record) (by decide) (by decide) (spL_ok (List.forall_mem_cons.mpr ⟨ok_P_stateAt, List.forall_mem_cons.mpr ⟨ok_H_copyFrom, fun q h => absurd h List.not_mem_nil⟩⟩)) (by
  intro sc av S hp
  match av, hp with
  | [.ref a, .ref b], hp =>
    obtain ⟨hS, ha, hb, hm⟩ := hp
    show _ ∧ _ ∧ S.1 ≤ 127 ∧ S.2.1 ≤ SLT ∧ Vf 54 sp_P_record ((127, SLT), sc) 0 [.ref a, .ref b, .null] [] S (fun r S' => r = none ∧ S' = emb (rcW (prj S)))
    generalize prj S = σ at hS hm ⊢
    subst hS; subst ha; subst hb
    refine ⟨Nat.le_of_ble_eq_true rfl, allc (of_eq_true (ct1_r _)) (allc (of_eq_true (ct1_r _)) all0), Nat.le_refl _, Nat.le_refl _, ?_⟩
    refine Vf_q ?_ ⟨rfl, rfl⟩
    intro Q hQ
    unfold rcW at hQ
    have hl := lu_sm hm
    have h7 := pA_7 hl
    have hlu : ∀ x : Int32, x + 1 - (x + 1) / 4 * 4 = lu x := fun _ => rfl
    have hh1 : ∀ x : Int32, (if 4 < x + 1 then 4 else x + 1) = hl1 x := fun _ => rfl
    have n0 : (0 : Nat) ≠ pA (lu (σ 7 1 0)) := by unfold pA; omega
    have n7 : (7 : Nat) ≠ pA (lu (σ 7 1 0)) := by omega
    simp only [rP_record_0, rP_record_1, rP_record_2, rP_record_5, rP_record_6, rP_record_7, rP_record_8, rP_record_9, rP_record_12, rP_record_13, rP_record_14, rP_record_17, rP_record_20, rP_record_21, rP_record_22, rP_record_25, rP_record_26, rP_record_27, rP_record_30, rP_record_31, rP_record_32, rP_record_35, rP_record_36, rP_record_37, rP_record_38, rP_record_41, rP_record_44, ct1_i, ct1_r, ct1_n, true_and, and_true, tl_s, tl_n, le4_0, le4_1, le4_2, le4_3, le4_4, le4_5, isO_r, cl_, emb1, emb2, le_rN, up1_at, up1_up1, sp_P_record_1, sp_P_record_2, obP, pi_0, pi_1, spi_0, spi_1, fok_i, show ¬ (4 : Int32) = 0 by decide, not_false_eq_true, hlu, q_P_stateAt, up2_ne, up2_at, q_H_copyFrom h7 (show (0 : Nat) < 7 by decide) n0, ob_h h7, hl, isO_r, Option.toList, List.cons_append, List.nil_append, up1_ne _ _ (show (0 : Nat) ≠ 7 by decide), up1_ne _ _ n7, up1_ne _ _ n7.symm, up1_mid _ _ _ _ n7, up2_nt (show (1 : Nat) ≠ 0 by decide), hh1]
    exact hQ)

def tlW (σ : SG) : Bool × SG := if 0 < σ 7 1 1 then (true, up1 (up1 σ 0 (cpH (σ 0) (σ (pA (σ 7 1 0))))) 7 (up2 (up2 (σ 7) 1 0 (ld (σ 7 1 0))) 1 1 (σ 7 1 1 - 1))) else (false, σ)
def f_P_takeLatest : Sp := fun av S => match av with
  | [.ref a, .ref b] => ((S = emb (prj S) ∧ a = 52 ∧ b = hutA 0 ∧ sm (prj S 7 1 0) 3), some (.int (b2 (tlW (prj S)).1)), emb (tlW (prj S)).2)
  | _ => (False, none, svNil)
theorem q_P_takeLatest {σ : SG} (h : sm (σ 7 1 0) 3) : f_P_takeLatest [.ref 52, .ref (hutA 0)] (emb σ) = (True, some (.int (b2 (tlW σ).1)), emb (tlW σ).2) := by
  show ((emb σ = emb (prj (emb σ)) ∧ 52 = 52 ∧ hutA 0 = hutA 0 ∧ sm (prj (emb σ) 7 1 0) 3), some (Value.int (b2 (tlW (prj (emb σ))).1)), emb (tlW (prj (emb σ))).2) = _
  rw [prj_emb]
  simp [h]
set_option maxHeartbeats 4000000 in
set_option maxRecDepth 20000 in
theorem ok_P_takeLatest : SpecOK 55 f_P_takeLatest := SpecOK.of (sp := sp_P_record) (by decide) (by decide) (spL_ok (List.forall_mem_cons.mpr ⟨ok_P_stateAt, List.forall_mem_cons.mpr ⟨ok_H_copyFrom, fun q h => absurd h List.not_mem_nil⟩⟩)) (by
  intro sc av S hp
  match av, hp with
  | [.ref a, .ref b], hp =>
    obtain ⟨hS, ha, hb, hm⟩ := hp
    show _ ∧ _ ∧ S.1 ≤ 127 ∧ S.2.1 ≤ SLT ∧ Vf 55 sp_P_record ((127, SLT), sc) 0 [.ref a, .ref b, .null] [] S (fun r S' => r = some (.int (b2 (tlW (prj S)).1)) ∧ S' = emb (tlW (prj S)).2)
    generalize prj S = σ at hS hm ⊢
    subst hS; subst ha; subst hb
    refine ⟨Nat.le_of_ble_eq_true rfl, allc (of_eq_true (ct1_r _)) (allc (of_eq_true (ct1_r _)) all0), Nat.le_refl _, Nat.le_refl _, ?_⟩
    refine Vf_q ?_ ⟨rfl, rfl⟩
    intro Q hQ
    unfold tlW at hQ
    have h7 := pA_7 hm
    have hlu : ∀ x : Int32, x + 4 - 1 - (x + 4 - 1) / 4 * 4 = ld x := fun _ => rfl
    have n0 : pA (σ 7 1 0) ≠ 0 := by unfold pA; omega
    simp only [rP_takeLatest_0, rP_takeLatest_1, rP_takeLatest_2, rP_takeLatest_5, rP_takeLatest_8, rP_takeLatest_9, rP_takeLatest_10, rP_takeLatest_13, ct1_i, ct1_r, ct1_n, true_and, and_true, tl_s, tl_n, le4_0, le4_1, le4_2, le4_3, le4_4, le4_5, isO_r, cl_, emb1, emb2, le_rN, sp_P_record_1, sp_P_record_2, obP, pi_0, pi_1, q_P_stateAt, hm, Option.toList, List.cons_append, List.nil_append]
    by_cases h1 : 0 < σ 7 1 1
    · rw [if_pos h1] at hQ ⊢
      simp only [rP_takeLatest_16, rP_takeLatest_17, rP_takeLatest_20, rP_takeLatest_21, rP_takeLatest_22, rP_takeLatest_23, rP_takeLatest_24, rP_takeLatest_27, rP_takeLatest_28, rP_takeLatest_29, rP_takeLatest_32, rP_takeLatest_33, rP_takeLatest_34, rP_takeLatest_35, rP_takeLatest_36, rP_takeLatest_37, rP_takeLatest_38, rP_takeLatest_41, rP_takeLatest_42, rP_takeLatest_43, rP_takeLatest_46, rP_takeLatest_47, rP_takeLatest_48, rP_takeLatest_51, rP_takeLatest_52, ct1_i, ct1_r, ct1_n, true_and, and_true, tl_s, tl_n, le4_0, le4_1, le4_2, le4_3, le4_4, le4_5, isO_r, cl_, emb1, emb2, le_rN, up1_at, up1_up1, sp_P_record_1, sp_P_record_2, obP, pi_0, pi_1, spi_0, spi_1, fok_i, show ¬ (4 : Int32) = 0 by decide, not_false_eq_true, hlu, q_H_copyFrom (show (0 : Nat) < 7 by decide) h7 n0, ob_h (show (0 : Nat) < 7 by decide), isO_r, Option.toList, List.cons_append, List.nil_append, up1_ne _ _ (show (7 : Nat) ≠ 0 by decide), up2_nt (show (1 : Nat) ≠ 0 by decide), rb_1]
      exact hQ
    · rw [if_neg h1] at hQ ⊢
      simp only [rP_takeLatest_20, rP_takeLatest_21, rb_0, true_and]
      exact hQ)
