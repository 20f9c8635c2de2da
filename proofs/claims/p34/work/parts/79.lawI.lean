/-! THE LAW: an act, from its entry, as one call -/
theorem run_ex {y : Nat} {sp : Nat → Sp} {e : En} {Q : Option Value → MS → Prop} : ∀ (n pc : Nat) (ls st : List Value) (S : MS), run y sp e n pc ls st S Q → ∃ r S', Q r S' ∧ run y sp e n pc ls st S (fun r' S'' => r' = r ∧ S'' = S') := by
  intro n
  induction n with
  | zero => intro pc ls st S h; exact absurd h (by simp [run])
  | succ n ih =>
    intro pc ls st S h
    simp only [run] at h ⊢
    obtain ⟨h1, h2⟩ := h
    cases hc : (stp y sp e pc ls st S).2 with
    | inl k =>
      rw [hc] at h2
      obtain ⟨r, S', q1, q2⟩ := ih _ _ _ _ h2
      exact ⟨r, S', q1, h1, q2⟩
    | inr r =>
      rw [hc] at h2
      exact ⟨r.1, r.2, h2, h1, rfl, rfl⟩
theorem Vf_ex {y : Nat} {sp : Nat → Sp} {e : En} {pc : Nat} {ls st : List Value} {S : MS} {Q : Option Value → MS → Prop} (h : Vf y sp e pc ls st S Q) : ∃ r S', Q r S' ∧ Vf y sp e pc ls st S (fun r' S'' => r' = r ∧ S'' = S') := by
  obtain ⟨n, h⟩ := h
  obtain ⟨r, S', q1, q2⟩ := run_ex n pc ls st S h
  exact ⟨r, S', q1, n, q2⟩
set_option maxHeartbeats 1000000 in
set_option maxRecDepth 20000 in
theorem vf_act {sc : Nat × (Nat → Int32)} {σ : SG} {T K S N O E x : Nat} {a b : Int32} {Q : Option Value → MS → Prop} (h : LwS σ T K S N O E) (hT : T + 4 ≤ 1000) (hN : N < 200) (hx : x < 17) (hQ : ∀ σ', ActQ σ (oN x) σ' → Q (some (.int 1)) (emb σ')) : Vf 97 sp_L_act ((127, SLT), sc) 0 [.ref 0, .ref 126, .int (oN x), .int a, .int b, .null, .null, .null, .null, .null, .null, .null, .null, .null, .null, .null, .null, .null] [] (emb σ) Q := by
  have hb := J_bd h.1
  obtain ⟨r, hr, f1⟩ := lowF_n a (n := K + 1) (by omega) (by omega)
  have nz : ¬ oN K + 1 = 0 := by
    rw [oN_succ]
    intro q
    have := oN_inj (b := 0) (by omega) (by decide) q
    omega
  rw [← oN_succ] at f1
  simp only [rL_act_0, rL_act_1, rL_act_2, rL_act_3, rL_act_6, rL_act_7, rL_act_8, rL_act_11, rL_act_13, rL_act_14, rL_act_15, rL_act_18, rL_act_20, rL_act_21, rL_act_23, rL_act_24, rL_act_26, rL_act_29, rL_act_31, rL_act_32, rL_act_34, ct1_i, ct1_r, ct1_n, true_and, and_true, tl_s, tl_n, le4_0, le4_1, le4_2, le4_3, le4_4, le4_5, isO_r, cl_, emb1, emb2, le_rN, sp_L_act_X_count, sp_L_act_L_low, sp_L_act_X_kite, sp_L_act_X_spool, sp_L_act_X_tails, sp_L_act_X_why, sp_L_act_X_hire, sp_L_act_X_kiteOf, sp_L_act_X_hireOf, sp_L_act_X_back, sp_L_act_X_ended, sp_L_act_X_tailsOf, sp_L_act_X_found, sp_L_act_X_ifPassed, sp_L_act_X_pass, sp_L_act_X_wind, sp_L_act_X_set, obX, q_low nz, f1, ct_0 h.1, ct_1 h.1, ct_11 h.1]
  rcases (show x = 0 ∨ x = 1 ∨ x = 2 ∨ x = 3 ∨ x = 4 ∨ x = 5 ∨ x = 6 ∨ x = 7 ∨ x = 8 ∨ x = 9 ∨ x = 10 ∨ x = 11 ∨ x = 12 ∨ x = 13 ∨ x = 14 ∨ x = 15 ∨ x = 16 by omega) with e | e | e | e | e | e | e | e | e | e | e | e | e | e | e | e | e
  · subst e
    rw [show oN 0 = (0 : Int32) from rfl] at hQ ⊢
    rw [rL_act_35_0]
    exact lp_L_act_A h hQ
  · subst e
    rw [show oN 1 = (1 : Int32) from rfl] at hQ ⊢
    rw [rL_act_35_1]
    exact lp_L_act_A h hQ
  · subst e
    rw [show oN 2 = (2 : Int32) from rfl] at hQ ⊢
    rw [rL_act_35_2]
    exact lp_L_act_B h (by decide) hQ
  · subst e
    rw [show oN 3 = (3 : Int32) from rfl] at hQ ⊢
    rw [rL_act_35_3]
    exact lp_L_act_C h (by decide) hQ
  · subst e
    rw [show oN 4 = (4 : Int32) from rfl] at hQ ⊢
    rw [rL_act_35_4]
    exact lp_L_act_D h (show r ≤ K by omega) hN hQ
  · subst e
    rw [show oN 5 = (5 : Int32) from rfl] at hQ ⊢
    rw [rL_act_35_5]
    exact lp_L_act_D h (show r ≤ K by omega) hN hQ
  · subst e
    rw [show oN 6 = (6 : Int32) from rfl] at hQ ⊢
    rw [rL_act_35_6]
    exact lp_L_act_D h (show r ≤ K by omega) hN hQ
  · subst e
    rw [show oN 7 = (7 : Int32) from rfl] at hQ ⊢
    rw [rL_act_35_7]
    exact lp_L_act_D h (show r ≤ K by omega) hN hQ
  · subst e
    rw [show oN 8 = (8 : Int32) from rfl] at hQ ⊢
    rw [rL_act_35_8]
    exact lp_L_act_D h (show r ≤ K by omega) hN hQ
  · subst e
    rw [show oN 9 = (9 : Int32) from rfl] at hQ ⊢
    rw [rL_act_35_9]
    exact lp_L_act_K h hQ
  · subst e
    rw [show oN 10 = (10 : Int32) from rfl] at hQ ⊢
    rw [rL_act_35_10]
    exact lp_L_act_F h hQ
  · subst e
    rw [show oN 11 = (11 : Int32) from rfl] at hQ ⊢
    rw [rL_act_35_11]
    exact lp_L_act_G h hT hQ
  · subst e
    rw [show oN 12 = (12 : Int32) from rfl] at hQ ⊢
    rw [rL_act_35_12]
    exact lp_L_act_G h hT hQ
  · subst e
    rw [show oN 13 = (13 : Int32) from rfl] at hQ ⊢
    rw [rL_act_35_13]
    exact lp_L_act_H h hQ
  · subst e
    rw [show oN 14 = (14 : Int32) from rfl] at hQ ⊢
    rw [rL_act_35_14]
    exact lp_L_act_H h hQ
  · subst e
    rw [show oN 15 = (15 : Int32) from rfl] at hQ ⊢
    rw [rL_act_35_15]
    exact lp_L_act_I h hQ
  · subst e
    rw [show oN 16 = (16 : Int32) from rfl] at hQ ⊢
    rw [rL_act_35_d (Or.inr (by decide))]
    exact lp_L_act_J h hQ
def ActP (σ : SG) (kind : Int32) : Prop := (∃ T K S N O E, LwS σ T K S N O E ∧ T + 4 ≤ 1000 ∧ N < 200) ∧ ∃ x, x < 17 ∧ kind = oN x
/-- the state behind an act -/
noncomputable def actS (sc : Nat × (Nat → Int32)) (σ : SG) (kind a b : Int32) : SG := Classical.epsilon (fun σ' : SG => ActQ σ kind σ' ∧ Vf 97 sp_L_act ((127, SLT), sc) 0 [.ref 0, .ref 126, .int kind, .int a, .int b, .null, .null, .null, .null, .null, .null, .null, .null, .null, .null, .null, .null, .null] [] (emb σ) (fun r S' => r = some (.int 1) ∧ S' = emb σ'))
theorem actS_ok {sc : Nat × (Nat → Int32)} {σ : SG} {kind a b : Int32} (h : ActP σ kind) : ActQ σ kind (actS sc σ kind a b) ∧ Vf 97 sp_L_act ((127, SLT), sc) 0 [.ref 0, .ref 126, .int kind, .int a, .int b, .null, .null, .null, .null, .null, .null, .null, .null, .null, .null, .null, .null, .null] [] (emb σ) (fun r S' => r = some (.int 1) ∧ S' = emb (actS sc σ kind a b)) := by
  refine Classical.epsilon_spec (p := fun σ' : SG => ActQ σ kind σ' ∧ Vf 97 sp_L_act ((127, SLT), sc) 0 [.ref 0, .ref 126, .int kind, .int a, .int b, .null, .null, .null, .null, .null, .null, .null, .null, .null, .null, .null, .null, .null] [] (emb σ) (fun r S' => r = some (.int 1) ∧ S' = emb σ')) ?_
  obtain ⟨⟨T, K, S, N, O, E, h1, h2, h3⟩, x, hx, rfl⟩ := h
  obtain ⟨r, S', ⟨σ', q1, q2, q3⟩, q4⟩ := Vf_ex (vf_act (sc := sc) (a := a) (b := b) (Q := fun r S' => ∃ σ', ActQ σ (oN x) σ' ∧ r = some (.int 1) ∧ S' = emb σ') h1 h2 h3 hx (fun σ' hq => ⟨σ', hq, rfl, rfl⟩))
  subst q2
  subst q3
  exact ⟨σ', q1, q4⟩
noncomputable def f_L_act (sc : Nat × (Nat → Int32)) : Sp := fun av S => match av with
  | [.ref o, .ref c, .int kind, .int a, .int b] => ((S = emb (prj S) ∧ o = 0 ∧ c = 126 ∧ ActP (prj S) kind), some (.int 1), emb (actS sc (prj S) kind a b))
  | _ => (False, none, svNil)
theorem q_L_act {sc : Nat × (Nat → Int32)} {σ : SG} {kind a b : Int32} (h : ActP σ kind) : f_L_act sc [.ref 0, .ref 126, .int kind, .int a, .int b] (emb σ) = (True, some (.int 1), emb (actS sc σ kind a b)) := by
  show ((emb σ = emb (prj (emb σ)) ∧ 0 = 0 ∧ 126 = 126 ∧ ActP (prj (emb σ)) kind), some (Value.int 1), emb (actS sc (prj (emb σ)) kind a b)) = _
  rw [prj_emb]
  simp [h]
set_option maxHeartbeats 1000000 in
set_option maxRecDepth 20000 in
theorem ok_L_act (sc : Nat × (Nat → Int32)) : SpecAt sc 97 (f_L_act sc) := SpecAt.of (sp := sp_L_act) (by decide) (by decide) (fun z => sp_L_act_ok z sc) (by
  intro av S hp
  match av, hp with
  | [.ref o, .ref c, .int kind, .int a, .int b], hp =>
    obtain ⟨hS, ha, hc, hm⟩ := hp
    show _ ∧ _ ∧ S.1 ≤ 127 ∧ S.2.1 ≤ SLT ∧ Vf 97 sp_L_act ((127, SLT), sc) 0 [.ref o, .ref c, .int kind, .int a, .int b, .null, .null, .null, .null, .null, .null, .null, .null, .null, .null, .null, .null, .null] [] S (fun r S' => r = some (.int 1) ∧ S' = emb (actS sc (prj S) kind a b))
    generalize prj S = σ at hS hm ⊢
    subst hS; subst ha; subst hc
    exact ⟨Nat.le_of_ble_eq_true rfl, allc (of_eq_true (ct1_r _)) (allc (of_eq_true (ct1_r _)) (allc (of_eq_true (ct1_i _)) (allc (of_eq_true (ct1_i _)) (allc (of_eq_true (ct1_i _)) all0)))), Nat.le_refl _, Nat.le_refl _, (actS_ok hm).2⟩)
