/-! THE LAW: its walk in the small machine -/
noncomputable def sp_law (sc : Nat × (Nat → Int32)) : Nat → Sp := spL [(84, f_X_count), (72, f_X_init), (99, f_L_holds), (82, f_X_undo), (71, f_X_keep), (94, f_L_cell sc), (95, f_L_low), (97, f_L_act sc), (83, f_X_restore)]
theorem sp_law_X_count (sc : Nat × (Nat → Int32)) : sp_law sc 84 = f_X_count := rfl
theorem sp_law_X_init (sc : Nat × (Nat → Int32)) : sp_law sc 72 = f_X_init := rfl
theorem sp_law_L_holds (sc : Nat × (Nat → Int32)) : sp_law sc 99 = f_L_holds := rfl
theorem sp_law_X_undo (sc : Nat × (Nat → Int32)) : sp_law sc 82 = f_X_undo := rfl
theorem sp_law_X_keep (sc : Nat × (Nat → Int32)) : sp_law sc 71 = f_X_keep := rfl
theorem sp_law_L_cell (sc : Nat × (Nat → Int32)) : sp_law sc 94 = f_L_cell sc := rfl
theorem sp_law_L_low (sc : Nat × (Nat → Int32)) : sp_law sc 95 = f_L_low := rfl
theorem sp_law_L_act (sc : Nat × (Nat → Int32)) : sp_law sc 97 = f_L_act sc := rfl
theorem sp_law_X_restore (sc : Nat × (Nat → Int32)) : sp_law sc 83 = f_X_restore := rfl
theorem sp_law_ok (sc : Nat × (Nat → Int32)) : ∀ z, SpecAt sc z (sp_law sc z) := spL_at (List.forall_mem_cons.mpr ⟨ok_X_count sc, (List.forall_mem_cons.mpr ⟨ok_X_init sc, (List.forall_mem_cons.mpr ⟨ok_L_holds sc, (List.forall_mem_cons.mpr ⟨ok_X_undo sc, (List.forall_mem_cons.mpr ⟨ok_X_keep sc, (List.forall_mem_cons.mpr ⟨ok_L_cell sc, (List.forall_mem_cons.mpr ⟨ok_L_low sc, (List.forall_mem_cons.mpr ⟨ok_L_act sc, (List.forall_mem_cons.mpr ⟨ok_X_restore sc, (fun q h => absurd h List.not_mem_nil)⟩)⟩)⟩)⟩)⟩)⟩)⟩)⟩)⟩)
theorem sg_00 (t : Nat) : sg0 0 0 t = g3F 6 0 t := by
  show toI (TF.2.2.2 (arrA 0 0) t) = toI (.int (g3F 6 0 t))
  exact congrArg toI (show TF.2.2.2 (arrA 0 0) t = .int (g3F 6 0 t) from rfl)
theorem sg_01 (t : Nat) : sg0 0 1 t = g3F 6 1 t := by
  show toI (TF.2.2.2 (arrA 0 1) t) = toI (.int (g3F 6 1 t))
  exact congrArg toI (show TF.2.2.2 (arrA 0 1) t = .int (g3F 6 1 t) from rfl)
theorem sg_02 (t : Nat) : sg0 0 2 t = g3F 6 2 t := by
  show toI (TF.2.2.2 (arrA 0 2) t) = toI (.int (g3F 6 2 t))
  exact congrArg toI (show TF.2.2.2 (arrA 0 2) t = .int (g3F 6 2 t) from rfl)
theorem sg_03 (t : Nat) : sg0 0 3 t = g3F 6 3 t := by
  show toI (TF.2.2.2 (arrA 0 3) t) = toI (.int (g3F 6 3 t))
  exact congrArg toI (show TF.2.2.2 (arrA 0 3) t = .int (g3F 6 3 t) from rfl)
theorem sg_04 (t : Nat) : sg0 0 4 t = g3F 6 4 t := by
  show toI (TF.2.2.2 (arrA 0 4) t) = toI (.int (g3F 6 4 t))
  exact congrArg toI (show TF.2.2.2 (arrA 0 4) t = .int (g3F 6 4 t) from rfl)
theorem sg_05 (t : Nat) : sg0 0 5 t = g3F 6 5 t := by
  show toI (TF.2.2.2 (arrA 0 5) t) = toI (.int (g3F 6 5 t))
  exact congrArg toI (show TF.2.2.2 (arrA 0 5) t = .int (g3F 6 5 t) from rfl)
theorem sg_06 (t : Nat) : sg0 0 6 t = g3F 6 6 t := by
  show toI (TF.2.2.2 (arrA 0 6) t) = toI (.int (g3F 6 6 t))
  exact congrArg toI (show TF.2.2.2 (arrA 0 6) t = .int (g3F 6 6 t) from rfl)
theorem sg_07 (t : Nat) : sg0 0 7 t = g3F 6 7 t := by
  show toI (TF.2.2.2 (arrA 0 7) t) = toI (.int (g3F 6 7 t))
  exact congrArg toI (show TF.2.2.2 (arrA 0 7) t = .int (g3F 6 7 t) from rfl)
theorem sg_8 (t : Nat) : sg0 8 0 t = 0 := by
  show toI (TF.2.2.2 126 t) = toI (.int 0)
  exact congrArg toI (show TF.2.2.2 126 t = .int 0 from rfl)
theorem st_iT : ∀ c, c < 6 → 0 ≤ (g3F 6 4 (c * 3 + 0)).toInt ∧ 0 ≤ (g3F 6 4 (c * 3 + 2)).toInt ∧ -(2 * ((0 : Nat) : Int)) ≤ (g3F 6 4 (c * 3 + 1)).toInt ∧ (g3F 6 4 (c * 3 + 0)).toInt + (g3F 6 4 (c * 3 + 1)).toInt + (g3F 6 4 (c * 3 + 2)).toInt ≤ 99 := by decide +kernel
theorem st_iS : ∀ c, c < 6 → g3F 6 4 (c * 3 + 0) + g3F 6 4 (c * 3 + 1) + g3F 6 4 (c * 3 + 2) = 5 + 0 := by decide +kernel
theorem st_iZ : ∀ k, k < 16 → g3F 6 2 (k * 8 + 0) = 0 ∧ g3F 6 2 (k * 8 + 5) = 0 ∧ g3F 6 2 (k * 8 + 6) = 0 := by decide +kernel
theorem st_iY : ∀ k, k < 10 → g3F 6 3 (k * 4 + 1) = 0 ∧ g3F 6 3 (k * 4 + 3) = 0 := by decide +kernel
theorem st_iW : ∀ h, h < 1000 → g3F 6 0 h = 4 := by decide +kernel
theorem J_0 : J (sg0 0) (sg0 8 0) 0 0 0 0 0 0 0 := by
  refine ⟨⟨⟨rfl, rfl, rfl, rfl, rfl, rfl, ⟨by decide, by decide⟩⟩, ⟨by decide, by decide, by decide, by decide, by decide⟩, rfl, ?_, ?_, ?_, ?_, ?_, ?_⟩, ⟨?_, ?_, ?_, rfl, ?_, ?_, ?_⟩, ?_, ?_⟩
  · intro r hr; omega
  · intro r hr; omega
  · intro r hr; omega
  · intro c hc; rw [sg_04, sg_04, sg_04]; exact st_iT c hc
  · intro k h1 h2; rw [sg_02, sg_02, sg_02]; exact st_iZ k h2
  · intro k h1 h2; rw [sg_03, sg_03]; exact st_iY k h2
  · unfold jS
    rw [sg_01, sg_01, sg_01, sg_01, sg_01]
    exact ⟨⟨by decide, by decide⟩, ⟨by decide, by decide⟩, ⟨by decide, by decide⟩, ⟨by decide, by decide⟩, ⟨by decide, by decide⟩⟩
  · intro h hh
    rw [sg_00, st_iW h hh]
    exact ⟨by decide, by decide⟩
  · intro k hk; omega
  · intro s hs; omega
  · intro r hr; omega
  · unfold jE
    rw [sg_07, sg_07, sg_07]
    decide
  · intro c hc
    rw [sg_04, sg_04, sg_04, sg_8]
    exact st_iS c hc
  · unfold jM
    rw [sg_8]
    rfl
/-- the state behind keep() -/
def sgK : SG := up1 (up1 sg0 2 (cpH (sg0 2) (sg0 0))) 7 (up2 (sg0 7) 0 0 1)
theorem sg_0s : ∀ t, t < 8 → sg0 0 8 t = 0 := by
  intro t ht
  rcases (show t = 0 ∨ t = 1 ∨ t = 2 ∨ t = 3 ∨ t = 4 ∨ t = 5 ∨ t = 6 ∨ t = 7 by omega) with e | e | e | e | e | e | e | e <;> subst e <;> rfl
theorem LwS_0 : LwS sgK 0 0 0 0 0 0 := by
  have e0 : sgK 0 = sg0 0 := by unfold sgK; rw [up1_nt (by decide), up1_nt (by decide)]
  have e8 : sgK 8 = sg0 8 := by unfold sgK; rw [up1_nt (by decide), up1_nt (by decide)]
  have e7 : sgK 7 = up2 (sg0 7) 0 0 1 := up1_at _ _ _
  have e2 : sgK 2 = cpH (sg0 2) (sg0 0) := by unfold sgK; rw [up1_nt (by decide), up1_at]
  refine ⟨by rw [e0, e8]; exact J_0, ⟨0, 0, by decide, by decide, ?_, ?_⟩, ?_, fun t ht => ?_⟩
  · rw [e7, u2n (by decide)]; rfl
  · rw [e7, u2n (by decide)]; rfl
  · rw [e7, u2k, if_pos rfl]; decide
  · rw [e2, cpH_8 ht]; exact sg_0s t ht
theorem ltP_0 : ltP sg0 := ⟨by decide, by decide⟩
theorem un_0 : f_X_undo [.ref 0] (emb sg0) = (True, some (.int (-5)), emb sg0) := by
  have e : unF sg0 = (-5, sg0) := by
    have e1 : tlW sg0 = (false, sg0) := by
      unfold tlW
      rw [show sg0 7 1 1 = 0 from rfl, if_neg (show ¬ (0 : Int32) < 0 by decide)]
    unfold unF
    rw [e1, if_pos rfl]
  rw [q_X_undo, e, eq_true ltP_0]
theorem kp_0 : f_X_keep [.ref 0] (emb sg0) = (True, some (.int 0), emb sgK) := by
  rw [q_X_keep]
  rfl
theorem HolP_0 : HolP sg0 := ⟨0, 0, 0, 0, 0, 0, 0, J_0⟩
theorem HolP_s {σ : SG} {T K S N O E : Nat} (h : LwS σ T K S N O E) : HolP σ := ⟨T, K, S, N, O, E, _, h.1⟩
/-- restore() and the hires behind it -/
theorem re_ok {σ : SG} {T K S N O E : Nat} (h : LwS σ T K S N O E) : ∃ σ2, f_X_restore [.ref 0] (emb σ) = (True, some (.int 0), emb σ2) ∧ f_X_count [.ref 0, .int 6] (emb σ2) = (True, some (.int 0), emb σ2) := by
  obtain ⟨-, -, h0, h2⟩ := id h
  refine ⟨up1 (rcW σ) 0 (cpH (σ 0) (σ 2)), ?_, ?_⟩
  · rw [q_X_restore, eq_true (LwS_lt h)]
    unfold reF
    rw [if_neg h0, cpH_8 (by decide), h2 0 (by decide)]
  · have e0 : ∀ t, t < 8 → up1 (rcW σ) 0 (cpH (σ 0) (σ 2)) 0 8 t = 0 := fun t ht => by rw [up1_at, cpH_8 ht, h2 t ht]
    have hp : sm (up1 (rcW σ) 0 (cpH (σ 0) (σ 2)) 0 8 1) 16 ∧ sm (up1 (rcW σ) 0 (cpH (σ 0) (σ 2)) 0 8 2) 10 := by
      rw [e0 1 (by decide), e0 2 (by decide)]
      exact ⟨⟨by decide, by decide⟩, ⟨by decide, by decide⟩⟩
    rw [q_X_count, eq_true hp]
    unfold cuF
    rw [if_pos (by decide), if_pos (by decide), if_neg (by decide), if_neg (by decide)]
    unfold tyF
    rw [if_neg (by decide), if_neg (by decide), if_neg (by decide), if_neg (by decide), if_neg (by decide), if_neg (by decide), if_pos rfl, e0 3 (by decide)]
/-- an undo behind an act that was recorded -/
theorem un_ok {σ σ' : SG} {T K S N O E T2 K2 S2 N2 O2 E2 hd : Nat} (h : LwS σ T K S N O E) (h2 : LwS σ' T2 K2 S2 N2 O2 E2) (e7 : σ' 7 1 1 = hl1 (σ 7 1 1)) (eh : σ 7 1 1 = oN hd) (hd4 : hd ≤ 4) (hR : InR (σ' (pA (σ' 7 1 0))) (σ 0)) (h8 : ∀ c, c < 7 → σ' 8 0 c = σ 8 0 c) :
    ∃ (σ3 : SG) (n : Nat), n ≤ 4 ∧ f_X_undo [.ref 0] (emb σ') = (True, some (.int (oN n)), emb σ3) ∧ LwS σ3 T K S N O E ∧ σ3 0 8 6 = σ 0 8 6 := by
  have hlt := LwS_lt h2
  have e71 : σ' 7 1 1 = oN (min (hd + 1) 4) := by rw [e7, eh, hl_n hd (by omega)]
  obtain ⟨-, ⟨la, hd', g1, g2, g3, g4⟩, h0, hk⟩ := id h2
  have hpos : 0 < σ' 7 1 1 := by rw [e71]; show oN 0 < _; rw [oN_lt (by decide) (by omega)]; omega
  have elp : pA (σ' 7 1 0) = 3 + la := by
    unfold pA
    rw [g3, oN_nat (by omega)]
  generalize hs3 : up1 (up1 σ' 0 (cpH (σ' 0) (σ' (pA (σ' 7 1 0))))) 7 (up2 (up2 (σ' 7) 1 0 (ld (σ' 7 1 0))) 1 1 (σ' 7 1 1 - 1)) = σ3
  have e70 : σ' 7 1 1 - 1 = oN (min (hd + 1) 4 - 1) := by rw [e71, show (1 : Int32) = oN 1 from rfl, oN_sub (by omega)]
  have s7 : σ3 7 = up2 (up2 (σ' 7) 1 0 (ld (σ' 7 1 0))) 1 1 (oN (min (hd + 1) 4 - 1)) := by rw [← hs3, up1_at, e70]
  have s0 : σ3 0 = cpH (σ' 0) (σ' (pA (σ' 7 1 0))) := by rw [← hs3, up1_nt (by decide), up1_at]
  have s8 : σ3 8 = σ' 8 := by rw [← hs3, up1_nt (by decide), up1_nt (by decide)]
  have s2 : σ3 2 = σ' 2 := by rw [← hs3, up1_nt (by decide), up1_nt (by decide)]
  have hR0 : InR (σ3 0) (σ 0) := by
    rw [s0]
    intro k t ht
    rw [cpH_in _ _ k t ht]
    exact hR k t ht
  refine ⟨σ3, min (hd + 1) 4 - 1, by omega, ?_, ⟨?_, ⟨(la + 3) % 4, min (hd + 1) 4 - 1, Nat.mod_lt _ (by decide), by omega, ?_, ?_⟩, ?_, ?_⟩, R8 hR0 (by decide)⟩
  · have e : unF σ' = (oN (min (hd + 1) 4 - 1), σ3) := by
      have e1 : tlW σ' = (true, σ3) := by
        unfold tlW
        rw [if_pos hpos, hs3]
      unfold unF
      rw [e1, if_neg (show ¬ true = false by decide)]
      show (σ3 7 1 1, σ3) = _
      rw [s7, u2k, if_pos rfl]
    rw [q_X_undo, e, eq_true hlt]
  · rw [s8]
    exact J_cf (J_w hR0 h.1) h8
  · rw [s7, u2k, if_neg (by decide), u2k, if_pos rfl, g3, ld_n la g1]
  · rw [s7, u2k, if_pos rfl]
  · rw [s7, u2n (by decide), u2n (by decide)]; exact h0
  · rw [s2]; exact hk
set_option maxHeartbeats 1000000 in
set_option maxRecDepth 20000 in
theorem lw_end {sc : Nat × (Nat → Int32)} {σ : SG} {T K S N O E M : Nat} {n : Nat} {v6 v7 v8 v9 : Value} {Q : Option Value → MS → Prop} (h : LwS σ T K S N O E) (hQ : ∀ σ, Q (some (.int 1)) (emb σ)) : Vf 100 (sp_law sc) ((127, SLT), sc) 287 [.ref 2000, .ref 0, .ref 126, .int 1, .int (oN M), .int (oN n), v6, v7, v8, v9] [] (emb σ) Q := by
  obtain ⟨σ2, e1, e2⟩ := re_ok h
  simp only [rL_law_287, rL_law_288, rL_law_291, rL_law_292, rL_law_295, rL_law_298, rL_law_299, rL_law_301, rL_law_304, rL_law_307, rL_law_308, rL_law_311, rL_law_312, ct1_i, ct1_r, ct1_n, true_and, and_true, tl_s, tl_n, le4_0, le4_1, le4_2, le4_3, le4_4, le4_5, isO_r, cl_, emb1, emb2, le_rN, sp_law_X_count, sp_law_X_init, sp_law_L_holds, sp_law_X_undo, sp_law_X_keep, sp_law_L_cell, sp_law_L_low, sp_law_L_act, sp_law_X_restore, obX, cm_ok, cm_al, cm_rd, cm_re, cm_ln, cm_s, true_or, iin7, iin6, n7, n6, z10, z00, z11, z01, if_true, if_false, e1, e2, rb_1]
  exact hQ σ2

set_option maxHeartbeats 1000000 in
set_option maxRecDepth 20000 in
theorem lw_loop {sc : Nat × (Nat → Int32)} {M : Nat} {Q : Option Value → MS → Prop} (hL : sc.1 ≤ 260) (hM : M ≤ 30) (hQ : ∀ σ, Q (some (.int 1)) (emb σ)) : ∀ (m n : Nat) (σ : SG) (T K S N O E : Nat) (v6 v7 v8 v9 : Value), n + m = M → LwS σ T K S N O E → T ≤ 4 * n → N ≤ n → Vf 100 (sp_law sc) ((127, SLT), sc) 67 [.ref 2000, .ref 0, .ref 126, .int 1, .int (oN M), .int (oN n), v6, v7, v8, v9] [] (emb σ) Q := by
  intro m
  induction m with
  | zero =>
    intro n σ T K S N O E v6 v7 v8 v9 hn h hT hN
    have : n = M := by omega
    subst this
    have hlt : (oN n < oN n) = False := eq_false (by rw [oN_lt (by omega) (by omega)]; omega)
    rw [rL_law_67]
    simp only [rL_law_69, rL_law_71, ct1_i, ct1_r, ct1_n, true_and, and_true, tl_s, tl_n, le4_0, le4_1, le4_2, le4_3, le4_4, le4_5, isO_r, hlt, if_false]
    exact lw_end h hQ
  | succ m ih =>
    intro n σ T K S N O E v6 v7 v8 v9 hn h hT hN
    have hb := J_bd h.1
    have hlt : (oN n < oN M) = True := eq_true (by rw [oN_lt (by omega) (by omega)]; omega)
    have c0 : (3 : Int32) * oN n = oN (3 * n) := oN_mul 3 n
    have c1 : oN (3 * n) + 1 = oN (3 * n + 1) := oN_add _ 1
    have c2 : oN (3 * n) + 2 = oN (3 * n + 2) := oN_add _ 2
    have qc : ∀ j, j < 1000 → ∀ S : MS, f_L_cell sc [.ref 2000, .int (oN j)] S = (True, some (.int (celF sc (oN j))), S) := fun j hj S => q_L_cell (by rw [oN_nn (by omega)]; exact id) hL
    have q0 := qc (3 * n) (by omega)
    have q1 := qc (3 * n + 1) (by omega)
    have q2 := qc (3 * n + 2) (by omega)
    obtain ⟨x, hx, f1⟩ := lowF_n (celF sc (oN (3 * n))) (n := 17) (by decide) (by decide)
    have f1 : lowF (celF sc (oN (3 * n))) 17 = oN x := f1
    have ql := fun (v : Int32) (S : MS) => q_low (v := v) (S := S) (show ¬ (17 : Int32) = 0 by decide)
    have hp : ActP σ (oN x) := ⟨⟨T, K, S, N, O, E, h, by omega, by omega⟩, x, hx, rfl⟩
    have ea := q_L_act (sc := sc) (a := celF sc (oN (3 * n + 1))) (b := celF sc (oN (3 * n + 2))) hp
    have hA := (actS_ok (sc := sc) (a := celF sc (oN (3 * n + 1))) (b := celF sc (oN (3 * n + 2))) hp).1
    generalize actS sc σ (oN x) (celF sc (oN (3 * n + 1))) (celF sc (oN (3 * n + 2))) = σ' at ea hA
    obtain ⟨T2, K2, S2, N2, O2, E2, h2, hT2, hN2, hcase⟩ := hA
    obtain ⟨n1, n2⟩ := LwS_n h
    rw [n1] at hT2
    rw [n2] at hN2
    have ho := q_L_holds (x := celF sc (oN (3 * n))) (HolP_s h2)
    obtain ⟨-, ⟨la, hd, g1, g2, g3, g4⟩, -⟩ := id h
    rw [rL_law_67]
    -- behind the act: the check of the history, all that is told, then perhaps an undo
    have tail : Vf 100 (sp_law sc) ((127, SLT), sc) 204 [.ref 2000, .ref 0, .ref 126, .int 1, .int (oN M), .int (oN n), .int (oN x), .int (σ 7 1 1), .int (σ 0 8 6), .int (oN O)] [] (emb σ') Q := by
      have next : ∀ (σ3 : SG) (T3 K3 S3 N3 O3 E3 : Nat), LwS σ3 T3 K3 S3 N3 O3 E3 → T3 ≤ 4 * (n + 1) → N3 ≤ n + 1 → Vf 100 (sp_law sc) ((127, SLT), sc) 281 [.ref 2000, .ref 0, .ref 126, .int 1, .int (oN M), .int (oN n), .int (oN x), .int (σ 7 1 1), .int (σ 0 8 6), .int (oN O)] [] (emb σ3) Q := by
        intro σ3 T3 K3 S3 N3 O3 E3 h3 t3 n3
        simp only [rL_law_281, rL_law_284, ct1_i, ct1_r, ct1_n, true_and, and_true, tl_s, tl_n, le4_0, le4_1, le4_2, le4_3, le4_4, le4_5, isO_r, oN_succ]
        exact ih (n + 1) σ3 T3 K3 S3 N3 O3 E3 _ _ _ _ (by omega) h3 t3 n3
      have nx := next σ' T2 K2 S2 N2 O2 E2 h2 (by omega) (by omega)
      have r5 : oN n - oN n / 5 * 5 = oN (n % 5) := by
        show oN n - oN n / oN 5 * oN 5 = _
        rw [oN_div (by omega) (by decide), oN_mul, oN_sub (Nat.div_mul_le_self n 5)]
        exact congrArg oN (by have := Nat.div_add_mod n 5; rw [Nat.mul_comm] at this; omega)
      have n50 : ¬ (5 : Int32) = 0 := by decide
      by_cases h3x : 3 < oN x
      case neg =>
        have h3f := eq_false h3x
        simp only [rL_law_204, rL_law_205, rL_law_208, rL_law_210, rL_law_211, rL_law_214, rL_law_215, rL_law_217, rL_law_218, rL_law_219, rL_law_222, rL_law_224, rL_law_225, rL_law_226, rL_law_227, ct1_i, ct1_r, ct1_n, true_and, and_true, tl_s, tl_n, le4_0, le4_1, le4_2, le4_3, le4_4, le4_5, isO_r, cl_, emb1, emb2, le_rN, sp_law_X_count, sp_law_X_init, sp_law_L_holds, sp_law_X_undo, sp_law_X_keep, sp_law_L_cell, sp_law_L_low, sp_law_L_act, sp_law_X_restore, obX, cm_ok, cm_al, cm_rd, cm_re, cm_ln, cm_s, true_or, iin7, iin6, n7, n6, z10, z00, z11, z01, if_true, if_false, h3f]
        exact nx
      have h3t := eq_true h3x
      rcases hcase with ⟨k1, k2⟩ | ⟨k1, k2, k3, k4⟩
      · simp only [rL_law_204, rL_law_205, rL_law_208, rL_law_210, rL_law_211, rL_law_214, rL_law_215, rL_law_217, rL_law_218, rL_law_219, rL_law_222, rL_law_224, rL_law_225, rL_law_226, rL_law_227, ct1_i, ct1_r, ct1_n, true_and, and_true, tl_s, tl_n, le4_0, le4_1, le4_2, le4_3, le4_4, le4_5, isO_r, cl_, emb1, emb2, le_rN, sp_law_X_count, sp_law_X_init, sp_law_L_holds, sp_law_X_undo, sp_law_X_keep, sp_law_L_cell, sp_law_L_low, sp_law_L_act, sp_law_X_restore, obX, cm_ok, cm_al, cm_rd, cm_re, cm_ln, cm_s, true_or, iin7, iin6, n7, n6, z10, z00, z11, z01, if_true, if_false, h3t, k1]
        exact nx
      by_cases h5 : oN (n % 5) = 4
      case neg =>
        have h5f := eq_false h5
        simp only [rL_law_204, rL_law_205, rL_law_208, rL_law_210, rL_law_211, rL_law_214, rL_law_215, rL_law_217, rL_law_218, rL_law_219, rL_law_222, rL_law_224, rL_law_225, rL_law_226, rL_law_227, ct1_i, ct1_r, ct1_n, true_and, and_true, tl_s, tl_n, le4_0, le4_1, le4_2, le4_3, le4_4, le4_5, isO_r, cl_, emb1, emb2, le_rN, sp_law_X_count, sp_law_X_init, sp_law_L_holds, sp_law_X_undo, sp_law_X_keep, sp_law_L_cell, sp_law_L_low, sp_law_L_act, sp_law_X_restore, obX, cm_ok, cm_al, cm_rd, cm_re, cm_ln, cm_s, true_or, iin7, iin6, n7, n6, z10, z00, z11, z01, if_true, if_false, h3t, k1, n50, not_false_eq_true, r5, h5f]
        exact nx
      have h5t := eq_true h5
      obtain ⟨σ3, u, hu, eu, h3, e6⟩ := un_ok h h2 k2 g4 g2 k3 (k4 h3x)
      have unn : (oN u < 0) = False := oN_nn (by omega)
      have ho3 := q_L_holds (x := celF sc (oN (3 * n))) (HolP_s h3)
      simp only [rL_law_204, rL_law_205, rL_law_208, rL_law_210, rL_law_211, rL_law_214, rL_law_215, rL_law_217, rL_law_218, rL_law_219, rL_law_222, rL_law_224, rL_law_225, rL_law_226, rL_law_227, rL_law_230, rL_law_231, rL_law_234, rL_law_237, rL_law_238, rL_law_240, rL_law_243, rL_law_245, rL_law_248, rL_law_249, rL_law_251, rL_law_254, rL_law_256, rL_law_259, rL_law_260, rL_law_261, rL_law_262, rL_law_263, rL_law_265, rL_law_266, rL_law_269, rL_law_272, rL_law_275, rL_law_276, rL_law_279, rL_law_280, ct1_i, ct1_r, ct1_n, true_and, and_true, tl_s, tl_n, le4_0, le4_1, le4_2, le4_3, le4_4, le4_5, isO_r, cl_, emb1, emb2, le_rN, sp_law_X_count, sp_law_X_init, sp_law_L_holds, sp_law_X_undo, sp_law_X_keep, sp_law_L_cell, sp_law_L_low, sp_law_L_act, sp_law_X_restore, obX, cm_ok, cm_al, cm_rd, cm_re, cm_ln, cm_s, true_or, iin7, iin6, n7, n6, z10, z00, z11, z01, if_true, if_false, h3t, k1, n50, not_false_eq_true, r5, h5t, eu, unn, ct_11 h3.1, e6, ct_7 h3.1, c0, q0, ho3]
      exact next σ3 T K S N O E h3 (by omega) (by omega)
    have nk4 : ¬ (4 : Int32) = 0 := by decide
    rcases hcase with ⟨k1, k2⟩ | ⟨k1, k2, k3, k4⟩
    · simp only [rL_law_69, rL_law_71, rL_law_74, rL_law_75, rL_law_78, rL_law_79, rL_law_80, rL_law_82, rL_law_83, rL_law_86, rL_law_88, rL_law_91, rL_law_93, rL_law_94, rL_law_96, rL_law_99, rL_law_101, rL_law_102, rL_law_104, rL_law_107, rL_law_109, rL_law_110, rL_law_112, rL_law_115, rL_law_117, rL_law_118, rL_law_119, rL_law_121, rL_law_122, rL_law_123, rL_law_125, rL_law_126, rL_law_127, rL_law_128, rL_law_131, rL_law_132, rL_law_133, rL_law_135, rL_law_136, rL_law_137, rL_law_138, rL_law_141, rL_law_144, rL_law_147, rL_law_148, rL_law_150, rL_law_153, rL_law_154, rL_law_156, rL_law_157, rL_law_160, rL_law_162, rL_law_165, rL_law_167, rL_law_168, rL_law_171, rL_law_172, rL_law_175, rL_law_177, rL_law_178, rL_law_179, rL_law_182, rL_law_183, rL_law_184, rL_law_185, rL_law_186, rL_law_188, rL_law_189, rL_law_192, rL_law_195, rL_law_198, rL_law_199, rL_law_202, rL_law_203, ct1_i, ct1_r, ct1_n, true_and, and_true, tl_s, tl_n, le4_0, le4_1, le4_2, le4_3, le4_4, le4_5, isO_r, cl_, emb1, emb2, le_rN, sp_law_X_count, sp_law_X_init, sp_law_L_holds, sp_law_X_undo, sp_law_X_keep, sp_law_L_cell, sp_law_L_low, sp_law_L_act, sp_law_X_restore, obX, cm_ok, cm_al, cm_rd, cm_re, cm_ln, cm_s, true_or, iin7, iin6, n7, n6, z10, z00, z11, z01, if_true, if_false, hlt, c0, c1, c2, q0, q1, q2, ql, f1, ct_16 h.1, ct_11 h.1, ct_7 h.1, ea, ct_16 h2.1, k1, k2, ho]
      exact tail
    · by_cases h4 : hd = 4
      · subst h4
        have e1 : σ' 7 1 1 = 4 := by rw [k2, g4]; decide
        have e2 : σ 7 1 1 = 4 := g4
        have z44 : ((4 : Int32) = 4) = True := eq_true rfl
        rw [e2] at tail
        simp only [rL_law_69, rL_law_71, rL_law_74, rL_law_75, rL_law_78, rL_law_79, rL_law_80, rL_law_82, rL_law_83, rL_law_86, rL_law_88, rL_law_91, rL_law_93, rL_law_94, rL_law_96, rL_law_99, rL_law_101, rL_law_102, rL_law_104, rL_law_107, rL_law_109, rL_law_110, rL_law_112, rL_law_115, rL_law_117, rL_law_118, rL_law_119, rL_law_121, rL_law_122, rL_law_123, rL_law_125, rL_law_126, rL_law_127, rL_law_128, rL_law_131, rL_law_132, rL_law_133, rL_law_135, rL_law_136, rL_law_137, rL_law_138, rL_law_141, rL_law_144, rL_law_147, rL_law_148, rL_law_150, rL_law_153, rL_law_154, rL_law_156, rL_law_157, rL_law_160, rL_law_162, rL_law_165, rL_law_167, rL_law_168, rL_law_171, rL_law_172, rL_law_175, rL_law_177, rL_law_178, rL_law_179, rL_law_182, rL_law_183, rL_law_184, rL_law_185, rL_law_186, rL_law_188, rL_law_189, rL_law_192, rL_law_195, rL_law_198, rL_law_199, rL_law_202, rL_law_203, ct1_i, ct1_r, ct1_n, true_and, and_true, tl_s, tl_n, le4_0, le4_1, le4_2, le4_3, le4_4, le4_5, isO_r, cl_, emb1, emb2, le_rN, sp_law_X_count, sp_law_X_init, sp_law_L_holds, sp_law_X_undo, sp_law_X_keep, sp_law_L_cell, sp_law_L_low, sp_law_L_act, sp_law_X_restore, obX, cm_ok, cm_al, cm_rd, cm_re, cm_ln, cm_s, true_or, iin7, iin6, n7, n6, z10, z00, z11, z01, if_true, if_false, hlt, c0, c1, c2, q0, q1, q2, ql, f1, ct_16 h.1, ct_11 h.1, ct_7 h.1, ea, ct_16 h2.1, k1, e1, e2, z44, ho]
        exact tail
      · have e1 : σ' 7 1 1 = oN (hd + 1) := by rw [k2, g4, hl_n hd (by omega)]; exact congrArg oN (by omega)
        have z4 : (oN hd = 4) = False := eq_false (fun z => h4 (oN_inj (b := 4) (by omega) (by decide) z))
        rw [g4] at tail
        simp only [rL_law_69, rL_law_71, rL_law_74, rL_law_75, rL_law_78, rL_law_79, rL_law_80, rL_law_82, rL_law_83, rL_law_86, rL_law_88, rL_law_91, rL_law_93, rL_law_94, rL_law_96, rL_law_99, rL_law_101, rL_law_102, rL_law_104, rL_law_107, rL_law_109, rL_law_110, rL_law_112, rL_law_115, rL_law_117, rL_law_118, rL_law_119, rL_law_121, rL_law_122, rL_law_123, rL_law_125, rL_law_126, rL_law_127, rL_law_128, rL_law_131, rL_law_132, rL_law_133, rL_law_135, rL_law_136, rL_law_137, rL_law_138, rL_law_141, rL_law_144, rL_law_147, rL_law_148, rL_law_150, rL_law_153, rL_law_154, rL_law_156, rL_law_157, rL_law_160, rL_law_162, rL_law_165, rL_law_167, rL_law_168, rL_law_171, rL_law_172, rL_law_175, rL_law_177, rL_law_178, rL_law_179, rL_law_182, rL_law_183, rL_law_184, rL_law_185, rL_law_186, rL_law_188, rL_law_189, rL_law_192, rL_law_195, rL_law_198, rL_law_199, rL_law_202, rL_law_203, ct1_i, ct1_r, ct1_n, true_and, and_true, tl_s, tl_n, le4_0, le4_1, le4_2, le4_3, le4_4, le4_5, isO_r, cl_, emb1, emb2, le_rN, sp_law_X_count, sp_law_X_init, sp_law_L_holds, sp_law_X_undo, sp_law_X_keep, sp_law_L_cell, sp_law_L_low, sp_law_L_act, sp_law_X_restore, obX, cm_ok, cm_al, cm_rd, cm_re, cm_ln, cm_s, true_or, iin7, iin6, n7, n6, z10, z00, z11, z01, if_true, if_false, hlt, c0, c1, c2, q0, q1, q2, ql, f1, ct_16 h.1, ct_11 h.1, ct_7 h.1, ea, ct_16 h2.1, k1, g4, e1, z4, oN_succ, ho]
        exact tail

