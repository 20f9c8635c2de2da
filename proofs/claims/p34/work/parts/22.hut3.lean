/-! THE HUT: searches -/
abbrev tooWP (w : HV) (a b : Int32) : Prop := b < 1000 ∧ (kt w a 2 < windAt w b ∨ ¬ windAt w b < settg w 0)
abbrev tooCP (w : HV) (a b : Int32) : Prop := b < 1000 ∧ windAt w b < kt w a 1
set_option maxHeartbeats 4000000 in
set_option maxRecDepth 20000 in
theorem lp_H_rowOfHire {sp : Nat → Sp} (h4 : sp 4 = f_T_at) {sc : Nat × (Nat → Int32)} {i : Nat} {σ : SG} {h : Int32} {Q : Option Value → MS → Prop} (hi : i < 7) (N : Nat) (hN : N ≤ 10) (hNe : σ i 8 4 = oN N) : ∀ (m n : Nat), n + m = N → Q (some (.int (fsF (fun r => decide (hr (σ i) (oN r) 6 = h)) n m))) (emb σ) → Vf 20 sp ((127, SLT), sc) 2 [.ref (hutA i), .int h, .int (oN n)] [] (emb σ) Q := by
  intro m
  induction m with
  | zero =>
    intro n hn hQ
    have : ¬ oN n < oN N := by rw [oN_lt (by omega) (by omega)]; omega
    rw [rH_rowOfHire_2]
    simp only [rH_rowOfHire_0, rH_rowOfHire_1, rH_rowOfHire_3, rH_rowOfHire_4, rH_rowOfHire_7, rH_rowOfHire_10, rH_rowOfHire_11, rH_rowOfHire_14, rH_rowOfHire_15, rH_rowOfHire_17, rH_rowOfHire_20, rH_rowOfHire_21, rH_rowOfHire_24, rH_rowOfHire_25, rH_rowOfHire_26, rH_rowOfHire_29, rH_rowOfHire_32, rH_rowOfHire_34, ct1_i, ct1_r, ct1_n, true_and, and_true, tl_s, tl_n, le4_0, le4_1, le4_2, le4_3, le4_4, le4_5, isO_r, ob_h hi, vs_4 hi, hNe, if_neg this]
    exact hQ
  | succ m ih =>
    intro n hn hQ
    have : oN n < oN N := by rw [oN_lt (by omega) (by omega)]; omega
    rw [rH_rowOfHire_2]
    simp only [rH_rowOfHire_0, rH_rowOfHire_1, rH_rowOfHire_3, rH_rowOfHire_4, rH_rowOfHire_7, rH_rowOfHire_10, rH_rowOfHire_11, rH_rowOfHire_14, rH_rowOfHire_15, rH_rowOfHire_17, rH_rowOfHire_20, rH_rowOfHire_21, rH_rowOfHire_24, rH_rowOfHire_25, rH_rowOfHire_26, rH_rowOfHire_29, rH_rowOfHire_32, rH_rowOfHire_34, ct1_i, ct1_r, ct1_n, true_and, and_true, tl_s, tl_n, le4_0, le4_1, le4_2, le4_3, le4_4, le4_5, isO_r, cl_, emb1, emb2, le_rN, h4, ob_h hi, vs_4 hi, hNe, if_pos this, vh_5 hi, obt_5 hi, qT_at_5 hi, oN_succ]
    show if hr (σ i) (oN n) 6 = h then _ else _
    by_cases h1 : hr (σ i) (oN n) 6 = h
    · rw [if_pos h1]
      simp only [fsF, h1, decide_true, if_true] at hQ
      exact hQ
    · rw [if_neg h1]
      refine ih (n + 1) (by omega) ?_
      simp only [fsF, h1, decide_false, Bool.false_eq_true, if_false] at hQ
      exact hQ

def sp_H_rowOfHire : Nat → Sp := spL [(4, f_T_at)]
theorem sp_H_rowOfHire_T_at : sp_H_rowOfHire 4 = f_T_at := rfl
def f_H_rowOfHire : Sp := aS 7 hutA 1 (gL1 (fun i h σ => (sm (σ i 8 4) 10, some (.int (fsF (fun r => decide (hr (σ i) (oN r) 6 = h)) 0 (σ i 8 4).toNatClampNeg)), σ)))
theorem q_H_rowOfHire {i : Nat} {h : Int32} {σ : SG} (hi : i < 7) : f_H_rowOfHire [.ref (hutA i), .int h] (emb σ) = (sm (σ i 8 4) 10, some (.int (fsF (fun r => decide (hr (σ i) (oN r) 6 = h)) 0 (σ i 8 4).toNatClampNeg)), emb (σ)) := aS1_at (ad := hutA) hi (hI_h hi)
set_option maxHeartbeats 4000000 in
set_option maxRecDepth 20000 in
theorem ok_H_rowOfHire : SpecOK 20 f_H_rowOfHire := SpecOK.of (sp := sp_H_rowOfHire) (by decide) (by decide) (spL_ok (List.forall_mem_cons.mpr ⟨ok_T_at, (fun q h => absurd h List.not_mem_nil)⟩)) (Does_aS1 (Nat.le_of_ble_eq_true rfl) (fun sc i h σ hi had hp => by
  show Vf 20 _ _ 0 [.ref (hutA i), .int h, .null] [] (emb σ) _

  simp only [rH_rowOfHire_0, rH_rowOfHire_1, ct1_i, ct1_r, ct1_n, true_and, and_true, tl_s, tl_n, le4_0, le4_1, le4_2, le4_3, le4_4, le4_5, isO_r]
  exact lp_H_rowOfHire sp_H_rowOfHire_T_at hi _ hp.2 (sm_eq hp) _ 0 (Nat.zero_add _) ⟨rfl, rfl⟩))
set_option maxHeartbeats 4000000 in
set_option maxRecDepth 20000 in
theorem lp_H_kitesThatAre {sp : Nat → Sp} (h4 : sp 4 = f_T_at) {sc : Nat × (Nat → Int32)} {i : Nat} {σ : SG} {h : Int32} {Q : Option Value → MS → Prop} (hi : i < 7) (N : Nat) (hN : N ≤ 16) (hNe : σ i 8 1 = oN N) : ∀ (m n : Nat) (acc : Int32), n + m = N → Q (some (.int (acc + smF (fun r => if kt (σ i) (oN r) 0 = h then 1 else 0) n m))) (emb σ) → Vf 21 sp ((127, SLT), sc) 4 [.ref (hutA i), .int h, .int acc, .int (oN n)] [] (emb σ) Q := by
  intro m
  induction m with
  | zero =>
    intro n acc hn hQ
    have : ¬ oN n < oN N := by rw [oN_lt (by omega) (by omega)]; omega
    rw [rH_kitesThatAre_4]
    simp only [rH_kitesThatAre_0, rH_kitesThatAre_1, rH_kitesThatAre_2, rH_kitesThatAre_3, rH_kitesThatAre_5, rH_kitesThatAre_6, rH_kitesThatAre_9, rH_kitesThatAre_12, rH_kitesThatAre_13, rH_kitesThatAre_16, rH_kitesThatAre_17, rH_kitesThatAre_18, rH_kitesThatAre_21, rH_kitesThatAre_22, rH_kitesThatAre_25, rH_kitesThatAre_28, rH_kitesThatAre_31, rH_kitesThatAre_34, rH_kitesThatAre_35, ct1_i, ct1_r, ct1_n, true_and, and_true, tl_s, tl_n, le4_0, le4_1, le4_2, le4_3, le4_4, le4_5, isO_r, ob_h hi, vs_1 hi, hNe, if_neg this]
    simp only [smF, Int32.add_zero] at hQ
    exact hQ
  | succ m ih =>
    intro n acc hn hQ
    have : oN n < oN N := by rw [oN_lt (by omega) (by omega)]; omega
    rw [rH_kitesThatAre_4]
    simp only [rH_kitesThatAre_0, rH_kitesThatAre_1, rH_kitesThatAre_2, rH_kitesThatAre_3, rH_kitesThatAre_5, rH_kitesThatAre_6, rH_kitesThatAre_9, rH_kitesThatAre_12, rH_kitesThatAre_13, rH_kitesThatAre_16, rH_kitesThatAre_17, rH_kitesThatAre_18, rH_kitesThatAre_21, rH_kitesThatAre_22, rH_kitesThatAre_25, rH_kitesThatAre_28, rH_kitesThatAre_31, rH_kitesThatAre_34, rH_kitesThatAre_35, ct1_i, ct1_r, ct1_n, true_and, and_true, tl_s, tl_n, le4_0, le4_1, le4_2, le4_3, le4_4, le4_5, isO_r, cl_, emb1, emb2, le_rN, h4, ob_h hi, vs_1 hi, hNe, if_pos this, vh_2 hi, obt_2 hi, qT_at_2 hi, oN_succ]
    show if kt (σ i) (oN n) 0 = h then _ else _
    simp only [smF, ← Int32.add_assoc] at hQ
    by_cases h1 : kt (σ i) (oN n) 0 = h
    · rw [if_pos h1]
      rw [if_pos h1] at hQ
      exact ih (n + 1) _ (by omega) hQ
    · rw [if_neg h1]
      rw [if_neg h1, Int32.add_zero] at hQ
      exact ih (n + 1) _ (by omega) hQ
def sp_H_kitesThatAre : Nat → Sp := spL [(4, f_T_at)]
theorem sp_H_kitesThatAre_T_at : sp_H_kitesThatAre 4 = f_T_at := rfl
def f_H_kitesThatAre : Sp := aS 7 hutA 1 (gL1 (fun i h σ => (sm (σ i 8 1) 16, some (.int (smF (fun r => if kt (σ i) (oN r) 0 = h then 1 else 0) 0 (σ i 8 1).toNatClampNeg)), σ)))
theorem q_H_kitesThatAre {i : Nat} {h : Int32} {σ : SG} (hi : i < 7) : f_H_kitesThatAre [.ref (hutA i), .int h] (emb σ) = (sm (σ i 8 1) 16, some (.int (smF (fun r => if kt (σ i) (oN r) 0 = h then 1 else 0) 0 (σ i 8 1).toNatClampNeg)), emb (σ)) := aS1_at (ad := hutA) hi (hI_h hi)
set_option maxHeartbeats 4000000 in
set_option maxRecDepth 20000 in
theorem ok_H_kitesThatAre : SpecOK 21 f_H_kitesThatAre := SpecOK.of (sp := sp_H_kitesThatAre) (by decide) (by decide) (spL_ok (List.forall_mem_cons.mpr ⟨ok_T_at, (fun q h => absurd h List.not_mem_nil)⟩)) (Does_aS1 (Nat.le_of_ble_eq_true rfl) (fun sc i h σ hi had hp => by
  show Vf 21 _ _ 0 [.ref (hutA i), .int h, .null, .null] [] (emb σ) _

  simp only [rH_kitesThatAre_0, rH_kitesThatAre_1, rH_kitesThatAre_2, rH_kitesThatAre_3, ct1_i, ct1_r, ct1_n, true_and, and_true, tl_s, tl_n, le4_0, le4_1, le4_2, le4_3, le4_4, le4_5, isO_r]
  exact lp_H_kitesThatAre sp_H_kitesThatAre_T_at hi _ hp.2 (sm_eq hp) _ 0 0 (Nat.zero_add _) ⟨by rw [Int32.zero_add], rfl⟩))
set_option maxHeartbeats 4000000 in
set_option maxRecDepth 20000 in
theorem lp_H_sumOfSpools {sp : Nat → Sp} (h4 : sp 4 = f_T_at) {sc : Nat × (Nat → Int32)} {i : Nat} {σ : SG} {h : Int32} {Q : Option Value → MS → Prop} (hi : i < 7) (N : Nat) (hN : N ≤ 10) (hNe : σ i 8 2 = oN N) : ∀ (m n : Nat) (acc : Int32), n + m = N → Q (some (.int (acc + smF (fun r => sl (σ i) (oN r) h) n m))) (emb σ) → Vf 22 sp ((127, SLT), sc) 4 [.ref (hutA i), .int h, .int acc, .int (oN n)] [] (emb σ) Q := by
  intro m
  induction m with
  | zero =>
    intro n acc hn hQ
    have : ¬ oN n < oN N := by rw [oN_lt (by omega) (by omega)]; omega
    rw [rH_sumOfSpools_4]
    simp only [rH_sumOfSpools_0, rH_sumOfSpools_1, rH_sumOfSpools_2, rH_sumOfSpools_3, rH_sumOfSpools_5, rH_sumOfSpools_6, rH_sumOfSpools_9, rH_sumOfSpools_12, rH_sumOfSpools_13, rH_sumOfSpools_14, rH_sumOfSpools_17, rH_sumOfSpools_18, rH_sumOfSpools_19, rH_sumOfSpools_22, rH_sumOfSpools_23, rH_sumOfSpools_24, rH_sumOfSpools_27, rH_sumOfSpools_30, rH_sumOfSpools_31, ct1_i, ct1_r, ct1_n, true_and, and_true, tl_s, tl_n, le4_0, le4_1, le4_2, le4_3, le4_4, le4_5, isO_r, ob_h hi, vs_2 hi, hNe, if_neg this]
    simp only [smF, Int32.add_zero] at hQ
    exact hQ
  | succ m ih =>
    intro n acc hn hQ
    have : oN n < oN N := by rw [oN_lt (by omega) (by omega)]; omega
    rw [rH_sumOfSpools_4]
    simp only [rH_sumOfSpools_0, rH_sumOfSpools_1, rH_sumOfSpools_2, rH_sumOfSpools_3, rH_sumOfSpools_5, rH_sumOfSpools_6, rH_sumOfSpools_9, rH_sumOfSpools_12, rH_sumOfSpools_13, rH_sumOfSpools_14, rH_sumOfSpools_17, rH_sumOfSpools_18, rH_sumOfSpools_19, rH_sumOfSpools_22, rH_sumOfSpools_23, rH_sumOfSpools_24, rH_sumOfSpools_27, rH_sumOfSpools_30, rH_sumOfSpools_31, ct1_i, ct1_r, ct1_n, true_and, and_true, tl_s, tl_n, le4_0, le4_1, le4_2, le4_3, le4_4, le4_5, isO_r, cl_, emb1, emb2, le_rN, h4, ob_h hi, vs_2 hi, hNe, if_pos this, vh_3 hi, obt_3 hi, qT_at_3 hi, oN_succ]
    simp only [smF, ← Int32.add_assoc] at hQ
    exact ih (n + 1) _ (by omega) hQ
def sp_H_sumOfSpools : Nat → Sp := spL [(4, f_T_at)]
theorem sp_H_sumOfSpools_T_at : sp_H_sumOfSpools 4 = f_T_at := rfl
def f_H_sumOfSpools : Sp := aS 7 hutA 1 (gL1 (fun i h σ => (sm (σ i 8 2) 10, some (.int (smF (fun r => sl (σ i) (oN r) h) 0 (σ i 8 2).toNatClampNeg)), σ)))
theorem q_H_sumOfSpools {i : Nat} {h : Int32} {σ : SG} (hi : i < 7) : f_H_sumOfSpools [.ref (hutA i), .int h] (emb σ) = (sm (σ i 8 2) 10, some (.int (smF (fun r => sl (σ i) (oN r) h) 0 (σ i 8 2).toNatClampNeg)), emb (σ)) := aS1_at (ad := hutA) hi (hI_h hi)
set_option maxHeartbeats 4000000 in
set_option maxRecDepth 20000 in
theorem ok_H_sumOfSpools : SpecOK 22 f_H_sumOfSpools := SpecOK.of (sp := sp_H_sumOfSpools) (by decide) (by decide) (spL_ok (List.forall_mem_cons.mpr ⟨ok_T_at, (fun q h => absurd h List.not_mem_nil)⟩)) (Does_aS1 (Nat.le_of_ble_eq_true rfl) (fun sc i h σ hi had hp => by
  show Vf 22 _ _ 0 [.ref (hutA i), .int h, .null, .null] [] (emb σ) _

  simp only [rH_sumOfSpools_0, rH_sumOfSpools_1, rH_sumOfSpools_2, rH_sumOfSpools_3, ct1_i, ct1_r, ct1_n, true_and, and_true, tl_s, tl_n, le4_0, le4_1, le4_2, le4_3, le4_4, le4_5, isO_r]
  exact lp_H_sumOfSpools sp_H_sumOfSpools_T_at hi _ hp.2 (sm_eq hp) _ 0 0 (Nat.zero_add _) ⟨by rw [Int32.zero_add], rfl⟩))
set_option maxHeartbeats 4000000 in
set_option maxRecDepth 20000 in
theorem lp_H_anyTooWindy {sp : Nat → Sp} (h4 : sp 26 = f_H_tooWindy) {sc : Nat × (Nat → Int32)} {i : Nat} {σ : SG} {k fr hs : Int32} {Q : Option Value → MS → Prop} (hi : i < 7) (N : Nat) (hN : N ≤ 12) (hNe : hs = oN N) : ∀ (m n : Nat), n + m = N → Q (some (.int (bi (exF (fun a => decide (tooWP (σ i) k (fr + oN a))) n m = true)))) (emb σ) → Vf 33 sp ((127, SLT), sc) 3 [.ref (hutA i), .int k, .int fr, .int hs, .int (oN n)] [] (emb σ) Q := by
  intro m
  induction m with
  | zero =>
    intro n hn hQ
    have : ¬ oN n < oN N := by rw [oN_lt (by omega) (by omega)]; omega
    rw [rH_anyTooWindy_3]
    simp only [rH_anyTooWindy_0, rH_anyTooWindy_1, rH_anyTooWindy_5, rH_anyTooWindy_6, rH_anyTooWindy_9, rH_anyTooWindy_10, rH_anyTooWindy_11, rH_anyTooWindy_12, rH_anyTooWindy_14, rH_anyTooWindy_15, rH_anyTooWindy_18, rH_anyTooWindy_21, rH_anyTooWindy_22, rH_anyTooWindy_23, rH_anyTooWindy_26, rH_anyTooWindy_29, rH_anyTooWindy_30, ct1_i, ct1_r, ct1_n, true_and, and_true, tl_s, tl_n, le4_0, le4_1, le4_2, le4_3, le4_4, le4_5, isO_r, hNe, if_neg this, rb_0]
    exact hQ
  | succ m ih =>
    intro n hn hQ
    have : oN n < oN N := by rw [oN_lt (by omega) (by omega)]; omega
    rw [rH_anyTooWindy_3]
    simp only [rH_anyTooWindy_0, rH_anyTooWindy_1, rH_anyTooWindy_5, rH_anyTooWindy_6, rH_anyTooWindy_9, rH_anyTooWindy_10, rH_anyTooWindy_11, rH_anyTooWindy_12, rH_anyTooWindy_14, rH_anyTooWindy_15, rH_anyTooWindy_18, rH_anyTooWindy_21, rH_anyTooWindy_22, rH_anyTooWindy_23, rH_anyTooWindy_26, rH_anyTooWindy_29, rH_anyTooWindy_30, ct1_i, ct1_r, ct1_n, true_and, and_true, tl_s, tl_n, le4_0, le4_1, le4_2, le4_3, le4_4, le4_5, isO_r, cl_, emb1, emb2, le_rN, h4, ob_h hi, hNe, if_pos this, q_H_tooWindy hi, bi_eq0, rb_1, oN_succ]
    show if ¬ tooWP (σ i) k (fr + oN n) then _ else _
    by_cases h1 : tooWP (σ i) k (fr + oN n)
    · rw [if_neg (fun q => q h1)]
      simp only [exF, eq_true h1, decide_true, Bool.true_or] at hQ
      exact hQ
    · rw [if_pos h1]
      simp only [exF, eq_false h1, decide_false, Bool.false_or] at hQ
      rw [hNe] at ih
      exact ih (n + 1) (by omega) hQ
def sp_H_anyTooWindy : Nat → Sp := spL [(26, f_H_tooWindy)]
theorem sp_H_anyTooWindy_H_tooWindy : sp_H_anyTooWindy 26 = f_H_tooWindy := rfl
def f_H_anyTooWindy : Sp := aS 7 hutA 3 (gL3 (fun i k fr hs σ => (sm hs 12, some (.int (bi (exF (fun a => decide (tooWP (σ i) k (fr + oN a))) 0 hs.toNatClampNeg = true))), σ)))
theorem q_H_anyTooWindy {i : Nat} {k fr hs : Int32} {σ : SG} (hi : i < 7) : f_H_anyTooWindy [.ref (hutA i), .int k, .int fr, .int hs] (emb σ) = (sm hs 12, some (.int (bi (exF (fun a => decide (tooWP (σ i) k (fr + oN a))) 0 hs.toNatClampNeg = true))), emb (σ)) := aS3_at (ad := hutA) hi (hI_h hi)
set_option maxHeartbeats 4000000 in
set_option maxRecDepth 20000 in
theorem ok_H_anyTooWindy : SpecOK 33 f_H_anyTooWindy := SpecOK.of (sp := sp_H_anyTooWindy) (by decide) (by decide) (spL_ok (List.forall_mem_cons.mpr ⟨ok_H_tooWindy, (fun q h => absurd h List.not_mem_nil)⟩)) (Does_aS3 (Nat.le_of_ble_eq_true rfl) (fun sc i k fr hs σ hi had hp => by
  show Vf 33 _ _ 0 [.ref (hutA i), .int k, .int fr, .int hs, .null] [] (emb σ) _

  simp only [rH_anyTooWindy_0, rH_anyTooWindy_1, ct1_i, ct1_r, ct1_n, true_and, and_true, tl_s, tl_n, le4_0, le4_1, le4_2, le4_3, le4_4, le4_5, isO_r]
  exact lp_H_anyTooWindy sp_H_anyTooWindy_H_tooWindy hi _ hp.2 (sm_eq hp) _ 0 (Nat.zero_add _) ⟨rfl, rfl⟩))
/-- the spool for some metres, from s on, the best so far -/
def spF (w : HV) (m : Int32) : Nat → Nat → Int32 → Int32
  | _, 0, b => b
  | s, k + 1, b => spF w m (s + 1) k (if (sl w (oN s) 2 = -5 ∧ ¬ sl w (oN s) 0 < m + settg w 4) ∧ (b = -5 ∨ (sl w (oN s) 0 < sl w b 0 ∨ (sl w (oN s) 0 = sl w b 0 ∧ sl w (oN s) 1 < sl w b 1))) then oN s else b)
set_option maxHeartbeats 4000000 in
set_option maxRecDepth 20000 in
theorem lp_H_spoolFor {sp : Nat → Sp} (h4 : sp 4 = f_T_at) (h14 : sp 14 = f_H_setting) (h15 : sp 15 = f_H_isBetterSpool) {sc : Nat × (Nat → Int32)} {i : Nat} {σ : SG} {h : Int32} {Q : Option Value → MS → Prop} (hi : i < 7) (N : Nat) (hN : N ≤ 10) (hNe : σ i 8 2 = oN N) : ∀ (m n : Nat) (b : Int32) (v : Value), n + m = N → Q (some (.int (spF (σ i) h n m b))) (emb σ) → Vf 28 sp ((127, SLT), sc) 5 [.ref (hutA i), .int h, .int b, .int (oN n), v] [] (emb σ) Q := by
  intro m
  induction m with
  | zero =>
    intro n b v hn hQ
    have : ¬ oN n < oN N := by rw [oN_lt (by omega) (by omega)]; omega
    rw [rH_spoolFor_5]
    simp only [rH_spoolFor_0, rH_spoolFor_2, rH_spoolFor_3, rH_spoolFor_4, rH_spoolFor_6, rH_spoolFor_7, rH_spoolFor_10, rH_spoolFor_13, rH_spoolFor_14, rH_spoolFor_17, rH_spoolFor_18, rH_spoolFor_19, rH_spoolFor_22, rH_spoolFor_24, rH_spoolFor_27, rH_spoolFor_28, rH_spoolFor_31, rH_spoolFor_32, rH_spoolFor_33, rH_spoolFor_36, rH_spoolFor_37, rH_spoolFor_38, rH_spoolFor_39, rH_spoolFor_42, rH_spoolFor_43, rH_spoolFor_46, rH_spoolFor_47, rH_spoolFor_50, rH_spoolFor_51, rH_spoolFor_53, rH_spoolFor_55, rH_spoolFor_58, rH_spoolFor_59, rH_spoolFor_61, rH_spoolFor_64, rH_spoolFor_65, rH_spoolFor_66, rH_spoolFor_67, rH_spoolFor_70, rH_spoolFor_73, rH_spoolFor_74, rH_spoolFor_75, rH_spoolFor_78, rH_spoolFor_81, rH_spoolFor_82, ct1_i, ct1_r, ct1_n, true_and, and_true, tl_s, tl_n, le4_0, le4_1, le4_2, le4_3, le4_4, le4_5, isO_r, ob_h hi, vs_2 hi, hNe, if_neg this]
    exact hQ
  | succ m ih =>
    intro n b v hn hQ
    have : oN n < oN N := by rw [oN_lt (by omega) (by omega)]; omega
    rw [rH_spoolFor_5]
    simp only [spF] at hQ
    simp only [rH_spoolFor_0, rH_spoolFor_2, rH_spoolFor_3, rH_spoolFor_4, rH_spoolFor_6, rH_spoolFor_7, rH_spoolFor_10, rH_spoolFor_13, rH_spoolFor_14, rH_spoolFor_17, rH_spoolFor_18, rH_spoolFor_19, rH_spoolFor_22, rH_spoolFor_24, rH_spoolFor_27, rH_spoolFor_28, rH_spoolFor_31, rH_spoolFor_32, rH_spoolFor_33, rH_spoolFor_36, rH_spoolFor_37, rH_spoolFor_38, rH_spoolFor_39, rH_spoolFor_42, rH_spoolFor_43, rH_spoolFor_46, rH_spoolFor_47, rH_spoolFor_50, rH_spoolFor_51, rH_spoolFor_53, rH_spoolFor_55, rH_spoolFor_58, rH_spoolFor_59, rH_spoolFor_61, rH_spoolFor_64, rH_spoolFor_65, rH_spoolFor_66, rH_spoolFor_67, rH_spoolFor_70, rH_spoolFor_73, rH_spoolFor_74, rH_spoolFor_75, rH_spoolFor_78, rH_spoolFor_81, rH_spoolFor_82, ct1_i, ct1_r, ct1_n, true_and, and_true, tl_s, tl_n, le4_0, le4_1, le4_2, le4_3, le4_4, le4_5, isO_r, cl_, emb1, emb2, le_rN, h4, h14, h15, ob_h hi, vs_2 hi, hNe, if_pos this, vh_3 hi, obt_3 hi, qT_at_3 hi, q_H_setting hi, q_H_isBetterSpool hi, oN_succ, bi_eq0, if_neg (show ¬ (1 : Int32) = 0 by decide), if_true]
    show if sl (σ i) (oN n) 2 = -5 then if sl (σ i) (oN n) 0 < h + settg (σ i) 4 then _ else _ else _
    by_cases h1 : sl (σ i) (oN n) 2 = -5
    · rw [if_pos h1]
      by_cases h2 : sl (σ i) (oN n) 0 < h + settg (σ i) 4
      · rw [if_pos h2]
        rw [if_neg (fun q => q.1.2 h2)] at hQ
        exact ih (n + 1) _ _ (by omega) hQ
      · rw [if_neg h2]
        by_cases h3 : b = -5
        · rw [if_pos h3]
          rw [if_pos ⟨⟨h1, h2⟩, Or.inl h3⟩] at hQ
          exact ih (n + 1) _ _ (by omega) hQ
        · rw [if_neg h3]
          by_cases h5 : (sl (σ i) (oN n) 0 < sl (σ i) b 0 ∨ (sl (σ i) (oN n) 0 = sl (σ i) b 0 ∧ sl (σ i) (oN n) 1 < sl (σ i) b 1))
          · rw [if_neg (fun q => q h5)]
            rw [if_pos ⟨⟨h1, h2⟩, Or.inr h5⟩] at hQ
            exact ih (n + 1) _ _ (by omega) hQ
          · rw [if_pos h5]
            rw [if_neg (fun q => q.2.elim h3 h5)] at hQ
            exact ih (n + 1) _ _ (by omega) hQ
    · rw [if_neg h1]
      rw [if_neg (fun q => h1 q.1.1)] at hQ
      exact ih (n + 1) _ _ (by omega) hQ
def sp_H_spoolFor : Nat → Sp := spL [(4, f_T_at), (14, f_H_setting), (15, f_H_isBetterSpool)]
theorem sp_H_spoolFor_T_at : sp_H_spoolFor 4 = f_T_at := rfl
theorem sp_H_spoolFor_H_setting : sp_H_spoolFor 14 = f_H_setting := rfl
theorem sp_H_spoolFor_H_isBetterSpool : sp_H_spoolFor 15 = f_H_isBetterSpool := rfl
def f_H_spoolFor : Sp := aS 7 hutA 1 (gL1 (fun i h σ => (sm (σ i 8 2) 10, some (.int (spF (σ i) h 0 (σ i 8 2).toNatClampNeg (-5))), σ)))
theorem q_H_spoolFor {i : Nat} {h : Int32} {σ : SG} (hi : i < 7) : f_H_spoolFor [.ref (hutA i), .int h] (emb σ) = (sm (σ i 8 2) 10, some (.int (spF (σ i) h 0 (σ i 8 2).toNatClampNeg (-5))), emb (σ)) := aS1_at (ad := hutA) hi (hI_h hi)
set_option maxHeartbeats 4000000 in
set_option maxRecDepth 20000 in
theorem ok_H_spoolFor : SpecOK 28 f_H_spoolFor := SpecOK.of (sp := sp_H_spoolFor) (by decide) (by decide) (spL_ok (List.forall_mem_cons.mpr ⟨ok_T_at, (List.forall_mem_cons.mpr ⟨ok_H_setting, (List.forall_mem_cons.mpr ⟨ok_H_isBetterSpool, (fun q h => absurd h List.not_mem_nil)⟩)⟩)⟩)) (Does_aS1 (Nat.le_of_ble_eq_true rfl) (fun sc i h σ hi had hp => by
  show Vf 28 _ _ 0 [.ref (hutA i), .int h, .null, .null, .null] [] (emb σ) _

  simp only [rH_spoolFor_0, rH_spoolFor_2, rH_spoolFor_3, rH_spoolFor_4, ct1_i, ct1_r, ct1_n, true_and, and_true, tl_s, tl_n, le4_0, le4_1, le4_2, le4_3, le4_4, le4_5, isO_r]
  exact lp_H_spoolFor sp_H_spoolFor_T_at sp_H_spoolFor_H_setting sp_H_spoolFor_H_isBetterSpool hi _ hp.2 (sm_eq hp) _ 0 _ _ (Nat.zero_add _) ⟨rfl, rfl⟩))
/-- why a hire is refused -/
def refu (w : HV) (k m h s : Int32) : Int32 :=
  if kt w k 0 = 0 then (if exF (fun a => decide (tooWP w k (w 8 0 + oN a))) 0 h.toNatClampNeg = true then 2 else if tooCP w k (w 8 0) then 3 else if spF w m 0 (w 8 2).toNatClampNeg (-5) = -5 then 4 else if exF (fun c => decide (bit s c = 1 ∧ ¬ 0 < w 4 (c * 3))) 0 6 = true then 5 else if 1000 < w 8 0 + h then 6 else 0) else 1
def sp_H_refusal : Nat → Sp := spL [(4, f_T_at), (33, f_H_anyTooWindy), (27, f_H_tooCalm), (28, f_H_spoolFor), (16, f_H_anyTailWanting)]
theorem sp_H_refusal_T_at : sp_H_refusal 4 = f_T_at := rfl
theorem sp_H_refusal_H_anyTooWindy : sp_H_refusal 33 = f_H_anyTooWindy := rfl
theorem sp_H_refusal_H_tooCalm : sp_H_refusal 27 = f_H_tooCalm := rfl
theorem sp_H_refusal_H_spoolFor : sp_H_refusal 28 = f_H_spoolFor := rfl
theorem sp_H_refusal_H_anyTailWanting : sp_H_refusal 16 = f_H_anyTailWanting := rfl
def f_H_refusal : Sp := aS 7 hutA 4 (gL4 (fun i k m h s σ => (sm h 12 ∧ sm (σ i 8 2) 10, some (.int (refu (σ i) k m h s)), σ)))
theorem q_H_refusal {i : Nat} {k m h s : Int32} {σ : SG} (hi : i < 7) : f_H_refusal [.ref (hutA i), .int k, .int m, .int h, .int s] (emb σ) = (sm h 12 ∧ sm (σ i 8 2) 10, some (.int (refu (σ i) k m h s)), emb (σ)) := aS4_at (ad := hutA) hi (hI_h hi)
set_option maxHeartbeats 4000000 in
set_option maxRecDepth 20000 in
theorem ok_H_refusal : SpecOK 38 f_H_refusal := SpecOK.of (sp := sp_H_refusal) (by decide) (by decide) (spL_ok (List.forall_mem_cons.mpr ⟨ok_T_at, (List.forall_mem_cons.mpr ⟨ok_H_anyTooWindy, (List.forall_mem_cons.mpr ⟨ok_H_tooCalm, (List.forall_mem_cons.mpr ⟨ok_H_spoolFor, (List.forall_mem_cons.mpr ⟨ok_H_anyTailWanting, (fun q h => absurd h List.not_mem_nil)⟩)⟩)⟩)⟩)⟩)) (Does_aS4 (Nat.le_of_ble_eq_true rfl) (fun sc i k m h s σ hi had hp => by
  show Vf 38 _ _ 0 [.ref (hutA i), .int k, .int m, .int h, .int s] [] (emb σ) _

  simp only [rH_refusal_0, rH_refusal_1, rH_refusal_4, rH_refusal_5, rH_refusal_6, rH_refusal_9, rH_refusal_12, rH_refusal_13, rH_refusal_14, rH_refusal_15, rH_refusal_16, rH_refusal_17, rH_refusal_20, rH_refusal_21, rH_refusal_24, rH_refusal_27, rH_refusal_28, rH_refusal_29, rH_refusal_30, rH_refusal_31, rH_refusal_32, rH_refusal_35, rH_refusal_38, rH_refusal_41, rH_refusal_42, rH_refusal_43, rH_refusal_44, rH_refusal_45, rH_refusal_48, rH_refusal_50, rH_refusal_53, rH_refusal_54, rH_refusal_55, rH_refusal_56, rH_refusal_58, rH_refusal_61, rH_refusal_64, rH_refusal_65, rH_refusal_66, rH_refusal_67, rH_refusal_70, rH_refusal_71, rH_refusal_72, rH_refusal_75, rH_refusal_78, rH_refusal_80, rH_refusal_83, rH_refusal_84, ct1_i, ct1_r, ct1_n, true_and, and_true, tl_s, tl_n, le4_0, le4_1, le4_2, le4_3, le4_4, le4_5, isO_r, cl_, emb1, emb2, le_rN, up1_at, up1_up1, sp_H_refusal_T_at, sp_H_refusal_H_anyTooWindy, sp_H_refusal_H_tooCalm, sp_H_refusal_H_spoolFor, sp_H_refusal_H_anyTailWanting, ob_h hi, vs_0 hi, vh_2 hi, obt_2 hi, qT_at_2 hi, q_H_anyTooWindy hi, q_H_tooCalm hi, q_H_spoolFor hi, q_H_anyTailWanting hi, bi_eq0, hp.1, hp.2]
  show if kt (σ i) k 0 = 0 then _ else _
  unfold refu
  by_cases h1 : kt (σ i) k 0 = 0
  · rw [if_pos h1, if_pos h1]
    by_cases h2 : exF (fun a => decide (tooWP (σ i) k (σ i 8 0 + oN a))) 0 h.toNatClampNeg = true
    · rw [if_neg (fun q => q h2), if_pos h2]
    · rw [if_pos h2, if_neg h2]
      by_cases h3 : tooCP (σ i) k (σ i 8 0)
      · rw [if_neg (fun q => q h3), if_pos h3]
      · rw [if_pos h3, if_neg h3]
        by_cases h4 : spF (σ i) m 0 (σ i 8 2).toNatClampNeg (-5) = -5
        · rw [if_pos h4, if_pos h4]
        · rw [if_neg h4, if_neg h4]
          by_cases h5 : exF (fun c => decide (bit s c = 1 ∧ ¬ 0 < σ i 4 (c * 3))) 0 6 = true
          · rw [if_neg (fun q => q h5), if_pos h5]
          · rw [if_pos h5, if_neg h5]
            by_cases h6 : 1000 < σ i 8 0 + h
            · rw [if_pos h6, if_pos h6]
            · rw [if_neg h6, if_neg h6]
  · rw [if_neg h1, if_neg h1]))
def lgF (w : HV) (k m : Int32) : Nat → Int32
  | 0 => 0
  | n + 1 => if refu w k m (oN (n + 1)) 0 = 0 then oN (n + 1) else lgF w k m n
set_option maxHeartbeats 4000000 in
set_option maxRecDepth 20000 in
theorem lp_H_longestHire {sp : Nat → Sp} (h4 : sp 38 = f_H_refusal) {sc : Nat × (Nat → Int32)} {i : Nat} {σ : SG} {k h : Int32} {Q : Option Value → MS → Prop} (hi : i < 7) (hp : sm (σ i 8 2) 10) : ∀ (n : Nat), n ≤ 12 → Q (some (.int (lgF (σ i) k h n))) (emb σ) → Vf 42 sp ((127, SLT), sc) 3 [.ref (hutA i), .int k, .int h, .int (oN n)] [] (emb σ) Q := by
  intro n
  induction n with
  | zero =>
    intro hn hQ
    rw [rH_longestHire_3]
    simp only [rH_longestHire_0, rH_longestHire_2, rH_longestHire_4, rH_longestHire_7, rH_longestHire_8, rH_longestHire_9, rH_longestHire_10, rH_longestHire_11, rH_longestHire_12, rH_longestHire_15, rH_longestHire_18, rH_longestHire_19, rH_longestHire_20, rH_longestHire_23, rH_longestHire_26, rH_longestHire_27, ct1_i, ct1_r, ct1_n, true_and, and_true, tl_s, tl_n, le4_0, le4_1, le4_2, le4_3, le4_4, le4_5, isO_r, if_neg (show ¬ 0 < oN 0 by decide)]
    exact hQ
  | succ n ih =>
    intro hn hQ
    have h0 : 0 < oN (n + 1) := by show oN 0 < oN (n + 1); rw [oN_lt (by decide) (by omega)]; omega
    have hs : sm (oN (n + 1)) 12 := sm_oN hn (by decide)
    have he : oN (n + 1) + -1 = oN n := by rw [← oN_succ, Int32.add_assoc]; exact Int32.add_zero _
    rw [rH_longestHire_3]
    simp only [lgF] at hQ
    simp only [rH_longestHire_0, rH_longestHire_2, rH_longestHire_4, rH_longestHire_7, rH_longestHire_8, rH_longestHire_9, rH_longestHire_10, rH_longestHire_11, rH_longestHire_12, rH_longestHire_15, rH_longestHire_18, rH_longestHire_19, rH_longestHire_20, rH_longestHire_23, rH_longestHire_26, rH_longestHire_27, ct1_i, ct1_r, ct1_n, true_and, and_true, tl_s, tl_n, le4_0, le4_1, le4_2, le4_3, le4_4, le4_5, isO_r, cl_, emb1, emb2, le_rN, h4, ob_h hi, if_pos h0, q_H_refusal hi, hs, hp, he]
    by_cases h1 : refu (σ i) k h (oN (n + 1)) 0 = 0
    · rw [if_pos h1]
      rw [if_pos h1] at hQ
      exact hQ
    · rw [if_neg h1]
      rw [if_neg h1] at hQ
      exact ih (by omega) hQ
def sp_H_longestHire : Nat → Sp := spL [(38, f_H_refusal)]
theorem sp_H_longestHire_H_refusal : sp_H_longestHire 38 = f_H_refusal := rfl
def f_H_longestHire : Sp := aS 7 hutA 2 (gL2 (fun i k m σ => (sm (σ i 8 2) 10, some (.int (lgF (σ i) k m 12)), σ)))
theorem q_H_longestHire {i : Nat} {k m : Int32} {σ : SG} (hi : i < 7) : f_H_longestHire [.ref (hutA i), .int k, .int m] (emb σ) = (sm (σ i 8 2) 10, some (.int (lgF (σ i) k m 12)), emb (σ)) := aS2_at (ad := hutA) hi (hI_h hi)
set_option maxHeartbeats 4000000 in
set_option maxRecDepth 20000 in
theorem ok_H_longestHire : SpecOK 42 f_H_longestHire := SpecOK.of (sp := sp_H_longestHire) (by decide) (by decide) (spL_ok (List.forall_mem_cons.mpr ⟨ok_H_refusal, (fun q h => absurd h List.not_mem_nil)⟩)) (Does_aS2 (Nat.le_of_ble_eq_true rfl) (fun sc i k m σ hi had hp => by
  show Vf 42 _ _ 0 [.ref (hutA i), .int k, .int m, .null] [] (emb σ) _

  simp only [rH_longestHire_0, rH_longestHire_2, ct1_i, ct1_r, ct1_n, true_and, and_true, tl_s, tl_n, le4_0, le4_1, le4_2, le4_3, le4_4, le4_5, isO_r]
  exact lp_H_longestHire sp_H_longestHire_H_refusal hi hp 12 (Nat.le_refl _) ⟨rfl, rfl⟩))
/-- in how many hours a line snaps -/
def hsF (w : HV) (k : Int32) : Nat → Nat → Int32 → Int32
  | _, 0, _ => -5
  | n, r + 1, z => if ¬ tooWP w k (oN n) ∧ ¬ tooCP w k (oN n) then (if z + windAt w (oN n) * kt w k 3 < settg w 1 then hsF w k (n + 1) r (z + windAt w (oN n) * kt w k 3) else oN n - w 8 0 + 1) else hsF w k (n + 1) r z
set_option maxHeartbeats 4000000 in
set_option maxRecDepth 20000 in
theorem lp_H_hoursToSnap {sp : Nat → Sp} (h4 : sp 4 = f_T_at) (h9 : sp 9 = f_H_windAt) (h14 : sp 14 = f_H_setting) (h37 : sp 37 = f_H_flies) {sc : Nat × (Nat → Int32)} {i : Nat} {σ : SG} {h k : Int32} {Q : Option Value → MS → Prop} (hi : i < 7) : ∀ (m n : Nat) (z : Int32), n + m = 1000 → Q (some (.int (hsF (σ i) k n m z))) (emb σ) → Vf 40 sp ((127, SLT), sc) 34 [.ref (hutA i), .int h, .int k, .int z, .int (oN n)] [] (emb σ) Q := by
  intro m
  induction m with
  | zero =>
    intro n z hn hQ
    have : ¬ oN n < 1000 := by show ¬ oN n < oN 1000; rw [oN_lt (by omega) (by decide)]; omega
    rw [rH_hoursToSnap_34]
    simp only [rH_hoursToSnap_0, rH_hoursToSnap_1, rH_hoursToSnap_4, rH_hoursToSnap_5, rH_hoursToSnap_6, rH_hoursToSnap_9, rH_hoursToSnap_10, rH_hoursToSnap_11, rH_hoursToSnap_14, rH_hoursToSnap_15, rH_hoursToSnap_18, rH_hoursToSnap_19, rH_hoursToSnap_20, rH_hoursToSnap_23, rH_hoursToSnap_24, rH_hoursToSnap_27, rH_hoursToSnap_28, rH_hoursToSnap_29, rH_hoursToSnap_32, rH_hoursToSnap_36, rH_hoursToSnap_39, rH_hoursToSnap_42, rH_hoursToSnap_43, rH_hoursToSnap_44, rH_hoursToSnap_46, rH_hoursToSnap_49, rH_hoursToSnap_52, rH_hoursToSnap_53, rH_hoursToSnap_54, rH_hoursToSnap_56, rH_hoursToSnap_59, rH_hoursToSnap_60, rH_hoursToSnap_63, rH_hoursToSnap_64, rH_hoursToSnap_65, rH_hoursToSnap_68, rH_hoursToSnap_69, rH_hoursToSnap_70, rH_hoursToSnap_71, rH_hoursToSnap_72, rH_hoursToSnap_73, rH_hoursToSnap_74, rH_hoursToSnap_77, rH_hoursToSnap_80, rH_hoursToSnap_82, rH_hoursToSnap_83, rH_hoursToSnap_86, rH_hoursToSnap_87, rH_hoursToSnap_88, rH_hoursToSnap_89, rH_hoursToSnap_90, rH_hoursToSnap_93, rH_hoursToSnap_96, rH_hoursToSnap_98, ct1_i, ct1_r, ct1_n, true_and, and_true, tl_s, tl_n, le4_0, le4_1, le4_2, le4_3, le4_4, le4_5, isO_r, if_neg this]
    exact hQ
  | succ m ih =>
    intro n z hn hQ
    have : oN n < 1000 := by show oN n < oN 1000; rw [oN_lt (by omega) (by decide)]; omega
    rw [rH_hoursToSnap_34]
    simp only [hsF] at hQ
    simp only [rH_hoursToSnap_0, rH_hoursToSnap_1, rH_hoursToSnap_4, rH_hoursToSnap_5, rH_hoursToSnap_6, rH_hoursToSnap_9, rH_hoursToSnap_10, rH_hoursToSnap_11, rH_hoursToSnap_14, rH_hoursToSnap_15, rH_hoursToSnap_18, rH_hoursToSnap_19, rH_hoursToSnap_20, rH_hoursToSnap_23, rH_hoursToSnap_24, rH_hoursToSnap_27, rH_hoursToSnap_28, rH_hoursToSnap_29, rH_hoursToSnap_32, rH_hoursToSnap_36, rH_hoursToSnap_39, rH_hoursToSnap_42, rH_hoursToSnap_43, rH_hoursToSnap_44, rH_hoursToSnap_46, rH_hoursToSnap_49, rH_hoursToSnap_52, rH_hoursToSnap_53, rH_hoursToSnap_54, rH_hoursToSnap_56, rH_hoursToSnap_59, rH_hoursToSnap_60, rH_hoursToSnap_63, rH_hoursToSnap_64, rH_hoursToSnap_65, rH_hoursToSnap_68, rH_hoursToSnap_69, rH_hoursToSnap_70, rH_hoursToSnap_71, rH_hoursToSnap_72, rH_hoursToSnap_73, rH_hoursToSnap_74, rH_hoursToSnap_77, rH_hoursToSnap_80, rH_hoursToSnap_82, rH_hoursToSnap_83, rH_hoursToSnap_86, rH_hoursToSnap_87, rH_hoursToSnap_88, rH_hoursToSnap_89, rH_hoursToSnap_90, rH_hoursToSnap_93, rH_hoursToSnap_96, rH_hoursToSnap_98, ct1_i, ct1_r, ct1_n, true_and, and_true, tl_s, tl_n, le4_0, le4_1, le4_2, le4_3, le4_4, le4_5, isO_r, cl_, emb1, emb2, le_rN, h4, h9, h14, h37, ob_h hi, vs_0 hi, if_pos this, vh_2 hi, obt_2 hi, qT_at_2 hi, q_H_setting hi, q_H_windAt hi, q_H_flies hi, oN_succ, bi_eq0]
    show if ¬ (¬ tooWP (σ i) k (oN n) ∧ ¬ tooCP (σ i) k (oN n)) then _ else if z + windAt (σ i) (oN n) * kt (σ i) k 3 < settg (σ i) 1 then _ else _
    by_cases h1 : ¬ tooWP (σ i) k (oN n) ∧ ¬ tooCP (σ i) k (oN n)
    · rw [if_neg (fun q => q h1)]
      rw [if_pos h1] at hQ
      by_cases h2 : z + windAt (σ i) (oN n) * kt (σ i) k 3 < settg (σ i) 1
      · rw [if_pos h2]
        rw [if_pos h2] at hQ
        exact ih (n + 1) _ (by omega) hQ
      · rw [if_neg h2]
        rw [if_neg h2] at hQ
        exact hQ
    · rw [if_pos h1]
      rw [if_neg h1] at hQ
      exact ih (n + 1) _ (by omega) hQ
def sp_H_hoursToSnap : Nat → Sp := spL [(4, f_T_at), (9, f_H_windAt), (14, f_H_setting), (37, f_H_flies)]
theorem sp_H_hoursToSnap_T_at : sp_H_hoursToSnap 4 = f_T_at := rfl
theorem sp_H_hoursToSnap_H_windAt : sp_H_hoursToSnap 9 = f_H_windAt := rfl
theorem sp_H_hoursToSnap_H_setting : sp_H_hoursToSnap 14 = f_H_setting := rfl
theorem sp_H_hoursToSnap_H_flies : sp_H_hoursToSnap 37 = f_H_flies := rfl
def f_H_hoursToSnap : Sp := aS 7 hutA 1 (gL1 (fun i h σ => (sm (σ i 8 0) 1000, some (.int (hsF (σ i) (hr (σ i) h 0) (σ i 8 0).toNatClampNeg (1000 - (σ i 8 0).toNatClampNeg) (sl (σ i) (hr (σ i) h 1) 1))), σ)))
theorem q_H_hoursToSnap {i : Nat} {h : Int32} {σ : SG} (hi : i < 7) : f_H_hoursToSnap [.ref (hutA i), .int h] (emb σ) = (sm (σ i 8 0) 1000, some (.int (hsF (σ i) (hr (σ i) h 0) (σ i 8 0).toNatClampNeg (1000 - (σ i 8 0).toNatClampNeg) (sl (σ i) (hr (σ i) h 1) 1))), emb (σ)) := aS1_at (ad := hutA) hi (hI_h hi)
set_option maxHeartbeats 4000000 in
set_option maxRecDepth 20000 in
theorem ok_H_hoursToSnap : SpecOK 40 f_H_hoursToSnap := SpecOK.of (sp := sp_H_hoursToSnap) (by decide) (by decide) (spL_ok (List.forall_mem_cons.mpr ⟨ok_T_at, (List.forall_mem_cons.mpr ⟨ok_H_windAt, (List.forall_mem_cons.mpr ⟨ok_H_setting, (List.forall_mem_cons.mpr ⟨ok_H_flies, (fun q h => absurd h List.not_mem_nil)⟩)⟩)⟩)⟩)) (Does_aS1 (Nat.le_of_ble_eq_true rfl) (fun sc i h σ hi had hp => by
  show Vf 40 _ _ 0 [.ref (hutA i), .int h, .null, .null, .null] [] (emb σ) _

  simp only [rH_hoursToSnap_0, rH_hoursToSnap_1, rH_hoursToSnap_4, rH_hoursToSnap_5, rH_hoursToSnap_6, rH_hoursToSnap_9, rH_hoursToSnap_10, rH_hoursToSnap_11, rH_hoursToSnap_14, rH_hoursToSnap_15, rH_hoursToSnap_18, rH_hoursToSnap_19, rH_hoursToSnap_20, rH_hoursToSnap_23, rH_hoursToSnap_24, rH_hoursToSnap_27, rH_hoursToSnap_28, rH_hoursToSnap_29, rH_hoursToSnap_32, ct1_i, ct1_r, ct1_n, true_and, and_true, tl_s, tl_n, le4_0, le4_1, le4_2, le4_3, le4_4, le4_5, isO_r, cl_, emb1, emb2, le_rN, up1_at, up1_up1, sp_H_hoursToSnap_T_at, sp_H_hoursToSnap_H_windAt, sp_H_hoursToSnap_H_setting, sp_H_hoursToSnap_H_flies, ob_h hi, vs_0 hi, vh_3 hi, vh_5 hi, obt_3 hi, obt_5 hi, qT_at_3 hi, qT_at_5 hi]
  have h9 := lp_H_hoursToSnap sp_H_hoursToSnap_T_at sp_H_hoursToSnap_H_windAt sp_H_hoursToSnap_H_setting sp_H_hoursToSnap_H_flies (sc := sc) (σ := σ) (h := h) (k := hr (σ i) h 0) (Q := fun r S' => r = some (.int (hsF (σ i) (hr (σ i) h 0) (σ i 8 0).toNatClampNeg (1000 - (σ i 8 0).toNatClampNeg) (sl (σ i) (hr (σ i) h 1) 1))) ∧ S' = emb σ) hi (1000 - (σ i 8 0).toNatClampNeg) (σ i 8 0).toNatClampNeg (sl (σ i) (hr (σ i) h 1) 1) (by have := hp.2; omega) ⟨rfl, rfl⟩
  rw [← sm_eq hp] at h9
  exact h9))
