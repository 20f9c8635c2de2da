/-! THE HUT: its loops -/
set_option maxHeartbeats 4000000 in
set_option maxRecDepth 20000 in
theorem lp_H_foresee {sp : Nat → Sp} (h3 : sp 3 = f_T_put) {sc : Nat × (Nat → Int32)} {i : Nat} {σ : SG} {fr to x : Int32} {Q : Option Value → MS → Prop} (hi : i < 7) (a : Nat) (hto : to < 1000)
    (hQ : Q none (emb (up1 σ i (lyw (σ i) x a (to + 1).toNatClampNeg)))) : ∀ (m n : Nat), n + m = 1000 → a ≤ n → (a < n → n ≤ (to + 1).toNatClampNeg) → Vf 10 sp ((127, SLT), sc) 3 [.ref (hutA i), .int fr, .int to, .int x, .int (oN n)] [] (emb (up1 σ i (lyw (σ i) x a n))) Q := by
  have hT : to.toInt < 1000 := by have := Int32.lt_iff_toInt_lt.mp hto; simpa using this
  have h1 : (to + 1).toNatClampNeg = (to.toInt + 1).toNat := by
    show (to + 1).toInt.toNat = _
    have hlo := to.le_toInt
    rw [Int32.toInt_add, Int.bmod_eq_of_le (by simp; omega) (by simp; omega)]
    rfl
  have hend : ∀ n : Nat, n ≤ 1000 → a ≤ n → (a < n → n ≤ (to + 1).toNatClampNeg) → to < oN n → lyw (σ i) x a n = lyw (σ i) x a (to + 1).toNatClampNeg := by
    intro n hn ha hb hlt
    have h2 := Int32.lt_iff_toInt_lt.mp hlt
    rw [oN_toInt (by omega)] at h2
    rcases Nat.lt_or_ge a n with q | q
    · have := hb q
      rw [show (to + 1).toNatClampNeg = n by omega]
    · rw [lyw_0 _ _ _ _ q, lyw_0 _ _ _ _ (by omega)]
  intro m
  induction m with
  | zero =>
    intro n hn ha hb
    have hlt : to < oN n := by rw [Int32.lt_iff_toInt_lt, oN_toInt (by omega)]; omega
    rw [rH_foresee_3]
    simp only [rH_foresee_0, rH_foresee_1, rH_foresee_5, rH_foresee_6, rH_foresee_9, rH_foresee_11, rH_foresee_14, rH_foresee_17, rH_foresee_18, rH_foresee_21, rH_foresee_23, rH_foresee_24, rH_foresee_25, rH_foresee_28, rH_foresee_31, rH_foresee_34, ct1_i, ct1_r, ct1_n, true_and, and_true, tl_s, tl_n, le4_0, le4_1, le4_2, le4_3, le4_4, le4_5, isO_r, if_pos hlt]
    rw [hend n (by omega) ha hb hlt]
    exact hQ
  | succ m ih =>
    intro n hn ha hb
    by_cases hlt : to < oN n
    · rw [rH_foresee_3]
      simp only [rH_foresee_0, rH_foresee_1, rH_foresee_5, rH_foresee_6, rH_foresee_9, rH_foresee_11, rH_foresee_14, rH_foresee_17, rH_foresee_18, rH_foresee_21, rH_foresee_23, rH_foresee_24, rH_foresee_25, rH_foresee_28, rH_foresee_31, rH_foresee_34, ct1_i, ct1_r, ct1_n, true_and, and_true, tl_s, tl_n, le4_0, le4_1, le4_2, le4_3, le4_4, le4_5, isO_r, if_pos hlt]
      rw [hend n (by omega) ha hb hlt]
      exact hQ
    · have hlt2 : oN n < 1000 := by show oN n < oN 1000; rw [oN_lt (by omega) (by decide)]; omega
      have hge : (n : Int) ≤ to.toInt := by
        have h2 := Int32.not_lt.mp hlt
        have h3 := Int32.le_iff_toInt_le.mp h2
        rw [oN_toInt (by omega)] at h3
        exact h3
      rw [rH_foresee_3]
      simp only [rH_foresee_0, rH_foresee_1, rH_foresee_5, rH_foresee_6, rH_foresee_9, rH_foresee_11, rH_foresee_14, rH_foresee_17, rH_foresee_18, rH_foresee_21, rH_foresee_23, rH_foresee_24, rH_foresee_25, rH_foresee_28, rH_foresee_31, rH_foresee_34, ct1_i, ct1_r, ct1_n, true_and, and_true, tl_s, tl_n, le4_0, le4_1, le4_2, le4_3, le4_4, le4_5, isO_r, cl_, emb1, emb2, le_rN, h3, if_neg hlt, if_pos hlt2, vh_0 hi, obt_0 hi, ob_h hi, qT_put_0 hi, up1_at, up1_up1, putw_n (show n < 1000 by omega), lyw_s _ _ _ _ ha, oN_succ]
      exact ih (n + 1) (by omega) (by omega) (fun _ => by omega)

def sp_H_foresee : Nat → Sp := spL [(3, f_T_put)]
theorem sp_H_foresee_T_put : sp_H_foresee 3 = f_T_put := rfl
def f_H_foresee : Sp := aS 7 hutA 3 (gL3 (fun i fr to x σ => (sm fr 1000 ∧ to < 1000, none, up1 σ i (lyw (σ i) x fr.toNatClampNeg (to + 1).toNatClampNeg))))
theorem q_H_foresee {i : Nat} {fr to x : Int32} {σ : SG} (hi : i < 7) : f_H_foresee [.ref (hutA i), .int fr, .int to, .int x] (emb σ) = (sm fr 1000 ∧ to < 1000, none, emb (up1 σ i (lyw (σ i) x fr.toNatClampNeg (to + 1).toNatClampNeg))) := aS3_at (ad := hutA) hi (hI_h hi)
set_option maxHeartbeats 4000000 in
set_option maxRecDepth 20000 in
theorem ok_H_foresee : SpecOK 10 f_H_foresee := SpecOK.of (sp := sp_H_foresee) (by decide) (by decide) (spL_ok (List.forall_mem_cons.mpr ⟨ok_T_put, (fun q h => absurd h List.not_mem_nil)⟩)) (Does_aS3 (Nat.le_of_ble_eq_true rfl) (fun sc i fr to x σ hi had hp => by
  show Vf 10 _ _ 0 [.ref (hutA i), .int fr, .int to, .int x, .null] [] (emb σ) _

  obtain ⟨h1, h2⟩ := hp
  simp only [rH_foresee_0, rH_foresee_1, ct1_i, ct1_r, ct1_n, true_and, and_true, tl_s, tl_n, le4_0, le4_1, le4_2, le4_3, le4_4, le4_5, isO_r]
  have h3 := lp_H_foresee sp_H_foresee_T_put (sc := sc) (σ := σ) (fr := fr) (x := x) (Q := fun r S' => r = none ∧ S' = emb (up1 σ i (lyw (σ i) x fr.toNatClampNeg (to + 1).toNatClampNeg))) hi fr.toNatClampNeg h2 ⟨rfl, rfl⟩ (1000 - fr.toNatClampNeg) fr.toNatClampNeg (by have := h1.2; omega) (Nat.le_refl _) (fun q => absurd q (Nat.lt_irrefl _))
  rw [lyw_0 _ _ _ _ (Nat.le_refl _), up1_self, ← sm_eq h1] at h3
  exact h3))
set_option maxHeartbeats 4000000 in
set_option maxRecDepth 20000 in
theorem lp_H_moveTails {sp : Nat → Sp} (h5 : sp 5 = f_T_add) {sc : Nat × (Nat → Int32)} {i : Nat} {σ : SG} {s a b : Int32} {Q : Option Value → MS → Prop} (hi : i < 7)
    (hQ : Q none (emb (up1 σ i (mvT (σ i) s a b 6)))) : ∀ (m n : Nat) (v : Value), n + m = 6 → Vf 17 sp ((127, SLT), sc) 3 [.ref (hutA i), .int s, .int a, .int b, .int (oN n), v] [] (emb (up1 σ i (mvT (σ i) s a b n))) Q := by
  intro m
  induction m with
  | zero =>
    intro n v hn
    have : n = 6 := by omega
    subst this
    rw [rH_moveTails_3]
    simp only [rH_moveTails_0, rH_moveTails_1, rH_moveTails_5, rH_moveTails_7, rH_moveTails_10, rH_moveTails_11, rH_moveTails_13, rH_moveTails_14, rH_moveTails_15, rH_moveTails_16, rH_moveTails_18, rH_moveTails_19, rH_moveTails_22, rH_moveTails_24, rH_moveTails_25, rH_moveTails_27, rH_moveTails_28, rH_moveTails_31, rH_moveTails_32, rH_moveTails_35, rH_moveTails_37, rH_moveTails_38, rH_moveTails_40, rH_moveTails_43, rH_moveTails_46, rH_moveTails_49, ct1_i, ct1_r, ct1_n, true_and, and_true, tl_s, tl_n, le4_0, le4_1, le4_2, le4_3, le4_4, le4_5, isO_r, if_neg (show ¬ oN 6 < 6 by decide)]
    exact hQ
  | succ m ih =>
    intro n v hn
    have hlt : oN n < 6 := by show oN n < oN 6; rw [oN_lt (by omega) (by decide)]; omega
    rw [rH_moveTails_3]
    simp only [rH_moveTails_0, rH_moveTails_1, rH_moveTails_5, rH_moveTails_7, rH_moveTails_10, rH_moveTails_11, rH_moveTails_13, rH_moveTails_14, rH_moveTails_15, rH_moveTails_16, rH_moveTails_18, rH_moveTails_19, rH_moveTails_22, rH_moveTails_24, rH_moveTails_25, rH_moveTails_27, rH_moveTails_28, rH_moveTails_31, rH_moveTails_32, rH_moveTails_35, rH_moveTails_37, rH_moveTails_38, rH_moveTails_40, rH_moveTails_43, rH_moveTails_46, rH_moveTails_49, ct1_i, ct1_r, ct1_n, true_and, and_true, tl_s, tl_n, le4_0, le4_1, le4_2, le4_3, le4_4, le4_5, isO_r, cl_, emb1, emb2, le_rN, h5, if_pos hlt, vh_4 hi, obt_4 hi, ob_h hi, qT_add_4 hi, up1_at, up1_up1, oN_succ]
    exact ih (n + 1) _ (by omega)
def sp_H_moveTails : Nat → Sp := spL [(5, f_T_add)]
theorem sp_H_moveTails_T_add : sp_H_moveTails 5 = f_T_add := rfl
def f_H_moveTails : Sp := aS 7 hutA 3 (gL3 (fun i s a b σ => (True, none, up1 σ i (mvT (σ i) s a b 6))))
theorem q_H_moveTails {i : Nat} {s a b : Int32} {σ : SG} (hi : i < 7) : f_H_moveTails [.ref (hutA i), .int s, .int a, .int b] (emb σ) = (True, none, emb (up1 σ i (mvT (σ i) s a b 6))) := aS3_at (ad := hutA) hi (hI_h hi)
set_option maxHeartbeats 4000000 in
set_option maxRecDepth 20000 in
theorem ok_H_moveTails : SpecOK 17 f_H_moveTails := SpecOK.of (sp := sp_H_moveTails) (by decide) (by decide) (spL_ok (List.forall_mem_cons.mpr ⟨ok_T_add, (fun q h => absurd h List.not_mem_nil)⟩)) (Does_aS3 (Nat.le_of_ble_eq_true rfl) (fun sc i s a b σ hi had hp => by
  show Vf 17 _ _ 0 [.ref (hutA i), .int s, .int a, .int b, .null, .null] [] (emb σ) _

  simp only [rH_moveTails_0, rH_moveTails_1, ct1_i, ct1_r, ct1_n, true_and, and_true, tl_s, tl_n, le4_0, le4_1, le4_2, le4_3, le4_4, le4_5, isO_r]
  have h3 := lp_H_moveTails sp_H_moveTails_T_add (sc := sc) (σ := σ) (s := s) (a := a) (b := b) (Q := fun r S' => r = none ∧ S' = emb (up1 σ i (mvT (σ i) s a b 6))) hi ⟨rfl, rfl⟩ 6 0 .null rfl
  rw [show mvT (σ i) s a b 0 = σ i from rfl, up1_self] at h3
  exact h3))
set_option maxHeartbeats 4000000 in
set_option maxRecDepth 20000 in
theorem lp_H_otherWinds {sp : Nat → Sp} (h9 : sp 9 = f_H_windAt) {sc : Nat × (Nat → Int32)} {i : Nat} {σ : SG} {fr to x : Int32} {Q : Option Value → MS → Prop} (hi : i < 7) (b : Nat) (hb : b ≤ 1000) (hto : to + 1 = oN b) (hto1 : to < 1000) : ∀ (m n : Nat) (acc : Int32), n + m = b → Q (some (.int (acc + smF (fun j => if σ i 0 j = x then 0 else 1) n m))) (emb σ) → Vf 24 sp ((127, SLT), sc) 6 [.ref (hutA i), .int fr, .int to, .int x, .int acc, .int (oN n)] [] (emb σ) Q := by
  have hT : to.toInt = (b : Int) - 1 := by
    have h1 := congrArg Int32.toInt hto
    have hlo := to.le_toInt
    have hT1 : to.toInt < 1000 := by have := Int32.lt_iff_toInt_lt.mp hto1; simpa using this
    rw [oN_toInt (by omega), Int32.toInt_add, Int.bmod_eq_of_le (by simp; omega) (by simp; omega)] at h1
    simp at h1
    omega
  intro m
  induction m with
  | zero =>
    intro n acc hn hQ
    have hlt : to < oN n := by rw [Int32.lt_iff_toInt_lt, oN_toInt (by omega)]; omega
    rw [rH_otherWinds_6]
    simp only [rH_otherWinds_0, rH_otherWinds_1, rH_otherWinds_3, rH_otherWinds_4, rH_otherWinds_8, rH_otherWinds_9, rH_otherWinds_12, rH_otherWinds_14, rH_otherWinds_17, rH_otherWinds_20, rH_otherWinds_21, rH_otherWinds_23, rH_otherWinds_26, rH_otherWinds_27, rH_otherWinds_30, rH_otherWinds_33, rH_otherWinds_36, rH_otherWinds_39, rH_otherWinds_41, ct1_i, ct1_r, ct1_n, true_and, and_true, tl_s, tl_n, le4_0, le4_1, le4_2, le4_3, le4_4, le4_5, isO_r, if_pos hlt]
    rw [show acc + smF (fun j => if σ i 0 j = x then 0 else 1) n 0 = acc from Int32.add_zero acc] at hQ
    exact hQ
  | succ m ih =>
    intro n acc hn hQ
    have hlt : ¬ to < oN n := by rw [Int32.lt_iff_toInt_lt, oN_toInt (by omega)]; omega
    have hlt2 : oN n < 1000 := by show oN n < oN 1000; rw [oN_lt (by omega) (by decide)]; omega
    rw [rH_otherWinds_6]
    simp only [rH_otherWinds_0, rH_otherWinds_1, rH_otherWinds_3, rH_otherWinds_4, rH_otherWinds_8, rH_otherWinds_9, rH_otherWinds_12, rH_otherWinds_14, rH_otherWinds_17, rH_otherWinds_20, rH_otherWinds_21, rH_otherWinds_23, rH_otherWinds_26, rH_otherWinds_27, rH_otherWinds_30, rH_otherWinds_33, rH_otherWinds_36, rH_otherWinds_39, rH_otherWinds_41, ct1_i, ct1_r, ct1_n, true_and, and_true, tl_s, tl_n, le4_0, le4_1, le4_2, le4_3, le4_4, le4_5, isO_r, cl_, emb1, emb2, le_rN, h9, if_neg hlt, if_pos hlt2, ob_h hi, q_H_windAt hi, wind_n (show n < 1000 by omega), oN_succ]
    have e : ∀ z : Int32, z + smF (fun j => if σ i 0 j = x then 0 else 1) (n + 1) m = (z - (if σ i 0 n = x then 0 else 1)) + smF (fun j => if σ i 0 j = x then 0 else 1) n (m + 1) := by
      intro z
      show _ = _ + ((if σ i 0 n = x then 0 else 1) + smF (fun j => if σ i 0 j = x then 0 else 1) (n + 1) m)
      rw [← Int32.add_assoc, Int32.sub_add_cancel]
    by_cases hx : σ i 0 n = x
    · simp only [if_pos hx]
      refine ih (n + 1) _ (by omega) ?_
      rw [e, if_pos hx, Int32.sub_zero]
      exact hQ
    · simp only [if_neg hx]
      refine ih (n + 1) _ (by omega) ?_
      rw [e, if_neg hx, Int32.add_sub_cancel]
      exact hQ
def sp_H_otherWinds : Nat → Sp := spL [(9, f_H_windAt)]
theorem sp_H_otherWinds_H_windAt : sp_H_otherWinds 9 = f_H_windAt := rfl
def f_H_otherWinds : Sp := aS 7 hutA 3 (gL3 (fun i fr to x σ => (sm fr 1000 ∧ to < 1000 ∧ sm (to + 1) 1000 ∧ fr.toNatClampNeg ≤ (to + 1).toNatClampNeg, some (.int (smF (fun j => if σ i 0 j = x then 0 else 1) fr.toNatClampNeg ((to + 1).toNatClampNeg - fr.toNatClampNeg))), σ)))
theorem q_H_otherWinds {i : Nat} {fr to x : Int32} {σ : SG} (hi : i < 7) : f_H_otherWinds [.ref (hutA i), .int fr, .int to, .int x] (emb σ) = (sm fr 1000 ∧ to < 1000 ∧ sm (to + 1) 1000 ∧ fr.toNatClampNeg ≤ (to + 1).toNatClampNeg, some (.int (smF (fun j => if σ i 0 j = x then 0 else 1) fr.toNatClampNeg ((to + 1).toNatClampNeg - fr.toNatClampNeg))), emb (σ)) := aS3_at (ad := hutA) hi (hI_h hi)
set_option maxHeartbeats 4000000 in
set_option maxRecDepth 20000 in
theorem ok_H_otherWinds : SpecOK 24 f_H_otherWinds := SpecOK.of (sp := sp_H_otherWinds) (by decide) (by decide) (spL_ok (List.forall_mem_cons.mpr ⟨ok_H_windAt, (fun q h => absurd h List.not_mem_nil)⟩)) (Does_aS3 (Nat.le_of_ble_eq_true rfl) (fun sc i fr to x σ hi had hp => by
  show Vf 24 _ _ 0 [.ref (hutA i), .int fr, .int to, .int x, .null, .null] [] (emb σ) _

  obtain ⟨h1, h2, h3, h4⟩ := hp
  simp only [rH_otherWinds_0, rH_otherWinds_1, rH_otherWinds_3, rH_otherWinds_4, ct1_i, ct1_r, ct1_n, true_and, and_true, tl_s, tl_n, le4_0, le4_1, le4_2, le4_3, le4_4, le4_5, isO_r]
  have h9 := lp_H_otherWinds sp_H_otherWinds_H_windAt (sc := sc) (σ := σ) (fr := fr) (x := x) (Q := fun r S' => r = some (.int (smF (fun j => if σ i 0 j = x then 0 else 1) fr.toNatClampNeg ((to + 1).toNatClampNeg - fr.toNatClampNeg))) ∧ S' = emb σ) hi (to + 1).toNatClampNeg h3.2 (sm_eq h3) h2 ((to + 1).toNatClampNeg - fr.toNatClampNeg) fr.toNatClampNeg 0 (by omega) ⟨by rw [Int32.zero_add], rfl⟩
  rw [← sm_eq h1] at h9
  exact h9))
set_option maxHeartbeats 4000000 in
set_option maxRecDepth 20000 in
theorem lp_H_anyTailWanting {sp : Nat → Sp} (h4 : sp 4 = f_T_at) {sc : Nat × (Nat → Int32)} {i : Nat} {σ : SG} {s : Int32} {Q : Option Value → MS → Prop} (hi : i < 7) : ∀ (m n : Nat), n + m = 6 → Q (some (.int (bi (exF (fun c => decide (bit s c = 1 ∧ ¬ 0 < σ i 4 (c * 3))) n m = true)))) (emb σ) → Vf 16 sp ((127, SLT), sc) 2 [.ref (hutA i), .int s, .int (oN n)] [] (emb σ) Q := by
  intro m
  induction m with
  | zero =>
    intro n hn hQ
    have : n = 6 := by omega
    subst this
    rw [rH_anyTailWanting_2]
    simp only [rH_anyTailWanting_0, rH_anyTailWanting_1, rH_anyTailWanting_3, rH_anyTailWanting_5, rH_anyTailWanting_8, rH_anyTailWanting_9, rH_anyTailWanting_10, rH_anyTailWanting_11, rH_anyTailWanting_12, rH_anyTailWanting_13, rH_anyTailWanting_14, rH_anyTailWanting_17, rH_anyTailWanting_18, rH_anyTailWanting_21, rH_anyTailWanting_22, rH_anyTailWanting_23, rH_anyTailWanting_26, rH_anyTailWanting_29, rH_anyTailWanting_30, rH_anyTailWanting_31, rH_anyTailWanting_34, rH_anyTailWanting_37, rH_anyTailWanting_38, ct1_i, ct1_r, ct1_n, true_and, and_true, tl_s, tl_n, le4_0, le4_1, le4_2, le4_3, le4_4, le4_5, isO_r, if_neg (show ¬ oN 6 < 6 by decide), rb_0]
    exact hQ
  | succ m ih =>
    intro n hn hQ
    have hlt : oN n < 6 := by show oN n < oN 6; rw [oN_lt (by omega) (by decide)]; omega
    rw [rH_anyTailWanting_2]
    simp only [rH_anyTailWanting_0, rH_anyTailWanting_1, rH_anyTailWanting_3, rH_anyTailWanting_5, rH_anyTailWanting_8, rH_anyTailWanting_9, rH_anyTailWanting_10, rH_anyTailWanting_11, rH_anyTailWanting_12, rH_anyTailWanting_13, rH_anyTailWanting_14, rH_anyTailWanting_17, rH_anyTailWanting_18, rH_anyTailWanting_21, rH_anyTailWanting_22, rH_anyTailWanting_23, rH_anyTailWanting_26, rH_anyTailWanting_29, rH_anyTailWanting_30, rH_anyTailWanting_31, rH_anyTailWanting_34, rH_anyTailWanting_37, rH_anyTailWanting_38, ct1_i, ct1_r, ct1_n, true_and, and_true, tl_s, tl_n, le4_0, le4_1, le4_2, le4_3, le4_4, le4_5, isO_r, cl_, emb1, emb2, le_rN, h4, if_pos hlt, vh_4 hi, obt_4 hi, ob_h hi, qT_at_4 hi, rb_1, oN_succ]
    have hz : at_ (σ i 4) 3 18 (oN n) 0 = σ i 4 (n * 3) := tl_n0 (by omega)
    rw [hz]
    have hbit : oN n = oN n := rfl
    show if bit s n = 1 then if 0 < σ i 4 (n * 3) then _ else _ else _
    by_cases h1 : bit s n = 1
    · rw [if_pos h1]
      by_cases h2 : 0 < σ i 4 (n * 3)
      · rw [if_pos h2]
        refine ih (n + 1) (by omega) ?_
        have e : exF (fun c => decide (bit s c = 1 ∧ ¬ 0 < σ i 4 (c * 3))) n (m + 1) = exF (fun c => decide (bit s c = 1 ∧ ¬ 0 < σ i 4 (c * 3))) (n + 1) m := by simp only [exF, h1, h2, not_true_eq_false, and_false, decide_false, Bool.false_or]
        rw [e] at hQ
        exact hQ
      · rw [if_neg h2]
        have e : exF (fun c => decide (bit s c = 1 ∧ ¬ 0 < σ i 4 (c * 3))) n (m + 1) = true := by simp only [exF, h1, h2, not_false_eq_true, and_self, decide_true, Bool.true_or]
        rw [e] at hQ
        exact hQ
    · rw [if_neg h1]
      refine ih (n + 1) (by omega) ?_
      have e : exF (fun c => decide (bit s c = 1 ∧ ¬ 0 < σ i 4 (c * 3))) n (m + 1) = exF (fun c => decide (bit s c = 1 ∧ ¬ 0 < σ i 4 (c * 3))) (n + 1) m := by simp only [exF, h1, false_and, decide_false, Bool.false_or]
      rw [e] at hQ
      exact hQ
def sp_H_anyTailWanting : Nat → Sp := spL [(4, f_T_at)]
theorem sp_H_anyTailWanting_T_at : sp_H_anyTailWanting 4 = f_T_at := rfl
def f_H_anyTailWanting : Sp := aS 7 hutA 1 (gL1 (fun i s σ => (True, some (.int (bi (exF (fun c => decide (bit s c = 1 ∧ ¬ 0 < σ i 4 (c * 3))) 0 6 = true))), σ)))
theorem q_H_anyTailWanting {i : Nat} {s : Int32} {σ : SG} (hi : i < 7) : f_H_anyTailWanting [.ref (hutA i), .int s] (emb σ) = (True, some (.int (bi (exF (fun c => decide (bit s c = 1 ∧ ¬ 0 < σ i 4 (c * 3))) 0 6 = true))), emb (σ)) := aS1_at (ad := hutA) hi (hI_h hi)
set_option maxHeartbeats 4000000 in
set_option maxRecDepth 20000 in
theorem ok_H_anyTailWanting : SpecOK 16 f_H_anyTailWanting := SpecOK.of (sp := sp_H_anyTailWanting) (by decide) (by decide) (spL_ok (List.forall_mem_cons.mpr ⟨ok_T_at, (fun q h => absurd h List.not_mem_nil)⟩)) (Does_aS1 (Nat.le_of_ble_eq_true rfl) (fun sc i s σ hi had hp => by
  show Vf 16 _ _ 0 [.ref (hutA i), .int s, .null] [] (emb σ) _

  simp only [rH_anyTailWanting_0, rH_anyTailWanting_1, ct1_i, ct1_r, ct1_n, true_and, and_true, tl_s, tl_n, le4_0, le4_1, le4_2, le4_3, le4_4, le4_5, isO_r]
  exact lp_H_anyTailWanting sp_H_anyTailWanting_T_at hi 6 0 rfl ⟨rfl, rfl⟩))
