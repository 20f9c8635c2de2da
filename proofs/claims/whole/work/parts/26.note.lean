/-! THE NOTE and THE PAST -/
def b2 (b : Bool) : Int32 := if b = true then 1 else 0
theorem rb_b2 (b : Bool) : rb (b2 b) = True := eq_true (by unfold b2; split <;> rfl)
theorem b2_0 (b : Bool) : (b2 b = 0) = (b = false) := propext (by cases b <;> simp [b2])
/-- the sign at the place -/
def sgn (w : HV) : Int32 := w 3 (w 2 2).toNatClampNeg
abbrev plP (w : HV) : Prop := ¬ w 2 2 < 0 ∧ w 2 2 < w 2 0 ∧ w 2 2 < 60
def adv (w : HV) : HV := up2 w 2 2 (w 2 2 + 1)
def tkB (w : HV) (c : Int32) : Bool × HV := if plP w ∧ sgn w = c then (true, adv w) else (false, w)
def dgF (w : HV) : Int32 := if plP w ∧ ¬ sgn w < 48 ∧ ¬ 57 < sgn w then sgn w - 48 else -1
theorem iin_p {x : Int32} {n : Nat} (h0 : ¬ x < 0) (h1 : x < oN n) (hn : n < 2 ^ 31) : iin x n = True := iin_of h0 h1 hn

def sp_N_append : Nat → Sp := spL []
def f_N_append : Sp := aS 9 (fun _ => 122) 1 (gL1 (fun _ x σ => (True, some (.int (bi (¬ σ 7 2 0 < 0 ∧ σ 7 2 0 < 60))), if ¬ σ 7 2 0 < 0 ∧ σ 7 2 0 < 60 then up1 σ 7 (up2 (up2 (σ 7) 3 (σ 7 2 0).toNatClampNeg (vp_nar .char x)) 2 0 (σ 7 2 0 + 1)) else σ)))
theorem q_N_append {x : Int32} {σ : SG} : f_N_append [.ref 122, .int x] (emb σ) = (True, some (.int (bi (¬ σ 7 2 0 < 0 ∧ σ 7 2 0 < 60))), emb (if ¬ σ 7 2 0 < 0 ∧ σ 7 2 0 < 60 then up1 σ 7 (up2 (up2 (σ 7) 3 (σ 7 2 0).toNatClampNeg (vp_nar .char x)) 2 0 (σ 7 2 0 + 1)) else σ)) := aS1_at (ad := (fun _ => 122)) (i := hI 122) (by decide) rfl
set_option maxHeartbeats 4000000 in
set_option maxRecDepth 20000 in
theorem ok_N_append : SpecOK 45 f_N_append := SpecOK.of (sp := sp_N_append) (by decide) (by decide) (spL_ok (fun q h => absurd h List.not_mem_nil)) (Does_aS1 (Nat.le_of_ble_eq_true rfl) (fun sc i x σ hi had hp => by
  refine Vf_q ?_ ⟨rfl, rfl⟩
  intro Q hQ
  dsimp only at hQ hp
  show Vf 45 _ _ 0 [.ref (122), .int x] [] (emb σ) _

  simp only [rN_append_0, rN_append_1, rN_append_4, rN_append_7, rN_append_8, rN_append_11, rN_append_12, rN_append_15, rN_append_16, rN_append_19, rN_append_20, rN_append_21, rN_append_22, rN_append_25, rN_append_26, rN_append_29, rN_append_30, rN_append_31, rN_append_32, rN_append_33, rN_append_36, rN_append_37, rN_append_38, rN_append_41, rN_append_42, ct1_i, ct1_r, ct1_n, true_and, and_true, tl_s, tl_n, le4_0, le4_1, le4_2, le4_3, le4_4, le4_5, isO_r, cl_, emb1, emb2, le_rN, up1_at, up1_up1, obN, nr_0, ni_0, sni_0, ng_al, ng_re, ng_ln, ng_ok, ng_s, rb_0, rb_1, fok_i, up2_ne, ne_eq, Fin.reduceEq, not_false_eq_true, or_true, true_or, aok_ari 6 ng_ar]
  by_cases h1 : σ 7 2 0 < 0
  · rw [bi_f (fun q => q.1 h1), if_neg (fun q => q.1 h1)] at hQ
    simp only [if_pos h1]
    exact hQ
  · simp only [if_neg h1]
    by_cases h2 : σ 7 2 0 < 60
    · rw [bi_t ⟨h1, h2⟩, if_pos ⟨h1, h2⟩] at hQ
      simp only [if_pos (show σ 7 2 0 < Int32.ofNat 60 from h2), iin_p (n := 60) h1 h2 (by decide), true_and]
      exact hQ
    · rw [bi_f (fun q => h2 q.2), if_neg (fun q => h2 q.2)] at hQ
      simp only [if_neg (show ¬ σ 7 2 0 < Int32.ofNat 60 from h2)]
      exact hQ))
def sp_N_takeSign : Nat → Sp := spL []
def f_N_takeSign : Sp := aS 9 (fun _ => 122) 1 (gL1 (fun _ x σ => (True, some (.int (b2 (tkB (σ 7) x).1)), up1 σ 7 (tkB (σ 7) x).2)))
theorem q_N_takeSign {x : Int32} {σ : SG} : f_N_takeSign [.ref 122, .int x] (emb σ) = (True, some (.int (b2 (tkB (σ 7) x).1)), emb (up1 σ 7 (tkB (σ 7) x).2)) := aS1_at (ad := (fun _ => 122)) (i := hI 122) (by decide) rfl
set_option maxHeartbeats 4000000 in
set_option maxRecDepth 20000 in
theorem ok_N_takeSign : SpecOK 43 f_N_takeSign := SpecOK.of (sp := sp_N_takeSign) (by decide) (by decide) (spL_ok (fun q h => absurd h List.not_mem_nil)) (Does_aS1 (Nat.le_of_ble_eq_true rfl) (fun sc i x σ hi had hp => by
  refine Vf_q ?_ ⟨rfl, rfl⟩
  intro Q hQ
  dsimp only at hQ hp
  show Vf 43 _ _ 0 [.ref (122), .int x] [] (emb σ) _

  simp only [rN_takeSign_0, rN_takeSign_1, rN_takeSign_4, rN_takeSign_7, rN_takeSign_8, rN_takeSign_11, rN_takeSign_12, rN_takeSign_15, rN_takeSign_18, rN_takeSign_19, rN_takeSign_22, rN_takeSign_23, rN_takeSign_26, rN_takeSign_27, rN_takeSign_30, rN_takeSign_31, rN_takeSign_34, rN_takeSign_35, rN_takeSign_38, rN_takeSign_39, rN_takeSign_40, rN_takeSign_43, rN_takeSign_44, rN_takeSign_45, rN_takeSign_46, rN_takeSign_47, rN_takeSign_50, rN_takeSign_51, rN_takeSign_52, rN_takeSign_55, rN_takeSign_56, ct1_i, ct1_r, ct1_n, true_and, and_true, tl_s, tl_n, le4_0, le4_1, le4_2, le4_3, le4_4, le4_5, isO_r, cl_, emb1, emb2, le_rN, up1_at, up1_up1, obN, nr_0, ni_0, ni_2, sni_2, ng_al, ng_ok, ng_rd, rb_0, rb_1, fok_i, or_true, true_or, aok_ari 6 ng_ar]
  unfold tkB at hQ
  by_cases h1 : σ 7 2 2 < 0
  · rw [if_neg (fun q => q.1.1 h1)] at hQ
    simp only [if_pos h1]
    dsimp only at hQ
    rw [up1_self] at hQ
    exact hQ
  · simp only [if_neg h1]
    by_cases h2 : σ 7 2 2 < σ 7 2 0
    · simp only [if_pos h2]
      by_cases h3 : σ 7 2 2 < 60
      · simp only [if_pos (show σ 7 2 2 < Int32.ofNat 60 from h3), iin_p (n := 60) h1 h3 (by decide), true_and]
        by_cases h4 : σ 7 3 (σ 7 2 2).toNatClampNeg = x
        · rw [if_pos ⟨⟨h1, h2, h3⟩, h4⟩] at hQ
          simp only [if_pos h4]
          exact hQ
        · rw [if_neg (fun q => h4 q.2)] at hQ
          simp only [if_neg h4]
          dsimp only at hQ
          rw [up1_self] at hQ
          exact hQ
      · rw [if_neg (fun q => h3 q.1.2.2)] at hQ
        simp only [if_neg (show ¬ σ 7 2 2 < Int32.ofNat 60 from h3)]
        dsimp only at hQ
        rw [up1_self] at hQ
        exact hQ
    · rw [if_neg (fun q => h2 q.1.2.1)] at hQ
      simp only [if_neg h2]
      dsimp only at hQ
      rw [up1_self] at hQ
      exact hQ))
def sp_N_digitHere : Nat → Sp := spL []
def f_N_digitHere : Sp := aS 9 (fun _ => 122) 0 (gL0 (fun _  σ => (True, some (.int (dgF (σ 7))), σ)))
theorem q_N_digitHere {σ : SG} : f_N_digitHere [.ref 122] (emb σ) = (True, some (.int (dgF (σ 7))), emb (σ)) := aS0_at (ad := (fun _ => 122)) (i := hI 122) (by decide) rfl
set_option maxHeartbeats 4000000 in
set_option maxRecDepth 20000 in
theorem ok_N_digitHere : SpecOK 44 f_N_digitHere := SpecOK.of (sp := sp_N_digitHere) (by decide) (by decide) (spL_ok (fun q h => absurd h List.not_mem_nil)) (Does_aS0 (Nat.le_of_ble_eq_true rfl) (fun sc i  σ hi had hp => by
  refine Vf_q ?_ ⟨rfl, rfl⟩
  intro Q hQ
  dsimp only at hQ hp
  show Vf 44 _ _ 0 [.ref (122), .null] [] (emb σ) _

  simp only [rN_digitHere_0, rN_digitHere_1, rN_digitHere_4, rN_digitHere_7, rN_digitHere_8, rN_digitHere_11, rN_digitHere_12, rN_digitHere_15, rN_digitHere_18, rN_digitHere_19, rN_digitHere_22, rN_digitHere_23, rN_digitHere_26, rN_digitHere_27, rN_digitHere_30, rN_digitHere_31, rN_digitHere_32, rN_digitHere_33, rN_digitHere_36, rN_digitHere_37, rN_digitHere_40, rN_digitHere_41, rN_digitHere_42, rN_digitHere_43, rN_digitHere_45, rN_digitHere_48, rN_digitHere_49, rN_digitHere_51, rN_digitHere_54, rN_digitHere_55, rN_digitHere_57, rN_digitHere_58, rN_digitHere_61, rN_digitHere_62, ct1_i, ct1_r, ct1_n, true_and, and_true, tl_s, tl_n, le4_0, le4_1, le4_2, le4_3, le4_4, le4_5, isO_r, cl_, emb1, emb2, le_rN, up1_at, up1_up1, obN, nr_0, ni_0, ni_2, ng_al, ng_ok, ng_rd, or_true, true_or, aok_ari 6 ng_ar]
  unfold dgF at hQ
  by_cases h1 : σ 7 2 2 < 0
  · rw [if_neg (fun q => q.1.1 h1)] at hQ
    simp only [if_pos h1]
    exact hQ
  · simp only [if_neg h1]
    by_cases h2 : σ 7 2 2 < σ 7 2 0
    · simp only [if_pos h2]
      by_cases h3 : σ 7 2 2 < 60
      · simp only [if_pos (show σ 7 2 2 < Int32.ofNat 60 from h3), iin_p (n := 60) h1 h3 (by decide), true_and]
        show if sgn (σ 7) < 48 then _ else if 57 < sgn (σ 7) then _ else _
        by_cases h4 : sgn (σ 7) < 48
        · rw [if_neg (fun q => q.2.1 h4)] at hQ
          rw [if_pos h4]
          exact hQ
        · rw [if_neg h4]
          by_cases h5 : 57 < sgn (σ 7)
          · rw [if_neg (fun q => q.2.2 h5)] at hQ
            rw [if_pos h5]
            exact hQ
          · rw [if_pos ⟨⟨h1, h2, h3⟩, h4, h5⟩] at hQ
            rw [if_neg h5]
            exact hQ
      · rw [if_neg (fun q => h3 q.1.2.2)] at hQ
        simp only [if_neg (show ¬ σ 7 2 2 < Int32.ofNat 60 from h3)]
        exact hQ
    · rw [if_neg (fun q => h2 q.1.2.1)] at hQ
      simp only [if_neg h2]
      exact hQ))
def sp_N_kindOf : Nat → Sp := spL [(4, f_T_at)]
theorem sp_N_kindOf_T_at : sp_N_kindOf 4 = f_T_at := rfl
def f_N_kindOf : Sp := aS 9 (fun _ => 122) 1 (gL1 (fun _ x σ => (True, some (.int (at_ (σ 7 4) 5 75 x 0)), σ)))
theorem q_N_kindOf {x : Int32} {σ : SG} : f_N_kindOf [.ref 122, .int x] (emb σ) = (True, some (.int (at_ (σ 7 4) 5 75 x 0)), emb (σ)) := aS1_at (ad := (fun _ => 122)) (i := hI 122) (by decide) rfl
set_option maxHeartbeats 4000000 in
set_option maxRecDepth 20000 in
theorem ok_N_kindOf : SpecOK 47 f_N_kindOf := SpecOK.of (sp := sp_N_kindOf) (by decide) (by decide) (spL_ok (List.forall_mem_cons.mpr ⟨ok_T_at, (fun q h => absurd h List.not_mem_nil)⟩)) (Does_aS1 (Nat.le_of_ble_eq_true rfl) (fun sc i x σ hi had hp => by
  show Vf 47 _ _ 0 [.ref (122), .int x] [] (emb σ) _
  simp only [rN_kindOf_0, rN_kindOf_1, rN_kindOf_4, rN_kindOf_5, rN_kindOf_6, rN_kindOf_9, ct1_i, ct1_r, ct1_n, true_and, and_true, tl_s, tl_n, le4_0, le4_1, le4_2, le4_3, le4_4, le4_5, isO_r, cl_, emb1, emb2, le_rN, up1_at, up1_up1, sp_N_kindOf_T_at, obN, obQ, nr_1, qT_at_p]))
def sp_N_numberOf : Nat → Sp := spL [(4, f_T_at)]
theorem sp_N_numberOf_T_at : sp_N_numberOf 4 = f_T_at := rfl
def f_N_numberOf : Sp := aS 9 (fun _ => 122) 2 (gL2 (fun _ x y σ => (True, some (.int (at_ (σ 7 4) 5 75 x y)), σ)))
theorem q_N_numberOf {x y : Int32} {σ : SG} : f_N_numberOf [.ref 122, .int x, .int y] (emb σ) = (True, some (.int (at_ (σ 7 4) 5 75 x y)), emb (σ)) := aS2_at (ad := (fun _ => 122)) (i := hI 122) (by decide) rfl
set_option maxHeartbeats 4000000 in
set_option maxRecDepth 20000 in
theorem ok_N_numberOf : SpecOK 48 f_N_numberOf := SpecOK.of (sp := sp_N_numberOf) (by decide) (by decide) (spL_ok (List.forall_mem_cons.mpr ⟨ok_T_at, (fun q h => absurd h List.not_mem_nil)⟩)) (Does_aS2 (Nat.le_of_ble_eq_true rfl) (fun sc i x y σ hi had hp => by
  show Vf 48 _ _ 0 [.ref (122), .int x, .int y] [] (emb σ) _
  simp only [rN_numberOf_0, rN_numberOf_1, rN_numberOf_4, rN_numberOf_5, rN_numberOf_6, rN_numberOf_9, ct1_i, ct1_r, ct1_n, true_and, and_true, tl_s, tl_n, le4_0, le4_1, le4_2, le4_3, le4_4, le4_5, isO_r, cl_, emb1, emb2, le_rN, up1_at, up1_up1, sp_N_numberOf_T_at, obN, obQ, nr_1, qT_at_p]))
abbrev rn2P (w : HV) (m : Int32) : Prop := 0 < dgF w ∧ ¬ dgF (adv w) < 0 ∧ ¬ m < dgF w * 10 + dgF (adv w)
def rnW (w : HV) (wh m : Int32) : HV := if rn2P w m then pt (adv (adv w)) 4 5 75 (w 2 1) wh (dgF w * 10 + dgF (adv w)) else pt (adv w) 4 5 75 (w 2 1) wh (dgF w)
def rnB (w : HV) (wh l m : Int32) : Bool × HV := if dgF w < l then (false, w) else (true, rnW w wh m)
def sp_N_readNumber : Nat → Sp := spL [(44, f_N_digitHere), (3, f_T_put)]
theorem sp_N_readNumber_N_digitHere : sp_N_readNumber 44 = f_N_digitHere := rfl
theorem sp_N_readNumber_T_put : sp_N_readNumber 3 = f_T_put := rfl
def f_N_readNumber : Sp := aS 9 (fun _ => 122) 3 (gL3 (fun _ wh l m σ => (True, some (.int (b2 (rnB (σ 7) wh l m).1)), up1 σ 7 (rnB (σ 7) wh l m).2)))
theorem q_N_readNumber {wh l m : Int32} {σ : SG} : f_N_readNumber [.ref 122, .int wh, .int l, .int m] (emb σ) = (True, some (.int (b2 (rnB (σ 7) wh l m).1)), emb (up1 σ 7 (rnB (σ 7) wh l m).2)) := aS3_at (ad := (fun _ => 122)) (i := hI 122) (by decide) rfl
set_option maxHeartbeats 4000000 in
set_option maxRecDepth 20000 in
theorem ok_N_readNumber : SpecOK 46 f_N_readNumber := SpecOK.of (sp := sp_N_readNumber) (by decide) (by decide) (spL_ok (List.forall_mem_cons.mpr ⟨ok_N_digitHere, (List.forall_mem_cons.mpr ⟨ok_T_put, (fun q h => absurd h List.not_mem_nil)⟩)⟩)) (Does_aS3 (Nat.le_of_ble_eq_true rfl) (fun sc i wh l m σ hi had hp => by
  refine Vf_q ?_ ⟨rfl, rfl⟩
  intro Q hQ
  dsimp only at hQ hp
  show Vf 46 _ _ 0 [.ref (122), .int wh, .int l, .int m, .null, .null] [] (emb σ) _

  have ha : ∀ w : HV, up2 w 2 2 (w 2 2 + 1) = adv w := fun _ => rfl
  have ha1 : ∀ w : HV, adv w 2 1 = w 2 1 := fun w => up2_nt (by decide)
  simp only [rN_readNumber_0, rN_readNumber_1, rN_readNumber_4, rN_readNumber_6, rN_readNumber_8, rN_readNumber_9, rN_readNumber_12, rN_readNumber_13, rN_readNumber_14, rN_readNumber_15, rN_readNumber_16, rN_readNumber_19, rN_readNumber_20, rN_readNumber_21, rN_readNumber_24, rN_readNumber_25, rN_readNumber_28, rN_readNumber_30, rN_readNumber_32, rN_readNumber_35, rN_readNumber_37, rN_readNumber_40, rN_readNumber_42, rN_readNumber_44, rN_readNumber_45, rN_readNumber_47, rN_readNumber_48, rN_readNumber_49, rN_readNumber_52, rN_readNumber_54, rN_readNumber_56, rN_readNumber_57, rN_readNumber_59, rN_readNumber_60, rN_readNumber_62, rN_readNumber_63, rN_readNumber_64, rN_readNumber_67, rN_readNumber_68, rN_readNumber_69, rN_readNumber_72, rN_readNumber_73, rN_readNumber_76, rN_readNumber_77, rN_readNumber_80, rN_readNumber_81, rN_readNumber_83, rN_readNumber_86, rN_readNumber_87, ct1_i, ct1_r, ct1_n, true_and, and_true, tl_s, tl_n, le4_0, le4_1, le4_2, le4_3, le4_4, le4_5, isO_r, cl_, emb1, emb2, le_rN, up1_at, up1_up1, sp_N_readNumber_N_digitHere, sp_N_readNumber_T_put, obN, obQ, nr_1, ni_1, ni_2, sni_2, ha, ha1, q_N_digitHere, qT_put_p, rb_0, rb_1, fok_i]
  unfold rnB at hQ
  by_cases h1 : dgF (σ 7) < l
  · rw [if_pos h1] at hQ
    simp only [if_pos h1]
    dsimp only at hQ
    rw [up1_self] at hQ
    exact hQ
  · rw [if_neg h1] at hQ
    simp only [if_neg h1]
    unfold rnW at hQ
    by_cases h2 : 0 < dgF (σ 7)
    · simp only [if_pos h2]
      by_cases h3 : dgF (adv (σ 7)) < 0
      · rw [if_neg (fun q => q.2.1 h3)] at hQ
        simp only [if_pos h3]
        exact hQ
      · simp only [if_neg h3]
        by_cases h4 : m < dgF (σ 7) * 10 + dgF (adv (σ 7))
        · rw [if_neg (fun q => q.2.2 h4)] at hQ
          simp only [if_pos h4]
          exact hQ
        · rw [if_pos ⟨h2, h3, h4⟩] at hQ
          simp only [if_neg h4]
          exact hQ
    · rw [if_neg (fun q => h2 q.1)] at hQ
      simp only [if_neg h2]
      exact hQ))
def anB (x : Bool × HV) (f : HV → Bool × HV) : Bool × HV := if x.1 = false then (false, x.2) else f x.2
theorem b2_cases (b : Bool) : b = true ∨ b = false := by cases b <;> simp
def rdW (w : HV) : Bool × HV := anB (anB (rnB (pt w 4 5 75 (w 2 1) 0 1) 1 0 12) (fun w => tkB w 120)) (fun w => rnB w 2 1 99)
def rdK (w : HV) : Bool × HV := anB (anB (anB (anB (anB (anB (rnB (pt w 4 5 75 (w 2 1) 0 2) 1 0 12) (fun w => tkB w 45)) (fun w => rnB w 2 0 12)) (fun w => tkB w 42)) (fun w => rnB w 3 1 9)) (fun w => tkB w 36)) (fun w => rnB w 4 1 99)
/-- a part is read -/
def rdB (w : HV) : Bool × HV := if (tkB w 119).1 = true then rdW (tkB w 119).2 else if (tkB w 107).1 = true then rdK (tkB w 107).2 else (false, w)
theorem tkB_f {w : HV} {c : Int32} (h : (tkB w c).1 = false) : (tkB w c).2 = w := by
  unfold tkB at h ⊢
  split
  · rename_i q
    rw [if_pos q] at h
    cases h
  · rfl
theorem tkB_1 {w : HV} {c : Int32} : (tkB w c).2 2 1 = w 2 1 := by
  unfold tkB
  split
  · show up2 w 2 2 (w 2 2 + 1) 2 1 = w 2 1
    exact up2_nt (t := 2) (t' := 1) (by decide)
  · rfl
def sp_N_readPart : Nat → Sp := spL [(43, f_N_takeSign), (46, f_N_readNumber), (3, f_T_put)]
theorem sp_N_readPart_N_takeSign : sp_N_readPart 43 = f_N_takeSign := rfl
theorem sp_N_readPart_N_readNumber : sp_N_readPart 46 = f_N_readNumber := rfl
theorem sp_N_readPart_T_put : sp_N_readPart 3 = f_T_put := rfl
def f_N_readPart : Sp := aS 9 (fun _ => 122) 0 (gL0 (fun _  σ => (True, some (.int (b2 (rdB (σ 7)).1)), up1 σ 7 (rdB (σ 7)).2)))
theorem q_N_readPart {σ : SG} : f_N_readPart [.ref 122] (emb σ) = (True, some (.int (b2 (rdB (σ 7)).1)), emb (up1 σ 7 (rdB (σ 7)).2)) := aS0_at (ad := (fun _ => 122)) (i := hI 122) (by decide) rfl
set_option maxHeartbeats 4000000 in
set_option maxRecDepth 20000 in
theorem ok_N_readPart : SpecOK 50 f_N_readPart := SpecOK.of (sp := sp_N_readPart) (by decide) (by decide) (spL_ok (List.forall_mem_cons.mpr ⟨ok_N_takeSign, (List.forall_mem_cons.mpr ⟨ok_N_readNumber, (List.forall_mem_cons.mpr ⟨ok_T_put, (fun q h => absurd h List.not_mem_nil)⟩)⟩)⟩)) (Does_aS0 (Nat.le_of_ble_eq_true rfl) (fun sc i  σ hi had hp => by
  refine Vf_q ?_ ⟨rfl, rfl⟩
  intro Q hQ
  dsimp only at hQ hp
  show Vf 50 _ _ 0 [.ref (122)] [] (emb σ) _

  simp only [rN_readPart_0, rN_readPart_1, rN_readPart_3, rN_readPart_6, rN_readPart_9, rN_readPart_10, rN_readPart_13, rN_readPart_14, rN_readPart_17, rN_readPart_18, rN_readPart_19, rN_readPart_22, rN_readPart_23, rN_readPart_24, rN_readPart_25, rN_readPart_27, rN_readPart_30, rN_readPart_33, rN_readPart_34, rN_readPart_36, rN_readPart_39, rN_readPart_42, rN_readPart_43, rN_readPart_44, rN_readPart_45, rN_readPart_47, rN_readPart_50, rN_readPart_53, rN_readPart_54, rN_readPart_57, rN_readPart_58, rN_readPart_59, rN_readPart_60, rN_readPart_62, rN_readPart_65, rN_readPart_68, rN_readPart_69, rN_readPart_72, rN_readPart_73, rN_readPart_76, rN_readPart_77, rN_readPart_78, rN_readPart_81, rN_readPart_82, rN_readPart_83, rN_readPart_84, rN_readPart_86, rN_readPart_89, rN_readPart_92, rN_readPart_93, rN_readPart_95, rN_readPart_98, rN_readPart_101, rN_readPart_102, rN_readPart_103, rN_readPart_104, rN_readPart_106, rN_readPart_109, rN_readPart_112, rN_readPart_113, rN_readPart_115, rN_readPart_118, rN_readPart_121, rN_readPart_122, rN_readPart_123, rN_readPart_124, rN_readPart_126, rN_readPart_129, rN_readPart_132, rN_readPart_133, rN_readPart_135, rN_readPart_138, rN_readPart_141, rN_readPart_142, rN_readPart_143, rN_readPart_144, rN_readPart_146, rN_readPart_149, rN_readPart_152, rN_readPart_153, rN_readPart_156, rN_readPart_157, rN_readPart_158, rN_readPart_159, ct1_i, ct1_r, ct1_n, true_and, and_true, tl_s, tl_n, le4_0, le4_1, le4_2, le4_3, le4_4, le4_5, isO_r, cl_, emb1, emb2, le_rN, up1_at, up1_up1, sp_N_readPart_N_takeSign, sp_N_readPart_N_readNumber, sp_N_readPart_T_put, obN, obQ, nr_1, ni_1, q_N_takeSign, q_N_readNumber, qT_put_p, rb_0, rb_1, b2_0]
  unfold rdB at hQ
  rcases b2_cases (tkB (σ 7) 119).1 with h1 | h1
  · rw [if_neg (by rw [h1]; decide)]
    rw [if_pos h1] at hQ
    unfold rdW anB at hQ
    generalize (tkB (σ 7) 119).2 = w1 at hQ ⊢
    generalize hy1 : rnB (pt w1 4 5 75 (w1 2 1) 0 1) 1 0 12 = y1 at hQ ⊢
    rcases b2_cases y1.1 with h2 | h2
    · rw [if_neg (by rw [h2]; decide)]
      simp only [h2, Bool.true_eq_false, if_false] at hQ
      generalize hy2 : tkB y1.2 120 = y2 at hQ ⊢
      rcases b2_cases y2.1 with h3 | h3
      · rw [if_neg (by rw [h3]; decide)]
        simp only [h3, Bool.true_eq_false, if_false] at hQ
        generalize hy3 : rnB y2.2 2 1 99 = y3 at hQ ⊢
        rcases b2_cases y3.1 with h4 | h4
        · rw [if_neg (by rw [h4]; decide)]
          rw [h4] at hQ
          exact hQ
        · rw [if_pos h4]
          rw [h4] at hQ
          exact hQ
      · rw [if_pos h3]
        simp only [h3, if_true] at hQ
        exact hQ
    · rw [if_pos h2]
      simp only [h2, if_true] at hQ
      exact hQ
  · rw [if_pos h1]
    rw [if_neg (by rw [h1]; decide)] at hQ
    rw [tkB_f h1]
    rcases b2_cases (tkB (σ 7) 107).1 with h5 | h5
    · rw [if_neg (by rw [h5]; decide)]
      rw [if_pos h5] at hQ
      unfold rdK anB at hQ
      generalize (tkB (σ 7) 107).2 = w1 at hQ ⊢
      generalize rnB (pt w1 4 5 75 (w1 2 1) 0 2) 1 0 12 = y1 at hQ ⊢
      rcases b2_cases y1.1 with h2 | h2
      · rw [if_neg (by rw [h2]; decide)]
        simp only [h2, Bool.true_eq_false, if_false] at hQ
        generalize tkB y1.2 45 = y2 at hQ ⊢
        rcases b2_cases y2.1 with h3 | h3
        · rw [if_neg (by rw [h3]; decide)]
          simp only [h3, Bool.true_eq_false, if_false] at hQ
          generalize rnB y2.2 2 0 12 = y3 at hQ ⊢
          rcases b2_cases y3.1 with h4 | h4
          · rw [if_neg (by rw [h4]; decide)]
            simp only [h4, Bool.true_eq_false, if_false] at hQ
            generalize tkB y3.2 42 = y4 at hQ ⊢
            rcases b2_cases y4.1 with h6 | h6
            · rw [if_neg (by rw [h6]; decide)]
              simp only [h6, Bool.true_eq_false, if_false] at hQ
              generalize rnB y4.2 3 1 9 = y5 at hQ ⊢
              rcases b2_cases y5.1 with h7 | h7
              · rw [if_neg (by rw [h7]; decide)]
                simp only [h7, Bool.true_eq_false, if_false] at hQ
                generalize tkB y5.2 36 = y6 at hQ ⊢
                rcases b2_cases y6.1 with h8 | h8
                · rw [if_neg (by rw [h8]; decide)]
                  simp only [h8, Bool.true_eq_false, if_false] at hQ
                  generalize rnB y6.2 4 1 99 = y7 at hQ ⊢
                  rcases b2_cases y7.1 with h9 | h9
                  · rw [if_neg (by rw [h9]; decide)]
                    rw [h9] at hQ
                    exact hQ
                  · rw [if_pos h9]
                    rw [h9] at hQ
                    exact hQ
                · rw [if_pos h8]
                  simp only [h8, if_true] at hQ
                  exact hQ
              · rw [if_pos h7]
                simp only [h7, if_true] at hQ
                exact hQ
            · rw [if_pos h6]
              simp only [h6, if_true] at hQ
              exact hQ
          · rw [if_pos h4]
            simp only [h4, if_true] at hQ
            exact hQ
        · rw [if_pos h3]
          simp only [h3, if_true] at hQ
          exact hQ
      · rw [if_pos h2]
        simp only [h2, if_true] at hQ
        exact hQ
    · rw [if_pos h5]
      rw [if_neg (by rw [h5]; decide)] at hQ
      rw [tkB_f h5]
      dsimp only at hQ
      exact hQ))
/-- the parts, n at most -/
def ffT (w : HV) (k : HV → Int32 × HV) : Int32 × HV := if w 2 2 < w 2 0 then (if (tkB w 59).1 = false then ((tkB w 59).2 2 2, (tkB w 59).2) else k (tkB w 59).2) else (-5, w)
def ffS (w : HV) (k : HV → Int32 × HV) : Int32 × HV := if (rdB w).1 = false then ((rdB w).2 2 2, (rdB w).2) else ffT (up2 (rdB w).2 2 1 ((rdB w).2 2 1 + 1)) k
def ffF : Nat → HV → Int32 × HV
  | 0 => fun w => (w 2 2, w)
  | n + 1 => fun w => ffS w (ffF n)
theorem ffF_0 {w : HV} : ffF 0 w = (w 2 2, w) := rfl
theorem ffF_s {n : Nat} {w : HV} : ffF (n + 1) w = ffS w (ffF n) := rfl
theorem n60 : (oN 60 < 60) = False := eq_false (by decide)
theorem lt60 {n : Nat} (h : n < 60) : (oN n < 60) = True := eq_true (by show oN n < oN 60; rw [oN_lt (by omega) (by decide)]; omega)
set_option maxHeartbeats 4000000 in
set_option maxRecDepth 20000 in
theorem lp_N_findFault {sp : Nat → Sp} (h43 : sp 43 = f_N_takeSign) (h50 : sp 50 = f_N_readPart) {sc : Nat × (Nat → Int32)} {Q : Option Value → MS → Prop} : ∀ (m n : Nat) (σ : SG), n + m = 60 → Q (some (.int (ffF m (σ 7)).1)) (emb (up1 σ 7 (ffF m (σ 7)).2)) → Vf 51 sp ((134, SLT), sc) 12 [.ref 122, .int (oN n)] [] (emb σ) Q := by
  intro m
  induction m with
  | zero =>
    intro n σ hn hQ
    have : n = 60 := by omega
    subst this
    rw [ffF_0] at hQ
    dsimp only at hQ
    rw [up1_self] at hQ
    rw [rN_findFault_12]
    simp only [rN_findFault_0, rN_findFault_1, rN_findFault_2, rN_findFault_5, rN_findFault_6, rN_findFault_7, rN_findFault_10, rN_findFault_11, rN_findFault_13, rN_findFault_15, rN_findFault_18, rN_findFault_19, rN_findFault_22, rN_findFault_25, rN_findFault_26, rN_findFault_29, rN_findFault_30, rN_findFault_31, rN_findFault_32, rN_findFault_35, rN_findFault_36, rN_findFault_37, rN_findFault_40, rN_findFault_41, rN_findFault_44, rN_findFault_45, rN_findFault_48, rN_findFault_51, rN_findFault_53, rN_findFault_54, rN_findFault_55, rN_findFault_57, rN_findFault_60, rN_findFault_63, rN_findFault_64, rN_findFault_67, rN_findFault_68, rN_findFault_71, rN_findFault_74, rN_findFault_75, rN_findFault_78, ct1_i, ct1_r, ct1_n, true_and, and_true, tl_s, tl_n, le4_0, le4_1, le4_2, le4_3, le4_4, le4_5, isO_r, obN, ni_2, n60, if_false]
    exact hQ
  | succ m ih =>
    intro n σ hn hQ
    rw [ffF_s] at hQ
    rw [rN_findFault_12]
    simp only [rN_findFault_0, rN_findFault_1, rN_findFault_2, rN_findFault_5, rN_findFault_6, rN_findFault_7, rN_findFault_10, rN_findFault_11, rN_findFault_13, rN_findFault_15, rN_findFault_18, rN_findFault_19, rN_findFault_22, rN_findFault_25, rN_findFault_26, rN_findFault_29, rN_findFault_30, rN_findFault_31, rN_findFault_32, rN_findFault_35, rN_findFault_36, rN_findFault_37, rN_findFault_40, rN_findFault_41, rN_findFault_44, rN_findFault_45, rN_findFault_48, rN_findFault_51, rN_findFault_53, rN_findFault_54, rN_findFault_55, rN_findFault_57, rN_findFault_60, rN_findFault_63, rN_findFault_64, rN_findFault_67, rN_findFault_68, rN_findFault_71, rN_findFault_74, rN_findFault_75, rN_findFault_78, ct1_i, ct1_r, ct1_n, true_and, and_true, tl_s, tl_n, le4_0, le4_1, le4_2, le4_3, le4_4, le4_5, isO_r, cl_, emb1, emb2, le_rN, up1_at, up1_up1, h43, h50, obN, ni_0, ni_1, ni_2, sni_1, fok_i, q_N_readPart, q_N_takeSign, lt60 (show n < 60 by omega), if_true, b2_0, oN_succ]
    unfold ffS at hQ
    rcases b2_cases (rdB (σ 7)).1 with h1 | h1
    · rw [if_neg (by rw [h1]; decide)] at hQ ⊢
      generalize up2 (rdB (σ 7)).2 2 1 ((rdB (σ 7)).2 2 1 + 1) = w at hQ ⊢
      unfold ffT at hQ
      by_cases h2 : w 2 2 < w 2 0
      · rw [if_pos h2] at hQ ⊢
        rcases b2_cases (tkB w 59).1 with h3 | h3
        · rw [if_neg (by rw [h3]; decide)] at hQ ⊢
          refine ih (n + 1) _ (by omega) ?_
          rw [up1_at, up1_up1]
          exact hQ
        · rw [if_pos h3] at hQ ⊢
          exact hQ
      · rw [if_neg h2] at hQ ⊢
        exact hQ
    · rw [if_pos h1] at hQ ⊢
      exact hQ
def ffW (w : HV) : Int32 × HV := ffF 60 (up2 (up2 w 2 2 0) 2 1 0)
def sp_N_findFault : Nat → Sp := spL [(43, f_N_takeSign), (50, f_N_readPart)]
theorem sp_N_findFault_N_takeSign : sp_N_findFault 43 = f_N_takeSign := rfl
theorem sp_N_findFault_N_readPart : sp_N_findFault 50 = f_N_readPart := rfl
def f_N_findFault : Sp := aS 9 (fun _ => 122) 0 (gL0 (fun _  σ => (True, some (.int (ffW (σ 7)).1), up1 σ 7 (ffW (σ 7)).2)))
theorem q_N_findFault {σ : SG} : f_N_findFault [.ref 122] (emb σ) = (True, some (.int (ffW (σ 7)).1), emb (up1 σ 7 (ffW (σ 7)).2)) := aS0_at (ad := (fun _ => 122)) (i := hI 122) (by decide) rfl
set_option maxHeartbeats 4000000 in
set_option maxRecDepth 20000 in
theorem ok_N_findFault : SpecOK 51 f_N_findFault := SpecOK.of (sp := sp_N_findFault) (by decide) (by decide) (spL_ok (List.forall_mem_cons.mpr ⟨ok_N_takeSign, (List.forall_mem_cons.mpr ⟨ok_N_readPart, (fun q h => absurd h List.not_mem_nil)⟩)⟩)) (Does_aS0 (Nat.le_of_ble_eq_true rfl) (fun sc i  σ hi had hp => by
  refine Vf_q ?_ ⟨rfl, rfl⟩
  intro Q hQ
  dsimp only at hQ hp
  show Vf 51 _ _ 0 [.ref (122), .null] [] (emb σ) _

  simp only [rN_findFault_0, rN_findFault_1, rN_findFault_2, rN_findFault_5, rN_findFault_6, rN_findFault_7, rN_findFault_10, rN_findFault_11, ct1_i, ct1_r, ct1_n, true_and, and_true, tl_s, tl_n, le4_0, le4_1, le4_2, le4_3, le4_4, le4_5, isO_r, cl_, emb1, emb2, le_rN, up1_at, up1_up1, sp_N_findFault_N_takeSign, sp_N_findFault_N_readPart, obN, sni_1, sni_2, fok_i]
  refine lp_N_findFault sp_N_findFault_N_takeSign sp_N_findFault_N_readPart 60 0 _ rfl ?_
  rw [up1_at, up1_up1]
  exact hQ))
