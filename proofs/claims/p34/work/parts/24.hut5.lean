/-! THE HUT: lines snap, hours pass, what is counted, copies -/
def snH1 (w : HV) (r : Int32) : HV := pt (pa (pa w 3 4 40 (hr w r 1) 0 (-(hr w r 2))) 3 4 40 (hr w r 1) 3 (hr w r 2)) 3 4 40 (hr w r 1) 1 0
def snC (w : HV) (r : Int32) : Int32 := settg w 2 + bcnt (hr w r 4) * settg w 3
/-- a line snaps -/
def snH (w : HV) (r : Int32) : HV := enH (up2 (pa (snH1 w r) 5 7 70 r 5 (snC w r)) 8 6 (w 8 6 + snC w r)) r 2 (hr w r 4)

def sp_H_snapLine : Nat → Sp := spL [(4, f_T_at), (3, f_T_put), (5, f_T_add), (14, f_H_setting), (2, f_J_bitCount), (19, f_H_takeCoins), (30, f_H_endHire)]
theorem sp_H_snapLine_T_at : sp_H_snapLine 4 = f_T_at := rfl
theorem sp_H_snapLine_T_put : sp_H_snapLine 3 = f_T_put := rfl
theorem sp_H_snapLine_T_add : sp_H_snapLine 5 = f_T_add := rfl
theorem sp_H_snapLine_H_setting : sp_H_snapLine 14 = f_H_setting := rfl
theorem sp_H_snapLine_J_bitCount : sp_H_snapLine 2 = f_J_bitCount := rfl
theorem sp_H_snapLine_H_takeCoins : sp_H_snapLine 19 = f_H_takeCoins := rfl
theorem sp_H_snapLine_H_endHire : sp_H_snapLine 30 = f_H_endHire := rfl
def f_H_snapLine : Sp := aS 7 hutA 1 (gL1 (fun i r σ => (sm r 9, none, up1 σ i (snH (σ i) r))))
theorem q_H_snapLine {i : Nat} {r : Int32} {σ : SG} (hi : i < 7) : f_H_snapLine [.ref (hutA i), .int r] (emb σ) = (sm r 9, none, emb (up1 σ i (snH (σ i) r))) := aS1_at (ad := hutA) hi (hI_h hi)
set_option maxHeartbeats 4000000 in
set_option maxRecDepth 20000 in
theorem ok_H_snapLine : SpecOK 35 f_H_snapLine := SpecOK.of (sp := sp_H_snapLine) (by decide) (by decide) (spL_ok (List.forall_mem_cons.mpr ⟨ok_T_at, (List.forall_mem_cons.mpr ⟨ok_T_put, (List.forall_mem_cons.mpr ⟨ok_T_add, (List.forall_mem_cons.mpr ⟨ok_H_setting, (List.forall_mem_cons.mpr ⟨ok_J_bitCount, (List.forall_mem_cons.mpr ⟨ok_H_takeCoins, (List.forall_mem_cons.mpr ⟨ok_H_endHire, (fun q h => absurd h List.not_mem_nil)⟩)⟩)⟩)⟩)⟩)⟩)⟩)) (Does_aS1 (Nat.le_of_ble_eq_true rfl) (fun sc i r σ hi had hp => by
  refine Vf_q ?_ ⟨rfl, rfl⟩
  intro Q hQ
  dsimp only at hQ hp
  show Vf 35 _ _ 0 [.ref (hutA i), .int r, .null, .null, .null] [] (emb σ) _

  simp only [rH_snapLine_0, rH_snapLine_1, rH_snapLine_4, rH_snapLine_5, rH_snapLine_6, rH_snapLine_9, rH_snapLine_10, rH_snapLine_11, rH_snapLine_14, rH_snapLine_15, rH_snapLine_16, rH_snapLine_19, rH_snapLine_20, rH_snapLine_21, rH_snapLine_24, rH_snapLine_25, rH_snapLine_26, rH_snapLine_29, rH_snapLine_31, rH_snapLine_32, rH_snapLine_35, rH_snapLine_36, rH_snapLine_37, rH_snapLine_38, rH_snapLine_39, rH_snapLine_42, rH_snapLine_43, rH_snapLine_46, rH_snapLine_47, rH_snapLine_48, rH_snapLine_49, rH_snapLine_52, rH_snapLine_53, rH_snapLine_56, rH_snapLine_57, rH_snapLine_58, rH_snapLine_59, rH_snapLine_62, rH_snapLine_63, rH_snapLine_64, rH_snapLine_65, rH_snapLine_66, rH_snapLine_69, rH_snapLine_71, rH_snapLine_74, rH_snapLine_75, rH_snapLine_76, rH_snapLine_79, rH_snapLine_80, rH_snapLine_81, rH_snapLine_84, rH_snapLine_85, rH_snapLine_86, rH_snapLine_87, rH_snapLine_89, rH_snapLine_92, ct1_i, ct1_r, ct1_n, true_and, and_true, tl_s, tl_n, le4_0, le4_1, le4_2, le4_3, le4_4, le4_5, isO_r, cl_, emb1, emb2, le_rN, up1_at, up1_up1, sp_H_snapLine_T_at, sp_H_snapLine_T_put, sp_H_snapLine_T_add, sp_H_snapLine_H_setting, sp_H_snapLine_J_bitCount, sp_H_snapLine_H_takeCoins, sp_H_snapLine_H_endHire, ob_h hi, vh_3 hi, vh_5 hi, obt_3 hi, obt_5 hi, qT_at_5 hi, qT_add_3 hi, qT_put_3 hi, q_H_setting hi, q_J_bitCount, q_H_takeCoins hi, q_H_endHire hi, hp, settg, pt_ne, pa_ne, up2_ne, up2_nt, ne_eq, Fin.reduceEq, not_false_eq_true, Nat.reduceEqDiff]
  exact hQ))
def fiH1 (w : HV) (r : Int32) : HV := pa w 5 7 70 r 3 (-1)
/-- an hour less is left -/
def fiH (w : HV) (r : Int32) : HV := if 0 < hr (fiH1 w r) r 3 then fiH1 w r else enH (fiH1 w r) r 0 0
def tcH (w : HV) (r c : Int32) : HV := up2 (pa w 5 7 70 r 5 c) 8 6 (w 8 6 + c)
/-- what an hour brings a hire -/
def phH (w : HV) (r : Int32) : HV :=
  if tooWP w (hr w r 0) (w 8 0) then enH (tcH w r (-(kt w (hr w r 0) 4 * hr w r 3))) r 1 0
  else if tooCP w (hr w r 0) (w 8 0) then fiH (tcH w r (-(kt w (hr w r 0) 4))) r
  else if ¬ sl (wrW w r) (hr w r 1) 1 < settg w 1 then snH (wrW w r) r else fiH (wrW w r) r
set_option maxHeartbeats 4000000 in
set_option maxRecDepth 20000 in
theorem lp_H_pho {sc : Nat × (Nat → Int32)} {sp : Nat → Sp} (h4 : sp 4 = f_T_at) (h5 : sp 5 = f_T_add) (h30 : sp 30 = f_H_endHire) {i : Nat} {σ : SG} {r k : Int32} {Q : Option Value → MS → Prop} (hi : i < 7) (hp : sm r 9) (hQ : Q none (emb (up1 σ i (fiH (σ i) r)))) : Vf 39 sp ((127, SLT), sc) 81 [.ref (hutA i), .int r, .int k] [] (emb σ) Q := by
  simp only [rH_passHourOf_0, rH_passHourOf_1, rH_passHourOf_4, rH_passHourOf_5, rH_passHourOf_6, rH_passHourOf_9, rH_passHourOf_10, rH_passHourOf_11, rH_passHourOf_12, rH_passHourOf_13, rH_passHourOf_16, rH_passHourOf_19, rH_passHourOf_22, rH_passHourOf_23, rH_passHourOf_24, rH_passHourOf_25, rH_passHourOf_26, rH_passHourOf_29, rH_passHourOf_30, rH_passHourOf_33, rH_passHourOf_34, rH_passHourOf_35, rH_passHourOf_36, rH_passHourOf_37, rH_passHourOf_40, rH_passHourOf_41, rH_passHourOf_42, rH_passHourOf_43, rH_passHourOf_44, rH_passHourOf_47, rH_passHourOf_50, rH_passHourOf_53, rH_passHourOf_54, rH_passHourOf_55, rH_passHourOf_56, rH_passHourOf_57, rH_passHourOf_60, rH_passHourOf_61, rH_passHourOf_64, rH_passHourOf_67, rH_passHourOf_68, rH_passHourOf_69, rH_passHourOf_72, rH_passHourOf_75, rH_passHourOf_76, rH_passHourOf_77, rH_passHourOf_80, rH_passHourOf_81, rH_passHourOf_82, rH_passHourOf_85, rH_passHourOf_86, rH_passHourOf_87, rH_passHourOf_88, rH_passHourOf_91, rH_passHourOf_92, rH_passHourOf_95, rH_passHourOf_96, rH_passHourOf_97, rH_passHourOf_100, rH_passHourOf_103, rH_passHourOf_104, rH_passHourOf_105, rH_passHourOf_106, rH_passHourOf_107, rH_passHourOf_110, ct1_i, ct1_r, ct1_n, true_and, and_true, tl_s, tl_n, le4_0, le4_1, le4_2, le4_3, le4_4, le4_5, isO_r, cl_, emb1, emb2, le_rN, up1_at, up1_up1, h4, h5, h30, ob_h hi, vh_5 hi, obt_5 hi, qT_at_5 hi, qT_add_5 hi, q_H_endHire hi, hp]
  show if 0 < hr (fiH1 (σ i) r) r 3 then _ else _
  unfold fiH at hQ
  by_cases h : 0 < hr (fiH1 (σ i) r) r 3
  · rw [if_pos h]
    rw [if_pos h] at hQ
    exact hQ
  · rw [if_neg h]
    rw [if_neg h] at hQ
    exact hQ
def sp_H_passHourOf : Nat → Sp := spL [(4, f_T_at), (5, f_T_add), (26, f_H_tooWindy), (27, f_H_tooCalm), (29, f_H_priceOfRest), (18, f_H_priceOfHour), (19, f_H_takeCoins), (30, f_H_endHire), (31, f_H_wearSnaps), (35, f_H_snapLine)]
theorem sp_H_passHourOf_T_at : sp_H_passHourOf 4 = f_T_at := rfl
theorem sp_H_passHourOf_T_add : sp_H_passHourOf 5 = f_T_add := rfl
theorem sp_H_passHourOf_H_tooWindy : sp_H_passHourOf 26 = f_H_tooWindy := rfl
theorem sp_H_passHourOf_H_tooCalm : sp_H_passHourOf 27 = f_H_tooCalm := rfl
theorem sp_H_passHourOf_H_priceOfRest : sp_H_passHourOf 29 = f_H_priceOfRest := rfl
theorem sp_H_passHourOf_H_priceOfHour : sp_H_passHourOf 18 = f_H_priceOfHour := rfl
theorem sp_H_passHourOf_H_takeCoins : sp_H_passHourOf 19 = f_H_takeCoins := rfl
theorem sp_H_passHourOf_H_endHire : sp_H_passHourOf 30 = f_H_endHire := rfl
theorem sp_H_passHourOf_H_wearSnaps : sp_H_passHourOf 31 = f_H_wearSnaps := rfl
theorem sp_H_passHourOf_H_snapLine : sp_H_passHourOf 35 = f_H_snapLine := rfl
def f_H_passHourOf : Sp := aS 7 hutA 1 (gL1 (fun i r σ => (sm r 9, none, up1 σ i (phH (σ i) r))))
theorem q_H_passHourOf {i : Nat} {r : Int32} {σ : SG} (hi : i < 7) : f_H_passHourOf [.ref (hutA i), .int r] (emb σ) = (sm r 9, none, emb (up1 σ i (phH (σ i) r))) := aS1_at (ad := hutA) hi (hI_h hi)
set_option maxHeartbeats 4000000 in
set_option maxRecDepth 20000 in
theorem ok_H_passHourOf : SpecOK 39 f_H_passHourOf := SpecOK.of (sp := sp_H_passHourOf) (by decide) (by decide) (spL_ok (List.forall_mem_cons.mpr ⟨ok_T_at, (List.forall_mem_cons.mpr ⟨ok_T_add, (List.forall_mem_cons.mpr ⟨ok_H_tooWindy, (List.forall_mem_cons.mpr ⟨ok_H_tooCalm, (List.forall_mem_cons.mpr ⟨ok_H_priceOfRest, (List.forall_mem_cons.mpr ⟨ok_H_priceOfHour, (List.forall_mem_cons.mpr ⟨ok_H_takeCoins, (List.forall_mem_cons.mpr ⟨ok_H_endHire, (List.forall_mem_cons.mpr ⟨ok_H_wearSnaps, (List.forall_mem_cons.mpr ⟨ok_H_snapLine, (fun q h => absurd h List.not_mem_nil)⟩)⟩)⟩)⟩)⟩)⟩)⟩)⟩)⟩)⟩)) (Does_aS1 (Nat.le_of_ble_eq_true rfl) (fun sc i r σ hi had hp => by
  refine Vf_q ?_ ⟨rfl, rfl⟩
  intro Q hQ
  dsimp only at hQ hp
  show Vf 39 _ _ 0 [.ref (hutA i), .int r, .null] [] (emb σ) _

  have hfin : ∀ (w : HV) (k : Int32), Q none (emb (up1 σ i (fiH w r))) → Vf 39 sp_H_passHourOf ((127, SLT), sc) 81 [.ref (hutA i), .int r, .int k] [] (emb (up1 σ i w)) Q := fun w k h => lp_H_pho sp_H_passHourOf_T_at sp_H_passHourOf_T_add sp_H_passHourOf_H_endHire (σ := up1 σ i w) hi hp (by rw [up1_up1, up1_at]; exact h)
  simp only [rH_passHourOf_0, rH_passHourOf_1, rH_passHourOf_4, rH_passHourOf_5, rH_passHourOf_6, rH_passHourOf_9, rH_passHourOf_10, rH_passHourOf_11, rH_passHourOf_12, rH_passHourOf_13, rH_passHourOf_16, rH_passHourOf_19, rH_passHourOf_22, rH_passHourOf_23, rH_passHourOf_24, rH_passHourOf_25, rH_passHourOf_26, rH_passHourOf_29, rH_passHourOf_30, rH_passHourOf_33, rH_passHourOf_34, rH_passHourOf_35, rH_passHourOf_36, rH_passHourOf_37, rH_passHourOf_40, rH_passHourOf_41, rH_passHourOf_42, rH_passHourOf_43, rH_passHourOf_44, rH_passHourOf_47, rH_passHourOf_50, rH_passHourOf_53, rH_passHourOf_54, rH_passHourOf_55, rH_passHourOf_56, rH_passHourOf_57, rH_passHourOf_60, rH_passHourOf_61, rH_passHourOf_64, rH_passHourOf_67, rH_passHourOf_68, rH_passHourOf_69, rH_passHourOf_72, rH_passHourOf_75, rH_passHourOf_76, rH_passHourOf_77, rH_passHourOf_80, ct1_i, ct1_r, ct1_n, true_and, and_true, tl_s, tl_n, le4_0, le4_1, le4_2, le4_3, le4_4, le4_5, isO_r, cl_, emb1, emb2, le_rN, up1_at, up1_up1, sp_H_passHourOf_T_at, sp_H_passHourOf_T_add, sp_H_passHourOf_H_tooWindy, sp_H_passHourOf_H_tooCalm, sp_H_passHourOf_H_priceOfRest, sp_H_passHourOf_H_priceOfHour, sp_H_passHourOf_H_takeCoins, sp_H_passHourOf_H_endHire, sp_H_passHourOf_H_wearSnaps, sp_H_passHourOf_H_snapLine, ob_h hi, vs_0 hi, vh_5 hi, obt_5 hi, qT_at_5 hi, q_H_tooWindy hi, q_H_tooCalm hi, q_H_priceOfRest hi, q_H_priceOfHour hi, q_H_takeCoins hi, q_H_endHire hi, q_H_wearSnaps hi, q_H_snapLine hi, hp, bi_eq0]
  show if ¬ tooWP (σ i) (hr (σ i) r 0) (σ i 8 0) then if ¬ tooCP (σ i) (hr (σ i) r 0) (σ i 8 0) then _ else _ else _
  unfold phH at hQ
  by_cases h1 : tooWP (σ i) (hr (σ i) r 0) (σ i 8 0)
  · rw [if_neg (fun q => q h1)]
    rw [if_pos h1] at hQ
    exact hQ
  · rw [if_pos h1]
    rw [if_neg h1] at hQ
    by_cases h2 : tooCP (σ i) (hr (σ i) r 0) (σ i 8 0)
    · rw [if_neg (fun q => q h2)]
      rw [if_pos h2] at hQ
      exact hfin _ _ hQ
    · rw [if_pos h2]
      rw [if_neg h2] at hQ
      by_cases h3 : sl (wrW (σ i) r) (hr (σ i) r 1) 1 < settg (σ i) 1
      · rw [if_pos (fun q => q h3)]
        rw [if_neg (fun q => q h3)] at hQ
        exact hfin _ _ hQ
      · rw [if_neg (fun q => q h3)]
        rw [if_pos h3] at hQ
        exact hQ))
/-- the hires of an hour, from a row on, so many waiting -/
def psF (w : HV) : Nat → Nat → HV
  | _, 0 => w
  | r, k + 1 => psF (phH w (oN r)) (if phH w (oN r) 8 5 = w 8 5 then r + 1 else r) k
set_option maxHeartbeats 4000000 in
set_option maxRecDepth 20000 in
theorem lp_H_passHour {sp : Nat → Sp} (h39 : sp 39 = f_H_passHourOf) {sc : Nat × (Nat → Int32)} {i : Nat} {Q : Option Value → MS → Prop} (hi : i < 7) : ∀ (m n : Nat) (σ : SG) (v : Value), n + m ≤ 10 → Q none (emb (up1 σ i (up2 (psF (σ i) n m) 8 0 (psF (σ i) n m 8 0 + 1)))) → Vf 41 sp ((127, SLT), sc) 7 [.ref (hutA i), .int (oN n), .int (oN m), v] [] (emb σ) Q := by
  intro m
  induction m with
  | zero =>
    intro n σ v hn hQ
    rw [rH_passHour_7]
    simp only [rH_passHour_0, rH_passHour_1, rH_passHour_2, rH_passHour_3, rH_passHour_6, rH_passHour_8, rH_passHour_11, rH_passHour_12, rH_passHour_15, rH_passHour_16, rH_passHour_17, rH_passHour_18, rH_passHour_21, rH_passHour_22, rH_passHour_25, rH_passHour_26, rH_passHour_29, rH_passHour_32, rH_passHour_35, rH_passHour_38, rH_passHour_39, rH_passHour_40, rH_passHour_43, rH_passHour_44, rH_passHour_45, rH_passHour_48, ct1_i, ct1_r, ct1_n, true_and, and_true, tl_s, tl_n, le4_0, le4_1, le4_2, le4_3, le4_4, le4_5, isO_r, ob_h hi, vs_0 hi, ss_0 hi, fok_i, if_neg (show ¬ 0 < oN 0 by decide)]
    exact hQ
  | succ m ih =>
    intro n σ v hn hQ
    have h0 : 0 < oN (m + 1) := by show oN 0 < oN (m + 1); rw [oN_lt (by decide) (by omega)]; omega
    have hs : sm (oN n) 9 := sm_oN (by omega) (by decide)
    have he : oN (m + 1) + -1 = oN m := by rw [← oN_succ, Int32.add_assoc]; exact Int32.add_zero _
    rw [rH_passHour_7]
    simp only [psF] at hQ
    simp only [rH_passHour_0, rH_passHour_1, rH_passHour_2, rH_passHour_3, rH_passHour_6, rH_passHour_8, rH_passHour_11, rH_passHour_12, rH_passHour_15, rH_passHour_16, rH_passHour_17, rH_passHour_18, rH_passHour_21, rH_passHour_22, rH_passHour_25, rH_passHour_26, rH_passHour_29, rH_passHour_32, rH_passHour_35, rH_passHour_38, rH_passHour_39, rH_passHour_40, rH_passHour_43, rH_passHour_44, rH_passHour_45, rH_passHour_48, ct1_i, ct1_r, ct1_n, true_and, and_true, tl_s, tl_n, le4_0, le4_1, le4_2, le4_3, le4_4, le4_5, isO_r, cl_, emb1, emb2, le_rN, up1_at, up1_up1, h39, ob_h hi, vs_5 hi, if_pos h0, q_H_passHourOf hi, hs, he, oN_succ]
    by_cases h1 : phH (σ i) (oN n) 8 5 = σ i 8 5
    · rw [if_pos h1] at hQ
      rw [if_pos h1]
      refine ih (n + 1) _ _ (by omega) ?_
      rw [up1_up1, up1_at]
      exact hQ
    · rw [if_neg h1] at hQ
      rw [if_neg h1]
      refine ih n _ _ (by omega) ?_
      rw [up1_up1, up1_at]
      exact hQ
/-- an hour passes -/
def paH (w : HV) : HV := up2 (psF w 0 (w 8 4).toNatClampNeg) 8 0 (psF w 0 (w 8 4).toNatClampNeg 8 0 + 1)
def sp_H_passHour : Nat → Sp := spL [(39, f_H_passHourOf)]
theorem sp_H_passHour_H_passHourOf : sp_H_passHour 39 = f_H_passHourOf := rfl
def f_H_passHour : Sp := aS 7 hutA 0 (gL0 (fun i  σ => (sm (σ i 8 4) 10, none, up1 σ i (paH (σ i)))))
theorem q_H_passHour {i : Nat} {σ : SG} (hi : i < 7) : f_H_passHour [.ref (hutA i)] (emb σ) = (sm (σ i 8 4) 10, none, emb (up1 σ i (paH (σ i)))) := aS0_at (ad := hutA) hi (hI_h hi)
set_option maxHeartbeats 4000000 in
set_option maxRecDepth 20000 in
theorem ok_H_passHour : SpecOK 41 f_H_passHour := SpecOK.of (sp := sp_H_passHour) (by decide) (by decide) (spL_ok (List.forall_mem_cons.mpr ⟨ok_H_passHourOf, (fun q h => absurd h List.not_mem_nil)⟩)) (Does_aS0 (Nat.le_of_ble_eq_true rfl) (fun sc i  σ hi had hp => by
  refine Vf_q ?_ ⟨rfl, rfl⟩
  intro Q hQ
  dsimp only at hQ hp
  show Vf 41 _ _ 0 [.ref (hutA i), .null, .null, .null] [] (emb σ) _

  simp only [rH_passHour_0, rH_passHour_1, rH_passHour_2, rH_passHour_3, rH_passHour_6, ct1_i, ct1_r, ct1_n, true_and, and_true, tl_s, tl_n, le4_0, le4_1, le4_2, le4_3, le4_4, le4_5, isO_r, ob_h hi, vs_4 hi]
  have h9 := lp_H_passHour sp_H_passHour_H_passHourOf (sc := sc) (Q := Q) hi (σ i 8 4).toNatClampNeg 0 σ .null (by have := hp.2; omega) hQ
  rw [← sm_eq hp] at h9
  exact h9))
def tyF (w : HV) (x : Int32) : Int32 :=
  if x = 0 then w 8 0 else if x = 1 then w 8 1 else if x = 2 then smF (fun r => if kt w (oN r) 0 = 0 then 1 else 0) 0 (w 8 1).toNatClampNeg else if x = 3 then smF (fun r => if kt w (oN r) 0 = 1 then 1 else 0) 0 (w 8 1).toNatClampNeg else if x = 4 then smF (fun r => if kt w (oN r) 0 = 2 then 1 else 0) 0 (w 8 1).toNatClampNeg else if x = 5 then w 8 2 else if x = 6 then w 8 3 else if x = 7 then w 8 4 else if x = 8 then at_ (w 7) 1 3 0 0 else if x = 9 then at_ (w 7) 1 3 1 0 else if x = 10 then at_ (w 7) 1 3 2 0 else if x = 11 then w 8 6 else if x = 12 then smF (fun r => sl w (oN r) 0) 0 (w 8 2).toNatClampNeg else if x = 13 then smF (fun r => sl w (oN r) 3) 0 (w 8 2).toNatClampNeg else if x = 14 then w 8 7 else bi (w 8 0 < 1000 ∧ ¬ windAt w (w 8 0) < settg w 0)
def sp_H_tally : Nat → Sp := spL [(4, f_T_at), (21, f_H_kitesThatAre), (22, f_H_sumOfSpools), (32, f_H_flagIsUp)]
theorem sp_H_tally_T_at : sp_H_tally 4 = f_T_at := rfl
theorem sp_H_tally_H_kitesThatAre : sp_H_tally 21 = f_H_kitesThatAre := rfl
theorem sp_H_tally_H_sumOfSpools : sp_H_tally 22 = f_H_sumOfSpools := rfl
theorem sp_H_tally_H_flagIsUp : sp_H_tally 32 = f_H_flagIsUp := rfl
def f_H_tally : Sp := aS 7 hutA 1 (gL1 (fun i x σ => (sm x 15 ∧ sm (σ i 8 1) 16 ∧ sm (σ i 8 2) 10, some (.int (tyF (σ i) x)), σ)))
theorem q_H_tally {i : Nat} {x : Int32} {σ : SG} (hi : i < 7) : f_H_tally [.ref (hutA i), .int x] (emb σ) = (sm x 15 ∧ sm (σ i 8 1) 16 ∧ sm (σ i 8 2) 10, some (.int (tyF (σ i) x)), emb (σ)) := aS1_at (ad := hutA) hi (hI_h hi)
set_option maxHeartbeats 4000000 in
set_option maxRecDepth 20000 in
theorem ok_H_tally : SpecOK 36 f_H_tally := SpecOK.of (sp := sp_H_tally) (by decide) (by decide) (spL_ok (List.forall_mem_cons.mpr ⟨ok_T_at, (List.forall_mem_cons.mpr ⟨ok_H_kitesThatAre, (List.forall_mem_cons.mpr ⟨ok_H_sumOfSpools, (List.forall_mem_cons.mpr ⟨ok_H_flagIsUp, (fun q h => absurd h List.not_mem_nil)⟩)⟩)⟩)⟩)) (Does_aS1 (Nat.le_of_ble_eq_true rfl) (fun sc i x σ hi had hp => by
  refine Vf_q ?_ ⟨rfl, rfl⟩
  intro Q hQ
  dsimp only at hQ hp
  show Vf 36 _ _ 0 [.ref (hutA i), .int x] [] (emb σ) _

  obtain ⟨h0, h1, h2⟩ := hp
  have hx := sm_eq h0
  have hb := h0.2
  generalize x.toNatClampNeg = n at hx hb
  subst hx
  clear h0
  rcases (show n = 15 ∨ n = 0 ∨ n = 1 ∨ n = 2 ∨ n = 3 ∨ n = 4 ∨ n = 5 ∨ n = 6 ∨ n = 7 ∨ n = 8 ∨ n = 9 ∨ n = 10 ∨ n = 11 ∨ n = 12 ∨ n = 13 ∨ n = 14 by omega) with q | q | q | q | q | q | q | q | q | q | q | q | q | q | q | q <;> subst q
  · show Vf 36 _ _ 0 [.ref (hutA i), .int 15] [] (emb σ) _
    have e : tyF (σ i) (oN 15) = bi (σ i 8 0 < 1000 ∧ ¬ windAt (σ i) (σ i 8 0) < settg (σ i) 0) := rfl
    rw [e] at hQ
    simp only [rH_tally_0, rH_tally_1_0, rH_tally_1_1, rH_tally_1_2, rH_tally_1_3, rH_tally_1_4, rH_tally_1_5, rH_tally_1_6, rH_tally_1_7, rH_tally_1_8, rH_tally_1_9, rH_tally_1_10, rH_tally_1_11, rH_tally_1_12, rH_tally_1_13, rH_tally_1_14, rH_tally_76, rH_tally_77, rH_tally_80, rH_tally_81, rH_tally_82, rH_tally_85, rH_tally_86, rH_tally_87, rH_tally_88, rH_tally_91, rH_tally_92, rH_tally_93, rH_tally_94, rH_tally_97, rH_tally_98, rH_tally_99, rH_tally_100, rH_tally_103, rH_tally_104, rH_tally_105, rH_tally_108, rH_tally_109, rH_tally_110, rH_tally_113, rH_tally_114, rH_tally_115, rH_tally_118, rH_tally_119, rH_tally_120, rH_tally_123, rH_tally_124, rH_tally_125, rH_tally_128, rH_tally_129, rH_tally_130, rH_tally_133, rH_tally_134, rH_tally_135, rH_tally_138, rH_tally_139, rH_tally_140, rH_tally_143, rH_tally_144, rH_tally_145, rH_tally_148, rH_tally_149, rH_tally_150, rH_tally_153, rH_tally_154, rH_tally_155, rH_tally_156, rH_tally_159, rH_tally_160, rH_tally_161, rH_tally_162, rH_tally_165, rH_tally_166, rH_tally_167, rH_tally_170, rH_tally_171, rH_tally_172, rH_tally_173, rH_tally_176, rH_tally_179, rH_tally_182, rH_tally_183, rH_tally_186, rH_tally_187, rH_tally_1_d (x := 15) (by decide), ct1_i, ct1_r, ct1_n, true_and, and_true, tl_s, tl_n, le4_0, le4_1, le4_2, le4_3, le4_4, le4_5, isO_r, cl_, emb1, emb2, le_rN, up1_at, up1_up1, sp_H_tally_T_at, sp_H_tally_H_kitesThatAre, sp_H_tally_H_sumOfSpools, sp_H_tally_H_flagIsUp, ob_h hi, vs_0 hi, q_H_flagIsUp hi, bi_eq0]
    by_cases h : σ i 8 0 < 1000 ∧ ¬ windAt (σ i) (σ i 8 0) < settg (σ i) 0
    · rw [if_neg (fun q => q h)]
      rw [bi_t h] at hQ
      exact hQ
    · rw [if_pos h]
      rw [bi_f h] at hQ
      exact hQ
  · show Vf 36 _ _ 0 [.ref (hutA i), .int 0] [] (emb σ) _
    simp only [rH_tally_0, rH_tally_1_0, rH_tally_1_1, rH_tally_1_2, rH_tally_1_3, rH_tally_1_4, rH_tally_1_5, rH_tally_1_6, rH_tally_1_7, rH_tally_1_8, rH_tally_1_9, rH_tally_1_10, rH_tally_1_11, rH_tally_1_12, rH_tally_1_13, rH_tally_1_14, rH_tally_76, rH_tally_77, rH_tally_80, rH_tally_81, rH_tally_82, rH_tally_85, rH_tally_86, rH_tally_87, rH_tally_88, rH_tally_91, rH_tally_92, rH_tally_93, rH_tally_94, rH_tally_97, rH_tally_98, rH_tally_99, rH_tally_100, rH_tally_103, rH_tally_104, rH_tally_105, rH_tally_108, rH_tally_109, rH_tally_110, rH_tally_113, rH_tally_114, rH_tally_115, rH_tally_118, rH_tally_119, rH_tally_120, rH_tally_123, rH_tally_124, rH_tally_125, rH_tally_128, rH_tally_129, rH_tally_130, rH_tally_133, rH_tally_134, rH_tally_135, rH_tally_138, rH_tally_139, rH_tally_140, rH_tally_143, rH_tally_144, rH_tally_145, rH_tally_148, rH_tally_149, rH_tally_150, rH_tally_153, rH_tally_154, rH_tally_155, rH_tally_156, rH_tally_159, rH_tally_160, rH_tally_161, rH_tally_162, rH_tally_165, rH_tally_166, rH_tally_167, rH_tally_170, rH_tally_171, rH_tally_172, rH_tally_173, rH_tally_176, rH_tally_179, rH_tally_182, rH_tally_183, rH_tally_186, rH_tally_187, ct1_i, ct1_r, ct1_n, true_and, and_true, tl_s, tl_n, le4_0, le4_1, le4_2, le4_3, le4_4, le4_5, isO_r, cl_, emb1, emb2, le_rN, up1_at, up1_up1, sp_H_tally_T_at, sp_H_tally_H_kitesThatAre, sp_H_tally_H_sumOfSpools, sp_H_tally_H_flagIsUp, ob_h hi, vs_0 hi, vs_1 hi, vs_2 hi, vs_3 hi, vs_4 hi, vs_6 hi, vs_7 hi, vh_7 hi, obt_7 hi, qT_at_7 hi, q_H_kitesThatAre hi, q_H_sumOfSpools hi, h1, h2]
    exact hQ
  · show Vf 36 _ _ 0 [.ref (hutA i), .int 1] [] (emb σ) _
    simp only [rH_tally_0, rH_tally_1_0, rH_tally_1_1, rH_tally_1_2, rH_tally_1_3, rH_tally_1_4, rH_tally_1_5, rH_tally_1_6, rH_tally_1_7, rH_tally_1_8, rH_tally_1_9, rH_tally_1_10, rH_tally_1_11, rH_tally_1_12, rH_tally_1_13, rH_tally_1_14, rH_tally_76, rH_tally_77, rH_tally_80, rH_tally_81, rH_tally_82, rH_tally_85, rH_tally_86, rH_tally_87, rH_tally_88, rH_tally_91, rH_tally_92, rH_tally_93, rH_tally_94, rH_tally_97, rH_tally_98, rH_tally_99, rH_tally_100, rH_tally_103, rH_tally_104, rH_tally_105, rH_tally_108, rH_tally_109, rH_tally_110, rH_tally_113, rH_tally_114, rH_tally_115, rH_tally_118, rH_tally_119, rH_tally_120, rH_tally_123, rH_tally_124, rH_tally_125, rH_tally_128, rH_tally_129, rH_tally_130, rH_tally_133, rH_tally_134, rH_tally_135, rH_tally_138, rH_tally_139, rH_tally_140, rH_tally_143, rH_tally_144, rH_tally_145, rH_tally_148, rH_tally_149, rH_tally_150, rH_tally_153, rH_tally_154, rH_tally_155, rH_tally_156, rH_tally_159, rH_tally_160, rH_tally_161, rH_tally_162, rH_tally_165, rH_tally_166, rH_tally_167, rH_tally_170, rH_tally_171, rH_tally_172, rH_tally_173, rH_tally_176, rH_tally_179, rH_tally_182, rH_tally_183, rH_tally_186, rH_tally_187, ct1_i, ct1_r, ct1_n, true_and, and_true, tl_s, tl_n, le4_0, le4_1, le4_2, le4_3, le4_4, le4_5, isO_r, cl_, emb1, emb2, le_rN, up1_at, up1_up1, sp_H_tally_T_at, sp_H_tally_H_kitesThatAre, sp_H_tally_H_sumOfSpools, sp_H_tally_H_flagIsUp, ob_h hi, vs_0 hi, vs_1 hi, vs_2 hi, vs_3 hi, vs_4 hi, vs_6 hi, vs_7 hi, vh_7 hi, obt_7 hi, qT_at_7 hi, q_H_kitesThatAre hi, q_H_sumOfSpools hi, h1, h2]
    exact hQ
  · show Vf 36 _ _ 0 [.ref (hutA i), .int 2] [] (emb σ) _
    simp only [rH_tally_0, rH_tally_1_0, rH_tally_1_1, rH_tally_1_2, rH_tally_1_3, rH_tally_1_4, rH_tally_1_5, rH_tally_1_6, rH_tally_1_7, rH_tally_1_8, rH_tally_1_9, rH_tally_1_10, rH_tally_1_11, rH_tally_1_12, rH_tally_1_13, rH_tally_1_14, rH_tally_76, rH_tally_77, rH_tally_80, rH_tally_81, rH_tally_82, rH_tally_85, rH_tally_86, rH_tally_87, rH_tally_88, rH_tally_91, rH_tally_92, rH_tally_93, rH_tally_94, rH_tally_97, rH_tally_98, rH_tally_99, rH_tally_100, rH_tally_103, rH_tally_104, rH_tally_105, rH_tally_108, rH_tally_109, rH_tally_110, rH_tally_113, rH_tally_114, rH_tally_115, rH_tally_118, rH_tally_119, rH_tally_120, rH_tally_123, rH_tally_124, rH_tally_125, rH_tally_128, rH_tally_129, rH_tally_130, rH_tally_133, rH_tally_134, rH_tally_135, rH_tally_138, rH_tally_139, rH_tally_140, rH_tally_143, rH_tally_144, rH_tally_145, rH_tally_148, rH_tally_149, rH_tally_150, rH_tally_153, rH_tally_154, rH_tally_155, rH_tally_156, rH_tally_159, rH_tally_160, rH_tally_161, rH_tally_162, rH_tally_165, rH_tally_166, rH_tally_167, rH_tally_170, rH_tally_171, rH_tally_172, rH_tally_173, rH_tally_176, rH_tally_179, rH_tally_182, rH_tally_183, rH_tally_186, rH_tally_187, ct1_i, ct1_r, ct1_n, true_and, and_true, tl_s, tl_n, le4_0, le4_1, le4_2, le4_3, le4_4, le4_5, isO_r, cl_, emb1, emb2, le_rN, up1_at, up1_up1, sp_H_tally_T_at, sp_H_tally_H_kitesThatAre, sp_H_tally_H_sumOfSpools, sp_H_tally_H_flagIsUp, ob_h hi, vs_0 hi, vs_1 hi, vs_2 hi, vs_3 hi, vs_4 hi, vs_6 hi, vs_7 hi, vh_7 hi, obt_7 hi, qT_at_7 hi, q_H_kitesThatAre hi, q_H_sumOfSpools hi, h1, h2]
    exact hQ
  · show Vf 36 _ _ 0 [.ref (hutA i), .int 3] [] (emb σ) _
    simp only [rH_tally_0, rH_tally_1_0, rH_tally_1_1, rH_tally_1_2, rH_tally_1_3, rH_tally_1_4, rH_tally_1_5, rH_tally_1_6, rH_tally_1_7, rH_tally_1_8, rH_tally_1_9, rH_tally_1_10, rH_tally_1_11, rH_tally_1_12, rH_tally_1_13, rH_tally_1_14, rH_tally_76, rH_tally_77, rH_tally_80, rH_tally_81, rH_tally_82, rH_tally_85, rH_tally_86, rH_tally_87, rH_tally_88, rH_tally_91, rH_tally_92, rH_tally_93, rH_tally_94, rH_tally_97, rH_tally_98, rH_tally_99, rH_tally_100, rH_tally_103, rH_tally_104, rH_tally_105, rH_tally_108, rH_tally_109, rH_tally_110, rH_tally_113, rH_tally_114, rH_tally_115, rH_tally_118, rH_tally_119, rH_tally_120, rH_tally_123, rH_tally_124, rH_tally_125, rH_tally_128, rH_tally_129, rH_tally_130, rH_tally_133, rH_tally_134, rH_tally_135, rH_tally_138, rH_tally_139, rH_tally_140, rH_tally_143, rH_tally_144, rH_tally_145, rH_tally_148, rH_tally_149, rH_tally_150, rH_tally_153, rH_tally_154, rH_tally_155, rH_tally_156, rH_tally_159, rH_tally_160, rH_tally_161, rH_tally_162, rH_tally_165, rH_tally_166, rH_tally_167, rH_tally_170, rH_tally_171, rH_tally_172, rH_tally_173, rH_tally_176, rH_tally_179, rH_tally_182, rH_tally_183, rH_tally_186, rH_tally_187, ct1_i, ct1_r, ct1_n, true_and, and_true, tl_s, tl_n, le4_0, le4_1, le4_2, le4_3, le4_4, le4_5, isO_r, cl_, emb1, emb2, le_rN, up1_at, up1_up1, sp_H_tally_T_at, sp_H_tally_H_kitesThatAre, sp_H_tally_H_sumOfSpools, sp_H_tally_H_flagIsUp, ob_h hi, vs_0 hi, vs_1 hi, vs_2 hi, vs_3 hi, vs_4 hi, vs_6 hi, vs_7 hi, vh_7 hi, obt_7 hi, qT_at_7 hi, q_H_kitesThatAre hi, q_H_sumOfSpools hi, h1, h2]
    exact hQ
  · show Vf 36 _ _ 0 [.ref (hutA i), .int 4] [] (emb σ) _
    simp only [rH_tally_0, rH_tally_1_0, rH_tally_1_1, rH_tally_1_2, rH_tally_1_3, rH_tally_1_4, rH_tally_1_5, rH_tally_1_6, rH_tally_1_7, rH_tally_1_8, rH_tally_1_9, rH_tally_1_10, rH_tally_1_11, rH_tally_1_12, rH_tally_1_13, rH_tally_1_14, rH_tally_76, rH_tally_77, rH_tally_80, rH_tally_81, rH_tally_82, rH_tally_85, rH_tally_86, rH_tally_87, rH_tally_88, rH_tally_91, rH_tally_92, rH_tally_93, rH_tally_94, rH_tally_97, rH_tally_98, rH_tally_99, rH_tally_100, rH_tally_103, rH_tally_104, rH_tally_105, rH_tally_108, rH_tally_109, rH_tally_110, rH_tally_113, rH_tally_114, rH_tally_115, rH_tally_118, rH_tally_119, rH_tally_120, rH_tally_123, rH_tally_124, rH_tally_125, rH_tally_128, rH_tally_129, rH_tally_130, rH_tally_133, rH_tally_134, rH_tally_135, rH_tally_138, rH_tally_139, rH_tally_140, rH_tally_143, rH_tally_144, rH_tally_145, rH_tally_148, rH_tally_149, rH_tally_150, rH_tally_153, rH_tally_154, rH_tally_155, rH_tally_156, rH_tally_159, rH_tally_160, rH_tally_161, rH_tally_162, rH_tally_165, rH_tally_166, rH_tally_167, rH_tally_170, rH_tally_171, rH_tally_172, rH_tally_173, rH_tally_176, rH_tally_179, rH_tally_182, rH_tally_183, rH_tally_186, rH_tally_187, ct1_i, ct1_r, ct1_n, true_and, and_true, tl_s, tl_n, le4_0, le4_1, le4_2, le4_3, le4_4, le4_5, isO_r, cl_, emb1, emb2, le_rN, up1_at, up1_up1, sp_H_tally_T_at, sp_H_tally_H_kitesThatAre, sp_H_tally_H_sumOfSpools, sp_H_tally_H_flagIsUp, ob_h hi, vs_0 hi, vs_1 hi, vs_2 hi, vs_3 hi, vs_4 hi, vs_6 hi, vs_7 hi, vh_7 hi, obt_7 hi, qT_at_7 hi, q_H_kitesThatAre hi, q_H_sumOfSpools hi, h1, h2]
    exact hQ
  · show Vf 36 _ _ 0 [.ref (hutA i), .int 5] [] (emb σ) _
    simp only [rH_tally_0, rH_tally_1_0, rH_tally_1_1, rH_tally_1_2, rH_tally_1_3, rH_tally_1_4, rH_tally_1_5, rH_tally_1_6, rH_tally_1_7, rH_tally_1_8, rH_tally_1_9, rH_tally_1_10, rH_tally_1_11, rH_tally_1_12, rH_tally_1_13, rH_tally_1_14, rH_tally_76, rH_tally_77, rH_tally_80, rH_tally_81, rH_tally_82, rH_tally_85, rH_tally_86, rH_tally_87, rH_tally_88, rH_tally_91, rH_tally_92, rH_tally_93, rH_tally_94, rH_tally_97, rH_tally_98, rH_tally_99, rH_tally_100, rH_tally_103, rH_tally_104, rH_tally_105, rH_tally_108, rH_tally_109, rH_tally_110, rH_tally_113, rH_tally_114, rH_tally_115, rH_tally_118, rH_tally_119, rH_tally_120, rH_tally_123, rH_tally_124, rH_tally_125, rH_tally_128, rH_tally_129, rH_tally_130, rH_tally_133, rH_tally_134, rH_tally_135, rH_tally_138, rH_tally_139, rH_tally_140, rH_tally_143, rH_tally_144, rH_tally_145, rH_tally_148, rH_tally_149, rH_tally_150, rH_tally_153, rH_tally_154, rH_tally_155, rH_tally_156, rH_tally_159, rH_tally_160, rH_tally_161, rH_tally_162, rH_tally_165, rH_tally_166, rH_tally_167, rH_tally_170, rH_tally_171, rH_tally_172, rH_tally_173, rH_tally_176, rH_tally_179, rH_tally_182, rH_tally_183, rH_tally_186, rH_tally_187, ct1_i, ct1_r, ct1_n, true_and, and_true, tl_s, tl_n, le4_0, le4_1, le4_2, le4_3, le4_4, le4_5, isO_r, cl_, emb1, emb2, le_rN, up1_at, up1_up1, sp_H_tally_T_at, sp_H_tally_H_kitesThatAre, sp_H_tally_H_sumOfSpools, sp_H_tally_H_flagIsUp, ob_h hi, vs_0 hi, vs_1 hi, vs_2 hi, vs_3 hi, vs_4 hi, vs_6 hi, vs_7 hi, vh_7 hi, obt_7 hi, qT_at_7 hi, q_H_kitesThatAre hi, q_H_sumOfSpools hi, h1, h2]
    exact hQ
  · show Vf 36 _ _ 0 [.ref (hutA i), .int 6] [] (emb σ) _
    simp only [rH_tally_0, rH_tally_1_0, rH_tally_1_1, rH_tally_1_2, rH_tally_1_3, rH_tally_1_4, rH_tally_1_5, rH_tally_1_6, rH_tally_1_7, rH_tally_1_8, rH_tally_1_9, rH_tally_1_10, rH_tally_1_11, rH_tally_1_12, rH_tally_1_13, rH_tally_1_14, rH_tally_76, rH_tally_77, rH_tally_80, rH_tally_81, rH_tally_82, rH_tally_85, rH_tally_86, rH_tally_87, rH_tally_88, rH_tally_91, rH_tally_92, rH_tally_93, rH_tally_94, rH_tally_97, rH_tally_98, rH_tally_99, rH_tally_100, rH_tally_103, rH_tally_104, rH_tally_105, rH_tally_108, rH_tally_109, rH_tally_110, rH_tally_113, rH_tally_114, rH_tally_115, rH_tally_118, rH_tally_119, rH_tally_120, rH_tally_123, rH_tally_124, rH_tally_125, rH_tally_128, rH_tally_129, rH_tally_130, rH_tally_133, rH_tally_134, rH_tally_135, rH_tally_138, rH_tally_139, rH_tally_140, rH_tally_143, rH_tally_144, rH_tally_145, rH_tally_148, rH_tally_149, rH_tally_150, rH_tally_153, rH_tally_154, rH_tally_155, rH_tally_156, rH_tally_159, rH_tally_160, rH_tally_161, rH_tally_162, rH_tally_165, rH_tally_166, rH_tally_167, rH_tally_170, rH_tally_171, rH_tally_172, rH_tally_173, rH_tally_176, rH_tally_179, rH_tally_182, rH_tally_183, rH_tally_186, rH_tally_187, ct1_i, ct1_r, ct1_n, true_and, and_true, tl_s, tl_n, le4_0, le4_1, le4_2, le4_3, le4_4, le4_5, isO_r, cl_, emb1, emb2, le_rN, up1_at, up1_up1, sp_H_tally_T_at, sp_H_tally_H_kitesThatAre, sp_H_tally_H_sumOfSpools, sp_H_tally_H_flagIsUp, ob_h hi, vs_0 hi, vs_1 hi, vs_2 hi, vs_3 hi, vs_4 hi, vs_6 hi, vs_7 hi, vh_7 hi, obt_7 hi, qT_at_7 hi, q_H_kitesThatAre hi, q_H_sumOfSpools hi, h1, h2]
    exact hQ
  · show Vf 36 _ _ 0 [.ref (hutA i), .int 7] [] (emb σ) _
    simp only [rH_tally_0, rH_tally_1_0, rH_tally_1_1, rH_tally_1_2, rH_tally_1_3, rH_tally_1_4, rH_tally_1_5, rH_tally_1_6, rH_tally_1_7, rH_tally_1_8, rH_tally_1_9, rH_tally_1_10, rH_tally_1_11, rH_tally_1_12, rH_tally_1_13, rH_tally_1_14, rH_tally_76, rH_tally_77, rH_tally_80, rH_tally_81, rH_tally_82, rH_tally_85, rH_tally_86, rH_tally_87, rH_tally_88, rH_tally_91, rH_tally_92, rH_tally_93, rH_tally_94, rH_tally_97, rH_tally_98, rH_tally_99, rH_tally_100, rH_tally_103, rH_tally_104, rH_tally_105, rH_tally_108, rH_tally_109, rH_tally_110, rH_tally_113, rH_tally_114, rH_tally_115, rH_tally_118, rH_tally_119, rH_tally_120, rH_tally_123, rH_tally_124, rH_tally_125, rH_tally_128, rH_tally_129, rH_tally_130, rH_tally_133, rH_tally_134, rH_tally_135, rH_tally_138, rH_tally_139, rH_tally_140, rH_tally_143, rH_tally_144, rH_tally_145, rH_tally_148, rH_tally_149, rH_tally_150, rH_tally_153, rH_tally_154, rH_tally_155, rH_tally_156, rH_tally_159, rH_tally_160, rH_tally_161, rH_tally_162, rH_tally_165, rH_tally_166, rH_tally_167, rH_tally_170, rH_tally_171, rH_tally_172, rH_tally_173, rH_tally_176, rH_tally_179, rH_tally_182, rH_tally_183, rH_tally_186, rH_tally_187, ct1_i, ct1_r, ct1_n, true_and, and_true, tl_s, tl_n, le4_0, le4_1, le4_2, le4_3, le4_4, le4_5, isO_r, cl_, emb1, emb2, le_rN, up1_at, up1_up1, sp_H_tally_T_at, sp_H_tally_H_kitesThatAre, sp_H_tally_H_sumOfSpools, sp_H_tally_H_flagIsUp, ob_h hi, vs_0 hi, vs_1 hi, vs_2 hi, vs_3 hi, vs_4 hi, vs_6 hi, vs_7 hi, vh_7 hi, obt_7 hi, qT_at_7 hi, q_H_kitesThatAre hi, q_H_sumOfSpools hi, h1, h2]
    exact hQ
  · show Vf 36 _ _ 0 [.ref (hutA i), .int 8] [] (emb σ) _
    simp only [rH_tally_0, rH_tally_1_0, rH_tally_1_1, rH_tally_1_2, rH_tally_1_3, rH_tally_1_4, rH_tally_1_5, rH_tally_1_6, rH_tally_1_7, rH_tally_1_8, rH_tally_1_9, rH_tally_1_10, rH_tally_1_11, rH_tally_1_12, rH_tally_1_13, rH_tally_1_14, rH_tally_76, rH_tally_77, rH_tally_80, rH_tally_81, rH_tally_82, rH_tally_85, rH_tally_86, rH_tally_87, rH_tally_88, rH_tally_91, rH_tally_92, rH_tally_93, rH_tally_94, rH_tally_97, rH_tally_98, rH_tally_99, rH_tally_100, rH_tally_103, rH_tally_104, rH_tally_105, rH_tally_108, rH_tally_109, rH_tally_110, rH_tally_113, rH_tally_114, rH_tally_115, rH_tally_118, rH_tally_119, rH_tally_120, rH_tally_123, rH_tally_124, rH_tally_125, rH_tally_128, rH_tally_129, rH_tally_130, rH_tally_133, rH_tally_134, rH_tally_135, rH_tally_138, rH_tally_139, rH_tally_140, rH_tally_143, rH_tally_144, rH_tally_145, rH_tally_148, rH_tally_149, rH_tally_150, rH_tally_153, rH_tally_154, rH_tally_155, rH_tally_156, rH_tally_159, rH_tally_160, rH_tally_161, rH_tally_162, rH_tally_165, rH_tally_166, rH_tally_167, rH_tally_170, rH_tally_171, rH_tally_172, rH_tally_173, rH_tally_176, rH_tally_179, rH_tally_182, rH_tally_183, rH_tally_186, rH_tally_187, ct1_i, ct1_r, ct1_n, true_and, and_true, tl_s, tl_n, le4_0, le4_1, le4_2, le4_3, le4_4, le4_5, isO_r, cl_, emb1, emb2, le_rN, up1_at, up1_up1, sp_H_tally_T_at, sp_H_tally_H_kitesThatAre, sp_H_tally_H_sumOfSpools, sp_H_tally_H_flagIsUp, ob_h hi, vs_0 hi, vs_1 hi, vs_2 hi, vs_3 hi, vs_4 hi, vs_6 hi, vs_7 hi, vh_7 hi, obt_7 hi, qT_at_7 hi, q_H_kitesThatAre hi, q_H_sumOfSpools hi, h1, h2]
    exact hQ
  · show Vf 36 _ _ 0 [.ref (hutA i), .int 9] [] (emb σ) _
    simp only [rH_tally_0, rH_tally_1_0, rH_tally_1_1, rH_tally_1_2, rH_tally_1_3, rH_tally_1_4, rH_tally_1_5, rH_tally_1_6, rH_tally_1_7, rH_tally_1_8, rH_tally_1_9, rH_tally_1_10, rH_tally_1_11, rH_tally_1_12, rH_tally_1_13, rH_tally_1_14, rH_tally_76, rH_tally_77, rH_tally_80, rH_tally_81, rH_tally_82, rH_tally_85, rH_tally_86, rH_tally_87, rH_tally_88, rH_tally_91, rH_tally_92, rH_tally_93, rH_tally_94, rH_tally_97, rH_tally_98, rH_tally_99, rH_tally_100, rH_tally_103, rH_tally_104, rH_tally_105, rH_tally_108, rH_tally_109, rH_tally_110, rH_tally_113, rH_tally_114, rH_tally_115, rH_tally_118, rH_tally_119, rH_tally_120, rH_tally_123, rH_tally_124, rH_tally_125, rH_tally_128, rH_tally_129, rH_tally_130, rH_tally_133, rH_tally_134, rH_tally_135, rH_tally_138, rH_tally_139, rH_tally_140, rH_tally_143, rH_tally_144, rH_tally_145, rH_tally_148, rH_tally_149, rH_tally_150, rH_tally_153, rH_tally_154, rH_tally_155, rH_tally_156, rH_tally_159, rH_tally_160, rH_tally_161, rH_tally_162, rH_tally_165, rH_tally_166, rH_tally_167, rH_tally_170, rH_tally_171, rH_tally_172, rH_tally_173, rH_tally_176, rH_tally_179, rH_tally_182, rH_tally_183, rH_tally_186, rH_tally_187, ct1_i, ct1_r, ct1_n, true_and, and_true, tl_s, tl_n, le4_0, le4_1, le4_2, le4_3, le4_4, le4_5, isO_r, cl_, emb1, emb2, le_rN, up1_at, up1_up1, sp_H_tally_T_at, sp_H_tally_H_kitesThatAre, sp_H_tally_H_sumOfSpools, sp_H_tally_H_flagIsUp, ob_h hi, vs_0 hi, vs_1 hi, vs_2 hi, vs_3 hi, vs_4 hi, vs_6 hi, vs_7 hi, vh_7 hi, obt_7 hi, qT_at_7 hi, q_H_kitesThatAre hi, q_H_sumOfSpools hi, h1, h2]
    exact hQ
  · show Vf 36 _ _ 0 [.ref (hutA i), .int 10] [] (emb σ) _
    simp only [rH_tally_0, rH_tally_1_0, rH_tally_1_1, rH_tally_1_2, rH_tally_1_3, rH_tally_1_4, rH_tally_1_5, rH_tally_1_6, rH_tally_1_7, rH_tally_1_8, rH_tally_1_9, rH_tally_1_10, rH_tally_1_11, rH_tally_1_12, rH_tally_1_13, rH_tally_1_14, rH_tally_76, rH_tally_77, rH_tally_80, rH_tally_81, rH_tally_82, rH_tally_85, rH_tally_86, rH_tally_87, rH_tally_88, rH_tally_91, rH_tally_92, rH_tally_93, rH_tally_94, rH_tally_97, rH_tally_98, rH_tally_99, rH_tally_100, rH_tally_103, rH_tally_104, rH_tally_105, rH_tally_108, rH_tally_109, rH_tally_110, rH_tally_113, rH_tally_114, rH_tally_115, rH_tally_118, rH_tally_119, rH_tally_120, rH_tally_123, rH_tally_124, rH_tally_125, rH_tally_128, rH_tally_129, rH_tally_130, rH_tally_133, rH_tally_134, rH_tally_135, rH_tally_138, rH_tally_139, rH_tally_140, rH_tally_143, rH_tally_144, rH_tally_145, rH_tally_148, rH_tally_149, rH_tally_150, rH_tally_153, rH_tally_154, rH_tally_155, rH_tally_156, rH_tally_159, rH_tally_160, rH_tally_161, rH_tally_162, rH_tally_165, rH_tally_166, rH_tally_167, rH_tally_170, rH_tally_171, rH_tally_172, rH_tally_173, rH_tally_176, rH_tally_179, rH_tally_182, rH_tally_183, rH_tally_186, rH_tally_187, ct1_i, ct1_r, ct1_n, true_and, and_true, tl_s, tl_n, le4_0, le4_1, le4_2, le4_3, le4_4, le4_5, isO_r, cl_, emb1, emb2, le_rN, up1_at, up1_up1, sp_H_tally_T_at, sp_H_tally_H_kitesThatAre, sp_H_tally_H_sumOfSpools, sp_H_tally_H_flagIsUp, ob_h hi, vs_0 hi, vs_1 hi, vs_2 hi, vs_3 hi, vs_4 hi, vs_6 hi, vs_7 hi, vh_7 hi, obt_7 hi, qT_at_7 hi, q_H_kitesThatAre hi, q_H_sumOfSpools hi, h1, h2]
    exact hQ
  · show Vf 36 _ _ 0 [.ref (hutA i), .int 11] [] (emb σ) _
    simp only [rH_tally_0, rH_tally_1_0, rH_tally_1_1, rH_tally_1_2, rH_tally_1_3, rH_tally_1_4, rH_tally_1_5, rH_tally_1_6, rH_tally_1_7, rH_tally_1_8, rH_tally_1_9, rH_tally_1_10, rH_tally_1_11, rH_tally_1_12, rH_tally_1_13, rH_tally_1_14, rH_tally_76, rH_tally_77, rH_tally_80, rH_tally_81, rH_tally_82, rH_tally_85, rH_tally_86, rH_tally_87, rH_tally_88, rH_tally_91, rH_tally_92, rH_tally_93, rH_tally_94, rH_tally_97, rH_tally_98, rH_tally_99, rH_tally_100, rH_tally_103, rH_tally_104, rH_tally_105, rH_tally_108, rH_tally_109, rH_tally_110, rH_tally_113, rH_tally_114, rH_tally_115, rH_tally_118, rH_tally_119, rH_tally_120, rH_tally_123, rH_tally_124, rH_tally_125, rH_tally_128, rH_tally_129, rH_tally_130, rH_tally_133, rH_tally_134, rH_tally_135, rH_tally_138, rH_tally_139, rH_tally_140, rH_tally_143, rH_tally_144, rH_tally_145, rH_tally_148, rH_tally_149, rH_tally_150, rH_tally_153, rH_tally_154, rH_tally_155, rH_tally_156, rH_tally_159, rH_tally_160, rH_tally_161, rH_tally_162, rH_tally_165, rH_tally_166, rH_tally_167, rH_tally_170, rH_tally_171, rH_tally_172, rH_tally_173, rH_tally_176, rH_tally_179, rH_tally_182, rH_tally_183, rH_tally_186, rH_tally_187, ct1_i, ct1_r, ct1_n, true_and, and_true, tl_s, tl_n, le4_0, le4_1, le4_2, le4_3, le4_4, le4_5, isO_r, cl_, emb1, emb2, le_rN, up1_at, up1_up1, sp_H_tally_T_at, sp_H_tally_H_kitesThatAre, sp_H_tally_H_sumOfSpools, sp_H_tally_H_flagIsUp, ob_h hi, vs_0 hi, vs_1 hi, vs_2 hi, vs_3 hi, vs_4 hi, vs_6 hi, vs_7 hi, vh_7 hi, obt_7 hi, qT_at_7 hi, q_H_kitesThatAre hi, q_H_sumOfSpools hi, h1, h2]
    exact hQ
  · show Vf 36 _ _ 0 [.ref (hutA i), .int 12] [] (emb σ) _
    simp only [rH_tally_0, rH_tally_1_0, rH_tally_1_1, rH_tally_1_2, rH_tally_1_3, rH_tally_1_4, rH_tally_1_5, rH_tally_1_6, rH_tally_1_7, rH_tally_1_8, rH_tally_1_9, rH_tally_1_10, rH_tally_1_11, rH_tally_1_12, rH_tally_1_13, rH_tally_1_14, rH_tally_76, rH_tally_77, rH_tally_80, rH_tally_81, rH_tally_82, rH_tally_85, rH_tally_86, rH_tally_87, rH_tally_88, rH_tally_91, rH_tally_92, rH_tally_93, rH_tally_94, rH_tally_97, rH_tally_98, rH_tally_99, rH_tally_100, rH_tally_103, rH_tally_104, rH_tally_105, rH_tally_108, rH_tally_109, rH_tally_110, rH_tally_113, rH_tally_114, rH_tally_115, rH_tally_118, rH_tally_119, rH_tally_120, rH_tally_123, rH_tally_124, rH_tally_125, rH_tally_128, rH_tally_129, rH_tally_130, rH_tally_133, rH_tally_134, rH_tally_135, rH_tally_138, rH_tally_139, rH_tally_140, rH_tally_143, rH_tally_144, rH_tally_145, rH_tally_148, rH_tally_149, rH_tally_150, rH_tally_153, rH_tally_154, rH_tally_155, rH_tally_156, rH_tally_159, rH_tally_160, rH_tally_161, rH_tally_162, rH_tally_165, rH_tally_166, rH_tally_167, rH_tally_170, rH_tally_171, rH_tally_172, rH_tally_173, rH_tally_176, rH_tally_179, rH_tally_182, rH_tally_183, rH_tally_186, rH_tally_187, ct1_i, ct1_r, ct1_n, true_and, and_true, tl_s, tl_n, le4_0, le4_1, le4_2, le4_3, le4_4, le4_5, isO_r, cl_, emb1, emb2, le_rN, up1_at, up1_up1, sp_H_tally_T_at, sp_H_tally_H_kitesThatAre, sp_H_tally_H_sumOfSpools, sp_H_tally_H_flagIsUp, ob_h hi, vs_0 hi, vs_1 hi, vs_2 hi, vs_3 hi, vs_4 hi, vs_6 hi, vs_7 hi, vh_7 hi, obt_7 hi, qT_at_7 hi, q_H_kitesThatAre hi, q_H_sumOfSpools hi, h1, h2]
    exact hQ
  · show Vf 36 _ _ 0 [.ref (hutA i), .int 13] [] (emb σ) _
    simp only [rH_tally_0, rH_tally_1_0, rH_tally_1_1, rH_tally_1_2, rH_tally_1_3, rH_tally_1_4, rH_tally_1_5, rH_tally_1_6, rH_tally_1_7, rH_tally_1_8, rH_tally_1_9, rH_tally_1_10, rH_tally_1_11, rH_tally_1_12, rH_tally_1_13, rH_tally_1_14, rH_tally_76, rH_tally_77, rH_tally_80, rH_tally_81, rH_tally_82, rH_tally_85, rH_tally_86, rH_tally_87, rH_tally_88, rH_tally_91, rH_tally_92, rH_tally_93, rH_tally_94, rH_tally_97, rH_tally_98, rH_tally_99, rH_tally_100, rH_tally_103, rH_tally_104, rH_tally_105, rH_tally_108, rH_tally_109, rH_tally_110, rH_tally_113, rH_tally_114, rH_tally_115, rH_tally_118, rH_tally_119, rH_tally_120, rH_tally_123, rH_tally_124, rH_tally_125, rH_tally_128, rH_tally_129, rH_tally_130, rH_tally_133, rH_tally_134, rH_tally_135, rH_tally_138, rH_tally_139, rH_tally_140, rH_tally_143, rH_tally_144, rH_tally_145, rH_tally_148, rH_tally_149, rH_tally_150, rH_tally_153, rH_tally_154, rH_tally_155, rH_tally_156, rH_tally_159, rH_tally_160, rH_tally_161, rH_tally_162, rH_tally_165, rH_tally_166, rH_tally_167, rH_tally_170, rH_tally_171, rH_tally_172, rH_tally_173, rH_tally_176, rH_tally_179, rH_tally_182, rH_tally_183, rH_tally_186, rH_tally_187, ct1_i, ct1_r, ct1_n, true_and, and_true, tl_s, tl_n, le4_0, le4_1, le4_2, le4_3, le4_4, le4_5, isO_r, cl_, emb1, emb2, le_rN, up1_at, up1_up1, sp_H_tally_T_at, sp_H_tally_H_kitesThatAre, sp_H_tally_H_sumOfSpools, sp_H_tally_H_flagIsUp, ob_h hi, vs_0 hi, vs_1 hi, vs_2 hi, vs_3 hi, vs_4 hi, vs_6 hi, vs_7 hi, vh_7 hi, obt_7 hi, qT_at_7 hi, q_H_kitesThatAre hi, q_H_sumOfSpools hi, h1, h2]
    exact hQ
  · show Vf 36 _ _ 0 [.ref (hutA i), .int 14] [] (emb σ) _
    simp only [rH_tally_0, rH_tally_1_0, rH_tally_1_1, rH_tally_1_2, rH_tally_1_3, rH_tally_1_4, rH_tally_1_5, rH_tally_1_6, rH_tally_1_7, rH_tally_1_8, rH_tally_1_9, rH_tally_1_10, rH_tally_1_11, rH_tally_1_12, rH_tally_1_13, rH_tally_1_14, rH_tally_76, rH_tally_77, rH_tally_80, rH_tally_81, rH_tally_82, rH_tally_85, rH_tally_86, rH_tally_87, rH_tally_88, rH_tally_91, rH_tally_92, rH_tally_93, rH_tally_94, rH_tally_97, rH_tally_98, rH_tally_99, rH_tally_100, rH_tally_103, rH_tally_104, rH_tally_105, rH_tally_108, rH_tally_109, rH_tally_110, rH_tally_113, rH_tally_114, rH_tally_115, rH_tally_118, rH_tally_119, rH_tally_120, rH_tally_123, rH_tally_124, rH_tally_125, rH_tally_128, rH_tally_129, rH_tally_130, rH_tally_133, rH_tally_134, rH_tally_135, rH_tally_138, rH_tally_139, rH_tally_140, rH_tally_143, rH_tally_144, rH_tally_145, rH_tally_148, rH_tally_149, rH_tally_150, rH_tally_153, rH_tally_154, rH_tally_155, rH_tally_156, rH_tally_159, rH_tally_160, rH_tally_161, rH_tally_162, rH_tally_165, rH_tally_166, rH_tally_167, rH_tally_170, rH_tally_171, rH_tally_172, rH_tally_173, rH_tally_176, rH_tally_179, rH_tally_182, rH_tally_183, rH_tally_186, rH_tally_187, ct1_i, ct1_r, ct1_n, true_and, and_true, tl_s, tl_n, le4_0, le4_1, le4_2, le4_3, le4_4, le4_5, isO_r, cl_, emb1, emb2, le_rN, up1_at, up1_up1, sp_H_tally_T_at, sp_H_tally_H_kitesThatAre, sp_H_tally_H_sumOfSpools, sp_H_tally_H_flagIsUp, ob_h hi, vs_0 hi, vs_1 hi, vs_2 hi, vs_3 hi, vs_4 hi, vs_6 hi, vs_7 hi, vh_7 hi, obt_7 hi, qT_at_7 hi, q_H_kitesThatAre hi, q_H_sumOfSpools hi, h1, h2]
    exact hQ))
