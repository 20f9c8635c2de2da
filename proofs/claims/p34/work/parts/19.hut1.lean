/-! THE HUT: its small methods -/
def windAt (w : HV) (h : Int32) : Int32 := at_ (w 0) 1 1000 h 0
def settg (w : HV) (k : Int32) : Int32 := at_ (w 1) 1 5 k 0
/-- the columns of kites, spools, tails, hires -/
def kt (w : HV) (r c : Int32) : Int32 := at_ (w 2) 8 128 r c
def sl (w : HV) (r c : Int32) : Int32 := at_ (w 3) 4 40 r c
def tl (w : HV) (r c : Int32) : Int32 := at_ (w 4) 3 18 r c
def hr (w : HV) (r c : Int32) : Int32 := at_ (w 5) 7 70 r c
theorem pt_ne {w : HV} {k k' : Fin 9} {cols : Int32} {len : Nat} {r c x : Int32} (h : k' ≠ k) : pt w k cols len r c x k' = w k' := by
  unfold pt
  split
  · rfl
  · split
    · funext t
      unfold up2
      rw [if_neg (fun q => h q.1)]
    · rfl
theorem pa_ne {w : HV} {k k' : Fin 9} {cols : Int32} {len : Nat} {r c x : Int32} (h : k' ≠ k) : pa w k cols len r c x k' = w k' := by
  unfold pa
  split
  · rfl
  · split
    · funext t
      unfold up2
      rw [if_neg (fun q => h q.1)]
    · rfl
theorem up2_ne {w : HV} {k k' : Fin 9} {t : Nat} {x : Int32} (h : k' ≠ k) : up2 w k t x k' = w k' := by
  funext j
  unfold up2
  rw [if_neg (fun q => h q.1)]
theorem up2_at (w : HV) (k : Fin 9) (t : Nat) (x : Int32) : up2 w k t x k t = x := by unfold up2; rw [if_pos ⟨rfl, rfl⟩]

def sp_H_windAt : Nat → Sp := spL [(4, f_T_at)]
theorem sp_H_windAt_T_at : sp_H_windAt 4 = f_T_at := rfl
def f_H_windAt : Sp := aS 7 hutA 1 (gL1 (fun i x σ => (True, some (.int (windAt (σ i) x)), σ)))
theorem q_H_windAt {i : Nat} {x : Int32} {σ : SG} (hi : i < 7) : f_H_windAt [.ref (hutA i), .int x] (emb σ) = (True, some (.int (windAt (σ i) x)), emb (σ)) := aS1_at (ad := hutA) hi (hI_h hi)
set_option maxHeartbeats 4000000 in
set_option maxRecDepth 20000 in
theorem ok_H_windAt : SpecOK 9 f_H_windAt := SpecOK.of (sp := sp_H_windAt) (by decide) (by decide) (spL_ok (List.forall_mem_cons.mpr ⟨ok_T_at, (fun q h => absurd h List.not_mem_nil)⟩)) (Does_aS1 (Nat.le_of_ble_eq_true rfl) (fun sc i x σ hi had hp => by
  show Vf 9 _ _ 0 [.ref (hutA i), .int x] [] (emb σ) _
  simp only [rH_windAt_0, rH_windAt_1, rH_windAt_4, rH_windAt_5, rH_windAt_6, rH_windAt_9, ct1_i, ct1_r, ct1_n, true_and, and_true, tl_s, tl_n, le4_0, le4_1, le4_2, le4_3, le4_4, le4_5, isO_r, cl_, emb1, emb2, le_rN, up1_at, up1_up1, sp_H_windAt_T_at, vh_0 hi, obt_0 hi, ob_h hi, qT_at_0 hi, windAt]))
def sp_H_setting : Nat → Sp := spL [(4, f_T_at)]
theorem sp_H_setting_T_at : sp_H_setting 4 = f_T_at := rfl
def f_H_setting : Sp := aS 7 hutA 1 (gL1 (fun i x σ => (True, some (.int (settg (σ i) x)), σ)))
theorem q_H_setting {i : Nat} {x : Int32} {σ : SG} (hi : i < 7) : f_H_setting [.ref (hutA i), .int x] (emb σ) = (True, some (.int (settg (σ i) x)), emb (σ)) := aS1_at (ad := hutA) hi (hI_h hi)
set_option maxHeartbeats 4000000 in
set_option maxRecDepth 20000 in
theorem ok_H_setting : SpecOK 14 f_H_setting := SpecOK.of (sp := sp_H_setting) (by decide) (by decide) (spL_ok (List.forall_mem_cons.mpr ⟨ok_T_at, (fun q h => absurd h List.not_mem_nil)⟩)) (Does_aS1 (Nat.le_of_ble_eq_true rfl) (fun sc i x σ hi had hp => by
  show Vf 14 _ _ 0 [.ref (hutA i), .int x] [] (emb σ) _
  simp only [rH_setting_0, rH_setting_1, rH_setting_4, rH_setting_5, rH_setting_6, rH_setting_9, ct1_i, ct1_r, ct1_n, true_and, and_true, tl_s, tl_n, le4_0, le4_1, le4_2, le4_3, le4_4, le4_5, isO_r, cl_, emb1, emb2, le_rN, up1_at, up1_up1, sp_H_setting_T_at, vh_1 hi, obt_1 hi, ob_h hi, qT_at_1 hi, settg]))
def sp_H_addKite : Nat → Sp := spL [(3, f_T_put)]
theorem sp_H_addKite_T_put : sp_H_addKite 3 = f_T_put := rfl
def f_H_addKite : Sp := aS 7 hutA 4 (gL4 (fun i a b c d σ => (True, some (.int (σ i 8 1)), up1 σ i (up2 (pt (pt (pt (pt (pt (σ i) 2 8 128 (σ i 8 1) 1 a) 2 8 128 (σ i 8 1) 2 b) 2 8 128 (σ i 8 1) 3 c) 2 8 128 (σ i 8 1) 4 d) 2 8 128 (σ i 8 1) 7 (-5)) 8 1 (σ i 8 1 + 1)))))
theorem q_H_addKite {i : Nat} {a b c d : Int32} {σ : SG} (hi : i < 7) : f_H_addKite [.ref (hutA i), .int a, .int b, .int c, .int d] (emb σ) = (True, some (.int (σ i 8 1)), emb (up1 σ i (up2 (pt (pt (pt (pt (pt (σ i) 2 8 128 (σ i 8 1) 1 a) 2 8 128 (σ i 8 1) 2 b) 2 8 128 (σ i 8 1) 3 c) 2 8 128 (σ i 8 1) 4 d) 2 8 128 (σ i 8 1) 7 (-5)) 8 1 (σ i 8 1 + 1)))) := aS4_at (ad := hutA) hi (hI_h hi)
set_option maxHeartbeats 4000000 in
set_option maxRecDepth 20000 in
theorem ok_H_addKite : SpecOK 11 f_H_addKite := SpecOK.of (sp := sp_H_addKite) (by decide) (by decide) (spL_ok (List.forall_mem_cons.mpr ⟨ok_T_put, (fun q h => absurd h List.not_mem_nil)⟩)) (Does_aS4 (Nat.le_of_ble_eq_true rfl) (fun sc i a b c d σ hi had hp => by
  show Vf 11 _ _ 0 [.ref (hutA i), .int a, .int b, .int c, .int d, .null] [] (emb σ) _
  simp only [rH_addKite_0, rH_addKite_1, rH_addKite_4, rH_addKite_6, rH_addKite_7, rH_addKite_10, rH_addKite_12, rH_addKite_13, rH_addKite_14, rH_addKite_17, rH_addKite_18, rH_addKite_21, rH_addKite_23, rH_addKite_24, rH_addKite_25, rH_addKite_28, rH_addKite_29, rH_addKite_32, rH_addKite_34, rH_addKite_35, rH_addKite_36, rH_addKite_39, rH_addKite_40, rH_addKite_43, rH_addKite_45, rH_addKite_46, rH_addKite_48, rH_addKite_51, rH_addKite_52, rH_addKite_55, rH_addKite_57, rH_addKite_59, rH_addKite_61, rH_addKite_64, rH_addKite_65, rH_addKite_66, rH_addKite_69, rH_addKite_70, rH_addKite_71, rH_addKite_74, rH_addKite_76, ct1_i, ct1_r, ct1_n, true_and, and_true, tl_s, tl_n, le4_0, le4_1, le4_2, le4_3, le4_4, le4_5, isO_r, cl_, emb1, emb2, le_rN, up1_at, up1_up1, sp_H_addKite_T_put, vh_2 hi, vs_1 hi, ss_1 hi, obt_2 hi, ob_h hi, qT_put_2 hi, fok_i, pt_ne, ne_eq, Fin.reduceEq, not_false_eq_true]))
def sp_H_addSpool : Nat → Sp := spL [(3, f_T_put)]
theorem sp_H_addSpool_T_put : sp_H_addSpool 3 = f_T_put := rfl
def f_H_addSpool : Sp := aS 7 hutA 1 (gL1 (fun i a σ => (True, some (.int (σ i 8 2)), up1 σ i (up2 (pt (pt (σ i) 3 4 40 (σ i 8 2) 0 a) 3 4 40 (σ i 8 2) 2 (-5)) 8 2 (σ i 8 2 + 1)))))
theorem q_H_addSpool {i : Nat} {a : Int32} {σ : SG} (hi : i < 7) : f_H_addSpool [.ref (hutA i), .int a] (emb σ) = (True, some (.int (σ i 8 2)), emb (up1 σ i (up2 (pt (pt (σ i) 3 4 40 (σ i 8 2) 0 a) 3 4 40 (σ i 8 2) 2 (-5)) 8 2 (σ i 8 2 + 1)))) := aS1_at (ad := hutA) hi (hI_h hi)
set_option maxHeartbeats 4000000 in
set_option maxRecDepth 20000 in
theorem ok_H_addSpool : SpecOK 12 f_H_addSpool := SpecOK.of (sp := sp_H_addSpool) (by decide) (by decide) (spL_ok (List.forall_mem_cons.mpr ⟨ok_T_put, (fun q h => absurd h List.not_mem_nil)⟩)) (Does_aS1 (Nat.le_of_ble_eq_true rfl) (fun sc i a σ hi had hp => by
  show Vf 12 _ _ 0 [.ref (hutA i), .int a, .null] [] (emb σ) _
  simp only [rH_addSpool_0, rH_addSpool_1, rH_addSpool_4, rH_addSpool_5, rH_addSpool_6, rH_addSpool_9, rH_addSpool_10, rH_addSpool_11, rH_addSpool_12, rH_addSpool_15, rH_addSpool_16, rH_addSpool_19, rH_addSpool_20, rH_addSpool_21, rH_addSpool_23, rH_addSpool_26, rH_addSpool_27, rH_addSpool_28, rH_addSpool_31, rH_addSpool_32, rH_addSpool_33, rH_addSpool_36, rH_addSpool_37, ct1_i, ct1_r, ct1_n, true_and, and_true, tl_s, tl_n, le4_0, le4_1, le4_2, le4_3, le4_4, le4_5, isO_r, cl_, emb1, emb2, le_rN, up1_at, up1_up1, sp_H_addSpool_T_put, vh_3 hi, vs_2 hi, ss_2 hi, obt_3 hi, ob_h hi, qT_put_3 hi, fok_i, pt_ne, ne_eq, Fin.reduceEq, not_false_eq_true]))
def sp_H_tailsOfColour : Nat → Sp := spL [(4, f_T_at)]
theorem sp_H_tailsOfColour_T_at : sp_H_tailsOfColour 4 = f_T_at := rfl
def f_H_tailsOfColour : Sp := aS 7 hutA 1 (gL1 (fun i a σ => (True, some (.int (tl (σ i) a 0 + tl (σ i) a 1 + tl (σ i) a 2)), σ)))
theorem q_H_tailsOfColour {i : Nat} {a : Int32} {σ : SG} (hi : i < 7) : f_H_tailsOfColour [.ref (hutA i), .int a] (emb σ) = (True, some (.int (tl (σ i) a 0 + tl (σ i) a 1 + tl (σ i) a 2)), emb (σ)) := aS1_at (ad := hutA) hi (hI_h hi)
set_option maxHeartbeats 4000000 in
set_option maxRecDepth 20000 in
theorem ok_H_tailsOfColour : SpecOK 13 f_H_tailsOfColour := SpecOK.of (sp := sp_H_tailsOfColour) (by decide) (by decide) (spL_ok (List.forall_mem_cons.mpr ⟨ok_T_at, (fun q h => absurd h List.not_mem_nil)⟩)) (Does_aS1 (Nat.le_of_ble_eq_true rfl) (fun sc i a σ hi had hp => by
  show Vf 13 _ _ 0 [.ref (hutA i), .int a] [] (emb σ) _
  simp only [rH_tailsOfColour_0, rH_tailsOfColour_1, rH_tailsOfColour_4, rH_tailsOfColour_5, rH_tailsOfColour_6, rH_tailsOfColour_9, rH_tailsOfColour_10, rH_tailsOfColour_13, rH_tailsOfColour_14, rH_tailsOfColour_15, rH_tailsOfColour_18, rH_tailsOfColour_19, rH_tailsOfColour_20, rH_tailsOfColour_23, rH_tailsOfColour_24, rH_tailsOfColour_25, rH_tailsOfColour_28, rH_tailsOfColour_29, ct1_i, ct1_r, ct1_n, true_and, and_true, tl_s, tl_n, le4_0, le4_1, le4_2, le4_3, le4_4, le4_5, isO_r, cl_, emb1, emb2, le_rN, up1_at, up1_up1, sp_H_tailsOfColour_T_at, vh_4 hi, obt_4 hi, ob_h hi, qT_at_4 hi, tl]))
def sp_H_isBetterSpool : Nat → Sp := spL [(4, f_T_at)]
theorem sp_H_isBetterSpool_T_at : sp_H_isBetterSpool 4 = f_T_at := rfl
def f_H_isBetterSpool : Sp := aS 7 hutA 2 (gL2 (fun i a b σ => (True, some (.int (bi (sl (σ i) a 0 < sl (σ i) b 0 ∨ (sl (σ i) a 0 = sl (σ i) b 0 ∧ sl (σ i) a 1 < sl (σ i) b 1)))), σ)))
theorem q_H_isBetterSpool {i : Nat} {a b : Int32} {σ : SG} (hi : i < 7) : f_H_isBetterSpool [.ref (hutA i), .int a, .int b] (emb σ) = (True, some (.int (bi (sl (σ i) a 0 < sl (σ i) b 0 ∨ (sl (σ i) a 0 = sl (σ i) b 0 ∧ sl (σ i) a 1 < sl (σ i) b 1)))), emb (σ)) := aS2_at (ad := hutA) hi (hI_h hi)
set_option maxHeartbeats 4000000 in
set_option maxRecDepth 20000 in
theorem ok_H_isBetterSpool : SpecOK 15 f_H_isBetterSpool := SpecOK.of (sp := sp_H_isBetterSpool) (by decide) (by decide) (spL_ok (List.forall_mem_cons.mpr ⟨ok_T_at, (fun q h => absurd h List.not_mem_nil)⟩)) (Does_aS2 (Nat.le_of_ble_eq_true rfl) (fun sc i a b σ hi had hp => by
  show Vf 15 _ _ 0 [.ref (hutA i), .int a, .int b, .null, .null] [] (emb σ) _

  simp only [rH_isBetterSpool_0, rH_isBetterSpool_1, rH_isBetterSpool_4, rH_isBetterSpool_5, rH_isBetterSpool_6, rH_isBetterSpool_9, rH_isBetterSpool_10, rH_isBetterSpool_11, rH_isBetterSpool_14, rH_isBetterSpool_15, rH_isBetterSpool_16, rH_isBetterSpool_19, rH_isBetterSpool_21, rH_isBetterSpool_22, rH_isBetterSpool_24, rH_isBetterSpool_27, rH_isBetterSpool_28, rH_isBetterSpool_30, rH_isBetterSpool_33, rH_isBetterSpool_34, rH_isBetterSpool_37, rH_isBetterSpool_38, rH_isBetterSpool_39, rH_isBetterSpool_42, rH_isBetterSpool_43, rH_isBetterSpool_46, rH_isBetterSpool_47, rH_isBetterSpool_48, rH_isBetterSpool_51, rH_isBetterSpool_54, rH_isBetterSpool_55, rH_isBetterSpool_58, rH_isBetterSpool_59, ct1_i, ct1_r, ct1_n, true_and, and_true, tl_s, tl_n, le4_0, le4_1, le4_2, le4_3, le4_4, le4_5, isO_r, cl_, emb1, emb2, le_rN, up1_at, up1_up1, sp_H_isBetterSpool_T_at, vh_3 hi, obt_3 hi, ob_h hi, qT_at_3 hi, sl, rb_0, rb_1, bi]
  repeat' split
  all_goals first | done | (simp only [*, and_true, true_and, and_false, false_and, not_true_eq_false, not_false_eq_true, or_true, true_or, or_false, false_or, and_self, or_self, ite_self, ↓reduceIte]; done) | (simp only [*, and_true, true_and, and_false, false_and, not_true_eq_false, not_false_eq_true, or_true, true_or, or_false, false_or, and_self, or_self, ite_self, ↓reduceIte] at *; done) | simp_all))
def sp_H_priceOfHour : Nat → Sp := spL [(4, f_T_at)]
theorem sp_H_priceOfHour_T_at : sp_H_priceOfHour 4 = f_T_at := rfl
def f_H_priceOfHour : Sp := aS 7 hutA 1 (gL1 (fun i a σ => (True, some (.int (kt (σ i) (hr (σ i) a 0) 4)), σ)))
theorem q_H_priceOfHour {i : Nat} {a : Int32} {σ : SG} (hi : i < 7) : f_H_priceOfHour [.ref (hutA i), .int a] (emb σ) = (True, some (.int (kt (σ i) (hr (σ i) a 0) 4)), emb (σ)) := aS1_at (ad := hutA) hi (hI_h hi)
set_option maxHeartbeats 4000000 in
set_option maxRecDepth 20000 in
theorem ok_H_priceOfHour : SpecOK 18 f_H_priceOfHour := SpecOK.of (sp := sp_H_priceOfHour) (by decide) (by decide) (spL_ok (List.forall_mem_cons.mpr ⟨ok_T_at, (fun q h => absurd h List.not_mem_nil)⟩)) (Does_aS1 (Nat.le_of_ble_eq_true rfl) (fun sc i a σ hi had hp => by
  show Vf 18 _ _ 0 [.ref (hutA i), .int a] [] (emb σ) _
  simp only [rH_priceOfHour_0, rH_priceOfHour_1, rH_priceOfHour_4, rH_priceOfHour_5, rH_priceOfHour_8, rH_priceOfHour_9, rH_priceOfHour_10, rH_priceOfHour_13, rH_priceOfHour_14, rH_priceOfHour_17, ct1_i, ct1_r, ct1_n, true_and, and_true, tl_s, tl_n, le4_0, le4_1, le4_2, le4_3, le4_4, le4_5, isO_r, cl_, emb1, emb2, le_rN, up1_at, up1_up1, sp_H_priceOfHour_T_at, vh_2 hi, vh_5 hi, obt_2 hi, obt_5 hi, ob_h hi, qT_at_2 hi, qT_at_5 hi, kt, hr]))
def sp_H_priceOfRest : Nat → Sp := spL [(4, f_T_at), (18, f_H_priceOfHour)]
theorem sp_H_priceOfRest_T_at : sp_H_priceOfRest 4 = f_T_at := rfl
theorem sp_H_priceOfRest_H_priceOfHour : sp_H_priceOfRest 18 = f_H_priceOfHour := rfl
def f_H_priceOfRest : Sp := aS 7 hutA 1 (gL1 (fun i a σ => (True, some (.int (kt (σ i) (hr (σ i) a 0) 4 * hr (σ i) a 3)), σ)))
theorem q_H_priceOfRest {i : Nat} {a : Int32} {σ : SG} (hi : i < 7) : f_H_priceOfRest [.ref (hutA i), .int a] (emb σ) = (True, some (.int (kt (σ i) (hr (σ i) a 0) 4 * hr (σ i) a 3)), emb (σ)) := aS1_at (ad := hutA) hi (hI_h hi)
set_option maxHeartbeats 4000000 in
set_option maxRecDepth 20000 in
theorem ok_H_priceOfRest : SpecOK 29 f_H_priceOfRest := SpecOK.of (sp := sp_H_priceOfRest) (by decide) (by decide) (spL_ok (List.forall_mem_cons.mpr ⟨ok_T_at, (List.forall_mem_cons.mpr ⟨ok_H_priceOfHour, (fun q h => absurd h List.not_mem_nil)⟩)⟩)) (Does_aS1 (Nat.le_of_ble_eq_true rfl) (fun sc i a σ hi had hp => by
  show Vf 29 _ _ 0 [.ref (hutA i), .int a] [] (emb σ) _
  simp only [rH_priceOfRest_0, rH_priceOfRest_1, rH_priceOfRest_2, rH_priceOfRest_5, rH_priceOfRest_6, rH_priceOfRest_9, rH_priceOfRest_10, rH_priceOfRest_11, rH_priceOfRest_14, rH_priceOfRest_15, ct1_i, ct1_r, ct1_n, true_and, and_true, tl_s, tl_n, le4_0, le4_1, le4_2, le4_3, le4_4, le4_5, isO_r, cl_, emb1, emb2, le_rN, up1_at, up1_up1, sp_H_priceOfRest_T_at, sp_H_priceOfRest_H_priceOfHour, vh_5 hi, obt_5 hi, ob_h hi, qT_at_5 hi, q_H_priceOfHour hi, hr]))
def sp_H_takeCoins : Nat → Sp := spL [(5, f_T_add)]
theorem sp_H_takeCoins_T_add : sp_H_takeCoins 5 = f_T_add := rfl
def f_H_takeCoins : Sp := aS 7 hutA 2 (gL2 (fun i a b σ => (True, none, up1 σ i (up2 (pa (σ i) 5 7 70 a 5 b) 8 6 (σ i 8 6 + b)))))
theorem q_H_takeCoins {i : Nat} {a b : Int32} {σ : SG} (hi : i < 7) : f_H_takeCoins [.ref (hutA i), .int a, .int b] (emb σ) = (True, none, emb (up1 σ i (up2 (pa (σ i) 5 7 70 a 5 b) 8 6 (σ i 8 6 + b)))) := aS2_at (ad := hutA) hi (hI_h hi)
set_option maxHeartbeats 4000000 in
set_option maxRecDepth 20000 in
theorem ok_H_takeCoins : SpecOK 19 f_H_takeCoins := SpecOK.of (sp := sp_H_takeCoins) (by decide) (by decide) (spL_ok (List.forall_mem_cons.mpr ⟨ok_T_add, (fun q h => absurd h List.not_mem_nil)⟩)) (Does_aS2 (Nat.le_of_ble_eq_true rfl) (fun sc i a b σ hi had hp => by
  show Vf 19 _ _ 0 [.ref (hutA i), .int a, .int b] [] (emb σ) _
  simp only [rH_takeCoins_0, rH_takeCoins_1, rH_takeCoins_4, rH_takeCoins_5, rH_takeCoins_6, rH_takeCoins_7, rH_takeCoins_10, rH_takeCoins_11, rH_takeCoins_12, rH_takeCoins_15, rH_takeCoins_16, rH_takeCoins_17, rH_takeCoins_20, ct1_i, ct1_r, ct1_n, true_and, and_true, tl_s, tl_n, le4_0, le4_1, le4_2, le4_3, le4_4, le4_5, isO_r, cl_, emb1, emb2, le_rN, up1_at, up1_up1, sp_H_takeCoins_T_add, vh_5 hi, vs_6 hi, ss_6 hi, obt_5 hi, ob_h hi, qT_add_5 hi, fok_i, pa_ne, ne_eq, Fin.reduceEq, not_false_eq_true]))
def sp_H_tooWindy : Nat → Sp := spL [(4, f_T_at), (9, f_H_windAt), (14, f_H_setting)]
theorem sp_H_tooWindy_T_at : sp_H_tooWindy 4 = f_T_at := rfl
theorem sp_H_tooWindy_H_windAt : sp_H_tooWindy 9 = f_H_windAt := rfl
theorem sp_H_tooWindy_H_setting : sp_H_tooWindy 14 = f_H_setting := rfl
def f_H_tooWindy : Sp := aS 7 hutA 2 (gL2 (fun i a b σ => (True, some (.int (bi (b < 1000 ∧ (kt (σ i) a 2 < windAt (σ i) b ∨ ¬ windAt (σ i) b < settg (σ i) 0)))), σ)))
theorem q_H_tooWindy {i : Nat} {a b : Int32} {σ : SG} (hi : i < 7) : f_H_tooWindy [.ref (hutA i), .int a, .int b] (emb σ) = (True, some (.int (bi (b < 1000 ∧ (kt (σ i) a 2 < windAt (σ i) b ∨ ¬ windAt (σ i) b < settg (σ i) 0)))), emb (σ)) := aS2_at (ad := hutA) hi (hI_h hi)
set_option maxHeartbeats 4000000 in
set_option maxRecDepth 20000 in
theorem ok_H_tooWindy : SpecOK 26 f_H_tooWindy := SpecOK.of (sp := sp_H_tooWindy) (by decide) (by decide) (spL_ok (List.forall_mem_cons.mpr ⟨ok_T_at, (List.forall_mem_cons.mpr ⟨ok_H_windAt, (List.forall_mem_cons.mpr ⟨ok_H_setting, (fun q h => absurd h List.not_mem_nil)⟩)⟩)⟩)) (Does_aS2 (Nat.le_of_ble_eq_true rfl) (fun sc i a b σ hi had hp => by
  show Vf 26 _ _ 0 [.ref (hutA i), .int a, .int b] [] (emb σ) _

  simp only [rH_tooWindy_0, rH_tooWindy_1, rH_tooWindy_4, rH_tooWindy_7, rH_tooWindy_8, rH_tooWindy_9, rH_tooWindy_12, rH_tooWindy_13, rH_tooWindy_16, rH_tooWindy_17, rH_tooWindy_18, rH_tooWindy_21, rH_tooWindy_24, rH_tooWindy_25, rH_tooWindy_26, rH_tooWindy_29, rH_tooWindy_30, rH_tooWindy_31, rH_tooWindy_34, rH_tooWindy_37, rH_tooWindy_38, rH_tooWindy_41, rH_tooWindy_42, ct1_i, ct1_r, ct1_n, true_and, and_true, tl_s, tl_n, le4_0, le4_1, le4_2, le4_3, le4_4, le4_5, isO_r, cl_, emb1, emb2, le_rN, up1_at, up1_up1, sp_H_tooWindy_T_at, sp_H_tooWindy_H_windAt, sp_H_tooWindy_H_setting, vh_2 hi, obt_2 hi, ob_h hi, qT_at_2 hi, q_H_windAt hi, q_H_setting hi, kt, rb_0, rb_1, bi]
  repeat' split
  all_goals first | done | (simp only [*, and_true, true_and, and_false, false_and, not_true_eq_false, not_false_eq_true, or_true, true_or, or_false, false_or, and_self, or_self, ite_self, ↓reduceIte]; done) | (simp only [*, and_true, true_and, and_false, false_and, not_true_eq_false, not_false_eq_true, or_true, true_or, or_false, false_or, and_self, or_self, ite_self, ↓reduceIte] at *; done) | simp_all))
def sp_H_tooCalm : Nat → Sp := spL [(4, f_T_at), (9, f_H_windAt)]
theorem sp_H_tooCalm_T_at : sp_H_tooCalm 4 = f_T_at := rfl
theorem sp_H_tooCalm_H_windAt : sp_H_tooCalm 9 = f_H_windAt := rfl
def f_H_tooCalm : Sp := aS 7 hutA 2 (gL2 (fun i a b σ => (True, some (.int (bi (b < 1000 ∧ windAt (σ i) b < kt (σ i) a 1))), σ)))
theorem q_H_tooCalm {i : Nat} {a b : Int32} {σ : SG} (hi : i < 7) : f_H_tooCalm [.ref (hutA i), .int a, .int b] (emb σ) = (True, some (.int (bi (b < 1000 ∧ windAt (σ i) b < kt (σ i) a 1))), emb (σ)) := aS2_at (ad := hutA) hi (hI_h hi)
set_option maxHeartbeats 4000000 in
set_option maxRecDepth 20000 in
theorem ok_H_tooCalm : SpecOK 27 f_H_tooCalm := SpecOK.of (sp := sp_H_tooCalm) (by decide) (by decide) (spL_ok (List.forall_mem_cons.mpr ⟨ok_T_at, (List.forall_mem_cons.mpr ⟨ok_H_windAt, (fun q h => absurd h List.not_mem_nil)⟩)⟩)) (Does_aS2 (Nat.le_of_ble_eq_true rfl) (fun sc i a b σ hi had hp => by
  show Vf 27 _ _ 0 [.ref (hutA i), .int a, .int b] [] (emb σ) _

  simp only [rH_tooCalm_0, rH_tooCalm_1, rH_tooCalm_4, rH_tooCalm_7, rH_tooCalm_8, rH_tooCalm_9, rH_tooCalm_12, rH_tooCalm_13, rH_tooCalm_16, rH_tooCalm_17, rH_tooCalm_18, rH_tooCalm_21, rH_tooCalm_24, rH_tooCalm_25, rH_tooCalm_28, rH_tooCalm_29, ct1_i, ct1_r, ct1_n, true_and, and_true, tl_s, tl_n, le4_0, le4_1, le4_2, le4_3, le4_4, le4_5, isO_r, cl_, emb1, emb2, le_rN, up1_at, up1_up1, sp_H_tooCalm_T_at, sp_H_tooCalm_H_windAt, vh_2 hi, obt_2 hi, ob_h hi, qT_at_2 hi, q_H_windAt hi, kt, rb_0, rb_1, bi]
  repeat' split
  all_goals first | done | (simp only [*, and_true, true_and, and_false, false_and, not_true_eq_false, not_false_eq_true, or_true, true_or, or_false, false_or, and_self, or_self, ite_self, ↓reduceIte]; done) | (simp only [*, and_true, true_and, and_false, false_and, not_true_eq_false, not_false_eq_true, or_true, true_or, or_false, false_or, and_self, or_self, ite_self, ↓reduceIte] at *; done) | simp_all))
def sp_H_flagIsUp : Nat → Sp := spL [(9, f_H_windAt), (14, f_H_setting)]
theorem sp_H_flagIsUp_H_windAt : sp_H_flagIsUp 9 = f_H_windAt := rfl
theorem sp_H_flagIsUp_H_setting : sp_H_flagIsUp 14 = f_H_setting := rfl
def f_H_flagIsUp : Sp := aS 7 hutA 1 (gL1 (fun i b σ => (True, some (.int (bi (b < 1000 ∧ ¬ windAt (σ i) b < settg (σ i) 0))), σ)))
theorem q_H_flagIsUp {i : Nat} {b : Int32} {σ : SG} (hi : i < 7) : f_H_flagIsUp [.ref (hutA i), .int b] (emb σ) = (True, some (.int (bi (b < 1000 ∧ ¬ windAt (σ i) b < settg (σ i) 0))), emb (σ)) := aS1_at (ad := hutA) hi (hI_h hi)
set_option maxHeartbeats 4000000 in
set_option maxRecDepth 20000 in
theorem ok_H_flagIsUp : SpecOK 32 f_H_flagIsUp := SpecOK.of (sp := sp_H_flagIsUp) (by decide) (by decide) (spL_ok (List.forall_mem_cons.mpr ⟨ok_H_windAt, (List.forall_mem_cons.mpr ⟨ok_H_setting, (fun q h => absurd h List.not_mem_nil)⟩)⟩)) (Does_aS1 (Nat.le_of_ble_eq_true rfl) (fun sc i b σ hi had hp => by
  show Vf 32 _ _ 0 [.ref (hutA i), .int b] [] (emb σ) _

  simp only [rH_flagIsUp_0, rH_flagIsUp_1, rH_flagIsUp_4, rH_flagIsUp_7, rH_flagIsUp_8, rH_flagIsUp_9, rH_flagIsUp_12, rH_flagIsUp_13, rH_flagIsUp_14, rH_flagIsUp_17, rH_flagIsUp_20, rH_flagIsUp_21, rH_flagIsUp_24, rH_flagIsUp_25, ct1_i, ct1_r, ct1_n, true_and, and_true, tl_s, tl_n, le4_0, le4_1, le4_2, le4_3, le4_4, le4_5, isO_r, cl_, emb1, emb2, le_rN, up1_at, up1_up1, sp_H_flagIsUp_H_windAt, sp_H_flagIsUp_H_setting, ob_h hi, q_H_windAt hi, q_H_setting hi, rb_0, rb_1, bi]
  repeat' split
  all_goals first | done | (simp only [*, and_true, true_and, and_false, false_and, not_true_eq_false, not_false_eq_true, or_true, true_or, or_false, false_or, and_self, or_self, ite_self, ↓reduceIte]; done) | (simp only [*, and_true, true_and, and_false, false_and, not_true_eq_false, not_false_eq_true, or_true, true_or, or_false, false_or, and_self, or_self, ite_self, ↓reduceIte] at *; done) | simp_all))
def sp_H_flies : Nat → Sp := spL [(26, f_H_tooWindy), (27, f_H_tooCalm)]
theorem sp_H_flies_H_tooWindy : sp_H_flies 26 = f_H_tooWindy := rfl
theorem sp_H_flies_H_tooCalm : sp_H_flies 27 = f_H_tooCalm := rfl
def f_H_flies : Sp := aS 7 hutA 2 (gL2 (fun i a b σ => (True, some (.int (bi (¬ (b < 1000 ∧ (kt (σ i) a 2 < windAt (σ i) b ∨ ¬ windAt (σ i) b < settg (σ i) 0)) ∧ ¬ (b < 1000 ∧ windAt (σ i) b < kt (σ i) a 1)))), σ)))
theorem q_H_flies {i : Nat} {a b : Int32} {σ : SG} (hi : i < 7) : f_H_flies [.ref (hutA i), .int a, .int b] (emb σ) = (True, some (.int (bi (¬ (b < 1000 ∧ (kt (σ i) a 2 < windAt (σ i) b ∨ ¬ windAt (σ i) b < settg (σ i) 0)) ∧ ¬ (b < 1000 ∧ windAt (σ i) b < kt (σ i) a 1)))), emb (σ)) := aS2_at (ad := hutA) hi (hI_h hi)
set_option maxHeartbeats 4000000 in
set_option maxRecDepth 20000 in
theorem ok_H_flies : SpecOK 37 f_H_flies := SpecOK.of (sp := sp_H_flies) (by decide) (by decide) (spL_ok (List.forall_mem_cons.mpr ⟨ok_H_tooWindy, (List.forall_mem_cons.mpr ⟨ok_H_tooCalm, (fun q h => absurd h List.not_mem_nil)⟩)⟩)) (Does_aS2 (Nat.le_of_ble_eq_true rfl) (fun sc i a b σ hi had hp => by
  show Vf 37 _ _ 0 [.ref (hutA i), .int a, .int b] [] (emb σ) _

  simp only [rH_flies_0, rH_flies_1, rH_flies_2, rH_flies_3, rH_flies_6, rH_flies_9, rH_flies_10, rH_flies_11, rH_flies_12, rH_flies_15, rH_flies_18, rH_flies_19, rH_flies_22, rH_flies_23, ct1_i, ct1_r, ct1_n, true_and, and_true, tl_s, tl_n, le4_0, le4_1, le4_2, le4_3, le4_4, le4_5, isO_r, cl_, emb1, emb2, le_rN, up1_at, up1_up1, sp_H_flies_H_tooWindy, sp_H_flies_H_tooCalm, ob_h hi, q_H_tooWindy hi, q_H_tooCalm hi, rb_0, rb_1, bi_eq0]
  by_cases h1 : (b < 1000 ∧ (kt (σ i) a 2 < windAt (σ i) b ∨ ¬ windAt (σ i) b < settg (σ i) 0))
  · simp only [h1, and_true, true_and, and_false, false_and, not_true_eq_false, not_false_eq_true, or_true, true_or, or_false, false_or, and_self, or_self, ite_self, ↓reduceIte, bi]
  · by_cases h2 : (b < 1000 ∧ windAt (σ i) b < kt (σ i) a 1)
    · simp only [h1, h2, and_true, true_and, and_false, false_and, not_true_eq_false, not_false_eq_true, or_true, true_or, or_false, false_or, and_self, or_self, ite_self, ↓reduceIte, bi]
    · simp only [h1, h2, and_true, true_and, and_false, false_and, not_true_eq_false, not_false_eq_true, or_true, true_or, or_false, false_or, and_self, or_self, ite_self, ↓reduceIte, bi]))
