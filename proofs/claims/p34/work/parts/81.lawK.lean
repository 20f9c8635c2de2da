/-! THE LAW: from its entry -/
set_option maxHeartbeats 1000000 in
set_option maxRecDepth 20000 in
theorem lw_vf2 {sc : Nat × (Nat → Int32)} (hL : sc.1 ≤ 260) {Q : Option Value → MS → Prop} (hQ : ∀ σ, Q (some (.int 1)) (emb σ)) : Vf 100 (sp_law sc) ((127, SLT), sc) 12 [.ref 2000, .ref 0, .null, .null, .null, .null, .null, .null, .null, .null] [.ref 126] (emb sg0) Q := by
  have e3 : Int32.ofNat sc.1 / 3 = oN (sc.1 / 3) := oN_div (a := sc.1) (n := 3) (by omega) (by decide)
  have n30 : ¬ (3 : Int32) = 0 := by decide
  have go := fun (M : Nat) (hM : M ≤ 30) => lw_loop (sc := sc) (Q := Q) hL hM hQ M 0 sgK 0 0 0 0 0 0 .null .null .null .null (Nat.zero_add _) LwS_0 (by omega) (by omega)
  by_cases h30 : 30 < sc.1 / 3
  · have g : ((30 : Int32) < oN (sc.1 / 3)) = True := eq_true (by show oN 30 < _; rw [oN_lt (by decide) (by omega)]; exact h30)
    simp only [rL_law_12, rL_law_13, rL_law_14, rL_law_15, rL_law_16, rL_law_19, rL_law_22, rL_law_23, rL_law_26, rL_law_28, rL_law_31, rL_law_32, rL_law_35, rL_law_38, rL_law_39, rL_law_42, rL_law_43, rL_law_44, rL_law_45, rL_law_46, rL_law_47, rL_law_48, rL_law_50, rL_law_53, rL_law_55, rL_law_58, rL_law_59, rL_law_60, rL_law_61, rL_law_62, rL_law_64, rL_law_65, ct1_i, ct1_r, ct1_n, true_and, and_true, tl_s, tl_n, le4_0, le4_1, le4_2, le4_3, le4_4, le4_5, isO_r, cl_, emb1, emb2, le_rN, sp_law_X_count, sp_law_X_init, sp_law_L_holds, sp_law_X_undo, sp_law_X_keep, sp_law_L_cell, sp_law_L_low, sp_law_L_act, sp_law_X_restore, obX, cm_ok, cm_al, cm_rd, cm_re, cm_ln, cm_s, true_or, iin7, iin6, n7, n6, z10, z00, z11, z01, z55, if_true, if_false, sc_al, sc_ok, true_or, q_L_holds (x := 3) HolP_0, un_0, kp_0, e3, n30, not_false_eq_true, g]
    exact go 30 (by decide)
  · have g : ((30 : Int32) < oN (sc.1 / 3)) = False := eq_false (by show ¬ oN 30 < _; rw [oN_lt (by decide) (by omega)]; exact h30)
    simp only [rL_law_12, rL_law_13, rL_law_14, rL_law_15, rL_law_16, rL_law_19, rL_law_22, rL_law_23, rL_law_26, rL_law_28, rL_law_31, rL_law_32, rL_law_35, rL_law_38, rL_law_39, rL_law_42, rL_law_43, rL_law_44, rL_law_45, rL_law_46, rL_law_47, rL_law_48, rL_law_50, rL_law_53, rL_law_55, rL_law_58, rL_law_59, rL_law_60, rL_law_61, rL_law_62, rL_law_64, rL_law_65, ct1_i, ct1_r, ct1_n, true_and, and_true, tl_s, tl_n, le4_0, le4_1, le4_2, le4_3, le4_4, le4_5, isO_r, cl_, emb1, emb2, le_rN, sp_law_X_count, sp_law_X_init, sp_law_L_holds, sp_law_X_undo, sp_law_X_keep, sp_law_L_cell, sp_law_L_low, sp_law_L_act, sp_law_X_restore, obX, cm_ok, cm_al, cm_rd, cm_re, cm_ln, cm_s, true_or, iin7, iin6, n7, n6, z10, z00, z11, z01, z55, if_true, if_false, sc_al, sc_ok, true_or, q_L_holds (x := 3) HolP_0, un_0, kp_0, e3, n30, not_false_eq_true, g]
    exact go (sc.1 / 3) (by omega)
theorem T00_1 : T00.1 = 1 := rfl
theorem T00_o : obj T00 0 4 := ⟨by decide, by rw [T00_1]; decide, rfl, by decide⟩
theorem T01_1 : T01.1 = 126 := rfl
theorem T01_2 : T01.2.1 = 9451 := (x5_2 T00 0).trans rfl
set_option maxHeartbeats 1000000 in
set_option maxRecDepth 20000 in
theorem lw_vf {sc : Nat × (Nat → Int32)} (hL : sc.1 ≤ 260) {Q : Option Value → MS → Prop} (hQ : ∀ σ, Q (some (.int 1)) (emb σ)) : Vf 100 (sp_law sc) ((127, SLT), sc) 0 [.ref 2000, .null, .null, .null, .null, .null, .null, .null, .null, .null] [] S00 Q := by
  have a1 : S00.1 = 0 := rfl
  have a2 : S00.2.1 = 0 := rfl
  have a3 : svNew S00 4 0 (nf 4) (fun k => defaultValue (fty 4 k)) = T00 := rfl
  have a4 : (0 : Nat) < 1000 ∧ 0 + 1 ≤ 127 ∧ 0 + nf 4 ≤ SLT := by decide
  have b1 : obj T00 0 4 = True := eq_true T00_o
  have b2 : T00.1 + 200 ≤ 1000 := by rw [T00_1]; decide
  have b3 : T00.1 ≤ (x5 T00 0).1 := by rw [x5_1]; omega
  have b4 : T00.2.1 ≤ (x5 T00 0).2.1 := by rw [x5_2]; omega
  have b5 : (x5 T00 0).1 ≤ 127 := by rw [x5_1, T00_1]; decide
  have b6 : (x5 T00 0).2.1 ≤ SLT := by rw [show (x5 T00 0).2.1 = 9451 from T01_2]; decide
  have b7 : x5 T00 0 = T01 := rfl
  have c3 : svNew T01 7 8 8 (fun _ => .int 0) = emb sg0 := TF_emb
  have c4 : (126 : Nat) < 1000 ∧ 126 + 1 ≤ 127 ∧ 9451 + 8 ≤ SLT := by decide
  have c5 : ((8 : Int32) < 0) = False := eq_false (by decide)
  have c6 : (8 : Int32).toNatClampNeg = 8 := rfl
  have c7 : (8 : Nat) ≤ 100000 := by decide
  have fin := lw_vf2 (sc := sc) hL hQ
  simp only [rL_law_0, rL_law_3, rL_law_4, rL_law_7, rL_law_8, rL_law_10, ct1_i, ct1_r, ct1_n, true_and, and_true, tl_s, tl_n, le4_0, le4_1, le4_2, le4_3, le4_4, le4_5, isO_r, cl_, emb1, emb2, le_rN, sp_law_X_count, sp_law_X_init, sp_law_L_holds, sp_law_X_undo, sp_law_X_keep, sp_law_L_cell, sp_law_L_low, sp_law_L_act, sp_law_X_restore, obX, cm_ok, cm_al, cm_rd, cm_re, cm_ln, cm_s, true_or, iin7, iin6, n7, n6, z10, z00, z11, z01, z55, if_true, if_false, q_X_init, a1, a2, a3, a4.1, a4.2.1, a4.2.2, b1, b2, b3, b4, b5, b6, b7, T01_1, T01_2, c3, c4.1, c4.2.1, c4.2.2, c5, c6, c7, not_false_eq_true]
  first | exact fin | exact ⟨⟨by rw [T00_1]; decide, by show 0 + 6 ≤ 9451; decide, by decide, by decide⟩, fin⟩
theorem iw0 : ∀ w ∈ wsX00, w ∈ lw_tbl := by decide +kernel
theorem iw1 : ∀ w ∈ wsX10, w ∈ lw_tbl := by decide +kernel
theorem iw2 : ∀ w ∈ wsX20, w ∈ lw_tbl := by decide +kernel
theorem iw3 : ∀ w ∈ wsX30, w ∈ lw_tbl := by decide +kernel
theorem iw4 : ∀ w ∈ wsX40, w ∈ lw_tbl := by decide +kernel
theorem in0 : Jvm.Cond.instantiable RX0 16 ∈ lw_tbl := by decide +kernel
theorem in1 : Jvm.Cond.instantiable RX1 5 ∈ lw_tbl := by decide +kernel
theorem in2 : Jvm.Cond.instantiable RX2 3 ∈ lw_tbl := by decide +kernel
theorem in3 : Jvm.Cond.instantiable RX3 2 ∈ lw_tbl := by decide +kernel
theorem in4 : Jvm.Cond.instantiable RX4 6 ∈ lw_tbl := by decide +kernel
theorem aov : Jvm.Cond.arrayOver (.object "KiteHire$Hut") ∈ lw_tbl := by decide +kernel
theorem ini : Jvm.Cond.initialized "KiteHire" ∈ lw_tbl := by decide +kernel
theorem lst0 : Jvm.Cond.laysStatic "KiteHire" "SETTING_LEAST" "[I" ∈ lw_tbl := by decide +kernel
theorem lst1 : Jvm.Cond.laysStatic "KiteHire" "SETTING_MOST" "[I" ∈ lw_tbl := by decide +kernel
theorem lst2 : Jvm.Cond.laysStatic "KiteHire" "SETTING_FIRST" "[I" ∈ lw_tbl := by decide +kernel
theorem law_c : mtC 100 = code := rfl
theorem law_l : mtL 100 = 10 := rfl
theorem law_r : mtR 100 = ret := rfl
theorem law_n : (mtN 100).name = "law" := rfl
theorem law_o : cn (mtO 100) = "KiteHireLaw" := rfl
theorem law_d : mtD 100 ≤ room_1.frames ∧ 37 * mtD 100 ≤ room_1.locals ∧ 127 ≤ 0 + room_1.cells ∧ SLT ≤ 0 + room_1.slots := by decide +kernel
theorem u_kn {s : State} {args : Array Value} (hts : ∀ w ∈ lw_tbl, w.before args s = true) : ∃ (dC : Nat → ClassId) (dI : Nat → Nat → Nat), ∀ (k : Nat) (q : vw_C), vwCl[k]? = some q → u_Kn s q.1 q.2.1 q.2.2 (dC k) (dI k) := by
  obtain ⟨c0, i0, h0⟩ := u_known (C := RX0) (T := TX0) (N := 16) (n := 16) hts iw0 (hts _ in0)
  obtain ⟨c1, i1, h1⟩ := u_known (C := RX1) (T := TX1) (N := 5) (n := 5) hts iw1 (hts _ in1)
  obtain ⟨c2, i2, h2⟩ := u_known (C := RX2) (T := TX2) (N := 3) (n := 3) hts iw2 (hts _ in2)
  obtain ⟨c3, i3, h3⟩ := u_known (C := RX3) (T := TX3) (N := 2) (n := 2) hts iw3 (hts _ in3)
  obtain ⟨c4, i4, h4⟩ := u_known (C := RX4) (T := TX4) (N := 6) (n := 6) hts iw4 (hts _ in4)
  refine ⟨fun k => match k with | 0 => c0 | 1 => c1 | 2 => c2 | 3 => c3 | _ => c4, fun k => match k with | 0 => i0 | 1 => i1 | 2 => i2 | 3 => i3 | _ => i4, ?_⟩
  intro k q hq
  match k, hq with
  | 0, hq => cases hq; exact h0
  | 1, hq => cases hq; exact h1
  | 2, hq => cases hq; exact h2
  | 3, hq => cases hq; exact h3
  | 4, hq => cases hq; exact h4
  | k + 5, hq => simp [vwCl] at hq
theorem kn_c {s : State} {args : Array Value} {ty : FieldType} (h : (Cond.arrayClass ty).before args s = true) (hn : ∀ C, ty ≠ .object C) : ∃ cA : ClassId, ArrOfT s cA ty ∧ va_RA s cA ty := by
  obtain ⟨cA, kA, comp, h1, h2, h3⟩ := Cond.arrayClass_spec h
  refine ⟨cA, fun n z => ⟨fun k h => (by cases h), kA, h2, comp, h3⟩, ?_⟩
  cases ty with
  | object C => exact absurd rfl (hn C)
  | _ => exact h1
theorem kn_o {s : State} {args : Array Value} {C : String} (h : (Cond.arrayOver (.object C)).before args s = true) : ∃ cA : ClassId, ArrOfT s cA (.object C) ∧ va_RA s cA (.object C) := by
  obtain ⟨comp, cA, kA, h1, h2, h3, h4, h5⟩ := Cond.arrayOver_spec h
  exact ⟨cA, fun n z => ⟨fun k h => (by cases h), kA, h3, comp, h4⟩, kA, comp, h3, h4, h1, h5⟩

