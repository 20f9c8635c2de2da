/-! THE LAW: from its entry -/
theorem T00_1 : T00.1 = 1 := rfl
theorem T00_o : obj T00 0 4 := ⟨by decide, by rw [T00_1]; decide, rfl, by decide⟩
theorem T01_1 : T01.1 = 126 := rfl
theorem T01_2 : T01.2.1 = 9451 := (x5_2 T00 0).trans rfl
theorem T02_1 : T02.1 = 127 := rfl
theorem T02_o : obj T02 126 5 := ⟨by decide, by rw [T02_1]; decide, rfl, by decide⟩
set_option maxHeartbeats 1000000 in
set_option maxRecDepth 20000 in
theorem lw_vf {RG : SG → Prop} (hS : StepsOK RG) (h0 : RG sg0) {sc : Nat × (Nat → Int32)} (hL : sc.1 ≤ 2560) {Q : Option Value → MS → Prop} (hQ : ∀ σ, RG σ → Q (some (.int 1)) (emb σ)) : Vf 173 sp_law ((134, SLT), sc) 0 [.ref 2000, .null, .null, .null, .null, .null, .null, .null] [] S00 Q := by
  have a1 : S00.1 = 0 := rfl
  have a2 : S00.2.1 = 0 := rfl
  have a3 : svNew S00 4 0 (nf 4) (fun k => defaultValue (fty 4 k)) = T00 := rfl
  have a4 : (0 : Nat) < 1000 ∧ 0 + 1 ≤ 134 ∧ 0 + nf 4 ≤ SLT := by decide
  have b1 : obj T00 0 4 = True := eq_true T00_o
  have b2 : T00.1 + 200 ≤ 1000 := by rw [T00_1]; decide
  have b3 : T00.1 ≤ (x5 T00 0).1 := by rw [x5_1]; omega
  have b4 : T00.2.1 ≤ (x5 T00 0).2.1 := by rw [x5_2]; omega
  have b5 : (x5 T00 0).1 ≤ 134 := by rw [x5_1, T00_1]; decide
  have b6 : (x5 T00 0).2.1 ≤ SLT := by rw [show (x5 T00 0).2.1 = 9451 from T01_2]; decide
  have b7 : x5 T00 0 = T01 := rfl
  have c4 : (126 : Nat) < 1000 ∧ 126 + 1 ≤ 134 ∧ 9451 + nf 5 ≤ SLT := by decide
  have c3 : svNew T01 5 0 (nf 5) (fun k => defaultValue (fty 5 k)) = T02 := rfl
  have d1 : obj T02 126 5 = True := eq_true T02_o
  have d2 : T02.1 + 20 ≤ 1000 := by rw [T02_1]; decide
  have d3 : T02.1 ≤ (yZ T02 126 (fmC 6)).1 := by rw [T02_1, show (yZ T02 126 (fmC 6)).1 = 134 from rfl]; decide
  have e1 : (yZ T02 126 (fmC 6)).1 = 134 := rfl
  have e2 : (yZ T02 126 (fmC 6)).2.1 = SLT := congrArg (fun z : MS => z.2.1) TF_emb
  have d4 : T02.2.1 ≤ (yZ T02 126 (fmC 6)).2.1 := by
    rw [e2]
    show T01.2.1 + nf 5 ≤ SLT
    rw [T01_2]
    decide
  have d5 : (yZ T02 126 (fmC 6)).1 ≤ 134 := by rw [e1]; decide
  have d6 : (yZ T02 126 (fmC 6)).2.1 ≤ SLT := by rw [e2]; decide
  have e3 : yZ T02 126 (fmC 6) = emb sg0 := TF_emb
  simp only [rL_law_0, rL_law_3, rL_law_4, rL_law_7, rL_law_8, rL_law_11, rL_law_12, rL_law_15, rL_law_16, rL_law_17, ct1_i, ct1_r, ct1_n, true_and, and_true, tl_s, tl_n, le4_0, le4_1, le4_2, le4_3, le4_4, le4_5, isO_r, cl_, sp_law_72, sp_law_114, q_X_init, q_M_init, a1, a2, a3, a4.1, a4.2.1, a4.2.2, b1, b2, b3, b4, b5, b6, b7, T01_1, T01_2, c3, c4.1, c4.2.1, c4.2.2, d1, d2, d3, d4, d5, d6, e3]
  refine ⟨⟨by rw [T00_1]; decide, by show 0 + 6 ≤ 9451; decide, by decide, by decide⟩, ⟨by rw [← e3]; exact d3, by rw [← e3]; exact d4, by rw [← e3]; exact d5, by rw [← e3]; exact d6⟩, ?_⟩
  exact lw_loop hS hL hQ 2560 0 sg0 _ _ _ _ (by omega) (by decide) h0

theorem iw0 : ∀ w ∈ wsX00, w ∈ lw_tbl := by decide +kernel
theorem iw1 : ∀ w ∈ wsX10, w ∈ lw_tbl := by decide +kernel
theorem iw2 : ∀ w ∈ wsX20, w ∈ lw_tbl := by decide +kernel
theorem iw3 : ∀ w ∈ wsX30, w ∈ lw_tbl := by decide +kernel
theorem iw4 : ∀ w ∈ wsX40, w ∈ lw_tbl := by decide +kernel
theorem iw5 : ∀ w ∈ wsX50, w ∈ lw_tbl := by decide +kernel
theorem in0 : Jvm.Cond.instantiable RX0 16 ∈ lw_tbl := by decide +kernel
theorem in1 : Jvm.Cond.instantiable RX1 5 ∈ lw_tbl := by decide +kernel
theorem in2 : Jvm.Cond.instantiable RX2 3 ∈ lw_tbl := by decide +kernel
theorem in3 : Jvm.Cond.instantiable RX3 2 ∈ lw_tbl := by decide +kernel
theorem in4 : Jvm.Cond.instantiable RX4 6 ∈ lw_tbl := by decide +kernel
theorem in5 : Jvm.Cond.instantiable RX5 14 ∈ lw_tbl := by decide +kernel
theorem aov : Jvm.Cond.arrayOver (.object "KiteHire$Hut") ∈ lw_tbl := by decide +kernel
theorem ini : Jvm.Cond.initialized "KiteHire" ∈ lw_tbl := by decide +kernel
theorem lst0 : Jvm.Cond.laysStatic "KiteHire" "SETTING_LEAST" "[I" ∈ lw_tbl := by decide +kernel
theorem lst1 : Jvm.Cond.laysStatic "KiteHire" "SETTING_MOST" "[I" ∈ lw_tbl := by decide +kernel
theorem lst2 : Jvm.Cond.laysStatic "KiteHire" "SETTING_FIRST" "[I" ∈ lw_tbl := by decide +kernel
theorem law_c : mtC 173 = code := rfl
theorem law_l : mtL 173 = 8 := rfl
theorem law_r : mtR 173 = ret := rfl
theorem law_n : (mtN 173).name = "law" := rfl
theorem law_o : cn (mtO 173) = "KiteHireLaw" := rfl
theorem law_d : mtD 173 ≤ room_1.frames ∧ 36 * mtD 173 ≤ room_1.locals ∧ 134 ≤ 0 + room_1.cells ∧ SLT ≤ 0 + room_1.slots := by decide +kernel
theorem u_kn {s : State} {args : Array Value} (hts : ∀ w ∈ lw_tbl, w.before args s = true) : ∃ (dC : Nat → ClassId) (dI : Nat → Nat → Nat), ∀ (k : Nat) (q : vw_C), vwCl[k]? = some q → u_Kn s q.1 q.2.1 q.2.2 (dC k) (dI k) := by
  obtain ⟨c0, i0, h0⟩ := u_known (C := RX0) (T := TX0) (N := 16) (n := 16) hts iw0 (hts _ in0)
  obtain ⟨c1, i1, h1⟩ := u_known (C := RX1) (T := TX1) (N := 5) (n := 5) hts iw1 (hts _ in1)
  obtain ⟨c2, i2, h2⟩ := u_known (C := RX2) (T := TX2) (N := 3) (n := 3) hts iw2 (hts _ in2)
  obtain ⟨c3, i3, h3⟩ := u_known (C := RX3) (T := TX3) (N := 2) (n := 2) hts iw3 (hts _ in3)
  obtain ⟨c4, i4, h4⟩ := u_known (C := RX4) (T := TX4) (N := 6) (n := 6) hts iw4 (hts _ in4)
  obtain ⟨c5, i5, h5⟩ := u_known (C := RX5) (T := TX5) (N := 14) (n := 14) hts iw5 (hts _ in5)
  refine ⟨fun k => match k with | 0 => c0 | 1 => c1 | 2 => c2 | 3 => c3 | 4 => c4 | _ => c5, fun k => match k with | 0 => i0 | 1 => i1 | 2 => i2 | 3 => i3 | 4 => i4 | _ => i5, ?_⟩
  intro k q hq
  match k, hq with
  | 0, hq => cases hq; exact h0
  | 1, hq => cases hq; exact h1
  | 2, hq => cases hq; exact h2
  | 3, hq => cases hq; exact h3
  | 4, hq => cases hq; exact h4
  | 5, hq => cases hq; exact h5
  | k + 6, hq => simp [vwCl] at hq
theorem kn_c {s : State} {args : Array Value} {ty : FieldType} (h : (Cond.arrayClass ty).before args s = true) (hn : ∀ C, ty ≠ .object C) : ∃ cA : ClassId, ArrOfT s cA ty ∧ va_RA s cA ty := by
  obtain ⟨cA, kA, comp, h1, h2, h3⟩ := Cond.arrayClass_spec h
  refine ⟨cA, fun n z => ⟨fun k h => (by cases h), kA, h2, comp, h3⟩, ?_⟩
  cases ty with
  | object C => exact absurd rfl (hn C)
  | _ => exact h1
theorem kn_o {s : State} {args : Array Value} {C : String} (h : (Cond.arrayOver (.object C)).before args s = true) : ∃ cA : ClassId, ArrOfT s cA (.object C) ∧ va_RA s cA (.object C) := by
  obtain ⟨comp, cA, kA, h1, h2, h3, h4, h5⟩ := Cond.arrayOver_spec h
  exact ⟨cA, fun n z => ⟨fun k h => (by cases h), kA, h3, comp, h4⟩, kA, comp, h3, h4, h1, h5⟩

