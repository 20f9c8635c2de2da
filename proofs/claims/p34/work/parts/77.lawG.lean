/-! THE LAW: an act -/
def sp_L_act : Nat → Sp := spL [(84, f_X_count), (95, f_L_low), (74, f_X_kite), (75, f_X_spool), (76, f_X_tails), (87, f_X_why), (89, f_X_hire), (67, f_X_kiteOf), (69, f_X_hireOf), (78, f_X_back), (64, f_X_ended), (68, f_X_tailsOf), (79, f_X_found), (92, f_X_ifPassed), (90, f_X_pass), (73, f_X_wind), (80, f_X_set)]
theorem sp_L_act_X_count : sp_L_act 84 = f_X_count := rfl
theorem sp_L_act_L_low : sp_L_act 95 = f_L_low := rfl
theorem sp_L_act_X_kite : sp_L_act 74 = f_X_kite := rfl
theorem sp_L_act_X_spool : sp_L_act 75 = f_X_spool := rfl
theorem sp_L_act_X_tails : sp_L_act 76 = f_X_tails := rfl
theorem sp_L_act_X_why : sp_L_act 87 = f_X_why := rfl
theorem sp_L_act_X_hire : sp_L_act 89 = f_X_hire := rfl
theorem sp_L_act_X_kiteOf : sp_L_act 67 = f_X_kiteOf := rfl
theorem sp_L_act_X_hireOf : sp_L_act 69 = f_X_hireOf := rfl
theorem sp_L_act_X_back : sp_L_act 78 = f_X_back := rfl
theorem sp_L_act_X_ended : sp_L_act 64 = f_X_ended := rfl
theorem sp_L_act_X_tailsOf : sp_L_act 68 = f_X_tailsOf := rfl
theorem sp_L_act_X_found : sp_L_act 79 = f_X_found := rfl
theorem sp_L_act_X_ifPassed : sp_L_act 92 = f_X_ifPassed := rfl
theorem sp_L_act_X_pass : sp_L_act 90 = f_X_pass := rfl
theorem sp_L_act_X_wind : sp_L_act 73 = f_X_wind := rfl
theorem sp_L_act_X_set : sp_L_act 80 = f_X_set := rfl
theorem sp_L_act_ok : ∀ z, SpecOK z (sp_L_act z) := spL_ok (List.forall_mem_cons.mpr ⟨ok_X_count, (List.forall_mem_cons.mpr ⟨ok_L_low, (List.forall_mem_cons.mpr ⟨ok_X_kite, (List.forall_mem_cons.mpr ⟨ok_X_spool, (List.forall_mem_cons.mpr ⟨ok_X_tails, (List.forall_mem_cons.mpr ⟨ok_X_why, (List.forall_mem_cons.mpr ⟨ok_X_hire, (List.forall_mem_cons.mpr ⟨ok_X_kiteOf, (List.forall_mem_cons.mpr ⟨ok_X_hireOf, (List.forall_mem_cons.mpr ⟨ok_X_back, (List.forall_mem_cons.mpr ⟨ok_X_ended, (List.forall_mem_cons.mpr ⟨ok_X_tailsOf, (List.forall_mem_cons.mpr ⟨ok_X_found, (List.forall_mem_cons.mpr ⟨ok_X_ifPassed, (List.forall_mem_cons.mpr ⟨ok_X_pass, (List.forall_mem_cons.mpr ⟨ok_X_wind, (List.forall_mem_cons.mpr ⟨ok_X_set, (fun q h => absurd h List.not_mem_nil)⟩)⟩)⟩)⟩)⟩)⟩)⟩)⟩)⟩)⟩)⟩)⟩)⟩)⟩)⟩)⟩)⟩)
def tbF (told : Int32) : Int32 := if told < 0 then 0 else 1
theorem iin7 : iin (7 : Int32) 8 = True := iin_c (c := 7) (by decide) (by decide)
theorem iin6 : iin (6 : Int32) 8 = True := iin_c (c := 6) (by decide) (by decide)
theorem n7 : (7 : Int32).toNatClampNeg = 7 := rfl
theorem n6 : (6 : Int32).toNatClampNeg = 6 := rfl
theorem z10 : ((1 : Int32) = 0) = False := eq_false (by decide)
theorem z01 : ((0 : Int32) = 1) = False := eq_false (by decide)
theorem z00 : ((0 : Int32) = 0) = True := eq_true rfl
theorem z11 : ((1 : Int32) = 1) = True := eq_true rfl
theorem z55 : ((-5 : Int32) = -5) = True := eq_true rfl
theorem zm1 : ((-1 : Int32) = -1) = True := eq_true rfl
theorem zl1 : ((-1 : Int32) < 0) = True := eq_true (by decide)
theorem zl5 : ((-5 : Int32) < 0) = True := eq_true (by decide)
def ActQ (σ : SG) (kind : Int32) (σ' : SG) : Prop := ∃ T K S N O E, LwS σ' T K S N O E ∧ T ≤ (σ 0 8 0).toNatClampNeg + 4 ∧ N ≤ (σ 0 8 3).toNatClampNeg + 1 ∧ ((σ' 8 0 7 = 0 ∧ σ' 7 1 1 = σ 7 1 1) ∨ (σ' 8 0 7 = 1 ∧ σ' 7 1 1 = hl1 (σ 7 1 1) ∧ InR (σ' (pA (σ' 7 1 0))) (σ 0) ∧ (3 < kind → ∀ c, c < 7 → σ' 8 0 c = σ 8 0 c)))
section ACT
variable {sc : Nat × (Nat → Int32)} {σ : SG} {T K S N O E : Nat} {kind a b kx : Int32} {Q : Option Value → MS → Prop}
theorem LwS_n (h : LwS σ T K S N O E) : (σ 0 8 0).toNatClampNeg = T ∧ (σ 0 8 3).toNatClampNeg = N := by
  have hb := J_bd h.1
  rw [J_80 h.1, J_83 h.1, oN_nat (by omega), oN_nat (by omega)]
  exact ⟨rfl, rfl⟩
theorem ActQ_n (h : LwS σ T K S N O E) {v : HV} (hv : ∀ c, c < 7 → v 0 c = σ 8 0 c) (h7 : v 0 7 = 0) : ActQ σ kind (up1 σ 8 v) := by
  obtain ⟨n1, n2⟩ := LwS_n h
  exact ⟨T, K, S, N, O, E, LwS_8 h hv, by omega, by omega, Or.inl ⟨by rw [up1_at]; exact h7, by rw [up1_nt (by decide)]⟩⟩
theorem ActQ_y (h : LwS σ T K S N O E) {w2 v : HV} {cf2 : Nat → Int32} {T2 K2 S2 N2 O2 E2 : Nat} (hJ : J w2 cf2 T2 K2 S2 N2 O2 E2 (10 * T2)) (hT : T2 ≤ T + 4) (hN : N2 ≤ N + 1) (hv : ∀ c, c < 7 → v 0 c = cf2 c) (h7 : v 0 7 = 1) (hk : 3 < kind → ∀ c, c < 7 → v 0 c = σ 8 0 c) : ActQ σ kind (up1 (up1 (rcW σ) 0 w2) 8 v) := by
  obtain ⟨n1, n2⟩ := LwS_n h
  obtain ⟨g1, g2, g3⟩ := LwS_rec h hJ hv
  exact ⟨T2, K2, S2, N2, O2, E2, g1, by omega, by omega, Or.inr ⟨by rw [up1_at]; exact h7, g2, g3, fun q => by rw [up1_at]; exact hk q⟩⟩
theorem ActQ_1 {u : HV} {σ' : SG} (h : ActQ (up1 σ 1 u) kind σ') : ActQ σ kind σ' := by
  unfold ActQ at h ⊢
  rw [up1_nt (show (0 : Nat) ≠ 1 by decide), up1_nt (show (7 : Nat) ≠ 1 by decide), up1_nt (show (8 : Nat) ≠ 1 by decide)] at h
  exact h
set_option maxHeartbeats 1000000 in
set_option maxRecDepth 20000 in
theorem lp_L_act_E {σ2 : SG} {cf : Nat → Int32} {bb : Nat} (h : J (σ2 0) cf T K S N O E bb) {now told coins : Int32} {r10 r11 r12 r13 r14 r15 r16 r17 : Value} (ht : told < 0 → σ2 0 8 6 = coins) (hQ : Q (some (.int 1)) (emb (up1 σ2 8 (up2 (σ2 8) 0 7 (tbF told))))) : Vf 97 sp_L_act ((127, SLT), sc) 839 [.ref 0, .ref 126, .int kind, .int a, .int b, .int kx, .int now, .int told, .int coins, .int 1, r10, r11, r12, r13, r14, r15, r16, r17] [] (emb σ2) Q := by
  have h3 : ∀ v, J (up1 σ2 8 v 0) cf T K S N O E bb := fun v => by rw [up1_nt (by decide)]; exact h
  unfold tbF at hQ
  by_cases h1 : told < 0
  · rw [if_pos h1] at hQ
    have h1t := eq_true h1
    have e := ht h1
    simp only [rL_act_839, rL_act_840, rL_act_842, rL_act_844, rL_act_847, rL_act_848, rL_act_851, rL_act_852, rL_act_853, rL_act_855, rL_act_858, rL_act_860, rL_act_863, rL_act_864, rL_act_866, rL_act_869, rL_act_871, rL_act_874, rL_act_875, rL_act_878, rL_act_879, ct1_i, ct1_r, ct1_n, true_and, and_true, tl_s, tl_n, le4_0, le4_1, le4_2, le4_3, le4_4, le4_5, isO_r, cl_, emb1, emb2, le_rN, sp_L_act_X_count, sp_L_act_L_low, sp_L_act_X_kite, sp_L_act_X_spool, sp_L_act_X_tails, sp_L_act_X_why, sp_L_act_X_hire, sp_L_act_X_kiteOf, sp_L_act_X_hireOf, sp_L_act_X_back, sp_L_act_X_ended, sp_L_act_X_tailsOf, sp_L_act_X_found, sp_L_act_X_ifPassed, sp_L_act_X_pass, sp_L_act_X_wind, sp_L_act_X_set, obX, cm_ok, cm_al, cm_rd, cm_re, cm_ln, cm_s, true_or, iin7, iin6, n7, n6, h1t, z10, ct_11 (h3 _), up1_nt (show (0 : Nat) ≠ 8 by decide), e, rb_1, if_true, if_false]
    exact hQ
  · rw [if_neg h1] at hQ
    have h1f := eq_false h1
    simp only [rL_act_839, rL_act_840, rL_act_842, rL_act_844, rL_act_847, rL_act_848, rL_act_851, rL_act_852, rL_act_853, rL_act_855, rL_act_858, rL_act_860, rL_act_863, rL_act_864, rL_act_866, rL_act_869, rL_act_871, rL_act_874, rL_act_875, rL_act_878, rL_act_879, ct1_i, ct1_r, ct1_n, true_and, and_true, tl_s, tl_n, le4_0, le4_1, le4_2, le4_3, le4_4, le4_5, isO_r, cl_, emb1, emb2, le_rN, sp_L_act_X_count, sp_L_act_L_low, sp_L_act_X_kite, sp_L_act_X_spool, sp_L_act_X_tails, sp_L_act_X_why, sp_L_act_X_hire, sp_L_act_X_kiteOf, sp_L_act_X_hireOf, sp_L_act_X_back, sp_L_act_X_ended, sp_L_act_X_tailsOf, sp_L_act_X_found, sp_L_act_X_ifPassed, sp_L_act_X_pass, sp_L_act_X_wind, sp_L_act_X_set, obX, cm_ok, cm_al, cm_rd, cm_re, cm_ln, cm_s, true_or, iin7, iin6, n7, n6, h1f, z10, rb_1, if_true, if_false]
    exact hQ
theorem Oc_fin (h : LwS σ T K S N O E) {x : Int32 × SG} {G : HV → Prop} (hx : Oc σ x G) (hG : ∀ w2, G w2 → ∃ T2 K2 S2 N2 O2 E2, J w2 (σ 8 0) T2 K2 S2 N2 O2 E2 (10 * T2) ∧ T2 ≤ T + 4 ∧ N2 ≤ N + 1) (hQ : ∀ σ', ActQ σ kind σ' → Q (some (.int 1)) (emb σ')) {now : Int32} {r10 r11 r12 r13 r14 r15 r16 r17 : Value} : Vf 97 sp_L_act ((127, SLT), sc) 839 [.ref 0, .ref 126, .int kind, .int a, .int b, .int kx, .int now, .int x.1, .int (σ 0 8 6), .int 1, r10, r11, r12, r13, r14, r15, r16, r17] [] (emb x.2) Q := by
  have h8 := rcW_8 σ (LwS_lt h)
  rcases hx with ⟨h1, h2⟩ | ⟨h1, w2, h2, h3⟩
  · rw [h2]
    refine lp_L_act_E h.1 (fun _ => rfl) (hQ _ (ActQ_n h (fun c hc => ?_) ?_))
    · rw [u2k, if_neg (by omega)]
    · rw [u2k, if_pos rfl]
      unfold tbF
      rw [if_pos h1]
  · obtain ⟨T2, K2, S2, N2, O2, E2, j, t1, t2⟩ := hG w2 h3
    rw [h2]
    have e8 : up1 (rcW σ) 0 w2 8 = σ 8 := by rw [up1_nt (by decide)]; exact h8
    refine lp_L_act_E (cf := σ 8 0) (T := T2) (K := K2) (S := S2) (N := N2) (O := O2) (E := E2) (bb := 10 * T2) (by rw [up1_at]; exact j) (fun q => absurd q h1) ?_
    rw [e8]
    refine hQ _ (ActQ_y h j t1 t2 (fun c hc => ?_) ?_ (fun _ c hc => ?_))
    · rw [u2k, if_neg (by omega)]
    · rw [u2k, if_pos rfl]
      unfold tbF
      rw [if_neg h1]
    · rw [u2k, if_neg (by omega)]
theorem ne6 : ¬ (6 : Int32) = 0 := by decide
set_option maxHeartbeats 1000000 in
set_option maxRecDepth 20000 in
theorem lp_L_act_A (h : LwS σ T K S N O E) (hQ : ∀ σ', ActQ σ kind σ' → Q (some (.int 1)) (emb σ')) : Vf 97 sp_L_act ((127, SLT), sc) 112 [.ref 0, .ref 126, .int kind, .int a, .int b, .int kx, .int (oN T), .int 0, .int (σ 0 8 6), .int 1, .null, .null, .null, .null, .null, .null, .null, .null] [] (emb σ) Q := by
  have ek : ∀ a b c d, f_X_kite [.ref 0, .int a, .int b, .int c, .int d] (emb σ) = (True, some (.int (kiF σ a b c d).1), emb (kiF σ a b c d).2) := fun a b c d => by rw [q_X_kite, eq_true (LwS_lt h)]
  simp only [rL_act_112, rL_act_113, rL_act_114, rL_act_116, rL_act_119, rL_act_120, rL_act_121, rL_act_122, rL_act_124, rL_act_127, rL_act_129, rL_act_131, rL_act_134, rL_act_136, rL_act_137, rL_act_138, rL_act_140, rL_act_143, rL_act_146, rL_act_148, ct1_i, ct1_r, ct1_n, true_and, and_true, tl_s, tl_n, le4_0, le4_1, le4_2, le4_3, le4_4, le4_5, isO_r, cl_, emb1, emb2, le_rN, sp_L_act_X_count, sp_L_act_L_low, sp_L_act_X_kite, sp_L_act_X_spool, sp_L_act_X_tails, sp_L_act_X_why, sp_L_act_X_hire, sp_L_act_X_kiteOf, sp_L_act_X_hireOf, sp_L_act_X_back, sp_L_act_X_ended, sp_L_act_X_tailsOf, sp_L_act_X_found, sp_L_act_X_ifPassed, sp_L_act_X_pass, sp_L_act_X_wind, sp_L_act_X_set, obX, q_low (show ¬ (6 : Int32) = 0 by decide), q_low (show ¬ (14 : Int32) = 0 by decide), q_low (show ¬ (10 : Int32) = 0 by decide), q_low (show ¬ (30 : Int32) = 0 by decide), q_low (show ¬ (150 : Int32) = 0 by decide), q_low (show ¬ (7 : Int32) = 0 by decide), q_low (show ¬ (8 : Int32) = 0 by decide), q_low (show ¬ (60 : Int32) = 0 by decide), q_low (show ¬ (3 : Int32) = 0 by decide), q_low (show ¬ (12 : Int32) = 0 by decide), q_low (show ¬ (4 : Int32) = 0 by decide), z10, z00, z11, z01, if_true, if_false, ek]
  exact Oc_fin h (kiF_o h _ _ _ _) (fun w2 j => ⟨_, _, _, _, _, _, j, by omega, by omega⟩) hQ
set_option maxHeartbeats 1000000 in
set_option maxRecDepth 20000 in
theorem lp_L_act_H (h : LwS σ T K S N O E) (hQ : ∀ σ', ActQ σ kind σ' → Q (some (.int 1)) (emb σ')) : Vf 97 sp_L_act ((127, SLT), sc) 765 [.ref 0, .ref 126, .int kind, .int a, .int b, .int kx, .int (oN T), .int 0, .int (σ 0 8 6), .int 1, .null, .null, .null, .null, .null, .null, .null, .null] [] (emb σ) Q := by
  have ek : ∀ a b c, f_X_wind [.ref 0, .int a, .int b, .int c] (emb σ) = (True, some (.int (wnF σ a b c).1), emb (wnF σ a b c).2) := fun a b c => by
    have hp : sm (σ 0 8 0) 1000 ∧ ltP σ := ⟨J_s0 h.1, LwS_lt h⟩
    rw [q_X_wind, eq_true hp]
  simp only [rL_act_765, rL_act_766, rL_act_768, rL_act_769, rL_act_770, rL_act_773, rL_act_774, rL_act_776, rL_act_777, rL_act_778, rL_act_779, rL_act_781, rL_act_784, rL_act_785, rL_act_787, rL_act_789, rL_act_792, rL_act_795, rL_act_797, ct1_i, ct1_r, ct1_n, true_and, and_true, tl_s, tl_n, le4_0, le4_1, le4_2, le4_3, le4_4, le4_5, isO_r, cl_, emb1, emb2, le_rN, sp_L_act_X_count, sp_L_act_L_low, sp_L_act_X_kite, sp_L_act_X_spool, sp_L_act_X_tails, sp_L_act_X_why, sp_L_act_X_hire, sp_L_act_X_kiteOf, sp_L_act_X_hireOf, sp_L_act_X_back, sp_L_act_X_ended, sp_L_act_X_tailsOf, sp_L_act_X_found, sp_L_act_X_ifPassed, sp_L_act_X_pass, sp_L_act_X_wind, sp_L_act_X_set, obX, q_low (show ¬ (6 : Int32) = 0 by decide), q_low (show ¬ (14 : Int32) = 0 by decide), q_low (show ¬ (10 : Int32) = 0 by decide), q_low (show ¬ (30 : Int32) = 0 by decide), q_low (show ¬ (150 : Int32) = 0 by decide), q_low (show ¬ (7 : Int32) = 0 by decide), q_low (show ¬ (8 : Int32) = 0 by decide), q_low (show ¬ (60 : Int32) = 0 by decide), q_low (show ¬ (3 : Int32) = 0 by decide), q_low (show ¬ (12 : Int32) = 0 by decide), q_low (show ¬ (4 : Int32) = 0 by decide), z10, z00, z11, z01, if_true, if_false, ek]
  exact Oc_fin h (wnF_o h _ _ _) (fun w2 j => ⟨_, _, _, _, _, _, j, by omega, by omega⟩) hQ
set_option maxHeartbeats 1000000 in
set_option maxRecDepth 20000 in
theorem lp_L_act_I (h : LwS σ T K S N O E) (hQ : ∀ σ', ActQ σ kind σ' → Q (some (.int 1)) (emb σ')) : Vf 97 sp_L_act ((127, SLT), sc) 800 [.ref 0, .ref 126, .int kind, .int a, .int b, .int kx, .int (oN T), .int 0, .int (σ 0 8 6), .int 1, .null, .null, .null, .null, .null, .null, .null, .null] [] (emb σ) Q := by
  have ek : ∀ a b, f_X_set [.ref 0, .int a, .int b] (emb σ) = (True, some (.int (stF σ a b).1), emb (stF σ a b).2) := fun a b => by rw [q_X_set, eq_true (LwS_lt h)]
  simp only [rL_act_800, rL_act_801, rL_act_802, rL_act_804, rL_act_807, rL_act_809, rL_act_811, rL_act_814, rL_act_817, rL_act_819, ct1_i, ct1_r, ct1_n, true_and, and_true, tl_s, tl_n, le4_0, le4_1, le4_2, le4_3, le4_4, le4_5, isO_r, cl_, emb1, emb2, le_rN, sp_L_act_X_count, sp_L_act_L_low, sp_L_act_X_kite, sp_L_act_X_spool, sp_L_act_X_tails, sp_L_act_X_why, sp_L_act_X_hire, sp_L_act_X_kiteOf, sp_L_act_X_hireOf, sp_L_act_X_back, sp_L_act_X_ended, sp_L_act_X_tailsOf, sp_L_act_X_found, sp_L_act_X_ifPassed, sp_L_act_X_pass, sp_L_act_X_wind, sp_L_act_X_set, obX, q_low (show ¬ (6 : Int32) = 0 by decide), q_low (show ¬ (14 : Int32) = 0 by decide), q_low (show ¬ (10 : Int32) = 0 by decide), q_low (show ¬ (30 : Int32) = 0 by decide), q_low (show ¬ (150 : Int32) = 0 by decide), q_low (show ¬ (7 : Int32) = 0 by decide), q_low (show ¬ (8 : Int32) = 0 by decide), q_low (show ¬ (60 : Int32) = 0 by decide), q_low (show ¬ (3 : Int32) = 0 by decide), q_low (show ¬ (12 : Int32) = 0 by decide), q_low (show ¬ (4 : Int32) = 0 by decide), z10, z00, z11, z01, if_true, if_false, ek]
  exact Oc_fin h (stF_o h _ _) (fun w2 j => ⟨_, _, _, _, _, _, j, by omega, by omega⟩) hQ
set_option maxHeartbeats 1000000 in
set_option maxRecDepth 20000 in
theorem lp_L_act_J (h : LwS σ T K S N O E) (hQ : ∀ σ', ActQ σ kind σ' → Q (some (.int 1)) (emb σ')) : Vf 97 sp_L_act ((127, SLT), sc) 822 [.ref 0, .ref 126, .int kind, .int a, .int b, .int kx, .int (oN T), .int 0, .int (σ 0 8 6), .int 1, .null, .null, .null, .null, .null, .null, .null, .null] [] (emb σ) Q := by
  have ek : ∀ a b, f_X_set [.ref 0, .int a, .int b] (emb σ) = (True, some (.int (stF σ a b).1), emb (stF σ a b).2) := fun a b => by rw [q_X_set, eq_true (LwS_lt h)]
  simp only [rL_act_822, rL_act_823, rL_act_824, rL_act_826, rL_act_828, rL_act_830, rL_act_833, rL_act_834, rL_act_837, ct1_i, ct1_r, ct1_n, true_and, and_true, tl_s, tl_n, le4_0, le4_1, le4_2, le4_3, le4_4, le4_5, isO_r, cl_, emb1, emb2, le_rN, sp_L_act_X_count, sp_L_act_L_low, sp_L_act_X_kite, sp_L_act_X_spool, sp_L_act_X_tails, sp_L_act_X_why, sp_L_act_X_hire, sp_L_act_X_kiteOf, sp_L_act_X_hireOf, sp_L_act_X_back, sp_L_act_X_ended, sp_L_act_X_tailsOf, sp_L_act_X_found, sp_L_act_X_ifPassed, sp_L_act_X_pass, sp_L_act_X_wind, sp_L_act_X_set, obX, q_low (show ¬ (6 : Int32) = 0 by decide), q_low (show ¬ (14 : Int32) = 0 by decide), q_low (show ¬ (10 : Int32) = 0 by decide), q_low (show ¬ (30 : Int32) = 0 by decide), q_low (show ¬ (150 : Int32) = 0 by decide), q_low (show ¬ (7 : Int32) = 0 by decide), q_low (show ¬ (8 : Int32) = 0 by decide), q_low (show ¬ (60 : Int32) = 0 by decide), q_low (show ¬ (3 : Int32) = 0 by decide), q_low (show ¬ (12 : Int32) = 0 by decide), q_low (show ¬ (4 : Int32) = 0 by decide), z10, z00, z11, z01, if_true, if_false, ek]
  exact Oc_fin h (stF_o h _ _) (fun w2 j => ⟨_, _, _, _, _, _, j, by omega, by omega⟩) hQ
set_option maxHeartbeats 1000000 in
set_option maxRecDepth 20000 in
theorem lp_L_act_B (h : LwS σ T K S N O E) (hk : ¬ 3 < kind) (hQ : ∀ σ', ActQ σ kind σ' → Q (some (.int 1)) (emb σ')) : Vf 97 sp_L_act ((127, SLT), sc) 151 [.ref 0, .ref 126, .int kind, .int a, .int b, .int kx, .int (oN T), .int 0, .int (σ 0 8 6), .int 1, .null, .null, .null, .null, .null, .null, .null, .null] [] (emb σ) Q := by
  obtain ⟨told, σ2, ek, ho⟩ : ∃ told σ2, f_X_spool [.ref 0, .int (lowF a 150)] (emb σ) = (True, some (.int told), emb σ2) ∧ Oc σ (told, σ2) (fun w2 => J w2 (fun t => if t = 6 then σ 8 0 6 + lowF a 150 else σ 8 0 t) T K (S + 1) N O E (10 * T)) := by
    refine ⟨(spoF σ (lowF a 150)).1, (spoF σ (lowF a 150)).2, ?_, spoF_o h _⟩
    rw [q_X_spool, eq_true (LwS_lt h)]
  have h8 := rcW_8 σ (LwS_lt h)
  rcases ho with ⟨h1, h2⟩ | ⟨h1, w2, h2, h3⟩
  · have h1t := eq_true h1
    change σ2 = σ at h2
    subst h2
    simp only [rL_act_151, rL_act_152, rL_act_153, rL_act_156, rL_act_159, rL_act_162, rL_act_164, rL_act_165, rL_act_167, rL_act_168, rL_act_169, rL_act_171, rL_act_174, rL_act_175, rL_act_178, rL_act_179, rL_act_182, rL_act_185, rL_act_186, rL_act_187, ct1_i, ct1_r, ct1_n, true_and, and_true, tl_s, tl_n, le4_0, le4_1, le4_2, le4_3, le4_4, le4_5, isO_r, cl_, emb1, emb2, le_rN, sp_L_act_X_count, sp_L_act_L_low, sp_L_act_X_kite, sp_L_act_X_spool, sp_L_act_X_tails, sp_L_act_X_why, sp_L_act_X_hire, sp_L_act_X_kiteOf, sp_L_act_X_hireOf, sp_L_act_X_back, sp_L_act_X_ended, sp_L_act_X_tailsOf, sp_L_act_X_found, sp_L_act_X_ifPassed, sp_L_act_X_pass, sp_L_act_X_wind, sp_L_act_X_set, obX, q_low (show ¬ (6 : Int32) = 0 by decide), q_low (show ¬ (14 : Int32) = 0 by decide), q_low (show ¬ (10 : Int32) = 0 by decide), q_low (show ¬ (30 : Int32) = 0 by decide), q_low (show ¬ (150 : Int32) = 0 by decide), q_low (show ¬ (7 : Int32) = 0 by decide), q_low (show ¬ (8 : Int32) = 0 by decide), q_low (show ¬ (60 : Int32) = 0 by decide), q_low (show ¬ (3 : Int32) = 0 by decide), q_low (show ¬ (12 : Int32) = 0 by decide), q_low (show ¬ (4 : Int32) = 0 by decide), z10, z00, z11, z01, if_true, if_false, ek, h1t, cm_ok, cm_al, cm_rd, cm_re, cm_ln, cm_s, true_or, iin7, iin6, n7, n6]
    refine lp_L_act_E (cf := σ2 8 0) (by rw [up1_nt (by decide)]; exact h.1) (fun _ => by rw [up1_nt (by decide)]) ?_
    rw [up1_up1]
    refine hQ _ (ActQ_n h (fun c hc => ?_) ?_)
    · rw [up1_at, u2k, if_neg (by omega), u2k]
      split
      · subst_vars; exact Int32.add_zero _
      · rfl
    · rw [up1_at, u2k, if_pos rfl]
      unfold tbF
      rw [if_pos h1]
  · have h1f := eq_false h1
    change σ2 = _ at h2
    have e8 : σ2 8 = σ 8 := by rw [h2, up1_nt (by decide)]; exact h8
    simp only [rL_act_151, rL_act_152, rL_act_153, rL_act_156, rL_act_159, rL_act_162, rL_act_164, rL_act_165, rL_act_167, rL_act_168, rL_act_169, rL_act_171, rL_act_174, rL_act_175, rL_act_178, rL_act_179, rL_act_182, rL_act_185, rL_act_186, rL_act_187, ct1_i, ct1_r, ct1_n, true_and, and_true, tl_s, tl_n, le4_0, le4_1, le4_2, le4_3, le4_4, le4_5, isO_r, cl_, emb1, emb2, le_rN, sp_L_act_X_count, sp_L_act_L_low, sp_L_act_X_kite, sp_L_act_X_spool, sp_L_act_X_tails, sp_L_act_X_why, sp_L_act_X_hire, sp_L_act_X_kiteOf, sp_L_act_X_hireOf, sp_L_act_X_back, sp_L_act_X_ended, sp_L_act_X_tailsOf, sp_L_act_X_found, sp_L_act_X_ifPassed, sp_L_act_X_pass, sp_L_act_X_wind, sp_L_act_X_set, obX, q_low (show ¬ (6 : Int32) = 0 by decide), q_low (show ¬ (14 : Int32) = 0 by decide), q_low (show ¬ (10 : Int32) = 0 by decide), q_low (show ¬ (30 : Int32) = 0 by decide), q_low (show ¬ (150 : Int32) = 0 by decide), q_low (show ¬ (7 : Int32) = 0 by decide), q_low (show ¬ (8 : Int32) = 0 by decide), q_low (show ¬ (60 : Int32) = 0 by decide), q_low (show ¬ (3 : Int32) = 0 by decide), q_low (show ¬ (12 : Int32) = 0 by decide), q_low (show ¬ (4 : Int32) = 0 by decide), z10, z00, z11, z01, if_true, if_false, ek, h1f, cm_ok, cm_al, cm_rd, cm_re, cm_ln, cm_s, true_or, iin7, iin6, n7, n6]
    refine lp_L_act_E (T := T) (K := K) (S := S + 1) (N := N) (O := O) (E := E) (bb := 10 * T) (cf := fun t => if t = 6 then σ 8 0 6 + lowF a 150 else σ 8 0 t) (by rw [up1_nt (by decide), h2, up1_at]; exact h3) (fun q => absurd q h1) ?_
    rw [up1_up1, e8, h2]
    refine hQ _ (ActQ_y h h3 (by omega) (by omega) (fun c hc => ?_) ?_ (fun q => absurd q hk))
    · rw [up1_at, u2k, if_neg (by omega), u2k]
    · rw [up1_at, u2k, if_pos rfl]
      unfold tbF
      rw [if_neg h1]
set_option maxHeartbeats 1000000 in
set_option maxRecDepth 20000 in
theorem lp_L_act_C (h : LwS σ T K S N O E) (hk : ¬ 3 < kind) (hQ : ∀ σ', ActQ σ kind σ' → Q (some (.int 1)) (emb σ')) : Vf 97 sp_L_act ((127, SLT), sc) 190 [.ref 0, .ref 126, .int kind, .int a, .int b, .int kx, .int (oN T), .int 0, .int (σ 0 8 6), .int 1, .null, .null, .null, .null, .null, .null, .null, .null] [] (emb σ) Q := by
  obtain ⟨d, hd, ed⟩ := lowF_n a (n := 7) (by decide) (by decide)
  have ed : lowF a 7 = oN d := ed
  obtain ⟨told, σ2, ek, ho⟩ : ∃ told σ2, f_X_tails [.ref 0, .int (oN d), .int (lowF b 8)] (emb σ) = (True, some (.int told), emb σ2) ∧ Oc σ (told, σ2) (fun w2 => d < 6 ∧ J w2 (fun t => if t = d then σ 8 0 d + lowF b 8 else σ 8 0 t) T K S N O E (10 * T)) := by
    refine ⟨(taF σ (oN d) (lowF b 8)).1, (taF σ (oN d) (lowF b 8)).2, ?_, taF_o h hd _⟩
    rw [q_X_tails, eq_true (LwS_lt h)]
  have h8 := rcW_8 σ (LwS_lt h)
  have id8 := iin_c (c := d) (n := 8) (by omega) (by decide)
  have nd : (oN d).toNatClampNeg = d := oN_nat (by omega)
  rcases ho with ⟨h1, h2⟩ | ⟨h1, w2, h2, h3⟩
  · have h1t := eq_true h1
    change σ2 = σ at h2
    subst h2
    simp only [rL_act_190, rL_act_191, rL_act_192, rL_act_194, rL_act_197, rL_act_199, rL_act_201, rL_act_204, rL_act_207, rL_act_209, rL_act_210, rL_act_211, rL_act_213, rL_act_216, rL_act_217, rL_act_218, rL_act_220, rL_act_223, rL_act_224, rL_act_227, rL_act_229, rL_act_231, rL_act_234, rL_act_235, rL_act_236, ct1_i, ct1_r, ct1_n, true_and, and_true, tl_s, tl_n, le4_0, le4_1, le4_2, le4_3, le4_4, le4_5, isO_r, cl_, emb1, emb2, le_rN, sp_L_act_X_count, sp_L_act_L_low, sp_L_act_X_kite, sp_L_act_X_spool, sp_L_act_X_tails, sp_L_act_X_why, sp_L_act_X_hire, sp_L_act_X_kiteOf, sp_L_act_X_hireOf, sp_L_act_X_back, sp_L_act_X_ended, sp_L_act_X_tailsOf, sp_L_act_X_found, sp_L_act_X_ifPassed, sp_L_act_X_pass, sp_L_act_X_wind, sp_L_act_X_set, obX, q_low (show ¬ (6 : Int32) = 0 by decide), q_low (show ¬ (14 : Int32) = 0 by decide), q_low (show ¬ (10 : Int32) = 0 by decide), q_low (show ¬ (30 : Int32) = 0 by decide), q_low (show ¬ (150 : Int32) = 0 by decide), q_low (show ¬ (7 : Int32) = 0 by decide), q_low (show ¬ (8 : Int32) = 0 by decide), q_low (show ¬ (60 : Int32) = 0 by decide), q_low (show ¬ (3 : Int32) = 0 by decide), q_low (show ¬ (12 : Int32) = 0 by decide), q_low (show ¬ (4 : Int32) = 0 by decide), z10, z00, z11, z01, if_true, if_false, ed, ek, h1t, id8, nd, cm_ok, cm_al, cm_rd, cm_re, cm_ln, cm_s, true_or, iin7, iin6, n7, n6]
    refine lp_L_act_E (cf := σ2 8 0) (by rw [up1_nt (by decide)]; exact h.1) (fun _ => by rw [up1_nt (by decide)]) ?_
    rw [up1_up1]
    refine hQ _ (ActQ_n h (fun c hc => ?_) ?_)
    · rw [up1_at, u2k, if_neg (by omega), u2k]
      split
      · subst_vars; exact Int32.add_zero _
      · rfl
    · rw [up1_at, u2k, if_pos rfl]
      unfold tbF
      rw [if_pos h1]
  · have h1f := eq_false h1
    change σ2 = _ at h2
    obtain ⟨hd6, h3⟩ := h3
    have e8 : σ2 8 = σ 8 := by rw [h2, up1_nt (by decide)]; exact h8
    simp only [rL_act_190, rL_act_191, rL_act_192, rL_act_194, rL_act_197, rL_act_199, rL_act_201, rL_act_204, rL_act_207, rL_act_209, rL_act_210, rL_act_211, rL_act_213, rL_act_216, rL_act_217, rL_act_218, rL_act_220, rL_act_223, rL_act_224, rL_act_227, rL_act_229, rL_act_231, rL_act_234, rL_act_235, rL_act_236, ct1_i, ct1_r, ct1_n, true_and, and_true, tl_s, tl_n, le4_0, le4_1, le4_2, le4_3, le4_4, le4_5, isO_r, cl_, emb1, emb2, le_rN, sp_L_act_X_count, sp_L_act_L_low, sp_L_act_X_kite, sp_L_act_X_spool, sp_L_act_X_tails, sp_L_act_X_why, sp_L_act_X_hire, sp_L_act_X_kiteOf, sp_L_act_X_hireOf, sp_L_act_X_back, sp_L_act_X_ended, sp_L_act_X_tailsOf, sp_L_act_X_found, sp_L_act_X_ifPassed, sp_L_act_X_pass, sp_L_act_X_wind, sp_L_act_X_set, obX, q_low (show ¬ (6 : Int32) = 0 by decide), q_low (show ¬ (14 : Int32) = 0 by decide), q_low (show ¬ (10 : Int32) = 0 by decide), q_low (show ¬ (30 : Int32) = 0 by decide), q_low (show ¬ (150 : Int32) = 0 by decide), q_low (show ¬ (7 : Int32) = 0 by decide), q_low (show ¬ (8 : Int32) = 0 by decide), q_low (show ¬ (60 : Int32) = 0 by decide), q_low (show ¬ (3 : Int32) = 0 by decide), q_low (show ¬ (12 : Int32) = 0 by decide), q_low (show ¬ (4 : Int32) = 0 by decide), z10, z00, z11, z01, if_true, if_false, ed, ek, h1f, id8, nd, cm_ok, cm_al, cm_rd, cm_re, cm_ln, cm_s, true_or, iin7, iin6, n7, n6]
    refine lp_L_act_E (T := T) (K := K) (S := S) (N := N) (O := O) (E := E) (bb := 10 * T) (cf := fun t => if t = d then σ 8 0 d + lowF b 8 else σ 8 0 t) (by rw [up1_nt (by decide), h2, up1_at]; exact h3) (fun q => absurd q h1) ?_
    rw [up1_up1, e8, h2]
    refine hQ _ (ActQ_y h h3 (by omega) (by omega) (fun c hc => ?_) ?_ (fun q => absurd q hk))
    · rw [up1_at, u2k, if_neg (by omega), u2k]
    · rw [up1_at, u2k, if_pos rfl]
      unfold tbF
      rw [if_neg h1]
end ACT
