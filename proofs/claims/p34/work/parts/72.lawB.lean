/-! THE LAW: a hire is as it should be -/
theorem tw_n {w : HV} {k n : Nat} (hk : k < 16) (hn : n < 1000) : tooWP w (oN k) (oN n) ↔ (w 2 (k * 8 + 2) < w 0 n ∨ ¬ w 0 n < w 1 0) := by
  have hlt : oN n < 1000 := by show oN n < oN 1000; rw [oN_lt (by omega) (by decide)]; exact hn
  unfold tooWP
  rw [kt_2 hk, wi_n hn, se_0]
  exact ⟨fun q => q.2, fun q => ⟨hlt, q⟩⟩
theorem tc_n {w : HV} {k n : Nat} (hk : k < 16) (hn : n < 1000) : tooCP w (oN k) (oN n) ↔ w 0 n < w 2 (k * 8 + 1) := by
  have hlt : oN n < 1000 := by show oN n < oN 1000; rw [oN_lt (by omega) (by decide)]; exact hn
  unfold tooCP
  rw [kt_1 hk, wi_n hn]
  exact ⟨fun q => q.2, fun q => ⟨hlt, q⟩⟩
theorem hsF_s {w : HV} {k n r : Nat} {z : Int32} (hk : k < 16) (hn : n < 1000) : hsF w (oN k) n (r + 1) z = if w 0 n < w 2 (k * 8 + 1) then hsF w (oN k) (n + 1) r z else if w 2 (k * 8 + 2) < w 0 n then hsF w (oN k) (n + 1) r z else if w 0 n < w 1 0 then (if z + w 0 n * w 2 (k * 8 + 3) < w 1 1 then hsF w (oN k) (n + 1) r (z + w 0 n * w 2 (k * 8 + 3)) else oN n - w 8 0 + 1) else hsF w (oN k) (n + 1) r z := by
  show (if ¬ tooWP w (oN k) (oN n) ∧ ¬ tooCP w (oN k) (oN n) then (if z + windAt w (oN n) * kt w (oN k) 3 < settg w 1 then hsF w (oN k) (n + 1) r (z + windAt w (oN n) * kt w (oN k) 3) else oN n - w 8 0 + 1) else hsF w (oN k) (n + 1) r z) = _
  have e1 : (¬ tooWP w (oN k) (oN n) ∧ ¬ tooCP w (oN k) (oN n)) ↔ (¬ w 0 n < w 2 (k * 8 + 1) ∧ ¬ w 2 (k * 8 + 2) < w 0 n ∧ w 0 n < w 1 0) := by
    rw [tw_n hk hn, tc_n hk hn]
    constructor
    · rintro ⟨q1, q2⟩
      exact ⟨q2, fun z => q1 (Or.inl z), Decidable.byContradiction (fun z => q1 (Or.inr z))⟩
    · rintro ⟨q1, q2, q3⟩
      exact ⟨fun z => z.elim q2 (fun y => y q3), q1⟩
  have e2 : windAt w (oN n) = w 0 n := wi_n hn
  have e3 : kt w (oN k) 3 = w 2 (k * 8 + 3) := kt_3 hk
  have e4 : settg w 1 = w 1 1 := se_1
  by_cases h1 : w 0 n < w 2 (k * 8 + 1)
  · rw [if_pos h1, if_neg (fun q => (e1.mp q).1 h1)]
  rw [if_neg h1]
  by_cases h2 : w 2 (k * 8 + 2) < w 0 n
  · rw [if_pos h2, if_neg (fun q => (e1.mp q).2.1 h2)]
  rw [if_neg h2]
  by_cases h3 : w 0 n < w 1 0
  · rw [if_pos h3, if_pos (e1.mpr ⟨h1, h2, h3⟩), e2, e3, e4]
  · rw [if_neg h3, if_neg (fun q => h3 (e1.mp q).2.2)]
set_option maxHeartbeats 1000000 in
set_option maxRecDepth 20000 in
theorem lp_L_isHireE {sp : Nat → Sp} {e : En} {x k s d z n : Int32} {v9 : Value} {S : MS} {Q : Option Value → MS → Prop} (hd : n < 1000 → d ≠ -5) (hQ : Q (some (.int 1)) S) : Vf 96 sp e 123 [.ref 0, .int x, .int k, .int s, .int d, .int 1, .int z, .int d, .int n, v9] [] S Q := by
  rw [rL_isHire_123]
  simp only [rL_isHire_125, rL_isHire_128, rL_isHire_131, rL_isHire_133, rL_isHire_135, rL_isHire_227, rL_isHire_229, rL_isHire_232, rL_isHire_234, rL_isHire_236, rL_isHire_239, rL_isHire_240, rL_isHire_243, rL_isHire_244, ct1_i, ct1_r, ct1_n, true_and, and_true, tl_s, tl_n, le4_0, le4_1, le4_2, le4_3, le4_4, le4_5, isO_r, if_true, if_false, rb_1, show ((1 : Int32) = 0) = False from eq_false (by decide)]
  by_cases h1 : n < 1000
  · rw [if_pos h1, if_neg (hd h1)]
    exact hQ
  · rw [if_neg h1]
    exact hQ
set_option maxHeartbeats 1000000 in
set_option maxRecDepth 20000 in
theorem lp_L_isHire {sp : Nat → Sp} (h70 : sp 70 = f_X_windOf) (h67 : sp 67 = f_X_kiteOf) (h84 : sp 84 = f_X_count) {sc : Nat × (Nat → Int32)} {σ : SG} {cf : Nat → Int32} {T K S N O E b k : Nat} (h : J (σ 0) cf T K S N O E b) (hk : k < K) {x s : Int32} {Q : Option Value → MS → Prop} (hQ : Q (some (.int 1)) (emb σ)) : ∀ (m n : Nat) (z : Int32) (v9 : Value), n + m = 1000 → T ≤ n → Vf 96 sp ((127, SLT), sc) 123 [.ref 0, .int x, .int (oN k), .int s, .int (hsF (σ 0) (oN k) n m z), .int 1, .int z, .int (-5), .int (oN n), v9] [] (emb σ) Q := by
  have hb := J_bd h
  intro m
  induction m with
  | zero =>
    intro n z v9 hm hn
    have : n = 1000 := by omega
    subst this
    exact lp_L_isHireE (fun q => absurd q (by decide)) hQ
  | succ m ih =>
    intro n z v9 hm hn
    have hlt : oN n < 1000 := by show oN n < oN 1000; rw [oN_lt (by omega) (by decide)]; omega
    rw [rL_isHire_123]
    simp only [rL_isHire_125, rL_isHire_128, rL_isHire_131, rL_isHire_133, rL_isHire_135, rL_isHire_138, rL_isHire_139, rL_isHire_141, rL_isHire_144, rL_isHire_146, rL_isHire_148, rL_isHire_149, rL_isHire_150, rL_isHire_151, rL_isHire_154, rL_isHire_157, rL_isHire_159, rL_isHire_160, rL_isHire_161, rL_isHire_162, rL_isHire_165, rL_isHire_168, rL_isHire_170, rL_isHire_171, rL_isHire_173, rL_isHire_176, rL_isHire_179, rL_isHire_181, rL_isHire_183, rL_isHire_184, rL_isHire_185, rL_isHire_186, rL_isHire_189, rL_isHire_190, rL_isHire_191, rL_isHire_193, rL_isHire_195, rL_isHire_196, rL_isHire_198, rL_isHire_201, rL_isHire_204, rL_isHire_206, rL_isHire_207, rL_isHire_208, rL_isHire_211, rL_isHire_212, rL_isHire_213, rL_isHire_214, rL_isHire_217, rL_isHire_219, rL_isHire_221, rL_isHire_224, ct1_i, ct1_r, ct1_n, true_and, and_true, tl_s, tl_n, le4_0, le4_1, le4_2, le4_3, le4_4, le4_5, isO_r, cl_, emb1, emb2, le_rN, h70, h67, h84, obX, rd_wind (σ := σ) (show n < 1000 by omega), rk_1 h hk, rk_2 h hk, rk_3 h hk, ct_18 h, ct_19 h, ct_0 h, if_pos hlt, if_true, oN_succ]
    rw [hsF_s (by omega) (by omega)]
    by_cases h1 : σ 0 0 n < σ 0 2 (k * 8 + 1)
    · rw [if_pos h1, if_pos h1]
      exact ih (n + 1) _ _ (by omega) (by omega)
    rw [if_neg h1, if_neg h1]
    by_cases h2 : σ 0 2 (k * 8 + 2) < σ 0 0 n
    · rw [if_pos h2, if_pos h2]
      exact ih (n + 1) _ _ (by omega) (by omega)
    rw [if_neg h2, if_neg h2]
    by_cases h3 : σ 0 0 n < σ 0 1 0
    · rw [if_pos h3, if_pos h3]
      by_cases h4 : z + σ 0 0 n * σ 0 2 (k * 8 + 3) < σ 0 1 1
      · rw [if_pos h4, if_pos h4]
        exact ih (n + 1) _ _ (by omega) (by omega)
      · rw [if_neg h4, if_neg h4, J_80 h]
        refine lp_L_isHireE (fun _ => ?_) hQ
        rw [oN_sub hn, oN_succ]
        exact oN_m5 (by omega)
    · rw [if_neg h3, if_neg h3]
      exact ih (n + 1) _ _ (by omega) (by omega)
/-- a hut that holds the invariant, and a hire that has not ended -/
def HirP (σ : SG) (x : Int32) : Prop := ∃ T K S N O E b, J (σ 0) (σ 8 0) T K S N O E b ∧ ∃ P, P < O ∧ σ 0 5 (P * 7 + 6) = x

def sp_L_isHire : Nat → Sp := spL [(69, f_X_hireOf), (88, f_X_snapsIn), (67, f_X_kiteOf), (63, f_X_spoolOf), (84, f_X_count), (70, f_X_windOf)]
theorem sp_L_isHire_X_hireOf : sp_L_isHire 69 = f_X_hireOf := rfl
theorem sp_L_isHire_X_snapsIn : sp_L_isHire 88 = f_X_snapsIn := rfl
theorem sp_L_isHire_X_kiteOf : sp_L_isHire 67 = f_X_kiteOf := rfl
theorem sp_L_isHire_X_spoolOf : sp_L_isHire 63 = f_X_spoolOf := rfl
theorem sp_L_isHire_X_count : sp_L_isHire 84 = f_X_count := rfl
theorem sp_L_isHire_X_windOf : sp_L_isHire 70 = f_X_windOf := rfl
def f_L_isHire : Sp := aS 9 (fun _ => 0) 1 (gL1 (fun _ x σ => (HirP σ x, some (.int 1), σ)))
theorem q_L_isHire {x : Int32} {σ : SG} : f_L_isHire [.ref 0, .int x] (emb σ) = (HirP σ x, some (.int 1), emb (σ)) := aS1_at (ad := (fun _ => 0)) (i := hI 0) (by decide) rfl
set_option maxHeartbeats 4000000 in
set_option maxRecDepth 20000 in
theorem ok_L_isHire : SpecOK 96 f_L_isHire := SpecOK.of (sp := sp_L_isHire) (by decide) (by decide) (spL_ok (List.forall_mem_cons.mpr ⟨ok_X_hireOf, (List.forall_mem_cons.mpr ⟨ok_X_snapsIn, (List.forall_mem_cons.mpr ⟨ok_X_kiteOf, (List.forall_mem_cons.mpr ⟨ok_X_spoolOf, (List.forall_mem_cons.mpr ⟨ok_X_count, (List.forall_mem_cons.mpr ⟨ok_X_windOf, (fun q h => absurd h List.not_mem_nil)⟩)⟩)⟩)⟩)⟩)⟩)) (Does_aS1 (Nat.le_of_ble_eq_true rfl) (fun sc i x σ hi had hp => by
  refine Vf_q ?_ ⟨rfl, rfl⟩
  intro Q hQ
  dsimp only at hQ hp
  show Vf 96 _ _ 0 [.ref (0), .int x, .null, .null, .null, .null, .null, .null, .null, .null] [] (emb σ) _

  obtain ⟨T, K, S, N, O, E, b, h, P, hP, hx⟩ := hp
  have hb := J_bd h
  obtain ⟨k, s, n, p1, p2, p3, p4, p5, p6, p7, p8, p9, pA, pB⟩ := h.1.2.2.2.1 P hP
  obtain ⟨l0, l1, l2, l3⟩ := pB (by omega)
  obtain ⟨k', s', m, M, p, l', q, g1, g2, g3, g4, g5, g6, g7, g8, g9, gA, gB, gC, gD, gE⟩ := h.2.1.2.2.2.2.2.1 P hP (by omega)
  have ek : k' = k := oN_inj (by omega) (by omega) (g3.symm.trans p4)
  have es : s' = s := oN_inj (by omega) (by omega) (g4.symm.trans p5)
  subst ek
  subst es
  have hxn : x = oN n := hx.symm.trans p6
  subst hxn
  have n1 : (oN M < oN m) = False := eq_false (by rw [oN_lt (by omega) (by omega)]; omega)
  have n2 : (oN l0 < 1) = False := eq_false (by show ¬ oN l0 < oN 1; rw [oN_lt (by omega) (by decide)]; omega)
  have n3 : (12 < oN l0) = False := eq_false (by show ¬ oN 12 < oN l0; rw [oN_lt (by decide) (by omega)]; omega)
  have n4 : (oN q < 0) = False := oN_nn (by omega)
  have e1 : siF (σ 0) (oN n) = hsF (σ 0) (oN k') T (1000 - T) (σ 0 3 (s' * 4 + 1)) := by
    unfold siF
    rw [rwF_at h hP hx, if_neg (of_eq_false (oN_nn (show P < 2 ^ 31 by omega))), hr_0 (by omega), hr_1 (by omega), p4, p5, sl_1 g2, J_80 h, oN_nat (by omega)]
  simp only [rL_isHire_0, rL_isHire_1, rL_isHire_2, rL_isHire_3, rL_isHire_6, rL_isHire_7, rL_isHire_8, rL_isHire_9, rL_isHire_10, rL_isHire_13, rL_isHire_14, rL_isHire_15, rL_isHire_16, rL_isHire_19, rL_isHire_21, rL_isHire_22, rL_isHire_23, rL_isHire_24, rL_isHire_27, rL_isHire_28, rL_isHire_31, rL_isHire_32, rL_isHire_33, rL_isHire_35, rL_isHire_38, rL_isHire_39, rL_isHire_42, rL_isHire_43, rL_isHire_44, rL_isHire_45, rL_isHire_48, rL_isHire_49, rL_isHire_52, rL_isHire_53, rL_isHire_54, rL_isHire_55, rL_isHire_58, rL_isHire_59, rL_isHire_60, rL_isHire_61, rL_isHire_64, rL_isHire_67, rL_isHire_68, rL_isHire_69, rL_isHire_70, rL_isHire_73, rL_isHire_74, rL_isHire_77, rL_isHire_78, rL_isHire_79, rL_isHire_80, rL_isHire_83, rL_isHire_85, rL_isHire_88, rL_isHire_89, rL_isHire_90, rL_isHire_91, rL_isHire_94, rL_isHire_97, rL_isHire_98, rL_isHire_101, rL_isHire_102, rL_isHire_104, rL_isHire_105, rL_isHire_106, rL_isHire_107, rL_isHire_110, rL_isHire_112, rL_isHire_114, rL_isHire_116, rL_isHire_117, rL_isHire_118, rL_isHire_121, ct1_i, ct1_r, ct1_n, true_and, and_true, tl_s, tl_n, le4_0, le4_1, le4_2, le4_3, le4_4, le4_5, isO_r, cl_, emb1, emb2, le_rN, up1_at, up1_up1, sp_L_isHire_X_hireOf, sp_L_isHire_X_snapsIn, sp_L_isHire_X_kiteOf, sp_L_isHire_X_spoolOf, sp_L_isHire_X_count, sp_L_isHire_X_windOf, obX, rh_0 h hP hx, rh_1 h hP hx, rh_2 h hP hx, rh_3 h hP hx, rh_5 h hP hx, rd_snaps h, rk_0 h p1, rk_7 h p1, rs_0 h p2, rs_1 h p2, rs_2 h p2, ct_0 h, p4, p5, p7, p8, p9, g5, g6, l3, g9, e1, n1, n2, n3, n4, if_true, if_false]
  exact lp_L_isHire sp_L_isHire_X_windOf sp_L_isHire_X_kiteOf sp_L_isHire_X_count h p1 hQ _ _ _ _ (by omega) (Nat.le_refl _)))
