/-! THE HUT: hires begin, end, an hour passes -/
theorem up2_nt {w : HV} {k : Fin 9} {t t' : Nat} {x : Int32} (h : t' ≠ t) : up2 w k t x k t' = w k t' := by
  unfold up2
  rw [if_neg (fun q => h q.2)]
theorem mvT_ne {w : HV} {s a b : Int32} {k : Fin 9} (h : k ≠ 4) : ∀ n, mvT w s a b n k = w k
  | 0 => rfl
  | n + 1 => by
    show pa (pa (mvT w s a b n) 4 3 18 (oN n) a (-(bit s n))) 4 3 18 (oN n) b (bit s n) k = w k
    rw [pa_ne h, pa_ne h, mvT_ne h n]
/-- a row of hires is taken out -/
def drp (w : HV) (p : Nat) : HV := fun k j => if k = 5 ∧ p * 7 ≤ j ∧ j + 7 < 70 then w 5 (j + 7) else w k j
def drN (w : HV) (p n : Nat) : HV := fun k j => if k = 5 ∧ p ≤ j ∧ j < n then w 5 (j + 7) else w k j
theorem drp_ne {w : HV} {p : Nat} {k : Fin 9} (h : k ≠ 5) : drp w p k = w k := by
  funext j
  unfold drp
  rw [if_neg (fun q => h q.1)]
theorem drN_0 (w : HV) (p n : Nat) (h : n ≤ p) : drN w p n = w := by
  funext k j
  unfold drN
  rw [if_neg (by omega)]
theorem drN_s (w : HV) (p n : Nat) (h : p ≤ n) : up2 (drN w p n) 5 n (drN w p n 5 (n + 7)) = drN w p (n + 1) := by
  funext k j
  unfold up2
  have e : drN w p n 5 (n + 7) = w 5 (n + 7) := by
    unfold drN
    rw [if_neg (by omega)]
  rw [e]
  unfold drN
  by_cases hk : k = 5
  · by_cases hj : j = n
    · rw [if_pos ⟨hk, hj⟩, if_pos ⟨hk, by omega, by omega⟩, hj]
    · rw [if_neg (fun q => hj q.2)]
      by_cases h2 : p ≤ j ∧ j < n
      · rw [if_pos ⟨hk, h2⟩, if_pos ⟨hk, by omega, by omega⟩]
      · rw [if_neg (fun q => h2 q.2), if_neg (fun q => h2 ⟨q.2.1, by omega⟩)]
  · rw [if_neg (fun q => hk q.1), if_neg (fun q => hk q.1), if_neg (fun q => hk q.1)]
theorem drN_end (w : HV) (p : Nat) (n : Nat) (h1 : p * 7 ≤ n) (h2 : 63 ≤ n) (h3 : p * 7 < n → n = 63) : drN w (p * 7) n = drp w p := by
  funext k j
  unfold drN drp
  by_cases hk : k = 5 ∧ p * 7 ≤ j ∧ j + 7 < 70
  · rw [if_pos hk, if_pos ⟨hk.1, hk.2.1, by omega⟩]
  · rw [if_neg hk, if_neg]
    rintro ⟨q1, q2, q3⟩
    exact hk ⟨q1, q2, by have := h3 (by omega); omega⟩
theorem v5_0 {i : Nat} {σ : SG} (hi : i < 7) : (emb σ).2.2.2 (tabA i 5) 0 = .int 7 := vl_t0 hi (by decide)
theorem v5_1 {i : Nat} {σ : SG} (hi : i < 7) : (emb σ).2.2.2 (tabA i 5) 1 = .ref (arrA i 5) := vl_t1 hi (by decide)
theorem a5 {i : Nat} {σ : SG} (hi : i < 7) : ari (emb σ) (arrA i 5) 7 := ar_a hi (by decide)
theorem l5 {i : Nat} {σ : SG} (hi : i < 7) : ((emb σ).2.2.1 (arrA i 5)).2 = 70 := by
  show (kdE (arrA i 5)).2 = _
  rw [kd_a hi (by decide)]
  rfl
theorem g5 {i t : Nat} {σ : SG} (hi : i < 7) : (emb σ).2.2.2 (arrA i 5) t = .int (σ i 5 t) := vl_a (k := 5) hi (by decide)
theorem s5 {i t : Nat} {x : Int32} {σ : SG} (hi : i < 7) : svSet (emb σ) (arrA i 5) t (.int x) = emb (up1 σ i (up2 (σ i) 5 t x)) := set_a (k := 5) hi (by decide)
theorem iin_n {n len : Nat} (h : n < len) (hl : len < 2 ^ 31) : iin (oN n) len = True := eq_true (by
  intro q
  rw [oN_nn (by omega), oN_nat (by omega)] at q
  rcases q with q | q
  · exact q
  · omega)
set_option maxHeartbeats 4000000 in
set_option maxRecDepth 20000 in
theorem lp_T_dropRow {sp : Nat → Sp} {sc : Nat × (Nat → Int32)} {i : Nat} {σ : SG} {r z : Int32} {Q : Option Value → MS → Prop} (hi : i < 7) (p : Nat) (hp : p ≤ 9) (hQ : Q none (emb (up1 σ i (drp (σ i) p)))) : ∀ (m n : Nat), n + m = 63 → p * 7 ≤ n → Vf 6 sp ((127, SLT), sc) 14 [.ref (tabA i 5), .int r, .int z, .int (oN n)] [] (emb (up1 σ i (drN (σ i) (p * 7) n))) Q := by
  intro m
  induction m with
  | zero =>
    intro n hn hpn
    have h0 : ¬ oN n + 7 < oN 70 := by rw [show oN n + 7 = oN (n + 7) from oN_add n 7, oN_lt (by omega) (by decide)]; omega
    rw [rT_dropRow_14]
    simp only [rT_dropRow_0, rT_dropRow_1, rT_dropRow_2, rT_dropRow_5, rT_dropRow_6, rT_dropRow_7, rT_dropRow_8, rT_dropRow_11, rT_dropRow_12, rT_dropRow_13, rT_dropRow_15, rT_dropRow_16, rT_dropRow_19, rT_dropRow_20, rT_dropRow_21, rT_dropRow_24, rT_dropRow_25, rT_dropRow_28, rT_dropRow_29, rT_dropRow_32, rT_dropRow_33, rT_dropRow_34, rT_dropRow_37, rT_dropRow_38, rT_dropRow_39, rT_dropRow_42, rT_dropRow_43, rT_dropRow_44, rT_dropRow_45, rT_dropRow_48, rT_dropRow_51, ct1_i, ct1_r, ct1_n, true_and, and_true, tl_s, tl_n, le4_0, le4_1, le4_2, le4_3, le4_4, le4_5, isO_r, obt_5 hi, v5_0 hi, v5_1 hi, aok_ari 7 (a5 hi), aln_ari (a5 hi), l5 hi, true_or, if_neg h0]
    rw [drN_end _ p n hpn (by omega) (by omega)]
    exact hQ
  | succ m ih =>
    intro n hn hpn
    have h0 : oN (n + 7) < oN 70 := by rw [oN_lt (by omega) (by decide)]; omega
    have h7 : oN n + 7 = oN (n + 7) := oN_add n 7
    rw [rT_dropRow_14]
    simp only [rT_dropRow_0, rT_dropRow_1, rT_dropRow_2, rT_dropRow_5, rT_dropRow_6, rT_dropRow_7, rT_dropRow_8, rT_dropRow_11, rT_dropRow_12, rT_dropRow_13, rT_dropRow_15, rT_dropRow_16, rT_dropRow_19, rT_dropRow_20, rT_dropRow_21, rT_dropRow_24, rT_dropRow_25, rT_dropRow_28, rT_dropRow_29, rT_dropRow_32, rT_dropRow_33, rT_dropRow_34, rT_dropRow_37, rT_dropRow_38, rT_dropRow_39, rT_dropRow_42, rT_dropRow_43, rT_dropRow_44, rT_dropRow_45, rT_dropRow_48, rT_dropRow_51, ct1_i, ct1_r, ct1_n, true_and, and_true, tl_s, tl_n, le4_0, le4_1, le4_2, le4_3, le4_4, le4_5, isO_r, obt_5 hi, v5_0 hi, v5_1 hi, aok_ari 7 (a5 hi), aln_ari (a5 hi), ard_ari (a5 hi), eq_true (a5 hi), l5 hi, true_or, if_pos h0, h7, iin_n (show n < 70 by omega) (by decide), iin_n (show n + 7 < 70 by omega) (by decide), oN_nat (show n < 2 ^ 31 by omega), oN_nat (show n + 7 < 2 ^ 31 by omega), g5 hi, s5 hi, toI_i, up1_at, up1_up1, drN_s _ _ _ hpn, oN_succ]
    exact ih (n + 1) (by omega) (by omega)

def sp_T_dropRow : Nat → Sp := spL []
def f_T_dropRow : Sp := aS 7 (fun i => tabA i 5) 1 (gL1 (fun i r σ => (sm r 9, none, up1 σ i (drp (σ i) r.toNatClampNeg))))
theorem q_T_dropRow {i : Nat} {r : Int32} {σ : SG} (hi : i < 7) : f_T_dropRow [.ref (tabA i 5), .int r] (emb σ) = (sm r 9, none, emb (up1 σ i (drp (σ i) r.toNatClampNeg))) := aS1_at (ad := (fun i => tabA i 5)) hi (hI_t hi (by decide))
set_option maxHeartbeats 4000000 in
set_option maxRecDepth 20000 in
theorem ok_T_dropRow : SpecOK 6 f_T_dropRow := SpecOK.of (sp := sp_T_dropRow) (by decide) (by decide) (spL_ok (fun q h => absurd h List.not_mem_nil)) (Does_aS1 (Nat.le_of_ble_eq_true rfl) (fun sc i r σ hi had hp => by
  show Vf 6 _ _ 0 [.ref (tabA i 5), .int r, .null, .null] [] (emb σ) _

  have hr := sm_eq hp
  have hb := hp.2
  generalize hg : r.toNatClampNeg = p at hr hb
  subst hr
  have h1 : oN p * 7 = oN (p * 7) := oN_mul p 7
  have h0 : (oN (p * 7) < 0) = False := oN_nn (by omega)
  simp only [rT_dropRow_0, rT_dropRow_1, rT_dropRow_2, rT_dropRow_5, rT_dropRow_6, rT_dropRow_7, rT_dropRow_8, rT_dropRow_11, rT_dropRow_12, rT_dropRow_13, ct1_i, ct1_r, ct1_n, true_and, and_true, tl_s, tl_n, le4_0, le4_1, le4_2, le4_3, le4_4, le4_5, isO_r, obt_5 hi, v5_0 hi, h1, h0, if_false, hg]
  rcases Nat.lt_or_ge (p * 7) 64 with hq | hq
  · have h9 := lp_T_dropRow (sp := sp_T_dropRow) (sc := sc) (σ := σ) (r := oN p) (z := oN (p * 7)) (Q := fun r S' => r = none ∧ S' = emb (up1 σ i (drp (σ i) p))) hi p hb ⟨rfl, rfl⟩ (63 - p * 7) (p * 7) (by omega) (Nat.le_refl _)
    rw [drN_0 _ _ _ (Nat.le_refl _), up1_self] at h9
    exact h9
  · omega))
def bcnt1 (x : Int32) : Int32 := x - ((x.toUInt32 >>> ((1 : Int32).toUInt32 &&& Int32.toUInt32 31)).toInt32 &&& 1431655765)
def bcnt2 (x : Int32) : Int32 := (x &&& 858993459) + ((x.toUInt32 >>> ((2 : Int32).toUInt32 &&& Int32.toUInt32 31)).toInt32 &&& 858993459)
def bcnt3 (x : Int32) : Int32 := (x + (x.toUInt32 >>> ((4 : Int32).toUInt32 &&& Int32.toUInt32 31)).toInt32) &&& 252645135
def bcnt4 (x : Int32) : Int32 := x + (x.toUInt32 >>> ((8 : Int32).toUInt32 &&& Int32.toUInt32 31)).toInt32
def bcnt5 (x : Int32) : Int32 := x + (x.toUInt32 >>> ((16 : Int32).toUInt32 &&& Int32.toUInt32 31)).toInt32
/-- how many bits -/
def bcnt (x : Int32) : Int32 := bcnt5 (bcnt4 (bcnt3 (bcnt2 (bcnt1 x)))) &&& 63
def sp_J_bitCount : Nat → Sp := spL []
def f_J_bitCount : Sp := fS 1 (gF1 (fun x => (True, some (.int (bcnt x)))))
theorem q_J_bitCount {x : Int32} {S : MS} : f_J_bitCount [.int x] S = (True, some (.int (bcnt x)), S) := fS1_at
set_option maxHeartbeats 4000000 in
set_option maxRecDepth 20000 in
theorem ok_J_bitCount : SpecOK 2 f_J_bitCount := SpecOK.of (sp := sp_J_bitCount) (by decide) (by decide) (spL_ok (fun q h => absurd h List.not_mem_nil)) (Does_fS1 (Nat.le_of_ble_eq_true rfl) (fun e x S hp => by
  show Vf 2 _ _ 0 [.int x] [] S _

  simp only [rJ_bitCount_0, rJ_bitCount_1, rJ_bitCount_2, rJ_bitCount_3, rJ_bitCount_4, rJ_bitCount_7, rJ_bitCount_8, rJ_bitCount_9, rJ_bitCount_10, rJ_bitCount_11, rJ_bitCount_14, rJ_bitCount_15, rJ_bitCount_16, rJ_bitCount_17, rJ_bitCount_18, rJ_bitCount_21, rJ_bitCount_22, rJ_bitCount_23, rJ_bitCount_24, rJ_bitCount_25, rJ_bitCount_26, rJ_bitCount_27, rJ_bitCount_28, rJ_bitCount_29, rJ_bitCount_32, rJ_bitCount_33, rJ_bitCount_34, rJ_bitCount_35, rJ_bitCount_36, rJ_bitCount_38, rJ_bitCount_39, rJ_bitCount_40, rJ_bitCount_41, rJ_bitCount_42, rJ_bitCount_43, rJ_bitCount_45, rJ_bitCount_46, rJ_bitCount_47, rJ_bitCount_48, rJ_bitCount_49, rJ_bitCount_51, rJ_bitCount_52, ct1_i, ct1_r, ct1_n, true_and, and_true, tl_s, tl_n, le4_0, le4_1, le4_2, le4_3, le4_4, le4_5, isO_r, bcnt, bcnt1, bcnt2, bcnt3, bcnt4, bcnt5, and_self]))
def tkC (w : HV) (a b : Int32) : HV := up2 (pa w 5 7 70 a 5 b) 8 6 (w 8 6 + b)
def bgH1 (w : HV) (k m h s : Int32) : HV := pt (pt (pt (pt (pt (pt (pt w 5 7 70 (w 8 4) 0 k) 5 7 70 (w 8 4) 1 (spF w m 0 (w 8 2).toNatClampNeg (-5))) 5 7 70 (w 8 4) 2 m) 5 7 70 (w 8 4) 3 h) 5 7 70 (w 8 4) 4 s) 5 7 70 (w 8 4) 5 0) 5 7 70 (w 8 4) 6 (w 8 3)
def bgH2 (w : HV) (k m h s : Int32) : HV := pt (pa (pt (pt (up2 (up2 (bgH1 w k m h s) 8 3 (w 8 3 + 1)) 8 4 (w 8 4 + 1)) 2 8 128 k 0 1) 2 8 128 k 7 (w 8 3)) 2 8 128 k 6 1) 3 4 40 (spF w m 0 (w 8 2).toNatClampNeg (-5)) 2 (w 8 3)
def bgH3 (w : HV) (k m h s : Int32) : HV := mvT (bgH2 w k m h s) s 0 1 6
def bgP (w : HV) (k m h s : Int32) : Int32 := kt (bgH3 w k m h s) (hr (bgH3 w k m h s) (w 8 4) 0) 4 * hr (bgH3 w k m h s) (w 8 4) 3
/-- a hire begins -/
def bgH (w : HV) (k m h s : Int32) : HV := up2 (pa (bgH3 w k m h s) 5 7 70 (w 8 4) 5 (bgP w k m h s)) 8 6 (w 8 6 + bgP w k m h s)
def sp_H_beginHire : Nat → Sp := spL [(3, f_T_put), (5, f_T_add), (28, f_H_spoolFor), (17, f_H_moveTails), (29, f_H_priceOfRest), (19, f_H_takeCoins)]
theorem sp_H_beginHire_T_put : sp_H_beginHire 3 = f_T_put := rfl
theorem sp_H_beginHire_T_add : sp_H_beginHire 5 = f_T_add := rfl
theorem sp_H_beginHire_H_spoolFor : sp_H_beginHire 28 = f_H_spoolFor := rfl
theorem sp_H_beginHire_H_moveTails : sp_H_beginHire 17 = f_H_moveTails := rfl
theorem sp_H_beginHire_H_priceOfRest : sp_H_beginHire 29 = f_H_priceOfRest := rfl
theorem sp_H_beginHire_H_takeCoins : sp_H_beginHire 19 = f_H_takeCoins := rfl
def f_H_beginHire : Sp := aS 7 hutA 4 (gL4 (fun i k m h s σ => (sm (σ i 8 2) 10, some (.int (σ i 8 3)), up1 σ i (bgH (σ i) k m h s))))
theorem q_H_beginHire {i : Nat} {k m h s : Int32} {σ : SG} (hi : i < 7) : f_H_beginHire [.ref (hutA i), .int k, .int m, .int h, .int s] (emb σ) = (sm (σ i 8 2) 10, some (.int (σ i 8 3)), emb (up1 σ i (bgH (σ i) k m h s))) := aS4_at (ad := hutA) hi (hI_h hi)
set_option maxHeartbeats 4000000 in
set_option maxRecDepth 20000 in
theorem ok_H_beginHire : SpecOK 34 f_H_beginHire := SpecOK.of (sp := sp_H_beginHire) (by decide) (by decide) (spL_ok (List.forall_mem_cons.mpr ⟨ok_T_put, (List.forall_mem_cons.mpr ⟨ok_T_add, (List.forall_mem_cons.mpr ⟨ok_H_spoolFor, (List.forall_mem_cons.mpr ⟨ok_H_moveTails, (List.forall_mem_cons.mpr ⟨ok_H_priceOfRest, (List.forall_mem_cons.mpr ⟨ok_H_takeCoins, (fun q h => absurd h List.not_mem_nil)⟩)⟩)⟩)⟩)⟩)⟩)) (Does_aS4 (Nat.le_of_ble_eq_true rfl) (fun sc i k m h s σ hi had hp => by
  refine Vf_q ?_ ⟨rfl, rfl⟩
  intro Q hQ
  dsimp only at hQ hp
  show Vf 34 _ _ 0 [.ref (hutA i), .int k, .int m, .int h, .int s, .null, .null, .null] [] (emb σ) _

  simp only [rH_beginHire_0, rH_beginHire_1, rH_beginHire_4, rH_beginHire_6, rH_beginHire_7, rH_beginHire_10, rH_beginHire_12, rH_beginHire_13, rH_beginHire_14, rH_beginHire_17, rH_beginHire_19, rH_beginHire_20, rH_beginHire_23, rH_beginHire_25, rH_beginHire_26, rH_beginHire_27, rH_beginHire_30, rH_beginHire_31, rH_beginHire_34, rH_beginHire_36, rH_beginHire_37, rH_beginHire_39, rH_beginHire_42, rH_beginHire_43, rH_beginHire_46, rH_beginHire_48, rH_beginHire_49, rH_beginHire_50, rH_beginHire_53, rH_beginHire_54, rH_beginHire_57, rH_beginHire_59, rH_beginHire_60, rH_beginHire_61, rH_beginHire_64, rH_beginHire_65, rH_beginHire_68, rH_beginHire_70, rH_beginHire_71, rH_beginHire_73, rH_beginHire_76, rH_beginHire_77, rH_beginHire_80, rH_beginHire_82, rH_beginHire_83, rH_beginHire_84, rH_beginHire_87, rH_beginHire_88, rH_beginHire_91, rH_beginHire_93, rH_beginHire_95, rH_beginHire_97, rH_beginHire_100, rH_beginHire_101, rH_beginHire_102, rH_beginHire_105, rH_beginHire_106, rH_beginHire_107, rH_beginHire_110, rH_beginHire_111, rH_beginHire_112, rH_beginHire_115, rH_beginHire_116, rH_beginHire_117, rH_beginHire_120, rH_beginHire_121, rH_beginHire_124, rH_beginHire_125, rH_beginHire_126, rH_beginHire_127, rH_beginHire_130, rH_beginHire_131, rH_beginHire_134, rH_beginHire_135, rH_beginHire_137, rH_beginHire_139, rH_beginHire_142, rH_beginHire_143, rH_beginHire_146, rH_beginHire_147, rH_beginHire_149, rH_beginHire_150, rH_beginHire_153, rH_beginHire_154, rH_beginHire_157, rH_beginHire_159, rH_beginHire_160, rH_beginHire_162, rH_beginHire_165, rH_beginHire_166, rH_beginHire_168, rH_beginHire_169, rH_beginHire_170, rH_beginHire_173, rH_beginHire_174, rH_beginHire_176, rH_beginHire_177, rH_beginHire_179, rH_beginHire_182, rH_beginHire_185, rH_beginHire_187, ct1_i, ct1_r, ct1_n, true_and, and_true, tl_s, tl_n, le4_0, le4_1, le4_2, le4_3, le4_4, le4_5, isO_r, cl_, emb1, emb2, le_rN, up1_at, up1_up1, sp_H_beginHire_T_put, sp_H_beginHire_T_add, sp_H_beginHire_H_spoolFor, sp_H_beginHire_H_moveTails, sp_H_beginHire_H_priceOfRest, sp_H_beginHire_H_takeCoins, ob_h hi, vs_3 hi, vs_4 hi, ss_3 hi, ss_4 hi, vh_2 hi, vh_3 hi, vh_5 hi, obt_2 hi, obt_3 hi, obt_5 hi, qT_put_2 hi, qT_put_3 hi, qT_put_5 hi, qT_add_2 hi, q_H_spoolFor hi, q_H_moveTails hi, q_H_priceOfRest hi, q_H_takeCoins hi, hp, fok_i, pt_ne, pa_ne, up2_ne, up2_nt, mvT_ne, ne_eq, Fin.reduceEq, not_false_eq_true, Nat.reduceEqDiff]
  exact hQ))
def wrW (w : HV) (row : Int32) : HV := pa (up2 (pa w 2 8 128 (hr w row 0) 5 1) 8 7 (w 8 7 + 1)) 3 4 40 (hr w row 1) 1 (windAt w (w 8 0) * kt (pa w 2 8 128 (hr w row 0) 5 1) (hr w row 0) 3)
def sp_H_wearSnaps : Nat → Sp := spL [(4, f_T_at), (5, f_T_add), (9, f_H_windAt), (14, f_H_setting)]
theorem sp_H_wearSnaps_T_at : sp_H_wearSnaps 4 = f_T_at := rfl
theorem sp_H_wearSnaps_T_add : sp_H_wearSnaps 5 = f_T_add := rfl
theorem sp_H_wearSnaps_H_windAt : sp_H_wearSnaps 9 = f_H_windAt := rfl
theorem sp_H_wearSnaps_H_setting : sp_H_wearSnaps 14 = f_H_setting := rfl
def f_H_wearSnaps : Sp := aS 7 hutA 1 (gL1 (fun i r σ => (True, some (.int (bi (¬ sl (wrW (σ i) r) (hr (σ i) r 1) 1 < settg (σ i) 1))), up1 σ i (wrW (σ i) r))))
theorem q_H_wearSnaps {i : Nat} {r : Int32} {σ : SG} (hi : i < 7) : f_H_wearSnaps [.ref (hutA i), .int r] (emb σ) = (True, some (.int (bi (¬ sl (wrW (σ i) r) (hr (σ i) r 1) 1 < settg (σ i) 1))), emb (up1 σ i (wrW (σ i) r))) := aS1_at (ad := hutA) hi (hI_h hi)
set_option maxHeartbeats 4000000 in
set_option maxRecDepth 20000 in
theorem ok_H_wearSnaps : SpecOK 31 f_H_wearSnaps := SpecOK.of (sp := sp_H_wearSnaps) (by decide) (by decide) (spL_ok (List.forall_mem_cons.mpr ⟨ok_T_at, (List.forall_mem_cons.mpr ⟨ok_T_add, (List.forall_mem_cons.mpr ⟨ok_H_windAt, (List.forall_mem_cons.mpr ⟨ok_H_setting, (fun q h => absurd h List.not_mem_nil)⟩)⟩)⟩)⟩)) (Does_aS1 (Nat.le_of_ble_eq_true rfl) (fun sc i r σ hi had hp => by
  refine Vf_q ?_ ⟨rfl, rfl⟩
  intro Q hQ
  dsimp only at hQ hp
  show Vf 31 _ _ 0 [.ref (hutA i), .int r, .null, .null] [] (emb σ) _

  simp only [rH_wearSnaps_0, rH_wearSnaps_1, rH_wearSnaps_4, rH_wearSnaps_5, rH_wearSnaps_6, rH_wearSnaps_9, rH_wearSnaps_10, rH_wearSnaps_11, rH_wearSnaps_14, rH_wearSnaps_15, rH_wearSnaps_16, rH_wearSnaps_19, rH_wearSnaps_20, rH_wearSnaps_21, rH_wearSnaps_24, rH_wearSnaps_25, rH_wearSnaps_26, rH_wearSnaps_27, rH_wearSnaps_30, rH_wearSnaps_31, rH_wearSnaps_32, rH_wearSnaps_35, rH_wearSnaps_36, rH_wearSnaps_37, rH_wearSnaps_40, rH_wearSnaps_41, rH_wearSnaps_44, rH_wearSnaps_45, rH_wearSnaps_46, rH_wearSnaps_47, rH_wearSnaps_48, rH_wearSnaps_51, rH_wearSnaps_54, rH_wearSnaps_55, rH_wearSnaps_58, rH_wearSnaps_59, rH_wearSnaps_60, rH_wearSnaps_63, rH_wearSnaps_64, rH_wearSnaps_67, rH_wearSnaps_68, rH_wearSnaps_71, rH_wearSnaps_72, rH_wearSnaps_73, rH_wearSnaps_76, rH_wearSnaps_77, rH_wearSnaps_78, rH_wearSnaps_81, rH_wearSnaps_84, rH_wearSnaps_85, rH_wearSnaps_88, rH_wearSnaps_89, ct1_i, ct1_r, ct1_n, true_and, and_true, tl_s, tl_n, le4_0, le4_1, le4_2, le4_3, le4_4, le4_5, isO_r, cl_, emb1, emb2, le_rN, up1_at, up1_up1, sp_H_wearSnaps_T_at, sp_H_wearSnaps_T_add, sp_H_wearSnaps_H_windAt, sp_H_wearSnaps_H_setting, ob_h hi, vs_0 hi, vs_7 hi, ss_7 hi, vh_2 hi, vh_3 hi, vh_5 hi, obt_2 hi, obt_3 hi, obt_5 hi, qT_at_2 hi, qT_at_3 hi, qT_at_5 hi, qT_add_2 hi, qT_add_3 hi, q_H_windAt hi, q_H_setting hi, fok_i, windAt, settg, pt_ne, pa_ne, up2_ne, up2_nt, ne_eq, Fin.reduceEq, not_false_eq_true, Nat.reduceEqDiff, rb_0, rb_1]
  split
  · rename_i h
    have e : bi (¬ sl (wrW (σ i) r) (hr (σ i) r 1) 1 < settg (σ i) 1) = 0 := bi_f (fun q => q h)
    rw [e] at hQ
    exact hQ
  · rename_i h
    have e : bi (¬ sl (wrW (σ i) r) (hr (σ i) r 1) 1 < settg (σ i) 1) = 1 := bi_t h
    rw [e] at hQ
    exact hQ))
def enH1 (w : HV) (row way : Int32) : HV := pt (pt (pt w 2 8 128 (hr w row 0) 0 (if way = 2 then 2 else 0)) 2 8 128 (hr w row 0) 7 (-5)) 3 4 40 (hr w row 1) 2 (-5)
def enH2 (w : HV) (row way mis : Int32) : HV := mvT (mvT (enH1 w row way) (hr w row 4 &&& (mis ^^^ -1)) 1 0 6) mis 1 2 6
def enH3 (w : HV) (row way mis : Int32) : HV := pt (pt (pt (pt (enH2 w row way mis) 6 4 32 (w 8 5 - w 8 5 / 8 * 8) 0 (hr w row 6)) 6 4 32 (w 8 5 - w 8 5 / 8 * 8) 1 way) 6 4 32 (w 8 5 - w 8 5 / 8 * 8) 2 (w 8 0)) 6 4 32 (w 8 5 - w 8 5 / 8 * 8) 3 (hr w row 5 + 1000)
/-- a hire ends -/
def enH (w : HV) (row way mis : Int32) : HV := up2 (drp (pa (up2 (enH3 w row way mis) 8 5 (w 8 5 + 1)) 7 1 3 way 0 1) row.toNatClampNeg) 8 4 (w 8 4 - 1)
def sp_H_endHire : Nat → Sp := spL [(4, f_T_at), (3, f_T_put), (5, f_T_add), (6, f_T_dropRow), (17, f_H_moveTails)]
theorem sp_H_endHire_T_at : sp_H_endHire 4 = f_T_at := rfl
theorem sp_H_endHire_T_put : sp_H_endHire 3 = f_T_put := rfl
theorem sp_H_endHire_T_add : sp_H_endHire 5 = f_T_add := rfl
theorem sp_H_endHire_T_dropRow : sp_H_endHire 6 = f_T_dropRow := rfl
theorem sp_H_endHire_H_moveTails : sp_H_endHire 17 = f_H_moveTails := rfl
def f_H_endHire : Sp := aS 7 hutA 3 (gL3 (fun i r y z0 σ => (sm r 9, none, up1 σ i (enH (σ i) r y z0))))
theorem q_H_endHire {i : Nat} {r y z0 : Int32} {σ : SG} (hi : i < 7) : f_H_endHire [.ref (hutA i), .int r, .int y, .int z0] (emb σ) = (sm r 9, none, emb (up1 σ i (enH (σ i) r y z0))) := aS3_at (ad := hutA) hi (hI_h hi)
set_option maxHeartbeats 4000000 in
set_option maxRecDepth 20000 in
theorem ok_H_endHire : SpecOK 30 f_H_endHire := SpecOK.of (sp := sp_H_endHire) (by decide) (by decide) (spL_ok (List.forall_mem_cons.mpr ⟨ok_T_at, (List.forall_mem_cons.mpr ⟨ok_T_put, (List.forall_mem_cons.mpr ⟨ok_T_add, (List.forall_mem_cons.mpr ⟨ok_T_dropRow, (List.forall_mem_cons.mpr ⟨ok_H_moveTails, (fun q h => absurd h List.not_mem_nil)⟩)⟩)⟩)⟩)⟩)) (Does_aS3 (Nat.le_of_ble_eq_true rfl) (fun sc i r y z0 σ hi had hp => by
  refine Vf_q ?_ ⟨rfl, rfl⟩
  intro Q hQ
  dsimp only at hQ hp
  show Vf 30 _ _ 0 [.ref (hutA i), .int r, .int y, .int z0, .null, .null] [] (emb σ) _

  have hk : ∀ (P : Int32 → Prop), P (if y = 2 then 2 else 0) → if y = 2 then P 2 else P 0 := fun P h => by split <;> simp_all
  simp only [rH_endHire_0, rH_endHire_1, rH_endHire_4, rH_endHire_5, rH_endHire_6, rH_endHire_9, rH_endHire_11, rH_endHire_12, rH_endHire_15, rH_endHire_17, rH_endHire_18, rH_endHire_19, rH_endHire_20, rH_endHire_23, rH_endHire_24, rH_endHire_27, ct1_i, ct1_r, ct1_n, true_and, and_true, tl_s, tl_n, le4_0, le4_1, le4_2, le4_3, le4_4, le4_5, isO_r, cl_, emb1, emb2, le_rN, up1_at, up1_up1, sp_H_endHire_T_at, sp_H_endHire_T_put, sp_H_endHire_T_add, sp_H_endHire_T_dropRow, sp_H_endHire_H_moveTails, ob_h hi, vh_2 hi, vh_5 hi, obt_5 hi, qT_at_5 hi]
  refine hk (fun z => Vf 30 sp_H_endHire ((127, SLT), sc) 28 [.ref (hutA i), .int r, .int y, .int z0, .int (at_ (σ i 5) 7 70 r 0), .null] [.int z, .int 0, .int (at_ (σ i 5) 7 70 r 0), .ref (tabA i 2)] (emb σ) Q) ?_
  simp only [rH_endHire_28, rH_endHire_31, rH_endHire_32, rH_endHire_35, rH_endHire_37, rH_endHire_39, rH_endHire_41, rH_endHire_44, rH_endHire_45, rH_endHire_48, rH_endHire_49, rH_endHire_52, rH_endHire_53, rH_endHire_54, rH_endHire_57, rH_endHire_58, rH_endHire_60, rH_endHire_63, rH_endHire_64, rH_endHire_65, rH_endHire_68, rH_endHire_69, rH_endHire_70, rH_endHire_73, rH_endHire_74, rH_endHire_75, rH_endHire_76, rH_endHire_77, rH_endHire_78, rH_endHire_79, rH_endHire_82, rH_endHire_83, rH_endHire_84, rH_endHire_85, rH_endHire_86, rH_endHire_89, rH_endHire_90, rH_endHire_93, rH_endHire_95, rH_endHire_96, rH_endHire_98, rH_endHire_99, rH_endHire_102, rH_endHire_104, rH_endHire_105, rH_endHire_106, rH_endHire_109, rH_endHire_110, rH_endHire_112, rH_endHire_115, rH_endHire_118, rH_endHire_119, rH_endHire_122, rH_endHire_124, rH_endHire_125, rH_endHire_126, rH_endHire_129, rH_endHire_130, rH_endHire_133, rH_endHire_135, rH_endHire_136, rH_endHire_137, rH_endHire_140, rH_endHire_143, rH_endHire_144, rH_endHire_147, rH_endHire_149, rH_endHire_150, rH_endHire_151, rH_endHire_154, rH_endHire_155, rH_endHire_156, rH_endHire_159, rH_endHire_162, rH_endHire_163, rH_endHire_166, rH_endHire_167, rH_endHire_168, rH_endHire_171, rH_endHire_172, rH_endHire_173, rH_endHire_176, rH_endHire_177, rH_endHire_180, rH_endHire_181, rH_endHire_182, rH_endHire_183, rH_endHire_186, rH_endHire_187, rH_endHire_190, rH_endHire_191, rH_endHire_194, rH_endHire_195, rH_endHire_196, rH_endHire_199, rH_endHire_200, rH_endHire_201, rH_endHire_204, ct1_i, ct1_r, ct1_n, true_and, and_true, tl_s, tl_n, le4_0, le4_1, le4_2, le4_3, le4_4, le4_5, isO_r, cl_, emb1, emb2, le_rN, up1_at, up1_up1, sp_H_endHire_T_at, sp_H_endHire_T_put, sp_H_endHire_T_add, sp_H_endHire_T_dropRow, sp_H_endHire_H_moveTails, ob_h hi, vs_0 hi, vs_4 hi, vs_5 hi, ss_4 hi, ss_5 hi, vh_2 hi, vh_3 hi, vh_5 hi, vh_6 hi, vh_7 hi, obt_2 hi, obt_3 hi, obt_5 hi, obt_6 hi, obt_7 hi, qT_at_5 hi, qT_put_2 hi, qT_put_3 hi, qT_put_6 hi, qT_add_7 hi, q_T_dropRow hi, q_H_moveTails hi, hp, fok_i, pt_ne, pa_ne, up2_ne, up2_nt, mvT_ne, drp_ne, ne_eq, Fin.reduceEq, not_false_eq_true, Nat.reduceEqDiff, show ¬ (8 : Int32) = 0 by decide]
  exact hQ))
