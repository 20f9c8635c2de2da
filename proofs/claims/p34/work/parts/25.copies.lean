/-! copies; the cells of the past, the note, the class itself and the check -/
theorem ge_0 {i : Nat} (h : i < 7) : i < 7 := h
/-- n cells of a row are another's -/
def cpk (w v : HV) (k : Fin 9) (n : Nat) : HV := fun k' t => if k' = k ∧ t < n then v k t else w k' t
theorem cpy_e {i j : Nat} {k : Fin 9} {σ : SG} (hi : i < 7) (hj : j < 7) (hk : k.val < 8) (n : Nat) : svCpy (emb σ) (arrA j k.val) 0 (arrA i k.val) 0 n = emb (up1 σ i (cpk (σ i) (σ j) k n)) := by
  show ((127, SLT, kdE, fun c s => if c = arrA i k.val ∧ 0 ≤ s ∧ s < 0 + n then vlE σ (arrA j k.val) (0 + (s - 0)) else vlE σ c s) : MS) = (127, SLT, kdE, vlE (up1 σ i (cpk (σ i) (σ j) k n)))
  refine congrArg (fun f => ((127, SLT, kdE, f) : MS)) ?_
  funext c s
  have ha : ∀ (q : Nat) (ρ : SG) (t : Nat), q < 7 → vlE ρ (arrA q k.val) t = .int (ρ q k t) := fun q ρ t hq => vl_a (σ := ρ) hq hk
  by_cases hc : c = arrA i k.val
  · subst hc
    rw [ha i (up1 σ i (cpk (σ i) (σ j) k n)) s hi]
    by_cases hs : s < n
    · rw [if_pos ⟨rfl, Nat.zero_le _, by omega⟩, show 0 + (s - 0) = s by omega, ha j σ s hj]
      simp [up1, cpk, hs]
    · rw [if_neg (fun q => hs (by omega)), ha i σ s hi]
      simp [up1, cpk, hs]
  · rw [if_neg (fun q => hc q.1)]
    unfold vlE
    cases hl : loc c s with
    | none => rfl
    | some q =>
      obtain ⟨i', k', t'⟩ := q
      obtain ⟨h1, h2⟩ := adr_loc hl
      show Value.int (σ i' k' t') = Value.int (up1 σ i (cpk (σ i) (σ j) k n) i' k' t')
      unfold up1
      by_cases e : i' = i
      · subst e
        rw [if_pos rfl]
        unfold cpk
        by_cases e2 : k' = k
        · subst e2
          exact absurd (by rw [← h1]; unfold adr; rw [if_pos hi, if_pos hk]) hc
        · rw [if_neg (fun q => e2 q.1)]
      · rw [if_neg e]
def f_T_copyFrom : Sp := fun av S => match av with
  | [.ref a, .ref b] => ((tbok S a ∧ tbok S b ∧ tbl S a = tbl S b), none, svCpy S (tb S b) 0 (tb S a) 0 (tbl S a))
  | _ => (False, none, svNil)
set_option maxHeartbeats 4000000 in
theorem ok_T_copyFrom : SpecOK 8 f_T_copyFrom := SpecOK.of (sp := spL []) (by decide) (by decide) (spL_ok (fun q h => absurd h List.not_mem_nil)) (by
  intro sc av S hp
  unfold f_T_copyFrom at hp ⊢
  split at hp
  · rename_i a b
    obtain ⟨⟨ho, hc, hr, ha, hl, -⟩, ⟨ho2, hc2, hr2, ha2, hl2, -⟩, he⟩ := hp
    unfold tbl at hl hl2 he ⊢
    refine ⟨Nat.le_of_ble_eq_true rfl, allc (of_eq_true (ct1_r _)) (allc (of_eq_true (ct1_r _)) all0), Nat.le_refl _, Nat.le_refl _, ?_⟩
    show Vf 8 _ _ 0 [.ref a, .ref b, .null] [] S _
    have h1 : ¬ oN (S.2.2.1 (tb S b)).2 < oN (S.2.2.1 (tb S b)).2 := fun h => Int32.lt_irrefl h
    have h2 : ¬ Int32.ofNat (S.2.2.1 (tb S b)).2 < 0 := by rw [oN_nn (by omega)]; exact id
    have h3 : (Int32.ofNat (S.2.2.1 (tb S b)).2).toNatClampNeg = (S.2.2.1 (tb S b)).2 := oN_nat (by omega)
    simp only [rT_copyFrom_0, rT_copyFrom_1, rT_copyFrom_4, rT_copyFrom_5, rT_copyFrom_6, rT_copyFrom_9, rT_copyFrom_10, rT_copyFrom_13, rT_copyFrom_14, rT_copyFrom_15, rT_copyFrom_18, rT_copyFrom_19, rT_copyFrom_20, rT_copyFrom_23, rT_copyFrom_24, rT_copyFrom_25, rT_copyFrom_28, ct1_i, ct1_r, ct1_n, true_and, and_true, tl_s, tl_n, le4_0, le4_1, le4_2, le4_3, le4_4, le4_5, isO_r, ho, hr, ho2, hr2, aok_ari 7 ha, aok_ari 7 ha2, aln_ari ha, aln_ari ha2, eq_true ha, eq_true ha2, true_or, he, if_neg h1, eq_false h2, h3, le_rN, show ¬ (0 : Int32) < 0 by decide, not_false_eq_true, show (0 : Int32).toNatClampNeg = 0 from rfl, Nat.zero_add]
    exact ⟨Nat.le_refl _, Nat.le_refl _⟩
  · exact absurd hp id)
theorem qT_copyFrom {i j : Nat} {k : Fin 9} {σ : SG} (hi : i < 7) (hj : j < 7) (hk : k.val < 8) : f_T_copyFrom [.ref (tabA i k.val), .ref (tabA j k.val)] (emb σ) = (True, none, emb (up1 σ i (cpk (σ i) (σ j) k (tln k.val)))) := by
  show ((tbok (emb σ) (tabA i k.val) ∧ tbok (emb σ) (tabA j k.val) ∧ tbl (emb σ) (tabA i k.val) = tbl (emb σ) (tabA j k.val)), (none : Option Value), svCpy (emb σ) (tb (emb σ) (tabA j k.val)) 0 (tb (emb σ) (tabA i k.val)) 0 (tbl (emb σ) (tabA i k.val))) = _
  rw [tbl_h hi hk, tbl_h hj hk, tb_h hi hk, tb_h hj hk, cpy_e hi hj hk, eq_true (tbok_h hi hk), eq_true (tbok_h hj hk)]
  simp
theorem qT_copyFrom_0 {i j : Nat} {σ : SG} (hi : i < 7) (hj : j < 7) : f_T_copyFrom [.ref (tabA i 0), .ref (tabA j 0)] (emb σ) = (True, none, emb (up1 σ i (cpk (σ i) (σ j) 0 1000))) := qT_copyFrom (k := 0) hi hj (by decide)
theorem qT_copyFrom_1 {i j : Nat} {σ : SG} (hi : i < 7) (hj : j < 7) : f_T_copyFrom [.ref (tabA i 1), .ref (tabA j 1)] (emb σ) = (True, none, emb (up1 σ i (cpk (σ i) (σ j) 1 5))) := qT_copyFrom (k := 1) hi hj (by decide)
theorem qT_copyFrom_2 {i j : Nat} {σ : SG} (hi : i < 7) (hj : j < 7) : f_T_copyFrom [.ref (tabA i 2), .ref (tabA j 2)] (emb σ) = (True, none, emb (up1 σ i (cpk (σ i) (σ j) 2 128))) := qT_copyFrom (k := 2) hi hj (by decide)
theorem qT_copyFrom_3 {i j : Nat} {σ : SG} (hi : i < 7) (hj : j < 7) : f_T_copyFrom [.ref (tabA i 3), .ref (tabA j 3)] (emb σ) = (True, none, emb (up1 σ i (cpk (σ i) (σ j) 3 40))) := qT_copyFrom (k := 3) hi hj (by decide)
theorem qT_copyFrom_4 {i j : Nat} {σ : SG} (hi : i < 7) (hj : j < 7) : f_T_copyFrom [.ref (tabA i 4), .ref (tabA j 4)] (emb σ) = (True, none, emb (up1 σ i (cpk (σ i) (σ j) 4 18))) := qT_copyFrom (k := 4) hi hj (by decide)
theorem qT_copyFrom_5 {i j : Nat} {σ : SG} (hi : i < 7) (hj : j < 7) : f_T_copyFrom [.ref (tabA i 5), .ref (tabA j 5)] (emb σ) = (True, none, emb (up1 σ i (cpk (σ i) (σ j) 5 70))) := qT_copyFrom (k := 5) hi hj (by decide)
theorem qT_copyFrom_6 {i j : Nat} {σ : SG} (hi : i < 7) (hj : j < 7) : f_T_copyFrom [.ref (tabA i 6), .ref (tabA j 6)] (emb σ) = (True, none, emb (up1 σ i (cpk (σ i) (σ j) 6 32))) := qT_copyFrom (k := 6) hi hj (by decide)
theorem qT_copyFrom_7 {i j : Nat} {σ : SG} (hi : i < 7) (hj : j < 7) : f_T_copyFrom [.ref (tabA i 7), .ref (tabA j 7)] (emb σ) = (True, none, emb (up1 σ i (cpk (σ i) (σ j) 7 3))) := qT_copyFrom (k := 7) hi hj (by decide)
def ln9 (k : Fin 9) : Nat := if k = 8 then 8 else tln k.val
/-- a hut's cells are another's -/
def cpH (w v : HV) : HV := fun k t => if t < ln9 k then v k t else w k t
theorem cp_all (w v : HV) : up2 (up2 (up2 (up2 (up2 (up2 (up2 (up2 (cpk (cpk (cpk (cpk (cpk (cpk (cpk (cpk w v 0 1000) v 1 5) v 2 128) v 3 40) v 4 18) v 5 70) v 6 32) v 7 3) 8 0 (v 8 0)) 8 1 (v 8 1)) 8 2 (v 8 2)) 8 3 (v 8 3)) 8 4 (v 8 4)) 8 5 (v 8 5)) 8 6 (v 8 6)) 8 7 (v 8 7) = cpH w v := by
  funext k t
  obtain ⟨k, hk⟩ := k
  rcases (show k = 0 ∨ k = 1 ∨ k = 2 ∨ k = 3 ∨ k = 4 ∨ k = 5 ∨ k = 6 ∨ k = 7 ∨ k = 8 by omega) with h | h | h | h | h | h | h | h | h <;> subst h
  · simp [up2, cpk, cpH, ln9, tln]
  · simp [up2, cpk, cpH, ln9, tln]
  · simp [up2, cpk, cpH, ln9, tln]
  · simp [up2, cpk, cpH, ln9, tln]
  · simp [up2, cpk, cpH, ln9, tln]
  · simp [up2, cpk, cpH, ln9, tln]
  · simp [up2, cpk, cpH, ln9, tln]
  · simp [up2, cpk, cpH, ln9, tln]
  · by_cases h8 : t < 8
    · rcases (show t = 0 ∨ t = 1 ∨ t = 2 ∨ t = 3 ∨ t = 4 ∨ t = 5 ∨ t = 6 ∨ t = 7 by omega) with h | h | h | h | h | h | h | h <;> subst h <;> simp [up2, cpk, cpH, ln9]
    · have e : ∀ q, q < 8 → ¬ t = q := fun q hq he => by omega
      simp [up2, cpk, cpH, ln9, h8, e 0, e 1, e 2, e 3, e 4, e 5, e 6, e 7]
def f_H_copyFrom : Sp := fun av S => match av with
  | [.ref a, .ref b] => ((S = emb (prj S) ∧ hI a < 7 ∧ hutA (hI a) = a ∧ hI b < 7 ∧ hutA (hI b) = b ∧ hI b ≠ hI a), none, emb (up1 (prj S) (hI a) (cpH (prj S (hI a)) (prj S (hI b)))))
  | _ => (False, none, svNil)
theorem q_H_copyFrom {i j : Nat} {σ : SG} (hi : i < 7) (hj : j < 7) (hij : j ≠ i) : f_H_copyFrom [.ref (hutA i), .ref (hutA j)] (emb σ) = (True, none, emb (up1 σ i (cpH (σ i) (σ j)))) := by
  show ((emb σ = emb (prj (emb σ)) ∧ hI (hutA i) < 7 ∧ hutA (hI (hutA i)) = hutA i ∧ hI (hutA j) < 7 ∧ hutA (hI (hutA j)) = hutA j ∧ hI (hutA j) ≠ hI (hutA i)), (none : Option Value), emb (up1 (prj (emb σ)) (hI (hutA i)) (cpH (prj (emb σ) (hI (hutA i))) (prj (emb σ) (hI (hutA j)))))) = _
  rw [hI_h hi, hI_h hj, prj_emb]
  simp [hi, hj, hij]
def sp_H_copyFrom : Nat → Sp := spL [(8, f_T_copyFrom)]
theorem sp_H_copyFrom_T : sp_H_copyFrom 8 = f_T_copyFrom := rfl
set_option maxHeartbeats 4000000 in
set_option maxRecDepth 20000 in
theorem ok_H_copyFrom : SpecOK 25 f_H_copyFrom := SpecOK.of (sp := sp_H_copyFrom) (by decide) (by decide) (spL_ok (List.forall_mem_cons.mpr ⟨ok_T_copyFrom, fun q h => absurd h List.not_mem_nil⟩)) (by
  intro sc av S hp
  match av, hp with
  | [.ref a, .ref b], hp =>
    obtain ⟨hS, hi, hai, hj, hbj, hij⟩ := hp
    show _ ∧ _ ∧ S.1 ≤ 127 ∧ S.2.1 ≤ SLT ∧ Vf 25 sp_H_copyFrom ((127, SLT), sc) 0 [.ref a, .ref b] [] S (fun r S' => r = none ∧ S' = emb (up1 (prj S) (hI a) (cpH (prj S (hI a)) (prj S (hI b)))))
    generalize prj S = σ at hS ⊢
    generalize hI a = i at hi hai hij ⊢
    generalize hI b = j at hj hbj hij ⊢
    subst hS; subst hai; subst hbj
    refine ⟨Nat.le_of_ble_eq_true rfl, allc (of_eq_true (ct1_r _)) (allc (of_eq_true (ct1_r _)) all0), Nat.le_refl _, Nat.le_refl _, ?_⟩
    refine Vf_q ?_ ⟨rfl, rfl⟩
    intro Q hQ
    rw [← cp_all] at hQ
    simp only [rH_copyFrom_0, rH_copyFrom_1, rH_copyFrom_4, rH_copyFrom_5, rH_copyFrom_8, rH_copyFrom_11, rH_copyFrom_12, rH_copyFrom_15, rH_copyFrom_16, rH_copyFrom_19, rH_copyFrom_22, rH_copyFrom_23, rH_copyFrom_26, rH_copyFrom_27, rH_copyFrom_30, rH_copyFrom_33, rH_copyFrom_34, rH_copyFrom_37, rH_copyFrom_38, rH_copyFrom_41, rH_copyFrom_44, rH_copyFrom_45, rH_copyFrom_48, rH_copyFrom_49, rH_copyFrom_52, rH_copyFrom_55, rH_copyFrom_56, rH_copyFrom_59, rH_copyFrom_60, rH_copyFrom_63, rH_copyFrom_66, rH_copyFrom_67, rH_copyFrom_70, rH_copyFrom_71, rH_copyFrom_74, rH_copyFrom_77, rH_copyFrom_78, rH_copyFrom_81, rH_copyFrom_82, rH_copyFrom_85, rH_copyFrom_88, rH_copyFrom_89, rH_copyFrom_90, rH_copyFrom_93, rH_copyFrom_96, rH_copyFrom_97, rH_copyFrom_98, rH_copyFrom_101, rH_copyFrom_104, rH_copyFrom_105, rH_copyFrom_106, rH_copyFrom_109, rH_copyFrom_112, rH_copyFrom_113, rH_copyFrom_114, rH_copyFrom_117, rH_copyFrom_120, rH_copyFrom_121, rH_copyFrom_122, rH_copyFrom_125, rH_copyFrom_128, rH_copyFrom_129, rH_copyFrom_130, rH_copyFrom_133, rH_copyFrom_136, rH_copyFrom_137, rH_copyFrom_138, rH_copyFrom_141, rH_copyFrom_144, rH_copyFrom_145, rH_copyFrom_146, rH_copyFrom_149, rH_copyFrom_152, ct1_i, ct1_r, ct1_n, true_and, and_true, tl_s, tl_n, le4_0, le4_1, le4_2, le4_3, le4_4, le4_5, isO_r, cl_, emb1, emb2, le_rN, up1_at, up1_up1, up1_ne _ _ hij, sp_H_copyFrom_T, ob_h hi, ob_h hj, vh_0 hi, vh_1 hi, vh_2 hi, vh_3 hi, vh_4 hi, vh_5 hi, vh_6 hi, vh_7 hi, vh_0 hj, vh_1 hj, vh_2 hj, vh_3 hj, vh_4 hj, vh_5 hj, vh_6 hj, vh_7 hj, obt_0 hi, obt_1 hi, obt_2 hi, obt_3 hi, obt_4 hi, obt_5 hi, obt_6 hi, obt_7 hi, vs_0 hj, vs_1 hj, vs_2 hj, vs_3 hj, vs_4 hj, vs_5 hj, vs_6 hj, vs_7 hj, ss_0 hi, ss_1 hi, ss_2 hi, ss_3 hi, ss_4 hi, ss_5 hi, ss_6 hi, ss_7 hi, qT_copyFrom_0 hi hj, qT_copyFrom_1 hi hj, qT_copyFrom_2 hi hj, qT_copyFrom_3 hi hj, qT_copyFrom_4 hi hj, qT_copyFrom_5 hi hj, qT_copyFrom_6 hi hj, qT_copyFrom_7 hi hj, fok_i]
    exact hQ)
theorem obX {σ : SG} : obj (emb σ) 0 4 = True := eq_true ⟨by decide, Nat.le_of_ble_eq_true rfl, rfl, by decide⟩
theorem obP {σ : SG} : obj (emb σ) 52 2 = True := eq_true ⟨by decide, Nat.le_of_ble_eq_true rfl, rfl, by decide⟩
theorem obN {σ : SG} : obj (emb σ) 122 1 = True := eq_true ⟨by decide, Nat.le_of_ble_eq_true rfl, rfl, by decide⟩
theorem obQ {σ : SG} : obj (emb σ) 124 3 = True := eq_true ⟨by decide, Nat.le_of_ble_eq_true rfl, rfl, by decide⟩
theorem xr_0 {σ : SG} : (emb σ).2.2.2 0 0 = .ref (hutA 0) := rfl
theorem xr_1 {σ : SG} : (emb σ).2.2.2 0 1 = .ref (hutA 1) := rfl
theorem xr_2 {σ : SG} : (emb σ).2.2.2 0 2 = .ref (hutA 2) := rfl
theorem xr_3 {σ : SG} : (emb σ).2.2.2 0 3 = .ref 52 := rfl
theorem xr_4 {σ : SG} : (emb σ).2.2.2 0 4 = .ref 122 := rfl
theorem pr_0 {σ : SG} : (emb σ).2.2.2 52 0 = .ref 53 := rfl
theorem nr_0 {σ : SG} : (emb σ).2.2.2 122 0 = .ref 123 := rfl
theorem nr_1 {σ : SG} : (emb σ).2.2.2 122 1 = .ref 124 := rfl
theorem xi_0 {σ : SG} : (emb σ).2.2.2 0 5 = .int (σ 7 0 0) := vlE_at σ 7 0 0
theorem sxi_0 {x : Int32} {σ : SG} : svSet (emb σ) 0 5 (.int x) = emb (up1 σ 7 (up2 (σ 7) 0 0 x)) := emb_set σ 7 0 0 x
theorem pi_0 {σ : SG} : (emb σ).2.2.2 52 1 = .int (σ 7 1 0) := vlE_at σ 7 1 0
theorem spi_0 {x : Int32} {σ : SG} : svSet (emb σ) 52 1 (.int x) = emb (up1 σ 7 (up2 (σ 7) 1 0 x)) := emb_set σ 7 1 0 x
theorem pi_1 {σ : SG} : (emb σ).2.2.2 52 2 = .int (σ 7 1 1) := vlE_at σ 7 1 1
theorem spi_1 {x : Int32} {σ : SG} : svSet (emb σ) 52 2 (.int x) = emb (up1 σ 7 (up2 (σ 7) 1 1 x)) := emb_set σ 7 1 1 x
theorem ni_0 {σ : SG} : (emb σ).2.2.2 122 2 = .int (σ 7 2 0) := vlE_at σ 7 2 0
theorem sni_0 {x : Int32} {σ : SG} : svSet (emb σ) 122 2 (.int x) = emb (up1 σ 7 (up2 (σ 7) 2 0 x)) := emb_set σ 7 2 0 x
theorem ni_1 {σ : SG} : (emb σ).2.2.2 122 3 = .int (σ 7 2 1) := vlE_at σ 7 2 1
theorem sni_1 {x : Int32} {σ : SG} : svSet (emb σ) 122 3 (.int x) = emb (up1 σ 7 (up2 (σ 7) 2 1 x)) := emb_set σ 7 2 1 x
theorem ni_2 {σ : SG} : (emb σ).2.2.2 122 4 = .int (σ 7 2 2) := vlE_at σ 7 2 2
theorem sni_2 {x : Int32} {σ : SG} : svSet (emb σ) 122 4 (.int x) = emb (up1 σ 7 (up2 (σ 7) 2 2 x)) := emb_set σ 7 2 2 x
theorem ps_ar {σ : SG} : ari (emb σ) 53 8 := ⟨by decide, Nat.le_of_ble_eq_true rfl, rfl⟩
theorem ps_ln {σ : SG} : ((emb σ).2.2.1 53).2 = 4 := rfl
theorem ng_ar {σ : SG} : ari (emb σ) 123 6 := ⟨by decide, Nat.le_of_ble_eq_true rfl, rfl⟩
theorem ng_ln {σ : SG} : ((emb σ).2.2.1 123).2 = 60 := rfl
theorem ng_g {t : Nat} {σ : SG} : (emb σ).2.2.2 123 t = .int (σ 7 3 t) := vlE_at σ 7 3 t
theorem ng_s {t : Nat} {x : Int32} {σ : SG} : svSet (emb σ) 123 t (.int x) = emb (up1 σ 7 (up2 (σ 7) 3 t x)) := emb_set σ 7 3 t x
theorem ng_ok {σ : SG} : aok (emb σ) 123 6 = True := aok_ari 6 ng_ar
theorem ng_al {e : En} {σ : SG} : aln e (emb σ) 123 = 60 := aln_ari ng_ar
theorem ng_rd {e : En} {t : Nat} {σ : SG} : ard e (emb σ) 123 t = σ 7 3 t := (ard_ari ng_ar).trans (by rw [ng_g]; rfl)
theorem ng_re {σ : SG} : ari (emb σ) 123 6 = True := eq_true ng_ar
theorem nq_ar {σ : SG} : ari (emb σ) 125 7 := ⟨by decide, Nat.le_of_ble_eq_true rfl, rfl⟩
theorem nq_ln {σ : SG} : ((emb σ).2.2.1 125).2 = 75 := rfl
theorem nq_g {t : Nat} {σ : SG} : (emb σ).2.2.2 125 t = .int (σ 7 4 t) := vlE_at σ 7 4 t
theorem nq_s {t : Nat} {x : Int32} {σ : SG} : svSet (emb σ) 125 t (.int x) = emb (up1 σ 7 (up2 (σ 7) 4 t x)) := emb_set σ 7 4 t x
theorem nq_ok {σ : SG} : aok (emb σ) 125 7 = True := aok_ari 7 nq_ar
theorem nq_al {e : En} {σ : SG} : aln e (emb σ) 125 = 75 := aln_ari nq_ar
theorem nq_rd {e : En} {t : Nat} {σ : SG} : ard e (emb σ) 125 t = σ 7 4 t := (ard_ari nq_ar).trans (by rw [nq_g]; rfl)
theorem nq_re {σ : SG} : ari (emb σ) 125 7 = True := eq_true nq_ar
theorem cm_ar {σ : SG} : ari (emb σ) 126 7 := ⟨by decide, Nat.le_of_ble_eq_true rfl, rfl⟩
theorem cm_ln {σ : SG} : ((emb σ).2.2.1 126).2 = 8 := rfl
theorem cm_g {t : Nat} {σ : SG} : (emb σ).2.2.2 126 t = .int (σ 8 0 t) := vlE_at σ 8 0 t
theorem cm_s {t : Nat} {x : Int32} {σ : SG} : svSet (emb σ) 126 t (.int x) = emb (up1 σ 8 (up2 (σ 8) 0 t x)) := emb_set σ 8 0 t x
theorem cm_ok {σ : SG} : aok (emb σ) 126 7 = True := aok_ari 7 cm_ar
theorem cm_al {e : En} {σ : SG} : aln e (emb σ) 126 = 8 := aln_ari cm_ar
theorem cm_rd {e : En} {t : Nat} {σ : SG} : ard e (emb σ) 126 t = σ 8 0 t := (ard_ari cm_ar).trans (by rw [cm_g]; rfl)
theorem cm_re {σ : SG} : ari (emb σ) 126 7 = True := eq_true cm_ar
theorem ps_al {e : En} {σ : SG} : aln e (emb σ) 53 = 4 := aln_ari ps_ar
theorem ps_ok {σ : SG} : aok (emb σ) 53 8 = True := aok_ari 8 ps_ar
theorem ps_re {σ : SG} : ari (emb σ) 53 8 = True := eq_true ps_ar
theorem ps_g {s : Nat} {σ : SG} (h : s < 4) : (emb σ).2.2.2 53 s = .ref (hutA (3 + s)) := by
  rcases (show s = 0 ∨ s = 1 ∨ s = 2 ∨ s = 3 by omega) with h | h | h | h <;> subst h <;> rfl
theorem vq_0 {σ : SG} : (emb σ).2.2.2 124 0 = .int 5 := rfl
theorem vq_1 {σ : SG} : (emb σ).2.2.2 124 1 = .ref 125 := rfl
theorem tbokQ {σ : SG} : tbok (emb σ) 124 := ⟨of_eq_true obQ, rfl, rfl, nq_ar, (by show 75 < 100000; omega), (by show 125 ≠ 124; omega)⟩
theorem tbfQ {σ : SG} : tbf (emb σ) 124 = σ 7 4 := by
  funext j
  show toI ((emb σ).2.2.2 125 j) = _
  rw [nq_g]
  rfl
theorem qT_at_p {r c : Int32} {σ : SG} : f_T_at [.ref 124, .int r, .int c] (emb σ) = (True, some (.int (at_ (σ 7 4) 5 75 r c)), emb σ) := by
  show (tbok (emb σ) 124, some (Value.int (at_ (tbf (emb σ) 124) 5 75 r c)), emb σ) = _
  rw [tbfQ, eq_true tbokQ]
theorem qT_put_p {r c x : Int32} {σ : SG} : f_T_put [.ref 124, .int r, .int c, .int x] (emb σ) = (True, none, emb (up1 σ 7 (pt (σ 7) 4 5 75 r c x))) := by
  show (tbok (emb σ) 124, (none : Option Value), if r * 5 + c < 0 then emb σ else if r * 5 + c < Int32.ofNat 75 then svSet (emb σ) 125 (r * 5 + c).toNatClampNeg (.int x) else emb σ) = _
  rw [eq_true tbokQ, nq_s]
  unfold pt
  split
  · rw [up1_self]
  · split
    · rfl
    · rw [up1_self]
