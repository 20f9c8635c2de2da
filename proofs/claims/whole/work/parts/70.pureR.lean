/-! PURE: what ties the class to the check; its history; the start -/
def InR (w2 w : HV) : Prop := ∀ (k : Fin 9) (t : Nat), t < ln9 k → w2 k t = w k t
theorem Rel_w {w w2 : HV} {s : Nat → Int32} {S O E P : Nat} (e : InR w2 w) (h : Rel w s S O E P) (hO : O ≤ 10) (hS : S ≤ 10) : Rel w2 s S O E P := by
  obtain ⟨⟨a0, a1, a6, a7, a8, a9, a12, a14, a16⟩, hw, hk, hsp, ht, hh, he, hl⟩ := h
  refine ⟨⟨?_, ?_, ?_, ?_, ?_, ?_, ?_, ?_, ?_⟩, ?_, ?_, ?_, ?_, ?_, ?_, ?_⟩
  · rw [e 8 0 (show 0 < 8 by decide)]; exact a0
  · intro c hc; rw [e 1 c (show c < 5 from hc)]; exact a1 c hc
  · rw [e 8 1 (show 1 < 8 by decide)]; exact a6
  · rw [e 8 2 (show 2 < 8 by decide)]; exact a7
  · rw [e 8 3 (show 3 < 8 by decide)]; exact a8
  · intro c hc; rw [e 7 c (show c < 3 from hc)]; exact a9 c hc
  · rw [e 8 6 (show 6 < 8 by decide)]; exact a12
  · rw [e 8 7 (show 7 < 8 by decide)]; exact a14
  · rw [e 8 4 (show 4 < 8 by decide)]; exact a16
  · intro c hc; rw [e 0 c (show c < 1000 from hc)]; exact hw c hc
  · intro r hr c hc; rw [e 2 (r * 8 + c) (show r * 8 + c < 128 by omega)]; exact hk r hr c hc
  · intro t h; rw [e 3 t (show t < 40 from h)]; exact hsp t h
  · intro t h; rw [e 4 t (show t < 18 from h)]; exact ht t h
  · intro r hr
    refine ⟨?_, fun c hc hx => ?_⟩
    · rw [e 5 (r * 7 + 6) (show r * 7 + 6 < 70 by omega)]; exact (hh r hr).1
    · rw [e 5 (r * 7 + c) (show r * 7 + c < 70 by omega)]; exact (hh r hr).2 c hc hx
  · refine ⟨he.1, fun j hj c hc => ?_⟩
    have : (E - 1 - j) % 8 < 8 := Nat.mod_lt _ (by decide)
    rw [e 6 ((E - 1 - j) % 8 * 4 + c) (show (E - 1 - j) % 8 * 4 + c < 32 by omega)]; exact he.2 j hj c hc
  · refine hl.trans (suF_c _ _ _ (fun r h1 h2 => ?_))
    exact (e 3 (r * 4 + 3) (show r * 4 + 3 < 40 by omega)).symm
theorem Ivt_w {w w2 : HV} {T K S N O E b P : Nat} (e : InR w2 w) (h : Ivt w T K S N O E b P) : Ivt w2 T K S N O E b P := by
  obtain ⟨hO, hE, hS⟩ := Ivt_O h
  obtain ⟨⟨a0, a1, a2, a3, a4, a5, a7⟩, ⟨b1, b2, b3, b4, b5⟩, hc, hH, hD, hN, hT, hZ⟩ := h
  have e2 : ∀ k c, k < 16 → c < 8 → w2 2 (k * 8 + c) = w 2 (k * 8 + c) := fun k c h1 h2 => e 2 _ (show k * 8 + c < 128 by omega)
  have e3 : ∀ k c, k < 10 → c < 4 → w2 3 (k * 4 + c) = w 3 (k * 4 + c) := fun k c h1 h2 => e 3 _ (show k * 4 + c < 40 by omega)
  have e4 : ∀ k c, k < 6 → c < 3 → w2 4 (k * 3 + c) = w 4 (k * 3 + c) := fun k c h1 h2 => e 4 _ (show k * 3 + c < 18 by omega)
  have e5 : ∀ k c, k < 10 → c < 7 → w2 5 (k * 7 + c) = w 5 (k * 7 + c) := fun k c h1 h2 => e 5 _ (show k * 7 + c < 70 by omega)
  have e8 : ∀ c, c < 8 → w2 8 c = w 8 c := fun c h => e 8 c (show c < 8 from h)
  refine ⟨⟨(e8 0 (by decide)).trans a0, (e8 1 (by decide)).trans a1, (e8 2 (by decide)).trans a2, (e8 3 (by decide)).trans a3, (e8 4 (by decide)).trans a4, (e8 5 (by decide)).trans a5, by rw [e8 7 (by decide)]; exact a7⟩, ⟨b1, b2, b3, b4, b5⟩, ?_, ?_, ?_, ?_, ?_, ?_, ?_⟩
  · rw [cnF_c (f := fun r => w2 3 (r * 4 + 2)) (g := fun r => w 3 (r * 4 + 2)) S (fun r hr => e3 r 2 (by omega) (by decide))]; exact hc
  · intro r hr
    obtain ⟨k, s, n, p1, p2, p3, p4, p5, p6, p7, p8, p9, pA, pB⟩ := hH r hr
    refine ⟨k, s, n, p1, p2, p3, ?_, ?_, ?_, ?_, ?_, ?_, ?_, ?_⟩
    · rw [e5 r 0 (by omega) (by decide)]; exact p4
    · rw [e5 r 1 (by omega) (by decide)]; exact p5
    · rw [e5 r 6 (by omega) (by decide)]; exact p6
    · rw [e3 s 2 (by omega) (by decide)]; exact p7
    · rw [e2 k 7 (by omega) (by decide)]; exact p8
    · rw [e2 k 0 (by omega) (by decide)]; exact p9
    · rw [e5 r 4 (by omega) (by decide)]; exact pA
    · rw [e5 r 3 (by omega) (by decide)]; exact pB
  · intro r hr q hq he
    rw [e5 r 6 (by omega) (by decide), e5 q 6 (by omega) (by decide)] at he
    exact hD r hr q hq he
  · intro k hk
    rw [e2 k 7 (by omega) (by decide)]
    rcases hN k hk with h | ⟨r, hr, h⟩
    · exact Or.inl h
    · exact Or.inr ⟨r, hr, by rw [e5 r 0 (by omega) (by decide)]; exact h⟩
  · intro c hc
    rw [e4 c 0 hc (by decide), e4 c 1 hc (by decide), e4 c 2 hc (by decide)]
    exact hT c hc
  · intro k h1 h2
    rw [e2 k 0 h2 (by decide), e2 k 5 h2 (by decide), e2 k 6 h2 (by decide)]
    exact hZ.1 k h1 h2
  · intro r h1 h2
    rw [e3 r 1 h2 (by decide), e3 r 3 h2 (by decide)]
    exact hZ.2 r h1 h2
def RelI (w : HV) (s : Nat → Int32) : Prop := ∃ T K S N O E, Rel w s S O E 100 ∧ Ivt w T K S N O E (10 * T) 100
theorem RelI_w {w w2 : HV} {s : Nat → Int32} (e : InR w2 w) (h : RelI w s) : RelI w2 s := by
  obtain ⟨T, K, S, N, O, E, h1, h2⟩ := h
  obtain ⟨hO, hE, hS⟩ := Ivt_O h2
  exact ⟨T, K, S, N, O, E, Rel_w e h1 hO hS, Ivt_w e h2⟩
theorem RelI_c {w : HV} {s s2 : Nat → Int32} (h : RelI w s) (e : ∀ u, u < 1289 → s2 u = s u) : RelI w s2 := by
  obtain ⟨T, K, S, N, O, E, h1, h2⟩ := h
  obtain ⟨hO, hE, hS⟩ := Ivt_O h2
  exact ⟨T, K, S, N, O, E, Rel_c h1 hO e, h2⟩
theorem cpH_in (w v : HV) : InR (cpH w v) v := by
  intro k t h
  unfold cpH
  rw [if_pos h]
def rgH (σ : SG) : Prop := ∃ la hd : Nat, la < 4 ∧ hd ≤ 4 ∧ σ 7 1 0 = oN la ∧ σ 7 1 1 = oN hd ∧ σ 8 0 1 = oN hd ∧ ∀ j, j < hd → RelI (σ (3 + (la + 4 - j) % 4)) (fun t => σ 8 5 (1289 * (hd - 1 - j) + t))
def rgK (σ : SG) : Prop := σ 8 0 0 = σ 7 0 0 ∧ (σ 7 0 0 ≠ 0 → RelI (σ 2) (σ 8 4))
def rgT (σ : SG) : Prop := ∃ len : Nat, len ≤ 60 ∧ σ 7 2 0 = oN len ∧ σ 8 0 2 = oN len ∧ ∀ j, j < len → σ 8 6 j = σ 7 3 j
def RG (σ : SG) : Prop := RelI (σ 0) (σ 8 1) ∧ rgH σ ∧ rgK σ ∧ rgT σ
theorem lu_n : ∀ x, x < 4 → lu (oN x) = oN ((x + 1) % 4) := by decide +kernel
theorem ld_n : ∀ x, x < 4 → ld (oN x) = oN ((x + 3) % 4) := by decide +kernel
theorem hl_n : ∀ x, x < 5 → hl1 (oN x) = oN (min (x + 1) 4) := by decide +kernel
theorem up1_nt {σ : SG} {i j : Nat} {w : HV} (h : j ≠ i) : up1 σ i w j = σ j := by unfold up1; rw [if_neg h]
/-- the record in the check -/
theorem rcM_ok {u v : HV} {hd : Nat} (hh : hd ≤ 4) (h1 : u 0 1 = oN hd) (h3 : ∀ t, t < 1289 → u 3 t = v 1 t) (h5 : ∀ t, u 5 t = v 5 t) :
    rcM u 0 1 = oN (min (hd + 1) 4) ∧ (∀ t, t ≠ 1 → rcM u 0 t = u 0 t) ∧ (∀ k : Fin 9, k ≠ 0 → k ≠ 5 → rcM u k = u k) ∧ (∀ j t, j < min (hd + 1) 4 → t < 1289 → rcM u 5 (1289 * (min (hd + 1) 4 - 1 - j) + t) = if j = 0 then v 1 t else v 5 (1289 * (hd - 1 - (j - 1)) + t)) := by
  have c1 : rc1 u 0 1 = oN (min hd 3) := by
    unfold rc1
    by_cases h : hd = 4
    · subst h
      rw [if_pos (show u 0 1 = 4 from h1), up2_at, cpL_kn (by decide), h1]
      rfl
    · rw [if_neg (show ¬ u 0 1 = 4 from fun q => h (oN_inj (b := 4) (by omega) (by decide) (h1.symm.trans q))), h1, show min hd 3 = hd by omega]
  have c0 : ∀ t, t ≠ 1 → rc1 u 0 t = u 0 t := by
    intro t ht
    unfold rc1
    split
    · rw [up2_nt ht, cpL_kn (by decide)]
    · rfl
  have ck : ∀ k : Fin 9, k ≠ 0 → k ≠ 5 → rc1 u k = u k := by
    intro k hk0 hk5
    unfold rc1
    split
    · rw [up2_kn hk0, cpL_kn hk5]
    · rfl
  have c5 : ∀ t, rc1 u 5 t = if hd = 4 ∧ t < 3867 then v 5 (1289 + t) else v 5 t := by
    intro t
    unfold rc1
    by_cases h : hd = 4
    · subst h
      rw [if_pos (show u 0 1 = 4 from h1), up2_kn (by decide), cpL_eq (Or.inr (by decide))]
      by_cases h2 : t < 3867
      · rw [if_pos ⟨rfl, by omega, by omega⟩, if_pos ⟨rfl, h2⟩, h5, show 1289 + (t - 0) = 1289 + t by omega]
      · rw [if_neg (by omega), if_neg (by omega), h5]
    · rw [if_neg (show ¬ u 0 1 = 4 from fun q => h (oN_inj (b := 4) (by omega) (by decide) (h1.symm.trans q))), if_neg (by omega), h5]
  have en : (rc1 u 0 1).toNatClampNeg = min hd 3 := by rw [c1, oN_nat (by omega)]
  have d5 : ∀ t, rc2 u 5 t = if 1289 * min hd 3 ≤ t ∧ t < 1289 * min hd 3 + 1289 then v 1 (t - 1289 * min hd 3) else if hd = 4 ∧ t < 3867 then v 5 (1289 + t) else v 5 t := by
    intro t
    unfold rc2
    rw [en, cpL_eq (Or.inl (by decide)), ck 3 (by decide) (by decide)]
    by_cases h2 : 1289 * min hd 3 ≤ t ∧ t < 1289 * min hd 3 + 1289
    · rw [if_pos ⟨rfl, by omega, by omega⟩, if_pos h2, show 0 + (t - 1289 * min hd 3) = t - 1289 * min hd 3 by omega, h3 _ (by omega)]
    · rw [if_neg (by omega), if_neg h2, c5]
  have d0 : ∀ k : Fin 9, k ≠ 5 → rc2 u k = rc1 u k := by
    intro k hk
    unfold rc2
    rw [cpL_kn hk]
  refine ⟨?_, ?_, ?_, ?_⟩
  · unfold rcM
    rw [up2_at, d0 0 (by decide), c1, oN_succ]
    exact congrArg oN (by omega)
  · intro t ht
    unfold rcM
    rw [up2_nt ht, d0 0 (by decide), c0 t ht]
  · intro k hk0 hk5
    unfold rcM
    rw [up2_kn hk0, d0 k hk5, ck k hk0 hk5]
  · intro j t hj ht
    unfold rcM
    rw [up2_kn (by decide), d5]
    by_cases hj0 : j = 0
    · rw [if_pos hj0, if_pos (by omega)]
      exact congrArg (v 1) (by omega)
    · rw [if_neg hj0, if_neg (by omega)]
      by_cases h4 : hd = 4
      · rw [if_pos (by omega)]
        exact congrArg (v 5) (by omega)
      · rw [if_neg (by omega)]
        exact congrArg (v 5) (by omega)
/-- an act that is recorded keeps the tie -/
theorem act_ok {σ : SG} {u v2 w2 : HV} (h : RG σ) (h00 : u 0 0 = σ 8 0 0) (h01 : u 0 1 = σ 8 0 1) (h02 : u 0 2 = σ 8 0 2) (h3 : ∀ t, t < 1289 → u 3 t = σ 8 1 t) (h4 : u 4 = σ 8 4) (h5 : u 5 = σ 8 5) (h6 : u 6 = σ 8 6) (hv : ∀ k : Fin 9, k ≠ 1 → v2 k = rcM u k) (hR : RelI w2 (v2 1)) : RG (up1 (up1 (rcW σ) 0 w2) 8 v2) := by
  obtain ⟨r0, ⟨la, hd, g1, g2, g3, g4, g5, g6⟩, ⟨k1, k2⟩, ⟨len, l1, l2, l3, l4⟩⟩ := h
  obtain ⟨m1, m0, mk, m5⟩ := rcM_ok (u := u) (v := σ 8) g2 (h01.trans g5) h3 (fun t => by rw [h5])
  have elu : lu (σ 7 1 0) = oN ((la + 1) % 4) := by rw [g3, lu_n la g1]
  have hm : (la + 1) % 4 < 4 := Nat.mod_lt _ (by decide)
  have epA : pA (lu (σ 7 1 0)) = 3 + (la + 1) % 4 := by
    unfold pA
    rw [elu, oN_nat (by omega)]
  have s7 : ∀ k t, up1 (up1 (rcW σ) 0 w2) 8 v2 7 k t = rcW σ 7 k t := by
    intro k t
    rw [up1_nt (by decide), up1_nt (by decide)]
  have c7 : rcW σ 7 = up2 (up2 (σ 7) 1 0 (oN ((la + 1) % 4))) 1 1 (oN (min (hd + 1) 4)) := by
    rw [rcW_7, elu, g4, hl_n hd (by omega)]
  have ci : ∀ i, i ≠ 7 → i ≠ 3 + (la + 1) % 4 → rcW σ i = σ i := by
    intro i h7 h8
    unfold rcW
    rw [up1_nt h7, up1_nt (by rw [epA]; exact h8)]
  have cn : rcW σ (3 + (la + 1) % 4) = cpH (σ (3 + (la + 1) % 4)) (σ 0) := by
    unfold rcW
    rw [up1_nt (by omega), epA, up1_at]
  have s8 : up1 (up1 (rcW σ) 0 w2) 8 v2 8 = v2 := up1_at _ _ _
  have si : ∀ i, i ≠ 8 → i ≠ 0 → up1 (up1 (rcW σ) 0 w2) 8 v2 i = rcW σ i := by
    intro i h1 h2
    rw [up1_nt h1, up1_nt h2]
  refine ⟨?_, ⟨(la + 1) % 4, min (hd + 1) 4, hm, by omega, ?_, ?_, ?_, ?_⟩, ⟨?_, ?_⟩, ⟨len, l1, ?_, ?_, ?_⟩⟩
  · rw [s8, up1_nt (by decide), up1_at]
    exact hR
  · rw [s7, c7, u2k, if_neg (by decide), u2k, if_pos rfl]
  · rw [s7, c7, u2k, if_pos rfl]
  · rw [s8, hv 0 (by decide)]
    exact m1
  · intro j hj
    rw [si _ (by omega) (by omega)]
    have e5 : ∀ t, t < 1289 → up1 (up1 (rcW σ) 0 w2) 8 v2 8 5 (1289 * (min (hd + 1) 4 - 1 - j) + t) = if j = 0 then σ 8 1 t else σ 8 5 (1289 * (hd - 1 - (j - 1)) + t) := by
      intro t ht
      rw [s8, hv 5 (by decide)]
      exact m5 j t hj ht
    by_cases hj0 : j = 0
    · have ei : 3 + ((la + 1) % 4 + 4 - j) % 4 = 3 + (la + 1) % 4 := by omega
      rw [ei, cn]
      refine RelI_c (RelI_w (cpH_in _ _) r0) (fun t ht => ?_)
      rw [e5 t ht, if_pos hj0]
    · have ei : 3 + ((la + 1) % 4 + 4 - j) % 4 = 3 + (la + 4 - (j - 1)) % 4 := by omega
      rw [ei, ci _ (by omega) (by omega)]
      refine RelI_c (g6 (j - 1) (by omega)) (fun t ht => ?_)
      rw [e5 t ht, if_neg hj0]
  · rw [s8, hv 0 (by decide), m0 0 (by decide), h00, s7, c7, u2n (by decide), u2n (by decide)]
    exact k1
  · intro hk
    rw [s7, c7, u2n (by decide), u2n (by decide)] at hk
    rw [s8, hv 4 (by decide), mk 4 (by decide) (by decide), h4, si 2 (by decide) (by decide), ci 2 (by decide) (by omega)]
    exact k2 hk
  · rw [s7, c7, u2n (by decide), u2n (by decide)]
    exact l2
  · rw [s8, hv 0 (by decide), m0 2 (by decide), h02]
    exact l3
  · intro j hj
    rw [s8, hv 6 (by decide), mk 6 (by decide) (by decide), h6, s7, c7, u2n (by decide), u2n (by decide)]
    exact l4 j hj
/-- the start -/
theorem sg_00 (t : Nat) : sg0 0 0 t = g3F 6 0 t := by
  show toI (TF.2.2.2 (arrA 0 0) t) = toI (.int (g3F 6 0 t))
  exact congrArg toI (show TF.2.2.2 (arrA 0 0) t = .int (g3F 6 0 t) from rfl)
theorem sg_01 (t : Nat) : sg0 0 1 t = g3F 6 1 t := by
  show toI (TF.2.2.2 (arrA 0 1) t) = toI (.int (g3F 6 1 t))
  exact congrArg toI (show TF.2.2.2 (arrA 0 1) t = .int (g3F 6 1 t) from rfl)
theorem sg_02 (t : Nat) : sg0 0 2 t = g3F 6 2 t := by
  show toI (TF.2.2.2 (arrA 0 2) t) = toI (.int (g3F 6 2 t))
  exact congrArg toI (show TF.2.2.2 (arrA 0 2) t = .int (g3F 6 2 t) from rfl)
theorem sg_03 (t : Nat) : sg0 0 3 t = g3F 6 3 t := by
  show toI (TF.2.2.2 (arrA 0 3) t) = toI (.int (g3F 6 3 t))
  exact congrArg toI (show TF.2.2.2 (arrA 0 3) t = .int (g3F 6 3 t) from rfl)
theorem sg_04 (t : Nat) : sg0 0 4 t = g3F 6 4 t := by
  show toI (TF.2.2.2 (arrA 0 4) t) = toI (.int (g3F 6 4 t))
  exact congrArg toI (show TF.2.2.2 (arrA 0 4) t = .int (g3F 6 4 t) from rfl)
theorem sg_05 (t : Nat) : sg0 0 5 t = g3F 6 5 t := by
  show toI (TF.2.2.2 (arrA 0 5) t) = toI (.int (g3F 6 5 t))
  exact congrArg toI (show TF.2.2.2 (arrA 0 5) t = .int (g3F 6 5 t) from rfl)
theorem sg_06 (t : Nat) : sg0 0 6 t = g3F 6 6 t := by
  show toI (TF.2.2.2 (arrA 0 6) t) = toI (.int (g3F 6 6 t))
  exact congrArg toI (show TF.2.2.2 (arrA 0 6) t = .int (g3F 6 6 t) from rfl)
theorem sg_07 (t : Nat) : sg0 0 7 t = g3F 6 7 t := by
  show toI (TF.2.2.2 (arrA 0 7) t) = toI (.int (g3F 6 7 t))
  exact congrArg toI (show TF.2.2.2 (arrA 0 7) t = .int (g3F 6 7 t) from rfl)
theorem sg_8 (t : Nat) : sg0 8 1 t = fmC 6 t := by
  show toI (TF.2.2.2 127 t) = toI (.int (fmC 6 t))
  exact congrArg toI (show TF.2.2.2 127 t = .int (fmC 6 t) from rfl)
theorem st_W : ∀ h, h < 1000 → fmC 6 (17 + h) = g3F 6 0 h := by decide +kernel
theorem st_K : ∀ r, r < 16 → ∀ c, c < 7 → fmC 6 (1017 + 7 * r + c) = g3F 6 2 (r * 8 + c) := by decide +kernel
theorem st_S : ∀ t, t < 40 → fmC 6 (1129 + t) = g3F 6 3 t := by decide +kernel
theorem st_T : ∀ t, t < 18 → fmC 6 (1169 + t) = g3F 6 4 t := by decide +kernel
theorem st_1 : ∀ c, c < 5 → fmC 6 (1 + c) = g3F 6 1 c := by decide +kernel
theorem st_9 : ∀ c, c < 3 → fmC 6 (9 + c) = g3F 6 7 c := by decide +kernel
theorem st_iT : ∀ c, c < 6 → 0 ≤ (g3F 6 4 (c * 3 + 0)).toInt ∧ 0 ≤ (g3F 6 4 (c * 3 + 2)).toInt ∧ -(2 * ((0 : Nat) : Int)) ≤ (g3F 6 4 (c * 3 + 1)).toInt ∧ (g3F 6 4 (c * 3 + 0)).toInt + (g3F 6 4 (c * 3 + 1)).toInt + (g3F 6 4 (c * 3 + 2)).toInt ≤ 99 := by decide +kernel
theorem st_iZ : ∀ k, k < 16 → g3F 6 2 (k * 8 + 0) = 0 ∧ g3F 6 2 (k * 8 + 5) = 0 ∧ g3F 6 2 (k * 8 + 6) = 0 := by decide +kernel
theorem st_iY : ∀ k, k < 10 → g3F 6 3 (k * 4 + 1) = 0 ∧ g3F 6 3 (k * 4 + 3) = 0 := by decide +kernel
theorem RG_0 : RG sg0 := by
  refine ⟨⟨0, 0, 0, 0, 0, 0, ⟨⟨?_, ?_, ?_, ?_, ?_, ?_, ?_, ?_, ?_⟩, ?_, ?_, ?_, ?_, ?_, ⟨?_, ?_⟩, ?_⟩, ⟨⟨?_, ?_, ?_, ?_, ?_, ?_, ?_⟩, ⟨by decide, by decide, by decide, by decide, by decide⟩, rfl, ?_, ?_, ?_, ?_, ?_, ?_⟩⟩, ⟨0, 0, by decide, by decide, rfl, rfl, rfl, fun j hj => absurd hj (by omega)⟩, ⟨rfl, fun h => absurd rfl h⟩, ⟨0, by decide, rfl, rfl, fun j hj => absurd hj (by omega)⟩⟩
  · rfl
  · intro c hc; rw [sg_8, st_1 c hc, sg_01]
  · rfl
  · rfl
  · rfl
  · intro c hc; rw [sg_8, st_9 c hc, sg_07]
  · rfl
  · rfl
  · rfl
  · intro c hc; rw [sg_8, st_W c hc, sg_00]
  · intro r hr c hc; rw [sg_8, st_K r hr c hc, sg_02]
  · intro t ht; rw [sg_8, st_S t ht, sg_03]
  · intro t ht; rw [sg_8, st_T t ht, sg_04]
  · intro r hr; omega
  · rfl
  · intro j hj; omega
  · rfl
  · rfl
  · rfl
  · rfl
  · rfl
  · rfl
  · rfl
  · exact ⟨by decide, by decide⟩
  · intro r hr; omega
  · intro r hr; omega
  · intro r hr; omega
  · intro c hc; rw [sg_04, sg_04, sg_04]; exact st_iT c hc
  · intro k h1 h2; rw [sg_02, sg_02, sg_02]; exact st_iZ k h2
  · intro k h1 h2; rw [sg_03, sg_03]; exact st_iY k h2

