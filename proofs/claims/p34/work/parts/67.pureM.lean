/-! PURE: what stands behind the rows' ends tells nothing -/
theorem at_R {w2 w : HV} (e : InR w2 w) (k : Fin 9) {len : Nat} (hl : len = ln9 k) (hb : len < 2 ^ 31) {C r c : Int32} : at_ (w2 k) C len r c = at_ (w k) C len r c := by
  unfold at_
  by_cases h1 : r * C + c < 0
  · rw [if_pos h1, if_pos h1]
  · by_cases h2 : r * C + c < Int32.ofNat len
    · rw [if_neg h1, if_neg h1, if_pos h2, if_pos h2]
      exact e k _ (by rw [← hl]; exact toNat_lt h1 h2 hb)
    · rw [if_neg h1, if_neg h1, if_neg h2, if_neg h2]
theorem up2_R {w2 w : HV} (e : InR w2 w) {k : Fin 9} {t : Nat} {x : Int32} : InR (up2 w2 k t x) (up2 w k t x) := by
  intro k' t' h
  unfold up2
  split
  · rfl
  · exact e k' t' h
theorem pt_R {w2 w : HV} (e : InR w2 w) {k : Fin 9} {len : Nat} {C r c x : Int32} : InR (pt w2 k C len r c x) (pt w k C len r c x) := by
  unfold pt
  split
  · exact e
  · split
    · exact up2_R e
    · exact e
theorem pa_R {w2 w : HV} (e : InR w2 w) {k : Fin 9} {len : Nat} (hl : len = ln9 k) (hb : len < 2 ^ 31) {C r c x : Int32} : InR (pa w2 k C len r c x) (pa w k C len r c x) := by
  unfold pa
  by_cases h1 : r * C + c < 0
  · rw [if_pos h1, if_pos h1]; exact e
  · by_cases h2 : r * C + c < Int32.ofNat len
    · rw [if_neg h1, if_neg h1, if_pos h2, if_pos h2, e k _ (by rw [← hl]; exact toNat_lt h1 h2 hb)]
      exact up2_R e
    · rw [if_neg h1, if_neg h1, if_neg h2, if_neg h2]; exact e
theorem mvT_R {w2 w : HV} (e : InR w2 w) {s a b : Int32} : ∀ n, InR (mvT w2 s a b n) (mvT w s a b n) := by
  intro n
  induction n with
  | zero => exact e
  | succ n ih => exact pa_R (pa_R ih rfl (by decide)) rfl (by decide)
theorem drp_R {w2 w : HV} (e : InR w2 w) {p : Nat} : InR (drp w2 p) (drp w p) := by
  intro k t h
  unfold drp
  by_cases h1 : k = 5 ∧ p * 7 ≤ t ∧ t + 7 < 70
  · rw [if_pos h1, if_pos h1]
    exact e 5 _ h1.2.2
  · rw [if_neg h1, if_neg h1]
    exact e k t h
theorem hr_R {w2 w : HV} (e : InR w2 w) {r c : Int32} : hr w2 r c = hr w r c := at_R e 5 rfl (by decide)
theorem kt_R {w2 w : HV} (e : InR w2 w) {r c : Int32} : kt w2 r c = kt w r c := at_R e 2 rfl (by decide)
theorem sl_R {w2 w : HV} (e : InR w2 w) {r c : Int32} : sl w2 r c = sl w r c := at_R e 3 rfl (by decide)
theorem se_R {w2 w : HV} (e : InR w2 w) {r : Int32} : settg w2 r = settg w r := at_R e 1 rfl (by decide)
theorem wi_R {w2 w : HV} (e : InR w2 w) {r : Int32} : windAt w2 r = windAt w r := at_R e 0 rfl (by decide)
theorem R8 {w2 w : HV} (e : InR w2 w) {t : Nat} (h : t < 8) : w2 8 t = w 8 t := e 8 t h
theorem enH_R {w2 w : HV} (e : InR w2 w) {r y m : Int32} : InR (enH w2 r y m) (enH w r y m) := by
  unfold enH enH3 enH2 enH1
  rw [hr_R e, hr_R e, hr_R e, hr_R e, hr_R e, R8 e (t := 0) (by decide), R8 e (t := 4) (by decide), R8 e (t := 5) (by decide)]
  exact up2_R (drp_R (pa_R (up2_R (pt_R (pt_R (pt_R (pt_R (mvT_R (mvT_R (pt_R (pt_R (pt_R e))) 6) 6)))))) rfl (by decide)))
theorem tcH_R {w2 w : HV} (e : InR w2 w) {r c : Int32} : InR (tcH w2 r c) (tcH w r c) := by
  unfold tcH
  rw [R8 e (t := 6) (by decide)]
  exact up2_R (pa_R e rfl (by decide))
theorem fiH_R {w2 w : HV} (e : InR w2 w) {r : Int32} : InR (fiH w2 r) (fiH w r) := by
  have e1 : InR (fiH1 w2 r) (fiH1 w r) := pa_R e rfl (by decide)
  unfold fiH
  rw [hr_R e1]
  split
  · exact e1
  · exact enH_R e1
theorem wrW_R {w2 w : HV} (e : InR w2 w) {r : Int32} : InR (wrW w2 r) (wrW w r) := by
  unfold wrW
  rw [hr_R e, hr_R e, R8 e (t := 0) (by decide), R8 e (t := 7) (by decide), wi_R e, kt_R (pa_R (k := 2) (len := 128) (C := 8) (r := hr w r 0) (c := 5) (x := 1) e rfl (by decide))]
  exact pa_R (up2_R (pa_R e rfl (by decide))) rfl (by decide)
theorem snH_R {w2 w : HV} (e : InR w2 w) {r : Int32} : InR (snH w2 r) (snH w r) := by
  unfold snH snC snH1
  rw [hr_R e, hr_R e, hr_R e, se_R e, se_R e, R8 e (t := 6) (by decide)]
  exact enH_R (up2_R (pa_R (pt_R (pa_R (pa_R e rfl (by decide)) rfl (by decide))) rfl (by decide)))
theorem phH_R {w2 w : HV} (e : InR w2 w) {r : Int32} : InR (phH w2 r) (phH w r) := by
  have e1 := wrW_R e (r := r)
  unfold phH tooWP tooCP
  rw [hr_R e, hr_R e, hr_R e, R8 e (t := 0) (by decide), kt_R e, kt_R e, kt_R e, wi_R e, se_R e, se_R e, sl_R e1]
  split
  · exact enH_R (tcH_R e)
  · split
    · exact fiH_R (tcH_R e)
    · split
      · exact snH_R e1
      · exact fiH_R e1
theorem psF_R : ∀ (m r : Nat) (w2 w : HV), InR w2 w → InR (psF w2 r m) (psF w r m) := by
  intro m
  induction m with
  | zero => intro r w2 w e; exact e
  | succ m ih =>
    intro r w2 w e
    have e1 := phH_R e (r := oN r)
    show InR (psF (phH w2 (oN r)) (if phH w2 (oN r) 8 5 = w2 8 5 then r + 1 else r) m) (psF (phH w (oN r)) (if phH w (oN r) 8 5 = w 8 5 then r + 1 else r) m)
    rw [R8 e (t := 5) (by decide), R8 e1 (t := 5) (by decide)]
    exact ih _ _ _ e1
theorem paH_R {w2 w : HV} (e : InR w2 w) : InR (paH w2) (paH w) := by
  have e1 := psF_R (w 8 4).toNatClampNeg 0 w2 w e
  unfold paH
  rw [R8 e (t := 4) (by decide), R8 e1 (t := 0) (by decide)]
  exact up2_R e1
theorem paN_R : ∀ (m : Nat) (w2 w : HV), InR w2 w → InR (paN w2 m) (paN w m) := by
  intro m
  induction m with
  | zero => intro w2 w e; exact e
  | succ m ih => intro w2 w e; exact ih _ _ (paH_R e)
theorem J_w {w w2 : HV} {cf : Nat → Int32} {T K S N O E b : Nat} (e : InR w2 w) (h : J w cf T K S N O E b) : J w2 cf T K S N O E b := by
  obtain ⟨i, ⟨xS, xW, xK, xC, xL, xH, xE⟩, xT, xM⟩ := h
  obtain ⟨hO, hE, hS⟩ := Ivt_O i
  have hK : K ≤ 16 := i.2.1.2.1
  have e2 : ∀ k c, k < 16 → c < 8 → w2 2 (k * 8 + c) = w 2 (k * 8 + c) := fun k c h1 h2 => e 2 _ (show k * 8 + c < 128 by omega)
  have e3 : ∀ k c, k < 10 → c < 4 → w2 3 (k * 4 + c) = w 3 (k * 4 + c) := fun k c h1 h2 => e 3 _ (show k * 4 + c < 40 by omega)
  have e4 : ∀ k c, k < 6 → c < 3 → w2 4 (k * 3 + c) = w 4 (k * 3 + c) := fun k c h1 h2 => e 4 _ (show k * 3 + c < 18 by omega)
  have e5 : ∀ k c, k < 10 → c < 7 → w2 5 (k * 7 + c) = w 5 (k * 7 + c) := fun k c h1 h2 => e 5 _ (show k * 7 + c < 70 by omega)
  refine ⟨Ivt_w e i, ⟨?_, ?_, ?_, ?_, ?_, ?_, ?_⟩, ?_, ?_⟩
  · unfold jS
    rw [e 1 0 (show 0 < 5 by decide), e 1 1 (show 1 < 5 by decide), e 1 2 (show 2 < 5 by decide), e 1 3 (show 3 < 5 by decide), e 1 4 (show 4 < 5 by decide)]
    exact xS
  · intro h hh
    rw [e 0 h hh]
    exact xW h hh
  · intro k hk
    rw [e2 k 0 (by omega) (by decide), e2 k 7 (by omega) (by decide), e2 k 4 (by omega) (by decide), e2 k 3 (by omega) (by decide)]
    exact xK k hk
  · unfold jC
    rw [ctF_c (f := fun k => w2 2 (k * 8 + 0)) (g := fun k => w 2 (k * 8 + 0)) K (fun r hr => e2 r 0 (by omega) (by decide))]
    exact xC
  · intro s hs
    rw [e3 s 0 (by omega) (by decide), e3 s 1 (by omega) (by decide)]
    exact xL s hs
  · intro r hr hr2
    exact jR_c (r := r) (fun c hc => e5 r c (by omega) (by omega)) (fun s hs _ => e3 s 0 hs (by decide)) (fun k hk => e2 k 4 hk (by decide)) (xH r hr hr2)
  · unfold jE
    rw [e 7 0 (show 0 < 3 by decide), e 7 1 (show 1 < 3 by decide), e 7 2 (show 2 < 3 by decide)]
    exact xE
  · exact jT_e (fun c hc => by rw [e4 c 0 hc (by decide), e4 c 1 hc (by decide), e4 c 2 hc (by decide)]) xT
  · exact jM_e (fun s hs => ⟨e3 s 0 (by omega) (by decide), e3 s 3 (by omega) (by decide)⟩) xM
