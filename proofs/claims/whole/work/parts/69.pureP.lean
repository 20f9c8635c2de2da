/-! PURE: hours pass -/
theorem rel_0 {w : HV} {s s2 : Nat → Int32} {S O E P : Nat} {x : Int32} (h : Rel w s S O E P) (hS : S ≤ 10) (hO : O ≤ 10)  (hs : ∀ u, s2 u = if u = 0 then x else s u) : Rel (up2 w 8 (0) x) s2 S O E P := by
  obtain ⟨⟨a0, a1, a6, a7, a8, a9, a12, a14, a16⟩, hw, hk, hsp, ht, hh, he, hl⟩ := h
  refine ⟨⟨?_, ?_, ?_, ?_, ?_, ?_, ?_, ?_, ?_⟩, ?_, ?_, ?_, ?_, ?_, ?_, ?_⟩
  · rw [hs, if_pos rfl, u2k, if_pos rfl]
  · intro c hc
    rw [hs, if_neg (by omega), u2n (by decide)]; exact a1 c hc
  · rw [hs, if_neg (by omega), u2k, if_neg (by omega)]; exact a6
  · rw [hs, if_neg (by omega), u2k, if_neg (by omega)]; exact a7
  · rw [hs, if_neg (by omega), u2k, if_neg (by omega)]; exact a8
  · intro c hc
    rw [hs, if_neg (by omega), u2n (by decide)]; exact a9 c hc
  · rw [hs, if_neg (by omega), u2k, if_neg (by omega)]; exact a12
  · rw [hs, if_neg (by omega), u2k, if_neg (by omega)]; exact a14
  · rw [hs, if_neg (by omega), u2k, if_neg (by omega)]; exact a16
  · intro c hc
    rw [hs, if_neg (by omega), u2n (by decide)]; exact hw c hc
  · intro r hr c hc
    rw [hs, if_neg (by omega), u2n (by decide)]; exact hk r hr c hc
  · intro t2 h2
    rw [hs, if_neg (by omega), u2n (by decide)]; exact hsp t2 h2
  · intro t2 h2
    rw [hs, if_neg (by omega), u2n (by decide)]; exact ht t2 h2
  · intro r hr
    refine ⟨?_, fun c hc hx => ?_⟩
    · rw [hs, if_neg (by omega), u2n (by decide)]; exact (hh r hr).1
    · rw [hs, if_neg (by omega), u2n (by decide)]; exact (hh r hr).2 c hc hx
  · refine ⟨?_, fun j hj c hc => ?_⟩
    · rw [hs, if_neg (by omega)]; exact he.1
    · have hj8 : j < 8 := by omega
      rw [hs, if_neg (by omega), u2n (by decide)]; exact he.2 j hj c hc
  · show s2 13 = _
    rw [hs, if_neg (by omega)]
    refine hl.trans (suF_c _ _ _ (fun r h1 h2 => ?_))
    rw [u2n (by decide)]
theorem Ivt_T {w : HV} {T K S N O E b P T2 : Nat} (h : Ivt w T K S N O E b P) (hT : T2 ≤ 1000) : Ivt (up2 w 8 0 (oN T2)) T2 K S N O E b P := by
  obtain ⟨⟨a0, a1, a2, a3, a4, a5, a7⟩, ⟨b1, b2, b3, b4, b5⟩, hc, hH, hD, hN, hTl, hZ⟩ := h
  have e : ∀ k : Fin 9, k ≠ 8 → up2 w 8 0 (oN T2) k = w k := fun k h => up2_kn h
  refine ⟨⟨by rw [u2k, if_pos rfl], by rw [u2k, if_neg (by decide)]; exact a1, by rw [u2k, if_neg (by decide)]; exact a2, by rw [u2k, if_neg (by decide)]; exact a3, by rw [u2k, if_neg (by decide)]; exact a4, by rw [u2k, if_neg (by decide)]; exact a5, by rw [u2k, if_neg (by decide)]; exact a7⟩, ⟨hT, b2, b3, b4, b5⟩, ?_, ?_, ?_, ?_, ?_, ?_, ?_⟩
  · rw [e 3 (by decide)]; exact hc
  · unfold ivH; rw [e 5 (by decide), e 3 (by decide), e 2 (by decide)]; exact hH
  · unfold ivD; rw [e 5 (by decide)]; exact hD
  · unfold ivN; rw [e 5 (by decide), e 2 (by decide)]; exact hN
  · unfold ivT; rw [e 4 (by decide)]; exact hTl
  · rw [e 2 (by decide)]; exact hZ.1
  · rw [e 3 (by decide)]; exact hZ.2
theorem fhM_k {v : HV} {p : Int32} {k : Fin 9} (h : k ≠ 1) : (fhM v p).2 k = v k := by
  have h1 : fh1 v p k = v k := by unfold fh1; rw [dcr_k h]
  unfold fhM
  split
  · show cbM (fh1 v p) p k = _
    unfold cbM cb0
    rw [enM_k h, tgF_k h, h1]
  · exact h1
theorem snM_k {v : HV} {p : Int32} {k : Fin 9} (h : k ≠ 1) : snM v p k = v k := by
  unfold snM sn6 sn5 sn4 sn3 sn2 sn1
  rw [enM_k h, tgF_k h, pyM_k h, inc_k h, up2_kn h, inc_k h, dcr_k h]
theorem hoM_k {v : HV} {p : Int32} {k : Fin 9} (h : k ≠ 1) : (hoM v p).2 k = v k := by
  have h3 : hf3 v p k = v k := by
    unfold hf3 hf2 hf1
    rw [inc_k h, inc_k h, inc_k h]
  unfold hoM
  split
  · show enM (hc2 v p) p 1 k = _
    unfold hc2 hc1
    rw [enM_k h, tgF_k h, pyM_k h]
  · split
    · split
      · rw [fhM_k h, h3]
      · show snM (hf3 v p) p k = _
        rw [snM_k h, h3]
    · rw [fhM_k h]
      unfold hg1
      rw [pyM_k h]
theorem psM_k {k : Fin 9} (h : k ≠ 1) : ∀ (m : Nat) (p n : Int32) (v : HV), (psM m p n v).2 k = v k := by
  intro m
  induction m with
  | zero => intro p n v; rfl
  | succ m ih =>
    intro p n v
    unfold psM
    split
    · rw [ih, hoM_k h]
    · rw [ih, hoM_k h]
theorem pmM_k {k : Fin 9} (h : k ≠ 1) : ∀ (m : Nat) (n : Int32) (v : HV), (pmM m n v).2 k = v k := by
  intro m
  induction m with
  | zero => intro n v; rfl
  | succ m ih =>
    intro n v
    unfold pmM
    rw [ih, inc_k h, psM_k h]
theorem pss_ok {T K S N : Nat} (hT : T < 1000) : ∀ (m r : Nat) (w v : HV) (n : Int32) (O E b : Nat), Rel w (v 1) S O E 100 → Ivt w T K S N O E b 100 → r + m = O → b + m ≤ 1000000 → psP m (oN r) v ∧ ∃ O2 E2, E ≤ E2 ∧ Rel (psF w r m) ((psM m (oN r) n v).2 1) S O2 E2 100 ∧ Ivt (psF w r m) T K S N O2 E2 (b + m) 100 ∧ (psM m (oN r) n v).1 = n + oN (E2 - E) := by
  intro m
  induction m with
  | zero =>
    intro r w v n O E b h i hr hb
    obtain ⟨hO, hE, hS⟩ := Ivt_O i
    have e16 : v 1 16 = oN O := h.1.2.2.2.2.2.2.2.2.trans i.1.2.2.2.2.1
    refine ⟨?_, O, E, Nat.le_refl _, h, i, ?_⟩
    · show ¬ oN r < v 1 16
      rw [e16, oN_lt (by omega) (by omega)]
      omega
    · show n = n + oN (E - E)
      rw [Nat.sub_self]
      exact (Int32.add_zero n).symm
  | succ m ih =>
    intro r w v n O E b h i hr hb
    obtain ⟨hO, hE, hS⟩ := Ivt_O i
    have e16 : v 1 16 = oN O := h.1.2.2.2.2.2.2.2.2.trans i.1.2.2.2.2.1
    obtain ⟨z1, z2⟩ := hour_ok (P := r) h i (by omega) hT (by omega)
    have e85 : w 8 5 = oN E := i.1.2.2.2.2.2.1
    unfold HrOK at z2
    rcases b2_cases (hoM v (oN r)).1 with hb1 | hb1
    · rw [if_pos hb1] at z2
      obtain ⟨q1, q2⟩ := z2
      have e85' : phH w (oN r) 8 5 = oN (E + 1) := q2.1.2.2.2.2.2.1
      have hne : ¬ phH w (oN r) 8 5 = w 8 5 := by
        rw [e85', e85]
        intro q
        have := oN_inj (by omega) (by omega) q
        omega
      obtain ⟨y1, O2, E2, y2, y3, y4, y5⟩ := ih r (phH w (oN r)) (hoM v (oN r)).2 (n + 1) (O - 1) (E + 1) (b + 1) q1 q2 (by omega) (by omega)
      have eF : psF w r (m + 1) = psF (phH w (oN r)) r m := by
        show psF (phH w (oN r)) (if phH w (oN r) 8 5 = w 8 5 then r + 1 else r) m = _
        rw [if_neg hne]
      have eM : psM (m + 1) (oN r) n v = psM m (oN r) (n + 1) (hoM v (oN r)).2 := by
        show (if (hoM v (oN r)).1 = true then _ else _) = _
        rw [if_pos hb1]
      rw [eF, eM]
      refine ⟨⟨by rw [e16, oN_lt (by omega) (by omega)]; omega, z1, by rw [if_pos hb1]; exact y1⟩, O2, E2, by omega, y3, Ivt_b y4 (by omega), ?_⟩
      rw [y5, Int32.add_assoc, Int32.add_comm 1, oN_succ]
      exact congrArg (fun z => n + oN z) (by omega)
    · have hb2 : ¬ (hoM v (oN r)).1 = true := by rw [hb1]; decide
      rw [if_neg hb2] at z2
      obtain ⟨q1, q2⟩ := z2
      have e85' : phH w (oN r) 8 5 = oN E := q2.1.2.2.2.2.2.1
      obtain ⟨y1, O2, E2, y2, y3, y4, y5⟩ := ih (r + 1) (phH w (oN r)) (hoM v (oN r)).2 n O E (b + 1) q1 q2 (by omega) (by omega)
      have eF : psF w r (m + 1) = psF (phH w (oN r)) (r + 1) m := by
        show psF (phH w (oN r)) (if phH w (oN r) 8 5 = w 8 5 then r + 1 else r) m = _
        rw [if_pos (e85'.trans e85.symm)]
      have eM : psM (m + 1) (oN r) n v = psM m (oN (r + 1)) n (hoM v (oN r)).2 := by
        show (if (hoM v (oN r)).1 = true then _ else _) = _
        rw [if_neg hb2, oN_succ]
      rw [eF, eM]
      refine ⟨⟨by rw [e16, oN_lt (by omega) (by omega)]; omega, z1, by rw [if_neg hb2, oN_succ]; exact y1⟩, O2, E2, y2, y3, Ivt_b y4 (by omega), y5⟩
theorem pa_ok {w v : HV} {T K S N O E : Nat} (n : Int32) (hT : T < 1000) (h : Rel w (v 1) S O E 100) (i : Ivt w T K S N O E (10 * T) 100) : psP (v 1 16).toNatClampNeg 0 v ∧ ∃ O2 E2, E ≤ E2 ∧ Rel (paH w) (inc (psM (v 1 16).toNatClampNeg 0 n v).2 0 1 1) S O2 E2 100 ∧ Ivt (paH w) (T + 1) K S N O2 E2 (10 * (T + 1)) 100 ∧ (psM (v 1 16).toNatClampNeg 0 n v).1 = n + oN (E2 - E) := by
  obtain ⟨hO, hE, hS⟩ := Ivt_O i
  have e84 : w 8 4 = oN O := i.1.2.2.2.2.1
  have e16 : v 1 16 = oN O := h.1.2.2.2.2.2.2.2.2.trans e84
  have eN : (v 1 16).toNatClampNeg = O := by rw [e16, oN_nat (by omega)]
  have eW : (w 8 4).toNatClampNeg = O := by rw [e84, oN_nat (by omega)]
  obtain ⟨y1, O2, E2, y2, y3, y4, y5⟩ := pss_ok hT O 0 w v n O E (10 * T) h i (Nat.zero_add _) (by omega)
  obtain ⟨hO2, -, -⟩ := Ivt_O y4
  rw [eN]
  refine ⟨y1, O2, E2, y2, ?_, ?_, y5⟩
  · unfold paH
    rw [eW]
    have e0 : psF w 0 O 8 0 = oN T := y4.1.1
    have e0' : (psM O 0 n v).2 1 0 = oN T := y3.1.1.trans e0
    rw [e0, oN_succ]
    refine rel_0 y3 hS hO2 (fun u => ?_)
    rw [inc1]
    show (if u = 0 then (psM O 0 n v).2 1 0 + 1 else (psM O 0 n v).2 1 u) = if u = 0 then oN (T + 1) else (psM O 0 n v).2 1 u
    rw [e0', oN_succ]
  · unfold paH
    rw [eW, show psF w 0 O 8 0 = oN T from y4.1.1, oN_succ]
    exact Ivt_T (Ivt_b y4 (by omega)) (by omega)
theorem pm_ok {K S N : Nat} : ∀ (hh : Nat) (n : Int32) (w v : HV) (T O E : Nat), T + hh ≤ 1000 → Rel w (v 1) S O E 100 → Ivt w T K S N O E (10 * T) 100 → pmP hh n v ∧ ∃ O2 E2, E ≤ E2 ∧ Rel (paN w hh) ((pmM hh n v).2 1) S O2 E2 100 ∧ Ivt (paN w hh) (T + hh) K S N O2 E2 (10 * (T + hh)) 100 ∧ (pmM hh n v).1 = n + oN (E2 - E) := by
  intro hh
  induction hh with
  | zero =>
    intro n w v T O E hT h i
    refine ⟨trivial, O, E, Nat.le_refl _, h, i, ?_⟩
    show n = n + oN (E - E)
    rw [Nat.sub_self]
    exact (Int32.add_zero n).symm
  | succ hh ih =>
    intro n w v T O E hT h i
    obtain ⟨y1, O2, E2, y2, y3, y4, y5⟩ := pa_ok n (by omega) h i
    obtain ⟨z1, O3, E3, z2, z3, z4, z5⟩ := ih (psM (v 1 16).toNatClampNeg 0 n v).1 (paH w) (inc (psM (v 1 16).toNatClampNeg 0 n v).2 0 1) (T + 1) O2 E2 (by omega) y3 y4
    refine ⟨⟨y1, z1⟩, O3, E3, by omega, z3, ?_, ?_⟩
    · rw [show T + (hh + 1) = T + 1 + hh by omega]
      exact z4
    · show (pmM hh (psM (v 1 16).toNatClampNeg 0 n v).1 (inc (psM (v 1 16).toNatClampNeg 0 n v).2 0 1)).1 = _
      rw [z5, y5, Int32.add_assoc, oN_add]
      exact congrArg (fun z => n + oN z) (by omega)
theorem ip_ok {K S N : Nat} : ∀ (hh : Nat) (w v : HV) (T O E : Nat), T ≤ 1000 → Rel w (v 1) S O E 100 → Ivt w T K S N O E (10 * T) 100 → ipN w hh = paN w (if 1000 < T + hh then 1000 - T else hh) := by
  intro hh
  induction hh with
  | zero =>
    intro w v T O E hT h i
    rw [if_neg (by omega)]
    rfl
  | succ hh ih =>
    intro w v T O E hT h i
    have e0 : w 8 0 = oN T := i.1.1
    show (if w 8 0 < 1000 then ipN (paH w) hh else w) = _
    by_cases hlt : T < 1000
    · obtain ⟨y1, O2, E2, y2, y3, y4, y5⟩ := pa_ok 0 hlt h i
      rw [if_pos (by rw [e0]; show oN T < oN 1000; rw [oN_lt (by omega) (by decide)]; exact hlt), ih (paH w) _ (T + 1) O2 E2 (by omega) y3 y4]
      by_cases hc : 1000 < T + (hh + 1)
      · rw [if_pos (by omega), if_pos hc, show 1000 - T = 1000 - (T + 1) + 1 by omega]
        rfl
      · rw [if_neg (by omega), if_neg hc]
        rfl
    · rw [if_neg (by rw [e0]; show ¬ oN T < oN 1000; rw [oN_lt (by omega) (by decide)]; exact hlt)]
      rw [if_pos (by omega), show 1000 - T = 0 by omega]
      rfl

