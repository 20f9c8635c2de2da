/-! PURE: an hour of a hire -/
theorem and_m1 : ∀ x, x < 64 → oN x &&& (0 ^^^ -1) = oN x := by decide +kernel
theorem bit_0 : ∀ c, c < 6 → bit 0 c = 0 := by decide +kernel
theorem and_nx : ∀ x, x < 64 → oN x &&& (oN x ^^^ -1) = 0 := by decide +kernel
theorem bc_bt : ∀ x, x < 64 → bcnt (oN x) = btF (oN x) 0 6 0 := by decide +kernel
theorem tails_a {w v : HV} {P x : Nat} (hx : x < 64) (e : w 5 (P * 7 + 4) = oN x) (hT : ∀ t, t < 18 → v 1 (1169 + t) = w 4 t) : ∀ t, t < 18 → tgF (oN x) 0 0 6 v 1 (1169 + t) = etF w P 0 t := by
  intro t ht
  have h1 := tgF_at (s := oN x) (w := 0) (Or.inl rfl) 6 0 v (1169 + t) (by decide)
  refine Eq.trans h1 ?_
  unfold etF
  rw [e, and_m1 x hx, if_pos (show 1169 + 3 * 0 ≤ 1169 + t ∧ 1169 + t < 1169 + 3 * (0 + 6) by omega), show 1169 + t - 1169 = t by omega, hT t ht, bit_0 (t / 3) (by omega), Int32.neg_zero, Int32.add_zero, Int32.sub_eq_add_neg, Int32.add_zero]
theorem tails_c {w v : HV} {P x : Nat} (hx : x < 64) (e : w 5 (P * 7 + 4) = oN x) (hT : ∀ t, t < 18 → v 1 (1169 + t) = w 4 t) : ∀ t, t < 18 → tgF (oN x) 2 0 6 v 1 (1169 + t) = etF w P (oN x) t := by
  intro t ht
  have h1 := tgF_at (s := oN x) (w := 2) (Or.inr rfl) 6 0 v (1169 + t) (by decide)
  refine Eq.trans h1 ?_
  unfold etF
  rw [e, and_nx x hx, if_pos (show 1169 + 3 * 0 ≤ 1169 + t ∧ 1169 + t < 1169 + 3 * (0 + 6) by omega), show 1169 + t - 1169 = t by omega, hT t ht, bit_0 (t / 3) (by omega), Int32.neg_zero, Int32.add_zero, Int32.sub_eq_add_neg]
  rcases (show t % 3 = 0 ∨ t % 3 = 1 ∨ t % 3 = 2 by omega) with h | h | h
  · rw [h, if_neg (by decide), if_neg (by decide), if_neg (by decide), if_pos rfl]
  · rw [h, if_pos rfl, if_pos rfl]
  · rw [h, if_neg (by decide), if_pos rfl, if_neg (by decide), if_neg (by decide)]
theorem tgF_out {s : Int32} {w : Nat} (hw : w = 0 ∨ w = 2) {v : HV} {t : Nat} (h : ¬ (1169 ≤ t ∧ t < 1187)) : tgF s (oN w) 0 6 v 1 t = v 1 t := by
  rw [tgF_at hw 6 0 v t (by decide), if_neg (by omega)]
theorem Ivt_p {w : HV} {T K S N O E b P : Nat} (h : Ivt w T K S N O E b P) (hl : ∃ l, 1 ≤ l ∧ l ≤ 12 ∧ w 5 (P * 7 + 3) = oN l) : Ivt w T K S N O E b 100 := by
  obtain ⟨h8, hB, hc, hH, hD, hN, hT, hZ⟩ := h
  refine ⟨h8, hB, hc, fun r hr => ?_, hD, hN, hT, hZ⟩
  obtain ⟨k, s, n, p1, p2, p3, p4, p5, p6, p7, p8, p9, pA, pB⟩ := hH r hr
  refine ⟨k, s, n, p1, p2, p3, p4, p5, p6, p7, p8, p9, pA, fun _ => ?_⟩
  by_cases e : r = P
  · rw [e]; exact hl
  · exact pB e
theorem Ivt_O {w : HV} {T K S N O E b P : Nat} (h : Ivt w T K S N O E b P) : O ≤ 10 ∧ E < 256 ∧ S ≤ 10 := by
  obtain ⟨-, ⟨b1, b2, b3, b4, b5⟩, hc, -⟩ := h
  have := cnF_le (f := fun r => w 3 (r * 4 + 2)) S
  omega
/-- both sides behind an hour of a hire -/
def HrOK (w2 : HV) (s2 : Nat → Int32) (e : Bool) (T K S N O E b : Nat) : Prop := if e = true then (Rel w2 s2 S (O - 1) (E + 1) 100 ∧ Ivt w2 T K S N (O - 1) (E + 1) b 100) else (Rel w2 s2 S O E 100 ∧ Ivt w2 T K S N O E b 100)
theorem fi_ok {w v : HV} {T K S N O E b P : Nat} (h : Rel w (v 1) S O E 100) (i : Ivt w T K S N O E b 100) (hP : P < O) : fhP v (oN P) ∧ HrOK (fiH w (oN P)) ((fhM v (oN P)).2 1) (fhM v (oN P)).1 T K S N O E b := by
  obtain ⟨hO, hE, hS⟩ := Ivt_O i
  have hP10 : P < 10 := by omega
  obtain ⟨h8, hB, hc, hH, hD, hN, hT, hZ⟩ := id i
  obtain ⟨k, s, n, p1, p2, p3, p4, p5, p6, p7, p8, p9, pA, pB⟩ := hH P hP
  obtain ⟨l, l1, l2, l3⟩ := pB (by omega)
  obtain ⟨hA, hwi, hk, hs, hTl, hh, he, hL⟩ := id h
  have hx := sm_eq pA
  have hx64 : (w 5 (P * 7 + 4)).toNatClampNeg < 64 := by have := pA.2; omega
  generalize (w 5 (P * 7 + 4)).toNatClampNeg = x at hx hx64
  obtain ⟨l', rfl⟩ : ∃ l', l = l' + 1 := ⟨l - 1, by omega⟩
  have w1 : fiH1 w (oN P) = up2 w 5 (P * 7 + 3) (oN l') := by
    unfold fiH1
    rw [pahr_3 hP10, l3, oN_dec]
  have v1 : ∀ t, fh1 v (oN P) 1 t = if t = 1187 + 7 * P + (3 + 1) then oN l' else v 1 t := by
    intro t
    unfold fh1
    rw [adH_4 (by omega), dcr1]
    have e4 : v 1 (1187 + 7 * P + 4) = oN (l' + 1) := ((hh P hP).2 3 (by decide) (by omega)).trans l3
    rw [e4, oN_pred]
  have e1 : hr (fiH1 w (oN P)) (oN P) 3 = oN l' := by rw [hr_3 hP10, w1, u2k, if_pos rfl]
  have e2 : uh (fh1 v (oN P)) (oN P) 4 = oN l' := by
    show fh1 v (oN P) 1 (1187 + 7 * oN P + 4).toNatClampNeg = _
    rw [adH_4 (by omega), v1, if_pos rfl]
  have e5 : uh (fh1 v (oN P)) (oN P) 5 = oN x := by
    show fh1 v (oN P) 1 (1187 + 7 * oN P + 5).toNatClampNeg = _
    rw [adH_5 (by omega), v1, if_neg (by omega)]
    exact ((hh P hP).2 4 (by decide) (by omega)).trans hx
  have hR : Rel (fiH1 w (oN P)) (fh1 v (oN P) 1) S O E 100 := by
    rw [w1]
    exact rel_h h hS hO hP10 (by decide) v1
  have hI : Ivt (fiH1 w (oN P)) T K S N O E b P := by
    rw [w1]
    refine Ivt_c i (fun t ht => u2n (by decide)) (by rw [u2n (by decide)]; exact h8.2.2.2.2.2.2) (fun r hr => u2n (by decide)) (fun r hr => ⟨u2n (by decide), u2n (by decide)⟩) (fun r hr => ⟨by rw [u2k, if_neg (by omega)], by rw [u2k, if_neg (by omega)], by rw [u2k, if_neg (by omega)], by rw [u2k, if_neg (by omega)]⟩) (fun r hr hr2 => ⟨by omega, by rw [u2k, if_neg (by omega)]⟩) (up2_kn (by decide)) (fun r _ _ => ⟨u2n (by decide), u2n (by decide)⟩) (fun r _ _ => ⟨u2n (by decide), u2n (by decide)⟩)
  have smP : sm (oN P) 9 := sm_oN (by omega) (by decide)
  unfold fiH fhM fhP
  rw [e1, e2]
  by_cases hl : l' = 0
  · subst hl
    rw [if_neg (show ¬ (0 : Int32) < oN 0 by decide), if_pos (show oN 0 = 0 from rfl)]
    obtain ⟨⟨a0, a1, a6, a7, a8, a9, a12, a14, a16⟩, hw, hk2, hsp, ht, hh2, he2, hl2⟩ := id hR
    have hw5 : fiH1 w (oN P) 5 (P * 7 + 4) = oN x := by rw [w1, u2k, if_neg (by omega), hx]
    have c1 : cb0 (fh1 v (oN P)) (oN P) = tgF (oN x) 0 0 6 (fh1 v (oN P)) := by unfold cb0; rw [e5]
    have he' := end_rel (w := fiH1 w (oN P)) (v := fh1 v (oN P)) (v2 := cb0 (fh1 v (oN P)) (oN P)) (mis := 0) (K := k) (S := s) (W := 0) (Sp := S) hP hO (by have := hB.2.1; omega) (by omega) (by decide) hE hS (by rw [w1, u2k, if_neg (by omega)]; exact p4) (by rw [w1, u2k, if_neg (by omega)]; exact p5) (by rw [w1, u2n (by decide)]; exact h8.2.2.2.2.2.1) (by rw [w1, u2n (by decide)]; exact h8.2.2.2.2.1)
      ⟨a0, a1, a6, a7, a8, a9, a12, a14, a16⟩ hw hk2 hsp hh2 he2 hl2 (fun t h1 _ => by rw [c1]; exact tgF_out (w := 0) (Or.inl rfl) h1) (by rw [c1]; exact tails_a hx64 hw5 ht)
    refine ⟨⟨smP, fun _ => ⟨smP, he'.1⟩⟩, ?_⟩
    unfold HrOK
    rw [if_pos rfl]
    exact ⟨he'.2, end_ivt hI hP (by decide)⟩
  · have hl0 : ¬ oN l' = 0 := fun q => hl (oN_inj (b := 0) (by omega) (by decide) q)
    have hlp : (0 : Int32) < oN l' := by show oN 0 < oN l'; rw [oN_lt (by decide) (by omega)]; omega
    rw [if_pos hlp, if_neg hl0]
    refine ⟨⟨smP, fun q => absurd q hl0⟩, ?_⟩
    unfold HrOK
    rw [if_neg (show ¬ false = true by decide)]
    refine ⟨hR, Ivt_p hI ⟨l', by omega, by omega, ?_⟩⟩
    rw [w1, u2k, if_pos rfl]

