/-! PURE: what always holds of a hut; it holds behind an end -/
def cnF (f : Nat → Int32) : Nat → Nat
  | 0 => 0
  | n + 1 => cnF f n + (if f n = -5 then 0 else 1)
def ivH (w : HV) (K S N O P : Nat) : Prop := ∀ r, r < O → ∃ k s n, k < K ∧ s < S ∧ n < N ∧ w 5 (r * 7 + 0) = oN k ∧ w 5 (r * 7 + 1) = oN s ∧ w 5 (r * 7 + 6) = oN n ∧ w 3 (s * 4 + 2) = oN n ∧ w 2 (k * 8 + 7) = oN n ∧ w 2 (k * 8 + 0) = 1 ∧ sm (w 5 (r * 7 + 4)) 63 ∧ (r ≠ P → ∃ l, 1 ≤ l ∧ l ≤ 12 ∧ w 5 (r * 7 + 3) = oN l)
def ivD (w : HV) (O : Nat) : Prop := ∀ r, r < O → ∀ q, q < O → w 5 (r * 7 + 6) = w 5 (q * 7 + 6) → r = q
def ivN (w : HV) (K O : Nat) : Prop := ∀ k, k < K → w 2 (k * 8 + 7) = -5 ∨ ∃ r, r < O ∧ w 5 (r * 7 + 0) = oN k
def ivT (w : HV) (E : Nat) : Prop := ∀ c, c < 6 → 0 ≤ (w 4 (c * 3 + 0)).toInt ∧ 0 ≤ (w 4 (c * 3 + 2)).toInt ∧ -(2 * (E : Int)) ≤ (w 4 (c * 3 + 1)).toInt ∧ (w 4 (c * 3 + 0)).toInt + (w 4 (c * 3 + 1)).toInt + (w 4 (c * 3 + 2)).toInt ≤ 99
def ivZ (w : HV) (K S : Nat) : Prop := (∀ k, K ≤ k → k < 16 → w 2 (k * 8 + 0) = 0 ∧ w 2 (k * 8 + 5) = 0 ∧ w 2 (k * 8 + 6) = 0) ∧ ∀ r, S ≤ r → r < 10 → w 3 (r * 4 + 1) = 0 ∧ w 3 (r * 4 + 3) = 0
def iv8 (w : HV) (T K S N O E b : Nat) : Prop := w 8 0 = oN T ∧ w 8 1 = oN K ∧ w 8 2 = oN S ∧ w 8 3 = oN N ∧ w 8 4 = oN O ∧ w 8 5 = oN E ∧ sm (w 8 7) b
def ivB (T K S N O E : Nat) : Prop := T ≤ 1000 ∧ K ≤ 16 ∧ S ≤ 10 ∧ N ≤ 200 ∧ E + O = N
def Ivt (w : HV) (T K S N O E b P : Nat) : Prop := iv8 w T K S N O E b ∧ ivB T K S N O E ∧ cnF (fun r => w 3 (r * 4 + 2)) S = O ∧ ivH w K S N O P ∧ ivD w O ∧ ivN w K O ∧ ivT w E ∧ ivZ w K S
theorem cnF_le {f : Nat → Int32} : ∀ n, cnF f n ≤ n := by
  intro n
  induction n with
  | zero => exact Nat.le_refl _
  | succ n ih =>
    unfold cnF
    split <;> omega
theorem cnF_c {f g : Nat → Int32} : ∀ n, (∀ r, r < n → f r = g r) → cnF f n = cnF g n := by
  intro n
  induction n with
  | zero => intro _; rfl
  | succ n ih =>
    intro h
    unfold cnF
    rw [h n (by omega), ih (fun r hr => h r (by omega))]
theorem cnF_off {f g : Nat → Int32} {s : Nat} (hg : g s = -5) (hf : f s ≠ -5) (h : ∀ r, r ≠ s → f r = g r) : ∀ n, s < n → cnF g n + 1 = cnF f n := by
  intro n
  induction n with
  | zero => intro h; omega
  | succ n ih =>
    intro hs
    unfold cnF
    by_cases e : s = n
    · subst e
      rw [if_pos hg, if_neg hf, cnF_c (f := f) (g := g) s (fun r hr => h r (by omega))]
    · have := ih (by omega)
      rw [h n (fun q => e q.symm)]
      omega
theorem cnF_lt {f : Nat → Int32} {s : Nat} (hf : f s = -5) : ∀ n, s < n → cnF f n < n := by
  intro n
  induction n with
  | zero => intro h; omega
  | succ n ih =>
    intro hs
    unfold cnF
    by_cases e : s = n
    · subst e
      rw [if_pos hf]
      have := cnF_le (f := f) s
      omega
    · have := ih (by omega)
      split <;> omega
theorem oN_m5 {n : Nat} (h : n < 2 ^ 31) : oN n ≠ -5 := by
  intro q
  have h1 := oN_toInt h
  rw [q] at h1
  have h2 : (-5 : Int32).toInt = -5 := rfl
  omega
theorem bit_ti (s : Int32) (c : Nat) : 0 ≤ (bit s c).toInt ∧ (bit s c).toInt ≤ 1 := by
  rcases bit_01 s c with h | h
  · rw [h]; exact ⟨by decide, by decide⟩
  · rw [h]; exact ⟨by decide, by decide⟩
theorem ti_add {x y : Int32} (h1 : -2000000000 ≤ x.toInt + y.toInt) (h2 : x.toInt + y.toInt ≤ 2000000000) : (x + y).toInt = x.toInt + y.toInt := by
  rw [Int32.toInt_add, Int.bmod_eq_of_le (by omega) (by omega)]
theorem ti_sub {x y : Int32} (h1 : -2000000000 ≤ x.toInt - y.toInt) (h2 : x.toInt - y.toInt ≤ 2000000000) : (x - y).toInt = x.toInt - y.toInt := by
  rw [Int32.toInt_sub, Int.bmod_eq_of_le (by omega) (by omega)]
theorem ti_neg {x : Int32} (h1 : -2000000000 ≤ x.toInt) (h2 : x.toInt ≤ 2000000000) : (-x).toInt = -x.toInt := by
  rw [Int32.toInt_neg, Int.bmod_eq_of_le (by omega) (by omega)]
/-- a row of the hires behind an end -/
def rwQ (P r : Nat) : Nat := if r < P then r else r + 1
theorem end_row {w w' : HV} {P O : Nat} (hO : O ≤ 10) (c5 : ∀ t, w' 5 t = if P * 7 ≤ t ∧ t + 7 < 70 then w 5 (t + 7) else w 5 t) {r c : Nat} (hr : r < O - 1) (hc : c < 7) : w' 5 (r * 7 + c) = w 5 (rwQ P r * 7 + c) := by
  unfold rwQ
  rw [c5]
  by_cases h : r < P
  · rw [if_neg (by omega), if_pos h]
  · rw [if_pos (by omega), if_neg h, show r * 7 + c + 7 = (r + 1) * 7 + c by omega]
set_option maxHeartbeats 1000000 in
theorem end_ivt {w : HV} {T K S N O E b P W : Nat} {mis : Int32} (h : Ivt w T K S N O E b P) (hP : P < O) (hW : W < 3) : Ivt (enH w (oN P) (oN W) mis) T K S N (O - 1) (E + 1) b 100 := by
  obtain ⟨⟨a0, a1, a2, a3, a4, a5, a7⟩, ⟨b1, b2, b3, b4, b5⟩, hc, hH, hD, hN, hT, hZ⟩ := h
  have hO : O ≤ 10 := by have := cnF_le (f := fun r => w 3 (r * 4 + 2)) S; omega
  obtain ⟨kP, sP, nP, q1, q2, q3, q4, q5, q6, q7, q8, q9, -, -⟩ := hH P hP
  obtain ⟨c0, c1, c2, c3, c4, c5, c6, c7, c8⟩ := enH_at (mis := mis) (show P < 10 by omega) (show kP < 16 by omega) (show sP < 10 by omega) hW (show E < 256 by omega) q4 q5 a5
  have hrow : ∀ {r c : Nat}, r < O - 1 → c < 7 → enH w (oN P) (oN W) mis 5 (r * 7 + c) = w 5 (rwQ P r * 7 + c) := fun hr hc => end_row hO c5 hr hc
  have hq : ∀ {r}, r < O - 1 → rwQ P r < O ∧ rwQ P r ≠ P := by
    intro r hr
    unfold rwQ
    split <;> omega
  have hne : ∀ {q n}, q < O → q ≠ P → w 5 (q * 7 + 6) = oN n → oN n ≠ oN nP := by
    intro q n h1 h2 h3 h4
    exact h2 (hD q h1 P hP (by rw [h3, q6, h4]))
  have hmod : ∀ c, c < 6 → (c * 3 + 0) % 3 = 0 ∧ (c * 3 + 1) % 3 = 1 ∧ (c * 3 + 2) % 3 = 2 ∧ (c * 3 + 0) / 3 = c ∧ (c * 3 + 1) / 3 = c ∧ (c * 3 + 2) / 3 = c := by intro c _; omega
  refine ⟨⟨?_, ?_, ?_, ?_, ?_, ?_, ?_⟩, ⟨b1, b2, b3, b4, by omega⟩, ?_, ?_, ?_, ?_, ?_, ?_, ?_⟩
  · rw [c8, if_neg (by decide), if_neg (by decide)]; exact a0
  · rw [c8, if_neg (by decide), if_neg (by decide)]; exact a1
  · rw [c8, if_neg (by decide), if_neg (by decide)]; exact a2
  · rw [c8, if_neg (by decide), if_neg (by decide)]; exact a3
  · rw [c8, if_pos rfl, a4, show (1 : Int32) = oN 1 from rfl, oN_sub (by omega)]
  · rw [c8, if_neg (by decide), if_pos rfl, a5, oN_succ]
  · rw [c8, if_neg (by decide), if_neg (by decide)]; exact a7
  · have h1 := cnF_off (f := fun r => w 3 (r * 4 + 2)) (g := fun r => enH w (oN P) (oN W) mis 3 (r * 4 + 2)) (s := sP) (by show enH w (oN P) (oN W) mis 3 (sP * 4 + 2) = -5; rw [c3, if_pos rfl]) (by show w 3 (sP * 4 + 2) ≠ -5; rw [q7]; exact oN_m5 (by omega)) (fun r hr => by
      show w 3 (r * 4 + 2) = enH w (oN P) (oN W) mis 3 (r * 4 + 2)
      rw [c3, if_neg (by omega)]) S q2
    omega
  · intro r hr
    obtain ⟨h1, h2⟩ := hq hr
    obtain ⟨k, s, n, p1, p2, p3, p4, p5, p6, p7, p8, p9, pA, pB⟩ := hH _ h1
    have hn := hne h1 h2 p6
    have hk : k ≠ kP := fun e => hn (by rw [← p8, ← q8, e])
    have hs : s ≠ sP := fun e => hn (by rw [← p7, ← q7, e])
    refine ⟨k, s, n, p1, p2, p3, by rw [hrow hr (by decide)]; exact p4, by rw [hrow hr (by decide)]; exact p5, by rw [hrow hr (by decide)]; exact p6, by rw [c3, if_neg (by omega)]; exact p7, by rw [c2, if_neg (by omega), if_neg (by omega)]; exact p8, by rw [c2, if_neg (by omega), if_neg (by omega)]; exact p9, by rw [hrow hr (by decide)]; exact pA, fun _ => ?_⟩
    obtain ⟨l, l1, l2, l3⟩ := pB h2
    exact ⟨l, l1, l2, by rw [hrow hr (by decide)]; exact l3⟩
  · intro r hr q hq' he
    rw [hrow hr (by decide), hrow hq' (by decide)] at he
    have := hD _ (hq hr).1 _ (hq hq').1 he
    unfold rwQ at this
    split at this <;> split at this <;> omega
  · intro k hk
    by_cases e : k = kP
    · left
      rw [c2, if_pos (by omega)]
    · rcases hN k hk with h | ⟨r, hr, h⟩
      · left
        rw [c2, if_neg (by omega), if_neg (by omega)]
        exact h
      · right
        have hrP : r ≠ P := by
          intro q
          subst q
          rw [q4] at h
          exact e (oN_inj (by omega) (by omega) h).symm
        by_cases hlt : r < P
        · refine ⟨r, by omega, ?_⟩
          rw [hrow (by omega) (by decide)]
          unfold rwQ
          rw [if_pos hlt]
          exact h
        · refine ⟨r - 1, by omega, ?_⟩
          rw [hrow (by omega) (by decide)]
          unfold rwQ
          rw [if_neg (by omega), show r - 1 + 1 = r by omega]
          exact h
  · intro c hc
    obtain ⟨m0, m1, m2, d0, d1, d2⟩ := hmod c hc
    obtain ⟨t0, t1, t2, t3⟩ := hT c hc
    rw [c4 _ (by omega), c4 _ (by omega), c4 _ (by omega)]
    unfold etF
    rw [m0, m1, m2, d0, d1, d2]
    simp only [if_pos, show ¬ (0 : Nat) = 1 by decide, show ¬ (2 : Nat) = 1 by decide, show ¬ (2 : Nat) = 0 by decide, if_false]
    obtain ⟨x1, x2⟩ := bit_ti (w 5 (P * 7 + 4) &&& (mis ^^^ -1)) c
    obtain ⟨y1, y2⟩ := bit_ti mis c
    have nx := ti_neg (x := bit (w 5 (P * 7 + 4) &&& (mis ^^^ -1)) c) (by omega) (by omega)
    have ny := ti_neg (x := bit mis c) (by omega) (by omega)
    rw [ti_add (x := w 4 (c * 3 + 0)) (by omega) (by omega), ti_add (x := w 4 (c * 3 + 2)) (by omega) (by omega)]
    have e1 := ti_add (x := w 4 (c * 3 + 1)) (y := -bit (w 5 (P * 7 + 4) &&& (mis ^^^ -1)) c) (by omega) (by omega)
    rw [ti_add (x := w 4 (c * 3 + 1) + -bit (w 5 (P * 7 + 4) &&& (mis ^^^ -1)) c) (by omega) (by omega), e1, nx, ny]
    refine ⟨by omega, by omega, by omega, by omega⟩
  · intro k h1 h2
    rw [c2, c2, c2, if_neg (by omega), if_neg (by omega), if_neg (by omega), if_neg (by omega), if_neg (by omega), if_neg (by omega)]
    exact hZ.1 k h1 h2
  · intro r h1 h2
    rw [c3, c3, if_neg (by omega), if_neg (by omega)]
    exact hZ.2 r h1 h2

theorem Ivt_c {w w2 : HV} {T K S N O E b b2 P P2 : Nat} (h : Ivt w T K S N O E b P) (e8 : ∀ t, t < 6 → w2 8 t = w 8 t) (hb : sm (w2 8 7) b2) (e3 : ∀ r, r < 10 → w2 3 (r * 4 + 2) = w 3 (r * 4 + 2)) (e2 : ∀ k, k < 16 → w2 2 (k * 8 + 7) = w 2 (k * 8 + 7) ∧ w2 2 (k * 8 + 0) = w 2 (k * 8 + 0))
    (e5 : ∀ r, r < 10 → w2 5 (r * 7 + 0) = w 5 (r * 7 + 0) ∧ w2 5 (r * 7 + 1) = w 5 (r * 7 + 1) ∧ w2 5 (r * 7 + 4) = w 5 (r * 7 + 4) ∧ w2 5 (r * 7 + 6) = w 5 (r * 7 + 6)) (e53 : ∀ r, r < O → r ≠ P2 → r ≠ P ∧ w2 5 (r * 7 + 3) = w 5 (r * 7 + 3)) (e4 : w2 4 = w 4)
    (z2 : ∀ k, K ≤ k → k < 16 → w2 2 (k * 8 + 5) = w 2 (k * 8 + 5) ∧ w2 2 (k * 8 + 6) = w 2 (k * 8 + 6)) (z3 : ∀ r, S ≤ r → r < 10 → w2 3 (r * 4 + 1) = w 3 (r * 4 + 1) ∧ w2 3 (r * 4 + 3) = w 3 (r * 4 + 3)) : Ivt w2 T K S N O E b2 P2 := by
  obtain ⟨⟨a0, a1, a2, a3, a4, a5, a7⟩, ⟨b1, b2, b3, b4, b5⟩, hc, hH, hD, hN, hT, hZ⟩ := h
  have hO : O ≤ 10 := by have := cnF_le (f := fun r => w 3 (r * 4 + 2)) S; omega
  refine ⟨⟨(e8 0 (by decide)).trans a0, (e8 1 (by decide)).trans a1, (e8 2 (by decide)).trans a2, (e8 3 (by decide)).trans a3, (e8 4 (by decide)).trans a4, (e8 5 (by decide)).trans a5, hb⟩, ⟨b1, b2, b3, b4, b5⟩, ?_, ?_, ?_, ?_, ?_, ?_, ?_⟩
  · rw [cnF_c (f := fun r => w2 3 (r * 4 + 2)) (g := fun r => w 3 (r * 4 + 2)) S (fun r hr => e3 r (by omega))]; exact hc
  · intro r hr
    obtain ⟨k, s, n, p1, p2, p3, p4, p5, p6, p7, p8, p9, pA, pB⟩ := hH r hr
    obtain ⟨f0, f1, f4, f6⟩ := e5 r (by omega)
    refine ⟨k, s, n, p1, p2, p3, f0.trans p4, f1.trans p5, f6.trans p6, (e3 s (by omega)).trans p7, (e2 k (by omega)).1.trans p8, (e2 k (by omega)).2.trans p9, by rw [f4]; exact pA, fun hr2 => ?_⟩
    obtain ⟨g1, g2⟩ := e53 r hr hr2
    rw [g2]
    exact pB g1
  · intro r hr q hq he
    rw [(e5 r (by omega)).2.2.2, (e5 q (by omega)).2.2.2] at he
    exact hD r hr q hq he
  · intro k hk
    rw [(e2 k (by omega)).1]
    rcases hN k hk with h | ⟨r, hr, h⟩
    · exact Or.inl h
    · exact Or.inr ⟨r, hr, (e5 r (by omega)).1.trans h⟩
  · intro c hc
    rw [e4]
    exact hT c hc
  · intro k h1 h2
    obtain ⟨y1, y2, y3⟩ := hZ.1 k h1 h2
    exact ⟨(e2 k h2).2.trans y1, (z2 k h1 h2).1.trans y2, (z2 k h1 h2).2.trans y3⟩
  · intro r h1 h2
    obtain ⟨y1, y2⟩ := hZ.2 r h1 h2
    exact ⟨(z3 r h1 h2).1.trans y1, (z3 r h1 h2).2.trans y2⟩
theorem Ivt_p {w : HV} {T K S N O E b P : Nat} (h : Ivt w T K S N O E b P) (hl : ∃ l, 1 ≤ l ∧ l ≤ 12 ∧ w 5 (P * 7 + 3) = oN l) : Ivt w T K S N O E b 100 := by
  obtain ⟨h8, hB, hc, hH, hD, hN, hT, hZ⟩ := h
  refine ⟨h8, hB, hc, fun r hr => ?_, hD, hN, hT, hZ⟩
  obtain ⟨k, s, n, p1, p2, p3, p4, p5, p6, p7, p8, p9, pA, pB⟩ := hH r hr
  refine ⟨k, s, n, p1, p2, p3, p4, p5, p6, p7, p8, p9, pA, fun _ => ?_⟩
  by_cases e : r = P
  · rw [e]; exact hl
  · exact pB e
theorem Ivt_O {w : HV} {T K S N O E b P : Nat} (h : Ivt w T K S N O E b P) : O ≤ 10 ∧ E < 256 ∧ S ≤ 10 := by
  obtain ⟨-, ⟨b1, b2, b3, b4, b5⟩, hc, -⟩ := h
  have := cnF_le (f := fun r => w 3 (r * 4 + 2)) S
  omega
theorem Ivt_b {w : HV} {T K S N O E b b2 P : Nat} (h : Ivt w T K S N O E b P) (hb : b ≤ b2) : Ivt w T K S N O E b2 P := by
  obtain ⟨⟨a0, a1, a2, a3, a4, a5, a7⟩, r⟩ := h
  exact ⟨⟨a0, a1, a2, a3, a4, a5, sm_mono a7 hb⟩, r⟩
theorem Ivt_T {w : HV} {T K S N O E b P T2 : Nat} (h : Ivt w T K S N O E b P) (hT : T2 ≤ 1000) : Ivt (up2 w 8 0 (oN T2)) T2 K S N O E b P := by
  obtain ⟨⟨a0, a1, a2, a3, a4, a5, a7⟩, ⟨b1, b2, b3, b4, b5⟩, hc, hH, hD, hN, hTl, hZ⟩ := h
  have e : ∀ k : Fin 9, k ≠ 8 → up2 w 8 0 (oN T2) k = w k := fun k h => up2_kn h
  refine ⟨⟨by rw [u2k, if_pos rfl], by rw [u2k, if_neg (by decide)]; exact a1, by rw [u2k, if_neg (by decide)]; exact a2, by rw [u2k, if_neg (by decide)]; exact a3, by rw [u2k, if_neg (by decide)]; exact a4, by rw [u2k, if_neg (by decide)]; exact a5, by rw [u2k, if_neg (by decide)]; exact a7⟩, ⟨hT, b2, b3, b4, b5⟩, ?_, ?_, ?_, ?_, ?_, ?_, ?_⟩
  · rw [e 3 (by decide)]; exact hc
  · unfold ivH; rw [e 5 (by decide), e 3 (by decide), e 2 (by decide)]; exact hH
  · unfold ivD; rw [e 5 (by decide)]; exact hD
  · unfold ivN; rw [e 5 (by decide), e 2 (by decide)]; exact hN
  · unfold ivT; rw [e 4 (by decide)]; exact hTl
  · rw [e 2 (by decide)]; exact hZ.1
  · rw [e 3 (by decide)]; exact hZ.2
theorem Ivt_w {w w2 : HV} {T K S N O E b P : Nat} (e : InR w2 w) (h : Ivt w T K S N O E b P) : Ivt w2 T K S N O E b P := by
  obtain ⟨hO, hE, hS⟩ := Ivt_O h
  obtain ⟨⟨a0, a1, a2, a3, a4, a5, a7⟩, ⟨b1, b2, b3, b4, b5⟩, hc, hH, hD, hN, hT, hZ⟩ := h
  have e2 : ∀ k c, k < 16 → c < 8 → w2 2 (k * 8 + c) = w 2 (k * 8 + c) := fun k c h1 h2 => e 2 _ (show k * 8 + c < 128 by omega)
  have e3 : ∀ k c, k < 10 → c < 4 → w2 3 (k * 4 + c) = w 3 (k * 4 + c) := fun k c h1 h2 => e 3 _ (show k * 4 + c < 40 by omega)
  have e4 : ∀ k c, k < 6 → c < 3 → w2 4 (k * 3 + c) = w 4 (k * 3 + c) := fun k c h1 h2 => e 4 _ (show k * 3 + c < 18 by omega)
  have e5 : ∀ k c, k < 10 → c < 7 → w2 5 (k * 7 + c) = w 5 (k * 7 + c) := fun k c h1 h2 => e 5 _ (show k * 7 + c < 70 by omega)
  have e8 : ∀ c, c < 8 → w2 8 c = w 8 c := fun c h => e 8 c (show c < 8 from h)
  refine ⟨⟨(e8 0 (by decide)).trans a0, (e8 1 (by decide)).trans a1, (e8 2 (by decide)).trans a2, (e8 3 (by decide)).trans a3, (e8 4 (by decide)).trans a4, (e8 5 (by decide)).trans a5, by rw [e8 7 (by decide)]; exact a7⟩, ⟨b1, b2, b3, b4, b5⟩, ?_, ?_, ?_, ?_, ?_, ?_, ?_⟩
  · rw [cnF_c (f := fun r => w2 3 (r * 4 + 2)) (g := fun r => w 3 (r * 4 + 2)) S (fun r hr => e3 r 2 (by omega) (by decide))]; exact hc
  · intro r hr
    obtain ⟨k, s, n, p1, p2, p3, p4, p5, p6, p7, p8, p9, pA, pB⟩ := hH r hr
    refine ⟨k, s, n, p1, p2, p3, ?_, ?_, ?_, ?_, ?_, ?_, ?_, ?_⟩
    · rw [e5 r 0 (by omega) (by decide)]; exact p4
    · rw [e5 r 1 (by omega) (by decide)]; exact p5
    · rw [e5 r 6 (by omega) (by decide)]; exact p6
    · rw [e3 s 2 (by omega) (by decide)]; exact p7
    · rw [e2 k 7 (by omega) (by decide)]; exact p8
    · rw [e2 k 0 (by omega) (by decide)]; exact p9
    · rw [e5 r 4 (by omega) (by decide)]; exact pA
    · rw [e5 r 3 (by omega) (by decide)]; exact pB
  · intro r hr q hq he
    rw [e5 r 6 (by omega) (by decide), e5 q 6 (by omega) (by decide)] at he
    exact hD r hr q hq he
  · intro k hk
    rw [e2 k 7 (by omega) (by decide)]
    rcases hN k hk with h | ⟨r, hr, h⟩
    · exact Or.inl h
    · exact Or.inr ⟨r, hr, by rw [e5 r 0 (by omega) (by decide)]; exact h⟩
  · intro c hc
    rw [e4 c 0 hc (by decide), e4 c 1 hc (by decide), e4 c 2 hc (by decide)]
    exact hT c hc
  · intro k h1 h2
    rw [e2 k 0 h2 (by decide), e2 k 5 h2 (by decide), e2 k 6 h2 (by decide)]
    exact hZ.1 k h1 h2
  · intro r h1 h2
    rw [e3 r 1 h2 (by decide), e3 r 3 h2 (by decide)]
    exact hZ.2 r h1 h2
theorem Ivt_k {w w2 : HV} {T K S N O E b P : Nat} (h : Ivt w T K S N O E b P) (e2 : w2 2 = w 2) (e3 : w2 3 = w 3) (e5 : w2 5 = w 5) (e8 : w2 8 = w 8) (hT : ivT w2 E) : Ivt w2 T K S N O E b P := by
  obtain ⟨h8, hB, hc, hH, hD, hN, hTl, hZ⟩ := h
  refine ⟨?_, hB, ?_, ?_, ?_, ?_, hT, ?_, ?_⟩
  · unfold iv8; rw [e8]; exact h8
  · rw [e3]; exact hc
  · unfold ivH; rw [e5, e3, e2]; exact hH
  · unfold ivD; rw [e5]; exact hD
  · unfold ivN; rw [e5, e2]; exact hN
  · rw [e2]; exact hZ.1
  · rw [e3]; exact hZ.2
theorem ivT_e {w w2 : HV} {E : Nat} (e : w2 4 = w 4) (h : ivT w E) : ivT w2 E := by unfold ivT; rw [e]; exact h
