/-! PURE: counts, reasons, what would be -/
theorem exF_iff {p : Nat → Bool} : ∀ (k r : Nat), exF p r k = true ↔ ∃ i, r ≤ i ∧ i < r + k ∧ p i = true := by
  intro k
  induction k with
  | zero => intro r; exact ⟨fun h => (by cases h), fun ⟨i, h1, h2, _⟩ => by omega⟩
  | succ k ih =>
    intro r
    unfold exF
    rw [Bool.or_eq_true, ih]
    constructor
    · rintro (h | ⟨i, h1, h2, h3⟩)
      · exact ⟨r, Nat.le_refl _, by omega, h⟩
      · exact ⟨i, by omega, by omega, h3⟩
    · rintro ⟨i, h1, h2, h3⟩
      by_cases e : i = r
      · rw [e] at h3; exact Or.inl h3
      · exact Or.inr ⟨i, by omega, by omega, h3⟩
theorem orF_iff {p : Nat → Bool} : ∀ (k r : Nat) (d : Bool), orF p r k d = true ↔ d = true ∨ ∃ i, r ≤ i ∧ i < r + k ∧ p i = true := by
  intro k
  induction k with
  | zero => intro r d; exact ⟨Or.inl, fun h => h.elim id (fun ⟨i, h1, h2, _⟩ => by omega)⟩
  | succ k ih =>
    intro r d
    unfold orF
    rw [ih, Bool.or_eq_true]
    constructor
    · rintro ((h | h) | ⟨i, h1, h2, h3⟩)
      · exact Or.inl h
      · exact Or.inr ⟨r, Nat.le_refl _, by omega, h⟩
      · exact Or.inr ⟨i, by omega, by omega, h3⟩
    · rintro (h | ⟨i, h1, h2, h3⟩)
      · exact Or.inl (Or.inl h)
      · by_cases e : i = r
        · rw [e] at h3; exact Or.inl (Or.inr h3)
        · exact Or.inr ⟨i, by omega, by omega, h3⟩
section
variable {w v : HV} {T K S N O E b : Nat}
theorem g_0 (h : Rel w (v 1) S O E 100) (i : Ivt w T K S N O E b 100) : v 1 0 = oN T ∧ v 1 6 = oN K ∧ v 1 7 = oN S ∧ v 1 16 = oN O ∧ T ≤ 1000 ∧ K ≤ 16 ∧ S ≤ 10 ∧ O ≤ 10 := by
  obtain ⟨hO, hE, hS⟩ := Ivt_O i
  exact ⟨h.1.1.trans i.1.1, h.1.2.2.1.trans i.1.2.1, h.1.2.2.2.1.trans i.1.2.2.1, h.1.2.2.2.2.2.2.2.2.trans i.1.2.2.2.2.1, i.2.1.1, i.2.1.2.1, hS, hO⟩
theorem tw_n {k n : Nat} (hk : k < 16) (hn : n < 1000) : tooWP w (oN k) (oN n) ↔ (w 2 (k * 8 + 2) < w 0 n ∨ ¬ w 0 n < w 1 0) := by
  unfold tooWP
  rw [kt_2 hk, wi_n hn, se_0]
  exact ⟨fun q => q.2, fun q => ⟨by show oN n < oN 1000; rw [oN_lt (by omega) (by decide)]; exact hn, q⟩⟩
theorem tw_o {k : Int32} {n : Nat} (hn : 1000 ≤ n) (hn2 : n < 100000) : ¬ tooWP w k (oN n) := by
  intro q
  have := q.1
  change oN n < oN 1000 at this
  rw [oN_lt (by omega) (by decide)] at this
  omega
theorem tc_n {k n : Nat} (hk : k < 16) (hn : n < 1000) : tooCP w (oN k) (oN n) ↔ w 0 n < w 2 (k * 8 + 1) := by
  unfold tooCP
  rw [kt_1 hk, wi_n hn]
  exact ⟨fun q => q.2, fun q => ⟨by show oN n < oN 1000; rw [oN_lt (by omega) (by decide)]; exact hn, q⟩⟩
theorem ukn (h : Rel w (v 1) S O E 100) {k c : Nat} (hk : k < 16) (hc : c < 7) : uk v (oN k) (oN c) = w 2 (k * 8 + c) := by
  show v 1 (1017 + 7 * oN k + oN c).toNatClampNeg = _
  rw [adK (by omega) (by omega)]
  exact h.2.2.1 k hk c hc
theorem usn (h : Rel w (v 1) S O E 100) {k c : Nat} (hk : k < 10) (hc : c < 4) : us v (oN k) (oN c) = w 3 (k * 4 + c) := by
  show v 1 (1129 + 4 * oN k + oN c).toNatClampNeg = _
  rw [adS (by omega) (by omega), show 1129 + 4 * k + c = 1129 + (k * 4 + c) by omega]
  exact h.2.2.2.1 _ (by omega)
theorem tm_n (h : Rel w (v 1) S O E 100) {k n : Nat} (hk : k < 16) (hn : n < 1000) : tmP v (oN k) (v 1 (17 + n)) ↔ (w 2 (k * 8 + 2) < w 0 n ∨ ¬ w 0 n < w 1 0) := by
  have e1 : uk v (oN k) 2 = w 2 (k * 8 + 2) := ukn (c := 2) h hk (by decide)
  have e2 : v 1 1 = w 1 0 := h.1.2.1 0 (by decide)
  have e3 : v 1 (17 + n) = w 0 n := h.2.1 n hn
  unfold tmP
  rw [e1, e2, e3]
theorem fl_n (h : Rel w (v 1) S O E 100) {k n : Nat} (hk : k < 16) (hn : n < 1000) : flP v (oN k) (v 1 (17 + n)) ↔ ¬ tooWP w (oN k) (oN n) ∧ ¬ tooCP w (oN k) (oN n) := by
  unfold flP
  have e1 : uk v (oN k) 1 = w 2 (k * 8 + 1) := ukn (c := 1) h hk (by decide)
  have e3 : v 1 (17 + n) = w 0 n := h.2.1 n hn
  rw [tm_n h hk hn, tw_n hk hn, tc_n hk hn, e1, e3]
theorem called_ok (h : Rel w (v 1) S O E 100) {k f hn : Nat} (hk : k < 16) (hf : f ≤ 1000) (hh : hn ≤ 12) : (exF (fun a => decide (tooWP w (oN k) (oN f + oN a))) 0 hn = true) ↔ (icF v (oN k) (oN f) (oN hn) = true) := by
  unfold icF
  rw [exF_iff, orF_iff, oN_nat (by omega), oN_nat (by omega)]
  constructor
  · rintro ⟨a, h1, h2, h3⟩
    right
    have h3 := of_decide_eq_true h3
    rw [oN_add] at h3
    have hlt : f + a < 1000 := by
      rcases Nat.lt_or_ge (f + a) 1000 with q | q
      · exact q
      · exact absurd h3 (tw_o q (by omega))
    exact ⟨f + a, by omega, by omega, decide_eq_true ((tm_n h hk hlt).mpr ((tw_n hk hlt).mp h3))⟩
  · rintro (q | ⟨r, h1, h2, h3⟩)
    · cases q
    · have h3 := of_decide_eq_true h3
      refine ⟨r - f, by omega, by omega, decide_eq_true ?_⟩
      rw [oN_add, show f + (r - f) = r by omega]
      exact (tw_n hk (by omega)).mpr ((tm_n h hk (by omega)).mp h3)
def gdS (w : HV) (S : Nat) (d : Int32) : Prop := d = -5 ∨ ∃ q, q < S ∧ d = oN q ∧ w 3 (q * 4 + 2) = -5
theorem spool_ok (h : Rel w (v 1) S O E 100) (hS : S ≤ 10) {m : Int32} : ∀ (k s : Nat) (d : Int32), s + k ≤ S → gdS w S d → spF w m s k d = sfF v m s k d ∧ gdS w S (spF w m s k d) := by
  have g4 : v 1 5 = w 1 4 := h.1.2.1 4 (by decide)
  intro k
  induction k with
  | zero =>
    intro s d hs hd
    exact ⟨rfl, hd⟩
  | succ k ih =>
    intro s d hs hd
    have s2 : sl w (oN s) 2 = w 3 (s * 4 + 2) := sl_2 (by omega)
    have s0 : sl w (oN s) 0 = w 3 (s * 4 + 0) := sl_0 (by omega)
    have s1 : sl w (oN s) 1 = w 3 (s * 4 + 1) := sl_1 (by omega)
    have t2 : us v (oN s) 2 = w 3 (s * 4 + 2) := usn (c := 2) h (by omega) (by decide)
    have t0 : us v (oN s) 0 = w 3 (s * 4 + 0) := usn (c := 0) h (by omega) (by decide)
    have t1 : us v (oN s) 1 = w 3 (s * 4 + 1) := usn (c := 1) h (by omega) (by decide)
    have key : (if (sl w (oN s) 2 = -5 ∧ ¬ sl w (oN s) 0 < m + settg w 4) ∧ (d = -5 ∨ (sl w (oN s) 0 < sl w d 0 ∨ (sl w (oN s) 0 = sl w d 0 ∧ sl w (oN s) 1 < sl w d 1))) then oN s else d) = sfB v m s d := by
      unfold sfB
      rw [s2, s0, s1, t2, t0, t1, se_4, g4]
      by_cases p1 : w 3 (s * 4 + 2) = -5 ∧ ¬ w 3 (s * 4 + 0) < m + w 1 4
      · rw [if_pos p1]
        rcases hd with hd | ⟨q, hq, hd, -⟩
        · rw [if_pos ⟨p1, Or.inl hd⟩, if_pos hd]
        · subst hd
          have y0 : sl w (oN q) 0 = us v (oN q) 0 := (sl_0 (by omega)).trans (usn (c := 0) h (by omega) (by decide)).symm
          have y1 : sl w (oN q) 1 = us v (oN q) 1 := (sl_1 (by omega)).trans (usn (c := 1) h (by omega) (by decide)).symm
          rw [if_neg (oN_m5 (by omega)), y0, y1]
          by_cases p2 : w 3 (s * 4 + 0) < us v (oN q) 0 ∨ (w 3 (s * 4 + 0) = us v (oN q) 0 ∧ w 3 (s * 4 + 1) < us v (oN q) 1)
          · rw [if_pos ⟨p1, Or.inr p2⟩, if_pos p2]
          · rw [if_neg (fun z => z.2.elim (oN_m5 (by omega)) p2), if_neg p2]
      · rw [if_neg (fun z => p1 z.1), if_neg p1]
    have hg : gdS w S (sfB v m s d) := by
      unfold sfB
      rw [t2]
      split
      · rename_i p1
        split
        · exact Or.inr ⟨s, by omega, rfl, p1.1⟩
        · split
          · exact Or.inr ⟨s, by omega, rfl, p1.1⟩
          · exact hd
      · exact hd
    unfold spF sfF
    rw [key]
    exact ih (s + 1) (sfB v m s d) (by omega) hg
theorem lacks_ok (h : Rel w (v 1) S O E 100) (i : Ivt w T K S N O E b 100) (s : Int32) : (exF (fun c => decide (bit s c = 1 ∧ ¬ 0 < w 4 (c * 3))) 0 6 = true) ↔ (ltF v s = true) := by
  have hT := i.2.2.2.2.2.2.1
  have key : ∀ c, c < 6 → ((¬ 0 < w 4 (c * 3)) ↔ ut v (oN c) 0 = 0) := by
    intro c hc
    have e : ut v (oN c) 0 = w 4 (c * 3) := by
      show v 1 (1169 + 3 * oN c + 0).toNatClampNeg = _
      rw [adT_0 (by omega), show 1169 + 3 * c + 0 = 1169 + c * 3 by omega]
      exact h.2.2.2.2.1 _ (by omega)
    rw [e, Int32.lt_iff_toInt_lt]
    have h0 : (0 : Int32).toInt = 0 := rfl
    have h1 : 0 ≤ (w 4 (c * 3)).toInt := (hT c hc).1
    rw [h0]
    constructor
    · intro q
      apply Int32.toInt_inj.mp
      omega
    · intro q
      rw [q]
      omega
  unfold ltF
  rw [exF_iff, orF_iff]
  constructor
  · rintro ⟨c, h1, h2, h3⟩
    have h3 := of_decide_eq_true h3
    exact Or.inr ⟨c, h1, h2, decide_eq_true ⟨h3.1, (key c (by omega)).mp h3.2⟩⟩
  · rintro (q | ⟨c, h1, h2, h3⟩)
    · cases q
    · have h3 := of_decide_eq_true h3
      exact ⟨c, h1, h2, decide_eq_true ⟨h3.1, (key c (by omega)).mpr h3.2⟩⟩
theorem ref_ok (h : Rel w (v 1) S O E 100) (i : Ivt w T K S N O E b 100) {r hn : Nat} (hr : r < 16) (hh : hn ≤ 12) (m t : Int32) : refu w (oN r) m (oN hn) t = rnM v (oN r) m (oN hn) t := by
  obtain ⟨e0, e6, e7, e16, hT, hK, hS, hO⟩ := g_0 h i
  have e80 : w 8 0 = oN T := i.1.1
  have e82 : w 8 2 = oN S := i.1.2.2.1
  have k0 : uk v (oN r) 0 = kt w (oN r) 0 := (ukn (c := 0) h hr (by decide)).trans (kt_0 hr).symm
  have hc := called_ok h (f := T) hr hT hh
  have hs := (spool_ok h hS (m := m) S 0 (-5) (by omega) (Or.inl rfl)).1
  have hl := lacks_ok h i t
  have eS : (w 8 2).toNatClampNeg = S := by rw [e82, oN_nat (by omega)]
  have eV : (v 1 7).toNatClampNeg = S := by rw [e7, oN_nat (by omega)]
  unfold refu rnM sfM
  rw [k0, e0, e80, eS, eV, hs, oN_nat (show hn < 2 ^ 31 by omega)]
  rcases Decidable.em (kt w (oN r) 0 = 0) with c1 | c1
  case inr => rw [if_neg c1, if_neg c1]
  rw [if_pos c1, if_pos c1]
  by_cases c2 : icF v (oN r) (oN T) (oN hn) = true
  · rw [if_pos c2, if_pos (hc.mpr c2)]
  rw [if_neg c2, if_neg (fun q => c2 (hc.mp q))]
  by_cases hT2 : T < 1000
  · rw [if_pos (show oN T < 1000 by show oN T < oN 1000; rw [oN_lt (by omega) (by decide)]; exact hT2)]
    have e1 : v 1 (17 + oN T).toNatClampNeg = w 0 T := by rw [adW (by omega)]; exact h.2.1 T hT2
    have e2 : uk v (oN r) 1 = w 2 (r * 8 + 1) := ukn (c := 1) h hr (by decide)
    rw [e1, e2]
    by_cases c3 : w 0 T < w 2 (r * 8 + 1)
    · rw [if_pos c3, if_pos ((tc_n hr hT2).mpr c3)]
    rw [if_neg c3, if_neg (fun q => c3 ((tc_n hr hT2).mp q))]
    by_cases c4 : sfF v m 0 S (-5) = -5
    · rw [if_pos c4, if_pos c4]
    rw [if_neg c4, if_neg c4]
    by_cases c5 : ltF v t = true
    · rw [if_pos c5, if_pos (hl.mpr c5)]
    rw [if_neg c5, if_neg (fun q => c5 (hl.mp q))]
  · rw [if_neg (show ¬ oN T < 1000 by show ¬ oN T < oN 1000; rw [oN_lt (by omega) (by decide)]; exact hT2)]
    rw [if_neg (fun q : tooCP w (oN r) (oN T) => hT2 (by have := q.1; change oN T < oN 1000 at this; rw [oN_lt (by omega) (by decide)] at this; exact this))]
    by_cases c4 : sfF v m 0 S (-5) = -5
    · rw [if_pos c4, if_pos c4]
    rw [if_neg c4, if_neg c4]
    by_cases c5 : ltF v t = true
    · rw [if_pos c5, if_pos (hl.mpr c5)]
    rw [if_neg c5, if_neg (fun q => c5 (hl.mp q))]
theorem loM_s {k m : Int32} : ∀ (n r : Nat) (d : Int32), loM v k m r (n + 1) d = if rnM v k m (oN (r + n)) 0 = 0 then oN (r + n) else loM v k m r n d := by
  intro n
  induction n with
  | zero => intro r d; rfl
  | succ n ih =>
    intro r d
    show loM v k m (r + 1) (n + 1) _ = _
    rw [ih, show r + 1 + n = r + (n + 1) by omega]
    rfl
theorem lg_ok (h : Rel w (v 1) S O E 100) (i : Ivt w T K S N O E b 100) {r : Nat} (hr : r < 16) (m : Int32) : ∀ n, n ≤ 12 → lgF w (oN r) m n = if loM v (oN r) m 1 n (-5) = -5 then 0 else loM v (oN r) m 1 n (-5) := by
  intro n
  induction n with
  | zero => intro _; rfl
  | succ n ih =>
    intro hn
    rw [loM_s]
    unfold lgF
    rw [ref_ok h i hr hn, show 1 + n = n + 1 by omega]
    by_cases c : rnM v (oN r) m (oN (n + 1)) 0 = 0
    · rw [if_pos c, if_pos c, if_neg (oN_m5 (by omega))]
    · rw [if_neg c, if_neg c]
      exact ih (by omega)
theorem lg_nn (h : Rel w (v 1) S O E 100) (i : Ivt w T K S N O E b 100) {r : Nat} (m : Int32) : ∀ n, n ≤ 12 → (loM v (oN r) m 1 n (-5) = -5 ∨ ∃ q, 1 ≤ q ∧ q ≤ 12 ∧ loM v (oN r) m 1 n (-5) = oN q) := by
  intro n
  induction n with
  | zero => intro _; exact Or.inl rfl
  | succ n ih =>
    intro hn
    rw [loM_s]
    split
    · exact Or.inr ⟨1 + n, by omega, by omega, rfl⟩
    · exact ih (by omega)
theorem hs_ok (h : Rel w (v 1) S O E 100) (e0 : w 8 0 = v 1 0) {k : Nat} (hk : k < 16) : ∀ (m n : Nat) (z : Int32), n + m = 1000 → hsF w (oN k) n m z = hsM v (oN k) n m z := by
  intro m
  induction m with
  | zero => intro n z _; rfl
  | succ m ih =>
    intro n z hn
    have e1 : v 1 (17 + n) = w 0 n := h.2.1 n (by omega)
    have e2 : uk v (oN k) 3 = w 2 (k * 8 + 3) := ukn (c := 3) h hk (by decide)
    have e3 : v 1 2 = w 1 1 := h.1.2.1 1 (by decide)
    have hf := fl_n h hk (show n < 1000 by omega)
    unfold hsF hsM
    by_cases c : flP v (oN k) (v 1 (17 + n))
    · rw [if_pos c, if_pos (hf.mp c), wi_n (show n < 1000 by omega), kt_3 hk, se_1, e2, e3, e0, e1, ih (n + 1) _ (by omega)]
    · rw [if_neg c, if_neg (fun q => c (hf.mpr q)), ih (n + 1) _ (by omega)]
end
theorem s_why (σ : SG) (k m h t : Int32) (hR : RG σ) : StI RG f_X_why f_M_why [.int k, .int m, .int h, .int t] σ := by
  obtain ⟨T, K, S, N, O, E, hr, i⟩ := id hR.1
  obtain ⟨e0, e6, e7, e16, hT, hK, hS, hO⟩ := g_0 hr i
  refine StI_of q_X_why (by rw [i.1.2.2.1]; exact sm_oN hS (by decide)) q_M_why ⟨by rw [e0]; exact sm_oN hT (by decide), by rw [e6]; exact sm_oN hK (by decide), by rw [e7]; exact sm_oN hS (by decide)⟩ ?_ hR
  unfold wyF wyM
  rw [i.1.2.1, e6]
  rcases Decidable.em (wi k 0 (oN K - 1)) with c1 | c1
  case inr => rw [if_neg c1, if_neg c1]
  rw [if_pos c1, if_pos c1]
  obtain ⟨r, hr2, rfl⟩ := wiK (by omega) c1
  by_cases c2 : ihP m h t
  · obtain ⟨d1, d2, d3⟩ := id c2
    rw [if_pos c2, if_pos d1, if_pos d2, if_pos d3]
    obtain ⟨hn, h1, h2, rfl⟩ := wi1 (n := 12) d2 (by decide)
    exact ref_ok hr i (by omega) h2 m t
  · rw [if_neg c2]
    by_cases d1 : wi m 1 300
    · rw [if_pos d1]
      by_cases d2 : wi h 1 12
      · rw [if_pos d2]
        by_cases d3 : wi t 0 63
        · exact absurd ⟨d1, d2, d3⟩ c2
        · rw [if_neg d3]
      · rw [if_neg d2]
    · rw [if_neg d1]
theorem s_longest (σ : SG) (k m : Int32) (hR : RG σ) : StI RG f_X_longest f_M_longest [.int k, .int m] σ := by
  obtain ⟨T, K, S, N, O, E, hr, i⟩ := id hR.1
  obtain ⟨e0, e6, e7, e16, hT, hK, hS, hO⟩ := g_0 hr i
  refine StI_of q_X_longest (by rw [i.1.2.2.1]; exact sm_oN hS (by decide)) q_M_longest ⟨by rw [e0]; exact sm_oN hT (by decide), by rw [e6]; exact sm_oN hK (by decide), by rw [e7]; exact sm_oN hS (by decide)⟩ ?_ hR
  unfold loF
  rw [i.1.2.1, e6]
  rcases Decidable.em (wi k 0 (oN K - 1)) with c1 | c1
  case inr => rw [if_neg c1, if_neg c1]
  rw [if_pos c1, if_pos c1]
  obtain ⟨r, hr2, rfl⟩ := wiK (by omega) c1
  by_cases c2 : wi m 1 300
  · rw [if_pos c2, if_pos c2, lg_ok hr i (by omega) m 12 (Nat.le_refl _)]
    rcases lg_nn hr i (r := r) m 12 (Nat.le_refl _) with z | ⟨q, h1, h2, z⟩
    · rw [z, if_pos rfl, if_neg (by decide)]
    · rw [z, if_neg (oN_m5 (by omega)), if_pos (by show oN 0 < oN q; rw [oN_lt (by decide) (by omega)]; omega)]
  · rw [if_neg c2, if_neg c2]
theorem s_dearest (σ : SG) (m : Int32) (hR : RG σ) : StI RG f_X_dearest f_M_dearest [.int m] σ := by
  obtain ⟨T, K, S, N, O, E, hr, i⟩ := id hR.1
  obtain ⟨e0, e6, e7, e16, hT, hK, hS, hO⟩ := g_0 hr i
  refine StI_of q_X_dearest ⟨by rw [i.1.2.1]; exact sm_oN hK (by decide), by rw [i.1.2.2.1]; exact sm_oN hS (by decide)⟩ q_M_dearest ⟨by rw [e0]; exact sm_oN hT (by decide), by rw [e6]; exact sm_oN hK (by decide), by rw [e7]; exact sm_oN hS (by decide)⟩ ?_ hR
  unfold drF
  rw [i.1.2.1, e6, oN_nat (show K < 2 ^ 31 by omega)]
  rcases Decidable.em (wi m 1 300) with c1 | c1
  case inr => rw [if_neg c1, if_neg c1]
  rw [if_pos c1, if_pos c1]
  have key : ∀ (n r : Nat) (d x : Int32), r + n = K → deF (σ 0) m r n d x = daM (σ 8) m r n d x := by
    intro n
    induction n with
    | zero => intro r d x _; rfl
    | succ n ih =>
      intro r d x hn
      have e4 : uk (σ 8) (oN r) 4 = σ 0 2 (r * 8 + 4) := ukn (c := 4) hr (by omega) (by decide)
      have ec : kt (σ 0) (oN r) 4 * lgF (σ 0) (oN r) m 12 = dcF (σ 8) m r := by
        rw [kt_4 (by omega), lg_ok hr i (by omega) m 12 (Nat.le_refl _)]
        show _ = if loM (σ 8) (oN r) m 1 12 (-5) = -5 then 0 else loM (σ 8) (oN r) m 1 12 (-5) * uk (σ 8) (oN r) 4
        rw [e4]
        by_cases z : loM (σ 8) (oN r) m 1 12 (-5) = -5
        · rw [if_pos z, if_pos z, Int32.mul_zero]
        · rw [if_neg z, if_neg z, Int32.mul_comm]
      unfold deF daM
      rw [ec]
      by_cases z : x < dcF (σ 8) m r
      · rw [if_pos z, if_pos z, if_pos z]
        exact ih (r + 1) _ _ (by omega)
      · rw [if_neg z, if_neg z, if_neg z]
        exact ih (r + 1) _ _ (by omega)
  exact key K 0 _ _ (Nat.zero_add _)
theorem s_snapsIn (σ : SG) (x : Int32) (hR : RG σ) : StI RG f_X_snapsIn f_M_snapsIn [.int x] σ := by
  obtain ⟨T, K, S, N, O, E, h, i⟩ := id hR.1
  obtain ⟨e0, e6, e7, e16, hT, hK, hS, hO⟩ := g_0 h i
  have e80 : σ 0 8 0 = oN T := i.1.1
  rcases row_ok h i x with ⟨h1, h2⟩ | ⟨P, hP, h1, h2, -⟩
  · refine StI_of q_X_snapsIn ⟨by rw [i.1.2.2.2.2.1]; exact sm_oN hO (by decide), by rw [e80]; exact sm_oN hT (by decide)⟩ q_M_snapsIn ⟨by rw [e0]; exact sm_oN hT (by decide), by rw [e16]; exact sm_oN hO (by decide), fun q => absurd h2 q⟩ ?_ hR
    unfold siF siM
    rw [h1, h2, if_pos (by decide), if_pos rfl]
  · obtain ⟨k, s, n, p1, p2, p3, p4, p5, p6, -⟩ := i.2.2.2.1 P hP
    have u1 : uh (σ 8) (oN P) 1 = oN k := by
      show σ 8 1 (1187 + 7 * oN P + 1).toNatClampNeg = _
      rw [adH_1 (by omega)]
      exact ((h.2.2.2.2.2.1 P hP).2 0 (by decide) (by omega)).trans p4
    have u2 : uh (σ 8) (oN P) 2 = oN s := by
      show σ 8 1 (1187 + 7 * oN P + 2).toNatClampNeg = _
      rw [adH_2 (by omega)]
      exact ((h.2.2.2.2.2.1 P hP).2 1 (by decide) (by omega)).trans p5
    refine StI_of q_X_snapsIn ⟨by rw [i.1.2.2.2.2.1]; exact sm_oN hO (by decide), by rw [e80]; exact sm_oN hT (by decide)⟩ q_M_snapsIn ⟨by rw [e0]; exact sm_oN hT (by decide), by rw [e16]; exact sm_oN hO (by decide), fun _ => ⟨by rw [h2, u1]; exact sm_oN (by omega) (by decide), by rw [h2, u2]; exact sm_oN (by omega) (by decide)⟩⟩ ?_ hR
    unfold siF siM
    rw [h1, h2, if_neg (by rw [oN_nn (by omega)]; exact id), if_neg (oN_m5 (by omega)), u1, u2, hr_0 (by omega), p4, hr_1 (by omega), p5, sl_1 (by omega), e80, e0, oN_nat (show T < 2 ^ 31 by omega)]
    have e1 : us (σ 8) (oN s) 1 = σ 0 3 (s * 4 + 1) := usn (c := 1) h (by omega) (by decide)
    rw [e1]
    exact hs_ok h (e80.trans e0.symm) (by omega) _ _ _ (by omega)
theorem s_flyable (σ : SG) (x : Int32) (hR : RG σ) : StI RG f_X_flyable f_M_flyable [.int x] σ := by
  obtain ⟨T, K, S, N, O, E, h, i⟩ := id hR.1
  obtain ⟨e0, e6, e7, e16, hT, hK, hS, hO⟩ := g_0 h i
  refine StI_of q_X_flyable (by rw [i.1.2.1]; exact sm_oN hK (by decide)) q_M_flyable (by rw [e6]; exact sm_oN hK (by decide)) ?_ hR
  unfold fyF
  rcases Decidable.em (wi x 0 999) with c1 | c1
  case inr => rw [if_neg c1, if_neg c1]
  rw [if_pos c1, if_pos c1]
  obtain ⟨j, hj, rfl⟩ := wiN (n := 999) c1 (by decide)
  rw [i.1.2.1, e6, oN_nat (show K < 2 ^ 31 by omega), adW (by omega)]
  have key : ∀ (n r : Nat) (d : Int32), r + n = K → flF (σ 0) (oN j) r n d = fyM (σ 8) (σ 8 1 (17 + j)) r n d := by
    intro n
    induction n with
    | zero => intro r d _; rfl
    | succ n ih =>
      intro r d hn
      have k0 : uk (σ 8) (oN r) 0 = kt (σ 0) (oN r) 0 := (ukn (c := 0) h (by omega) (by decide)).trans (kt_0 (by omega)).symm
      have hf := fl_n h (show r < 16 by omega) (show j < 1000 by omega)
      unfold flF fyM
      rw [k0]
      by_cases z : kt (σ 0) (oN r) 0 = 0 ∧ flP (σ 8) (oN r) (σ 8 1 (17 + j))
      · rw [if_pos z, if_pos ⟨z.1, hf.mp z.2⟩]
        exact ih (r + 1) _ (by omega)
      · rw [if_neg z, if_neg (fun q => z ⟨q.1, hf.mpr q.2⟩), Int32.or_zero]
        exact ih (r + 1) _ (by omega)
  exact key K 0 _ (Nat.zero_add _)
theorem s_next (σ : SG) (k h : Int32) (hR : RG σ) : StI RG f_X_next f_M_next [.int k, .int h] σ := by
  obtain ⟨T, K, S, N, O, E, hr, i⟩ := id hR.1
  obtain ⟨e0, e6, e7, e16, hT, hK, hS, hO⟩ := g_0 hr i
  refine StI_of q_X_next (by rw [i.1.1]; exact sm_oN hT (by decide)) q_M_next ⟨by rw [e0]; exact sm_oN hT (by decide), by rw [e6]; exact sm_oN hK (by decide)⟩ ?_ hR
  unfold neF neM
  rw [i.1.2.1, e6, i.1.1, e0, oN_nat (show T < 2 ^ 31 by omega)]
  rcases Decidable.em (wi k 0 (oN K - 1)) with c1 | c1
  case inr => rw [if_neg c1, if_neg c1]
  rw [if_pos c1, if_pos c1]
  obtain ⟨r, hr2, rfl⟩ := wiK (by omega) c1
  rcases Decidable.em (wi h 1 12) with c2 | c2
  case inr => rw [if_neg c2, if_neg c2]
  rw [if_pos c2, if_pos c2]
  obtain ⟨hn, h1, h2, rfl⟩ := wi1 (n := 12) c2 (by decide)
  rw [oN_nat (show hn < 2 ^ 31 by omega)]
  refine fsF_c _ _ (fun n a b => ?_)
  have hn1 : n < 1000 := by omega
  have e1 : uk (σ 8) (oN r) 1 = σ 0 2 (r * 8 + 1) := ukn (c := 1) hr (by omega) (by decide)
  have e2 : σ 8 1 (17 + n) = σ 0 0 n := hr.2.1 n hn1
  have hc := called_ok hr (f := n) (show r < 16 by omega) (by omega) h2
  have ht := tc_n (w := σ 0) (show r < 16 by omega) hn1
  unfold nxP nxM
  rw [e1, e2, oN_nat (show hn < 2 ^ 31 by omega)]
  refine decide_eq_decide.mpr ⟨fun q => ⟨fun z => q.2 (hc.mpr z), fun z => q.1 (ht.mpr z)⟩, fun q => ⟨fun z => q.2 (ht.mp z), fun z => q.1 (hc.mp z)⟩⟩

