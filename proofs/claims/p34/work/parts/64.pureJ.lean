/-! PURE: what more holds of a hut: its kites, spools, hires, sums -/
def ctF (f : Nat → Int32) (v : Int32) : Nat → Nat
  | 0 => 0
  | n + 1 => ctF f v n + (if f n = v then 1 else 0)
theorem ctF_c {f g : Nat → Int32} {v : Int32} : ∀ n, (∀ r, r < n → f r = g r) → ctF f v n = ctF g v n := by
  intro n
  induction n with
  | zero => intro _; rfl
  | succ n ih =>
    intro h
    unfold ctF
    rw [h n (by omega), ih (fun r hr => h r (by omega))]
theorem ctF_off {f g : Nat → Int32} {v : Int32} {s : Nat} (hf : f s = v) (hg : g s ≠ v) (h : ∀ r, r ≠ s → f r = g r) : ∀ n, s < n → ctF g v n + 1 = ctF f v n := by
  intro n
  induction n with
  | zero => intro h; omega
  | succ n ih =>
    intro hs
    unfold ctF
    by_cases e : s = n
    · subst e
      rw [if_neg hg, if_pos hf, ctF_c (f := f) (g := g) s (fun r hr => h r (by omega))]
    · have := ih (by omega)
      rw [h n (fun q => e q.symm)]
      omega
def jS (w : HV) : Prop := sm (w 1 0) 13 ∧ sm (w 1 1) 999 ∧ sm (w 1 2) 99 ∧ sm (w 1 3) 99 ∧ sm (w 1 4) 50
def jW (w : HV) : Prop := ∀ h, h < 1000 → sm (w 0 h) 12
def jK (w : HV) (K : Nat) : Prop := ∀ k, k < K → (w 2 (k * 8 + 0) = 0 ∨ w 2 (k * 8 + 0) = 1 ∨ w 2 (k * 8 + 0) = 2) ∧ (w 2 (k * 8 + 0) = 1 → w 2 (k * 8 + 7) ≠ -5) ∧ (∃ p, 1 ≤ p ∧ p ≤ 99 ∧ w 2 (k * 8 + 4) = oN p) ∧ sm (w 2 (k * 8 + 3)) 9
def jC (w : HV) (K O : Nat) : Prop := ctF (fun k => w 2 (k * 8 + 0)) 1 K = O
def jL (w : HV) (S : Nat) : Prop := ∀ s, s < S → sm (w 3 (s * 4 + 0)) 300 ∧ sm (w 3 (s * 4 + 1)) 998
def jR (w : HV) (r : Nat) : Prop := ∃ k s m M p l q : Nat, k < 16 ∧ s < 10 ∧ w 5 (r * 7 + 0) = oN k ∧ w 5 (r * 7 + 1) = oN s ∧ w 5 (r * 7 + 2) = oN m ∧ w 3 (s * 4 + 0) = oN M ∧ w 2 (k * 8 + 4) = oN p ∧ w 5 (r * 7 + 3) = oN l ∧ w 5 (r * 7 + 5) = oN q ∧ m ≤ M ∧ M ≤ 300 ∧ p ≤ 99 ∧ p * l ≤ q ∧ q ≤ 1188
def jH (w : HV) (O P : Nat) : Prop := ∀ r, r < O → r ≠ P → jR w r
def jE (w : HV) (E : Nat) : Prop := w 7 0 + w 7 1 + w 7 2 = oN E
def JX (w : HV) (K S O E P : Nat) : Prop := jS w ∧ jW w ∧ jK w K ∧ jC w K O ∧ jL w S ∧ jH w O P ∧ jE w E
def jT (w : HV) (cf : Nat → Int32) : Prop := ∀ c, c < 6 → w 4 (c * 3 + 0) + w 4 (c * 3 + 1) + w 4 (c * 3 + 2) = 5 + cf c
def jM (w : HV) (S : Nat) (cf : Nat → Int32) : Prop := suF (fun s => w 3 (s * 4 + 0)) 0 S 0 + suF (fun s => w 3 (s * 4 + 3)) 0 S 0 = cf 6
def J (w : HV) (cf : Nat → Int32) (T K S N O E b : Nat) : Prop := Ivt w T K S N O E b 100 ∧ JX w K S O E 100 ∧ jT w cf ∧ jM w S cf
theorem jR_c {w w2 : HV} {r r2 : Nat} (h5 : ∀ c, c < 6 → w2 5 (r2 * 7 + c) = w 5 (r * 7 + c)) (h3 : ∀ s, s < 10 → w 5 (r * 7 + 1) = oN s → w2 3 (s * 4 + 0) = w 3 (s * 4 + 0)) (h2 : ∀ k, k < 16 → w2 2 (k * 8 + 4) = w 2 (k * 8 + 4)) (h : jR w r) : jR w2 r2 := by
  obtain ⟨k, s, m, M, p, l, q, g1, g2, g3, g4, g5, g6, g7, g8, g9, gA⟩ := h
  exact ⟨k, s, m, M, p, l, q, g1, g2, (h5 0 (by decide)).trans g3, (h5 1 (by decide)).trans g4, (h5 2 (by decide)).trans g5, (h3 s g2 g4).trans g6, (h2 k g1).trans g7, (h5 3 (by decide)).trans g8, (h5 5 (by decide)).trans g9, gA⟩
theorem JX_u {w w2 : HV} {K S O E P P2 : Nat} (h : JX w K S O E P) (hK : K ≤ 16) (e0 : w2 0 = w 0) (e1 : w2 1 = w 1) (e2 : ∀ k, k < 16 → w2 2 (k * 8 + 0) = w 2 (k * 8 + 0) ∧ w2 2 (k * 8 + 7) = w 2 (k * 8 + 7) ∧ w2 2 (k * 8 + 4) = w 2 (k * 8 + 4) ∧ w2 2 (k * 8 + 3) = w 2 (k * 8 + 3)) (e7 : w2 7 = w 7) (hL : jL w2 S) (hH : jH w2 O P2) : JX w2 K S O E P2 := by
  obtain ⟨xS, xW, xK, xC, xL, xH, xE⟩ := h
  refine ⟨?_, ?_, ?_, ?_, hL, hH, ?_⟩
  · unfold jS; rw [e1]; exact xS
  · unfold jW; rw [e0]; exact xW
  · intro k hk
    obtain ⟨y0, y7, y4, y3⟩ := e2 k (by omega)
    rw [y0, y7, y4, y3]
    exact xK k hk
  · unfold jC
    rw [ctF_c (f := fun k => w2 2 (k * 8 + 0)) (g := fun k => w 2 (k * 8 + 0)) K (fun r hr => (e2 r (by omega)).1)]
    exact xC
  · unfold jE; rw [e7]; exact xE
theorem end_J {w : HV} {T K S N O E b P W : Nat} {mis : Int32} (i : Ivt w T K S N O E b P) (x : JX w K S O E P) (hP : P < O) (hW : W < 3) : JX (enH w (oN P) (oN W) mis) K S (O - 1) (E + 1) 100 ∧ (∀ c, c < 6 → enH w (oN P) (oN W) mis 4 (c * 3 + 0) + enH w (oN P) (oN W) mis 4 (c * 3 + 1) + enH w (oN P) (oN W) mis 4 (c * 3 + 2) = w 4 (c * 3 + 0) + w 4 (c * 3 + 1) + w 4 (c * 3 + 2)) ∧ (∀ s c, c ≠ 2 → c < 4 → enH w (oN P) (oN W) mis 3 (s * 4 + c) = w 3 (s * 4 + c)) ∧ enH w (oN P) (oN W) mis 8 5 = oN (E + 1) := by
  obtain ⟨hO, hE, hS⟩ := Ivt_O i
  obtain ⟨⟨a0, a1, a2, a3, a4, a5, a7⟩, ⟨b1, b2, b3, b4, b5⟩, hc, hH, hD, hN, hT, hZ⟩ := i
  obtain ⟨xS, xW, xK, xC, xL, xH, xE⟩ := x
  obtain ⟨kP, sP, nP, q1, q2, q3, q4, q5, q6, q7, q8, q9, -, -⟩ := hH P hP
  obtain ⟨c0, c1, c2, c3, c4, c5, c6, c7, c8⟩ := enH_at (mis := mis) (show P < 10 by omega) (show kP < 16 by omega) (show sP < 10 by omega) hW (show E < 256 by omega) q4 q5 a5
  have hrow : ∀ {r c : Nat}, r < O - 1 → c < 7 → enH w (oN P) (oN W) mis 5 (r * 7 + c) = w 5 (rwQ P r * 7 + c) := fun hr hc => end_row hO c5 hr hc
  have hq : ∀ {r}, r < O - 1 → rwQ P r < O ∧ rwQ P r ≠ P := by
    intro r hr
    unfold rwQ
    split <;> omega
  generalize enH w (oN P) (oN W) mis = w2 at c0 c1 c2 c3 c4 c5 c6 c7 c8 hrow ⊢
  have d2 : ∀ t, t ≠ kP * 8 + 7 → t ≠ kP * 8 + 0 → w2 2 t = w 2 t := fun t h1 h2 => by rw [c2, if_neg h1, if_neg h2]
  have dk : w2 2 (kP * 8 + 0) = 0 ∨ w2 2 (kP * 8 + 0) = 2 := by
    rw [c2, if_neg (by omega), if_pos rfl]
    split
    · exact Or.inr rfl
    · exact Or.inl rfl
  have dk1 : w2 2 (kP * 8 + 0) ≠ 1 := by
    rcases dk with h | h <;> rw [h] <;> decide
  have d3 : ∀ t, t ≠ sP * 4 + 2 → w2 3 t = w 3 t := fun t h => by rw [c3, if_neg h]
  refine ⟨⟨?_, ?_, ?_, ?_, ?_, ?_, ?_⟩, ?_, ?_, ?_⟩
  · unfold jS; rw [c1]; exact xS
  · unfold jW; rw [c0]; exact xW
  · intro k hk
    obtain ⟨y1, y2, y3, y4⟩ := xK k hk
    by_cases e : k = kP
    · subst e
      refine ⟨?_, fun h => absurd h dk1, ?_, ?_⟩
      · rcases dk with h | h
        · exact Or.inl h
        · exact Or.inr (Or.inr h)
      · rw [d2 _ (by omega) (by omega)]; exact y3
      · rw [d2 _ (by omega) (by omega)]; exact y4
    · rw [d2 _ (by omega) (by omega), d2 (k * 8 + 7) (by omega) (by omega), d2 (k * 8 + 4) (by omega) (by omega), d2 (k * 8 + 3) (by omega) (by omega)]
      exact ⟨y1, y2, y3, y4⟩
  · have h1 := ctF_off (f := fun k => w 2 (k * 8 + 0)) (g := fun k => w2 2 (k * 8 + 0)) (v := 1) (s := kP) q9 dk1 (fun r hr => (d2 _ (by omega) (by omega)).symm) K q1
    unfold jC at xC ⊢
    omega
  · intro s hs
    rw [d3 _ (by omega), d3 _ (by omega)]
    exact xL s hs
  · intro r hr _
    obtain ⟨h1, h2⟩ := hq hr
    exact jR_c (fun c hc => hrow hr (by omega)) (fun s hs _ => d3 _ (by omega)) (fun k hk => d2 _ (by omega) (by omega)) (xH _ h1 h2)
  · unfold jE at xE ⊢
    rw [c7, c7, c7]
    rcases (show W = 0 ∨ W = 1 ∨ W = 2 by omega) with h | h | h <;> subst h
    · rw [if_pos rfl, if_neg (by decide), if_neg (by decide), ← oN_succ]; exact grE0 _ _ _ _ xE
    · rw [if_neg (by decide), if_pos rfl, if_neg (by decide), ← oN_succ]; exact grE1 _ _ _ _ xE
    · rw [if_neg (by decide), if_neg (by decide), if_pos rfl, ← oN_succ]; exact grE2 _ _ _ _ xE
  · intro c hc2
    rw [c4 _ (by omega), c4 _ (by omega), c4 _ (by omega)]
    unfold etF
    rw [show (c * 3 + 0) % 3 = 0 by omega, show (c * 3 + 1) % 3 = 1 by omega, show (c * 3 + 2) % 3 = 2 by omega, show (c * 3 + 0) / 3 = c by omega, show (c * 3 + 1) / 3 = c by omega, show (c * 3 + 2) / 3 = c by omega]
    simp only [if_pos, show ¬ (0 : Nat) = 1 by decide, show ¬ (2 : Nat) = 1 by decide, show ¬ (2 : Nat) = 0 by decide, if_false]
    exact gr3 _ _ _ _ _
  · intro s c h1 h2
    exact d3 _ (by omega)
  · rw [c8, if_neg (by decide), if_pos rfl, a5, oN_succ]
theorem jT_e {w w2 : HV} {cf : Nat → Int32} (h : ∀ c, c < 6 → w2 4 (c * 3 + 0) + w2 4 (c * 3 + 1) + w2 4 (c * 3 + 2) = w 4 (c * 3 + 0) + w 4 (c * 3 + 1) + w 4 (c * 3 + 2)) (x : jT w cf) : jT w2 cf := fun c hc => (h c hc).trans (x c hc)
theorem jM_e {w w2 : HV} {S : Nat} {cf : Nat → Int32} (h : ∀ s, s < S → w2 3 (s * 4 + 0) = w 3 (s * 4 + 0) ∧ w2 3 (s * 4 + 3) = w 3 (s * 4 + 3)) (x : jM w S cf) : jM w2 S cf := by
  unfold jM
  rw [suF_c (f := fun s => w2 3 (s * 4 + 0)) (g := fun s => w 3 (s * 4 + 0)) S 0 0 (fun r _ hr => (h r (by omega)).1), suF_c (f := fun s => w2 3 (s * 4 + 3)) (g := fun s => w 3 (s * 4 + 3)) S 0 0 (fun r _ hr => (h r (by omega)).2)]
  exact x
/-- the whole of it behind an end -/
theorem J_end {w : HV} {cf : Nat → Int32} {T K S N O E b P W : Nat} {mis : Int32} (i : Ivt w T K S N O E b P) (x : JX w K S O E P) (xT : jT w cf) (xM : jM w S cf) (hP : P < O) (hW : W < 3) : J (enH w (oN P) (oN W) mis) cf T K S N (O - 1) (E + 1) b ∧ enH w (oN P) (oN W) mis 8 5 = oN (E + 1) := by
  obtain ⟨h1, h2, h3, h4⟩ := end_J (mis := mis) i x hP hW
  exact ⟨⟨end_ivt i hP hW, h1, jT_e h2 xT, jM_e (fun s _ => ⟨h3 s 0 (by decide) (by decide), h3 s 3 (by decide) (by decide)⟩) xM⟩, h4⟩
