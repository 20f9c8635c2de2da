/-! PURE: small numbers, sums, the first of a row; cells in range -/
theorem oN_u (y : Int32) : oN y.toUInt32.toNat = y := by
  cases y with
  | ofUInt32 u => exact congrArg Int32.ofUInt32 (UInt32.ofNat_toNat (x := u))
theorem u2k {w : HV} {k : Fin 9} {i t : Nat} {x : Int32} : up2 w k i x k t = if t = i then x else w k t := by
  unfold up2
  by_cases h : t = i
  · rw [if_pos ⟨rfl, h⟩, if_pos h]
  · rw [if_neg (fun q => h q.2), if_neg h]
theorem bit_01 (s : Int32) (c : Nat) : bit s c = 0 ∨ bit s c = 1 := by
  unfold bit
  generalize s >>> (oN c &&& 31) = x
  have e : (x &&& 1).toUInt32.toNat = x.toUInt32.toNat % 2 := by
    rw [Int32.toUInt32_and, UInt32.toNat_and]
    exact Nat.and_one_is_mod _
  have h := oN_u (x &&& 1)
  rw [e] at h
  rcases Nat.mod_two_eq_zero_or_one x.toUInt32.toNat with q | q
  · rw [q] at h; exact Or.inl h.symm
  · rw [q] at h; exact Or.inr h.symm
theorem oN_sub {a b : Nat} (h : b ≤ a) : oN a - oN b = oN (a - b) := by
  obtain ⟨c, rfl⟩ : ∃ c, a = c + b := ⟨a - b, by omega⟩
  rw [← oN_add, show c + b - b = c by omega, Int32.sub_eq_add_neg, Int32.add_assoc, Int32.add_right_neg, Int32.add_zero]
theorem oN_dec (n : Nat) : oN (n + 1) + -1 = oN n := by rw [← oN_succ, Int32.add_assoc]; exact Int32.add_zero _
theorem wi_sub {x n : Int32} {b : Nat} (hb : b < 1000) (hn : sm n (b + 1)) (h : wi x 0 (n - 1)) : sm x b := by
  obtain ⟨h1, h2⟩ := h
  have hk := hn.2
  refine ⟨h1, ?_⟩
  rw [sm_eq hn] at h2
  rw [Int32.lt_iff_toInt_lt, Int32.toInt_sub, oN_toInt (by omega)] at h2
  have e1 : (1 : Int32).toInt = 1 := rfl
  rw [e1, Int.bmod_eq_of_le (by omega) (by omega)] at h2
  rw [Int32.lt_iff_toInt_lt, Int32.toInt_zero] at h1
  show x.toInt.toNat ≤ b
  omega
/-- a sum, from the left -/
def suF (f : Nat → Int32) : Nat → Nat → Int32 → Int32
  | _, 0, d => d
  | r, k + 1, d => suF f (r + 1) k (d + f r)
theorem suF_c {f g : Nat → Int32} : ∀ (k n : Nat) (d : Int32), (∀ r, n ≤ r → r < n + k → f r = g r) → suF f n k d = suF g n k d := by
  intro k
  induction k with
  | zero => intro n d _; rfl
  | succ k ih =>
    intro n d h
    unfold suF
    rw [h n (by omega) (by omega)]
    exact ih _ _ (fun r h1 h2 => h r (by omega) (by omega))
theorem suF_d (f : Nat → Int32) : ∀ (k n : Nat) (d x : Int32), suF f n k (d + x) = suF f n k d + x := by
  intro k
  induction k with
  | zero => intro n d x; rfl
  | succ k ih =>
    intro n d x
    unfold suF
    rw [show d + x + f n = d + f n + x by rw [Int32.add_assoc, Int32.add_comm x, ← Int32.add_assoc], ih]
theorem suF_u {f g : Nat → Int32} {s : Nat} {x : Int32} (hg : g s = f s + x) (h : ∀ r, r ≠ s → g r = f r) : ∀ (k n : Nat) (d : Int32), n ≤ s → s < n + k → suF g n k d = suF f n k d + x := by
  intro k
  induction k with
  | zero => intro n d h1 h2; omega
  | succ k ih =>
    intro n d h1 h2
    unfold suF
    by_cases e : n = s
    · subst e
      rw [hg, ← Int32.add_assoc, suF_d]
      rw [suF_c (f := g) (g := f) k (n + 1) _ (fun r h3 h4 => h r (by omega))]
    · rw [h n e]
      exact ih (n + 1) _ (by omega) (by omega)
theorem suF_s (f : Nat → Int32) : ∀ (k n : Nat) (d : Int32), suF f n (k + 1) d = suF f n k d + f (n + k) := by
  intro k
  induction k with
  | zero => intro n d; rfl
  | succ k ih =>
    intro n d
    show suF f (n + 1) (k + 1) (d + f n) = _
    rw [ih, show n + 1 + k = n + (k + 1) by omega]
    rfl
theorem smF_su (f : Nat → Int32) : ∀ (k n : Nat) (d : Int32), suF f n k d = d + smF f n k := by
  intro k
  induction k with
  | zero => intro n d; exact (Int32.add_zero d).symm
  | succ k ih =>
    intro n d
    unfold suF smF
    rw [ih, Int32.add_assoc]
theorem smF_s0 {f : Nat → Int32} {n k : Nat} : smF f n k = suF f n k 0 := by rw [smF_su, Int32.zero_add]
theorem smF_n {f : Nat → Int32} (hf : ∀ j, f j = 0 ∨ f j = 1) : ∀ k n, ∃ c, c ≤ k ∧ smF f n k = oN c ∧ (c = 0 → ∀ j, n ≤ j → j < n + k → f j = 0) := by
  intro k
  induction k with
  | zero => intro n; exact ⟨0, Nat.le_refl _, rfl, fun _ j h1 h2 => by omega⟩
  | succ k ih =>
    intro n
    obtain ⟨c, h1, h2, h3⟩ := ih (n + 1)
    unfold smF
    rcases hf n with q | q
    · refine ⟨c, by omega, by rw [q, h2, Int32.zero_add], fun hc j h4 h5 => ?_⟩
      by_cases e : j = n
      · rw [e, q]
      · exact h3 hc j (by omega) (by omega)
    · refine ⟨c + 1, by omega, ?_, fun hc => by omega⟩
      rw [q, h2, Int32.add_comm]
      exact oN_succ c
theorem fsF_y {p : Nat → Bool} : ∀ (k n : Nat), (∃ r, n ≤ r ∧ r < n + k ∧ p r = true ∧ fsF p n k = oN r) ∨ ((∀ r, n ≤ r → r < n + k → p r = false) ∧ fsF p n k = -5) := by
  intro k
  induction k with
  | zero => intro n; right; exact ⟨fun r h1 h2 => by omega, rfl⟩
  | succ k ih =>
    intro n
    unfold fsF
    by_cases hp : p n = true
    · left
      exact ⟨n, Nat.le_refl _, by omega, hp, by rw [if_pos hp]⟩
    · rw [if_neg hp]
      rcases ih (n + 1) with ⟨r, a, b, c, d⟩ | ⟨h1, h2⟩
      · exact Or.inl ⟨r, by omega, by omega, c, d⟩
      · right
        refine ⟨fun r a b => ?_, h2⟩
        by_cases e : r = n
        · rw [e]; exact Bool.eq_false_iff.mpr hp
        · exact h1 r (by omega) (by omega)
theorem fsF_c {p q : Nat → Bool} : ∀ (k n : Nat), (∀ r, n ≤ r → r < n + k → p r = q r) → fsF p n k = fsF q n k := by
  intro k
  induction k with
  | zero => intro n _; rfl
  | succ k ih =>
    intro n h
    unfold fsF
    rw [h n (Nat.le_refl _) (by omega), ih (n + 1) (fun r a b => h r (by omega) (by omega))]
theorem exF_iff {p : Nat → Bool} : ∀ (k r : Nat), exF p r k = true ↔ ∃ i, r ≤ i ∧ i < r + k ∧ p i = true := by
  intro k
  induction k with
  | zero => intro r; exact ⟨fun h => (by cases h), fun ⟨i, h1, h2, _⟩ => by omega⟩
  | succ k ih =>
    intro r
    unfold exF
    rw [Bool.or_eq_true, ih]
    constructor
    · rintro (h | ⟨i, h1, h2, h3⟩)
      · exact ⟨r, Nat.le_refl _, by omega, h⟩
      · exact ⟨i, by omega, by omega, h3⟩
    · rintro ⟨i, h1, h2, h3⟩
      by_cases e : i = r
      · rw [e] at h3; exact Or.inl h3
      · exact Or.inr ⟨i, by omega, by omega, h3⟩
theorem wiN {x : Int32} {n : Nat} (h : wi x 0 (oN n)) (hn : n < 2 ^ 31) : ∃ r, r ≤ n ∧ x = oN r := by
  have hs := wi_sm (n := n) h (by decide) hn
  exact ⟨x.toNatClampNeg, hs.2, sm_eq hs⟩
theorem wiK {x : Int32} {K : Nat} (hK : K ≤ 1000) (h : wi x 0 (oN K - 1)) : ∃ r, r < K ∧ x = oN r := by
  cases K with
  | zero =>
    exfalso
    have h1 := h.1
    have h2 := h.2
    rw [Int32.lt_iff_toInt_lt] at h1 h2
    have e1 : (oN 0 - 1).toInt = -1 := by decide
    have e2 : (0 : Int32).toInt = 0 := rfl
    rw [e1] at h2
    rw [e2] at h1
    omega
  | succ K =>
    have hs := wi_sub (b := K) (by omega) (sm_oN (Nat.le_refl _) (by omega)) h
    exact ⟨x.toNatClampNeg, Nat.lt_succ_of_le hs.2, sm_eq hs⟩
theorem wi1 {x : Int32} {n : Nat} (h : wi x 1 (oN n)) (hn : n < 2 ^ 31) : ∃ r, 1 ≤ r ∧ r ≤ n ∧ x = oN r := by
  have hs := wi_sm (n := n) h (by decide) hn
  have h2 := hs.2
  refine ⟨x.toNatClampNeg, ?_, h2, sm_eq hs⟩
  have h1 := h.1
  rw [sm_eq hs] at h1
  change ¬ oN _ < oN 1 at h1
  rw [oN_lt (by omega) (by decide)] at h1
  omega
theorem up1_nt {σ : SG} {i j : Nat} {w : HV} (h : j ≠ i) : up1 σ i w j = σ j := by unfold up1; rw [if_neg h]
theorem u2n {w : HV} {k k2 : Fin 9} {i t : Nat} {x : Int32} (h : k2 ≠ k) : up2 w k i x k2 t = w k2 t := by rw [up2_kn h]
def InR (w2 w : HV) : Prop := ∀ (k : Fin 9) (t : Nat), t < ln9 k → w2 k t = w k t
theorem cpH_in (w v : HV) : InR (cpH w v) v := by
  intro k t h
  unfold cpH
  rw [if_pos h]
theorem lu_n : ∀ x, x < 4 → lu (oN x) = oN ((x + 1) % 4) := by decide +kernel
theorem ld_n : ∀ x, x < 4 → ld (oN x) = oN ((x + 3) % 4) := by decide +kernel
theorem hl_n : ∀ x, x < 5 → hl1 (oN x) = oN (min (x + 1) 4) := by decide +kernel
theorem m5_lt : ((-5 : Int32) < 0) = True := eq_true (by decide)
theorem lyw_k {w : HV} {x : Int32} {a n : Nat} {k : Fin 9} (h : k ≠ 0) : lyw w x a n k = w k := by
  funext t
  unfold lyw
  rw [if_neg (fun q => h q.1)]
theorem lyw_z {w : HV} {x : Int32} {a n t : Nat} : lyw w x a n 0 t = if a ≤ t ∧ t < n then x else w 0 t := by
  unfold lyw
  by_cases h : a ≤ t ∧ t < n
  · rw [if_pos ⟨rfl, h.1, h.2⟩, if_pos h]
  · rw [if_neg (fun q => h q.2), if_neg h]
theorem gr3 (a b c x y : Int32) : (a + x) + (b + -x + -y) + (c + y) = a + b + c := by grind
theorem gr3h (a b c x : Int32) : (a + -x) + (b + x) + c = a + b + c := by grind
theorem gr3f (a b c x : Int32) : (a + x) + b + (c + -x) = a + b + c := by grind
theorem gr3b (a b c x y : Int32) (h : a + b + c = 5 + y) : (a + x) + b + c = 5 + (y + x) := by grind
theorem grE0 (a b c x : Int32) (h : a + b + c = x) : (a + 1) + b + c = x + 1 := by grind
theorem grE1 (a b c x : Int32) (h : a + b + c = x) : a + (b + 1) + c = x + 1 := by grind
theorem grE2 (a b c x : Int32) (h : a + b + c = x) : a + b + (c + 1) = x + 1 := by grind
theorem grM (a b x : Int32) : (a + -x) + (b + x) = a + b := by grind
