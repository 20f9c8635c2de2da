/-! THE CELLS AS FUNCTIONS: after the constructors the cells stand at fixed places; what changes is ints alone -/
abbrev HV : Type := Fin 9 → Nat → Int32
abbrev SG : Type := Nat → HV
def hutA (i : Nat) : Nat := if i < 3 then 1 + 17 * i else 3 + 17 * i
def tabA (i k : Nat) : Nat := hutA i + (2 * k + 1)
def arrA (i k : Nat) : Nat := hutA i + (2 * k + 2)
def hI (a : Nat) : Nat := if a < 52 then (a - 1) / 17 else 3 + (a - 54) / 17
def hJ (a : Nat) : Nat := if a < 52 then (a - 1) % 17 else (a - 54) % 17
def isH (a : Nat) : Bool := (decide (1 ≤ a) && decide (a < 52)) || (decide (54 ≤ a) && decide (a < 122))
def f9 (k : Nat) : Fin 9 := ⟨k % 9, Nat.mod_lt _ (by decide)⟩
def tln (k : Nat) : Nat := match k with
  | 0 => 1000
  | 1 => 5
  | 2 => 128
  | 3 => 40
  | 4 => 18
  | 5 => 70
  | 6 => 32
  | _ => 3
def tcl (k : Nat) : Int32 := match k with
  | 2 => 8
  | 3 => 4
  | 4 => 3
  | 5 => 7
  | 6 => 4
  | _ => 1
def kdE (a : Nat) : Nat × Nat :=
  if isH a = true then (if hJ a = 0 then (0, 0) else if hJ a % 2 = 1 then (3, 0) else (7, tln ((hJ a - 2) / 2)))
  else if a = 0 then (4, 0) else if a = 52 then (2, 0) else if a = 53 then (8, 4) else if a = 122 then (1, 0) else if a = 123 then (6, 60) else if a = 124 then (3, 0) else if a = 125 then (7, 75) else (7, 8)
/-- which int a place of a cell is -/
def loc (a s : Nat) : Option (Nat × Fin 9 × Nat) :=
  if isH a = true then (if hJ a = 0 then (if s < 8 then none else some (hI a, 8, s - 8)) else if hJ a % 2 = 1 then none else some (hI a, f9 ((hJ a - 2) / 2), s))
  else if a = 0 then (if s < 5 then none else some (7, 0, s - 5))
  else if a = 52 then (if s < 1 then none else some (7, 1, s - 1))
  else if a = 122 then (if s < 2 then none else some (7, 2, s - 2))
  else if a = 123 then some (7, 3, s)
  else if a = 125 then some (7, 4, s)
  else if a = 126 then some (8, 0, s)
  else if 1000 ≤ a ∧ (9 ≤ (a - 1000) / 9 ∨ ((a - 1000) / 9 = 7 ∧ 5 ≤ (a - 1000) % 9) ∨ ((a - 1000) / 9 = 8 ∧ 1 ≤ (a - 1000) % 9)) then some ((a - 1000) / 9, f9 ((a - 1000) % 9), s)
  else none
def cst (a s : Nat) : Value :=
  if isH a = true then (if hJ a = 0 then .ref (tabA (hI a) s) else if s = 0 then .int (tcl ((hJ a - 1) / 2)) else if s = 1 then .ref (a + 1) else .null)
  else if a = 0 then (if s < 3 then .ref (hutA s) else if s = 3 then .ref 52 else .ref 122)
  else if a = 52 then .ref 53
  else if a = 53 then (if s < 4 then .ref (hutA (3 + s)) else .null)
  else if a = 122 then (if s = 0 then .ref 123 else .ref 124)
  else if a = 124 then (if s = 0 then .int 5 else if s = 1 then .ref 125 else .null)
  else .null
def vlE (σ : SG) (a s : Nat) : Value := match loc a s with
  | some q => .int (σ q.1 q.2.1 q.2.2)
  | none => cst a s
def SLT : Nat := 9459
def emb (σ : SG) : MS := (127, SLT, kdE, vlE σ)
def adr (i : Nat) (k : Fin 9) : Nat :=
  if i < 7 then (if k.val < 8 then arrA i k.val else hutA i)
  else if i = 7 then (if k.val = 0 then 0 else if k.val = 1 then 52 else if k.val = 2 then 122 else if k.val = 3 then 123 else if k.val = 4 then 125 else 1063 + k.val)
  else if i = 8 then (if k.val = 0 then 126 else 1072 + k.val)
  else 1000 + 9 * i + k.val
def slo (i : Nat) (k : Fin 9) (t : Nat) : Nat :=
  if i < 7 then (if k.val < 8 then t else 8 + t)
  else if i = 7 then (if k.val = 0 then 5 + t else if k.val = 1 then 1 + t else if k.val = 2 then 2 + t else t)
  else t
theorem hlem : ∀ i, i < 7 → ∀ j, j < 17 → isH (hutA i + j) = true ∧ hI (hutA i + j) = i ∧ hJ (hutA i + j) = j ∧ hutA i + j < 127 := by decide +kernel
theorem hinv : ∀ a, a < 122 → isH a = true → hI a < 7 ∧ hJ a < 17 ∧ hutA (hI a) + hJ a = a := by decide +kernel
theorem isH_lt {a : Nat} (h : isH a = true) : a < 122 := by
  unfold isH at h
  simp only [Bool.or_eq_true, Bool.and_eq_true, decide_eq_true_eq] at h
  omega
theorem f9_val (k : Fin 9) : f9 k.val = k := by
  apply Fin.ext
  show k.val % 9 = k.val
  have := k.isLt
  omega
theorem f9_v {k : Nat} (h : k < 9) : (f9 k).val = k := by
  show k % 9 = k
  omega
theorem loc_adr (i : Nat) (k : Fin 9) (t : Nat) : loc (adr i k) (slo i k t) = some (i, k, t) := by
  rcases Nat.lt_or_ge i 7 with hi | hi
  · unfold adr slo
    rw [if_pos hi, if_pos hi]
    by_cases hk : k.val < 8
    · rw [if_pos hk, if_pos hk]
      obtain ⟨h1, h2, h3, -⟩ := hlem i hi (2 * k.val + 2) (by omega)
      unfold loc arrA
      rw [if_pos h1, h2, h3, if_neg (by omega), if_neg (by omega), show (2 * k.val + 2 - 2) / 2 = k.val by omega, f9_val]
    · rw [if_neg hk, if_neg hk]
      have hk8 : k = 8 := Fin.ext (by show k.val = 8; have := k.isLt; omega)
      subst hk8
      obtain ⟨h1, h2, h3, -⟩ := hlem i hi 0 (by omega)
      rw [Nat.add_zero] at h1 h2 h3
      unfold loc
      rw [if_pos h1, h3, if_pos rfl, if_neg (by omega), h2, show 8 + t - 8 = t by omega]
  · rcases Nat.lt_or_ge i 8 with hi8 | hi8
    · have : i = 7 := by omega
      subst this
      have nH : ∀ a, 122 ≤ a → ¬ isH a = true := fun a ha h => by have := isH_lt h; omega
      obtain ⟨k, hk⟩ := k
      rcases (show k = 0 ∨ k = 1 ∨ k = 2 ∨ k = 3 ∨ k = 4 ∨ 5 ≤ k by omega) with h | h | h | h | h | h
      · subst h
        show (if 5 + t < 5 then none else some (7, 0, 5 + t - 5)) = _
        rw [if_neg (by omega), show 5 + t - 5 = t by omega]; rfl
      · subst h
        show (if 1 + t < 1 then none else some (7, 1, 1 + t - 1)) = _
        rw [if_neg (by omega), show 1 + t - 1 = t by omega]; rfl
      · subst h
        show (if 2 + t < 2 then none else some (7, 2, 2 + t - 2)) = _
        rw [if_neg (by omega), show 2 + t - 2 = t by omega]; rfl
      · subst h; rfl
      · subst h; rfl
      · have ha : adr 7 ⟨k, hk⟩ = 1063 + k := by
          unfold adr
          rw [if_neg (by omega), if_pos rfl, if_neg (by show ¬ k = 0; omega), if_neg (by show ¬ k = 1; omega), if_neg (by show ¬ k = 2; omega), if_neg (by show ¬ k = 3; omega), if_neg (by show ¬ k = 4; omega)]
        have hs : slo 7 ⟨k, hk⟩ t = t := by
          unfold slo
          rw [if_neg (by omega), if_pos rfl, if_neg (by show ¬ k = 0; omega), if_neg (by show ¬ k = 1; omega), if_neg (by show ¬ k = 2; omega)]
        rw [ha, hs]
        have e1 : (1063 + k - 1000) / 9 = 7 := by omega
        have e2 : (1063 + k - 1000) % 9 = k := by omega
        unfold loc
        rw [if_neg (nH _ (by omega)), if_neg (by omega), if_neg (by omega), if_neg (by omega), if_neg (by omega), if_neg (by omega), if_neg (by omega), e1, e2, if_pos ⟨by omega, Or.inr (Or.inl ⟨rfl, h⟩)⟩]
        exact congrArg (fun z => some ((7 : Nat), z, t)) (f9_val ⟨k, hk⟩)
    · rcases Nat.lt_or_ge i 9 with hi9 | hi9
      · have : i = 8 := by omega
        subst this
        have nH : ∀ a, 122 ≤ a → ¬ isH a = true := fun a ha h => by have := isH_lt h; omega
        obtain ⟨k, hk⟩ := k
        rcases (show k = 0 ∨ 1 ≤ k by omega) with h | h
        · subst h; rfl
        · have ha : adr 8 ⟨k, hk⟩ = 1072 + k := by
            unfold adr
            rw [if_neg (by omega), if_neg (by omega), if_pos rfl, if_neg (by show ¬ k = 0; omega)]
          have hs : slo 8 ⟨k, hk⟩ t = t := by
            unfold slo
            rw [if_neg (by omega), if_neg (by omega)]
          rw [ha, hs]
          have e1 : (1072 + k - 1000) / 9 = 8 := by omega
          have e2 : (1072 + k - 1000) % 9 = k := by omega
          unfold loc
          rw [if_neg (nH _ (by omega)), if_neg (by omega), if_neg (by omega), if_neg (by omega), if_neg (by omega), if_neg (by omega), if_neg (by omega), e1, e2, if_pos ⟨by omega, Or.inr (Or.inr ⟨rfl, h⟩)⟩]
          exact congrArg (fun z => some ((8 : Nat), z, t)) (f9_val ⟨k, hk⟩)
      · have hk := k.isLt
        have ha : adr i k = 1000 + 9 * i + k.val := by unfold adr; rw [if_neg (by omega), if_neg (by omega), if_neg (by omega)]
        have hs : slo i k t = t := by unfold slo; rw [if_neg (by omega), if_neg (by omega)]
        rw [ha, hs]
        have hn : ¬ isH (1000 + 9 * i + k.val) = true := fun h => by have := isH_lt h; omega
        have e1 : (1000 + 9 * i + k.val - 1000) / 9 = i := by omega
        have e2 : (1000 + 9 * i + k.val - 1000) % 9 = k.val := by omega
        unfold loc
        rw [if_neg hn, if_neg (by omega), if_neg (by omega), if_neg (by omega), if_neg (by omega), if_neg (by omega), if_neg (by omega), e1, e2, if_pos ⟨by omega, Or.inl hi9⟩, f9_val]
theorem adr_loc {a s i : Nat} {k : Fin 9} {t : Nat} (h : loc a s = some (i, k, t)) : adr i k = a ∧ slo i k t = s := by
  unfold loc at h
  split at h
  · rename_i hH
    obtain ⟨g1, g2, g3⟩ := hinv a (isH_lt hH) hH
    split at h
    · rename_i h0
      split at h
      · cases h
      · cases h
        unfold adr slo
        rw [if_pos g1, if_pos g1, if_neg (by decide), if_neg (by decide)]
        exact ⟨by omega, by omega⟩
    · split at h
      · cases h
      · cases h
        have hk : (hJ a - 2) / 2 < 8 := by omega
        unfold adr slo
        rw [if_pos g1, if_pos g1, f9_v (by omega), if_pos hk, if_pos hk]
        refine ⟨?_, rfl⟩
        unfold arrA
        omega
  · split at h
    · split at h
      · cases h
      · cases h; subst_vars; exact ⟨rfl, by show 5 + (s - 5) = s; omega⟩
    · split at h
      · split at h
        · cases h
        · cases h; subst_vars; exact ⟨rfl, by show 1 + (s - 1) = s; omega⟩
      · split at h
        · split at h
          · cases h
          · cases h; subst_vars; exact ⟨rfl, by show 2 + (s - 2) = s; omega⟩
        · split at h
          · cases h; subst_vars; exact ⟨rfl, rfl⟩
          · split at h
            · cases h; subst_vars; exact ⟨rfl, rfl⟩
            · split at h
              · cases h; subst_vars; exact ⟨rfl, rfl⟩
              · split at h
                · rename_i hr
                  simp only [Option.some.injEq, Prod.mk.injEq] at h
                  obtain ⟨h1, h2, h3⟩ := h
                  subst h1; subst h2; subst h3
                  have hv : (f9 ((a - 1000) % 9)).val = (a - 1000) % 9 := f9_v (by omega)
                  unfold adr slo
                  rw [hv]
                  rcases hr.2 with q | q | q
                  · rw [if_neg (by omega), if_neg (by omega), if_neg (by omega), if_neg (by omega), if_neg (by omega)]
                    exact ⟨by omega, rfl⟩
                  · rw [if_neg (by omega), if_pos q.1, if_neg (by omega), if_neg (by omega), if_neg (by omega), if_neg (by omega), if_neg (by omega), if_neg (by omega), if_pos q.1, if_neg (by omega), if_neg (by omega), if_neg (by omega)]
                    exact ⟨by omega, rfl⟩
                  · rw [if_neg (by omega), if_neg (by omega), if_pos q.1, if_neg (by omega), if_neg (by omega), if_neg (by omega)]
                    exact ⟨by omega, rfl⟩
                · cases h
def up1 (σ : SG) (i : Nat) (w : HV) : SG := fun j => if j = i then w else σ j
def up2 (w : HV) (k : Fin 9) (t : Nat) (x : Int32) : HV := fun k' t' => if k' = k ∧ t' = t then x else w k' t'
theorem vlE_at (σ : SG) (i : Nat) (k : Fin 9) (t : Nat) : vlE σ (adr i k) (slo i k t) = .int (σ i k t) := by
  unfold vlE
  rw [loc_adr]
theorem emb_set (σ : SG) (i : Nat) (k : Fin 9) (t : Nat) (x : Int32) : svSet (emb σ) (adr i k) (slo i k t) (.int x) = emb (up1 σ i (up2 (σ i) k t x)) := by
  show ((127, SLT, kdE, fun a' k' => if a' = adr i k ∧ k' = slo i k t then Value.int x else vlE σ a' k') : MS) = (127, SLT, kdE, vlE (up1 σ i (up2 (σ i) k t x)))
  refine congrArg (fun f => ((127, SLT, kdE, f) : MS)) ?_
  funext a s
  by_cases h : a = adr i k ∧ s = slo i k t
  · rw [if_pos h, h.1, h.2, vlE_at]
    simp [up1, up2]
  · rw [if_neg h]
    unfold vlE
    cases hl : loc a s with
    | none => rfl
    | some q =>
      obtain ⟨i', k', t'⟩ := q
      obtain ⟨h1, h2⟩ := adr_loc hl
      show Value.int (σ i' k' t') = Value.int (up1 σ i (up2 (σ i) k t x) i' k' t')
      unfold up1
      by_cases hi : i' = i
      · subst hi
        rw [if_pos rfl]
        unfold up2
        by_cases hk : k' = k ∧ t' = t
        · exact absurd ⟨by rw [← h1, hk.1], by rw [← h2, hk.1, hk.2]⟩ h
        · rw [if_neg hk]
      · rw [if_neg hi]
def prj (S : MS) : SG := fun i k t => toI (S.2.2.2 (adr i k) (slo i k t))
theorem prj_emb (σ : SG) : prj (emb σ) = σ := by
  funext i k t
  show toI (vlE σ (adr i k) (slo i k t)) = _
  rw [vlE_at]
  rfl
