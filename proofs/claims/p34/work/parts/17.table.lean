/-! names for simp; tables of rows -/
theorem ct1_i (x : Int32) : ct1 (.int x) = True := eq_true rfl
theorem ct1_r (x : Nat) : ct1 (.ref x) = True := eq_true rfl
theorem ct1_n : ct1 .null = True := eq_true rfl
theorem tl_s (v : Value) (st : List Value) : (some v).toList ++ st = v :: st := rfl
theorem tl_n (st : List Value) : (none : Option Value).toList ++ st = st := rfl
theorem le4_0 : sd8 [] = True := eq_true (Nat.le_of_ble_eq_true rfl)
theorem le4_1 (a : Value) : sd8 [a] = True := eq_true (cat_le _ (Nat.le_of_ble_eq_true rfl))
theorem le4_2 (a b : Value) : sd8 [a, b] = True := eq_true (cat_le _ (Nat.le_of_ble_eq_true rfl))
theorem le4_3 (a b c : Value) : sd8 [a, b, c] = True := eq_true (cat_le _ (Nat.le_of_ble_eq_true rfl))
theorem le4_4 (a b c d : Value) : sd8 [a, b, c, d] = True := eq_true (cat_le _ (Nat.le_of_ble_eq_true rfl))
theorem le4_5 (a e : Nat) (b c d : Int32) : sd8 [.ref a, .int b, .int c, .int d, .ref e] = True := eq_true (Nat.le_of_ble_eq_true rfl)
theorem isO_r (S : MS) (c a : Nat) : isO S c (.ref a) = obj S a c := rfl
theorem toI_i (x : Int32) : toI (.int x) = x := rfl
def spL (L : List (Nat × Sp)) : Nat → Sp := fun z => match L.find? (fun q => q.1 == z) with
  | some q => q.2
  | none => spBad
theorem spL_ok {L : List (Nat × Sp)} (h : ∀ q ∈ L, SpecOK q.1 q.2) : ∀ z, SpecOK z (spL L z) := by
  intro z
  unfold spL
  split
  · rename_i q hq
    have h1 := h q (List.mem_of_find?_eq_some hq)
    have h2 := List.find?_some hq
    simp only [beq_iff_eq] at h2
    rw [← h2]
    exact h1
  · exact SpecOK.no z
theorem spL_hd (z : Nat) (f : Sp) (L : List (Nat × Sp)) : spL ((z, f) :: L) z = f := by unfold spL; simp
theorem spL_tl {z w : Nat} {f : Sp} {L : List (Nat × Sp)} (h : (w == z) = false) : spL ((w, f) :: L) z = spL L z := by unfold spL; simp [List.find?, h]
theorem all1 {a : Value} (h : ct1 a) : ∀ w ∈ [a], w.category = 1 := fun w hw => by rw [List.mem_singleton.mp hw]; exact h
theorem allc {a : Value} {l : List Value} (h : ct1 a) (hl : ∀ w ∈ l, w.category = 1) : ∀ w ∈ a :: l, w.category = 1 := fun w hw => by
  rcases List.mem_cons.mp hw with rfl | hw
  · exact h
  · exact hl w hw
theorem all0 : ∀ w ∈ ([] : List Value), w.category = 1 := fun w hw => absurd hw List.not_mem_nil
theorem aok_ari {S : MS} {a : Nat} (kd : Nat) (h : ari S a kd) : aok S a kd = True := eq_true (by unfold aok; rw [if_pos h.1]; exact h.2)
theorem aln_ari {e : En} {S : MS} {a kd : Nat} (h : ari S a kd) : aln e S a = (S.2.2.1 a).2 := by unfold aln; rw [if_pos h.1]
theorem ard_ari {e : En} {S : MS} {a kd j : Nat} (h : ari S a kd) : ard e S a j = toI (S.2.2.2 a j) := by unfold ard; rw [if_pos h.1]
/-- an index that was looked at -/
theorem toNat_lt {p : Int32} {n : Nat} (h0 : ¬ p < 0) (h1 : p < Int32.ofNat n) (hn : n < 2 ^ 31) : p.toNatClampNeg < n := by
  have e : (Int32.ofNat n).toInt = (n : Int) := by rw [Int32.toInt_ofNat']; simp [Int.bmod]; omega
  have h2 := Int32.lt_iff_toInt_lt.mp h1
  have h3 : ¬ p.toInt < 0 := fun q => h0 (Int32.lt_iff_toInt_lt.mpr (by simpa using q))
  rw [e] at h2
  show p.toInt.toNat < n
  omega
theorem iin_of {p : Int32} {n : Nat} (h0 : ¬ p < 0) (h1 : p < Int32.ofNat n) (hn : n < 2 ^ 31) : iin p n = True := eq_true (by
  intro h
  rcases h with h | h
  · exact h0 h
  · have := toNat_lt h0 h1 hn
    omega)
def tb (S : MS) (a : Nat) : Nat := (toR (S.2.2.2 a 1)).getD 0
def tbc (S : MS) (a : Nat) : Int32 := toI (S.2.2.2 a 0)
def tbl (S : MS) (a : Nat) : Nat := (S.2.2.1 (tb S a)).2
def tbok (S : MS) (a : Nat) : Prop := obj S a 3 ∧ S.2.2.2 a 0 = .int (tbc S a) ∧ S.2.2.2 a 1 = .ref (tb S a) ∧ ari S (tb S a) 7 ∧ tbl S a < 100000 ∧ tb S a ≠ a
def tbf (S : MS) (a : Nat) : Nat → Int32 := fun j => toI (S.2.2.2 (tb S a) j)
/-- the place of a row and a column -/
def at_ (f : Nat → Int32) (cols : Int32) (len : Nat) (r c : Int32) : Int32 := if r * cols + c < 0 then 0 else if r * cols + c < Int32.ofNat len then f (r * cols + c).toNatClampNeg else 0
def f_T_at : Sp := fun av S => match av with
  | [.ref a, .int r, .int c] => (tbok S a, some (.int (at_ (tbf S a) (tbc S a) (tbl S a) r c)), S)
  | _ => (False, none, svNil)
def f_T_put : Sp := fun av S => match av with
  | [.ref a, .int r, .int c, .int x] => (tbok S a, none, if r * tbc S a + c < 0 then S else if r * tbc S a + c < Int32.ofNat (tbl S a) then svSet S (tb S a) (r * tbc S a + c).toNatClampNeg (.int x) else S)
  | _ => (False, none, svNil)
def f_T_add : Sp := fun av S => match av with
  | [.ref a, .int r, .int c, .int x] => (tbok S a, none, if r * tbc S a + c < 0 then S else if r * tbc S a + c < Int32.ofNat (tbl S a) then svSet S (tb S a) (r * tbc S a + c).toNatClampNeg (.int (tbf S a (r * tbc S a + c).toNatClampNeg + x)) else S)
  | _ => (False, none, svNil)
set_option maxHeartbeats 4000000 in
theorem ok_T_at : SpecOK 4 f_T_at := SpecOK.of (sp := spL []) (by decide) (by decide) (spL_ok (fun q h => absurd h List.not_mem_nil)) (by
  intro sc av S hp
  unfold f_T_at at hp ⊢
  split at hp
  · rename_i a r c
    obtain ⟨ho, hc, hr, ha, hl, -⟩ := hp
    refine ⟨Nat.le_of_ble_eq_true rfl, allc (of_eq_true (ct1_r _)) (allc (of_eq_true (ct1_i _)) (allc (of_eq_true (ct1_i _)) all0)), Nat.le_refl _, Nat.le_refl _, ?_⟩
    show Vf 4 _ _ 0 [.ref a, .int r, .int c, .null] [] S _
    simp only [rT_at_0, rT_at_1, rT_at_2, rT_at_5, rT_at_6, rT_at_7, rT_at_8, rT_at_9, rT_at_10, rT_at_13, rT_at_14, rT_at_15, rT_at_18, rT_at_19, rT_at_22, rT_at_23, rT_at_26, rT_at_27, rT_at_28, rT_at_31, rT_at_32, ct1_i, ct1_r, ct1_n, true_and, and_true, tl_s, tl_n, le4_0, le4_1, le4_2, le4_3, le4_4, le4_5, isO_r, ho, hc, hr, aok_ari 7 ha, aln_ari ha, ard_ari ha, true_or]
    unfold at_ tbl
    unfold tbl at hl
    by_cases h1 : r * tbc S a + c < 0
    · simp only [if_pos h1, true_and, and_self]
    · by_cases h2 : r * tbc S a + c < Int32.ofNat (S.2.2.1 (tb S a)).2
      · simp only [if_neg h1, if_pos h2, iin_of h1 h2 (by omega), tbf, true_and, and_self]
      · simp only [if_neg h1, if_neg h2, true_and, and_self]
  · exact absurd hp id)
set_option maxHeartbeats 4000000 in
theorem ok_T_put : SpecOK 3 f_T_put := SpecOK.of (sp := spL []) (by decide) (by decide) (spL_ok (fun q h => absurd h List.not_mem_nil)) (by
  intro sc av S hp
  unfold f_T_put at hp ⊢
  split at hp
  · rename_i a r c x
    obtain ⟨ho, hc, hr, ha, hl, -⟩ := hp
    unfold tbl at hl ⊢
    refine ⟨Nat.le_of_ble_eq_true rfl, allc (of_eq_true (ct1_r _)) (allc (of_eq_true (ct1_i _)) (allc (of_eq_true (ct1_i _)) (allc (of_eq_true (ct1_i _)) all0))), ?_, ?_, ?_⟩
    · simp only; split; exact Nat.le_refl _; split; exact Nat.le_refl _; exact Nat.le_refl _
    · simp only; split; exact Nat.le_refl _; split; exact Nat.le_refl _; exact Nat.le_refl _
    show Vf 3 _ _ 0 [.ref a, .int r, .int c, .int x, .null] [] S _
    simp only [rT_put_0, rT_put_1, rT_put_2, rT_put_5, rT_put_6, rT_put_7, rT_put_8, rT_put_10, rT_put_12, rT_put_15, rT_put_17, rT_put_18, rT_put_21, rT_put_22, rT_put_25, rT_put_26, rT_put_29, rT_put_31, rT_put_32, rT_put_33, ct1_i, ct1_r, ct1_n, true_and, and_true, tl_s, tl_n, le4_0, le4_1, le4_2, le4_3, le4_4, le4_5, isO_r, ho, hc, hr, aok_ari 7 ha, aln_ari ha, ard_ari ha, eq_true ha, true_or]
    by_cases h1 : r * tbc S a + c < 0
    · simp only [if_pos h1, true_and, and_self]
    · by_cases h2 : r * tbc S a + c < Int32.ofNat (S.2.2.1 (tb S a)).2
      · simp only [if_neg h1, if_pos h2, iin_of h1 h2 (by omega), true_and, and_self]
      · simp only [if_neg h1, if_neg h2, true_and, and_self]
  · exact absurd hp id)
set_option maxHeartbeats 4000000 in
theorem ok_T_add : SpecOK 5 f_T_add := SpecOK.of (sp := spL []) (by decide) (by decide) (spL_ok (fun q h => absurd h List.not_mem_nil)) (by
  intro sc av S hp
  unfold f_T_add at hp ⊢
  split at hp
  · rename_i a r c x
    obtain ⟨ho, hc, hr, ha, hl, -⟩ := hp
    unfold tbl at hl ⊢
    refine ⟨Nat.le_of_ble_eq_true rfl, allc (of_eq_true (ct1_r _)) (allc (of_eq_true (ct1_i _)) (allc (of_eq_true (ct1_i _)) (allc (of_eq_true (ct1_i _)) all0))), ?_, ?_, ?_⟩
    · simp only; split; exact Nat.le_refl _; split; exact Nat.le_refl _; exact Nat.le_refl _
    · simp only; split; exact Nat.le_refl _; split; exact Nat.le_refl _; exact Nat.le_refl _
    show Vf 5 _ _ 0 [.ref a, .int r, .int c, .int x, .null] [] S _
    simp only [rT_add_0, rT_add_1, rT_add_2, rT_add_5, rT_add_6, rT_add_7, rT_add_8, rT_add_10, rT_add_12, rT_add_15, rT_add_17, rT_add_18, rT_add_21, rT_add_22, rT_add_25, rT_add_26, rT_add_29, rT_add_31, rT_add_32, rT_add_33, rT_add_34, rT_add_35, rT_add_36, ct1_i, ct1_r, ct1_n, true_and, and_true, tl_s, tl_n, le4_0, le4_1, le4_2, le4_3, le4_4, le4_5, isO_r, ho, hc, hr, aok_ari 7 ha, aln_ari ha, ard_ari ha, eq_true ha, true_or]
    by_cases h1 : r * tbc S a + c < 0
    · simp only [if_pos h1, true_and, and_self]
    · by_cases h2 : r * tbc S a + c < Int32.ofNat (S.2.2.1 (tb S a)).2
      · simp only [if_neg h1, if_pos h2, iin_of h1 h2 (by omega), true_and, and_self, tbf]
      · simp only [if_neg h1, if_neg h2, true_and, and_self]
  · exact absurd hp id)
