/-! THE LAW: its numbers (low, cell), the cells of the row that it keeps -/
def lowF (v n : Int32) : Int32 := (v &&& 2147483647) - (v &&& 2147483647) / n * n
theorem and_lo (v : Int32) : ∃ x, x < 2 ^ 31 ∧ v &&& 2147483647 = oN x := by
  have h31 : (2147483647 : Int32).toUInt32.toNat = 2 ^ 31 - 1 := by decide
  have e : (v &&& 2147483647).toUInt32.toNat = v.toUInt32.toNat &&& (2 ^ 31 - 1) := by
    rw [Int32.toUInt32_and, UInt32.toNat_and, h31]
  refine ⟨(v &&& 2147483647).toUInt32.toNat, ?_, (oN_u _).symm⟩
  rw [e, Nat.and_two_pow_sub_one_eq_mod]
  exact Nat.mod_lt _ (by decide)
theorem oN_div {a n : Nat} (ha : a < 2 ^ 31) (hn : n < 2 ^ 31) : oN a / oN n = oN (a / n) := by
  have h3 : a / n ≤ a := Nat.div_le_self a n
  apply Int32.toInt_inj.mp
  rw [Int32.toInt_div, oN_toInt ha, oN_toInt hn, oN_toInt (by omega)]
  have e : Int.tdiv (a : Int) (n : Int) = ((a / n : Nat) : Int) := (Int.ofNat_tdiv a n).symm
  rw [e]
  clear e
  generalize a / n = q at h3 ⊢
  rw [Int.bmod_eq_of_le (by omega) (by omega)]
theorem lowF_n (v : Int32) {n : Nat} (h0 : 0 < n) (hn : n ≤ 1000) : ∃ r, r < n ∧ lowF v (oN n) = oN r := by
  obtain ⟨x, hx, e⟩ := and_lo v
  refine ⟨x % n, Nat.mod_lt _ h0, ?_⟩
  unfold lowF
  rw [e, oN_div hx (by omega), oN_mul, oN_sub (Nat.div_mul_le_self x n)]
  exact congrArg oN (by have := Nat.div_add_mod x n; rw [Nat.mul_comm] at this; omega)

def sp_L_low : Nat → Sp := spL []
def f_L_low : Sp := fS 2 (gF2 (fun v n => (¬ n = 0, some (.int (lowF v n)))))
theorem q_L_low {v n : Int32} {S : MS} : f_L_low [.int v, .int n] S = (¬ n = 0, some (.int (lowF v n)), S) := fS2_at
set_option maxHeartbeats 4000000 in
set_option maxRecDepth 20000 in
theorem ok_L_low : SpecOK 95 f_L_low := SpecOK.of (sp := sp_L_low) (by decide) (by decide) (spL_ok (fun q h => absurd h List.not_mem_nil)) (Does_fS2 (Nat.le_of_ble_eq_true rfl) (fun e v n S hp => by
  show Vf 95 _ _ 0 [.int v, .int n] [] S _

  simp only [rL_low_0, rL_low_1, rL_low_3, rL_low_4, rL_low_5, rL_low_6, ct1_i, ct1_r, ct1_n, true_and, and_true, tl_s, tl_n, le4_0, le4_1, le4_2, le4_3, le4_4, le4_5, isO_r]
  exact ⟨hp, rfl⟩))
theorem q_low {v n : Int32} {S : MS} (h : ¬ n = 0) : f_L_low [.int v, .int n] S = (True, some (.int (lowF v n)), S) := by
  rw [q_L_low, eq_true h]
/-- the script's number at a place -/
def celF (sc : Nat × (Nat → Int32)) (k : Int32) : Int32 := if k < Int32.ofNat sc.1 then sc.2 k.toNatClampNeg else 40503 * k + 977
def f_L_cell (sc : Nat × (Nat → Int32)) : Sp := fun av S => match av with
  | [.ref a, .int k] => ((a = 2000 ∧ ¬ k < 0 ∧ sc.1 ≤ 260), some (.int (celF sc k)), S)
  | _ => (False, none, svNil)
theorem q_L_cell {sc : Nat × (Nat → Int32)} {k : Int32} {S : MS} (h : ¬ k < 0) (hL : sc.1 ≤ 260) : f_L_cell sc [.ref 2000, .int k] S = (True, some (.int (celF sc k)), S) := by
  show ((2000 = 2000 ∧ ¬ k < 0 ∧ sc.1 ≤ 260), some (Value.int (celF sc k)), S) = _
  rw [eq_true (⟨rfl, h, hL⟩ : 2000 = 2000 ∧ ¬ k < 0 ∧ sc.1 ≤ 260)]
theorem sc_al {x : Nat × Nat} {sc : Nat × (Nat → Int32)} {S : MS} : aln (x, sc) S 2000 = sc.1 := rfl
theorem sc_rd {x : Nat × Nat} {sc : Nat × (Nat → Int32)} {S : MS} {j : Nat} : ard (x, sc) S 2000 j = sc.2 j := rfl
theorem sc_ok {S : MS} : aok S 2000 7 = True := eq_true (by unfold aok; rw [if_neg (by omega)]; exact ⟨by rw [if_neg (by omega)], rfl⟩)
theorem spE_ok {sc : Nat × (Nat → Int32)} : ∀ z, SpecAt sc z (spL [] z) := fun z => spL_ok (fun q h => absurd h List.not_mem_nil) z sc
set_option maxHeartbeats 1000000 in
theorem ok_L_cell (sc : Nat × (Nat → Int32)) : SpecAt sc 94 (f_L_cell sc) := SpecAt.of (sp := spL []) (by decide) (by decide) spE_ok (by
  intro av S hp
  unfold f_L_cell at hp ⊢
  split at hp
  · rename_i a k
    obtain ⟨ha, h1, h2⟩ := hp
    subst ha
    refine ⟨Nat.le_of_ble_eq_true rfl, allc (of_eq_true (ct1_r _)) (allc (of_eq_true (ct1_i _)) all0), Nat.le_refl _, Nat.le_refl _, ?_⟩
    show Vf 94 _ _ 0 [.ref 2000, .int k] [] S _
    simp only [rL_cell_0, rL_cell_1, rL_cell_2, rL_cell_3, rL_cell_6, rL_cell_7, rL_cell_8, rL_cell_9, rL_cell_12, rL_cell_14, rL_cell_15, rL_cell_16, rL_cell_19, rL_cell_20, ct1_i, ct1_r, ct1_n, true_and, and_true, tl_s, tl_n, le4_0, le4_1, le4_2, le4_3, le4_4, le4_5, isO_r, sc_al, sc_rd, sc_ok, true_or]
    unfold celF
    by_cases h3 : k < Int32.ofNat sc.1
    · simp only [if_pos h3, iin_of h1 h3 (show sc.1 < 2 ^ 31 by omega), true_and, and_self]
    · simp only [if_neg h3, true_and, and_self]
  · exact absurd hp id)
/-- lists of what is called, at a script -/
theorem spL_at {sc : Nat × (Nat → Int32)} {L : List (Nat × Sp)} (h : ∀ q ∈ L, SpecAt sc q.1 q.2) : ∀ z, SpecAt sc z (spL L z) := by
  intro z
  unfold spL
  split
  · rename_i q hq
    have h1 := h q (List.mem_of_find?_eq_some hq)
    have h2 := List.find?_some hq
    simp only [beq_iff_eq] at h2
    rw [← h2]
    exact h1
  · exact SpecOK.no z sc
theorem sd5i (a b c d e : Int32) : sd8 [.int a, .int b, .int c, .int d, .int e] = True := eq_true (Nat.le_of_ble_eq_true rfl)
theorem sd5 (a : Nat) (b c d e : Int32) : sd8 [.int b, .int c, .int d, .int e, .ref a] = True := eq_true (Nat.le_of_ble_eq_true rfl)
