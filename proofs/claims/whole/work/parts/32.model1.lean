/-! THE CHECK: places, copies, small methods -/
/-- n cells of a row are laid behind one another -/
def cpL (k j : Fin 9) (d e : Nat) : Nat → Nat → HV → HV
  | _, 0, v => v
  | n, m + 1, v => cpL k j d e (n + 1) m (up2 v k (d + n) (v j (e + n)))
theorem cpL_0 {k j : Fin 9} {d e n : Nat} {v : HV} : cpL k j d e n 0 v = v := rfl
theorem cpL_s {k j : Fin 9} {d e n m : Nat} {v : HV} : cpL k j d e n (m + 1) v = cpL k j d e (n + 1) m (up2 v k (d + n) (v j (e + n))) := rfl
theorem cpL_eq {k j : Fin 9} {d e : Nat} (h : j ≠ k ∨ d < e) : ∀ (m n : Nat) (v : HV) (k' : Fin 9) (t : Nat), cpL k j d e n m v k' t = if k' = k ∧ d + n ≤ t ∧ t < d + n + m then v j (e + (t - d)) else v k' t := by
  intro m
  induction m with
  | zero => intro n v k' t; rw [cpL_0, if_neg (by omega)]
  | succ m ih =>
    intro n v k' t
    rw [cpL_s, ih]
    by_cases hk : k' = k
    · by_cases h1 : d + (n + 1) ≤ t ∧ t < d + (n + 1) + m
      · rw [if_pos ⟨hk, h1.1, h1.2⟩, if_pos ⟨hk, by omega, by omega⟩]
        unfold up2
        rcases h with h | h
        · rw [if_neg (fun q => h q.1)]
        · rw [if_neg (fun q => by have := q.2; omega)]
      · rw [if_neg (fun q => h1 ⟨q.2.1, q.2.2⟩)]
        by_cases h2 : t = d + n
        · subst h2
          rw [if_pos ⟨hk, by omega, by omega⟩]
          unfold up2
          rw [if_pos ⟨hk, rfl⟩, show e + (d + n - d) = e + n by omega]
        · rw [if_neg (fun q => h1 (by omega))]
          unfold up2
          rw [if_neg (fun q => h2 q.2)]
    · rw [if_neg (fun q => hk q.1), if_neg (fun q => hk q.1)]
      unfold up2
      rw [if_neg (fun q => hk q.1)]
theorem oNn {n len : Nat} (h : n < len) (hl : len < 2 ^ 31) : (oN n).toNatClampNeg = n := oN_nat (by omega)
theorem i1289 (K n : Nat) : 1289 * oN K + oN n = oN (1289 * K + n) := by
  rw [show (1289 : Int32) = oN 1289 from rfl, oN_mul, oN_add]
theorem i1289' (n : Nat) : 1289 + oN n = oN (1289 + n) := by
  rw [show (1289 : Int32) = oN 1289 from rfl, oN_add]

def sp_M_tail : Nat → Sp := spL []
def f_M_tail : Sp := fS 2 (gF2 (fun x y => (True, some (.int (1169 + 3 * x + y)))))
theorem q_M_tail {x y : Int32} {S : MS} : f_M_tail [.int x, .int y] S = (True, some (.int (1169 + 3 * x + y)), S) := fS2_at
set_option maxHeartbeats 4000000 in
set_option maxRecDepth 20000 in
theorem ok_M_tail : SpecOK 94 f_M_tail := SpecOK.of (sp := sp_M_tail) (by decide) (by decide) (spL_ok (fun q h => absurd h List.not_mem_nil)) (Does_fS2 (Nat.le_of_ble_eq_true rfl) (fun e x y S hp => by
  show Vf 94 _ _ 0 [.int x, .int y] [] S _

  simp only [rM_tail_0, rM_tail_3, rM_tail_4, rM_tail_5, rM_tail_6, rM_tail_7, rM_tail_8, rM_tail_9, ct1_i, ct1_r, ct1_n, true_and, and_true, tl_s, tl_n, le4_0, le4_1, le4_2, le4_3, le4_4, le4_5, isO_r]))
def sp_M_atKite : Nat → Sp := spL []
def f_M_atKite : Sp := fS 2 (gF2 (fun x y => (True, some (.int (1017 + 7 * x + y)))))
theorem q_M_atKite {x y : Int32} {S : MS} : f_M_atKite [.int x, .int y] S = (True, some (.int (1017 + 7 * x + y)), S) := fS2_at
set_option maxHeartbeats 4000000 in
set_option maxRecDepth 20000 in
theorem ok_M_atKite : SpecOK 99 f_M_atKite := SpecOK.of (sp := sp_M_atKite) (by decide) (by decide) (spL_ok (fun q h => absurd h List.not_mem_nil)) (Does_fS2 (Nat.le_of_ble_eq_true rfl) (fun e x y S hp => by
  show Vf 99 _ _ 0 [.int x, .int y] [] S _

  simp only [rM_atKite_0, rM_atKite_3, rM_atKite_5, rM_atKite_6, rM_atKite_7, rM_atKite_8, rM_atKite_9, rM_atKite_10, ct1_i, ct1_r, ct1_n, true_and, and_true, tl_s, tl_n, le4_0, le4_1, le4_2, le4_3, le4_4, le4_5, isO_r]))
def sp_M_atSpool : Nat → Sp := spL []
def f_M_atSpool : Sp := fS 2 (gF2 (fun x y => (True, some (.int (1129 + 4 * x + y)))))
theorem q_M_atSpool {x y : Int32} {S : MS} : f_M_atSpool [.int x, .int y] S = (True, some (.int (1129 + 4 * x + y)), S) := fS2_at
set_option maxHeartbeats 4000000 in
set_option maxRecDepth 20000 in
theorem ok_M_atSpool : SpecOK 100 f_M_atSpool := SpecOK.of (sp := sp_M_atSpool) (by decide) (by decide) (spL_ok (fun q h => absurd h List.not_mem_nil)) (Does_fS2 (Nat.le_of_ble_eq_true rfl) (fun e x y S hp => by
  show Vf 100 _ _ 0 [.int x, .int y] [] S _

  simp only [rM_atSpool_0, rM_atSpool_3, rM_atSpool_4, rM_atSpool_5, rM_atSpool_6, rM_atSpool_7, rM_atSpool_8, rM_atSpool_9, ct1_i, ct1_r, ct1_n, true_and, and_true, tl_s, tl_n, le4_0, le4_1, le4_2, le4_3, le4_4, le4_5, isO_r]))
def sp_M_atHire : Nat → Sp := spL []
def f_M_atHire : Sp := fS 2 (gF2 (fun x y => (True, some (.int (1187 + 7 * x + y)))))
theorem q_M_atHire {x y : Int32} {S : MS} : f_M_atHire [.int x, .int y] S = (True, some (.int (1187 + 7 * x + y)), S) := fS2_at
set_option maxHeartbeats 4000000 in
set_option maxRecDepth 20000 in
theorem ok_M_atHire : SpecOK 103 f_M_atHire := SpecOK.of (sp := sp_M_atHire) (by decide) (by decide) (spL_ok (fun q h => absurd h List.not_mem_nil)) (Does_fS2 (Nat.le_of_ble_eq_true rfl) (fun e x y S hp => by
  show Vf 103 _ _ 0 [.int x, .int y] [] S _

  simp only [rM_atHire_0, rM_atHire_3, rM_atHire_5, rM_atHire_6, rM_atHire_7, rM_atHire_8, rM_atHire_9, rM_atHire_10, ct1_i, ct1_r, ct1_n, true_and, and_true, tl_s, tl_n, le4_0, le4_1, le4_2, le4_3, le4_4, le4_5, isO_r]))
def sp_M_in : Nat → Sp := spL []
def f_M_in : Sp := fS 3 (gF3 (fun x a b => (True, some (.int (bi (wi x a b))))))
theorem q_M_in {x a b : Int32} {S : MS} : f_M_in [.int x, .int a, .int b] S = (True, some (.int (bi (wi x a b))), S) := fS3_at
set_option maxHeartbeats 4000000 in
set_option maxRecDepth 20000 in
theorem ok_M_in : SpecOK 95 f_M_in := SpecOK.of (sp := sp_M_in) (by decide) (by decide) (spL_ok (fun q h => absurd h List.not_mem_nil)) (Does_fS3 (Nat.le_of_ble_eq_true rfl) (fun e x a b S hp => by
  show Vf 95 _ _ 0 [.int x, .int a, .int b] [] S _

  simp only [rM_in_0, rM_in_1, rM_in_2, rM_in_5, rM_in_6, rM_in_7, rM_in_10, rM_in_11, rM_in_14, rM_in_15, ct1_i, ct1_r, ct1_n, true_and, and_true, tl_s, tl_n, le4_0, le4_1, le4_2, le4_3, le4_4, le4_5, isO_r]
  by_cases h1 : x < a
  · rw [bi_f (fun q => q.1 h1), if_pos h1]
    exact ⟨rfl, rfl⟩
  · rw [if_neg h1]
    by_cases h2 : b < x
    · rw [bi_f (fun q => q.2 h2), if_pos h2]
      exact ⟨rfl, rfl⟩
    · rw [bi_t ⟨h1, h2⟩, if_neg h2]
      exact ⟨rfl, rfl⟩))
def sp_M_has : Nat → Sp := spL []
def f_M_has : Sp := fS 2 (gF2 (fun s c => (True, some (.int (bi ((s >>> (c &&& 31)) &&& 1 = 1))))))
theorem q_M_has {s c : Int32} {S : MS} : f_M_has [.int s, .int c] S = (True, some (.int (bi ((s >>> (c &&& 31)) &&& 1 = 1))), S) := fS2_at
set_option maxHeartbeats 4000000 in
set_option maxRecDepth 20000 in
theorem ok_M_has : SpecOK 102 f_M_has := SpecOK.of (sp := sp_M_has) (by decide) (by decide) (spL_ok (fun q h => absurd h List.not_mem_nil)) (Does_fS2 (Nat.le_of_ble_eq_true rfl) (fun e s c S hp => by
  show Vf 102 _ _ 0 [.int s, .int c] [] S _

  simp only [rM_has_0, rM_has_1, rM_has_2, rM_has_3, rM_has_4, rM_has_5, rM_has_6, rM_has_9, rM_has_10, rM_has_13, rM_has_14, ct1_i, ct1_r, ct1_n, true_and, and_true, tl_s, tl_n, le4_0, le4_1, le4_2, le4_3, le4_4, le4_5, isO_r]
  by_cases h : (s >>> (c &&& 31)) &&& 1 = 1
  · rw [bi_t h, if_pos h]
    exact ⟨rfl, rfl⟩
  · rw [bi_f h, if_neg h]
    exact ⟨rfl, rfl⟩))
def sp_M_isColour : Nat → Sp := spL [(95, f_M_in)]
theorem sp_M_isColour_M_in : sp_M_isColour 95 = f_M_in := rfl
def f_M_isColour : Sp := fS 1 (gF1 (fun x => (True, some (.int (bi (wi x 0 5))))))
theorem q_M_isColour {x : Int32} {S : MS} : f_M_isColour [.int x] S = (True, some (.int (bi (wi x 0 5))), S) := fS1_at
set_option maxHeartbeats 4000000 in
set_option maxRecDepth 20000 in
theorem ok_M_isColour : SpecOK 118 f_M_isColour := SpecOK.of (sp := sp_M_isColour) (by decide) (by decide) (spL_ok (List.forall_mem_cons.mpr ⟨ok_M_in, (fun q h => absurd h List.not_mem_nil)⟩)) (Does_fS1 (Nat.le_of_ble_eq_true rfl) (fun e x S hp => by
  show Vf 118 _ _ 0 [.int x] [] S _

  simp only [rM_isColour_0, rM_isColour_1, rM_isColour_2, rM_isColour_3, rM_isColour_6, ct1_i, ct1_r, ct1_n, true_and, and_true, tl_s, tl_n, le4_0, le4_1, le4_2, le4_3, le4_4, le4_5, isO_r, cl_, sp_M_isColour_M_in, q_M_in, le_rN, rb_bi, Option.toList, List.cons_append, List.nil_append]))
abbrev ihP (m h t : Int32) : Prop := wi m 1 300 ∧ wi h 1 12 ∧ wi t 0 63
def sp_M_isHire : Nat → Sp := spL [(95, f_M_in)]
theorem sp_M_isHire_M_in : sp_M_isHire 95 = f_M_in := rfl
def f_M_isHire : Sp := fS 3 (gF3 (fun m h t => (True, some (.int (bi (ihP m h t))))))
theorem q_M_isHire {m h t : Int32} {S : MS} : f_M_isHire [.int m, .int h, .int t] S = (True, some (.int (bi (ihP m h t))), S) := fS3_at
set_option maxHeartbeats 4000000 in
set_option maxRecDepth 20000 in
theorem ok_M_isHire : SpecOK 120 f_M_isHire := SpecOK.of (sp := sp_M_isHire) (by decide) (by decide) (spL_ok (List.forall_mem_cons.mpr ⟨ok_M_in, (fun q h => absurd h List.not_mem_nil)⟩)) (Does_fS3 (Nat.le_of_ble_eq_true rfl) (fun e m h t S hp => by
  show Vf 120 _ _ 0 [.int m, .int h, .int t] [] S _

  refine Vf_q ?_ ⟨rfl, rfl⟩
  intro Q hQ
  simp only [rM_isHire_0, rM_isHire_1, rM_isHire_2, rM_isHire_5, rM_isHire_8, rM_isHire_11, rM_isHire_12, rM_isHire_13, rM_isHire_15, rM_isHire_18, rM_isHire_21, rM_isHire_22, rM_isHire_23, rM_isHire_25, rM_isHire_28, rM_isHire_31, rM_isHire_32, rM_isHire_35, rM_isHire_36, ct1_i, ct1_r, ct1_n, true_and, and_true, tl_s, tl_n, le4_0, le4_1, le4_2, le4_3, le4_4, le4_5, isO_r, cl_, sp_M_isHire_M_in, q_M_in, le_rN, rb_bi, bi_eq0, ite_not, rb_0, rb_1, Option.toList, List.cons_append, List.nil_append]
  rcases Decidable.em (wi m 1 300) with h1 | h1
  case inr => rw [if_neg h1]; rw [bi_f (fun q => h1 q.1)] at hQ; exact hQ
  rw [if_pos h1]
  rcases Decidable.em (wi h 1 12) with h2 | h2
  case inr => rw [if_neg h2]; rw [bi_f (fun q => h2 q.2.1)] at hQ; exact hQ
  rw [if_pos h2]
  rcases Decidable.em (wi t 0 63) with h3 | h3
  case inr => rw [if_neg h3]; rw [bi_f (fun q => h3 q.2.2)] at hQ; exact hQ
  rw [if_pos h3]
  rw [bi_t ⟨h1, h2, h3⟩] at hQ
  exact hQ))
def mlF (x : Int32) : Int32 := if x = 0 then 1 else if x = 1 then 20 else 0
def mmF (x : Int32) : Int32 := if x = 0 then 13 else if x = 1 then 999 else if x = 4 then 50 else 99
def sp_M_least : Nat → Sp := spL []
def f_M_least : Sp := fS 1 (gF1 (fun x => (True, some (.int (mlF x)))))
theorem q_M_least {x : Int32} {S : MS} : f_M_least [.int x] S = (True, some (.int (mlF x)), S) := fS1_at
set_option maxHeartbeats 4000000 in
set_option maxRecDepth 20000 in
theorem ok_M_least : SpecOK 105 f_M_least := SpecOK.of (sp := sp_M_least) (by decide) (by decide) (spL_ok (fun q h => absurd h List.not_mem_nil)) (Does_fS1 (Nat.le_of_ble_eq_true rfl) (fun e x S hp => by
  show Vf 105 _ _ 0 [.int x] [] S _

  refine Vf_q ?_ ⟨rfl, rfl⟩
  intro Q hQ
  simp only [rM_least_0, rM_least_1, rM_least_4, rM_least_5, rM_least_8, rM_least_9, rM_least_10, rM_least_13, rM_least_15, rM_least_18, rM_least_19, ct1_i, ct1_r, ct1_n, true_and, and_true, tl_s, tl_n, le4_0, le4_1, le4_2, le4_3, le4_4, le4_5, isO_r]
  unfold mlF at hQ
  rcases Decidable.em (x = 0) with h1 | h1
  case inl => rw [if_pos h1] at hQ ⊢; exact hQ
  rw [if_neg h1] at hQ ⊢
  rcases Decidable.em (x = 1) with h2 | h2
  case inl => rw [if_pos h2] at hQ ⊢; exact hQ
  rw [if_neg h2] at hQ ⊢
  exact hQ))
def sp_M_most : Nat → Sp := spL []
def f_M_most : Sp := fS 1 (gF1 (fun x => (True, some (.int (mmF x)))))
theorem q_M_most {x : Int32} {S : MS} : f_M_most [.int x] S = (True, some (.int (mmF x)), S) := fS1_at
set_option maxHeartbeats 4000000 in
set_option maxRecDepth 20000 in
theorem ok_M_most : SpecOK 106 f_M_most := SpecOK.of (sp := sp_M_most) (by decide) (by decide) (spL_ok (fun q h => absurd h List.not_mem_nil)) (Does_fS1 (Nat.le_of_ble_eq_true rfl) (fun e x S hp => by
  show Vf 106 _ _ 0 [.int x] [] S _

  refine Vf_q ?_ ⟨rfl, rfl⟩
  intro Q hQ
  simp only [rM_most_0, rM_most_1, rM_most_4, rM_most_6, rM_most_9, rM_most_10, rM_most_11, rM_most_14, rM_most_17, rM_most_20, rM_most_21, rM_most_22, rM_most_25, rM_most_27, rM_most_30, rM_most_32, ct1_i, ct1_r, ct1_n, true_and, and_true, tl_s, tl_n, le4_0, le4_1, le4_2, le4_3, le4_4, le4_5, isO_r]
  unfold mmF at hQ
  rcases Decidable.em (x = 0) with h1 | h1
  case inl => rw [if_pos h1] at hQ ⊢; exact hQ
  rw [if_neg h1] at hQ ⊢
  rcases Decidable.em (x = 1) with h2 | h2
  case inl => rw [if_pos h2] at hQ ⊢; exact hQ
  rw [if_neg h2] at hQ ⊢
  rcases Decidable.em (x = 4) with h3 | h3
  case inl => rw [if_pos h3] at hQ ⊢; exact hQ
  rw [if_neg h3] at hQ ⊢
  exact hQ))
def btF (s : Int32) : Nat → Nat → Int32 → Int32
  | _, 0, v => v
  | c, n + 1, v => btF s (c + 1) n (v + bit s c)
theorem c6 : ¬ oN 6 < 6 := by decide
theorem lt6 {n : Nat} (h : n < 6) : oN n < 6 := by show oN n < oN 6; rw [oN_lt (by omega) (by decide)]; exact h
set_option maxHeartbeats 4000000 in
set_option maxRecDepth 20000 in
theorem lp_M_bits {sp : Nat → Sp} {e : En} {S : MS} {s : Int32} {Q : Option Value → MS → Prop} : ∀ (m n : Nat) (v : Int32), n + m = 6 → Q (some (.int (btF s n m v))) S → Vf 104 sp e 4 [.int s, .int v, .int (oN n)] [] S Q := by
  intro m
  induction m with
  | zero =>
    intro n v hn hQ
    have : n = 6 := by omega
    subst this
    rw [rM_bits_4]
    simp only [rM_bits_5, rM_bits_7, rM_bits_10, rM_bits_11, rM_bits_12, rM_bits_13, rM_bits_14, rM_bits_15, rM_bits_16, rM_bits_17, rM_bits_18, rM_bits_21, rM_bits_24, rM_bits_25, ct1_i, ct1_r, ct1_n, true_and, and_true, tl_s, tl_n, le4_0, le4_1, le4_2, le4_3, le4_4, le4_5, isO_r, if_neg c6]
    exact hQ
  | succ m ih =>
    intro n v hn hQ
    rw [rM_bits_4]
    simp only [rM_bits_5, rM_bits_7, rM_bits_10, rM_bits_11, rM_bits_12, rM_bits_13, rM_bits_14, rM_bits_15, rM_bits_16, rM_bits_17, rM_bits_18, rM_bits_21, rM_bits_24, rM_bits_25, ct1_i, ct1_r, ct1_n, true_and, and_true, tl_s, tl_n, le4_0, le4_1, le4_2, le4_3, le4_4, le4_5, isO_r, if_pos (lt6 (show n < 6 by omega)), oN_succ]
    exact ih (n + 1) _ (by omega) hQ
def sp_M_bits : Nat → Sp := spL []
def f_M_bits : Sp := fS 1 (gF1 (fun s => (True, some (.int (btF s 0 6 0)))))
theorem q_M_bits {s : Int32} {S : MS} : f_M_bits [.int s] S = (True, some (.int (btF s 0 6 0)), S) := fS1_at
set_option maxHeartbeats 4000000 in
set_option maxRecDepth 20000 in
theorem ok_M_bits : SpecOK 104 f_M_bits := SpecOK.of (sp := sp_M_bits) (by decide) (by decide) (spL_ok (fun q h => absurd h List.not_mem_nil)) (Does_fS1 (Nat.le_of_ble_eq_true rfl) (fun e s S hp => by
  show Vf 104 _ _ 0 [.int s, .null, .null] [] S _

  refine Vf_q ?_ ⟨rfl, rfl⟩
  intro Q hQ
  simp only [rM_bits_0, rM_bits_1, rM_bits_2, rM_bits_3, ct1_i, ct1_r, ct1_n, true_and, and_true, tl_s, tl_n, le4_0, le4_1, le4_2, le4_3, le4_4, le4_5, isO_r]
  exact lp_M_bits 6 0 0 rfl hQ))
set_option maxHeartbeats 4000000 in
set_option maxRecDepth 20000 in
theorem lp_M_looks_2 {sp : Nat → Sp} {sc : Nat × (Nat → Int32)} {x y z : Int32} {c : Nat} (hc : c < 4) {Q : Option Value → MS → Prop} : ∀ (m n : Nat) (σ : SG), n + m = 1289 → Vf 96 sp ((134, SLT), sc) 27 [.ref 126, .int (oN 1289)] [] (emb (up1 σ 8 (cpL 3 1 (0) (0) n m (σ 8)))) Q → Vf 96 sp ((134, SLT), sc) 2 [.ref 126, .int (oN n)] [] (emb σ) Q := by
  intro m
  induction m with
  | zero =>
    intro n σ hn hQ
    have : n = 1289 := by omega
    subst this
    rw [cpL_0, up1_self] at hQ
    rw [rM_looks_2]
    simp only [rM_looks_3, rM_looks_6, rM_looks_9, rM_looks_10, rM_looks_13, rM_looks_14, rM_looks_15, rM_looks_18, rM_looks_19, rM_looks_20, rM_looks_21, rM_looks_24, ct1_i, ct1_r, ct1_n, true_and, and_true, tl_s, tl_n, le4_0, le4_1, le4_2, le4_3, le4_4, le4_5, isO_r, show ¬ oN 1289 < 1289 by decide, if_false]
    exact hQ
  | succ m ih =>
    intro n σ hn hQ
    have hlt : oN n < 1289 := by show oN n < oN 1289; rw [oN_lt (by omega) (by decide)]; omega
    rw [cpL_s] at hQ
    try simp only [Nat.zero_add] at hQ
    rw [rM_looks_2]
    simp only [rM_looks_3, rM_looks_6, rM_looks_9, rM_looks_10, rM_looks_13, rM_looks_14, rM_looks_15, rM_looks_18, rM_looks_19, rM_looks_20, rM_looks_21, rM_looks_24, ct1_i, ct1_r, ct1_n, true_and, and_true, tl_s, tl_n, le4_0, le4_1, le4_2, le4_3, le4_4, le4_5, isO_r, obM, mr_0, mr_1, mr_2, mr_3, mr_5, mr_7, mi_2, mi_1, m1_ok, m1_al, m1_rd, m3_re, m3_ln, m3_s, oNn (show n < 1289 by omega) (by decide), iin_n (show n < 1289 by omega) (by decide), Nat.zero_add, if_pos hlt, oN_succ]
    refine ih (n + 1) _ (by omega) ?_
    rw [up1_at, up1_up1]
    exact hQ

set_option maxHeartbeats 4000000 in
set_option maxRecDepth 20000 in
theorem lp_M_putAside_2 {sp : Nat → Sp} {sc : Nat × (Nat → Int32)} {x y z : Int32} {c : Nat} (hc : c < 4) {Q : Option Value → MS → Prop} : ∀ (m n : Nat) (σ : SG), n + m = 1289 → Vf 112 sp ((134, SLT), sc) 27 [.ref 126, .int (oN 1289)] [] (emb (up1 σ 8 (cpL 2 1 (0) (0) n m (σ 8)))) Q → Vf 112 sp ((134, SLT), sc) 2 [.ref 126, .int (oN n)] [] (emb σ) Q := by
  intro m
  induction m with
  | zero =>
    intro n σ hn hQ
    have : n = 1289 := by omega
    subst this
    rw [cpL_0, up1_self] at hQ
    rw [rM_putAside_2]
    simp only [rM_putAside_3, rM_putAside_6, rM_putAside_9, rM_putAside_10, rM_putAside_13, rM_putAside_14, rM_putAside_15, rM_putAside_18, rM_putAside_19, rM_putAside_20, rM_putAside_21, rM_putAside_24, ct1_i, ct1_r, ct1_n, true_and, and_true, tl_s, tl_n, le4_0, le4_1, le4_2, le4_3, le4_4, le4_5, isO_r, show ¬ oN 1289 < 1289 by decide, if_false]
    exact hQ
  | succ m ih =>
    intro n σ hn hQ
    have hlt : oN n < 1289 := by show oN n < oN 1289; rw [oN_lt (by omega) (by decide)]; omega
    rw [cpL_s] at hQ
    try simp only [Nat.zero_add] at hQ
    rw [rM_putAside_2]
    simp only [rM_putAside_3, rM_putAside_6, rM_putAside_9, rM_putAside_10, rM_putAside_13, rM_putAside_14, rM_putAside_15, rM_putAside_18, rM_putAside_19, rM_putAside_20, rM_putAside_21, rM_putAside_24, ct1_i, ct1_r, ct1_n, true_and, and_true, tl_s, tl_n, le4_0, le4_1, le4_2, le4_3, le4_4, le4_5, isO_r, obM, mr_0, mr_1, mr_2, mr_3, mr_5, mr_7, mi_2, mi_1, m1_ok, m1_al, m1_rd, m2_re, m2_ln, m2_s, oNn (show n < 1289 by omega) (by decide), iin_n (show n < 1289 by omega) (by decide), Nat.zero_add, if_pos hlt, oN_succ]
    refine ih (n + 1) _ (by omega) ?_
    rw [up1_at, up1_up1]
    exact hQ

set_option maxHeartbeats 4000000 in
set_option maxRecDepth 20000 in
theorem lp_M_putBack_2 {sp : Nat → Sp} {sc : Nat × (Nat → Int32)} {x y z : Int32} {c : Nat} (hc : c < 4) {Q : Option Value → MS → Prop} : ∀ (m n : Nat) (σ : SG), n + m = 1289 → Vf 113 sp ((134, SLT), sc) 27 [.ref 126, .int (oN 1289)] [] (emb (up1 σ 8 (cpL 1 2 (0) (0) n m (σ 8)))) Q → Vf 113 sp ((134, SLT), sc) 2 [.ref 126, .int (oN n)] [] (emb σ) Q := by
  intro m
  induction m with
  | zero =>
    intro n σ hn hQ
    have : n = 1289 := by omega
    subst this
    rw [cpL_0, up1_self] at hQ
    rw [rM_putBack_2]
    simp only [rM_putBack_3, rM_putBack_6, rM_putBack_9, rM_putBack_10, rM_putBack_13, rM_putBack_14, rM_putBack_15, rM_putBack_18, rM_putBack_19, rM_putBack_20, rM_putBack_21, rM_putBack_24, ct1_i, ct1_r, ct1_n, true_and, and_true, tl_s, tl_n, le4_0, le4_1, le4_2, le4_3, le4_4, le4_5, isO_r, show ¬ oN 1289 < 1289 by decide, if_false]
    exact hQ
  | succ m ih =>
    intro n σ hn hQ
    have hlt : oN n < 1289 := by show oN n < oN 1289; rw [oN_lt (by omega) (by decide)]; omega
    rw [cpL_s] at hQ
    try simp only [Nat.zero_add] at hQ
    rw [rM_putBack_2]
    simp only [rM_putBack_3, rM_putBack_6, rM_putBack_9, rM_putBack_10, rM_putBack_13, rM_putBack_14, rM_putBack_15, rM_putBack_18, rM_putBack_19, rM_putBack_20, rM_putBack_21, rM_putBack_24, ct1_i, ct1_r, ct1_n, true_and, and_true, tl_s, tl_n, le4_0, le4_1, le4_2, le4_3, le4_4, le4_5, isO_r, obM, mr_0, mr_1, mr_2, mr_3, mr_5, mr_7, mi_2, mi_1, m2_ok, m2_al, m2_rd, m1_re, m1_ln, m1_s, oNn (show n < 1289 by omega) (by decide), iin_n (show n < 1289 by omega) (by decide), Nat.zero_add, if_pos hlt, oN_succ]
    refine ih (n + 1) _ (by omega) ?_
    rw [up1_at, up1_up1]
    exact hQ

set_option maxHeartbeats 4000000 in
set_option maxRecDepth 20000 in
theorem lp_M_keep_2 {sp : Nat → Sp} {sc : Nat × (Nat → Int32)} {x y z : Int32} {c : Nat} (hc : c < 4) {Q : Option Value → MS → Prop} : ∀ (m n : Nat) (σ : SG), n + m = 1289 → Vf 110 sp ((134, SLT), sc) 27 [.ref 126, .int (oN 1289)] [] (emb (up1 σ 8 (cpL 4 1 (0) (0) n m (σ 8)))) Q → Vf 110 sp ((134, SLT), sc) 2 [.ref 126, .int (oN n)] [] (emb σ) Q := by
  intro m
  induction m with
  | zero =>
    intro n σ hn hQ
    have : n = 1289 := by omega
    subst this
    rw [cpL_0, up1_self] at hQ
    rw [rM_keep_2]
    simp only [rM_keep_3, rM_keep_6, rM_keep_9, rM_keep_10, rM_keep_13, rM_keep_14, rM_keep_15, rM_keep_18, rM_keep_19, rM_keep_20, rM_keep_21, rM_keep_24, ct1_i, ct1_r, ct1_n, true_and, and_true, tl_s, tl_n, le4_0, le4_1, le4_2, le4_3, le4_4, le4_5, isO_r, show ¬ oN 1289 < 1289 by decide, if_false]
    exact hQ
  | succ m ih =>
    intro n σ hn hQ
    have hlt : oN n < 1289 := by show oN n < oN 1289; rw [oN_lt (by omega) (by decide)]; omega
    rw [cpL_s] at hQ
    try simp only [Nat.zero_add] at hQ
    rw [rM_keep_2]
    simp only [rM_keep_3, rM_keep_6, rM_keep_9, rM_keep_10, rM_keep_13, rM_keep_14, rM_keep_15, rM_keep_18, rM_keep_19, rM_keep_20, rM_keep_21, rM_keep_24, ct1_i, ct1_r, ct1_n, true_and, and_true, tl_s, tl_n, le4_0, le4_1, le4_2, le4_3, le4_4, le4_5, isO_r, obM, mr_0, mr_1, mr_2, mr_3, mr_5, mr_7, mi_2, mi_1, m1_ok, m1_al, m1_rd, m4_re, m4_ln, m4_s, oNn (show n < 1289 by omega) (by decide), iin_n (show n < 1289 by omega) (by decide), Nat.zero_add, if_pos hlt, oN_succ]
    refine ih (n + 1) _ (by omega) ?_
    rw [up1_at, up1_up1]
    exact hQ

set_option maxHeartbeats 4000000 in
set_option maxRecDepth 20000 in
theorem lp_M_restore_16 {sp : Nat → Sp} {sc : Nat × (Nat → Int32)} {x y z : Int32} {c : Nat} (hc : c < 4) {Q : Option Value → MS → Prop} : ∀ (m n : Nat) (σ : SG), n + m = 1289 → Vf 146 sp ((134, SLT), sc) 41 [.ref 126, .int (oN 1289)] [] (emb (up1 σ 8 (cpL 1 4 (0) (0) n m (σ 8)))) Q → Vf 146 sp ((134, SLT), sc) 16 [.ref 126, .int (oN n)] [] (emb σ) Q := by
  intro m
  induction m with
  | zero =>
    intro n σ hn hQ
    have : n = 1289 := by omega
    subst this
    rw [cpL_0, up1_self] at hQ
    rw [rM_restore_16]
    simp only [rM_restore_17, rM_restore_20, rM_restore_23, rM_restore_24, rM_restore_27, rM_restore_28, rM_restore_29, rM_restore_32, rM_restore_33, rM_restore_34, rM_restore_35, rM_restore_38, ct1_i, ct1_r, ct1_n, true_and, and_true, tl_s, tl_n, le4_0, le4_1, le4_2, le4_3, le4_4, le4_5, isO_r, show ¬ oN 1289 < 1289 by decide, if_false]
    exact hQ
  | succ m ih =>
    intro n σ hn hQ
    have hlt : oN n < 1289 := by show oN n < oN 1289; rw [oN_lt (by omega) (by decide)]; omega
    rw [cpL_s] at hQ
    try simp only [Nat.zero_add] at hQ
    rw [rM_restore_16]
    simp only [rM_restore_17, rM_restore_20, rM_restore_23, rM_restore_24, rM_restore_27, rM_restore_28, rM_restore_29, rM_restore_32, rM_restore_33, rM_restore_34, rM_restore_35, rM_restore_38, ct1_i, ct1_r, ct1_n, true_and, and_true, tl_s, tl_n, le4_0, le4_1, le4_2, le4_3, le4_4, le4_5, isO_r, obM, mr_0, mr_1, mr_2, mr_3, mr_5, mr_7, mi_2, mi_1, m4_ok, m4_al, m4_rd, m1_re, m1_ln, m1_s, oNn (show n < 1289 by omega) (by decide), iin_n (show n < 1289 by omega) (by decide), Nat.zero_add, if_pos hlt, oN_succ]
    refine ih (n + 1) _ (by omega) ?_
    rw [up1_at, up1_up1]
    exact hQ

set_option maxHeartbeats 4000000 in
set_option maxRecDepth 20000 in
theorem lp_M_tellAll_40 {sp : Nat → Sp} {sc : Nat × (Nat → Int32)} {x y z : Int32} {c : Nat} (hc : c < 4) {Q : Option Value → MS → Prop} : ∀ (m n : Nat) (σ : SG), n + m = 1289 → Vf 171 sp ((134, SLT), sc) 65 [.ref 126, .int x, .int y, .int (oN 1289)] [] (emb (up1 σ 8 (cpL 1 3 (0) (0) n m (σ 8)))) Q → Vf 171 sp ((134, SLT), sc) 40 [.ref 126, .int x, .int y, .int (oN n)] [] (emb σ) Q := by
  intro m
  induction m with
  | zero =>
    intro n σ hn hQ
    have : n = 1289 := by omega
    subst this
    rw [cpL_0, up1_self] at hQ
    rw [rM_tellAll_40]
    simp only [rM_tellAll_41, rM_tellAll_44, rM_tellAll_47, rM_tellAll_48, rM_tellAll_51, rM_tellAll_52, rM_tellAll_53, rM_tellAll_56, rM_tellAll_57, rM_tellAll_58, rM_tellAll_59, rM_tellAll_62, ct1_i, ct1_r, ct1_n, true_and, and_true, tl_s, tl_n, le4_0, le4_1, le4_2, le4_3, le4_4, le4_5, isO_r, show ¬ oN 1289 < 1289 by decide, if_false]
    exact hQ
  | succ m ih =>
    intro n σ hn hQ
    have hlt : oN n < 1289 := by show oN n < oN 1289; rw [oN_lt (by omega) (by decide)]; omega
    rw [cpL_s] at hQ
    try simp only [Nat.zero_add] at hQ
    rw [rM_tellAll_40]
    simp only [rM_tellAll_41, rM_tellAll_44, rM_tellAll_47, rM_tellAll_48, rM_tellAll_51, rM_tellAll_52, rM_tellAll_53, rM_tellAll_56, rM_tellAll_57, rM_tellAll_58, rM_tellAll_59, rM_tellAll_62, ct1_i, ct1_r, ct1_n, true_and, and_true, tl_s, tl_n, le4_0, le4_1, le4_2, le4_3, le4_4, le4_5, isO_r, obM, mr_0, mr_1, mr_2, mr_3, mr_5, mr_7, mi_2, mi_1, m3_ok, m3_al, m3_rd, m1_re, m1_ln, m1_s, oNn (show n < 1289 by omega) (by decide), iin_n (show n < 1289 by omega) (by decide), Nat.zero_add, if_pos hlt, oN_succ]
    refine ih (n + 1) _ (by omega) ?_
    rw [up1_at, up1_up1]
    exact hQ

set_option maxHeartbeats 4000000 in
set_option maxRecDepth 20000 in
theorem lp_M_records_10 {sp : Nat → Sp} {sc : Nat × (Nat → Int32)} {x y z : Int32} {c : Nat} (hc : c < 4) {Q : Option Value → MS → Prop} : ∀ (m n : Nat) (σ : SG), n + m = 3867 → Vf 98 sp ((134, SLT), sc) 39 [.ref 126, .int (oN 3867)] [] (emb (up1 σ 8 (cpL 5 5 (0) (1289) n m (σ 8)))) Q → Vf 98 sp ((134, SLT), sc) 10 [.ref 126, .int (oN n)] [] (emb σ) Q := by
  intro m
  induction m with
  | zero =>
    intro n σ hn hQ
    have : n = 3867 := by omega
    subst this
    rw [cpL_0, up1_self] at hQ
    rw [rM_records_10]
    simp only [rM_records_11, rM_records_14, rM_records_17, rM_records_18, rM_records_21, rM_records_22, rM_records_23, rM_records_26, rM_records_29, rM_records_30, rM_records_31, rM_records_32, rM_records_33, rM_records_36, ct1_i, ct1_r, ct1_n, true_and, and_true, tl_s, tl_n, le4_0, le4_1, le4_2, le4_3, le4_4, le4_5, isO_r, show ¬ oN 3867 < 3867 by decide, if_false]
    exact hQ
  | succ m ih =>
    intro n σ hn hQ
    have hlt : oN n < 3867 := by show oN n < oN 3867; rw [oN_lt (by omega) (by decide)]; omega
    rw [cpL_s] at hQ
    try simp only [Nat.zero_add] at hQ
    rw [rM_records_10]
    simp only [rM_records_11, rM_records_14, rM_records_17, rM_records_18, rM_records_21, rM_records_22, rM_records_23, rM_records_26, rM_records_29, rM_records_30, rM_records_31, rM_records_32, rM_records_33, rM_records_36, ct1_i, ct1_r, ct1_n, true_and, and_true, tl_s, tl_n, le4_0, le4_1, le4_2, le4_3, le4_4, le4_5, isO_r, obM, mr_0, mr_1, mr_2, mr_3, mr_5, mr_7, mi_2, mi_1, m5_ok, m5_al, m5_rd, m5_re, m5_ln, m5_s, oNn (show n < 5156 by omega) (by decide), oNn (show 1289 + n < 5156 by omega) (by decide), iin_n (show 1289 + n < 5156 by omega) (by decide), iin_n (show n < 5156 by omega) (by decide), Nat.zero_add, if_pos hlt, oN_succ, i1289']
    refine ih (n + 1) _ (by omega) ?_
    rw [up1_at, up1_up1]
    exact hQ

set_option maxHeartbeats 4000000 in
set_option maxRecDepth 20000 in
theorem lp_M_records_51 {sp : Nat → Sp} {sc : Nat × (Nat → Int32)} {x y z : Int32} {c : Nat} (hc : c < 4) {Q : Option Value → MS → Prop} : ∀ (m n : Nat) (σ : SG), n + m = 1289 → σ 8 0 1 = oN c → Vf 98 sp ((134, SLT), sc) 85 [.ref 126, .int (oN 1289)] [] (emb (up1 σ 8 (cpL 5 3 (1289 * c) (0) n m (σ 8)))) Q → Vf 98 sp ((134, SLT), sc) 51 [.ref 126, .int (oN n)] [] (emb σ) Q := by
  intro m
  induction m with
  | zero =>
    intro n σ hn hK hQ
    have : n = 1289 := by omega
    subst this
    rw [cpL_0, up1_self] at hQ
    rw [rM_records_51]
    simp only [rM_records_52, rM_records_55, rM_records_58, rM_records_59, rM_records_62, rM_records_65, rM_records_66, rM_records_69, rM_records_70, rM_records_71, rM_records_72, rM_records_73, rM_records_76, rM_records_77, rM_records_78, rM_records_79, rM_records_82, ct1_i, ct1_r, ct1_n, true_and, and_true, tl_s, tl_n, le4_0, le4_1, le4_2, le4_3, le4_4, le4_5, isO_r, show ¬ oN 1289 < 1289 by decide, if_false]
    exact hQ
  | succ m ih =>
    intro n σ hn hK hQ
    have hlt : oN n < 1289 := by show oN n < oN 1289; rw [oN_lt (by omega) (by decide)]; omega
    rw [cpL_s] at hQ
    try simp only [Nat.zero_add] at hQ
    rw [rM_records_51]
    simp only [rM_records_52, rM_records_55, rM_records_58, rM_records_59, rM_records_62, rM_records_65, rM_records_66, rM_records_69, rM_records_70, rM_records_71, rM_records_72, rM_records_73, rM_records_76, rM_records_77, rM_records_78, rM_records_79, rM_records_82, ct1_i, ct1_r, ct1_n, true_and, and_true, tl_s, tl_n, le4_0, le4_1, le4_2, le4_3, le4_4, le4_5, isO_r, obM, mr_0, mr_1, mr_2, mr_3, mr_5, mr_7, mi_2, mi_1, m5_re, m5_ln, m5_s, m3_ok, m3_al, m3_rd, oNn (show 1289 * c + n < 5156 by omega) (by decide), iin_n (show 1289 * c + n < 5156 by omega) (by decide), oNn (show n < 1289 by omega) (by decide), iin_n (show n < 1289 by omega) (by decide), Nat.zero_add, if_pos hlt, oN_succ, hK, i1289]
    refine ih (n + 1) _ (by omega) (by rw [up1_at, up2_kn (by decide)]; exact hK) ?_
    rw [up1_at, up1_up1]
    exact hQ

set_option maxHeartbeats 4000000 in
set_option maxRecDepth 20000 in
theorem lp_M_undo_22 {sp : Nat → Sp} {sc : Nat × (Nat → Int32)} {x y z : Int32} {c : Nat} (hc : c < 4) {Q : Option Value → MS → Prop} : ∀ (m n : Nat) (σ : SG), n + m = 1289 → σ 8 0 1 = oN c → Vf 109 sp ((134, SLT), sc) 56 [.ref 126, .int (oN 1289)] [] (emb (up1 σ 8 (cpL 1 5 (0) (1289 * c) n m (σ 8)))) Q → Vf 109 sp ((134, SLT), sc) 22 [.ref 126, .int (oN n)] [] (emb σ) Q := by
  intro m
  induction m with
  | zero =>
    intro n σ hn hK hQ
    have : n = 1289 := by omega
    subst this
    rw [cpL_0, up1_self] at hQ
    rw [rM_undo_22]
    simp only [rM_undo_23, rM_undo_26, rM_undo_29, rM_undo_30, rM_undo_33, rM_undo_34, rM_undo_35, rM_undo_38, rM_undo_41, rM_undo_42, rM_undo_45, rM_undo_46, rM_undo_47, rM_undo_48, rM_undo_49, rM_undo_50, rM_undo_53, ct1_i, ct1_r, ct1_n, true_and, and_true, tl_s, tl_n, le4_0, le4_1, le4_2, le4_3, le4_4, le4_5, isO_r, show ¬ oN 1289 < 1289 by decide, if_false]
    exact hQ
  | succ m ih =>
    intro n σ hn hK hQ
    have hlt : oN n < 1289 := by show oN n < oN 1289; rw [oN_lt (by omega) (by decide)]; omega
    rw [cpL_s] at hQ
    try simp only [Nat.zero_add] at hQ
    rw [rM_undo_22]
    simp only [rM_undo_23, rM_undo_26, rM_undo_29, rM_undo_30, rM_undo_33, rM_undo_34, rM_undo_35, rM_undo_38, rM_undo_41, rM_undo_42, rM_undo_45, rM_undo_46, rM_undo_47, rM_undo_48, rM_undo_49, rM_undo_50, rM_undo_53, ct1_i, ct1_r, ct1_n, true_and, and_true, tl_s, tl_n, le4_0, le4_1, le4_2, le4_3, le4_4, le4_5, isO_r, obM, mr_0, mr_1, mr_2, mr_3, mr_5, mr_7, mi_2, mi_1, m1_re, m1_ln, m1_s, m5_ok, m5_al, m5_rd, oNn (show 1289 * c + n < 5156 by omega) (by decide), iin_n (show 1289 * c + n < 5156 by omega) (by decide), oNn (show n < 1289 by omega) (by decide), iin_n (show n < 1289 by omega) (by decide), Nat.zero_add, if_pos hlt, oN_succ, hK, i1289]
    refine ih (n + 1) _ (by omega) (by rw [up1_at, up2_kn (by decide)]; exact hK) ?_
    rw [up1_at, up1_up1]
    exact hQ
