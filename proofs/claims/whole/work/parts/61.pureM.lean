/-! PURE: the check's rows, cell by cell -/
theorem u21 {v : HV} {i t : Nat} {x : Int32} : up2 v 1 i x 1 t = if t = i then x else v 1 t := by
  unfold up2
  by_cases h : t = i
  · rw [if_pos ⟨rfl, h⟩, if_pos h]
  · rw [if_neg (fun q => h q.2), if_neg h]
theorem u2k {w : HV} {k : Fin 9} {i t : Nat} {x : Int32} : up2 w k i x k t = if t = i then x else w k t := by
  unfold up2
  by_cases h : t = i
  · rw [if_pos ⟨rfl, h⟩, if_pos h]
  · rw [if_neg (fun q => h q.2), if_neg h]
theorem inc1 {v : HV} {i t : Nat} {x : Int32} : inc v i x 1 t = if t = i then v 1 i + x else v 1 t := u21
theorem dcr1 {v : HV} {i t : Nat} {x : Int32} : dcr v i x 1 t = if t = i then v 1 i - x else v 1 t := u21
theorem inc_k {v : HV} {i : Nat} {x : Int32} {k : Fin 9} (h : k ≠ 1) : inc v i x k = v k := up2_kn h
theorem dcr_k {v : HV} {i : Nat} {x : Int32} {k : Fin 9} (h : k ≠ 1) : dcr v i x k = v k := up2_kn h
theorem adK {r c : Nat} (h : r < 100) (hc : c < 100) : (1017 + 7 * oN r + oN c).toNatClampNeg = 1017 + 7 * r + c := by
  rw [show (1017 : Int32) = oN 1017 from rfl, show (7 : Int32) = oN 7 from rfl, oN_mul, oN_add, oN_add, oN_nat (by omega)]
theorem adS {r c : Nat} (h : r < 100) (hc : c < 100) : (1129 + 4 * oN r + oN c).toNatClampNeg = 1129 + 4 * r + c := by
  rw [show (1129 : Int32) = oN 1129 from rfl, show (4 : Int32) = oN 4 from rfl, oN_mul, oN_add, oN_add, oN_nat (by omega)]
theorem adT {r c : Nat} (h : r < 100) (hc : c < 100) : (1169 + 3 * oN r + oN c).toNatClampNeg = 1169 + 3 * r + c := by
  rw [show (1169 : Int32) = oN 1169 from rfl, show (3 : Int32) = oN 3 from rfl, oN_mul, oN_add, oN_add, oN_nat (by omega)]
theorem adH {r c : Nat} (h : r < 100) (hc : c < 100) : (1187 + 7 * oN r + oN c).toNatClampNeg = 1187 + 7 * r + c := by
  rw [show (1187 : Int32) = oN 1187 from rfl, show (7 : Int32) = oN 7 from rfl, oN_mul, oN_add, oN_add, oN_nat (by omega)]
theorem adW {r : Nat} (h : r < 2000) : (17 + oN r).toNatClampNeg = 17 + r := by
  rw [show (17 : Int32) = oN 17 from rfl, oN_add, oN_nat (by omega)]
theorem ad9 {r : Nat} (h : r < 2000) : (9 + oN r).toNatClampNeg = 9 + r := by
  rw [show (9 : Int32) = oN 9 from rfl, oN_add, oN_nat (by omega)]
theorem ad1 {r : Nat} (h : r < 2000) : (1 + oN r).toNatClampNeg = 1 + r := by
  rw [show (1 : Int32) = oN 1 from rfl, oN_add, oN_nat (by omega)]
theorem adK_0 {r : Nat} (h : r < 100) : (1017 + 7 * oN r + 0).toNatClampNeg = 1017 + 7 * r + 0 := adK (c := 0) h (by decide)
theorem adK_1 {r : Nat} (h : r < 100) : (1017 + 7 * oN r + 1).toNatClampNeg = 1017 + 7 * r + 1 := adK (c := 1) h (by decide)
theorem adK_2 {r : Nat} (h : r < 100) : (1017 + 7 * oN r + 2).toNatClampNeg = 1017 + 7 * r + 2 := adK (c := 2) h (by decide)
theorem adK_3 {r : Nat} (h : r < 100) : (1017 + 7 * oN r + 3).toNatClampNeg = 1017 + 7 * r + 3 := adK (c := 3) h (by decide)
theorem adK_4 {r : Nat} (h : r < 100) : (1017 + 7 * oN r + 4).toNatClampNeg = 1017 + 7 * r + 4 := adK (c := 4) h (by decide)
theorem adK_5 {r : Nat} (h : r < 100) : (1017 + 7 * oN r + 5).toNatClampNeg = 1017 + 7 * r + 5 := adK (c := 5) h (by decide)
theorem adK_6 {r : Nat} (h : r < 100) : (1017 + 7 * oN r + 6).toNatClampNeg = 1017 + 7 * r + 6 := adK (c := 6) h (by decide)
theorem adS_0 {r : Nat} (h : r < 100) : (1129 + 4 * oN r + 0).toNatClampNeg = 1129 + 4 * r + 0 := adS (c := 0) h (by decide)
theorem adS_1 {r : Nat} (h : r < 100) : (1129 + 4 * oN r + 1).toNatClampNeg = 1129 + 4 * r + 1 := adS (c := 1) h (by decide)
theorem adS_2 {r : Nat} (h : r < 100) : (1129 + 4 * oN r + 2).toNatClampNeg = 1129 + 4 * r + 2 := adS (c := 2) h (by decide)
theorem adS_3 {r : Nat} (h : r < 100) : (1129 + 4 * oN r + 3).toNatClampNeg = 1129 + 4 * r + 3 := adS (c := 3) h (by decide)
theorem adT_0 {r : Nat} (h : r < 100) : (1169 + 3 * oN r + 0).toNatClampNeg = 1169 + 3 * r + 0 := adT (c := 0) h (by decide)
theorem adT_1 {r : Nat} (h : r < 100) : (1169 + 3 * oN r + 1).toNatClampNeg = 1169 + 3 * r + 1 := adT (c := 1) h (by decide)
theorem adT_2 {r : Nat} (h : r < 100) : (1169 + 3 * oN r + 2).toNatClampNeg = 1169 + 3 * r + 2 := adT (c := 2) h (by decide)
theorem adH_0 {r : Nat} (h : r < 100) : (1187 + 7 * oN r + 0).toNatClampNeg = 1187 + 7 * r + 0 := adH (c := 0) h (by decide)
theorem adH_1 {r : Nat} (h : r < 100) : (1187 + 7 * oN r + 1).toNatClampNeg = 1187 + 7 * r + 1 := adH (c := 1) h (by decide)
theorem adH_2 {r : Nat} (h : r < 100) : (1187 + 7 * oN r + 2).toNatClampNeg = 1187 + 7 * r + 2 := adH (c := 2) h (by decide)
theorem adH_3 {r : Nat} (h : r < 100) : (1187 + 7 * oN r + 3).toNatClampNeg = 1187 + 7 * r + 3 := adH (c := 3) h (by decide)
theorem adH_4 {r : Nat} (h : r < 100) : (1187 + 7 * oN r + 4).toNatClampNeg = 1187 + 7 * r + 4 := adH (c := 4) h (by decide)
theorem adH_5 {r : Nat} (h : r < 100) : (1187 + 7 * oN r + 5).toNatClampNeg = 1187 + 7 * r + 5 := adH (c := 5) h (by decide)
theorem adH_6 {r : Nat} (h : r < 100) : (1187 + 7 * oN r + 6).toNatClampNeg = 1187 + 7 * r + 6 := adH (c := 6) h (by decide)
theorem shF_at : ∀ (m : Nat) (v : HV) (t : Nat), shF m v 1 t = if 1261 ≤ t ∧ t < 1261 + m then v 1 (t - 4) else v 1 t := by
  intro m
  induction m with
  | zero => intro v t; rw [if_neg (by omega)]; rfl
  | succ m ih =>
    intro v t
    show shF m (up2 v 1 (1261 + m) (v 1 (1257 + m))) 1 t = _
    rw [ih, u21, u21]
    by_cases h1 : 1261 ≤ t ∧ t < 1261 + m
    · rw [if_pos h1, if_neg (by omega), if_pos (by omega)]
    · rw [if_neg h1]
      by_cases h2 : t = 1261 + m
      · rw [if_pos h2, if_pos (by omega), show t - 4 = 1257 + m by omega]
      · rw [if_neg h2, if_neg (by omega)]
theorem mvF_at : ∀ (m n : Nat) (v : HV) (t : Nat), mvF n m v 1 t = if n ≤ t ∧ t < n + m then v 1 (t + 7) else v 1 t := by
  intro m
  induction m with
  | zero => intro n v t; rw [if_neg (by omega)]; rfl
  | succ m ih =>
    intro n v t
    show mvF (n + 1) m (up2 v 1 n (v 1 (n + 7))) 1 t = _
    rw [ih, u21, u21]
    by_cases h1 : n + 1 ≤ t ∧ t < n + 1 + m
    · rw [if_pos h1, if_neg (by omega), if_pos (by omega)]
    · rw [if_neg h1]
      by_cases h2 : t = n
      · rw [if_pos h2, if_pos (by omega), h2]
      · rw [if_neg h2, if_neg (by omega)]
theorem clF_at {b : Nat} : ∀ (m n : Nat) (v : HV) (t : Nat), clF b n m v 1 t = if b + n ≤ t ∧ t < b + n + m then 0 else v 1 t := by
  intro m
  induction m with
  | zero => intro n v t; rw [if_neg (by omega)]; rfl
  | succ m ih =>
    intro n v t
    show clF b (n + 1) m (up2 v 1 (b + n) 0) 1 t = _
    rw [ih, u21]
    by_cases h1 : b + (n + 1) ≤ t ∧ t < b + (n + 1) + m
    · rw [if_pos h1, if_pos (by omega)]
    · rw [if_neg h1]
      by_cases h2 : t = b + n
      · rw [if_pos h2, if_pos (by omega)]
      · rw [if_neg h2, if_neg (by omega)]
theorem pyM_at {v : HV} {P : Nat} {c : Int32} (h : P < 100) (t : Nat) : pyM v (oN P) c 1 t = if t = 12 then v 1 12 + c else if t = 1187 + 7 * P + 6 then v 1 (1187 + 7 * P + 6) + c else v 1 t := by
  unfold pyM
  rw [adH_6 h, inc1, inc1, inc1, if_neg (show ¬ 12 = 1187 + 7 * P + 6 by omega)]
theorem bit_01 (s : Int32) (c : Nat) : bit s c = 0 ∨ bit s c = 1 := by
  unfold bit
  generalize s >>> (oN c &&& 31) = x
  have e : (x &&& 1).toUInt32.toNat = x.toUInt32.toNat % 2 := by
    rw [Int32.toUInt32_and, UInt32.toNat_and]
    exact Nat.and_one_is_mod _
  have h := oN_u (x &&& 1)
  rw [e] at h
  rcases Nat.mod_two_eq_zero_or_one x.toUInt32.toNat with q | q
  · rw [q] at h; exact Or.inl h.symm
  · rw [q] at h; exact Or.inr h.symm
/-- tails of a set, as they go -/
theorem tg1_at {v : HV} {s : Int32} {w c : Nat} (hw : w = 0 ∨ w = 2) (hc : c < 6) (t : Nat) : tg1 v s (oN w) c 1 t = if t = 1169 + 3 * c + 1 then v 1 t - bit s c else if t = 1169 + 3 * c + w then v 1 t + bit s c else v 1 t := by
  unfold tg1
  rcases bit_01 s c with h | h
  · rw [h, if_neg (by decide)]
    by_cases h1 : t = 1169 + 3 * c + 1
    · rw [if_pos h1, Int32.sub_zero]
    · rw [if_neg h1]
      by_cases h2 : t = 1169 + 3 * c + w
      · rw [if_pos h2, Int32.add_zero]
      · rw [if_neg h2]
  · rw [h, if_pos rfl, adT_1 (by omega), adT (by omega) (by omega), inc1, dcr1, dcr1]
    by_cases h1 : t = 1169 + 3 * c + 1
    · rw [if_neg (by omega), if_pos h1, if_pos h1, h1]
    · rw [if_neg h1, if_neg h1]
      by_cases h2 : t = 1169 + 3 * c + w
      · rw [if_pos h2, if_pos h2, if_neg (by omega), h2]
      · rw [if_neg h2, if_neg h2]
theorem tgF_at {s : Int32} {w : Nat} (hw : w = 0 ∨ w = 2) : ∀ (n c : Nat) (v : HV) (t : Nat), c + n ≤ 6 → tgF s (oN w) c n v 1 t = if 1169 + 3 * c ≤ t ∧ t < 1169 + 3 * (c + n) then (if (t - 1169) % 3 = 1 then v 1 t - bit s ((t - 1169) / 3) else if (t - 1169) % 3 = w then v 1 t + bit s ((t - 1169) / 3) else v 1 t) else v 1 t := by
  intro n
  induction n with
  | zero => intro c v t _; rw [if_neg (by omega)]; rfl
  | succ n ih =>
    intro c v t hc
    show tgF s (oN w) (c + 1) n (tg1 v s (oN w) c) 1 t = _
    rw [ih _ _ _ (by omega), tg1_at hw (by omega)]
    by_cases h1 : 1169 + 3 * (c + 1) ≤ t ∧ t < 1169 + 3 * (c + 1 + n)
    · rw [if_pos h1, if_neg (show ¬ t = 1169 + 3 * c + 1 by omega), if_neg (show ¬ t = 1169 + 3 * c + w by omega), if_pos (show 1169 + 3 * c ≤ t ∧ t < 1169 + 3 * (c + (n + 1)) by omega)]
    · rw [if_neg h1]
      by_cases h2 : 1169 + 3 * c ≤ t ∧ t < 1169 + 3 * (c + 1)
      · rw [if_pos (show 1169 + 3 * c ≤ t ∧ t < 1169 + 3 * (c + (n + 1)) by omega), show (t - 1169) / 3 = c by omega]
        by_cases h3 : t = 1169 + 3 * c + 1
        · rw [if_pos h3, if_pos (show (t - 1169) % 3 = 1 by omega)]
        · rw [if_neg h3, if_neg (show ¬ (t - 1169) % 3 = 1 by omega)]
          by_cases h4 : t = 1169 + 3 * c + w
          · rw [if_pos h4, if_pos (show (t - 1169) % 3 = w by omega)]
          · rw [if_neg h4, if_neg (show ¬ (t - 1169) % 3 = w by omega)]
      · rw [if_neg (show ¬ t = 1169 + 3 * c + 1 by omega), if_neg (show ¬ t = 1169 + 3 * c + w by omega), if_neg (show ¬ (1169 + 3 * c ≤ t ∧ t < 1169 + 3 * (c + (n + 1))) by omega)]
theorem enM_at {v : HV} {P O K S W : Nat} (hP : P < O) (hO : O ≤ 10) (hK : K < 16) (hS : S < 10) (hW : W < 3) (e16 : v 1 16 = oN O) (eK : v 1 (1187 + 7 * P + 1) = oN K) (eS : v 1 (1187 + 7 * P + 2) = oN S) :
    enA v (oN P) (oN W) 1 16 = oN (O - 1) ∧ uh v (oN P) 2 = oN S ∧ uh (en1 v (oN P)) (oN P) 1 = oN K ∧ ∀ t, t < 1289 → enM v (oN P) (oN W) 1 t =
    if 1187 + 7 * (O - 1) ≤ t ∧ t < 1187 + 7 * O then 0
    else if 1187 + 7 * P ≤ t ∧ t < 1187 + 7 * (O - 1) then v 1 (t + 7)
    else if t = 16 then oN (O - 1)
    else if t = 15 then v 1 15 + (if v 1 15 < 8 then 1 else 0)
    else if t = 1260 then v 1 (1187 + 7 * P + 6) + 1000
    else if t = 1259 then v 1 0
    else if t = 1258 then oN W
    else if t = 1257 then v 1 (1187 + 7 * P + 0)
    else if 1261 ≤ t then v 1 (t - 4)
    else if t = 9 + W then v 1 (9 + W) + 1
    else if t = 1017 + 7 * K + 0 then (if oN W = 2 then 2 else 0)
    else if t = 1129 + 4 * S + 2 then -5
    else v 1 t := by
  have u2 : uh v (oN P) 2 = oN S := by
    show v 1 (1187 + 7 * oN P + 2).toNatClampNeg = _
    rw [adH_2 (by omega), eS]
  have c1 : ∀ t, en1 v (oN P) 1 t = if t = 1129 + 4 * S + 2 then -5 else v 1 t := by
    intro t
    unfold en1
    rw [u2, adS_2 (by omega), u21]
  have u1 : uh (en1 v (oN P)) (oN P) 1 = oN K := by
    show en1 v (oN P) 1 (1187 + 7 * oN P + 1).toNatClampNeg = _
    rw [adH_1 (by omega), c1, if_neg (by omega), eK]
  have c2 : ∀ t, en2 v (oN P) (oN W) 1 t = if t = 1017 + 7 * K + 0 then (if oN W = 2 then 2 else 0) else if t = 1129 + 4 * S + 2 then -5 else v 1 t := by
    intro t
    unfold en2
    rw [u1, adK_0 (by omega), u21, c1]
  have c3 : ∀ t, en3 v (oN P) (oN W) 1 t = if t = 9 + W then v 1 (9 + W) + 1 else if t = 1017 + 7 * K + 0 then (if oN W = 2 then 2 else 0) else if t = 1129 + 4 * S + 2 then -5 else v 1 t := by
    intro t
    unfold en3
    rw [ad9 (by omega), inc1, c2, c2, if_neg (show ¬ 9 + W = 1017 + 7 * K + 0 by omega), if_neg (show ¬ 9 + W = 1129 + 4 * S + 2 by omega)]
  have c4 : ∀ t, t < 1289 → en4 v (oN P) (oN W) 1 t = if 1261 ≤ t then v 1 (t - 4) else if t = 9 + W then v 1 (9 + W) + 1 else if t = 1017 + 7 * K + 0 then (if oN W = 2 then 2 else 0) else if t = 1129 + 4 * S + 2 then -5 else v 1 t := by
    intro t ht
    unfold en4
    rw [shF_at, c3, c3]
    by_cases h : 1261 ≤ t
    · rw [if_pos (show 1261 ≤ t ∧ t < 1261 + 28 by omega), if_pos h, if_neg (by omega), if_neg (by omega), if_neg (by omega)]
    · rw [if_neg (show ¬ (1261 ≤ t ∧ t < 1261 + 28) by omega), if_neg h]
  have c4h : ∀ c, c < 7 → en4 v (oN P) (oN W) 1 (1187 + 7 * P + c) = v 1 (1187 + 7 * P + c) := by
    intro c hc
    rw [c4 _ (by omega), if_neg (by omega), if_neg (by omega), if_neg (by omega), if_neg (by omega)]
  have c5 : ∀ t, en5 v (oN P) (oN W) 1 t = if t = 1257 then v 1 (1187 + 7 * P + 0) else en4 v (oN P) (oN W) 1 t := by
    intro t
    unfold en5
    rw [u21]
    show (if t = 1257 then en4 v (oN P) (oN W) 1 (1187 + 7 * oN P + 0).toNatClampNeg else _) = _
    rw [adH_0 (by omega), c4h 0 (by decide)]
  have c6 : ∀ t, en6 v (oN P) (oN W) 1 t = if t = 1258 then oN W else en5 v (oN P) (oN W) 1 t := by
    intro t
    unfold en6
    rw [u21]
  have c7 : ∀ t, en7 v (oN P) (oN W) 1 t = if t = 1259 then v 1 0 else en6 v (oN P) (oN W) 1 t := by
    intro t
    have z : en6 v (oN P) (oN W) 1 0 = v 1 0 := by
      rw [c6 0, if_neg (by decide), c5 0, if_neg (by decide), c4 0 (by decide), if_neg (by decide), if_neg (by omega), if_neg (by omega), if_neg (by omega)]
    unfold en7
    rw [u21, z]
  have c8 : ∀ t, en8 v (oN P) (oN W) 1 t = if t = 1260 then v 1 (1187 + 7 * P + 6) + 1000 else en7 v (oN P) (oN W) 1 t := by
    intro t
    have z : en7 v (oN P) (oN W) 1 (1187 + 7 * P + 6) = v 1 (1187 + 7 * P + 6) := by
      rw [c7, if_neg (by omega), c6, if_neg (by omega), c5, if_neg (by omega), c4h 6 (by decide)]
    unfold en8
    rw [u21]
    show (if t = 1260 then en7 v (oN P) (oN W) 1 (1187 + 7 * oN P + 6).toNatClampNeg + 1000 else _) = _
    rw [adH_6 (by omega), z]
  have c8e : ∀ t, t < 17 → ¬ t = 9 + W → en8 v (oN P) (oN W) 1 t = v 1 t := by
    intro t ht hw
    rw [c8, if_neg (by omega), c7, if_neg (by omega), c6, if_neg (by omega), c5, if_neg (by omega), c4 _ (by omega), if_neg (by omega), if_neg hw, if_neg (by omega), if_neg (by omega)]
  have c9 : ∀ t, en9 v (oN P) (oN W) 1 t = if t = 15 then v 1 15 + (if v 1 15 < 8 then 1 else 0) else en8 v (oN P) (oN W) 1 t := by
    intro t
    unfold en9
    rw [u21, c8e 15 (by decide) (by omega)]
  have cA : ∀ t, enA v (oN P) (oN W) 1 t = if t = 16 then oN (O - 1) else en9 v (oN P) (oN W) 1 t := by
    intro t
    have z : en9 v (oN P) (oN W) 1 16 = oN O := by
      rw [c9 16, if_neg (by decide), c8e 16 (by decide) (by omega), e16]
    unfold enA
    rw [dcr1, z, show (1 : Int32) = oN 1 from rfl, oN_sub (by omega)]
  have a16 : enA v (oN P) (oN W) 1 16 = oN (O - 1) := by rw [cA, if_pos rfl]
  refine ⟨a16, u2, u1, fun t ht => ?_⟩
  unfold enM enB
  rw [a16, oN_nat (by omega), oN_nat (by omega), clF_at, mvF_at]
  by_cases h1 : 1187 + 7 * (O - 1) ≤ t ∧ t < 1187 + 7 * O
  · rw [if_pos (by omega), if_pos h1]
  rw [if_neg (by omega), if_neg h1]
  by_cases h2 : 1187 + 7 * P ≤ t ∧ t < 1187 + 7 * (O - 1)
  · rw [if_pos (by omega), if_pos h2, cA, if_neg (by omega), c9, if_neg (by omega), c8, if_neg (by omega), c7, if_neg (by omega), c6, if_neg (by omega), c5, if_neg (by omega), c4 _ (by omega), if_neg (by omega), if_neg (by omega), if_neg (by omega), if_neg (by omega)]
  rw [if_neg (by omega), if_neg h2, cA]
  by_cases h3 : t = 16
  · rw [if_pos h3, if_pos h3]
  rw [if_neg h3, if_neg h3, c9]
  by_cases h4 : t = 15
  · rw [if_pos h4, if_pos h4]
  rw [if_neg h4, if_neg h4, c8]
  by_cases h5 : t = 1260
  · rw [if_pos h5, if_pos h5]
  rw [if_neg h5, if_neg h5, c7]
  by_cases h6 : t = 1259
  · rw [if_pos h6, if_pos h6]
  rw [if_neg h6, if_neg h6, c6]
  by_cases h7 : t = 1258
  · rw [if_pos h7, if_pos h7]
  rw [if_neg h7, if_neg h7, c5]
  by_cases h8 : t = 1257
  · rw [if_pos h8, if_pos h8]
  rw [if_neg h8, if_neg h8, c4 _ ht]

