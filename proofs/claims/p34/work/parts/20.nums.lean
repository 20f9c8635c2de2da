/-! small numbers; cells by row and column -/
abbrev oN (n : Nat) : Int32 := Int32.ofNat n
theorem oN_toInt {n : Nat} (h : n < 2 ^ 31) : (oN n).toInt = (n : Int) := by
  show (Int32.ofNat n).toInt = _
  rw [Int32.toInt_ofNat']; simp [Int.bmod]; omega
theorem oN_lt {a b : Nat} (ha : a < 2 ^ 31) (hb : b < 2 ^ 31) : (oN a < oN b) = (a < b) := by
  rw [Int32.lt_iff_toInt_lt, oN_toInt ha, oN_toInt hb]
  exact propext ⟨fun h => by omega, fun h => by omega⟩
theorem oN_le {a b : Nat} (ha : a < 2 ^ 31) (hb : b < 2 ^ 31) : (oN a ≤ oN b) = (a ≤ b) := by
  rw [Int32.le_iff_toInt_le, oN_toInt ha, oN_toInt hb]
  exact propext ⟨fun h => by omega, fun h => by omega⟩
theorem oN_add (a b : Nat) : oN a + oN b = oN (a + b) := (Int32.ofNat_add a b).symm
theorem oN_mul (a b : Nat) : oN a * oN b = oN (a * b) := (Int32.ofNat_mul a b).symm
theorem oN_succ (a : Nat) : oN a + 1 = oN (a + 1) := oN_add a 1
theorem oN_inj {a b : Nat} (ha : a < 2 ^ 31) (hb : b < 2 ^ 31) (h : oN a = oN b) : a = b := by
  have := congrArg Int32.toInt h
  rw [oN_toInt ha, oN_toInt hb] at this
  omega
theorem oN_nat {n : Nat} (h : n < 2 ^ 31) : (oN n).toNatClampNeg = n := by
  show (oN n).toInt.toNat = n
  rw [oN_toInt h]
  simp
theorem oN_nn {n : Nat} (h : n < 2 ^ 31) : (oN n < 0) = False := by
  rw [show (0 : Int32) = oN 0 from rfl, oN_lt h (by decide)]
  simp
/-- not below 0, at most b -/
def sm (x : Int32) (b : Nat) : Prop := ¬ x < 0 ∧ x.toNatClampNeg ≤ b
theorem sm_eq {x : Int32} {b : Nat} (h : sm x b) : x = oN x.toNatClampNeg := by
  have h0 : 0 ≤ x.toInt := by
    have := Int32.not_lt.mp h.1
    simpa using Int32.le_iff_toInt_le.mp this
  have hx : x.toInt < 2 ^ 31 := by have := x.toInt_lt; simpa using this
  apply Int32.toInt_inj.mp
  show x.toInt = (oN x.toInt.toNat).toInt
  rw [oN_toInt (by omega)]
  omega
theorem sm_oN {n b : Nat} (h : n ≤ b) (hb : b < 2 ^ 31) : sm (oN n) b := ⟨by rw [oN_nn (by omega)]; exact id, by rw [oN_nat (by omega)]; exact h⟩
theorem sm_mono {x : Int32} {a b : Nat} (h : sm x a) (hab : a ≤ b) : sm x b := ⟨h.1, Nat.le_trans h.2 hab⟩
theorem at_oN {f : Nat → Int32} {C len r c : Nat} (h : r * C + c < len) (hl : len < 2 ^ 31) : at_ f (oN C) len (oN r) (oN c) = f (r * C + c) := by
  unfold at_
  rw [oN_mul, oN_add, if_neg (by rw [oN_nn (by omega)]; exact id), if_pos (by show oN _ < oN _; rw [oN_lt (by omega) hl]; exact h), oN_nat (by omega)]
theorem pt_oN {w : HV} {k : Fin 9} {C len r c : Nat} {x : Int32} (h : r * C + c < len) (hl : len < 2 ^ 31) : pt w k (oN C) len (oN r) (oN c) x = up2 w k (r * C + c) x := by
  unfold pt
  rw [oN_mul, oN_add, if_neg (by rw [oN_nn (by omega)]; exact id), if_pos (by show oN _ < oN _; rw [oN_lt (by omega) hl]; exact h), oN_nat (by omega)]
theorem pa_oN {w : HV} {k : Fin 9} {C len r c : Nat} {x : Int32} (h : r * C + c < len) (hl : len < 2 ^ 31) : pa w k (oN C) len (oN r) (oN c) x = up2 w k (r * C + c) (w k (r * C + c) + x) := by
  unfold pa
  rw [oN_mul, oN_add, if_neg (by rw [oN_nn (by omega)]; exact id), if_pos (by show oN _ < oN _; rw [oN_lt (by omega) hl]; exact h), oN_nat (by omega)]
theorem wind_n {w : HV} {n : Nat} (h : n < 1000) : windAt w (oN n) = w 0 n := (at_oN (C := 1) (c := 0) (by omega) (by decide)).trans (by simp)
theorem putw_n {w : HV} {n : Nat} {x : Int32} (h : n < 1000) : pt w 0 1 1000 (oN n) 0 x = up2 w 0 n x := (pt_oN (C := 1) (c := 0) (by omega) (by decide)).trans (by simp)
theorem set_n0 {w : HV} : settg w 0 = w 1 0 := at_oN (C := 1) (r := 0) (c := 0) (by decide) (by decide)
theorem set_n1 {w : HV} : settg w 1 = w 1 1 := at_oN (C := 1) (r := 1) (c := 0) (by decide) (by decide)
theorem set_n2 {w : HV} : settg w 2 = w 1 2 := at_oN (C := 1) (r := 2) (c := 0) (by decide) (by decide)
theorem set_n3 {w : HV} : settg w 3 = w 1 3 := at_oN (C := 1) (r := 3) (c := 0) (by decide) (by decide)
theorem set_n4 {w : HV} : settg w 4 = w 1 4 := at_oN (C := 1) (r := 4) (c := 0) (by decide) (by decide)
theorem set_n {w : HV} {n : Nat} (h : n < 5) : settg w (oN n) = w 1 n := (at_oN (C := 1) (c := 0) (by omega) (by decide)).trans (by simp)
theorem kt_n0 {w : HV} {r : Nat} (h : r < 16) : kt w (oN r) 0 = w 2 (r * 8 + 0) := at_oN (C := 8) (c := 0) (by omega) (by decide)
theorem kt_n1 {w : HV} {r : Nat} (h : r < 16) : kt w (oN r) 1 = w 2 (r * 8 + 1) := at_oN (C := 8) (c := 1) (by omega) (by decide)
theorem kt_n2 {w : HV} {r : Nat} (h : r < 16) : kt w (oN r) 2 = w 2 (r * 8 + 2) := at_oN (C := 8) (c := 2) (by omega) (by decide)
theorem kt_n3 {w : HV} {r : Nat} (h : r < 16) : kt w (oN r) 3 = w 2 (r * 8 + 3) := at_oN (C := 8) (c := 3) (by omega) (by decide)
theorem kt_n4 {w : HV} {r : Nat} (h : r < 16) : kt w (oN r) 4 = w 2 (r * 8 + 4) := at_oN (C := 8) (c := 4) (by omega) (by decide)
theorem kt_n5 {w : HV} {r : Nat} (h : r < 16) : kt w (oN r) 5 = w 2 (r * 8 + 5) := at_oN (C := 8) (c := 5) (by omega) (by decide)
theorem kt_n6 {w : HV} {r : Nat} (h : r < 16) : kt w (oN r) 6 = w 2 (r * 8 + 6) := at_oN (C := 8) (c := 6) (by omega) (by decide)
theorem kt_n7 {w : HV} {r : Nat} (h : r < 16) : kt w (oN r) 7 = w 2 (r * 8 + 7) := at_oN (C := 8) (c := 7) (by omega) (by decide)
theorem kt_nn {w : HV} {r c : Nat} (h : r < 16) (hc : c < 8) : kt w (oN r) (oN c) = w 2 (r * 8 + c) := at_oN (C := 8) (by omega) (by decide)
theorem sl_n0 {w : HV} {r : Nat} (h : r < 10) : sl w (oN r) 0 = w 3 (r * 4 + 0) := at_oN (C := 4) (c := 0) (by omega) (by decide)
theorem sl_n1 {w : HV} {r : Nat} (h : r < 10) : sl w (oN r) 1 = w 3 (r * 4 + 1) := at_oN (C := 4) (c := 1) (by omega) (by decide)
theorem sl_n2 {w : HV} {r : Nat} (h : r < 10) : sl w (oN r) 2 = w 3 (r * 4 + 2) := at_oN (C := 4) (c := 2) (by omega) (by decide)
theorem sl_n3 {w : HV} {r : Nat} (h : r < 10) : sl w (oN r) 3 = w 3 (r * 4 + 3) := at_oN (C := 4) (c := 3) (by omega) (by decide)
theorem sl_nn {w : HV} {r c : Nat} (h : r < 10) (hc : c < 4) : sl w (oN r) (oN c) = w 3 (r * 4 + c) := at_oN (C := 4) (by omega) (by decide)
theorem tl_n0 {w : HV} {r : Nat} (h : r < 6) : tl w (oN r) 0 = w 4 (r * 3 + 0) := at_oN (C := 3) (c := 0) (by omega) (by decide)
theorem tl_n1 {w : HV} {r : Nat} (h : r < 6) : tl w (oN r) 1 = w 4 (r * 3 + 1) := at_oN (C := 3) (c := 1) (by omega) (by decide)
theorem tl_n2 {w : HV} {r : Nat} (h : r < 6) : tl w (oN r) 2 = w 4 (r * 3 + 2) := at_oN (C := 3) (c := 2) (by omega) (by decide)
theorem tl_nn {w : HV} {r c : Nat} (h : r < 6) (hc : c < 3) : tl w (oN r) (oN c) = w 4 (r * 3 + c) := at_oN (C := 3) (by omega) (by decide)
theorem hr_n0 {w : HV} {r : Nat} (h : r < 10) : hr w (oN r) 0 = w 5 (r * 7 + 0) := at_oN (C := 7) (c := 0) (by omega) (by decide)
theorem hr_n1 {w : HV} {r : Nat} (h : r < 10) : hr w (oN r) 1 = w 5 (r * 7 + 1) := at_oN (C := 7) (c := 1) (by omega) (by decide)
theorem hr_n2 {w : HV} {r : Nat} (h : r < 10) : hr w (oN r) 2 = w 5 (r * 7 + 2) := at_oN (C := 7) (c := 2) (by omega) (by decide)
theorem hr_n3 {w : HV} {r : Nat} (h : r < 10) : hr w (oN r) 3 = w 5 (r * 7 + 3) := at_oN (C := 7) (c := 3) (by omega) (by decide)
theorem hr_n4 {w : HV} {r : Nat} (h : r < 10) : hr w (oN r) 4 = w 5 (r * 7 + 4) := at_oN (C := 7) (c := 4) (by omega) (by decide)
theorem hr_n5 {w : HV} {r : Nat} (h : r < 10) : hr w (oN r) 5 = w 5 (r * 7 + 5) := at_oN (C := 7) (c := 5) (by omega) (by decide)
theorem hr_n6 {w : HV} {r : Nat} (h : r < 10) : hr w (oN r) 6 = w 5 (r * 7 + 6) := at_oN (C := 7) (c := 6) (by omega) (by decide)
theorem hr_nn {w : HV} {r c : Nat} (h : r < 10) (hc : c < 7) : hr w (oN r) (oN c) = w 5 (r * 7 + c) := at_oN (C := 7) (by omega) (by decide)
theorem pk_n0 {w : HV} {r : Nat} {x : Int32} (h : r < 16) : pt w 2 8 128 (oN r) 0 x = up2 w 2 (r * 8 + 0) x := pt_oN (C := 8) (c := 0) (by omega) (by decide)
theorem ak_n0 {w : HV} {r : Nat} {x : Int32} (h : r < 16) : pa w 2 8 128 (oN r) 0 x = up2 w 2 (r * 8 + 0) (w 2 (r * 8 + 0) + x) := pa_oN (C := 8) (c := 0) (by omega) (by decide)
theorem pk_n1 {w : HV} {r : Nat} {x : Int32} (h : r < 16) : pt w 2 8 128 (oN r) 1 x = up2 w 2 (r * 8 + 1) x := pt_oN (C := 8) (c := 1) (by omega) (by decide)
theorem ak_n1 {w : HV} {r : Nat} {x : Int32} (h : r < 16) : pa w 2 8 128 (oN r) 1 x = up2 w 2 (r * 8 + 1) (w 2 (r * 8 + 1) + x) := pa_oN (C := 8) (c := 1) (by omega) (by decide)
theorem pk_n2 {w : HV} {r : Nat} {x : Int32} (h : r < 16) : pt w 2 8 128 (oN r) 2 x = up2 w 2 (r * 8 + 2) x := pt_oN (C := 8) (c := 2) (by omega) (by decide)
theorem ak_n2 {w : HV} {r : Nat} {x : Int32} (h : r < 16) : pa w 2 8 128 (oN r) 2 x = up2 w 2 (r * 8 + 2) (w 2 (r * 8 + 2) + x) := pa_oN (C := 8) (c := 2) (by omega) (by decide)
theorem pk_n3 {w : HV} {r : Nat} {x : Int32} (h : r < 16) : pt w 2 8 128 (oN r) 3 x = up2 w 2 (r * 8 + 3) x := pt_oN (C := 8) (c := 3) (by omega) (by decide)
theorem ak_n3 {w : HV} {r : Nat} {x : Int32} (h : r < 16) : pa w 2 8 128 (oN r) 3 x = up2 w 2 (r * 8 + 3) (w 2 (r * 8 + 3) + x) := pa_oN (C := 8) (c := 3) (by omega) (by decide)
theorem pk_n4 {w : HV} {r : Nat} {x : Int32} (h : r < 16) : pt w 2 8 128 (oN r) 4 x = up2 w 2 (r * 8 + 4) x := pt_oN (C := 8) (c := 4) (by omega) (by decide)
theorem ak_n4 {w : HV} {r : Nat} {x : Int32} (h : r < 16) : pa w 2 8 128 (oN r) 4 x = up2 w 2 (r * 8 + 4) (w 2 (r * 8 + 4) + x) := pa_oN (C := 8) (c := 4) (by omega) (by decide)
theorem pk_n5 {w : HV} {r : Nat} {x : Int32} (h : r < 16) : pt w 2 8 128 (oN r) 5 x = up2 w 2 (r * 8 + 5) x := pt_oN (C := 8) (c := 5) (by omega) (by decide)
theorem ak_n5 {w : HV} {r : Nat} {x : Int32} (h : r < 16) : pa w 2 8 128 (oN r) 5 x = up2 w 2 (r * 8 + 5) (w 2 (r * 8 + 5) + x) := pa_oN (C := 8) (c := 5) (by omega) (by decide)
theorem pk_n6 {w : HV} {r : Nat} {x : Int32} (h : r < 16) : pt w 2 8 128 (oN r) 6 x = up2 w 2 (r * 8 + 6) x := pt_oN (C := 8) (c := 6) (by omega) (by decide)
theorem ak_n6 {w : HV} {r : Nat} {x : Int32} (h : r < 16) : pa w 2 8 128 (oN r) 6 x = up2 w 2 (r * 8 + 6) (w 2 (r * 8 + 6) + x) := pa_oN (C := 8) (c := 6) (by omega) (by decide)
theorem pk_n7 {w : HV} {r : Nat} {x : Int32} (h : r < 16) : pt w 2 8 128 (oN r) 7 x = up2 w 2 (r * 8 + 7) x := pt_oN (C := 8) (c := 7) (by omega) (by decide)
theorem ak_n7 {w : HV} {r : Nat} {x : Int32} (h : r < 16) : pa w 2 8 128 (oN r) 7 x = up2 w 2 (r * 8 + 7) (w 2 (r * 8 + 7) + x) := pa_oN (C := 8) (c := 7) (by omega) (by decide)
theorem ps_n0 {w : HV} {r : Nat} {x : Int32} (h : r < 10) : pt w 3 4 40 (oN r) 0 x = up2 w 3 (r * 4 + 0) x := pt_oN (C := 4) (c := 0) (by omega) (by decide)
theorem as_n0 {w : HV} {r : Nat} {x : Int32} (h : r < 10) : pa w 3 4 40 (oN r) 0 x = up2 w 3 (r * 4 + 0) (w 3 (r * 4 + 0) + x) := pa_oN (C := 4) (c := 0) (by omega) (by decide)
theorem ps_n1 {w : HV} {r : Nat} {x : Int32} (h : r < 10) : pt w 3 4 40 (oN r) 1 x = up2 w 3 (r * 4 + 1) x := pt_oN (C := 4) (c := 1) (by omega) (by decide)
theorem as_n1 {w : HV} {r : Nat} {x : Int32} (h : r < 10) : pa w 3 4 40 (oN r) 1 x = up2 w 3 (r * 4 + 1) (w 3 (r * 4 + 1) + x) := pa_oN (C := 4) (c := 1) (by omega) (by decide)
theorem ps_n2 {w : HV} {r : Nat} {x : Int32} (h : r < 10) : pt w 3 4 40 (oN r) 2 x = up2 w 3 (r * 4 + 2) x := pt_oN (C := 4) (c := 2) (by omega) (by decide)
theorem as_n2 {w : HV} {r : Nat} {x : Int32} (h : r < 10) : pa w 3 4 40 (oN r) 2 x = up2 w 3 (r * 4 + 2) (w 3 (r * 4 + 2) + x) := pa_oN (C := 4) (c := 2) (by omega) (by decide)
theorem ps_n3 {w : HV} {r : Nat} {x : Int32} (h : r < 10) : pt w 3 4 40 (oN r) 3 x = up2 w 3 (r * 4 + 3) x := pt_oN (C := 4) (c := 3) (by omega) (by decide)
theorem as_n3 {w : HV} {r : Nat} {x : Int32} (h : r < 10) : pa w 3 4 40 (oN r) 3 x = up2 w 3 (r * 4 + 3) (w 3 (r * 4 + 3) + x) := pa_oN (C := 4) (c := 3) (by omega) (by decide)
theorem pt_n0 {w : HV} {r : Nat} {x : Int32} (h : r < 6) : pt w 4 3 18 (oN r) 0 x = up2 w 4 (r * 3 + 0) x := pt_oN (C := 3) (c := 0) (by omega) (by decide)
theorem at_n0 {w : HV} {r : Nat} {x : Int32} (h : r < 6) : pa w 4 3 18 (oN r) 0 x = up2 w 4 (r * 3 + 0) (w 4 (r * 3 + 0) + x) := pa_oN (C := 3) (c := 0) (by omega) (by decide)
theorem pt_n1 {w : HV} {r : Nat} {x : Int32} (h : r < 6) : pt w 4 3 18 (oN r) 1 x = up2 w 4 (r * 3 + 1) x := pt_oN (C := 3) (c := 1) (by omega) (by decide)
theorem at_n1 {w : HV} {r : Nat} {x : Int32} (h : r < 6) : pa w 4 3 18 (oN r) 1 x = up2 w 4 (r * 3 + 1) (w 4 (r * 3 + 1) + x) := pa_oN (C := 3) (c := 1) (by omega) (by decide)
theorem pt_n2 {w : HV} {r : Nat} {x : Int32} (h : r < 6) : pt w 4 3 18 (oN r) 2 x = up2 w 4 (r * 3 + 2) x := pt_oN (C := 3) (c := 2) (by omega) (by decide)
theorem at_n2 {w : HV} {r : Nat} {x : Int32} (h : r < 6) : pa w 4 3 18 (oN r) 2 x = up2 w 4 (r * 3 + 2) (w 4 (r * 3 + 2) + x) := pa_oN (C := 3) (c := 2) (by omega) (by decide)
theorem ph_n0 {w : HV} {r : Nat} {x : Int32} (h : r < 10) : pt w 5 7 70 (oN r) 0 x = up2 w 5 (r * 7 + 0) x := pt_oN (C := 7) (c := 0) (by omega) (by decide)
theorem ah_n0 {w : HV} {r : Nat} {x : Int32} (h : r < 10) : pa w 5 7 70 (oN r) 0 x = up2 w 5 (r * 7 + 0) (w 5 (r * 7 + 0) + x) := pa_oN (C := 7) (c := 0) (by omega) (by decide)
theorem ph_n1 {w : HV} {r : Nat} {x : Int32} (h : r < 10) : pt w 5 7 70 (oN r) 1 x = up2 w 5 (r * 7 + 1) x := pt_oN (C := 7) (c := 1) (by omega) (by decide)
theorem ah_n1 {w : HV} {r : Nat} {x : Int32} (h : r < 10) : pa w 5 7 70 (oN r) 1 x = up2 w 5 (r * 7 + 1) (w 5 (r * 7 + 1) + x) := pa_oN (C := 7) (c := 1) (by omega) (by decide)
theorem ph_n2 {w : HV} {r : Nat} {x : Int32} (h : r < 10) : pt w 5 7 70 (oN r) 2 x = up2 w 5 (r * 7 + 2) x := pt_oN (C := 7) (c := 2) (by omega) (by decide)
theorem ah_n2 {w : HV} {r : Nat} {x : Int32} (h : r < 10) : pa w 5 7 70 (oN r) 2 x = up2 w 5 (r * 7 + 2) (w 5 (r * 7 + 2) + x) := pa_oN (C := 7) (c := 2) (by omega) (by decide)
theorem ph_n3 {w : HV} {r : Nat} {x : Int32} (h : r < 10) : pt w 5 7 70 (oN r) 3 x = up2 w 5 (r * 7 + 3) x := pt_oN (C := 7) (c := 3) (by omega) (by decide)
theorem ah_n3 {w : HV} {r : Nat} {x : Int32} (h : r < 10) : pa w 5 7 70 (oN r) 3 x = up2 w 5 (r * 7 + 3) (w 5 (r * 7 + 3) + x) := pa_oN (C := 7) (c := 3) (by omega) (by decide)
theorem ph_n4 {w : HV} {r : Nat} {x : Int32} (h : r < 10) : pt w 5 7 70 (oN r) 4 x = up2 w 5 (r * 7 + 4) x := pt_oN (C := 7) (c := 4) (by omega) (by decide)
theorem ah_n4 {w : HV} {r : Nat} {x : Int32} (h : r < 10) : pa w 5 7 70 (oN r) 4 x = up2 w 5 (r * 7 + 4) (w 5 (r * 7 + 4) + x) := pa_oN (C := 7) (c := 4) (by omega) (by decide)
theorem ph_n5 {w : HV} {r : Nat} {x : Int32} (h : r < 10) : pt w 5 7 70 (oN r) 5 x = up2 w 5 (r * 7 + 5) x := pt_oN (C := 7) (c := 5) (by omega) (by decide)
theorem ah_n5 {w : HV} {r : Nat} {x : Int32} (h : r < 10) : pa w 5 7 70 (oN r) 5 x = up2 w 5 (r * 7 + 5) (w 5 (r * 7 + 5) + x) := pa_oN (C := 7) (c := 5) (by omega) (by decide)
theorem ph_n6 {w : HV} {r : Nat} {x : Int32} (h : r < 10) : pt w 5 7 70 (oN r) 6 x = up2 w 5 (r * 7 + 6) x := pt_oN (C := 7) (c := 6) (by omega) (by decide)
theorem ah_n6 {w : HV} {r : Nat} {x : Int32} (h : r < 10) : pa w 5 7 70 (oN r) 6 x = up2 w 5 (r * 7 + 6) (w 5 (r * 7 + 6) + x) := pa_oN (C := 7) (c := 6) (by omega) (by decide)
theorem pe_n0 {w : HV} {r : Nat} {x : Int32} (h : r < 8) : pt w 6 4 32 (oN r) 0 x = up2 w 6 (r * 4 + 0) x := pt_oN (C := 4) (c := 0) (by omega) (by decide)
theorem ae_n0 {w : HV} {r : Nat} {x : Int32} (h : r < 8) : pa w 6 4 32 (oN r) 0 x = up2 w 6 (r * 4 + 0) (w 6 (r * 4 + 0) + x) := pa_oN (C := 4) (c := 0) (by omega) (by decide)
theorem pe_n1 {w : HV} {r : Nat} {x : Int32} (h : r < 8) : pt w 6 4 32 (oN r) 1 x = up2 w 6 (r * 4 + 1) x := pt_oN (C := 4) (c := 1) (by omega) (by decide)
theorem ae_n1 {w : HV} {r : Nat} {x : Int32} (h : r < 8) : pa w 6 4 32 (oN r) 1 x = up2 w 6 (r * 4 + 1) (w 6 (r * 4 + 1) + x) := pa_oN (C := 4) (c := 1) (by omega) (by decide)
theorem pe_n2 {w : HV} {r : Nat} {x : Int32} (h : r < 8) : pt w 6 4 32 (oN r) 2 x = up2 w 6 (r * 4 + 2) x := pt_oN (C := 4) (c := 2) (by omega) (by decide)
theorem ae_n2 {w : HV} {r : Nat} {x : Int32} (h : r < 8) : pa w 6 4 32 (oN r) 2 x = up2 w 6 (r * 4 + 2) (w 6 (r * 4 + 2) + x) := pa_oN (C := 4) (c := 2) (by omega) (by decide)
theorem pe_n3 {w : HV} {r : Nat} {x : Int32} (h : r < 8) : pt w 6 4 32 (oN r) 3 x = up2 w 6 (r * 4 + 3) x := pt_oN (C := 4) (c := 3) (by omega) (by decide)
theorem ae_n3 {w : HV} {r : Nat} {x : Int32} (h : r < 8) : pa w 6 4 32 (oN r) 3 x = up2 w 6 (r * 4 + 3) (w 6 (r * 4 + 3) + x) := pa_oN (C := 4) (c := 3) (by omega) (by decide)
theorem pw_n0 {w : HV} {r : Nat} {x : Int32} (h : r < 3) : pt w 7 1 3 (oN r) 0 x = up2 w 7 (r * 1 + 0) x := pt_oN (C := 1) (c := 0) (by omega) (by decide)
theorem aw_n0 {w : HV} {r : Nat} {x : Int32} (h : r < 3) : pa w 7 1 3 (oN r) 0 x = up2 w 7 (r * 1 + 0) (w 7 (r * 1 + 0) + x) := pa_oN (C := 1) (c := 0) (by omega) (by decide)
/-- the first of k from r on, -5 without one -/
def fsF (p : Nat → Bool) : Nat → Nat → Int32
  | _, 0 => -5
  | r, k + 1 => if p r = true then oN r else fsF p (r + 1) k
def smF (f : Nat → Int32) : Nat → Nat → Int32
  | _, 0 => 0
  | r, k + 1 => f r + smF f (r + 1) k
/-- one of k from r on -/
def exF (p : Nat → Bool) : Nat → Nat → Bool
  | _, 0 => false
  | r, k + 1 => p r || exF p (r + 1) k
/-- a wind laid on the hours from a, below n -/
def lyw (w : HV) (x : Int32) (a n : Nat) : HV := fun k j => if k = 0 ∧ a ≤ j ∧ j < n then x else w k j
theorem lyw_0 (w : HV) (x : Int32) (a n : Nat) (h : n ≤ a) : lyw w x a n = w := by
  funext k j
  unfold lyw
  rw [if_neg (by omega)]
theorem lyw_s (w : HV) (x : Int32) (a n : Nat) (h : a ≤ n) : up2 (lyw w x a n) 0 n x = lyw w x a (n + 1) := by
  funext k j
  unfold up2 lyw
  by_cases hk : k = 0
  · by_cases hj : j = n
    · rw [if_pos ⟨hk, hj⟩, if_pos ⟨hk, by omega, by omega⟩]
    · rw [if_neg (fun q => hj q.2)]
      by_cases h2 : a ≤ j ∧ j < n
      · rw [if_pos ⟨hk, h2⟩, if_pos ⟨hk, by omega, by omega⟩]
      · rw [if_neg (fun q => h2 q.2), if_neg (fun q => h2 ⟨q.2.1, by omega⟩)]
  · rw [if_neg (fun q => hk q.1), if_neg (fun q => hk q.1), if_neg (fun q => hk q.1)]
/-- a bit of a set -/
def bit (s : Int32) (c : Nat) : Int32 := (s >>> (oN c &&& 31)) &&& 1
/-- tails of a set move from a column to another, n colours of them -/
def mvT (w : HV) (s a b : Int32) : Nat → HV
  | 0 => w
  | n + 1 => pa (pa (mvT w s a b n) 4 3 18 (oN n) a (-(bit s n))) 4 3 18 (oN n) b (bit s n)
