/-! truth values; an index that was looked at -/
def b2 (b : Bool) : Int32 := if b = true then 1 else 0
theorem rb_b2 (b : Bool) : rb (b2 b) = True := eq_true (by unfold b2; split <;> rfl)
theorem b2_0 (b : Bool) : (b2 b = 0) = (b = false) := propext (by cases b <;> simp [b2])
theorem iin_p {x : Int32} {n : Nat} (h0 : ¬ x < 0) (h1 : x < oN n) (hn : n < 2 ^ 31) : iin x n = True := iin_of h0 h1 hn
theorem b2_cases (b : Bool) : b = true ∨ b = false := by cases b <;> simp

