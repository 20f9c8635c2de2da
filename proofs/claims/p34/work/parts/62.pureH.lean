/-! PURE: the hut, cell by cell -/
theorem mod8 : ∀ E, E < 256 → oN E - oN E / 8 * 8 = oN (E % 8) := by decide +kernel
theorem kt_n {w : HV} {r c : Nat} (h : r < 16) (hc : c < 8) : kt w (oN r) (oN c) = w 2 (r * 8 + c) := at_oN (C := 8) (by omega) (by decide)
theorem ptkt_n {w : HV} {r c : Nat} {x : Int32} (h : r < 16) (hc : c < 8) : pt w 2 8 128 (oN r) (oN c) x = up2 w 2 (r * 8 + c) x := pt_oN (C := 8) (by omega) (by decide)
theorem pakt_n {w : HV} {r c : Nat} {x : Int32} (h : r < 16) (hc : c < 8) : pa w 2 8 128 (oN r) (oN c) x = up2 w 2 (r * 8 + c) (w 2 (r * 8 + c) + x) := pa_oN (C := 8) (by omega) (by decide)
theorem kt_0 {w : HV} {r : Nat} (h : r < 16) : kt w (oN r) 0 = w 2 (r * 8 + 0) := kt_n (c := 0) h (by decide)
theorem ptkt_0 {w : HV} {r : Nat} {x : Int32} (h : r < 16) : pt w 2 8 128 (oN r) 0 x = up2 w 2 (r * 8 + 0) x := ptkt_n (c := 0) h (by decide)
theorem pakt_0 {w : HV} {r : Nat} {x : Int32} (h : r < 16) : pa w 2 8 128 (oN r) 0 x = up2 w 2 (r * 8 + 0) (w 2 (r * 8 + 0) + x) := pakt_n (c := 0) h (by decide)
theorem kt_1 {w : HV} {r : Nat} (h : r < 16) : kt w (oN r) 1 = w 2 (r * 8 + 1) := kt_n (c := 1) h (by decide)
theorem ptkt_1 {w : HV} {r : Nat} {x : Int32} (h : r < 16) : pt w 2 8 128 (oN r) 1 x = up2 w 2 (r * 8 + 1) x := ptkt_n (c := 1) h (by decide)
theorem pakt_1 {w : HV} {r : Nat} {x : Int32} (h : r < 16) : pa w 2 8 128 (oN r) 1 x = up2 w 2 (r * 8 + 1) (w 2 (r * 8 + 1) + x) := pakt_n (c := 1) h (by decide)
theorem kt_2 {w : HV} {r : Nat} (h : r < 16) : kt w (oN r) 2 = w 2 (r * 8 + 2) := kt_n (c := 2) h (by decide)
theorem ptkt_2 {w : HV} {r : Nat} {x : Int32} (h : r < 16) : pt w 2 8 128 (oN r) 2 x = up2 w 2 (r * 8 + 2) x := ptkt_n (c := 2) h (by decide)
theorem pakt_2 {w : HV} {r : Nat} {x : Int32} (h : r < 16) : pa w 2 8 128 (oN r) 2 x = up2 w 2 (r * 8 + 2) (w 2 (r * 8 + 2) + x) := pakt_n (c := 2) h (by decide)
theorem kt_3 {w : HV} {r : Nat} (h : r < 16) : kt w (oN r) 3 = w 2 (r * 8 + 3) := kt_n (c := 3) h (by decide)
theorem ptkt_3 {w : HV} {r : Nat} {x : Int32} (h : r < 16) : pt w 2 8 128 (oN r) 3 x = up2 w 2 (r * 8 + 3) x := ptkt_n (c := 3) h (by decide)
theorem pakt_3 {w : HV} {r : Nat} {x : Int32} (h : r < 16) : pa w 2 8 128 (oN r) 3 x = up2 w 2 (r * 8 + 3) (w 2 (r * 8 + 3) + x) := pakt_n (c := 3) h (by decide)
theorem kt_4 {w : HV} {r : Nat} (h : r < 16) : kt w (oN r) 4 = w 2 (r * 8 + 4) := kt_n (c := 4) h (by decide)
theorem ptkt_4 {w : HV} {r : Nat} {x : Int32} (h : r < 16) : pt w 2 8 128 (oN r) 4 x = up2 w 2 (r * 8 + 4) x := ptkt_n (c := 4) h (by decide)
theorem pakt_4 {w : HV} {r : Nat} {x : Int32} (h : r < 16) : pa w 2 8 128 (oN r) 4 x = up2 w 2 (r * 8 + 4) (w 2 (r * 8 + 4) + x) := pakt_n (c := 4) h (by decide)
theorem kt_5 {w : HV} {r : Nat} (h : r < 16) : kt w (oN r) 5 = w 2 (r * 8 + 5) := kt_n (c := 5) h (by decide)
theorem ptkt_5 {w : HV} {r : Nat} {x : Int32} (h : r < 16) : pt w 2 8 128 (oN r) 5 x = up2 w 2 (r * 8 + 5) x := ptkt_n (c := 5) h (by decide)
theorem pakt_5 {w : HV} {r : Nat} {x : Int32} (h : r < 16) : pa w 2 8 128 (oN r) 5 x = up2 w 2 (r * 8 + 5) (w 2 (r * 8 + 5) + x) := pakt_n (c := 5) h (by decide)
theorem kt_6 {w : HV} {r : Nat} (h : r < 16) : kt w (oN r) 6 = w 2 (r * 8 + 6) := kt_n (c := 6) h (by decide)
theorem ptkt_6 {w : HV} {r : Nat} {x : Int32} (h : r < 16) : pt w 2 8 128 (oN r) 6 x = up2 w 2 (r * 8 + 6) x := ptkt_n (c := 6) h (by decide)
theorem pakt_6 {w : HV} {r : Nat} {x : Int32} (h : r < 16) : pa w 2 8 128 (oN r) 6 x = up2 w 2 (r * 8 + 6) (w 2 (r * 8 + 6) + x) := pakt_n (c := 6) h (by decide)
theorem kt_7 {w : HV} {r : Nat} (h : r < 16) : kt w (oN r) 7 = w 2 (r * 8 + 7) := kt_n (c := 7) h (by decide)
theorem ptkt_7 {w : HV} {r : Nat} {x : Int32} (h : r < 16) : pt w 2 8 128 (oN r) 7 x = up2 w 2 (r * 8 + 7) x := ptkt_n (c := 7) h (by decide)
theorem pakt_7 {w : HV} {r : Nat} {x : Int32} (h : r < 16) : pa w 2 8 128 (oN r) 7 x = up2 w 2 (r * 8 + 7) (w 2 (r * 8 + 7) + x) := pakt_n (c := 7) h (by decide)
theorem sl_n {w : HV} {r c : Nat} (h : r < 10) (hc : c < 4) : sl w (oN r) (oN c) = w 3 (r * 4 + c) := at_oN (C := 4) (by omega) (by decide)
theorem ptsl_n {w : HV} {r c : Nat} {x : Int32} (h : r < 10) (hc : c < 4) : pt w 3 4 40 (oN r) (oN c) x = up2 w 3 (r * 4 + c) x := pt_oN (C := 4) (by omega) (by decide)
theorem pasl_n {w : HV} {r c : Nat} {x : Int32} (h : r < 10) (hc : c < 4) : pa w 3 4 40 (oN r) (oN c) x = up2 w 3 (r * 4 + c) (w 3 (r * 4 + c) + x) := pa_oN (C := 4) (by omega) (by decide)
theorem sl_0 {w : HV} {r : Nat} (h : r < 10) : sl w (oN r) 0 = w 3 (r * 4 + 0) := sl_n (c := 0) h (by decide)
theorem ptsl_0 {w : HV} {r : Nat} {x : Int32} (h : r < 10) : pt w 3 4 40 (oN r) 0 x = up2 w 3 (r * 4 + 0) x := ptsl_n (c := 0) h (by decide)
theorem pasl_0 {w : HV} {r : Nat} {x : Int32} (h : r < 10) : pa w 3 4 40 (oN r) 0 x = up2 w 3 (r * 4 + 0) (w 3 (r * 4 + 0) + x) := pasl_n (c := 0) h (by decide)
theorem sl_1 {w : HV} {r : Nat} (h : r < 10) : sl w (oN r) 1 = w 3 (r * 4 + 1) := sl_n (c := 1) h (by decide)
theorem ptsl_1 {w : HV} {r : Nat} {x : Int32} (h : r < 10) : pt w 3 4 40 (oN r) 1 x = up2 w 3 (r * 4 + 1) x := ptsl_n (c := 1) h (by decide)
theorem pasl_1 {w : HV} {r : Nat} {x : Int32} (h : r < 10) : pa w 3 4 40 (oN r) 1 x = up2 w 3 (r * 4 + 1) (w 3 (r * 4 + 1) + x) := pasl_n (c := 1) h (by decide)
theorem sl_2 {w : HV} {r : Nat} (h : r < 10) : sl w (oN r) 2 = w 3 (r * 4 + 2) := sl_n (c := 2) h (by decide)
theorem ptsl_2 {w : HV} {r : Nat} {x : Int32} (h : r < 10) : pt w 3 4 40 (oN r) 2 x = up2 w 3 (r * 4 + 2) x := ptsl_n (c := 2) h (by decide)
theorem pasl_2 {w : HV} {r : Nat} {x : Int32} (h : r < 10) : pa w 3 4 40 (oN r) 2 x = up2 w 3 (r * 4 + 2) (w 3 (r * 4 + 2) + x) := pasl_n (c := 2) h (by decide)
theorem sl_3 {w : HV} {r : Nat} (h : r < 10) : sl w (oN r) 3 = w 3 (r * 4 + 3) := sl_n (c := 3) h (by decide)
theorem ptsl_3 {w : HV} {r : Nat} {x : Int32} (h : r < 10) : pt w 3 4 40 (oN r) 3 x = up2 w 3 (r * 4 + 3) x := ptsl_n (c := 3) h (by decide)
theorem pasl_3 {w : HV} {r : Nat} {x : Int32} (h : r < 10) : pa w 3 4 40 (oN r) 3 x = up2 w 3 (r * 4 + 3) (w 3 (r * 4 + 3) + x) := pasl_n (c := 3) h (by decide)
theorem tll_n {w : HV} {r c : Nat} (h : r < 6) (hc : c < 3) : tl w (oN r) (oN c) = w 4 (r * 3 + c) := at_oN (C := 3) (by omega) (by decide)
theorem pttl_n {w : HV} {r c : Nat} {x : Int32} (h : r < 6) (hc : c < 3) : pt w 4 3 18 (oN r) (oN c) x = up2 w 4 (r * 3 + c) x := pt_oN (C := 3) (by omega) (by decide)
theorem patl_n {w : HV} {r c : Nat} {x : Int32} (h : r < 6) (hc : c < 3) : pa w 4 3 18 (oN r) (oN c) x = up2 w 4 (r * 3 + c) (w 4 (r * 3 + c) + x) := pa_oN (C := 3) (by omega) (by decide)
theorem tll_0 {w : HV} {r : Nat} (h : r < 6) : tl w (oN r) 0 = w 4 (r * 3 + 0) := tll_n (c := 0) h (by decide)
theorem pttl_0 {w : HV} {r : Nat} {x : Int32} (h : r < 6) : pt w 4 3 18 (oN r) 0 x = up2 w 4 (r * 3 + 0) x := pttl_n (c := 0) h (by decide)
theorem patl_0 {w : HV} {r : Nat} {x : Int32} (h : r < 6) : pa w 4 3 18 (oN r) 0 x = up2 w 4 (r * 3 + 0) (w 4 (r * 3 + 0) + x) := patl_n (c := 0) h (by decide)
theorem tll_1 {w : HV} {r : Nat} (h : r < 6) : tl w (oN r) 1 = w 4 (r * 3 + 1) := tll_n (c := 1) h (by decide)
theorem pttl_1 {w : HV} {r : Nat} {x : Int32} (h : r < 6) : pt w 4 3 18 (oN r) 1 x = up2 w 4 (r * 3 + 1) x := pttl_n (c := 1) h (by decide)
theorem patl_1 {w : HV} {r : Nat} {x : Int32} (h : r < 6) : pa w 4 3 18 (oN r) 1 x = up2 w 4 (r * 3 + 1) (w 4 (r * 3 + 1) + x) := patl_n (c := 1) h (by decide)
theorem tll_2 {w : HV} {r : Nat} (h : r < 6) : tl w (oN r) 2 = w 4 (r * 3 + 2) := tll_n (c := 2) h (by decide)
theorem pttl_2 {w : HV} {r : Nat} {x : Int32} (h : r < 6) : pt w 4 3 18 (oN r) 2 x = up2 w 4 (r * 3 + 2) x := pttl_n (c := 2) h (by decide)
theorem patl_2 {w : HV} {r : Nat} {x : Int32} (h : r < 6) : pa w 4 3 18 (oN r) 2 x = up2 w 4 (r * 3 + 2) (w 4 (r * 3 + 2) + x) := patl_n (c := 2) h (by decide)
theorem hr_n {w : HV} {r c : Nat} (h : r < 10) (hc : c < 7) : hr w (oN r) (oN c) = w 5 (r * 7 + c) := at_oN (C := 7) (by omega) (by decide)
theorem pthr_n {w : HV} {r c : Nat} {x : Int32} (h : r < 10) (hc : c < 7) : pt w 5 7 70 (oN r) (oN c) x = up2 w 5 (r * 7 + c) x := pt_oN (C := 7) (by omega) (by decide)
theorem pahr_n {w : HV} {r c : Nat} {x : Int32} (h : r < 10) (hc : c < 7) : pa w 5 7 70 (oN r) (oN c) x = up2 w 5 (r * 7 + c) (w 5 (r * 7 + c) + x) := pa_oN (C := 7) (by omega) (by decide)
theorem hr_0 {w : HV} {r : Nat} (h : r < 10) : hr w (oN r) 0 = w 5 (r * 7 + 0) := hr_n (c := 0) h (by decide)
theorem pthr_0 {w : HV} {r : Nat} {x : Int32} (h : r < 10) : pt w 5 7 70 (oN r) 0 x = up2 w 5 (r * 7 + 0) x := pthr_n (c := 0) h (by decide)
theorem pahr_0 {w : HV} {r : Nat} {x : Int32} (h : r < 10) : pa w 5 7 70 (oN r) 0 x = up2 w 5 (r * 7 + 0) (w 5 (r * 7 + 0) + x) := pahr_n (c := 0) h (by decide)
theorem hr_1 {w : HV} {r : Nat} (h : r < 10) : hr w (oN r) 1 = w 5 (r * 7 + 1) := hr_n (c := 1) h (by decide)
theorem pthr_1 {w : HV} {r : Nat} {x : Int32} (h : r < 10) : pt w 5 7 70 (oN r) 1 x = up2 w 5 (r * 7 + 1) x := pthr_n (c := 1) h (by decide)
theorem pahr_1 {w : HV} {r : Nat} {x : Int32} (h : r < 10) : pa w 5 7 70 (oN r) 1 x = up2 w 5 (r * 7 + 1) (w 5 (r * 7 + 1) + x) := pahr_n (c := 1) h (by decide)
theorem hr_2 {w : HV} {r : Nat} (h : r < 10) : hr w (oN r) 2 = w 5 (r * 7 + 2) := hr_n (c := 2) h (by decide)
theorem pthr_2 {w : HV} {r : Nat} {x : Int32} (h : r < 10) : pt w 5 7 70 (oN r) 2 x = up2 w 5 (r * 7 + 2) x := pthr_n (c := 2) h (by decide)
theorem pahr_2 {w : HV} {r : Nat} {x : Int32} (h : r < 10) : pa w 5 7 70 (oN r) 2 x = up2 w 5 (r * 7 + 2) (w 5 (r * 7 + 2) + x) := pahr_n (c := 2) h (by decide)
theorem hr_3 {w : HV} {r : Nat} (h : r < 10) : hr w (oN r) 3 = w 5 (r * 7 + 3) := hr_n (c := 3) h (by decide)
theorem pthr_3 {w : HV} {r : Nat} {x : Int32} (h : r < 10) : pt w 5 7 70 (oN r) 3 x = up2 w 5 (r * 7 + 3) x := pthr_n (c := 3) h (by decide)
theorem pahr_3 {w : HV} {r : Nat} {x : Int32} (h : r < 10) : pa w 5 7 70 (oN r) 3 x = up2 w 5 (r * 7 + 3) (w 5 (r * 7 + 3) + x) := pahr_n (c := 3) h (by decide)
theorem hr_4 {w : HV} {r : Nat} (h : r < 10) : hr w (oN r) 4 = w 5 (r * 7 + 4) := hr_n (c := 4) h (by decide)
theorem pthr_4 {w : HV} {r : Nat} {x : Int32} (h : r < 10) : pt w 5 7 70 (oN r) 4 x = up2 w 5 (r * 7 + 4) x := pthr_n (c := 4) h (by decide)
theorem pahr_4 {w : HV} {r : Nat} {x : Int32} (h : r < 10) : pa w 5 7 70 (oN r) 4 x = up2 w 5 (r * 7 + 4) (w 5 (r * 7 + 4) + x) := pahr_n (c := 4) h (by decide)
theorem hr_5 {w : HV} {r : Nat} (h : r < 10) : hr w (oN r) 5 = w 5 (r * 7 + 5) := hr_n (c := 5) h (by decide)
theorem pthr_5 {w : HV} {r : Nat} {x : Int32} (h : r < 10) : pt w 5 7 70 (oN r) 5 x = up2 w 5 (r * 7 + 5) x := pthr_n (c := 5) h (by decide)
theorem pahr_5 {w : HV} {r : Nat} {x : Int32} (h : r < 10) : pa w 5 7 70 (oN r) 5 x = up2 w 5 (r * 7 + 5) (w 5 (r * 7 + 5) + x) := pahr_n (c := 5) h (by decide)
theorem hr_6 {w : HV} {r : Nat} (h : r < 10) : hr w (oN r) 6 = w 5 (r * 7 + 6) := hr_n (c := 6) h (by decide)
theorem pthr_6 {w : HV} {r : Nat} {x : Int32} (h : r < 10) : pt w 5 7 70 (oN r) 6 x = up2 w 5 (r * 7 + 6) x := pthr_n (c := 6) h (by decide)
theorem pahr_6 {w : HV} {r : Nat} {x : Int32} (h : r < 10) : pa w 5 7 70 (oN r) 6 x = up2 w 5 (r * 7 + 6) (w 5 (r * 7 + 6) + x) := pahr_n (c := 6) h (by decide)
theorem ptE_0 {w : HV} {r : Nat} {x : Int32} (h : r < 8) : pt w 6 4 32 (oN r) 0 x = up2 w 6 (r * 4 + 0) x := pt_oN (C := 4) (c := 0) (by omega) (by decide)
theorem ptE_1 {w : HV} {r : Nat} {x : Int32} (h : r < 8) : pt w 6 4 32 (oN r) 1 x = up2 w 6 (r * 4 + 1) x := pt_oN (C := 4) (c := 1) (by omega) (by decide)
theorem ptE_2 {w : HV} {r : Nat} {x : Int32} (h : r < 8) : pt w 6 4 32 (oN r) 2 x = up2 w 6 (r * 4 + 2) x := pt_oN (C := 4) (c := 2) (by omega) (by decide)
theorem ptE_3 {w : HV} {r : Nat} {x : Int32} (h : r < 8) : pt w 6 4 32 (oN r) 3 x = up2 w 6 (r * 4 + 3) x := pt_oN (C := 4) (c := 3) (by omega) (by decide)
theorem wi_n {w : HV} {h : Nat} (hh : h < 1000) : windAt w (oN h) = w 0 h := (at_oN (C := 1) (c := 0) (by omega) (by decide)).trans (by rw [Nat.mul_one, Nat.add_zero])
theorem se_n {w : HV} {c : Nat} (hc : c < 5) : settg w (oN c) = w 1 c := (at_oN (C := 1) (c := 0) (by omega) (by decide)).trans (by rw [Nat.mul_one, Nat.add_zero])
theorem se_0 {w : HV} : settg w 0 = w 1 0 := se_n (c := 0) (by decide)
theorem se_1 {w : HV} : settg w 1 = w 1 1 := se_n (c := 1) (by decide)
theorem se_2 {w : HV} : settg w 2 = w 1 2 := se_n (c := 2) (by decide)
theorem se_3 {w : HV} : settg w 3 = w 1 3 := se_n (c := 3) (by decide)
theorem se_4 {w : HV} : settg w 4 = w 1 4 := se_n (c := 4) (by decide)
theorem paW_n {w : HV} {r : Nat} {x : Int32} (h : r < 3) : pa w 7 1 3 (oN r) 0 x = up2 w 7 r (w 7 r + x) := by
  have := pa_oN (w := w) (k := 7) (C := 1) (len := 3) (r := r) (c := 0) (x := x) (by omega) (by decide)
  rw [Nat.mul_one, Nat.add_zero] at this
  exact this
theorem atW_n {w : HV} {r : Nat} (h : r < 3) : at_ (w 7) 1 3 (oN r) 0 = w 7 r := (at_oN (C := 1) (c := 0) (by omega) (by decide)).trans (by rw [Nat.mul_one, Nat.add_zero])
/-- one tail of each colour of a set moves -/
theorem mvT_at {w : HV} {s : Int32} {a b : Nat} (ha : a < 3) (hb : b < 3) (hab : a ≠ b) : ∀ (n : Nat), n ≤ 6 → ∀ t, mvT w s (oN a) (oN b) n 4 t = if t < 3 * n then (if t % 3 = a then w 4 t + -(bit s (t / 3)) else if t % 3 = b then w 4 t + bit s (t / 3) else w 4 t) else w 4 t := by
  intro n
  induction n with
  | zero => intro _ t; rw [if_neg (by omega)]; rfl
  | succ n ih =>
    intro hn t
    have ih := ih (by omega)
    unfold mvT
    rw [patl_n (by omega) ha, patl_n (by omega) hb, u2k, u2k, u2k, ih, ih, ih]
    rw [if_neg (show ¬ n * 3 + a < 3 * n by omega), if_neg (show ¬ n * 3 + b < 3 * n by omega), if_neg (show ¬ n * 3 + b = n * 3 + a by omega)]
    by_cases h1 : t < 3 * n
    · rw [if_pos h1, if_pos (show t < 3 * (n + 1) by omega), if_neg (show ¬ t = n * 3 + b by omega), if_neg (show ¬ t = n * 3 + a by omega)]
    · rw [if_neg h1]
      by_cases h2 : t = n * 3 + b
      · rw [if_pos h2, if_pos (show t < 3 * (n + 1) by omega), if_neg (show ¬ t % 3 = a by omega), if_pos (show t % 3 = b by omega), show t / 3 = n by omega, h2]
      · rw [if_neg h2]
        by_cases h3 : t = n * 3 + a
        · rw [if_pos h3, if_pos (show t < 3 * (n + 1) by omega), if_pos (show t % 3 = a by omega), show t / 3 = n by omega, h3]
        · rw [if_neg h3]
          by_cases h4 : t < 3 * (n + 1)
          · rw [if_pos h4, if_neg (show ¬ t % 3 = a by omega), if_neg (show ¬ t % 3 = b by omega)]
          · rw [if_neg h4]
theorem mvT_o {w : HV} {s a b : Int32} {k : Fin 9} {n : Nat} (h : k ≠ 4) : mvT w s a b n k = w k := mvT_ne h n
theorem drp_5 {w : HV} {p t : Nat} : drp w p 5 t = if p * 7 ≤ t ∧ t + 7 < 70 then w 5 (t + 7) else w 5 t := by
  unfold drp
  by_cases h : p * 7 ≤ t ∧ t + 7 < 70
  · rw [if_pos ⟨rfl, h.1, h.2⟩, if_pos h]
  · rw [if_neg (fun q => h q.2), if_neg h]
/-- the tails behind an end -/
def etF (w : HV) (P : Nat) (mis : Int32) (t : Nat) : Int32 :=
  (if t % 3 = 1 then w 4 t + -(bit (w 5 (P * 7 + 4) &&& (mis ^^^ -1)) (t / 3)) + -(bit mis (t / 3)) else if t % 3 = 0 then w 4 t + bit (w 5 (P * 7 + 4) &&& (mis ^^^ -1)) (t / 3) else w 4 t + bit mis (t / 3))
theorem enH_at {w : HV} {P K S W E : Nat} {mis : Int32} (hP : P < 10) (hK : K < 16) (hS : S < 10) (hW : W < 3) (hE : E < 256) (eK : w 5 (P * 7 + 0) = oN K) (eS : w 5 (P * 7 + 1) = oN S) (eE : w 8 5 = oN E) :
    enH w (oN P) (oN W) mis 0 = w 0 ∧ enH w (oN P) (oN W) mis 1 = w 1 ∧ (∀ t, enH w (oN P) (oN W) mis 2 t = if t = K * 8 + 7 then -5 else if t = K * 8 + 0 then (if oN W = 2 then 2 else 0) else w 2 t) ∧
    (∀ t, enH w (oN P) (oN W) mis 3 t = if t = S * 4 + 2 then -5 else w 3 t) ∧ (∀ t, t < 18 → enH w (oN P) (oN W) mis 4 t = etF w P mis t) ∧
    (∀ t, enH w (oN P) (oN W) mis 5 t = if P * 7 ≤ t ∧ t + 7 < 70 then w 5 (t + 7) else w 5 t) ∧
    (∀ t, enH w (oN P) (oN W) mis 6 t = if t = E % 8 * 4 + 3 then w 5 (P * 7 + 5) + 1000 else if t = E % 8 * 4 + 2 then w 8 0 else if t = E % 8 * 4 + 1 then oN W else if t = E % 8 * 4 + 0 then w 5 (P * 7 + 6) else w 6 t) ∧
    (∀ t, enH w (oN P) (oN W) mis 7 t = if t = W then w 7 W + 1 else w 7 t) ∧ (∀ t, enH w (oN P) (oN W) mis 8 t = if t = 4 then w 8 4 - 1 else if t = 5 then w 8 5 + 1 else w 8 t) := by
  have c1 : enH1 w (oN P) (oN W) = up2 (up2 (up2 w 2 (K * 8 + 0) (if oN W = 2 then 2 else 0)) 2 (K * 8 + 7) (-5)) 3 (S * 4 + 2) (-5) := by
    unfold enH1
    rw [hr_0 hP, hr_1 hP, eK, eS, ptkt_0 hK, ptkt_7 hK, ptsl_2 hS]
  have k1 : ∀ k : Fin 9, k ≠ 2 → k ≠ 3 → enH1 w (oN P) (oN W) k = w k := by
    intro k h2 h3
    rw [c1, up2_kn h3, up2_kn h2, up2_kn h2]
  have k2 : ∀ k : Fin 9, k ≠ 4 → enH2 w (oN P) (oN W) mis k = enH1 w (oN P) (oN W) k := by
    intro k h
    unfold enH2
    rw [mvT_o h, mvT_o h]
  have hpl : E % 8 < 8 := Nat.mod_lt _ (by decide)
  have c3 : enH3 w (oN P) (oN W) mis = up2 (up2 (up2 (up2 (enH2 w (oN P) (oN W) mis) 6 (E % 8 * 4 + 0) (w 5 (P * 7 + 6))) 6 (E % 8 * 4 + 1) (oN W)) 6 (E % 8 * 4 + 2) (w 8 0)) 6 (E % 8 * 4 + 3) (w 5 (P * 7 + 5) + 1000) := by
    unfold enH3
    rw [eE, mod8 E hE, hr_5 hP, hr_6 hP, ptE_0 hpl, ptE_1 hpl, ptE_2 hpl, ptE_3 hpl]
  have k3 : ∀ k : Fin 9, k ≠ 6 → enH3 w (oN P) (oN W) mis k = enH2 w (oN P) (oN W) mis k := by
    intro k h
    rw [c3, up2_kn h, up2_kn h, up2_kn h, up2_kn h]
  have hPn : (oN P).toNatClampNeg = P := oN_nat (by omega)
  have c4 : enH w (oN P) (oN W) mis = up2 (drp (up2 (up2 (enH3 w (oN P) (oN W) mis) 8 5 (w 8 5 + 1)) 7 W (w 7 W + 1)) P) 8 4 (w 8 4 - 1) := by
    unfold enH
    rw [hPn, paW_n hW, up2_kn (w := enH3 w (oN P) (oN W) mis) (k' := 7) (k := 8) (by decide), k3 7 (by decide), k2 7 (by decide), k1 7 (by decide) (by decide)]
  have k4 : ∀ k : Fin 9, k ≠ 8 → k ≠ 5 → k ≠ 7 → enH w (oN P) (oN W) mis k = enH3 w (oN P) (oN W) mis k := by
    intro k h8 h5 h7
    rw [c4, up2_kn h8, drp_ne h5, up2_kn h7, up2_kn h8]
  refine ⟨?_, ?_, ?_, ?_, ?_, ?_, ?_, ?_, ?_⟩
  · rw [k4 0 (by decide) (by decide) (by decide), k3 0 (by decide), k2 0 (by decide), k1 0 (by decide) (by decide)]
  · rw [k4 1 (by decide) (by decide) (by decide), k3 1 (by decide), k2 1 (by decide), k1 1 (by decide) (by decide)]
  · intro t
    rw [k4 2 (by decide) (by decide) (by decide), k3 2 (by decide), k2 2 (by decide), c1, up2_kn (by decide), u2k, u2k]
  · intro t
    rw [k4 3 (by decide) (by decide) (by decide), k3 3 (by decide), k2 3 (by decide), c1, u2k, up2_kn (by decide), up2_kn (by decide)]
  · intro t ht
    rw [k4 4 (by decide) (by decide) (by decide), k3 4 (by decide)]
    unfold enH2 etF
    rw [hr_4 hP]
    have m1 := mvT_at (w := mvT (enH1 w (oN P) (oN W)) (w 5 (P * 7 + 4) &&& (mis ^^^ -1)) (oN 1) (oN 0) 6) (s := mis) (a := 1) (b := 2) (by decide) (by decide) (by decide) 6 (Nat.le_refl _) t
    have m2 := mvT_at (w := enH1 w (oN P) (oN W)) (s := w 5 (P * 7 + 4) &&& (mis ^^^ -1)) (a := 1) (b := 0) (by decide) (by decide) (by decide) 6 (Nat.le_refl _) t
    rw [k1 4 (by decide) (by decide)] at m2
    refine m1.trans ?_
    rw [m2, if_pos (show t < 3 * 6 by omega), if_pos (show t < 3 * 6 by omega)]
    rcases (show t % 3 = 0 ∨ t % 3 = 1 ∨ t % 3 = 2 by omega) with h | h | h
    · rw [if_neg (show ¬ t % 3 = 1 by omega), if_neg (show ¬ t % 3 = 2 by omega), if_neg (show ¬ t % 3 = 1 by omega), if_pos h, if_neg (show ¬ t % 3 = 1 by omega), if_pos h]
    · rw [if_pos h, if_pos h, if_pos h]
    · rw [if_neg (show ¬ t % 3 = 1 by omega), if_pos h, if_neg (show ¬ t % 3 = 1 by omega), if_neg (show ¬ t % 3 = 0 by omega), if_neg (show ¬ t % 3 = 1 by omega), if_neg (show ¬ t % 3 = 0 by omega)]
  · intro t
    rw [c4, up2_kn (by decide), drp_5, up2_kn (by decide), up2_kn (by decide), k3 5 (by decide), k2 5 (by decide), k1 5 (by decide) (by decide)]
  · intro t
    rw [k4 6 (by decide) (by decide) (by decide), c3, u2k, u2k, u2k, u2k, k2 6 (by decide), k1 6 (by decide) (by decide)]
  · intro t
    rw [c4, up2_kn (by decide), drp_ne (by decide), u2k, up2_kn (by decide), k3 7 (by decide), k2 7 (by decide), k1 7 (by decide) (by decide)]
  · intro t
    rw [c4, u2k, drp_ne (by decide), up2_kn (by decide), u2k, k3 8 (by decide), k2 8 (by decide), k1 8 (by decide) (by decide)]

