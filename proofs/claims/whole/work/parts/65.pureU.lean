/-! PURE: one cell changes on both sides -/
theorem u2n {w : HV} {k k2 : Fin 9} {i t : Nat} {x : Int32} (h : k2 ≠ k) : up2 w k i x k2 t = w k2 t := by rw [up2_kn h]
theorem rel_sp {w : HV} {s s2 : Nat → Int32} {S O E P t : Nat} {x : Int32} (h : Rel w s S O E P) (hS : S ≤ 10) (hO : O ≤ 10) (ht0 : t < 40) (h3 : t % 4 ≠ 3) (hs : ∀ u, s2 u = if u = 1129 + t then x else s u) : Rel (up2 w 3 (t) x) s2 S O E P := by
  obtain ⟨⟨a0, a1, a6, a7, a8, a9, a12, a14, a16⟩, hw, hk, hsp, ht, hh, he, hl⟩ := h
  refine ⟨⟨?_, ?_, ?_, ?_, ?_, ?_, ?_, ?_, ?_⟩, ?_, ?_, ?_, ?_, ?_, ?_, ?_⟩
  · rw [hs, if_neg (by omega), u2n (by decide)]; exact a0
  · intro c hc
    rw [hs, if_neg (by omega), u2n (by decide)]; exact a1 c hc
  · rw [hs, if_neg (by omega), u2n (by decide)]; exact a6
  · rw [hs, if_neg (by omega), u2n (by decide)]; exact a7
  · rw [hs, if_neg (by omega), u2n (by decide)]; exact a8
  · intro c hc
    rw [hs, if_neg (by omega), u2n (by decide)]; exact a9 c hc
  · rw [hs, if_neg (by omega), u2n (by decide)]; exact a12
  · rw [hs, if_neg (by omega), u2n (by decide)]; exact a14
  · rw [hs, if_neg (by omega), u2n (by decide)]; exact a16
  · intro c hc
    rw [hs, if_neg (by omega), u2n (by decide)]; exact hw c hc
  · intro r hr c hc
    rw [hs, if_neg (by omega), u2n (by decide)]; exact hk r hr c hc
  · intro t2 h2
    by_cases e : t2 = t
    · rw [hs, if_pos (by omega), u2k, if_pos (by omega)]
    · rw [hs, if_neg (by omega), u2k, if_neg (by omega)]; exact hsp t2 h2
  · intro t2 h2
    rw [hs, if_neg (by omega), u2n (by decide)]; exact ht t2 h2
  · intro r hr
    refine ⟨?_, fun c hc hx => ?_⟩
    · rw [hs, if_neg (by omega), u2n (by decide)]; exact (hh r hr).1
    · rw [hs, if_neg (by omega), u2n (by decide)]; exact (hh r hr).2 c hc hx
  · refine ⟨?_, fun j hj c hc => ?_⟩
    · rw [hs, if_neg (by omega)]; exact he.1
    · have hj8 : j < 8 := by omega
      rw [hs, if_neg (by omega), u2n (by decide)]; exact he.2 j hj c hc
  · show s2 13 = _
    rw [hs, if_neg (by omega)]
    refine hl.trans (suF_c _ _ _ (fun r h1 h2 => ?_))
    rw [u2k, if_neg (by omega)]
theorem rel_k {w : HV} {s s2 : Nat → Int32} {S O E P k c0 : Nat} {x : Int32} (h : Rel w s S O E P) (hS : S ≤ 10) (hO : O ≤ 10) (hk0 : k < 16) (hc0 : c0 < 7) (hs : ∀ u, s2 u = if u = 1017 + 7 * k + c0 then x else s u) : Rel (up2 w 2 (k * 8 + c0) x) s2 S O E P := by
  obtain ⟨⟨a0, a1, a6, a7, a8, a9, a12, a14, a16⟩, hw, hk, hsp, ht, hh, he, hl⟩ := h
  refine ⟨⟨?_, ?_, ?_, ?_, ?_, ?_, ?_, ?_, ?_⟩, ?_, ?_, ?_, ?_, ?_, ?_, ?_⟩
  · rw [hs, if_neg (by omega), u2n (by decide)]; exact a0
  · intro c hc
    rw [hs, if_neg (by omega), u2n (by decide)]; exact a1 c hc
  · rw [hs, if_neg (by omega), u2n (by decide)]; exact a6
  · rw [hs, if_neg (by omega), u2n (by decide)]; exact a7
  · rw [hs, if_neg (by omega), u2n (by decide)]; exact a8
  · intro c hc
    rw [hs, if_neg (by omega), u2n (by decide)]; exact a9 c hc
  · rw [hs, if_neg (by omega), u2n (by decide)]; exact a12
  · rw [hs, if_neg (by omega), u2n (by decide)]; exact a14
  · rw [hs, if_neg (by omega), u2n (by decide)]; exact a16
  · intro c hc
    rw [hs, if_neg (by omega), u2n (by decide)]; exact hw c hc
  · intro r hr c hc
    by_cases e : r = k ∧ c = c0
    · rw [hs, if_pos (by omega), u2k, if_pos (by omega)]
    · rw [hs, if_neg (by omega), u2k, if_neg (by omega)]; exact hk r hr c hc
  · intro t2 h2
    rw [hs, if_neg (by omega), u2n (by decide)]; exact hsp t2 h2
  · intro t2 h2
    rw [hs, if_neg (by omega), u2n (by decide)]; exact ht t2 h2
  · intro r hr
    refine ⟨?_, fun c hc hx => ?_⟩
    · rw [hs, if_neg (by omega), u2n (by decide)]; exact (hh r hr).1
    · rw [hs, if_neg (by omega), u2n (by decide)]; exact (hh r hr).2 c hc hx
  · refine ⟨?_, fun j hj c hc => ?_⟩
    · rw [hs, if_neg (by omega)]; exact he.1
    · have hj8 : j < 8 := by omega
      rw [hs, if_neg (by omega), u2n (by decide)]; exact he.2 j hj c hc
  · show s2 13 = _
    rw [hs, if_neg (by omega)]
    refine hl.trans (suF_c _ _ _ (fun r h1 h2 => ?_))
    rw [u2n (by decide)]
theorem rel_fl {w : HV} {s s2 : Nat → Int32} {S O E P : Nat} {x : Int32} (h : Rel w s S O E P) (hS : S ≤ 10) (hO : O ≤ 10)  (hs : ∀ u, s2 u = if u = 14 then x else s u) : Rel (up2 w 8 (7) x) s2 S O E P := by
  obtain ⟨⟨a0, a1, a6, a7, a8, a9, a12, a14, a16⟩, hw, hk, hsp, ht, hh, he, hl⟩ := h
  refine ⟨⟨?_, ?_, ?_, ?_, ?_, ?_, ?_, ?_, ?_⟩, ?_, ?_, ?_, ?_, ?_, ?_, ?_⟩
  · rw [hs, if_neg (by omega), u2k, if_neg (by omega)]; exact a0
  · intro c hc
    rw [hs, if_neg (by omega), u2n (by decide)]; exact a1 c hc
  · rw [hs, if_neg (by omega), u2k, if_neg (by omega)]; exact a6
  · rw [hs, if_neg (by omega), u2k, if_neg (by omega)]; exact a7
  · rw [hs, if_neg (by omega), u2k, if_neg (by omega)]; exact a8
  · intro c hc
    rw [hs, if_neg (by omega), u2n (by decide)]; exact a9 c hc
  · rw [hs, if_neg (by omega), u2k, if_neg (by omega)]; exact a12
  · rw [hs, if_pos rfl, u2k, if_pos rfl]
  · rw [hs, if_neg (by omega), u2k, if_neg (by omega)]; exact a16
  · intro c hc
    rw [hs, if_neg (by omega), u2n (by decide)]; exact hw c hc
  · intro r hr c hc
    rw [hs, if_neg (by omega), u2n (by decide)]; exact hk r hr c hc
  · intro t2 h2
    rw [hs, if_neg (by omega), u2n (by decide)]; exact hsp t2 h2
  · intro t2 h2
    rw [hs, if_neg (by omega), u2n (by decide)]; exact ht t2 h2
  · intro r hr
    refine ⟨?_, fun c hc hx => ?_⟩
    · rw [hs, if_neg (by omega), u2n (by decide)]; exact (hh r hr).1
    · rw [hs, if_neg (by omega), u2n (by decide)]; exact (hh r hr).2 c hc hx
  · refine ⟨?_, fun j hj c hc => ?_⟩
    · rw [hs, if_neg (by omega)]; exact he.1
    · have hj8 : j < 8 := by omega
      rw [hs, if_neg (by omega), u2n (by decide)]; exact he.2 j hj c hc
  · show s2 13 = _
    rw [hs, if_neg (by omega)]
    refine hl.trans (suF_c _ _ _ (fun r h1 h2 => ?_))
    rw [u2n (by decide)]
theorem rel_co {w : HV} {s s2 : Nat → Int32} {S O E P : Nat} {x : Int32} (h : Rel w s S O E P) (hS : S ≤ 10) (hO : O ≤ 10)  (hs : ∀ u, s2 u = if u = 12 then x else s u) : Rel (up2 w 8 (6) x) s2 S O E P := by
  obtain ⟨⟨a0, a1, a6, a7, a8, a9, a12, a14, a16⟩, hw, hk, hsp, ht, hh, he, hl⟩ := h
  refine ⟨⟨?_, ?_, ?_, ?_, ?_, ?_, ?_, ?_, ?_⟩, ?_, ?_, ?_, ?_, ?_, ?_, ?_⟩
  · rw [hs, if_neg (by omega), u2k, if_neg (by omega)]; exact a0
  · intro c hc
    rw [hs, if_neg (by omega), u2n (by decide)]; exact a1 c hc
  · rw [hs, if_neg (by omega), u2k, if_neg (by omega)]; exact a6
  · rw [hs, if_neg (by omega), u2k, if_neg (by omega)]; exact a7
  · rw [hs, if_neg (by omega), u2k, if_neg (by omega)]; exact a8
  · intro c hc
    rw [hs, if_neg (by omega), u2n (by decide)]; exact a9 c hc
  · rw [hs, if_pos rfl, u2k, if_pos rfl]
  · rw [hs, if_neg (by omega), u2k, if_neg (by omega)]; exact a14
  · rw [hs, if_neg (by omega), u2k, if_neg (by omega)]; exact a16
  · intro c hc
    rw [hs, if_neg (by omega), u2n (by decide)]; exact hw c hc
  · intro r hr c hc
    rw [hs, if_neg (by omega), u2n (by decide)]; exact hk r hr c hc
  · intro t2 h2
    rw [hs, if_neg (by omega), u2n (by decide)]; exact hsp t2 h2
  · intro t2 h2
    rw [hs, if_neg (by omega), u2n (by decide)]; exact ht t2 h2
  · intro r hr
    refine ⟨?_, fun c hc hx => ?_⟩
    · rw [hs, if_neg (by omega), u2n (by decide)]; exact (hh r hr).1
    · rw [hs, if_neg (by omega), u2n (by decide)]; exact (hh r hr).2 c hc hx
  · refine ⟨?_, fun j hj c hc => ?_⟩
    · rw [hs, if_neg (by omega)]; exact he.1
    · have hj8 : j < 8 := by omega
      rw [hs, if_neg (by omega), u2n (by decide)]; exact he.2 j hj c hc
  · show s2 13 = _
    rw [hs, if_neg (by omega)]
    refine hl.trans (suF_c _ _ _ (fun r h1 h2 => ?_))
    rw [u2n (by decide)]
theorem rel_h {w : HV} {s s2 : Nat → Int32} {S O E P q c0 : Nat} {x : Int32} (h : Rel w s S O E P) (hS : S ≤ 10) (hO : O ≤ 10) (hq0 : q < 10) (hc0 : c0 < 6) (hs : ∀ u, s2 u = if u = 1187 + 7 * q + (c0 + 1) then x else s u) : Rel (up2 w 5 (q * 7 + c0) x) s2 S O E P := by
  obtain ⟨⟨a0, a1, a6, a7, a8, a9, a12, a14, a16⟩, hw, hk, hsp, ht, hh, he, hl⟩ := h
  refine ⟨⟨?_, ?_, ?_, ?_, ?_, ?_, ?_, ?_, ?_⟩, ?_, ?_, ?_, ?_, ?_, ?_, ?_⟩
  · rw [hs, if_neg (by omega), u2n (by decide)]; exact a0
  · intro c hc
    rw [hs, if_neg (by omega), u2n (by decide)]; exact a1 c hc
  · rw [hs, if_neg (by omega), u2n (by decide)]; exact a6
  · rw [hs, if_neg (by omega), u2n (by decide)]; exact a7
  · rw [hs, if_neg (by omega), u2n (by decide)]; exact a8
  · intro c hc
    rw [hs, if_neg (by omega), u2n (by decide)]; exact a9 c hc
  · rw [hs, if_neg (by omega), u2n (by decide)]; exact a12
  · rw [hs, if_neg (by omega), u2n (by decide)]; exact a14
  · rw [hs, if_neg (by omega), u2n (by decide)]; exact a16
  · intro c hc
    rw [hs, if_neg (by omega), u2n (by decide)]; exact hw c hc
  · intro r hr c hc
    rw [hs, if_neg (by omega), u2n (by decide)]; exact hk r hr c hc
  · intro t2 h2
    rw [hs, if_neg (by omega), u2n (by decide)]; exact hsp t2 h2
  · intro t2 h2
    rw [hs, if_neg (by omega), u2n (by decide)]; exact ht t2 h2
  · intro r hr
    refine ⟨?_, fun c hc hx => ?_⟩
    · rw [hs, if_neg (by omega), u2k, if_neg (by omega)]; exact (hh r hr).1
    · by_cases e : r = q ∧ c = c0
      · rw [hs, if_pos (by omega), u2k, if_pos (by omega)]
      · rw [hs, if_neg (by omega), u2k, if_neg (by omega)]; exact (hh r hr).2 c hc hx
  · refine ⟨?_, fun j hj c hc => ?_⟩
    · rw [hs, if_neg (by omega)]; exact he.1
    · have hj8 : j < 8 := by omega
      rw [hs, if_neg (by omega), u2n (by decide)]; exact he.2 j hj c hc
  · show s2 13 = _
    rw [hs, if_neg (by omega)]
    refine hl.trans (suF_c _ _ _ (fun r h1 h2 => ?_))
    rw [u2n (by decide)]
theorem Rel_c {w : HV} {s s2 : Nat → Int32} {S O E P : Nat} (h : Rel w s S O E P) (hO : O ≤ 10) (hs : ∀ u, u < 1289 → s2 u = s u) : Rel w s2 S O E P := by
  obtain ⟨⟨a0, a1, a6, a7, a8, a9, a12, a14, a16⟩, hw, hk, hsp, ht, hh, he, hl⟩ := h
  refine ⟨⟨?_, ?_, ?_, ?_, ?_, ?_, ?_, ?_, ?_⟩, ?_, ?_, ?_, ?_, ?_, ?_, ?_⟩
  · rw [hs _ (by omega)]; exact a0
  · intro c hc; rw [hs _ (by omega)]; exact a1 c hc
  · rw [hs _ (by omega)]; exact a6
  · rw [hs _ (by omega)]; exact a7
  · rw [hs _ (by omega)]; exact a8
  · intro c hc; rw [hs _ (by omega)]; exact a9 c hc
  · rw [hs _ (by omega)]; exact a12
  · rw [hs _ (by omega)]; exact a14
  · rw [hs _ (by omega)]; exact a16
  · intro c hc; rw [hs _ (by omega)]; exact hw c hc
  · intro r hr c hc; rw [hs _ (by omega)]; exact hk r hr c hc
  · intro t h; rw [hs _ (by omega)]; exact hsp t h
  · intro t h; rw [hs _ (by omega)]; exact ht t h
  · intro r hr
    refine ⟨?_, fun c hc hx => ?_⟩
    · rw [hs _ (by omega)]; exact (hh r hr).1
    · rw [hs _ (by omega)]; exact (hh r hr).2 c hc hx
  · refine ⟨?_, fun j hj c hc => ?_⟩
    · rw [hs _ (by omega)]; exact he.1
    · have hj8 : j < 8 := by omega
      rw [hs _ (by omega)]; exact he.2 j hj c hc
  · show s2 13 = _
    rw [hs _ (by omega)]; exact hl
theorem suF_d (f : Nat → Int32) : ∀ (k n : Nat) (d x : Int32), suF f n k (d + x) = suF f n k d + x := by
  intro k
  induction k with
  | zero => intro n d x; rfl
  | succ k ih =>
    intro n d x
    unfold suF
    rw [show d + x + f n = d + f n + x by rw [Int32.add_assoc, Int32.add_comm x, ← Int32.add_assoc], ih]
theorem suF_u {f g : Nat → Int32} {s : Nat} {x : Int32} (hg : g s = f s + x) (h : ∀ r, r ≠ s → g r = f r) : ∀ (k n : Nat) (d : Int32), n ≤ s → s < n + k → suF g n k d = suF f n k d + x := by
  intro k
  induction k with
  | zero => intro n d h1 h2; omega
  | succ k ih =>
    intro n d h1 h2
    unfold suF
    by_cases e : n = s
    · subst e
      rw [hg, ← Int32.add_assoc, suF_d]
      rw [suF_c (f := g) (g := f) k (n + 1) _ (fun r h3 h4 => h r (by omega))]
    · rw [h n e]
      exact ih (n + 1) _ (by omega) (by omega)
/-- metres are lost: the spool's, and their sum -/
theorem rel_lo {w : HV} {s s2 : Nat → Int32} {S O E P q : Nat} {m : Int32} (h : Rel w s S O E P) (hS : S ≤ 10) (hO : O ≤ 10) (hq : q < S) (hs : ∀ u, s2 u = if u = 13 then s 13 + m else if u = 1129 + (q * 4 + 3) then w 3 (q * 4 + 3) + m else s u) : Rel (up2 w 3 (q * 4 + 3) (w 3 (q * 4 + 3) + m)) s2 S O E P := by
  obtain ⟨⟨a0, a1, a6, a7, a8, a9, a12, a14, a16⟩, hw, hk, hsp, ht, hh, he, hl⟩ := h
  refine ⟨⟨?_, ?_, ?_, ?_, ?_, ?_, ?_, ?_, ?_⟩, ?_, ?_, ?_, ?_, ?_, ?_, ?_⟩
  · rw [hs, if_neg (by omega), if_neg (by omega), u2n (by decide)]; exact a0
  · intro c hc; rw [hs, if_neg (by omega), if_neg (by omega), u2n (by decide)]; exact a1 c hc
  · rw [hs, if_neg (by omega), if_neg (by omega), u2n (by decide)]; exact a6
  · rw [hs, if_neg (by omega), if_neg (by omega), u2n (by decide)]; exact a7
  · rw [hs, if_neg (by omega), if_neg (by omega), u2n (by decide)]; exact a8
  · intro c hc; rw [hs, if_neg (by omega), if_neg (by omega), u2n (by decide)]; exact a9 c hc
  · rw [hs, if_neg (by omega), if_neg (by omega), u2n (by decide)]; exact a12
  · rw [hs, if_neg (by omega), if_neg (by omega), u2n (by decide)]; exact a14
  · rw [hs, if_neg (by omega), if_neg (by omega), u2n (by decide)]; exact a16
  · intro c hc; rw [hs, if_neg (by omega), if_neg (by omega), u2n (by decide)]; exact hw c hc
  · intro r hr c hc; rw [hs, if_neg (by omega), if_neg (by omega), u2n (by decide)]; exact hk r hr c hc
  · intro t h
    by_cases e : t = q * 4 + 3
    · rw [hs, if_neg (by omega), if_pos (by omega), u2k, if_pos e]
    · rw [hs, if_neg (by omega), if_neg (by omega), u2k, if_neg e]; exact hsp t h
  · intro t h; rw [hs, if_neg (by omega), if_neg (by omega), u2n (by decide)]; exact ht t h
  · intro r hr
    refine ⟨?_, fun c hc hx => ?_⟩
    · rw [hs, if_neg (by omega), if_neg (by omega), u2n (by decide)]; exact (hh r hr).1
    · rw [hs, if_neg (by omega), if_neg (by omega), u2n (by decide)]; exact (hh r hr).2 c hc hx
  · refine ⟨?_, fun j hj c hc => ?_⟩
    · rw [hs, if_neg (by omega), if_neg (by omega)]; exact he.1
    · have hj8 : j < 8 := by omega
      rw [hs, if_neg (by omega), if_neg (by omega), u2n (by decide)]; exact he.2 j hj c hc
  · show s2 13 = _
    rw [hs, if_pos rfl]
    refine (congrArg (· + m) hl).trans (suF_u (s := q) ?_ (fun r hr => ?_) S 0 0 (Nat.zero_le _) (by omega)).symm
    · show up2 w 3 (q * 4 + 3) (w 3 (q * 4 + 3) + m) 3 (q * 4 + 3) = _
      rw [u2k, if_pos rfl]
    · show up2 w 3 (q * 4 + 3) (w 3 (q * 4 + 3) + m) 3 (r * 4 + 3) = _
      rw [u2k, if_neg (by omega)]
theorem Ivt_c {w w2 : HV} {T K S N O E b b2 P P2 : Nat} (h : Ivt w T K S N O E b P) (e8 : ∀ t, t < 6 → w2 8 t = w 8 t) (hb : sm (w2 8 7) b2) (e3 : ∀ r, r < 10 → w2 3 (r * 4 + 2) = w 3 (r * 4 + 2)) (e2 : ∀ k, k < 16 → w2 2 (k * 8 + 7) = w 2 (k * 8 + 7) ∧ w2 2 (k * 8 + 0) = w 2 (k * 8 + 0))
    (e5 : ∀ r, r < 10 → w2 5 (r * 7 + 0) = w 5 (r * 7 + 0) ∧ w2 5 (r * 7 + 1) = w 5 (r * 7 + 1) ∧ w2 5 (r * 7 + 4) = w 5 (r * 7 + 4) ∧ w2 5 (r * 7 + 6) = w 5 (r * 7 + 6)) (e53 : ∀ r, r < O → r ≠ P2 → r ≠ P ∧ w2 5 (r * 7 + 3) = w 5 (r * 7 + 3)) (e4 : w2 4 = w 4)
    (z2 : ∀ k, K ≤ k → k < 16 → w2 2 (k * 8 + 5) = w 2 (k * 8 + 5) ∧ w2 2 (k * 8 + 6) = w 2 (k * 8 + 6)) (z3 : ∀ r, S ≤ r → r < 10 → w2 3 (r * 4 + 1) = w 3 (r * 4 + 1) ∧ w2 3 (r * 4 + 3) = w 3 (r * 4 + 3)) : Ivt w2 T K S N O E b2 P2 := by
  obtain ⟨⟨a0, a1, a2, a3, a4, a5, a7⟩, ⟨b1, b2, b3, b4, b5⟩, hc, hH, hD, hN, hT, hZ⟩ := h
  have hO : O ≤ 10 := by have := cnF_le (f := fun r => w 3 (r * 4 + 2)) S; omega
  refine ⟨⟨(e8 0 (by decide)).trans a0, (e8 1 (by decide)).trans a1, (e8 2 (by decide)).trans a2, (e8 3 (by decide)).trans a3, (e8 4 (by decide)).trans a4, (e8 5 (by decide)).trans a5, hb⟩, ⟨b1, b2, b3, b4, b5⟩, ?_, ?_, ?_, ?_, ?_, ?_, ?_⟩
  · rw [cnF_c (f := fun r => w2 3 (r * 4 + 2)) (g := fun r => w 3 (r * 4 + 2)) S (fun r hr => e3 r (by omega))]; exact hc
  · intro r hr
    obtain ⟨k, s, n, p1, p2, p3, p4, p5, p6, p7, p8, p9, pA, pB⟩ := hH r hr
    obtain ⟨f0, f1, f4, f6⟩ := e5 r (by omega)
    refine ⟨k, s, n, p1, p2, p3, f0.trans p4, f1.trans p5, f6.trans p6, (e3 s (by omega)).trans p7, (e2 k (by omega)).1.trans p8, (e2 k (by omega)).2.trans p9, by rw [f4]; exact pA, fun hr2 => ?_⟩
    obtain ⟨g1, g2⟩ := e53 r hr hr2
    rw [g2]
    exact pB g1
  · intro r hr q hq he
    rw [(e5 r (by omega)).2.2.2, (e5 q (by omega)).2.2.2] at he
    exact hD r hr q hq he
  · intro k hk
    rw [(e2 k (by omega)).1]
    rcases hN k hk with h | ⟨r, hr, h⟩
    · exact Or.inl h
    · exact Or.inr ⟨r, hr, (e5 r (by omega)).1.trans h⟩
  · intro c hc
    rw [e4]
    exact hT c hc
  · intro k h1 h2
    obtain ⟨y1, y2, y3⟩ := hZ.1 k h1 h2
    exact ⟨(e2 k h2).2.trans y1, (z2 k h1 h2).1.trans y2, (z2 k h1 h2).2.trans y3⟩
  · intro r h1 h2
    obtain ⟨y1, y2⟩ := hZ.2 r h1 h2
    exact ⟨(z3 r h1 h2).1.trans y1, (z3 r h1 h2).2.trans y2⟩

