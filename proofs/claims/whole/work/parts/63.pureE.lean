/-! PURE: what ties the hut to the check; a hire ends -/
def rlA (w : HV) (s : Nat → Int32) : Prop := s 0 = w 8 0 ∧ (∀ c, c < 5 → s (1 + c) = w 1 c) ∧ s 6 = w 8 1 ∧ s 7 = w 8 2 ∧ s 8 = w 8 3 ∧ (∀ c, c < 3 → s (9 + c) = w 7 c) ∧ s 12 = w 8 6 ∧ s 14 = w 8 7 ∧ s 16 = w 8 4
def rlW (w : HV) (s : Nat → Int32) : Prop := ∀ h, h < 1000 → s (17 + h) = w 0 h
def rlK (w : HV) (s : Nat → Int32) : Prop := ∀ r, r < 16 → ∀ c, c < 7 → s (1017 + 7 * r + c) = w 2 (r * 8 + c)
def rlS (w : HV) (s : Nat → Int32) : Prop := ∀ t, t < 40 → s (1129 + t) = w 3 t
def rlT (w : HV) (s : Nat → Int32) : Prop := ∀ t, t < 18 → s (1169 + t) = w 4 t
def rlH (w : HV) (s : Nat → Int32) (O P : Nat) : Prop := ∀ r, r < O → s (1187 + 7 * r + 0) = w 5 (r * 7 + 6) ∧ ∀ c, c < 6 → (r = P → c ≠ 4) → s (1187 + 7 * r + (c + 1)) = w 5 (r * 7 + c)
def rlE (w : HV) (s : Nat → Int32) (E : Nat) : Prop := s 15 = oN (min E 8) ∧ ∀ j, j < min E 8 → ∀ c, c < 4 → s (1257 + 4 * j + c) = w 6 ((E - 1 - j) % 8 * 4 + c)
def rlL (w : HV) (s : Nat → Int32) (S : Nat) : Prop := s 13 = suF (fun r => w 3 (r * 4 + 3)) 0 S 0
def Rel (w : HV) (s : Nat → Int32) (S O E P : Nat) : Prop := rlA w s ∧ rlW w s ∧ rlK w s ∧ rlS w s ∧ rlT w s ∧ rlH w s O P ∧ rlE w s E ∧ rlL w s S
theorem suF_c {f g : Nat → Int32} : ∀ (k n : Nat) (d : Int32), (∀ r, n ≤ r → r < n + k → f r = g r) → suF f n k d = suF g n k d := by
  intro k
  induction k with
  | zero => intro n d _; rfl
  | succ k ih =>
    intro n d h
    unfold suF
    rw [h n (by omega) (by omega)]
    exact ih _ _ (fun r h1 h2 => h r (by omega) (by omega))
theorem shF_k {k : Fin 9} (h : k ≠ 1) : ∀ (m : Nat) (v : HV), shF m v k = v k := by
  intro m
  induction m with
  | zero => intro v; rfl
  | succ m ih => intro v; unfold shF; rw [ih, up2_kn h]
theorem mvF_k {k : Fin 9} (h : k ≠ 1) : ∀ (m n : Nat) (v : HV), mvF n m v k = v k := by
  intro m
  induction m with
  | zero => intro n v; rfl
  | succ m ih => intro n v; unfold mvF; rw [ih, up2_kn h]
theorem clF_k {b : Nat} {k : Fin 9} (h : k ≠ 1) : ∀ (m n : Nat) (v : HV), clF b n m v k = v k := by
  intro m
  induction m with
  | zero => intro n v; rfl
  | succ m ih => intro n v; unfold clF; rw [ih, up2_kn h]
theorem enM_k {v : HV} {p w : Int32} {k : Fin 9} (h : k ≠ 1) : enM v p w k = v k := by
  unfold enM
  rw [clF_k h]
  unfold enB
  rw [mvF_k h]
  unfold enA
  rw [dcr_k h]
  unfold en9 en8 en7 en6 en5
  rw [up2_kn h, up2_kn h, up2_kn h, up2_kn h, up2_kn h]
  unfold en4
  rw [shF_k h]
  unfold en3
  rw [inc_k h]
  unfold en2 en1
  rw [up2_kn h, up2_kn h]
theorem tg1_k {v : HV} {s w : Int32} {c : Nat} {k : Fin 9} (h : k ≠ 1) : tg1 v s w c k = v k := by
  unfold tg1
  split
  · rw [inc_k h, dcr_k h]
  · rfl
theorem tgF_k {s w : Int32} {k : Fin 9} (h : k ≠ 1) : ∀ (n c : Nat) (v : HV), tgF s w c n v k = v k := by
  intro n
  induction n with
  | zero => intro c v; rfl
  | succ n ih => intro c v; unfold tgF; rw [ih, tg1_k h]
theorem pyM_k {v : HV} {p c : Int32} {k : Fin 9} (h : k ≠ 1) : pyM v p c k = v k := by
  unfold pyM
  rw [inc_k h, inc_k h]
theorem ret8 {E : Nat} : (oN (min E 8) + (if oN (min E 8) < 8 then 1 else 0) : Int32) = oN (min (E + 1) 8) := by
  have h : oN (min E 8) < 8 ↔ min E 8 < 8 := by
    show oN (min E 8) < oN 8 ↔ _
    rw [oN_lt (by omega) (by decide)]
  by_cases h8 : min E 8 < 8
  · rw [if_pos (h.mpr h8), oN_succ]
    exact congrArg oN (by omega)
  · rw [if_neg (fun q => h8 (h.mp q)), Int32.add_zero]
    exact congrArg oN (by omega)
/-- a hire ends, on both sides -/
theorem end_rel {w v v2 : HV} {P O K S W E Sp : Nat} {mis : Int32} (hP : P < O) (hO : O ≤ 10) (hK : K < 16) (hS : S < 10) (hW : W < 3) (hE : E < 256) (hSp : Sp ≤ 10)
    (eK : w 5 (P * 7 + 0) = oN K) (eS : w 5 (P * 7 + 1) = oN S) (eE : w 8 5 = oN E) (eO : w 8 4 = oN O)
    (hA : rlA w (v 1)) (hwi : rlW w (v 1)) (hk : rlK w (v 1)) (hs : rlS w (v 1)) (hH : rlH w (v 1) O 100) (he : rlE w (v 1) E) (hL : rlL w (v 1) Sp)
    (h2 : ∀ t, ¬ (1169 ≤ t ∧ t < 1187) → t ≠ 1187 + 7 * P + 5 → v2 1 t = v 1 t) (h3 : ∀ t, t < 18 → v2 1 (1169 + t) = etF w P mis t) :
    enP v2 (oN P) (oN W) ∧ Rel (enH w (oN P) (oN W) mis) (enM v2 (oN P) (oN W) 1) Sp (O - 1) (E + 1) 100 := by
  obtain ⟨a0, a1, a6, a7, a8, a9, a12, a14, a16⟩ := hA
  have hP' := hH P hP
  have e16 : v2 1 16 = oN O := by rw [h2 16 (by omega) (by omega), a16, eO]
  have eK' : v2 1 (1187 + 7 * P + 1) = oN K := by rw [h2 _ (by omega) (by omega), ← eK]; exact hP'.2 0 (by decide) (by omega)
  have eS' : v2 1 (1187 + 7 * P + 2) = oN S := by rw [h2 _ (by omega) (by omega), ← eS]; exact hP'.2 1 (by decide) (by omega)
  obtain ⟨g16, gu2, gu1, cM⟩ := enM_at hP hO hK hS hW e16 eK' eS'
  obtain ⟨c0, c1, c2, c3, c4, c5, c6, c7, c8⟩ := enH_at (mis := mis) (show P < 10 by omega) hK hS hW hE eK eS eE
  have hPn : (oN P).toNatClampNeg = P := oN_nat (by omega)
  refine ⟨⟨sm_oN (by omega) (by decide), sm_oN (by omega) (by decide), by rw [gu2]; exact sm_oN (by omega) (by decide), by rw [gu1]; exact sm_oN (by omega) (by decide), by rw [g16]; exact sm_oN (by omega) (by decide), by rw [g16, hPn, oN_nat (by omega)]; omega⟩, ⟨?_, ?_, ?_, ?_, ?_, ?_, ?_, ?_, ?_⟩, ?_, ?_, ?_, ?_, ?_, ?_, ?_⟩
  · rw [cM (0) (by omega), if_neg (show ¬ (1187 + 7 * (O - 1) ≤ 0 ∧ 0 < 1187 + 7 * O) by omega), if_neg (show ¬ (1187 + 7 * P ≤ 0 ∧ 0 < 1187 + 7 * (O - 1)) by omega), if_neg (show ¬ (0 = 16) by omega), if_neg (show ¬ (0 = 15) by omega), if_neg (show ¬ (0 = 1260) by omega), if_neg (show ¬ (0 = 1259) by omega), if_neg (show ¬ (0 = 1258) by omega), if_neg (show ¬ (0 = 1257) by omega), if_neg (show ¬ (1261 ≤ 0) by omega), if_neg (show ¬ (0 = 9 + W) by omega), if_neg (show ¬ (0 = 1017 + 7 * K + 0) by omega), if_neg (show ¬ (0 = 1129 + 4 * S + 2) by omega), h2 0 (by omega) (by omega), a0, c8, if_neg (by decide), if_neg (by decide)]
  · intro c hc
    rw [cM (1 + c) (by omega), if_neg (show ¬ (1187 + 7 * (O - 1) ≤ 1 + c ∧ 1 + c < 1187 + 7 * O) by omega), if_neg (show ¬ (1187 + 7 * P ≤ 1 + c ∧ 1 + c < 1187 + 7 * (O - 1)) by omega), if_neg (show ¬ (1 + c = 16) by omega), if_neg (show ¬ (1 + c = 15) by omega), if_neg (show ¬ (1 + c = 1260) by omega), if_neg (show ¬ (1 + c = 1259) by omega), if_neg (show ¬ (1 + c = 1258) by omega), if_neg (show ¬ (1 + c = 1257) by omega), if_neg (show ¬ (1261 ≤ 1 + c) by omega), if_neg (show ¬ (1 + c = 9 + W) by omega), if_neg (show ¬ (1 + c = 1017 + 7 * K + 0) by omega), if_neg (show ¬ (1 + c = 1129 + 4 * S + 2) by omega), h2 _ (by omega) (by omega), a1 c hc, c1]
  · rw [cM (6) (by omega), if_neg (show ¬ (1187 + 7 * (O - 1) ≤ 6 ∧ 6 < 1187 + 7 * O) by omega), if_neg (show ¬ (1187 + 7 * P ≤ 6 ∧ 6 < 1187 + 7 * (O - 1)) by omega), if_neg (show ¬ (6 = 16) by omega), if_neg (show ¬ (6 = 15) by omega), if_neg (show ¬ (6 = 1260) by omega), if_neg (show ¬ (6 = 1259) by omega), if_neg (show ¬ (6 = 1258) by omega), if_neg (show ¬ (6 = 1257) by omega), if_neg (show ¬ (1261 ≤ 6) by omega), if_neg (show ¬ (6 = 9 + W) by omega), if_neg (show ¬ (6 = 1017 + 7 * K + 0) by omega), if_neg (show ¬ (6 = 1129 + 4 * S + 2) by omega), h2 6 (by omega) (by omega), a6, c8, if_neg (by decide), if_neg (by decide)]
  · rw [cM (7) (by omega), if_neg (show ¬ (1187 + 7 * (O - 1) ≤ 7 ∧ 7 < 1187 + 7 * O) by omega), if_neg (show ¬ (1187 + 7 * P ≤ 7 ∧ 7 < 1187 + 7 * (O - 1)) by omega), if_neg (show ¬ (7 = 16) by omega), if_neg (show ¬ (7 = 15) by omega), if_neg (show ¬ (7 = 1260) by omega), if_neg (show ¬ (7 = 1259) by omega), if_neg (show ¬ (7 = 1258) by omega), if_neg (show ¬ (7 = 1257) by omega), if_neg (show ¬ (1261 ≤ 7) by omega), if_neg (show ¬ (7 = 9 + W) by omega), if_neg (show ¬ (7 = 1017 + 7 * K + 0) by omega), if_neg (show ¬ (7 = 1129 + 4 * S + 2) by omega), h2 7 (by omega) (by omega), a7, c8, if_neg (by decide), if_neg (by decide)]
  · rw [cM (8) (by omega), if_neg (show ¬ (1187 + 7 * (O - 1) ≤ 8 ∧ 8 < 1187 + 7 * O) by omega), if_neg (show ¬ (1187 + 7 * P ≤ 8 ∧ 8 < 1187 + 7 * (O - 1)) by omega), if_neg (show ¬ (8 = 16) by omega), if_neg (show ¬ (8 = 15) by omega), if_neg (show ¬ (8 = 1260) by omega), if_neg (show ¬ (8 = 1259) by omega), if_neg (show ¬ (8 = 1258) by omega), if_neg (show ¬ (8 = 1257) by omega), if_neg (show ¬ (1261 ≤ 8) by omega), if_neg (show ¬ (8 = 9 + W) by omega), if_neg (show ¬ (8 = 1017 + 7 * K + 0) by omega), if_neg (show ¬ (8 = 1129 + 4 * S + 2) by omega), h2 8 (by omega) (by omega), a8, c8, if_neg (by decide), if_neg (by decide)]
  · intro c hc
    by_cases h : c = W
    · rw [cM (9 + c) (by omega), if_neg (show ¬ (1187 + 7 * (O - 1) ≤ 9 + c ∧ 9 + c < 1187 + 7 * O) by omega), if_neg (show ¬ (1187 + 7 * P ≤ 9 + c ∧ 9 + c < 1187 + 7 * (O - 1)) by omega), if_neg (show ¬ (9 + c = 16) by omega), if_neg (show ¬ (9 + c = 15) by omega), if_neg (show ¬ (9 + c = 1260) by omega), if_neg (show ¬ (9 + c = 1259) by omega), if_neg (show ¬ (9 + c = 1258) by omega), if_neg (show ¬ (9 + c = 1257) by omega), if_neg (show ¬ (1261 ≤ 9 + c) by omega), if_pos (show 9 + c = 9 + W by omega), h2 _ (by omega) (by omega), a9 W hW, c7, if_pos h]
    · rw [cM (9 + c) (by omega), if_neg (show ¬ (1187 + 7 * (O - 1) ≤ 9 + c ∧ 9 + c < 1187 + 7 * O) by omega), if_neg (show ¬ (1187 + 7 * P ≤ 9 + c ∧ 9 + c < 1187 + 7 * (O - 1)) by omega), if_neg (show ¬ (9 + c = 16) by omega), if_neg (show ¬ (9 + c = 15) by omega), if_neg (show ¬ (9 + c = 1260) by omega), if_neg (show ¬ (9 + c = 1259) by omega), if_neg (show ¬ (9 + c = 1258) by omega), if_neg (show ¬ (9 + c = 1257) by omega), if_neg (show ¬ (1261 ≤ 9 + c) by omega), if_neg (show ¬ (9 + c = 9 + W) by omega), if_neg (show ¬ (9 + c = 1017 + 7 * K + 0) by omega), if_neg (show ¬ (9 + c = 1129 + 4 * S + 2) by omega), h2 _ (by omega) (by omega), a9 c hc, c7, if_neg h]
  · rw [cM (12) (by omega), if_neg (show ¬ (1187 + 7 * (O - 1) ≤ 12 ∧ 12 < 1187 + 7 * O) by omega), if_neg (show ¬ (1187 + 7 * P ≤ 12 ∧ 12 < 1187 + 7 * (O - 1)) by omega), if_neg (show ¬ (12 = 16) by omega), if_neg (show ¬ (12 = 15) by omega), if_neg (show ¬ (12 = 1260) by omega), if_neg (show ¬ (12 = 1259) by omega), if_neg (show ¬ (12 = 1258) by omega), if_neg (show ¬ (12 = 1257) by omega), if_neg (show ¬ (1261 ≤ 12) by omega), if_neg (show ¬ (12 = 9 + W) by omega), if_neg (show ¬ (12 = 1017 + 7 * K + 0) by omega), if_neg (show ¬ (12 = 1129 + 4 * S + 2) by omega), h2 12 (by omega) (by omega), a12, c8, if_neg (by decide), if_neg (by decide)]
  · rw [cM (14) (by omega), if_neg (show ¬ (1187 + 7 * (O - 1) ≤ 14 ∧ 14 < 1187 + 7 * O) by omega), if_neg (show ¬ (1187 + 7 * P ≤ 14 ∧ 14 < 1187 + 7 * (O - 1)) by omega), if_neg (show ¬ (14 = 16) by omega), if_neg (show ¬ (14 = 15) by omega), if_neg (show ¬ (14 = 1260) by omega), if_neg (show ¬ (14 = 1259) by omega), if_neg (show ¬ (14 = 1258) by omega), if_neg (show ¬ (14 = 1257) by omega), if_neg (show ¬ (1261 ≤ 14) by omega), if_neg (show ¬ (14 = 9 + W) by omega), if_neg (show ¬ (14 = 1017 + 7 * K + 0) by omega), if_neg (show ¬ (14 = 1129 + 4 * S + 2) by omega), h2 14 (by omega) (by omega), a14, c8, if_neg (by decide), if_neg (by decide)]
  · rw [cM (16) (by omega), if_neg (show ¬ (1187 + 7 * (O - 1) ≤ 16 ∧ 16 < 1187 + 7 * O) by omega), if_neg (show ¬ (1187 + 7 * P ≤ 16 ∧ 16 < 1187 + 7 * (O - 1)) by omega), if_pos (show 16 = 16 by omega), c8, if_pos rfl, eO, show (1 : Int32) = oN 1 from rfl, oN_sub (by omega)]
  · intro h hh
    rw [cM (17 + h) (by omega), if_neg (show ¬ (1187 + 7 * (O - 1) ≤ 17 + h ∧ 17 + h < 1187 + 7 * O) by omega), if_neg (show ¬ (1187 + 7 * P ≤ 17 + h ∧ 17 + h < 1187 + 7 * (O - 1)) by omega), if_neg (show ¬ (17 + h = 16) by omega), if_neg (show ¬ (17 + h = 15) by omega), if_neg (show ¬ (17 + h = 1260) by omega), if_neg (show ¬ (17 + h = 1259) by omega), if_neg (show ¬ (17 + h = 1258) by omega), if_neg (show ¬ (17 + h = 1257) by omega), if_neg (show ¬ (1261 ≤ 17 + h) by omega), if_neg (show ¬ (17 + h = 9 + W) by omega), if_neg (show ¬ (17 + h = 1017 + 7 * K + 0) by omega), if_neg (show ¬ (17 + h = 1129 + 4 * S + 2) by omega), h2 _ (by omega) (by omega), hwi h hh, c0]
  · intro r hr c hc
    by_cases h : r = K ∧ c = 0
    · rw [cM (1017 + 7 * r + c) (by omega), if_neg (show ¬ (1187 + 7 * (O - 1) ≤ 1017 + 7 * r + c ∧ 1017 + 7 * r + c < 1187 + 7 * O) by omega), if_neg (show ¬ (1187 + 7 * P ≤ 1017 + 7 * r + c ∧ 1017 + 7 * r + c < 1187 + 7 * (O - 1)) by omega), if_neg (show ¬ (1017 + 7 * r + c = 16) by omega), if_neg (show ¬ (1017 + 7 * r + c = 15) by omega), if_neg (show ¬ (1017 + 7 * r + c = 1260) by omega), if_neg (show ¬ (1017 + 7 * r + c = 1259) by omega), if_neg (show ¬ (1017 + 7 * r + c = 1258) by omega), if_neg (show ¬ (1017 + 7 * r + c = 1257) by omega), if_neg (show ¬ (1261 ≤ 1017 + 7 * r + c) by omega), if_neg (show ¬ (1017 + 7 * r + c = 9 + W) by omega), if_pos (show 1017 + 7 * r + c = 1017 + 7 * K + 0 by omega), c2, if_neg (show ¬ r * 8 + c = K * 8 + 7 by omega), if_pos (show r * 8 + c = K * 8 + 0 by omega)]
    · rw [cM (1017 + 7 * r + c) (by omega), if_neg (show ¬ (1187 + 7 * (O - 1) ≤ 1017 + 7 * r + c ∧ 1017 + 7 * r + c < 1187 + 7 * O) by omega), if_neg (show ¬ (1187 + 7 * P ≤ 1017 + 7 * r + c ∧ 1017 + 7 * r + c < 1187 + 7 * (O - 1)) by omega), if_neg (show ¬ (1017 + 7 * r + c = 16) by omega), if_neg (show ¬ (1017 + 7 * r + c = 15) by omega), if_neg (show ¬ (1017 + 7 * r + c = 1260) by omega), if_neg (show ¬ (1017 + 7 * r + c = 1259) by omega), if_neg (show ¬ (1017 + 7 * r + c = 1258) by omega), if_neg (show ¬ (1017 + 7 * r + c = 1257) by omega), if_neg (show ¬ (1261 ≤ 1017 + 7 * r + c) by omega), if_neg (show ¬ (1017 + 7 * r + c = 9 + W) by omega), if_neg (show ¬ (1017 + 7 * r + c = 1017 + 7 * K + 0) by omega), if_neg (show ¬ (1017 + 7 * r + c = 1129 + 4 * S + 2) by omega), h2 _ (by omega) (by omega), hk r hr c hc, c2, if_neg (by omega), if_neg (by omega)]
  · intro t ht
    by_cases h : t = S * 4 + 2
    · rw [cM (1129 + t) (by omega), if_neg (show ¬ (1187 + 7 * (O - 1) ≤ 1129 + t ∧ 1129 + t < 1187 + 7 * O) by omega), if_neg (show ¬ (1187 + 7 * P ≤ 1129 + t ∧ 1129 + t < 1187 + 7 * (O - 1)) by omega), if_neg (show ¬ (1129 + t = 16) by omega), if_neg (show ¬ (1129 + t = 15) by omega), if_neg (show ¬ (1129 + t = 1260) by omega), if_neg (show ¬ (1129 + t = 1259) by omega), if_neg (show ¬ (1129 + t = 1258) by omega), if_neg (show ¬ (1129 + t = 1257) by omega), if_neg (show ¬ (1261 ≤ 1129 + t) by omega), if_neg (show ¬ (1129 + t = 9 + W) by omega), if_neg (show ¬ (1129 + t = 1017 + 7 * K + 0) by omega), if_pos (show 1129 + t = 1129 + 4 * S + 2 by omega), c3, if_pos h]
    · rw [cM (1129 + t) (by omega), if_neg (show ¬ (1187 + 7 * (O - 1) ≤ 1129 + t ∧ 1129 + t < 1187 + 7 * O) by omega), if_neg (show ¬ (1187 + 7 * P ≤ 1129 + t ∧ 1129 + t < 1187 + 7 * (O - 1)) by omega), if_neg (show ¬ (1129 + t = 16) by omega), if_neg (show ¬ (1129 + t = 15) by omega), if_neg (show ¬ (1129 + t = 1260) by omega), if_neg (show ¬ (1129 + t = 1259) by omega), if_neg (show ¬ (1129 + t = 1258) by omega), if_neg (show ¬ (1129 + t = 1257) by omega), if_neg (show ¬ (1261 ≤ 1129 + t) by omega), if_neg (show ¬ (1129 + t = 9 + W) by omega), if_neg (show ¬ (1129 + t = 1017 + 7 * K + 0) by omega), if_neg (show ¬ (1129 + t = 1129 + 4 * S + 2) by omega), h2 _ (by omega) (by omega), hs t ht, c3, if_neg h]
  · intro t ht
    rw [cM (1169 + t) (by omega), if_neg (show ¬ (1187 + 7 * (O - 1) ≤ 1169 + t ∧ 1169 + t < 1187 + 7 * O) by omega), if_neg (show ¬ (1187 + 7 * P ≤ 1169 + t ∧ 1169 + t < 1187 + 7 * (O - 1)) by omega), if_neg (show ¬ (1169 + t = 16) by omega), if_neg (show ¬ (1169 + t = 15) by omega), if_neg (show ¬ (1169 + t = 1260) by omega), if_neg (show ¬ (1169 + t = 1259) by omega), if_neg (show ¬ (1169 + t = 1258) by omega), if_neg (show ¬ (1169 + t = 1257) by omega), if_neg (show ¬ (1261 ≤ 1169 + t) by omega), if_neg (show ¬ (1169 + t = 9 + W) by omega), if_neg (show ¬ (1169 + t = 1017 + 7 * K + 0) by omega), if_neg (show ¬ (1169 + t = 1129 + 4 * S + 2) by omega), h3 t ht, c4 t ht]
  · intro r hr
    by_cases h : r < P
    · have hr' := hH r (by omega)
      constructor
      · rw [cM (1187 + 7 * r + 0) (by omega), if_neg (show ¬ (1187 + 7 * (O - 1) ≤ 1187 + 7 * r + 0 ∧ 1187 + 7 * r + 0 < 1187 + 7 * O) by omega), if_neg (show ¬ (1187 + 7 * P ≤ 1187 + 7 * r + 0 ∧ 1187 + 7 * r + 0 < 1187 + 7 * (O - 1)) by omega), if_neg (show ¬ (1187 + 7 * r + 0 = 16) by omega), if_neg (show ¬ (1187 + 7 * r + 0 = 15) by omega), if_neg (show ¬ (1187 + 7 * r + 0 = 1260) by omega), if_neg (show ¬ (1187 + 7 * r + 0 = 1259) by omega), if_neg (show ¬ (1187 + 7 * r + 0 = 1258) by omega), if_neg (show ¬ (1187 + 7 * r + 0 = 1257) by omega), if_neg (show ¬ (1261 ≤ 1187 + 7 * r + 0) by omega), if_neg (show ¬ (1187 + 7 * r + 0 = 9 + W) by omega), if_neg (show ¬ (1187 + 7 * r + 0 = 1017 + 7 * K + 0) by omega), if_neg (show ¬ (1187 + 7 * r + 0 = 1129 + 4 * S + 2) by omega), h2 _ (by omega) (by omega), hr'.1, c5, if_neg (by omega)]
      · intro c hc _
        rw [cM (1187 + 7 * r + (c + 1)) (by omega), if_neg (show ¬ (1187 + 7 * (O - 1) ≤ 1187 + 7 * r + (c + 1) ∧ 1187 + 7 * r + (c + 1) < 1187 + 7 * O) by omega), if_neg (show ¬ (1187 + 7 * P ≤ 1187 + 7 * r + (c + 1) ∧ 1187 + 7 * r + (c + 1) < 1187 + 7 * (O - 1)) by omega), if_neg (show ¬ (1187 + 7 * r + (c + 1) = 16) by omega), if_neg (show ¬ (1187 + 7 * r + (c + 1) = 15) by omega), if_neg (show ¬ (1187 + 7 * r + (c + 1) = 1260) by omega), if_neg (show ¬ (1187 + 7 * r + (c + 1) = 1259) by omega), if_neg (show ¬ (1187 + 7 * r + (c + 1) = 1258) by omega), if_neg (show ¬ (1187 + 7 * r + (c + 1) = 1257) by omega), if_neg (show ¬ (1261 ≤ 1187 + 7 * r + (c + 1)) by omega), if_neg (show ¬ (1187 + 7 * r + (c + 1) = 9 + W) by omega), if_neg (show ¬ (1187 + 7 * r + (c + 1) = 1017 + 7 * K + 0) by omega), if_neg (show ¬ (1187 + 7 * r + (c + 1) = 1129 + 4 * S + 2) by omega), h2 _ (by omega) (by omega), hr'.2 c hc (by omega), c5, if_neg (by omega)]
    · have hr' := hH (r + 1) (by omega)
      constructor
      · rw [cM (1187 + 7 * r + 0) (by omega), if_neg (show ¬ (1187 + 7 * (O - 1) ≤ 1187 + 7 * r + 0 ∧ 1187 + 7 * r + 0 < 1187 + 7 * O) by omega), if_pos (show 1187 + 7 * P ≤ 1187 + 7 * r + 0 ∧ 1187 + 7 * r + 0 < 1187 + 7 * (O - 1) by omega), h2 _ (by omega) (by omega), show 1187 + 7 * r + 0 + 7 = 1187 + 7 * (r + 1) + 0 by omega, hr'.1, c5, if_pos (by omega), show r * 7 + 6 + 7 = (r + 1) * 7 + 6 by omega]
      · intro c hc _
        rw [cM (1187 + 7 * r + (c + 1)) (by omega), if_neg (show ¬ (1187 + 7 * (O - 1) ≤ 1187 + 7 * r + (c + 1) ∧ 1187 + 7 * r + (c + 1) < 1187 + 7 * O) by omega), if_pos (show 1187 + 7 * P ≤ 1187 + 7 * r + (c + 1) ∧ 1187 + 7 * r + (c + 1) < 1187 + 7 * (O - 1) by omega), h2 _ (by omega) (by omega), show 1187 + 7 * r + (c + 1) + 7 = 1187 + 7 * (r + 1) + (c + 1) by omega, hr'.2 c hc (by omega), c5, if_pos (by omega), show r * 7 + c + 7 = (r + 1) * 7 + c by omega]
  · refine ⟨?_, fun j hj c hc => ?_⟩
    · rw [cM (15) (by omega), if_neg (show ¬ (1187 + 7 * (O - 1) ≤ 15 ∧ 15 < 1187 + 7 * O) by omega), if_neg (show ¬ (1187 + 7 * P ≤ 15 ∧ 15 < 1187 + 7 * (O - 1)) by omega), if_neg (show ¬ (15 = 16) by omega), if_pos (show 15 = 15 by omega), h2 15 (by omega) (by omega), he.1, ret8]
    · rcases (show j = 0 ∨ 1 ≤ j by omega) with h | h
      · subst h
        rw [show (E + 1 - 1 - 0) % 8 * 4 + c = E % 8 * 4 + c by omega]
        rcases (show c = 0 ∨ c = 1 ∨ c = 2 ∨ c = 3 by omega) with h | h | h | h <;> subst h
        · rw [show 1257 + 4 * 0 + 0 = 1257 from rfl, cM (1257) (by omega), if_neg (show ¬ (1187 + 7 * (O - 1) ≤ 1257 ∧ 1257 < 1187 + 7 * O) by omega), if_neg (show ¬ (1187 + 7 * P ≤ 1257 ∧ 1257 < 1187 + 7 * (O - 1)) by omega), if_neg (show ¬ (1257 = 16) by omega), if_neg (show ¬ (1257 = 15) by omega), if_neg (show ¬ (1257 = 1260) by omega), if_neg (show ¬ (1257 = 1259) by omega), if_neg (show ¬ (1257 = 1258) by omega), if_pos (show 1257 = 1257 by omega), h2 _ (by omega) (by omega), hP'.1, c6, if_neg (by omega), if_neg (by omega), if_neg (by omega), if_pos rfl]
        · rw [show 1257 + 4 * 0 + 1 = 1258 from rfl, cM (1258) (by omega), if_neg (show ¬ (1187 + 7 * (O - 1) ≤ 1258 ∧ 1258 < 1187 + 7 * O) by omega), if_neg (show ¬ (1187 + 7 * P ≤ 1258 ∧ 1258 < 1187 + 7 * (O - 1)) by omega), if_neg (show ¬ (1258 = 16) by omega), if_neg (show ¬ (1258 = 15) by omega), if_neg (show ¬ (1258 = 1260) by omega), if_neg (show ¬ (1258 = 1259) by omega), if_pos (show 1258 = 1258 by omega), c6, if_neg (by omega), if_neg (by omega), if_pos rfl]
        · rw [show 1257 + 4 * 0 + 2 = 1259 from rfl, cM (1259) (by omega), if_neg (show ¬ (1187 + 7 * (O - 1) ≤ 1259 ∧ 1259 < 1187 + 7 * O) by omega), if_neg (show ¬ (1187 + 7 * P ≤ 1259 ∧ 1259 < 1187 + 7 * (O - 1)) by omega), if_neg (show ¬ (1259 = 16) by omega), if_neg (show ¬ (1259 = 15) by omega), if_neg (show ¬ (1259 = 1260) by omega), if_pos (show 1259 = 1259 by omega), h2 0 (by omega) (by omega), a0, c6, if_neg (by omega), if_pos rfl]
        · rw [show 1257 + 4 * 0 + 3 = 1260 from rfl, cM (1260) (by omega), if_neg (show ¬ (1187 + 7 * (O - 1) ≤ 1260 ∧ 1260 < 1187 + 7 * O) by omega), if_neg (show ¬ (1187 + 7 * P ≤ 1260 ∧ 1260 < 1187 + 7 * (O - 1)) by omega), if_neg (show ¬ (1260 = 16) by omega), if_neg (show ¬ (1260 = 15) by omega), if_pos (show 1260 = 1260 by omega), h2 _ (by omega) (by omega), c6, if_pos rfl]
          exact congrArg (· + 1000) (hP'.2 5 (by decide) (by omega))
      · rw [cM (1257 + 4 * j + c) (by omega), if_neg (show ¬ (1187 + 7 * (O - 1) ≤ 1257 + 4 * j + c ∧ 1257 + 4 * j + c < 1187 + 7 * O) by omega), if_neg (show ¬ (1187 + 7 * P ≤ 1257 + 4 * j + c ∧ 1257 + 4 * j + c < 1187 + 7 * (O - 1)) by omega), if_neg (show ¬ (1257 + 4 * j + c = 16) by omega), if_neg (show ¬ (1257 + 4 * j + c = 15) by omega), if_neg (show ¬ (1257 + 4 * j + c = 1260) by omega), if_neg (show ¬ (1257 + 4 * j + c = 1259) by omega), if_neg (show ¬ (1257 + 4 * j + c = 1258) by omega), if_neg (show ¬ (1257 + 4 * j + c = 1257) by omega), if_pos (show 1261 ≤ 1257 + 4 * j + c by omega), h2 _ (by omega) (by omega), show 1257 + 4 * j + c - 4 = 1257 + 4 * (j - 1) + c by omega, he.2 (j - 1) (by omega) c hc, show (E - 1 - (j - 1)) % 8 = (E + 1 - 1 - j) % 8 by omega, c6, if_neg (by omega), if_neg (by omega), if_neg (by omega), if_neg (by omega)]
  · show enM v2 (oN P) (oN W) 1 13 = _
    rw [cM (13) (by omega), if_neg (show ¬ (1187 + 7 * (O - 1) ≤ 13 ∧ 13 < 1187 + 7 * O) by omega), if_neg (show ¬ (1187 + 7 * P ≤ 13 ∧ 13 < 1187 + 7 * (O - 1)) by omega), if_neg (show ¬ (13 = 16) by omega), if_neg (show ¬ (13 = 15) by omega), if_neg (show ¬ (13 = 1260) by omega), if_neg (show ¬ (13 = 1259) by omega), if_neg (show ¬ (13 = 1258) by omega), if_neg (show ¬ (13 = 1257) by omega), if_neg (show ¬ (1261 ≤ 13) by omega), if_neg (show ¬ (13 = 9 + W) by omega), if_neg (show ¬ (13 = 1017 + 7 * K + 0) by omega), if_neg (show ¬ (13 = 1129 + 4 * S + 2) by omega), h2 13 (by omega) (by omega)]
    refine hL.trans (suF_c _ _ _ (fun r h1 h2 => ?_))
    rw [c3, if_neg (by omega)]

