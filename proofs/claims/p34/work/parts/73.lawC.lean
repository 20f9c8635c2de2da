/-! THE LAW: a kite is as it should be -/
theorem lg_y {w : HV} {k m : Int32} : ∀ n, (lgF w k m n = 0 ∧ ∀ j, 1 ≤ j → j ≤ n → refu w k m (oN j) 0 ≠ 0) ∨ ∃ q, 1 ≤ q ∧ q ≤ n ∧ lgF w k m n = oN q ∧ refu w k m (oN q) 0 = 0 ∧ ∀ j, q < j → j ≤ n → refu w k m (oN j) 0 ≠ 0 := by
  intro n
  induction n with
  | zero => left; exact ⟨rfl, fun j h1 h2 => by omega⟩
  | succ n ih =>
    unfold lgF
    by_cases h : refu w k m (oN (n + 1)) 0 = 0
    · right
      rw [if_pos h]
      exact ⟨n + 1, by omega, Nat.le_refl _, rfl, h, fun j h1 h2 => by omega⟩
    · rw [if_neg h]
      rcases ih with ⟨h1, h2⟩ | ⟨q, q1, q2, q3, q4, q5⟩
      · left
        refine ⟨h1, fun j h3 h4 => ?_⟩
        by_cases e : j = n + 1
        · rw [e]; exact h
        · exact h2 j h3 (by omega)
      · right
        refine ⟨q, q1, by omega, q3, q4, fun j h3 h4 => ?_⟩
        by_cases e : j = n + 1
        · rw [e]; exact h
        · exact q5 j h3 (by omega)
theorem refu_p {w : HV} {k m h s : Int32} (n : refu w k m h s ≠ 0) : 0 < refu w k m h s := by
  rcases refu_c w k m h s with h | h
  · exact absurd h.1 n
  · exact h
theorem wi_1 {n : Nat} {c : Nat} {C : Int32} (hC : C = oN c) (hc : c < 2 ^ 31) (h0 : 1 ≤ n) (h : n ≤ c) : wi (oN n) 1 C := by
  subst hC
  refine ⟨?_, by rw [oN_lt hc (by omega)]; omega⟩
  show ¬ oN n < oN 1
  rw [oN_lt (by omega) (by decide)]
  omega
theorem wy_n {σ : SG} {cf : Nat → Int32} {T K S N O E b r mm l : Nat} (h : J (σ 0) cf T K S N O E b) (hr : r < K) (m1 : 1 ≤ mm) (m2 : mm ≤ 300) (l1 : 1 ≤ l) (l2 : l ≤ 12) : wyF σ (oN r) (oN mm) (oN l) 0 = refu (σ 0) (oN r) (oN mm) (oN l) 0 := by
  have := (J_bd h).2.1
  unfold wyF
  rw [J_81 h, if_pos (wi_oK (by omega) hr), if_pos (wi_1 (C := 300) (c := 300) rfl (by decide) m1 m2), if_pos (wi_1 (C := 12) (c := 12) rfl (by decide) l1 l2), if_pos (by decide)]
/-- a kite out has a hire, another has none -/
theorem st_hi {w : HV} {cf : Nat → Int32} {T K S N O E b r : Nat} (h : J w cf T K S N O E b) (hr : r < K) : (w 2 (r * 8 + 0) = 1 ∧ ∃ n, n < 200 ∧ w 2 (r * 8 + 7) = oN n) ∨ (w 2 (r * 8 + 0) ≠ 1 ∧ w 2 (r * 8 + 7) = -5) := by
  obtain ⟨hO, hE, hS⟩ := Ivt_O h.1
  have hK : K ≤ 16 := h.1.2.1.2.1
  have hN : N ≤ 200 := h.1.2.1.2.2.2.1
  have row : w 2 (r * 8 + 7) ≠ -5 → w 2 (r * 8 + 0) = 1 ∧ ∃ n, n < 200 ∧ w 2 (r * 8 + 7) = oN n := by
    intro hne
    rcases h.1.2.2.2.2.2.1 r hr with y | ⟨P, hP, y⟩
    · exact absurd y hne
    · obtain ⟨k, s, n, p1, p2, p3, p4, p5, p6, p7, p8, p9, -⟩ := h.1.2.2.2.1 P hP
      have : k = r := oN_inj (by omega) (by omega) (p4.symm.trans y)
      subst this
      exact ⟨p9, n, by omega, p8⟩
  by_cases e : w 2 (r * 8 + 7) = -5
  · right
    exact ⟨fun q => (h.2.1.2.2.1 r hr).2.1 q e, e⟩
  · left; exact row e
/-- a kite could begin two hours with this one -/
theorem nx_n {w : HV} {k n : Nat} (hk : k < 16) (hn : n + 1 < 1000) : nxP w (oN k) 2 n = true ↔ (¬ w 0 n < w 2 (k * 8 + 1) ∧ (¬ w 2 (k * 8 + 2) < w 0 n ∧ w 0 n < w 1 0) ∧ (¬ w 2 (k * 8 + 2) < w 0 (n + 1) ∧ w 0 (n + 1) < w 1 0)) := by
  unfold nxP
  rw [decide_eq_true_iff, tc_n hk (by omega), show (2 : Int32).toNatClampNeg = 2 from rfl, exF_iff]
  constructor
  · rintro ⟨h1, h2⟩
    have key : ∀ j, j < 2 → ¬ w 2 (k * 8 + 2) < w 0 (n + j) ∧ w 0 (n + j) < w 1 0 := by
      intro j hj
      have h3 : ¬ tooWP w (oN k) (oN n + oN j) := fun q => h2 ⟨j, Nat.zero_le _, by omega, decide_eq_true q⟩
      rw [oN_add, tw_n hk (by omega)] at h3
      exact ⟨fun q => h3 (Or.inl q), Decidable.byContradiction (fun q => h3 (Or.inr q))⟩
    exact ⟨h1, key 0 (by decide), key 1 (by decide)⟩
  · rintro ⟨h1, h2, h3⟩
    refine ⟨h1, ?_⟩
    rintro ⟨j, -, hj, q⟩
    have q := of_decide_eq_true q
    rw [oN_add, tw_n hk (by omega)] at q
    rcases (show j = 0 ∨ j = 1 by omega) with e | e <;> subst e
    · exact q.elim h2.1 (fun z => z h2.2)
    · exact q.elim h3.1 (fun z => z h3.2)
/-- what the law has found of an hour -/
def canF (w : HV) (k j : Nat) (c : Int32) : Int32 := if c = 0 then 0 else if w 2 (k * 8 + 2) < w 0 j then 0 else if w 0 j < w 1 0 then 1 else 0
section KITE
variable {sp : Nat → Sp} {sc : Nat × (Nat → Int32)} {σ : SG} {cf : Nat → Int32} {T K S N O E b r : Nat} {lo nx m due : Int32} {Q : Option Value → MS → Prop}
set_option maxHeartbeats 1000000 in
set_option maxRecDepth 20000 in
theorem lp_L_isKite_in (h70 : sp 70 = f_X_windOf) (h67 : sp 67 = f_X_kiteOf) (h84 : sp 84 = f_X_count) (h : J (σ 0) cf T K S N O E b) (hr : r < K) {n j : Nat} {c : Int32} (hj : j < n + 2) (hn : n + 1 < 1000) (hk : Vf 98 sp ((127, SLT), sc) 146 [.ref 0, .int (oN r), .int m, .int lo, .int 1, .int nx, .int due, .int (oN n), .int (canF (σ 0) r j c), .int (oN (j + 1))] [] (emb σ) Q) : Vf 98 sp ((127, SLT), sc) 146 [.ref 0, .int (oN r), .int m, .int lo, .int 1, .int nx, .int due, .int (oN n), .int c, .int (oN j)] [] (emb σ) Q := by
  have h2 : oN n + 2 = oN (n + 2) := oN_add n 2
  have hlt : oN j < oN (n + 2) := by rw [oN_lt (by omega) (by omega)]; exact hj
  rw [rL_isKite_146]
  simp only [rL_isKite_148, rL_isKite_150, rL_isKite_151, rL_isKite_152, rL_isKite_155, rL_isKite_157, rL_isKite_160, rL_isKite_161, rL_isKite_163, rL_isKite_166, rL_isKite_167, rL_isKite_168, rL_isKite_169, rL_isKite_172, rL_isKite_175, rL_isKite_176, rL_isKite_178, rL_isKite_181, rL_isKite_182, rL_isKite_184, rL_isKite_187, rL_isKite_190, rL_isKite_191, rL_isKite_194, rL_isKite_195, rL_isKite_197, rL_isKite_200, ct1_i, ct1_r, ct1_n, true_and, and_true, tl_s, tl_n, le4_0, le4_1, le4_2, le4_3, le4_4, le4_5, isO_r, cl_, emb1, emb2, le_rN, h70, h67, h84, obX, h2, if_pos hlt, rd_wind (σ := σ) (show j < 1000 by omega), rk_2 h hr, ct_18 h, oN_succ]
  unfold canF at hk
  by_cases h1 : c = 0
  · rw [if_pos h1] at hk ⊢
    exact hk
  rw [if_neg h1] at hk ⊢
  by_cases h3 : σ 0 2 (r * 8 + 2) < σ 0 0 j
  · rw [if_pos h3] at hk ⊢
    exact hk
  rw [if_neg h3] at hk ⊢
  by_cases h4 : σ 0 0 j < σ 0 1 0
  · rw [if_pos h4] at hk ⊢
    exact hk
  · rw [if_neg h4] at hk ⊢
    exact hk
set_option maxHeartbeats 1000000 in
set_option maxRecDepth 20000 in
theorem lp_L_isKite (h70 : sp 70 = f_X_windOf) (h67 : sp 67 = f_X_kiteOf) (h84 : sp 84 = f_X_count) (h : J (σ 0) cf T K S N O E b) (hr : r < K) (hQ : ∀ h9 v8 v9, Vf 98 sp ((127, SLT), sc) 223 [.ref 0, .int (oN r), .int m, .int lo, .int 1, .int nx, .int (fsF (nxP (σ 0) (oN r) 2) T (999 - T)), .int h9, v8, v9] [] (emb σ) Q) : ∀ (d n : Nat) (hh : Int32) (v8 v9 : Value), n = T + d → n ≤ 999 → oN n + -1 = hh → Vf 98 sp ((127, SLT), sc) 110 [.ref 0, .int (oN r), .int m, .int lo, .int 1, .int nx, .int (fsF (nxP (σ 0) (oN r) 2) n (999 - n)), .int hh, v8, v9] [] (emb σ) Q := by
  have hb := J_bd h
  intro d
  induction d with
  | zero =>
    intro n hh v8 v9 hd hn eh
    have : n = T := by omega
    subst this
    have hlt : hh < oN n := by
      rw [← eh, Int32.lt_iff_toInt_lt, oN_toInt (by omega)]
      have t1 : (oN n).toInt = (n : Int) := oN_toInt (by omega)
      have t2 : (-1 : Int32).toInt = -1 := rfl
      rw [ti_add (by omega) (by omega), t1, t2]
      omega
    rw [rL_isKite_110]
    simp only [rL_isKite_112, rL_isKite_113, rL_isKite_114, rL_isKite_117, ct1_i, ct1_r, ct1_n, true_and, and_true, tl_s, tl_n, le4_0, le4_1, le4_2, le4_3, le4_4, le4_5, isO_r, cl_, emb1, emb2, le_rN, h84, obX, ct_0 h, if_pos hlt]
    exact hQ _ _ _
  | succ d ih =>
    intro n hh v8 v9 hd hn eh
    obtain ⟨n', rfl⟩ : ∃ n', n = n' + 1 := ⟨n - 1, by omega⟩
    rw [oN_dec] at eh
    subst eh
    have hlt : ¬ oN n' < oN T := by rw [oN_lt (by omega) (by omega)]; omega
    rw [rL_isKite_110]
    simp only [rL_isKite_112, rL_isKite_113, rL_isKite_114, rL_isKite_117, rL_isKite_120, rL_isKite_121, rL_isKite_123, rL_isKite_126, rL_isKite_127, rL_isKite_128, rL_isKite_129, rL_isKite_132, rL_isKite_135, rL_isKite_136, rL_isKite_139, rL_isKite_140, rL_isKite_142, rL_isKite_144, ct1_i, ct1_r, ct1_n, true_and, and_true, tl_s, tl_n, le4_0, le4_1, le4_2, le4_3, le4_4, le4_5, isO_r, cl_, emb1, emb2, le_rN, h70, h67, h84, obX, ct_0 h, if_neg hlt, rd_wind (σ := σ) (show n' < 1000 by omega), rk_1 h hr]
    have fin : ∀ c : Int32, (c = 0 ∨ c = 1) → (c = 0 → ¬ σ 0 0 n' < σ 0 2 (r * 8 + 1) → False) → (c = 1 → ¬ σ 0 0 n' < σ 0 2 (r * 8 + 1)) → Vf 98 sp ((127, SLT), sc) 146 [.ref 0, .int (oN r), .int m, .int lo, .int 1, .int nx, .int (fsF (nxP (σ 0) (oN r) 2) (n' + 1) (999 - (n' + 1))), .int (oN n'), .int c, .int (oN n')] [] (emb σ) Q := by
      intro c hc hc0 hc1
      refine lp_L_isKite_in h70 h67 h84 h hr (by omega) (by omega) ?_
      refine lp_L_isKite_in h70 h67 h84 h hr (by omega) (by omega) ?_
      have h2 : oN n' + 2 = oN (n' + 2) := oN_add n' 2
      have hge : ¬ oN (n' + 1 + 1) < oN (n' + 2) := by rw [oN_lt (by omega) (by omega)]; omega
      rw [rL_isKite_146]
      simp only [rL_isKite_148, rL_isKite_150, rL_isKite_151, rL_isKite_152, rL_isKite_203, rL_isKite_205, rL_isKite_208, rL_isKite_210, rL_isKite_213, rL_isKite_215, rL_isKite_217, rL_isKite_220, ct1_i, ct1_r, ct1_n, true_and, and_true, tl_s, tl_n, le4_0, le4_1, le4_2, le4_3, le4_4, le4_5, isO_r, h2, if_neg hge]
      have hnx := nx_n (w := σ 0) (k := r) (n := n') (by omega) (by omega)
      have hfs : fsF (nxP (σ 0) (oN r) 2) n' (999 - n') = if nxP (σ 0) (oN r) 2 n' = true then oN n' else fsF (nxP (σ 0) (oN r) 2) (n' + 1) (999 - (n' + 1)) := by
        obtain ⟨y, hy⟩ : ∃ y, 999 - n' = y + 1 := ⟨998 - n', by omega⟩
        rw [hy, show 999 - (n' + 1) = y by omega]
        rfl
      have go := ih n' (oN n' + -1)
      by_cases hp : nxP (σ 0) (oN r) 2 n' = true
      · obtain ⟨y1, ⟨y2, y3⟩, y4, y5⟩ := hnx.mp hp
        have c1 : c = 1 := hc.resolve_left (fun q => hc0 q y1)
        subst c1
        have e1 : canF (σ 0) r (n' + 1) (canF (σ 0) r n' 1) = 1 := by
          unfold canF
          rw [if_neg (show ¬ (1 : Int32) = 0 by decide), if_neg y2, if_pos y3, if_neg (show ¬ (1 : Int32) = 0 by decide), if_neg y4, if_pos y5]
        rw [e1, if_neg (show ¬ (1 : Int32) = 0 by decide)]
        rw [if_pos hp] at hfs
        rw [hfs] at go
        exact go _ _ (by omega) (by omega) rfl
      · have e1 : canF (σ 0) r (n' + 1) (canF (σ 0) r n' c) = 0 := by
          rcases hc with hc | hc
          · subst hc
            unfold canF
            rw [if_pos (show (0 : Int32) = 0 from rfl), if_pos (show (0 : Int32) = 0 from rfl)]
          · subst hc
            have y1 := hc1 rfl
            unfold canF
            rw [if_neg (show ¬ (1 : Int32) = 0 by decide)]
            by_cases z1 : σ 0 2 (r * 8 + 2) < σ 0 0 n'
            · rw [if_pos z1, if_pos (show (0 : Int32) = 0 from rfl)]
            · rw [if_neg z1]
              by_cases z2 : σ 0 0 n' < σ 0 1 0
              · rw [if_pos z2, if_neg (show ¬ (1 : Int32) = 0 by decide)]
                by_cases z3 : σ 0 2 (r * 8 + 2) < σ 0 0 (n' + 1)
                · rw [if_pos z3]
                · rw [if_neg z3, if_neg (fun z4 => hp (hnx.mpr ⟨y1, ⟨z1, z2⟩, z3, z4⟩))]
              · rw [if_neg z2, if_pos (show (0 : Int32) = 0 from rfl)]
        rw [e1, if_pos (show (0 : Int32) = 0 from rfl)]
        rw [if_neg hp] at hfs
        rw [hfs] at go
        exact go _ _ (by omega) (by omega) rfl
    by_cases h1 : σ 0 0 n' < σ 0 2 (r * 8 + 1)
    · rw [if_pos h1]
      exact fin 0 (Or.inl rfl) (fun _ q => q h1) (fun q => absurd q (by decide))
    · rw [if_neg h1]
      exact fin 1 (Or.inr rfl) (fun q _ => absurd q (by decide)) (fun _ => h1)
end KITE
/-- the coins of the longest hire of a kite -/
theorem co_n {w : HV} {cf : Nat → Int32} {T K S N O E b r : Nat} (h : J w cf T K S N O E b) (hr : r < K) (m : Int32) : ∃ p q, 1 ≤ p ∧ p ≤ 99 ∧ q ≤ 12 ∧ w 2 (r * 8 + 4) = oN p ∧ lgF w (oN r) m 12 = oN q ∧ kt w (oN r) 4 * lgF w (oN r) m 12 = oN (p * q) := by
  have hK : K ≤ 16 := h.1.2.1.2.1
  obtain ⟨-, -, ⟨p, p1, p2, p3⟩, -⟩ := h.2.1.2.2.1 r hr
  rcases lg_y (w := w) (k := oN r) (m := m) 12 with ⟨e, -⟩ | ⟨q, q1, q2, e, -⟩
  · exact ⟨p, 0, p1, p2, by omega, p3, e, by rw [kt_4 (by omega), p3, e]; exact oN_mul p 0⟩
  · exact ⟨p, q, p1, p2, q2, p3, e, by rw [kt_4 (by omega), p3, e, oN_mul]⟩
theorem de_y {w : HV} {cf : Nat → Int32} {T K S N O E b : Nat} (h : J w cf T K S N O E b) (m : Int32) : ∀ (k r V : Nat) (d : Int32), r + k ≤ K → V ≤ 1188 → ((deF w m r k d (oN V) = d ∧ ∀ j, r ≤ j → j < r + k → ∃ C, C ≤ V ∧ kt w (oN j) 4 * lgF w (oN j) m 12 = oN C) ∨ ∃ j C, r ≤ j ∧ j < r + k ∧ deF w m r k d (oN V) = oN j ∧ V < C ∧ C ≤ 1188 ∧ kt w (oN j) 4 * lgF w (oN j) m 12 = oN C ∧ ∀ i, r ≤ i → i < r + k → ∃ C2, C2 ≤ C ∧ kt w (oN i) 4 * lgF w (oN i) m 12 = oN C2) := by
  intro k
  induction k with
  | zero => intro r V d _ _; left; exact ⟨rfl, fun j h1 h2 => by omega⟩
  | succ k ih =>
    intro r V d hk hV
    obtain ⟨p, q, -, p2, q2, -, -, e⟩ := co_n h (show r < K by omega) m
    have hpq : p * q ≤ 1188 := by have := Nat.mul_le_mul p2 q2; omega
    generalize p * q = C at e hpq
    unfold deF
    rw [e]
    by_cases hc : oN V < oN C
    · rw [if_pos hc]
      rw [oN_lt (by omega) (by omega)] at hc
      right
      rcases ih (r + 1) C (oN r) (by omega) hpq with ⟨z1, z2⟩ | ⟨j, C2, z1, z2, z3, z4, z5, z6, z7⟩
      · refine ⟨r, C, Nat.le_refl _, by omega, z1, hc, hpq, e, fun i h1 h2 => ?_⟩
        by_cases ei : i = r
        · subst ei; exact ⟨C, Nat.le_refl _, e⟩
        · exact z2 i (by omega) (by omega)
      · refine ⟨j, C2, by omega, by omega, z3, by omega, z5, z6, fun i h1 h2 => ?_⟩
        by_cases ei : i = r
        · subst ei; exact ⟨C, by omega, e⟩
        · exact z7 i (by omega) (by omega)
    · rw [if_neg hc]
      rw [oN_lt (by omega) (by omega)] at hc
      rcases ih (r + 1) V d (by omega) hV with ⟨z1, z2⟩ | ⟨j, C2, z1, z2, z3, z4, z5, z6, z7⟩
      · left
        refine ⟨z1, fun i h1 h2 => ?_⟩
        by_cases ei : i = r
        · subst ei; exact ⟨C, by omega, e⟩
        · exact z2 i (by omega) (by omega)
      · right
        refine ⟨j, C2, by omega, by omega, z3, z4, z5, z6, fun i h1 h2 => ?_⟩
        by_cases ei : i = r
        · subst ei; exact ⟨C, by omega, e⟩
        · exact z7 i (by omega) (by omega)
/-- a hut that holds the invariant, a kite of it, metres -/
def KitP (σ : SG) (k m : Int32) : Prop := ∃ T K S N O E b, J (σ 0) (σ 8 0) T K S N O E b ∧ ∃ r mm, r < K ∧ k = oN r ∧ 1 ≤ mm ∧ mm ≤ 300 ∧ m = oN mm
theorem lo_n {σ : SG} {cf : Nat → Int32} {T K S N O E b r mm : Nat} (h : J (σ 0) cf T K S N O E b) (hr : r < K) (m1 : 1 ≤ mm) (m2 : mm ≤ 300) : loF σ (oN r) (oN mm) = if 0 < lgF (σ 0) (oN r) (oN mm) 12 then lgF (σ 0) (oN r) (oN mm) 12 else -5 := by
  have := (J_bd h).2.1
  unfold loF
  rw [J_81 h, if_pos (wi_oK (by omega) hr), if_pos (wi_1 (C := 300) (c := 300) rfl (by decide) m1 m2)]
section KITE2
variable {sp : Nat → Sp} {sc : Nat × (Nat → Int32)} {σ : SG} {cf : Nat → Int32} {T K S N O E b r mm : Nat} {Q : Option Value → MS → Prop}
set_option maxHeartbeats 1000000 in
set_option maxRecDepth 20000 in
theorem lp_L_isKite_C (h91 : sp 91 = f_X_longest) (h67 : sp 67 = f_X_kiteOf) (h93 : sp 93 = f_X_dearest) (h : J (σ 0) cf T K S N O E b) (hr : r < K) (m1 : 1 ≤ mm) (m2 : mm ≤ 300) {d h9 : Int32} {v8 v9 : Value} (hQ : Q (some (.int 1)) (emb σ)) : Vf 98 sp ((127, SLT), sc) 223 [.ref 0, .int (oN r), .int (oN mm), .int (loF σ (oN r) (oN mm)), .int 1, .int d, .int d, .int h9, v8, v9] [] (emb σ) Q := by
  have hb := J_bd h
  obtain ⟨p, q, p1, p2, q2, p3, eq, ec⟩ := co_n h hr (oN mm)
  have h10 : ((1 : Int32) = 0) = False := eq_false (by decide)
  have elo := lo_n h hr m1 m2
  rw [eq] at elo
  have edr : drF σ (oN mm) = deF (σ 0) (oN mm) 0 K (-5) (oN 0) := by
    unfold drF
    rw [if_pos (wi_1 (C := 300) (c := 300) rfl (by decide) m1 m2), J_81 h, oN_nat (by omega)]
    rfl
  by_cases hq : q = 0
  · subst hq
    rw [if_neg (by decide)] at elo
    simp only [rL_isKite_0, rL_isKite_1, rL_isKite_2, rL_isKite_3, rL_isKite_6, rL_isKite_7, rL_isKite_8, rL_isKite_9, rL_isKite_10, rL_isKite_13, rL_isKite_14, rL_isKite_17, rL_isKite_18, rL_isKite_21, rL_isKite_22, rL_isKite_23, rL_isKite_24, rL_isKite_26, rL_isKite_29, rL_isKite_32, rL_isKite_33, rL_isKite_36, rL_isKite_37, rL_isKite_40, rL_isKite_41, rL_isKite_43, rL_isKite_46, rL_isKite_47, rL_isKite_48, rL_isKite_49, rL_isKite_50, rL_isKite_51, rL_isKite_54, rL_isKite_57, rL_isKite_58, rL_isKite_60, rL_isKite_63, rL_isKite_64, rL_isKite_65, rL_isKite_66, rL_isKite_67, rL_isKite_69, rL_isKite_72, rL_isKite_73, rL_isKite_76, rL_isKite_77, rL_isKite_78, rL_isKite_79, rL_isKite_80, rL_isKite_83, rL_isKite_86, rL_isKite_87, rL_isKite_90, rL_isKite_91, rL_isKite_93, rL_isKite_94, rL_isKite_95, rL_isKite_96, rL_isKite_99, rL_isKite_101, rL_isKite_103, rL_isKite_105, rL_isKite_108, rL_isKite_110, rL_isKite_112, rL_isKite_113, rL_isKite_114, rL_isKite_117, rL_isKite_120, rL_isKite_121, rL_isKite_123, rL_isKite_126, rL_isKite_127, rL_isKite_128, rL_isKite_129, rL_isKite_132, rL_isKite_135, rL_isKite_136, rL_isKite_139, rL_isKite_140, rL_isKite_142, rL_isKite_144, rL_isKite_146, rL_isKite_148, rL_isKite_150, rL_isKite_151, rL_isKite_152, rL_isKite_155, rL_isKite_157, rL_isKite_160, rL_isKite_161, rL_isKite_163, rL_isKite_166, rL_isKite_167, rL_isKite_168, rL_isKite_169, rL_isKite_172, rL_isKite_175, rL_isKite_176, rL_isKite_178, rL_isKite_181, rL_isKite_182, rL_isKite_184, rL_isKite_187, rL_isKite_190, rL_isKite_191, rL_isKite_194, rL_isKite_195, rL_isKite_197, rL_isKite_200, rL_isKite_203, rL_isKite_205, rL_isKite_208, rL_isKite_210, rL_isKite_213, rL_isKite_215, rL_isKite_217, rL_isKite_220, rL_isKite_223, rL_isKite_224, rL_isKite_225, rL_isKite_228, rL_isKite_230, rL_isKite_231, rL_isKite_233, rL_isKite_236, rL_isKite_237, rL_isKite_240, rL_isKite_241, rL_isKite_242, rL_isKite_243, rL_isKite_244, rL_isKite_247, rL_isKite_248, rL_isKite_250, rL_isKite_252, rL_isKite_255, rL_isKite_257, rL_isKite_259, rL_isKite_262, rL_isKite_264, rL_isKite_267, rL_isKite_269, rL_isKite_271, rL_isKite_274, rL_isKite_275, rL_isKite_277, rL_isKite_278, rL_isKite_281, rL_isKite_282, rL_isKite_284, rL_isKite_285, rL_isKite_288, rL_isKite_289, rL_isKite_291, rL_isKite_294, rL_isKite_295, rL_isKite_298, rL_isKite_299, ct1_i, ct1_r, ct1_n, true_and, and_true, tl_s, tl_n, le4_0, le4_1, le4_2, le4_3, le4_4, le4_5, isO_r, cl_, emb1, emb2, le_rN, h91, h67, h93, obX, rd_dearest h, elo, h10, rb_1, if_true, if_false]
    exact hQ
  · have hpq : p * q ≤ 1188 := by have := Nat.mul_le_mul p2 q2; omega
    have hpq1 : 1 ≤ p * q := Nat.mul_pos p1 (by omega)
    rw [if_pos (by show oN 0 < oN q; rw [oN_lt (by decide) (by omega)]; omega)] at elo
    have nlo : (oN q = -5) = False := eq_false (oN_m5 (by omega))
    have eco : oN q * oN p = oN (p * q) := by rw [oN_mul, Nat.mul_comm]
    have nco : (oN (p * q) = 0) = False := eq_false (fun z => by have := oN_inj (b := 0) (by omega) (by decide) z; omega)
    rcases de_y h (oN mm) K 0 0 (-5) (by omega) (by omega) with ⟨-, z2⟩ | ⟨j, C, z1, z2, z3, z4, z5, z6, z7⟩
    · obtain ⟨C, c1, c2⟩ := z2 r (Nat.zero_le _) (by omega)
      have := oN_inj (by omega) (by omega) (ec.symm.trans c2)
      omega
    · obtain ⟨C2, c1, c2⟩ := z7 r (Nat.zero_le _) (by omega)
      have e2 : p * q = C2 := oN_inj (by omega) (by omega) (ec.symm.trans c2)
      have hjK : j < K := by omega
      obtain ⟨p', q', p1', p2', q2', p3', eq', ec'⟩ := co_n h hjK (oN mm)
      have hpq' : p' * q' ≤ 1188 := by have := Nat.mul_le_mul p2' q2'; omega
      have e3 : p' * q' = C := oN_inj (by omega) (by omega) (ec'.symm.trans z6)
      have hq0 : q' ≠ 0 := by
        intro z
        subst z
        rw [Nat.mul_zero] at e3
        omega
      have elo' := lo_n h hjK m1 m2
      rw [eq', if_pos (by show oN 0 < oN q'; rw [oN_lt (by decide) (by omega)]; omega)] at elo'
      have ndr : (oN j = -5) = False := eq_false (oN_m5 (by omega))
      have eco' : oN q' * oN p' = oN C := by rw [oN_mul, Nat.mul_comm, e3]
      have nlt : (oN C < oN (p * q)) = False := eq_false (by rw [oN_lt (by omega) (by omega)]; omega)
      rw [z3] at edr
      simp only [rL_isKite_0, rL_isKite_1, rL_isKite_2, rL_isKite_3, rL_isKite_6, rL_isKite_7, rL_isKite_8, rL_isKite_9, rL_isKite_10, rL_isKite_13, rL_isKite_14, rL_isKite_17, rL_isKite_18, rL_isKite_21, rL_isKite_22, rL_isKite_23, rL_isKite_24, rL_isKite_26, rL_isKite_29, rL_isKite_32, rL_isKite_33, rL_isKite_36, rL_isKite_37, rL_isKite_40, rL_isKite_41, rL_isKite_43, rL_isKite_46, rL_isKite_47, rL_isKite_48, rL_isKite_49, rL_isKite_50, rL_isKite_51, rL_isKite_54, rL_isKite_57, rL_isKite_58, rL_isKite_60, rL_isKite_63, rL_isKite_64, rL_isKite_65, rL_isKite_66, rL_isKite_67, rL_isKite_69, rL_isKite_72, rL_isKite_73, rL_isKite_76, rL_isKite_77, rL_isKite_78, rL_isKite_79, rL_isKite_80, rL_isKite_83, rL_isKite_86, rL_isKite_87, rL_isKite_90, rL_isKite_91, rL_isKite_93, rL_isKite_94, rL_isKite_95, rL_isKite_96, rL_isKite_99, rL_isKite_101, rL_isKite_103, rL_isKite_105, rL_isKite_108, rL_isKite_110, rL_isKite_112, rL_isKite_113, rL_isKite_114, rL_isKite_117, rL_isKite_120, rL_isKite_121, rL_isKite_123, rL_isKite_126, rL_isKite_127, rL_isKite_128, rL_isKite_129, rL_isKite_132, rL_isKite_135, rL_isKite_136, rL_isKite_139, rL_isKite_140, rL_isKite_142, rL_isKite_144, rL_isKite_146, rL_isKite_148, rL_isKite_150, rL_isKite_151, rL_isKite_152, rL_isKite_155, rL_isKite_157, rL_isKite_160, rL_isKite_161, rL_isKite_163, rL_isKite_166, rL_isKite_167, rL_isKite_168, rL_isKite_169, rL_isKite_172, rL_isKite_175, rL_isKite_176, rL_isKite_178, rL_isKite_181, rL_isKite_182, rL_isKite_184, rL_isKite_187, rL_isKite_190, rL_isKite_191, rL_isKite_194, rL_isKite_195, rL_isKite_197, rL_isKite_200, rL_isKite_203, rL_isKite_205, rL_isKite_208, rL_isKite_210, rL_isKite_213, rL_isKite_215, rL_isKite_217, rL_isKite_220, rL_isKite_223, rL_isKite_224, rL_isKite_225, rL_isKite_228, rL_isKite_230, rL_isKite_231, rL_isKite_233, rL_isKite_236, rL_isKite_237, rL_isKite_240, rL_isKite_241, rL_isKite_242, rL_isKite_243, rL_isKite_244, rL_isKite_247, rL_isKite_248, rL_isKite_250, rL_isKite_252, rL_isKite_255, rL_isKite_257, rL_isKite_259, rL_isKite_262, rL_isKite_264, rL_isKite_267, rL_isKite_269, rL_isKite_271, rL_isKite_274, rL_isKite_275, rL_isKite_277, rL_isKite_278, rL_isKite_281, rL_isKite_282, rL_isKite_284, rL_isKite_285, rL_isKite_288, rL_isKite_289, rL_isKite_291, rL_isKite_294, rL_isKite_295, rL_isKite_298, rL_isKite_299, ct1_i, ct1_r, ct1_n, true_and, and_true, tl_s, tl_n, le4_0, le4_1, le4_2, le4_3, le4_4, le4_5, isO_r, cl_, emb1, emb2, le_rN, h91, h67, h93, obX, rd_dearest h, rd_longest h, rk_4 h hr, rk_4 h hjK, edr, elo, elo', p3, p3', eco, eco', nlo, nco, ndr, nlt, h10, rb_1, if_true, if_false]
      exact hQ
end KITE2

def sp_L_isKite : Nat → Sp := spL [(91, f_X_longest), (67, f_X_kiteOf), (87, f_X_why), (85, f_X_next), (84, f_X_count), (70, f_X_windOf), (93, f_X_dearest)]
theorem sp_L_isKite_X_longest : sp_L_isKite 91 = f_X_longest := rfl
theorem sp_L_isKite_X_kiteOf : sp_L_isKite 67 = f_X_kiteOf := rfl
theorem sp_L_isKite_X_why : sp_L_isKite 87 = f_X_why := rfl
theorem sp_L_isKite_X_next : sp_L_isKite 85 = f_X_next := rfl
theorem sp_L_isKite_X_count : sp_L_isKite 84 = f_X_count := rfl
theorem sp_L_isKite_X_windOf : sp_L_isKite 70 = f_X_windOf := rfl
theorem sp_L_isKite_X_dearest : sp_L_isKite 93 = f_X_dearest := rfl
def f_L_isKite : Sp := aS 9 (fun _ => 0) 2 (gL2 (fun _ k m σ => (KitP σ k m, some (.int 1), σ)))
theorem q_L_isKite {k m : Int32} {σ : SG} : f_L_isKite [.ref 0, .int k, .int m] (emb σ) = (KitP σ k m, some (.int 1), emb (σ)) := aS2_at (ad := (fun _ => 0)) (i := hI 0) (by decide) rfl
set_option maxHeartbeats 4000000 in
set_option maxRecDepth 20000 in
theorem ok_L_isKite : SpecOK 98 f_L_isKite := SpecOK.of (sp := sp_L_isKite) (by decide) (by decide) (spL_ok (List.forall_mem_cons.mpr ⟨ok_X_longest, (List.forall_mem_cons.mpr ⟨ok_X_kiteOf, (List.forall_mem_cons.mpr ⟨ok_X_why, (List.forall_mem_cons.mpr ⟨ok_X_next, (List.forall_mem_cons.mpr ⟨ok_X_count, (List.forall_mem_cons.mpr ⟨ok_X_windOf, (List.forall_mem_cons.mpr ⟨ok_X_dearest, (fun q h => absurd h List.not_mem_nil)⟩)⟩)⟩)⟩)⟩)⟩)⟩)) (Does_aS2 (Nat.le_of_ble_eq_true rfl) (fun sc i k m σ hi had hp => by
  refine Vf_q ?_ ⟨rfl, rfl⟩
  intro Q hQ
  dsimp only at hQ hp
  show Vf 98 _ _ 0 [.ref (0), .int k, .int m, .null, .null, .null, .null, .null, .null, .null] [] (emb σ) _

  obtain ⟨T, K, S, N, O, E, b, h, r, mm, hr, rfl, m1, m2, rfl⟩ := hp
  have hb := J_bd h
  have h10 : ((1 : Int32) = 0) = False := eq_false (by decide)
  have h01 : ((0 : Int32) = 1) = False := eq_false (by decide)
  have h5 : ((-5 : Int32) < 0) = True := eq_true (by decide)
  have h512 : ((-5 : Int32) = 12) = False := eq_false (by decide)
  have ene : neF σ (oN r) 2 = fsF (nxP (σ 0) (oN r) 2) T (999 - T) := by
    unfold neF
    rw [J_81 h, if_pos (wi_oK (by omega) hr), if_pos (by decide), J_80 h, oN_nat (by omega), show (2 : Int32).toNatClampNeg = 2 from rfl, show 1001 - (T + 2) = 999 - T by omega]
  have key : Vf 98 sp_L_isKite ((127, SLT), sc) 91 [.ref 0, .int (oN r), .int (oN mm), .int (loF σ (oN r) (oN mm)), .null, .null, .null, .null, .null, .null] [.int 1] (emb σ) Q := by
    simp only [rL_isKite_91, rL_isKite_93, rL_isKite_94, rL_isKite_95, rL_isKite_96, rL_isKite_99, rL_isKite_101, rL_isKite_103, rL_isKite_105, rL_isKite_108, ct1_i, ct1_r, ct1_n, true_and, and_true, tl_s, tl_n, le4_0, le4_1, le4_2, le4_3, le4_4, le4_5, isO_r, cl_, emb1, emb2, le_rN, up1_at, up1_up1, sp_L_isKite_X_longest, sp_L_isKite_X_kiteOf, sp_L_isKite_X_why, sp_L_isKite_X_next, sp_L_isKite_X_count, sp_L_isKite_X_windOf, sp_L_isKite_X_dearest, obX, rd_next h]
    rw [ene]
    have fin := fun (d : Nat) (n : Nat) => lp_L_isKite (sp := sp_L_isKite) (sc := sc) (m := oN mm) (lo := loF σ (oN r) (oN mm)) (nx := fsF (nxP (σ 0) (oN r) 2) T (999 - T)) (Q := Q) sp_L_isKite_X_windOf sp_L_isKite_X_kiteOf sp_L_isKite_X_count h hr (fun h9 v8 v9 => lp_L_isKite_C sp_L_isKite_X_longest sp_L_isKite_X_kiteOf sp_L_isKite_X_dearest h hr m1 m2 hQ) d n
    by_cases hT : T ≤ 999
    · exact fin (999 - T) 999 998 .null .null (by omega) (by omega) (by decide)
    · have : T = 1000 := by omega
      subst this
      rw [rL_isKite_110]
      simp only [rL_isKite_112, rL_isKite_113, rL_isKite_114, rL_isKite_117, ct1_i, ct1_r, ct1_n, true_and, and_true, tl_s, tl_n, le4_0, le4_1, le4_2, le4_3, le4_4, le4_5, isO_r, cl_, emb1, emb2, le_rN, up1_at, up1_up1, sp_L_isKite_X_longest, sp_L_isKite_X_kiteOf, sp_L_isKite_X_why, sp_L_isKite_X_next, sp_L_isKite_X_count, sp_L_isKite_X_windOf, sp_L_isKite_X_dearest, obX, ct_0 h, if_pos (show (998 : Int32) < oN 1000 by decide)]
      exact lp_L_isKite_C sp_L_isKite_X_longest sp_L_isKite_X_kiteOf sp_L_isKite_X_dearest h hr m1 m2 hQ
  have elo := lo_n h hr m1 m2
  have wy := fun l (l1 : 1 ≤ l) (l2 : l ≤ 12) => wy_n h hr m1 m2 l1 l2
  have hfin : ∀ (A B : Int32), A = B → Vf 98 sp_L_isKite ((127, SLT), sc) 37 [.ref 0, .int (oN r), .int (oN mm), .int (loF σ (oN r) (oN mm)), .null, .null, .null, .null, .null, .null] [.int B, .int A] (emb σ) Q := by
    intro A B e
    subst e
    rcases lg_y (w := σ 0) (k := oN r) (m := oN mm) 12 with ⟨e0, q1⟩ | ⟨q, q1, q2, e0, q4, q5⟩
    · rw [e0, if_neg (by decide)] at elo
      have g := refu_p (q1 1 (by decide) (by decide))
      rw [← wy 1 (by decide) (by decide)] at g
      have g1 : (0 < wyF σ (oN r) (oN mm) 1 0) = True := eq_true g
      simp only [rL_isKite_37, rL_isKite_40, rL_isKite_41, rL_isKite_43, rL_isKite_46, rL_isKite_47, rL_isKite_48, rL_isKite_49, rL_isKite_50, rL_isKite_51, rL_isKite_54, rL_isKite_57, rL_isKite_58, rL_isKite_60, rL_isKite_63, rL_isKite_64, rL_isKite_65, rL_isKite_66, rL_isKite_67, rL_isKite_69, rL_isKite_72, rL_isKite_73, rL_isKite_76, rL_isKite_77, rL_isKite_78, rL_isKite_79, rL_isKite_80, rL_isKite_83, rL_isKite_86, rL_isKite_87, ct1_i, ct1_r, ct1_n, true_and, and_true, tl_s, tl_n, le4_0, le4_1, le4_2, le4_3, le4_4, le4_5, isO_r, cl_, emb1, emb2, le_rN, up1_at, up1_up1, sp_L_isKite_X_longest, sp_L_isKite_X_kiteOf, sp_L_isKite_X_why, sp_L_isKite_X_next, sp_L_isKite_X_count, sp_L_isKite_X_windOf, sp_L_isKite_X_dearest, obX, rd_why h, elo, g1, h512, if_true, if_false]
      rw [← elo]
      exact key
    · rw [e0, if_pos (by show oN 0 < oN q; rw [oN_lt (by decide) (by omega)]; omega)] at elo
      have n5 : (oN q = -5) = False := eq_false (oN_m5 (by omega))
      have w0 : wyF σ (oN r) (oN mm) (oN q) 0 = 0 := (wy q q1 q2).trans q4
      by_cases h12 : q = 12
      · subst h12
        simp only [rL_isKite_37, rL_isKite_40, rL_isKite_41, rL_isKite_43, rL_isKite_46, rL_isKite_47, rL_isKite_48, rL_isKite_49, rL_isKite_50, rL_isKite_51, rL_isKite_54, rL_isKite_57, rL_isKite_58, rL_isKite_60, rL_isKite_63, rL_isKite_64, rL_isKite_65, rL_isKite_66, rL_isKite_67, rL_isKite_69, rL_isKite_72, rL_isKite_73, rL_isKite_76, rL_isKite_77, rL_isKite_78, rL_isKite_79, rL_isKite_80, rL_isKite_83, rL_isKite_86, rL_isKite_87, ct1_i, ct1_r, ct1_n, true_and, and_true, tl_s, tl_n, le4_0, le4_1, le4_2, le4_3, le4_4, le4_5, isO_r, cl_, emb1, emb2, le_rN, up1_at, up1_up1, sp_L_isKite_X_longest, sp_L_isKite_X_kiteOf, sp_L_isKite_X_why, sp_L_isKite_X_next, sp_L_isKite_X_count, sp_L_isKite_X_windOf, sp_L_isKite_X_dearest, obX, rd_why h, elo, n5, w0, show (oN 12 = 12) = True from eq_true rfl, if_true, if_false]
        rw [← elo]
        exact key
      · have n12 : (oN q = 12) = False := eq_false (fun z => h12 (oN_inj (b := 12) (by omega) (by decide) z))
        have g := refu_p (q5 (q + 1) (by omega) (by omega))
        rw [← wy (q + 1) (by omega) (by omega)] at g
        have g1 : (0 < wyF σ (oN r) (oN mm) (oN (q + 1)) 0) = True := eq_true g
        simp only [rL_isKite_37, rL_isKite_40, rL_isKite_41, rL_isKite_43, rL_isKite_46, rL_isKite_47, rL_isKite_48, rL_isKite_49, rL_isKite_50, rL_isKite_51, rL_isKite_54, rL_isKite_57, rL_isKite_58, rL_isKite_60, rL_isKite_63, rL_isKite_64, rL_isKite_65, rL_isKite_66, rL_isKite_67, rL_isKite_69, rL_isKite_72, rL_isKite_73, rL_isKite_76, rL_isKite_77, rL_isKite_78, rL_isKite_79, rL_isKite_80, rL_isKite_83, rL_isKite_86, rL_isKite_87, ct1_i, ct1_r, ct1_n, true_and, and_true, tl_s, tl_n, le4_0, le4_1, le4_2, le4_3, le4_4, le4_5, isO_r, cl_, emb1, emb2, le_rN, up1_at, up1_up1, sp_L_isKite_X_longest, sp_L_isKite_X_kiteOf, sp_L_isKite_X_why, sp_L_isKite_X_next, sp_L_isKite_X_count, sp_L_isKite_X_windOf, sp_L_isKite_X_dearest, obX, rd_why h, elo, n5, n12, w0, oN_succ, g1, if_true, if_false]
        rw [← elo]
        exact key
  rcases st_hi h hr with ⟨s1, n, hn, s2⟩ | ⟨s1, s2⟩
  · have nn : (oN n < 0) = False := oN_nn (by omega)
    simp only [rL_isKite_0, rL_isKite_1, rL_isKite_2, rL_isKite_3, rL_isKite_6, rL_isKite_7, rL_isKite_8, rL_isKite_9, rL_isKite_10, rL_isKite_13, rL_isKite_14, rL_isKite_17, rL_isKite_18, rL_isKite_21, rL_isKite_22, rL_isKite_23, rL_isKite_24, rL_isKite_26, rL_isKite_29, rL_isKite_32, rL_isKite_33, rL_isKite_36, ct1_i, ct1_r, ct1_n, true_and, and_true, tl_s, tl_n, le4_0, le4_1, le4_2, le4_3, le4_4, le4_5, isO_r, cl_, emb1, emb2, le_rN, up1_at, up1_up1, sp_L_isKite_X_longest, sp_L_isKite_X_kiteOf, sp_L_isKite_X_why, sp_L_isKite_X_next, sp_L_isKite_X_count, sp_L_isKite_X_windOf, sp_L_isKite_X_dearest, obX, rd_longest h, rk_0 h hr, rk_7 h hr, s1, s2, nn, if_true, if_false]
    exact hfin _ _ rfl
  · have nn : (σ 0 2 (r * 8 + 0) = 1) = False := eq_false s1
    simp only [rL_isKite_0, rL_isKite_1, rL_isKite_2, rL_isKite_3, rL_isKite_6, rL_isKite_7, rL_isKite_8, rL_isKite_9, rL_isKite_10, rL_isKite_13, rL_isKite_14, rL_isKite_17, rL_isKite_18, rL_isKite_21, rL_isKite_22, rL_isKite_23, rL_isKite_24, rL_isKite_26, rL_isKite_29, rL_isKite_32, rL_isKite_33, rL_isKite_36, ct1_i, ct1_r, ct1_n, true_and, and_true, tl_s, tl_n, le4_0, le4_1, le4_2, le4_3, le4_4, le4_5, isO_r, cl_, emb1, emb2, le_rN, up1_at, up1_up1, sp_L_isKite_X_longest, sp_L_isKite_X_kiteOf, sp_L_isKite_X_why, sp_L_isKite_X_next, sp_L_isKite_X_count, sp_L_isKite_X_windOf, sp_L_isKite_X_dearest, obX, rd_longest h, rk_0 h hr, rk_7 h hr, s2, nn, h5, if_true, if_false]
    exact hfin _ _ rfl))
