/-! READERS: what the calls answer of a hut that holds the invariant -/
theorem smF_ct {w : HV} {v : Int32} : ∀ K, K ≤ 16 → smF (fun r => if kt w (oN r) 0 = v then 1 else 0) 0 K = oN (ctF (fun r => w 2 (r * 8 + 0)) v K) := by
  intro K
  induction K with
  | zero => intro _; rfl
  | succ K ih =>
    intro hK
    have := ih (by omega)
    rw [smF_s0] at this ⊢
    rw [suF_s, this, Nat.zero_add, kt_0 (by omega)]
    show _ = oN (ctF (fun r => w 2 (r * 8 + 0)) v K + (if w 2 (K * 8 + 0) = v then 1 else 0))
    rw [← oN_add]
    split <;> rfl
theorem ct_sum {f : Nat → Int32} : ∀ K, (∀ k, k < K → f k = 0 ∨ f k = 1 ∨ f k = 2) → ctF f 0 K + ctF f 1 K + ctF f 2 K = K := by
  intro K
  induction K with
  | zero => intro _; rfl
  | succ K ih =>
    intro h
    have := ih (fun k hk => h k (by omega))
    unfold ctF
    rcases h K (by omega) with e | e | e
    · rw [e, if_pos rfl, if_neg (by decide), if_neg (by decide)]; omega
    · rw [e, if_neg (by decide), if_pos rfl, if_neg (by decide)]; omega
    · rw [e, if_neg (by decide), if_neg (by decide), if_pos rfl]; omega
theorem smF_sl {w : HV} {S c : Nat} (hS : S ≤ 10) (hc : c < 4) : smF (fun r => sl w (oN r) (oN c)) 0 S = suF (fun s => w 3 (s * 4 + c)) 0 S 0 := by
  rw [smF_s0]
  exact suF_c _ _ _ (fun r _ hr => sl_n (by omega) hc)
section RD
variable {σ : SG} {cf : Nat → Int32} {T K S N O E b : Nat}
theorem J_bd (h : J (σ 0) cf T K S N O E b) : T ≤ 1000 ∧ K ≤ 16 ∧ S ≤ 10 ∧ N ≤ 200 ∧ E + O = N ∧ O ≤ 10 ∧ E < 256 := by
  obtain ⟨hO, hE, hS⟩ := Ivt_O h.1
  have := h.1.2.1
  exact ⟨this.1, this.2.1, hS, this.2.2.2.1, this.2.2.2.2, hO, hE⟩
theorem J_80 (h : J (σ 0) cf T K S N O E b) : σ 0 8 0 = oN T := h.1.1.1
theorem J_81 (h : J (σ 0) cf T K S N O E b) : σ 0 8 1 = oN K := h.1.1.2.1
theorem J_82 (h : J (σ 0) cf T K S N O E b) : σ 0 8 2 = oN S := h.1.1.2.2.1
theorem J_83 (h : J (σ 0) cf T K S N O E b) : σ 0 8 3 = oN N := h.1.1.2.2.2.1
theorem J_84 (h : J (σ 0) cf T K S N O E b) : σ 0 8 4 = oN O := h.1.1.2.2.2.2.1
theorem J_85 (h : J (σ 0) cf T K S N O E b) : σ 0 8 5 = oN E := h.1.1.2.2.2.2.2.1
theorem J_s0 (h : J (σ 0) cf T K S N O E b) : sm (σ 0 8 0) 1000 := by rw [J_80 h]; exact sm_oN (J_bd h).1 (by decide)
theorem J_s1 (h : J (σ 0) cf T K S N O E b) : sm (σ 0 8 1) 16 := by rw [J_81 h]; exact sm_oN (J_bd h).2.1 (by decide)
theorem J_s2 (h : J (σ 0) cf T K S N O E b) : sm (σ 0 8 2) 10 := by rw [J_82 h]; exact sm_oN (J_bd h).2.2.1 (by decide)
theorem J_s4 (h : J (σ 0) cf T K S N O E b) : sm (σ 0 8 4) 10 := by rw [J_84 h]; exact sm_oN (J_bd h).2.2.2.2.2.1 (by decide)
theorem cu_g (h : J (σ 0) cf T K S N O E b) {x y : Int32} (e : cuF σ x = y) : f_X_count [.ref 0, .int x] (emb σ) = (True, some (.int y), emb σ) := by
  rw [q_X_count, e, eq_true (⟨J_s1 h, J_s2 h⟩ : sm (σ 0 8 1) 16 ∧ sm (σ 0 8 2) 10)]
theorem ct_0 (h : J (σ 0) cf T K S N O E b) : f_X_count [.ref 0, .int 0] (emb σ) = (True, some (.int (oN T)), emb σ) := by
  refine cu_g h ?_
  unfold cuF
  rw [if_pos (by decide), if_pos (by decide), if_neg (by decide), if_neg (by decide)]
  unfold tyF
  rw [if_pos rfl]
  exact J_80 h
theorem ct_1 (h : J (σ 0) cf T K S N O E b) : f_X_count [.ref 0, .int 1] (emb σ) = (True, some (.int (oN K)), emb σ) := by
  refine cu_g h ?_
  unfold cuF
  rw [if_pos (by decide), if_pos (by decide), if_neg (by decide), if_neg (by decide)]
  unfold tyF
  rw [if_neg (by decide), if_pos rfl]
  exact J_81 h
theorem ct_2 (h : J (σ 0) cf T K S N O E b) : f_X_count [.ref 0, .int 2] (emb σ) = (True, some (.int (oN (ctF (fun r => σ 0 2 (r * 8 + 0)) 0 K))), emb σ) := by
  refine cu_g h ?_
  unfold cuF
  rw [if_pos (by decide), if_pos (by decide), if_neg (by decide), if_neg (by decide)]
  unfold tyF
  rw [if_neg (by decide), if_neg (by decide), if_pos rfl]
  rw [J_81 h, oN_nat (by have := (J_bd h).2.1; omega), smF_ct _ (J_bd h).2.1]
theorem ct_3 (h : J (σ 0) cf T K S N O E b) : f_X_count [.ref 0, .int 3] (emb σ) = (True, some (.int (oN O)), emb σ) := by
  refine cu_g h ?_
  unfold cuF
  rw [if_pos (by decide), if_pos (by decide), if_neg (by decide), if_neg (by decide)]
  unfold tyF
  rw [if_neg (by decide), if_neg (by decide), if_neg (by decide), if_pos rfl]
  rw [J_81 h, oN_nat (by have := (J_bd h).2.1; omega), smF_ct _ (J_bd h).2.1]
  exact congrArg oN h.2.1.2.2.2.1
theorem ct_4 (h : J (σ 0) cf T K S N O E b) : f_X_count [.ref 0, .int 4] (emb σ) = (True, some (.int (oN (ctF (fun r => σ 0 2 (r * 8 + 0)) 2 K))), emb σ) := by
  refine cu_g h ?_
  unfold cuF
  rw [if_pos (by decide), if_pos (by decide), if_neg (by decide), if_neg (by decide)]
  unfold tyF
  rw [if_neg (by decide), if_neg (by decide), if_neg (by decide), if_neg (by decide), if_pos rfl]
  rw [J_81 h, oN_nat (by have := (J_bd h).2.1; omega), smF_ct _ (J_bd h).2.1]
theorem ct_5 (h : J (σ 0) cf T K S N O E b) : f_X_count [.ref 0, .int 5] (emb σ) = (True, some (.int (oN S)), emb σ) := by
  refine cu_g h ?_
  unfold cuF
  rw [if_pos (by decide), if_pos (by decide), if_neg (by decide), if_neg (by decide)]
  unfold tyF
  rw [if_neg (by decide), if_neg (by decide), if_neg (by decide), if_neg (by decide), if_neg (by decide), if_pos rfl]
  exact J_82 h
theorem ct_6 (h : J (σ 0) cf T K S N O E b) : f_X_count [.ref 0, .int 6] (emb σ) = (True, some (.int (oN N)), emb σ) := by
  refine cu_g h ?_
  unfold cuF
  rw [if_pos (by decide), if_pos (by decide), if_neg (by decide), if_neg (by decide)]
  unfold tyF
  rw [if_neg (by decide), if_neg (by decide), if_neg (by decide), if_neg (by decide), if_neg (by decide), if_neg (by decide), if_pos rfl]
  exact J_83 h
theorem ct_7 (h : J (σ 0) cf T K S N O E b) : f_X_count [.ref 0, .int 7] (emb σ) = (True, some (.int (oN O)), emb σ) := by
  refine cu_g h ?_
  unfold cuF
  rw [if_pos (by decide), if_pos (by decide), if_neg (by decide), if_neg (by decide)]
  unfold tyF
  rw [if_neg (by decide), if_neg (by decide), if_neg (by decide), if_neg (by decide), if_neg (by decide), if_neg (by decide), if_neg (by decide), if_pos rfl]
  exact J_84 h
theorem ct_8 (h : J (σ 0) cf T K S N O E b) : f_X_count [.ref 0, .int 8] (emb σ) = (True, some (.int (σ 0 7 0)), emb σ) := by
  refine cu_g h ?_
  unfold cuF
  rw [if_pos (by decide), if_pos (by decide), if_neg (by decide), if_neg (by decide)]
  unfold tyF
  rw [if_neg (by decide), if_neg (by decide), if_neg (by decide), if_neg (by decide), if_neg (by decide), if_neg (by decide), if_neg (by decide), if_neg (by decide), if_pos rfl]
  exact atW_n (r := 0) (by decide)
theorem ct_9 (h : J (σ 0) cf T K S N O E b) : f_X_count [.ref 0, .int 9] (emb σ) = (True, some (.int (σ 0 7 1)), emb σ) := by
  refine cu_g h ?_
  unfold cuF
  rw [if_pos (by decide), if_pos (by decide), if_neg (by decide), if_neg (by decide)]
  unfold tyF
  rw [if_neg (by decide), if_neg (by decide), if_neg (by decide), if_neg (by decide), if_neg (by decide), if_neg (by decide), if_neg (by decide), if_neg (by decide), if_neg (by decide), if_pos rfl]
  exact atW_n (r := 1) (by decide)
theorem ct_10 (h : J (σ 0) cf T K S N O E b) : f_X_count [.ref 0, .int 10] (emb σ) = (True, some (.int (σ 0 7 2)), emb σ) := by
  refine cu_g h ?_
  unfold cuF
  rw [if_pos (by decide), if_pos (by decide), if_neg (by decide), if_neg (by decide)]
  unfold tyF
  rw [if_neg (by decide), if_neg (by decide), if_neg (by decide), if_neg (by decide), if_neg (by decide), if_neg (by decide), if_neg (by decide), if_neg (by decide), if_neg (by decide), if_neg (by decide), if_pos rfl]
  exact atW_n (r := 2) (by decide)
theorem ct_11 (h : J (σ 0) cf T K S N O E b) : f_X_count [.ref 0, .int 11] (emb σ) = (True, some (.int (σ 0 8 6)), emb σ) := by
  refine cu_g h ?_
  unfold cuF
  rw [if_pos (by decide), if_pos (by decide), if_neg (by decide), if_neg (by decide)]
  unfold tyF
  rw [if_neg (by decide), if_neg (by decide), if_neg (by decide), if_neg (by decide), if_neg (by decide), if_neg (by decide), if_neg (by decide), if_neg (by decide), if_neg (by decide), if_neg (by decide), if_neg (by decide), if_pos rfl]
theorem ct_12 (h : J (σ 0) cf T K S N O E b) : f_X_count [.ref 0, .int 12] (emb σ) = (True, some (.int (suF (fun s => σ 0 3 (s * 4 + 0)) 0 S 0)), emb σ) := by
  refine cu_g h ?_
  unfold cuF
  rw [if_pos (by decide), if_pos (by decide), if_neg (by decide), if_neg (by decide)]
  unfold tyF
  rw [if_neg (by decide), if_neg (by decide), if_neg (by decide), if_neg (by decide), if_neg (by decide), if_neg (by decide), if_neg (by decide), if_neg (by decide), if_neg (by decide), if_neg (by decide), if_neg (by decide), if_neg (by decide), if_pos rfl]
  rw [J_82 h, oN_nat (by have := (J_bd h).2.2.1; omega)]
  exact smF_sl (c := 0) (J_bd h).2.2.1 (by decide)
theorem ct_13 (h : J (σ 0) cf T K S N O E b) : f_X_count [.ref 0, .int 13] (emb σ) = (True, some (.int (suF (fun s => σ 0 3 (s * 4 + 3)) 0 S 0)), emb σ) := by
  refine cu_g h ?_
  unfold cuF
  rw [if_pos (by decide), if_pos (by decide), if_neg (by decide), if_neg (by decide)]
  unfold tyF
  rw [if_neg (by decide), if_neg (by decide), if_neg (by decide), if_neg (by decide), if_neg (by decide), if_neg (by decide), if_neg (by decide), if_neg (by decide), if_neg (by decide), if_neg (by decide), if_neg (by decide), if_neg (by decide), if_neg (by decide), if_pos rfl]
  rw [J_82 h, oN_nat (by have := (J_bd h).2.2.1; omega)]
  exact smF_sl (c := 3) (J_bd h).2.2.1 (by decide)
theorem ct_14 (h : J (σ 0) cf T K S N O E b) : f_X_count [.ref 0, .int 14] (emb σ) = (True, some (.int (σ 0 8 7)), emb σ) := by
  refine cu_g h ?_
  unfold cuF
  rw [if_pos (by decide), if_pos (by decide), if_neg (by decide), if_neg (by decide)]
  unfold tyF
  rw [if_neg (by decide), if_neg (by decide), if_neg (by decide), if_neg (by decide), if_neg (by decide), if_neg (by decide), if_neg (by decide), if_neg (by decide), if_neg (by decide), if_neg (by decide), if_neg (by decide), if_neg (by decide), if_neg (by decide), if_neg (by decide), if_pos rfl]
theorem ct_16 (h : J (σ 0) cf T K S N O E b) : f_X_count [.ref 0, .int 16] (emb σ) = (True, some (.int (σ 7 1 1)), emb σ) := by
  refine cu_g h ?_
  unfold cuF
  rw [if_pos (by decide), if_pos (by decide), if_pos (by decide)]
theorem ct_18 (h : J (σ 0) cf T K S N O E b) : f_X_count [.ref 0, .int 18] (emb σ) = (True, some (.int (σ 0 1 0)), emb σ) := by
  refine cu_g h ?_
  unfold cuF
  rw [if_pos (by decide), if_neg (by decide)]
  exact se_0
theorem ct_19 (h : J (σ 0) cf T K S N O E b) : f_X_count [.ref 0, .int 19] (emb σ) = (True, some (.int (σ 0 1 1)), emb σ) := by
  refine cu_g h ?_
  unfold cuF
  rw [if_pos (by decide), if_neg (by decide)]
  exact se_1
theorem wi_o {n c : Nat} {K : Int32} (hK : K = oN c) (hc : c < 2 ^ 31) (h : n ≤ c) : wi (oN n) 0 K := by
  subst hK
  refine ⟨by rw [oN_nn (by omega)]; exact id, by rw [oN_lt hc (by omega)]; omega⟩
theorem wi_oK {n K : Nat} (hK : K ≤ 1000) (h : n < K) : wi (oN n) 0 (oN K - 1) := by
  obtain ⟨K', rfl⟩ : ∃ K', K = K' + 1 := ⟨K - 1, by omega⟩
  exact wi_o (c := K') oN_pred (by omega) (by omega)
theorem wi_nK {K : Nat} (hK : K ≤ 1000) : ¬ wi (oN K) 0 (oN K - 1) := by
  intro h
  obtain ⟨r, h1, h2⟩ := wiK hK h
  have := oN_inj (by omega) (by omega) h2
  omega
theorem rd_kite (h : J (σ 0) cf T K S N O E b) {k c : Nat} (hk : k < K) (hc : c < 8) : f_X_kiteOf [.ref 0, .int (oN k), .int (oN c)] (emb σ) = (True, some (.int (σ 0 2 (k * 8 + c))), emb σ) := by
  have hK := (J_bd h).2.1
  rw [q_X_kiteOf, J_81 h, if_pos (wi_oK (by omega) hk), if_pos (wi_o (K := 7) (c := 7) rfl (by decide) (by omega)), kt_n (by omega) hc]
theorem rd_kiteN (h : J (σ 0) cf T K S N O E b) {c : Int32} : f_X_kiteOf [.ref 0, .int (oN K), .int c] (emb σ) = (True, some (.int (-1)), emb σ) := by
  have hK := (J_bd h).2.1
  rw [q_X_kiteOf, J_81 h, if_neg (wi_nK (by omega))]
theorem rd_spool (h : J (σ 0) cf T K S N O E b) {s c : Nat} (hs : s < S) (hc : c < 4) : f_X_spoolOf [.ref 0, .int (oN s), .int (oN c)] (emb σ) = (True, some (.int (σ 0 3 (s * 4 + c))), emb σ) := by
  have hS := (J_bd h).2.2.1
  rw [q_X_spoolOf, J_82 h, if_pos (wi_oK (by omega) hs), if_pos (wi_o (K := 3) (c := 3) rfl (by decide) (by omega)), sl_n (by omega) hc]
theorem rd_tails {d c : Nat} (hd : d < 6) (hc : c < 3) : f_X_tailsOf [.ref 0, .int (oN d), .int (oN c)] (emb σ) = (True, some (.int (σ 0 4 (d * 3 + c))), emb σ) := by
  rw [q_X_tailsOf, if_pos (wi_o (K := 5) (c := 5) rfl (by decide) (by omega)), if_pos (wi_o (K := 2) (c := 2) rfl (by decide) (by omega)), tll_n hd hc]
theorem rd_wind {n : Nat} (hn : n < 1000) : f_X_windOf [.ref 0, .int (oN n)] (emb σ) = (True, some (.int (σ 0 0 n)), emb σ) := by
  rw [q_X_windOf, if_pos (wi_o (K := 999) (c := 999) rfl (by decide) (by omega)), wi_n hn]
theorem rwF_at (h : J (σ 0) cf T K S N O E b) {P : Nat} {x : Int32} (hP : P < O) (hx : σ 0 5 (P * 7 + 6) = x) : rwF (σ 0) x = oN P := by
  rcases row_J h.1 x with ⟨-, h2⟩ | ⟨Q, q1, q2, q3⟩
  · exact absurd hx (h2 P hP)
  · rw [q2, h.1.2.2.2.2.1 Q q1 P hP (q3.trans hx.symm)]
theorem rd_hire (h : J (σ 0) cf T K S N O E b) {P c : Nat} {x : Int32} (hP : P < O) (hx : σ 0 5 (P * 7 + 6) = x) (hc : c < 6) : f_X_hireOf [.ref 0, .int x, .int (oN c)] (emb σ) = (True, some (.int (σ 0 5 (P * 7 + c))), emb σ) := by
  have hO := (J_bd h).2.2.2.2.2.1
  rw [q_X_hireOf, eq_true (J_s4 h), rwF_at h hP hx, if_neg (of_eq_false (oN_nn (show P < 2 ^ 31 by omega))), if_pos (wi_o (K := 5) (c := 5) rfl (by decide) (by omega)), hr_n (by omega) (by omega)]
theorem rd_hireN (h : J (σ 0) cf T K S N O E b) {x c : Int32} (hx : ∀ r, r < O → σ 0 5 (r * 7 + 6) ≠ x) : f_X_hireOf [.ref 0, .int x, .int c] (emb σ) = (True, some (.int (-1)), emb σ) := by
  rcases row_J h.1 x with ⟨h1, -⟩ | ⟨Q, q1, q2, q3⟩
  · rw [q_X_hireOf, eq_true (J_s4 h), h1, if_pos (by decide)]
  · exact absurd q3 (hx Q q1)
theorem rd_snaps (h : J (σ 0) cf T K S N O E b) {x : Int32} : f_X_snapsIn [.ref 0, .int x] (emb σ) = (True, some (.int (siF (σ 0) x)), emb σ) := by
  rw [q_X_snapsIn, eq_true (⟨J_s4 h, J_s0 h⟩ : sm (σ 0 8 4) 10 ∧ sm (σ 0 8 0) 1000)]
theorem rd_longest (h : J (σ 0) cf T K S N O E b) {k m : Int32} : f_X_longest [.ref 0, .int k, .int m] (emb σ) = (True, some (.int (loF σ k m)), emb σ) := by
  rw [q_X_longest, eq_true (J_s2 h)]
theorem rd_why (h : J (σ 0) cf T K S N O E b) {k m l t : Int32} : f_X_why [.ref 0, .int k, .int m, .int l, .int t] (emb σ) = (True, some (.int (wyF σ k m l t)), emb σ) := by
  rw [q_X_why, eq_true (J_s2 h)]
theorem rd_next (h : J (σ 0) cf T K S N O E b) {k l : Int32} : f_X_next [.ref 0, .int k, .int l] (emb σ) = (True, some (.int (neF σ k l)), emb σ) := by
  rw [q_X_next, eq_true (J_s0 h)]
theorem rd_dearest (h : J (σ 0) cf T K S N O E b) {m : Int32} : f_X_dearest [.ref 0, .int m] (emb σ) = (True, some (.int (drF σ m)), emb σ) := by
  rw [q_X_dearest, eq_true (⟨J_s1 h, J_s2 h⟩ : sm (σ 0 8 1) 16 ∧ sm (σ 0 8 2) 10)]
theorem rd_flyable (h : J (σ 0) cf T K S N O E b) {x : Int32} : f_X_flyable [.ref 0, .int x] (emb σ) = (True, some (.int (fyF σ x)), emb σ) := by
  rw [q_X_flyable, eq_true (J_s1 h)]
theorem rk_0 (h : J (σ 0) cf T K S N O E b) {k : Nat} (hk : k < K) : f_X_kiteOf [.ref 0, .int (oN k), .int 0] (emb σ) = (True, some (.int (σ 0 2 (k * 8 + 0))), emb σ) := rd_kite (c := 0) h hk (by decide)
theorem rk_1 (h : J (σ 0) cf T K S N O E b) {k : Nat} (hk : k < K) : f_X_kiteOf [.ref 0, .int (oN k), .int 1] (emb σ) = (True, some (.int (σ 0 2 (k * 8 + 1))), emb σ) := rd_kite (c := 1) h hk (by decide)
theorem rk_2 (h : J (σ 0) cf T K S N O E b) {k : Nat} (hk : k < K) : f_X_kiteOf [.ref 0, .int (oN k), .int 2] (emb σ) = (True, some (.int (σ 0 2 (k * 8 + 2))), emb σ) := rd_kite (c := 2) h hk (by decide)
theorem rk_3 (h : J (σ 0) cf T K S N O E b) {k : Nat} (hk : k < K) : f_X_kiteOf [.ref 0, .int (oN k), .int 3] (emb σ) = (True, some (.int (σ 0 2 (k * 8 + 3))), emb σ) := rd_kite (c := 3) h hk (by decide)
theorem rk_4 (h : J (σ 0) cf T K S N O E b) {k : Nat} (hk : k < K) : f_X_kiteOf [.ref 0, .int (oN k), .int 4] (emb σ) = (True, some (.int (σ 0 2 (k * 8 + 4))), emb σ) := rd_kite (c := 4) h hk (by decide)
theorem rk_7 (h : J (σ 0) cf T K S N O E b) {k : Nat} (hk : k < K) : f_X_kiteOf [.ref 0, .int (oN k), .int 7] (emb σ) = (True, some (.int (σ 0 2 (k * 8 + 7))), emb σ) := rd_kite (c := 7) h hk (by decide)
theorem rs_0 (h : J (σ 0) cf T K S N O E b) {s : Nat} (hs : s < S) : f_X_spoolOf [.ref 0, .int (oN s), .int 0] (emb σ) = (True, some (.int (σ 0 3 (s * 4 + 0))), emb σ) := rd_spool (c := 0) h hs (by decide)
theorem rs_1 (h : J (σ 0) cf T K S N O E b) {s : Nat} (hs : s < S) : f_X_spoolOf [.ref 0, .int (oN s), .int 1] (emb σ) = (True, some (.int (σ 0 3 (s * 4 + 1))), emb σ) := rd_spool (c := 1) h hs (by decide)
theorem rs_2 (h : J (σ 0) cf T K S N O E b) {s : Nat} (hs : s < S) : f_X_spoolOf [.ref 0, .int (oN s), .int 2] (emb σ) = (True, some (.int (σ 0 3 (s * 4 + 2))), emb σ) := rd_spool (c := 2) h hs (by decide)
theorem rs_3 (h : J (σ 0) cf T K S N O E b) {s : Nat} (hs : s < S) : f_X_spoolOf [.ref 0, .int (oN s), .int 3] (emb σ) = (True, some (.int (σ 0 3 (s * 4 + 3))), emb σ) := rd_spool (c := 3) h hs (by decide)
theorem rt_0 {d : Nat} (hd : d < 6) : f_X_tailsOf [.ref 0, .int (oN d), .int 0] (emb σ) = (True, some (.int (σ 0 4 (d * 3 + 0))), emb σ) := rd_tails (c := 0) hd (by decide)
theorem rt_1 {d : Nat} (hd : d < 6) : f_X_tailsOf [.ref 0, .int (oN d), .int 1] (emb σ) = (True, some (.int (σ 0 4 (d * 3 + 1))), emb σ) := rd_tails (c := 1) hd (by decide)
theorem rt_2 {d : Nat} (hd : d < 6) : f_X_tailsOf [.ref 0, .int (oN d), .int 2] (emb σ) = (True, some (.int (σ 0 4 (d * 3 + 2))), emb σ) := rd_tails (c := 2) hd (by decide)
theorem rh_0 (h : J (σ 0) cf T K S N O E b) {P : Nat} {x : Int32} (hP : P < O) (hx : σ 0 5 (P * 7 + 6) = x) : f_X_hireOf [.ref 0, .int x, .int 0] (emb σ) = (True, some (.int (σ 0 5 (P * 7 + 0))), emb σ) := rd_hire (c := 0) h hP hx (by decide)
theorem rh_1 (h : J (σ 0) cf T K S N O E b) {P : Nat} {x : Int32} (hP : P < O) (hx : σ 0 5 (P * 7 + 6) = x) : f_X_hireOf [.ref 0, .int x, .int 1] (emb σ) = (True, some (.int (σ 0 5 (P * 7 + 1))), emb σ) := rd_hire (c := 1) h hP hx (by decide)
theorem rh_2 (h : J (σ 0) cf T K S N O E b) {P : Nat} {x : Int32} (hP : P < O) (hx : σ 0 5 (P * 7 + 6) = x) : f_X_hireOf [.ref 0, .int x, .int 2] (emb σ) = (True, some (.int (σ 0 5 (P * 7 + 2))), emb σ) := rd_hire (c := 2) h hP hx (by decide)
theorem rh_3 (h : J (σ 0) cf T K S N O E b) {P : Nat} {x : Int32} (hP : P < O) (hx : σ 0 5 (P * 7 + 6) = x) : f_X_hireOf [.ref 0, .int x, .int 3] (emb σ) = (True, some (.int (σ 0 5 (P * 7 + 3))), emb σ) := rd_hire (c := 3) h hP hx (by decide)
theorem rh_4 (h : J (σ 0) cf T K S N O E b) {P : Nat} {x : Int32} (hP : P < O) (hx : σ 0 5 (P * 7 + 6) = x) : f_X_hireOf [.ref 0, .int x, .int 4] (emb σ) = (True, some (.int (σ 0 5 (P * 7 + 4))), emb σ) := rd_hire (c := 4) h hP hx (by decide)
theorem rh_5 (h : J (σ 0) cf T K S N O E b) {P : Nat} {x : Int32} (hP : P < O) (hx : σ 0 5 (P * 7 + 6) = x) : f_X_hireOf [.ref 0, .int x, .int 5] (emb σ) = (True, some (.int (σ 0 5 (P * 7 + 5))), emb σ) := rd_hire (c := 5) h hP hx (by decide)
end RD
