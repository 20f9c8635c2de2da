/-! THE LAW: all that is told goes together -/
def sp_L_holds : Nat → Sp := spL [(84, f_X_count), (68, f_X_tailsOf), (69, f_X_hireOf), (96, f_L_isHire), (70, f_X_windOf), (67, f_X_kiteOf), (95, f_L_low), (98, f_L_isKite), (63, f_X_spoolOf), (86, f_X_flyable), (58, f_X_perHour)]
theorem sp_L_holds_X_count : sp_L_holds 84 = f_X_count := rfl
theorem sp_L_holds_X_tailsOf : sp_L_holds 68 = f_X_tailsOf := rfl
theorem sp_L_holds_X_hireOf : sp_L_holds 69 = f_X_hireOf := rfl
theorem sp_L_holds_L_isHire : sp_L_holds 96 = f_L_isHire := rfl
theorem sp_L_holds_X_windOf : sp_L_holds 70 = f_X_windOf := rfl
theorem sp_L_holds_X_kiteOf : sp_L_holds 67 = f_X_kiteOf := rfl
theorem sp_L_holds_L_low : sp_L_holds 95 = f_L_low := rfl
theorem sp_L_holds_L_isKite : sp_L_holds 98 = f_L_isKite := rfl
theorem sp_L_holds_X_spoolOf : sp_L_holds 63 = f_X_spoolOf := rfl
theorem sp_L_holds_X_flyable : sp_L_holds 86 = f_X_flyable := rfl
theorem sp_L_holds_X_perHour : sp_L_holds 58 = f_X_perHour := rfl
theorem sp_L_holds_ok : ∀ z, SpecOK z (sp_L_holds z) := spL_ok (List.forall_mem_cons.mpr ⟨ok_X_count, (List.forall_mem_cons.mpr ⟨ok_X_tailsOf, (List.forall_mem_cons.mpr ⟨ok_X_hireOf, (List.forall_mem_cons.mpr ⟨ok_L_isHire, (List.forall_mem_cons.mpr ⟨ok_X_windOf, (List.forall_mem_cons.mpr ⟨ok_X_kiteOf, (List.forall_mem_cons.mpr ⟨ok_L_low, (List.forall_mem_cons.mpr ⟨ok_L_isKite, (List.forall_mem_cons.mpr ⟨ok_X_spoolOf, (List.forall_mem_cons.mpr ⟨ok_X_flyable, (List.forall_mem_cons.mpr ⟨ok_X_perHour, (fun q h => absurd h List.not_mem_nil)⟩)⟩)⟩)⟩)⟩)⟩)⟩)⟩)⟩)⟩)⟩)
theorem iin_c {c n : Nat} (h : c < n) (hn : n < 2 ^ 31) : iin (oN c) n = True := iin_of (by rw [oN_nn (by omega)]; exact id) (by show oN c < oN n; rw [oN_lt (by omega) hn]; exact h) hn
theorem ph_self {a b : Int32} (h : b ≠ 0) : Op.cmpValue (FP.dcmp (FP.ddiv (FP.i2d a) (FP.i2d b)) (FP.ddiv (FP.i2d a) (FP.i2d b))) .l = 0 := by
  have h1 : Jvm.FP.Core.dIsNaN (FP.ddiv (FP.i2d a) (FP.i2d b)) = false := by
    refine Jvm.FP.Core.ddiv_out (Jvm.FP.Core.DFin.notNaN (Jvm.FP.Core.i2d_fin a)) (Jvm.FP.Core.i2d_fin b) ?_
    rw [Jvm.FP.Core.zero_bits2]
    exact Jvm.FP.Core.i2d_ne_zero h
  have h2 : FP.dcmp (FP.ddiv (FP.i2d a) (FP.i2d b)) (FP.ddiv (FP.i2d a) (FP.i2d b)) = some .eq := Jvm.FP.Core.dcmp_self ((Jvm.FP.Core.notNaN_iff _).mp h1)
  rw [h2]
  rfl
theorem ph_zero : Op.cmpValue (FP.dcmp FP.dconst0 FP.dconst0) .l = 0 := by decide +kernel
/-- 1 for a number of one of the first j rows -/
def hcf (w : HV) (j k : Nat) : Int32 := if exF (fun r => decide (w 5 (r * 7 + 6) = oN k)) 0 j = true then 1 else 0
theorem ctF_offB {f g : Nat → Int32} {v : Int32} {s : Nat} (hf : f s = v) (hg : g s ≠ v) : ∀ n, (∀ r, r ≠ s → r < n → f r = g r) → s < n → ctF g v n + 1 = ctF f v n := by
  intro n
  induction n with
  | zero => intro _ h; omega
  | succ n ih =>
    intro h hs
    unfold ctF
    by_cases e : s = n
    · subst e
      rw [if_neg hg, if_pos hf, ctF_c (f := f) (g := g) s (fun r hr => h r (by omega) (by omega))]
    · have := ih (fun r h1 h2 => h r h1 (by omega)) (by omega)
      rw [h n (fun q => e q.symm) (by omega)]
      omega
theorem hcf_J {w : HV} {T K S N O E b : Nat} (i : Ivt w T K S N O E b 100) : ∀ j, j ≤ O → ctF (hcf w j) 1 N = j := by
  obtain ⟨hO, hE, hS⟩ := Ivt_O i
  have hN : N ≤ 200 := i.2.1.2.2.2.1
  intro j
  induction j with
  | zero =>
    intro _
    have : ∀ n, ctF (hcf w 0) 1 n = 0 := by
      intro n
      induction n with
      | zero => rfl
      | succ n ih =>
        unfold ctF
        rw [ih, show hcf w 0 n = 0 from rfl, if_neg (by decide)]
    exact this N
  | succ j ih =>
    intro hj
    have ih := ih (by omega)
    obtain ⟨k, s, n, p1, p2, p3, p4, p5, p6, -⟩ := i.2.2.2.1 j (by omega)
    have iff1 : ∀ q k, exF (fun r => decide (w 5 (r * 7 + 6) = oN k)) 0 q = true ↔ ∃ r, r < q ∧ w 5 (r * 7 + 6) = oN k := by
      intro q k
      rw [exF_iff]
      constructor
      · rintro ⟨r, -, h1, h2⟩
        exact ⟨r, by omega, of_decide_eq_true h2⟩
      · rintro ⟨r, h1, h2⟩
        exact ⟨r, Nat.zero_le _, by omega, decide_eq_true h2⟩
    have h1 := ctF_offB (f := hcf w (j + 1)) (g := hcf w j) (v := 1) (s := n) (by
      unfold hcf
      rw [if_pos ((iff1 _ _).mpr ⟨j, by omega, p6⟩)]) (by
      unfold hcf
      rw [if_neg (fun q => ?_)]
      · decide
      · obtain ⟨r, r1, r2⟩ := (iff1 _ _).mp q
        have := i.2.2.2.2.1 r (by omega) j (by omega) (r2.trans p6.symm)
        omega) N (fun r hr hrN => by
      unfold hcf
      by_cases e : exF (fun q => decide (w 5 (q * 7 + 6) = oN r)) 0 j = true
      · obtain ⟨y, y1, y2⟩ := (iff1 _ _).mp e
        rw [if_pos e, if_pos ((iff1 _ _).mpr ⟨y, by omega, y2⟩)]
      · rw [if_neg e, if_neg (fun q => ?_)]
        obtain ⟨y, y1, y2⟩ := (iff1 _ _).mp q
        by_cases ey : y = j
        · subst ey
          rw [p6] at y2
          exact hr (oN_inj (by omega) (by omega) y2).symm
        · exact e ((iff1 _ _).mpr ⟨y, by omega, y2⟩)) p3
    omega
section HOLDS
variable {sc : Nat × (Nat → Int32)} {σ : SG} {T K S N O E b : Nat} {x : Int32} {Q : Option Value → MS → Prop}
set_option maxHeartbeats 1000000 in
set_option maxRecDepth 20000 in
theorem lp_L_holds_E (h : J (σ 0) (σ 8 0) T K S N O E b) {v7 v8 v9 : Value} {kv : Int32} (hk : T < 1000 → flF (σ 0) (oN T) 0 K 0 = kv) (hQ : Q (some (.int 1)) (emb σ)) : Vf 99 sp_L_holds ((127, SLT), sc) 416 [.ref 0, .ref 126, .int x, .int (oN O), .int (suF (fun s => σ 0 3 (s * 4 + 0)) 0 S 0), .int kv, .int 1, v7, v8, v9] [] (emb σ) Q := by
  have hb := J_bd h
  have h10 : ((1 : Int32) = 0) = False := eq_false (by decide)
  have key : Vf 99 sp_L_holds ((127, SLT), sc) 467 [.ref 0, .ref 126, .int x, .int (oN O), .int (suF (fun s => σ 0 3 (s * 4 + 0)) 0 S 0), .int kv, .int 1, v7, v8, v9] [] (emb σ) Q := by
    have hsm : sm (σ 0 8 7) b := h.1.1.2.2.2.2.2.2
    by_cases h0 : σ 0 8 7 = 0
    · have e1 : phD (σ 0) = FP.dconst0 := by
        unfold phD
        rw [h0, if_neg (by decide)]
      have h0t : (σ 0 8 7 = 0) = True := eq_true h0
      simp only [rL_holds_467, rL_holds_468, rL_holds_471, rL_holds_472, rL_holds_474, rL_holds_476, rL_holds_479, rL_holds_480, rL_holds_483, rL_holds_484, rL_holds_486, rL_holds_489, rL_holds_492, rL_holds_493, rL_holds_496, rL_holds_497, rL_holds_499, rL_holds_502, rL_holds_503, rL_holds_504, rL_holds_506, rL_holds_509, rL_holds_510, rL_holds_511, rL_holds_512, rL_holds_515, rL_holds_516, rL_holds_519, rL_holds_520, ct1_i, ct1_r, ct1_n, true_and, and_true, tl_s, tl_n, le4_0, le4_1, le4_2, le4_3, le4_4, le4_5, isO_r, cl_, emb1, emb2, le_rN, sp_L_holds_X_count, sp_L_holds_X_tailsOf, sp_L_holds_X_hireOf, sp_L_holds_L_isHire, sp_L_holds_X_windOf, sp_L_holds_X_kiteOf, sp_L_holds_L_low, sp_L_holds_L_isKite, sp_L_holds_X_spoolOf, sp_L_holds_X_flyable, sp_L_holds_X_perHour, obX, ct_14 h, ct_11 h, q_X_perHour, e1, h0t, ph_zero, h10, rb_1, if_true, if_false]
      exact hQ
    · have e1 : phD (σ 0) = FP.ddiv (FP.i2d (σ 0 8 6)) (FP.i2d (σ 0 8 7)) := by
        unfold phD
        rw [if_pos]
        rw [Int32.lt_iff_toInt_lt]
        have h1 := hsm.1
        rw [Int32.lt_iff_toInt_lt] at h1
        have h2 : (0 : Int32).toInt = 0 := rfl
        have h3 : (σ 0 8 7).toInt ≠ 0 := fun z => h0 (Int32.toInt_inj.mp (z.trans h2.symm))
        omega
      have h0f : (σ 0 8 7 = 0) = False := eq_false h0
      have hn := eq_true (n64_q (a := σ 0 8 6) h0)
      simp only [rL_holds_467, rL_holds_468, rL_holds_471, rL_holds_472, rL_holds_474, rL_holds_476, rL_holds_479, rL_holds_480, rL_holds_483, rL_holds_484, rL_holds_486, rL_holds_489, rL_holds_492, rL_holds_493, rL_holds_496, rL_holds_497, rL_holds_499, rL_holds_502, rL_holds_503, rL_holds_504, rL_holds_506, rL_holds_509, rL_holds_510, rL_holds_511, rL_holds_512, rL_holds_515, rL_holds_516, rL_holds_519, rL_holds_520, ct1_i, ct1_r, ct1_n, true_and, and_true, tl_s, tl_n, le4_0, le4_1, le4_2, le4_3, le4_4, le4_5, isO_r, cl_, emb1, emb2, le_rN, sp_L_holds_X_count, sp_L_holds_X_tailsOf, sp_L_holds_X_hireOf, sp_L_holds_L_isHire, sp_L_holds_X_windOf, sp_L_holds_X_kiteOf, sp_L_holds_L_low, sp_L_holds_L_isKite, sp_L_holds_X_spoolOf, sp_L_holds_X_flyable, sp_L_holds_X_perHour, obX, ct_14 h, ct_11 h, q_X_perHour, e1, h0f, hn, ph_self h0, h10, rb_1, if_true, if_false]
      exact hQ
  by_cases hT : T = 1000
  · subst hT
    have e : (oN 1000 = 1000) = True := eq_true rfl
    simp only [rL_holds_416, rL_holds_418, rL_holds_421, rL_holds_422, rL_holds_423, rL_holds_425, rL_holds_428, rL_holds_431, rL_holds_433, rL_holds_434, rL_holds_436, rL_holds_439, rL_holds_442, rL_holds_443, rL_holds_444, rL_holds_447, rL_holds_450, rL_holds_453, rL_holds_454, rL_holds_455, rL_holds_456, rL_holds_459, rL_holds_462, rL_holds_464, ct1_i, ct1_r, ct1_n, true_and, and_true, tl_s, tl_n, le4_0, le4_1, le4_2, le4_3, le4_4, le4_5, isO_r, cl_, emb1, emb2, le_rN, sp_L_holds_X_count, sp_L_holds_X_tailsOf, sp_L_holds_X_hireOf, sp_L_holds_L_isHire, sp_L_holds_X_windOf, sp_L_holds_X_kiteOf, sp_L_holds_L_low, sp_L_holds_L_isKite, sp_L_holds_X_spoolOf, sp_L_holds_X_flyable, sp_L_holds_X_perHour, obX, ct_7 h, ct_12 h, ct_0 h, h10, e, if_true, if_false]
    exact key
  · have e : (oN T = 1000) = False := eq_false (fun z => hT (oN_inj (b := 1000) (by omega) (by decide) z))
    have e2 : fyF σ (oN T) = kv := by
      rw [← hk (by omega)]
      unfold fyF
      rw [if_pos (wi_o (K := 999) (c := 999) rfl (by decide) (by omega)), J_81 h, oN_nat (by omega)]
    simp only [rL_holds_416, rL_holds_418, rL_holds_421, rL_holds_422, rL_holds_423, rL_holds_425, rL_holds_428, rL_holds_431, rL_holds_433, rL_holds_434, rL_holds_436, rL_holds_439, rL_holds_442, rL_holds_443, rL_holds_444, rL_holds_447, rL_holds_450, rL_holds_453, rL_holds_454, rL_holds_455, rL_holds_456, rL_holds_459, rL_holds_462, rL_holds_464, ct1_i, ct1_r, ct1_n, true_and, and_true, tl_s, tl_n, le4_0, le4_1, le4_2, le4_3, le4_4, le4_5, isO_r, cl_, emb1, emb2, le_rN, sp_L_holds_X_count, sp_L_holds_X_tailsOf, sp_L_holds_X_hireOf, sp_L_holds_L_isHire, sp_L_holds_X_windOf, sp_L_holds_X_kiteOf, sp_L_holds_L_low, sp_L_holds_L_isKite, sp_L_holds_X_spoolOf, sp_L_holds_X_flyable, sp_L_holds_X_perHour, obX, ct_7 h, ct_12 h, ct_0 h, rd_flyable h, e2, h10, e, if_true, if_false]
    exact key
set_option maxHeartbeats 1000000 in
set_option maxRecDepth 20000 in
theorem lp_L_holds_5 (h : J (σ 0) (σ 8 0) T K S N O E b) {v8 v9 : Value} {kv : Int32} (hk : T < 1000 → flF (σ 0) (oN T) 0 K 0 = kv) (hQ : Q (some (.int 1)) (emb σ)) : ∀ (m n : Nat), n + m = S → Vf 99 sp_L_holds ((127, SLT), sc) 356 [.ref 0, .ref 126, .int x, .int (oN O), .int (suF (fun s => σ 0 3 (s * 4 + 0)) 0 n 0), .int kv, .int 1, .int (oN n), v8, v9] [] (emb σ) Q := by
  have hb := J_bd h
  have h10 : ((1 : Int32) = 0) = False := eq_false (by decide)
  intro m
  induction m with
  | zero =>
    intro n hn
    have : n = S := by omega
    subst this
    have hlt : (oN n < oN n) = False := eq_false (by rw [oN_lt (by omega) (by omega)]; omega)
    rw [rL_holds_356]
    simp only [rL_holds_358, rL_holds_359, rL_holds_360, rL_holds_363, ct1_i, ct1_r, ct1_n, true_and, and_true, tl_s, tl_n, le4_0, le4_1, le4_2, le4_3, le4_4, le4_5, isO_r, cl_, emb1, emb2, le_rN, sp_L_holds_X_count, sp_L_holds_X_tailsOf, sp_L_holds_X_hireOf, sp_L_holds_L_isHire, sp_L_holds_X_windOf, sp_L_holds_X_kiteOf, sp_L_holds_L_low, sp_L_holds_L_isKite, sp_L_holds_X_spoolOf, sp_L_holds_X_flyable, sp_L_holds_X_perHour, obX, ct_5 h, hlt, if_false]
    exact lp_L_holds_E h hk hQ
  | succ m ih =>
    intro n hn
    have hlt : (oN n < oN S) = True := eq_true (by rw [oN_lt (by omega) (by omega)]; omega)
    have hl := h.2.1.2.2.2.2.1 n (by omega)
    have n1 : (σ 0 3 (n * 4 + 0) < 0) = False := eq_false hl.1.1
    have n2 : (σ 0 3 (n * 4 + 1) < 0) = False := eq_false hl.2.1
    have es : suF (fun s => σ 0 3 (s * 4 + 0)) 0 n 0 + σ 0 3 (n * 4 + 0) = suF (fun s => σ 0 3 (s * 4 + 0)) 0 (n + 1) 0 := by
      rw [suF_s, Nat.zero_add]
    rw [rL_holds_356]
    simp only [rL_holds_358, rL_holds_359, rL_holds_360, rL_holds_363, rL_holds_366, rL_holds_368, rL_holds_371, rL_holds_373, rL_holds_374, rL_holds_376, rL_holds_377, rL_holds_380, rL_holds_381, rL_holds_383, rL_holds_384, rL_holds_386, rL_holds_387, rL_holds_390, rL_holds_393, rL_holds_394, rL_holds_396, rL_holds_397, rL_holds_400, rL_holds_403, rL_holds_404, rL_holds_407, rL_holds_408, rL_holds_410, rL_holds_413, ct1_i, ct1_r, ct1_n, true_and, and_true, tl_s, tl_n, le4_0, le4_1, le4_2, le4_3, le4_4, le4_5, isO_r, cl_, emb1, emb2, le_rN, sp_L_holds_X_count, sp_L_holds_X_tailsOf, sp_L_holds_X_hireOf, sp_L_holds_L_isHire, sp_L_holds_X_windOf, sp_L_holds_X_kiteOf, sp_L_holds_L_low, sp_L_holds_L_isKite, sp_L_holds_X_spoolOf, sp_L_holds_X_flyable, sp_L_holds_X_perHour, obX, ct_5 h, rs_0 h (show n < S by omega), rs_1 h (show n < S by omega), hlt, n1, n2, h10, es, oN_succ, if_true, if_false]
    exact ih (n + 1) (by omega)
set_option maxHeartbeats 1000000 in
set_option maxRecDepth 20000 in
theorem lp_L_holds_4 (h : J (σ 0) (σ 8 0) T K S N O E b) (hQ : Q (some (.int 1)) (emb σ)) : ∀ (m n : Nat) (kv : Int32) (v8 v9 : Value), n + m = K → (T < 1000 → flF (σ 0) (oN T) n m kv = flF (σ 0) (oN T) 0 K 0) → Vf 99 sp_L_holds ((127, SLT), sc) 220 [.ref 0, .ref 126, .int x, .int (oN O), .int 0, .int kv, .int 1, .int (oN n), v8, v9] [] (emb σ) Q := by
  have hb := J_bd h
  have h10 : ((1 : Int32) = 0) = False := eq_false (by decide)
  intro m
  induction m with
  | zero =>
    intro n kv v8 v9 hn hk
    have : n = K := by omega
    subst this
    have hlt : (oN n < oN n) = False := eq_false (by rw [oN_lt (by omega) (by omega)]; omega)
    rw [rL_holds_220]
    simp only [rL_holds_222, rL_holds_223, rL_holds_224, rL_holds_227, rL_holds_353, rL_holds_354, ct1_i, ct1_r, ct1_n, true_and, and_true, tl_s, tl_n, le4_0, le4_1, le4_2, le4_3, le4_4, le4_5, isO_r, cl_, emb1, emb2, le_rN, sp_L_holds_X_count, sp_L_holds_X_tailsOf, sp_L_holds_X_hireOf, sp_L_holds_L_isHire, sp_L_holds_X_windOf, sp_L_holds_X_kiteOf, sp_L_holds_L_low, sp_L_holds_L_isKite, sp_L_holds_X_spoolOf, sp_L_holds_X_flyable, sp_L_holds_X_perHour, obX, ct_1 h, hlt, if_false]
    exact lp_L_holds_5 h (fun hT => (hk hT).symm) hQ S 0 (Nat.zero_add _)
  | succ m ih =>
    intro n kv v8 v9 hn hk
    have hlt : (oN n < oN K) = True := eq_true (by rw [oN_lt (by omega) (by omega)]; omega)
    obtain ⟨y, hy, ey⟩ := lowF_n x (n := 80) (by decide) (by decide)
    have e80 : 1 + lowF x 80 = oN (1 + y) := by
      rw [show lowF x 80 = oN y from ey]
      exact oN_add 1 y
    have hkit : f_L_isKite [.ref 0, .int (oN n), .int (oN (1 + y))] (emb σ) = (True, some (.int 1), emb σ) := by
      have hp : KitP σ (oN n) (oN (1 + y)) := ⟨T, K, S, N, O, E, b, h, n, 1 + y, by omega, rfl, by omega, by omega, rfl⟩
      rw [q_L_isKite, eq_true hp]
    have go : ∀ can : Int32, ∀ wv : Value, (can = 0 ∨ can = 1) → (T < 1000 → (can = 1 ↔ (kt (σ 0) (oN n) 0 = 0 ∧ (¬ tooWP (σ 0) (oN n) (oN T) ∧ ¬ tooCP (σ 0) (oN n) (oN T))))) → Vf 99 sp_L_holds ((127, SLT), sc) 311 [.ref 0, .ref 126, .int x, .int (oN O), .int 0, .int kv, .int 1, .int (oN n), wv, v9] [.int can] (emb σ) Q ∨ ¬ ct1 wv := by
      intro can wv hc hcan
      by_cases hct : ct1 wv
      case neg => exact Or.inr hct
      left
      have hctt := eq_true hct
      have hstep : flF (σ 0) (oN T) n (m + 1) kv = flF (σ 0) (oN T) (n + 1) m (if kt (σ 0) (oN n) 0 = 0 ∧ (¬ tooWP (σ 0) (oN n) (oN T) ∧ ¬ tooCP (σ 0) (oN n) (oN T)) then kv ||| ((1 : Int32) <<< (oN n &&& 31)) else kv) := rfl
      rcases hc with hc | hc
      · subst hc
        have h00 : ((0 : Int32) = 0) = True := eq_true rfl
        simp only [rL_holds_311, rL_holds_313, rL_holds_314, rL_holds_316, rL_holds_317, rL_holds_318, rL_holds_320, rL_holds_323, rL_holds_324, rL_holds_327, rL_holds_329, rL_holds_331, rL_holds_333, rL_holds_336, rL_holds_337, rL_holds_339, rL_holds_340, rL_holds_343, rL_holds_344, rL_holds_345, rL_holds_347, rL_holds_350, ct1_i, ct1_r, ct1_n, true_and, and_true, tl_s, tl_n, le4_0, le4_1, le4_2, le4_3, le4_4, le4_5, isO_r, cl_, emb1, emb2, le_rN, sp_L_holds_X_count, sp_L_holds_X_tailsOf, sp_L_holds_X_hireOf, sp_L_holds_L_isHire, sp_L_holds_X_windOf, sp_L_holds_X_kiteOf, sp_L_holds_L_low, sp_L_holds_L_isKite, sp_L_holds_X_spoolOf, sp_L_holds_X_flyable, sp_L_holds_X_perHour, obX, q_low (show ¬ (80 : Int32) = 0 by decide), e80, hkit, hctt, h00, oN_succ, if_true, if_false]
        refine ih (n + 1) _ _ _ (by omega) (fun hT => ?_)
        rw [← hk hT, hstep, if_neg (fun q => absurd ((hcan hT).mpr q) (by decide)), Int32.or_zero]
      · subst hc
        simp only [rL_holds_311, rL_holds_313, rL_holds_314, rL_holds_316, rL_holds_317, rL_holds_318, rL_holds_320, rL_holds_323, rL_holds_324, rL_holds_327, rL_holds_329, rL_holds_331, rL_holds_333, rL_holds_336, rL_holds_337, rL_holds_339, rL_holds_340, rL_holds_343, rL_holds_344, rL_holds_345, rL_holds_347, rL_holds_350, ct1_i, ct1_r, ct1_n, true_and, and_true, tl_s, tl_n, le4_0, le4_1, le4_2, le4_3, le4_4, le4_5, isO_r, cl_, emb1, emb2, le_rN, sp_L_holds_X_count, sp_L_holds_X_tailsOf, sp_L_holds_X_hireOf, sp_L_holds_L_isHire, sp_L_holds_X_windOf, sp_L_holds_X_kiteOf, sp_L_holds_L_low, sp_L_holds_L_isKite, sp_L_holds_X_spoolOf, sp_L_holds_X_flyable, sp_L_holds_X_perHour, obX, q_low (show ¬ (80 : Int32) = 0 by decide), e80, hkit, hctt, h10, oN_succ, if_true, if_false]
        refine ih (n + 1) _ _ _ (by omega) (fun hT => ?_)
        rw [← hk hT, hstep, if_pos ((hcan hT).mp rfl)]
    have body : ∀ wv : Int32, (T < 1000 → wv = σ 0 0 T) → Vf 99 sp_L_holds ((127, SLT), sc) 259 [.ref 0, .ref 126, .int x, .int (oN O), .int 0, .int kv, .int 1, .int (oN n), v8, v9] [.int wv] (emb σ) Q := by
      intro wv hwv
      have k0 : kt (σ 0) (oN n) 0 = σ 0 2 (n * 8 + 0) := kt_0 (by omega)
      have G := fun can hc hcan => (go can (.int wv) hc hcan).resolve_right (fun z => z rfl)
      simp only [rL_holds_259, rL_holds_261, rL_holds_262, rL_holds_264, rL_holds_265, rL_holds_268, rL_holds_271, rL_holds_273, rL_holds_274, rL_holds_276, rL_holds_277, rL_holds_280, rL_holds_283, rL_holds_285, rL_holds_286, rL_holds_288, rL_holds_289, rL_holds_292, rL_holds_295, rL_holds_297, rL_holds_298, rL_holds_300, rL_holds_303, rL_holds_306, rL_holds_307, rL_holds_310, ct1_i, ct1_r, ct1_n, true_and, and_true, tl_s, tl_n, le4_0, le4_1, le4_2, le4_3, le4_4, le4_5, isO_r, cl_, emb1, emb2, le_rN, sp_L_holds_X_count, sp_L_holds_X_tailsOf, sp_L_holds_X_hireOf, sp_L_holds_L_isHire, sp_L_holds_X_windOf, sp_L_holds_X_kiteOf, sp_L_holds_L_low, sp_L_holds_L_isKite, sp_L_holds_X_spoolOf, sp_L_holds_X_flyable, sp_L_holds_X_perHour, obX, rk_0 h (show n < K by omega), rk_1 h (show n < K by omega), rk_2 h (show n < K by omega), ct_18 h]
      by_cases z0 : σ 0 2 (n * 8 + 0) = 0
      case neg =>
        rw [if_neg z0]
        exact G 0 (Or.inl rfl) (fun hT => ⟨fun q => absurd q (by decide), fun q => absurd (k0.symm.trans q.1) z0⟩)
      rw [if_pos z0]
      by_cases z1 : wv < σ 0 2 (n * 8 + 1)
      · rw [if_pos z1]
        exact G 0 (Or.inl rfl) (fun hT => ⟨fun q => absurd q (by decide), fun q => absurd ((tc_n (by omega) hT).mpr (by rw [← hwv hT]; exact z1)) q.2.2⟩)
      rw [if_neg z1]
      by_cases z2 : σ 0 2 (n * 8 + 2) < wv
      · rw [if_pos z2]
        exact G 0 (Or.inl rfl) (fun hT => ⟨fun q => absurd q (by decide), fun q => absurd ((tw_n (by omega) hT).mpr (Or.inl (by rw [← hwv hT]; exact z2))) q.2.1⟩)
      rw [if_neg z2]
      by_cases z3 : wv < σ 0 1 0
      · rw [if_pos z3]
        refine G 1 (Or.inr rfl) (fun hT => ⟨fun _ => ⟨k0.trans z0, fun q => ?_, fun q => ?_⟩, fun _ => rfl⟩)
        · rcases (tw_n (by omega) hT).mp q with q | q
          · rw [← hwv hT] at q; exact z2 q
          · rw [← hwv hT] at q; exact q z3
        · have q := (tc_n (by omega) hT).mp q
          rw [← hwv hT] at q
          exact z1 q
      · rw [if_neg z3]
        exact G 0 (Or.inl rfl) (fun hT => ⟨fun q => absurd q (by decide), fun q => absurd ((tw_n (by omega) hT).mpr (Or.inr (by rw [← hwv hT]; exact z3))) q.2.1⟩)
    rw [rL_holds_220]
    by_cases hT : T < 1000
    · have hT2 : (oN T < 1000) = True := eq_true (by show oN T < oN 1000; rw [oN_lt (by omega) (by decide)]; exact hT)
      simp only [rL_holds_222, rL_holds_223, rL_holds_224, rL_holds_227, rL_holds_230, rL_holds_232, rL_holds_235, rL_holds_236, rL_holds_237, rL_holds_240, rL_holds_243, rL_holds_246, rL_holds_247, rL_holds_248, rL_holds_249, rL_holds_252, rL_holds_255, rL_holds_258, ct1_i, ct1_r, ct1_n, true_and, and_true, tl_s, tl_n, le4_0, le4_1, le4_2, le4_3, le4_4, le4_5, isO_r, cl_, emb1, emb2, le_rN, sp_L_holds_X_count, sp_L_holds_X_tailsOf, sp_L_holds_X_hireOf, sp_L_holds_L_isHire, sp_L_holds_X_windOf, sp_L_holds_X_kiteOf, sp_L_holds_L_low, sp_L_holds_L_isKite, sp_L_holds_X_spoolOf, sp_L_holds_X_flyable, sp_L_holds_X_perHour, obX, ct_1 h, ct_0 h, rd_wind (σ := σ) hT, hlt, hT2, h10, if_true, if_false]
      exact body _ (fun _ => rfl)
    · have hT2 : (oN T < 1000) = False := eq_false (by show ¬ oN T < oN 1000; rw [oN_lt (by omega) (by decide)]; exact hT)
      simp only [rL_holds_222, rL_holds_223, rL_holds_224, rL_holds_227, rL_holds_230, rL_holds_232, rL_holds_235, rL_holds_236, rL_holds_237, rL_holds_240, rL_holds_243, rL_holds_246, rL_holds_247, rL_holds_248, rL_holds_249, rL_holds_252, rL_holds_255, rL_holds_258, ct1_i, ct1_r, ct1_n, true_and, and_true, tl_s, tl_n, le4_0, le4_1, le4_2, le4_3, le4_4, le4_5, isO_r, cl_, emb1, emb2, le_rN, sp_L_holds_X_count, sp_L_holds_X_tailsOf, sp_L_holds_X_hireOf, sp_L_holds_L_isHire, sp_L_holds_X_windOf, sp_L_holds_X_kiteOf, sp_L_holds_L_low, sp_L_holds_L_isKite, sp_L_holds_X_spoolOf, sp_L_holds_X_flyable, sp_L_holds_X_perHour, obX, ct_1 h, ct_0 h, hlt, hT2, h10, if_true, if_false]
      exact body _ (fun q => absurd q hT)
set_option maxHeartbeats 1000000 in
set_option maxRecDepth 20000 in
theorem lp_L_holds_3 (h : J (σ 0) (σ 8 0) T K S N O E b) (hQ : Q (some (.int 1)) (emb σ)) : ∀ (m n : Nat), n + m = N → Vf 99 sp_L_holds ((127, SLT), sc) 173 [.ref 0, .ref 126, .int x, .int (oN (ctF (hcf (σ 0) O) 1 n)), .int 0, .int 0, .int 1, .int (oN n), .null, .null] [] (emb σ) Q := by
  have hb := J_bd h
  have h10 : ((1 : Int32) = 0) = False := eq_false (by decide)
  intro m
  induction m with
  | zero =>
    intro n hn
    have : n = N := by omega
    subst this
    have hlt : (oN n < oN n) = False := eq_false (by rw [oN_lt (by omega) (by omega)]; omega)
    rw [hcf_J h.1 O (Nat.le_refl _), rL_holds_173]
    simp only [rL_holds_175, rL_holds_176, rL_holds_178, rL_holds_181, rL_holds_217, rL_holds_218, ct1_i, ct1_r, ct1_n, true_and, and_true, tl_s, tl_n, le4_0, le4_1, le4_2, le4_3, le4_4, le4_5, isO_r, cl_, emb1, emb2, le_rN, sp_L_holds_X_count, sp_L_holds_X_tailsOf, sp_L_holds_X_hireOf, sp_L_holds_L_isHire, sp_L_holds_X_windOf, sp_L_holds_X_kiteOf, sp_L_holds_L_low, sp_L_holds_L_isKite, sp_L_holds_X_spoolOf, sp_L_holds_X_flyable, sp_L_holds_X_perHour, obX, ct_6 h, hlt, if_false]
    exact lp_L_holds_4 h hQ K 0 0 .null .null (Nat.zero_add _) (fun _ => rfl)
  | succ m ih =>
    intro n hn
    have hlt : (oN n < oN N) = True := eq_true (by rw [oN_lt (by omega) (by omega)]; omega)
    have hcs : ctF (hcf (σ 0) O) 1 (n + 1) = ctF (hcf (σ 0) O) 1 n + (if hcf (σ 0) O n = 1 then 1 else 0) := rfl
    have iff1 : exF (fun r => decide (σ 0 5 (r * 7 + 6) = oN n)) 0 O = true ↔ ∃ r, r < O ∧ σ 0 5 (r * 7 + 6) = oN n := by
      rw [exF_iff]
      constructor
      · rintro ⟨r, -, h1, h2⟩
        exact ⟨r, by omega, of_decide_eq_true h2⟩
      · rintro ⟨r, h1, h2⟩
        exact ⟨r, Nat.zero_le _, by omega, decide_eq_true h2⟩
    rw [rL_holds_173]
    by_cases hr : ∃ r, r < O ∧ σ 0 5 (r * 7 + 6) = oN n
    · obtain ⟨P, hP, hx⟩ := hr
      obtain ⟨k, s, n', p1, p2, p3, p4, -⟩ := h.1.2.2.2.1 P hP
      have nk : (oN k = -1) = False := eq_false (fun q => by
        have h1 := congrArg Int32.toInt q
        rw [oN_toInt (by omega)] at h1
        have h2 : (-1 : Int32).toInt = -1 := rfl
        omega)
      have hih : f_L_isHire [.ref 0, .int (oN n)] (emb σ) = (True, some (.int 1), emb σ) := by
        have hp : HirP σ (oN n) := ⟨T, K, S, N, O, E, b, h, P, hP, hx⟩
        rw [q_L_isHire, eq_true hp]
      have e1 : hcf (σ 0) O n = 1 := by
        unfold hcf
        rw [if_pos (iff1.mpr ⟨P, hP, hx⟩)]
      have hgo := ih (n + 1) (by omega)
      rw [hcs, e1, if_pos rfl] at hgo
      simp only [rL_holds_175, rL_holds_176, rL_holds_178, rL_holds_181, rL_holds_184, rL_holds_186, rL_holds_189, rL_holds_190, rL_holds_192, rL_holds_193, rL_holds_196, rL_holds_197, rL_holds_200, rL_holds_201, rL_holds_203, rL_holds_206, rL_holds_208, rL_holds_211, rL_holds_214, ct1_i, ct1_r, ct1_n, true_and, and_true, tl_s, tl_n, le4_0, le4_1, le4_2, le4_3, le4_4, le4_5, isO_r, cl_, emb1, emb2, le_rN, sp_L_holds_X_count, sp_L_holds_X_tailsOf, sp_L_holds_X_hireOf, sp_L_holds_L_isHire, sp_L_holds_X_windOf, sp_L_holds_X_kiteOf, sp_L_holds_L_low, sp_L_holds_L_isKite, sp_L_holds_X_spoolOf, sp_L_holds_X_flyable, sp_L_holds_X_perHour, obX, ct_6 h, rh_0 h hP hx, p4, nk, hih, hlt, h10, oN_succ, if_true, if_false]
      exact hgo
    · have hno : ∀ r, r < O → σ 0 5 (r * 7 + 6) ≠ oN n := fun r h1 h2 => hr ⟨r, h1, h2⟩
      have e1 : ¬ hcf (σ 0) O n = 1 := by
        unfold hcf
        rw [if_neg (fun q => hr (iff1.mp q))]
        decide
      have hgo := ih (n + 1) (by omega)
      rw [hcs, if_neg e1, Nat.add_zero] at hgo
      have m1 : ((-1 : Int32) = -1) = True := eq_true rfl
      simp only [rL_holds_175, rL_holds_176, rL_holds_178, rL_holds_181, rL_holds_184, rL_holds_186, rL_holds_189, rL_holds_190, rL_holds_192, rL_holds_193, rL_holds_196, rL_holds_197, rL_holds_200, rL_holds_201, rL_holds_203, rL_holds_206, rL_holds_208, rL_holds_211, rL_holds_214, ct1_i, ct1_r, ct1_n, true_and, and_true, tl_s, tl_n, le4_0, le4_1, le4_2, le4_3, le4_4, le4_5, isO_r, cl_, emb1, emb2, le_rN, sp_L_holds_X_count, sp_L_holds_X_tailsOf, sp_L_holds_X_hireOf, sp_L_holds_L_isHire, sp_L_holds_X_windOf, sp_L_holds_X_kiteOf, sp_L_holds_L_low, sp_L_holds_L_isKite, sp_L_holds_X_spoolOf, sp_L_holds_X_flyable, sp_L_holds_X_perHour, obX, ct_6 h, rd_hireN h hno, m1, hlt, h10, oN_succ, if_true, if_false]
      exact hgo
set_option maxHeartbeats 1000000 in
set_option maxRecDepth 20000 in
theorem lp_L_holds_2 (h : J (σ 0) (σ 8 0) T K S N O E b) (hQ : Q (some (.int 1)) (emb σ)) : ∀ (m n : Nat), n + m = 6 → Vf 99 sp_L_holds ((127, SLT), sc) 113 [.ref 0, .ref 126, .int x, .int 0, .int 0, .int 0, .int 1, .int (oN n), .null, .null] [] (emb σ) Q := by
  have hb := J_bd h
  have h10 : ((1 : Int32) = 0) = False := eq_false (by decide)
  intro m
  induction m with
  | zero =>
    intro n hn
    have : n = 6 := by omega
    subst this
    have hlt : (oN 6 < 6) = False := eq_false (by decide)
    rw [rL_holds_113]
    simp only [rL_holds_115, rL_holds_117, rL_holds_170, rL_holds_171, ct1_i, ct1_r, ct1_n, true_and, and_true, tl_s, tl_n, le4_0, le4_1, le4_2, le4_3, le4_4, le4_5, isO_r, hlt, if_false]
    exact lp_L_holds_3 h hQ N 0 (Nat.zero_add _)
  | succ m ih =>
    intro n hn
    have hlt : (oN n < 6) = True := eq_true (by show oN n < oN 6; rw [oN_lt (by omega) (by decide)]; omega)
    have hn6 : n < 6 := by omega
    have et : σ 0 4 (n * 3 + 0) + σ 0 4 (n * 3 + 1) + σ 0 4 (n * 3 + 2) = 5 + σ 8 0 n := h.2.2.1 n hn6
    rw [rL_holds_113]
    simp only [rL_holds_115, rL_holds_117, rL_holds_120, rL_holds_122, rL_holds_125, rL_holds_126, rL_holds_128, rL_holds_129, rL_holds_132, rL_holds_133, rL_holds_135, rL_holds_136, rL_holds_139, rL_holds_140, rL_holds_141, rL_holds_143, rL_holds_144, rL_holds_147, rL_holds_148, rL_holds_149, rL_holds_150, rL_holds_152, rL_holds_153, rL_holds_154, rL_holds_157, rL_holds_158, rL_holds_161, rL_holds_162, rL_holds_164, rL_holds_167, ct1_i, ct1_r, ct1_n, true_and, and_true, tl_s, tl_n, le4_0, le4_1, le4_2, le4_3, le4_4, le4_5, isO_r, cl_, emb1, emb2, le_rN, sp_L_holds_X_count, sp_L_holds_X_tailsOf, sp_L_holds_X_hireOf, sp_L_holds_L_isHire, sp_L_holds_X_windOf, sp_L_holds_X_kiteOf, sp_L_holds_L_low, sp_L_holds_L_isKite, sp_L_holds_X_spoolOf, sp_L_holds_X_flyable, sp_L_holds_X_perHour, obX, rt_0 (σ := σ) hn6, rt_1 (σ := σ) hn6, rt_2 (σ := σ) hn6, cm_ok, cm_al, cm_rd, true_or, iin_c (show n < 8 by omega) (by decide), oN_nat (show n < 2 ^ 31 by omega), et, hlt, h10, oN_succ, if_true, if_false]
    exact ih (n + 1) (by omega)
end HOLDS
def HolP (σ : SG) : Prop := ∃ T K S N O E b, J (σ 0) (σ 8 0) T K S N O E b
def f_L_holds : Sp := fun av S => match av with
  | [.ref a, .ref c, .int _] => ((S = emb (prj S) ∧ a = 0 ∧ c = 126 ∧ HolP (prj S)), some (.int 1), S)
  | _ => (False, none, svNil)
theorem q_L_holds {σ : SG} {x : Int32} (h : HolP σ) : f_L_holds [.ref 0, .ref 126, .int x] (emb σ) = (True, some (.int 1), emb σ) := by
  show ((emb σ = emb (prj (emb σ)) ∧ 0 = 0 ∧ 126 = 126 ∧ HolP (prj (emb σ))), some (Value.int 1), emb σ) = _
  rw [prj_emb]
  simp [h]
set_option maxHeartbeats 1000000 in
set_option maxRecDepth 20000 in
theorem ok_L_holds : SpecOK 99 f_L_holds := SpecOK.of (sp := sp_L_holds) (by decide) (by decide) sp_L_holds_ok (by
  intro sc av S hp
  match av, hp with
  | [.ref a, .ref c, .int x], hp =>
    obtain ⟨hS, ha, hc, hm⟩ := hp
    show _ ∧ _ ∧ S.1 ≤ S.1 ∧ S.2.1 ≤ S.2.1 ∧ Vf 99 sp_L_holds ((S.1, S.2.1), sc) 0 [.ref a, .ref c, .int x, .null, .null, .null, .null, .null, .null, .null] [] S (fun r S' => r = some (.int 1) ∧ S' = S)
    generalize prj S = σ at hS hm
    subst hS; subst ha; subst hc
    refine ⟨Nat.le_of_ble_eq_true rfl, allc (of_eq_true (ct1_r _)) (allc (of_eq_true (ct1_r _)) (allc (of_eq_true (ct1_i _)) all0)), Nat.le_refl _, Nat.le_refl _, ?_⟩
    show Vf 99 sp_L_holds ((127, SLT), sc) 0 [.ref 0, .ref 126, .int x, .null, .null, .null, .null, .null, .null, .null] [] (emb σ) _
    refine Vf_q ?_ ⟨rfl, rfl⟩
    intro Q hQ
    obtain ⟨T, K, S, N, O, E, b, h⟩ := hm
    have hb := J_bd h
    have e1 : oN (ctF (fun r => σ 0 2 (r * 8 + 0)) 0 K) + oN O + oN (ctF (fun r => σ 0 2 (r * 8 + 0)) 2 K) = oN K := by
      have h1 := ct_sum (f := fun r => σ 0 2 (r * 8 + 0)) K (fun k hk => (h.2.1.2.2.1 k hk).1)
      have h2 : ctF (fun r => σ 0 2 (r * 8 + 0)) 1 K = O := h.2.1.2.2.2.1
      rw [oN_add, oN_add]
      exact congrArg oN (by omega)
    have e2 : suF (fun s => σ 0 3 (s * 4 + 0)) 0 S 0 + suF (fun s => σ 0 3 (s * 4 + 3)) 0 S 0 = σ 8 0 6 := h.2.2.2
    have e3 : σ 0 7 0 + σ 0 7 1 + σ 0 7 2 + oN O = oN N := by
      have h1 : σ 0 7 0 + σ 0 7 1 + σ 0 7 2 = oN E := h.2.1.2.2.2.2.2.2
      rw [h1, oN_add]
      exact congrArg oN (by omega)
    simp only [rL_holds_0, rL_holds_1, rL_holds_2, rL_holds_3, rL_holds_5, rL_holds_6, rL_holds_8, rL_holds_9, rL_holds_10, rL_holds_13, rL_holds_14, rL_holds_15, rL_holds_18, rL_holds_19, rL_holds_20, rL_holds_21, rL_holds_24, rL_holds_25, rL_holds_26, rL_holds_27, rL_holds_30, rL_holds_33, rL_holds_34, rL_holds_35, rL_holds_38, rL_holds_39, rL_holds_41, rL_holds_44, rL_holds_47, rL_holds_48, rL_holds_50, rL_holds_53, rL_holds_54, rL_holds_56, rL_holds_59, rL_holds_60, rL_holds_61, rL_holds_63, rL_holds_64, rL_holds_67, rL_holds_68, rL_holds_70, rL_holds_73, rL_holds_74, rL_holds_76, rL_holds_79, rL_holds_80, rL_holds_81, rL_holds_83, rL_holds_86, rL_holds_87, rL_holds_88, rL_holds_90, rL_holds_93, rL_holds_94, rL_holds_95, rL_holds_97, rL_holds_100, rL_holds_103, rL_holds_104, rL_holds_107, rL_holds_108, rL_holds_110, rL_holds_111, ct1_i, ct1_r, ct1_n, true_and, and_true, tl_s, tl_n, le4_0, le4_1, le4_2, le4_3, le4_4, le4_5, isO_r, cl_, emb1, emb2, le_rN, sp_L_holds_X_count, sp_L_holds_X_tailsOf, sp_L_holds_X_hireOf, sp_L_holds_L_isHire, sp_L_holds_X_windOf, sp_L_holds_X_kiteOf, sp_L_holds_L_low, sp_L_holds_L_isKite, sp_L_holds_X_spoolOf, sp_L_holds_X_flyable, sp_L_holds_X_perHour, obX, ct_0 h, ct_1 h, ct_2 h, ct_3 h, ct_4 h, ct_6 h, ct_7 h, ct_8 h, ct_9 h, ct_10 h, ct_12 h, ct_13 h, cm_ok, cm_al, cm_rd, true_or, show iin (6 : Int32) 8 = True from iin_c (c := 6) (by decide) (by decide), show (6 : Int32).toNatClampNeg = 6 from rfl, e1, e2, e3, if_true, if_false]
    exact lp_L_holds_2 h hQ 6 0 rfl)
