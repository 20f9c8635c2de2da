/-! CONSTRUCTORS: the note, the past, the class -/
abbrev d0 : Nat → Value := fun k => defaultValue (fty 0 k)
abbrev hN (T : MS) : MS := hZ (svNew T 0 0 (nf 0) (fun k => defaultValue (fty 0 k))) T.1 (g3F 6)
theorem hN_1 (T : MS) : (hN T).1 = T.1 + 17 := rfl
theorem hN_2 (T : MS) : (hN T).2.1 = T.2.1 + 1328 := rfl
theorem hN_k {T : MS} {b : Nat} (h : b < T.1) : (hN T).2.2.1 b = T.2.2.1 b := by
  show (if T.1 + 1 ≤ b ∧ b < T.1 + 1 + 2 * 8 then _ else if b = T.1 then _ else T.2.2.1 b) = _
  rw [if_neg (by omega), if_neg (by omega)]
theorem hN_v {T : MS} {b s : Nat} (h : b < T.1) : (hN T).2.2.2 b s = T.2.2.2 b s := by
  show (if b = T.1 ∧ s < 8 then _ else if T.1 + 1 ≤ b ∧ b < T.1 + 1 + 16 then _ else if b = T.1 then _ else T.2.2.2 b s) = _
  rw [if_neg (by omega), if_neg (by omega), if_neg (by omega)]
theorem hN_ob {T : MS} {b c : Nat} (h : obj T b c) : obj (hN T) b c := by
  obtain ⟨h1, h2, h3, h4⟩ := h
  exact ⟨h1, by rw [hN_1]; omega, by rw [hN_k h2]; exact h3, h4⟩
theorem hN_ar {T : MS} {b c : Nat} (h : ari T b c) : ari (hN T) b c := by
  obtain ⟨h1, h2, h3⟩ := h
  exact ⟨h1, by rw [hN_1]; omega, by rw [hN_k h2]; exact h3⟩
theorem hN_at {T : MS} (h : T.1 < 1000) : obj (hN T) T.1 0 := hZ_ob (obj_at h (by decide))
theorem nf0 : nf 0 = 16 := rfl
theorem nf1 : nf 1 = 5 := rfl
theorem nf2 : nf 2 = 3 := rfl
theorem nf3 : nf 3 = 2 := rfl
def nS (S : MS) (a : Nat) : MS := svSet (tiS (svNew (svSet (svNew S 6 60 60 (fun _ => .int 0)) a 0 (.ref S.1)) 3 0 (nf 3) (fun k => defaultValue (fty 3 k))) (S.1 + 1) 15 5) a 1 (.ref (S.1 + 1))
def f_N_init : Sp := fun av S => match av with
  | [.ref a] => ((obj S a 1 ∧ S.1 + 16 ≤ 1000), none, nS S a)
  | _ => (False, none, svNil)
theorem q_N_init {S : MS} {a : Nat} : f_N_init [.ref a] S = ((obj S a 1 ∧ S.1 + 16 ≤ 1000), none, nS S a) := rfl
theorem nS_1 (S : MS) (a : Nat) : (nS S a).1 = S.1 + 3 := rfl
theorem ti75 : tiN 15 5 = 75 := by decide
theorem nS_2 (S : MS) (a : Nat) : (nS S a).2.1 = S.2.1 + 137 := by
  show S.2.1 + 60 + 2 + tiN 15 5 = S.2.1 + 137
  rw [ti75]
def sp_N_init : Nat → Sp := spL [(7, f_T_init)]
theorem sp_N_init_7 : sp_N_init 7 = f_T_init := rfl
set_option maxHeartbeats 1000000 in
set_option maxRecDepth 20000 in
theorem ok_N_init : SpecOK 49 f_N_init := SpecOK.of (sp := sp_N_init) (by decide) (by decide) (spL_ok (List.forall_mem_cons.mpr ⟨ok_T_init, fun q h => absurd h List.not_mem_nil⟩)) (by
  intro sc av S hp
  unfold f_N_init at hp ⊢
  split at hp
  · rename_i a
    obtain ⟨ho, hS⟩ := hp
    refine ⟨Nat.le_of_ble_eq_true rfl, allc (of_eq_true (ct1_r _)) all0, by show S.1 ≤ (nS S a).1; rw [nS_1]; omega, by show S.2.1 ≤ (nS S a).2.1; rw [nS_2]; omega, ?_⟩
    show Vf 49 _ (((nS S a).1, (nS S a).2.1), sc) 0 [.ref a] [] S _
    rw [nS_1, nS_2]
    have ha := ho.2.1
    have t60 : (60 : Int32).toNatClampNeg = 60 := rfl
    have m60 : ¬ (60 : Int32) < 0 := by decide
    have h1 : obj (svNew S 6 60 60 (fun _ => .int 0)) a 1 := obj_new ho
    have h2 : S.1 < 1000 := by omega
    have h3 : S.1 + 1 ≤ S.1 + 3 := by omega
    have h4 : S.2.1 + 60 ≤ S.2.1 + 137 := by omega
    have h5 : S.1 + 1 < 1000 := by omega
    have h6 : S.1 + 1 + 1 ≤ S.1 + 3 := by omega
    have h7 : S.2.1 + 60 + 2 ≤ S.2.1 + 137 := by omega
    have h60 : (60 : Nat) ≤ 100000 := by decide
    have h8 : obj (svNew (svSet (svNew S 6 60 60 (fun _ => .int 0)) a 0 (.ref S.1)) 3 0 2 (fun k => defaultValue (fty 3 k))) (S.1 + 1) 3 := obj_at (S := svSet (svNew S 6 60 60 (fun _ => .int 0)) a 0 (.ref S.1)) h5 (by decide)
    have h9 : tiP (svNew (svSet (svNew S 6 60 60 (fun _ => .int 0)) a 0 (.ref S.1)) 3 0 2 (fun k => defaultValue (fty 3 k))) (S.1 + 1) 15 5 := ⟨h8, by show S.1 + 1 + 1 < 1000; omega, by decide⟩
    have hA : S.1 + 1 + 1 ≤ (tiS (svNew (svSet (svNew S 6 60 60 (fun _ => .int 0)) a 0 (.ref S.1)) 3 0 2 (fun k => defaultValue (fty 3 k))) (S.1 + 1) 15 5).1 := Nat.le_succ _
    have hB : S.2.1 + 60 + 2 ≤ (tiS (svNew (svSet (svNew S 6 60 60 (fun _ => .int 0)) a 0 (.ref S.1)) 3 0 2 (fun k => defaultValue (fty 3 k))) (S.1 + 1) 15 5).2.1 := Nat.le_add_right _ _
    have hC : (tiS (svNew (svSet (svNew S 6 60 60 (fun _ => .int 0)) a 0 (.ref S.1)) 3 0 2 (fun k => defaultValue (fty 3 k))) (S.1 + 1) 15 5).1 ≤ S.1 + 3 := Nat.le_refl _
    have hD : (tiS (svNew (svSet (svNew S 6 60 60 (fun _ => .int 0)) a 0 (.ref S.1)) 3 0 2 (fun k => defaultValue (fty 3 k))) (S.1 + 1) 15 5).2.1 ≤ S.2.1 + 137 := by
      show S.2.1 + 60 + 2 + tiN 15 5 ≤ _
      rw [ti75]
      omega
    have hE : obj (tiS (svNew (svSet (svNew S 6 60 60 (fun _ => .int 0)) a 0 (.ref S.1)) 3 0 2 (fun k => defaultValue (fty 3 k))) (S.1 + 1) 15 5) a 1 := by
      unfold tiS
      rw [obj_set]
      exact obj_new (S := svSet _ _ _ _) (show obj (svNew (svSet (svNew S 6 60 60 (fun _ => .int 0)) a 0 (.ref S.1)) 3 0 2 (fun k => defaultValue (fty 3 k))) a 1 from obj_new (S := svSet _ _ _ _) h1)
    simp only [rN_init_0, rN_init_1, rN_init_4, rN_init_5, rN_init_7, rN_init_9, rN_init_12, rN_init_13, rN_init_16, rN_init_17, rN_init_19, rN_init_20, rN_init_23, rN_init_26, ct1_i, ct1_r, ct1_n, true_and, and_true, tl_s, tl_n, le4_0, le4_1, le4_2, le4_3, le4_4, le4_5, isO_r, cl_, sp_N_init_7, q_T_init, fok_ob, fok_ac, ss1, ss2, sn1_, sn2_, obj_set, nf3, t60, m60, h1, h2, h3, h4, h5, h6, h7, h60, h8, h9, hA, hB, hC, hD, hE, not_false_eq_true]
    exact rfl
  · exact absurd hp id)
def p0S (S : MS) (a : Nat) : MS := svSet (svNew S 8 4 4 (fun _ => .null)) a 0 (.ref S.1)
def pX (S : MS) (a : Nat) : Nat → MS
  | 0 => p0S S a
  | n + 1 => svSet (hN (pX S a n)) S.1 n (.ref (pX S a n).1)
theorem pX_f {S : MS} {a : Nat} (ho : obj S a 2) (hS : S.1 < 1000) : ∀ n, (pX S a n).1 = S.1 + 1 + 17 * n ∧ (pX S a n).2.1 = S.2.1 + 4 + 1328 * n ∧ obj (pX S a n) a 2 ∧ (pX S a n).2.2.2 a 0 = .ref S.1 ∧ ari (pX S a n) S.1 8 ∧ ((pX S a n).2.2.1 S.1).2 = 4 := by
  intro n
  have ha := ho.2.1
  induction n with
  | zero =>
    refine ⟨rfl, rfl, (show obj (svNew S 8 4 4 (fun _ => .null)) a 2 from obj_new ho), ?_, (show ari (svNew S 8 4 4 (fun _ => .null)) S.1 8 from ari_at hS), ?_⟩
    · show (if a = a ∧ 0 = 0 then _ else _) = _
      rw [if_pos ⟨rfl, rfl⟩]
    · show (if S.1 = S.1 then ((8 : Nat), (4 : Nat)) else _).2 = 4
      rw [if_pos rfl]
  | succ n ih =>
    obtain ⟨h1, h2, h3, h4, h5, h6⟩ := ih
    refine ⟨?_, ?_, hN_ob h3, ?_, hN_ar h5, ?_⟩
    · show (pX S a n).1 + 17 = _
      omega
    · show (pX S a n).2.1 + 1328 = _
      omega
    · show (if a = S.1 ∧ 0 = n then _ else (hN (pX S a n)).2.2.2 a 0) = _
      rw [if_neg (by omega), hN_v h3.2.1]
      exact h4
    · show ((hN (pX S a n)).2.2.1 S.1).2 = 4
      rw [hN_k h5.2.1]
      exact h6
def f_P_init : Sp := fun av S => match av with
  | [.ref a] => ((obj S a 2 ∧ S.1 + 100 ≤ 1000), none, pX S a 4)
  | _ => (False, none, svNil)
theorem q_P_init {S : MS} {a : Nat} : f_P_init [.ref a] S = ((obj S a 2 ∧ S.1 + 100 ≤ 1000), none, pX S a 4) := rfl
theorem pX_1 (S : MS) (a : Nat) : (pX S a 4).1 = S.1 + 69 := rfl
theorem pX_2 (S : MS) (a : Nat) : (pX S a 4).2.1 = S.2.1 + 5316 := by
  have e : ∀ n, (pX S a n).2.1 = S.2.1 + 4 + 1328 * n := by
    intro n
    induction n with
    | zero => rfl
    | succ n ih =>
      show (pX S a n).2.1 + 1328 = _
      omega
  rw [e]
def sp_P_init : Nat → Sp := spL [(23, f_H_init)]
theorem sp_P_init_23 : sp_P_init 23 = f_H_init := rfl
set_option maxHeartbeats 1000000 in
set_option maxRecDepth 20000 in
theorem lp_P_init {sc : Nat × (Nat → Int32)} {S : MS} {a : Nat} (ho : obj S a 2) (hS : S.1 + 100 ≤ 1000) {Q : Option Value → MS → Prop} : ∀ (m n : Nat), n + m = 4 → Q none (pX S a 4) → Vf 53 sp_P_init ((S.1 + 69, S.2.1 + 5316), sc) 14 [.ref a, .int (oN n)] [] (pX S a n) Q := by
  intro m
  induction m with
  | zero =>
    intro n hn hQ
    have : n = 4 := by omega
    subst this
    obtain ⟨h1, h2, h3, h4, h5, h6⟩ := pX_f ho (by omega) 4
    have e8 : ∀ {e : En}, aln e (pX S a 4) S.1 = 4 := by
      intro e
      rw [aln_ari h5]
      exact h6
    have hlt : ¬ oN 4 < Int32.ofNat 4 := by decide
    rw [rP_init_14]
    simp only [rP_init_15, rP_init_16, rP_init_19, rP_init_20, rP_init_23, rP_init_24, rP_init_27, rP_init_28, rP_init_31, rP_init_32, rP_init_35, rP_init_36, rP_init_39, rP_init_42, ct1_i, ct1_r, ct1_n, true_and, and_true, tl_s, tl_n, le4_0, le4_1, le4_2, le4_3, le4_4, le4_5, isO_r, h3, h4, e8, aok_ari 8 h5, or_true, if_neg hlt]
    exact hQ
  | succ m ih =>
    intro n hn hQ
    obtain ⟨h1, h2, h3, h4, h5, h6⟩ := pX_f ho (by omega) n
    have e8 : ∀ {e : En}, aln e (pX S a n) S.1 = 4 := by
      intro e
      rw [aln_ari h5]
      exact h6
    have hlt : oN n < Int32.ofNat 4 := by show oN n < oN 4; rw [oN_lt (by omega) (by decide)]; omega
    have f1 : (pX S a n).1 < 1000 := by omega
    have f2 : (pX S a n).1 + 1 ≤ S.1 + 69 := by omega
    have f3 : (pX S a n).2.1 + 16 ≤ S.2.1 + 5316 := by omega
    have f4 : obj (svNew (pX S a n) 0 0 16 (fun k => defaultValue (fty 0 k))) (pX S a n).1 0 := obj_at f1 (by decide)
    have f5 : (pX S a n).1 + 1 + 16 ≤ 1000 := by omega
    have f6 : (pX S a n).1 + 1 ≤ (hZ (svNew (pX S a n) 0 0 16 (fun k => defaultValue (fty 0 k))) (pX S a n).1 (g3F 6)).1 := Nat.le_add_right _ _
    have f7 : (pX S a n).2.1 + 16 ≤ (hZ (svNew (pX S a n) 0 0 16 (fun k => defaultValue (fty 0 k))) (pX S a n).1 (g3F 6)).2.1 := Nat.le_add_right _ _
    have f8 : (hZ (svNew (pX S a n) 0 0 16 (fun k => defaultValue (fty 0 k))) (pX S a n).1 (g3F 6)).1 ≤ S.1 + 69 := by
      show (pX S a n).1 + 17 ≤ _
      omega
    have f9 : (hZ (svNew (pX S a n) 0 0 16 (fun k => defaultValue (fty 0 k))) (pX S a n).1 (g3F 6)).2.1 ≤ S.2.1 + 5316 := by
      show (pX S a n).2.1 + 1328 ≤ _
      omega
    have fA : ari (hZ (svNew (pX S a n) 0 0 16 (fun k => defaultValue (fty 0 k))) (pX S a n).1 (g3F 6)) S.1 8 := hN_ar h5
    have fB : ((hZ (svNew (pX S a n) 0 0 16 (fun k => defaultValue (fty 0 k))) (pX S a n).1 (g3F 6)).2.2.1 S.1).2 = 4 := by
      have := hN_k (T := pX S a n) h5.2.1
      exact (congrArg (fun z => z.2) this).trans h6
    have fC : obj (hZ (svNew (pX S a n) 0 0 16 (fun k => defaultValue (fty 0 k))) (pX S a n).1 (g3F 6)) (pX S a n).1 0 := hN_at f1
    have fD : svSet (hZ (svNew (pX S a n) 0 0 16 (fun k => defaultValue (fty 0 k))) (pX S a n).1 (g3F 6)) S.1 n (.ref (pX S a n).1) = pX S a (n + 1) := rfl
    have fE : iin (oN n) 4 = True := iin_n (by omega) (by decide)
    have fF : (oN n).toNatClampNeg = n := oN_nat (by omega)
    rw [rP_init_14]
    simp only [rP_init_15, rP_init_16, rP_init_19, rP_init_20, rP_init_23, rP_init_24, rP_init_27, rP_init_28, rP_init_31, rP_init_32, rP_init_35, rP_init_36, rP_init_39, ct1_i, ct1_r, ct1_n, true_and, and_true, tl_s, tl_n, le4_0, le4_1, le4_2, le4_3, le4_4, le4_5, isO_r, cl_, sp_P_init_23, q_H_init, nf0, sn1_, sn2_, h3, h4, e8, aok_ari 8 h5, or_true, if_pos hlt, f1, f2, f3, f4, f5, f6, f7, f8, f9, fA, fB, fC, fD, fE, fF, oN_succ]
    exact ih (n + 1) (by omega) hQ
set_option maxHeartbeats 1000000 in
set_option maxRecDepth 20000 in
theorem ok_P_init : SpecOK 53 f_P_init := SpecOK.of (sp := sp_P_init) (by decide) (by decide) (spL_ok (List.forall_mem_cons.mpr ⟨ok_H_init, fun q h => absurd h List.not_mem_nil⟩)) (by
  intro sc av S hp
  unfold f_P_init at hp ⊢
  split at hp
  · rename_i a
    obtain ⟨ho, hS⟩ := hp
    refine ⟨Nat.le_of_ble_eq_true rfl, allc (of_eq_true (ct1_r _)) all0, by show S.1 ≤ (pX S a 4).1; rw [pX_1]; omega, by show S.2.1 ≤ (pX S a 4).2.1; rw [pX_2]; omega, ?_⟩
    show Vf 53 _ (((pX S a 4).1, (pX S a 4).2.1), sc) 0 [.ref a, .null] [] S _
    rw [pX_1, pX_2]
    have t4 : (4 : Int32).toNatClampNeg = 4 := rfl
    have m4 : ¬ (4 : Int32) < 0 := by decide
    have h40 : (4 : Nat) ≤ 100000 := by decide
    have h1 : obj (svNew S 8 4 4 (fun _ => .null)) a 2 := obj_new ho
    have h2 : S.1 < 1000 := by omega
    have h3 : S.1 + 1 ≤ S.1 + 69 := by omega
    have h4 : S.2.1 + 4 ≤ S.2.1 + 5316 := by omega
    have h5 : svSet (svNew S 8 4 4 (fun _ => .null)) a 0 (.ref S.1) = pX S a 0 := rfl
    simp only [rP_init_0, rP_init_1, rP_init_4, rP_init_5, rP_init_6, rP_init_9, rP_init_12, rP_init_13, ct1_i, ct1_r, ct1_n, true_and, and_true, tl_s, tl_n, le4_0, le4_1, le4_2, le4_3, le4_4, le4_5, isO_r, fok_ao, t4, m4, h40, h1, h2, h3, h4, h5, not_false_eq_true]
    exact lp_P_init ho hS 4 0 rfl ⟨rfl, rfl⟩
  · exact absurd hp id)
