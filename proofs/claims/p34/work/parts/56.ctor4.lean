/-! CONSTRUCTORS: the class, the check -/
def x1 (S : MS) (a : Nat) : MS := svSet (hN S) a 0 (.ref S.1)
def x2 (S : MS) (a : Nat) : MS := svSet (hN (x1 S a)) a 1 (.ref (x1 S a).1)
def x3 (S : MS) (a : Nat) : MS := svSet (hN (x2 S a)) a 2 (.ref (x2 S a).1)
def x4 (S : MS) (a : Nat) : MS := svSet (pX (svNew (x3 S a) 2 0 (nf 2) (fun k => defaultValue (fty 2 k))) (x3 S a).1 4) a 3 (.ref (x3 S a).1)
def x5 (S : MS) (a : Nat) : MS := svSet (nS (svNew (x4 S a) 1 0 (nf 1) (fun k => defaultValue (fty 1 k))) (x4 S a).1) a 4 (.ref (x4 S a).1)
theorem x1_1 (S : MS) (a : Nat) : (x1 S a).1 = S.1 + 17 := rfl
theorem x2_1 (S : MS) (a : Nat) : (x2 S a).1 = S.1 + 34 := rfl
theorem x3_1 (S : MS) (a : Nat) : (x3 S a).1 = S.1 + 51 := rfl
theorem x4_1 (S : MS) (a : Nat) : (x4 S a).1 = S.1 + 121 := rfl
theorem x5_1 (S : MS) (a : Nat) : (x5 S a).1 = S.1 + 125 := rfl
theorem x1_2 (S : MS) (a : Nat) : (x1 S a).2.1 = S.2.1 + 1328 := rfl
theorem x2_2 (S : MS) (a : Nat) : (x2 S a).2.1 = S.2.1 + 2656 := by
  show (x1 S a).2.1 + 1328 = _
  rw [x1_2]
theorem x3_2 (S : MS) (a : Nat) : (x3 S a).2.1 = S.2.1 + 3984 := by
  show (x2 S a).2.1 + 1328 = _
  rw [x2_2]
theorem x4_2 (S : MS) (a : Nat) : (x4 S a).2.1 = S.2.1 + 9303 := by
  show (pX (svNew (x3 S a) 2 0 (nf 2) (fun k => defaultValue (fty 2 k))) (x3 S a).1 4).2.1 = _
  rw [pX_2, sn2_, x3_2, nf2]
theorem x5_2 (S : MS) (a : Nat) : (x5 S a).2.1 = S.2.1 + 9445 := by
  show (nS (svNew (x4 S a) 1 0 (nf 1) (fun k => defaultValue (fty 1 k))) (x4 S a).1).2.1 = _
  rw [nS_2, sn2_, x4_2, nf1]
theorem pX_ob {S : MS} {a b c : Nat} (h : obj S b c) : ∀ n, obj (pX S a n) b c := by
  intro n
  induction n with
  | zero => exact (show obj (svNew S 8 4 4 (fun _ => .null)) b c from obj_new h)
  | succ n ih => exact (show obj (hN (pX S a n)) b c from hN_ob ih)
theorem ti_ob {S : MS} {r b c : Nat} {x y : Int32} (h : obj S b c) : obj (tiS S r x y) b c := by
  show obj (svNew (svSet S r 0 (.int y)) 7 (tiN x y) (tiN x y) (fun _ => .int 0)) b c
  exact obj_new (S := svSet S r 0 (.int y)) h
theorem nS_ob {S : MS} {a b c : Nat} (h : obj S b c) : obj (nS S a) b c := by
  show obj (tiS (svNew (svSet (svNew S 6 60 60 (fun _ => .int 0)) a 0 (.ref S.1)) 3 0 (nf 3) (fun k => defaultValue (fty 3 k))) (S.1 + 1) 15 5) b c
  exact ti_ob (obj_new (S := svSet (svNew S 6 60 60 (fun _ => .int 0)) a 0 (.ref S.1)) (show obj (svNew S 6 60 60 (fun _ => .int 0)) b c from obj_new h))
theorem x1_o {S : MS} {a b c : Nat} (h : obj S b c) : obj (x1 S a) b c := hN_ob h
theorem x2_o {S : MS} {a b c : Nat} (h : obj S b c) : obj (x2 S a) b c := hN_ob (x1_o h)
theorem x3_o {S : MS} {a b c : Nat} (h : obj S b c) : obj (x3 S a) b c := hN_ob (x2_o h)
theorem x4_o {S : MS} {a b c : Nat} (h : obj S b c) : obj (x4 S a) b c := pX_ob (obj_new (x3_o h)) 4
theorem x5_o {S : MS} {a b c : Nat} (h : obj S b c) : obj (x5 S a) b c := nS_ob (obj_new (x4_o h))
def f_X_init : Sp := fun av S => match av with
  | [.ref a] => ((obj S a 4 ∧ S.1 + 200 ≤ 1000), none, x5 S a)
  | _ => (False, none, svNil)
theorem q_X_init {S : MS} {a : Nat} : f_X_init [.ref a] S = ((obj S a 4 ∧ S.1 + 200 ≤ 1000), none, x5 S a) := rfl
def sp_X_init : Nat → Sp := spL [(23, f_H_init), (53, f_P_init), (49, f_N_init)]
theorem sp_X_init_23 : sp_X_init 23 = f_H_init := rfl
theorem sp_X_init_53 : sp_X_init 53 = f_P_init := rfl
theorem sp_X_init_49 : sp_X_init 49 = f_N_init := rfl
set_option maxHeartbeats 1000000 in
set_option maxRecDepth 20000 in
theorem lp_X_init_0 {sc : Nat × (Nat → Int32)} {S : MS} {a : Nat} (ho : obj S a 4) (hS : S.1 + 200 ≤ 1000) {Q : Option Value → MS → Prop} (hQ : Vf 72 sp_X_init ((S.1 + 125, S.2.1 + 9445), sc) 15 [.ref a] [] (x1 S a) Q) : Vf 72 sp_X_init ((S.1 + 125, S.2.1 + 9445), sc) 4 [.ref a] [] S Q := by
  have e1 : S.1 = S.1 + 0 := rfl
  have e2 : S.2.1 = S.2.1 + 0 := rfl
  have r1 : (hZ (svNew S 0 0 (nf 0) (fun k => defaultValue (fty 0 k))) S.1 (g3F 6)).1 = S.1 + 17 := x1_1 S a
  have r2 : (hZ (svNew S 0 0 (nf 0) (fun k => defaultValue (fty 0 k))) S.1 (g3F 6)).2.1 = S.2.1 + 1328 := x1_2 S a
  have f1 : S.1 < 1000 := by rw [e1]; omega
  have f2 : S.1 + 1 ≤ S.1 + 125 := by rw [e1]; omega
  have f3 : S.2.1 + nf 0 ≤ S.2.1 + 9445 := by show _ + 16 ≤ _; omega
  have f4 : obj (svNew S 0 0 (nf 0) (fun k => defaultValue (fty 0 k))) S.1 0 := obj_at f1 (by decide)
  have f5 : S.1 + 1 + 16 ≤ 1000 := by rw [e1]; omega
  have f6 : S.1 + 1 ≤ (hZ (svNew S 0 0 (nf 0) (fun k => defaultValue (fty 0 k))) S.1 (g3F 6)).1 := by rw [r1]; omega
  have fn : nf 0 = 16 := rfl
  have f7 : S.2.1 + nf 0 ≤ (hZ (svNew S 0 0 (nf 0) (fun k => defaultValue (fty 0 k))) S.1 (g3F 6)).2.1 := by rw [r2, fn]; omega
  have f8 : (hZ (svNew S 0 0 (nf 0) (fun k => defaultValue (fty 0 k))) S.1 (g3F 6)).1 ≤ S.1 + 125 := by rw [r1]; omega
  have f9 : (hZ (svNew S 0 0 (nf 0) (fun k => defaultValue (fty 0 k))) S.1 (g3F 6)).2.1 ≤ S.2.1 + 9445 := by rw [r2]; omega
  have fA : obj (hZ (svNew S 0 0 (nf 0) (fun k => defaultValue (fty 0 k))) S.1 (g3F 6)) a 4 := x1_o (a := a) ho
  have fB : svSet (hZ (svNew S 0 0 (nf 0) (fun k => defaultValue (fty 0 k))) S.1 (g3F 6)) a 0 (.ref S.1) = x1 S a := rfl
  simp only [rX_init_4, rX_init_5, rX_init_8, rX_init_9, rX_init_12, ct1_i, ct1_r, ct1_n, true_and, and_true, tl_s, tl_n, le4_0, le4_1, le4_2, le4_3, le4_4, le4_5, isO_r, cl_, sp_X_init_23, sp_X_init_53, sp_X_init_49, q_H_init, q_P_init, q_N_init, fok_ob, sn1_, sn2_, f1, f2, f3, f4, f5, f6, f7, f8, f9, fA, fB]
  exact hQ
set_option maxHeartbeats 1000000 in
set_option maxRecDepth 20000 in
theorem lp_X_init_1 {sc : Nat × (Nat → Int32)} {S : MS} {a : Nat} (ho : obj S a 4) (hS : S.1 + 200 ≤ 1000) {Q : Option Value → MS → Prop} (hQ : Vf 72 sp_X_init ((S.1 + 125, S.2.1 + 9445), sc) 26 [.ref a] [] (x2 S a) Q) : Vf 72 sp_X_init ((S.1 + 125, S.2.1 + 9445), sc) 15 [.ref a] [] (x1 S a) Q := by
  have e1 : (x1 S a).1 = S.1 + 17 := x1_1 S a
  have e2 : (x1 S a).2.1 = S.2.1 + 1328 := x1_2 S a
  have r1 : (hZ (svNew (x1 S a) 0 0 (nf 0) (fun k => defaultValue (fty 0 k))) (x1 S a).1 (g3F 6)).1 = S.1 + 34 := x2_1 S a
  have r2 : (hZ (svNew (x1 S a) 0 0 (nf 0) (fun k => defaultValue (fty 0 k))) (x1 S a).1 (g3F 6)).2.1 = S.2.1 + 2656 := x2_2 S a
  have f1 : (x1 S a).1 < 1000 := by rw [e1]; omega
  have f2 : (x1 S a).1 + 1 ≤ S.1 + 125 := by rw [e1]; omega
  have f3 : (x1 S a).2.1 + nf 0 ≤ S.2.1 + 9445 := by show _ + 16 ≤ _; omega
  have f4 : obj (svNew (x1 S a) 0 0 (nf 0) (fun k => defaultValue (fty 0 k))) (x1 S a).1 0 := obj_at f1 (by decide)
  have f5 : (x1 S a).1 + 1 + 16 ≤ 1000 := by rw [e1]; omega
  have f6 : (x1 S a).1 + 1 ≤ (hZ (svNew (x1 S a) 0 0 (nf 0) (fun k => defaultValue (fty 0 k))) (x1 S a).1 (g3F 6)).1 := by rw [r1]; omega
  have fn : nf 0 = 16 := rfl
  have f7 : (x1 S a).2.1 + nf 0 ≤ (hZ (svNew (x1 S a) 0 0 (nf 0) (fun k => defaultValue (fty 0 k))) (x1 S a).1 (g3F 6)).2.1 := by rw [r2, fn]; omega
  have f8 : (hZ (svNew (x1 S a) 0 0 (nf 0) (fun k => defaultValue (fty 0 k))) (x1 S a).1 (g3F 6)).1 ≤ S.1 + 125 := by rw [r1]; omega
  have f9 : (hZ (svNew (x1 S a) 0 0 (nf 0) (fun k => defaultValue (fty 0 k))) (x1 S a).1 (g3F 6)).2.1 ≤ S.2.1 + 9445 := by rw [r2]; omega
  have fA : obj (hZ (svNew (x1 S a) 0 0 (nf 0) (fun k => defaultValue (fty 0 k))) (x1 S a).1 (g3F 6)) a 4 := x2_o (a := a) ho
  have fB : svSet (hZ (svNew (x1 S a) 0 0 (nf 0) (fun k => defaultValue (fty 0 k))) (x1 S a).1 (g3F 6)) a 1 (.ref (x1 S a).1) = x2 S a := rfl
  simp only [rX_init_15, rX_init_16, rX_init_19, rX_init_20, rX_init_23, ct1_i, ct1_r, ct1_n, true_and, and_true, tl_s, tl_n, le4_0, le4_1, le4_2, le4_3, le4_4, le4_5, isO_r, cl_, sp_X_init_23, sp_X_init_53, sp_X_init_49, q_H_init, q_P_init, q_N_init, fok_ob, sn1_, sn2_, f1, f2, f3, f4, f5, f6, f7, f8, f9, fA, fB]
  exact hQ
set_option maxHeartbeats 1000000 in
set_option maxRecDepth 20000 in
theorem lp_X_init_2 {sc : Nat × (Nat → Int32)} {S : MS} {a : Nat} (ho : obj S a 4) (hS : S.1 + 200 ≤ 1000) {Q : Option Value → MS → Prop} (hQ : Vf 72 sp_X_init ((S.1 + 125, S.2.1 + 9445), sc) 37 [.ref a] [] (x3 S a) Q) : Vf 72 sp_X_init ((S.1 + 125, S.2.1 + 9445), sc) 26 [.ref a] [] (x2 S a) Q := by
  have e1 : (x2 S a).1 = S.1 + 34 := x2_1 S a
  have e2 : (x2 S a).2.1 = S.2.1 + 2656 := x2_2 S a
  have r1 : (hZ (svNew (x2 S a) 0 0 (nf 0) (fun k => defaultValue (fty 0 k))) (x2 S a).1 (g3F 6)).1 = S.1 + 51 := x3_1 S a
  have r2 : (hZ (svNew (x2 S a) 0 0 (nf 0) (fun k => defaultValue (fty 0 k))) (x2 S a).1 (g3F 6)).2.1 = S.2.1 + 3984 := x3_2 S a
  have f1 : (x2 S a).1 < 1000 := by rw [e1]; omega
  have f2 : (x2 S a).1 + 1 ≤ S.1 + 125 := by rw [e1]; omega
  have f3 : (x2 S a).2.1 + nf 0 ≤ S.2.1 + 9445 := by show _ + 16 ≤ _; omega
  have f4 : obj (svNew (x2 S a) 0 0 (nf 0) (fun k => defaultValue (fty 0 k))) (x2 S a).1 0 := obj_at f1 (by decide)
  have f5 : (x2 S a).1 + 1 + 16 ≤ 1000 := by rw [e1]; omega
  have f6 : (x2 S a).1 + 1 ≤ (hZ (svNew (x2 S a) 0 0 (nf 0) (fun k => defaultValue (fty 0 k))) (x2 S a).1 (g3F 6)).1 := by rw [r1]; omega
  have fn : nf 0 = 16 := rfl
  have f7 : (x2 S a).2.1 + nf 0 ≤ (hZ (svNew (x2 S a) 0 0 (nf 0) (fun k => defaultValue (fty 0 k))) (x2 S a).1 (g3F 6)).2.1 := by rw [r2, fn]; omega
  have f8 : (hZ (svNew (x2 S a) 0 0 (nf 0) (fun k => defaultValue (fty 0 k))) (x2 S a).1 (g3F 6)).1 ≤ S.1 + 125 := by rw [r1]; omega
  have f9 : (hZ (svNew (x2 S a) 0 0 (nf 0) (fun k => defaultValue (fty 0 k))) (x2 S a).1 (g3F 6)).2.1 ≤ S.2.1 + 9445 := by rw [r2]; omega
  have fA : obj (hZ (svNew (x2 S a) 0 0 (nf 0) (fun k => defaultValue (fty 0 k))) (x2 S a).1 (g3F 6)) a 4 := x3_o (a := a) ho
  have fB : svSet (hZ (svNew (x2 S a) 0 0 (nf 0) (fun k => defaultValue (fty 0 k))) (x2 S a).1 (g3F 6)) a 2 (.ref (x2 S a).1) = x3 S a := rfl
  simp only [rX_init_26, rX_init_27, rX_init_30, rX_init_31, rX_init_34, ct1_i, ct1_r, ct1_n, true_and, and_true, tl_s, tl_n, le4_0, le4_1, le4_2, le4_3, le4_4, le4_5, isO_r, cl_, sp_X_init_23, sp_X_init_53, sp_X_init_49, q_H_init, q_P_init, q_N_init, fok_ob, sn1_, sn2_, f1, f2, f3, f4, f5, f6, f7, f8, f9, fA, fB]
  exact hQ
set_option maxHeartbeats 1000000 in
set_option maxRecDepth 20000 in
theorem lp_X_init_3 {sc : Nat × (Nat → Int32)} {S : MS} {a : Nat} (ho : obj S a 4) (hS : S.1 + 200 ≤ 1000) {Q : Option Value → MS → Prop} (hQ : Vf 72 sp_X_init ((S.1 + 125, S.2.1 + 9445), sc) 48 [.ref a] [] (x4 S a) Q) : Vf 72 sp_X_init ((S.1 + 125, S.2.1 + 9445), sc) 37 [.ref a] [] (x3 S a) Q := by
  have e1 : (x3 S a).1 = S.1 + 51 := x3_1 S a
  have e2 : (x3 S a).2.1 = S.2.1 + 3984 := x3_2 S a
  have r1 : (pX (svNew (x3 S a) 2 0 (nf 2) (fun k => defaultValue (fty 2 k))) (x3 S a).1 4).1 = S.1 + 121 := x4_1 S a
  have r2 : (pX (svNew (x3 S a) 2 0 (nf 2) (fun k => defaultValue (fty 2 k))) (x3 S a).1 4).2.1 = S.2.1 + 9303 := x4_2 S a
  have f1 : (x3 S a).1 < 1000 := by rw [e1]; omega
  have f2 : (x3 S a).1 + 1 ≤ S.1 + 125 := by rw [e1]; omega
  have f3 : (x3 S a).2.1 + nf 2 ≤ S.2.1 + 9445 := by show _ + 3 ≤ _; omega
  have f4 : obj (svNew (x3 S a) 2 0 (nf 2) (fun k => defaultValue (fty 2 k))) (x3 S a).1 2 := obj_at f1 (by decide)
  have f5 : (x3 S a).1 + 1 + 100 ≤ 1000 := by rw [e1]; omega
  have f6 : (x3 S a).1 + 1 ≤ (pX (svNew (x3 S a) 2 0 (nf 2) (fun k => defaultValue (fty 2 k))) (x3 S a).1 4).1 := by rw [r1]; omega
  have fn : nf 2 = 3 := rfl
  have f7 : (x3 S a).2.1 + nf 2 ≤ (pX (svNew (x3 S a) 2 0 (nf 2) (fun k => defaultValue (fty 2 k))) (x3 S a).1 4).2.1 := by rw [r2, fn]; omega
  have f8 : (pX (svNew (x3 S a) 2 0 (nf 2) (fun k => defaultValue (fty 2 k))) (x3 S a).1 4).1 ≤ S.1 + 125 := by rw [r1]; omega
  have f9 : (pX (svNew (x3 S a) 2 0 (nf 2) (fun k => defaultValue (fty 2 k))) (x3 S a).1 4).2.1 ≤ S.2.1 + 9445 := by rw [r2]; omega
  have fA : obj (pX (svNew (x3 S a) 2 0 (nf 2) (fun k => defaultValue (fty 2 k))) (x3 S a).1 4) a 4 := x4_o (a := a) ho
  have fB : svSet (pX (svNew (x3 S a) 2 0 (nf 2) (fun k => defaultValue (fty 2 k))) (x3 S a).1 4) a 3 (.ref (x3 S a).1) = x4 S a := rfl
  simp only [rX_init_37, rX_init_38, rX_init_41, rX_init_42, rX_init_45, ct1_i, ct1_r, ct1_n, true_and, and_true, tl_s, tl_n, le4_0, le4_1, le4_2, le4_3, le4_4, le4_5, isO_r, cl_, sp_X_init_23, sp_X_init_53, sp_X_init_49, q_H_init, q_P_init, q_N_init, fok_ob, sn1_, sn2_, f1, f2, f3, f4, f5, f6, f7, f8, f9, fA, fB]
  exact hQ
set_option maxHeartbeats 1000000 in
set_option maxRecDepth 20000 in
theorem lp_X_init_4 {sc : Nat × (Nat → Int32)} {S : MS} {a : Nat} (ho : obj S a 4) (hS : S.1 + 200 ≤ 1000) {Q : Option Value → MS → Prop} (hQ : Vf 72 sp_X_init ((S.1 + 125, S.2.1 + 9445), sc) 59 [.ref a] [] (x5 S a) Q) : Vf 72 sp_X_init ((S.1 + 125, S.2.1 + 9445), sc) 48 [.ref a] [] (x4 S a) Q := by
  have e1 : (x4 S a).1 = S.1 + 121 := x4_1 S a
  have e2 : (x4 S a).2.1 = S.2.1 + 9303 := x4_2 S a
  have r1 : (nS (svNew (x4 S a) 1 0 (nf 1) (fun k => defaultValue (fty 1 k))) (x4 S a).1).1 = S.1 + 125 := x5_1 S a
  have r2 : (nS (svNew (x4 S a) 1 0 (nf 1) (fun k => defaultValue (fty 1 k))) (x4 S a).1).2.1 = S.2.1 + 9445 := x5_2 S a
  have f1 : (x4 S a).1 < 1000 := by rw [e1]; omega
  have f2 : (x4 S a).1 + 1 ≤ S.1 + 125 := by rw [e1]; omega
  have f3 : (x4 S a).2.1 + nf 1 ≤ S.2.1 + 9445 := by show _ + 5 ≤ _; omega
  have f4 : obj (svNew (x4 S a) 1 0 (nf 1) (fun k => defaultValue (fty 1 k))) (x4 S a).1 1 := obj_at f1 (by decide)
  have f5 : (x4 S a).1 + 1 + 16 ≤ 1000 := by rw [e1]; omega
  have f6 : (x4 S a).1 + 1 ≤ (nS (svNew (x4 S a) 1 0 (nf 1) (fun k => defaultValue (fty 1 k))) (x4 S a).1).1 := by rw [r1]; omega
  have fn : nf 1 = 5 := rfl
  have f7 : (x4 S a).2.1 + nf 1 ≤ (nS (svNew (x4 S a) 1 0 (nf 1) (fun k => defaultValue (fty 1 k))) (x4 S a).1).2.1 := by rw [r2, fn]; omega
  have f8 : (nS (svNew (x4 S a) 1 0 (nf 1) (fun k => defaultValue (fty 1 k))) (x4 S a).1).1 ≤ S.1 + 125 := by rw [r1]; omega
  have f9 : (nS (svNew (x4 S a) 1 0 (nf 1) (fun k => defaultValue (fty 1 k))) (x4 S a).1).2.1 ≤ S.2.1 + 9445 := by rw [r2]; omega
  have fA : obj (nS (svNew (x4 S a) 1 0 (nf 1) (fun k => defaultValue (fty 1 k))) (x4 S a).1) a 4 := x5_o (a := a) ho
  have fB : svSet (nS (svNew (x4 S a) 1 0 (nf 1) (fun k => defaultValue (fty 1 k))) (x4 S a).1) a 4 (.ref (x4 S a).1) = x5 S a := rfl
  simp only [rX_init_48, rX_init_49, rX_init_52, rX_init_53, rX_init_56, ct1_i, ct1_r, ct1_n, true_and, and_true, tl_s, tl_n, le4_0, le4_1, le4_2, le4_3, le4_4, le4_5, isO_r, cl_, sp_X_init_23, sp_X_init_53, sp_X_init_49, q_H_init, q_P_init, q_N_init, fok_ob, sn1_, sn2_, f1, f2, f3, f4, f5, f6, f7, f8, f9, fA, fB]
  exact hQ
set_option maxHeartbeats 1000000 in
set_option maxRecDepth 20000 in
theorem ok_X_init : SpecOK 72 f_X_init := SpecOK.of (sp := sp_X_init) (by decide) (by decide) (spL_ok (List.forall_mem_cons.mpr ⟨ok_H_init, List.forall_mem_cons.mpr ⟨ok_P_init, List.forall_mem_cons.mpr ⟨ok_N_init, fun q h => absurd h List.not_mem_nil⟩⟩⟩)) (by
  intro sc av S hp
  unfold f_X_init at hp ⊢
  split at hp
  · rename_i a
    obtain ⟨ho, hS⟩ := hp
    refine ⟨Nat.le_of_ble_eq_true rfl, allc (of_eq_true (ct1_r _)) all0, by show S.1 ≤ (x5 S a).1; rw [x5_1]; omega, by show S.2.1 ≤ (x5 S a).2.1; rw [x5_2]; omega, ?_⟩
    show Vf 72 _ (((x5 S a).1, (x5 S a).2.1), sc) 0 [.ref a] [] S _
    rw [x5_1, x5_2]
    simp only [rX_init_0, rX_init_1, ct1_i, ct1_r, ct1_n, true_and, and_true, tl_s, tl_n, le4_0, le4_1, le4_2, le4_3, le4_4, le4_5, isO_r]
    refine lp_X_init_0 ho hS (lp_X_init_1 ho hS (lp_X_init_2 ho hS (lp_X_init_3 ho hS (lp_X_init_4 ho hS ?_))))
    rw [rX_init_59]
    exact ⟨rfl, rfl⟩
  · exact absurd hp id)
