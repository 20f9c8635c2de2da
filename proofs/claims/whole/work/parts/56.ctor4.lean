/-! CONSTRUCTORS: the class, the check -/
def x1 (S : MS) (a : Nat) : MS := svSet (hN S) a 0 (.ref S.1)
def x2 (S : MS) (a : Nat) : MS := svSet (hN (x1 S a)) a 1 (.ref (x1 S a).1)
def x3 (S : MS) (a : Nat) : MS := svSet (hN (x2 S a)) a 2 (.ref (x2 S a).1)
def x4 (S : MS) (a : Nat) : MS := svSet (pX (svNew (x3 S a) 2 0 (nf 2) (fun k => defaultValue (fty 2 k))) (x3 S a).1 4) a 3 (.ref (x3 S a).1)
def x5 (S : MS) (a : Nat) : MS := svSet (nS (svNew (x4 S a) 1 0 (nf 1) (fun k => defaultValue (fty 1 k))) (x4 S a).1) a 4 (.ref (x4 S a).1)
theorem x1_1 (S : MS) (a : Nat) : (x1 S a).1 = S.1 + 17 := rfl
theorem x2_1 (S : MS) (a : Nat) : (x2 S a).1 = S.1 + 34 := rfl
theorem x3_1 (S : MS) (a : Nat) : (x3 S a).1 = S.1 + 51 := rfl
theorem x4_1 (S : MS) (a : Nat) : (x4 S a).1 = S.1 + 121 := rfl
theorem x5_1 (S : MS) (a : Nat) : (x5 S a).1 = S.1 + 125 := rfl
theorem x1_2 (S : MS) (a : Nat) : (x1 S a).2.1 = S.2.1 + 1328 := rfl
theorem x2_2 (S : MS) (a : Nat) : (x2 S a).2.1 = S.2.1 + 2656 := by
  show (x1 S a).2.1 + 1328 = _
  rw [x1_2]
theorem x3_2 (S : MS) (a : Nat) : (x3 S a).2.1 = S.2.1 + 3984 := by
  show (x2 S a).2.1 + 1328 = _
  rw [x2_2]
theorem x4_2 (S : MS) (a : Nat) : (x4 S a).2.1 = S.2.1 + 9303 := by
  show (pX (svNew (x3 S a) 2 0 (nf 2) (fun k => defaultValue (fty 2 k))) (x3 S a).1 4).2.1 = _
  rw [pX_2, sn2_, x3_2, nf2]
theorem x5_2 (S : MS) (a : Nat) : (x5 S a).2.1 = S.2.1 + 9445 := by
  show (nS (svNew (x4 S a) 1 0 (nf 1) (fun k => defaultValue (fty 1 k))) (x4 S a).1).2.1 = _
  rw [nS_2, sn2_, x4_2, nf1]
theorem pX_ob {S : MS} {a b c : Nat} (h : obj S b c) : ∀ n, obj (pX S a n) b c := by
  intro n
  induction n with
  | zero => exact (show obj (svNew S 8 4 4 (fun _ => .null)) b c from obj_new h)
  | succ n ih => exact (show obj (hN (pX S a n)) b c from hN_ob ih)
theorem ti_ob {S : MS} {r b c : Nat} {x y : Int32} (h : obj S b c) : obj (tiS S r x y) b c := by
  show obj (svNew (svSet S r 0 (.int y)) 7 (tiN x y) (tiN x y) (fun _ => .int 0)) b c
  exact obj_new (S := svSet S r 0 (.int y)) h
theorem nS_ob {S : MS} {a b c : Nat} (h : obj S b c) : obj (nS S a) b c := by
  show obj (tiS (svNew (svSet (svNew S 6 60 60 (fun _ => .int 0)) a 0 (.ref S.1)) 3 0 (nf 3) (fun k => defaultValue (fty 3 k))) (S.1 + 1) 15 5) b c
  exact ti_ob (obj_new (S := svSet (svNew S 6 60 60 (fun _ => .int 0)) a 0 (.ref S.1)) (show obj (svNew S 6 60 60 (fun _ => .int 0)) b c from obj_new h))
theorem x1_o {S : MS} {a b c : Nat} (h : obj S b c) : obj (x1 S a) b c := hN_ob h
theorem x2_o {S : MS} {a b c : Nat} (h : obj S b c) : obj (x2 S a) b c := hN_ob (x1_o h)
theorem x3_o {S : MS} {a b c : Nat} (h : obj S b c) : obj (x3 S a) b c := hN_ob (x2_o h)
theorem x4_o {S : MS} {a b c : Nat} (h : obj S b c) : obj (x4 S a) b c := pX_ob (obj_new (x3_o h)) 4
theorem x5_o {S : MS} {a b c : Nat} (h : obj S b c) : obj (x5 S a) b c := nS_ob (obj_new (x4_o h))
def f_X_init : Sp := fun av S => match av with
  | [.ref a] => ((obj S a 4 ∧ S.1 + 200 ≤ 1000), none, x5 S a)
  | _ => (False, none, svNil)
theorem q_X_init {S : MS} {a : Nat} : f_X_init [.ref a] S = ((obj S a 4 ∧ S.1 + 200 ≤ 1000), none, x5 S a) := rfl
def sp_X_init : Nat → Sp := spL [(23, f_H_init), (53, f_P_init), (49, f_N_init)]
theorem sp_X_init_23 : sp_X_init 23 = f_H_init := rfl
theorem sp_X_init_53 : sp_X_init 53 = f_P_init := rfl
theorem sp_X_init_49 : sp_X_init 49 = f_N_init := rfl
set_option maxHeartbeats 1000000 in
set_option maxRecDepth 20000 in
theorem lp_X_init_0 {sc : Nat × (Nat → Int32)} {S : MS} {a : Nat} (ho : obj S a 4) (hS : S.1 + 200 ≤ 1000) {Q : Option Value → MS → Prop} (hQ : Vf 72 sp_X_init ((S.1 + 125, S.2.1 + 9445), sc) 15 [.ref a] [] (x1 S a) Q) : Vf 72 sp_X_init ((S.1 + 125, S.2.1 + 9445), sc) 4 [.ref a] [] S Q := by
  have e1 : S.1 = S.1 + 0 := rfl
  have e2 : S.2.1 = S.2.1 + 0 := rfl
  have r1 : (hZ (svNew S 0 0 (nf 0) (fun k => defaultValue (fty 0 k))) S.1 (g3F 6)).1 = S.1 + 17 := x1_1 S a
  have r2 : (hZ (svNew S 0 0 (nf 0) (fun k => defaultValue (fty 0 k))) S.1 (g3F 6)).2.1 = S.2.1 + 1328 := x1_2 S a
  have f1 : S.1 < 1000 := by rw [e1]; omega
  have f2 : S.1 + 1 ≤ S.1 + 125 := by rw [e1]; omega
  have f3 : S.2.1 + nf 0 ≤ S.2.1 + 9445 := by show _ + 16 ≤ _; omega
  have f4 : obj (svNew S 0 0 (nf 0) (fun k => defaultValue (fty 0 k))) S.1 0 := obj_at f1 (by decide)
  have f5 : S.1 + 1 + 16 ≤ 1000 := by rw [e1]; omega
  have f6 : S.1 + 1 ≤ (hZ (svNew S 0 0 (nf 0) (fun k => defaultValue (fty 0 k))) S.1 (g3F 6)).1 := by rw [r1]; omega
  have fn : nf 0 = 16 := rfl
  have f7 : S.2.1 + nf 0 ≤ (hZ (svNew S 0 0 (nf 0) (fun k => defaultValue (fty 0 k))) S.1 (g3F 6)).2.1 := by rw [r2, fn]; omega
  have f8 : (hZ (svNew S 0 0 (nf 0) (fun k => defaultValue (fty 0 k))) S.1 (g3F 6)).1 ≤ S.1 + 125 := by rw [r1]; omega
  have f9 : (hZ (svNew S 0 0 (nf 0) (fun k => defaultValue (fty 0 k))) S.1 (g3F 6)).2.1 ≤ S.2.1 + 9445 := by rw [r2]; omega
  have fA : obj (hZ (svNew S 0 0 (nf 0) (fun k => defaultValue (fty 0 k))) S.1 (g3F 6)) a 4 := x1_o (a := a) ho
  have fB : svSet (hZ (svNew S 0 0 (nf 0) (fun k => defaultValue (fty 0 k))) S.1 (g3F 6)) a 0 (.ref S.1) = x1 S a := rfl
  simp only [rX_init_4, rX_init_5, rX_init_8, rX_init_9, rX_init_12, ct1_i, ct1_r, ct1_n, true_and, and_true, tl_s, tl_n, le4_0, le4_1, le4_2, le4_3, le4_4, le4_5, isO_r, cl_, sp_X_init_23, sp_X_init_53, sp_X_init_49, q_H_init, q_P_init, q_N_init, fok_ob, sn1_, sn2_, f1, f2, f3, f4, f5, f6, f7, f8, f9, fA, fB]
  exact hQ
set_option maxHeartbeats 1000000 in
set_option maxRecDepth 20000 in
theorem lp_X_init_1 {sc : Nat × (Nat → Int32)} {S : MS} {a : Nat} (ho : obj S a 4) (hS : S.1 + 200 ≤ 1000) {Q : Option Value → MS → Prop} (hQ : Vf 72 sp_X_init ((S.1 + 125, S.2.1 + 9445), sc) 26 [.ref a] [] (x2 S a) Q) : Vf 72 sp_X_init ((S.1 + 125, S.2.1 + 9445), sc) 15 [.ref a] [] (x1 S a) Q := by
  have e1 : (x1 S a).1 = S.1 + 17 := x1_1 S a
  have e2 : (x1 S a).2.1 = S.2.1 + 1328 := x1_2 S a
  have r1 : (hZ (svNew (x1 S a) 0 0 (nf 0) (fun k => defaultValue (fty 0 k))) (x1 S a).1 (g3F 6)).1 = S.1 + 34 := x2_1 S a
  have r2 : (hZ (svNew (x1 S a) 0 0 (nf 0) (fun k => defaultValue (fty 0 k))) (x1 S a).1 (g3F 6)).2.1 = S.2.1 + 2656 := x2_2 S a
  have f1 : (x1 S a).1 < 1000 := by rw [e1]; omega
  have f2 : (x1 S a).1 + 1 ≤ S.1 + 125 := by rw [e1]; omega
  have f3 : (x1 S a).2.1 + nf 0 ≤ S.2.1 + 9445 := by show _ + 16 ≤ _; omega
  have f4 : obj (svNew (x1 S a) 0 0 (nf 0) (fun k => defaultValue (fty 0 k))) (x1 S a).1 0 := obj_at f1 (by decide)
  have f5 : (x1 S a).1 + 1 + 16 ≤ 1000 := by rw [e1]; omega
  have f6 : (x1 S a).1 + 1 ≤ (hZ (svNew (x1 S a) 0 0 (nf 0) (fun k => defaultValue (fty 0 k))) (x1 S a).1 (g3F 6)).1 := by rw [r1]; omega
  have fn : nf 0 = 16 := rfl
  have f7 : (x1 S a).2.1 + nf 0 ≤ (hZ (svNew (x1 S a) 0 0 (nf 0) (fun k => defaultValue (fty 0 k))) (x1 S a).1 (g3F 6)).2.1 := by rw [r2, fn]; omega
  have f8 : (hZ (svNew (x1 S a) 0 0 (nf 0) (fun k => defaultValue (fty 0 k))) (x1 S a).1 (g3F 6)).1 ≤ S.1 + 125 := by rw [r1]; omega
  have f9 : (hZ (svNew (x1 S a) 0 0 (nf 0) (fun k => defaultValue (fty 0 k))) (x1 S a).1 (g3F 6)).2.1 ≤ S.2.1 + 9445 := by rw [r2]; omega
  have fA : obj (hZ (svNew (x1 S a) 0 0 (nf 0) (fun k => defaultValue (fty 0 k))) (x1 S a).1 (g3F 6)) a 4 := x2_o (a := a) ho
  have fB : svSet (hZ (svNew (x1 S a) 0 0 (nf 0) (fun k => defaultValue (fty 0 k))) (x1 S a).1 (g3F 6)) a 1 (.ref (x1 S a).1) = x2 S a := rfl
  simp only [rX_init_15, rX_init_16, rX_init_19, rX_init_20, rX_init_23, ct1_i, ct1_r, ct1_n, true_and, and_true, tl_s, tl_n, le4_0, le4_1, le4_2, le4_3, le4_4, le4_5, isO_r, cl_, sp_X_init_23, sp_X_init_53, sp_X_init_49, q_H_init, q_P_init, q_N_init, fok_ob, sn1_, sn2_, f1, f2, f3, f4, f5, f6, f7, f8, f9, fA, fB]
  exact hQ
set_option maxHeartbeats 1000000 in
set_option maxRecDepth 20000 in
theorem lp_X_init_2 {sc : Nat × (Nat → Int32)} {S : MS} {a : Nat} (ho : obj S a 4) (hS : S.1 + 200 ≤ 1000) {Q : Option Value → MS → Prop} (hQ : Vf 72 sp_X_init ((S.1 + 125, S.2.1 + 9445), sc) 37 [.ref a] [] (x3 S a) Q) : Vf 72 sp_X_init ((S.1 + 125, S.2.1 + 9445), sc) 26 [.ref a] [] (x2 S a) Q := by
  have e1 : (x2 S a).1 = S.1 + 34 := x2_1 S a
  have e2 : (x2 S a).2.1 = S.2.1 + 2656 := x2_2 S a
  have r1 : (hZ (svNew (x2 S a) 0 0 (nf 0) (fun k => defaultValue (fty 0 k))) (x2 S a).1 (g3F 6)).1 = S.1 + 51 := x3_1 S a
  have r2 : (hZ (svNew (x2 S a) 0 0 (nf 0) (fun k => defaultValue (fty 0 k))) (x2 S a).1 (g3F 6)).2.1 = S.2.1 + 3984 := x3_2 S a
  have f1 : (x2 S a).1 < 1000 := by rw [e1]; omega
  have f2 : (x2 S a).1 + 1 ≤ S.1 + 125 := by rw [e1]; omega
  have f3 : (x2 S a).2.1 + nf 0 ≤ S.2.1 + 9445 := by show _ + 16 ≤ _; omega
  have f4 : obj (svNew (x2 S a) 0 0 (nf 0) (fun k => defaultValue (fty 0 k))) (x2 S a).1 0 := obj_at f1 (by decide)
  have f5 : (x2 S a).1 + 1 + 16 ≤ 1000 := by rw [e1]; omega
  have f6 : (x2 S a).1 + 1 ≤ (hZ (svNew (x2 S a) 0 0 (nf 0) (fun k => defaultValue (fty 0 k))) (x2 S a).1 (g3F 6)).1 := by rw [r1]; omega
  have fn : nf 0 = 16 := rfl
  have f7 : (x2 S a).2.1 + nf 0 ≤ (hZ (svNew (x2 S a) 0 0 (nf 0) (fun k => defaultValue (fty 0 k))) (x2 S a).1 (g3F 6)).2.1 := by rw [r2, fn]; omega
  have f8 : (hZ (svNew (x2 S a) 0 0 (nf 0) (fun k => defaultValue (fty 0 k))) (x2 S a).1 (g3F 6)).1 ≤ S.1 + 125 := by rw [r1]; omega
  have f9 : (hZ (svNew (x2 S a) 0 0 (nf 0) (fun k => defaultValue (fty 0 k))) (x2 S a).1 (g3F 6)).2.1 ≤ S.2.1 + 9445 := by rw [r2]; omega
  have fA : obj (hZ (svNew (x2 S a) 0 0 (nf 0) (fun k => defaultValue (fty 0 k))) (x2 S a).1 (g3F 6)) a 4 := x3_o (a := a) ho
  have fB : svSet (hZ (svNew (x2 S a) 0 0 (nf 0) (fun k => defaultValue (fty 0 k))) (x2 S a).1 (g3F 6)) a 2 (.ref (x2 S a).1) = x3 S a := rfl
  simp only [rX_init_26, rX_init_27, rX_init_30, rX_init_31, rX_init_34, ct1_i, ct1_r, ct1_n, true_and, and_true, tl_s, tl_n, le4_0, le4_1, le4_2, le4_3, le4_4, le4_5, isO_r, cl_, sp_X_init_23, sp_X_init_53, sp_X_init_49, q_H_init, q_P_init, q_N_init, fok_ob, sn1_, sn2_, f1, f2, f3, f4, f5, f6, f7, f8, f9, fA, fB]
  exact hQ
set_option maxHeartbeats 1000000 in
set_option maxRecDepth 20000 in
theorem lp_X_init_3 {sc : Nat × (Nat → Int32)} {S : MS} {a : Nat} (ho : obj S a 4) (hS : S.1 + 200 ≤ 1000) {Q : Option Value → MS → Prop} (hQ : Vf 72 sp_X_init ((S.1 + 125, S.2.1 + 9445), sc) 48 [.ref a] [] (x4 S a) Q) : Vf 72 sp_X_init ((S.1 + 125, S.2.1 + 9445), sc) 37 [.ref a] [] (x3 S a) Q := by
  have e1 : (x3 S a).1 = S.1 + 51 := x3_1 S a
  have e2 : (x3 S a).2.1 = S.2.1 + 3984 := x3_2 S a
  have r1 : (pX (svNew (x3 S a) 2 0 (nf 2) (fun k => defaultValue (fty 2 k))) (x3 S a).1 4).1 = S.1 + 121 := x4_1 S a
  have r2 : (pX (svNew (x3 S a) 2 0 (nf 2) (fun k => defaultValue (fty 2 k))) (x3 S a).1 4).2.1 = S.2.1 + 9303 := x4_2 S a
  have f1 : (x3 S a).1 < 1000 := by rw [e1]; omega
  have f2 : (x3 S a).1 + 1 ≤ S.1 + 125 := by rw [e1]; omega
  have f3 : (x3 S a).2.1 + nf 2 ≤ S.2.1 + 9445 := by show _ + 3 ≤ _; omega
  have f4 : obj (svNew (x3 S a) 2 0 (nf 2) (fun k => defaultValue (fty 2 k))) (x3 S a).1 2 := obj_at f1 (by decide)
  have f5 : (x3 S a).1 + 1 + 100 ≤ 1000 := by rw [e1]; omega
  have f6 : (x3 S a).1 + 1 ≤ (pX (svNew (x3 S a) 2 0 (nf 2) (fun k => defaultValue (fty 2 k))) (x3 S a).1 4).1 := by rw [r1]; omega
  have fn : nf 2 = 3 := rfl
  have f7 : (x3 S a).2.1 + nf 2 ≤ (pX (svNew (x3 S a) 2 0 (nf 2) (fun k => defaultValue (fty 2 k))) (x3 S a).1 4).2.1 := by rw [r2, fn]; omega
  have f8 : (pX (svNew (x3 S a) 2 0 (nf 2) (fun k => defaultValue (fty 2 k))) (x3 S a).1 4).1 ≤ S.1 + 125 := by rw [r1]; omega
  have f9 : (pX (svNew (x3 S a) 2 0 (nf 2) (fun k => defaultValue (fty 2 k))) (x3 S a).1 4).2.1 ≤ S.2.1 + 9445 := by rw [r2]; omega
  have fA : obj (pX (svNew (x3 S a) 2 0 (nf 2) (fun k => defaultValue (fty 2 k))) (x3 S a).1 4) a 4 := x4_o (a := a) ho
  have fB : svSet (pX (svNew (x3 S a) 2 0 (nf 2) (fun k => defaultValue (fty 2 k))) (x3 S a).1 4) a 3 (.ref (x3 S a).1) = x4 S a := rfl
  simp only [rX_init_37, rX_init_38, rX_init_41, rX_init_42, rX_init_45, ct1_i, ct1_r, ct1_n, true_and, and_true, tl_s, tl_n, le4_0, le4_1, le4_2, le4_3, le4_4, le4_5, isO_r, cl_, sp_X_init_23, sp_X_init_53, sp_X_init_49, q_H_init, q_P_init, q_N_init, fok_ob, sn1_, sn2_, f1, f2, f3, f4, f5, f6, f7, f8, f9, fA, fB]
  exact hQ
set_option maxHeartbeats 1000000 in
set_option maxRecDepth 20000 in
theorem lp_X_init_4 {sc : Nat × (Nat → Int32)} {S : MS} {a : Nat} (ho : obj S a 4) (hS : S.1 + 200 ≤ 1000) {Q : Option Value → MS → Prop} (hQ : Vf 72 sp_X_init ((S.1 + 125, S.2.1 + 9445), sc) 59 [.ref a] [] (x5 S a) Q) : Vf 72 sp_X_init ((S.1 + 125, S.2.1 + 9445), sc) 48 [.ref a] [] (x4 S a) Q := by
  have e1 : (x4 S a).1 = S.1 + 121 := x4_1 S a
  have e2 : (x4 S a).2.1 = S.2.1 + 9303 := x4_2 S a
  have r1 : (nS (svNew (x4 S a) 1 0 (nf 1) (fun k => defaultValue (fty 1 k))) (x4 S a).1).1 = S.1 + 125 := x5_1 S a
  have r2 : (nS (svNew (x4 S a) 1 0 (nf 1) (fun k => defaultValue (fty 1 k))) (x4 S a).1).2.1 = S.2.1 + 9445 := x5_2 S a
  have f1 : (x4 S a).1 < 1000 := by rw [e1]; omega
  have f2 : (x4 S a).1 + 1 ≤ S.1 + 125 := by rw [e1]; omega
  have f3 : (x4 S a).2.1 + nf 1 ≤ S.2.1 + 9445 := by show _ + 5 ≤ _; omega
  have f4 : obj (svNew (x4 S a) 1 0 (nf 1) (fun k => defaultValue (fty 1 k))) (x4 S a).1 1 := obj_at f1 (by decide)
  have f5 : (x4 S a).1 + 1 + 16 ≤ 1000 := by rw [e1]; omega
  have f6 : (x4 S a).1 + 1 ≤ (nS (svNew (x4 S a) 1 0 (nf 1) (fun k => defaultValue (fty 1 k))) (x4 S a).1).1 := by rw [r1]; omega
  have fn : nf 1 = 5 := rfl
  have f7 : (x4 S a).2.1 + nf 1 ≤ (nS (svNew (x4 S a) 1 0 (nf 1) (fun k => defaultValue (fty 1 k))) (x4 S a).1).2.1 := by rw [r2, fn]; omega
  have f8 : (nS (svNew (x4 S a) 1 0 (nf 1) (fun k => defaultValue (fty 1 k))) (x4 S a).1).1 ≤ S.1 + 125 := by rw [r1]; omega
  have f9 : (nS (svNew (x4 S a) 1 0 (nf 1) (fun k => defaultValue (fty 1 k))) (x4 S a).1).2.1 ≤ S.2.1 + 9445 := by rw [r2]; omega
  have fA : obj (nS (svNew (x4 S a) 1 0 (nf 1) (fun k => defaultValue (fty 1 k))) (x4 S a).1) a 4 := x5_o (a := a) ho
  have fB : svSet (nS (svNew (x4 S a) 1 0 (nf 1) (fun k => defaultValue (fty 1 k))) (x4 S a).1) a 4 (.ref (x4 S a).1) = x5 S a := rfl
  simp only [rX_init_48, rX_init_49, rX_init_52, rX_init_53, rX_init_56, ct1_i, ct1_r, ct1_n, true_and, and_true, tl_s, tl_n, le4_0, le4_1, le4_2, le4_3, le4_4, le4_5, isO_r, cl_, sp_X_init_23, sp_X_init_53, sp_X_init_49, q_H_init, q_P_init, q_N_init, fok_ob, sn1_, sn2_, f1, f2, f3, f4, f5, f6, f7, f8, f9, fA, fB]
  exact hQ
set_option maxHeartbeats 1000000 in
set_option maxRecDepth 20000 in
theorem ok_X_init : SpecOK 72 f_X_init := SpecOK.of (sp := sp_X_init) (by decide) (by decide) (spL_ok (List.forall_mem_cons.mpr ⟨ok_H_init, List.forall_mem_cons.mpr ⟨ok_P_init, List.forall_mem_cons.mpr ⟨ok_N_init, fun q h => absurd h List.not_mem_nil⟩⟩⟩)) (by
  intro sc av S hp
  unfold f_X_init at hp ⊢
  split at hp
  · rename_i a
    obtain ⟨ho, hS⟩ := hp
    refine ⟨Nat.le_of_ble_eq_true rfl, allc (of_eq_true (ct1_r _)) all0, by show S.1 ≤ (x5 S a).1; rw [x5_1]; omega, by show S.2.1 ≤ (x5 S a).2.1; rw [x5_2]; omega, ?_⟩
    show Vf 72 _ (((x5 S a).1, (x5 S a).2.1), sc) 0 [.ref a] [] S _
    rw [x5_1, x5_2]
    simp only [rX_init_0, rX_init_1, ct1_i, ct1_r, ct1_n, true_and, and_true, tl_s, tl_n, le4_0, le4_1, le4_2, le4_3, le4_4, le4_5, isO_r]
    refine lp_X_init_0 ho hS (lp_X_init_1 ho hS (lp_X_init_2 ho hS (lp_X_init_3 ho hS (lp_X_init_4 ho hS ?_))))
    rw [rX_init_59]
    exact ⟨rfl, rfl⟩
  · exact absurd hp id)
def y1 (S : MS) (a : Nat) : MS := svSet (svNew S 7 1289 1289 (fun _ => .int 0)) a 0 (.ref S.1)
theorem y1_1 (S : MS) (a : Nat) : (y1 S a).1 = S.1 + 1 := rfl
theorem y1_2 (S : MS) (a : Nat) : (y1 S a).2.1 = S.2.1 + 1289 := rfl
theorem y1_o {S : MS} {a b c : Nat} (h : obj S b c) : obj (y1 S a) b c := (show obj (svNew S 7 1289 1289 (fun _ => .int 0)) b c from obj_new h)
def y2 (S : MS) (a : Nat) : MS := svSet (svNew (y1 S a) 7 1289 1289 (fun _ => .int 0)) a 1 (.ref (y1 S a).1)
theorem y2_1 (S : MS) (a : Nat) : (y2 S a).1 = S.1 + 2 := rfl
theorem y2_2 (S : MS) (a : Nat) : (y2 S a).2.1 = S.2.1 + 2578 := by
  show (y1 S a).2.1 + 1289 = _
  rw [y1_2]
theorem y2_o {S : MS} {a b c : Nat} (h : obj S b c) : obj (y2 S a) b c := (show obj (svNew (y1 S a) 7 1289 1289 (fun _ => .int 0)) b c from obj_new (y1_o h))
def y3 (S : MS) (a : Nat) : MS := svSet (svNew (y2 S a) 7 1289 1289 (fun _ => .int 0)) a 2 (.ref (y2 S a).1)
theorem y3_1 (S : MS) (a : Nat) : (y3 S a).1 = S.1 + 3 := rfl
theorem y3_2 (S : MS) (a : Nat) : (y3 S a).2.1 = S.2.1 + 3867 := by
  show (y2 S a).2.1 + 1289 = _
  rw [y2_2]
theorem y3_o {S : MS} {a b c : Nat} (h : obj S b c) : obj (y3 S a) b c := (show obj (svNew (y2 S a) 7 1289 1289 (fun _ => .int 0)) b c from obj_new (y2_o h))
def y4 (S : MS) (a : Nat) : MS := svSet (svNew (y3 S a) 7 1289 1289 (fun _ => .int 0)) a 3 (.ref (y3 S a).1)
theorem y4_1 (S : MS) (a : Nat) : (y4 S a).1 = S.1 + 4 := rfl
theorem y4_2 (S : MS) (a : Nat) : (y4 S a).2.1 = S.2.1 + 5156 := by
  show (y3 S a).2.1 + 1289 = _
  rw [y3_2]
theorem y4_o {S : MS} {a b c : Nat} (h : obj S b c) : obj (y4 S a) b c := (show obj (svNew (y3 S a) 7 1289 1289 (fun _ => .int 0)) b c from obj_new (y3_o h))
def y5 (S : MS) (a : Nat) : MS := svSet (svNew (y4 S a) 7 5156 5156 (fun _ => .int 0)) a 5 (.ref (y4 S a).1)
theorem y5_1 (S : MS) (a : Nat) : (y5 S a).1 = S.1 + 5 := rfl
theorem y5_2 (S : MS) (a : Nat) : (y5 S a).2.1 = S.2.1 + 10312 := by
  show (y4 S a).2.1 + 5156 = _
  rw [y4_2]
theorem y5_o {S : MS} {a b c : Nat} (h : obj S b c) : obj (y5 S a) b c := (show obj (svNew (y4 S a) 7 5156 5156 (fun _ => .int 0)) b c from obj_new (y4_o h))
def y6 (S : MS) (a : Nat) : MS := svSet (svNew (y5 S a) 7 60 60 (fun _ => .int 0)) a 7 (.ref (y5 S a).1)
theorem y6_1 (S : MS) (a : Nat) : (y6 S a).1 = S.1 + 6 := rfl
theorem y6_2 (S : MS) (a : Nat) : (y6 S a).2.1 = S.2.1 + 10372 := by
  show (y5 S a).2.1 + 60 = _
  rw [y5_2]
theorem y6_o {S : MS} {a b c : Nat} (h : obj S b c) : obj (y6 S a) b c := (show obj (svNew (y5 S a) 7 60 60 (fun _ => .int 0)) b c from obj_new (y5_o h))
def y7 (S : MS) (a : Nat) : MS := svSet (svNew (y6 S a) 7 5 5 (fun _ => .int 0)) a 11 (.ref (y6 S a).1)
theorem y7_1 (S : MS) (a : Nat) : (y7 S a).1 = S.1 + 7 := rfl
theorem y7_2 (S : MS) (a : Nat) : (y7 S a).2.1 = S.2.1 + 10377 := by
  show (y6 S a).2.1 + 5 = _
  rw [y6_2]
theorem y7_o {S : MS} {a b c : Nat} (h : obj S b c) : obj (y7 S a) b c := (show obj (svNew (y6 S a) 7 5 5 (fun _ => .int 0)) b c from obj_new (y6_o h))
set_option maxHeartbeats 1000000 in
set_option maxRecDepth 20000 in
theorem lp_M_init_0 {sp : Nat → Sp} {sc : Nat × (Nat → Int32)} {S : MS} {a : Nat} (ho : obj S a 5) (hS : S.1 + 20 ≤ 1000) {Q : Option Value → MS → Prop} (hQ : Vf 114 sp ((S.1 + 7, S.2.1 + 10377), sc) 13 [.ref a, .null] [] (y1 S a) Q) : Vf 114 sp ((S.1 + 7, S.2.1 + 10377), sc) 4 [.ref a, .null] [] S Q := by
  have e1 : S.1 = S.1 + 0 := rfl
  have e2 : S.2.1 = S.2.1 + 0 := rfl
  have f0 : (1289 : Int32).toNatClampNeg = 1289 := by decide
  have f1 : ¬ (1289 : Int32) < 0 := by decide
  have f2 : S.1 < 1000 := by rw [e1]; omega
  have f3 : (1289 : Nat) ≤ 100000 := by decide
  have f4 : S.1 + 1 ≤ S.1 + 7 := by rw [e1]; omega
  have f5 : S.2.1 + 1289 ≤ S.2.1 + 10377 := by rw [e2]; omega
  have f6 : obj (svNew S 7 1289 1289 (fun _ => .int 0)) a 5 := obj_new ho
  have f7 : svSet (svNew S 7 1289 1289 (fun _ => .int 0)) a 0 (.ref S.1) = y1 S a := rfl
  simp only [rM_init_4, rM_init_5, rM_init_8, rM_init_10, ct1_i, ct1_r, ct1_n, true_and, and_true, tl_s, tl_n, le4_0, le4_1, le4_2, le4_3, le4_4, le4_5, isO_r, fok_ai, f0, f1, f2, f3, f4, f5, f6, f7, not_false_eq_true]
  exact hQ
set_option maxHeartbeats 1000000 in
set_option maxRecDepth 20000 in
theorem lp_M_init_1 {sp : Nat → Sp} {sc : Nat × (Nat → Int32)} {S : MS} {a : Nat} (ho : obj S a 5) (hS : S.1 + 20 ≤ 1000) {Q : Option Value → MS → Prop} (hQ : Vf 114 sp ((S.1 + 7, S.2.1 + 10377), sc) 22 [.ref a, .null] [] (y2 S a) Q) : Vf 114 sp ((S.1 + 7, S.2.1 + 10377), sc) 13 [.ref a, .null] [] (y1 S a) Q := by
  have e1 : (y1 S a).1 = S.1 + 1 := y1_1 S a
  have e2 : (y1 S a).2.1 = S.2.1 + 1289 := y1_2 S a
  have f0 : (1289 : Int32).toNatClampNeg = 1289 := by decide
  have f1 : ¬ (1289 : Int32) < 0 := by decide
  have f2 : (y1 S a).1 < 1000 := by rw [e1]; omega
  have f3 : (1289 : Nat) ≤ 100000 := by decide
  have f4 : (y1 S a).1 + 1 ≤ S.1 + 7 := by rw [e1]; omega
  have f5 : (y1 S a).2.1 + 1289 ≤ S.2.1 + 10377 := by rw [e2]; omega
  have f6 : obj (svNew (y1 S a) 7 1289 1289 (fun _ => .int 0)) a 5 := obj_new (y1_o ho)
  have f7 : svSet (svNew (y1 S a) 7 1289 1289 (fun _ => .int 0)) a 1 (.ref (y1 S a).1) = y2 S a := rfl
  simp only [rM_init_13, rM_init_14, rM_init_17, rM_init_19, ct1_i, ct1_r, ct1_n, true_and, and_true, tl_s, tl_n, le4_0, le4_1, le4_2, le4_3, le4_4, le4_5, isO_r, fok_ai, f0, f1, f2, f3, f4, f5, f6, f7, not_false_eq_true]
  exact hQ
set_option maxHeartbeats 1000000 in
set_option maxRecDepth 20000 in
theorem lp_M_init_2 {sp : Nat → Sp} {sc : Nat × (Nat → Int32)} {S : MS} {a : Nat} (ho : obj S a 5) (hS : S.1 + 20 ≤ 1000) {Q : Option Value → MS → Prop} (hQ : Vf 114 sp ((S.1 + 7, S.2.1 + 10377), sc) 31 [.ref a, .null] [] (y3 S a) Q) : Vf 114 sp ((S.1 + 7, S.2.1 + 10377), sc) 22 [.ref a, .null] [] (y2 S a) Q := by
  have e1 : (y2 S a).1 = S.1 + 2 := y2_1 S a
  have e2 : (y2 S a).2.1 = S.2.1 + 2578 := y2_2 S a
  have f0 : (1289 : Int32).toNatClampNeg = 1289 := by decide
  have f1 : ¬ (1289 : Int32) < 0 := by decide
  have f2 : (y2 S a).1 < 1000 := by rw [e1]; omega
  have f3 : (1289 : Nat) ≤ 100000 := by decide
  have f4 : (y2 S a).1 + 1 ≤ S.1 + 7 := by rw [e1]; omega
  have f5 : (y2 S a).2.1 + 1289 ≤ S.2.1 + 10377 := by rw [e2]; omega
  have f6 : obj (svNew (y2 S a) 7 1289 1289 (fun _ => .int 0)) a 5 := obj_new (y2_o ho)
  have f7 : svSet (svNew (y2 S a) 7 1289 1289 (fun _ => .int 0)) a 2 (.ref (y2 S a).1) = y3 S a := rfl
  simp only [rM_init_22, rM_init_23, rM_init_26, rM_init_28, ct1_i, ct1_r, ct1_n, true_and, and_true, tl_s, tl_n, le4_0, le4_1, le4_2, le4_3, le4_4, le4_5, isO_r, fok_ai, f0, f1, f2, f3, f4, f5, f6, f7, not_false_eq_true]
  exact hQ
set_option maxHeartbeats 1000000 in
set_option maxRecDepth 20000 in
theorem lp_M_init_3 {sp : Nat → Sp} {sc : Nat × (Nat → Int32)} {S : MS} {a : Nat} (ho : obj S a 5) (hS : S.1 + 20 ≤ 1000) {Q : Option Value → MS → Prop} (hQ : Vf 114 sp ((S.1 + 7, S.2.1 + 10377), sc) 40 [.ref a, .null] [] (y4 S a) Q) : Vf 114 sp ((S.1 + 7, S.2.1 + 10377), sc) 31 [.ref a, .null] [] (y3 S a) Q := by
  have e1 : (y3 S a).1 = S.1 + 3 := y3_1 S a
  have e2 : (y3 S a).2.1 = S.2.1 + 3867 := y3_2 S a
  have f0 : (1289 : Int32).toNatClampNeg = 1289 := by decide
  have f1 : ¬ (1289 : Int32) < 0 := by decide
  have f2 : (y3 S a).1 < 1000 := by rw [e1]; omega
  have f3 : (1289 : Nat) ≤ 100000 := by decide
  have f4 : (y3 S a).1 + 1 ≤ S.1 + 7 := by rw [e1]; omega
  have f5 : (y3 S a).2.1 + 1289 ≤ S.2.1 + 10377 := by rw [e2]; omega
  have f6 : obj (svNew (y3 S a) 7 1289 1289 (fun _ => .int 0)) a 5 := obj_new (y3_o ho)
  have f7 : svSet (svNew (y3 S a) 7 1289 1289 (fun _ => .int 0)) a 3 (.ref (y3 S a).1) = y4 S a := rfl
  simp only [rM_init_31, rM_init_32, rM_init_35, rM_init_37, ct1_i, ct1_r, ct1_n, true_and, and_true, tl_s, tl_n, le4_0, le4_1, le4_2, le4_3, le4_4, le4_5, isO_r, fok_ai, f0, f1, f2, f3, f4, f5, f6, f7, not_false_eq_true]
  exact hQ
set_option maxHeartbeats 1000000 in
set_option maxRecDepth 20000 in
theorem lp_M_init_4 {sp : Nat → Sp} {sc : Nat × (Nat → Int32)} {S : MS} {a : Nat} (ho : obj S a 5) (hS : S.1 + 20 ≤ 1000) {Q : Option Value → MS → Prop} (hQ : Vf 114 sp ((S.1 + 7, S.2.1 + 10377), sc) 49 [.ref a, .null] [] (y5 S a) Q) : Vf 114 sp ((S.1 + 7, S.2.1 + 10377), sc) 40 [.ref a, .null] [] (y4 S a) Q := by
  have e1 : (y4 S a).1 = S.1 + 4 := y4_1 S a
  have e2 : (y4 S a).2.1 = S.2.1 + 5156 := y4_2 S a
  have f0 : (5156 : Int32).toNatClampNeg = 5156 := by decide
  have f1 : ¬ (5156 : Int32) < 0 := by decide
  have f2 : (y4 S a).1 < 1000 := by rw [e1]; omega
  have f3 : (5156 : Nat) ≤ 100000 := by decide
  have f4 : (y4 S a).1 + 1 ≤ S.1 + 7 := by rw [e1]; omega
  have f5 : (y4 S a).2.1 + 5156 ≤ S.2.1 + 10377 := by rw [e2]; omega
  have f6 : obj (svNew (y4 S a) 7 5156 5156 (fun _ => .int 0)) a 5 := obj_new (y4_o ho)
  have f7 : svSet (svNew (y4 S a) 7 5156 5156 (fun _ => .int 0)) a 5 (.ref (y4 S a).1) = y5 S a := rfl
  simp only [rM_init_40, rM_init_41, rM_init_44, rM_init_46, ct1_i, ct1_r, ct1_n, true_and, and_true, tl_s, tl_n, le4_0, le4_1, le4_2, le4_3, le4_4, le4_5, isO_r, fok_ai, f0, f1, f2, f3, f4, f5, f6, f7, not_false_eq_true]
  exact hQ
set_option maxHeartbeats 1000000 in
set_option maxRecDepth 20000 in
theorem lp_M_init_5 {sp : Nat → Sp} {sc : Nat × (Nat → Int32)} {S : MS} {a : Nat} (ho : obj S a 5) (hS : S.1 + 20 ≤ 1000) {Q : Option Value → MS → Prop} (hQ : Vf 114 sp ((S.1 + 7, S.2.1 + 10377), sc) 57 [.ref a, .null] [] (y6 S a) Q) : Vf 114 sp ((S.1 + 7, S.2.1 + 10377), sc) 49 [.ref a, .null] [] (y5 S a) Q := by
  have e1 : (y5 S a).1 = S.1 + 5 := y5_1 S a
  have e2 : (y5 S a).2.1 = S.2.1 + 10312 := y5_2 S a
  have f0 : (60 : Int32).toNatClampNeg = 60 := by decide
  have f1 : ¬ (60 : Int32) < 0 := by decide
  have f2 : (y5 S a).1 < 1000 := by rw [e1]; omega
  have f3 : (60 : Nat) ≤ 100000 := by decide
  have f4 : (y5 S a).1 + 1 ≤ S.1 + 7 := by rw [e1]; omega
  have f5 : (y5 S a).2.1 + 60 ≤ S.2.1 + 10377 := by rw [e2]; omega
  have f6 : obj (svNew (y5 S a) 7 60 60 (fun _ => .int 0)) a 5 := obj_new (y5_o ho)
  have f7 : svSet (svNew (y5 S a) 7 60 60 (fun _ => .int 0)) a 7 (.ref (y5 S a).1) = y6 S a := rfl
  simp only [rM_init_49, rM_init_50, rM_init_52, rM_init_54, ct1_i, ct1_r, ct1_n, true_and, and_true, tl_s, tl_n, le4_0, le4_1, le4_2, le4_3, le4_4, le4_5, isO_r, fok_ai, f0, f1, f2, f3, f4, f5, f6, f7, not_false_eq_true]
  exact hQ
set_option maxHeartbeats 1000000 in
set_option maxRecDepth 20000 in
theorem lp_M_init_6 {sp : Nat → Sp} {sc : Nat × (Nat → Int32)} {S : MS} {a : Nat} (ho : obj S a 5) (hS : S.1 + 20 ≤ 1000) {Q : Option Value → MS → Prop} (hQ : Vf 114 sp ((S.1 + 7, S.2.1 + 10377), sc) 64 [.ref a, .null] [] (y7 S a) Q) : Vf 114 sp ((S.1 + 7, S.2.1 + 10377), sc) 57 [.ref a, .null] [] (y6 S a) Q := by
  have e1 : (y6 S a).1 = S.1 + 6 := y6_1 S a
  have e2 : (y6 S a).2.1 = S.2.1 + 10372 := y6_2 S a
  have f0 : (5 : Int32).toNatClampNeg = 5 := by decide
  have f1 : ¬ (5 : Int32) < 0 := by decide
  have f2 : (y6 S a).1 < 1000 := by rw [e1]; omega
  have f3 : (5 : Nat) ≤ 100000 := by decide
  have f4 : (y6 S a).1 + 1 ≤ S.1 + 7 := by rw [e1]; omega
  have f5 : (y6 S a).2.1 + 5 ≤ S.2.1 + 10377 := by rw [e2]; omega
  have f6 : obj (svNew (y6 S a) 7 5 5 (fun _ => .int 0)) a 5 := obj_new (y6_o ho)
  have f7 : svSet (svNew (y6 S a) 7 5 5 (fun _ => .int 0)) a 11 (.ref (y6 S a).1) = y7 S a := rfl
  simp only [rM_init_57, rM_init_58, rM_init_59, rM_init_61, ct1_i, ct1_r, ct1_n, true_and, and_true, tl_s, tl_n, le4_0, le4_1, le4_2, le4_3, le4_4, le4_5, isO_r, fok_ai, f0, f1, f2, f3, f4, f5, f6, f7, not_false_eq_true]
  exact hQ
/-- the check with f in its row -/
def yZ (S : MS) (a : Nat) (f : Nat → Int32) : MS := ((y7 S a).1, (y7 S a).2.1, (y7 S a).2.2.1, fun b s => if b = S.1 then .int (f s) else (y7 S a).2.2.2 b s)
def u1 (f : Nat → Int32) (t : Nat) (x : Int32) : Nat → Int32 := fun t' => if t' = t then x else f t'
theorem yZ_0 {S : MS} {a : Nat} (ha : a < S.1) : y7 S a = yZ S a (fun _ => 0) := by
  refine ms_ext rfl rfl (fun b => rfl) (fun b s => ?_)
  show (y7 S a).2.2.2 b s = if b = S.1 then .int 0 else (y7 S a).2.2.2 b s
  by_cases h : b = S.1
  · rw [if_pos h]
    subst h
    have hna : (S.1 = a) = False := eq_false (by omega)
    simp [y7, y6, y5, y4, y3, y2, y1, ss4, sn4_, ss1, sn1_, hna]
  · rw [if_neg h]
theorem yZ_s {S : MS} {a t : Nat} {f : Nat → Int32} {x : Int32} : svSet (yZ S a f) S.1 t (.int x) = yZ S a (u1 f t x) := by
  refine ms_ext rfl rfl (fun b => rfl) (fun b s => ?_)
  show (if b = S.1 ∧ s = t then .int x else if b = S.1 then .int (f s) else (y7 S a).2.2.2 b s) = if b = S.1 then .int (if s = t then x else f s) else (y7 S a).2.2.2 b s
  by_cases h : b = S.1
  · by_cases h2 : s = t
    · rw [if_pos ⟨h, h2⟩, if_pos h, if_pos h2]
    · rw [if_neg (fun q => h2 q.2), if_pos h, if_pos h, if_neg h2]
  · rw [if_neg (fun q => h q.1), if_neg h, if_neg h]
theorem yZ_r {S : MS} {a : Nat} {f : Nat → Int32} (ha : a < S.1) : (yZ S a f).2.2.2 a 0 = .ref S.1 := by
  show (if a = S.1 then .int (f 0) else (y7 S a).2.2.2 a 0) = _
  rw [if_neg (by omega)]
  have hna : (a = S.1) = False := eq_false (by omega)
  have hnb : ∀ k, (a = S.1 + k) = False := fun k => eq_false (by omega)
  simp [y7, y6, y5, y4, y3, y2, y1, ss4, sn4_, ss1, sn1_, hna, hnb]
  rw [if_neg (by omega), if_neg (by omega), if_neg (by omega), if_neg (by omega), if_neg (by omega)]
theorem yZ_a {S : MS} {a : Nat} {f : Nat → Int32} (ha : a < S.1) (hS : S.1 + 20 ≤ 1000) : ari (yZ S a f) S.1 7 ∧ ((yZ S a f).2.2.1 S.1).2 = 1289 := by
  have e : (yZ S a f).2.2.1 S.1 = (7, 1289) := by
    show (y7 S a).2.2.1 S.1 = _
    simp [y7, y6, y5, y4, y3, y2, y1, ss3, sn3_, ss1, sn1_]
    rw [if_neg (by omega), if_neg (by omega), if_neg (by omega)]
  refine ⟨⟨by omega, by show S.1 < (y7 S a).1; rw [y7_1]; omega, by rw [e]⟩, by rw [e]⟩
def fmA : Nat → Int32 := u1 (u1 (u1 (u1 (u1 (fun _ => 0) 1 8) 2 120) 3 15) 4 3) 5 5
def fmB (n : Nat) : Nat → Int32 := fun t => if 17 ≤ t ∧ t < 17 + n then 4 else fmA t
def fmC (n : Nat) : Nat → Int32 := fun t => if 1169 ≤ t ∧ t < 1169 + 3 * n ∧ (t - 1169) % 3 = 0 then 5 else fmB 1000 t
theorem fmB_0 : fmA = fmB 0 := by
  funext t
  unfold fmB
  rw [if_neg (by omega)]
theorem fmB_s (n : Nat) : u1 (fmB n) (17 + n) 4 = fmB (n + 1) := by
  funext t
  unfold u1 fmB
  by_cases h : t = 17 + n
  · rw [if_pos h, if_pos (by omega)]
  · rw [if_neg h]
    by_cases h2 : 17 ≤ t ∧ t < 17 + n
    · rw [if_pos h2, if_pos (by omega)]
    · rw [if_neg h2, if_neg (by omega)]
theorem fmC_0 : fmB 1000 = fmC 0 := by
  funext t
  unfold fmC
  rw [if_neg (by omega)]
theorem fmC_s (n : Nat) : u1 (fmC n) (1169 + 3 * n) 5 = fmC (n + 1) := by
  funext t
  unfold u1 fmC
  by_cases h : t = 1169 + 3 * n
  · rw [if_pos h, if_pos (by omega)]
  · rw [if_neg h]
    by_cases h2 : 1169 ≤ t ∧ t < 1169 + 3 * n ∧ (t - 1169) % 3 = 0
    · rw [if_pos h2, if_pos (by omega)]
    · rw [if_neg h2, if_neg (by omega)]
theorem yZ_o {S : MS} {a : Nat} {f : Nat → Int32} (ho : obj S a 5) : obj (yZ S a f) a 5 := (show obj (y7 S a) a 5 from y7_o ho)
set_option maxHeartbeats 1000000 in
set_option maxRecDepth 20000 in
theorem lp_M_init_64 {sp : Nat → Sp} {sc : Nat × (Nat → Int32)} {S : MS} {a : Nat} (ho : obj S a 5) (hS : S.1 + 20 ≤ 1000) {Q : Option Value → MS → Prop} (hQ : Vf 114 sp ((S.1 + 7, S.2.1 + 10377), sc) 102 [.ref a, .null] [] (yZ S a fmA) Q) : Vf 114 sp ((S.1 + 7, S.2.1 + 10377), sc) 64 [.ref a, .null] [] (yZ S a (fun _ => 0)) Q := by
  have ha := ho.2.1
  have e1 : ∀ f, obj (yZ S a f) a 5 = True := fun f => eq_true (yZ_o ho)
  have e2 : ∀ f, (yZ S a f).2.2.2 a 0 = .ref S.1 := fun f => yZ_r ha
  have e3 : ∀ f, ari (yZ S a f) S.1 7 = True := fun f => eq_true (yZ_a ha hS).1
  have e4 : ∀ f, ((yZ S a f).2.2.1 S.1).2 = 1289 := fun f => (yZ_a ha hS).2
  simp only [rM_init_64, rM_init_65, rM_init_68, rM_init_69, rM_init_71, rM_init_72, rM_init_73, rM_init_76, rM_init_77, rM_init_79, rM_init_80, rM_init_81, rM_init_84, rM_init_85, rM_init_87, rM_init_88, rM_init_89, rM_init_92, rM_init_93, rM_init_94, rM_init_95, rM_init_96, rM_init_99, rM_init_100, rM_init_101, ct1_i, ct1_r, ct1_n, true_and, and_true, tl_s, tl_n, le4_0, le4_1, le4_2, le4_3, le4_4, le4_5, isO_r, e1, e2, e3, e4, il_1, il_2, il_3, il_4, il_5, tn_1, tn_2, tn_3, tn_4, tn_5, yZ_s]
  exact hQ
set_option maxHeartbeats 1000000 in
set_option maxRecDepth 20000 in
theorem lp_M_init_104 {sp : Nat → Sp} {sc : Nat × (Nat → Int32)} {S : MS} {a : Nat} (ho : obj S a 5) (hS : S.1 + 20 ≤ 1000) {Q : Option Value → MS → Prop} : ∀ (m n : Nat), n + m = 1000 → Vf 114 sp ((S.1 + 7, S.2.1 + 10377), sc) 127 [.ref a, .int (oN 1000)] [] (yZ S a (fmB 1000)) Q → Vf 114 sp ((S.1 + 7, S.2.1 + 10377), sc) 104 [.ref a, .int (oN n)] [] (yZ S a (fmB n)) Q := by
  intro m
  have ha := ho.2.1
  have e1 : ∀ f, obj (yZ S a f) a 5 = True := fun f => eq_true (yZ_o ho)
  have e2 : ∀ f, (yZ S a f).2.2.2 a 0 = .ref S.1 := fun f => yZ_r ha
  have e3 : ∀ f, ari (yZ S a f) S.1 7 = True := fun f => eq_true (yZ_a ha hS).1
  have e4 : ∀ f, ((yZ S a f).2.2.1 S.1).2 = 1289 := fun f => (yZ_a ha hS).2
  induction m with
  | zero =>
    intro n hn hQ
    have : n = 1000 := by omega
    subst this
    have hlt : ¬ oN 1000 < 1000 := by decide
    rw [rM_init_104]
    simp only [rM_init_105, rM_init_108, rM_init_111, rM_init_112, rM_init_115, rM_init_117, rM_init_118, rM_init_119, rM_init_120, rM_init_121, rM_init_124, ct1_i, ct1_r, ct1_n, true_and, and_true, tl_s, tl_n, le4_0, le4_1, le4_2, le4_3, le4_4, le4_5, isO_r, if_neg hlt]
    exact hQ
  | succ m ih =>
    intro n hn hQ
    have hlt : oN n < 1000 := by show oN n < oN 1000; rw [oN_lt (by omega) (by decide)]; omega
    rw [rM_init_104]
    simp only [rM_init_105, rM_init_108, rM_init_111, rM_init_112, rM_init_115, rM_init_117, rM_init_118, rM_init_119, rM_init_120, rM_init_121, rM_init_124, ct1_i, ct1_r, ct1_n, true_and, and_true, tl_s, tl_n, le4_0, le4_1, le4_2, le4_3, le4_4, le4_5, isO_r, e1, e2, e3, e4, if_pos hlt, i17n, oNn (show 17 + n < 1289 by omega) (by decide), iin_n (show 17 + n < 1289 by omega) (by decide), yZ_s, fmB_s, oN_succ]
    exact ih (n + 1) (by omega) hQ
set_option maxHeartbeats 1000000 in
set_option maxRecDepth 20000 in
theorem lp_M_init_129 {sp : Nat → Sp} (h94 : sp 94 = f_M_tail) {sc : Nat × (Nat → Int32)} {S : MS} {a : Nat} (ho : obj S a 5) (hS : S.1 + 20 ≤ 1000) {Q : Option Value → MS → Prop} : ∀ (m n : Nat), n + m = 6 → Q none (yZ S a (fmC 6)) → Vf 114 sp ((S.1 + 7, S.2.1 + 10377), sc) 129 [.ref a, .int (oN n)] [] (yZ S a (fmC n)) Q := by
  intro m
  have ha := ho.2.1
  have e1 : ∀ f, obj (yZ S a f) a 5 = True := fun f => eq_true (yZ_o ho)
  have e2 : ∀ f, (yZ S a f).2.2.2 a 0 = .ref S.1 := fun f => yZ_r ha
  have e3 : ∀ f, ari (yZ S a f) S.1 7 = True := fun f => eq_true (yZ_a ha hS).1
  have e4 : ∀ f, ((yZ S a f).2.2.1 S.1).2 = 1289 := fun f => (yZ_a ha hS).2
  have e5 : ∀ f, (yZ S a f).1 = S.1 + 7 := fun f => rfl
  have e6 : ∀ f, (yZ S a f).2.1 = S.2.1 + 10377 := fun f => y7_2 S a
  induction m with
  | zero =>
    intro n hn hQ
    have : n = 6 := by omega
    subst this
    rw [rM_init_129]
    simp only [rM_init_130, rM_init_132, rM_init_135, rM_init_136, rM_init_139, rM_init_140, rM_init_141, rM_init_144, rM_init_145, rM_init_146, rM_init_149, rM_init_152, ct1_i, ct1_r, ct1_n, true_and, and_true, tl_s, tl_n, le4_0, le4_1, le4_2, le4_3, le4_4, le4_5, isO_r, if_neg c6]
    exact hQ
  | succ m ih =>
    intro n hn hQ
    have e7 : (1169 : Int32) + 3 * oN n + 0 = oN (1169 + 3 * n) := by
      show oN 1169 + oN 3 * oN n + oN 0 = _
      rw [oN_mul, oN_add, oN_add]
      rfl
    rw [rM_init_129]
    simp only [rM_init_130, rM_init_132, rM_init_135, rM_init_136, rM_init_139, rM_init_140, rM_init_141, rM_init_144, rM_init_145, rM_init_146, rM_init_149, ct1_i, ct1_r, ct1_n, true_and, and_true, tl_s, tl_n, le4_0, le4_1, le4_2, le4_3, le4_4, le4_5, isO_r, cl_, h94, q_M_tail, le_rN, e1, e2, e3, e4, e5, e6, e7, if_pos (lt6 (show n < 6 by omega)), oNn (show 1169 + 3 * n < 1289 by omega) (by decide), iin_n (show 1169 + 3 * n < 1289 by omega) (by decide), yZ_s, fmC_s, oN_succ]
    exact ih (n + 1) (by omega) hQ
def f_M_init : Sp := fun av S => match av with
  | [.ref a] => ((obj S a 5 ∧ S.1 + 20 ≤ 1000), none, yZ S a (fmC 6))
  | _ => (False, none, svNil)
theorem q_M_init {S : MS} {a : Nat} : f_M_init [.ref a] S = ((obj S a 5 ∧ S.1 + 20 ≤ 1000), none, yZ S a (fmC 6)) := rfl
def sp_M_init : Nat → Sp := spL [(94, f_M_tail)]
theorem sp_M_init_94 : sp_M_init 94 = f_M_tail := rfl
set_option maxHeartbeats 1000000 in
set_option maxRecDepth 20000 in
theorem ok_M_init : SpecOK 114 f_M_init := SpecOK.of (sp := sp_M_init) (by decide) (by decide) (spL_ok (List.forall_mem_cons.mpr ⟨ok_M_tail, fun q h => absurd h List.not_mem_nil⟩)) (by
  intro sc av S hp
  unfold f_M_init at hp ⊢
  split at hp
  · rename_i a
    obtain ⟨ho, hS⟩ := hp
    have e2 : (yZ S a (fmC 6)).2.1 = S.2.1 + 10377 := y7_2 S a
    have e1 : (yZ S a (fmC 6)).1 = S.1 + 7 := rfl
    refine ⟨Nat.le_of_ble_eq_true rfl, allc (of_eq_true (ct1_r _)) all0, by show S.1 ≤ (yZ S a (fmC 6)).1; rw [e1]; omega, by show S.2.1 ≤ (yZ S a (fmC 6)).2.1; rw [e2]; omega, ?_⟩
    show Vf 114 _ (((yZ S a (fmC 6)).1, (yZ S a (fmC 6)).2.1), sc) 0 [.ref a, .null] [] S _
    rw [e1, e2]
    simp only [rM_init_0, rM_init_1, ct1_i, ct1_r, ct1_n, true_and, and_true, tl_s, tl_n, le4_0, le4_1, le4_2, le4_3, le4_4, le4_5, isO_r]
    refine lp_M_init_0 ho hS (lp_M_init_1 ho hS (lp_M_init_2 ho hS (lp_M_init_3 ho hS (lp_M_init_4 ho hS (lp_M_init_5 ho hS (lp_M_init_6 ho hS ?_))))))
    rw [yZ_0 ho.2.1]
    refine lp_M_init_64 ho hS ?_
    rw [fmB_0]
    simp only [rM_init_102, rM_init_103, ct1_i, ct1_r, ct1_n, true_and, and_true, tl_s, tl_n, le4_0, le4_1, le4_2, le4_3, le4_4, le4_5, isO_r]
    refine lp_M_init_104 ho hS 1000 0 rfl ?_
    rw [fmC_0]
    simp only [rM_init_127, rM_init_128, ct1_i, ct1_r, ct1_n, true_and, and_true, tl_s, tl_n, le4_0, le4_1, le4_2, le4_3, le4_4, le4_5, isO_r]
    exact lp_M_init_129 sp_M_init_94 ho hS 6 0 rfl ⟨rfl, rfl⟩
  · exact absurd hp id)

