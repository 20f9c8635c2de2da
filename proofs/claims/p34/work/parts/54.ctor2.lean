/-! CONSTRUCTORS: a hut -/
theorem hbl {S : MS} {a k : Nat} {x y : Int32} (h : obj S a 0) (hS : S.1 + 16 ≤ 1000) (hk : k < 8) (hn : tiN x y = tln k) (hz : hzk k + (2 + tln k) = hzk (k + 1)) (hz2 : hzk (k + 1) ≤ 1312) :
    (hX S a k).1 < 1000 ∧ (hX S a k).1 + 1 ≤ S.1 + 16 ∧ (hX S a k).2.1 + nf 3 ≤ S.2.1 + 1312 ∧ obj (svNew (hX S a k) 3 0 (nf 3) (fun k => defaultValue (fty 3 k))) (hX S a k).1 3 ∧
    tiP (svNew (hX S a k) 3 0 (nf 3) (fun k => defaultValue (fty 3 k))) (hX S a k).1 x y ∧ (svNew (hX S a k) 3 0 (nf 3) (fun k => defaultValue (fty 3 k))).1 ≤ (tiS (svNew (hX S a k) 3 0 (nf 3) (fun k => defaultValue (fty 3 k))) (hX S a k).1 x y).1 ∧ (svNew (hX S a k) 3 0 (nf 3) (fun k => defaultValue (fty 3 k))).2.1 ≤ (tiS (svNew (hX S a k) 3 0 (nf 3) (fun k => defaultValue (fty 3 k))) (hX S a k).1 x y).2.1 ∧
    (tiS (svNew (hX S a k) 3 0 (nf 3) (fun k => defaultValue (fty 3 k))) (hX S a k).1 x y).1 ≤ S.1 + 16 ∧ (tiS (svNew (hX S a k) 3 0 (nf 3) (fun k => defaultValue (fty 3 k))) (hX S a k).1 x y).2.1 ≤ S.2.1 + 1312 ∧ obj (tiS (svNew (hX S a k) 3 0 (nf 3) (fun k => defaultValue (fty 3 k))) (hX S a k).1 x y) a 0 := by
  have e1 : (hX S a k).1 = S.1 + 2 * k := rfl
  have e2 : (hX S a k).2.1 = S.2.1 + hzk k := rfl
  have e3 : nf 3 = 2 := rfl
  have h4 : obj (svNew (hX S a k) 3 0 (nf 3) (fun k => defaultValue (fty 3 k))) (hX S a k).1 3 := obj_at (by rw [e1]; omega) (by decide)
  have h5 : tiN x y ≤ 100000 := by
    rw [hn]
    have : ∀ j, j < 8 → tln j ≤ 100000 := by decide
    exact this k hk
  refine ⟨by rw [e1]; omega, by rw [e1]; omega, by rw [e2, e3]; omega, h4, ⟨h4, by rw [sn1_, e1]; omega, h5⟩, Nat.le_succ _, Nat.le_add_right _ _, ?_, ?_, ?_⟩
  · show S.1 + 2 * k + 1 + 1 ≤ S.1 + 16
    omega
  · show S.2.1 + hzk k + 2 + tiN x y ≤ S.2.1 + 1312
    omega
  · unfold tiS
    rw [obj_set]
    exact obj_new (S := svSet (svNew (hX S a k) 3 0 (nf 3) (fun k => defaultValue (fty 3 k))) _ _ _) (show obj (svNew (hX S a k) 3 0 (nf 3) (fun k => defaultValue (fty 3 k))) a 0 from obj_new (hX_ob h))
/-- a hut whose tables hold f -/
def hZ (S : MS) (a : Nat) (f : Nat → Nat → Int32) : MS := (S.1 + 16, S.2.1 + 1312, (hX S a 8).2.2.1,
  fun b s => if b = a ∧ s < 8 then .ref (S.1 + 2 * s) else if S.1 ≤ b ∧ b < S.1 + 16 then (if (b - S.1) % 2 = 0 then (if s = 0 then .int (tcl ((b - S.1) / 2)) else if s = 1 then .ref (b + 1) else .null) else .int (f ((b - S.1) / 2) s)) else S.2.2.2 b s)
theorem hZ_0 {S : MS} {a : Nat} : hX S a 8 = hZ S a (fun _ _ => 0) := rfl
def uf (f : Nat → Nat → Int32) (k t : Nat) (x : Int32) : Nat → Nat → Int32 := fun k' t' => if k' = k ∧ t' = t then x else f k' t'
theorem hZ_ob {S : MS} {a : Nat} {f : Nat → Nat → Int32} (h : obj S a 0) : obj (hZ S a f) a 0 := hX_ob (k := 8) h
theorem hZ_rf {S : MS} {a k : Nat} {f : Nat → Nat → Int32} (hk : k < 8) : (hZ S a f).2.2.2 a k = .ref (S.1 + 2 * k) := by
  show (if a = a ∧ k < 8 then _ else _) = _
  rw [if_pos ⟨rfl, hk⟩]
theorem hZ_t {S : MS} {a k s : Nat} {f : Nat → Nat → Int32} (ha : a < S.1) (hk : k < 8) : (hZ S a f).2.2.2 (S.1 + 2 * k) s = if s = 0 then .int (tcl k) else if s = 1 then .ref (S.1 + 2 * k + 1) else .null := by
  show (if S.1 + 2 * k = a ∧ s < 8 then _ else if S.1 ≤ S.1 + 2 * k ∧ S.1 + 2 * k < S.1 + 16 then (if (S.1 + 2 * k - S.1) % 2 = 0 then _ else _) else _) = _
  rw [if_neg (by omega), if_pos (by omega), if_pos (by omega), show (S.1 + 2 * k - S.1) / 2 = k by omega]
theorem hZ_a {S : MS} {a k s : Nat} {f : Nat → Nat → Int32} (ha : a < S.1) (hk : k < 8) : (hZ S a f).2.2.2 (S.1 + 2 * k + 1) s = .int (f k s) := by
  show (if S.1 + 2 * k + 1 = a ∧ s < 8 then _ else if S.1 ≤ S.1 + 2 * k + 1 ∧ S.1 + 2 * k + 1 < S.1 + 16 then (if (S.1 + 2 * k + 1 - S.1) % 2 = 0 then _ else _) else _) = _
  rw [if_neg (by omega), if_pos (by omega), if_neg (by omega), show (S.1 + 2 * k + 1 - S.1) / 2 = k by omega]
theorem hZ_k {S : MS} {a k : Nat} {f : Nat → Nat → Int32} (hk : k < 8) : (hZ S a f).2.2.1 (S.1 + 2 * k) = (3, 0) ∧ (hZ S a f).2.2.1 (S.1 + 2 * k + 1) = (7, tln k) := by
  constructor
  · show (if S.1 ≤ S.1 + 2 * k ∧ S.1 + 2 * k < S.1 + 2 * 8 then (if (S.1 + 2 * k - S.1) % 2 = 0 then _ else _) else _) = _
    rw [if_pos (by omega), if_pos (by omega)]
  · show (if S.1 ≤ S.1 + 2 * k + 1 ∧ S.1 + 2 * k + 1 < S.1 + 2 * 8 then (if (S.1 + 2 * k + 1 - S.1) % 2 = 0 then _ else (7, tln ((S.1 + 2 * k + 1 - S.1) / 2))) else _) = _
    rw [if_pos (by omega), if_neg (by omega), show (S.1 + 2 * k + 1 - S.1) / 2 = k by omega]
theorem tln_le : ∀ j, j < 8 → tln j < 100000 := by decide
theorem hZ_tb {S : MS} {a k : Nat} {f : Nat → Nat → Int32} (ha : a < S.1) (hS : S.1 + 16 ≤ 1000) (hk : k < 8) : tb (hZ S a f) (S.1 + 2 * k) = S.1 + 2 * k + 1 ∧ tbc (hZ S a f) (S.1 + 2 * k) = tcl k ∧ tbl (hZ S a f) (S.1 + 2 * k) = tln k ∧ tbok (hZ S a f) (S.1 + 2 * k) := by
  have h1 : tb (hZ S a f) (S.1 + 2 * k) = S.1 + 2 * k + 1 := by
    unfold tb
    rw [hZ_t ha hk]
    rfl
  have h2 : tbc (hZ S a f) (S.1 + 2 * k) = tcl k := by
    unfold tbc
    rw [hZ_t ha hk]
    rfl
  have h3 : tbl (hZ S a f) (S.1 + 2 * k) = tln k := by
    unfold tbl
    rw [h1, (hZ_k hk).2]
  have h8 : (hZ S a f).1 = S.1 + 16 := rfl
  refine ⟨h1, h2, h3, ?_⟩
  unfold tbok
  rw [h1, h2, h3, hZ_t ha hk, hZ_t ha hk]
  refine ⟨⟨by omega, by rw [h8]; omega, by rw [(hZ_k hk).1], by decide⟩, rfl, rfl, ⟨by omega, by rw [h8]; omega, by rw [(hZ_k hk).2]⟩, tln_le k hk, by omega⟩
theorem hZ_put {S : MS} {a k t : Nat} {f : Nat → Nat → Int32} {r c x : Int32} (ha : a < S.1) (hS : S.1 + 16 ≤ 1000) (hk : k < 8) (ht : t < tln k) (hr : r * tcl k + c = oN t) : f_T_put [.ref (S.1 + 2 * k), .int r, .int c, .int x] (hZ S a f) = (tbok (hZ S a f) (S.1 + 2 * k), none, hZ S a (uf f k t x)) := by
  obtain ⟨h1, h2, h3, -⟩ := hZ_tb (f := f) ha hS hk
  have h4 := tln_le k hk
  show (tbok _ _, none, if r * tbc (hZ S a f) (S.1 + 2 * k) + c < 0 then _ else if r * tbc (hZ S a f) (S.1 + 2 * k) + c < Int32.ofNat (tbl (hZ S a f) (S.1 + 2 * k)) then svSet (hZ S a f) (tb (hZ S a f) (S.1 + 2 * k)) (r * tbc (hZ S a f) (S.1 + 2 * k) + c).toNatClampNeg (.int x) else _) = _
  rw [h2, h3, hr, h1, if_neg (show ¬ oN t < 0 by rw [oN_nn (by omega)]; exact id), oN_nat (by omega), if_pos (by show oN t < oN (tln k); rw [oN_lt (by omega) (by omega)]; exact ht)]
  refine congrArg (fun z => (tbok (hZ S a f) (S.1 + 2 * k), (none : Option Value), z)) ?_
  refine ms_ext rfl rfl (fun b => rfl) (fun b s => ?_)
  show (if b = S.1 + 2 * k + 1 ∧ s = t then .int x else if b = a ∧ s < 8 then .ref (S.1 + 2 * s) else if S.1 ≤ b ∧ b < S.1 + 16 then (if (b - S.1) % 2 = 0 then (if s = 0 then .int (tcl ((b - S.1) / 2)) else if s = 1 then .ref (b + 1) else .null) else .int (f ((b - S.1) / 2) s)) else S.2.2.2 b s) = (if b = a ∧ s < 8 then .ref (S.1 + 2 * s) else if S.1 ≤ b ∧ b < S.1 + 16 then (if (b - S.1) % 2 = 0 then (if s = 0 then .int (tcl ((b - S.1) / 2)) else if s = 1 then .ref (b + 1) else .null) else .int (if (b - S.1) / 2 = k ∧ s = t then x else f ((b - S.1) / 2) s)) else S.2.2.2 b s)
  by_cases g1 : b = S.1 + 2 * k + 1 ∧ s = t
  · rw [if_pos g1, if_neg (by omega), if_pos (by omega), if_neg (by omega), if_pos (by omega)]
  rw [if_neg g1]
  by_cases g2 : b = a ∧ s < 8
  · rw [if_pos g2, if_pos g2]
  rw [if_neg g2, if_neg g2]
  by_cases g3 : S.1 ≤ b ∧ b < S.1 + 16
  · rw [if_pos g3, if_pos g3]
    by_cases g4 : (b - S.1) % 2 = 0
    · rw [if_pos g4, if_pos g4]
    · rw [if_neg g4, if_neg g4, if_neg (show ¬ ((b - S.1) / 2 = k ∧ s = t) by omega)]
  · rw [if_neg g3, if_neg g3]
def g1F (n : Nat) : Nat → Nat → Int32 := fun k s => if k = 0 ∧ s < n then 4 else 0
def g2F (n : Nat) : Nat → Nat → Int32 := fun k s => if k = 1 ∧ s < n then (stv 2).getD s 0 else g1F 1000 k s
def g3F (n : Nat) : Nat → Nat → Int32 := fun k s => if k = 4 ∧ s < 3 * n ∧ s % 3 = 0 then 5 else g2F 5 k s
theorem g1F_0 : (fun _ _ => 0 : Nat → Nat → Int32) = g1F 0 := by
  funext k s
  unfold g1F
  rw [if_neg (by omega)]
theorem g1F_s (n : Nat) : uf (g1F n) 0 n 4 = g1F (n + 1) := by
  funext k s
  unfold uf g1F
  by_cases h : k = 0 ∧ s = n
  · rw [if_pos h, if_pos (by omega)]
  · rw [if_neg h]
    by_cases h2 : k = 0 ∧ s < n
    · rw [if_pos h2, if_pos (by omega)]
    · rw [if_neg h2, if_neg (by omega)]
theorem g2F_0 : g1F 1000 = g2F 0 := by
  funext k s
  unfold g2F
  rw [if_neg (by omega)]
theorem g2F_s (n : Nat) : uf (g2F n) 1 n ((stv 2).getD n 0) = g2F (n + 1) := by
  funext k s
  unfold uf g2F
  by_cases h : k = 1 ∧ s = n
  · rw [if_pos h, if_pos (by omega), h.2]
  · rw [if_neg h]
    by_cases h2 : k = 1 ∧ s < n
    · rw [if_pos h2, if_pos (by omega)]
    · rw [if_neg h2, if_neg (by omega)]
theorem g3F_0 : g2F 5 = g3F 0 := by
  funext k s
  unfold g3F
  rw [if_neg (by omega)]
theorem g3F_s (n : Nat) : uf (g3F n) 4 (n * 3) 5 = g3F (n + 1) := by
  funext k s
  unfold uf g3F
  by_cases h : k = 4 ∧ s = n * 3
  · rw [if_pos h, if_pos (by omega)]
  · rw [if_neg h]
    by_cases h2 : k = 4 ∧ s < 3 * n ∧ s % 3 = 0
    · rw [if_pos h2, if_pos (by omega)]
    · rw [if_neg h2, if_neg (by omega)]

theorem a2_al {e : En} {S : MS} : aln e S 1002 = 5 := rfl
theorem a2_ok {S : MS} : aok S 1002 7 = True := eq_true (by unfold aok; rw [if_neg (by omega)]; exact ⟨by rw [if_pos (by omega)]; omega, rfl⟩)
theorem a2_rd {e : En} {S : MS} {j : Nat} : ard e S 1002 j = (stv 2).getD j 0 := rfl
set_option maxHeartbeats 1000000 in
set_option maxRecDepth 20000 in
theorem lp_H_init_119 {sp : Nat → Sp} (h3 : sp 3 = f_T_put) {sc : Nat × (Nat → Int32)} {S : MS} {a : Nat} (ho : obj S a 0) (hS : S.1 + 16 ≤ 1000) {Q : Option Value → MS → Prop} : ∀ (m n : Nat), n + m = 1000 → Vf 23 sp ((S.1 + 16, S.2.1 + 1312), sc) 142 [.ref a, .int (oN 1000)] [] (hZ S a (g1F 1000)) Q → Vf 23 sp ((S.1 + 16, S.2.1 + 1312), sc) 119 [.ref a, .int (oN n)] [] (hZ S a (g1F n)) Q := by
  intro m
  have ha : a < S.1 := ho.2.1
  have e1 : ∀ f, (hZ S a f).1 = S.1 + 16 := fun _ => rfl
  have e2 : ∀ f, (hZ S a f).2.1 = S.2.1 + 1312 := fun _ => rfl
  have e3 : ∀ f, obj (hZ S a f) a 0 = True := fun f => eq_true (hZ_ob ho)
  have e4 : ∀ f, (hZ S a f).2.2.2 a 0 = .ref (S.1 + 2 * 0) := fun f => hZ_rf (by decide)
  have e5 : ∀ f, tbok (hZ S a f) (S.1 + 2 * 0) = True := fun f => eq_true (hZ_tb ha hS (by decide)).2.2.2
  have e6 : ∀ f, obj (hZ S a f) (S.1 + 2 * 0) 3 = True := fun f => eq_true (hZ_tb ha hS (by decide)).2.2.2.1
  induction m with
  | zero =>
    intro n hn hQ
    have : n = 1000 := by omega
    subst this
    have hlt : ¬ oN 1000 < 1000 := by decide
    rw [rH_init_119]
    simp only [rH_init_120, rH_init_123, rH_init_126, rH_init_127, rH_init_130, rH_init_131, rH_init_132, rH_init_133, rH_init_136, rH_init_139, ct1_i, ct1_r, ct1_n, true_and, and_true, tl_s, tl_n, le4_0, le4_1, le4_2, le4_3, le4_4, le4_5, isO_r, if_neg hlt]
    exact hQ
  | succ m ih =>
    intro n hn hQ
    have hlt : oN n < 1000 := by show oN n < oN 1000; rw [oN_lt (by omega) (by decide)]; omega
    have hn2 : n < 1000 := by omega
    have e7 : f_T_put [.ref (S.1 + 2 * 0), .int (oN n), .int 0, .int (4)] (hZ S a (g1F n)) = (tbok (hZ S a (g1F n)) (S.1 + 2 * 0), none, hZ S a (uf (g1F n) 0 (n) (4))) := hZ_put ha hS (by decide) (show n < 1000 by omega) (by
      show oN n * oN 1 + oN 0 = _
      rw [oN_mul, oN_add]
      exact congrArg oN (by omega))
    rw [rH_init_119]
    simp only [rH_init_120, rH_init_123, rH_init_126, rH_init_127, rH_init_130, rH_init_131, rH_init_132, rH_init_133, rH_init_136, rH_init_139, ct1_i, ct1_r, ct1_n, true_and, and_true, tl_s, tl_n, le4_0, le4_1, le4_2, le4_3, le4_4, le4_5, isO_r, cl_, h3, le_rN, if_pos hlt, e1, e2, e3, e4, e5, e6, e7, oN_succ, g1F_s]
    exact ih (n + 1) (by omega) hQ

set_option maxHeartbeats 1000000 in
set_option maxRecDepth 20000 in
theorem lp_H_init_144 {sp : Nat → Sp} (h3 : sp 3 = f_T_put) {sc : Nat × (Nat → Int32)} {S : MS} {a : Nat} (ho : obj S a 0) (hS : S.1 + 16 ≤ 1000) {Q : Option Value → MS → Prop} : ∀ (m n : Nat), n + m = 5 → Vf 23 sp ((S.1 + 16, S.2.1 + 1312), sc) 172 [.ref a, .int (oN 5)] [] (hZ S a (g2F 5)) Q → Vf 23 sp ((S.1 + 16, S.2.1 + 1312), sc) 144 [.ref a, .int (oN n)] [] (hZ S a (g2F n)) Q := by
  intro m
  have ha : a < S.1 := ho.2.1
  have e1 : ∀ f, (hZ S a f).1 = S.1 + 16 := fun _ => rfl
  have e2 : ∀ f, (hZ S a f).2.1 = S.2.1 + 1312 := fun _ => rfl
  have e3 : ∀ f, obj (hZ S a f) a 0 = True := fun f => eq_true (hZ_ob ho)
  have e4 : ∀ f, (hZ S a f).2.2.2 a 1 = .ref (S.1 + 2 * 1) := fun f => hZ_rf (by decide)
  have e5 : ∀ f, tbok (hZ S a f) (S.1 + 2 * 1) = True := fun f => eq_true (hZ_tb ha hS (by decide)).2.2.2
  have e6 : ∀ f, obj (hZ S a f) (S.1 + 2 * 1) 3 = True := fun f => eq_true (hZ_tb ha hS (by decide)).2.2.2.1
  induction m with
  | zero =>
    intro n hn hQ
    have : n = 5 := by omega
    subst this
    have hlt : ¬ oN 5 < 5 := by decide
    rw [rH_init_144]
    simp only [rH_init_145, rH_init_148, rH_init_149, rH_init_152, rH_init_153, rH_init_156, rH_init_157, rH_init_158, rH_init_161, rH_init_162, rH_init_163, rH_init_166, rH_init_169, ct1_i, ct1_r, ct1_n, true_and, and_true, tl_s, tl_n, le4_0, le4_1, le4_2, le4_3, le4_4, le4_5, isO_r, a2_al, a2_ok, true_or, show Int32.ofNat 5 = 5 from rfl, if_neg hlt]
    exact hQ
  | succ m ih =>
    intro n hn hQ
    have hlt : oN n < 5 := by show oN n < oN 5; rw [oN_lt (by omega) (by decide)]; omega
    have hn2 : n < 5 := by omega
    have e7 : f_T_put [.ref (S.1 + 2 * 1), .int (oN n), .int 0, .int ((stv 2).getD n 0)] (hZ S a (g2F n)) = (tbok (hZ S a (g2F n)) (S.1 + 2 * 1), none, hZ S a (uf (g2F n) 1 (n) ((stv 2).getD n 0))) := hZ_put ha hS (by decide) (show n < 5 by omega) (by
      show oN n * oN 1 + oN 0 = _
      rw [oN_mul, oN_add]
      exact congrArg oN (by omega))
    rw [rH_init_144]
    simp only [rH_init_145, rH_init_148, rH_init_149, rH_init_152, rH_init_153, rH_init_156, rH_init_157, rH_init_158, rH_init_161, rH_init_162, rH_init_163, rH_init_166, rH_init_169, ct1_i, ct1_r, ct1_n, true_and, and_true, tl_s, tl_n, le4_0, le4_1, le4_2, le4_3, le4_4, le4_5, isO_r, a2_al, a2_ok, a2_rd, true_or, show Int32.ofNat 5 = 5 from rfl, oN_nat (show n < 2 ^ 31 by omega), iin_n (show n < 5 by omega) (by decide), cl_, h3, le_rN, if_pos hlt, e1, e2, e3, e4, e5, e6, e7, oN_succ, g2F_s]
    exact ih (n + 1) (by omega) hQ

set_option maxHeartbeats 1000000 in
set_option maxRecDepth 20000 in
theorem lp_H_init_174 {sp : Nat → Sp} (h3 : sp 3 = f_T_put) {sc : Nat × (Nat → Int32)} {S : MS} {a : Nat} (ho : obj S a 0) (hS : S.1 + 16 ≤ 1000) {Q : Option Value → MS → Prop} : ∀ (m n : Nat), n + m = 6 → Vf 23 sp ((S.1 + 16, S.2.1 + 1312), sc) 196 [.ref a, .int (oN 6)] [] (hZ S a (g3F 6)) Q → Vf 23 sp ((S.1 + 16, S.2.1 + 1312), sc) 174 [.ref a, .int (oN n)] [] (hZ S a (g3F n)) Q := by
  intro m
  have ha : a < S.1 := ho.2.1
  have e1 : ∀ f, (hZ S a f).1 = S.1 + 16 := fun _ => rfl
  have e2 : ∀ f, (hZ S a f).2.1 = S.2.1 + 1312 := fun _ => rfl
  have e3 : ∀ f, obj (hZ S a f) a 0 = True := fun f => eq_true (hZ_ob ho)
  have e4 : ∀ f, (hZ S a f).2.2.2 a 4 = .ref (S.1 + 2 * 4) := fun f => hZ_rf (by decide)
  have e5 : ∀ f, tbok (hZ S a f) (S.1 + 2 * 4) = True := fun f => eq_true (hZ_tb ha hS (by decide)).2.2.2
  have e6 : ∀ f, obj (hZ S a f) (S.1 + 2 * 4) 3 = True := fun f => eq_true (hZ_tb ha hS (by decide)).2.2.2.1
  induction m with
  | zero =>
    intro n hn hQ
    have : n = 6 := by omega
    subst this
    have hlt : ¬ oN 6 < 6 := by decide
    rw [rH_init_174]
    simp only [rH_init_175, rH_init_177, rH_init_180, rH_init_181, rH_init_184, rH_init_185, rH_init_186, rH_init_187, rH_init_190, rH_init_193, ct1_i, ct1_r, ct1_n, true_and, and_true, tl_s, tl_n, le4_0, le4_1, le4_2, le4_3, le4_4, le4_5, isO_r, if_neg hlt]
    exact hQ
  | succ m ih =>
    intro n hn hQ
    have hlt : oN n < 6 := by show oN n < oN 6; rw [oN_lt (by omega) (by decide)]; omega
    have hn2 : n < 6 := by omega
    have e7 : f_T_put [.ref (S.1 + 2 * 4), .int (oN n), .int 0, .int (5)] (hZ S a (g3F n)) = (tbok (hZ S a (g3F n)) (S.1 + 2 * 4), none, hZ S a (uf (g3F n) 4 (n * 3) (5))) := hZ_put ha hS (by decide) (show n * 3 < 18 by omega) (by
      show oN n * oN 3 + oN 0 = _
      rw [oN_mul, oN_add]
      exact congrArg oN (by omega))
    rw [rH_init_174]
    simp only [rH_init_175, rH_init_177, rH_init_180, rH_init_181, rH_init_184, rH_init_185, rH_init_186, rH_init_187, rH_init_190, rH_init_193, ct1_i, ct1_r, ct1_n, true_and, and_true, tl_s, tl_n, le4_0, le4_1, le4_2, le4_3, le4_4, le4_5, isO_r, cl_, h3, le_rN, if_pos hlt, e1, e2, e3, e4, e5, e6, e7, oN_succ, g3F_s]
    exact ih (n + 1) (by omega) hQ

def f_H_init : Sp := fun av S => match av with
  | [.ref a] => ((obj S a 0 ∧ S.1 + 16 ≤ 1000), none, hZ S a (g3F 6))
  | _ => (False, none, svNil)
theorem q_H_init {S : MS} {a : Nat} : f_H_init [.ref a] S = ((obj S a 0 ∧ S.1 + 16 ≤ 1000), none, hZ S a (g3F 6)) := rfl
def sp_H_init : Nat → Sp := spL [(7, f_T_init), (3, f_T_put)]
theorem sp_H_init_7 : sp_H_init 7 = f_T_init := rfl
theorem sp_H_init_3 : sp_H_init 3 = f_T_put := rfl
set_option maxHeartbeats 1000000 in
set_option maxRecDepth 20000 in
theorem lp_H_init_t0 {sc : Nat × (Nat → Int32)} {S : MS} {a : Nat} {u : Value} (ho : obj S a 0) (hS : S.1 + 16 ≤ 1000) {Q : Option Value → MS → Prop} (hQ : Vf 23 sp_H_init ((S.1 + 16, S.2.1 + 1312), sc) 19 [.ref a, u] [] (hX S a 1) Q) : Vf 23 sp_H_init ((S.1 + 16, S.2.1 + 1312), sc) 4 [.ref a, u] [] (hX S a 0) Q := by
  have hn : tiN 1000 1 = tln 0 := by decide
  obtain ⟨f1, f2, f3, f4, f5, f6, f7, f8, f9, fA⟩ := hbl (k := 0) (x := 1000) (y := 1) ho hS (by decide) hn (by decide) (by decide)
  have fB : svSet (tiS (svNew (hX S a 0) 3 0 (nf 3) (fun k => defaultValue (fty 3 k))) (hX S a 0).1 1000 1) a 0 (.ref (hX S a 0).1) = hX S a 1 := h_step ho.2.1 (by decide) hn rfl (by decide)
  simp only [rH_init_4, rH_init_5, rH_init_8, rH_init_9, rH_init_12, rH_init_13, rH_init_16, ct1_i, ct1_r, ct1_n, true_and, and_true, tl_s, tl_n, le4_0, le4_1, le4_2, le4_3, le4_4, le4_5, isO_r, cl_, sp_H_init_7, q_T_init, fok_ob, f1, f2, f3, f4, f5, f6, f7, f8, f9, fA, fB]
  exact hQ
set_option maxHeartbeats 1000000 in
set_option maxRecDepth 20000 in
theorem lp_H_init_t1 {sc : Nat × (Nat → Int32)} {S : MS} {a : Nat} {u : Value} (ho : obj S a 0) (hS : S.1 + 16 ≤ 1000) {Q : Option Value → MS → Prop} (hQ : Vf 23 sp_H_init ((S.1 + 16, S.2.1 + 1312), sc) 32 [.ref a, u] [] (hX S a 2) Q) : Vf 23 sp_H_init ((S.1 + 16, S.2.1 + 1312), sc) 19 [.ref a, u] [] (hX S a 1) Q := by
  have hn : tiN 5 1 = tln 1 := by decide
  obtain ⟨f1, f2, f3, f4, f5, f6, f7, f8, f9, fA⟩ := hbl (k := 1) (x := 5) (y := 1) ho hS (by decide) hn (by decide) (by decide)
  have fB : svSet (tiS (svNew (hX S a 1) 3 0 (nf 3) (fun k => defaultValue (fty 3 k))) (hX S a 1).1 5 1) a 1 (.ref (hX S a 1).1) = hX S a 2 := h_step ho.2.1 (by decide) hn rfl (by decide)
  simp only [rH_init_19, rH_init_20, rH_init_23, rH_init_24, rH_init_25, rH_init_26, rH_init_29, ct1_i, ct1_r, ct1_n, true_and, and_true, tl_s, tl_n, le4_0, le4_1, le4_2, le4_3, le4_4, le4_5, isO_r, cl_, sp_H_init_7, q_T_init, fok_ob, f1, f2, f3, f4, f5, f6, f7, f8, f9, fA, fB]
  exact hQ
set_option maxHeartbeats 1000000 in
set_option maxRecDepth 20000 in
theorem lp_H_init_t2 {sc : Nat × (Nat → Int32)} {S : MS} {a : Nat} {u : Value} (ho : obj S a 0) (hS : S.1 + 16 ≤ 1000) {Q : Option Value → MS → Prop} (hQ : Vf 23 sp_H_init ((S.1 + 16, S.2.1 + 1312), sc) 47 [.ref a, u] [] (hX S a 3) Q) : Vf 23 sp_H_init ((S.1 + 16, S.2.1 + 1312), sc) 32 [.ref a, u] [] (hX S a 2) Q := by
  have hn : tiN 16 8 = tln 2 := by decide
  obtain ⟨f1, f2, f3, f4, f5, f6, f7, f8, f9, fA⟩ := hbl (k := 2) (x := 16) (y := 8) ho hS (by decide) hn (by decide) (by decide)
  have fB : svSet (tiS (svNew (hX S a 2) 3 0 (nf 3) (fun k => defaultValue (fty 3 k))) (hX S a 2).1 16 8) a 2 (.ref (hX S a 2).1) = hX S a 3 := h_step ho.2.1 (by decide) hn rfl (by decide)
  simp only [rH_init_32, rH_init_33, rH_init_36, rH_init_37, rH_init_39, rH_init_41, rH_init_44, ct1_i, ct1_r, ct1_n, true_and, and_true, tl_s, tl_n, le4_0, le4_1, le4_2, le4_3, le4_4, le4_5, isO_r, cl_, sp_H_init_7, q_T_init, fok_ob, f1, f2, f3, f4, f5, f6, f7, f8, f9, fA, fB]
  exact hQ
set_option maxHeartbeats 1000000 in
set_option maxRecDepth 20000 in
theorem lp_H_init_t3 {sc : Nat × (Nat → Int32)} {S : MS} {a : Nat} {u : Value} (ho : obj S a 0) (hS : S.1 + 16 ≤ 1000) {Q : Option Value → MS → Prop} (hQ : Vf 23 sp_H_init ((S.1 + 16, S.2.1 + 1312), sc) 61 [.ref a, u] [] (hX S a 4) Q) : Vf 23 sp_H_init ((S.1 + 16, S.2.1 + 1312), sc) 47 [.ref a, u] [] (hX S a 3) Q := by
  have hn : tiN 10 4 = tln 3 := by decide
  obtain ⟨f1, f2, f3, f4, f5, f6, f7, f8, f9, fA⟩ := hbl (k := 3) (x := 10) (y := 4) ho hS (by decide) hn (by decide) (by decide)
  have fB : svSet (tiS (svNew (hX S a 3) 3 0 (nf 3) (fun k => defaultValue (fty 3 k))) (hX S a 3).1 10 4) a 3 (.ref (hX S a 3).1) = hX S a 4 := h_step ho.2.1 (by decide) hn rfl (by decide)
  simp only [rH_init_47, rH_init_48, rH_init_51, rH_init_52, rH_init_54, rH_init_55, rH_init_58, ct1_i, ct1_r, ct1_n, true_and, and_true, tl_s, tl_n, le4_0, le4_1, le4_2, le4_3, le4_4, le4_5, isO_r, cl_, sp_H_init_7, q_T_init, fok_ob, f1, f2, f3, f4, f5, f6, f7, f8, f9, fA, fB]
  exact hQ
set_option maxHeartbeats 1000000 in
set_option maxRecDepth 20000 in
theorem lp_H_init_t4 {sc : Nat × (Nat → Int32)} {S : MS} {a : Nat} {u : Value} (ho : obj S a 0) (hS : S.1 + 16 ≤ 1000) {Q : Option Value → MS → Prop} (hQ : Vf 23 sp_H_init ((S.1 + 16, S.2.1 + 1312), sc) 75 [.ref a, u] [] (hX S a 5) Q) : Vf 23 sp_H_init ((S.1 + 16, S.2.1 + 1312), sc) 61 [.ref a, u] [] (hX S a 4) Q := by
  have hn : tiN 6 3 = tln 4 := by decide
  obtain ⟨f1, f2, f3, f4, f5, f6, f7, f8, f9, fA⟩ := hbl (k := 4) (x := 6) (y := 3) ho hS (by decide) hn (by decide) (by decide)
  have fB : svSet (tiS (svNew (hX S a 4) 3 0 (nf 3) (fun k => defaultValue (fty 3 k))) (hX S a 4).1 6 3) a 4 (.ref (hX S a 4).1) = hX S a 5 := h_step ho.2.1 (by decide) hn rfl (by decide)
  simp only [rH_init_61, rH_init_62, rH_init_65, rH_init_66, rH_init_68, rH_init_69, rH_init_72, ct1_i, ct1_r, ct1_n, true_and, and_true, tl_s, tl_n, le4_0, le4_1, le4_2, le4_3, le4_4, le4_5, isO_r, cl_, sp_H_init_7, q_T_init, fok_ob, f1, f2, f3, f4, f5, f6, f7, f8, f9, fA, fB]
  exact hQ
set_option maxHeartbeats 1000000 in
set_option maxRecDepth 20000 in
theorem lp_H_init_t5 {sc : Nat × (Nat → Int32)} {S : MS} {a : Nat} {u : Value} (ho : obj S a 0) (hS : S.1 + 16 ≤ 1000) {Q : Option Value → MS → Prop} (hQ : Vf 23 sp_H_init ((S.1 + 16, S.2.1 + 1312), sc) 90 [.ref a, u] [] (hX S a 6) Q) : Vf 23 sp_H_init ((S.1 + 16, S.2.1 + 1312), sc) 75 [.ref a, u] [] (hX S a 5) Q := by
  have hn : tiN 10 7 = tln 5 := by decide
  obtain ⟨f1, f2, f3, f4, f5, f6, f7, f8, f9, fA⟩ := hbl (k := 5) (x := 10) (y := 7) ho hS (by decide) hn (by decide) (by decide)
  have fB : svSet (tiS (svNew (hX S a 5) 3 0 (nf 3) (fun k => defaultValue (fty 3 k))) (hX S a 5).1 10 7) a 5 (.ref (hX S a 5).1) = hX S a 6 := h_step ho.2.1 (by decide) hn rfl (by decide)
  simp only [rH_init_75, rH_init_76, rH_init_79, rH_init_80, rH_init_82, rH_init_84, rH_init_87, ct1_i, ct1_r, ct1_n, true_and, and_true, tl_s, tl_n, le4_0, le4_1, le4_2, le4_3, le4_4, le4_5, isO_r, cl_, sp_H_init_7, q_T_init, fok_ob, f1, f2, f3, f4, f5, f6, f7, f8, f9, fA, fB]
  exact hQ
set_option maxHeartbeats 1000000 in
set_option maxRecDepth 20000 in
theorem lp_H_init_t6 {sc : Nat × (Nat → Int32)} {S : MS} {a : Nat} {u : Value} (ho : obj S a 0) (hS : S.1 + 16 ≤ 1000) {Q : Option Value → MS → Prop} (hQ : Vf 23 sp_H_init ((S.1 + 16, S.2.1 + 1312), sc) 104 [.ref a, u] [] (hX S a 7) Q) : Vf 23 sp_H_init ((S.1 + 16, S.2.1 + 1312), sc) 90 [.ref a, u] [] (hX S a 6) Q := by
  have hn : tiN 8 4 = tln 6 := by decide
  obtain ⟨f1, f2, f3, f4, f5, f6, f7, f8, f9, fA⟩ := hbl (k := 6) (x := 8) (y := 4) ho hS (by decide) hn (by decide) (by decide)
  have fB : svSet (tiS (svNew (hX S a 6) 3 0 (nf 3) (fun k => defaultValue (fty 3 k))) (hX S a 6).1 8 4) a 6 (.ref (hX S a 6).1) = hX S a 7 := h_step ho.2.1 (by decide) hn rfl (by decide)
  simp only [rH_init_90, rH_init_91, rH_init_94, rH_init_95, rH_init_97, rH_init_98, rH_init_101, ct1_i, ct1_r, ct1_n, true_and, and_true, tl_s, tl_n, le4_0, le4_1, le4_2, le4_3, le4_4, le4_5, isO_r, cl_, sp_H_init_7, q_T_init, fok_ob, f1, f2, f3, f4, f5, f6, f7, f8, f9, fA, fB]
  exact hQ
set_option maxHeartbeats 1000000 in
set_option maxRecDepth 20000 in
theorem lp_H_init_t7 {sc : Nat × (Nat → Int32)} {S : MS} {a : Nat} {u : Value} (ho : obj S a 0) (hS : S.1 + 16 ≤ 1000) {Q : Option Value → MS → Prop} (hQ : Vf 23 sp_H_init ((S.1 + 16, S.2.1 + 1312), sc) 117 [.ref a, u] [] (hX S a 8) Q) : Vf 23 sp_H_init ((S.1 + 16, S.2.1 + 1312), sc) 104 [.ref a, u] [] (hX S a 7) Q := by
  have hn : tiN 3 1 = tln 7 := by decide
  obtain ⟨f1, f2, f3, f4, f5, f6, f7, f8, f9, fA⟩ := hbl (k := 7) (x := 3) (y := 1) ho hS (by decide) hn (by decide) (by decide)
  have fB : svSet (tiS (svNew (hX S a 7) 3 0 (nf 3) (fun k => defaultValue (fty 3 k))) (hX S a 7).1 3 1) a 7 (.ref (hX S a 7).1) = hX S a 8 := h_step ho.2.1 (by decide) hn rfl (by decide)
  simp only [rH_init_104, rH_init_105, rH_init_108, rH_init_109, rH_init_110, rH_init_111, rH_init_114, ct1_i, ct1_r, ct1_n, true_and, and_true, tl_s, tl_n, le4_0, le4_1, le4_2, le4_3, le4_4, le4_5, isO_r, cl_, sp_H_init_7, q_T_init, fok_ob, f1, f2, f3, f4, f5, f6, f7, f8, f9, fA, fB]
  exact hQ
set_option maxHeartbeats 1000000 in
set_option maxRecDepth 20000 in
theorem ok_H_init : SpecOK 23 f_H_init := SpecOK.of (sp := sp_H_init) (by decide) (by decide) (spL_ok (List.forall_mem_cons.mpr ⟨ok_T_init, List.forall_mem_cons.mpr ⟨ok_T_put, fun q h => absurd h List.not_mem_nil⟩⟩)) (by
  intro sc av S hp
  unfold f_H_init at hp ⊢
  split at hp
  · rename_i a
    obtain ⟨ho, hS⟩ := hp
    refine ⟨Nat.le_of_ble_eq_true rfl, allc (of_eq_true (ct1_r _)) all0, Nat.le_add_right _ _, Nat.le_add_right _ _, ?_⟩
    show Vf 23 _ ((S.1 + 16, S.2.1 + 1312), sc) 0 [.ref a, .null] [] S _
    simp only [rH_init_0, rH_init_1, ct1_i, ct1_r, ct1_n, true_and, and_true, tl_s, tl_n, le4_0, le4_1, le4_2, le4_3, le4_4, le4_5, isO_r]
    have key : Vf 23 sp_H_init ((S.1 + 16, S.2.1 + 1312), sc) 4 [.ref a, .null] [] (hX S a 0) (fun r S' => r = none ∧ S' = hZ S a (g3F 6)) := by
      refine lp_H_init_t0 ho hS (lp_H_init_t1 ho hS (lp_H_init_t2 ho hS (lp_H_init_t3 ho hS (lp_H_init_t4 ho hS (lp_H_init_t5 ho hS (lp_H_init_t6 ho hS (lp_H_init_t7 ho hS ?_)))))))
      rw [hZ_0, g1F_0]
      simp only [rH_init_117, rH_init_118, ct1_i, ct1_r, ct1_n, true_and, and_true, tl_s, tl_n, le4_0, le4_1, le4_2, le4_3, le4_4, le4_5, isO_r]
      refine lp_H_init_119 sp_H_init_3 ho hS 1000 0 rfl ?_
      rw [g2F_0]
      simp only [rH_init_142, rH_init_143, ct1_i, ct1_r, ct1_n, true_and, and_true, tl_s, tl_n, le4_0, le4_1, le4_2, le4_3, le4_4, le4_5, isO_r]
      refine lp_H_init_144 sp_H_init_3 ho hS 5 0 rfl ?_
      rw [g3F_0]
      simp only [rH_init_172, rH_init_173, ct1_i, ct1_r, ct1_n, true_and, and_true, tl_s, tl_n, le4_0, le4_1, le4_2, le4_3, le4_4, le4_5, isO_r]
      refine lp_H_init_174 sp_H_init_3 ho hS 6 0 rfl ?_
      rw [rH_init_196]
      exact ⟨rfl, rfl⟩
    rw [hX_0] at key
    exact key
  · exact absurd hp id)
