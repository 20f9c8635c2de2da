/-! THE CHECK: ends and hours -/
/-- the list of the ended moves down -/
def shF : Nat → HV → HV
  | 0, v => v
  | m + 1, v => shF m (up2 v 1 (1261 + m) (v 1 (1257 + m)))
/-- the hires behind move up -/
def mvF : Nat → Nat → HV → HV
  | _, 0, v => v
  | n, m + 1, v => mvF (n + 1) m (up2 v 1 n (v 1 (n + 7)))
/-- a row is cleared -/
def clF (b : Nat) : Nat → Nat → HV → HV
  | _, 0, v => v
  | n, m + 1, v => clF b (n + 1) m (up2 v 1 (b + n) 0)
theorem i1257a (n : Nat) : 1257 + oN n = oN (1257 + n) := by rw [show (1257 : Int32) = oN 1257 from rfl, oN_add]
theorem oN_sub {a b : Nat} (h : b ≤ a) : oN a - oN b = oN (a - b) := by
  obtain ⟨c, rfl⟩ : ∃ c, a = c + b := ⟨a - b, by omega⟩
  rw [← oN_add, show c + b - b = c by omega, Int32.sub_eq_add_neg, Int32.add_assoc, Int32.add_right_neg, Int32.add_zero]
theorem i1257b (n : Nat) : 1257 + oN (n + 4) - 4 = oN (1257 + n) := by
  rw [i1257a, show (4 : Int32) = oN 4 from rfl, oN_sub (by omega)]
  congr 1
theorem i1257c (m : Nat) : oN (1261 + m) - 4 = oN (1257 + m) := by
  rw [show (4 : Int32) = oN 4 from rfl, oN_sub (by omega)]
  congr 1
  omega
theorem oN_dec (n : Nat) : oN (n + 1) + -1 = oN n := by rw [← oN_succ, Int32.add_assoc]; exact Int32.add_zero _
theorem oN_7 (n : Nat) : oN n + 7 = oN (n + 7) := by rw [show (7 : Int32) = oN 7 from rfl, oN_add]
theorem i1187 (a b : Nat) : 1187 + 7 * oN a + oN b = oN (1187 + 7 * a + b) := by
  rw [show (1187 : Int32) = oN 1187 from rfl, show (7 : Int32) = oN 7 from rfl, oN_mul, oN_add, oN_add]
set_option maxHeartbeats 4000000 in
set_option maxRecDepth 20000 in
theorem lp_M_ends_1 {sp : Nat → Sp} {sc : Nat × (Nat → Int32)} {a b : Int32} {Q : Option Value → MS → Prop} : ∀ (m : Nat) (σ : SG), m ≤ 28 → Vf 140 sp ((134, SLT), sc) 91 [.ref 126, .int a, .int b, .int 3] [] (emb (up1 σ 8 (shF m (σ 8)))) Q → Vf 140 sp ((134, SLT), sc) 58 [.ref 126, .int a, .int b, .int (oN (m + 3))] [] (emb σ) Q := by
  intro m
  induction m with
  | zero =>
    intro σ hm hQ
    change Vf _ _ _ _ _ _ (emb (up1 σ 8 (σ 8))) _ at hQ
    rw [up1_self] at hQ
    rw [rM_ends_58]
    simp only [rM_ends_59, rM_ends_60, rM_ends_63, rM_ends_64, rM_ends_67, rM_ends_70, rM_ends_71, rM_ends_72, rM_ends_73, rM_ends_76, rM_ends_79, rM_ends_80, rM_ends_81, rM_ends_82, rM_ends_83, rM_ends_84, rM_ends_85, rM_ends_88, ct1_i, ct1_r, ct1_n, true_and, and_true, tl_s, tl_n, le4_0, le4_1, le4_2, le4_3, le4_4, le4_5, isO_r, if_pos (show oN (0 + 3) < 4 by decide)]
    exact hQ
  | succ m ih =>
    intro σ hm hQ
    change Vf _ _ _ _ _ _ (emb (up1 σ 8 (shF m (up2 (σ 8) 1 (1261 + m) (σ 8 1 (1257 + m)))))) _ at hQ
    have hlt : ¬ oN (m + 1 + 3) < 4 := by show ¬ oN (m + 1 + 3) < oN 4; rw [oN_lt (by omega) (by decide)]; omega
    have e4 : oN (m + 1 + 3) = oN (m + 4) := by congr 1
    have e5 : 1257 + (m + 4) = 1261 + m := by omega
    rw [rM_ends_58]
    simp only [rM_ends_59, rM_ends_60, rM_ends_63, rM_ends_64, rM_ends_67, rM_ends_70, rM_ends_71, rM_ends_72, rM_ends_73, rM_ends_76, rM_ends_79, rM_ends_80, rM_ends_81, rM_ends_82, rM_ends_83, rM_ends_84, rM_ends_85, rM_ends_88, ct1_i, ct1_r, ct1_n, true_and, and_true, tl_s, tl_n, le4_0, le4_1, le4_2, le4_3, le4_4, le4_5, isO_r, obM, mr_0, mr_1, mr_2, mr_3, mr_5, mr_7, mr_11, mi_0, mi_1, mi_2, mi_3, mi_4, mi_5, mi_6, smi_0, smi_1, smi_2, smi_3, smi_4, smi_5, smi_6, fok_i, fok_b1, rb_0, rb_1, rb_bi, bi_eq0, rb_b2, b2_0, ite_not, isO_r, Option.toList, List.cons_append, List.nil_append, q_M_in, q_M_atKite, q_M_atSpool, q_M_atHire, q_M_tail, il_0, tn_0, il_1, tn_1, il_2, tn_2, il_3, tn_3, il_4, tn_4, il_5, tn_5, il_6, tn_6, il_7, tn_7, il_8, tn_8, il_9, tn_9, il_10, tn_10, il_11, tn_11, il_12, tn_12, il_13, tn_13, il_14, tn_14, il_15, tn_15, il_16, tn_16, il_17, tn_17, il_1257, tn_1257, il_1258, tn_1258, il_1259, tn_1259, il_1260, tn_1260, sm2_0, sm2_1, sm2_2, sm6_0, sm6_1, sm6_2, sm6_3, sm6_4, sm6_5, sm6_6, m1_ok, m1_al, m1_rd, m1_re, m1_ln, m1_s, m6_ok, m6_al, m6_rd, m6_re, m6_ln, m6_s, m7_ok, m7_al, m7_rd, m7_re, m7_ln, m7_s, if_neg hlt]
    rw [e4]
    simp only [i1257a, e5, i1257c, oNn (show 1261 + m < 1289 by omega) (by decide), oNn (show 1257 + m < 1289 by omega) (by decide), iin_n (show 1261 + m < 1289 by omega) (by decide), iin_n (show 1257 + m < 1289 by omega) (by decide), true_and]
    rw [show oN (m + 4) + -1 = oN (m + 3) from oN_dec (m + 3)]
    refine ih _ (by omega) ?_
    rw [up1_at, up1_up1]
    exact hQ
set_option maxHeartbeats 4000000 in
set_option maxRecDepth 20000 in
theorem lp_M_ends_2 {sp : Nat → Sp} (h103 : sp 103 = f_M_atHire) {sc : Nat × (Nat → Int32)} {a b : Int32} {O : Nat} (hO : O ≤ 9) {Q : Option Value → MS → Prop} : ∀ (m n : Nat) (σ : SG), n + m = 1187 + 7 * O → 1187 ≤ n → σ 8 1 16 = oN O → (∀ k : Int32, Vf 140 sp ((134, SLT), sc) 227 [.ref 126, .int a, .int b, .int k] [] (emb (up1 σ 8 (mvF n m (σ 8)))) Q) → Vf 140 sp ((134, SLT), sc) 191 [.ref 126, .int a, .int b, .int (oN n)] [] (emb σ) Q := by
  intro m
  have e0 : 1187 + 7 * oN O + 0 = oN (1187 + 7 * O) := i1187 O 0
  induction m with
  | zero =>
    intro n σ hn h1 hK hQ
    have hlt : ¬ oN n < oN (1187 + 7 * O) := by rw [oN_lt (by omega) (by omega)]; omega
    have hQ' := hQ (oN n)
    change Vf _ _ _ _ _ _ (emb (up1 σ 8 (σ 8))) _ at hQ'
    rw [up1_self] at hQ'
    rw [rM_ends_191]
    simp only [rM_ends_192, rM_ends_193, rM_ends_196, rM_ends_198, rM_ends_199, rM_ends_200, rM_ends_203, rM_ends_206, rM_ends_207, rM_ends_210, rM_ends_211, rM_ends_212, rM_ends_215, rM_ends_216, rM_ends_218, rM_ends_219, rM_ends_220, rM_ends_221, rM_ends_224, ct1_i, ct1_r, ct1_n, true_and, and_true, tl_s, tl_n, le4_0, le4_1, le4_2, le4_3, le4_4, le4_5, isO_r, cl_, emb1, emb2, le_rN, h103, obM, mr_0, mr_1, mr_2, mr_3, mr_5, mr_7, mr_11, mi_0, mi_1, mi_2, mi_3, mi_4, mi_5, mi_6, smi_0, smi_1, smi_2, smi_3, smi_4, smi_5, smi_6, fok_i, fok_b1, rb_0, rb_1, rb_bi, bi_eq0, rb_b2, b2_0, ite_not, isO_r, Option.toList, List.cons_append, List.nil_append, q_M_in, q_M_atKite, q_M_atSpool, q_M_atHire, q_M_tail, il_0, tn_0, il_1, tn_1, il_2, tn_2, il_3, tn_3, il_4, tn_4, il_5, tn_5, il_6, tn_6, il_7, tn_7, il_8, tn_8, il_9, tn_9, il_10, tn_10, il_11, tn_11, il_12, tn_12, il_13, tn_13, il_14, tn_14, il_15, tn_15, il_16, tn_16, il_17, tn_17, il_1257, tn_1257, il_1258, tn_1258, il_1259, tn_1259, il_1260, tn_1260, sm2_0, sm2_1, sm2_2, sm6_0, sm6_1, sm6_2, sm6_3, sm6_4, sm6_5, sm6_6, m1_ok, m1_al, m1_rd, m1_re, m1_ln, m1_s, m6_ok, m6_al, m6_rd, m6_re, m6_ln, m6_s, m7_ok, m7_al, m7_rd, m7_re, m7_ln, m7_s, hK, e0, if_neg hlt]
    exact hQ'
  | succ m ih =>
    intro n σ hn h1 hK hQ
    have hlt : oN n < oN (1187 + 7 * O) := by rw [oN_lt (by omega) (by omega)]; omega
    rw [rM_ends_191]
    simp only [rM_ends_192, rM_ends_193, rM_ends_196, rM_ends_198, rM_ends_199, rM_ends_200, rM_ends_203, rM_ends_206, rM_ends_207, rM_ends_210, rM_ends_211, rM_ends_212, rM_ends_215, rM_ends_216, rM_ends_218, rM_ends_219, rM_ends_220, rM_ends_221, rM_ends_224, ct1_i, ct1_r, ct1_n, true_and, and_true, tl_s, tl_n, le4_0, le4_1, le4_2, le4_3, le4_4, le4_5, isO_r, cl_, emb1, emb2, le_rN, h103, obM, mr_0, mr_1, mr_2, mr_3, mr_5, mr_7, mr_11, mi_0, mi_1, mi_2, mi_3, mi_4, mi_5, mi_6, smi_0, smi_1, smi_2, smi_3, smi_4, smi_5, smi_6, fok_i, fok_b1, rb_0, rb_1, rb_bi, bi_eq0, rb_b2, b2_0, ite_not, isO_r, Option.toList, List.cons_append, List.nil_append, q_M_in, q_M_atKite, q_M_atSpool, q_M_atHire, q_M_tail, il_0, tn_0, il_1, tn_1, il_2, tn_2, il_3, tn_3, il_4, tn_4, il_5, tn_5, il_6, tn_6, il_7, tn_7, il_8, tn_8, il_9, tn_9, il_10, tn_10, il_11, tn_11, il_12, tn_12, il_13, tn_13, il_14, tn_14, il_15, tn_15, il_16, tn_16, il_17, tn_17, il_1257, tn_1257, il_1258, tn_1258, il_1259, tn_1259, il_1260, tn_1260, sm2_0, sm2_1, sm2_2, sm6_0, sm6_1, sm6_2, sm6_3, sm6_4, sm6_5, sm6_6, m1_ok, m1_al, m1_rd, m1_re, m1_ln, m1_s, m6_ok, m6_al, m6_rd, m6_re, m6_ln, m6_s, m7_ok, m7_al, m7_rd, m7_re, m7_ln, m7_s, hK, e0, if_pos hlt, oN_7, oNn (show n < 1289 by omega) (by decide), oNn (show n + 7 < 1289 by omega) (by decide), iin_n (show n < 1289 by omega) (by decide), iin_n (show n + 7 < 1289 by omega) (by decide), oN_succ]
    refine ih (n + 1) _ (by omega) (by omega) ?_ ?_
    · rw [up1_at, up2_nt (by omega)]; exact hK
    · intro k
      rw [up1_at, up1_up1]
      exact hQ k
set_option maxHeartbeats 4000000 in
set_option maxRecDepth 20000 in
theorem lp_M_ends_3 {sp : Nat → Sp} (h103 : sp 103 = f_M_atHire) {sc : Nat × (Nat → Int32)} {a b : Int32} {O : Nat} (hO : O ≤ 9) {Q : Option Value → MS → Prop} : ∀ (m n : Nat) (σ : SG), n + m = 7 → σ 8 1 16 = oN O → Q none (emb (up1 σ 8 (clF (1187 + 7 * O) n m (σ 8)))) → Vf 140 sp ((134, SLT), sc) 229 [.ref 126, .int a, .int b, .int (oN n)] [] (emb σ) Q := by
  intro m
  induction m with
  | zero =>
    intro n σ hn hK hQ
    have : n = 7 := by omega
    subst this
    change Q _ (emb (up1 σ 8 (σ 8))) at hQ
    rw [up1_self] at hQ
    rw [rM_ends_229]
    simp only [rM_ends_230, rM_ends_232, rM_ends_235, rM_ends_236, rM_ends_239, rM_ends_240, rM_ends_243, rM_ends_245, rM_ends_246, rM_ends_247, rM_ends_250, rM_ends_251, rM_ends_252, rM_ends_255, rM_ends_258, ct1_i, ct1_r, ct1_n, true_and, and_true, tl_s, tl_n, le4_0, le4_1, le4_2, le4_3, le4_4, le4_5, isO_r, if_neg (show ¬ oN 7 < 7 by decide)]
    exact hQ
  | succ m ih =>
    intro n σ hn hK hQ
    have hlt : oN n < 7 := by show oN n < oN 7; rw [oN_lt (by omega) (by decide)]; omega
    rw [rM_ends_229]
    simp only [rM_ends_230, rM_ends_232, rM_ends_235, rM_ends_236, rM_ends_239, rM_ends_240, rM_ends_243, rM_ends_245, rM_ends_246, rM_ends_247, rM_ends_250, rM_ends_251, rM_ends_252, rM_ends_255, rM_ends_258, ct1_i, ct1_r, ct1_n, true_and, and_true, tl_s, tl_n, le4_0, le4_1, le4_2, le4_3, le4_4, le4_5, isO_r, cl_, emb1, emb2, le_rN, h103, obM, mr_0, mr_1, mr_2, mr_3, mr_5, mr_7, mr_11, mi_0, mi_1, mi_2, mi_3, mi_4, mi_5, mi_6, smi_0, smi_1, smi_2, smi_3, smi_4, smi_5, smi_6, fok_i, fok_b1, rb_0, rb_1, rb_bi, bi_eq0, rb_b2, b2_0, ite_not, isO_r, Option.toList, List.cons_append, List.nil_append, q_M_in, q_M_atKite, q_M_atSpool, q_M_atHire, q_M_tail, il_0, tn_0, il_1, tn_1, il_2, tn_2, il_3, tn_3, il_4, tn_4, il_5, tn_5, il_6, tn_6, il_7, tn_7, il_8, tn_8, il_9, tn_9, il_10, tn_10, il_11, tn_11, il_12, tn_12, il_13, tn_13, il_14, tn_14, il_15, tn_15, il_16, tn_16, il_17, tn_17, il_1257, tn_1257, il_1258, tn_1258, il_1259, tn_1259, il_1260, tn_1260, sm2_0, sm2_1, sm2_2, sm6_0, sm6_1, sm6_2, sm6_3, sm6_4, sm6_5, sm6_6, m1_ok, m1_al, m1_rd, m1_re, m1_ln, m1_s, m6_ok, m6_al, m6_rd, m6_re, m6_ln, m6_s, m7_ok, m7_al, m7_rd, m7_re, m7_ln, m7_s, hK, i1187, if_pos hlt, oNn (show 1187 + 7 * O + n < 1289 by omega) (by decide), iin_n (show 1187 + 7 * O + n < 1289 by omega) (by decide), oN_succ]
    refine ih (n + 1) _ (by omega) ?_ ?_
    · rw [up1_at, up2_nt (by omega)]; exact hK
    · rw [up1_at, up1_up1]
      exact hQ
def en1 (v : HV) (p : Int32) : HV := up2 v 1 (1129 + 4 * uh v p 2 + 2).toNatClampNeg (-5)
def en2 (v : HV) (p w : Int32) : HV := up2 (en1 v p) 1 (1017 + 7 * uh (en1 v p) p 1 + 0).toNatClampNeg (if w = 2 then 2 else 0)
def en3 (v : HV) (p w : Int32) : HV := inc (en2 v p w) (9 + w).toNatClampNeg 1
def en4 (v : HV) (p w : Int32) : HV := shF 28 (en3 v p w)
def en5 (v : HV) (p w : Int32) : HV := up2 (en4 v p w) 1 1257 (uh (en4 v p w) p 0)
def en6 (v : HV) (p w : Int32) : HV := up2 (en5 v p w) 1 1258 w
def en7 (v : HV) (p w : Int32) : HV := up2 (en6 v p w) 1 1259 (en6 v p w 1 0)
def en8 (v : HV) (p w : Int32) : HV := up2 (en7 v p w) 1 1260 (uh (en7 v p w) p 6 + 1000)
def en9 (v : HV) (p w : Int32) : HV := up2 (en8 v p w) 1 15 (en8 v p w 1 15 + (if en8 v p w 1 15 < 8 then 1 else 0))
def enA (v : HV) (p w : Int32) : HV := dcr (en9 v p w) 16 1
def enB (v : HV) (p w : Int32) : HV := mvF (1187 + 7 * p.toNatClampNeg) (7 * (enA v p w 1 16).toNatClampNeg - 7 * p.toNatClampNeg) (enA v p w)
def enM (v : HV) (p w : Int32) : HV := clF (1187 + 7 * (enA v p w 1 16).toNatClampNeg) 0 7 (enB v p w)
def enP (v : HV) (p w : Int32) : Prop := sm p 9 ∧ sm w 2 ∧ sm (uh v p 2) 9 ∧ sm (uh (en1 v p) p 1) 15 ∧ sm (enA v p w 1 16) 9 ∧ p.toNatClampNeg ≤ (enA v p w 1 16).toNatClampNeg
theorem mvF_16 : ∀ (m n : Nat) (v : HV), 1187 ≤ n → mvF n m v 1 16 = v 1 16 := by
  intro m
  induction m with
  | zero => intro n v _; rfl
  | succ m ih =>
    intro n v h
    show mvF (n + 1) m (up2 v 1 n (v 1 (n + 7))) 1 16 = _
    rw [ih _ _ (by omega), up2_nt (by omega)]
theorem ite_i {c : Prop} [Decidable c] {P : Int32 → Prop} {a b : Int32} (h : P (if c then a else b)) : if c then P a else P b := by
  by_cases hc : c
  · rw [if_pos hc] at h ⊢; exact h
  · rw [if_neg hc] at h ⊢; exact h

def sp_M_ends : Nat → Sp := spL [(126, f_M_of), (100, f_M_atSpool), (99, f_M_atKite), (103, f_M_atHire)]
theorem sp_M_ends_M_of : sp_M_ends 126 = f_M_of := rfl
theorem sp_M_ends_M_atSpool : sp_M_ends 100 = f_M_atSpool := rfl
theorem sp_M_ends_M_atKite : sp_M_ends 99 = f_M_atKite := rfl
theorem sp_M_ends_M_atHire : sp_M_ends 103 = f_M_atHire := rfl
def f_M_ends : Sp := aS 9 (fun _ => 126) 2 (gL2 (fun _ p w σ => (enP (σ 8) p w, none, up1 σ 8 (enM (σ 8) p w))))
theorem q_M_ends {p w : Int32} {σ : SG} : f_M_ends [.ref 126, .int p, .int w] (emb σ) = (enP (σ 8) p w, none, emb (up1 σ 8 (enM (σ 8) p w))) := aS2_at (ad := (fun _ => 126)) (i := hI 126) (by decide) rfl
set_option maxHeartbeats 4000000 in
set_option maxRecDepth 20000 in
theorem ok_M_ends : SpecOK 140 f_M_ends := SpecOK.of (sp := sp_M_ends) (by decide) (by decide) (spL_ok (List.forall_mem_cons.mpr ⟨ok_M_of, (List.forall_mem_cons.mpr ⟨ok_M_atSpool, (List.forall_mem_cons.mpr ⟨ok_M_atKite, (List.forall_mem_cons.mpr ⟨ok_M_atHire, (fun q h => absurd h List.not_mem_nil)⟩)⟩)⟩)⟩)) (Does_aS2 (Nat.le_of_ble_eq_true rfl) (fun sc i p w σ hi had hp => by
  refine Vf_q ?_ ⟨rfl, rfl⟩
  intro Q hQ
  dsimp only at hQ hp
  show Vf 140 _ _ 0 [.ref (126), .int p, .int w, .null] [] (emb σ) _

  obtain ⟨h1, h2, h3, h4, h5, h6⟩ := hp
  have h5' := h5.2
  have hA : sm (enA (σ 8) p w 1 16) 9 := h5
  have hgo2 : ∀ y : Int32, y = (if en8 (σ 8) p w 1 15 < 8 then 1 else 0) → Vf 140 sp_M_ends ((134, SLT), sc) 191 [.ref 126, .int p, .int w, .int (1187 + 7 * p + 0)] [] (emb (up1 σ 8 (dcr (up2 (en8 (σ 8) p w) 1 15 (en8 (σ 8) p w 1 15 + y)) 16 1))) Q := by
    intro y hy
    subst hy
    change Vf _ _ _ _ _ _ (emb (up1 σ 8 (enA (σ 8) p w))) _
    have e : 1187 + 7 * p + 0 = oN (1187 + 7 * p.toNatClampNeg) := by
      conv => lhs; rw [sm_eq h1]
      exact i1187 _ 0
    rw [e]
    refine lp_M_ends_2 sp_M_ends_M_atHire h5' (7 * (enA (σ 8) p w 1 16).toNatClampNeg - 7 * p.toNatClampNeg) _ _ (by omega) (by omega) (by rw [up1_at]; exact sm_eq hA) ?_
    intro k
    rw [up1_at, up1_up1]
    change Vf _ _ _ _ _ _ (emb (up1 σ 8 (enB (σ 8) p w))) _
    simp only [rM_ends_227, rM_ends_228, ct1_i, ct1_r, ct1_n, true_and, and_true, tl_s, tl_n, le4_0, le4_1, le4_2, le4_3, le4_4, le4_5, isO_r]
    refine lp_M_ends_3 sp_M_ends_M_atHire h5' 7 0 _ rfl ?_ ?_
    · rw [up1_at]
      unfold enB
      rw [mvF_16 _ _ _ (by omega)]
      exact sm_eq hA
    · rw [up1_at, up1_up1]
      exact hQ
  have hgo : ∀ x : Int32, x = (if w = 2 then 2 else 0) → Vf 140 sp_M_ends ((134, SLT), sc) 55 [.ref 126, .int p, .int w, .null] [] (emb (up1 σ 8 (inc (up2 (en1 (σ 8) p) 1 (1017 + 7 * uh (en1 (σ 8) p) p 1 + 0).toNatClampNeg x) (9 + w).toNatClampNeg 1))) Q := by
    intro x hx
    subst hx
    change Vf _ _ _ _ _ _ (emb (up1 σ 8 (en3 (σ 8) p w))) _
    rw [rM_ends_55]
    simp only [rM_ends_57, ct1_i, ct1_r, ct1_n, true_and, and_true, tl_s, tl_n, le4_0, le4_1, le4_2, le4_3, le4_4, le4_5, isO_r]
    refine lp_M_ends_1 28 _ (Nat.le_refl _) ?_
    rw [up1_at, up1_up1]
    change Vf _ _ _ _ _ _ (emb (up1 σ 8 (en4 (σ 8) p w))) _
    simp only [rM_ends_91, rM_ends_92, rM_ends_95, rM_ends_98, rM_ends_99, rM_ends_100, rM_ends_101, rM_ends_104, rM_ends_105, rM_ends_106, rM_ends_109, rM_ends_112, rM_ends_113, rM_ends_114, rM_ends_115, rM_ends_118, rM_ends_121, rM_ends_122, rM_ends_125, rM_ends_126, rM_ends_127, rM_ends_128, rM_ends_129, rM_ends_132, rM_ends_135, rM_ends_136, rM_ends_137, rM_ends_139, rM_ends_142, rM_ends_145, rM_ends_146, rM_ends_147, rM_ends_148, rM_ends_151, rM_ends_153, rM_ends_154, rM_ends_155, rM_ends_156, rM_ends_159, rM_ends_161, rM_ends_162, rM_ends_164, rM_ends_167, rM_ends_168, rM_ends_171, rM_ends_172, rM_ends_173, rM_ends_174, rM_ends_175, rM_ends_178, rM_ends_180, rM_ends_181, rM_ends_182, rM_ends_183, rM_ends_184, rM_ends_185, rM_ends_186, rM_ends_187, rM_ends_190, ct1_i, ct1_r, ct1_n, true_and, and_true, tl_s, tl_n, le4_0, le4_1, le4_2, le4_3, le4_4, le4_5, isO_r, cl_, emb1, emb2, le_rN, up1_at, up1_up1, sp_M_ends_M_of, sp_M_ends_M_atSpool, sp_M_ends_M_atKite, sp_M_ends_M_atHire, obM, mr_0, mr_1, mr_2, mr_3, mr_5, mr_7, mr_11, mi_0, mi_1, mi_2, mi_3, mi_4, mi_5, mi_6, smi_0, smi_1, smi_2, smi_3, smi_4, smi_5, smi_6, fok_i, fok_b1, rb_0, rb_1, rb_bi, bi_eq0, rb_b2, b2_0, ite_not, isO_r, Option.toList, List.cons_append, List.nil_append, q_M_in, q_M_atKite, q_M_atSpool, q_M_atHire, q_M_tail, il_0, tn_0, il_1, tn_1, il_2, tn_2, il_3, tn_3, il_4, tn_4, il_5, tn_5, il_6, tn_6, il_7, tn_7, il_8, tn_8, il_9, tn_9, il_10, tn_10, il_11, tn_11, il_12, tn_12, il_13, tn_13, il_14, tn_14, il_15, tn_15, il_16, tn_16, il_17, tn_17, il_1257, tn_1257, il_1258, tn_1258, il_1259, tn_1259, il_1260, tn_1260, sm2_0, sm2_1, sm2_2, sm6_0, sm6_1, sm6_2, sm6_3, sm6_4, sm6_5, sm6_6, m1_ok, m1_al, m1_rd, m1_re, m1_ln, m1_s, m6_ok, m6_al, m6_rd, m6_re, m6_ln, m6_s, m7_ok, m7_al, m7_rd, m7_re, m7_ln, m7_s, q_M_of, h1]
    change if en8 (σ 8) p w 1 15 < 8 then _ else _
    rcases Decidable.em (en8 (σ 8) p w 1 15 < 8) with h7 | h7
    · rw [if_pos h7]
      exact hgo2 1 (by rw [if_pos h7])
    · rw [if_neg h7]
      exact hgo2 0 (by rw [if_neg h7])
  unfold en1 at h4
  simp only [rM_ends_0, rM_ends_1, rM_ends_4, rM_ends_5, rM_ends_6, rM_ends_7, rM_ends_10, rM_ends_11, rM_ends_14, rM_ends_16, rM_ends_17, rM_ends_18, rM_ends_21, rM_ends_22, rM_ends_23, rM_ends_24, rM_ends_27, rM_ends_28, rM_ends_31, rM_ends_32, rM_ends_33, rM_ends_36, rM_ends_37, rM_ends_40, rM_ends_41, rM_ends_42, rM_ends_43, rM_ends_46, rM_ends_48, rM_ends_49, rM_ends_50, rM_ends_51, rM_ends_52, rM_ends_53, rM_ends_54, ct1_i, ct1_r, ct1_n, true_and, and_true, tl_s, tl_n, le4_0, le4_1, le4_2, le4_3, le4_4, le4_5, isO_r, cl_, emb1, emb2, le_rN, up1_at, up1_up1, sp_M_ends_M_of, sp_M_ends_M_atSpool, sp_M_ends_M_atKite, sp_M_ends_M_atHire, obM, mr_0, mr_1, mr_2, mr_3, mr_5, mr_7, mr_11, mi_0, mi_1, mi_2, mi_3, mi_4, mi_5, mi_6, smi_0, smi_1, smi_2, smi_3, smi_4, smi_5, smi_6, fok_i, fok_b1, rb_0, rb_1, rb_bi, bi_eq0, rb_b2, b2_0, ite_not, isO_r, Option.toList, List.cons_append, List.nil_append, q_M_in, q_M_atKite, q_M_atSpool, q_M_atHire, q_M_tail, il_0, tn_0, il_1, tn_1, il_2, tn_2, il_3, tn_3, il_4, tn_4, il_5, tn_5, il_6, tn_6, il_7, tn_7, il_8, tn_8, il_9, tn_9, il_10, tn_10, il_11, tn_11, il_12, tn_12, il_13, tn_13, il_14, tn_14, il_15, tn_15, il_16, tn_16, il_17, tn_17, il_1257, tn_1257, il_1258, tn_1258, il_1259, tn_1259, il_1260, tn_1260, sm2_0, sm2_1, sm2_2, sm6_0, sm6_1, sm6_2, sm6_3, sm6_4, sm6_5, sm6_6, m1_ok, m1_al, m1_rd, m1_re, m1_ln, m1_s, m6_ok, m6_al, m6_rd, m6_re, m6_ln, m6_s, m7_ok, m7_al, m7_rd, m7_re, m7_ln, m7_s, q_M_of, h1, iS_2 h3, iK_0 h4, iE h2]
  rcases Decidable.em (w = 2) with h8 | h8
  · rw [if_pos h8]
    exact hgo 2 (by rw [if_pos h8])
  · rw [if_neg h8]
    exact hgo 0 (by rw [if_neg h8])))
