/-! THE CHECK: its methods: hires, hours -/
theorem ixl {B A C b : Nat} {x : Int32} (h : sm x b) (hb : B + A * b + C < 1289) : iin (oN B + oN A * x + oN C) 1289 = True := by
  have h2 := h.2
  have : B + A * x.toNatClampNeg + C < 1289 := Nat.lt_of_le_of_lt (by have := Nat.mul_le_mul_left A h2; omega) hb
  rw [sm_eq h, oN_mul, oN_add, oN_add]
  exact iin_n this (by decide)
theorem ixv {B A b c : Nat} {x y : Int32} (h : sm x b) (hy : sm y c) (hb : B + A * b + c < 1289) : iin (oN B + oN A * x + y) 1289 = True := by
  have h2 := h.2
  have h3 := hy.2
  have : B + A * x.toNatClampNeg + y.toNatClampNeg < 1289 := Nat.lt_of_le_of_lt (by have := Nat.mul_le_mul_left A h2; omega) hb
  rw [sm_eq h, sm_eq hy, oN_mul, oN_add, oN_add]
  exact iin_n this (by decide)
theorem ix1 {B b : Nat} {x : Int32} (h : sm x b) (hb : B + b < 1289) : iin (oN B + x) 1289 = True := by
  have h2 := h.2
  rw [sm_eq h, oN_add]
  exact iin_n (by omega) (by decide)
theorem iK_0 {x : Int32} (h : sm x 15) : iin (1017 + 7 * x + 0) 1289 = True := ixl (B := 1017) (A := 7) (C := 0) h (by decide)
theorem iK_1 {x : Int32} (h : sm x 15) : iin (1017 + 7 * x + 1) 1289 = True := ixl (B := 1017) (A := 7) (C := 1) h (by decide)
theorem iK_2 {x : Int32} (h : sm x 15) : iin (1017 + 7 * x + 2) 1289 = True := ixl (B := 1017) (A := 7) (C := 2) h (by decide)
theorem iK_3 {x : Int32} (h : sm x 15) : iin (1017 + 7 * x + 3) 1289 = True := ixl (B := 1017) (A := 7) (C := 3) h (by decide)
theorem iK_4 {x : Int32} (h : sm x 15) : iin (1017 + 7 * x + 4) 1289 = True := ixl (B := 1017) (A := 7) (C := 4) h (by decide)
theorem iK_5 {x : Int32} (h : sm x 15) : iin (1017 + 7 * x + 5) 1289 = True := ixl (B := 1017) (A := 7) (C := 5) h (by decide)
theorem iK_6 {x : Int32} (h : sm x 15) : iin (1017 + 7 * x + 6) 1289 = True := ixl (B := 1017) (A := 7) (C := 6) h (by decide)
theorem iK_v {x y : Int32} (h : sm x 15) (hy : sm y 6) : iin (1017 + 7 * x + y) 1289 = True := ixv (B := 1017) (A := 7) h hy (by decide)
theorem iS_0 {x : Int32} (h : sm x 9) : iin (1129 + 4 * x + 0) 1289 = True := ixl (B := 1129) (A := 4) (C := 0) h (by decide)
theorem iS_1 {x : Int32} (h : sm x 9) : iin (1129 + 4 * x + 1) 1289 = True := ixl (B := 1129) (A := 4) (C := 1) h (by decide)
theorem iS_2 {x : Int32} (h : sm x 9) : iin (1129 + 4 * x + 2) 1289 = True := ixl (B := 1129) (A := 4) (C := 2) h (by decide)
theorem iS_3 {x : Int32} (h : sm x 9) : iin (1129 + 4 * x + 3) 1289 = True := ixl (B := 1129) (A := 4) (C := 3) h (by decide)
theorem iS_v {x y : Int32} (h : sm x 9) (hy : sm y 3) : iin (1129 + 4 * x + y) 1289 = True := ixv (B := 1129) (A := 4) h hy (by decide)
theorem iT_0 {x : Int32} (h : sm x 5) : iin (1169 + 3 * x + 0) 1289 = True := ixl (B := 1169) (A := 3) (C := 0) h (by decide)
theorem iT_1 {x : Int32} (h : sm x 5) : iin (1169 + 3 * x + 1) 1289 = True := ixl (B := 1169) (A := 3) (C := 1) h (by decide)
theorem iT_2 {x : Int32} (h : sm x 5) : iin (1169 + 3 * x + 2) 1289 = True := ixl (B := 1169) (A := 3) (C := 2) h (by decide)
theorem iT_v {x y : Int32} (h : sm x 5) (hy : sm y 2) : iin (1169 + 3 * x + y) 1289 = True := ixv (B := 1169) (A := 3) h hy (by decide)
theorem iH_0 {x : Int32} (h : sm x 9) : iin (1187 + 7 * x + 0) 1289 = True := ixl (B := 1187) (A := 7) (C := 0) h (by decide)
theorem iH_1 {x : Int32} (h : sm x 9) : iin (1187 + 7 * x + 1) 1289 = True := ixl (B := 1187) (A := 7) (C := 1) h (by decide)
theorem iH_2 {x : Int32} (h : sm x 9) : iin (1187 + 7 * x + 2) 1289 = True := ixl (B := 1187) (A := 7) (C := 2) h (by decide)
theorem iH_3 {x : Int32} (h : sm x 9) : iin (1187 + 7 * x + 3) 1289 = True := ixl (B := 1187) (A := 7) (C := 3) h (by decide)
theorem iH_4 {x : Int32} (h : sm x 9) : iin (1187 + 7 * x + 4) 1289 = True := ixl (B := 1187) (A := 7) (C := 4) h (by decide)
theorem iH_5 {x : Int32} (h : sm x 9) : iin (1187 + 7 * x + 5) 1289 = True := ixl (B := 1187) (A := 7) (C := 5) h (by decide)
theorem iH_6 {x : Int32} (h : sm x 9) : iin (1187 + 7 * x + 6) 1289 = True := ixl (B := 1187) (A := 7) (C := 6) h (by decide)
theorem iH_v {x y : Int32} (h : sm x 9) (hy : sm y 6) : iin (1187 + 7 * x + y) 1289 = True := ixv (B := 1187) (A := 7) h hy (by decide)
theorem iW {x : Int32} (h : sm x 999) : iin (17 + x) 1289 = True := ix1 (B := 17) h (by decide)
theorem iE {x : Int32} (h : sm x 2) : iin (9 + x) 1289 = True := ix1 (B := 9) h (by decide)
theorem iSe {x : Int32} (h : sm x 4) : iin (1 + x) 1289 = True := ix1 (B := 1) h (by decide)
theorem il_0 : iin 0 1289 = True := iin_n (n := 0) (by decide) (by decide)
theorem tn_0 : (0 : Int32).toNatClampNeg = 0 := rfl
theorem il_1 : iin 1 1289 = True := iin_n (n := 1) (by decide) (by decide)
theorem tn_1 : (1 : Int32).toNatClampNeg = 1 := rfl
theorem il_2 : iin 2 1289 = True := iin_n (n := 2) (by decide) (by decide)
theorem tn_2 : (2 : Int32).toNatClampNeg = 2 := rfl
theorem il_3 : iin 3 1289 = True := iin_n (n := 3) (by decide) (by decide)
theorem tn_3 : (3 : Int32).toNatClampNeg = 3 := rfl
theorem il_4 : iin 4 1289 = True := iin_n (n := 4) (by decide) (by decide)
theorem tn_4 : (4 : Int32).toNatClampNeg = 4 := rfl
theorem il_5 : iin 5 1289 = True := iin_n (n := 5) (by decide) (by decide)
theorem tn_5 : (5 : Int32).toNatClampNeg = 5 := rfl
theorem il_6 : iin 6 1289 = True := iin_n (n := 6) (by decide) (by decide)
theorem tn_6 : (6 : Int32).toNatClampNeg = 6 := rfl
theorem il_7 : iin 7 1289 = True := iin_n (n := 7) (by decide) (by decide)
theorem tn_7 : (7 : Int32).toNatClampNeg = 7 := rfl
theorem il_8 : iin 8 1289 = True := iin_n (n := 8) (by decide) (by decide)
theorem tn_8 : (8 : Int32).toNatClampNeg = 8 := rfl
theorem il_9 : iin 9 1289 = True := iin_n (n := 9) (by decide) (by decide)
theorem tn_9 : (9 : Int32).toNatClampNeg = 9 := rfl
theorem il_10 : iin 10 1289 = True := iin_n (n := 10) (by decide) (by decide)
theorem tn_10 : (10 : Int32).toNatClampNeg = 10 := rfl
theorem il_11 : iin 11 1289 = True := iin_n (n := 11) (by decide) (by decide)
theorem tn_11 : (11 : Int32).toNatClampNeg = 11 := rfl
theorem il_12 : iin 12 1289 = True := iin_n (n := 12) (by decide) (by decide)
theorem tn_12 : (12 : Int32).toNatClampNeg = 12 := rfl
theorem il_13 : iin 13 1289 = True := iin_n (n := 13) (by decide) (by decide)
theorem tn_13 : (13 : Int32).toNatClampNeg = 13 := rfl
theorem il_14 : iin 14 1289 = True := iin_n (n := 14) (by decide) (by decide)
theorem tn_14 : (14 : Int32).toNatClampNeg = 14 := rfl
theorem il_15 : iin 15 1289 = True := iin_n (n := 15) (by decide) (by decide)
theorem tn_15 : (15 : Int32).toNatClampNeg = 15 := rfl
theorem il_16 : iin 16 1289 = True := iin_n (n := 16) (by decide) (by decide)
theorem tn_16 : (16 : Int32).toNatClampNeg = 16 := rfl
theorem il_17 : iin 17 1289 = True := iin_n (n := 17) (by decide) (by decide)
theorem tn_17 : (17 : Int32).toNatClampNeg = 17 := rfl
theorem il_1257 : iin 1257 1289 = True := iin_n (n := 1257) (by decide) (by decide)
theorem tn_1257 : (1257 : Int32).toNatClampNeg = 1257 := rfl
theorem il_1258 : iin 1258 1289 = True := iin_n (n := 1258) (by decide) (by decide)
theorem tn_1258 : (1258 : Int32).toNatClampNeg = 1258 := rfl
theorem il_1259 : iin 1259 1289 = True := iin_n (n := 1259) (by decide) (by decide)
theorem tn_1259 : (1259 : Int32).toNatClampNeg = 1259 := rfl
theorem il_1260 : iin 1260 1289 = True := iin_n (n := 1260) (by decide) (by decide)
theorem tn_1260 : (1260 : Int32).toNatClampNeg = 1260 := rfl
theorem sm2_0 : sm 0 2 = True := eq_true ⟨by decide, by decide⟩
theorem sm2_1 : sm 1 2 = True := eq_true ⟨by decide, by decide⟩
theorem sm2_2 : sm 2 2 = True := eq_true ⟨by decide, by decide⟩
theorem sm6_0 : sm 0 6 = True := eq_true ⟨by decide, by decide⟩
theorem sm6_1 : sm 1 6 = True := eq_true ⟨by decide, by decide⟩
theorem sm6_2 : sm 2 6 = True := eq_true ⟨by decide, by decide⟩
theorem sm6_3 : sm 3 6 = True := eq_true ⟨by decide, by decide⟩
theorem sm6_4 : sm 4 6 = True := eq_true ⟨by decide, by decide⟩
theorem sm6_5 : sm 5 6 = True := eq_true ⟨by decide, by decide⟩
theorem sm6_6 : sm 6 6 = True := eq_true ⟨by decide, by decide⟩
abbrev uk (v : HV) (k c : Int32) : Int32 := v 1 (1017 + 7 * k + c).toNatClampNeg
abbrev us (v : HV) (k c : Int32) : Int32 := v 1 (1129 + 4 * k + c).toNatClampNeg
abbrev ut (v : HV) (k c : Int32) : Int32 := v 1 (1169 + 3 * k + c).toNatClampNeg
abbrev uh (v : HV) (k c : Int32) : Int32 := v 1 (1187 + 7 * k + c).toNatClampNeg
def inc (v : HV) (i : Nat) (d : Int32) : HV := up2 v 1 i (v 1 i + d)
def dcr (v : HV) (i : Nat) (d : Int32) : HV := up2 v 1 i (v 1 i - d)

def sp_M_isRed : Nat → Sp := spL []
def f_M_isRed : Sp := aS 9 (fun _ => 126) 1 (gL1 (fun _ x σ => (True, some (.int (bi (¬ x < σ 8 1 1))), σ)))
theorem q_M_isRed {x : Int32} {σ : SG} : f_M_isRed [.ref 126, .int x] (emb σ) = (True, some (.int (bi (¬ x < σ 8 1 1))), emb (σ)) := aS1_at (ad := (fun _ => 126)) (i := hI 126) (by decide) rfl
set_option maxHeartbeats 4000000 in
set_option maxRecDepth 20000 in
theorem ok_M_isRed : SpecOK 101 f_M_isRed := SpecOK.of (sp := sp_M_isRed) (by decide) (by decide) (spL_ok (fun q h => absurd h List.not_mem_nil)) (Does_aS1 (Nat.le_of_ble_eq_true rfl) (fun sc i x σ hi had hp => by
  refine Vf_q ?_ ⟨rfl, rfl⟩
  intro Q hQ
  dsimp only at hQ hp
  show Vf 101 _ _ 0 [.ref (126), .int x] [] (emb σ) _

  simp only [rM_isRed_0, rM_isRed_1, rM_isRed_2, rM_isRed_5, rM_isRed_6, rM_isRed_7, rM_isRed_10, rM_isRed_11, rM_isRed_14, rM_isRed_15, ct1_i, ct1_r, ct1_n, true_and, and_true, tl_s, tl_n, le4_0, le4_1, le4_2, le4_3, le4_4, le4_5, isO_r, cl_, emb1, emb2, le_rN, up1_at, up1_up1, obM, mr_0, mr_1, mr_2, mr_3, mr_5, mr_7, mr_11, mi_0, mi_1, mi_2, mi_3, mi_4, mi_5, mi_6, smi_0, smi_1, smi_2, smi_3, smi_4, smi_5, smi_6, fok_i, fok_b1, rb_0, rb_1, rb_bi, bi_eq0, rb_b2, b2_0, ite_not, isO_r, Option.toList, List.cons_append, List.nil_append, q_M_in, q_M_atKite, q_M_atSpool, q_M_atHire, q_M_tail, il_0, tn_0, il_1, tn_1, il_2, tn_2, il_3, tn_3, il_4, tn_4, il_5, tn_5, il_6, tn_6, il_7, tn_7, il_8, tn_8, il_9, tn_9, il_10, tn_10, il_11, tn_11, il_12, tn_12, il_13, tn_13, il_14, tn_14, il_15, tn_15, il_16, tn_16, il_17, tn_17, il_1257, tn_1257, il_1258, tn_1258, il_1259, tn_1259, il_1260, tn_1260, sm2_0, sm2_1, sm2_2, sm6_0, sm6_1, sm6_2, sm6_3, sm6_4, sm6_5, sm6_6, m1_ok, m1_al, m1_rd, m1_re, m1_ln, m1_s, m6_ok, m6_al, m6_rd, m6_re, m6_ln, m6_s, m7_ok, m7_al, m7_rd, m7_re, m7_ln, m7_s]
  by_cases h : x < σ 8 1 1
  · rw [bi_f (fun q => q h)] at hQ
    rw [if_pos h]
    exact hQ
  · rw [bi_t h] at hQ
    rw [if_neg h]
    exact hQ))
def sp_M_of : Nat → Sp := spL [(103, f_M_atHire)]
theorem sp_M_of_M_atHire : sp_M_of 103 = f_M_atHire := rfl
def f_M_of : Sp := aS 9 (fun _ => 126) 2 (gL2 (fun _ p c σ => (sm p 9 ∧ sm c 6, some (.int (uh (σ 8) p c)), σ)))
theorem q_M_of {p c : Int32} {σ : SG} : f_M_of [.ref 126, .int p, .int c] (emb σ) = (sm p 9 ∧ sm c 6, some (.int (uh (σ 8) p c)), emb (σ)) := aS2_at (ad := (fun _ => 126)) (i := hI 126) (by decide) rfl
set_option maxHeartbeats 4000000 in
set_option maxRecDepth 20000 in
theorem ok_M_of : SpecOK 126 f_M_of := SpecOK.of (sp := sp_M_of) (by decide) (by decide) (spL_ok (List.forall_mem_cons.mpr ⟨ok_M_atHire, (fun q h => absurd h List.not_mem_nil)⟩)) (Does_aS2 (Nat.le_of_ble_eq_true rfl) (fun sc i p c σ hi had hp => by
  refine Vf_q ?_ ⟨rfl, rfl⟩
  intro Q hQ
  dsimp only at hQ hp
  show Vf 126 _ _ 0 [.ref (126), .int p, .int c] [] (emb σ) _

  simp only [rM_of_0, rM_of_1, rM_of_4, rM_of_5, rM_of_6, rM_of_9, rM_of_10, ct1_i, ct1_r, ct1_n, true_and, and_true, tl_s, tl_n, le4_0, le4_1, le4_2, le4_3, le4_4, le4_5, isO_r, cl_, emb1, emb2, le_rN, up1_at, up1_up1, sp_M_of_M_atHire, obM, mr_0, mr_1, mr_2, mr_3, mr_5, mr_7, mr_11, mi_0, mi_1, mi_2, mi_3, mi_4, mi_5, mi_6, smi_0, smi_1, smi_2, smi_3, smi_4, smi_5, smi_6, fok_i, fok_b1, rb_0, rb_1, rb_bi, bi_eq0, rb_b2, b2_0, ite_not, isO_r, Option.toList, List.cons_append, List.nil_append, q_M_in, q_M_atKite, q_M_atSpool, q_M_atHire, q_M_tail, il_0, tn_0, il_1, tn_1, il_2, tn_2, il_3, tn_3, il_4, tn_4, il_5, tn_5, il_6, tn_6, il_7, tn_7, il_8, tn_8, il_9, tn_9, il_10, tn_10, il_11, tn_11, il_12, tn_12, il_13, tn_13, il_14, tn_14, il_15, tn_15, il_16, tn_16, il_17, tn_17, il_1257, tn_1257, il_1258, tn_1258, il_1259, tn_1259, il_1260, tn_1260, sm2_0, sm2_1, sm2_2, sm6_0, sm6_1, sm6_2, sm6_3, sm6_4, sm6_5, sm6_6, m1_ok, m1_al, m1_rd, m1_re, m1_ln, m1_s, m6_ok, m6_al, m6_rd, m6_re, m6_ln, m6_s, m7_ok, m7_al, m7_rd, m7_re, m7_ln, m7_s, iH_v hp.1 hp.2]
  exact hQ))
abbrev tmP (v : HV) (k x : Int32) : Prop := uk v k 2 < x ∨ ¬ x < v 1 1
def sp_M_isTooMuch : Nat → Sp := spL [(99, f_M_atKite), (101, f_M_isRed)]
theorem sp_M_isTooMuch_M_atKite : sp_M_isTooMuch 99 = f_M_atKite := rfl
theorem sp_M_isTooMuch_M_isRed : sp_M_isTooMuch 101 = f_M_isRed := rfl
def f_M_isTooMuch : Sp := aS 9 (fun _ => 126) 2 (gL2 (fun _ k x σ => (sm k 15, some (.int (bi (tmP (σ 8) k x))), σ)))
theorem q_M_isTooMuch {k x : Int32} {σ : SG} : f_M_isTooMuch [.ref 126, .int k, .int x] (emb σ) = (sm k 15, some (.int (bi (tmP (σ 8) k x))), emb (σ)) := aS2_at (ad := (fun _ => 126)) (i := hI 126) (by decide) rfl
set_option maxHeartbeats 4000000 in
set_option maxRecDepth 20000 in
theorem ok_M_isTooMuch : SpecOK 121 f_M_isTooMuch := SpecOK.of (sp := sp_M_isTooMuch) (by decide) (by decide) (spL_ok (List.forall_mem_cons.mpr ⟨ok_M_atKite, (List.forall_mem_cons.mpr ⟨ok_M_isRed, (fun q h => absurd h List.not_mem_nil)⟩)⟩)) (Does_aS2 (Nat.le_of_ble_eq_true rfl) (fun sc i k x σ hi had hp => by
  refine Vf_q ?_ ⟨rfl, rfl⟩
  intro Q hQ
  dsimp only at hQ hp
  show Vf 121 _ _ 0 [.ref (126), .int k, .int x] [] (emb σ) _

  simp only [rM_isTooMuch_0, rM_isTooMuch_1, rM_isTooMuch_2, rM_isTooMuch_5, rM_isTooMuch_6, rM_isTooMuch_7, rM_isTooMuch_10, rM_isTooMuch_11, rM_isTooMuch_14, rM_isTooMuch_15, rM_isTooMuch_16, rM_isTooMuch_19, rM_isTooMuch_22, rM_isTooMuch_23, rM_isTooMuch_26, rM_isTooMuch_27, ct1_i, ct1_r, ct1_n, true_and, and_true, tl_s, tl_n, le4_0, le4_1, le4_2, le4_3, le4_4, le4_5, isO_r, cl_, emb1, emb2, le_rN, up1_at, up1_up1, sp_M_isTooMuch_M_atKite, sp_M_isTooMuch_M_isRed, obM, mr_0, mr_1, mr_2, mr_3, mr_5, mr_7, mr_11, mi_0, mi_1, mi_2, mi_3, mi_4, mi_5, mi_6, smi_0, smi_1, smi_2, smi_3, smi_4, smi_5, smi_6, fok_i, fok_b1, rb_0, rb_1, rb_bi, bi_eq0, rb_b2, b2_0, ite_not, isO_r, Option.toList, List.cons_append, List.nil_append, q_M_in, q_M_atKite, q_M_atSpool, q_M_atHire, q_M_tail, il_0, tn_0, il_1, tn_1, il_2, tn_2, il_3, tn_3, il_4, tn_4, il_5, tn_5, il_6, tn_6, il_7, tn_7, il_8, tn_8, il_9, tn_9, il_10, tn_10, il_11, tn_11, il_12, tn_12, il_13, tn_13, il_14, tn_14, il_15, tn_15, il_16, tn_16, il_17, tn_17, il_1257, tn_1257, il_1258, tn_1258, il_1259, tn_1259, il_1260, tn_1260, sm2_0, sm2_1, sm2_2, sm6_0, sm6_1, sm6_2, sm6_3, sm6_4, sm6_5, sm6_6, m1_ok, m1_al, m1_rd, m1_re, m1_ln, m1_s, m6_ok, m6_al, m6_rd, m6_re, m6_ln, m6_s, m7_ok, m7_al, m7_rd, m7_re, m7_ln, m7_s, iK_2 hp, q_M_isRed]
  rcases Decidable.em (uk (σ 8) k 2 < x) with h1 | h1
  · rw [if_pos h1]
    rw [bi_t (Or.inl h1)] at hQ
    exact hQ
  · rw [if_neg h1]
    rcases Decidable.em (x < σ 8 1 1) with h2 | h2
    · rw [if_pos h2]
      rw [bi_f (fun q => q.elim h1 (fun q => q h2))] at hQ
      exact hQ
    · rw [if_neg h2]
      rw [bi_t (Or.inr h2)] at hQ
      exact hQ))
abbrev flP (v : HV) (k x : Int32) : Prop := ¬ tmP v k x ∧ ¬ x < uk v k 1
def sp_M_flies : Nat → Sp := spL [(121, f_M_isTooMuch), (99, f_M_atKite)]
theorem sp_M_flies_M_isTooMuch : sp_M_flies 121 = f_M_isTooMuch := rfl
theorem sp_M_flies_M_atKite : sp_M_flies 99 = f_M_atKite := rfl
def f_M_flies : Sp := aS 9 (fun _ => 126) 2 (gL2 (fun _ k x σ => (sm k 15, some (.int (bi (flP (σ 8) k x))), σ)))
theorem q_M_flies {k x : Int32} {σ : SG} : f_M_flies [.ref 126, .int k, .int x] (emb σ) = (sm k 15, some (.int (bi (flP (σ 8) k x))), emb (σ)) := aS2_at (ad := (fun _ => 126)) (i := hI 126) (by decide) rfl
set_option maxHeartbeats 4000000 in
set_option maxRecDepth 20000 in
theorem ok_M_flies : SpecOK 142 f_M_flies := SpecOK.of (sp := sp_M_flies) (by decide) (by decide) (spL_ok (List.forall_mem_cons.mpr ⟨ok_M_isTooMuch, (List.forall_mem_cons.mpr ⟨ok_M_atKite, (fun q h => absurd h List.not_mem_nil)⟩)⟩)) (Does_aS2 (Nat.le_of_ble_eq_true rfl) (fun sc i k x σ hi had hp => by
  refine Vf_q ?_ ⟨rfl, rfl⟩
  intro Q hQ
  dsimp only at hQ hp
  show Vf 142 _ _ 0 [.ref (126), .int k, .int x] [] (emb σ) _

  simp only [rM_flies_0, rM_flies_1, rM_flies_2, rM_flies_3, rM_flies_6, rM_flies_9, rM_flies_10, rM_flies_11, rM_flies_14, rM_flies_15, rM_flies_16, rM_flies_19, rM_flies_20, rM_flies_23, rM_flies_24, rM_flies_27, rM_flies_28, ct1_i, ct1_r, ct1_n, true_and, and_true, tl_s, tl_n, le4_0, le4_1, le4_2, le4_3, le4_4, le4_5, isO_r, cl_, emb1, emb2, le_rN, up1_at, up1_up1, sp_M_flies_M_isTooMuch, sp_M_flies_M_atKite, obM, mr_0, mr_1, mr_2, mr_3, mr_5, mr_7, mr_11, mi_0, mi_1, mi_2, mi_3, mi_4, mi_5, mi_6, smi_0, smi_1, smi_2, smi_3, smi_4, smi_5, smi_6, fok_i, fok_b1, rb_0, rb_1, rb_bi, bi_eq0, rb_b2, b2_0, ite_not, isO_r, Option.toList, List.cons_append, List.nil_append, q_M_in, q_M_atKite, q_M_atSpool, q_M_atHire, q_M_tail, il_0, tn_0, il_1, tn_1, il_2, tn_2, il_3, tn_3, il_4, tn_4, il_5, tn_5, il_6, tn_6, il_7, tn_7, il_8, tn_8, il_9, tn_9, il_10, tn_10, il_11, tn_11, il_12, tn_12, il_13, tn_13, il_14, tn_14, il_15, tn_15, il_16, tn_16, il_17, tn_17, il_1257, tn_1257, il_1258, tn_1258, il_1259, tn_1259, il_1260, tn_1260, sm2_0, sm2_1, sm2_2, sm6_0, sm6_1, sm6_2, sm6_3, sm6_4, sm6_5, sm6_6, m1_ok, m1_al, m1_rd, m1_re, m1_ln, m1_s, m6_ok, m6_al, m6_rd, m6_re, m6_ln, m6_s, m7_ok, m7_al, m7_rd, m7_re, m7_ln, m7_s, iK_1 hp, q_M_isTooMuch, hp]
  rcases Decidable.em (tmP (σ 8) k x) with h1 | h1
  · rw [if_pos h1]
    rw [bi_f (fun q => q.1 h1)] at hQ
    exact hQ
  · rw [if_neg h1]
    rcases Decidable.em (x < uk (σ 8) k 1) with h2 | h2
    · rw [if_pos h2]
      rw [bi_f (fun q => q.2 h2)] at hQ
      exact hQ
    · rw [if_neg h2]
      rw [bi_t ⟨h1, h2⟩] at hQ
      exact hQ))
def sp_M_priceOf : Nat → Sp := spL [(126, f_M_of), (99, f_M_atKite)]
theorem sp_M_priceOf_M_of : sp_M_priceOf 126 = f_M_of := rfl
theorem sp_M_priceOf_M_atKite : sp_M_priceOf 99 = f_M_atKite := rfl
def f_M_priceOf : Sp := aS 9 (fun _ => 126) 1 (gL1 (fun _ p σ => (sm p 9 ∧ sm (uh (σ 8) p 1) 15, some (.int (uk (σ 8) (uh (σ 8) p 1) 4)), σ)))
theorem q_M_priceOf {p : Int32} {σ : SG} : f_M_priceOf [.ref 126, .int p] (emb σ) = (sm p 9 ∧ sm (uh (σ 8) p 1) 15, some (.int (uk (σ 8) (uh (σ 8) p 1) 4)), emb (σ)) := aS1_at (ad := (fun _ => 126)) (i := hI 126) (by decide) rfl
set_option maxHeartbeats 4000000 in
set_option maxRecDepth 20000 in
theorem ok_M_priceOf : SpecOK 139 f_M_priceOf := SpecOK.of (sp := sp_M_priceOf) (by decide) (by decide) (spL_ok (List.forall_mem_cons.mpr ⟨ok_M_of, (List.forall_mem_cons.mpr ⟨ok_M_atKite, (fun q h => absurd h List.not_mem_nil)⟩)⟩)) (Does_aS1 (Nat.le_of_ble_eq_true rfl) (fun sc i p σ hi had hp => by
  refine Vf_q ?_ ⟨rfl, rfl⟩
  intro Q hQ
  dsimp only at hQ hp
  show Vf 139 _ _ 0 [.ref (126), .int p] [] (emb σ) _

  simp only [rM_priceOf_0, rM_priceOf_1, rM_priceOf_4, rM_priceOf_5, rM_priceOf_6, rM_priceOf_7, rM_priceOf_10, rM_priceOf_11, rM_priceOf_14, rM_priceOf_15, ct1_i, ct1_r, ct1_n, true_and, and_true, tl_s, tl_n, le4_0, le4_1, le4_2, le4_3, le4_4, le4_5, isO_r, cl_, emb1, emb2, le_rN, up1_at, up1_up1, sp_M_priceOf_M_of, sp_M_priceOf_M_atKite, obM, mr_0, mr_1, mr_2, mr_3, mr_5, mr_7, mr_11, mi_0, mi_1, mi_2, mi_3, mi_4, mi_5, mi_6, smi_0, smi_1, smi_2, smi_3, smi_4, smi_5, smi_6, fok_i, fok_b1, rb_0, rb_1, rb_bi, bi_eq0, rb_b2, b2_0, ite_not, isO_r, Option.toList, List.cons_append, List.nil_append, q_M_in, q_M_atKite, q_M_atSpool, q_M_atHire, q_M_tail, il_0, tn_0, il_1, tn_1, il_2, tn_2, il_3, tn_3, il_4, tn_4, il_5, tn_5, il_6, tn_6, il_7, tn_7, il_8, tn_8, il_9, tn_9, il_10, tn_10, il_11, tn_11, il_12, tn_12, il_13, tn_13, il_14, tn_14, il_15, tn_15, il_16, tn_16, il_17, tn_17, il_1257, tn_1257, il_1258, tn_1258, il_1259, tn_1259, il_1260, tn_1260, sm2_0, sm2_1, sm2_2, sm6_0, sm6_1, sm6_2, sm6_3, sm6_4, sm6_5, sm6_6, m1_ok, m1_al, m1_rd, m1_re, m1_ln, m1_s, m6_ok, m6_al, m6_rd, m6_re, m6_ln, m6_s, m7_ok, m7_al, m7_rd, m7_re, m7_ln, m7_s, q_M_of, hp.1, iK_4 hp.2]
  exact hQ))
def pyM (v : HV) (p c : Int32) : HV := inc (inc v (1187 + 7 * p + 6).toNatClampNeg c) 12 c
def sp_M_pays : Nat → Sp := spL [(103, f_M_atHire)]
theorem sp_M_pays_M_atHire : sp_M_pays 103 = f_M_atHire := rfl
def f_M_pays : Sp := aS 9 (fun _ => 126) 2 (gL2 (fun _ p c σ => (sm p 9, none, up1 σ 8 (pyM (σ 8) p c))))
theorem q_M_pays {p c : Int32} {σ : SG} : f_M_pays [.ref 126, .int p, .int c] (emb σ) = (sm p 9, none, emb (up1 σ 8 (pyM (σ 8) p c))) := aS2_at (ad := (fun _ => 126)) (i := hI 126) (by decide) rfl
set_option maxHeartbeats 4000000 in
set_option maxRecDepth 20000 in
theorem ok_M_pays : SpecOK 124 f_M_pays := SpecOK.of (sp := sp_M_pays) (by decide) (by decide) (spL_ok (List.forall_mem_cons.mpr ⟨ok_M_atHire, (fun q h => absurd h List.not_mem_nil)⟩)) (Does_aS2 (Nat.le_of_ble_eq_true rfl) (fun sc i p c σ hi had hp => by
  refine Vf_q ?_ ⟨rfl, rfl⟩
  intro Q hQ
  dsimp only at hQ hp
  show Vf 124 _ _ 0 [.ref (126), .int p, .int c] [] (emb σ) _

  simp only [rM_pays_0, rM_pays_1, rM_pays_4, rM_pays_5, rM_pays_7, rM_pays_10, rM_pays_11, rM_pays_12, rM_pays_13, rM_pays_14, rM_pays_15, rM_pays_16, rM_pays_19, rM_pays_21, rM_pays_22, rM_pays_23, rM_pays_24, rM_pays_25, rM_pays_26, ct1_i, ct1_r, ct1_n, true_and, and_true, tl_s, tl_n, le4_0, le4_1, le4_2, le4_3, le4_4, le4_5, isO_r, cl_, emb1, emb2, le_rN, up1_at, up1_up1, sp_M_pays_M_atHire, obM, mr_0, mr_1, mr_2, mr_3, mr_5, mr_7, mr_11, mi_0, mi_1, mi_2, mi_3, mi_4, mi_5, mi_6, smi_0, smi_1, smi_2, smi_3, smi_4, smi_5, smi_6, fok_i, fok_b1, rb_0, rb_1, rb_bi, bi_eq0, rb_b2, b2_0, ite_not, isO_r, Option.toList, List.cons_append, List.nil_append, q_M_in, q_M_atKite, q_M_atSpool, q_M_atHire, q_M_tail, il_0, tn_0, il_1, tn_1, il_2, tn_2, il_3, tn_3, il_4, tn_4, il_5, tn_5, il_6, tn_6, il_7, tn_7, il_8, tn_8, il_9, tn_9, il_10, tn_10, il_11, tn_11, il_12, tn_12, il_13, tn_13, il_14, tn_14, il_15, tn_15, il_16, tn_16, il_17, tn_17, il_1257, tn_1257, il_1258, tn_1258, il_1259, tn_1259, il_1260, tn_1260, sm2_0, sm2_1, sm2_2, sm6_0, sm6_1, sm6_2, sm6_3, sm6_4, sm6_5, sm6_6, m1_ok, m1_al, m1_rd, m1_re, m1_ln, m1_s, m6_ok, m6_al, m6_rd, m6_re, m6_ln, m6_s, m7_ok, m7_al, m7_rd, m7_re, m7_ln, m7_s, iH_6 hp]
  exact hQ))
def tg1 (v : HV) (s w : Int32) (c : Nat) : HV := if bit s c = 1 then inc (dcr v (1169 + 3 * oN c + 1).toNatClampNeg 1) (1169 + 3 * oN c + w).toNatClampNeg 1 else v
def tgF (s w : Int32) : Nat → Nat → HV → HV
  | _, 0, v => v
  | c, n + 1, v => tgF s w (c + 1) n (tg1 v s w c)
set_option maxHeartbeats 4000000 in
set_option maxRecDepth 20000 in
theorem lp_M_tailsGo {sp : Nat → Sp} (h94 : sp 94 = f_M_tail) (h102 : sp 102 = f_M_has) {sc : Nat × (Nat → Int32)} {s w : Int32} (hw : sm w 2) {Q : Option Value → MS → Prop} : ∀ (m n : Nat) (σ : SG), n + m = 6 → Q none (emb (up1 σ 8 (tgF s w n m (σ 8)))) → Vf 127 sp ((134, SLT), sc) 2 [.ref 126, .int s, .int w, .int (oN n)] [] (emb σ) Q := by
  intro m
  induction m with
  | zero =>
    intro n σ hn hQ
    have : n = 6 := by omega
    subst this
    change Q none (emb (up1 σ 8 (σ 8))) at hQ
    rw [up1_self] at hQ
    rw [rM_tailsGo_2]
    simp only [rM_tailsGo_3, rM_tailsGo_5, rM_tailsGo_8, rM_tailsGo_9, rM_tailsGo_10, rM_tailsGo_13, rM_tailsGo_16, rM_tailsGo_17, rM_tailsGo_20, rM_tailsGo_21, rM_tailsGo_22, rM_tailsGo_25, rM_tailsGo_26, rM_tailsGo_27, rM_tailsGo_28, rM_tailsGo_29, rM_tailsGo_30, rM_tailsGo_31, rM_tailsGo_34, rM_tailsGo_35, rM_tailsGo_36, rM_tailsGo_39, rM_tailsGo_40, rM_tailsGo_41, rM_tailsGo_42, rM_tailsGo_43, rM_tailsGo_44, rM_tailsGo_47, rM_tailsGo_50, ct1_i, ct1_r, ct1_n, true_and, and_true, tl_s, tl_n, le4_0, le4_1, le4_2, le4_3, le4_4, le4_5, isO_r, if_neg c6]
    exact hQ
  | succ m ih =>
    intro n σ hn hQ
    have hs : sm (oN n) 5 := sm_oN (by omega) (by decide)
    change Q none (emb (up1 σ 8 (tgF s w (n + 1) m (tg1 (σ 8) s w n)))) at hQ
    unfold tg1 at hQ
    rw [rM_tailsGo_2]
    simp only [rM_tailsGo_3, rM_tailsGo_5, rM_tailsGo_8, rM_tailsGo_9, rM_tailsGo_10, rM_tailsGo_13, rM_tailsGo_16, rM_tailsGo_17, rM_tailsGo_20, rM_tailsGo_21, rM_tailsGo_22, rM_tailsGo_25, rM_tailsGo_26, rM_tailsGo_27, rM_tailsGo_28, rM_tailsGo_29, rM_tailsGo_30, rM_tailsGo_31, rM_tailsGo_34, rM_tailsGo_35, rM_tailsGo_36, rM_tailsGo_39, rM_tailsGo_40, rM_tailsGo_41, rM_tailsGo_42, rM_tailsGo_43, rM_tailsGo_44, rM_tailsGo_47, rM_tailsGo_50, ct1_i, ct1_r, ct1_n, true_and, and_true, tl_s, tl_n, le4_0, le4_1, le4_2, le4_3, le4_4, le4_5, isO_r, cl_, emb1, emb2, le_rN, up1_at, up1_up1, h94, h102, obM, mr_0, mr_1, mr_2, mr_3, mr_5, mr_7, mr_11, mi_0, mi_1, mi_2, mi_3, mi_4, mi_5, mi_6, smi_0, smi_1, smi_2, smi_3, smi_4, smi_5, smi_6, fok_i, fok_b1, rb_0, rb_1, rb_bi, bi_eq0, rb_b2, b2_0, ite_not, isO_r, Option.toList, List.cons_append, List.nil_append, q_M_in, q_M_atKite, q_M_atSpool, q_M_atHire, q_M_tail, il_0, tn_0, il_1, tn_1, il_2, tn_2, il_3, tn_3, il_4, tn_4, il_5, tn_5, il_6, tn_6, il_7, tn_7, il_8, tn_8, il_9, tn_9, il_10, tn_10, il_11, tn_11, il_12, tn_12, il_13, tn_13, il_14, tn_14, il_15, tn_15, il_16, tn_16, il_17, tn_17, il_1257, tn_1257, il_1258, tn_1258, il_1259, tn_1259, il_1260, tn_1260, sm2_0, sm2_1, sm2_2, sm6_0, sm6_1, sm6_2, sm6_3, sm6_4, sm6_5, sm6_6, m1_ok, m1_al, m1_rd, m1_re, m1_ln, m1_s, m6_ok, m6_al, m6_rd, m6_re, m6_ln, m6_s, m7_ok, m7_al, m7_rd, m7_re, m7_ln, m7_s, q_M_has, if_pos (lt6 (show n < 6 by omega)), oN_succ, iT_1 hs, iT_v hs hw]
    change if bit s n = 1 then _ else _
    rcases Decidable.em (bit s n = 1) with h1 | h1
    · rw [if_pos h1] at hQ ⊢
      refine ih (n + 1) _ (by omega) ?_
      rw [up1_at, up1_up1]
      exact hQ
    · rw [if_neg h1] at hQ ⊢
      exact ih (n + 1) _ (by omega) hQ
def sp_M_tailsGo : Nat → Sp := spL [(94, f_M_tail), (102, f_M_has)]
theorem sp_M_tailsGo_M_tail : sp_M_tailsGo 94 = f_M_tail := rfl
theorem sp_M_tailsGo_M_has : sp_M_tailsGo 102 = f_M_has := rfl
def f_M_tailsGo : Sp := aS 9 (fun _ => 126) 2 (gL2 (fun _ s w σ => (sm w 2, none, up1 σ 8 (tgF s w 0 6 (σ 8)))))
theorem q_M_tailsGo {s w : Int32} {σ : SG} : f_M_tailsGo [.ref 126, .int s, .int w] (emb σ) = (sm w 2, none, emb (up1 σ 8 (tgF s w 0 6 (σ 8)))) := aS2_at (ad := (fun _ => 126)) (i := hI 126) (by decide) rfl
set_option maxHeartbeats 4000000 in
set_option maxRecDepth 20000 in
theorem ok_M_tailsGo : SpecOK 127 f_M_tailsGo := SpecOK.of (sp := sp_M_tailsGo) (by decide) (by decide) (spL_ok (List.forall_mem_cons.mpr ⟨ok_M_tail, (List.forall_mem_cons.mpr ⟨ok_M_has, (fun q h => absurd h List.not_mem_nil)⟩)⟩)) (Does_aS2 (Nat.le_of_ble_eq_true rfl) (fun sc i s w σ hi had hp => by
  refine Vf_q ?_ ⟨rfl, rfl⟩
  intro Q hQ
  dsimp only at hQ hp
  show Vf 127 _ _ 0 [.ref (126), .int s, .int w, .null] [] (emb σ) _

  simp only [rM_tailsGo_0, rM_tailsGo_1, ct1_i, ct1_r, ct1_n, true_and, and_true, tl_s, tl_n, le4_0, le4_1, le4_2, le4_3, le4_4, le4_5, isO_r, cl_, emb1, emb2, le_rN, up1_at, up1_up1, sp_M_tailsGo_M_tail, sp_M_tailsGo_M_has]
  exact lp_M_tailsGo sp_M_tailsGo_M_tail sp_M_tailsGo_M_has hp 6 0 σ rfl hQ))
