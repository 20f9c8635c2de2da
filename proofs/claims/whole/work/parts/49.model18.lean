/-! THE CHECK: hire -/
def hi1 (v : HV) : HV := inc v 16 1
def hi2 (v : HV) (p k P m h t : Int32) : HV := up2 (hi1 v) 1 (1187 + 7 * p + 0).toNatClampNeg (hi1 v 1 8)
def hi3 (v : HV) (p k P m h t : Int32) : HV := up2 (hi2 v p k P m h t) 1 (1187 + 7 * p + 1).toNatClampNeg k
def hi4 (v : HV) (p k P m h t : Int32) : HV := up2 (hi3 v p k P m h t) 1 (1187 + 7 * p + 2).toNatClampNeg P
def hi5 (v : HV) (p k P m h t : Int32) : HV := up2 (hi4 v p k P m h t) 1 (1187 + 7 * p + 3).toNatClampNeg m
def hi6 (v : HV) (p k P m h t : Int32) : HV := up2 (hi5 v p k P m h t) 1 (1187 + 7 * p + 4).toNatClampNeg h
def hi7 (v : HV) (p k P m h t : Int32) : HV := up2 (hi6 v p k P m h t) 1 (1187 + 7 * p + 5).toNatClampNeg t
def hi8 (v : HV) (p k P m h t : Int32) : HV := up2 (hi7 v p k P m h t) 1 (1187 + 7 * p + 6).toNatClampNeg 0
def hi9 (v : HV) (p k P m h t : Int32) : HV := up2 (hi8 v p k P m h t) 1 (1017 + 7 * k + 0).toNatClampNeg 1
def hiA (v : HV) (p k P m h t : Int32) : HV := inc (hi9 v p k P m h t) (1017 + 7 * k + 6).toNatClampNeg 1
def hiB (v : HV) (p k P m h t : Int32) : HV := up2 (hiA v p k P m h t) 1 (1129 + 4 * P + 2).toNatClampNeg (hiA v p k P m h t 1 8)
def hla (v : HV) (t : Int32) (c : Nat) : HV := dcr v (1169 + 3 * oN c + 0).toNatClampNeg (if bit t c = 1 then 1 else 0)
def hlb (v : HV) (t : Int32) (c : Nat) : HV := inc (hla v t c) (1169 + 3 * oN c + 1).toNatClampNeg (if bit t c = 1 then 1 else 0)
def hlF (t : Int32) : Nat → Nat → HV → HV
  | _, 0, v => v
  | c, n + 1, v => hlF t (c + 1) n (hlb v t c)
def hz1 (v : HV) (p k h : Int32) : HV := pyM v p (uk v k 4 * h)
def hz2 (v : HV) (p k h : Int32) : HV := inc (hz1 v p k h) 8 1
set_option maxHeartbeats 4000000 in
set_option maxRecDepth 20000 in
theorem lp_M_hire_303 {sp : Nat → Sp} (h99 : sp 99 = f_M_atKite) (hpy : sp 124 = f_M_pays) {sc : Nat × (Nat → Int32)} {p k P m h t r : Int32} {u : Value} (hp : sm p 9) (hk : sm k 15) (hu : ct1 u) {Q : Option Value → MS → Prop} (σ : SG) (hQ : Q (some (.int (hz2 (σ 8) p k h 1 8 - 1))) (emb (up1 σ 8 (hz2 (σ 8) p k h)))) : Vf 159 sp ((134, SLT), sc) 303 [.ref 126, .int k, .int m, .int h, .int t, .int r, .int p, .int P, u] [] (emb σ) Q := by
  have g1 : ∀ v : HV, pyM v p (uk v k 4 * h) = hz1 v p k h := fun _ => rfl
  have g2 : ∀ v : HV, up2 (hz1 v p k h) 1 8 (hz1 v p k h 1 8 + 1) = hz2 v p k h := fun _ => rfl
  simp only [rM_hire_303, rM_hire_304, rM_hire_306, rM_hire_307, rM_hire_310, rM_hire_311, rM_hire_312, rM_hire_315, rM_hire_316, rM_hire_317, rM_hire_318, rM_hire_321, rM_hire_322, rM_hire_325, rM_hire_327, rM_hire_328, rM_hire_329, rM_hire_330, rM_hire_331, rM_hire_332, rM_hire_333, rM_hire_336, rM_hire_338, rM_hire_339, rM_hire_340, rM_hire_341, ct1_i, ct1_r, ct1_n, true_and, and_true, tl_s, tl_n, le4_0, le4_1, le4_2, le4_3, le4_4, le4_5, isO_r, cl_, emb1, emb2, le_rN, up1_at, up1_up1, h99, hpy, obM, mr_0, mr_1, mr_2, mr_3, mr_5, mr_7, mr_11, mi_0, mi_1, mi_2, mi_3, mi_4, mi_5, mi_6, smi_0, smi_1, smi_2, smi_3, smi_4, smi_5, smi_6, fok_i, fok_b1, rb_0, rb_1, rb_bi, bi_eq0, rb_b2, b2_0, ite_not, isO_r, Option.toList, List.cons_append, List.nil_append, q_M_in, q_M_atKite, q_M_atSpool, q_M_atHire, q_M_tail, il_0, tn_0, il_1, tn_1, il_2, tn_2, il_3, tn_3, il_4, tn_4, il_5, tn_5, il_6, tn_6, il_7, tn_7, il_8, tn_8, il_9, tn_9, il_10, tn_10, il_11, tn_11, il_12, tn_12, il_13, tn_13, il_14, tn_14, il_15, tn_15, il_16, tn_16, il_17, tn_17, il_1257, tn_1257, il_1258, tn_1258, il_1259, tn_1259, il_1260, tn_1260, sm2_0, sm2_1, sm2_2, sm6_0, sm6_1, sm6_2, sm6_3, sm6_4, sm6_5, sm6_6, m1_ok, m1_al, m1_rd, m1_re, m1_ln, m1_s, m6_ok, m6_al, m6_rd, m6_re, m6_ln, m6_s, m7_ok, m7_al, m7_rd, m7_re, m7_ln, m7_s, q_M_pays, hp, iK_4 hk, g1, g2, eq_true hu]
  exact hQ
set_option maxHeartbeats 4000000 in
set_option maxRecDepth 20000 in
theorem lp_M_hire_232 {sp : Nat → Sp} (h99 : sp 99 = f_M_atKite) (hpy : sp 124 = f_M_pays) (h94 : sp 94 = f_M_tail) (h102 : sp 102 = f_M_has) {sc : Nat × (Nat → Int32)} {p k P m h t r : Int32} (hp : sm p 9) (hk : sm k 15) {Q : Option Value → MS → Prop} : ∀ (q n : Nat) (σ : SG), n + q = 6 → Q (some (.int (hz2 (hlF t n q (σ 8)) p k h 1 8 - 1))) (emb (up1 σ 8 (hz2 (hlF t n q (σ 8)) p k h))) → Vf 159 sp ((134, SLT), sc) 232 [.ref 126, .int k, .int m, .int h, .int t, .int r, .int p, .int P, .int (oN n)] [] (emb σ) Q := by
  intro q
  induction q with
  | zero =>
    intro n σ hn hQ
    have : n = 6 := by omega
    subst this
    change Q (some (.int (hz2 (σ 8) p k h 1 8 - 1))) (emb (up1 σ 8 (hz2 (σ 8) p k h))) at hQ
    rw [rM_hire_232]
    simp only [rM_hire_234, rM_hire_236, rM_hire_239, rM_hire_240, rM_hire_243, rM_hire_245, rM_hire_246, rM_hire_249, rM_hire_250, rM_hire_251, rM_hire_253, rM_hire_255, rM_hire_258, rM_hire_261, rM_hire_262, rM_hire_265, rM_hire_266, rM_hire_267, rM_hire_268, rM_hire_269, rM_hire_272, rM_hire_274, rM_hire_275, rM_hire_278, rM_hire_279, rM_hire_280, rM_hire_282, rM_hire_284, rM_hire_287, rM_hire_290, rM_hire_291, rM_hire_294, rM_hire_295, rM_hire_296, rM_hire_297, rM_hire_300, ct1_i, ct1_r, ct1_n, true_and, and_true, tl_s, tl_n, le4_0, le4_1, le4_2, le4_3, le4_4, le4_5, isO_r, if_neg c6]
    exact lp_M_hire_303 h99 hpy hp hk (of_eq_true (ct1_i _)) σ hQ
  | succ q ih =>
    intro n σ hn hQ
    have hs : sm (oN n) 5 := sm_oN (by omega) (by decide)
    change Q (some (.int (hz2 (hlF t (n + 1) q (hlb (σ 8) t n)) p k h 1 8 - 1))) (emb (up1 σ 8 (hz2 (hlF t (n + 1) q (hlb (σ 8) t n)) p k h))) at hQ
    unfold hlb hla at hQ
    rw [rM_hire_232]
    simp only [rM_hire_234, rM_hire_236, rM_hire_239, rM_hire_240, rM_hire_243, rM_hire_245, rM_hire_246, rM_hire_249, rM_hire_250, rM_hire_251, rM_hire_253, rM_hire_255, rM_hire_258, rM_hire_261, rM_hire_262, rM_hire_265, rM_hire_266, rM_hire_267, rM_hire_268, rM_hire_269, rM_hire_272, rM_hire_274, rM_hire_275, rM_hire_278, rM_hire_279, rM_hire_280, rM_hire_282, rM_hire_284, rM_hire_287, rM_hire_290, rM_hire_291, rM_hire_294, rM_hire_295, rM_hire_296, rM_hire_297, rM_hire_300, ct1_i, ct1_r, ct1_n, true_and, and_true, tl_s, tl_n, le4_0, le4_1, le4_2, le4_3, le4_4, le4_5, isO_r, cl_, emb1, emb2, le_rN, up1_at, up1_up1, h94, h102, obM, mr_0, mr_1, mr_2, mr_3, mr_5, mr_7, mr_11, mi_0, mi_1, mi_2, mi_3, mi_4, mi_5, mi_6, smi_0, smi_1, smi_2, smi_3, smi_4, smi_5, smi_6, fok_i, fok_b1, rb_0, rb_1, rb_bi, bi_eq0, rb_b2, b2_0, ite_not, isO_r, Option.toList, List.cons_append, List.nil_append, q_M_in, q_M_atKite, q_M_atSpool, q_M_atHire, q_M_tail, il_0, tn_0, il_1, tn_1, il_2, tn_2, il_3, tn_3, il_4, tn_4, il_5, tn_5, il_6, tn_6, il_7, tn_7, il_8, tn_8, il_9, tn_9, il_10, tn_10, il_11, tn_11, il_12, tn_12, il_13, tn_13, il_14, tn_14, il_15, tn_15, il_16, tn_16, il_17, tn_17, il_1257, tn_1257, il_1258, tn_1258, il_1259, tn_1259, il_1260, tn_1260, sm2_0, sm2_1, sm2_2, sm6_0, sm6_1, sm6_2, sm6_3, sm6_4, sm6_5, sm6_6, m1_ok, m1_al, m1_rd, m1_re, m1_ln, m1_s, m6_ok, m6_al, m6_rd, m6_re, m6_ln, m6_s, m7_ok, m7_al, m7_rd, m7_re, m7_ln, m7_s, q_M_has, if_pos (lt6 (show n < 6 by omega)), oN_succ, iT_0 hs, iT_1 hs]
    change if bit t n = 1 then (if bit t n = 1 then _ else _) else (if bit t n = 1 then _ else _)
    rcases Decidable.em (bit t n = 1) with h1 | h1
    · rw [if_pos h1, if_pos h1]
      simp only [if_pos h1] at hQ
      refine ih (n + 1) _ (by omega) ?_
      rw [up1_at, up1_up1]
      exact hQ
    · rw [if_neg h1, if_neg h1]
      simp only [if_neg h1] at hQ
      refine ih (n + 1) _ (by omega) ?_
      rw [up1_at, up1_up1]
      exact hQ
def hjM (v : HV) (k P m h t : Int32) : HV := hz2 (hlF t 0 6 (hiB v (v 1 16) k P m h t)) (v 1 16) k h
set_option maxHeartbeats 4000000 in
set_option maxRecDepth 20000 in
theorem lp_M_hire_65 {sp : Nat → Sp} (h99 : sp 99 = f_M_atKite) (hpy : sp 124 = f_M_pays) (h94 : sp 94 = f_M_tail) (h102 : sp 102 = f_M_has) (h122 : sp 122 = f_M_spoolFor) (h103 : sp 103 = f_M_atHire) (h100 : sp 100 = f_M_atSpool) {sc : Nat × (Nat → Int32)} {p k P m h t r : Int32} (hp : sm p 9) (hk : sm k 15) (hP : sm P 9) {Q : Option Value → MS → Prop} (σ : SG) (e1 : σ 8 1 16 = p) (e2 : sfM (σ 8) m = P) (h7 : sm (σ 8 1 7) 10) (hQ : Q (some (.int (hjM (σ 8) k P m h t 1 8 - 1))) (emb (up1 σ 8 (hjM (σ 8) k P m h t)))) : Vf 159 sp ((134, SLT), sc) 65 [.ref 126, .int k, .int m, .int h, .int t, .int r, .null, .null, .null] [] (emb σ) Q := by
  have g1 : up2 (σ 8) 1 16 (p + 1) = hi1 (σ 8) := by rw [← e1]; rfl
  have g2 : ∀ v : HV, up2 (hi1 v) 1 (1187 + 7 * p + 0).toNatClampNeg (hi1 v 1 8) = hi2 v p k P m h t := fun _ => rfl
  have g3 : ∀ v : HV, up2 (hi2 v p k P m h t) 1 (1187 + 7 * p + 1).toNatClampNeg k = hi3 v p k P m h t := fun _ => rfl
  have g4 : ∀ v : HV, up2 (hi3 v p k P m h t) 1 (1187 + 7 * p + 2).toNatClampNeg P = hi4 v p k P m h t := fun _ => rfl
  have g5 : ∀ v : HV, up2 (hi4 v p k P m h t) 1 (1187 + 7 * p + 3).toNatClampNeg m = hi5 v p k P m h t := fun _ => rfl
  have g6 : ∀ v : HV, up2 (hi5 v p k P m h t) 1 (1187 + 7 * p + 4).toNatClampNeg h = hi6 v p k P m h t := fun _ => rfl
  have g7 : ∀ v : HV, up2 (hi6 v p k P m h t) 1 (1187 + 7 * p + 5).toNatClampNeg t = hi7 v p k P m h t := fun _ => rfl
  have g8 : ∀ v : HV, up2 (hi7 v p k P m h t) 1 (1187 + 7 * p + 6).toNatClampNeg 0 = hi8 v p k P m h t := fun _ => rfl
  have g9 : ∀ v : HV, up2 (hi8 v p k P m h t) 1 (1017 + 7 * k + 0).toNatClampNeg 1 = hi9 v p k P m h t := fun _ => rfl
  have gA : ∀ v : HV, up2 (hi9 v p k P m h t) 1 (1017 + 7 * k + 6).toNatClampNeg (hi9 v p k P m h t 1 (1017 + 7 * k + 6).toNatClampNeg + 1) = hiA v p k P m h t := fun _ => rfl
  have gB : ∀ v : HV, up2 (hiA v p k P m h t) 1 (1129 + 4 * P + 2).toNatClampNeg (hiA v p k P m h t 1 8) = hiB v p k P m h t := fun _ => rfl
  have e3 : sfF (σ 8) m 0 (σ 8 1 7).toNatClampNeg (-5) = P := e2
  simp only [rM_hire_65, rM_hire_66, rM_hire_69, rM_hire_71, rM_hire_72, rM_hire_74, rM_hire_75, rM_hire_76, rM_hire_79, rM_hire_81, rM_hire_82, rM_hire_85, rM_hire_87, rM_hire_88, rM_hire_89, rM_hire_90, rM_hire_91, rM_hire_92, rM_hire_93, rM_hire_96, rM_hire_98, rM_hire_99, rM_hire_102, rM_hire_103, rM_hire_106, rM_hire_108, rM_hire_109, rM_hire_110, rM_hire_111, rM_hire_114, rM_hire_116, rM_hire_117, rM_hire_120, rM_hire_121, rM_hire_122, rM_hire_123, rM_hire_126, rM_hire_128, rM_hire_129, rM_hire_132, rM_hire_134, rM_hire_135, rM_hire_136, rM_hire_139, rM_hire_141, rM_hire_142, rM_hire_145, rM_hire_146, rM_hire_147, rM_hire_148, rM_hire_151, rM_hire_153, rM_hire_154, rM_hire_157, rM_hire_158, rM_hire_159, rM_hire_160, rM_hire_163, rM_hire_165, rM_hire_166, rM_hire_169, rM_hire_171, rM_hire_172, rM_hire_173, rM_hire_176, rM_hire_178, rM_hire_180, rM_hire_183, rM_hire_184, rM_hire_185, rM_hire_186, rM_hire_189, rM_hire_190, rM_hire_191, rM_hire_194, rM_hire_195, rM_hire_196, rM_hire_197, rM_hire_200, rM_hire_201, rM_hire_203, rM_hire_206, rM_hire_207, rM_hire_208, rM_hire_209, rM_hire_210, rM_hire_211, rM_hire_212, rM_hire_215, rM_hire_217, rM_hire_218, rM_hire_221, rM_hire_222, rM_hire_225, rM_hire_227, rM_hire_228, rM_hire_229, rM_hire_230, ct1_i, ct1_r, ct1_n, true_and, and_true, tl_s, tl_n, le4_0, le4_1, le4_2, le4_3, le4_4, le4_5, isO_r, cl_, emb1, emb2, le_rN, up1_at, up1_up1, h99, h122, h103, h100, obM, mr_0, mr_1, mr_2, mr_3, mr_5, mr_7, mr_11, mi_0, mi_1, mi_2, mi_3, mi_4, mi_5, mi_6, smi_0, smi_1, smi_2, smi_3, smi_4, smi_5, smi_6, fok_i, fok_b1, rb_0, rb_1, rb_bi, bi_eq0, rb_b2, b2_0, ite_not, isO_r, Option.toList, List.cons_append, List.nil_append, q_M_in, q_M_atKite, q_M_atSpool, q_M_atHire, q_M_tail, il_0, tn_0, il_1, tn_1, il_2, tn_2, il_3, tn_3, il_4, tn_4, il_5, tn_5, il_6, tn_6, il_7, tn_7, il_8, tn_8, il_9, tn_9, il_10, tn_10, il_11, tn_11, il_12, tn_12, il_13, tn_13, il_14, tn_14, il_15, tn_15, il_16, tn_16, il_17, tn_17, il_1257, tn_1257, il_1258, tn_1258, il_1259, tn_1259, il_1260, tn_1260, sm2_0, sm2_1, sm2_2, sm6_0, sm6_1, sm6_2, sm6_3, sm6_4, sm6_5, sm6_6, m1_ok, m1_al, m1_rd, m1_re, m1_ln, m1_s, m6_ok, m6_al, m6_rd, m6_re, m6_ln, m6_s, m7_ok, m7_al, m7_rd, m7_re, m7_ln, m7_s, q_M_spoolFor, h7, e1, e3, iH_0 hp, iH_1 hp, iH_2 hp, iH_3 hp, iH_4 hp, iH_5 hp, iH_6 hp, iK_0 hk, iK_6 hk, iS_2 hP, g1, g2, g3, g4, g5, g6, g7, g8, g9, gA, gB]
  refine lp_M_hire_232 h99 hpy h94 h102 hp hk 6 0 _ rfl ?_
  rw [up1_at, up1_up1]
  unfold hjM at hQ
  rw [e1] at hQ
  exact hQ
def hrM (v : HV) (k m h t : Int32) : Int32 × HV :=
  if wi k 0 (v 1 6 - 1) then (if ihP m h t then (if 0 < rnM v k m h t then (-10 - rnM v k m h t, v) else if v 1 8 = 200 then (-3, v)
    else (hjM (knM v) k (sfM (knM v) m) m h t 1 8 - 1, hjM (knM v) k (sfM (knM v) m) m h t)) else (-2, v)) else (-1, v)

def sp_M_hire : Nat → Sp := spL [(119, f_M_isKite), (120, f_M_isHire), (151, f_M_reason), (116, f_M_know), (122, f_M_spoolFor), (103, f_M_atHire), (99, f_M_atKite), (100, f_M_atSpool), (94, f_M_tail), (102, f_M_has), (124, f_M_pays)]
theorem sp_M_hire_M_isKite : sp_M_hire 119 = f_M_isKite := rfl
theorem sp_M_hire_M_isHire : sp_M_hire 120 = f_M_isHire := rfl
theorem sp_M_hire_M_reason : sp_M_hire 151 = f_M_reason := rfl
theorem sp_M_hire_M_know : sp_M_hire 116 = f_M_know := rfl
theorem sp_M_hire_M_spoolFor : sp_M_hire 122 = f_M_spoolFor := rfl
theorem sp_M_hire_M_atHire : sp_M_hire 103 = f_M_atHire := rfl
theorem sp_M_hire_M_atKite : sp_M_hire 99 = f_M_atKite := rfl
theorem sp_M_hire_M_atSpool : sp_M_hire 100 = f_M_atSpool := rfl
theorem sp_M_hire_M_tail : sp_M_hire 94 = f_M_tail := rfl
theorem sp_M_hire_M_has : sp_M_hire 102 = f_M_has := rfl
theorem sp_M_hire_M_pays : sp_M_hire 124 = f_M_pays := rfl
def f_M_hire : Sp := aS 9 (fun _ => 126) 4 (gL4 (fun _ k m h t σ => (sm (σ 8 0 1) 4 ∧ sm (σ 8 1 0) 1000 ∧ sm (σ 8 1 6) 16 ∧ sm (σ 8 1 7) 10 ∧ (wi k 0 (σ 8 1 6 - 1) → ihP m h t → ¬ 0 < rnM (σ 8) k m h t → ¬ σ 8 1 8 = 200 → sm (knM (σ 8) 1 16) 9 ∧ sm (sfM (knM (σ 8)) m) 9), some (.int (hrM (σ 8) k m h t).1), up1 σ 8 (hrM (σ 8) k m h t).2)))
theorem q_M_hire {k m h t : Int32} {σ : SG} : f_M_hire [.ref 126, .int k, .int m, .int h, .int t] (emb σ) = (sm (σ 8 0 1) 4 ∧ sm (σ 8 1 0) 1000 ∧ sm (σ 8 1 6) 16 ∧ sm (σ 8 1 7) 10 ∧ (wi k 0 (σ 8 1 6 - 1) → ihP m h t → ¬ 0 < rnM (σ 8) k m h t → ¬ σ 8 1 8 = 200 → sm (knM (σ 8) 1 16) 9 ∧ sm (sfM (knM (σ 8)) m) 9), some (.int (hrM (σ 8) k m h t).1), emb (up1 σ 8 (hrM (σ 8) k m h t).2)) := aS4_at (ad := (fun _ => 126)) (i := hI 126) (by decide) rfl
set_option maxHeartbeats 4000000 in
set_option maxRecDepth 20000 in
theorem ok_M_hire : SpecOK 159 f_M_hire := SpecOK.of (sp := sp_M_hire) (by decide) (by decide) (spL_ok (List.forall_mem_cons.mpr ⟨ok_M_isKite, (List.forall_mem_cons.mpr ⟨ok_M_isHire, (List.forall_mem_cons.mpr ⟨ok_M_reason, (List.forall_mem_cons.mpr ⟨ok_M_know, (List.forall_mem_cons.mpr ⟨ok_M_spoolFor, (List.forall_mem_cons.mpr ⟨ok_M_atHire, (List.forall_mem_cons.mpr ⟨ok_M_atKite, (List.forall_mem_cons.mpr ⟨ok_M_atSpool, (List.forall_mem_cons.mpr ⟨ok_M_tail, (List.forall_mem_cons.mpr ⟨ok_M_has, (List.forall_mem_cons.mpr ⟨ok_M_pays, (fun q h => absurd h List.not_mem_nil)⟩)⟩)⟩)⟩)⟩)⟩)⟩)⟩)⟩)⟩)⟩)) (Does_aS4 (Nat.le_of_ble_eq_true rfl) (fun sc i k m h t σ hi had hp => by
  refine Vf_q ?_ ⟨rfl, rfl⟩
  intro Q hQ
  dsimp only at hQ hp
  show Vf 159 _ _ 0 [.ref (126), .int k, .int m, .int h, .int t, .null, .null, .null, .null] [] (emb σ) _

  obtain ⟨p1, p2, p3, p4, p5⟩ := hp
  simp only [rM_hire_0, rM_hire_1, rM_hire_2, rM_hire_5, rM_hire_8, rM_hire_9, rM_hire_10, rM_hire_11, rM_hire_12, rM_hire_14, rM_hire_17, rM_hire_20, rM_hire_22, rM_hire_23, rM_hire_24, rM_hire_25, rM_hire_26, rM_hire_27, rM_hire_29, rM_hire_32, rM_hire_34, rM_hire_36, rM_hire_39, rM_hire_41, rM_hire_43, rM_hire_44, rM_hire_45, rM_hire_46, rM_hire_49, rM_hire_51, rM_hire_52, rM_hire_55, rM_hire_58, rM_hire_60, rM_hire_61, rM_hire_62, ct1_i, ct1_r, ct1_n, true_and, and_true, tl_s, tl_n, le4_0, le4_1, le4_2, le4_3, le4_4, le4_5, isO_r, cl_, emb1, emb2, le_rN, up1_at, up1_up1, sp_M_hire_M_isKite, sp_M_hire_M_isHire, sp_M_hire_M_reason, sp_M_hire_M_know, sp_M_hire_M_spoolFor, sp_M_hire_M_atHire, sp_M_hire_M_atKite, sp_M_hire_M_atSpool, sp_M_hire_M_tail, sp_M_hire_M_has, sp_M_hire_M_pays, obM, mr_0, mr_1, mr_2, mr_3, mr_5, mr_7, mr_11, mi_0, mi_1, mi_2, mi_3, mi_4, mi_5, mi_6, smi_0, smi_1, smi_2, smi_3, smi_4, smi_5, smi_6, fok_i, fok_b1, rb_0, rb_1, rb_bi, bi_eq0, rb_b2, b2_0, ite_not, isO_r, Option.toList, List.cons_append, List.nil_append, q_M_in, q_M_atKite, q_M_atSpool, q_M_atHire, q_M_tail, il_0, tn_0, il_1, tn_1, il_2, tn_2, il_3, tn_3, il_4, tn_4, il_5, tn_5, il_6, tn_6, il_7, tn_7, il_8, tn_8, il_9, tn_9, il_10, tn_10, il_11, tn_11, il_12, tn_12, il_13, tn_13, il_14, tn_14, il_15, tn_15, il_16, tn_16, il_17, tn_17, il_1257, tn_1257, il_1258, tn_1258, il_1259, tn_1259, il_1260, tn_1260, sm2_0, sm2_1, sm2_2, sm6_0, sm6_1, sm6_2, sm6_3, sm6_4, sm6_5, sm6_6, m1_ok, m1_al, m1_rd, m1_re, m1_ln, m1_s, m6_ok, m6_al, m6_rd, m6_re, m6_ln, m6_s, m7_ok, m7_al, m7_rd, m7_re, m7_ln, m7_s, q_M_isKite, q_M_isHire, q_M_reason, q_M_know, p1]
  unfold hrM at hQ
  rcases Decidable.em (wi k 0 (σ 8 1 6 - 1)) with h1 | h1
  case inr => rw [if_neg h1] at hQ ⊢; dsimp only at hQ; rw [up1_self] at hQ; exact hQ
  rw [if_pos h1] at hQ ⊢
  rcases Decidable.em (ihP m h t) with h2 | h2
  case inr => rw [if_neg h2] at hQ ⊢; dsimp only at hQ; rw [up1_self] at hQ; exact hQ
  rw [if_pos h2] at hQ ⊢
  refine ⟨⟨p2, wi_sub (by decide) p3 h1, wi_sm (n := 12) h2.2.1 (by decide) (by decide), p4⟩, ?_⟩
  rcases Decidable.em (0 < rnM (σ 8) k m h t) with h3 | h3
  case inl => rw [if_pos h3] at hQ ⊢; dsimp only at hQ; rw [up1_self] at hQ; exact hQ
  rw [if_neg h3] at hQ ⊢
  rcases Decidable.em (σ 8 1 8 = 200) with h4 | h4
  case inl => rw [if_pos h4] at hQ ⊢; dsimp only at hQ; rw [up1_self] at hQ; exact hQ
  rw [if_neg h4] at hQ ⊢
  have h5 := p5 h1 h2 h3 h4
  refine lp_M_hire_65 sp_M_hire_M_atKite sp_M_hire_M_pays sp_M_hire_M_tail sp_M_hire_M_has sp_M_hire_M_spoolFor sp_M_hire_M_atHire sp_M_hire_M_atSpool (p := knM (σ 8) 1 16) (P := sfM (knM (σ 8)) m) h5.1 (wi_sub (by decide) p3 h1) h5.2 _ ?_ ?_ ?_ ?_
  · rw [up1_at]
  · rw [up1_at]
  · rw [up1_at, knM_1]; exact p4
  · rw [up1_at, up1_up1]; exact hQ))
