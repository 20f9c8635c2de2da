/-! THE CHECK: a part of the text is read, and done -/
theorem p5_0 : iin 0 5 = True := iin_n (n := 0) (by decide) (by decide)
theorem p5_1 : iin 1 5 = True := iin_n (n := 1) (by decide) (by decide)
theorem p5_2 : iin 2 5 = True := iin_n (n := 2) (by decide) (by decide)
theorem p5_3 : iin 3 5 = True := iin_n (n := 3) (by decide) (by decide)
theorem p5_4 : iin 4 5 = True := iin_n (n := 4) (by decide) (by decide)
theorem tP_7 {v : HV} {p t : Nat} {x : Int32} (h : tP v p) : tP (up2 v 7 t x) p := tP_c h (by rw [up2_kn (by decide)]) (by rw [up2_kn (by decide)])
def ra1 (v : HV) (c : Int32) : HV := up2 v 7 0 c
def ra2 (v : HV) (c : Int32) : HV := up2 (tnM (ra1 v c) 0 12).2 7 1 (tnM (ra1 v c) 0 12).1
def rw3 (v : HV) (c : Int32) : HV := up2 (tbM (ra2 v c) 120 1 99).2 7 2 (tbM (ra2 v c) 120 1 99).1
def rw5 (v : HV) (c : Int32) : HV := up2 (up2 (rw3 v c) 7 3 0) 7 4 0
def rk3 (v : HV) (c : Int32) : HV := up2 (tbM (ra2 v c) 45 0 12).2 7 2 (tbM (ra2 v c) 45 0 12).1
def rk4 (v : HV) (c : Int32) : HV := up2 (tbM (rk3 v c) 42 1 9).2 7 3 (tbM (rk3 v c) 42 1 9).1
def rk5 (v : HV) (c : Int32) : HV := up2 (tbM (rk4 v c) 36 1 99).2 7 4 (tbM (rk4 v c) 36 1 99).1
def raM (v : HV) (c : Int32) : HV := if c = 119 then rw5 v c else rk5 v c
def rpW (v : HV) (c : Int32) : HV := up2 v 0 4 (if v 0 4 = 0 ∧ (c = 119 ∨ c = 107) then 0 else 1)
def rpM (v : HV) : HV := raM (tk2 (rpW v (tcC v))) (tcC v)
theorem ra1_P {v : HV} {c : Int32} {p : Nat} (h : tP v p) : tP (ra1 v c) p := tP_7 h
theorem ra2_P {v : HV} {c : Int32} {p : Nat} (h : tP v p) : tP (ra2 v c) p := tP_7 (tnM_P (ra1_P h) (by decide))
theorem rk3_P {v : HV} {c : Int32} {p : Nat} (h : tP v p) : tP (rk3 v c) p := tP_7 (tbM_P (ra2_P h) (by decide) (by decide))
theorem rk4_P {v : HV} {c : Int32} {p : Nat} (h : tP v p) : tP (rk4 v c) p := tP_7 (tbM_P (rk3_P h) (by decide) (by decide))
theorem raM_P {v : HV} {c : Int32} {p : Nat} (h : tP v p) : tP (raM v c) p := by
  unfold raM
  split
  · exact tP_7 (tP_7 (tP_7 (tbM_P (ra2_P h) (by decide) (by decide))))
  · exact tP_7 (tbM_P (rk4_P h) (by decide) (by decide))
theorem rpW_lt {v : HV} (h : v 0 4 = 0 ∧ (tcC v = 119 ∨ tcC v = 107)) : v 0 3 < v 0 2 := by
  rcases Decidable.em (v 0 3 < v 0 2) with h2 | h2
  · exact h2
  · have h3 := h.2
    unfold tcC at h3
    rw [if_neg h2] at h3
    exact absurd h3 (by decide)
theorem rpW_P {v : HV} {p : Nat} (h : tP v p) : tP (tk2 (rpW v (tcC v))) p := by
  refine tk2_P h (fun q => ?_)
  split at q
  · rename_i h2
    exact rpW_lt h2
  · exact absurd q (by decide)
theorem rpM_P {v : HV} {p : Nat} (h : tP v p) : tP (rpM v) p := raM_P (rpW_P h)
theorem l48_0 : ((0 : Int32) < 48 + 0) = True := eq_true (by decide)
theorem l48_1 : ((0 : Int32) < 48 + 1) = True := eq_true (by decide)
theorem l_120 : ((0 : Int32) < 120) = True := eq_true (by decide)
theorem l_45 : ((0 : Int32) < 45) = True := eq_true (by decide)
theorem l_42 : ((0 : Int32) < 42) = True := eq_true (by decide)
theorem l_36 : ((0 : Int32) < 36) = True := eq_true (by decide)
set_option maxHeartbeats 1000000 in
set_option maxRecDepth 20000 in
theorem lp_M_readPart_74 {sp : Nat → Sp} (h144 : sp 144 = f_M_takesNumber) (h154 : sp 154 = f_M_takesBehind) {sc : Nat × (Nat → Int32)} {c : Int32} {Q : Option Value → MS → Prop} (σ : SG) (hP : tP (σ 8) 0) (hQ : Q none (emb (up1 σ 8 (raM (σ 8) c)))) : Vf 162 sp ((134, SLT), sc) 74 [.ref 126, .int c] [] (emb σ) Q := by
  have k1 : tP (ra1 (σ 8) c) 0 := ra1_P hP
  have k2 : tP (ra2 (σ 8) c) 0 := ra2_P hP
  have k3 : tP (rk3 (σ 8) c) 0 := rk3_P hP
  have k4 : tP (rk4 (σ 8) c) 0 := rk4_P hP
  have g1 : ∀ v : HV, up2 v 7 0 c = ra1 v c := fun _ => rfl
  have g2 : ∀ v : HV, up2 (tnM (ra1 v c) 0 12).2 7 1 (tnM (ra1 v c) 0 12).1 = ra2 v c := fun _ => rfl
  have g3 : ∀ v : HV, up2 (tbM (ra2 v c) 120 1 99).2 7 2 (tbM (ra2 v c) 120 1 99).1 = rw3 v c := fun _ => rfl
  have g4 : ∀ v : HV, up2 (tbM (ra2 v c) 45 0 12).2 7 2 (tbM (ra2 v c) 45 0 12).1 = rk3 v c := fun _ => rfl
  have g5 : ∀ v : HV, up2 (tbM (rk3 v c) 42 1 9).2 7 3 (tbM (rk3 v c) 42 1 9).1 = rk4 v c := fun _ => rfl
  have g6 : ∀ v : HV, up2 (tbM (rk4 v c) 36 1 99).2 7 4 (tbM (rk4 v c) 36 1 99).1 = rk5 v c := fun _ => rfl
  have g7 : ∀ v : HV, up2 (up2 (rw3 v c) 7 3 0) 7 4 0 = rw5 v c := fun _ => rfl
  unfold raM at hQ
  rcases Decidable.em (c = 119) with h1 | h1
  · rw [if_pos h1] at hQ
    simp only [rM_readPart_74, rM_readPart_75, rM_readPart_78, rM_readPart_79, rM_readPart_80, rM_readPart_81, rM_readPart_82, rM_readPart_85, rM_readPart_86, rM_readPart_87, rM_readPart_88, rM_readPart_90, rM_readPart_93, rM_readPart_94, rM_readPart_95, rM_readPart_98, rM_readPart_99, rM_readPart_100, rM_readPart_102, rM_readPart_105, rM_readPart_106, rM_readPart_108, rM_readPart_109, rM_readPart_111, rM_readPart_114, rM_readPart_117, rM_readPart_118, rM_readPart_120, rM_readPart_121, rM_readPart_123, rM_readPart_126, rM_readPart_127, rM_readPart_128, rM_readPart_131, rM_readPart_132, rM_readPart_133, rM_readPart_135, rM_readPart_138, rM_readPart_139, rM_readPart_142, rM_readPart_143, rM_readPart_145, rM_readPart_146, rM_readPart_148, rM_readPart_151, rM_readPart_152, rM_readPart_153, rM_readPart_156, rM_readPart_157, rM_readPart_158, rM_readPart_160, rM_readPart_163, rM_readPart_164, rM_readPart_167, rM_readPart_168, rM_readPart_170, rM_readPart_171, rM_readPart_173, rM_readPart_176, rM_readPart_177, ct1_i, ct1_r, ct1_n, true_and, and_true, tl_s, tl_n, le4_0, le4_1, le4_2, le4_3, le4_4, le4_5, isO_r, cl_, emb1, emb2, le_rN, up1_at, up1_up1, h144, h154, obM, mr_0, mr_1, mr_2, mr_3, mr_5, mr_7, mr_11, mi_0, mi_1, mi_2, mi_3, mi_4, mi_5, mi_6, smi_0, smi_1, smi_2, smi_3, smi_4, smi_5, smi_6, fok_i, fok_b1, rb_0, rb_1, rb_bi, bi_eq0, rb_b2, b2_0, ite_not, isO_r, Option.toList, List.cons_append, List.nil_append, q_M_in, q_M_atKite, q_M_atSpool, q_M_atHire, q_M_tail, il_0, tn_0, il_1, tn_1, il_2, tn_2, il_3, tn_3, il_4, tn_4, il_5, tn_5, il_6, tn_6, il_7, tn_7, il_8, tn_8, il_9, tn_9, il_10, tn_10, il_11, tn_11, il_12, tn_12, il_13, tn_13, il_14, tn_14, il_15, tn_15, il_16, tn_16, il_17, tn_17, il_1257, tn_1257, il_1258, tn_1258, il_1259, tn_1259, il_1260, tn_1260, sm2_0, sm2_1, sm2_2, sm6_0, sm6_1, sm6_2, sm6_3, sm6_4, sm6_5, sm6_6, m1_ok, m1_al, m1_rd, m1_re, m1_ln, m1_s, m6_ok, m6_al, m6_rd, m6_re, m6_ln, m6_s, m7_ok, m7_al, m7_rd, m7_re, m7_ln, m7_s, p5_0, p5_1, p5_2, p5_3, p5_4, q_M_takesNumber, q_M_takesBehind, k1, k2, g1, g2, g3, if_pos h1, l48_0, l48_1, l_120]
    exact hQ
  · rw [if_neg h1] at hQ
    simp only [rM_readPart_74, rM_readPart_75, rM_readPart_78, rM_readPart_79, rM_readPart_80, rM_readPart_81, rM_readPart_82, rM_readPart_85, rM_readPart_86, rM_readPart_87, rM_readPart_88, rM_readPart_90, rM_readPart_93, rM_readPart_94, rM_readPart_95, rM_readPart_98, rM_readPart_99, rM_readPart_100, rM_readPart_102, rM_readPart_105, rM_readPart_106, rM_readPart_108, rM_readPart_109, rM_readPart_111, rM_readPart_114, rM_readPart_117, rM_readPart_118, rM_readPart_120, rM_readPart_121, rM_readPart_123, rM_readPart_126, rM_readPart_127, rM_readPart_128, rM_readPart_131, rM_readPart_132, rM_readPart_133, rM_readPart_135, rM_readPart_138, rM_readPart_139, rM_readPart_142, rM_readPart_143, rM_readPart_145, rM_readPart_146, rM_readPart_148, rM_readPart_151, rM_readPart_152, rM_readPart_153, rM_readPart_156, rM_readPart_157, rM_readPart_158, rM_readPart_160, rM_readPart_163, rM_readPart_164, rM_readPart_167, rM_readPart_168, rM_readPart_170, rM_readPart_171, rM_readPart_173, rM_readPart_176, rM_readPart_177, ct1_i, ct1_r, ct1_n, true_and, and_true, tl_s, tl_n, le4_0, le4_1, le4_2, le4_3, le4_4, le4_5, isO_r, cl_, emb1, emb2, le_rN, up1_at, up1_up1, h144, h154, obM, mr_0, mr_1, mr_2, mr_3, mr_5, mr_7, mr_11, mi_0, mi_1, mi_2, mi_3, mi_4, mi_5, mi_6, smi_0, smi_1, smi_2, smi_3, smi_4, smi_5, smi_6, fok_i, fok_b1, rb_0, rb_1, rb_bi, bi_eq0, rb_b2, b2_0, ite_not, isO_r, Option.toList, List.cons_append, List.nil_append, q_M_in, q_M_atKite, q_M_atSpool, q_M_atHire, q_M_tail, il_0, tn_0, il_1, tn_1, il_2, tn_2, il_3, tn_3, il_4, tn_4, il_5, tn_5, il_6, tn_6, il_7, tn_7, il_8, tn_8, il_9, tn_9, il_10, tn_10, il_11, tn_11, il_12, tn_12, il_13, tn_13, il_14, tn_14, il_15, tn_15, il_16, tn_16, il_17, tn_17, il_1257, tn_1257, il_1258, tn_1258, il_1259, tn_1259, il_1260, tn_1260, sm2_0, sm2_1, sm2_2, sm6_0, sm6_1, sm6_2, sm6_3, sm6_4, sm6_5, sm6_6, m1_ok, m1_al, m1_rd, m1_re, m1_ln, m1_s, m6_ok, m6_al, m6_rd, m6_re, m6_ln, m6_s, m7_ok, m7_al, m7_rd, m7_re, m7_ln, m7_s, p5_0, p5_1, p5_2, p5_3, p5_4, q_M_takesNumber, q_M_takesBehind, k1, k2, k3, k4, g1, g2, g4, g5, g6, if_neg h1, l48_0, l48_1, l_45, l_42, l_36]
    exact hQ
set_option maxHeartbeats 1000000 in
set_option maxRecDepth 20000 in
theorem lp_M_readPart_50 {sp : Nat → Sp} (h144 : sp 144 = f_M_takesNumber) (h154 : sp 154 = f_M_takesBehind) {sc : Nat × (Nat → Int32)} {c : Int32} {Q : Option Value → MS → Prop} (σ : SG) (x : Int32) (hx : x = 0 ∨ x = 1) (hP : tP (tk2 (up2 (σ 8) 0 4 x)) 0) (hQ : Q none (emb (up1 σ 8 (raM (tk2 (up2 (σ 8) 0 4 x)) c)))) : Vf 162 sp ((134, SLT), sc) 50 [.ref 126, .int c] [.int x, .ref 126] (emb σ) Q := by
  have key : Vf 162 sp ((134, SLT), sc) 74 [.ref 126, .int c] [] (emb (up1 σ 8 (tk2 (up2 (σ 8) 0 4 x)))) Q := by
    refine lp_M_readPart_74 h144 h154 _ ?_ ?_
    · rw [up1_at]; exact hP
    · rw [up1_at, up1_up1]; exact hQ
  unfold tk2 at key
  rw [up2_at] at key
  rcases hx with hx | hx <;> subst hx
  · rw [if_pos rfl] at key
    simp only [rM_readPart_50, rM_readPart_53, rM_readPart_54, rM_readPart_55, rM_readPart_58, rM_readPart_59, rM_readPart_62, rM_readPart_65, rM_readPart_66, rM_readPart_69, rM_readPart_70, rM_readPart_71, ct1_i, ct1_r, ct1_n, true_and, and_true, tl_s, tl_n, le4_0, le4_1, le4_2, le4_3, le4_4, le4_5, isO_r, up1_at, up1_up1, obM, mr_0, mr_1, mr_2, mr_3, mr_5, mr_7, mr_11, mi_0, mi_1, mi_2, mi_3, mi_4, mi_5, mi_6, smi_0, smi_1, smi_2, smi_3, smi_4, smi_5, smi_6, fok_i, fok_b1, rb_0, rb_1, rb_bi, bi_eq0, rb_b2, b2_0, ite_not, isO_r, Option.toList, List.cons_append, List.nil_append, q_M_in, q_M_atKite, q_M_atSpool, q_M_atHire, q_M_tail, il_0, tn_0, il_1, tn_1, il_2, tn_2, il_3, tn_3, il_4, tn_4, il_5, tn_5, il_6, tn_6, il_7, tn_7, il_8, tn_8, il_9, tn_9, il_10, tn_10, il_11, tn_11, il_12, tn_12, il_13, tn_13, il_14, tn_14, il_15, tn_15, il_16, tn_16, il_17, tn_17, il_1257, tn_1257, il_1258, tn_1258, il_1259, tn_1259, il_1260, tn_1260, sm2_0, sm2_1, sm2_2, sm6_0, sm6_1, sm6_2, sm6_3, sm6_4, sm6_5, sm6_6, m1_ok, m1_al, m1_rd, m1_re, m1_ln, m1_s, m6_ok, m6_al, m6_rd, m6_re, m6_ln, m6_s, m7_ok, m7_al, m7_rd, m7_re, m7_ln, m7_s, fok_b0, up2_at, n00, n10, if_true, if_false]
    exact key
  · rw [if_neg (by decide)] at key
    simp only [rM_readPart_50, rM_readPart_53, rM_readPart_54, rM_readPart_55, rM_readPart_58, rM_readPart_59, rM_readPart_62, rM_readPart_65, rM_readPart_66, rM_readPart_69, rM_readPart_70, rM_readPart_71, ct1_i, ct1_r, ct1_n, true_and, and_true, tl_s, tl_n, le4_0, le4_1, le4_2, le4_3, le4_4, le4_5, isO_r, up1_at, up1_up1, obM, mr_0, mr_1, mr_2, mr_3, mr_5, mr_7, mr_11, mi_0, mi_1, mi_2, mi_3, mi_4, mi_5, mi_6, smi_0, smi_1, smi_2, smi_3, smi_4, smi_5, smi_6, fok_i, fok_b1, rb_0, rb_1, rb_bi, bi_eq0, rb_b2, b2_0, ite_not, isO_r, Option.toList, List.cons_append, List.nil_append, q_M_in, q_M_atKite, q_M_atSpool, q_M_atHire, q_M_tail, il_0, tn_0, il_1, tn_1, il_2, tn_2, il_3, tn_3, il_4, tn_4, il_5, tn_5, il_6, tn_6, il_7, tn_7, il_8, tn_8, il_9, tn_9, il_10, tn_10, il_11, tn_11, il_12, tn_12, il_13, tn_13, il_14, tn_14, il_15, tn_15, il_16, tn_16, il_17, tn_17, il_1257, tn_1257, il_1258, tn_1258, il_1259, tn_1259, il_1260, tn_1260, sm2_0, sm2_1, sm2_2, sm6_0, sm6_1, sm6_2, sm6_3, sm6_4, sm6_5, sm6_6, m1_ok, m1_al, m1_rd, m1_re, m1_ln, m1_s, m6_ok, m6_al, m6_rd, m6_re, m6_ln, m6_s, m7_ok, m7_al, m7_rd, m7_re, m7_ln, m7_s, fok_b0, up2_at, n00, n10, if_true, if_false]
    exact key
set_option maxHeartbeats 1000000 in
set_option maxRecDepth 20000 in
theorem lp_M_readPart_24 {sp : Nat → Sp} (h144 : sp 144 = f_M_takesNumber) (h154 : sp 154 = f_M_takesBehind) {sc : Nat × (Nat → Int32)} {c : Int32} {u : Value} (hu : ct1 u) {Q : Option Value → MS → Prop} (σ : SG) (hP : tP (tk2 (rpW (σ 8) c)) 0) (hQ : Q none (emb (up1 σ 8 (raM (tk2 (rpW (σ 8) c)) c)))) : Vf 162 sp ((134, SLT), sc) 24 [.ref 126, u] [.int c] (emb σ) Q := by
  simp only [rM_readPart_24, rM_readPart_25, rM_readPart_26, rM_readPart_27, rM_readPart_30, rM_readPart_33, rM_readPart_34, rM_readPart_36, rM_readPart_39, rM_readPart_40, rM_readPart_42, rM_readPart_45, rM_readPart_46, rM_readPart_49, ct1_i, ct1_r, ct1_n, true_and, and_true, tl_s, tl_n, le4_0, le4_1, le4_2, le4_3, le4_4, le4_5, isO_r, up1_at, up1_up1, obM, mr_0, mr_1, mr_2, mr_3, mr_5, mr_7, mr_11, mi_0, mi_1, mi_2, mi_3, mi_4, mi_5, mi_6, smi_0, smi_1, smi_2, smi_3, smi_4, smi_5, smi_6, fok_i, fok_b1, rb_0, rb_1, rb_bi, bi_eq0, rb_b2, b2_0, ite_not, isO_r, Option.toList, List.cons_append, List.nil_append, q_M_in, q_M_atKite, q_M_atSpool, q_M_atHire, q_M_tail, il_0, tn_0, il_1, tn_1, il_2, tn_2, il_3, tn_3, il_4, tn_4, il_5, tn_5, il_6, tn_6, il_7, tn_7, il_8, tn_8, il_9, tn_9, il_10, tn_10, il_11, tn_11, il_12, tn_12, il_13, tn_13, il_14, tn_14, il_15, tn_15, il_16, tn_16, il_17, tn_17, il_1257, tn_1257, il_1258, tn_1258, il_1259, tn_1259, il_1260, tn_1260, sm2_0, sm2_1, sm2_2, sm6_0, sm6_1, sm6_2, sm6_3, sm6_4, sm6_5, sm6_6, m1_ok, m1_al, m1_rd, m1_re, m1_ln, m1_s, m6_ok, m6_al, m6_rd, m6_re, m6_ln, m6_s, m7_ok, m7_al, m7_rd, m7_re, m7_ln, m7_s, eq_true hu]
  unfold rpW at hQ hP
  rcases Decidable.em (σ 8 0 4 = 0) with h1 | h1
  · rw [if_pos h1]
    rcases Decidable.em (c = 119) with h2 | h2
    · rw [if_pos h2]
      rw [if_pos ⟨h1, Or.inl h2⟩] at hQ hP
      exact lp_M_readPart_50 h144 h154 σ 0 (Or.inl rfl) hP hQ
    · rw [if_neg h2]
      rcases Decidable.em (c = 107) with h3 | h3
      · rw [if_pos h3]
        rw [if_pos ⟨h1, Or.inr h3⟩] at hQ hP
        exact lp_M_readPart_50 h144 h154 σ 0 (Or.inl rfl) hP hQ
      · rw [if_neg h3]
        rw [if_neg (fun q => q.2.elim h2 h3)] at hQ hP
        exact lp_M_readPart_50 h144 h154 σ 1 (Or.inr rfl) hP hQ
  · rw [if_neg h1]
    rw [if_neg (fun q => h1 q.1)] at hQ hP
    exact lp_M_readPart_50 h144 h154 σ 1 (Or.inr rfl) hP hQ

def sp_M_readPart : Nat → Sp := spL [(144, f_M_takesNumber), (154, f_M_takesBehind)]
theorem sp_M_readPart_M_takesNumber : sp_M_readPart 144 = f_M_takesNumber := rfl
theorem sp_M_readPart_M_takesBehind : sp_M_readPart 154 = f_M_takesBehind := rfl
def f_M_readPart : Sp := aS 9 (fun _ => 126) 0 (gL0 (fun _  σ => (tP (σ 8) 0, none, up1 σ 8 (rpM (σ 8)))))
theorem q_M_readPart {σ : SG} : f_M_readPart [.ref 126] (emb σ) = (tP (σ 8) 0, none, emb (up1 σ 8 (rpM (σ 8)))) := aS0_at (ad := (fun _ => 126)) (i := hI 126) (by decide) rfl
set_option maxHeartbeats 4000000 in
set_option maxRecDepth 20000 in
theorem ok_M_readPart : SpecOK 162 f_M_readPart := SpecOK.of (sp := sp_M_readPart) (by decide) (by decide) (spL_ok (List.forall_mem_cons.mpr ⟨ok_M_takesNumber, (List.forall_mem_cons.mpr ⟨ok_M_takesBehind, (fun q h => absurd h List.not_mem_nil)⟩)⟩)) (Does_aS0 (Nat.le_of_ble_eq_true rfl) (fun sc i  σ hi had hp => by
  refine Vf_q ?_ ⟨rfl, rfl⟩
  intro Q hQ
  dsimp only at hQ hp
  show Vf 162 _ _ 0 [.ref (126), .null] [] (emb σ) _

  simp only [rM_readPart_0, rM_readPart_1, rM_readPart_4, rM_readPart_5, rM_readPart_8, rM_readPart_11, rM_readPart_12, rM_readPart_15, rM_readPart_16, rM_readPart_19, rM_readPart_20, rM_readPart_23, ct1_i, ct1_r, ct1_n, true_and, and_true, tl_s, tl_n, le4_0, le4_1, le4_2, le4_3, le4_4, le4_5, isO_r, cl_, emb1, emb2, le_rN, up1_at, up1_up1, sp_M_readPart_M_takesNumber, sp_M_readPart_M_takesBehind, obM, mr_0, mr_1, mr_2, mr_3, mr_5, mr_7, mr_11, mi_0, mi_1, mi_2, mi_3, mi_4, mi_5, mi_6, smi_0, smi_1, smi_2, smi_3, smi_4, smi_5, smi_6, fok_i, fok_b1, rb_0, rb_1, rb_bi, bi_eq0, rb_b2, b2_0, ite_not, isO_r, Option.toList, List.cons_append, List.nil_append, q_M_in, q_M_atKite, q_M_atSpool, q_M_atHire, q_M_tail, il_0, tn_0, il_1, tn_1, il_2, tn_2, il_3, tn_3, il_4, tn_4, il_5, tn_5, il_6, tn_6, il_7, tn_7, il_8, tn_8, il_9, tn_9, il_10, tn_10, il_11, tn_11, il_12, tn_12, il_13, tn_13, il_14, tn_14, il_15, tn_15, il_16, tn_16, il_17, tn_17, il_1257, tn_1257, il_1258, tn_1258, il_1259, tn_1259, il_1260, tn_1260, sm2_0, sm2_1, sm2_2, sm6_0, sm6_1, sm6_2, sm6_3, sm6_4, sm6_5, sm6_6, m1_ok, m1_al, m1_rd, m1_re, m1_ln, m1_s, m6_ok, m6_al, m6_rd, m6_re, m6_ln, m6_s, m7_ok, m7_al, m7_rd, m7_re, m7_ln, m7_s]
  have h2 := rpW_P hp
  unfold rpM at hQ
  rcases Decidable.em (σ 8 0 3 < σ 8 0 2) with h1 | h1
  · have e : tcC (σ 8) = σ 8 6 (σ 8 0 3).toNatClampNeg := if_pos h1
    rw [if_pos h1]
    rw [e] at hQ h2
    exact ⟨tP_iin hp h1, lp_M_readPart_24 sp_M_readPart_M_takesNumber sp_M_readPart_M_takesBehind (of_eq_true ct1_n) σ h2 hQ⟩
  · have e : tcC (σ 8) = 0 := if_neg h1
    rw [if_neg h1]
    rw [e] at hQ h2
    exact lp_M_readPart_24 sp_M_readPart_M_takesNumber sp_M_readPart_M_takesBehind (of_eq_true ct1_n) σ h2 hQ))
def do1 (v : HV) : HV := (laM v (v 0 5) (v 0 5 + v 7 2 - 1) (v 7 1)).2
def do2 (v : HV) : HV := up2 (do1 v) 0 5 (do1 v 0 5 + do1 v 7 2)
def doM (v : HV) : Int32 × HV :=
  if v 7 0 = 119 then (if 1000 < v 0 5 + v 7 2 then (-2, v) else (0, do2 v))
  else if v 7 2 < v 7 1 then (-2, v) else if v 1 6 = 16 then (-3, v) else (0, cmM v (v 7 1) (v 7 2) (v 7 3) (v 7 4))
def doP (v : HV) : Prop := sm (v 1 6) 16 ∧ (v 7 0 = 119 → ¬ 1000 < v 0 5 + v 7 2 → laP (v 0 5) (v 0 5 + v 7 2 - 1))
def sp_M_does : Nat → Sp := spL [(97, f_M_lays), (117, f_M_comes)]
theorem sp_M_does_M_lays : sp_M_does 97 = f_M_lays := rfl
theorem sp_M_does_M_comes : sp_M_does 117 = f_M_comes := rfl
def f_M_does : Sp := aS 9 (fun _ => 126) 0 (gL0 (fun _  σ => (doP (σ 8), some (.int (doM (σ 8)).1), up1 σ 8 (doM (σ 8)).2)))
theorem q_M_does {σ : SG} : f_M_does [.ref 126] (emb σ) = (doP (σ 8), some (.int (doM (σ 8)).1), emb (up1 σ 8 (doM (σ 8)).2)) := aS0_at (ad := (fun _ => 126)) (i := hI 126) (by decide) rfl
set_option maxHeartbeats 4000000 in
set_option maxRecDepth 20000 in
theorem ok_M_does : SpecOK 145 f_M_does := SpecOK.of (sp := sp_M_does) (by decide) (by decide) (spL_ok (List.forall_mem_cons.mpr ⟨ok_M_lays, (List.forall_mem_cons.mpr ⟨ok_M_comes, (fun q h => absurd h List.not_mem_nil)⟩)⟩)) (Does_aS0 (Nat.le_of_ble_eq_true rfl) (fun sc i  σ hi had hp => by
  refine Vf_q ?_ ⟨rfl, rfl⟩
  intro Q hQ
  dsimp only at hQ hp
  show Vf 145 _ _ 0 [.ref (126), .null] [] (emb σ) _

  have g1 : ∀ v : HV, (laM v (v 0 5) (v 0 5 + v 7 2 - 1) (v 7 1)).2 = do1 v := fun _ => rfl
  have g2 : ∀ v : HV, up2 (do1 v) 0 5 (do1 v 0 5 + do1 v 7 2) = do2 v := fun _ => rfl
  simp only [rM_does_0, rM_does_1, rM_does_4, rM_does_5, rM_does_6, rM_does_8, rM_does_11, rM_does_12, rM_does_15, rM_does_16, rM_does_19, rM_does_20, rM_does_21, rM_does_22, rM_does_25, rM_does_28, rM_does_30, rM_does_31, rM_does_32, rM_does_33, rM_does_36, rM_does_37, rM_does_40, rM_does_41, rM_does_44, rM_does_45, rM_does_46, rM_does_47, rM_does_48, rM_does_49, rM_does_50, rM_does_53, rM_does_54, rM_does_55, rM_does_58, rM_does_59, rM_does_60, rM_does_61, rM_does_64, rM_does_65, rM_does_68, rM_does_69, rM_does_70, rM_does_71, rM_does_74, rM_does_75, rM_does_76, rM_does_77, rM_does_80, rM_does_81, rM_does_82, rM_does_83, rM_does_86, rM_does_87, rM_does_88, rM_does_91, rM_does_93, rM_does_94, rM_does_95, rM_does_98, rM_does_100, rM_does_101, rM_does_103, rM_does_106, rM_does_108, rM_does_109, rM_does_110, rM_does_111, rM_does_114, rM_does_115, rM_does_116, rM_does_117, rM_does_120, rM_does_121, rM_does_122, rM_does_123, rM_does_126, rM_does_127, rM_does_128, rM_does_129, rM_does_132, rM_does_133, rM_does_134, rM_does_137, rM_does_138, rM_does_139, ct1_i, ct1_r, ct1_n, true_and, and_true, tl_s, tl_n, le4_0, le4_1, le4_2, le4_3, le4_4, le4_5, isO_r, cl_, emb1, emb2, le_rN, up1_at, up1_up1, sp_M_does_M_lays, sp_M_does_M_comes, obM, mr_0, mr_1, mr_2, mr_3, mr_5, mr_7, mr_11, mi_0, mi_1, mi_2, mi_3, mi_4, mi_5, mi_6, smi_0, smi_1, smi_2, smi_3, smi_4, smi_5, smi_6, fok_i, fok_b1, rb_0, rb_1, rb_bi, bi_eq0, rb_b2, b2_0, ite_not, isO_r, Option.toList, List.cons_append, List.nil_append, q_M_in, q_M_atKite, q_M_atSpool, q_M_atHire, q_M_tail, il_0, tn_0, il_1, tn_1, il_2, tn_2, il_3, tn_3, il_4, tn_4, il_5, tn_5, il_6, tn_6, il_7, tn_7, il_8, tn_8, il_9, tn_9, il_10, tn_10, il_11, tn_11, il_12, tn_12, il_13, tn_13, il_14, tn_14, il_15, tn_15, il_16, tn_16, il_17, tn_17, il_1257, tn_1257, il_1258, tn_1258, il_1259, tn_1259, il_1260, tn_1260, sm2_0, sm2_1, sm2_2, sm6_0, sm6_1, sm6_2, sm6_3, sm6_4, sm6_5, sm6_6, m1_ok, m1_al, m1_rd, m1_re, m1_ln, m1_s, m6_ok, m6_al, m6_rd, m6_re, m6_ln, m6_s, m7_ok, m7_al, m7_rd, m7_re, m7_ln, m7_s, p5_0, p5_1, p5_2, p5_3, p5_4, q_M_lays, q_M_comes, g1, g2]
  unfold doM at hQ
  rcases Decidable.em (σ 8 7 0 = 119) with h1 | h1
  · rw [if_pos h1] at hQ ⊢
    rcases Decidable.em (1000 < σ 8 0 5 + σ 8 7 2) with h2 | h2
    case inl => rw [if_pos h2] at hQ ⊢; dsimp only at hQ; rw [up1_self] at hQ; exact hQ
    rw [if_neg h2] at hQ ⊢
    exact ⟨hp.2 h1 h2, hQ⟩
  · rw [if_neg h1] at hQ ⊢
    rcases Decidable.em (σ 8 7 2 < σ 8 7 1) with h2 | h2
    case inl => rw [if_pos h2] at hQ ⊢; dsimp only at hQ; rw [up1_self] at hQ; exact hQ
    rw [if_neg h2] at hQ ⊢
    rcases Decidable.em (σ 8 1 6 = 16) with h3 | h3
    case inl => rw [if_pos h3] at hQ ⊢; dsimp only at hQ; rw [up1_self] at hQ; exact hQ
    rw [if_neg h3] at hQ ⊢
    exact ⟨ne_sm (n := 15) hp.1 (by decide) h3, hQ⟩))
theorem cmM_k {v : HV} {a b c d : Int32} {k : Fin 9} (h : k ≠ 1) : cmM v a b c d k = v k := by
  unfold cmM inc
  rw [up2_kn h, up2_kn h, up2_kn h, up2_kn h, up2_kn h, up2_kn h, up2_kn h, up2_kn h]
theorem doM_k {v : HV} {k : Fin 9} {t : Nat} (h1 : k ≠ 1) (h : t ≠ 5) : (doM v).2 k t = v k t := by
  unfold doM
  split
  · split
    · rfl
    · show do2 v k t = v k t
      have e : do2 v k t = do1 v k t := by
        unfold do2
        by_cases hk : k = 0
        · subst hk; rw [up2_nt h]
        · rw [up2_kn hk]
      rw [e]
      unfold do1 laM
      rw [lyF_0 h1]
  · split
    · rfl
    · split
      · rfl
      · show cmM v _ _ _ _ k t = v k t
        rw [cmM_k h1]
