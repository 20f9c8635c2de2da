/-! PURE: the text: signs and numbers, on both sides -/
def Sm (w v : HV) (L p r : Nat) : Prop := L ≤ 60 ∧ p ≤ L ∧ w 2 0 = oN L ∧ w 2 1 = oN r ∧ w 2 2 = oN p ∧ v 0 2 = oN L ∧ v 0 3 = oN p ∧ v 0 4 = 0 ∧ ∀ j, j < L → v 6 j = w 3 j
def Bd (v : HV) (p : Nat) : Prop := v 0 4 ≠ 0 ∧ v 0 3 = oN p
theorem bd_tk {v : HV} {p : Nat} {a b : Int32} (h : Bd v p) : Bd (tkM v a b) p := by
  refine ⟨?_, ?_⟩
  · rw [tkM_04, if_neg (fun q => h.1 q.1)]; decide
  · unfold tkM tk2 tk1
    rw [up2_at, up2_at, if_neg (fun q => h.1 q.1), if_neg (by decide), Int32.add_zero, up2_nt (by decide)]
    exact h.2
theorem bd_tnF {v : HV} {p : Nat} {b x : Int32} (h : Bd v p) : ∀ n, tnF b n x v = (x, v) := by
  intro n
  cases n with
  | zero => rfl
  | succ n => unfold tnF; rw [if_neg (fun q => h.1 q.1.1)]
theorem bd_tn1 {v : HV} {p : Nat} {a b : Int32} (h : Bd (tkM v (48 + a) 57) p) : Bd (tnM v a b).2 p := by
  unfold tnM
  split
  · rw [bd_tnF h]; exact h
  · exact h
theorem bd_tn {v : HV} {p : Nat} {a b : Int32} (h : Bd v p) : Bd (tnM v a b).2 p := bd_tn1 (bd_tk h)
theorem bd_tb {v : HV} {p : Nat} {s a b : Int32} (h : Bd v p) : Bd (tbM v s a b).2 p := bd_tn (bd_tk h)
theorem bd_k {v : HV} {p t : Nat} {k : Fin 9} {x : Int32} (h : Bd v p) (hk : k ≠ 0) : Bd (up2 v k t x) p := by
  unfold Bd
  rw [up2_kn (Ne.symm hk)]
  exact h
theorem sm_pl {w v : HV} {L p r : Nat} (h : Sm w v L p r) : plP w ↔ p < L := by
  obtain ⟨hL, hp, e0, e1, e2, -⟩ := h
  unfold plP
  rw [e0, e2, oN_lt (by omega) (by omega)]
  constructor
  · exact fun q => q.2.1
  · intro q
    refine ⟨?_, q, ?_⟩
    · show ¬ oN p < oN 0
      rw [oN_lt (by omega) (by decide)]
      omega
    · show oN p < oN 60
      rw [oN_lt (by omega) (by decide)]
      omega
theorem sm_tc {w v : HV} {L p r : Nat} (h : Sm w v L p r) : tcC v = if p < L then w 3 p else 0 := by
  obtain ⟨hL, hp, e0, e1, e2, f2, f3, f4, f6⟩ := h
  unfold tcC
  rw [f2, f3, oN_nat (by omega)]
  by_cases q : p < L
  · rw [if_pos (by rw [oN_lt (by omega) (by omega)]; exact q), if_pos q, f6 p q]
  · rw [if_neg (by rw [oN_lt (by omega) (by omega)]; exact q), if_neg q]
theorem sm_sg {w v : HV} {L p r : Nat} (h : Sm w v L p r) : sgn w = w 3 p := by
  obtain ⟨hL, hp, e0, e1, e2, -⟩ := h
  unfold sgn
  rw [e2, oN_nat (by omega)]
theorem sm_step {w v : HV} {L p r : Nat} {a b : Int32} (h : Sm w v L p r) (hp : p < L) (hw : wi (w 3 p) a b) : Sm (adv w) (tkM v a b) L (p + 1) r := by
  have ht := sm_tc h
  rw [if_pos hp] at ht
  obtain ⟨hL, hp', e0, e1, e2, f2, f3, f4, f6⟩ := h
  have c : v 0 4 = 0 ∧ wi (tcC v) a b := ⟨f4, by rw [ht]; exact hw⟩
  refine ⟨hL, by omega, ?_, ?_, ?_, ?_, ?_, ?_, ?_⟩
  · unfold adv; rw [up2_nt (by decide)]; exact e0
  · unfold adv; rw [up2_nt (by decide)]; exact e1
  · unfold adv; rw [up2_at, e2, oN_succ]
  · rw [tkM_0 (by decide) (by decide)]; exact f2
  · unfold tkM tk2 tk1
    rw [up2_at, up2_at, if_pos c, if_pos rfl, up2_nt (by decide), f3, oN_succ]
  · rw [tkM_04, if_pos c]
  · intro j hj
    rw [tkM_k (by decide)]
    unfold adv
    rw [up2_kn (by decide)]
    exact f6 j hj
theorem sm_stop {w v : HV} {L p r : Nat} {a b : Int32} (h : Sm w v L p r) (hn : ¬ (p < L ∧ wi (w 3 p) a b)) (ha : 0 < a) : Bd (tkM v a b) p := by
  have ht := sm_tc h
  obtain ⟨hL, hp', e0, e1, e2, f2, f3, f4, f6⟩ := h
  have c : ¬ (v 0 4 = 0 ∧ wi (tcC v) a b) := by
    rintro ⟨-, q⟩
    rw [ht] at q
    by_cases z : p < L
    · rw [if_pos z] at q
      exact hn ⟨z, q⟩
    · rw [if_neg z] at q
      exact q.1 ha
  refine ⟨?_, ?_⟩
  · rw [tkM_04, if_neg c]; decide
  · unfold tkM tk2 tk1
    rw [up2_at, up2_at, if_neg c, if_neg (by decide), up2_nt (by decide), Int32.add_zero]
    exact f3
theorem wi_eq {x c : Int32} : wi x c c ↔ x = c := by
  constructor
  · rintro ⟨h1, h2⟩
    rw [Int32.lt_iff_toInt_lt] at h1 h2
    exact Int32.toInt_inj.mp (by omega)
  · intro h
    subst h
    exact ⟨fun q => by rw [Int32.lt_iff_toInt_lt] at q; omega, fun q => by rw [Int32.lt_iff_toInt_lt] at q; omega⟩
theorem tk_sim {w v : HV} {L p r : Nat} {c : Int32} (h : Sm w v L p r) (hc : 0 < c) : (tkB w c = (true, adv w) ∧ w 3 p = c ∧ p < L ∧ Sm (adv w) (tkM v c c) L (p + 1) r) ∨ (tkB w c = (false, w) ∧ ¬ (p < L ∧ w 3 p = c) ∧ Bd (tkM v c c) p) := by
  unfold tkB
  by_cases q : p < L ∧ w 3 p = c
  · rw [if_pos (show plP w ∧ sgn w = c from ⟨(sm_pl h).mpr q.1, (sm_sg h).trans q.2⟩)]
    exact Or.inl ⟨rfl, q.2, q.1, sm_step h q.1 (wi_eq.mpr q.2)⟩
  · rw [if_neg (show ¬ (plP w ∧ sgn w = c) from fun z => q ⟨(sm_pl h).mp z.1, (sm_sg h).symm.trans z.2⟩)]
    exact Or.inr ⟨rfl, q, sm_stop h (fun z => q ⟨z.1, wi_eq.mp z.2⟩) hc⟩
theorem sm_dg {w v : HV} {L p r : Nat} (h : Sm w v L p r) : (∃ d, d ≤ 9 ∧ p < L ∧ w 3 p = oN (48 + d) ∧ dgF w = oN d) ∨ (dgF w = -1 ∧ ¬ (p < L ∧ wi (w 3 p) 48 57)) := by
  unfold dgF
  rw [sm_sg h]
  by_cases q : p < L ∧ wi (w 3 p) 48 57
  · left
    have hs := wi_sm (n := 57) q.2 (by decide) (by decide)
    have e := sm_eq hs
    have h1 := q.2.1
    have h2 := hs.2
    rw [if_pos (show plP w ∧ ¬ w 3 p < 48 ∧ ¬ 57 < w 3 p from ⟨(sm_pl h).mpr q.1, q.2.1, q.2.2⟩)]
    generalize (w 3 p).toNatClampNeg = n at e h2
    rw [e] at h1 ⊢
    change ¬ oN n < oN 48 at h1
    rw [oN_lt (by omega) (by decide)] at h1
    refine ⟨n - 48, by omega, q.1, congrArg oN (by omega), ?_⟩
    show oN n - oN 48 = _
    rw [oN_sub (by omega)]
  · right
    rw [if_neg (show ¬ (plP w ∧ ¬ w 3 p < 48 ∧ ¬ 57 < w 3 p) from fun z => q ⟨(sm_pl h).mp z.1, z.2.1, z.2.2⟩)]
    exact ⟨rfl, q⟩
theorem dd : ∀ x, x < 100 → ∀ d, d < 10 → 10 * oN x + oN (48 + d) - 48 = oN (10 * x + d) ∧ 10 * oN x + (oN (48 + d) - 48) = oN (10 * x + d) ∧ oN x * 10 + oN d = oN (10 * x + d) := by decide +kernel
theorem sm_up {w v : HV} {L p r t : Nat} {x : Int32} (h : Sm w v L p r) : Sm (up2 w 4 t x) v L p r := by
  unfold Sm
  rw [up2_kn (show (2 : Fin 9) ≠ 4 by decide), up2_kn (show (3 : Fin 9) ≠ 4 by decide)]
  exact h
theorem sm_7 {w v : HV} {L p r t : Nat} {x : Int32} (h : Sm w v L p r) : Sm w (up2 v 7 t x) L p r := by
  unfold Sm
  rw [up2_kn (show (0 : Fin 9) ≠ 7 by decide), up2_kn (show (6 : Fin 9) ≠ 7 by decide)]
  exact h
theorem sm_ny {w v : HV} {L p r : Nat} (h : Sm w v L p r) (a b : Int32) : nyP v a b ↔ (p < L ∧ wi (w 3 p) a b) := by
  obtain ⟨hL, hp', e0, e1, e2, f2, f3, f4, f6⟩ := h
  unfold nyP
  rw [f2, f3, oN_nat (by omega), oN_lt (by omega) (by omega)]
  constructor
  · rintro ⟨q1, q2, q3⟩
    rw [f6 p q2] at q3
    exact ⟨q2, q3⟩
  · rintro ⟨q1, q2⟩
    rw [f6 p q1]
    exact ⟨f4, q1, q2⟩
theorem adv_1 {w : HV} {t : Nat} (h : t ≠ 2) : adv w 2 t = w 2 t := up2_nt h
theorem adv_k {w : HV} {k : Fin 9} (h : k ≠ 2) : adv w k = w k := up2_kn h
theorem rn_fin {w W v v2 : HV} {L p q r a m wh x : Nat} (h1 : rnB w (oN wh) (oN a) (oN m) = (true, pt W 4 5 75 (oN r) (oN wh) (oN x))) (h2 : tnM v (oN a) (oN m) = (oN x, v2)) (h3 : Sm W v2 L q r) (h4 : W 4 = w 4) (hr : r < 15) (hw : wh < 5) (hq : p < q) (ha : a ≤ x) (hx : x ≤ 99) :
    (rnB w (oN wh) (oN a) (oN m)).1 = true ∧ ∃ q x, p < q ∧ a ≤ x ∧ x ≤ 99 ∧ Sm (rnB w (oN wh) (oN a) (oN m)).2 (tnM v (oN a) (oN m)).2 L q r ∧ (tnM v (oN a) (oN m)).1 = oN x ∧ ∀ t, (rnB w (oN wh) (oN a) (oN m)).2 4 t = if t = r * 5 + wh then oN x else w 4 t := by
  rw [h1, h2]
  have e : pt W 4 5 75 (oN r) (oN wh) (oN x) = up2 W 4 (r * 5 + wh) (oN x) := pt_oN (C := 5) (by omega) (by decide)
  refine ⟨rfl, q, x, hq, ha, hx, ?_, rfl, fun t => ?_⟩
  · show Sm (pt W 4 5 75 (oN r) (oN wh) (oN x)) v2 L q r
    rw [e]
    exact sm_up h3
  · show pt W 4 5 75 (oN r) (oN wh) (oN x) 4 t = _
    rw [e, u2k, h4]
theorem rn_sim {w v : HV} {L p r a m wh : Nat} (h : Sm w v L p r) (hr : r < 15) (ha : a ≤ 1) (hm : m ≤ 99) (hw : wh < 5) :
    ((rnB w (oN wh) (oN a) (oN m)).1 = true ∧ ∃ q x, p < q ∧ a ≤ x ∧ x ≤ 99 ∧ Sm (rnB w (oN wh) (oN a) (oN m)).2 (tnM v (oN a) (oN m)).2 L q r ∧ (tnM v (oN a) (oN m)).1 = oN x ∧ ∀ t, (rnB w (oN wh) (oN a) (oN m)).2 4 t = if t = r * 5 + wh then oN x else w 4 t) ∨ ((rnB w (oN wh) (oN a) (oN m)) = (false, w) ∧ Bd (tnM v (oN a) (oN m)).2 p) := by
  have e48 : (48 : Int32) + oN a = oN (48 + a) := by rw [show (48 : Int32) = oN 48 from rfl, oN_add]
  have p48 : (0 : Int32) < 48 + oN a := by rw [e48]; show oN 0 < oN (48 + a); rw [oN_lt (by decide) (by omega)]; omega
  have e21 : w 2 1 = oN r := h.2.2.2.1
  rcases sm_dg h with ⟨d, hd, hpL, hc, hg⟩ | ⟨hg, hn⟩
  case inr =>
    right
    refine ⟨?_, bd_tn1 (sm_stop h (fun q => hn ⟨q.1, ?_, q.2.2⟩) p48)⟩
    · unfold rnB
      rw [hg, if_pos]
      rw [Int32.lt_iff_toInt_lt, oN_toInt (by omega)]
      have : (-1 : Int32).toInt = -1 := rfl
      omega
    · have := q.2.1
      rw [e48, Int32.lt_iff_toInt_lt, oN_toInt (by omega)] at this
      intro z
      rw [Int32.lt_iff_toInt_lt] at z
      have : (48 : Int32).toInt = 48 := rfl
      omega
  by_cases hda : d < a
  · right
    refine ⟨?_, bd_tn1 (sm_stop h (fun q => ?_) p48)⟩
    · unfold rnB
      rw [hg, if_pos (by rw [oN_lt (by omega) (by omega)]; exact hda)]
    · have := q.2.1
      rw [e48, hc, oN_lt (by omega) (by omega)] at this
      omega
  left
  have hwi : wi (w 3 p) (48 + oN a) 57 := by
    rw [hc, e48]
    refine ⟨?_, ?_⟩
    · rw [oN_lt (by omega) (by omega)]; omega
    · show ¬ oN 57 < oN (48 + d); rw [oN_lt (by omega) (by omega)]; omega
  have s1 := sm_step h hpL hwi
  have eX : tnX v (oN a) = oN d := by
    unfold tnX
    rw [sm_tc h, if_pos hpL, hc, e48, oN_sub (by omega), oN_add]
    exact congrArg oN (by omega)
  have eB : rnB w (oN wh) (oN a) (oN m) = (true, rnW w (oN wh) (oN m)) := by
    unfold rnB
    rw [hg, if_neg (by rw [oN_lt (by omega) (by omega)]; omega)]
  generalize hv1 : tkM v (48 + oN a) 57 = v1 at s1
  have one : ¬ rn2P w (oN m) → tnM v (oN a) (oN m) = (oN d, v1) → _ := fun z1 z2 => rn_fin (w := w) (W := adv w) (v := v) (v2 := v1) (L := L) (p := p) (q := p + 1) (r := r) (a := a) (m := m) (wh := wh) (x := d) (by rw [eB]; unfold rnW; rw [if_neg z1, hg, e21]) z2 s1 (adv_k (by decide)) hr hw (by omega) (by omega) (by omega)
  by_cases d0 : d = 0
  · refine one (fun q => ?_) ?_
    · have := q.1
      rw [hg, d0] at this
      exact absurd this (by decide)
    · unfold tnM
      rw [eX, hv1, d0, if_neg (by decide)]
  have dpos : (0 : Int32) < oN d := by
    show oN 0 < oN d
    rw [oN_lt (by decide) (by omega)]
    omega
  have eM : tnM v (oN a) (oN m) = tnF (oN m) 60 (oN d) v1 := by
    unfold tnM
    rw [eX, hv1, if_pos dpos]
  rcases sm_dg s1 with ⟨d2, hd2, hpL2, hc2, hg2⟩ | ⟨hg2, hn2⟩
  case inr =>
    refine one (fun q => ?_) ?_
    · have := q.2.1
      rw [hg2] at this
      exact absurd (by decide) this
    · rw [eM]
      unfold tnF
      rw [if_neg (fun q => hn2 ((sm_ny s1 48 57).mp q.1))]
  obtain ⟨f1, f2, f3⟩ := dd d (by omega) d2 (by omega)
  have e16 : v1 6 (v1 0 3).toNatClampNeg = oN (48 + d2) := by
    rw [s1.2.2.2.2.2.2.1, oN_nat (by have := h.1; omega), s1.2.2.2.2.2.2.2.2 _ hpL2, hc2]
  have ny1 : nyP v1 48 57 := (sm_ny s1 48 57).mpr ⟨hpL2, by
    rw [hc2]
    refine ⟨?_, ?_⟩
    · show ¬ oN (48 + d2) < oN 48; rw [oN_lt (by omega) (by decide)]; omega
    · show ¬ oN 57 < oN (48 + d2); rw [oN_lt (by decide) (by omega)]; omega⟩
  by_cases big : m < 10 * d + d2
  · refine one (fun q => ?_) ?_
    · have := q.2.2
      rw [hg, hg2, f3, oN_lt (by omega) (by omega)] at this
      omega
    · rw [eM]
      unfold tnF
      rw [if_neg (fun q => ?_)]
      have := q.2
      rw [e16, f1, oN_lt (by omega) (by omega)] at this
      omega
  have s2 := sm_step s1 hpL2 (((sm_ny s1 48 57).mp ny1).2)
  refine rn_fin (w := w) (W := adv (adv w)) (v2 := tkM v1 48 57) (L := L) (q := p + 1 + 1) (x := 10 * d + d2) ?_ ?_ s2 ?_ hr hw (by omega) (by omega) (by omega)
  · rw [eB]
    unfold rnW
    rw [if_pos (show rn2P w (oN m) from ⟨by rw [hg]; exact dpos, ?_, ?_⟩), hg, hg2, f3, e21]
    · rw [hg2]; show ¬ oN d2 < oN 0; rw [oN_lt (by omega) (by decide)]; omega
    · rw [hg, hg2, f3, oN_lt (by omega) (by omega)]; omega
  · have et : tcC v1 = oN (48 + d2) := by rw [sm_tc s1, if_pos hpL2, hc2]
    rw [eM]
    unfold tnF
    rw [if_pos (show inP v1 (oN m) (oN d) from ⟨ny1, by rw [e16, f1, oN_lt (by omega) (by omega)]; omega⟩), et, f2]
    unfold tnF
    rw [if_neg (fun q => ?_)]
    have z := (sm_ny s2 48 57).mp q.1
    rcases sm_dg s2 with ⟨d3, hd3, hpL3, hc3, hg3⟩ | ⟨hg3, hn3⟩
    · have := q.2
      rw [s2.2.2.2.2.2.2.1, oN_nat (by have := h.1; omega), s2.2.2.2.2.2.2.2.2 _ hpL3, hc3, (dd (10 * d + d2) (by omega) d3 (by omega)).1, oN_lt (by omega) (by omega)] at this
      omega
    · exact hn3 z
  · rw [adv_k (by decide), adv_k (by decide)]

