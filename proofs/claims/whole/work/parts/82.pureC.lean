/-! PURE: the text: a part, on both sides -/
theorem tnF_k {b : Int32} {k : Fin 9} (h : k ≠ 0) : ∀ (n : Nat) (x : Int32) (v : HV), (tnF b n x v).2 k = v k := by
  intro n
  induction n with
  | zero => intro x v; rfl
  | succ n ih =>
    intro x v
    unfold tnF
    split
    · rw [ih, tkM_k h]
    · rfl
theorem tnM_k {v : HV} {a b : Int32} {k : Fin 9} (h : k ≠ 0) : (tnM v a b).2 k = v k := by
  unfold tnM
  split
  · rw [tnF_k h, tkM_k h]
  · exact tkM_k h
theorem tbM_k {v : HV} {s a b : Int32} {k : Fin 9} (h : k ≠ 0) : (tbM v s a b).2 k = v k := by
  unfold tbM
  rw [tnM_k h, tkM_k h]
theorem tnF_0 {b : Int32} {t : Nat} (h3 : t ≠ 3) (h4 : t ≠ 4) : ∀ (n : Nat) (x : Int32) (v : HV), (tnF b n x v).2 0 t = v 0 t := by
  intro n
  induction n with
  | zero => intro x v; rfl
  | succ n ih =>
    intro x v
    unfold tnF
    split
    · rw [ih, tkM_0 h3 h4]
    · rfl
theorem tnM_0 {v : HV} {a b : Int32} {t : Nat} (h3 : t ≠ 3) (h4 : t ≠ 4) : (tnM v a b).2 0 t = v 0 t := by
  unfold tnM
  split
  · rw [tnF_0 h3 h4, tkM_0 h3 h4]
  · exact tkM_0 h3 h4
theorem tbM_0 {v : HV} {s a b : Int32} {t : Nat} (h3 : t ≠ 3) (h4 : t ≠ 4) : (tbM v s a b).2 0 t = v 0 t := by
  unfold tbM
  rw [tnM_0 h3 h4, tkM_0 h3 h4]
theorem raM_k {v : HV} {c : Int32} {k : Fin 9} (h : k ≠ 0) (h7 : k ≠ 7) : raM v c k = v k := by
  unfold raM
  split
  · unfold rw5 rw3 ra2 ra1
    rw [up2_kn h7, up2_kn h7, up2_kn h7, tbM_k h, up2_kn h7, tnM_k h, up2_kn h7]
  · unfold rk5 rk4 rk3 ra2 ra1
    rw [up2_kn h7, tbM_k h, up2_kn h7, tbM_k h, up2_kn h7, tbM_k h, up2_kn h7, tnM_k h, up2_kn h7]
theorem raM_0 {v : HV} {c : Int32} {t : Nat} (h3 : t ≠ 3) (h4 : t ≠ 4) : raM v c 0 t = v 0 t := by
  unfold raM
  split
  · unfold rw5 rw3 ra2 ra1
    rw [up2_kn (by decide), up2_kn (by decide), up2_kn (by decide), tbM_0 h3 h4, up2_kn (by decide), tnM_0 h3 h4, up2_kn (by decide)]
  · unfold rk5 rk4 rk3 ra2 ra1
    rw [up2_kn (by decide), tbM_0 h3 h4, up2_kn (by decide), tbM_0 h3 h4, up2_kn (by decide), tbM_0 h3 h4, up2_kn (by decide), tnM_0 h3 h4, up2_kn (by decide)]
theorem raM_70 {v : HV} {c : Int32} : raM v c 7 0 = c := by
  unfold raM
  split
  · unfold rw5 rw3 ra2 ra1
    rw [up2_nt (by decide), up2_nt (by decide), up2_nt (by decide), tbM_k (by decide), up2_nt (by decide), tnM_k (by decide), up2_at]
  · unfold rk5 rk4 rk3 ra2 ra1
    rw [up2_nt (by decide), tbM_k (by decide), up2_nt (by decide), tbM_k (by decide), up2_nt (by decide), tbM_k (by decide), up2_nt (by decide), tnM_k (by decide), up2_at]
theorem rpM_k {v : HV} {k : Fin 9} (h : k ≠ 0) (h7 : k ≠ 7) : rpM v k = v k := by
  unfold rpM
  rw [raM_k h h7]
  unfold tk2 rpW
  rw [up2_kn h, up2_kn h]
theorem rpM_0 {v : HV} {t : Nat} (h3 : t ≠ 3) (h4 : t ≠ 4) : rpM v 0 t = v 0 t := by
  unfold rpM
  rw [raM_0 h3 h4]
  unfold tk2 rpW
  rw [up2_nt h3, up2_nt h4]
theorem bd_ra {v : HV} {p : Nat} {c : Int32} (h : Bd v p) : Bd (raM v c) p := by
  have h2 : Bd (ra2 v c) p := bd_k (bd_tn (bd_k h (by decide))) (by decide)
  unfold raM
  split
  · exact bd_k (bd_k (bd_k (bd_tb h2) (by decide)) (by decide)) (by decide)
  · exact bd_k (bd_tb (bd_k (bd_tb (bd_k (bd_tb h2) (by decide))) (by decide))) (by decide)
theorem anB_t {x : Bool × HV} {f : HV → Bool × HV} (h : x.1 = true) : anB x f = f x.2 := by unfold anB; rw [if_neg (by rw [h]; decide)]
theorem anB_f {x : Bool × HV} {f : HV → Bool × HV} (h : x.1 = false) : anB x f = (false, x.2) := by unfold anB; rw [if_pos h]
def St (x : Bool × HV) (v : HV) (L p r : Nat) (u0 : Nat → Int32) (k : Int32) (n : Nat) (A : Nat → Nat) : Prop :=
  (x.1 = true ∧ ∃ q, p ≤ q ∧ Sm x.2 v L q r ∧ (∀ t, t < r * 5 → x.2 4 t = u0 t) ∧ x.2 4 (r * 5 + 0) = k ∧ ∀ c, 1 ≤ c → c < n → x.2 4 (r * 5 + c) = v 7 c ∧ ∃ y, A c ≤ y ∧ y ≤ 99 ∧ v 7 c = oN y) ∨ (x.1 = false ∧ ∃ q, q ≤ 60 ∧ x.2 2 2 = oN q ∧ Bd v q)
theorem St_tk {x : Bool × HV} {v : HV} {L p r n : Nat} {u0 : Nat → Int32} {k c : Int32} {A : Nat → Nat} (h : St x v L p r u0 k n A) (hc : 0 < c) : St (anB x (fun w => tkB w c)) (tkM v c c) L (p + 1) r u0 k n A := by
  rcases h with ⟨h1, q, h2, h3, h4, h5, h6⟩ | ⟨h1, q, h0, h2, h3⟩
  · rw [anB_t h1]
    show St (tkB x.2 c) _ _ _ _ _ _ _ _
    rcases tk_sim h3 hc with ⟨g1, -, -, g4⟩ | ⟨g1, -, g3⟩
    · rw [g1]
      refine Or.inl ⟨rfl, q + 1, by omega, g4, ?_, ?_, ?_⟩
      · intro t ht; show adv x.2 4 t = _; rw [adv_k (by decide)]; exact h4 t ht
      · show adv x.2 4 _ = _; rw [adv_k (by decide)]; exact h5
      · intro c h1 h2; show adv x.2 4 _ = _ ∧ _; rw [adv_k (by decide), tkM_k (by decide)]; exact h6 c h1 h2
    · rw [g1]
      exact Or.inr ⟨rfl, q, by have := h3.1; have := h3.2.1; omega, h3.2.2.2.2.1, g3⟩
  · rw [anB_f h1]
    exact Or.inr ⟨rfl, q, h0, h2, bd_tk h3⟩
theorem St_rn {x : Bool × HV} {v : HV} {L p r n a m : Nat} {u0 : Nat → Int32} {k : Int32} {A : Nat → Nat} (h : St x v L p r u0 k n A) (hr : r < 15) (ha : a ≤ 1) (hm : m ≤ 99) (hn : n < 5) (hn1 : 1 ≤ n) (hA : A n ≤ a) : St (anB x (fun w => rnB w (oN n) (oN a) (oN m))) (up2 (tnM v (oN a) (oN m)).2 7 n (tnM v (oN a) (oN m)).1) L (p + 1) r u0 k (n + 1) A := by
  rcases h with ⟨h1, q, h2, h3, h4, h5, h6⟩ | ⟨h1, q, h0, h2, h3⟩
  · rw [anB_t h1]
    show St (rnB x.2 (oN n) (oN a) (oN m)) _ _ _ _ _ _ _ _
    rcases rn_sim h3 hr ha hm hn with ⟨g1, q2, y, g2, g3, g4, g5, g6, g7⟩ | ⟨g1, g2⟩
    · refine Or.inl ⟨g1, q2, by omega, sm_7 g5, ?_, ?_, ?_⟩
      · intro t ht; rw [g7, if_neg (by omega)]; exact h4 t ht
      · rw [g7, if_neg (by omega)]; exact h5
      · intro c h1 h2
        rw [g7]
        by_cases z : c = n
        · subst z
          rw [if_pos rfl, up2_at, g6]
          exact ⟨rfl, y, by omega, g4, rfl⟩
        · rw [if_neg (by omega), up2_nt z, tnM_k (by decide)]
          exact h6 c h1 (by omega)
    · rw [g1]
      exact Or.inr ⟨rfl, q, by have := h3.1; have := h3.2.1; omega, h3.2.2.2.2.1, bd_k g2 (by decide)⟩
  · rw [anB_f h1]
    exact Or.inr ⟨rfl, q, h0, h2, bd_k (bd_tn h3) (by decide)⟩
theorem St_0 {w v : HV} {L p r : Nat} {c k : Int32} {A : Nat → Nat} (h : Sm w v L p r) (hr : r < 15) : St (true, pt w 4 5 75 (w 2 1) 0 k) (ra1 v c) L p r (w 4) k 1 A := by
  have e : pt w 4 5 75 (w 2 1) 0 k = up2 w 4 (r * 5 + 0) k := by
    rw [h.2.2.2.1]
    exact pt_oN (C := 5) (c := 0) (by omega) (by decide)
  rw [e]
  refine Or.inl ⟨rfl, p, Nat.le_refl _, sm_up (sm_7 h), ?_, ?_, ?_⟩
  · intro t ht; show up2 w 4 _ _ 4 t = _; rw [u2k, if_neg (by omega)]
  · show up2 w 4 _ _ 4 _ = _; rw [u2k, if_pos rfl]
  · intro c h1 h2; omega
theorem rp_tk {v : HV} {k : Int32} (h : (tcC v = 119 ∨ tcC v = 107) ↔ tcC v = k) : tk2 (rpW v (tcC v)) = tkM v k k := by
  have e : (v 0 4 = 0 ∧ (tcC v = 119 ∨ tcC v = 107)) ↔ (v 0 4 = 0 ∧ wi (tcC v) k k) := ⟨fun q => ⟨q.1, wi_eq.mpr (h.mp q.2)⟩, fun q => ⟨q.1, h.mpr (wi_eq.mp q.2)⟩⟩
  unfold tkM rpW tk1
  by_cases q : v 0 4 = 0 ∧ (tcC v = 119 ∨ tcC v = 107)
  · rw [if_pos q, if_pos (e.mp q)]
  · rw [if_neg q, if_neg (fun z => q (e.mpr z))]
abbrev Wp (u v7 : Nat → Int32) (r : Nat) : Prop := v7 0 = 119 ∧ u (r * 5 + 0) = 1 ∧ u (r * 5 + 1) = v7 1 ∧ u (r * 5 + 2) = v7 2 ∧ ∃ y, 1 ≤ y ∧ y ≤ 99 ∧ v7 2 = oN y
abbrev Kp (u v7 : Nat → Int32) (r : Nat) : Prop := v7 0 = 107 ∧ u (r * 5 + 0) = 2 ∧ ∀ c, 1 ≤ c → c < 5 → u (r * 5 + c) = v7 c
def Pt (R : Bool × HV) (V : HV) (L p r : Nat) (u0 : Nat → Int32) : Prop :=
  (R.1 = true ∧ ∃ q, p ≤ q ∧ Sm R.2 V L q r ∧ (∀ t, t < r * 5 → R.2 4 t = u0 t) ∧ (Wp (R.2 4) (V 7) r ∨ Kp (R.2 4) (V 7) r)) ∨ (R.1 = false ∧ ∃ q, q ≤ 60 ∧ R.2 2 2 = oN q ∧ Bd V q)
theorem w_fin {R : Bool × HV} {V V5 : HV} {L p r : Nat} {u0 : Nat → Int32} {A : Nat → Nat} (s : St R V L p r u0 1 3 A) (hA : A 2 = 1) (e5 : V5 = up2 (up2 V 7 3 0) 7 4 0) (e70 : V5 7 0 = 119) : Pt R V5 L p r u0 := by
  have e7 : ∀ c, c < 3 → V5 7 c = V 7 c := by
    intro c hc
    rw [e5, up2_nt (by omega), up2_nt (by omega)]
  rcases s with ⟨f1, q, f2, f3, f4, f5, f6⟩ | ⟨f1, q, f0, f2, f3⟩
  · left
    obtain ⟨g1, -⟩ := f6 1 (by decide) (by decide)
    obtain ⟨g2, g3⟩ := f6 2 (by decide) (by decide)
    rw [hA] at g3
    refine ⟨f1, q, f2, by rw [e5]; exact sm_7 (sm_7 f3), f4, Or.inl ⟨e70, f5, ?_, ?_, ?_⟩⟩
    · rw [e7 1 (by decide)]; exact g1
    · rw [e7 2 (by decide)]; exact g2
    · rw [e7 2 (by decide)]; exact g3
  · right
    exact ⟨f1, q, f0, f2, by rw [e5]; exact bd_k (bd_k f3 (by decide)) (by decide)⟩
theorem k_fin {R : Bool × HV} {V : HV} {L p r : Nat} {u0 : Nat → Int32} {A : Nat → Nat} (s : St R V L p r u0 2 5 A) (e70 : V 7 0 = 107) : Pt R V L p r u0 := by
  rcases s with ⟨f1, q, f2, f3, f4, f5, f6⟩ | ⟨f1, q, f0, f2, f3⟩
  · left
    exact ⟨f1, q, f2, f3, f4, Or.inr ⟨e70, f5, fun c h1 h2 => (f6 c h1 h2).1⟩⟩
  · right
    exact ⟨f1, q, f0, f2, f3⟩
theorem Pt_m {R : Bool × HV} {V : HV} {L p p2 r : Nat} {u0 : Nat → Int32} (h : Pt R V L p r u0) (hp : p2 ≤ p) : Pt R V L p2 r u0 := by
  rcases h with ⟨f1, q, f2, f3⟩ | h
  · exact Or.inl ⟨f1, q, by omega, f3⟩
  · exact Or.inr h
theorem rdW_sim {w v : HV} {L p r : Nat} (h : Sm w v L p r) (hr : r < 15) : Pt (rdW w) (rw5 v 119) L (p + 3) r (w 4) := by
  have s0 := St_0 (c := 119) (k := 1) (A := fun c => if c = 2 then 1 else 0) h hr
  have s1 := St_rn (a := 0) (m := 12) s0 hr (by decide) (by decide) (by decide) (by decide) (by decide)
  have s2 := St_tk (c := 120) s1 (by decide)
  have s3 := St_rn (a := 1) (m := 99) s2 hr (by decide) (by decide) (by decide) (by decide) (by decide)
  have s4 : St (rdW w) (rw3 v 119) L (p + 1 + 1 + 1) r (w 4) 1 3 (fun c => if c = 2 then 1 else 0) := s3
  exact w_fin s4 rfl rfl (by
    unfold rw5 rw3 ra2 ra1
    rw [up2_nt (by decide), up2_nt (by decide), up2_nt (by decide), tbM_k (by decide), up2_nt (by decide), tnM_k (by decide), up2_at])
theorem rdK_sim {w v : HV} {L p r : Nat} (h : Sm w v L p r) (hr : r < 15) : Pt (rdK w) (rk5 v 107) L (p + 3) r (w 4) := by
  have s0 := St_0 (c := 107) (k := 2) (A := fun _ => 0) h hr
  have s1 := St_rn (a := 0) (m := 12) s0 hr (by decide) (by decide) (by decide) (by decide) (by decide)
  have s2 := St_tk (c := 45) s1 (by decide)
  have s3 := St_rn (a := 0) (m := 12) s2 hr (by decide) (by decide) (by decide) (by decide) (by decide)
  have s4 := St_tk (c := 42) s3 (by decide)
  have s5 := St_rn (a := 1) (m := 9) s4 hr (by decide) (by decide) (by decide) (by decide) (by decide)
  have s6 := St_tk (c := 36) s5 (by decide)
  have s7 := St_rn (a := 1) (m := 99) s6 hr (by decide) (by decide) (by decide) (by decide) (by decide)
  have s8 : St (rdK w) (rk5 v 107) L (p + 1 + 1 + 1 + 1 + 1 + 1 + 1) r (w 4) 2 5 (fun _ => 0) := s7
  exact Pt_m (k_fin s8 (by
    unfold rk5 rk4 rk3 ra2 ra1
    rw [up2_nt (by decide), tbM_k (by decide), up2_nt (by decide), tbM_k (by decide), up2_nt (by decide), tbM_k (by decide), up2_nt (by decide), tnM_k (by decide), up2_at])) (by omega)
theorem tcn_ne {w v : HV} {L p r : Nat} {c : Int32} (h : Sm w v L p r) (hc : c ≠ 0) (g : ¬ (p < L ∧ w 3 p = c)) : tcC v ≠ c := by
  intro z
  rw [sm_tc h] at z
  by_cases y : p < L
  · rw [if_pos y] at z
    exact g ⟨y, z⟩
  · rw [if_neg y] at z
    exact hc z.symm
theorem pt_sim {w v : HV} {L p r : Nat} (h : Sm w v L p r) (hr : r < 15) : Pt (rdB w) (rpM v) L (p + 4) r (w 4) := by
  rcases tk_sim h (c := 119) (by decide) with ⟨g1, g2, g3, g4⟩ | ⟨g1, g2, g3⟩
  · have ec : tcC v = 119 := by rw [sm_tc h, if_pos g3]; exact g2
    have e1 : rdB w = rdW (adv w) := by unfold rdB; rw [g1, if_pos rfl]
    have e2 : rpM v = rw5 (tkM v 119 119) 119 := by
      unfold rpM
      rw [rp_tk (k := 119) (by rw [ec]; exact ⟨fun _ => rfl, fun _ => Or.inl rfl⟩), ec]
      unfold raM
      rw [if_pos rfl]
    have z := rdW_sim g4 hr
    rw [adv_k (show (4 : Fin 9) ≠ 2 by decide)] at z
    rw [e1, e2]
    exact Pt_m z (by omega)
  · have e0 : rdB w = if (tkB w 107).1 = true then rdK (tkB w 107).2 else (false, w) := by unfold rdB; rw [g1, if_neg (show ¬ (false, w).1 = true from fun q => nomatch q)]
    have n119 := tcn_ne h (by decide) g2
    rcases tk_sim h (c := 107) (by decide) with ⟨k1, k2, k3, k4⟩ | ⟨k1, k2, k3⟩
    · have ec : tcC v = 107 := by rw [sm_tc h, if_pos k3]; exact k2
      have e1 : rdB w = rdK (adv w) := by rw [e0, k1, if_pos rfl]
      have e2 : rpM v = rk5 (tkM v 107 107) 107 := by
        unfold rpM
        rw [rp_tk (k := 107) (by rw [ec]; exact ⟨fun _ => rfl, fun _ => Or.inr rfl⟩), ec]
        unfold raM
        rw [if_neg (by decide)]
      have z := rdK_sim k4 hr
      rw [adv_k (show (4 : Fin 9) ≠ 2 by decide)] at z
      rw [e1, e2]
      exact Pt_m z (by omega)
    · right
      have n107 := tcn_ne h (by decide) k2
      rw [e0, k1, if_neg (show ¬ (false, w).1 = true from fun q => nomatch q)]
      refine ⟨rfl, p, by have := h.1; have := h.2.1; omega, h.2.2.2.2.1, ?_⟩
      unfold rpM
      refine bd_ra ?_
      rw [rp_tk (k := 107) ⟨fun q => q.elim (fun z => absurd z n119) id, Or.inr⟩]
      exact k3

