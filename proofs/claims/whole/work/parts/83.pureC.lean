/-! PURE: the text: its fault, on both sides -/
def Fr (w w2 : HV) : Prop := (∀ k : Fin 9, k ≠ 2 → k ≠ 4 → w2 k = w k) ∧ w2 2 0 = w 2 0
theorem Fr_r (w : HV) : Fr w w := ⟨fun _ _ _ => rfl, rfl⟩
theorem Fr_t {a b c : HV} (h : Fr a b) (g : Fr b c) : Fr a c := ⟨fun k h1 h2 => (g.1 k h1 h2).trans (h.1 k h1 h2), g.2.trans h.2⟩
theorem Fr_adv (w : HV) : Fr w (adv w) := ⟨fun _ h _ => adv_k h, adv_1 (by decide)⟩
theorem Fr_2 (w : HV) {t : Nat} {x : Int32} (h : t ≠ 0) : Fr w (up2 w 2 t x) := ⟨fun _ h1 _ => up2_kn h1, up2_nt (Ne.symm h)⟩
theorem Fr_pt (w : HV) {a b x : Int32} : Fr w (pt w 4 5 75 a b x) := by
  have e : ∀ (k : Fin 9) t, k ≠ 4 → pt w 4 5 75 a b x k t = w k t := by
    intro k t hk
    unfold pt
    split
    · rfl
    · split
      · rw [up2_kn hk]
      · rfl
  exact ⟨fun k _ h => funext (fun t => e k t h), e 2 0 (by decide)⟩
theorem Fr_tk (w : HV) (c : Int32) : Fr w (tkB w c).2 := by
  unfold tkB
  split
  · exact Fr_adv w
  · exact Fr_r w
theorem Fr_rn (w : HV) (a b c : Int32) : Fr w (rnB w a b c).2 := by
  unfold rnB
  split
  · exact Fr_r w
  · show Fr w (rnW w a c)
    unfold rnW
    split
    · exact Fr_t (Fr_t (Fr_adv w) (Fr_adv _)) (Fr_pt _)
    · exact Fr_t (Fr_adv w) (Fr_pt _)
theorem Fr_an {w : HV} {x : Bool × HV} {f : HV → Bool × HV} (h : Fr w x.2) (hf : ∀ y, Fr y (f y).2) : Fr w (anB x f).2 := by
  unfold anB
  split
  · exact h
  · exact Fr_t h (hf _)
theorem Fr_rd (w : HV) : Fr w (rdB w).2 := by
  unfold rdB
  split
  · refine Fr_t (Fr_tk w 119) ?_
    unfold rdW
    exact Fr_an (Fr_an (Fr_t (Fr_pt _) (Fr_rn _ _ _ _)) (fun y => Fr_tk y _)) (fun y => Fr_rn y _ _ _)
  · split
    · refine Fr_t (Fr_tk w 107) ?_
      unfold rdK
      exact Fr_an (Fr_an (Fr_an (Fr_an (Fr_an (Fr_an (Fr_t (Fr_pt _) (Fr_rn _ _ _ _)) (fun y => Fr_tk y _)) (fun y => Fr_rn y _ _ _)) (fun y => Fr_tk y _)) (fun y => Fr_rn y _ _ _)) (fun y => Fr_tk y _)) (fun y => Fr_rn y _ _ _)
    · exact Fr_r w
theorem Fr_ff : ∀ (m : Nat) (w : HV), Fr w (ffF m w).2 := by
  intro m
  induction m with
  | zero => intro w; exact Fr_r w
  | succ m ih =>
    intro w
    rw [ffF_s]
    unfold ffS
    split
    · exact Fr_rd w
    · refine Fr_t (Fr_t (Fr_rd w) (Fr_2 (t := 1) (x := (rdB w).2 2 1 + 1) _ (by decide))) ?_
      unfold ffT
      split
      · split
        · exact Fr_tk _ _
        · exact Fr_t (Fr_tk _ _) (ih _)
      · exact Fr_r _
theorem goL_s (d : Int32) (m : Nat) (n : Int32) (v : HV) : goL d (m + 1) n v = if gsC (gs1 d v) then (if tkM (gs1 d v) 59 59 0 4 = 0 then goL d m (n + 1) (tkM (gs1 d v) 59 59) else (n + 1, tkM (gs1 d v) 59 59)) else (n + 1, gs1 d v) := rfl
theorem gs1_k {d : Int32} {v : HV} {k : Fin 9} (h0 : k ≠ 0) (h7 : k ≠ 7) (h1 : k ≠ 1 ∨ d = 0) : gs1 d v k = v k := by
  unfold gs1
  by_cases z : d = 0
  · rw [if_pos z, up2_kn h0, rpM_k h0 h7]
  · rw [if_neg z, up2_kn h0]
    funext t
    have hk1 : k ≠ 1 := h1.elim id (fun q => absurd q z)
    have e : (doM (rpM v)).2 k t = rpM v k t := by
      unfold doM
      split
      · split
        · rfl
        · show do2 (rpM v) k t = _
          unfold do2
          rw [up2_kn h0]
          unfold do1 laM
          rw [lyF_0 hk1]
      · split
        · rfl
        · split
          · rfl
          · show cmM (rpM v) _ _ _ _ k t = _
            rw [cmM_k hk1]
    rw [e, rpM_k h0 h7]
theorem gs1_0 {d : Int32} {v : HV} {t : Nat} (ht : t < 3) : gs1 d v 0 t = v 0 t := by
  unfold gs1
  split
  · rw [up2_nt (by omega), rpM_0 (by omega) (by omega)]
  · rw [up2_nt (by omega), doM_k (by decide) (by omega), rpM_0 (by omega) (by omega)]
theorem goL_k {d : Int32} {k : Fin 9} (h0 : k ≠ 0) (h7 : k ≠ 7) (h1 : k ≠ 1 ∨ d = 0) : ∀ (m : Nat) (n : Int32) (v : HV), (goL d m n v).2 k = v k := by
  intro m
  induction m with
  | zero => intro n v; rfl
  | succ m ih =>
    intro n v
    rw [goL_s]
    split
    · split
      · rw [ih, tkM_k h0, gs1_k h0 h7 h1]
      · show tkM (gs1 d v) 59 59 k = _
        rw [tkM_k h0, gs1_k h0 h7 h1]
    · exact gs1_k h0 h7 h1
theorem goL_0 {d : Int32} {t : Nat} (ht : t < 3) : ∀ (m : Nat) (n : Int32) (v : HV), (goL d m n v).2 0 t = v 0 t := by
  intro m
  induction m with
  | zero => intro n v; rfl
  | succ m ih =>
    intro n v
    rw [goL_s]
    split
    · split
      · rw [ih, tkM_0 (by omega) (by omega), gs1_0 ht]
      · show tkM (gs1 d v) 59 59 0 t = _
        rw [tkM_0 (by omega) (by omega), gs1_0 ht]
    · exact gs1_0 ht
theorem sm_do {w v v2 : HV} {L p r : Nat} (h : Sm w v L p r) (h0 : ∀ t, t < 5 → v2 0 t = v 0 t) (h6 : v2 6 = v 6) : Sm w v2 L p r := by
  obtain ⟨hL, hp', e0, e1, e2, f2, f3, f4, f6⟩ := h
  exact ⟨hL, hp', e0, e1, e2, by rw [h0 2 (by decide)]; exact f2, by rw [h0 3 (by decide)]; exact f3, by rw [h0 4 (by decide)]; exact f4, by rw [h6]; exact f6⟩
theorem sm_nx {w v : HV} {L p r : Nat} (h : Sm w v L p r) : Sm (up2 w 2 1 (w 2 1 + 1)) v L p (r + 1) := by
  obtain ⟨hL, hp', e0, e1, e2, f2, f3, f4, f6⟩ := h
  exact ⟨hL, hp', by rw [up2_nt (by decide)]; exact e0, by rw [up2_at, e1, oN_succ], by rw [up2_nt (by decide)]; exact e2, f2, f3, f4, by rw [up2_kn (by decide)]; exact f6⟩
theorem sm_gc {w v : HV} {L p r : Nat} (h : Sm w v L p r) (h6 : v 0 6 = 0) : gsC v ↔ p < L := by
  obtain ⟨hL, hp', e0, e1, e2, f2, f3, f4, f6⟩ := h
  unfold gsC
  rw [f2, f3, oN_lt (by omega) (by omega)]
  exact ⟨fun q => q.2.2, fun q => ⟨h6, f4, q⟩⟩
theorem sm_tl {w v : HV} {L p r : Nat} (h : Sm w v L p r) : (w 2 2 < w 2 0) ↔ p < L := by
  obtain ⟨hL, hp', e0, e1, e2, f2, f3, f4, f6⟩ := h
  rw [e0, e2, oN_lt (by omega) (by omega)]
theorem ff_sim : ∀ (m : Nat) (w v : HV) (L p r : Nat) (n : Int32) (M : Nat), M = m + 1 → Sm w v L p r → 5 * r ≤ p → 60 < p + 5 * m →
    ((ffF m w).1 = -5 ∧ (goL 0 M n v).2 0 4 = 0 ∧ ∃ R, r < R ∧ R ≤ 13 ∧ (ffF m w).2 2 1 = oN R ∧ ∀ t, t < r * 5 → (ffF m w).2 4 t = w 4 t) ∨ (∃ q, q ≤ 60 ∧ (ffF m w).1 = oN q ∧ Bd (goL 0 M n v).2 q) := by
  intro m
  induction m with
  | zero => intro w v L p r n M hM h h5 h60; have := h.1; have := h.2.1; omega
  | succ m ih =>
    intro w v L p r n M hM h h5 h60
    subst hM
    have hr : r < 15 := by have := h.1; have := h.2.1; omega
    rw [ffF_s, goL_s]
    have eg : gs1 0 v = up2 (rpM v) 0 6 0 := by unfold gs1; rw [if_pos rfl]
    have e6 : gs1 0 v 0 6 = 0 := by rw [eg, up2_at]
    unfold ffS
    rcases pt_sim h hr with ⟨g1, q, g2, g3, g4, -⟩ | ⟨g1, q, g0, g2, g3⟩
    · rw [if_neg (by rw [g1]; decide)]
      have s1 : Sm (up2 (rdB w).2 2 1 ((rdB w).2 2 1 + 1)) (gs1 0 v) L q (r + 1) := by
        refine sm_nx (sm_do g3 (fun t ht => ?_) ?_)
        · rw [eg, up2_nt (by omega)]
        · rw [eg, up2_kn (by decide)]
      have k4 : up2 (rdB w).2 2 1 ((rdB w).2 2 1 + 1) 4 = (rdB w).2 4 := up2_kn (by decide)
      generalize up2 (rdB w).2 2 1 ((rdB w).2 2 1 + 1) = w1 at s1 k4
      generalize gs1 0 v = v1 at s1 e6
      have hq := s1.1
      have hq2 := s1.2.1
      unfold ffT
      by_cases hL : q < L
      · rw [if_pos ((sm_tl s1).mpr hL), if_pos ((sm_gc s1 e6).mpr hL)]
        rcases tk_sim s1 (c := 59) (by decide) with ⟨f1, -, -, f4⟩ | ⟨f1, -, f3⟩
        · rw [f1, if_neg (show ¬ (true, adv w1).1 = false from fun q => nomatch q), if_pos f4.2.2.2.2.2.2.2.1]
          show ((ffF m (adv w1)).1 = -5 ∧ _ ∧ ∃ R, r < R ∧ R ≤ 13 ∧ (ffF m (adv w1)).2 2 1 = oN R ∧ ∀ t, t < r * 5 → (ffF m (adv w1)).2 4 t = w 4 t) ∨ (∃ q, q ≤ 60 ∧ (ffF m (adv w1)).1 = oN q ∧ _)
          rcases ih (adv w1) _ L (q + 1) (r + 1) (n + 1) (m + 1) rfl f4 (by omega) (by omega) with ⟨y1, y2, R, y3, y4, y5, y6⟩ | y
          · refine Or.inl ⟨y1, y2, R, by omega, y4, y5, fun t ht => ?_⟩
            rw [y6 t (by omega), adv_k (by decide), k4, g4 t ht]
          · exact Or.inr y
        · rw [f1, if_pos (show (false, w1).1 = false from rfl), if_neg f3.1]
          exact Or.inr ⟨q, by omega, s1.2.2.2.2.1, f3⟩
      · rw [if_neg (fun z => hL ((sm_tl s1).mp z)), if_neg (fun z => hL ((sm_gc s1 e6).mp z))]
        refine Or.inl ⟨rfl, s1.2.2.2.2.2.2.2.1, r + 1, by omega, by omega, s1.2.2.2.1, fun t ht => ?_⟩
        show w1 4 t = _
        rw [k4, g4 t ht]
    · rw [if_pos g1]
      have s1 : Bd (gs1 0 v) q := by
        rw [eg]
        unfold Bd
        rw [up2_nt (by decide), up2_nt (by decide)]
        exact g3
      rw [if_neg (fun z => s1.1 z.2.1)]
      exact Or.inr ⟨q, g0, g2, s1⟩
theorem RG_7 {σ : SG} {w : HV} (h : RG σ) (h0 : w 0 0 = σ 7 0 0) (h1 : w 1 = σ 7 1) (h2 : w 2 0 = σ 7 2 0) (h3 : w 3 = σ 7 3) : RG (up1 σ 7 w) := by
  obtain ⟨r0, ⟨la, hd, g1, g2, g3, g4, g5, g6⟩, ⟨k1, k2⟩, ⟨len, l1, l2, l3, l4⟩⟩ := h
  have e7 : up1 σ 7 w 7 = w := up1_at _ _ _
  have si : ∀ i, i ≠ 7 → up1 σ 7 w i = σ i := fun i h => up1_nt h
  refine ⟨?_, ⟨la, hd, g1, g2, ?_, ?_, ?_, ?_⟩, ⟨?_, ?_⟩, ⟨len, l1, ?_, ?_, ?_⟩⟩
  · rw [si 0 (by decide), si 8 (by decide)]; exact r0
  · rw [e7, h1]; exact g3
  · rw [e7, h1]; exact g4
  · rw [si 8 (by decide)]; exact g5
  · intro j hj; rw [si _ (by omega), si 8 (by decide)]; exact g6 j hj
  · rw [e7, si 8 (by decide), h0]; exact k1
  · rw [e7, si 8 (by decide), si 2 (by decide), h0]; exact k2
  · rw [e7, h2]; exact l2
  · rw [si 8 (by decide)]; exact l3
  · rw [e7, si 8 (by decide), h3]; exact l4
theorem g0_0 {v : HV} {t : Nat} (h : t < 3) : g0M v 0 t = v 0 t := by
  unfold g0M
  rw [up2_nt (by omega), up2_nt (by omega), up2_nt (by omega), up2_nt (by omega)]
theorem g0_k {v : HV} {k : Fin 9} (h : k ≠ 0) : g0M v k = v k := by
  unfold g0M
  rw [up2_kn h, up2_kn h, up2_kn h, up2_kn h]
theorem g0_sm {u v : HV} {len : Nat} (l1 : len ≤ 60) (l2 : u 2 0 = oN len) (l3 : v 0 2 = oN len) (l4 : ∀ j, j < len → v 6 j = u 3 j) : Sm (up2 (up2 u 2 2 0) 2 1 0) (g0M v) len 0 0 := by
  refine ⟨l1, Nat.zero_le _, ?_, ?_, ?_, ?_, ?_, ?_, ?_⟩
  · rw [up2_nt (by decide), up2_nt (by decide)]; exact l2
  · rw [up2_at]; rfl
  · rw [up2_nt (by decide), up2_at]; rfl
  · rw [g0_0 (by decide)]; exact l3
  · unfold g0M; rw [up2_nt (by decide), up2_nt (by decide), up2_nt (by decide), up2_at]; rfl
  · unfold g0M; rw [up2_nt (by decide), up2_nt (by decide), up2_at]
  · intro j hj
    rw [g0_k (by decide), up2_kn (by decide), up2_kn (by decide)]
    exact l4 j hj
theorem fault_ok {σ : SG} (hR : RG σ) : (((ffW (σ 7)).1 = -5 ∧ fuM (σ 8) 0 4 = 0) ∨ (∃ q, q ≤ 60 ∧ (ffW (σ 7)).1 = oN q ∧ Bd (fuM (σ 8)) q)) ∧ (∀ t, t < 3 → fuM (σ 8) 0 t = σ 8 0 t) ∧ (∀ k : Fin 9, k ≠ 0 → k ≠ 7 → fuM (σ 8) k = σ 8 k) ∧ Fr (σ 7) (ffW (σ 7)).2 := by
  obtain ⟨r0, -, -, ⟨len, l1, l2, l3, l4⟩⟩ := hR
  have h := ff_sim 60 _ _ len 0 0 0 61 rfl (g0_sm (u := σ 7) (v := σ 8) l1 l2 l3 l4) (by decide) (by decide)
  refine ⟨?_, ?_, ?_, ?_⟩
  · rcases h with ⟨h1, h2, -⟩ | h
    · exact Or.inl ⟨h1, h2⟩
    · exact Or.inr h
  · intro t ht
    exact (goL_0 ht 61 0 (g0M (σ 8))).trans (g0_0 ht)
  · intro k h0 h7
    exact (goL_k h0 h7 (Or.inr rfl) 61 0 (g0M (σ 8))).trans (g0_k h0)
  · exact Fr_t (Fr_t (Fr_2 (t := 2) _ (by decide)) (Fr_2 (t := 1) _ (by decide))) (Fr_ff 60 _)
theorem s_fault (σ : SG) (hR : RG σ) : StI RG f_X_fault f_M_fault [] σ := by
  obtain ⟨h, h0, hk, hf⟩ := fault_ok hR
  have p2 : sm (σ 8 0 2) 60 := by
    obtain ⟨-, -, -, ⟨len, l1, l2, l3, l4⟩⟩ := hR
    rw [l3]
    exact sm_oN l1 (by decide)
  generalize hF : ffW (σ 7) = F at h hf
  generalize hG : fuM (σ 8) = G at h h0 hk
  have e8 : up1 σ 7 F.2 8 = σ 8 := up1_nt (by decide)
  refine StI_2 (X := (F.1, up1 σ 7 F.2)) (M := fun v => (if fuM v 0 4 = 0 then -5 else fuM v 0 3, fuM v)) (v2 := G) (by rw [← hF]; exact q_X_fault) trivial q_M_fault (by show sm (up1 σ 7 F.2 8 0 2) 60; rw [e8]; exact p2) rfl (by
    show (if fuM (up1 σ 7 F.2 8) 0 4 = 0 then -5 else fuM (up1 σ 7 F.2 8) 0 3, fuM (up1 σ 7 F.2 8)) = _
    rw [e8, hG]
    rcases h with ⟨h1, h2⟩ | ⟨q, -, h1, h2⟩
    · rw [if_pos h2, h1]
    · rw [if_neg h2.1, h1, h2.2]) ?_
  have r1 : RG (up1 σ 7 F.2) := RG_7 hR (by rw [hf.1 0 (by decide) (by decide)]) (hf.1 1 (by decide) (by decide)) hf.2 (hf.1 3 (by decide) (by decide))
  exact RG_8 r1 (fun t ht => by rw [e8]; exact h0 t ht) (fun t _ => by rw [e8, hk 1 (by decide) (by decide)]) (by rw [e8]; exact hk 4 (by decide) (by decide)) (by rw [e8]; exact hk 5 (by decide) (by decide)) (by rw [e8]; exact hk 6 (by decide) (by decide))

