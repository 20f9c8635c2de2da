/-! a method's contract out of its run in the small machine -/
theorem lv_args_mem (P : PR) : ∀ (av : List Value) (i k : Nat) (v : Value), (∀ w ∈ av, w.category = 1) → av[k]? = some v → (i + k, tr P v) ∈ lv_args i (av.map (tr P))
  | [], i, k, v, _, h => by simp at h
  | w :: av, i, k, v, hc, h => by
    have hw : (tr P w).category = 1 := (tr_cat P w).trans (hc w List.mem_cons_self)
    rw [List.map_cons]
    unfold lv_args
    rw [if_neg (by omega)]
    cases k with
    | zero =>
      simp only [List.getElem?_cons_zero, Option.some.injEq] at h
      subst h
      exact List.mem_cons_self
    | succ k =>
      rw [List.getElem?_cons_succ] at h
      have h2 := lv_args_mem P av (i + 1) k v (fun z hz => hc z (List.mem_cons_of_mem _ hz)) h
      rw [show i + 1 + k = i + (k + 1) by omega] at h2
      exact List.mem_cons_of_mem _ h2
theorem lg_sl_len (P : PR) : ∀ (av : List Value), (∀ w ∈ av, w.category = 1) → (lg_sl (av.map (tr P))).length = av.length
  | [], _ => rfl
  | w :: av, hc => by
    have hw : (tr P w).category = 1 := (tr_cat P w).trans (hc w List.mem_cons_self)
    rw [List.map_cons]
    have ih := lg_sl_len P av (fun z hz => hc z (List.mem_cons_of_mem _ hz))
    have e : lg_sl (tr P w :: av.map (tr P)) = [Slot.val (tr P w)] ++ lg_sl (av.map (tr P)) := by
      unfold lg_sl
      rw [List.flatMap_cons, if_neg (by omega)]
    rw [e, List.length_append, ih]
    simp only [List.length_cons, List.length_nil]
    omega
theorem lvr_entry (P : PR) {av : List Value} {n : Nat} (hc : ∀ w ∈ av, w.category = 1) (hn : av.length ≤ n) : lvr P ((lg_sl (av.map (tr P)) ++ List.replicate (n - (lg_sl (av.map (tr P))).length) Slot.unset).toArray) n (av ++ List.replicate (n - av.length) .null) := by
  have h := lv_entry (av.map (tr P)) (n := n) (by rw [lg_sl_len P av hc]; exact hn)
  obtain ⟨h1, h2, h3⟩ := h
  refine ⟨by simp; omega, h1, h2, fun k v hk hv => ?_⟩
  by_cases hl : k < av.length
  · rw [List.getElem?_append_left hl] at hk
    have := h3 _ (lv_args_mem P av 0 k v hc hk)
    simpa using this
  · rw [List.getElem?_append_right (by omega)] at hk
    have := List.mem_of_getElem? hk
    exact absurd (List.eq_of_mem_replicate this) hv
def spBad : Sp := fun _ _ => (False, none, svNil)
theorem SpecOK.no (y : Nat) : SpecOK y spBad := fun _ _ _ _ _ h => absurd h id
/-- what a method's run must show, for a script -/
def DoesAt (sc : Nat × (Nat → Int32)) (y : Nat) (sp : Nat → Sp) (f : Sp) : Prop := ∀ (av : List Value) (S : MS), (f av S).1 → av.length ≤ mtL y ∧ (∀ w ∈ av, w.category = 1) ∧ S.1 ≤ (f av S).2.2.1 ∧ S.2.1 ≤ (f av S).2.2.2.1 ∧ Vf y sp (((f av S).2.2.1, (f av S).2.2.2.1), sc) 0 (av ++ List.replicate (mtL y - av.length) .null) [] S (fun r S' => r = (f av S).2.1 ∧ S' = (f av S).2.2)
def Does (y : Nat) (sp : Nat → Sp) (f : Sp) : Prop := ∀ (sc : Nat × (Nat → Int32)) (av : List Value) (S : MS), (f av S).1 → av.length ≤ mtL y ∧ (∀ w ∈ av, w.category = 1) ∧ S.1 ≤ (f av S).2.2.1 ∧ S.2.1 ≤ (f av S).2.2.2.1 ∧ Vf y sp (((f av S).2.2.1, (f av S).2.2.2.1), sc) 0 (av ++ List.replicate (mtL y - av.length) .null) [] S (fun r S' => r = (f av S).2.1 ∧ S' = (f av S).2.2)
theorem SpecAt.of {sc : Nat × (Nat → Int32)} {y : Nat} {f : Sp} {sp : Nat → Sp} (hy : y < 100) (hy2 : 2 ≤ y) (hsp : ∀ z, SpecAt sc z (sp z)) (h : DoesAt sc y sp f) : SpecAt sc y f := by
  intro l P av S hp
  obtain ⟨h1, h2, h3, h4, n, h5⟩ := h av S hp
  obtain ⟨m1, m2, m3, m4, m5, m6, m7, m8⟩ := mok_all y hy hy2
  refine Met.ofW (cc := mtC y) (maxL := mtL y) (ret := mtR y) m8 rfl ?_
  intro p e s m args below meth c s₁ B hml hv
  obtain ⟨rfl, hsz, hP, hK, hSt⟩ := hv
  have hts := atoms_spec (ws := wsm y) B.pre
  have hown : s.vm.findClass (mtN y).cls = some m.cls := findClass_of_methodNamed B.named
  rw [m5] at hown
  have hlocks := B.notSynchronized
  have hr := B.returns
  have C : Cx p (headSpec (wsm y) (rmm y ((f av S).2.2.1 - S.1) ((f av S).2.2.2.1 - S.2.1))).room s m (av.map (tr P)).toArray meth c P y S.1 S.2.1 (((f av S).2.2.1, (f av S).2.2.2.1), sc) := ⟨B.exec, B.bytes, hml, hown, fun w hw => hts w (List.mem_cons_of_mem _ hw), hK, hSt, (name_of_methodNamed B.named B.method).1, Nat.le_refl _, Nat.le_refl _, hsz, by show (f av S).2.2.1 ≤ S.1 + ((f av S).2.2.1 - S.1); omega, by show (f av S).2.2.2.1 ≤ S.2.1 + ((f av S).2.2.2.1 - S.2.1); omega⟩
  have hrun := run_sound (Q := MQ below (QcM P (f av S).2.1 (f av S).2.2) (av.map (tr P)).toArray s ((f av S).2.2.1 - S.1) ((f av S).2.2.2.1 - S.2.1) (AP P)) (l := l) (e := e) (below := below) C hsp ?_ n 0 _ [] S (Nat.le_refl _) (Nat.le_refl _) h5
  · have hl := lvr_entry P (n := mtL y) h2 h1
    have h9 := hrun s.heap [] _ hP va_S.rf hl
    rw [Nat.sub_self, Nat.sub_self] at h9
    rw [lg_entry_eq]
    exact h9
  · intro r S' ⟨hr1, hr2⟩ pc i H locs als hd hRI hP1 hS1
    subst hr1
    subst hr2
    revert hRI
    generalize hg : (f av S).2.1 = r
    have hx := B.exec
    have hb := B.bytes
    intro hRI
    unfold RI at hRI
    split at hRI
    · obtain ⟨rfl, hrt⟩ := hRI
      rw [hrt] at hr
      exact W.vret hx hb hr (fun t ht hW => ⟨rfl, by rw [ht]; exact hP1, hS1.F ht⟩) hS1.2.2 hd
    · obtain ⟨rfl, ty, hrt, hn⟩ := hRI
      rw [hrt] at hr
      exact W.zret hx hb hr hn (fun t ht hW => ⟨rfl, by rw [ht]; exact hP1, hS1.F ht⟩) hS1.2.2 hd
    · obtain ⟨rfl, hrt⟩ := hRI
      rw [hrt] at hr
      exact W.dret hx hb hr (fun t ht hW => ⟨rfl, by rw [ht]; exact hP1, hS1.F ht⟩) hS1.2.2 hd
    · obtain ⟨rfl, n, hrt⟩ := hRI
      rw [hrt] at hr
      exact W.aret hx hb hr (Or.inl ⟨_, rfl⟩) (Or.inr ⟨_, rfl⟩) (fun t ht hW => ⟨rfl, by rw [ht]; exact hP1, hS1.F ht⟩) hS1.2.2 hd
    · obtain ⟨rfl, n, hrt⟩ := hRI
      rw [hrt] at hr
      exact W.aret hx hb hr (Or.inl ⟨_, rfl⟩) (Or.inl rfl) (fun t ht hW => ⟨rfl, by rw [ht]; exact hP1, hS1.F ht⟩) hS1.2.2 hd
    · exact absurd hRI id
theorem SpecOK.of {y : Nat} {f : Sp} {sp : Nat → Sp} (hy : y < 100) (hy2 : 2 ≤ y) (hsp : ∀ z, SpecOK z (sp z)) (h : Does y sp f) : SpecOK y f := fun sc => SpecAt.of hy hy2 (fun z => hsp z sc) (fun av S hp => h sc av S hp)
