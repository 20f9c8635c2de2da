/-! the instructions that touch cells -/
section CELLS
variable {p : Program} {l : Launch} {e : Env} {R : Room} {s : State} {m : MethodId} {args : Array Value} {below : List Frame} {meth : Method} {c : Code} {Q : State → Prop} {P : PR} {y n0 s0 : Nat} {en : En} {pc : Nat} {ls st : List Value} {S : MS}
theorem narrow_ref (ty : FieldType) (a : Nat) : narrow ty (.ref a) = .ref a := by cases ty <;> rfl
theorem fits_ref (ty : FieldType) (a b : Nat) : fits ty (.ref a) = fits ty (.ref b) := by cases ty <;> rfl
theorem fok_tr {ty : FieldType} {v : Value} (h : fok ty v) : narrow ty (tr P v) = tr P v ∧ fits ty (tr P v) = true := by
  obtain ⟨h1, h2⟩ := h
  cases v with
  | ref a => exact ⟨narrow_ref ty _, (fits_ref ty _ a).trans h2⟩
  | _ => exact ⟨h1, h2⟩
theorem StOK.nst {sc : Nat × (Nat → Int32)} {U : State} (h : StOK P sc U) {w : Jvm.Cond} (hw : w ∈ lwn) : va_Nw w U := h.2.2.2.2.2 w hw
theorem StOK.go {sc : Nat × (Nat → Int32)} {H : Heap} {locs : List Loc} {U : State} (h : StOK P sc s) (hS : va_S (AP P) s.heap H locs) (hU : U.heap = H) (hW : s.WarmedH U.vm) : StOK P sc U := by
  obtain ⟨h1, h2, h3, h4, h5, h6⟩ := h
  subst hU
  refine ⟨fun t ht => ⟨((h1 t ht).1.moved hW.alike).kept hS.2.1, ((h1 t ht).2.moved hW.alike).kept hS.2.1⟩, (h2.moved hW.alike).kept (hS.2.1 _ h3 h4), Nat.lt_of_lt_of_le h3 hS.1, h4, h5.moved hW.alike, fun w hw => nst_warm hw hW (h6 w hw)⟩
theorem nst_tab {w : Jvm.Cond} (h : w ∈ lwn) : w.onTables = true := by
  have h1 := (List.mem_filter.mp h).2
  unfold nstWord at h1
  split at h1
  · rfl
  · rfl
  · cases h1
theorem StOK.same {sc : Nat × (Nat → Int32)} {u U : State} (h : StOK P sc u) (hh : U.heap = u.heap) (hv : U.vm = u.vm) : StOK P sc U := by
  obtain ⟨h1, h2, h3, h4, h5, h6⟩ := h
  have hal : u.vm.Alike U.vm := by rw [hv]; exact Vm.Alike.refl u.vm
  have hk : ∀ a : Nat, U.heap[a]? = u.heap[a]? := fun a => by rw [hh]
  refine ⟨fun t ht => ⟨((h1 t ht).1.moved hal).kept (fun a _ _ => hk a), ((h1 t ht).2.moved hal).kept (fun a _ _ => hk a)⟩, (h2.moved hal).kept (hk _), by rw [hh]; exact h3, h4, h5.moved hal, fun w hw => va_Nw.same (nst_tab hw) hv.symm (h6 w hw)⟩
theorem sd_get {ix : Nat} {q : Prop} (C : Cx p R s m args meth c P y n0 s0 en) (hd : q → decode (mtC y) pc = .ok (.getfield ix, 3)) : SND p l e R s m args below meth c Q P y n0 s0 pc ls st S (i_get y ix q (pc + 3) ls st S) := by
  unfold i_get
  split
  · rename_i c1 k a r hfl
    refine SND.same fun hq hk H locs als hP hS hl => ?_
    obtain ⟨hq0, ho, hkn⟩ := hq
    obtain ⟨hx, hb, hml, hown, hts, hK, hSt, -⟩ := C
    obtain ⟨hc6, hlink⟩ := FL_spec hfl
    obtain ⟨hcl, hty, hnm, hcn⟩ := cok_all c1 hc6
    have he := wl_get P S ho.2.1
    rw [ent_obj P ho] at he
    have hv : ((List.range (nf c1)).map fun k => tr P (S.2.2.2 a k))[k]? = some (tr P (S.2.2.2 a k)) := by simp [hkn]
    have hk' := hk H locs als hP hS hl
    show W p l e R s m args below meth c H locs _ _ Q (F0 m pc als (.ref (pad P a) :: r.map (tr P)))
    rw [pad_lt P ho.1]
    have hsame : ∀ x, s.fieldFound? (fT c1 k).1 (fT c1 k).2.1 (fT c1 k).2.2.1 = some x → s.fieldFound? (cn c1) (fT c1 k).2.1 (fT c1 k).2.2.1 = some x := fun x h => by rw [hcn k hkn] at h; exact h
    rcases hlink with hlink | hlink
    · exact va_getN hx hb hts (cws_all c1 hc6) hown hK hP a he hcl k hkn (va_Nw.use rfl (hSt.nst hlink.2)) hsame hv (hd hq0) hk'
    · exact va_get hx hb hts (cws_all c1 hc6) hown hK hP a he hcl k hkn (hts _ hlink) hsame hv (hd hq0) hk'
  · exact SND.no
theorem ent_seto {a c1 k : Nat} {v : Value} (ho : obj S a c1) : ent P (svSet S a k v) a = .inr (c1, ((List.range (nf c1)).map fun k => tr P (S.2.2.2 a k)).set k (tr P v)) := by
  have ho' : obj (svSet S a k v) a c1 := ho
  rw [ent_obj P ho']
  congr 2
  apply List.ext_getElem?
  intro j
  by_cases hj : j < nf c1
  · by_cases e : j = k
    · subst e
      rw [List.getElem?_set_self (by simpa using hj)]
      simp [hj, svSet]
    · rw [List.getElem?_set_ne (Ne.symm e)]
      simp [hj, svSet, e]
  · rw [List.getElem?_eq_none (by simp; omega), List.getElem?_eq_none (by simp; omega)]
theorem sd_put {ix : Nat} {q : Prop} (C : Cx p R s m args meth c P y n0 s0 en) (hd : q → decode (mtC y) pc = .ok (.putfield ix, 3)) : SND p l e R s m args below meth c Q P y n0 s0 pc ls st S (i_put y ix q (pc + 3) ls st S) := by
  unfold i_put
  split
  · rename_i c1 k v a r hfl
    refine SND.nx fun hq hn hs => ⟨hn, hs, fun hk H locs als hP hS hl => ?_⟩
    obtain ⟨hq0, ho, hkn, hfin, hfo⟩ := hq
    obtain ⟨hx, hb, hml, hown, hts, hK, hSt, hname, -⟩ := C
    obtain ⟨hc6, hlink⟩ := FL_spec hfl
    obtain ⟨hcl, hty, hnm, hcn⟩ := cok_all c1 hc6
    have he := wl_get P S ho.2.1
    rw [ent_obj P ho] at he
    obtain ⟨hf1, hf2⟩ := fok_tr (P := P) hfo
    show W p l e R s m args below meth c H locs _ _ Q (F0 m pc als (tr P v :: .ref (pad P a) :: r.map (tr P)))
    rw [pad_lt P ho.1]
    have hsame : ∀ x, s.fieldFound? (fT c1 k).1 (fT c1 k).2.1 (fT c1 k).2.2.1 = some x → s.fieldFound? (cn c1) (fT c1 k).2.1 (fT c1 k).2.2.1 = some x := fun x h => by rw [hcn k hkn] at h; exact h
    have hset : (wl P S).set a (pB P + a, .inr (c1, ((List.range (nf c1)).map fun k => tr P (S.2.2.2 a k)).set k (tr P v))) = wl P (svSet S a k v) := by
      rw [← ent_seto (P := P) ho]
      exact wl_set P S (svSet S a k v) rfl (fun b hb _ => ent_set_ne P S v hb)
    have kk : ∀ (H1 : Heap) (locs1 : List Loc), va_P (pD P) vwCl ((wl P S).set a (pB P + a, .inr (c1, ((List.range (nf c1)).map fun k => tr P (S.2.2.2 a k)).set k (tr P v)))) H1 → va_D (AP P) ((wl P S).set a (pB P + a, .inr (c1, ((List.range (nf c1)).map fun k => tr P (S.2.2.2 a k)).set k (tr P v)))) → va_S (AP P) s.heap H1 locs1 → W p l e R s m args below meth c H1 locs1 (S.1 - n0) (S.2.1 - s0) Q (F0 m (pc + 3) als (r.map (tr P))) := fun H1 locs1 hP1 _ hS1 => hk H1 locs1 als (hset ▸ hP1) hS1 hl
    by_cases hfi : (fT c1 k).2.2.2 = true
    · obtain ⟨ho1, hi1⟩ := hfin hfi
      rcases hlink with hlink | hlink
      · exact absurd ho1 hlink.1
      · exact va_putF hx hb hts (cws_all c1 hc6) (fty c1) hty hnm hown hK hP (wl_D P S) hS a he hcl k hkn (hts _ hlink) hsame hfi (hname.trans hi1) (by rw [hcn k hkn, ho1]) (hty k hkn) hf1 hf2 (by simpa using hkn) (hd hq0) kk
    · have hfi : (fT c1 k).2.2.2 = false := by simpa using hfi
      rcases hlink with hlink | hlink
      · exact va_putN hx hb hts (cws_all c1 hc6) (fty c1) hty hnm hown hK hP (wl_D P S) hS a he hcl k hkn (va_Nw.use rfl (hSt.nst hlink.2)) hsame hfi (hty k hkn) hf1 hf2 (by simpa using hkn) (hd hq0) kk
      · exact va_put hx hb hts (cws_all c1 hc6) (fty c1) hty hnm hown hK hP (wl_D P S) hS a he hcl k hkn (hts _ hlink) hsame hfi (hty k hkn) hf1 hf2 (by simpa using hkn) (hd hq0) kk
  · exact SND.no
theorem sd_gst {ix : Nat} {q : Prop} (C : Cx p R s m args meth c P y n0 s0 en) (hd : q → decode (mtC y) pc = .ok (.getstatic ix, 3)) : SND p l e R s m args below meth c Q P y n0 s0 pc ls st S (i_gst y ix q (pc + 3) ls st S) := by
  unfold i_gst
  split
  · rename_i t hsl
    refine SND.same fun hq hk H locs als hP hS hl => ?_
    obtain ⟨hq0, ht⟩ := hq
    obtain ⟨hx, hb, hml, hown, hts, hK, hSt, -⟩ := C
    have hk' := hk H locs als hP hS hl
    rw [List.map_cons, show tr P (.ref (1000 + t)) = .ref (pRo P t) by
      show Value.ref (pad P (1000 + t)) = _
      unfold pad
      rw [if_neg (by omega), if_pos (by omega), show 1000 + t - 1000 = t by omega]] at hk'
    rcases SL_spec hsl with hlink | hlink
    · exact va_getsN hx hb (hSt.1 t ht).1 hS hown (va_Nw.use rfl (hSt.nst hlink)) (fun _ h => h) (hd hq0) hk'
    · exact va_gets hx hb (hSt.1 t ht).1 hS hown (hts _ hlink) (fun _ h => h) (hd hq0) hk'
  · exact SND.no
theorem aok_lt {a kd : Nat} (h : aok S a kd) (ha : a < 1000) : a < S.1 ∧ (S.2.2.1 a).1 = kd := by unfold aok at h; rw [if_pos ha] at h; exact h
theorem aok_ge {a kd : Nat} (h : aok S a kd) (ha : ¬ a < 1000) : (a < 1003 ∨ a = 2000) ∧ kd = 7 := by
  unfold aok at h
  rw [if_neg ha] at h
  refine ⟨?_, h.2⟩
  have h1 := h.1
  split at h1
  · exact Or.inl h1
  · exact Or.inr h1
theorem pad_st {a : Nat} (h1 : ¬ a < 1000) (h2 : a < 1003) : pad P a = pRo P (a - 1000) := by unfold pad; rw [if_neg h1, if_pos (by omega)]
theorem pad_sc : pad P 2000 = pSc P := rfl
theorem sd_len {q : Prop} (C : Cx p R s m args meth c P y n0 s0 en) (hd : q → decode (mtC y) pc = .ok (.arraylength, 1)) : SND p l e R s m args below meth c Q P y n0 s0 pc ls st S (i_len en q (pc + 1) ls st S) := by
  unfold i_len
  split
  · rename_i a r
    refine SND.same fun hq hk H locs als hP hS hl => ?_
    obtain ⟨hq0, ha⟩ := hq
    obtain ⟨hx, hb, hml, hown, hts, hK, hSt, -⟩ := C
    have hk' := hk H locs als hP hS hl
    show W p l e R s m args below meth c H locs _ _ Q (F0 m pc als (.ref (pad P a) :: r.map (tr P)))
    by_cases h1 : a < 1000
    · rw [pad_lt P h1]
      have hal : aln en S a = (S.2.2.1 a).2 := by unfold aln; rw [if_pos h1]
      rcases ha with ha | ha | ha
      · obtain ⟨g1, g2⟩ := aok_lt ha h1
        have he := wl_get P S g1
        rw [ent_i P g2] at he
        exact va_alen hx hb hK hP a 1 he rfl (by rw [← hal]) (hd hq0) hk'
      · obtain ⟨g1, g2⟩ := aok_lt ha h1
        have he := wl_get P S g1
        rw [ent_c P g2] at he
        exact va_alen hx hb hK hP a 0 he rfl (by rw [← hal]) (hd hq0) hk'
      · obtain ⟨g1, g2⟩ := aok_lt ha h1
        have he := wl_get P S g1
        rw [ent_q P g2] at he
        exact va_alen hx hb hK hP a 2 he rfl (by rw [← hal]) (hd hq0) hk'
    · have h8 : ∃ kd, aok S a kd := by
        rcases ha with ha | ha | ha
        · exact ⟨_, ha⟩
        · exact ⟨_, ha⟩
        · exact ⟨_, ha⟩
      obtain ⟨kd, ha⟩ := h8
      rcases (aok_ge ha h1).1 with h7 | h7
      · rw [pad_st h1 h7]
        have hal : aln en S a = 5 := by unfold aln; rw [if_neg h1, if_pos (by omega)]
        exact va_tlen hx hb (hSt.1 (a - 1000) (by omega)).2 hS (by rw [hal]) (hd hq0) hk'
      · subst h7
        have hal : aln en S 2000 = en.2.1 := rfl
        exact va_slen hx hb hSt.2.1 hSt.2.2.1 hSt.2.2.2.1 hS (hd hq0) hk'
  · exact SND.no
theorem sd_iald {q : Prop} (C : Cx p R s m args meth c P y n0 s0 en) (hd : q → decode (mtC y) pc = .ok (.iaload, 1)) : SND p l e R s m args below meth c Q P y n0 s0 pc ls st S (i_ard en 7 q (pc + 1) ls st S) := by
  unfold i_ard
  split
  · rename_i i a r
    refine SND.same fun hq hk H locs als hP hS hl => ?_
    obtain ⟨hq0, ha, hi⟩ := hq
    obtain ⟨hx, hb, hml, hown, hts, hK, hSt, -⟩ := C
    have hk' := hk H locs als hP hS hl
    show W p l e R s m args below meth c H locs _ _ Q (F0 m pc als (.int i :: .ref (pad P a) :: r.map (tr P)))
    by_cases h1 : a < 1000
    · rw [pad_lt P h1]
      obtain ⟨g1, g2⟩ := aok_lt ha h1
      have he := wl_get P S g1
      rw [ent_i P g2] at he
      have hal : aln en S a = (S.2.2.1 a).2 := by unfold aln; rw [if_pos h1]
      have har : ard en S a i.toNatClampNeg = toI (S.2.2.2 a i.toNatClampNeg) := by unfold ard; rw [if_pos h1]
      rw [har] at hk'
      rw [hal] at hi
      exact va_iald hx hb hK hP a 1 he rfl hi (hd hq0) hk'
    · rcases (aok_ge ha h1).1 with h7 | h7
      · rw [pad_st h1 h7]
        have hal : aln en S a = 5 := by unfold aln; rw [if_neg h1, if_pos (by omega)]
        have har : ard en S a i.toNatClampNeg = (stv (a - 1000)).getD i.toNatClampNeg 0 := by unfold ard; rw [if_neg h1, if_pos (by omega)]
        rw [har] at hk'
        rw [hal] at hi
        exact va_ti hx hb (hSt.1 (a - 1000) (by omega)).2 hS hi rfl (hd hq0) hk'
      · subst h7
        exact va_sld hx hb hSt.2.1 hSt.2.2.1 hSt.2.2.2.1 hS hi (hd hq0) hk'
  · exact SND.no
theorem sd_cald {q : Prop} (C : Cx p R s m args meth c P y n0 s0 en) (hd : q → decode (mtC y) pc = .ok (.caload, 1)) : SND p l e R s m args below meth c Q P y n0 s0 pc ls st S (i_ard en 6 q (pc + 1) ls st S) := by
  unfold i_ard
  split
  · rename_i i a r
    refine SND.same fun hq hk H locs als hP hS hl => ?_
    obtain ⟨hq0, ha, hi⟩ := hq
    obtain ⟨hx, hb, hml, hown, hts, hK, hSt, -⟩ := C
    have hk' := hk H locs als hP hS hl
    show W p l e R s m args below meth c H locs _ _ Q (F0 m pc als (.int i :: .ref (pad P a) :: r.map (tr P)))
    by_cases h1 : a < 1000
    · rw [pad_lt P h1]
      obtain ⟨g1, g2⟩ := aok_lt ha h1
      have he := wl_get P S g1
      rw [ent_c P g2] at he
      have hal : aln en S a = (S.2.2.1 a).2 := by unfold aln; rw [if_pos h1]
      have har : ard en S a i.toNatClampNeg = toI (S.2.2.2 a i.toNatClampNeg) := by unfold ard; rw [if_pos h1]
      rw [har] at hk'
      rw [hal] at hi
      exact va_cald hx hb hK hP a 0 he rfl hi (hd hq0) hk'
    · exact absurd (aok_ge ha h1).2 (by decide)
  · exact SND.no
theorem sd_aqd {q : Prop} (C : Cx p R s m args meth c P y n0 s0 en) (hd : q → decode (mtC y) pc = .ok (.aaload, 1)) : SND p l e R s m args below meth c Q P y n0 s0 pc ls st S (i_aqd q (pc + 1) ls st S) := by
  unfold i_aqd
  split
  · rename_i i a r
    refine SND.same fun hq hk H locs als hP hS hl => ?_
    obtain ⟨hq0, ha, hi, -⟩ := hq
    obtain ⟨hx, hb, hml, hown, hts, hK, hSt, -⟩ := C
    have hk' := hk H locs als hP hS hl
    show W p l e R s m args below meth c H locs _ _ Q (F0 m pc als (.int i :: .ref (pad P a) :: r.map (tr P)))
    rw [pad_lt P ha.1]
    have he := wl_get P S ha.2.1
    rw [ent_q P ha.2.2] at he
    refine va_aldq hx hb hK hP a 2 he rfl hi (hd hq0) ?_
    rw [List.map_cons] at hk'
    cases ht : toR (S.2.2.2 a i.toNatClampNeg) with
    | none => rw [ht] at hk'; exact hk'
    | some x => rw [ht] at hk'; exact hk'
  · exact SND.no
theorem ent_seti {a k : Nat} {x : Int32} (h : (S.2.2.1 a).1 = 7) : ent P (svSet S a k (.int x)) a = .inl (pcI P, (S.2.2.1 a).2, .inl (upd (fun j => toI (S.2.2.2 a j)) k x)) := by
  have h' : ((svSet S a k (.int x)).2.2.1 a).1 = 7 := h
  rw [ent_i P h']
  have e : (fun j => toI ((svSet S a k (.int x)).2.2.2 a j)) = upd (fun j => toI (S.2.2.2 a j)) k x := by
    funext j
    by_cases q : j = k
    · simp [svSet, upd, q, toI]
    · simp [svSet, upd, q]
  rw [e]
  rfl
theorem ent_setc {a k : Nat} {x : Int32} (h : (S.2.2.1 a).1 = 6) : ent P (svSet S a k (.int x)) a = .inl (pcC P, (S.2.2.1 a).2, .inl (upd (fun j => toI (S.2.2.2 a j)) k x)) := by
  have h' : ((svSet S a k (.int x)).2.2.1 a).1 = 6 := h
  rw [ent_c P h']
  have e : (fun j => toI ((svSet S a k (.int x)).2.2.2 a j)) = upd (fun j => toI (S.2.2.2 a j)) k x := by
    funext j
    by_cases q : j = k
    · simp [svSet, upd, q, toI]
    · simp [svSet, upd, q]
  rw [e]
  rfl
theorem ent_setq {a k x : Nat} (h : (S.2.2.1 a).1 = 8) : ent P (svSet S a k (.ref x)) a = .inl (pcH P, (S.2.2.1 a).2, .inr (.inr (.inr (.inr (va_up (fun j => (toR (S.2.2.2 a j)).map (pad P)) k (some (pad P x))))))) := by
  have h' : ((svSet S a k (.ref x)).2.2.1 a).1 = 8 := h
  rw [ent_q P h']
  have e : (fun j => (toR ((svSet S a k (.ref x)).2.2.2 a j)).map (pad P)) = va_up (fun j => (toR (S.2.2.2 a j)).map (pad P)) k (some (pad P x)) := by
    funext j
    by_cases q : j = k
    · simp [svSet, va_up, q, toR]
    · simp [svSet, va_up, q]
  rw [e]
  rfl
theorem sd_iast {q : Prop} (C : Cx p R s m args meth c P y n0 s0 en) (hd : q → decode (mtC y) pc = .ok (.iastore, 1)) : SND p l e R s m args below meth c Q P y n0 s0 pc ls st S (i_ast7 q (pc + 1) ls st S) := by
  unfold i_ast7
  split
  · rename_i x i a r
    refine SND.nx fun hq hn hs => ⟨hn, hs, fun hk H locs als hP hS hl => ?_⟩
    obtain ⟨hq0, ha, hi⟩ := hq
    obtain ⟨hx, hb, hml, hown, hts, hK, hSt, -⟩ := C
    show W p l e R s m args below meth c H locs _ _ Q (F0 m pc als (.int x :: .int i :: .ref (pad P a) :: r.map (tr P)))
    rw [pad_lt P ha.1]
    have he := wl_get P S ha.2.1
    rw [ent_i P ha.2.2] at he
    refine va_iast hx hb hK hP (wl_D P S) hS a 1 he rfl hi (hd hq0) fun H1 locs1 hP1 _ hS1 => ?_
    rw [← ent_seti (P := P) ha.2.2, wl_set P S (svSet S a i.toNatClampNeg (.int x)) rfl (fun b hb _ => ent_set_ne P S _ hb)] at hP1
    exact hk H1 locs1 als hP1 hS1 hl
  · exact SND.no
theorem sd_cast {q : Prop} (C : Cx p R s m args meth c P y n0 s0 en) (hd : q → decode (mtC y) pc = .ok (.castore, 1)) : SND p l e R s m args below meth c Q P y n0 s0 pc ls st S (i_ast6 q (pc + 1) ls st S) := by
  unfold i_ast6
  split
  · rename_i x i a r
    refine SND.nx fun hq hn hs => ⟨hn, hs, fun hk H locs als hP hS hl => ?_⟩
    obtain ⟨hq0, ha, hi⟩ := hq
    obtain ⟨hx, hb, hml, hown, hts, hK, hSt, -⟩ := C
    show W p l e R s m args below meth c H locs _ _ Q (F0 m pc als (.int x :: .int i :: .ref (pad P a) :: r.map (tr P)))
    rw [pad_lt P ha.1]
    have he := wl_get P S ha.2.1
    rw [ent_c P ha.2.2] at he
    refine va_cast hx hb hK hP (wl_D P S) hS a 0 he rfl hi (hd hq0) fun H1 locs1 hP1 _ hS1 => ?_
    rw [← ent_setc (P := P) ha.2.2, wl_set P S (svSet S a i.toNatClampNeg (.int (vp_nar .char x))) rfl (fun b hb _ => ent_set_ne P S _ hb)] at hP1
    exact hk H1 locs1 als hP1 hS1 hl
  · exact SND.no
theorem sd_aast {q : Prop} (C : Cx p R s m args meth c P y n0 s0 en) (hd : q → decode (mtC y) pc = .ok (.aastore, 1)) : SND p l e R s m args below meth c Q P y n0 s0 pc ls st S (i_ast8 q (pc + 1) ls st S) := by
  unfold i_ast8
  split
  · rename_i x i a r
    refine SND.nx fun hq hn hs => ⟨hn, hs, fun hk H locs als hP hS hl => ?_⟩
    obtain ⟨hq0, ha, hi, ho⟩ := hq
    obtain ⟨hx, hb, hml, hown, hts, hK, hSt, -⟩ := C
    show W p l e R s m args below meth c H locs _ _ Q (F0 m pc als (.ref (pad P x) :: .int i :: .ref (pad P a) :: r.map (tr P)))
    rw [pad_lt P ha.1]
    have he := wl_get P S ha.2.1
    rw [ent_q P ha.2.2] at he
    have hv := wl_get P S ho.2.1
    rw [ent_obj P ho, ← pad_lt P ho.1] at hv
    refine va_astq hx hb hK hP (wl_D P S) hS a 2 x 0 he rfl hv rfl hi (hd hq0) fun H1 locs1 hP1 _ hS1 => ?_
    rw [← ent_setq (P := P) ha.2.2, wl_set P S (svSet S a i.toNatClampNeg (.ref x)) rfl (fun b hb _ => ent_set_ne P S _ hb)] at hP1
    exact hk H1 locs1 als hP1 hS1 hl
  · exact SND.no
end CELLS
