/-! calls; the small machine is sound -/
section CALLS
variable {p : Program} {l : Launch} {e : Env} {R : Room} {s : State} {m : MethodId} {args : Array Value} {below : List Frame} {meth : Method} {c : Code} {Q : State → Prop} {P : PR} {y n0 s0 : Nat} {en : En} {pc : Nat} {ls st : List Value} {S : MS}
theorem List.map_toList_opt {α β : Type} (f : α → β) (o : Option α) : o.toList.map f = (o.map f).toList := by cases o <;> rfl
theorem va_callX {mc ms : Nat} {rest : List Value} {st0 : List Value} {als : Array Slot} {r : Option Value} {S1 : MS} {aa : Array Value} {H : Heap} {locs : List Loc} {cells slots : Nat}
    (hr : va_Run p l e R s m args below meth c H locs cells slots mc ms (F0 m pc als st0) rest (QcM P r S1 aa) (AP P)) (hS : va_S (AP P) s.heap H locs)
    (kk : ∀ (H1 : Heap) (locs1 : List Loc), va_P (pD P) vwCl (wl P S1) H1 → va_S (AP P) s.heap H1 locs1 → W p l e R s m args below meth c H1 locs1 (cells + mc) (slots + ms) Q (F0 m (pc + 3) als ((r.map (tr P)).toList ++ rest))) : W p l e R s m args below meth c H locs cells slots Q (F0 m pc als st0) := by
  intro T hT X
  obtain ⟨v, st₀, t, T', L, h0, X', hL, e1, e2, ⟨hv, hp, hz, hk⟩, st⟩ := hr T hT X
  cases hv
  rw [h0] at hz hk
  obtain ⟨t2, a1, b1⟩ := kk T'.heap (locs ++ L) (by rw [e1]; exact hp)
    ⟨Nat.le_trans hS.1 (by rw [e1]; exact hz), fun q h1 h2 => by rw [e1, hk q (Nat.lt_of_lt_of_le h1 hS.1) h2]; exact hS.2.1 q h1 h2, fun q hq => by
      rcases List.mem_append.mp hq with h | h
      · exact hS.2.2 q h
      · exact hL q h⟩ T' rfl X'
  exact ⟨t2, st t2 a1, b1⟩
theorem PcM.blind {sc : Nat × (Nat → Int32)} {av : List Value} : FrameBlind (PcM P sc av S) := fun a U g mk h => by
  obtain ⟨h1, h2, h3, h4, h5⟩ := h
  exact ⟨h1, h2, h3, va_K.moved (u := U) (U := U.calling g mk a) (Vm.Alike.refl U.vm) h4, StOK.same (u := U) h5 rfl rfl⟩
theorem PcM.at {av : List Value} {H : Heap} {locs : List Loc} (C : Cx p R s m args meth c P y n0 s0 en) (hP : va_P (pD P) vwCl (wl P S) H) (hS : va_S (AP P) s.heap H locs) (hz : H.size = pB P + S.1) (U : State) (hU : U.heap = H) (hW : s.WarmedH U.vm) : PcM P en.2 av S ((av.map (tr P)).toArray) U := by
  obtain ⟨hx, hb, hml, hown, hts, hK, hSt, -⟩ := C
  exact ⟨rfl, by rw [hU]; exact hz, by rw [hU]; exact hP, va_K.moved hW.alike hK, hSt.go hS hU hW⟩
theorem cat_map (vs : List Value) : ((vs.map (tr P)).map fun v => v.category).sum = (vs.map Value.category).sum := by
  rw [List.map_map]
  congr 1
  apply List.map_congr_left
  intro v _
  exact tr_cat P v
theorem cat_le : ∀ (vs : List Value), vs.length ≤ 4 → (vs.map Value.category).sum ≤ 8 := by
  have key : ∀ (vs : List Value), (vs.map Value.category).sum ≤ 2 * vs.length := by
    intro vs
    induction vs with
    | nil => simp
    | cons a l ih =>
      have h : a.category ≤ 2 := by cases a <;> simp [Value.category]
      simp only [List.map_cons, List.sum_cons, List.length_cons]
      omega
  intro vs h
  have := key vs
  omega
theorem take_split {A a : Nat} (h : lget st A = .ref a) : st.take (A + 1) = st.take A ++ [.ref a] ∧ st = st.take A ++ .ref a :: st.drop (A + 1) ∧ (st.take A).length = A := by
  have h1 := lget_some h (by intro z; cases z)
  have hlt := (List.getElem?_eq_some_iff.mp h1).1
  have h2 : st[A] = .ref a := (List.getElem?_eq_some_iff.mp h1).2
  refine ⟨?_, ?_, by rw [List.length_take]; omega⟩
  · rw [List.take_succ, h1]
    rfl
  · have h3 := List.drop_eq_getElem_cons hlt
    rw [h2] at h3
    rw [← h3, List.take_append_drop]
/-- the part of a call that all kinds share -/
theorem cal_room {z : Nat} {k ms : Nat} (C : Cx p R s m args meth c P y n0 s0 en) (hz : mtD z < mtD y) (hL : mtL z ≤ 18) : (rmm z k ms).frames + 1 ≤ R.frames ∧ 8 + (mtL z + 11) + (rmm z k ms).locals ≤ R.locals := by
  obtain ⟨hx, hb, hml, hown, hts, hK, hSt, hname, hf, hlo, -⟩ := C
  exact ⟨by show mtD z + 1 ≤ _; omega, by show 8 + (mtL z + 11) + 37 * mtD z ≤ _; omega⟩
theorem sd_inv {ix : Nat} {q : Prop} {sp : Nat → Sp} (C : Cx p R s m args meth c P y n0 s0 en) (hsp : ∀ z, SpecAt en.2 z (sp z)) (hd : q → decode (mtC y) pc = .ok (.invokevirtual ix, 3)) : SND p l e R s m args below meth c Q P y n0 s0 pc ls st S (i_inv y ix sp en q (pc + 3) ls st S) := by
  unfold i_inv
  split
  · rename_i z hml0
    unfold i_cal
    refine SND.nx fun hq hn hs => ?_
    obtain ⟨⟨hq0, hst, hni, hO⟩, hz1, hz2, hdp, hlen, hcat, hpre, hg1, hg2, hg3, hg4⟩ := hq
    refine ⟨Nat.le_trans hn hg1, Nat.le_trans hs hg2, fun hk H locs als hP hS hl => ?_⟩
    obtain ⟨m1, m2, m3, m4, m5, m6, m7, m8⟩ := mok_all z hz1 hz2
    rw [if_neg (by rw [hst]; decide)] at m2
    have m3 := (m3.resolve_left (by rw [hst]; decide)).resolve_left hni
    have hO' : ∃ a, lget st (mtA z) = .ref a ∧ obj S a (mtO z) := by
      unfold isO at hO
      split at hO
      · rename_i a ha
        exact ⟨a, ha, hO⟩
      · exact absurd hO id
    obtain ⟨a, ha, ho⟩ := hO'
    obtain ⟨t1, t2, t3⟩ := take_split ha
    have hsz := wl_low hP hS C.2.2.2.2.2.2.2.2.2.2.1 hn
    refine W.szd fun hsz2 => ?_
    have hz : H.size = pB P + S.1 := by have := C.2.2.2.2.2.2.2.2.2.2.1; omega
    have hav : (st.take (mtA z + 1)).reverse = .ref a :: (st.take (mtA z)).reverse := by rw [t1, List.reverse_append]; rfl
    have hM := hsp z l P _ S hpre
    have hrl := cal_room (k := (sp z (st.take (mtA z + 1)).reverse S).2.2.1 - S.1) (ms := (sp z (st.take (mtA z + 1)).reverse S).2.2.2.1 - S.2.1) C hdp m7
    have he := wl_get P S ho.2.1
    rw [ent_obj P ho] at he
    have hcl := (cok_all (mtO z) ho.2.2.2).1
    have hrecv := va_recv C.2.2.2.2.2.1 hP hcl he
    have hPv : PreV s H (cn (mtO z)) (pB P + a) (PcM P en.2 ((st.take (mtA z + 1)).reverse) S) ((st.take (mtA z)).reverse.map (tr P)) := ⟨PcM.blind, hrecv, fun U hU hW => by
      have h := PcM.at (av := (st.take (mtA z + 1)).reverse) C hP hS hz U hU hW
      rw [hav, List.map_cons, show tr P (.ref a) = .ref (pB P + a) by show Value.ref (pad P a) = _; rw [pad_lt P ho.1]] at h
      rw [hav]
      exact h⟩
    have hstk : st.map (tr P) = ((st.take (mtA z)).reverse.map (tr P)).reverse ++ .ref (pB P + a) :: (st.drop (mtA z + 1)).map (tr P) := by
      conv => lhs; rw [t2]
      rw [List.map_append, List.map_cons, List.map_reverse, List.reverse_reverse, show tr P (.ref a) = .ref (pB P + a) by show Value.ref (pad P a) = _; rw [pad_lt P ho.1]]
    have hfits : (S.1 - n0 + ((sp z (st.take (mtA z + 1)).reverse S).2.2.1 - S.1) ≤ R.cells) ∧ (S.2.1 - s0 + ((sp z (st.take (mtA z + 1)).reverse S).2.2.2.1 - S.2.1) ≤ R.slots) := by
      obtain ⟨hx, hb, hml, hown, hts, hK, hSt, hname, hf, hlo, hzz, hrc, hrs⟩ := C
      omega
    have e1 : S.1 - n0 + ((sp z (st.take (mtA z + 1)).reverse S).2.2.1 - S.1) = (sp z (st.take (mtA z + 1)).reverse S).2.2.1 - n0 := by omega
    have e2 : S.2.1 - s0 + ((sp z (st.take (mtA z + 1)).reverse S).2.2.2.1 - S.2.1) = (sp z (st.take (mtA z + 1)).reverse S).2.2.2.1 - s0 := by omega
    have hkk : ∀ (H1 : Heap) (locs1 : List Loc), va_P (pD P) vwCl (wl P (sp z (st.take (mtA z + 1)).reverse S).2.2) H1 → va_S (AP P) s.heap H1 locs1 → W p l e R s m args below meth c H1 locs1 (S.1 - n0 + ((sp z (st.take (mtA z + 1)).reverse S).2.2.1 - S.1)) (S.2.1 - s0 + ((sp z (st.take (mtA z + 1)).reverse S).2.2.2.1 - S.2.1)) Q (F0 m (pc + 3) als (((sp z (st.take (mtA z + 1)).reverse S).2.1.map (tr P)).toList ++ (st.drop (mtA z + 1)).map (tr P))) := fun H1 locs1 hP1 hS1 => by
      rw [e1, e2]
      have h9 := hk H1 locs1 als hP1 hS1 hl
      rw [List.map_append, List.map_toList_opt] at h9
      exact h9
    rw [hstk]
    have hfix : CallFix p m c (mtC y) (mtL y) s args lwg (cn (mtO y)) := ⟨C.1, C.2.1, C.2.2.1, C.2.2.2.1, C.2.2.2.2.1⟩
    rcases ML_spec hml0 with hlk | hlk
    · exact va_callX (va_runVN hfix hM ⟨va_cnB (mtA z) C.2.2.2.2.1 (wsm_good z hz1 hz2) rfl rfl rfl (C.2.2.2.2.2.2.1.nst hlk.2) (C.2.2.2.2.1 _ (lwg_in m4 rfl)) m6 hrl, C.2.2.2.2.1 _ (lwg_in m2 rfl), C.2.2.2.2.1 _ (lwg_in m3 rfl)⟩ hPv rfl (by simp; omega) hl.2.1 rfl (lv_room (by rw [cat_map]; exact hcat)) (hd hq0) hfits) hS hkk
    · rw [if_neg (by omega), if_neg (by omega)] at hlk
      exact va_callX (va_runV hfix hM ⟨callB_of (mtA z) C.2.2.2.2.1 (wsm_good z hz1 hz2) rfl rfl rfl (C.2.2.2.2.1 _ (lwg_in m4 rfl)) (C.2.2.2.2.1 _ hlk) m6 hrl, C.2.2.2.2.1 _ (lwg_in m2 rfl), C.2.2.2.2.1 _ (lwg_in m3 rfl)⟩ hPv rfl (by simp; omega) hl.2.1 rfl (lv_room (by rw [cat_map]; exact hcat)) (hd hq0) hfits) hS hkk
  · exact SND.no
theorem sd_cals {ix z : Nat} {q : Prop} {sp : Nat → Sp} (C : Cx p R s m args meth c P y n0 s0 en) (hsp : ∀ z, SpecAt en.2 z (sp z)) (hml0 : ML (mtO y) ix = some z) (hd : q → decode (mtC y) pc = .ok (.invokestatic ix, 3) ∧ mtS z = true) : SND p l e R s m args below meth c Q P y n0 s0 pc ls st S (i_cal y z sp en (mtA z) q (pc + 3) ls st S) := by
  unfold i_cal
  refine SND.nx fun hq hn hs => ?_
  obtain ⟨hq0, hz1, hz2, hdp, hlen, hcat, hpre, hg1, hg2, hg3, hg4⟩ := hq
  obtain ⟨hd1, hst⟩ := hd hq0
  refine ⟨Nat.le_trans hn hg1, Nat.le_trans hs hg2, fun hk H locs als hP hS hl => ?_⟩
  obtain ⟨m1, m2, m3, m4, m5, m6, m7, m8⟩ := mok_all z hz1 hz2
  rw [if_pos hst] at m2
  have hsz := wl_low hP hS C.2.2.2.2.2.2.2.2.2.2.1 hn
  refine W.szd fun hsz2 => ?_
  have hz : H.size = pB P + S.1 := by have := C.2.2.2.2.2.2.2.2.2.2.1; omega
  have hM := hsp z l P _ S hpre
  have hrl := cal_room (k := (sp z (st.take (mtA z)).reverse S).2.2.1 - S.1) (ms := (sp z (st.take (mtA z)).reverse S).2.2.2.1 - S.2.1) C hdp m7
  have hPv : PreS s H (PcM P en.2 ((st.take (mtA z)).reverse) S) ((st.take (mtA z)).reverse.map (tr P)) := ⟨PcM.blind, fun U hU hW => PcM.at (av := (st.take (mtA z)).reverse) C hP hS hz U hU hW⟩
  have hstk : st.map (tr P) = ((st.take (mtA z)).reverse.map (tr P)).reverse ++ (st.drop (mtA z)).map (tr P) := by
    rw [List.map_reverse, List.reverse_reverse, ← List.map_append, List.take_append_drop]
  have hfits : (S.1 - n0 + ((sp z (st.take (mtA z)).reverse S).2.2.1 - S.1) ≤ R.cells) ∧ (S.2.1 - s0 + ((sp z (st.take (mtA z)).reverse S).2.2.2.1 - S.2.1) ≤ R.slots) := by
    obtain ⟨hx, hb, hml, hown, hts, hK, hSt, hname, hf, hlo, hzz, hrc, hrs⟩ := C
    omega
  have e1 : S.1 - n0 + ((sp z (st.take (mtA z)).reverse S).2.2.1 - S.1) = (sp z (st.take (mtA z)).reverse S).2.2.1 - n0 := by omega
  have e2 : S.2.1 - s0 + ((sp z (st.take (mtA z)).reverse S).2.2.2.1 - S.2.1) = (sp z (st.take (mtA z)).reverse S).2.2.2.1 - s0 := by omega
  have hkk : ∀ (H1 : Heap) (locs1 : List Loc), va_P (pD P) vwCl (wl P (sp z (st.take (mtA z)).reverse S).2.2) H1 → va_S (AP P) s.heap H1 locs1 → W p l e R s m args below meth c H1 locs1 (S.1 - n0 + ((sp z (st.take (mtA z)).reverse S).2.2.1 - S.1)) (S.2.1 - s0 + ((sp z (st.take (mtA z)).reverse S).2.2.2.1 - S.2.1)) Q (F0 m (pc + 3) als (((sp z (st.take (mtA z)).reverse S).2.1.map (tr P)).toList ++ (st.drop (mtA z)).map (tr P))) := fun H1 locs1 hP1 hS1 => by
    rw [e1, e2]
    have h9 := hk H1 locs1 als hP1 hS1 hl
    rw [List.map_append, List.map_toList_opt] at h9
    exact h9
  rw [hstk]
  have hfix : CallFix p m c (mtC y) (mtL y) s args lwg (cn (mtO y)) := ⟨C.1, C.2.1, C.2.2.1, C.2.2.2.1, C.2.2.2.2.1⟩
  rcases ML_spec hml0 with hlk | hlk
  · exact va_callX (va_runSN hfix hM ⟨va_cnB (mtA z) C.2.2.2.2.1 (wsm_good z hz1 hz2) rfl rfl rfl (C.2.2.2.2.2.2.1.nst hlk.2) (C.2.2.2.2.1 _ (lwg_in m4 rfl)) m6 hrl, C.2.2.2.2.1 _ (lwg_in m2 rfl), trivial⟩ hPv rfl (by simp; omega) hl.2.1 rfl (lv_room (by rw [cat_map]; exact hcat)) hd1 hfits) hS hkk
  · rw [if_neg (by omega), if_neg (by omega)] at hlk
    exact va_callX (va_runS hfix hM ⟨callB_of (mtA z) C.2.2.2.2.1 (wsm_good z hz1 hz2) rfl rfl rfl (C.2.2.2.2.1 _ (lwg_in m4 rfl)) (C.2.2.2.2.1 _ hlk) m6 hrl, C.2.2.2.2.1 _ (lwg_in m2 rfl)⟩ hPv rfl (by simp; omega) hl.2.1 rfl (lv_room (by rw [cat_map]; exact hcat)) hd1 hfits) hS hkk
theorem sd_calp {ix z : Nat} {q : Prop} {sp : Nat → Sp} (C : Cx p R s m args meth c P y n0 s0 en) (hsp : ∀ z, SpecAt en.2 z (sp z)) (hml0 : ML (mtO y) ix = some z) (hd : q → decode (mtC y) pc = .ok (.invokespecial ix, 3)) : SND p l e R s m args below meth c Q P y n0 s0 pc ls st S (i_cal y z sp en (mtA z + 1) (q ∧ mtS z = false ∧ (mtN z).name = "<init>" ∧ mtR z = none ∧ isO S (mtO z) (lget st (mtA z))) (pc + 3) ls st S) := by
  unfold i_cal
  refine SND.nx fun hq hn hs => ?_
  obtain ⟨⟨hq0, hst, hni, hrt, hO⟩, hz1, hz2, hdp, hlen, hcat, hpre, hg1, hg2, hg3, hg4⟩ := hq
  refine ⟨Nat.le_trans hn hg1, Nat.le_trans hs hg2, fun hk H locs als hP hS hl => ?_⟩
  obtain ⟨m1, m2, m3, m4, m5, m6, m7, m8⟩ := mok_all z hz1 hz2
  rw [if_neg (by rw [hst]; decide)] at m2
  have hO' : ∃ a, lget st (mtA z) = .ref a ∧ obj S a (mtO z) := by
    unfold isO at hO
    split at hO
    · rename_i a ha
      exact ⟨a, ha, hO⟩
    · exact absurd hO id
  obtain ⟨a, ha, ho⟩ := hO'
  obtain ⟨t1, t2, t3⟩ := take_split ha
  have hsz := wl_low hP hS C.2.2.2.2.2.2.2.2.2.2.1 hn
  refine W.szd fun hsz2 => ?_
  have hz : H.size = pB P + S.1 := by have := C.2.2.2.2.2.2.2.2.2.2.1; omega
  have hav : (st.take (mtA z + 1)).reverse = .ref a :: (st.take (mtA z)).reverse := by rw [t1, List.reverse_append]; rfl
  have hM := hsp z l P _ S hpre
  have hrl := cal_room (k := (sp z (st.take (mtA z + 1)).reverse S).2.2.1 - S.1) (ms := (sp z (st.take (mtA z + 1)).reverse S).2.2.2.1 - S.2.1) C hdp m7
  have hPv : PreS s H (PcM P en.2 ((st.take (mtA z + 1)).reverse) S) (.ref (pB P + a) :: (st.take (mtA z)).reverse.map (tr P)) := ⟨PcM.blind, fun U hU hW => by
    have h := PcM.at (av := (st.take (mtA z + 1)).reverse) C hP hS hz U hU hW
    rw [hav, List.map_cons, show tr P (.ref a) = .ref (pB P + a) by show Value.ref (pad P a) = _; rw [pad_lt P ho.1]] at h
    rw [hav]
    exact h⟩
  have hstk : st.map (tr P) = ((st.take (mtA z)).reverse.map (tr P)).reverse ++ .ref (pB P + a) :: (st.drop (mtA z + 1)).map (tr P) := by
    conv => lhs; rw [t2]
    rw [List.map_append, List.map_cons, List.map_reverse, List.reverse_reverse, show tr P (.ref a) = .ref (pB P + a) by show Value.ref (pad P a) = _; rw [pad_lt P ho.1]]
  have hfits : (S.1 - n0 + ((sp z (st.take (mtA z + 1)).reverse S).2.2.1 - S.1) ≤ R.cells) ∧ (S.2.1 - s0 + ((sp z (st.take (mtA z + 1)).reverse S).2.2.2.1 - S.2.1) ≤ R.slots) := by
    obtain ⟨hx, hb, hml, hown, hts, hK, hSt, hname, hf, hlo, hzz, hrc, hrs⟩ := C
    omega
  have e1 : S.1 - n0 + ((sp z (st.take (mtA z + 1)).reverse S).2.2.1 - S.1) = (sp z (st.take (mtA z + 1)).reverse S).2.2.1 - n0 := by omega
  have e2 : S.2.1 - s0 + ((sp z (st.take (mtA z + 1)).reverse S).2.2.2.1 - S.2.1) = (sp z (st.take (mtA z + 1)).reverse S).2.2.2.1 - s0 := by omega
  have hkk : ∀ (H1 : Heap) (locs1 : List Loc), va_P (pD P) vwCl (wl P (sp z (st.take (mtA z + 1)).reverse S).2.2) H1 → va_S (AP P) s.heap H1 locs1 → W p l e R s m args below meth c H1 locs1 (S.1 - n0 + ((sp z (st.take (mtA z + 1)).reverse S).2.2.1 - S.1)) (S.2.1 - s0 + ((sp z (st.take (mtA z + 1)).reverse S).2.2.2.1 - S.2.1)) Q (F0 m (pc + 3) als (((sp z (st.take (mtA z + 1)).reverse S).2.1.map (tr P)).toList ++ (st.drop (mtA z + 1)).map (tr P))) := fun H1 locs1 hP1 hS1 => by
    rw [e1, e2]
    have h9 := hk H1 locs1 als hP1 hS1 hl
    rw [List.map_append, List.map_toList_opt] at h9
    exact h9
  rw [hstk]
  have hfix : CallFix p m c (mtC y) (mtL y) s args lwg (cn (mtO y)) := ⟨C.1, C.2.1, C.2.2.1, C.2.2.2.1, C.2.2.2.2.1⟩
  have hwr : wsm z = Jvm.Cond.code (mtN z) (mtC z) (mtL z) none :: lwg := by unfold wsm; rw [hrt]
  rcases ML_spec hml0 with hlk | hlk
  · exact va_callX (va_runIN hfix hM ⟨va_cnB (mtA z) C.2.2.2.2.1 (wsm_good z hz1 hz2) hwr rfl rfl (C.2.2.2.2.2.2.1.nst hlk.2) (C.2.2.2.2.1 _ (lwg_in m4 rfl)) m6 hrl, hni, C.2.2.2.2.1 _ (lwg_in m2 rfl)⟩ hPv rfl (by simp; omega) hl.2.1 rfl (lv_room (by rw [cat_map]; exact hcat)) (hd hq0) hfits) hS hkk
  · rw [if_neg (by omega), if_neg (by omega)] at hlk
    exact va_callX (va_runI hfix hM ⟨callB_of (mtA z) C.2.2.2.2.1 (wsm_good z hz1 hz2) hwr rfl rfl (C.2.2.2.2.1 _ (lwg_in m4 rfl)) (C.2.2.2.2.1 _ hlk) m6 hrl, hni, C.2.2.2.2.1 _ (lwg_in m2 rfl)⟩ hPv rfl (by simp; omega) hl.2.1 rfl (lv_room (by rw [cat_map]; exact hcat)) (hd hq0) hfits) hS hkk
end CALLS
