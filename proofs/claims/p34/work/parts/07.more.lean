/-! new cells, the copy of rows, calls; the small machine is sound -/
section MORE
variable {p : Program} {l : Launch} {e : Env} {R : Room} {s : State} {m : MethodId} {args : Array Value} {below : List Frame} {meth : Method} {c : Code} {Q : State → Prop} {P : PR} {y n0 s0 : Nat} {en : En} {pc : Nat} {ls st : List Value} {S : MS}
theorem W.szd {H : Heap} {locs : List Loc} {cells slots : Nat} {g : JFrame} (k : H.size ≤ s.heap.size + cells → W p l e R s m args below meth c H locs cells slots Q g) : W p l e R s m args below meth c H locs cells slots Q g := fun T hT X => k (by have := X.heapSize; rw [hT] at this; exact this) T hT X
theorem wl_low {H : Heap} {locs : List Loc} (hP : va_P (pD P) vwCl (wl P S) H) (hS : va_S (AP P) s.heap H locs) (hz : s.heap.size = pB P + n0) (hn : n0 ≤ S.1) : pB P + S.1 ≤ H.size := by
  rcases Nat.lt_or_ge n0 S.1 with h | h
  · have h1 := (hP _ _ (wl_get P S (show S.1 - 1 < S.1 by omega))).lt
    simp only at h1
    omega
  · have := hS.1
    omega
theorem newq {q : Nat} {en1 : va_E} {H1 : Heap} (hP : va_P (pD P) vwCl (wl P S ++ [(q, en1)]) H1) (hD : va_D (AP P) (wl P S ++ [(q, en1)])) (hz : H1.size ≤ pB P + S.1 + 1) : q = pB P + S.1 := by
  have hlen : (wl P S).length = S.1 := by unfold wl; simp
  have hq : (wl P S ++ [(q, en1)])[S.1]? = some (q, en1) := by
    rw [List.getElem?_append_right (by omega), hlen, Nat.sub_self]
    rfl
  have h1 : q < H1.size := (hP _ _ hq).lt
  have h2 : pB P ≤ q := hD.2 _ _ hq
  rcases Nat.lt_or_ge q (pB P + S.1) with h | h
  · exfalso
    have h3 : (wl P S ++ [(q, en1)])[q - pB P]? = some (pB P + (q - pB P), ent P S (q - pB P)) := by
      rw [List.getElem?_append_left (by omega)]
      exact wl_get P S (by omega)
    have h4 := hD.1 _ _ _ _ hq h3 (by simp only; omega)
    omega
  · omega
theorem tr_def (ty : FieldType) : tr P (defaultValue ty) = defaultValue ty := by cases ty <;> rfl
theorem sd_new {ix : Nat} {q : Prop} (C : Cx p R s m args meth c P y n0 s0 en) (hd : q → decode (mtC y) pc = .ok (.new ix, 3)) : SND p l e R s m args below meth c Q P y n0 s0 pc ls st S (i_new y ix en q (pc + 3) ls st S) := by
  unfold i_new
  split
  · rename_i c1 hnl
    refine SND.nx fun hq hn hs => ⟨Nat.le_succ_of_le hn, Nat.le_trans hs (Nat.le_add_right _ _), fun hk H locs als hP hS hl => ?_⟩
    obtain ⟨hq0, h1000, hc6, hr1, hr2⟩ := hq
    obtain ⟨hx, hb, hml, hown, hts, hK, hSt, hname, hf, hlo, hz, hrc, hrs⟩ := C
    obtain ⟨hcl, hty, hnm, hcn⟩ := cok_all c1 hc6
    obtain ⟨w1, w2, w3⟩ := NL_spec hnl
    have hfs : ∀ j, j < nf c1 → defaultValue (fty c1 j) = vp_V ((List.range (nf c1)).map fun k => tr P (defaultValue (fty c1 k))) j := fun j hj => by
      unfold vp_V
      rw [List.getD_eq_getElem?_getD]
      simp [hj, tr_def]
    refine va_new (ci := c1) hx hb hts (cws_all c1 hc6) (fty c1) hty hown (hts _ w1) (hts _ w2) (hts _ w3) hK hP (wl_D P S) hS (fun q hq => by show pB P ≤ q; omega) hcl hfs (by omega) (by omega) (hd hq0) fun q H1 hP1 hD1 hS1 => ?_
    refine W.szd fun hsz => ?_
    have hqe := newq hP1 hD1 (by omega)
    subst hqe
    have ho : obj (svNew S c1 0 (nf c1) (fun k => defaultValue (fty c1 k))) S.1 c1 := ⟨h1000, Nat.lt_succ_self _, by simp [svNew], hc6⟩
    have he : ent P (svNew S c1 0 (nf c1) (fun k => defaultValue (fty c1 k))) S.1 = .inr (c1, (List.range (nf c1)).map fun k => tr P (defaultValue (fty c1 k))) := by
      rw [ent_obj P ho]
      simp [svNew]
    rw [← he, wl_push P S (svNew S c1 0 (nf c1) (fun k => defaultValue (fty c1 k))) rfl (fun b hb => ent_new_ne P S hb)] at hP1
    have h9 := hk H1 locs als hP1 hS1 hl
    rw [List.map_cons, show tr P (.ref S.1) = .ref (pB P + S.1) by show Value.ref (pad P S.1) = _; rw [pad_lt P h1000]] at h9
    have e1 : S.1 - n0 + 1 = (svNew S c1 0 (nf c1) (fun k => defaultValue (fty c1 k))).1 - n0 := by show _ = S.1 + 1 - n0; omega
    have e2 : S.2.1 - s0 + nf c1 = (svNew S c1 0 (nf c1) (fun k => defaultValue (fty c1 k))).2.1 - s0 := by show _ = S.2.1 + nf c1 - s0; omega
    rw [e1, e2]
    exact h9
  · exact SND.no
theorem cls_i {cA : ClassId} (hK : va_K (pD P) vwCl (ptys P) s) (hK1 : va_K (pD P) vwCl (ptys P ++ [(cA, .int)]) s) : cA = pcI P := by
  have h1 : s.vm.findClass ("[" ++ FieldType.int.toString) = some (pcI P) := (hK.2 1 _ rfl).2
  have h2 : s.vm.findClass ("[" ++ FieldType.int.toString) = some cA := (hK1.2 3 _ rfl).2
  exact Option.some.inj (h2.symm.trans h1)
theorem cls_c {cA : ClassId} (hK : va_K (pD P) vwCl (ptys P) s) (hK1 : va_K (pD P) vwCl (ptys P ++ [(cA, .char)]) s) : cA = pcC P := by
  have h1 : s.vm.findClass ("[" ++ FieldType.char.toString) = some (pcC P) := (hK.2 0 _ rfl).2
  have h2 : s.vm.findClass ("[" ++ FieldType.char.toString) = some cA := (hK1.2 3 _ rfl).2
  exact Option.some.inj (h2.symm.trans h1)
theorem cls_h {cA : ClassId} (hK : va_K (pD P) vwCl (ptys P) s) (hK1 : va_K (pD P) vwCl (ptys P ++ [(cA, .object "KiteHire$Hut")]) s) : cA = pcH P := by
  obtain ⟨kA, comp, -, -, -, h1⟩ := (hK.2 2 _ rfl).2
  obtain ⟨kB, comp2, -, -, -, h2⟩ := (hK1.2 3 _ rfl).2
  exact Option.some.inj (h2.symm.trans h1)
theorem sd_nar {t : ArrayType} {q : Prop} (C : Cx p R s m args meth c P y n0 s0 en) (hd : q → decode (mtC y) pc = .ok (.newarray t, 2)) : SND p l e R s m args below meth c Q P y n0 s0 pc ls st S (i_nar t en q (pc + 2) ls st S) := by
  unfold i_nar
  split
  · rename_i n r
    refine SND.nx fun hq hn hs => ⟨Nat.le_succ_of_le hn, Nat.le_trans hs (Nat.le_add_right _ _), fun hk H locs als hP hS hl => ?_⟩
    obtain ⟨hq0, h1000, ht, hneg, hbig, hr1, hr2⟩ := hq
    obtain ⟨hx, hb, hml, hown, hts, hK, hSt, hname, hf, hlo, hz, hrc, hrs⟩ := C
    show W p l e R s m args below meth c H locs _ _ Q (F0 m pc als (.int n :: r.map (tr P)))
    have e1 : S.1 - n0 + 1 = S.1 + 1 - n0 := by omega
    have e2 : S.2.1 - s0 + n.toNatClampNeg = S.2.1 + n.toNatClampNeg - s0 := by omega
    rcases ht with rfl | rfl
    · refine va_newa (a0 := (n.toNatClampNeg, .inl (fun _ => 0))) (atype := .int) (ty := .int) hx hb (hts _ arc_ok.1) rfl hK hP (wl_D P S) hS (fun q hq => by show pB P ≤ q; omega) (fun _ => rfl) hneg rfl (by show n.toNatClampNeg * 4 ≤ _; omega) (by omega) (by omega) (hd hq0) fun q cA H1 hK1 hP1 hD1 hS1 => ?_
      refine W.szd fun hsz => ?_
      have hqe := newq hP1 hD1 (by omega)
      subst hqe
      have hce := cls_i hK hK1
      subst hce
      have he : ent P (svNew S 7 n.toNatClampNeg n.toNatClampNeg (fun _ => .int 0)) S.1 = .inl (pcI P, n.toNatClampNeg, .inl (fun _ => 0)) := by
        rw [ent_i P (by simp [svNew])]
        simp [svNew, toI]
      rw [← he, wl_push P S (svNew S 7 n.toNatClampNeg n.toNatClampNeg (fun _ => .int 0)) rfl (fun b hb => ent_new_ne P S hb)] at hP1
      have h9 := hk H1 locs als hP1 hS1 hl
      rw [List.map_cons, show tr P (.ref S.1) = .ref (pB P + S.1) by show Value.ref (pad P S.1) = _; rw [pad_lt P h1000]] at h9
      rw [e1, e2]
      exact h9
    · refine va_newa (a0 := (n.toNatClampNeg, .inl (fun _ => 0))) (atype := .char) (ty := .char) hx hb (hts _ arc_ok.2) rfl hK hP (wl_D P S) hS (fun q hq => by show pB P ≤ q; omega) (fun _ => rfl) hneg rfl (by show n.toNatClampNeg * 2 ≤ _; omega) (by omega) (by omega) (hd hq0) fun q cA H1 hK1 hP1 hD1 hS1 => ?_
      refine W.szd fun hsz => ?_
      have hqe := newq hP1 hD1 (by omega)
      subst hqe
      have hce := cls_c hK hK1
      subst hce
      have he : ent P (svNew S 6 n.toNatClampNeg n.toNatClampNeg (fun _ => .int 0)) S.1 = .inl (pcC P, n.toNatClampNeg, .inl (fun _ => 0)) := by
        rw [ent_c P (by simp [svNew])]
        simp [svNew, toI]
      rw [← he, wl_push P S (svNew S 6 n.toNatClampNeg n.toNatClampNeg (fun _ => .int 0)) rfl (fun b hb => ent_new_ne P S hb)] at hP1
      have h9 := hk H1 locs als hP1 hS1 hl
      rw [List.map_cons, show tr P (.ref S.1) = .ref (pB P + S.1) by show Value.ref (pad P S.1) = _; rw [pad_lt P h1000]] at h9
      rw [e1, e2]
      exact h9
  · exact SND.no
theorem sd_naq {ix : Nat} {q : Prop} (C : Cx p R s m args meth c P y n0 s0 en) (hd : q → decode (mtC y) pc = .ok (.anewarray ix, 3)) : SND p l e R s m args below meth c Q P y n0 s0 pc ls st S (i_naq y ix en q (pc + 3) ls st S) := by
  unfold i_naq
  split
  · rename_i n r
    refine SND.nx fun hq hn hs => ⟨Nat.le_succ_of_le hn, Nat.le_trans hs (Nat.le_add_right _ _), fun hk H locs als hP hS hl => ?_⟩
    obtain ⟨hq0, hnl, h1000, hneg, hbig, hr1, hr2⟩ := hq
    obtain ⟨hx, hb, hml, hown, hts, hK, hSt, hname, hf, hlo, hz, hrc, hrs⟩ := C
    show W p l e R s m args below meth c H locs _ _ Q (F0 m pc als (.int n :: r.map (tr P)))
    have e1 : S.1 - n0 + 1 = S.1 + 1 - n0 := by omega
    have e2 : S.2.1 - s0 + n.toNatClampNeg = S.2.1 + n.toNatClampNeg - s0 := by omega
    refine va_newq (C := "KiteHire$Hut") hx hb hown (hts _ (NL_spec hnl).1) hSt.2.2.2.2.1 hK hP (wl_D P S) hS (fun q hq => by show pB P ≤ q; omega) hneg rfl (by omega) (by omega) (by omega) (hd hq0) fun q cA H1 hK1 hP1 hD1 hS1 => ?_
    refine W.szd fun hsz => ?_
    have hqe := newq hP1 hD1 (by omega)
    subst hqe
    have hce := cls_h hK hK1
    subst hce
    have he : ent P (svNew S 8 n.toNatClampNeg n.toNatClampNeg (fun _ => .null)) S.1 = .inl (pcH P, n.toNatClampNeg, .inr (.inr (.inr (.inr (fun _ => none))))) := by
      rw [ent_q P (by simp [svNew])]
      simp [svNew, toR]
    rw [← he, wl_push P S (svNew S 8 n.toNatClampNeg n.toNatClampNeg (fun _ => .null)) rfl (fun b hb => ent_new_ne P S hb)] at hP1
    have h9 := hk H1 locs als hP1 hS1 hl
    rw [List.map_cons, show tr P (.ref S.1) = .ref (pB P + S.1) by show Value.ref (pad P S.1) = _; rw [pad_lt P h1000]] at h9
    rw [e1, e2]
    exact h9
  · exact SND.no
theorem ent_cpy {a sp b dp n : Nat} (h : (S.2.2.1 b).1 = 7) : ent P (svCpy S a sp b dp n) b = .inl (pcI P, (S.2.2.1 b).2, .inl (va_cpy (fun j => toI (S.2.2.2 a j)) (fun j => toI (S.2.2.2 b j)) sp dp n)) := by
  have h' : ((svCpy S a sp b dp n).2.2.1 b).1 = 7 := h
  rw [ent_i P h']
  have e : (fun j => toI ((svCpy S a sp b dp n).2.2.2 b j)) = va_cpy (fun j => toI (S.2.2.2 a j)) (fun j => toI (S.2.2.2 b j)) sp dp n := by
    funext j
    by_cases q : dp ≤ j ∧ j < dp + n
    · simp [svCpy, va_cpy, q]
    · simp [svCpy, va_cpy, q]
  rw [e]
  rfl
theorem sd_cpy {ix : Nat} {q : Prop} (C : Cx p R s m args meth c P y n0 s0 en) (hm : ML (mtO y) ix = some 900) (hd : q → decode (mtC y) pc = .ok (.invokestatic ix, 3) ∧ 0 < mtD y) : SND p l e R s m args below meth c Q P y n0 s0 pc ls st S (i_cpy q (pc + 3) ls st S) := by
  unfold i_cpy
  split
  · rename_i n dp b sp a r
    refine SND.nx fun hq hn hs => ⟨hn, hs, fun hk H locs als hP hS hl => ?_⟩
    obtain ⟨hq0, hr, ha, hb', g1, g2, g3, g4, g5⟩ := hq
    obtain ⟨hd1, hd2⟩ := hd hq0
    subst hr
    obtain ⟨hx, hb, hml, hown, hts, hK, hSt, hname, hf, hlo, hz, hrc, hrs⟩ := C
    show W p l e R s m args below meth c H locs _ _ Q (F0 m pc als [.int n, .int dp, .ref (pad P b), .int sp, .ref (pad P a)])
    rw [pad_lt P ha.1, pad_lt P hb'.1]
    have hea := wl_get P S ha.2.1
    rw [ent_i P ha.2.2] at hea
    have heb := wl_get P S hb'.2.1
    rw [ent_i P hb'.2.2] at heb
    have hlk : Jvm.Cond.methodLink (cn (mtO y)) ix arraycopyName ∈ lwg := by
      rcases ML_spec hm with h | h
      · exact absurd h.1 (by decide)
      · exact h
    refine va_copyi hx hb (by rw [hml, hl.2.1]) hown (hts _ hlk) (hts _ acp_ok.1) (hts _ acp_ok.2.1) (hts _ acp_ok.2.2) hK hP (wl_D P S) hS a b 1 1 hea heb rfl rfl rfl g1 g2 g3 g4 g5 (fun _ _ => rfl) (by omega) (by show 0 + (7 + 11) ≤ R.locals; omega) hd1 fun H1 locs1 hP1 _ hS1 => ?_
    rw [← ent_cpy (P := P) hb'.2.2, wl_set P S (svCpy S a sp.toNatClampNeg b dp.toNatClampNeg n.toNatClampNeg) rfl (fun z hz _ => ent_cpy_ne P S hz)] at hP1
    exact hk H1 locs1 als hP1 hS1 hl
  · exact SND.no
end MORE
