/-! THE LAW: its walk over the machine -/
def stm (t : Nat) : Term := .static "KiteHire" (snm t) "[I"
theorem st_int {args : Array Value} {s : State} {a : Term} {n : Int32} (h : (Cond.eq a (.int n)).before args s = true) : a.eval args s none [] s = some (.int n) := Cond.eq_int h rfl
theorem st_of {args : Array Value} {s : State} {t : Nat} {A : Nat → Prop} (hA : ∀ a : Nat, a < s.heap.size → ¬ A a) (h1 : (Cond.arrayOf (stm t) .int).before args s = true) (h2 : (Cond.eq (.length (stm t)) (.int 5)).before args s = true) (h3 : ∀ j, j < 5 → (Cond.eq (.elem (stm t) (.int (Int32.ofNat j))) (.int ((stv t).getD j 0))).before args s = true)
    (hl : (Cond.laysStatic "KiteHire" (snm t) "[I").before args s = true) (hi : (Cond.initialized "KiteHire").before args s = true) : ∃ r : Nat, va_Z "KiteHire" (snm t) "[I" (.ref r) A s s.heap ∧ va_T .int r 5 (fun j => .int ((stv t).getD j 0)) A s s.heap := by
  obtain ⟨r, g1, g2⟩ := va_Tof (N := 5) (f := fun j => .int ((stv t).getD j 0)) (A := A) (by decide) h1 (st_int h2) (fun j hj => st_int (h3 j hj)) hA
  exact ⟨r, va_Zof hl hi g1 hA, g2⟩
theorem stw : ∀ t, t < 3 → Cond.arrayOf (stm t) .int ∈ flatC (Jvm.Cond.and given_1 narrow_1) ∧ Cond.eq (.length (stm t)) (.int 5) ∈ flatC (Jvm.Cond.and given_1 narrow_1) ∧ ∀ j, j < 5 → Cond.eq (.elem (stm t) (.int (Int32.ofNat j))) (.int ((stv t).getD j 0)) ∈ flatC (Jvm.Cond.and given_1 narrow_1) := by decide +kernel
theorem stl : ∀ t, t < 3 → Jvm.Cond.laysStatic "KiteHire" (snm t) "[I" ∈ lw_tbl := by decide +kernel
theorem nst_tb2 {w : Jvm.Cond} (h : w ∈ lwn) : w.onTables = true := by
  have h1 := (List.mem_filter.mp h).2
  unfold nstWord at h1
  split at h1
  · rfl
  · rfl
  · cases h1
/-- the law's walk -/
theorem law_W {p : Program} {e : Env} {s : State} {m : MethodId} {below : List Frame} {meth : Method} {c : Code} (l : Launch) {b L : Nat} {xs : Nat → Int32} (hL : L ≤ 260) {Q : State → Prop}
    (hx : p.tables.exec = Jvm.exec) (hb : c.code = code) (hml : c.maxLocals = 10) (hown : s.vm.findClass "KiteHireLaw" = some m.cls) (hts : ∀ w ∈ lw_tbl, w.before #[Value.ref b] s = true) (hX : va_X b L xs s s.heap) (hbl : b < s.heap.size) (hgv : (Jvm.Cond.and given_1 narrow_1).before #[Value.ref b] s = true) (hname : meth.name = "law")
    (hend : ∀ (pc : Nat) (H : Heap) (locs : List Loc) (als : Array Slot), decode code pc = .ok (.ireturn, 1) → (∀ q ∈ locs, s.heap.size ≤ q.base) → W p l e room_1 s m #[Value.ref b] below meth c H locs 127 SLT Q (F0 m pc als [.int 1])) :
    W p l e room_1 s m #[Value.ref b] below meth c s.heap [] 0 0 Q (entryFrame m ([Value.ref b] : List Value).toArray 10) := by
  obtain ⟨dC, dI, hK0⟩ := u_kn hts
  obtain ⟨cC, kC⟩ := kn_c (hts _ (List.mem_filter.mp arc_ok.2).1) (by intro C q; cases q)
  obtain ⟨cI, kI⟩ := kn_c (hts _ (List.mem_filter.mp arc_ok.1).1) (by intro C q; cases q)
  obtain ⟨cH, kH⟩ := kn_o (hts _ aov)
  have hfl := flat_of_before _ hgv
  have hA : ∀ a : Nat, a < s.heap.size → ¬ (fun q : Nat => s.heap.size ≤ q) a := fun a h q => by have : s.heap.size ≤ a := q; omega
  have hst : ∀ t, t < 3 → ∃ r : Nat, va_Z "KiteHire" (snm t) "[I" (.ref r) (fun q => s.heap.size ≤ q) s s.heap ∧ va_T .int r 5 (fun j => .int ((stv t).getD j 0)) (fun q => s.heap.size ≤ q) s s.heap := by
    intro t ht
    obtain ⟨g1, g2, g3⟩ := stw t ht
    exact st_of hA (hfl _ g1) (hfl _ g2) (fun j hj => hfl _ (g3 j hj)) (hts _ (stl t ht)) (hts _ ini)
  obtain ⟨r0, hr0⟩ := hst 0 (by decide)
  obtain ⟨r1, hr1⟩ := hst 1 (by decide)
  obtain ⟨r2, hr2⟩ := hst 2 (by decide)
  let P : PR := (((dC, dI), (cC, cI, cH)), (s.heap.size, (fun t => match t with | 0 => r0 | 1 => r1 | _ => r2), b))
  have hK : va_K (pD P) vwCl (ptys P) s := by
    refine ⟨hK0, fun k q hk => ?_⟩
    match k, hk with
    | 0, hk => cases hk; exact kC
    | 1, hk => cases hk; exact kI
    | 2, hk => cases hk; exact kH
    | k + 3, hk => simp [ptys] at hk
  have hSt : StOK P (L, xs) s := by
    refine ⟨fun t ht => ?_, hX, hbl, hA b hbl, hts _ aov, fun w hw => va_Nw.of (nst_tb2 hw) (hts _ (List.mem_filter.mp hw).1)⟩
    match t, ht with
    | 0, _ => exact hr0
    | 1, _ => exact hr1
    | 2, _ => exact hr2
    | t + 3, h => omega
  have C : Cx p room_1 s m #[Value.ref b] meth c P 100 0 0 ((127, SLT), (L, xs)) := ⟨hx, hb, hml, hown, fun w hw => hts _ (List.mem_filter.mp hw).1, hK, hSt, hname, law_d.1, law_d.2.1, rfl, law_d.2.2.1, law_d.2.2.2⟩
  obtain ⟨n, hrun⟩ := lw_vf (sc := (L, xs)) hL (Q := fun r S => r = some (.int 1) ∧ S.1 = 127 ∧ S.2.1 = SLT) (fun σ => ⟨rfl, rfl, rfl⟩)
  have hv := run_sound (Q := Q) (l := l) (e := e) (below := below) C (sp_law_ok (L, xs)) (fun r S' hr => by
    obtain ⟨rfl, h1, h2⟩ := hr
    intro pc i H locs als hd hRI hP1 hS1
    rw [h1, h2]
    obtain ⟨rfl, -⟩ : i = .ireturn ∧ _ := hRI
    exact hend pc H locs als hd hS1.2.2) n 0 _ [] S00 (Nat.le_refl _) (Nat.le_refl _) hrun
  have hl := lvr_entry P (av := [.ref 2000]) (n := 10) (fun w hw => by rw [List.mem_singleton.mp hw]; rfl) (by decide)
  have hP : va_P (pD P) vwCl (wl P S00) s.heap := fun k q h => by simp [wl, S00] at h
  have h9 := hv s.heap [] _ hP va_S.rf hl
  rw [lg_entry_eq]
  exact h9

