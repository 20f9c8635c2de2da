/-! each instruction of the small machine, by the kit's row for it -/
def Cx (p : Program) (R : Room) (s : State) (m : MethodId) (args : Array Value) (meth : Method) (c : Code) (P : PR) (y n0 s0 : Nat) (en : En) : Prop :=
  p.tables.exec = Jvm.exec ∧ c.code = mtC y ∧ c.maxLocals = mtL y ∧ s.vm.findClass (cn (mtO y)) = some m.cls ∧ (∀ w ∈ lwg, w.before args s = true) ∧ va_K (pD P) vwCl (ptys P) s ∧ StOK P en.2 s ∧ meth.name = (mtN y).name ∧ mtD y ≤ R.frames ∧ 37 * mtD y ≤ R.locals ∧ s.heap.size = pB P + n0 ∧ en.1.1 ≤ n0 + R.cells ∧ en.1.2 ≤ s0 + R.slots
/-- the machine comes to Q from where the small machine stands -/
def Vw (p : Program) (l : Launch) (e : Env) (R : Room) (s : State) (m : MethodId) (args : Array Value) (below : List Frame) (meth : Method) (c : Code) (Q : State → Prop) (P : PR) (y n0 s0 : Nat) (pc : Nat) (ls st : List Value) (S : MS) : Prop := ∀ (H : Heap) (locs : List Loc) (als : Array Slot), va_P (pD P) vwCl (wl P S) H → va_S (AP P) s.heap H locs → lvr P als (mtL y) ls → W p l e R s m args below meth c H locs (S.1 - n0) (S.2.1 - s0) Q (F0 m pc als (st.map (tr P)))
def RI (y : Nat) (i : Instr) (r : Option Value) : Prop := match r with
  | none => i = .return_ ∧ mtR y = none
  | some (.int v) => i = .ireturn ∧ ∃ ty, mtR y = some ty ∧ narrow ty (.int v) = .int v
  | some (.double _) => i = .dreturn ∧ mtR y = some .double
  | some (.ref _) => i = .areturn ∧ ∃ n, mtR y = some (.object n)
  | some .null => i = .areturn ∧ ∃ n, mtR y = some (.object n)
  | _ => False
/-- what an end asks -/
def RW (p : Program) (l : Launch) (e : Env) (R : Room) (s : State) (m : MethodId) (args : Array Value) (below : List Frame) (meth : Method) (c : Code) (Q : State → Prop) (P : PR) (y n0 s0 : Nat) (r : Option Value) (S : MS) : Prop := ∀ (pc : Nat) (i : Instr) (H : Heap) (locs : List Loc) (als : Array Slot), decode (mtC y) pc = .ok (i, 1) → RI y i r → va_P (pD P) vwCl (wl P S) H → va_S (AP P) s.heap H locs → W p l e R s m args below meth c H locs (S.1 - n0) (S.2.1 - s0) Q (F0 m pc als (r.toList.map (tr P)))
def SND (p : Program) (l : Launch) (e : Env) (R : Room) (s : State) (m : MethodId) (args : Array Value) (below : List Frame) (meth : Method) (c : Code) (Q : State → Prop) (P : PR) (y n0 s0 : Nat) (pc : Nat) (ls st : List Value) (S : MS) (o : Rs) : Prop := o.1 → n0 ≤ S.1 → s0 ≤ S.2.1 → match o.2 with
  | .inl k => n0 ≤ k.2.2.2.1 ∧ s0 ≤ k.2.2.2.2.1 ∧ (Vw p l e R s m args below meth c Q P y n0 s0 k.1 k.2.1 k.2.2.1 k.2.2.2 → Vw p l e R s m args below meth c Q P y n0 s0 pc ls st S)
  | .inr r => RW p l e R s m args below meth c Q P y n0 s0 r.1 r.2 → Vw p l e R s m args below meth c Q P y n0 s0 pc ls st S
section STEPS
variable {p : Program} {l : Launch} {e : Env} {R : Room} {s : State} {m : MethodId} {args : Array Value} {below : List Frame} {meth : Method} {c : Code} {Q : State → Prop} {P : PR} {y n0 s0 : Nat} {en : En} {pc : Nat} {ls st : List Value} {S : MS}
theorem SND.no : SND p l e R s m args below meth c Q P y n0 s0 pc ls st S bad := fun h => absurd h (by intro z; exact z)
theorem SND.same {q : Prop} {pc1 : Nat} {ls1 st1 : List Value} (h : q → Vw p l e R s m args below meth c Q P y n0 s0 pc1 ls1 st1 S → Vw p l e R s m args below meth c Q P y n0 s0 pc ls st S) : SND p l e R s m args below meth c Q P y n0 s0 pc ls st S (nx q pc1 ls1 st1 S) := fun hq h1 h2 => ⟨h1, h2, h hq⟩
theorem SND.nx {q : Prop} {pc1 : Nat} {ls1 st1 : List Value} {S1 : MS} (h : q → n0 ≤ S.1 → s0 ≤ S.2.1 → n0 ≤ S1.1 ∧ s0 ≤ S1.2.1 ∧ (Vw p l e R s m args below meth c Q P y n0 s0 pc1 ls1 st1 S1 → Vw p l e R s m args below meth c Q P y n0 s0 pc ls st S)) : SND p l e R s m args below meth c Q P y n0 s0 pc ls st S (nx q pc1 ls1 st1 S1) := fun hq h1 h2 => h hq h1 h2
theorem SND.rt {q : Prop} {r : Option Value} {S1 : MS} (h : q → RW p l e R s m args below meth c Q P y n0 s0 r S1 → Vw p l e R s m args below meth c Q P y n0 s0 pc ls st S) : SND p l e R s m args below meth c Q P y n0 s0 pc ls st S (q, .inr (r, S1)) := fun hq _ _ => h hq
theorem sd_psh {q : Prop} {pc1 : Nat} {v : Value} (hv : tr P v = v) (row : ∀ {H : Heap} {locs : List Loc} {cells slots : Nat} {als : Array Slot} {r : List Value}, q → W p l e R s m args below meth c H locs cells slots Q (F0 m pc1 als (v :: r)) → W p l e R s m args below meth c H locs cells slots Q (F0 m pc als r)) : SND p l e R s m args below meth c Q P y n0 s0 pc ls st S (nx q pc1 ls (v :: st) S) :=
  SND.same fun hq hk H locs als hP hS hl => row hq (by have h := hk H locs als hP hS hl; rw [List.map_cons, hv] at h; exact h)
theorem sd_bin {f : Int32 → Int32 → Value} {okp : Int32 → Int32 → Prop} {q : Prop} {pc1 : Nat} (hf : ∀ a b, tr P (f a b) = f a b) (row : ∀ {H : Heap} {locs : List Loc} {cells slots : Nat} {als : Array Slot} {r : List Value} (a b : Int32), okp a b → q → W p l e R s m args below meth c H locs cells slots Q (F0 m pc1 als (f a b :: r)) → W p l e R s m args below meth c H locs cells slots Q (F0 m pc als (.int b :: .int a :: r))) : SND p l e R s m args below meth c Q P y n0 s0 pc ls st S (i_bin f okp q pc1 ls st S) := by
  unfold i_bin
  split
  · exact SND.same fun hq hk H locs als hP hS hl => row _ _ hq.2 hq.1 (by have h := hk H locs als hP hS hl; rw [List.map_cons, hf] at h; exact h)
  · exact SND.no
theorem sd_un {f : Int32 → Value} {q : Prop} {pc1 : Nat} (hf : ∀ a, tr P (f a) = f a) (row : ∀ {H : Heap} {locs : List Loc} {cells slots : Nat} {als : Array Slot} {r : List Value} (a : Int32), q → W p l e R s m args below meth c H locs cells slots Q (F0 m pc1 als (f a :: r)) → W p l e R s m args below meth c H locs cells slots Q (F0 m pc als (.int a :: r))) : SND p l e R s m args below meth c Q P y n0 s0 pc ls st S (i_un f q pc1 ls st S) := by
  unfold i_un
  split
  · exact SND.same fun hq hk H locs als hP hS hl => row _ hq (by have h := hk H locs als hP hS hl; rw [List.map_cons, hf] at h; exact h)
  · exact SND.no
theorem sd_ild {q : Prop} {pc1 k : Nat} (row : ∀ {H : Heap} {locs : List Loc} {cells slots : Nat} {als : Array Slot} {r : List Value} (x : Int32), q → als[k]? = some (.val (.int x)) → W p l e R s m args below meth c H locs cells slots Q (F0 m pc1 als (.int x :: r)) → W p l e R s m args below meth c H locs cells slots Q (F0 m pc als r)) : SND p l e R s m args below meth c Q P y n0 s0 pc ls st S (i_ild q pc1 k ls st S) := by
  unfold i_ild
  split
  · rename_i x hx
    exact SND.same fun hq hk H locs als hP hS hl => row x hq (hl.get hx (by intro z; cases z)) (hk H locs als hP hS hl)
  · exact SND.no
theorem sd_ald {q : Prop} {pc1 k : Nat} (row : ∀ {H : Heap} {locs : List Loc} {cells slots : Nat} {als : Array Slot} {r : List Value} (x : Nat), q → als[k]? = some (.val (.ref x)) → W p l e R s m args below meth c H locs cells slots Q (F0 m pc1 als (.ref x :: r)) → W p l e R s m args below meth c H locs cells slots Q (F0 m pc als r)) : SND p l e R s m args below meth c Q P y n0 s0 pc ls st S (i_ald q pc1 k ls st S) := by
  unfold i_ald
  split
  · rename_i x hx
    exact SND.same fun hq hk H locs als hP hS hl => row (pad P x) hq (hl.get hx (by intro z; cases z)) (hk H locs als hP hS hl)
  · exact SND.no
theorem sd_dld {q : Prop} {pc1 k : Nat} (row : ∀ {H : Heap} {locs : List Loc} {cells slots : Nat} {als : Array Slot} {r : List Value} (x : UInt64), q → als[k]? = some (.val (.double x)) → W p l e R s m args below meth c H locs cells slots Q (F0 m pc1 als (.double x :: r)) → W p l e R s m args below meth c H locs cells slots Q (F0 m pc als r)) : SND p l e R s m args below meth c Q P y n0 s0 pc ls st S (i_dld q pc1 k ls st S) := by
  unfold i_dld
  split
  · rename_i x hx
    exact SND.same fun hq hk H locs als hP hS hl => row x hq (hl.get hx (by intro z; cases z)) (hk H locs als hP hS hl)
  · exact SND.no
theorem sd_ist {q : Prop} {pc1 k : Nat} (row : ∀ {H : Heap} {locs : List Loc} {cells slots : Nat} {als : Array Slot} {r : List Value} (x : Int32) (lv : List (Nat × Value)), q → lv_has als (mtL y) lv → k < mtL y → (∀ als', lv_has als' (mtL y) ((k, Value.int x) :: lv.filter (fun q => !(q.1 == k) && !(q.1 + 1 == k && q.2.category == 2))) → W p l e R s m args below meth c H locs cells slots Q (F0 m pc1 als' r)) → W p l e R s m args below meth c H locs cells slots Q (F0 m pc als (.int x :: r))) : SND p l e R s m args below meth c Q P y n0 s0 pc ls st S (i_ist q pc1 k ls st S) := by
  unfold i_ist
  split
  · exact SND.same fun hq hk H locs als hP hS hl => row _ _ hq.1 hl.has (by rw [← hl.1]; exact hq.2.1) (fun als' h' => hk H locs als' hP hS (hl.set (v := .int _) hq.2 h'))
  · exact SND.no
theorem sd_ast {q : Prop} {pc1 k : Nat} (row : ∀ {H : Heap} {locs : List Loc} {cells slots : Nat} {als : Array Slot} {r : List Value} (x : Nat) (lv : List (Nat × Value)), q → lv_has als (mtL y) lv → k < mtL y → (∀ als', lv_has als' (mtL y) ((k, Value.ref x) :: lv.filter (fun q => !(q.1 == k) && !(q.1 + 1 == k && q.2.category == 2))) → W p l e R s m args below meth c H locs cells slots Q (F0 m pc1 als' r)) → W p l e R s m args below meth c H locs cells slots Q (F0 m pc als (.ref x :: r))) : SND p l e R s m args below meth c Q P y n0 s0 pc ls st S (i_ast q pc1 k ls st S) := by
  unfold i_ast
  split
  · exact SND.same fun hq hk H locs als hP hS hl => row _ _ hq.1 hl.has (by rw [← hl.1]; exact hq.2.1) (fun als' h' => hk H locs als' hP hS (hl.set (v := .ref _) hq.2 h'))
  · exact SND.no
theorem sd_dst {q : Prop} {pc1 k : Nat} (row : ∀ {H : Heap} {locs : List Loc} {cells slots : Nat} {als : Array Slot} {r : List Value} (x : UInt64) (lv : List (Nat × Value)), q → lv_has als (mtL y) lv → k + 1 < mtL y → (∀ als', lv_has als' (mtL y) ((k, Value.double x) :: lv.filter (fun q => !(q.1 == k) && (!(q.1 == k + 1) && !(q.1 + 1 == k && q.2.category == 2)))) → W p l e R s m args below meth c H locs cells slots Q (F0 m pc1 als' r)) → W p l e R s m args below meth c H locs cells slots Q (F0 m pc als (.double x :: r))) : SND p l e R s m args below meth c Q P y n0 s0 pc ls st S (i_dst q pc1 k ls st S) := by
  unfold i_dst
  split
  · exact SND.same fun hq hk H locs als hP hS hl => row _ _ hq.1 hl.has (by rw [← hl.1]; exact hq.2.2) (fun als' h' => hk H locs als' hP hS (hl.set2 (v := .double _) hq.2.1 h'))
  · exact SND.no
theorem sd_inc {q : Prop} {pc1 k : Nat} {n : Int} (row : ∀ {H : Heap} {locs : List Loc} {cells slots : Nat} {als : Array Slot} {r : List Value} (x : Int32) (lv : List (Nat × Value)) (i : Nat), q → lv_has als (mtL y) lv → lv[i]? = some (k, .int x) → k < mtL y → (∀ als', lv_has als' (mtL y) ((k, Value.int (x + Int32.ofInt n)) :: lv.filter (fun q => !(q.1 == k) && !(q.1 + 1 == k && q.2.category == 2))) → W p l e R s m args below meth c H locs cells slots Q (F0 m pc1 als' r)) → W p l e R s m args below meth c H locs cells slots Q (F0 m pc als r)) : SND p l e R s m args below meth c Q P y n0 s0 pc ls st S (i_inc q pc1 k n ls st S) := by
  unfold i_inc
  split
  · rename_i x hx
    refine SND.same fun hq hk H locs als hP hS hl => ?_
    obtain ⟨i, hi⟩ := List.getElem?_of_mem (lvl_of (P := P) (lget_some hx (by intro z; cases z)) (by intro z; cases z))
    exact row x _ i hq.1 hl.has hi (by rw [← hl.1]; exact hq.2.1) (fun als' h' => hk H locs als' hP hS (hl.set (v := .int _) hq.2 h'))
  · exact SND.no
theorem tg_eq {off : Int} (h : tgo pc off) : (pc : Int) + off = (tg pc off : Int) := by
  unfold tg tgo at *
  omega
theorem sd_if1 {cd : Jvm.ClassFile.Cond} {off : Int} {q : Prop} (row : ∀ {H : Heap} {locs : List Loc} {cells slots : Nat} {als : Array Slot} {r : List Value} (a : Int32), q → (pc : Int) + off = (tg pc off : Int) → (cnd cd a 0 = true → W p l e R s m args below meth c H locs cells slots Q (F0 m (tg pc off) als r)) → (¬ cnd cd a 0 = true → W p l e R s m args below meth c H locs cells slots Q (F0 m (pc + 3) als r)) → W p l e R s m args below meth c H locs cells slots Q (F0 m pc als (.int a :: r))) : SND p l e R s m args below meth c Q P y n0 s0 pc ls st S (i_if1 cd off q pc ls st S) := by
  unfold i_if1
  split
  · refine SND.same fun hq hk H locs als hP hS hl => row _ hq.1 (tg_eq hq.2) (fun h => ?_) (fun h => ?_)
    · rw [if_pos h] at hk
      exact hk H locs als hP hS hl
    · rw [if_neg h] at hk
      exact hk H locs als hP hS hl
  · exact SND.no
theorem sd_if2 {cd : Jvm.ClassFile.Cond} {off : Int} {q : Prop} (row : ∀ {H : Heap} {locs : List Loc} {cells slots : Nat} {als : Array Slot} {r : List Value} (a b : Int32), q → (pc : Int) + off = (tg pc off : Int) → (cnd cd a b = true → W p l e R s m args below meth c H locs cells slots Q (F0 m (tg pc off) als r)) → (¬ cnd cd a b = true → W p l e R s m args below meth c H locs cells slots Q (F0 m (pc + 3) als r)) → W p l e R s m args below meth c H locs cells slots Q (F0 m pc als (.int b :: .int a :: r))) : SND p l e R s m args below meth c Q P y n0 s0 pc ls st S (i_if2 cd off q pc ls st S) := by
  unfold i_if2
  split
  · refine SND.same fun hq hk H locs als hP hS hl => row _ _ hq.1 (tg_eq hq.2) (fun h => ?_) (fun h => ?_)
    · rw [if_pos h] at hk
      exact hk H locs als hP hS hl
    · rw [if_neg h] at hk
      exact hk H locs als hP hS hl
  · exact SND.no
theorem cnd_eq (a b : Int32) : cnd .eq a b = true ↔ a = b := by simp [cnd]
theorem cnd_ne (a b : Int32) : cnd .ne a b = true ↔ ¬ a = b := by simp [cnd]
theorem cnd_lt (a b : Int32) : cnd .lt a b = true ↔ a < b := by simp [cnd]
theorem cnd_ge (a b : Int32) : cnd .ge a b = true ↔ b ≤ a := by simp [cnd]
theorem cnd_gt (a b : Int32) : cnd .gt a b = true ↔ b < a := by simp [cnd]
theorem cnd_le (a b : Int32) : cnd .le a b = true ↔ a ≤ b := by simp [cnd]
end STEPS
