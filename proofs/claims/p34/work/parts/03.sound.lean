/-! THE SMALL MACHINE IS THE MACHINE: what it does, the JVM does (over the kit's rows) -/
abbrev PR : Type := (va_G × (ClassId × ClassId × ClassId)) × (Nat × (Nat → Nat) × Nat)
def pD (P : PR) : va_G := P.1.1
def pcC (P : PR) : ClassId := P.1.2.1
def pcI (P : PR) : ClassId := P.1.2.2.1
def pcH (P : PR) : ClassId := P.1.2.2.2
def pB (P : PR) : Nat := P.2.1
def pRo (P : PR) : Nat → Nat := P.2.2.1
def pSc (P : PR) : Nat := P.2.2.2
/-- where a named cell lies -/
def pad (P : PR) (a : Nat) : Nat := if a < 1000 then pB P + a else if a < 2000 then pRo P (a - 1000) else pSc P
def tr (P : PR) (v : Value) : Value := match v with
  | .ref a => .ref (pad P a)
  | w => w
def ent (P : PR) (S : MS) (a : Nat) : va_E :=
  if (S.2.2.1 a).1 < 5 then .inr ((S.2.2.1 a).1, (List.range (nf (S.2.2.1 a).1)).map fun k => tr P (S.2.2.2 a k))
  else if (S.2.2.1 a).1 = 8 then .inl (pcH P, (S.2.2.1 a).2, .inr (.inr (.inr (.inr (fun j => (toR (S.2.2.2 a j)).map (pad P))))))
  else .inl (if (S.2.2.1 a).1 = 6 then pcC P else pcI P, (S.2.2.1 a).2, .inl (fun j => toI (S.2.2.2 a j)))
def wl (P : PR) (S : MS) : va_W := (List.range S.1).map fun a => (pB P + a, ent P S a)
def ptys (P : PR) : List (ClassId × FieldType) := [(pcC P, .char), (pcI P, .int), (pcH P, .object "KiteHire$Hut")]
def AP (P : PR) : Nat → Prop := fun q => pB P ≤ q
/-- words of nest mates: they stay true in their own way -/
def nstWord : Jvm.Cond → Bool
  | .fieldLinkNest _ _ _ _ _ _ => true
  | .methodLinkNest _ _ _ _ => true
  | _ => false
def lwn : List Jvm.Cond := lw_tbl.filter nstWord
theorem nst_warm {w : Jvm.Cond} {s U : State} (h : w ∈ lwn) (hW : s.WarmedH U.vm) (hZ : va_Nw w s) : va_Nw w U := by
  have h1 := (List.mem_filter.mp h).2
  unfold nstWord at h1
  split at h1
  · exact va_Nw.warmF hW hZ
  · exact va_Nw.warmM hW hZ
  · cases h1
def snm (t : Nat) : String := match t with
  | 0 => "SETTING_LEAST"
  | 1 => "SETTING_MOST"
  | _ => "SETTING_FIRST"
def StOK (P : PR) (sc : Nat × (Nat → Int32)) (U : State) : Prop := (∀ t, t < 3 → va_Z "KiteHire" (snm t) "[I" (.ref (pRo P t)) (AP P) U U.heap ∧ va_T .int (pRo P t) 5 (fun j => .int ((stv t).getD j 0)) (AP P) U U.heap) ∧ va_X (pSc P) sc.1 sc.2 U U.heap ∧ pSc P < U.heap.size ∧ ¬ AP P (pSc P) ∧ va_AO "KiteHire$Hut" U ∧ ∀ w ∈ lwn, va_Nw w U
def PcM (P : PR) (sc : Nat × (Nat → Int32)) (av : List Value) (S : MS) : Array Value → State → Prop := fun a U => a = (av.map (tr P)).toArray ∧ U.heap.size = pB P + S.1 ∧ va_P (pD P) vwCl (wl P S) U.heap ∧ va_K (pD P) vwCl (ptys P) U ∧ StOK P sc U
def QcM (P : PR) (r : Option Value) (S : MS) : Array Value → State → Outcome → State → Prop := fun _ st oc t => oc = .returned (r.map (tr P)) ∧ va_P (pD P) vwCl (wl P S) t.heap ∧ va_F (AP P) st t
/-- the tables' words that stay true -/
def lwg : List Jvm.Cond := lw_tbl.filter goodWord
def wsm (y : Nat) : List Jvm.Cond := Jvm.Cond.code (mtN y) (mtC y) (mtL y) (mtR y) :: lwg
def rmm (y k n : Nat) : Room := { frames := mtD y, cells := k, slots := n, locals := 37 * mtD y }
/-- method y does what f says -/
def SpecAt (sc : Nat × (Nat → Int32)) (y : Nat) (f : Sp) : Prop := ∀ (l : Launch) (P : PR) (av : List Value) (S : MS), (f av S).1 → Met l (mtN y) (wsm y) (rmm y ((f av S).2.2.1 - S.1) ((f av S).2.2.2.1 - S.2.1)) (PcM P sc av S) (QcM P (f av S).2.1 (f av S).2.2) ((f av S).2.2.1 - S.1) ((f av S).2.2.2.1 - S.2.1) (AP P)
def SpecOK (y : Nat) (f : Sp) : Prop := ∀ sc : Nat × (Nat → Int32), SpecAt sc y f
def lvr (P : PR) (als : Array Slot) (nL : Nat) (ls : List Value) : Prop := ls.length = nL ∧ als.size = nL ∧ lv_wf als ∧ ∀ (k : Nat) (v : Value), ls[k]? = some v → v ≠ .null → als[k]? = some (.val (tr P v))
def lvl (P : PR) (ls : List Value) : List (Nat × Value) := (List.range ls.length).filterMap fun j => match lget ls j with
  | .null => none
  | v => some (j, tr P v)
theorem tr_cat (P : PR) (v : Value) : (tr P v).category = v.category := by cases v <;> rfl
theorem lget_some {ls : List Value} {k : Nat} {v : Value} (h : lget ls k = v) (hv : v ≠ .null) : ls[k]? = some v := by
  unfold lget at h
  rw [List.getD_eq_getElem?_getD] at h
  cases hk : ls[k]? with
  | none => rw [hk] at h; exact absurd h.symm hv
  | some w => rw [hk] at h; exact congrArg some h
theorem lvl_mem {P : PR} {ls : List Value} {j : Nat} {w : Value} (h : (j, w) ∈ lvl P ls) : ∃ v, ls[j]? = some v ∧ v ≠ .null ∧ w = tr P v := by
  unfold lvl at h
  obtain ⟨i, hi, h2⟩ := List.mem_filterMap.mp h
  have hlt := List.mem_range.mp hi
  cases hg : lget ls i with
  | null => simp only [hg] at h2; cases h2
  | _ =>
    simp only [hg] at h2
    cases h2
    exact ⟨_, lget_some hg (by intro q; cases q), by (intro q; cases q), rfl⟩
theorem lvl_of {P : PR} {ls : List Value} {j : Nat} {v : Value} (h : ls[j]? = some v) (hv : v ≠ .null) : (j, tr P v) ∈ lvl P ls := by
  unfold lvl
  refine List.mem_filterMap.mpr ⟨j, List.mem_range.mpr (List.getElem?_eq_some_iff.mp h).1, ?_⟩
  have hg : lget ls j = v := by
    unfold lget
    rw [List.getD_eq_getElem?_getD, h]
    rfl
  rw [hg]
  cases v <;> first | rfl | exact absurd rfl hv
theorem lvr.has {P : PR} {als : Array Slot} {nL : Nat} {ls : List Value} (h : lvr P als nL ls) : lv_has als nL (lvl P ls) := by
  obtain ⟨h1, h2, h3, h4⟩ := h
  refine ⟨h2, h3, fun q hq => ?_⟩
  obtain ⟨j, w⟩ := q
  obtain ⟨v, g1, g2, rfl⟩ := lvl_mem hq
  exact h4 j v g1 g2
theorem lvr.get {P : PR} {als : Array Slot} {nL : Nat} {ls : List Value} (h : lvr P als nL ls) {k : Nat} {v : Value} (hg : lget ls k = v) (hv : v ≠ .null) : als[k]? = some (.val (tr P v)) := h.2.2.2 k v (lget_some hg hv) hv
theorem lvr.set {P : PR} {als als' : Array Slot} {nL : Nat} {ls : List Value} (h : lvr P als nL ls) {k : Nat} {v : Value} (ho : stok ls k) (h' : lv_has als' nL ((k, tr P v) :: (lvl P ls).filter (fun q => !(q.1 == k) && !(q.1 + 1 == k && q.2.category == 2)))) : lvr P als' nL (lset ls k v) := by
  obtain ⟨g1, g2, g3⟩ := h'
  refine ⟨by unfold lset; rw [List.length_set]; exact h.1, g1, g2, fun j w hj hw => ?_⟩
  unfold lset at hj
  by_cases e : j = k
  · subst e
    rw [List.getElem?_set_self ho.1] at hj
    cases hj
    exact g3 (j, tr P v) List.mem_cons_self
  · rw [List.getElem?_set_ne (Ne.symm e)] at hj
    refine g3 (j, tr P w) (List.mem_cons_of_mem _ (List.mem_filter.mpr ⟨lvl_of hj hw, ?_⟩))
    have hc : j + 1 = k → w.category = 1 := fun q => by
      have h1 := ho.2 j q
      unfold lget at h1
      rw [List.getD_eq_getElem?_getD, hj] at h1
      exact h1
    simp only [tr_cat]
    by_cases q : j + 1 = k
    · simp [e, q, hc q]
    · simp [e, q]
theorem lvr.set2 {P : PR} {als als' : Array Slot} {nL : Nat} {ls : List Value} (h : lvr P als nL ls) {k : Nat} {v : Value} (ho : stok ls k) (h' : lv_has als' nL ((k, tr P v) :: (lvl P ls).filter (fun q => !(q.1 == k) && (!(q.1 == k + 1) && !(q.1 + 1 == k && q.2.category == 2))))) : lvr P als' nL (lset (lset ls k v) (k + 1) .null) := by
  obtain ⟨g1, g2, g3⟩ := h'
  refine ⟨by unfold lset; rw [List.length_set, List.length_set]; exact h.1, g1, g2, fun j w hj hw => ?_⟩
  unfold lset at hj
  by_cases e1 : j = k + 1
  · subst e1
    have hlen : k + 1 < (ls.set k v).length := by
      have := (List.getElem?_eq_some_iff.mp hj).1
      rw [List.length_set] at this
      exact this
    rw [List.getElem?_set_self hlen] at hj
    cases hj
    exact absurd rfl hw
  rw [List.getElem?_set_ne (Ne.symm e1)] at hj
  by_cases e : j = k
  · subst e
    rw [List.getElem?_set_self ho.1] at hj
    cases hj
    exact g3 (j, tr P v) List.mem_cons_self
  · rw [List.getElem?_set_ne (Ne.symm e)] at hj
    refine g3 (j, tr P w) (List.mem_cons_of_mem _ (List.mem_filter.mpr ⟨lvl_of hj hw, ?_⟩))
    have hc : j + 1 = k → w.category = 1 := fun q => by
      have h1 := ho.2 j q
      unfold lget at h1
      rw [List.getD_eq_getElem?_getD, hj] at h1
      exact h1
    simp only [tr_cat]
    by_cases q : j + 1 = k
    · simp [e, e1, q, hc q]
    · simp [e, e1, q]
-- the world's list
theorem wl_get (P : PR) (S : MS) {a : Nat} (h : a < S.1) : (wl P S)[a]? = some (pB P + a, ent P S a) := by
  unfold wl
  simp [h]
theorem wl_D (P : PR) (S : MS) : va_D (AP P) (wl P S) := by
  have key : ∀ (k : Nat) (q : Nat × va_E), (wl P S)[k]? = some q → q.1 = pB P + k := by
    intro k q h
    have hk : k < S.1 := by
      have := (List.getElem?_eq_some_iff.mp h).1
      unfold wl at this
      simpa using this
    rw [wl_get P S hk] at h
    cases h
    rfl
  refine ⟨fun i j p q hi hj e => ?_, fun k q h => ?_⟩
  · have h1 := key i p hi
    have h2 := key j q hj
    omega
  · show pB P ≤ q.1
    rw [key k q h]
    omega
theorem wl_set (P : PR) (S S1 : MS) {a : Nat} (h1 : S1.1 = S.1) (h2 : ∀ b, b ≠ a → b < S.1 → ent P S1 b = ent P S b) : (wl P S).set a (pB P + a, ent P S1 a) = wl P S1 := by
  apply List.ext_getElem?
  intro k
  by_cases hk : k < S.1
  · rw [wl_get P S1 (by omega)]
    by_cases e : k = a
    · subst e
      rw [List.getElem?_set_self (by unfold wl; simpa using hk)]
    · rw [List.getElem?_set_ne (Ne.symm e), wl_get P S hk, h2 k e hk]
  · have g1 : ((wl P S).set a (pB P + a, ent P S1 a))[k]? = none := by
      rw [List.getElem?_eq_none]
      unfold wl
      simp
      omega
    have g2 : (wl P S1)[k]? = none := by
      rw [List.getElem?_eq_none]
      unfold wl
      simp
      omega
    rw [g1, g2]
theorem wl_push (P : PR) (S S1 : MS) (h1 : S1.1 = S.1 + 1) (h2 : ∀ b, b < S.1 → ent P S1 b = ent P S b) : wl P S ++ [(pB P + S.1, ent P S1 S.1)] = wl P S1 := by
  unfold wl
  rw [h1, List.range_succ, List.map_append]
  congr 1
  apply List.map_congr_left
  intro b hb
  rw [h2 b (List.mem_range.mp hb)]
theorem ent_set_ne (P : PR) (S : MS) {a b k : Nat} (v : Value) (h : b ≠ a) : ent P (svSet S a k v) b = ent P S b := by
  have e : ∀ j, (svSet S a k v).2.2.2 b j = S.2.2.2 b j := fun j => by
    show (if b = a ∧ j = k then v else S.2.2.2 b j) = _
    rw [if_neg (fun q => h q.1)]
  unfold ent
  simp only [e]
  rfl
theorem ent_cpy_ne (P : PR) (S : MS) {a sp b dp n c : Nat} (h : c ≠ b) : ent P (svCpy S a sp b dp n) c = ent P S c := by
  have e : ∀ j, (svCpy S a sp b dp n).2.2.2 c j = S.2.2.2 c j := fun j => by
    show (if c = b ∧ dp ≤ j ∧ j < dp + n then _ else S.2.2.2 c j) = _
    rw [if_neg (fun q => h q.1)]
  unfold ent
  simp only [e]
  rfl
theorem ent_new_ne (P : PR) (S : MS) {kd len sz b : Nat} {f : Nat → Value} (h : b < S.1) : ent P (svNew S kd len sz f) b = ent P S b := by
  have e : ∀ j, (svNew S kd len sz f).2.2.2 b j = S.2.2.2 b j := fun j => by
    show (if b = S.1 then f j else S.2.2.2 b j) = _
    rw [if_neg (by omega)]
  have e2 : (svNew S kd len sz f).2.2.1 b = S.2.2.1 b := by
    show (if b = S.1 then (kd, len) else S.2.2.1 b) = _
    rw [if_neg (by omega)]
  unfold ent
  simp only [e, e2]
theorem ent_obj (P : PR) {S : MS} {a c : Nat} (h : obj S a c) : ent P S a = .inr (c, (List.range (nf c)).map fun k => tr P (S.2.2.2 a k)) := by
  obtain ⟨-, -, h1, h2⟩ := h
  unfold ent
  rw [h1, if_pos h2]
theorem ent_i (P : PR) {S : MS} {a : Nat} (h : (S.2.2.1 a).1 = 7) : ent P S a = .inl (pcI P, (S.2.2.1 a).2, .inl (fun j => toI (S.2.2.2 a j))) := by
  unfold ent
  rw [h]
  rfl
theorem ent_c (P : PR) {S : MS} {a : Nat} (h : (S.2.2.1 a).1 = 6) : ent P S a = .inl (pcC P, (S.2.2.1 a).2, .inl (fun j => toI (S.2.2.2 a j))) := by
  unfold ent
  rw [h]
  rfl
theorem ent_q (P : PR) {S : MS} {a : Nat} (h : (S.2.2.1 a).1 = 8) : ent P S a = .inl (pcH P, (S.2.2.1 a).2, .inr (.inr (.inr (.inr (fun j => (toR (S.2.2.2 a j)).map (pad P)))))) := by
  unfold ent
  rw [h]
  rfl
theorem pad_lt (P : PR) {a : Nat} (h : a < 1000) : pad P a = pB P + a := by unfold pad; rw [if_pos h]
