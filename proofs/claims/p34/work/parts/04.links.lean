/-! what the tables' words say of the links, looked up by their places -/
def flk (q : Nat × Nat × Nat × Nat × Bool × Nat) : Bool := decide (lw_tbl[q.2.2.2.2.2]? = some (if q.2.2.2.2.1 = true then Jvm.Cond.fieldLinkNest (cn q.1) q.2.1 (cn q.2.2.1) (fT q.2.2.1 q.2.2.2.1).2.1 (fT q.2.2.1 q.2.2.2.1).2.2.1 "KiteHire" else Jvm.Cond.fieldLink (cn q.1) q.2.1 (cn q.2.2.1) (fT q.2.2.1 q.2.2.2.1).2.1 (fT q.2.2.1 q.2.2.2.1).2.2.1)) && decide (q.2.2.1 < 5) && (!q.2.2.2.2.1 || decide (q.1 ≠ q.2.2.1))
theorem flk_all : fltab.all flk = true := by decide +kernel
def slk (q : Nat × Nat × Nat × Bool × Nat) : Bool := decide (lw_tbl[q.2.2.2.2]? = some (if q.2.2.2.1 = true then Jvm.Cond.fieldLinkNest (cn q.1) q.2.1 "KiteHire" (snm q.2.2.1) "[I" "KiteHire" else Jvm.Cond.fieldLink (cn q.1) q.2.1 "KiteHire" (snm q.2.2.1) "[I"))
theorem slk_all : sltab.all slk = true := by decide +kernel
/-- System.arraycopy's and Object's own words -/
theorem acp_ok : Jvm.Cond.native arraycopyName ∈ lwg ∧ Jvm.Cond.static arraycopyName ∈ lwg ∧ Jvm.Cond.initialized "java/lang/System" ∈ lwg := by decide +kernel
theorem obi_ok : Jvm.Cond.instanceMethod Lib.objectInit ∈ lwg ∧ Jvm.Cond.code Lib.objectInit ⟨#[0xb1]⟩ 1 none ∈ lwg := by decide +kernel
theorem arc_ok : Jvm.Cond.arrayClass .int ∈ lwg ∧ Jvm.Cond.arrayClass .char ∈ lwg := by decide +kernel
def mwd (z : Nat) : Nat × Nat × Nat × Nat := mwds.getD z (0, 0, 0, 0)
def mlk (q : Nat × Nat × Nat × Bool × Nat) : Bool := (!q.2.2.2.1 || decide (2 ≤ q.2.2.1 ∧ q.2.2.1 < 100)) && decide (lw_tbl[q.2.2.2.2]? = some (if q.2.2.2.1 = true then Jvm.Cond.methodLinkNest (cn q.1) q.2.1 (mtN q.2.2.1) "KiteHire" else Jvm.Cond.methodLink (cn q.1) q.2.1 (if q.2.2.1 = 900 then arraycopyName else if q.2.2.1 = 901 then Lib.objectInit else mtN q.2.2.1)))
theorem mlk_all : mltab.all mlk = true := by decide +kernel
def clk (q : Nat × Nat × Int32 × Nat) : Bool := decide (lw_tbl[q.2.2.2]? = some (Jvm.Cond.constant (cn q.1) q.2.1 q.2.2.1))
theorem clk_all : cltab.all clk = true := by decide +kernel
def nlk (q : Nat × Nat × Nat × Nat × Nat × Nat) : Bool := decide (lw_tbl[q.2.2.2.1]? = some (Jvm.Cond.classLink (cn q.1) q.2.1 (cn q.2.2.1))) && decide (lw_tbl[q.2.2.2.2.1]? = some (Jvm.Cond.instantiable (cn q.2.2.1) (nf q.2.2.1))) && decide (lw_tbl[q.2.2.2.2.2]? = some (Jvm.Cond.initialized (cn q.2.2.1)))
theorem nlk_all : nltab.all nlk = true := by decide +kernel
/-- what holds of a method but the law: its words -/
def mcb (z : Nat) : Bool := decide (z < 2 ∨ lw_tbl[(mwd z).1]? = some (Jvm.Cond.code (mtN z) (mtC z) (mtL z) (mtR z)))
theorem mcb_0 : (List.range 10).all (fun d => mcb (0 + d)) = true := by decide +kernel
theorem mcb_1 : (List.range 10).all (fun d => mcb (10 + d)) = true := by decide +kernel
theorem mcb_2 : (List.range 10).all (fun d => mcb (20 + d)) = true := by decide +kernel
theorem mcb_3 : (List.range 10).all (fun d => mcb (30 + d)) = true := by decide +kernel
theorem mcb_4 : (List.range 10).all (fun d => mcb (40 + d)) = true := by decide +kernel
theorem mcb_5 : (List.range 10).all (fun d => mcb (50 + d)) = true := by decide +kernel
theorem mcb_6 : (List.range 10).all (fun d => mcb (60 + d)) = true := by decide +kernel
theorem mcb_7 : (List.range 10).all (fun d => mcb (70 + d)) = true := by decide +kernel
theorem mcb_8 : (List.range 10).all (fun d => mcb (80 + d)) = true := by decide +kernel
theorem mcb_9 : (List.range 4).all (fun d => mcb (90 + d)) = true := by decide +kernel
set_option maxRecDepth 100000 in
theorem mcb_94 : mcb 94 = true := decide_eq_true (Or.inr rfl)
set_option maxRecDepth 100000 in
theorem mcb_95 : mcb 95 = true := decide_eq_true (Or.inr rfl)
set_option maxRecDepth 100000 in
theorem mcb_96 : mcb 96 = true := decide_eq_true (Or.inr rfl)
set_option maxRecDepth 100000 in
theorem mcb_97 : mcb 97 = true := decide_eq_true (Or.inr rfl)
set_option maxRecDepth 100000 in
theorem mcb_98 : mcb 98 = true := decide_eq_true (Or.inr rfl)
set_option maxRecDepth 100000 in
theorem mcb_99 : mcb 99 = true := decide_eq_true (Or.inr rfl)
theorem mcb_all (z : Nat) (hz : z < 100) : mcb z = true := by
  have key : ∀ (n k : Nat), (List.range n).all (fun d => mcb (k + d)) = true → k ≤ z → z < k + n → mcb z = true := by
    intro n k h h1 h2
    have h3 := List.all_eq_true.mp h (z - k) (List.mem_range.mpr (by omega))
    rw [show k + (z - k) = z by omega] at h3
    exact h3
  rcases Nat.lt_or_ge z 10 with q | q0
  · exact key 10 0 mcb_0 (by omega) q
  rcases Nat.lt_or_ge z 20 with q | q1
  · exact key 10 10 mcb_1 (by omega) q
  rcases Nat.lt_or_ge z 30 with q | q2
  · exact key 10 20 mcb_2 (by omega) q
  rcases Nat.lt_or_ge z 40 with q | q3
  · exact key 10 30 mcb_3 (by omega) q
  rcases Nat.lt_or_ge z 50 with q | q4
  · exact key 10 40 mcb_4 (by omega) q
  rcases Nat.lt_or_ge z 60 with q | q5
  · exact key 10 50 mcb_5 (by omega) q
  rcases Nat.lt_or_ge z 70 with q | q6
  · exact key 10 60 mcb_6 (by omega) q
  rcases Nat.lt_or_ge z 80 with q | q7
  · exact key 10 70 mcb_7 (by omega) q
  rcases Nat.lt_or_ge z 90 with q | q8
  · exact key 10 80 mcb_8 (by omega) q
  rcases Nat.lt_or_ge z 94 with q | q9
  · exact key 4 90 mcb_9 (by omega) q
  rcases (show z = 94 ∨ z = 95 ∨ z = 96 ∨ z = 97 ∨ z = 98 ∨ z = 99 by omega) with q | q | q | q | q | q <;> subst q
  · exact mcb_94
  · exact mcb_95
  · exact mcb_96
  · exact mcb_97
  · exact mcb_98
  · exact mcb_99
def mokb (z : Nat) : Bool := decide (lw_tbl[(mwd z).2.1]? = some (if mtS z = true then Jvm.Cond.static (mtN z) else Jvm.Cond.instanceMethod (mtN z))) && decide (mtS z = true ∨ (mtN z).name = "<init>" ∨ lw_tbl[(mwd z).2.2.1]? = some (Jvm.Cond.selects (cn (mtO z)) (mtN z) (mtN z))) && decide (lw_tbl[(mwd z).2.2.2]? = some (Jvm.Cond.initialized (mtN z).cls)) && decide ((mtN z).cls = cn (mtO z)) && decide ((mtN z).cls ≠ "java/lang/invoke/MethodHandle" ∧ (mtN z).cls ≠ "java/lang/invoke/VarHandle" ∧ (parseMethodDescriptor (mtN z).desc).map (fun d => d.parameters.length) = some (mtA z)) && decide (mtL z ≤ 18) && (decide (z < 2) || plainName (mtN z).cls)
theorem mokb_all : (List.range 100).all mokb = true := by decide +kernel
def mok (z : Nat) : Prop := lw_tbl[(mwd z).1]? = some (Jvm.Cond.code (mtN z) (mtC z) (mtL z) (mtR z)) ∧ lw_tbl[(mwd z).2.1]? = some (if mtS z = true then Jvm.Cond.static (mtN z) else Jvm.Cond.instanceMethod (mtN z)) ∧ (mtS z = true ∨ (mtN z).name = "<init>" ∨ lw_tbl[(mwd z).2.2.1]? = some (Jvm.Cond.selects (cn (mtO z)) (mtN z) (mtN z))) ∧ lw_tbl[(mwd z).2.2.2]? = some (Jvm.Cond.initialized (mtN z).cls) ∧ (mtN z).cls = cn (mtO z) ∧ ((mtN z).cls ≠ "java/lang/invoke/MethodHandle" ∧ (mtN z).cls ≠ "java/lang/invoke/VarHandle" ∧ (parseMethodDescriptor (mtN z).desc).map (fun d => d.parameters.length) = some (mtA z)) ∧ mtL z ≤ 18 ∧ plainName (mtN z).cls = true
theorem mok_all (z : Nat) (hz : z < 100) (hz2 : 2 ≤ z) : mok z := by
  have h := List.all_eq_true.mp mokb_all z (List.mem_range.mpr hz)
  have h0 := mcb_all z hz
  unfold mokb at h
  unfold mcb at h0
  simp only [Bool.and_eq_true, decide_eq_true_eq, Bool.or_eq_true] at h h0
  obtain ⟨⟨⟨⟨⟨⟨h2, h3⟩, h4⟩, h5⟩, h6⟩, h7⟩, h8⟩ := h
  exact ⟨h0.resolve_left (by omega), h2, h3, h4, h5, h6, h7, h8.resolve_left (by omega)⟩
theorem mmx_ok : lw_tbl[(mwd 0).1]? = some (Jvm.Cond.code Lib.Math.max.name Lib.Math.max.code 2 (some .int)) ∧ lw_tbl[(mwd 0).2.1]? = some (Jvm.Cond.static Lib.Math.max.name) ∧ lw_tbl[(mwd 0).2.2.2]? = some (Jvm.Cond.initialized "java/lang/Math") ∧ mtN 0 = Lib.Math.max.name := by decide +kernel
theorem mmn_ok : lw_tbl[(mwd 1).1]? = some (Jvm.Cond.code Lib.Math.min.name Lib.Math.min.code 2 (some .int)) ∧ lw_tbl[(mwd 1).2.1]? = some (Jvm.Cond.static Lib.Math.min.name) ∧ lw_tbl[(mwd 1).2.2.2]? = some (Jvm.Cond.initialized "java/lang/Math") ∧ mtN 1 = Lib.Math.min.name := by decide +kernel
theorem mtab_len : mtab.length = 101 := by decide +kernel
/-- the classes -/
def cok (c : Nat) : Prop := vwCl[c]? = some (cn c, fT c, nf c) ∧ (∀ k, k < nf c → parseFieldDescriptor (fT c k).2.2.1 = some (fty c k)) ∧ (∀ a, a < nf c → ∀ b, b < nf c → a ≠ b → (fT c a).2.1 ≠ (fT c b).2.1) ∧ (∀ k, k < nf c → (fT c k).1 = cn c)
theorem cok_all : ∀ c, c < 5 → cok c := fun c h => match c, h with
  | 0, _ => ⟨rfl, tyX0_ok, nmX0, by decide +kernel⟩
  | 1, _ => ⟨rfl, tyX1_ok, nmX1, by decide +kernel⟩
  | 2, _ => ⟨rfl, tyX2_ok, nmX2, by decide +kernel⟩
  | 3, _ => ⟨rfl, tyX3_ok, nmX3, by decide +kernel⟩
  | 4, _ => ⟨rfl, tyX4_ok, nmX4, by decide +kernel⟩
  | n + 5, h => absurd h (by omega)
theorem cws_all : ∀ c, c < 5 → ∀ w ∈ u_ws (cn c) (fT c) (nf c), w ∈ lwg := by decide +kernel
theorem lw_in {w : Jvm.Cond} {i : Nat} (h : lw_tbl[i]? = some w) : w ∈ lw_tbl := List.mem_of_getElem? h
theorem lwg_in {w : Jvm.Cond} {i : Nat} (h : lw_tbl[i]? = some w) (hg : goodWord w = true) : w ∈ lwg := List.mem_filter.mpr ⟨lw_in h, hg⟩
theorem lwn_in {w : Jvm.Cond} {i : Nat} (h : lw_tbl[i]? = some w) (hg : nstWord w = true) : w ∈ lwn := List.mem_filter.mpr ⟨lw_in h, hg⟩
theorem good_all : GoodIn lwg lwg := fun w h => ⟨h, good_of_word (List.mem_filter.mp h).2⟩
theorem wsm_good (z : Nat) (h : z < 100) (h2 : 2 ≤ z) : GoodIn lwg (wsm z) := by
  intro w hw
  rcases List.mem_cons.mp hw with rfl | hw
  · exact good_all _ (lwg_in (mok_all z h h2).1 rfl)
  · exact good_all w hw
theorem FL_spec {o i c k : Nat} (h : FL o i = some (c, k)) : c < 5 ∧ ((o ≠ c ∧ Jvm.Cond.fieldLinkNest (cn o) i (cn c) (fT c k).2.1 (fT c k).2.2.1 "KiteHire" ∈ lwn) ∨ Jvm.Cond.fieldLink (cn o) i (cn c) (fT c k).2.1 (fT c k).2.2.1 ∈ lwg) := by
  unfold FL at h
  obtain ⟨q, h1, h2⟩ := Option.map_eq_some_iff.mp h
  have h3 := List.mem_of_find?_eq_some h1
  have h4 := List.find?_some h1
  simp only [Bool.and_eq_true, beq_iff_eq] at h4
  have h5 := List.all_eq_true.mp flk_all q h3
  unfold flk at h5
  simp only [Bool.and_eq_true, decide_eq_true_eq] at h5
  cases h2
  rw [← h4.1, ← h4.2]
  refine ⟨h5.1.2, ?_⟩
  have h6 := h5.1.1
  have h7 := h5.2
  split at h6
  · rename_i hn
    rw [hn] at h7
    exact Or.inl ⟨by simpa using h7, lwn_in h6 rfl⟩
  · exact Or.inr (lwg_in h6 rfl)
theorem SL_spec {o i t : Nat} (h : SL o i = some t) : Jvm.Cond.fieldLinkNest (cn o) i "KiteHire" (snm t) "[I" "KiteHire" ∈ lwn ∨ Jvm.Cond.fieldLink (cn o) i "KiteHire" (snm t) "[I" ∈ lwg := by
  unfold SL at h
  obtain ⟨q, h1, h2⟩ := Option.map_eq_some_iff.mp h
  have h3 := List.mem_of_find?_eq_some h1
  have h4 := List.find?_some h1
  simp only [Bool.and_eq_true, beq_iff_eq] at h4
  have h5 := List.all_eq_true.mp slk_all q h3
  unfold slk at h5
  simp only [decide_eq_true_eq] at h5
  cases h2
  rw [← h4.1, ← h4.2]
  have h6 := h5
  split at h6
  · exact Or.inl (lwn_in h6 rfl)
  · exact Or.inr (lwg_in h6 rfl)
theorem ML_spec {o i z : Nat} (h : ML o i = some z) : ((2 ≤ z ∧ z < 100) ∧ Jvm.Cond.methodLinkNest (cn o) i (mtN z) "KiteHire" ∈ lwn) ∨ Jvm.Cond.methodLink (cn o) i (if z = 900 then arraycopyName else if z = 901 then Lib.objectInit else mtN z) ∈ lwg := by
  unfold ML at h
  obtain ⟨q, h1, h2⟩ := Option.map_eq_some_iff.mp h
  have h3 := List.mem_of_find?_eq_some h1
  have h4 := List.find?_some h1
  simp only [Bool.and_eq_true, beq_iff_eq] at h4
  have h5 := List.all_eq_true.mp mlk_all q h3
  unfold mlk at h5
  simp only [Bool.and_eq_true, decide_eq_true_eq] at h5
  cases h2
  rw [← h4.1, ← h4.2]
  have h6 := h5.2
  have h7 := h5.1
  by_cases hn : q.2.2.2.1 = true
  · rw [if_pos hn] at h6
    rw [hn] at h7
    exact Or.inl ⟨by simpa using h7, lwn_in h6 rfl⟩
  · rw [if_neg hn] at h6
    exact Or.inr (lwg_in h6 rfl)
theorem CL_spec {o i : Nat} {v : Int32} (h : CL o i = some v) : Jvm.Cond.constant (cn o) i v ∈ lwg := by
  unfold CL at h
  obtain ⟨q, h1, h2⟩ := Option.map_eq_some_iff.mp h
  have h3 := List.mem_of_find?_eq_some h1
  have h4 := List.find?_some h1
  simp only [Bool.and_eq_true, beq_iff_eq] at h4
  have h5 := List.all_eq_true.mp clk_all q h3
  unfold clk at h5
  simp only [decide_eq_true_eq] at h5
  cases h2
  rw [← h4.1, ← h4.2]
  exact lwg_in h5 rfl
theorem NL_spec {o i c : Nat} (h : NL o i = some c) : Jvm.Cond.classLink (cn o) i (cn c) ∈ lwg ∧ Jvm.Cond.instantiable (cn c) (nf c) ∈ lwg ∧ Jvm.Cond.initialized (cn c) ∈ lwg := by
  unfold NL at h
  obtain ⟨q, h1, h2⟩ := Option.map_eq_some_iff.mp h
  have h3 := List.mem_of_find?_eq_some h1
  have h4 := List.find?_some h1
  simp only [Bool.and_eq_true, beq_iff_eq] at h4
  have h5 := List.all_eq_true.mp nlk_all q h3
  unfold nlk at h5
  simp only [Bool.and_eq_true, decide_eq_true_eq] at h5
  cases h2
  rw [← h4.1, ← h4.2]
  exact ⟨lwg_in h5.1.1 rfl, lwg_in h5.1.2 rfl, lwg_in h5.2 rfl⟩
