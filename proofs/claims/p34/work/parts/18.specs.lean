/-! specs over the cells as functions; what the cells hold, for simp -/
def aS (bd : Nat) (ad : Nat → Nat) (n : Nat) (g : Nat → List Int32 → SG → Prop × Option Value × SG) : Sp := fun av S => match av with
  | .ref a :: r => ((S = emb (prj S) ∧ hI a < bd ∧ ad (hI a) = a ∧ r = (r.map toI).map Value.int ∧ r.length = n ∧ (g (hI a) (r.map toI) (prj S)).1), (g (hI a) (r.map toI) (prj S)).2.1, emb (g (hI a) (r.map toI) (prj S)).2.2)
  | _ => (False, none, svNil)
theorem aS_at {bd : Nat} {ad : Nat → Nat} {n : Nat} {g : Nat → List Int32 → SG → Prop × Option Value × SG} {i : Nat} {r : List Value} {σ : SG} (hi : i < bd) (had : hI (ad i) = i) : aS bd ad n g (.ref (ad i) :: r) (emb σ) = ((r = (r.map toI).map Value.int ∧ r.length = n ∧ (g i (r.map toI) σ).1), (g i (r.map toI) σ).2.1, emb (g i (r.map toI) σ).2.2) := by
  show ((emb σ = emb (prj (emb σ)) ∧ hI (ad i) < bd ∧ ad (hI (ad i)) = ad i ∧ r = (r.map toI).map Value.int ∧ r.length = n ∧ (g (hI (ad i)) (r.map toI) (prj (emb σ))).1), (g (hI (ad i)) (r.map toI) (prj (emb σ))).2.1, emb (g (hI (ad i)) (r.map toI) (prj (emb σ))).2.2) = _
  rw [had, prj_emb]
  simp [hi]
theorem Does_aS {y : Nat} {sp : Nat → Sp} {bd : Nat} {ad : Nat → Nat} {n : Nat} {g : Nat → List Int32 → SG → Prop × Option Value × SG} (hn : n + 1 ≤ mtL y) (h : ∀ (sc : Nat × (Nat → Int32)) (i : Nat) (l : List Int32) (σ : SG), i < bd → hI (ad i) = i → l.length = n → (g i l σ).1 → Vf y sp ((127, SLT), sc) 0 ((.ref (ad i) :: l.map Value.int) ++ List.replicate (mtL y - (n + 1)) .null) [] (emb σ) (fun r S' => r = (g i l σ).2.1 ∧ S' = emb (g i l σ).2.2)) : Does y sp (aS bd ad n g) := by
  intro sc av S hp
  match av, hp with
  | .ref a :: r, hp =>
    obtain ⟨h1, h2, h3, h4, h5, h6⟩ := hp
    have hlen : (r.map toI).length = n := by rw [List.length_map]; exact h5
    have key := h sc (hI a) (r.map toI) (prj S) h2 (by rw [h3]) hlen h6
    rw [h3, ← h4, ← h1] at key
    refine ⟨by rw [List.length_cons, h5]; exact hn, allc (of_eq_true (ct1_r a)) (fun w hw => ?_), ?_, ?_, ?_⟩
    · rw [h4] at hw
      obtain ⟨x, -, rfl⟩ := List.mem_map.mp hw
      rfl
    · rw [h1]; exact Nat.le_refl _
    · rw [h1]; exact Nat.le_refl _
    · rw [List.length_cons, h5]
      exact key
/-- methods without an object that touch no cell -/
def fS (n : Nat) (g : List Int32 → Prop × Option Value) : Sp := fun av S => ((av = (av.map toI).map Value.int ∧ av.length = n ∧ (g (av.map toI)).1), (g (av.map toI)).2, S)
theorem Does_fS {y : Nat} {sp : Nat → Sp} {n : Nat} {g : List Int32 → Prop × Option Value} (hn : n ≤ mtL y) (h : ∀ (e : Nat × (Nat → Int32)) (l : List Int32) (S : MS), l.length = n → (g l).1 → Vf y sp ((S.1, S.2.1), e) 0 (l.map Value.int ++ List.replicate (mtL y - n) .null) [] S (fun r S' => r = (g l).2 ∧ S' = S)) : Does y sp (fS n g) := by
  intro sc av S hp
  obtain ⟨h4, h5, h6⟩ := hp
  have key := h sc (av.map toI) S (by rw [List.length_map]; exact h5) h6
  rw [← h4] at key
  refine ⟨by rw [h5]; exact hn, fun w hw => ?_, Nat.le_refl _, Nat.le_refl _, ?_⟩
  · rw [h4] at hw
    obtain ⟨x, -, rfl⟩ := List.mem_map.mp hw
    rfl
  · rw [h5]
    exact key

def gL0 (g : Nat → SG → Prop × Option Value × SG) : Nat → List Int32 → SG → Prop × Option Value × SG := fun i l σ => match l with
  | [] => g i σ
  | _ => (False, none, σ)
theorem aS0_at {bd : Nat} {ad : Nat → Nat} {g : Nat → SG → Prop × Option Value × SG} {i : Nat} {σ : SG} (hi : i < bd) (had : hI (ad i) = i) : aS bd ad 0 (gL0 g) [.ref (ad i)] (emb σ) = ((g i σ).1, (g i σ).2.1, emb (g i σ).2.2) := by
  rw [aS_at hi had]
  simp [gL0, toI]
theorem Does_aS0 {y : Nat} {sp : Nat → Sp} {bd : Nat} {ad : Nat → Nat} {g : Nat → SG → Prop × Option Value × SG} (hn : 1 ≤ mtL y) (h : ∀ (sc : Nat × (Nat → Int32)) (i : Nat) (σ : SG), i < bd → hI (ad i) = i → (g i σ).1 → Vf y sp ((127, SLT), sc) 0 ([.ref (ad i)] ++ List.replicate (mtL y - 1) .null) [] (emb σ) (fun r S' => r = (g i σ).2.1 ∧ S' = emb (g i σ).2.2)) : Does y sp (aS bd ad 0 (gL0 g)) := Does_aS hn (fun sc i l σ hi had hl hg => by
  match l, hl, hg with
  | [], _, hg => exact h sc i σ hi had hg)
def gL1 (g : Nat → Int32 → SG → Prop × Option Value × SG) : Nat → List Int32 → SG → Prop × Option Value × SG := fun i l σ => match l with
  | [x1] => g i x1 σ
  | _ => (False, none, σ)
theorem aS1_at {bd : Nat} {ad : Nat → Nat} {g : Nat → Int32 → SG → Prop × Option Value × SG} {i : Nat} {x1 : Int32} {σ : SG} (hi : i < bd) (had : hI (ad i) = i) : aS bd ad 1 (gL1 g) [.ref (ad i), .int x1] (emb σ) = ((g i x1 σ).1, (g i x1 σ).2.1, emb (g i x1 σ).2.2) := by
  rw [aS_at hi had]
  simp [gL1, toI]
theorem Does_aS1 {y : Nat} {sp : Nat → Sp} {bd : Nat} {ad : Nat → Nat} {g : Nat → Int32 → SG → Prop × Option Value × SG} (hn : 2 ≤ mtL y) (h : ∀ (sc : Nat × (Nat → Int32)) (i : Nat) (x1 : Int32) (σ : SG), i < bd → hI (ad i) = i → (g i x1 σ).1 → Vf y sp ((127, SLT), sc) 0 ([.ref (ad i), .int x1] ++ List.replicate (mtL y - 2) .null) [] (emb σ) (fun r S' => r = (g i x1 σ).2.1 ∧ S' = emb (g i x1 σ).2.2)) : Does y sp (aS bd ad 1 (gL1 g)) := Does_aS hn (fun sc i l σ hi had hl hg => by
  match l, hl, hg with
  | [x1], _, hg => exact h sc i x1 σ hi had hg)
def gL2 (g : Nat → Int32 → Int32 → SG → Prop × Option Value × SG) : Nat → List Int32 → SG → Prop × Option Value × SG := fun i l σ => match l with
  | [x1, x2] => g i x1 x2 σ
  | _ => (False, none, σ)
theorem aS2_at {bd : Nat} {ad : Nat → Nat} {g : Nat → Int32 → Int32 → SG → Prop × Option Value × SG} {i : Nat} {x1 x2 : Int32} {σ : SG} (hi : i < bd) (had : hI (ad i) = i) : aS bd ad 2 (gL2 g) [.ref (ad i), .int x1, .int x2] (emb σ) = ((g i x1 x2 σ).1, (g i x1 x2 σ).2.1, emb (g i x1 x2 σ).2.2) := by
  rw [aS_at hi had]
  simp [gL2, toI]
theorem Does_aS2 {y : Nat} {sp : Nat → Sp} {bd : Nat} {ad : Nat → Nat} {g : Nat → Int32 → Int32 → SG → Prop × Option Value × SG} (hn : 3 ≤ mtL y) (h : ∀ (sc : Nat × (Nat → Int32)) (i : Nat) (x1 : Int32) (x2 : Int32) (σ : SG), i < bd → hI (ad i) = i → (g i x1 x2 σ).1 → Vf y sp ((127, SLT), sc) 0 ([.ref (ad i), .int x1, .int x2] ++ List.replicate (mtL y - 3) .null) [] (emb σ) (fun r S' => r = (g i x1 x2 σ).2.1 ∧ S' = emb (g i x1 x2 σ).2.2)) : Does y sp (aS bd ad 2 (gL2 g)) := Does_aS hn (fun sc i l σ hi had hl hg => by
  match l, hl, hg with
  | [x1, x2], _, hg => exact h sc i x1 x2 σ hi had hg)
def gL3 (g : Nat → Int32 → Int32 → Int32 → SG → Prop × Option Value × SG) : Nat → List Int32 → SG → Prop × Option Value × SG := fun i l σ => match l with
  | [x1, x2, x3] => g i x1 x2 x3 σ
  | _ => (False, none, σ)
theorem aS3_at {bd : Nat} {ad : Nat → Nat} {g : Nat → Int32 → Int32 → Int32 → SG → Prop × Option Value × SG} {i : Nat} {x1 x2 x3 : Int32} {σ : SG} (hi : i < bd) (had : hI (ad i) = i) : aS bd ad 3 (gL3 g) [.ref (ad i), .int x1, .int x2, .int x3] (emb σ) = ((g i x1 x2 x3 σ).1, (g i x1 x2 x3 σ).2.1, emb (g i x1 x2 x3 σ).2.2) := by
  rw [aS_at hi had]
  simp [gL3, toI]
theorem Does_aS3 {y : Nat} {sp : Nat → Sp} {bd : Nat} {ad : Nat → Nat} {g : Nat → Int32 → Int32 → Int32 → SG → Prop × Option Value × SG} (hn : 4 ≤ mtL y) (h : ∀ (sc : Nat × (Nat → Int32)) (i : Nat) (x1 : Int32) (x2 : Int32) (x3 : Int32) (σ : SG), i < bd → hI (ad i) = i → (g i x1 x2 x3 σ).1 → Vf y sp ((127, SLT), sc) 0 ([.ref (ad i), .int x1, .int x2, .int x3] ++ List.replicate (mtL y - 4) .null) [] (emb σ) (fun r S' => r = (g i x1 x2 x3 σ).2.1 ∧ S' = emb (g i x1 x2 x3 σ).2.2)) : Does y sp (aS bd ad 3 (gL3 g)) := Does_aS hn (fun sc i l σ hi had hl hg => by
  match l, hl, hg with
  | [x1, x2, x3], _, hg => exact h sc i x1 x2 x3 σ hi had hg)
def gL4 (g : Nat → Int32 → Int32 → Int32 → Int32 → SG → Prop × Option Value × SG) : Nat → List Int32 → SG → Prop × Option Value × SG := fun i l σ => match l with
  | [x1, x2, x3, x4] => g i x1 x2 x3 x4 σ
  | _ => (False, none, σ)
theorem aS4_at {bd : Nat} {ad : Nat → Nat} {g : Nat → Int32 → Int32 → Int32 → Int32 → SG → Prop × Option Value × SG} {i : Nat} {x1 x2 x3 x4 : Int32} {σ : SG} (hi : i < bd) (had : hI (ad i) = i) : aS bd ad 4 (gL4 g) [.ref (ad i), .int x1, .int x2, .int x3, .int x4] (emb σ) = ((g i x1 x2 x3 x4 σ).1, (g i x1 x2 x3 x4 σ).2.1, emb (g i x1 x2 x3 x4 σ).2.2) := by
  rw [aS_at hi had]
  simp [gL4, toI]
theorem Does_aS4 {y : Nat} {sp : Nat → Sp} {bd : Nat} {ad : Nat → Nat} {g : Nat → Int32 → Int32 → Int32 → Int32 → SG → Prop × Option Value × SG} (hn : 5 ≤ mtL y) (h : ∀ (sc : Nat × (Nat → Int32)) (i : Nat) (x1 : Int32) (x2 : Int32) (x3 : Int32) (x4 : Int32) (σ : SG), i < bd → hI (ad i) = i → (g i x1 x2 x3 x4 σ).1 → Vf y sp ((127, SLT), sc) 0 ([.ref (ad i), .int x1, .int x2, .int x3, .int x4] ++ List.replicate (mtL y - 5) .null) [] (emb σ) (fun r S' => r = (g i x1 x2 x3 x4 σ).2.1 ∧ S' = emb (g i x1 x2 x3 x4 σ).2.2)) : Does y sp (aS bd ad 4 (gL4 g)) := Does_aS hn (fun sc i l σ hi had hl hg => by
  match l, hl, hg with
  | [x1, x2, x3, x4], _, hg => exact h sc i x1 x2 x3 x4 σ hi had hg)
def gF1 (g : Int32 → Prop × Option Value) : List Int32 → Prop × Option Value := fun l => match l with
  | [x1] => g x1
  | _ => (False, none)
theorem fS1_at {g : Int32 → Prop × Option Value} {x1 : Int32} {S : MS} : fS 1 (gF1 g) [.int x1] S = ((g x1).1, (g x1).2, S) := by
  simp [fS, gF1, toI]
theorem Does_fS1 {y : Nat} {sp : Nat → Sp} {g : Int32 → Prop × Option Value} (hn : 1 ≤ mtL y) (h : ∀ (e : Nat × (Nat → Int32)) (x1 : Int32) (S : MS), (g x1).1 → Vf y sp ((S.1, S.2.1), e) 0 ([.int x1] ++ List.replicate (mtL y - 1) .null) [] S (fun r S' => r = (g x1).2 ∧ S' = S)) : Does y sp (fS 1 (gF1 g)) := Does_fS hn (fun e l S hl hg => by
  match l, hl, hg with
  | [x1], _, hg => exact h e x1 S hg)
def gF2 (g : Int32 → Int32 → Prop × Option Value) : List Int32 → Prop × Option Value := fun l => match l with
  | [x1, x2] => g x1 x2
  | _ => (False, none)
theorem fS2_at {g : Int32 → Int32 → Prop × Option Value} {x1 x2 : Int32} {S : MS} : fS 2 (gF2 g) [.int x1, .int x2] S = ((g x1 x2).1, (g x1 x2).2, S) := by
  simp [fS, gF2, toI]
theorem Does_fS2 {y : Nat} {sp : Nat → Sp} {g : Int32 → Int32 → Prop × Option Value} (hn : 2 ≤ mtL y) (h : ∀ (e : Nat × (Nat → Int32)) (x1 x2 : Int32) (S : MS), (g x1 x2).1 → Vf y sp ((S.1, S.2.1), e) 0 ([.int x1, .int x2] ++ List.replicate (mtL y - 2) .null) [] S (fun r S' => r = (g x1 x2).2 ∧ S' = S)) : Does y sp (fS 2 (gF2 g)) := Does_fS hn (fun e l S hl hg => by
  match l, hl, hg with
  | [x1, x2], _, hg => exact h e x1 x2 S hg)
def gF3 (g : Int32 → Int32 → Int32 → Prop × Option Value) : List Int32 → Prop × Option Value := fun l => match l with
  | [x1, x2, x3] => g x1 x2 x3
  | _ => (False, none)
theorem fS3_at {g : Int32 → Int32 → Int32 → Prop × Option Value} {x1 x2 x3 : Int32} {S : MS} : fS 3 (gF3 g) [.int x1, .int x2, .int x3] S = ((g x1 x2 x3).1, (g x1 x2 x3).2, S) := by
  simp [fS, gF3, toI]
theorem Does_fS3 {y : Nat} {sp : Nat → Sp} {g : Int32 → Int32 → Int32 → Prop × Option Value} (hn : 3 ≤ mtL y) (h : ∀ (e : Nat × (Nat → Int32)) (x1 x2 x3 : Int32) (S : MS), (g x1 x2 x3).1 → Vf y sp ((S.1, S.2.1), e) 0 ([.int x1, .int x2, .int x3] ++ List.replicate (mtL y - 3) .null) [] S (fun r S' => r = (g x1 x2 x3).2 ∧ S' = S)) : Does y sp (fS 3 (gF3 g)) := Does_fS hn (fun e l S hl hg => by
  match l, hl, hg with
  | [x1, x2, x3], _, hg => exact h e x1 x2 x3 S hg)
def gF4 (g : Int32 → Int32 → Int32 → Int32 → Prop × Option Value) : List Int32 → Prop × Option Value := fun l => match l with
  | [x1, x2, x3, x4] => g x1 x2 x3 x4
  | _ => (False, none)
theorem fS4_at {g : Int32 → Int32 → Int32 → Int32 → Prop × Option Value} {x1 x2 x3 x4 : Int32} {S : MS} : fS 4 (gF4 g) [.int x1, .int x2, .int x3, .int x4] S = ((g x1 x2 x3 x4).1, (g x1 x2 x3 x4).2, S) := by
  simp [fS, gF4, toI]
theorem Does_fS4 {y : Nat} {sp : Nat → Sp} {g : Int32 → Int32 → Int32 → Int32 → Prop × Option Value} (hn : 4 ≤ mtL y) (h : ∀ (e : Nat × (Nat → Int32)) (x1 x2 x3 x4 : Int32) (S : MS), (g x1 x2 x3 x4).1 → Vf y sp ((S.1, S.2.1), e) 0 ([.int x1, .int x2, .int x3, .int x4] ++ List.replicate (mtL y - 4) .null) [] S (fun r S' => r = (g x1 x2 x3 x4).2 ∧ S' = S)) : Does y sp (fS 4 (gF4 g)) := Does_fS hn (fun e l S hl hg => by
  match l, hl, hg with
  | [x1, x2, x3, x4], _, hg => exact h e x1 x2 x3 x4 S hg)
theorem hI_h {i : Nat} (hi : i < 7) : hI (hutA i) = i := (hlem i hi 0 (by decide)).2.1
theorem hI_t {i k : Nat} (hi : i < 7) (hk : k < 8) : hI (tabA i k) = i := (hlem i hi (2 * k + 1) (by omega)).2.1
theorem emb1 (σ : SG) : (emb σ).1 = 127 := rfl
theorem emb2 (σ : SG) : (emb σ).2.1 = SLT := rfl
theorem hA_lt {i j : Nat} (hi : i < 7) (hj : j < 17) : hutA i + j < 127 := (hlem i hi j hj).2.2.2
theorem ob_h {i : Nat} {σ : SG} (hi : i < 7) : obj (emb σ) (hutA i) 0 = True := eq_true (by
  obtain ⟨h1, h2, h3, h4⟩ := hlem i hi 0 (by decide)
  rw [Nat.add_zero] at h1 h2 h3 h4
  refine ⟨by omega, h4, ?_, by decide⟩
  show (kdE (hutA i)).1 = 0
  unfold kdE
  rw [if_pos h1, if_pos h3])
theorem kd_t {i k : Nat} (hi : i < 7) (hk : k < 8) : kdE (tabA i k) = (3, 0) := by
  obtain ⟨h1, h2, h3, h4⟩ := hlem i hi (2 * k + 1) (by omega)
  unfold kdE tabA
  rw [if_pos h1, h3, if_neg (by omega), if_pos (by omega)]
theorem kd_a {i k : Nat} (hi : i < 7) (hk : k < 8) : kdE (arrA i k) = (7, tln k) := by
  obtain ⟨h1, h2, h3, h4⟩ := hlem i hi (2 * k + 2) (by omega)
  unfold kdE arrA
  rw [if_pos h1, h3, if_neg (by omega), if_neg (by omega), show (2 * k + 2 - 2) / 2 = k by omega]
theorem ob_t {i k : Nat} {σ : SG} (hi : i < 7) (hk : k < 8) : obj (emb σ) (tabA i k) 3 := by
  have h4 := hA_lt hi (show 2 * k + 1 < 17 by omega)
  refine ⟨by unfold tabA; omega, by unfold tabA; exact h4, ?_, by decide⟩
  show (kdE (tabA i k)).1 = 3
  rw [kd_t hi hk]
theorem ar_a {i k : Nat} {σ : SG} (hi : i < 7) (hk : k < 8) : ari (emb σ) (arrA i k) 7 := by
  have h4 := hA_lt hi (show 2 * k + 2 < 17 by omega)
  refine ⟨by unfold arrA; omega, by unfold arrA; exact h4, ?_⟩
  show (kdE (arrA i k)).1 = 7
  rw [kd_a hi hk]
theorem vl_hr {i s : Nat} {σ : SG} (hi : i < 7) (hs : s < 8) : (emb σ).2.2.2 (hutA i) s = .ref (tabA i s) := by
  obtain ⟨h1, h2, h3, h4⟩ := hlem i hi 0 (by decide)
  rw [Nat.add_zero] at h1 h2 h3
  show vlE σ (hutA i) s = _
  unfold vlE loc
  rw [if_pos h1, if_pos h3, if_pos hs]
  show cst (hutA i) s = _
  unfold cst
  rw [if_pos h1, if_pos h3, h2]
theorem vl_hs {i t : Nat} {σ : SG} (hi : i < 7) : (emb σ).2.2.2 (hutA i) (8 + t) = .int (σ i 8 t) := by
  have h := vlE_at σ i 8 t
  unfold adr slo at h
  rw [if_pos hi, if_pos hi, if_neg (by decide), if_neg (by decide)] at h
  exact h
theorem vl_t0 {i k : Nat} {σ : SG} (hi : i < 7) (hk : k < 8) : (emb σ).2.2.2 (tabA i k) 0 = .int (tcl k) := by
  obtain ⟨h1, h2, h3, h4⟩ := hlem i hi (2 * k + 1) (by omega)
  show vlE σ (hutA i + (2 * k + 1)) 0 = _
  unfold vlE loc
  rw [if_pos h1, h3, if_neg (by omega), if_pos (by omega)]
  show cst (hutA i + (2 * k + 1)) 0 = _
  unfold cst
  rw [if_pos h1, h3, if_neg (by omega), if_pos rfl, show (2 * k + 1 - 1) / 2 = k by omega]
theorem vl_t1 {i k : Nat} {σ : SG} (hi : i < 7) (hk : k < 8) : (emb σ).2.2.2 (tabA i k) 1 = .ref (arrA i k) := by
  obtain ⟨h1, h2, h3, h4⟩ := hlem i hi (2 * k + 1) (by omega)
  show vlE σ (hutA i + (2 * k + 1)) 1 = _
  unfold vlE loc
  rw [if_pos h1, h3, if_neg (by omega), if_pos (by omega)]
  show cst (hutA i + (2 * k + 1)) 1 = _
  unfold cst
  rw [if_pos h1, h3, if_neg (by omega), if_neg (by omega), if_pos rfl]
  rfl
theorem vl_a {i t : Nat} {k : Fin 9} {σ : SG} (hi : i < 7) (hk : k.val < 8) : (emb σ).2.2.2 (arrA i k.val) t = .int (σ i k t) := by
  have h := vlE_at σ i k t
  unfold adr slo at h
  rw [if_pos hi, if_pos hi, if_pos hk, if_pos hk] at h
  exact h
theorem set_a {i t : Nat} {k : Fin 9} {x : Int32} {σ : SG} (hi : i < 7) (hk : k.val < 8) : svSet (emb σ) (arrA i k.val) t (.int x) = emb (up1 σ i (up2 (σ i) k t x)) := by
  have h := emb_set σ i k t x
  unfold adr slo at h
  rw [if_pos hi, if_pos hi, if_pos hk, if_pos hk] at h
  exact h
theorem set_h {i t : Nat} {x : Int32} {σ : SG} (hi : i < 7) : svSet (emb σ) (hutA i) (8 + t) (.int x) = emb (up1 σ i (up2 (σ i) 8 t x)) := by
  have h := emb_set σ i 8 t x
  unfold adr slo at h
  rw [if_pos hi, if_pos hi, if_neg (by decide), if_neg (by decide)] at h
  exact h
theorem tln_lt (k : Nat) : tln k < 100000 := by unfold tln; split <;> omega
theorem ta_ne (i k : Nat) : arrA i k ≠ tabA i k := by unfold arrA tabA; omega
theorem tb_h {i k : Nat} {σ : SG} (hi : i < 7) (hk : k < 8) : tb (emb σ) (tabA i k) = arrA i k := by unfold tb; rw [vl_t1 hi hk]; rfl
theorem tbc_h {i k : Nat} {σ : SG} (hi : i < 7) (hk : k < 8) : tbc (emb σ) (tabA i k) = tcl k := by unfold tbc; rw [vl_t0 hi hk]; rfl
theorem tbl_h {i k : Nat} {σ : SG} (hi : i < 7) (hk : k < 8) : tbl (emb σ) (tabA i k) = tln k := by
  unfold tbl
  rw [tb_h hi hk]
  show (kdE (arrA i k)).2 = _
  rw [kd_a hi hk]
theorem tbok_h {i k : Nat} {σ : SG} (hi : i < 7) (hk : k < 8) : tbok (emb σ) (tabA i k) := by
  unfold tbok
  rw [tb_h hi hk, tbc_h hi hk, tbl_h hi hk]
  exact ⟨ob_t hi hk, vl_t0 hi hk, vl_t1 hi hk, ar_a hi hk, tln_lt k, ta_ne i k⟩
theorem tbf_h {i : Nat} {k : Fin 9} {σ : SG} (hi : i < 7) (hk : k.val < 8) : tbf (emb σ) (tabA i k.val) = σ i k := by
  funext j
  unfold tbf
  rw [tb_h hi hk, vl_a hi hk]
  rfl
/-- a cell of a row and column is written -/
def pt (w : HV) (k : Fin 9) (cols : Int32) (len : Nat) (r c x : Int32) : HV := if r * cols + c < 0 then w else if r * cols + c < Int32.ofNat len then up2 w k (r * cols + c).toNatClampNeg x else w
/-- more comes to it -/
def pa (w : HV) (k : Fin 9) (cols : Int32) (len : Nat) (r c x : Int32) : HV := if r * cols + c < 0 then w else if r * cols + c < Int32.ofNat len then up2 w k (r * cols + c).toNatClampNeg (w k (r * cols + c).toNatClampNeg + x) else w
theorem up1_self (σ : SG) (i : Nat) : up1 σ i (σ i) = σ := by
  funext j
  unfold up1
  split
  · subst_vars; rfl
  · rfl
theorem up1_at (σ : SG) (i : Nat) (w : HV) : up1 σ i w i = w := by unfold up1; rw [if_pos rfl]
theorem up1_ne (σ : SG) {i j : Nat} (w : HV) (h : j ≠ i) : up1 σ i w j = σ j := by unfold up1; rw [if_neg h]
theorem up1_up1 (σ : SG) (i : Nat) (w v : HV) : up1 (up1 σ i w) i v = up1 σ i v := by
  funext j
  unfold up1
  split <;> rfl
theorem qT_at {i : Nat} {k : Fin 9} {r c : Int32} {σ : SG} (hi : i < 7) (hk : k.val < 8) : f_T_at [.ref (tabA i k.val), .int r, .int c] (emb σ) = (True, some (.int (at_ (σ i k) (tcl k.val) (tln k.val) r c)), emb σ) := by
  show (tbok (emb σ) (tabA i k.val), _, _) = _
  rw [tbf_h hi hk, tbc_h hi hk, tbl_h hi hk, eq_true (tbok_h hi hk)]
theorem qT_put {i : Nat} {k : Fin 9} {r c x : Int32} {σ : SG} (hi : i < 7) (hk : k.val < 8) : f_T_put [.ref (tabA i k.val), .int r, .int c, .int x] (emb σ) = (True, none, emb (up1 σ i (pt (σ i) k (tcl k.val) (tln k.val) r c x))) := by
  show (tbok (emb σ) (tabA i k.val), (none : Option Value), if r * tbc (emb σ) (tabA i k.val) + c < 0 then emb σ else if r * tbc (emb σ) (tabA i k.val) + c < Int32.ofNat (tbl (emb σ) (tabA i k.val)) then svSet (emb σ) (tb (emb σ) (tabA i k.val)) (r * tbc (emb σ) (tabA i k.val) + c).toNatClampNeg (.int x) else emb σ) = _
  rw [tbc_h hi hk, tbl_h hi hk, tb_h hi hk, eq_true (tbok_h hi hk), set_a hi hk]
  unfold pt
  split
  · rw [up1_self]
  · split
    · rfl
    · rw [up1_self]
theorem qT_add {i : Nat} {k : Fin 9} {r c x : Int32} {σ : SG} (hi : i < 7) (hk : k.val < 8) : f_T_add [.ref (tabA i k.val), .int r, .int c, .int x] (emb σ) = (True, none, emb (up1 σ i (pa (σ i) k (tcl k.val) (tln k.val) r c x))) := by
  show (tbok (emb σ) (tabA i k.val), (none : Option Value), if r * tbc (emb σ) (tabA i k.val) + c < 0 then emb σ else if r * tbc (emb σ) (tabA i k.val) + c < Int32.ofNat (tbl (emb σ) (tabA i k.val)) then svSet (emb σ) (tb (emb σ) (tabA i k.val)) (r * tbc (emb σ) (tabA i k.val) + c).toNatClampNeg (.int (tbf (emb σ) (tabA i k.val) (r * tbc (emb σ) (tabA i k.val) + c).toNatClampNeg + x)) else emb σ) = _
  rw [tbf_h hi hk, tbc_h hi hk, tbl_h hi hk, tb_h hi hk, eq_true (tbok_h hi hk), set_a hi hk]
  unfold pa
  split
  · rw [up1_self]
  · split
    · rfl
    · rw [up1_self]
theorem qT_at_0 {i : Nat} {r c : Int32} {σ : SG} (hi : i < 7) : f_T_at [.ref (tabA i 0), .int r, .int c] (emb σ) = (True, some (.int (at_ (σ i 0) 1 1000 r c)), emb σ) := qT_at (k := 0) hi (by decide)
theorem qT_put_0 {i : Nat} {r c x : Int32} {σ : SG} (hi : i < 7) : f_T_put [.ref (tabA i 0), .int r, .int c, .int x] (emb σ) = (True, none, emb (up1 σ i (pt (σ i) 0 1 1000 r c x))) := qT_put (k := 0) hi (by decide)
theorem qT_add_0 {i : Nat} {r c x : Int32} {σ : SG} (hi : i < 7) : f_T_add [.ref (tabA i 0), .int r, .int c, .int x] (emb σ) = (True, none, emb (up1 σ i (pa (σ i) 0 1 1000 r c x))) := qT_add (k := 0) hi (by decide)
theorem vh_0 {i : Nat} {σ : SG} (hi : i < 7) : (emb σ).2.2.2 (hutA i) 0 = .ref (tabA i 0) := vl_hr hi (by decide)
theorem vs_0 {i : Nat} {σ : SG} (hi : i < 7) : (emb σ).2.2.2 (hutA i) 8 = .int (σ i 8 0) := vl_hs (t := 0) hi
theorem ss_0 {i : Nat} {x : Int32} {σ : SG} (hi : i < 7) : svSet (emb σ) (hutA i) 8 (.int x) = emb (up1 σ i (up2 (σ i) 8 0 x)) := set_h (t := 0) hi
theorem obt_0 {i : Nat} {σ : SG} (hi : i < 7) : obj (emb σ) (tabA i 0) 3 = True := eq_true (ob_t hi (by decide))
theorem qT_at_1 {i : Nat} {r c : Int32} {σ : SG} (hi : i < 7) : f_T_at [.ref (tabA i 1), .int r, .int c] (emb σ) = (True, some (.int (at_ (σ i 1) 1 5 r c)), emb σ) := qT_at (k := 1) hi (by decide)
theorem qT_put_1 {i : Nat} {r c x : Int32} {σ : SG} (hi : i < 7) : f_T_put [.ref (tabA i 1), .int r, .int c, .int x] (emb σ) = (True, none, emb (up1 σ i (pt (σ i) 1 1 5 r c x))) := qT_put (k := 1) hi (by decide)
theorem qT_add_1 {i : Nat} {r c x : Int32} {σ : SG} (hi : i < 7) : f_T_add [.ref (tabA i 1), .int r, .int c, .int x] (emb σ) = (True, none, emb (up1 σ i (pa (σ i) 1 1 5 r c x))) := qT_add (k := 1) hi (by decide)
theorem vh_1 {i : Nat} {σ : SG} (hi : i < 7) : (emb σ).2.2.2 (hutA i) 1 = .ref (tabA i 1) := vl_hr hi (by decide)
theorem vs_1 {i : Nat} {σ : SG} (hi : i < 7) : (emb σ).2.2.2 (hutA i) 9 = .int (σ i 8 1) := vl_hs (t := 1) hi
theorem ss_1 {i : Nat} {x : Int32} {σ : SG} (hi : i < 7) : svSet (emb σ) (hutA i) 9 (.int x) = emb (up1 σ i (up2 (σ i) 8 1 x)) := set_h (t := 1) hi
theorem obt_1 {i : Nat} {σ : SG} (hi : i < 7) : obj (emb σ) (tabA i 1) 3 = True := eq_true (ob_t hi (by decide))
theorem qT_at_2 {i : Nat} {r c : Int32} {σ : SG} (hi : i < 7) : f_T_at [.ref (tabA i 2), .int r, .int c] (emb σ) = (True, some (.int (at_ (σ i 2) 8 128 r c)), emb σ) := qT_at (k := 2) hi (by decide)
theorem qT_put_2 {i : Nat} {r c x : Int32} {σ : SG} (hi : i < 7) : f_T_put [.ref (tabA i 2), .int r, .int c, .int x] (emb σ) = (True, none, emb (up1 σ i (pt (σ i) 2 8 128 r c x))) := qT_put (k := 2) hi (by decide)
theorem qT_add_2 {i : Nat} {r c x : Int32} {σ : SG} (hi : i < 7) : f_T_add [.ref (tabA i 2), .int r, .int c, .int x] (emb σ) = (True, none, emb (up1 σ i (pa (σ i) 2 8 128 r c x))) := qT_add (k := 2) hi (by decide)
theorem vh_2 {i : Nat} {σ : SG} (hi : i < 7) : (emb σ).2.2.2 (hutA i) 2 = .ref (tabA i 2) := vl_hr hi (by decide)
theorem vs_2 {i : Nat} {σ : SG} (hi : i < 7) : (emb σ).2.2.2 (hutA i) 10 = .int (σ i 8 2) := vl_hs (t := 2) hi
theorem ss_2 {i : Nat} {x : Int32} {σ : SG} (hi : i < 7) : svSet (emb σ) (hutA i) 10 (.int x) = emb (up1 σ i (up2 (σ i) 8 2 x)) := set_h (t := 2) hi
theorem obt_2 {i : Nat} {σ : SG} (hi : i < 7) : obj (emb σ) (tabA i 2) 3 = True := eq_true (ob_t hi (by decide))
theorem qT_at_3 {i : Nat} {r c : Int32} {σ : SG} (hi : i < 7) : f_T_at [.ref (tabA i 3), .int r, .int c] (emb σ) = (True, some (.int (at_ (σ i 3) 4 40 r c)), emb σ) := qT_at (k := 3) hi (by decide)
theorem qT_put_3 {i : Nat} {r c x : Int32} {σ : SG} (hi : i < 7) : f_T_put [.ref (tabA i 3), .int r, .int c, .int x] (emb σ) = (True, none, emb (up1 σ i (pt (σ i) 3 4 40 r c x))) := qT_put (k := 3) hi (by decide)
theorem qT_add_3 {i : Nat} {r c x : Int32} {σ : SG} (hi : i < 7) : f_T_add [.ref (tabA i 3), .int r, .int c, .int x] (emb σ) = (True, none, emb (up1 σ i (pa (σ i) 3 4 40 r c x))) := qT_add (k := 3) hi (by decide)
theorem vh_3 {i : Nat} {σ : SG} (hi : i < 7) : (emb σ).2.2.2 (hutA i) 3 = .ref (tabA i 3) := vl_hr hi (by decide)
theorem vs_3 {i : Nat} {σ : SG} (hi : i < 7) : (emb σ).2.2.2 (hutA i) 11 = .int (σ i 8 3) := vl_hs (t := 3) hi
theorem ss_3 {i : Nat} {x : Int32} {σ : SG} (hi : i < 7) : svSet (emb σ) (hutA i) 11 (.int x) = emb (up1 σ i (up2 (σ i) 8 3 x)) := set_h (t := 3) hi
theorem obt_3 {i : Nat} {σ : SG} (hi : i < 7) : obj (emb σ) (tabA i 3) 3 = True := eq_true (ob_t hi (by decide))
theorem qT_at_4 {i : Nat} {r c : Int32} {σ : SG} (hi : i < 7) : f_T_at [.ref (tabA i 4), .int r, .int c] (emb σ) = (True, some (.int (at_ (σ i 4) 3 18 r c)), emb σ) := qT_at (k := 4) hi (by decide)
theorem qT_put_4 {i : Nat} {r c x : Int32} {σ : SG} (hi : i < 7) : f_T_put [.ref (tabA i 4), .int r, .int c, .int x] (emb σ) = (True, none, emb (up1 σ i (pt (σ i) 4 3 18 r c x))) := qT_put (k := 4) hi (by decide)
theorem qT_add_4 {i : Nat} {r c x : Int32} {σ : SG} (hi : i < 7) : f_T_add [.ref (tabA i 4), .int r, .int c, .int x] (emb σ) = (True, none, emb (up1 σ i (pa (σ i) 4 3 18 r c x))) := qT_add (k := 4) hi (by decide)
theorem vh_4 {i : Nat} {σ : SG} (hi : i < 7) : (emb σ).2.2.2 (hutA i) 4 = .ref (tabA i 4) := vl_hr hi (by decide)
theorem vs_4 {i : Nat} {σ : SG} (hi : i < 7) : (emb σ).2.2.2 (hutA i) 12 = .int (σ i 8 4) := vl_hs (t := 4) hi
theorem ss_4 {i : Nat} {x : Int32} {σ : SG} (hi : i < 7) : svSet (emb σ) (hutA i) 12 (.int x) = emb (up1 σ i (up2 (σ i) 8 4 x)) := set_h (t := 4) hi
theorem obt_4 {i : Nat} {σ : SG} (hi : i < 7) : obj (emb σ) (tabA i 4) 3 = True := eq_true (ob_t hi (by decide))
theorem qT_at_5 {i : Nat} {r c : Int32} {σ : SG} (hi : i < 7) : f_T_at [.ref (tabA i 5), .int r, .int c] (emb σ) = (True, some (.int (at_ (σ i 5) 7 70 r c)), emb σ) := qT_at (k := 5) hi (by decide)
theorem qT_put_5 {i : Nat} {r c x : Int32} {σ : SG} (hi : i < 7) : f_T_put [.ref (tabA i 5), .int r, .int c, .int x] (emb σ) = (True, none, emb (up1 σ i (pt (σ i) 5 7 70 r c x))) := qT_put (k := 5) hi (by decide)
theorem qT_add_5 {i : Nat} {r c x : Int32} {σ : SG} (hi : i < 7) : f_T_add [.ref (tabA i 5), .int r, .int c, .int x] (emb σ) = (True, none, emb (up1 σ i (pa (σ i) 5 7 70 r c x))) := qT_add (k := 5) hi (by decide)
theorem vh_5 {i : Nat} {σ : SG} (hi : i < 7) : (emb σ).2.2.2 (hutA i) 5 = .ref (tabA i 5) := vl_hr hi (by decide)
theorem vs_5 {i : Nat} {σ : SG} (hi : i < 7) : (emb σ).2.2.2 (hutA i) 13 = .int (σ i 8 5) := vl_hs (t := 5) hi
theorem ss_5 {i : Nat} {x : Int32} {σ : SG} (hi : i < 7) : svSet (emb σ) (hutA i) 13 (.int x) = emb (up1 σ i (up2 (σ i) 8 5 x)) := set_h (t := 5) hi
theorem obt_5 {i : Nat} {σ : SG} (hi : i < 7) : obj (emb σ) (tabA i 5) 3 = True := eq_true (ob_t hi (by decide))
theorem qT_at_6 {i : Nat} {r c : Int32} {σ : SG} (hi : i < 7) : f_T_at [.ref (tabA i 6), .int r, .int c] (emb σ) = (True, some (.int (at_ (σ i 6) 4 32 r c)), emb σ) := qT_at (k := 6) hi (by decide)
theorem qT_put_6 {i : Nat} {r c x : Int32} {σ : SG} (hi : i < 7) : f_T_put [.ref (tabA i 6), .int r, .int c, .int x] (emb σ) = (True, none, emb (up1 σ i (pt (σ i) 6 4 32 r c x))) := qT_put (k := 6) hi (by decide)
theorem qT_add_6 {i : Nat} {r c x : Int32} {σ : SG} (hi : i < 7) : f_T_add [.ref (tabA i 6), .int r, .int c, .int x] (emb σ) = (True, none, emb (up1 σ i (pa (σ i) 6 4 32 r c x))) := qT_add (k := 6) hi (by decide)
theorem vh_6 {i : Nat} {σ : SG} (hi : i < 7) : (emb σ).2.2.2 (hutA i) 6 = .ref (tabA i 6) := vl_hr hi (by decide)
theorem vs_6 {i : Nat} {σ : SG} (hi : i < 7) : (emb σ).2.2.2 (hutA i) 14 = .int (σ i 8 6) := vl_hs (t := 6) hi
theorem ss_6 {i : Nat} {x : Int32} {σ : SG} (hi : i < 7) : svSet (emb σ) (hutA i) 14 (.int x) = emb (up1 σ i (up2 (σ i) 8 6 x)) := set_h (t := 6) hi
theorem obt_6 {i : Nat} {σ : SG} (hi : i < 7) : obj (emb σ) (tabA i 6) 3 = True := eq_true (ob_t hi (by decide))
theorem qT_at_7 {i : Nat} {r c : Int32} {σ : SG} (hi : i < 7) : f_T_at [.ref (tabA i 7), .int r, .int c] (emb σ) = (True, some (.int (at_ (σ i 7) 1 3 r c)), emb σ) := qT_at (k := 7) hi (by decide)
theorem qT_put_7 {i : Nat} {r c x : Int32} {σ : SG} (hi : i < 7) : f_T_put [.ref (tabA i 7), .int r, .int c, .int x] (emb σ) = (True, none, emb (up1 σ i (pt (σ i) 7 1 3 r c x))) := qT_put (k := 7) hi (by decide)
theorem qT_add_7 {i : Nat} {r c x : Int32} {σ : SG} (hi : i < 7) : f_T_add [.ref (tabA i 7), .int r, .int c, .int x] (emb σ) = (True, none, emb (up1 σ i (pa (σ i) 7 1 3 r c x))) := qT_add (k := 7) hi (by decide)
theorem vh_7 {i : Nat} {σ : SG} (hi : i < 7) : (emb σ).2.2.2 (hutA i) 7 = .ref (tabA i 7) := vl_hr hi (by decide)
theorem vs_7 {i : Nat} {σ : SG} (hi : i < 7) : (emb σ).2.2.2 (hutA i) 15 = .int (σ i 8 7) := vl_hs (t := 7) hi
theorem ss_7 {i : Nat} {x : Int32} {σ : SG} (hi : i < 7) : svSet (emb σ) (hutA i) 15 (.int x) = emb (up1 σ i (up2 (σ i) 8 7 x)) := set_h (t := 7) hi
theorem obt_7 {i : Nat} {σ : SG} (hi : i < 7) : obj (emb σ) (tabA i 7) 3 = True := eq_true (ob_t hi (by decide))
theorem Vf_q {y : Nat} {sp : Nat → Sp} {e : En} {pc : Nat} {ls st : List Value} {S : MS} {r0 : Option Value} {S0 : MS} {q : Option Value → MS → Prop} (h : ∀ Q : Option Value → MS → Prop, Q r0 S0 → Vf y sp e pc ls st S Q) (hq : q r0 S0) : Vf y sp e pc ls st S q := h q hq
theorem fok_i (x : Int32) : fok .int (.int x) = True := eq_true ⟨rfl, rfl⟩
theorem le_rN (n : Nat) : (n ≤ n) = True := eq_true (Nat.le_refl n)
/-- 1 if it is so -/
def bi (p : Prop) [Decidable p] : Int32 := if p then 1 else 0
theorem rb_0 : rb 0 = True := eq_true rfl
theorem rb_1 : rb 1 = True := eq_true rfl
theorem rb_bi (p : Prop) [Decidable p] : rb (bi p) = True := eq_true (by unfold bi; split <;> rfl)
theorem bi_eq0 (p : Prop) [Decidable p] : (bi p = 0) = ¬ p := propext (by unfold bi; split <;> simp_all)
theorem bi_t {p : Prop} [Decidable p] (h : p) : bi p = 1 := by unfold bi; rw [if_pos h]
theorem bi_f {p : Prop} [Decidable p] (h : ¬ p) : bi p = 0 := by unfold bi; rw [if_neg h]
