/-! CONSTRUCTORS: a table, a hut -/
theorem ss1 {S : MS} {a k : Nat} {v : Value} : (svSet S a k v).1 = S.1 := rfl
theorem ss2 {S : MS} {a k : Nat} {v : Value} : (svSet S a k v).2.1 = S.2.1 := rfl
theorem ss3 {S : MS} {a k : Nat} {v : Value} : (svSet S a k v).2.2.1 = S.2.2.1 := rfl
theorem sn1_ {S : MS} {kd len sz : Nat} {f : Nat → Value} : (svNew S kd len sz f).1 = S.1 + 1 := rfl
theorem sn2_ {S : MS} {kd len sz : Nat} {f : Nat → Value} : (svNew S kd len sz f).2.1 = S.2.1 + sz := rfl
theorem sn3_ {S : MS} {kd len sz a : Nat} {f : Nat → Value} : (svNew S kd len sz f).2.2.1 a = if a = S.1 then (kd, len) else S.2.2.1 a := rfl
theorem sn4_ {S : MS} {kd len sz a k : Nat} {f : Nat → Value} : (svNew S kd len sz f).2.2.2 a k = if a = S.1 then f k else S.2.2.2 a k := rfl
theorem ss4 {S : MS} {a k a' k' : Nat} {v : Value} : (svSet S a k v).2.2.2 a' k' = if a' = a ∧ k' = k then v else S.2.2.2 a' k' := rfl
theorem obj_set {S : MS} {a k r c : Nat} {v : Value} : obj (svSet S a k v) r c = obj S r c := rfl
theorem ari_set {S : MS} {a k r c : Nat} {v : Value} : ari (svSet S a k v) r c = ari S r c := rfl
theorem obj_new {S : MS} {kd len sz r c : Nat} {f : Nat → Value} (h : obj S r c) : obj (svNew S kd len sz f) r c := by
  obtain ⟨h1, h2, h3, h4⟩ := h
  refine ⟨h1, by rw [sn1_]; omega, ?_, h4⟩
  rw [sn3_, if_neg (by omega)]
  exact h3
theorem ari_new {S : MS} {kd len sz r c : Nat} {f : Nat → Value} (h : ari S r c) : ari (svNew S kd len sz f) r c := by
  obtain ⟨h1, h2, h3⟩ := h
  refine ⟨h1, by rw [sn1_]; omega, ?_⟩
  rw [sn3_, if_neg (by omega)]
  exact h3
theorem obj_at {S : MS} {c sz : Nat} {f : Nat → Value} (h : S.1 < 1000) (hc : c < 5) : obj (svNew S c 0 sz f) S.1 c := ⟨h, by rw [sn1_]; omega, by rw [sn3_, if_pos rfl], hc⟩
theorem ari_at {S : MS} {kd len sz : Nat} {f : Nat → Value} (h : S.1 < 1000) : ari (svNew S kd len sz f) S.1 kd := ⟨h, by rw [sn1_]; omega, by rw [sn3_, if_pos rfl]⟩
theorem ms_ext {S T : MS} (h1 : S.1 = T.1) (h2 : S.2.1 = T.2.1) (h3 : ∀ a, S.2.2.1 a = T.2.2.1 a) (h4 : ∀ a k, S.2.2.2 a k = T.2.2.2 a k) : S = T := by
  obtain ⟨a, b, c, d⟩ := S
  obtain ⟨a', b', c', d'⟩ := T
  have e3 : c = c' := funext h3
  have e4 : d = d' := funext fun x => funext fun y => h4 x y
  cases h1
  cases h2
  cases e3
  cases e4
  rfl
def tiN (x y : Int32) : Nat := (if 0 < x * y then x * y else 0).toNatClampNeg
def tiS (S : MS) (r : Nat) (x y : Int32) : MS := svSet (svNew (svSet S r 0 (.int y)) 7 (tiN x y) (tiN x y) (fun _ => .int 0)) r 1 (.ref S.1)
def tiP (S : MS) (r : Nat) (x y : Int32) : Prop := obj S r 3 ∧ S.1 < 1000 ∧ tiN x y ≤ 100000
def f_T_init : Sp := fun av S => match av with
  | [.ref r, .int x, .int y] => (tiP S r x y, none, tiS S r x y)
  | _ => (False, none, svNil)
theorem q_T_init {S : MS} {r : Nat} {x y : Int32} : f_T_init [.ref r, .int x, .int y] S = (tiP S r x y, none, tiS S r x y) := rfl
theorem fok_ai (x : Nat) : fok (.array .int) (.ref x) = True := eq_true ⟨rfl, rfl⟩
theorem fok_ac (x : Nat) : fok (.array .char) (.ref x) = True := eq_true ⟨rfl, rfl⟩
theorem fok_ao (x : Nat) {n : String} : fok (.array (.object n)) (.ref x) = True := eq_true ⟨rfl, rfl⟩
theorem fok_ob (x : Nat) {n : String} : fok (.object n) (.ref x) = True := eq_true ⟨rfl, rfl⟩
set_option maxHeartbeats 1000000 in
theorem ok_T_init : SpecOK 7 f_T_init := SpecOK.of (sp := spL []) (by decide) (by decide) (spL_ok (fun q h => absurd h List.not_mem_nil)) (by
  intro sc av S hp
  unfold f_T_init at hp ⊢
  split at hp
  · rename_i r x y
    obtain ⟨ho, h1, h2⟩ := hp
    refine ⟨Nat.le_of_ble_eq_true rfl, allc (of_eq_true (ct1_r _)) (allc (of_eq_true (ct1_i _)) (allc (of_eq_true (ct1_i _)) all0)), Nat.le_succ _, Nat.le_add_right _ _, ?_⟩
    show Vf 7 _ ((S.1 + 1, S.2.1 + tiN x y), sc) 0 [.ref r, .int x, .int y] [] S _
    have h3 : ¬ (if 0 < x * y then x * y else 0) < 0 := by
      by_cases h : 0 < x * y
      · rw [if_pos h]
        intro q
        rw [Int32.lt_iff_toInt_lt] at h q
        omega
      · rw [if_neg h]
        decide
    have h4 : S.1 ≤ S.1 + 1 := Nat.le_succ _
    have h5 : S.2.1 ≤ S.2.1 + tiN x y := Nat.le_add_right _ _
    have h6 : (if 0 < x * y then x * y else 0).toNatClampNeg = tiN x y := rfl
    have h7 : obj (svNew (svSet S r 0 (.int y)) 7 (tiN x y) (tiN x y) (fun _ => .int 0)) r 3 := obj_new ho
    simp only [rT_init_0, rT_init_1, rT_init_4, rT_init_5, rT_init_6, rT_init_9, rT_init_10, rT_init_11, rT_init_12, rT_init_13, rT_init_14, rT_init_17, rT_init_19, rT_init_22, ct1_i, ct1_r, ct1_n, true_and, and_true, tl_s, tl_n, le4_0, le4_1, le4_2, le4_3, le4_4, le4_5, isO_r, ss1, ss2, ss3, obj_set, ho, fok_i, fok_ai, h1, h2, h3, h4, h5, h6, h7, le_rN, not_false_eq_true]
    exact rfl
  · exact absurd hp id)
def hzk (k : Nat) : Nat := match k with
  | 0 => 0
  | 1 => 1002
  | 2 => 1009
  | 3 => 1139
  | 4 => 1181
  | 5 => 1201
  | 6 => 1273
  | 7 => 1307
  | _ => 1312
/-- a hut whose first k tables are made -/
def hX (S : MS) (a k : Nat) : MS := (S.1 + 2 * k, S.2.1 + hzk k, fun b => if S.1 ≤ b ∧ b < S.1 + 2 * k then (if (b - S.1) % 2 = 0 then (3, 0) else (7, tln ((b - S.1) / 2))) else S.2.2.1 b,
  fun b s => if b = a ∧ s < k then .ref (S.1 + 2 * s) else if S.1 ≤ b ∧ b < S.1 + 2 * k then (if (b - S.1) % 2 = 0 then (if s = 0 then .int (tcl ((b - S.1) / 2)) else if s = 1 then .ref (b + 1) else .null) else .int 0) else S.2.2.2 b s)
theorem hX_0 {S : MS} {a : Nat} : hX S a 0 = S := by
  refine ms_ext rfl rfl (fun b => ?_) (fun b s => ?_)
  · show (if S.1 ≤ b ∧ b < S.1 + 0 then _ else _) = _
    rw [if_neg (by omega)]
  · show (if b = a ∧ s < 0 then _ else if S.1 ≤ b ∧ b < S.1 + 0 then _ else _) = _
    rw [if_neg (by omega), if_neg (by omega)]
abbrev hW (S : MS) (a k : Nat) : MS := svNew (hX S a k) 3 0 (nf 3) (fun k => defaultValue (fty 3 k))
theorem dflt3 (s : Nat) : defaultValue (fty 3 s) = if s = 0 then .int 0 else .null := by
  cases s with
  | zero => rfl
  | succ s => rfl
theorem h_step {S : MS} {a k : Nat} {x y : Int32} (ha : a < S.1) (hk : k < 8) (hn : tiN x y = tln k) (hy : y = tcl k) (hz : hzk k + (2 + tln k) = hzk (k + 1)) : svSet (tiS (hW S a k) (hX S a k).1 x y) a k (.ref (hX S a k).1) = hX S a (k + 1) := by
  refine ms_ext ?_ ?_ (fun b => ?_) (fun b s => ?_)
  · show S.1 + 2 * k + 1 + 1 = S.1 + 2 * (k + 1)
    omega
  · show S.2.1 + hzk k + 2 + tiN x y = S.2.1 + hzk (k + 1)
    omega
  · show (if b = S.1 + 2 * k + 1 then (7, tiN x y) else if b = S.1 + 2 * k then (3, 0) else if S.1 ≤ b ∧ b < S.1 + 2 * k then (if (b - S.1) % 2 = 0 then (3, 0) else (7, tln ((b - S.1) / 2))) else S.2.2.1 b) = (if S.1 ≤ b ∧ b < S.1 + 2 * (k + 1) then (if (b - S.1) % 2 = 0 then (3, 0) else (7, tln ((b - S.1) / 2))) else S.2.2.1 b)
    by_cases h1 : b = S.1 + 2 * k + 1
    · rw [if_pos h1, if_pos (by omega), if_neg (by omega), hn, show (b - S.1) / 2 = k by omega]
    · rw [if_neg h1]
      by_cases h2 : b = S.1 + 2 * k
      · rw [if_pos h2, if_pos (by omega), if_pos (by omega)]
      · rw [if_neg h2]
        by_cases h3 : S.1 ≤ b ∧ b < S.1 + 2 * k
        · rw [if_pos h3, if_pos (show S.1 ≤ b ∧ b < S.1 + 2 * (k + 1) by omega)]
        · rw [if_neg h3, if_neg (by omega)]
  · show (if b = a ∧ s = k then .ref (S.1 + 2 * k) else if b = S.1 + 2 * k ∧ s = 1 then .ref (S.1 + 2 * k + 1) else if b = S.1 + 2 * k + 1 then .int 0 else if b = S.1 + 2 * k ∧ s = 0 then .int y else if b = S.1 + 2 * k then defaultValue (fty 3 s) else (if b = a ∧ s < k then .ref (S.1 + 2 * s) else if S.1 ≤ b ∧ b < S.1 + 2 * k then (if (b - S.1) % 2 = 0 then (if s = 0 then .int (tcl ((b - S.1) / 2)) else if s = 1 then .ref (b + 1) else .null) else .int 0) else S.2.2.2 b s)) = (if b = a ∧ s < k + 1 then .ref (S.1 + 2 * s) else if S.1 ≤ b ∧ b < S.1 + 2 * (k + 1) then (if (b - S.1) % 2 = 0 then (if s = 0 then .int (tcl ((b - S.1) / 2)) else if s = 1 then .ref (b + 1) else .null) else .int 0) else S.2.2.2 b s)
    by_cases h0 : b = a ∧ s = k
    · rw [if_pos h0, if_pos (by omega), h0.2]
    rw [if_neg h0]
    by_cases h1 : b = S.1 + 2 * k
    · rw [if_neg (show ¬ (b = a ∧ s < k + 1) by omega), if_pos (show S.1 ≤ b ∧ b < S.1 + 2 * (k + 1) by omega), if_pos (show (b - S.1) % 2 = 0 by omega), if_neg (show ¬ b = S.1 + 2 * k + 1 by omega), if_pos h1, dflt3]
      by_cases hs0 : s = 0
      · rw [if_neg (by omega), if_pos ⟨h1, hs0⟩, if_pos hs0, hy, show (b - S.1) / 2 = k by omega]
      · by_cases hs1 : s = 1
        · rw [if_pos ⟨h1, hs1⟩, if_neg hs0, if_pos hs1, h1]
        · rw [if_neg (by omega), if_neg (by omega), if_neg hs0, if_neg hs0, if_neg hs1]
    rw [if_neg (show ¬ (b = S.1 + 2 * k ∧ s = 1) by omega), if_neg (show ¬ (b = S.1 + 2 * k ∧ s = 0) by omega), if_neg h1]
    by_cases h2 : b = S.1 + 2 * k + 1
    · rw [if_pos h2, if_neg (by omega), if_pos (by omega), if_neg (by omega)]
    rw [if_neg h2]
    by_cases h3 : b = a ∧ s < k
    · rw [if_pos h3, if_pos (by omega)]
    rw [if_neg h3, if_neg (show ¬ (b = a ∧ s < k + 1) by omega)]
    by_cases h4 : S.1 ≤ b ∧ b < S.1 + 2 * k
    · rw [if_pos h4, if_pos (show S.1 ≤ b ∧ b < S.1 + 2 * (k + 1) by omega)]
    · rw [if_neg h4, if_neg (by omega)]
theorem hX_ob {S : MS} {a k : Nat} (h : obj S a 0) : obj (hX S a k) a 0 := by
  obtain ⟨h1, h2, h3, h4⟩ := h
  refine ⟨h1, by show a < S.1 + 2 * k; omega, ?_, h4⟩
  show (if S.1 ≤ a ∧ a < S.1 + 2 * k then _ else S.2.2.1 a).1 = 0
  rw [if_neg (by omega)]
  exact h3
