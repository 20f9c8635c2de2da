/-! THE LAW: its start: the cells after the constructors -/
def S00 : MS := (0, 0, kdE, vlE (fun _ _ _ => 0))
def T00 : MS := svNew S00 4 0 (nf 4) (fun k => defaultValue (fty 4 k))
def T01 : MS := x5 T00 0
def TF : MS := svNew T01 7 8 8 (fun _ => .int 0)
def sg0 : SG := prj TF
theorem tk_lo : ∀ a, a < 127 → TF.2.2.1 a = kdE a := by decide +kernel
theorem tv_of {a s : Nat} (h1 : ∀ q, loc a s = some q → ∃ x, TF.2.2.2 a s = .int x) (h2 : loc a s = none → TF.2.2.2 a s = cst a s) : TF.2.2.2 a s = vlE sg0 a s := by
  unfold vlE
  cases hl : loc a s with
  | none => exact h2 hl
  | some q =>
    obtain ⟨i, k, t⟩ := q
    obtain ⟨x, hx⟩ := h1 _ hl
    obtain ⟨g1, g2⟩ := adr_loc hl
    show _ = Value.int (toI (TF.2.2.2 (adr i k) (slo i k t)))
    rw [g1, g2, hx]
    rfl
theorem som {α : Type} {x : Option α} (h : ∃ q, x = some q) : x ≠ none := fun e => by obtain ⟨q, hq⟩ := h; rw [hq] at e; cases e
theorem tv_in {a s : Nat} (h1 : ∃ x, TF.2.2.2 a s = .int x) (h2 : ∃ q, loc a s = some q) : TF.2.2.2 a s = vlE sg0 a s := tv_of (fun _ _ => h1) (fun h => absurd h (som h2))
theorem tv_rf {a s : Nat} (h1 : loc a s = none) (h2 : TF.2.2.2 a s = cst a s) : TF.2.2.2 a s = vlE sg0 a s := tv_of (fun q h => by rw [h1] at h; cases h) (fun _ => h2)
theorem tv_0 (s : Nat) : TF.2.2.2 0 s = vlE sg0 0 s := match s with
  | 0 => tv_rf rfl rfl
  | 1 => tv_rf rfl rfl
  | 2 => tv_rf rfl rfl
  | 3 => tv_rf rfl rfl
  | 4 => tv_rf rfl rfl
  | 5 => tv_in ⟨_, rfl⟩ ⟨_, rfl⟩
  | _ + 6 => tv_in ⟨_, rfl⟩ ⟨_, rfl⟩
theorem tv_1 (s : Nat) : TF.2.2.2 1 s = vlE sg0 1 s := match s with
  | 0 => tv_rf rfl rfl
  | 1 => tv_rf rfl rfl
  | 2 => tv_rf rfl rfl
  | 3 => tv_rf rfl rfl
  | 4 => tv_rf rfl rfl
  | 5 => tv_rf rfl rfl
  | 6 => tv_rf rfl rfl
  | 7 => tv_rf rfl rfl
  | 8 => tv_in ⟨_, rfl⟩ ⟨_, rfl⟩
  | 9 => tv_in ⟨_, rfl⟩ ⟨_, rfl⟩
  | 10 => tv_in ⟨_, rfl⟩ ⟨_, rfl⟩
  | 11 => tv_in ⟨_, rfl⟩ ⟨_, rfl⟩
  | 12 => tv_in ⟨_, rfl⟩ ⟨_, rfl⟩
  | 13 => tv_in ⟨_, rfl⟩ ⟨_, rfl⟩
  | 14 => tv_in ⟨_, rfl⟩ ⟨_, rfl⟩
  | 15 => tv_in ⟨_, rfl⟩ ⟨_, rfl⟩
  | _ + 16 => tv_in ⟨_, rfl⟩ ⟨_, rfl⟩
theorem tv_2 (s : Nat) : TF.2.2.2 2 s = vlE sg0 2 s := match s with
  | 0 => tv_rf rfl rfl
  | 1 => tv_rf rfl rfl
  | _ + 2 => tv_rf rfl rfl
theorem tv_3 (s : Nat) : TF.2.2.2 3 s = vlE sg0 3 s := tv_in ⟨_, rfl⟩ ⟨_, rfl⟩
theorem tv_4 (s : Nat) : TF.2.2.2 4 s = vlE sg0 4 s := match s with
  | 0 => tv_rf rfl rfl
  | 1 => tv_rf rfl rfl
  | _ + 2 => tv_rf rfl rfl
theorem tv_5 (s : Nat) : TF.2.2.2 5 s = vlE sg0 5 s := tv_in ⟨_, rfl⟩ ⟨_, rfl⟩
theorem tv_6 (s : Nat) : TF.2.2.2 6 s = vlE sg0 6 s := match s with
  | 0 => tv_rf rfl rfl
  | 1 => tv_rf rfl rfl
  | _ + 2 => tv_rf rfl rfl
theorem tv_7 (s : Nat) : TF.2.2.2 7 s = vlE sg0 7 s := tv_in ⟨_, rfl⟩ ⟨_, rfl⟩
theorem tv_8 (s : Nat) : TF.2.2.2 8 s = vlE sg0 8 s := match s with
  | 0 => tv_rf rfl rfl
  | 1 => tv_rf rfl rfl
  | _ + 2 => tv_rf rfl rfl
theorem tv_9 (s : Nat) : TF.2.2.2 9 s = vlE sg0 9 s := tv_in ⟨_, rfl⟩ ⟨_, rfl⟩
theorem tv_10 (s : Nat) : TF.2.2.2 10 s = vlE sg0 10 s := match s with
  | 0 => tv_rf rfl rfl
  | 1 => tv_rf rfl rfl
  | _ + 2 => tv_rf rfl rfl
theorem tv_11 (s : Nat) : TF.2.2.2 11 s = vlE sg0 11 s := tv_in ⟨_, rfl⟩ ⟨_, rfl⟩
theorem tv_12 (s : Nat) : TF.2.2.2 12 s = vlE sg0 12 s := match s with
  | 0 => tv_rf rfl rfl
  | 1 => tv_rf rfl rfl
  | _ + 2 => tv_rf rfl rfl
theorem tv_13 (s : Nat) : TF.2.2.2 13 s = vlE sg0 13 s := tv_in ⟨_, rfl⟩ ⟨_, rfl⟩
theorem tv_14 (s : Nat) : TF.2.2.2 14 s = vlE sg0 14 s := match s with
  | 0 => tv_rf rfl rfl
  | 1 => tv_rf rfl rfl
  | _ + 2 => tv_rf rfl rfl
theorem tv_15 (s : Nat) : TF.2.2.2 15 s = vlE sg0 15 s := tv_in ⟨_, rfl⟩ ⟨_, rfl⟩
theorem tv_16 (s : Nat) : TF.2.2.2 16 s = vlE sg0 16 s := match s with
  | 0 => tv_rf rfl rfl
  | 1 => tv_rf rfl rfl
  | _ + 2 => tv_rf rfl rfl
theorem tv_17 (s : Nat) : TF.2.2.2 17 s = vlE sg0 17 s := tv_in ⟨_, rfl⟩ ⟨_, rfl⟩
theorem tv_18 (s : Nat) : TF.2.2.2 18 s = vlE sg0 18 s := match s with
  | 0 => tv_rf rfl rfl
  | 1 => tv_rf rfl rfl
  | 2 => tv_rf rfl rfl
  | 3 => tv_rf rfl rfl
  | 4 => tv_rf rfl rfl
  | 5 => tv_rf rfl rfl
  | 6 => tv_rf rfl rfl
  | 7 => tv_rf rfl rfl
  | 8 => tv_in ⟨_, rfl⟩ ⟨_, rfl⟩
  | 9 => tv_in ⟨_, rfl⟩ ⟨_, rfl⟩
  | 10 => tv_in ⟨_, rfl⟩ ⟨_, rfl⟩
  | 11 => tv_in ⟨_, rfl⟩ ⟨_, rfl⟩
  | 12 => tv_in ⟨_, rfl⟩ ⟨_, rfl⟩
  | 13 => tv_in ⟨_, rfl⟩ ⟨_, rfl⟩
  | 14 => tv_in ⟨_, rfl⟩ ⟨_, rfl⟩
  | 15 => tv_in ⟨_, rfl⟩ ⟨_, rfl⟩
  | _ + 16 => tv_in ⟨_, rfl⟩ ⟨_, rfl⟩
theorem tv_19 (s : Nat) : TF.2.2.2 19 s = vlE sg0 19 s := match s with
  | 0 => tv_rf rfl rfl
  | 1 => tv_rf rfl rfl
  | _ + 2 => tv_rf rfl rfl
theorem tv_20 (s : Nat) : TF.2.2.2 20 s = vlE sg0 20 s := tv_in ⟨_, rfl⟩ ⟨_, rfl⟩
theorem tv_21 (s : Nat) : TF.2.2.2 21 s = vlE sg0 21 s := match s with
  | 0 => tv_rf rfl rfl
  | 1 => tv_rf rfl rfl
  | _ + 2 => tv_rf rfl rfl
theorem tv_22 (s : Nat) : TF.2.2.2 22 s = vlE sg0 22 s := tv_in ⟨_, rfl⟩ ⟨_, rfl⟩
theorem tv_23 (s : Nat) : TF.2.2.2 23 s = vlE sg0 23 s := match s with
  | 0 => tv_rf rfl rfl
  | 1 => tv_rf rfl rfl
  | _ + 2 => tv_rf rfl rfl
theorem tv_24 (s : Nat) : TF.2.2.2 24 s = vlE sg0 24 s := tv_in ⟨_, rfl⟩ ⟨_, rfl⟩
theorem tv_25 (s : Nat) : TF.2.2.2 25 s = vlE sg0 25 s := match s with
  | 0 => tv_rf rfl rfl
  | 1 => tv_rf rfl rfl
  | _ + 2 => tv_rf rfl rfl
theorem tv_26 (s : Nat) : TF.2.2.2 26 s = vlE sg0 26 s := tv_in ⟨_, rfl⟩ ⟨_, rfl⟩
theorem tv_27 (s : Nat) : TF.2.2.2 27 s = vlE sg0 27 s := match s with
  | 0 => tv_rf rfl rfl
  | 1 => tv_rf rfl rfl
  | _ + 2 => tv_rf rfl rfl
theorem tv_28 (s : Nat) : TF.2.2.2 28 s = vlE sg0 28 s := tv_in ⟨_, rfl⟩ ⟨_, rfl⟩
theorem tv_29 (s : Nat) : TF.2.2.2 29 s = vlE sg0 29 s := match s with
  | 0 => tv_rf rfl rfl
  | 1 => tv_rf rfl rfl
  | _ + 2 => tv_rf rfl rfl
theorem tv_30 (s : Nat) : TF.2.2.2 30 s = vlE sg0 30 s := tv_in ⟨_, rfl⟩ ⟨_, rfl⟩
theorem tv_31 (s : Nat) : TF.2.2.2 31 s = vlE sg0 31 s := match s with
  | 0 => tv_rf rfl rfl
  | 1 => tv_rf rfl rfl
  | _ + 2 => tv_rf rfl rfl
theorem tv_32 (s : Nat) : TF.2.2.2 32 s = vlE sg0 32 s := tv_in ⟨_, rfl⟩ ⟨_, rfl⟩
theorem tv_33 (s : Nat) : TF.2.2.2 33 s = vlE sg0 33 s := match s with
  | 0 => tv_rf rfl rfl
  | 1 => tv_rf rfl rfl
  | _ + 2 => tv_rf rfl rfl
theorem tv_34 (s : Nat) : TF.2.2.2 34 s = vlE sg0 34 s := tv_in ⟨_, rfl⟩ ⟨_, rfl⟩
theorem tv_35 (s : Nat) : TF.2.2.2 35 s = vlE sg0 35 s := match s with
  | 0 => tv_rf rfl rfl
  | 1 => tv_rf rfl rfl
  | 2 => tv_rf rfl rfl
  | 3 => tv_rf rfl rfl
  | 4 => tv_rf rfl rfl
  | 5 => tv_rf rfl rfl
  | 6 => tv_rf rfl rfl
  | 7 => tv_rf rfl rfl
  | 8 => tv_in ⟨_, rfl⟩ ⟨_, rfl⟩
  | 9 => tv_in ⟨_, rfl⟩ ⟨_, rfl⟩
  | 10 => tv_in ⟨_, rfl⟩ ⟨_, rfl⟩
  | 11 => tv_in ⟨_, rfl⟩ ⟨_, rfl⟩
  | 12 => tv_in ⟨_, rfl⟩ ⟨_, rfl⟩
  | 13 => tv_in ⟨_, rfl⟩ ⟨_, rfl⟩
  | 14 => tv_in ⟨_, rfl⟩ ⟨_, rfl⟩
  | 15 => tv_in ⟨_, rfl⟩ ⟨_, rfl⟩
  | _ + 16 => tv_in ⟨_, rfl⟩ ⟨_, rfl⟩
theorem tv_36 (s : Nat) : TF.2.2.2 36 s = vlE sg0 36 s := match s with
  | 0 => tv_rf rfl rfl
  | 1 => tv_rf rfl rfl
  | _ + 2 => tv_rf rfl rfl
theorem tv_37 (s : Nat) : TF.2.2.2 37 s = vlE sg0 37 s := tv_in ⟨_, rfl⟩ ⟨_, rfl⟩
theorem tv_38 (s : Nat) : TF.2.2.2 38 s = vlE sg0 38 s := match s with
  | 0 => tv_rf rfl rfl
  | 1 => tv_rf rfl rfl
  | _ + 2 => tv_rf rfl rfl
theorem tv_39 (s : Nat) : TF.2.2.2 39 s = vlE sg0 39 s := tv_in ⟨_, rfl⟩ ⟨_, rfl⟩
theorem tv_40 (s : Nat) : TF.2.2.2 40 s = vlE sg0 40 s := match s with
  | 0 => tv_rf rfl rfl
  | 1 => tv_rf rfl rfl
  | _ + 2 => tv_rf rfl rfl
theorem tv_41 (s : Nat) : TF.2.2.2 41 s = vlE sg0 41 s := tv_in ⟨_, rfl⟩ ⟨_, rfl⟩
theorem tv_42 (s : Nat) : TF.2.2.2 42 s = vlE sg0 42 s := match s with
  | 0 => tv_rf rfl rfl
  | 1 => tv_rf rfl rfl
  | _ + 2 => tv_rf rfl rfl
theorem tv_43 (s : Nat) : TF.2.2.2 43 s = vlE sg0 43 s := tv_in ⟨_, rfl⟩ ⟨_, rfl⟩
theorem tv_44 (s : Nat) : TF.2.2.2 44 s = vlE sg0 44 s := match s with
  | 0 => tv_rf rfl rfl
  | 1 => tv_rf rfl rfl
  | _ + 2 => tv_rf rfl rfl
theorem tv_45 (s : Nat) : TF.2.2.2 45 s = vlE sg0 45 s := tv_in ⟨_, rfl⟩ ⟨_, rfl⟩
theorem tv_46 (s : Nat) : TF.2.2.2 46 s = vlE sg0 46 s := match s with
  | 0 => tv_rf rfl rfl
  | 1 => tv_rf rfl rfl
  | _ + 2 => tv_rf rfl rfl
theorem tv_47 (s : Nat) : TF.2.2.2 47 s = vlE sg0 47 s := tv_in ⟨_, rfl⟩ ⟨_, rfl⟩
theorem tv_48 (s : Nat) : TF.2.2.2 48 s = vlE sg0 48 s := match s with
  | 0 => tv_rf rfl rfl
  | 1 => tv_rf rfl rfl
  | _ + 2 => tv_rf rfl rfl
theorem tv_49 (s : Nat) : TF.2.2.2 49 s = vlE sg0 49 s := tv_in ⟨_, rfl⟩ ⟨_, rfl⟩
theorem tv_50 (s : Nat) : TF.2.2.2 50 s = vlE sg0 50 s := match s with
  | 0 => tv_rf rfl rfl
  | 1 => tv_rf rfl rfl
  | _ + 2 => tv_rf rfl rfl
theorem tv_51 (s : Nat) : TF.2.2.2 51 s = vlE sg0 51 s := tv_in ⟨_, rfl⟩ ⟨_, rfl⟩
theorem tv_52 (s : Nat) : TF.2.2.2 52 s = vlE sg0 52 s := match s with
  | 0 => tv_rf rfl rfl
  | 1 => tv_in ⟨_, rfl⟩ ⟨_, rfl⟩
  | 2 => tv_in ⟨_, rfl⟩ ⟨_, rfl⟩
  | _ + 3 => tv_in ⟨_, rfl⟩ ⟨_, rfl⟩
theorem tv_53 (s : Nat) : TF.2.2.2 53 s = vlE sg0 53 s := match s with
  | 0 => tv_rf rfl rfl
  | 1 => tv_rf rfl rfl
  | 2 => tv_rf rfl rfl
  | 3 => tv_rf rfl rfl
  | _ + 4 => tv_rf rfl rfl
theorem tv_54 (s : Nat) : TF.2.2.2 54 s = vlE sg0 54 s := match s with
  | 0 => tv_rf rfl rfl
  | 1 => tv_rf rfl rfl
  | 2 => tv_rf rfl rfl
  | 3 => tv_rf rfl rfl
  | 4 => tv_rf rfl rfl
  | 5 => tv_rf rfl rfl
  | 6 => tv_rf rfl rfl
  | 7 => tv_rf rfl rfl
  | 8 => tv_in ⟨_, rfl⟩ ⟨_, rfl⟩
  | 9 => tv_in ⟨_, rfl⟩ ⟨_, rfl⟩
  | 10 => tv_in ⟨_, rfl⟩ ⟨_, rfl⟩
  | 11 => tv_in ⟨_, rfl⟩ ⟨_, rfl⟩
  | 12 => tv_in ⟨_, rfl⟩ ⟨_, rfl⟩
  | 13 => tv_in ⟨_, rfl⟩ ⟨_, rfl⟩
  | 14 => tv_in ⟨_, rfl⟩ ⟨_, rfl⟩
  | 15 => tv_in ⟨_, rfl⟩ ⟨_, rfl⟩
  | _ + 16 => tv_in ⟨_, rfl⟩ ⟨_, rfl⟩
theorem tv_55 (s : Nat) : TF.2.2.2 55 s = vlE sg0 55 s := match s with
  | 0 => tv_rf rfl rfl
  | 1 => tv_rf rfl rfl
  | _ + 2 => tv_rf rfl rfl
theorem tv_56 (s : Nat) : TF.2.2.2 56 s = vlE sg0 56 s := tv_in ⟨_, rfl⟩ ⟨_, rfl⟩
theorem tv_57 (s : Nat) : TF.2.2.2 57 s = vlE sg0 57 s := match s with
  | 0 => tv_rf rfl rfl
  | 1 => tv_rf rfl rfl
  | _ + 2 => tv_rf rfl rfl
theorem tv_58 (s : Nat) : TF.2.2.2 58 s = vlE sg0 58 s := tv_in ⟨_, rfl⟩ ⟨_, rfl⟩
theorem tv_59 (s : Nat) : TF.2.2.2 59 s = vlE sg0 59 s := match s with
  | 0 => tv_rf rfl rfl
  | 1 => tv_rf rfl rfl
  | _ + 2 => tv_rf rfl rfl
theorem tv_60 (s : Nat) : TF.2.2.2 60 s = vlE sg0 60 s := tv_in ⟨_, rfl⟩ ⟨_, rfl⟩
theorem tv_61 (s : Nat) : TF.2.2.2 61 s = vlE sg0 61 s := match s with
  | 0 => tv_rf rfl rfl
  | 1 => tv_rf rfl rfl
  | _ + 2 => tv_rf rfl rfl
theorem tv_62 (s : Nat) : TF.2.2.2 62 s = vlE sg0 62 s := tv_in ⟨_, rfl⟩ ⟨_, rfl⟩
theorem tv_63 (s : Nat) : TF.2.2.2 63 s = vlE sg0 63 s := match s with
  | 0 => tv_rf rfl rfl
  | 1 => tv_rf rfl rfl
  | _ + 2 => tv_rf rfl rfl
theorem tv_64 (s : Nat) : TF.2.2.2 64 s = vlE sg0 64 s := tv_in ⟨_, rfl⟩ ⟨_, rfl⟩
theorem tv_65 (s : Nat) : TF.2.2.2 65 s = vlE sg0 65 s := match s with
  | 0 => tv_rf rfl rfl
  | 1 => tv_rf rfl rfl
  | _ + 2 => tv_rf rfl rfl
theorem tv_66 (s : Nat) : TF.2.2.2 66 s = vlE sg0 66 s := tv_in ⟨_, rfl⟩ ⟨_, rfl⟩
theorem tv_67 (s : Nat) : TF.2.2.2 67 s = vlE sg0 67 s := match s with
  | 0 => tv_rf rfl rfl
  | 1 => tv_rf rfl rfl
  | _ + 2 => tv_rf rfl rfl
theorem tv_68 (s : Nat) : TF.2.2.2 68 s = vlE sg0 68 s := tv_in ⟨_, rfl⟩ ⟨_, rfl⟩
theorem tv_69 (s : Nat) : TF.2.2.2 69 s = vlE sg0 69 s := match s with
  | 0 => tv_rf rfl rfl
  | 1 => tv_rf rfl rfl
  | _ + 2 => tv_rf rfl rfl
theorem tv_70 (s : Nat) : TF.2.2.2 70 s = vlE sg0 70 s := tv_in ⟨_, rfl⟩ ⟨_, rfl⟩
theorem tv_71 (s : Nat) : TF.2.2.2 71 s = vlE sg0 71 s := match s with
  | 0 => tv_rf rfl rfl
  | 1 => tv_rf rfl rfl
  | 2 => tv_rf rfl rfl
  | 3 => tv_rf rfl rfl
  | 4 => tv_rf rfl rfl
  | 5 => tv_rf rfl rfl
  | 6 => tv_rf rfl rfl
  | 7 => tv_rf rfl rfl
  | 8 => tv_in ⟨_, rfl⟩ ⟨_, rfl⟩
  | 9 => tv_in ⟨_, rfl⟩ ⟨_, rfl⟩
  | 10 => tv_in ⟨_, rfl⟩ ⟨_, rfl⟩
  | 11 => tv_in ⟨_, rfl⟩ ⟨_, rfl⟩
  | 12 => tv_in ⟨_, rfl⟩ ⟨_, rfl⟩
  | 13 => tv_in ⟨_, rfl⟩ ⟨_, rfl⟩
  | 14 => tv_in ⟨_, rfl⟩ ⟨_, rfl⟩
  | 15 => tv_in ⟨_, rfl⟩ ⟨_, rfl⟩
  | _ + 16 => tv_in ⟨_, rfl⟩ ⟨_, rfl⟩
theorem tv_72 (s : Nat) : TF.2.2.2 72 s = vlE sg0 72 s := match s with
  | 0 => tv_rf rfl rfl
  | 1 => tv_rf rfl rfl
  | _ + 2 => tv_rf rfl rfl
theorem tv_73 (s : Nat) : TF.2.2.2 73 s = vlE sg0 73 s := tv_in ⟨_, rfl⟩ ⟨_, rfl⟩
theorem tv_74 (s : Nat) : TF.2.2.2 74 s = vlE sg0 74 s := match s with
  | 0 => tv_rf rfl rfl
  | 1 => tv_rf rfl rfl
  | _ + 2 => tv_rf rfl rfl
theorem tv_75 (s : Nat) : TF.2.2.2 75 s = vlE sg0 75 s := tv_in ⟨_, rfl⟩ ⟨_, rfl⟩
theorem tv_76 (s : Nat) : TF.2.2.2 76 s = vlE sg0 76 s := match s with
  | 0 => tv_rf rfl rfl
  | 1 => tv_rf rfl rfl
  | _ + 2 => tv_rf rfl rfl
theorem tv_77 (s : Nat) : TF.2.2.2 77 s = vlE sg0 77 s := tv_in ⟨_, rfl⟩ ⟨_, rfl⟩
theorem tv_78 (s : Nat) : TF.2.2.2 78 s = vlE sg0 78 s := match s with
  | 0 => tv_rf rfl rfl
  | 1 => tv_rf rfl rfl
  | _ + 2 => tv_rf rfl rfl
theorem tv_79 (s : Nat) : TF.2.2.2 79 s = vlE sg0 79 s := tv_in ⟨_, rfl⟩ ⟨_, rfl⟩
theorem tv_80 (s : Nat) : TF.2.2.2 80 s = vlE sg0 80 s := match s with
  | 0 => tv_rf rfl rfl
  | 1 => tv_rf rfl rfl
  | _ + 2 => tv_rf rfl rfl
theorem tv_81 (s : Nat) : TF.2.2.2 81 s = vlE sg0 81 s := tv_in ⟨_, rfl⟩ ⟨_, rfl⟩
theorem tv_82 (s : Nat) : TF.2.2.2 82 s = vlE sg0 82 s := match s with
  | 0 => tv_rf rfl rfl
  | 1 => tv_rf rfl rfl
  | _ + 2 => tv_rf rfl rfl
theorem tv_83 (s : Nat) : TF.2.2.2 83 s = vlE sg0 83 s := tv_in ⟨_, rfl⟩ ⟨_, rfl⟩
theorem tv_84 (s : Nat) : TF.2.2.2 84 s = vlE sg0 84 s := match s with
  | 0 => tv_rf rfl rfl
  | 1 => tv_rf rfl rfl
  | _ + 2 => tv_rf rfl rfl
theorem tv_85 (s : Nat) : TF.2.2.2 85 s = vlE sg0 85 s := tv_in ⟨_, rfl⟩ ⟨_, rfl⟩
theorem tv_86 (s : Nat) : TF.2.2.2 86 s = vlE sg0 86 s := match s with
  | 0 => tv_rf rfl rfl
  | 1 => tv_rf rfl rfl
  | _ + 2 => tv_rf rfl rfl
theorem tv_87 (s : Nat) : TF.2.2.2 87 s = vlE sg0 87 s := tv_in ⟨_, rfl⟩ ⟨_, rfl⟩
theorem tv_88 (s : Nat) : TF.2.2.2 88 s = vlE sg0 88 s := match s with
  | 0 => tv_rf rfl rfl
  | 1 => tv_rf rfl rfl
  | 2 => tv_rf rfl rfl
  | 3 => tv_rf rfl rfl
  | 4 => tv_rf rfl rfl
  | 5 => tv_rf rfl rfl
  | 6 => tv_rf rfl rfl
  | 7 => tv_rf rfl rfl
  | 8 => tv_in ⟨_, rfl⟩ ⟨_, rfl⟩
  | 9 => tv_in ⟨_, rfl⟩ ⟨_, rfl⟩
  | 10 => tv_in ⟨_, rfl⟩ ⟨_, rfl⟩
  | 11 => tv_in ⟨_, rfl⟩ ⟨_, rfl⟩
  | 12 => tv_in ⟨_, rfl⟩ ⟨_, rfl⟩
  | 13 => tv_in ⟨_, rfl⟩ ⟨_, rfl⟩
  | 14 => tv_in ⟨_, rfl⟩ ⟨_, rfl⟩
  | 15 => tv_in ⟨_, rfl⟩ ⟨_, rfl⟩
  | _ + 16 => tv_in ⟨_, rfl⟩ ⟨_, rfl⟩
theorem tv_89 (s : Nat) : TF.2.2.2 89 s = vlE sg0 89 s := match s with
  | 0 => tv_rf rfl rfl
  | 1 => tv_rf rfl rfl
  | _ + 2 => tv_rf rfl rfl
theorem tv_90 (s : Nat) : TF.2.2.2 90 s = vlE sg0 90 s := tv_in ⟨_, rfl⟩ ⟨_, rfl⟩
theorem tv_91 (s : Nat) : TF.2.2.2 91 s = vlE sg0 91 s := match s with
  | 0 => tv_rf rfl rfl
  | 1 => tv_rf rfl rfl
  | _ + 2 => tv_rf rfl rfl
theorem tv_92 (s : Nat) : TF.2.2.2 92 s = vlE sg0 92 s := tv_in ⟨_, rfl⟩ ⟨_, rfl⟩
theorem tv_93 (s : Nat) : TF.2.2.2 93 s = vlE sg0 93 s := match s with
  | 0 => tv_rf rfl rfl
  | 1 => tv_rf rfl rfl
  | _ + 2 => tv_rf rfl rfl
theorem tv_94 (s : Nat) : TF.2.2.2 94 s = vlE sg0 94 s := tv_in ⟨_, rfl⟩ ⟨_, rfl⟩
theorem tv_95 (s : Nat) : TF.2.2.2 95 s = vlE sg0 95 s := match s with
  | 0 => tv_rf rfl rfl
  | 1 => tv_rf rfl rfl
  | _ + 2 => tv_rf rfl rfl
theorem tv_96 (s : Nat) : TF.2.2.2 96 s = vlE sg0 96 s := tv_in ⟨_, rfl⟩ ⟨_, rfl⟩
theorem tv_97 (s : Nat) : TF.2.2.2 97 s = vlE sg0 97 s := match s with
  | 0 => tv_rf rfl rfl
  | 1 => tv_rf rfl rfl
  | _ + 2 => tv_rf rfl rfl
theorem tv_98 (s : Nat) : TF.2.2.2 98 s = vlE sg0 98 s := tv_in ⟨_, rfl⟩ ⟨_, rfl⟩
theorem tv_99 (s : Nat) : TF.2.2.2 99 s = vlE sg0 99 s := match s with
  | 0 => tv_rf rfl rfl
  | 1 => tv_rf rfl rfl
  | _ + 2 => tv_rf rfl rfl
theorem tv_100 (s : Nat) : TF.2.2.2 100 s = vlE sg0 100 s := tv_in ⟨_, rfl⟩ ⟨_, rfl⟩
theorem tv_101 (s : Nat) : TF.2.2.2 101 s = vlE sg0 101 s := match s with
  | 0 => tv_rf rfl rfl
  | 1 => tv_rf rfl rfl
  | _ + 2 => tv_rf rfl rfl
theorem tv_102 (s : Nat) : TF.2.2.2 102 s = vlE sg0 102 s := tv_in ⟨_, rfl⟩ ⟨_, rfl⟩
theorem tv_103 (s : Nat) : TF.2.2.2 103 s = vlE sg0 103 s := match s with
  | 0 => tv_rf rfl rfl
  | 1 => tv_rf rfl rfl
  | _ + 2 => tv_rf rfl rfl
theorem tv_104 (s : Nat) : TF.2.2.2 104 s = vlE sg0 104 s := tv_in ⟨_, rfl⟩ ⟨_, rfl⟩
theorem tv_105 (s : Nat) : TF.2.2.2 105 s = vlE sg0 105 s := match s with
  | 0 => tv_rf rfl rfl
  | 1 => tv_rf rfl rfl
  | 2 => tv_rf rfl rfl
  | 3 => tv_rf rfl rfl
  | 4 => tv_rf rfl rfl
  | 5 => tv_rf rfl rfl
  | 6 => tv_rf rfl rfl
  | 7 => tv_rf rfl rfl
  | 8 => tv_in ⟨_, rfl⟩ ⟨_, rfl⟩
  | 9 => tv_in ⟨_, rfl⟩ ⟨_, rfl⟩
  | 10 => tv_in ⟨_, rfl⟩ ⟨_, rfl⟩
  | 11 => tv_in ⟨_, rfl⟩ ⟨_, rfl⟩
  | 12 => tv_in ⟨_, rfl⟩ ⟨_, rfl⟩
  | 13 => tv_in ⟨_, rfl⟩ ⟨_, rfl⟩
  | 14 => tv_in ⟨_, rfl⟩ ⟨_, rfl⟩
  | 15 => tv_in ⟨_, rfl⟩ ⟨_, rfl⟩
  | _ + 16 => tv_in ⟨_, rfl⟩ ⟨_, rfl⟩
theorem tv_106 (s : Nat) : TF.2.2.2 106 s = vlE sg0 106 s := match s with
  | 0 => tv_rf rfl rfl
  | 1 => tv_rf rfl rfl
  | _ + 2 => tv_rf rfl rfl
theorem tv_107 (s : Nat) : TF.2.2.2 107 s = vlE sg0 107 s := tv_in ⟨_, rfl⟩ ⟨_, rfl⟩
theorem tv_108 (s : Nat) : TF.2.2.2 108 s = vlE sg0 108 s := match s with
  | 0 => tv_rf rfl rfl
  | 1 => tv_rf rfl rfl
  | _ + 2 => tv_rf rfl rfl
theorem tv_109 (s : Nat) : TF.2.2.2 109 s = vlE sg0 109 s := tv_in ⟨_, rfl⟩ ⟨_, rfl⟩
theorem tv_110 (s : Nat) : TF.2.2.2 110 s = vlE sg0 110 s := match s with
  | 0 => tv_rf rfl rfl
  | 1 => tv_rf rfl rfl
  | _ + 2 => tv_rf rfl rfl
theorem tv_111 (s : Nat) : TF.2.2.2 111 s = vlE sg0 111 s := tv_in ⟨_, rfl⟩ ⟨_, rfl⟩
theorem tv_112 (s : Nat) : TF.2.2.2 112 s = vlE sg0 112 s := match s with
  | 0 => tv_rf rfl rfl
  | 1 => tv_rf rfl rfl
  | _ + 2 => tv_rf rfl rfl
theorem tv_113 (s : Nat) : TF.2.2.2 113 s = vlE sg0 113 s := tv_in ⟨_, rfl⟩ ⟨_, rfl⟩
theorem tv_114 (s : Nat) : TF.2.2.2 114 s = vlE sg0 114 s := match s with
  | 0 => tv_rf rfl rfl
  | 1 => tv_rf rfl rfl
  | _ + 2 => tv_rf rfl rfl
theorem tv_115 (s : Nat) : TF.2.2.2 115 s = vlE sg0 115 s := tv_in ⟨_, rfl⟩ ⟨_, rfl⟩
theorem tv_116 (s : Nat) : TF.2.2.2 116 s = vlE sg0 116 s := match s with
  | 0 => tv_rf rfl rfl
  | 1 => tv_rf rfl rfl
  | _ + 2 => tv_rf rfl rfl
theorem tv_117 (s : Nat) : TF.2.2.2 117 s = vlE sg0 117 s := tv_in ⟨_, rfl⟩ ⟨_, rfl⟩
theorem tv_118 (s : Nat) : TF.2.2.2 118 s = vlE sg0 118 s := match s with
  | 0 => tv_rf rfl rfl
  | 1 => tv_rf rfl rfl
  | _ + 2 => tv_rf rfl rfl
theorem tv_119 (s : Nat) : TF.2.2.2 119 s = vlE sg0 119 s := tv_in ⟨_, rfl⟩ ⟨_, rfl⟩
theorem tv_120 (s : Nat) : TF.2.2.2 120 s = vlE sg0 120 s := match s with
  | 0 => tv_rf rfl rfl
  | 1 => tv_rf rfl rfl
  | _ + 2 => tv_rf rfl rfl
theorem tv_121 (s : Nat) : TF.2.2.2 121 s = vlE sg0 121 s := tv_in ⟨_, rfl⟩ ⟨_, rfl⟩
theorem tv_122 (s : Nat) : TF.2.2.2 122 s = vlE sg0 122 s := match s with
  | 0 => tv_rf rfl rfl
  | 1 => tv_rf rfl rfl
  | 2 => tv_in ⟨_, rfl⟩ ⟨_, rfl⟩
  | 3 => tv_in ⟨_, rfl⟩ ⟨_, rfl⟩
  | 4 => tv_in ⟨_, rfl⟩ ⟨_, rfl⟩
  | _ + 5 => tv_in ⟨_, rfl⟩ ⟨_, rfl⟩
theorem tv_123 (s : Nat) : TF.2.2.2 123 s = vlE sg0 123 s := tv_in ⟨_, rfl⟩ ⟨_, rfl⟩
theorem tv_124 (s : Nat) : TF.2.2.2 124 s = vlE sg0 124 s := match s with
  | 0 => tv_rf rfl rfl
  | 1 => tv_rf rfl rfl
  | _ + 2 => tv_rf rfl rfl
theorem tv_125 (s : Nat) : TF.2.2.2 125 s = vlE sg0 125 s := tv_in ⟨_, rfl⟩ ⟨_, rfl⟩
theorem tv_126 (s : Nat) : TF.2.2.2 126 s = vlE sg0 126 s := tv_in ⟨_, rfl⟩ ⟨_, rfl⟩
theorem tv_lo {a : Nat} (h : a < 127) (s : Nat) : TF.2.2.2 a s = vlE sg0 a s := by
  rcases (show (0 ≤ a ∧ a < 17) ∨ (17 ≤ a ∧ a < 34) ∨ (34 ≤ a ∧ a < 51) ∨ (51 ≤ a ∧ a < 68) ∨ (68 ≤ a ∧ a < 85) ∨ (85 ≤ a ∧ a < 102) ∨ (102 ≤ a ∧ a < 119) ∨ (119 ≤ a ∧ a < 136) by omega) with hg | hg | hg | hg | hg | hg | hg | hg
  · rcases (show a = 0 ∨ a = 1 ∨ a = 2 ∨ a = 3 ∨ a = 4 ∨ a = 5 ∨ a = 6 ∨ a = 7 ∨ a = 8 ∨ a = 9 ∨ a = 10 ∨ a = 11 ∨ a = 12 ∨ a = 13 ∨ a = 14 ∨ a = 15 ∨ a = 16 by omega) with hq | hq | hq | hq | hq | hq | hq | hq | hq | hq | hq | hq | hq | hq | hq | hq | hq
    · rw [hq]; exact tv_0 s
    · rw [hq]; exact tv_1 s
    · rw [hq]; exact tv_2 s
    · rw [hq]; exact tv_3 s
    · rw [hq]; exact tv_4 s
    · rw [hq]; exact tv_5 s
    · rw [hq]; exact tv_6 s
    · rw [hq]; exact tv_7 s
    · rw [hq]; exact tv_8 s
    · rw [hq]; exact tv_9 s
    · rw [hq]; exact tv_10 s
    · rw [hq]; exact tv_11 s
    · rw [hq]; exact tv_12 s
    · rw [hq]; exact tv_13 s
    · rw [hq]; exact tv_14 s
    · rw [hq]; exact tv_15 s
    · rw [hq]; exact tv_16 s
  · rcases (show a = 17 ∨ a = 18 ∨ a = 19 ∨ a = 20 ∨ a = 21 ∨ a = 22 ∨ a = 23 ∨ a = 24 ∨ a = 25 ∨ a = 26 ∨ a = 27 ∨ a = 28 ∨ a = 29 ∨ a = 30 ∨ a = 31 ∨ a = 32 ∨ a = 33 by omega) with hq | hq | hq | hq | hq | hq | hq | hq | hq | hq | hq | hq | hq | hq | hq | hq | hq
    · rw [hq]; exact tv_17 s
    · rw [hq]; exact tv_18 s
    · rw [hq]; exact tv_19 s
    · rw [hq]; exact tv_20 s
    · rw [hq]; exact tv_21 s
    · rw [hq]; exact tv_22 s
    · rw [hq]; exact tv_23 s
    · rw [hq]; exact tv_24 s
    · rw [hq]; exact tv_25 s
    · rw [hq]; exact tv_26 s
    · rw [hq]; exact tv_27 s
    · rw [hq]; exact tv_28 s
    · rw [hq]; exact tv_29 s
    · rw [hq]; exact tv_30 s
    · rw [hq]; exact tv_31 s
    · rw [hq]; exact tv_32 s
    · rw [hq]; exact tv_33 s
  · rcases (show a = 34 ∨ a = 35 ∨ a = 36 ∨ a = 37 ∨ a = 38 ∨ a = 39 ∨ a = 40 ∨ a = 41 ∨ a = 42 ∨ a = 43 ∨ a = 44 ∨ a = 45 ∨ a = 46 ∨ a = 47 ∨ a = 48 ∨ a = 49 ∨ a = 50 by omega) with hq | hq | hq | hq | hq | hq | hq | hq | hq | hq | hq | hq | hq | hq | hq | hq | hq
    · rw [hq]; exact tv_34 s
    · rw [hq]; exact tv_35 s
    · rw [hq]; exact tv_36 s
    · rw [hq]; exact tv_37 s
    · rw [hq]; exact tv_38 s
    · rw [hq]; exact tv_39 s
    · rw [hq]; exact tv_40 s
    · rw [hq]; exact tv_41 s
    · rw [hq]; exact tv_42 s
    · rw [hq]; exact tv_43 s
    · rw [hq]; exact tv_44 s
    · rw [hq]; exact tv_45 s
    · rw [hq]; exact tv_46 s
    · rw [hq]; exact tv_47 s
    · rw [hq]; exact tv_48 s
    · rw [hq]; exact tv_49 s
    · rw [hq]; exact tv_50 s
  · rcases (show a = 51 ∨ a = 52 ∨ a = 53 ∨ a = 54 ∨ a = 55 ∨ a = 56 ∨ a = 57 ∨ a = 58 ∨ a = 59 ∨ a = 60 ∨ a = 61 ∨ a = 62 ∨ a = 63 ∨ a = 64 ∨ a = 65 ∨ a = 66 ∨ a = 67 by omega) with hq | hq | hq | hq | hq | hq | hq | hq | hq | hq | hq | hq | hq | hq | hq | hq | hq
    · rw [hq]; exact tv_51 s
    · rw [hq]; exact tv_52 s
    · rw [hq]; exact tv_53 s
    · rw [hq]; exact tv_54 s
    · rw [hq]; exact tv_55 s
    · rw [hq]; exact tv_56 s
    · rw [hq]; exact tv_57 s
    · rw [hq]; exact tv_58 s
    · rw [hq]; exact tv_59 s
    · rw [hq]; exact tv_60 s
    · rw [hq]; exact tv_61 s
    · rw [hq]; exact tv_62 s
    · rw [hq]; exact tv_63 s
    · rw [hq]; exact tv_64 s
    · rw [hq]; exact tv_65 s
    · rw [hq]; exact tv_66 s
    · rw [hq]; exact tv_67 s
  · rcases (show a = 68 ∨ a = 69 ∨ a = 70 ∨ a = 71 ∨ a = 72 ∨ a = 73 ∨ a = 74 ∨ a = 75 ∨ a = 76 ∨ a = 77 ∨ a = 78 ∨ a = 79 ∨ a = 80 ∨ a = 81 ∨ a = 82 ∨ a = 83 ∨ a = 84 by omega) with hq | hq | hq | hq | hq | hq | hq | hq | hq | hq | hq | hq | hq | hq | hq | hq | hq
    · rw [hq]; exact tv_68 s
    · rw [hq]; exact tv_69 s
    · rw [hq]; exact tv_70 s
    · rw [hq]; exact tv_71 s
    · rw [hq]; exact tv_72 s
    · rw [hq]; exact tv_73 s
    · rw [hq]; exact tv_74 s
    · rw [hq]; exact tv_75 s
    · rw [hq]; exact tv_76 s
    · rw [hq]; exact tv_77 s
    · rw [hq]; exact tv_78 s
    · rw [hq]; exact tv_79 s
    · rw [hq]; exact tv_80 s
    · rw [hq]; exact tv_81 s
    · rw [hq]; exact tv_82 s
    · rw [hq]; exact tv_83 s
    · rw [hq]; exact tv_84 s
  · rcases (show a = 85 ∨ a = 86 ∨ a = 87 ∨ a = 88 ∨ a = 89 ∨ a = 90 ∨ a = 91 ∨ a = 92 ∨ a = 93 ∨ a = 94 ∨ a = 95 ∨ a = 96 ∨ a = 97 ∨ a = 98 ∨ a = 99 ∨ a = 100 ∨ a = 101 by omega) with hq | hq | hq | hq | hq | hq | hq | hq | hq | hq | hq | hq | hq | hq | hq | hq | hq
    · rw [hq]; exact tv_85 s
    · rw [hq]; exact tv_86 s
    · rw [hq]; exact tv_87 s
    · rw [hq]; exact tv_88 s
    · rw [hq]; exact tv_89 s
    · rw [hq]; exact tv_90 s
    · rw [hq]; exact tv_91 s
    · rw [hq]; exact tv_92 s
    · rw [hq]; exact tv_93 s
    · rw [hq]; exact tv_94 s
    · rw [hq]; exact tv_95 s
    · rw [hq]; exact tv_96 s
    · rw [hq]; exact tv_97 s
    · rw [hq]; exact tv_98 s
    · rw [hq]; exact tv_99 s
    · rw [hq]; exact tv_100 s
    · rw [hq]; exact tv_101 s
  · rcases (show a = 102 ∨ a = 103 ∨ a = 104 ∨ a = 105 ∨ a = 106 ∨ a = 107 ∨ a = 108 ∨ a = 109 ∨ a = 110 ∨ a = 111 ∨ a = 112 ∨ a = 113 ∨ a = 114 ∨ a = 115 ∨ a = 116 ∨ a = 117 ∨ a = 118 by omega) with hq | hq | hq | hq | hq | hq | hq | hq | hq | hq | hq | hq | hq | hq | hq | hq | hq
    · rw [hq]; exact tv_102 s
    · rw [hq]; exact tv_103 s
    · rw [hq]; exact tv_104 s
    · rw [hq]; exact tv_105 s
    · rw [hq]; exact tv_106 s
    · rw [hq]; exact tv_107 s
    · rw [hq]; exact tv_108 s
    · rw [hq]; exact tv_109 s
    · rw [hq]; exact tv_110 s
    · rw [hq]; exact tv_111 s
    · rw [hq]; exact tv_112 s
    · rw [hq]; exact tv_113 s
    · rw [hq]; exact tv_114 s
    · rw [hq]; exact tv_115 s
    · rw [hq]; exact tv_116 s
    · rw [hq]; exact tv_117 s
    · rw [hq]; exact tv_118 s
  · rcases (show a = 119 ∨ a = 120 ∨ a = 121 ∨ a = 122 ∨ a = 123 ∨ a = 124 ∨ a = 125 ∨ a = 126 ∨ a = 127 ∨ a = 128 ∨ a = 129 ∨ a = 130 ∨ a = 131 ∨ a = 132 ∨ a = 133 ∨ a = 134 ∨ a = 135 by omega) with hq | hq | hq | hq | hq | hq | hq | hq | hq | hq | hq | hq | hq | hq | hq | hq | hq
    · rw [hq]; exact tv_119 s
    · rw [hq]; exact tv_120 s
    · rw [hq]; exact tv_121 s
    · rw [hq]; exact tv_122 s
    · rw [hq]; exact tv_123 s
    · rw [hq]; exact tv_124 s
    · rw [hq]; exact tv_125 s
    · rw [hq]; exact tv_126 s
    · omega
    · omega
    · omega
    · omega
    · omega
    · omega
    · omega
    · omega
    · omega
theorem hX_hk {S : MS} {a k b : Nat} (h : S.1 + 2 * k ≤ b) : (hX S a k).2.2.1 b = S.2.2.1 b := by
  show (if S.1 ≤ b ∧ b < S.1 + 2 * k then _ else _) = _
  rw [if_neg (by omega)]
theorem hZ_hv {S : MS} {a b s : Nat} {f : Nat → Nat → Int32} (h : S.1 + 16 ≤ b) (ha : b ≠ a) : (hZ S a f).2.2.2 b s = S.2.2.2 b s := by
  show (if b = a ∧ s < 8 then _ else if S.1 ≤ b ∧ b < S.1 + 16 then _ else _) = _
  rw [if_neg (by omega), if_neg (by omega)]
theorem hN_hk {T : MS} {b : Nat} (h : T.1 + 17 ≤ b) : (hN T).2.2.1 b = T.2.2.1 b := by
  show (hX (svNew T 0 0 (nf 0) (fun k => defaultValue (fty 0 k))) T.1 8).2.2.1 b = _
  rw [hX_hk (by rw [sn1_]; omega), sn3_, if_neg (by omega)]
theorem hN_hv {T : MS} {b s : Nat} (h : T.1 + 17 ≤ b) : (hN T).2.2.2 b s = T.2.2.2 b s := by
  rw [hZ_hv (by rw [sn1_]; omega) (by omega), sn4_, if_neg (by omega)]
theorem ti_hk {S : MS} {r b : Nat} {x y : Int32} (h : S.1 + 1 ≤ b) : (tiS S r x y).2.2.1 b = S.2.2.1 b := by
  show (if b = S.1 then _ else S.2.2.1 b) = _
  rw [if_neg (by omega)]
theorem ti_hv {S : MS} {r b s : Nat} {x y : Int32} (h : S.1 + 1 ≤ b) (hr : b ≠ r) : (tiS S r x y).2.2.2 b s = S.2.2.2 b s := by
  show (if b = r ∧ s = 1 then _ else if b = S.1 then _ else if b = r ∧ s = 0 then _ else S.2.2.2 b s) = _
  rw [if_neg (fun q => hr q.1), if_neg (by omega), if_neg (fun q => hr q.1)]
theorem nS_hk {S : MS} {a b : Nat} (h : S.1 + 3 ≤ b) : (nS S a).2.2.1 b = S.2.2.1 b := by
  show (tiS _ _ _ _).2.2.1 b = _
  rw [ti_hk (by rw [sn1_, ss1, sn1_]; omega), sn3_, if_neg (by rw [ss1, sn1_]; omega), ss3, sn3_, if_neg (by omega)]
theorem nS_hv {S : MS} {a b s : Nat} (h : S.1 + 3 ≤ b) (ha : b ≠ a) : (nS S a).2.2.2 b s = S.2.2.2 b s := by
  unfold nS
  rw [ss4, if_neg (fun q => ha q.1), ti_hv (by rw [sn1_, ss1, sn1_]; omega) (by omega), sn4_, if_neg (by rw [ss1, sn1_]; omega), ss4, if_neg (fun q => ha q.1), sn4_, if_neg (by omega)]
theorem pX_h1 {S : MS} {a : Nat} : ∀ n, (pX S a n).1 = S.1 + 1 + 17 * n := by
  intro n
  induction n with
  | zero => rfl
  | succ n ih =>
    show (pX S a n).1 + 17 = _
    omega
theorem pX_hk {S : MS} {a b : Nat} : ∀ n, S.1 + 1 + 17 * n ≤ b → (pX S a n).2.2.1 b = S.2.2.1 b := by
  intro n
  induction n with
  | zero =>
    intro h
    show (if b = S.1 then _ else S.2.2.1 b) = _
    rw [if_neg (by omega)]
  | succ n ih =>
    intro h
    show (hN (pX S a n)).2.2.1 b = _
    rw [hN_hk (by rw [pX_h1]; omega), ih (by omega)]
theorem pX_hv {S : MS} {a b s : Nat} (ha : b ≠ a) : ∀ n, S.1 + 1 + 17 * n ≤ b → (pX S a n).2.2.2 b s = S.2.2.2 b s := by
  intro n
  induction n with
  | zero =>
    intro h
    show (if b = a ∧ s = 0 then _ else if b = S.1 then _ else S.2.2.2 b s) = _
    rw [if_neg (fun q => ha q.1), if_neg (by omega)]
  | succ n ih =>
    intro h
    show (if b = S.1 ∧ s = n then _ else (hN (pX S a n)).2.2.2 b s) = _
    rw [if_neg (by omega), hN_hv (by rw [pX_h1]; omega), ih (by omega)]
theorem x3_hk {S : MS} {a b : Nat} (h : S.1 + 51 ≤ b) : (x3 S a).2.2.1 b = S.2.2.1 b := by
  show (hN (x2 S a)).2.2.1 b = _
  rw [hN_hk (by rw [x2_1]; omega)]
  show (hN (x1 S a)).2.2.1 b = _
  rw [hN_hk (by rw [x1_1]; omega)]
  show (hN S).2.2.1 b = _
  rw [hN_hk (by omega)]
theorem x3_hv {S : MS} {a b s : Nat} (h : S.1 + 51 ≤ b) (ha : b ≠ a) : (x3 S a).2.2.2 b s = S.2.2.2 b s := by
  show (svSet (hN (x2 S a)) a 2 (.ref (x2 S a).1)).2.2.2 b s = _
  rw [ss4, if_neg (fun q => ha q.1), hN_hv (by rw [x2_1]; omega)]
  show (svSet (hN (x1 S a)) a 1 (.ref (x1 S a).1)).2.2.2 b s = _
  rw [ss4, if_neg (fun q => ha q.1), hN_hv (by rw [x1_1]; omega)]
  show (svSet (hN S) a 0 (.ref S.1)).2.2.2 b s = _
  rw [ss4, if_neg (fun q => ha q.1), hN_hv (by omega)]
theorem x5_hk {S : MS} {a b : Nat} (h : S.1 + 125 ≤ b) : (x5 S a).2.2.1 b = S.2.2.1 b := by
  show (nS (svNew (x4 S a) 1 0 (nf 1) (fun k => defaultValue (fty 1 k))) (x4 S a).1).2.2.1 b = _
  rw [nS_hk (by rw [sn1_, x4_1]; omega), sn3_, if_neg (by rw [x4_1]; omega)]
  show (pX (svNew (x3 S a) 2 0 (nf 2) (fun k => defaultValue (fty 2 k))) (x3 S a).1 4).2.2.1 b = _
  rw [pX_hk 4 (by rw [sn1_, x3_1]; omega), sn3_, if_neg (by rw [x3_1]; omega), x3_hk (by omega)]
theorem x5_hv {S : MS} {a b s : Nat} (h : S.1 + 125 ≤ b) (ha : b ≠ a) : (x5 S a).2.2.2 b s = S.2.2.2 b s := by
  unfold x5
  rw [ss4, if_neg (fun q => ha q.1), nS_hv (by rw [sn1_, x4_1]; omega) (by rw [x4_1]; omega), sn4_, if_neg (by rw [x4_1]; omega)]
  unfold x4
  rw [ss4, if_neg (fun q => ha q.1), pX_hv (by rw [x3_1]; omega) 4 (by rw [sn1_, x3_1]; omega), sn4_, if_neg (by rw [x3_1]; omega), x3_hv (by omega) ha]
theorem tk_hi {a : Nat} (h : 127 ≤ a) : TF.2.2.1 a = kdE a := by
  have e1 : T00.1 = 1 := rfl
  have e2 : T01.1 = 126 := rfl
  have e0 : S00.1 = 0 := rfl
  show (if a = T01.1 then _ else T01.2.2.1 a) = _
  rw [e2, if_neg (by omega)]
  unfold T01
  rw [x5_hk (by rw [e1]; omega)]
  show (if a = S00.1 then _ else S00.2.2.1 a) = _
  rw [e0, if_neg (by omega)]
  rfl
theorem tv_h0 {a s : Nat} (h : 127 ≤ a) : TF.2.2.2 a s = vlE (fun _ _ _ => 0) a s := by
  have e1 : T00.1 = 1 := rfl
  have e2 : T01.1 = 126 := rfl
  have e0 : S00.1 = 0 := rfl
  show (if a = T01.1 then _ else T01.2.2.2 a s) = _
  rw [e2, if_neg (by omega)]
  unfold T01
  rw [x5_hv (by rw [e1]; omega) (by omega)]
  show (if a = S00.1 then _ else S00.2.2.2 a s) = _
  rw [e0, if_neg (by omega)]
  rfl
theorem tv_hi {a s : Nat} (h : 127 ≤ a) : TF.2.2.2 a s = vlE sg0 a s := by
  rw [tv_h0 h]
  unfold vlE
  cases hl : loc a s with
  | none => rfl
  | some q =>
    obtain ⟨i, k, t⟩ := q
    obtain ⟨h1, h2⟩ := adr_loc hl
    show Value.int 0 = Value.int (toI (TF.2.2.2 (adr i k) (slo i k t)))
    rw [h1, h2, tv_h0 h]
    unfold vlE
    rw [hl]
    rfl
theorem TF_emb : TF = emb sg0 := by
  refine ms_ext rfl ?_ (fun a => ?_) (fun a s => ?_)
  · show TF.2.1 = 9459
    decide +kernel
  · rcases Nat.lt_or_ge a 127 with h | h
    · exact tk_lo a h
    · exact tk_hi h
  · rcases Nat.lt_or_ge a 127 with h | h
    · exact tv_lo h s
    · exact tv_hi h
