theorem pure_ok : ∃ RG : SG → Prop, RG sg0 ∧ StepsOK RG := by
  sorry
