theorem pure_all : ∃ (F : Nat) (Inv : vs → Prop), StAll F Inv ∧ Inv S0 := sorry
