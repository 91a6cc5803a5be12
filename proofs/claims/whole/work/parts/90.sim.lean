theorem sim_all : ∃ (N : Nat) (Rel : StA → StB → Prop), SimAll N Rel ∧ ∀ u v, InitA u → InitB v → Rel u v := sorry
