theorem rel_init (u : StA) (v : StB) (hu : InitA u) (hv : InitB v) : Rel u v := by
  obtain ⟨u1, u2, u3, u4⟩ := hu
  obtain ⟨v1, v2, v3⟩ := hv
  have he : ∀ k k', k ≠ 0 → k' ≠ 27 → u.2.1 k = v.2 k' := fun k k' h h' => funext fun j => by rw [u2 k j h, v2 k' j h']
  refine ⟨0, 0, 0, 0, 0, ⟨⟨u1 3, v1 2, by omega, u1 4, v1 3, by omega, u1 5, v1 4, by omega, u1 6, v1 5, by omega, u1 0, v1 1, by omega, by rw [u1, v1], by rw [u1, v1]⟩, ?_, fun j => ?_, fun j hj => ?_, fun k hk => ?_, fun j hj => ?_, fun j hj => ?_, ⟨fun j hj => by omega, fun j => ?_⟩, fun j hj => by omega, ⟨fun j hj => by omega, fun j hj => ⟨u2 16 j (by decide), u2 15 j (by decide)⟩⟩⟩, fun j hj => by omega, fun j hj => by omega⟩
  · exact ⟨he _ _ (by decide) (by decide), he _ _ (by decide) (by decide), he _ _ (by decide) (by decide), he _ _ (by decide) (by decide), he _ _ (by decide) (by decide), he _ _ (by decide) (by decide), he _ _ (by decide) (by decide), he _ _ (by decide) (by decide), he _ _ (by decide) (by decide), he _ _ (by decide) (by decide), he _ _ (by decide) (by decide), he _ _ (by decide) (by decide), he _ _ (by decide) (by decide), he _ _ (by decide) (by decide), he _ _ (by decide) (by decide), he _ _ (by decide) (by decide), he _ _ (by decide) (by decide), he _ _ (by decide) (by decide), he _ _ (by decide) (by decide), he _ _ (by decide) (by decide), he _ _ (by decide) (by decide), he _ _ (by decide) (by decide)⟩
  · rw [u2 8 j (by decide), v2 7 j (by decide), v2 8 j (by decide)]
    decide
  · refine ⟨0, by omega, u2 17 j (by decide), ?_, fun h hh => ?_⟩
    · rw [v2 17 j (by decide)]; decide
    · rw [v2 19 _ (by decide)]
      simp
  · rw [v2 26 k (by decide)]
    unfold nib
    rw [u4]
    have : (0 : Int64).toBitVec.toNat = 0 := by decide
    rw [this, Nat.zero_div]
    rfl
  · rw [u3 j hj, v3 j hj]
    exact ⟨rfl, Or.inl rfl⟩
  · exact Or.inl (u2 3 j (by decide))
  · exact Or.inr ⟨0, by omega, u2 24 j (by decide)⟩
theorem sim_all : ∃ (N : Nat) (Rel : StA → StB → Prop), SimAll N Rel ∧ ∀ u v, InitA u → InitB v → Rel u v :=
  ⟨4000, Rel, ⟨sim_house (by omega), sim_agree (by omega), sim_ask (by omega), sim_message (by omega), sim_seen (by omega), sim_tick (by omega), sim_cut (by omega), sim_end (by omega), sim_askAt (by omega), sim_loanAt (by omega), sim_cost (by omega), sim_named (by omega), sim_hand (by omega), sim_handed (by omega), sim_count (by omega)⟩, rel_init⟩
