theorem lt0n {i n : Nat} (h : i < n) : i + 1 ≤ n := h
/-- a loop's counter against a number of things -/
theorem lp_in {i n : Nat} (h : i < n) (hn : n ≤ 1000) : ¬ nI n ≤ nI i := nI_ge h (by omega)
theorem lp_out {i n : Nat} (h : n ≤ i) (hi : i ≤ 100000) : nI n ≤ nI i := nI_le h (by omega)
theorem named_loop {N : Nat} {u : StA} {v : StB} {nl : Nat} (c10 : u.1 6 = nI nl) (c11 : v.1 5 = nI nl) (hn : nl ≤ 100) (e18 : u.2.1 20 = v.2 21) (e22 : u.2.1 24 = v.2 25) (hL : ∀ j, u.2.1 24 j = -1 ∨ ∃ e, e < 1000000 ∧ u.2.1 24 j = nI e) (x : Int32) : ∀ (n i : Nat), i ≤ nl → nl - i < n → ∃ r, f_Lo_bearerOf_2 N n u x (nI i) = some r ∧ f_B_named_7 N n v x (nI i) = some (r, v) ∧ ((r = -1 ∧ ∀ j, i ≤ j → j < nl → ¬ (u.2.1 20 j = x ∧ u.2.1 24 j = -1)) ∨ ∃ j, i ≤ j ∧ j < nl ∧ r = nI j ∧ u.2.1 20 j = x ∧ u.2.1 24 j = -1) := by
  intro n
  induction n with
  | zero => intro i h1 h2; omega
  | succ n ih =>
    intro i h1 h2
    rw [f_Lo_bearerOf_2, f_B_named_7, c10, c11]
    by_cases hi : i < nl
    · rw [if_neg (lp_in hi (by omega)), if_neg (lp_in hi (by omega)), gI_n (by omega) (by omega), gI_n (by omega) (by omega), nI_clamp (by omega), ← e18, ← e22, nI_1]
      have hl := ended_iff (hL i)
      unfold f_Lo_isLent
      rw [gI_n (by omega) (by omega), nI_clamp (by omega)]
      obtain ⟨r, q1, q2, q3⟩ := ih (i + 1) (by omega) (by omega)
      by_cases g1 : u.2.1 20 i = x
      · by_cases g2 : u.2.1 24 i = -1
        · refine ⟨nI i, ?_, ?_, Or.inr ⟨i, by omega, hi, rfl, g1, g2⟩⟩
          · rw [if_pos g1, if_pos g2]; rfl
          · rw [if_neg (fun q => (hl.mp q) g2), if_pos g1]
        · refine ⟨r, ?_, ?_, ?_⟩
          · rw [if_pos g1, if_neg g2]; exact q1
          · rw [if_pos (hl.mpr g2)]; exact q2
          · rcases q3 with ⟨q3, q4⟩ | ⟨j, q3, q4, q5⟩
            · refine Or.inl ⟨q3, fun j hj hjn => ?_⟩
              by_cases hji : j = i
              · subst hji; exact fun z => g2 z.2
              · exact q4 j (by omega) hjn
            · exact Or.inr ⟨j, by omega, q4, q5⟩
      · refine ⟨r, ?_, ?_, ?_⟩
        · rw [if_neg g1]; exact q1
        · by_cases g2 : u.2.1 24 i = -1
          · rw [if_neg (fun q => (hl.mp q) g2), if_neg g1]; exact q2
          · rw [if_pos (hl.mpr g2)]; exact q2
        · rcases q3 with ⟨q3, q4⟩ | ⟨j, q3, q4, q5⟩
          · refine Or.inl ⟨q3, fun j hj hjn => ?_⟩
            by_cases hji : j = i
            · subst hji; exact fun z => g1 z.1
            · exact q4 j (by omega) hjn
          · exact Or.inr ⟨j, by omega, q4, q5⟩
    · rw [if_pos (lp_out (by omega) (by omega)), if_pos (lp_out (by omega) (by omega))]
      exact ⟨-1, rfl, rfl, Or.inl ⟨rfl, fun j hj hjn => by omega⟩⟩
theorem sim_named {N : Nat} (hN : 200 ≤ N) : Sim_named N Rel := by
  intro u v a1 hRel
  obtain ⟨nh, ng, nk, nl, t, h0, hT⟩ := id hRel
  obtain ⟨hC, hE, hS, hV, hQ, hO, hX, hL, hG, hK⟩ := h0
  obtain ⟨c1, c2, c3, c4, c5, c6, c7, c8, c9, c10, c11, c12, c13, c14, c15, c16, c17⟩ := hC
  obtain ⟨e1, e2, e3, e4, e5, e6, e7, e8, e9, e10, e11, e12, e13, e14, e15, e16, e17, e18, e19, e20, e21, e22⟩ := hE
  obtain ⟨r, q1, q2, -⟩ := named_loop (N := N) (u := u) (v := bF v 0 0) c10 c11 c12 e18 e22 hL.2 a1 N 0 (by omega) (by omega)
  refine ⟨r, bF v 0 0, ?_, ?_, rel_th hRel 0⟩
  · unfold f_A_named f_Lo_bearerOf
    rw [show (0 : Int32) = nI 0 from rfl, q1]; rfl
  · unfold f_B_named
    rw [show f_B_named_7 N N (bF v 0 0) a1 0 = f_B_named_7 N N (bF v 0 0) a1 (nI 0) from rfl, q2]
theorem c23_pass {N : Nat} {v : StB} {nl : Nat} (c11 : v.1 5 = nI nl) (hn : nl ≤ 100) {x1 x2 : Int32} (h1 : ¬ x1 = 1) : ∀ (n i : Nat), i ≤ nl → nl - i < n → f_B_count_23 N n v x1 x2 (nI i) = f_B_count_56 N N v x1 x2 0 := by
  intro n
  induction n with
  | zero => intro i h1 h2; omega
  | succ n ih =>
    intro i h2 h3
    rw [f_B_count_23, c11]
    by_cases hi : i < nl
    · rw [if_neg (lp_in hi (by omega)), if_neg h1, nI_1]
      exact ih (i + 1) (by omega) (by omega)
    · rw [if_pos (lp_out (by omega) (by omega))]
theorem c56_pass {N : Nat} {v : StB} {nk : Nat} (c8 : v.1 4 = nI nk) (hn : nk ≤ 30) {x1 x2 : Int32} (h1 : ¬ x1 = 2) : ∀ (n i : Nat), i ≤ nk → nk - i < n → f_B_count_56 N n v x1 x2 (nI i) = if x1 = 0 then some (v.1 1, v) else if x1 = 3 then some (v.1 6, v) else if x1 = 4 then some (v.1 7, v) else some (x2, v) := by
  intro n
  induction n with
  | zero => intro i h1 h2; omega
  | succ n ih =>
    intro i h2 h3
    rw [f_B_count_56, c8]
    by_cases hi : i < nk
    · rw [if_neg (lp_in hi (by omega)), if_neg h1, nI_1]
      exact ih (i + 1) (by omega) (by omega)
    · rw [if_pos (lp_out (by omega) (by omega))]
theorem c23_cnt {N : Nat} {u : StA} {v : StB} {nl : Nat} (c10 : u.1 6 = nI nl) (c11 : v.1 5 = nI nl) (hn : nl ≤ 100) (e22 : u.2.1 24 = v.2 25) (hL : ∀ j, u.2.1 24 j = -1 ∨ ∃ e, e < 1000000 ∧ u.2.1 24 j = nI e) : ∀ (n i : Nat) (x2 : Int32), i ≤ nl → nl - i < n → ∃ r, f_Lo_lent_4 N n u x2 (nI i) = some r ∧ f_B_count_23 N n v 1 x2 (nI i) = f_B_count_56 N N v 1 r 0 := by
  intro n
  induction n with
  | zero => intro i _ h1 h2; omega
  | succ n ih =>
    intro i x2 h2 h3
    rw [f_Lo_lent_4, f_B_count_23, c10, c11]
    by_cases hi : i < nl
    · rw [if_neg (lp_in hi (by omega)), if_neg (lp_in hi (by omega)), if_pos rfl, nI_1]
      unfold f_Lo_isLent
      rw [gI_n (by omega) (by omega), gI_n (by omega) (by omega), nI_clamp (by omega), ← e22]
      have hl := ended_iff (hL i)
      by_cases g2 : u.2.1 24 i = -1
      · obtain ⟨r, q1, q2⟩ := ih (i + 1) (x2 + 1) (by omega) (by omega)
        refine ⟨r, ?_, ?_⟩
        · rw [if_pos g2]; exact q1
        · rw [if_neg (fun q => (hl.mp q) g2)]; exact q2
      · obtain ⟨r, q1, q2⟩ := ih (i + 1) x2 (by omega) (by omega)
        refine ⟨r, ?_, ?_⟩
        · rw [if_neg g2]; exact q1
        · rw [if_pos (hl.mpr g2)]; exact q2
    · rw [if_pos (lp_out (by omega) (by omega)), if_pos (lp_out (by omega) (by omega))]
      exact ⟨x2, rfl, rfl⟩
theorem c56_cnt {N : Nat} {u : StA} {v : StB} {nk : Nat} (c7 : u.1 5 = nI nk) (c8 : v.1 4 = nI nk) (hn : nk ≤ 30) (e12 : u.2.1 13 = v.2 13) : ∀ (n i : Nat) (x2 : Int32), i ≤ nk → nk - i < n → ∃ r, f_As_open_4 N n u x2 (nI i) = some r ∧ f_B_count_56 N n v 2 x2 (nI i) = some (r, v) := by
  intro n
  induction n with
  | zero => intro i _ h1 h2; omega
  | succ n ih =>
    intro i x2 h2 h3
    rw [f_As_open_4, f_B_count_56, c7, c8]
    by_cases hi : i < nk
    · rw [if_neg (lp_in hi (by omega)), if_neg (lp_in hi (by omega)), if_pos rfl, nI_1]
      unfold f_As_isOpen
      rw [gI_n (by omega) (by omega), gI_n (by omega) (by omega), nI_clamp (by omega), ← e12]
      by_cases g2 : u.2.1 13 i = 0
      · obtain ⟨r, q1, q2⟩ := ih (i + 1) (x2 + 1) (by omega) (by omega)
        refine ⟨r, ?_, ?_⟩
        · rw [if_pos g2]; exact q1
        · rw [if_pos g2]; exact q2
      · obtain ⟨r, q1, q2⟩ := ih (i + 1) x2 (by omega) (by omega)
        refine ⟨r, ?_, ?_⟩
        · rw [if_neg g2]; exact q1
        · rw [if_neg g2]; exact q2
    · rw [if_pos (lp_out (by omega) (by omega)), if_pos (lp_out (by omega) (by omega))]
      exact ⟨x2, rfl, rfl⟩
theorem sim_count {N : Nat} (hN : 200 ≤ N) : Sim_count N Rel := by
  intro u v a1 hRel
  obtain ⟨nh, ng, nk, nl, t, h0, hT⟩ := id hRel
  obtain ⟨hC, hE, hS, hV, hQ, hO, hX, hL, hG, hK⟩ := h0
  obtain ⟨c1, c2, c3, c4, c5, c6, c7, c8, c9, c10, c11, c12, c13, c14, c15, c16, c17⟩ := hC
  obtain ⟨e1, e2, e3, e4, e5, e6, e7, e8, e9, e10, e11, e12, e13, e14, e15, e16, e17, e18, e19, e20, e21, e22⟩ := hE
  have d8 : (bF v 0 0).1 4 = nI nk := c8
  have d11 : (bF v 0 0).1 5 = nI nl := c11
  rcases in_lit a1 (lo := 0) (hi := 4) (by omega) (by omega) with i2 | ⟨i2, j, -, hj, rfl⟩
  · have i2 : f_B_in a1 (0 : Int32) (4 : Int32) = 0 := i2
    have hB : f_B_count N v a1 = some (0, bF v 0 1) := by
      unfold f_B_count
      rw [i2, goes_1_1 (by omega) _ _ _ _ _ rfl, bind_0]
    have hne : ∀ k : Nat, k ≤ 4 → ¬ a1 = nI k := fun k hk e => by
      subst e
      have : f_B_in (nI k) (nI 0) (nI 4) = 1 := by
        unfold f_B_in
        rw [if_neg (nI_nlt (by omega) (by omega)), if_neg (nI_nlt (by omega) (by omega))]
      rw [show f_B_in (nI k) (nI 0) (nI 4) = f_B_in (nI k) 0 4 from rfl, i2] at this
      exact absurd this (by decide)
    have hA : f_A_count N u a1 = some ((1, 0), u) := by
      unfold f_A_count
      rw [if_neg (show ¬ a1 = (0 : Int32) from hne 0 (by omega)), if_neg (show ¬ a1 = (1 : Int32) from hne 1 (by omega)), if_neg (show ¬ a1 = (2 : Int32) from hne 2 (by omega)), if_neg (show ¬ a1 = (3 : Int32) from hne 3 (by omega)), if_neg (show ¬ a1 = (4 : Int32) from hne 4 (by omega))]
    exact ⟨1, 0, u, 0, bF v 0 1, hA, by simp, hB, rfl, by simp, rel_th hRel 1⟩
  · have i2 : f_B_in (nI j) (0 : Int32) (4 : Int32) = 1 := i2
    have hB0 : f_B_count N v (nI j) = f_B_count_23 N N (bF v 0 0) (nI j) 0 (nI 0) := by
      unfold f_B_count
      rw [i2, goes_ok (by omega) _ _ _ _ _ _ (by decide) (by decide) (by decide) (by decide), bind_1]
      rfl
    have hj5 : j = 0 ∨ j = 1 ∨ j = 2 ∨ j = 3 ∨ j = 4 := by omega
    rcases hj5 with rfl | rfl | rfl | rfl | rfl
    · refine ⟨0, u.1 0, u, v.1 1, bF v 0 0, rfl, by simp, ?_, rfl, fun _ => by rw [c13, c14], rel_th hRel 0⟩
      rw [hB0, c23_pass d11 c12 (by decide) N 0 (by omega) (by omega), show f_B_count_56 N N (bF v 0 0) (nI 0) 0 0 = f_B_count_56 N N (bF v 0 0) (nI 0) 0 (nI 0) from rfl, c56_pass d8 c9 (by decide) N 0 (by omega) (by omega)]
      rfl
    · obtain ⟨r, q1, q2⟩ := c23_cnt (N := N) (u := u) (v := bF v 0 0) c10 d11 c12 e22 hL.2 N 0 0 (by omega) (by omega)
      refine ⟨0, r, u, r, bF v 0 0, ?_, by simp, ?_, rfl, fun _ => rfl, rel_th hRel 0⟩
      · unfold f_A_count f_Lo_lent
        rw [if_neg (show ¬ nI 1 = (0 : Int32) by decide), if_pos (show nI 1 = (1 : Int32) from rfl), show f_Lo_lent_4 N N u 0 0 = f_Lo_lent_4 N N u 0 (nI 0) from rfl, q1]; rfl
      · rw [hB0, show f_B_count_23 N N (bF v 0 0) (nI 1) 0 (nI 0) = f_B_count_23 N N (bF v 0 0) 1 0 (nI 0) from rfl, q2, show f_B_count_56 N N (bF v 0 0) 1 r 0 = f_B_count_56 N N (bF v 0 0) 1 r (nI 0) from rfl, c56_pass d8 c9 (by decide) N 0 (by omega) (by omega)]
        rfl
    · obtain ⟨r, q1, q2⟩ := c56_cnt (N := N) (u := u) (v := bF v 0 0) c7 d8 c9 e12 N 0 0 (by omega) (by omega)
      refine ⟨0, r, u, r, bF v 0 0, ?_, by simp, ?_, rfl, fun _ => rfl, rel_th hRel 0⟩
      · unfold f_A_count f_As_open
        rw [if_neg (show ¬ nI 2 = (0 : Int32) by decide), if_neg (show ¬ nI 2 = (1 : Int32) by decide), if_pos (show nI 2 = (2 : Int32) from rfl), show f_As_open_4 N N u 0 0 = f_As_open_4 N N u 0 (nI 0) from rfl, q1]; rfl
      · rw [hB0, c23_pass d11 c12 (by decide) N 0 (by omega) (by omega)]
        exact q2
    · refine ⟨0, u.1 1, u, v.1 6, bF v 0 0, rfl, by simp, ?_, rfl, fun _ => c16, rel_th hRel 0⟩
      rw [hB0, c23_pass d11 c12 (by decide) N 0 (by omega) (by omega), show f_B_count_56 N N (bF v 0 0) (nI 3) 0 0 = f_B_count_56 N N (bF v 0 0) (nI 3) 0 (nI 0) from rfl, c56_pass d8 c9 (by decide) N 0 (by omega) (by omega)]
      rfl
    · refine ⟨0, u.1 2, u, v.1 7, bF v 0 0, rfl, by simp, ?_, rfl, fun _ => c17, rel_th hRel 0⟩
      rw [hB0, c23_pass d11 c12 (by decide) N 0 (by omega) (by omega), show f_B_count_56 N N (bF v 0 0) (nI 4) 0 0 = f_B_count_56 N N (bF v 0 0) (nI 4) 0 (nI 0) from rfl, c56_pass d8 c9 (by decide) N 0 (by omega) (by omega)]
      rfl
