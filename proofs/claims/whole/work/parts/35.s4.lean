theorem i32_59 (x : Int32) : x + 60 - 1 = x + 59 := by
  rw [Int32.sub_eq_add_neg, Int32.add_assoc]
  rfl
theorem cost_eq {u : StA} {v : StB} {nh ng nl t : Nat} (c13 : u.1 0 = nI t) (c14 : v.1 1 = nI t) (e2 : u.2.1 2 = v.2 1) (e17 : u.2.1 19 = v.2 20) (e21 : u.2.1 23 = v.2 24) (e22 : u.2.1 24 = v.2 25) (hL : rL u nh ng nl) (hnh : nh ≤ 8) (hnl : nl ≤ 100) {j : Nat} (hj : j < nl) : ∃ r, f_A_costOfLoan u (nI j) = some r ∧ f_B_costOf v (nI j) = some r := by
  have hl := ended_iff (hL.2 j)
  obtain ⟨h, a, hh, ha, q1, q2⟩ := hL.1 j hj
  have key : ∀ y0 : Int32, ∃ r, f_A_costOfLoan_27 u (nI j) y0 = some r ∧ f_B_costOf_22 v (nI j) y0 = some r := by
    intro y0
    unfold f_A_costOfLoan_27 f_B_costOf_22
    rw [gI_n (by omega) (by omega), gI_n (by omega) (by omega), nI_clamp (by omega), ← e21, ← e17, ← e2, q1]
    by_cases g : 0 < y0 - u.2.1 23 j
    · rw [if_pos g, if_pos g, gI_n (by omega) (by omega), gI_n (by omega) (by omega), nI_clamp (by omega), i32_59, Int32.mul_comm]
      exact ⟨_, rfl, rfl⟩
    · rw [if_neg g, if_neg g]
      exact ⟨_, rfl, rfl⟩
  unfold f_A_costOfLoan f_B_costOf f_Lo_isLent
  simp only [gI_n (show j < 100 by omega) (show 100 < 2147483648 by omega), nI_clamp (show j < 2 ^ 31 by omega), ← e22]
  by_cases g : u.2.1 24 j = -1
  · rw [if_pos g, if_neg (fun q => (hl.mp q) g)]
    show ∃ r, (if (1 : Int32) = 0 then f_A_costOfLoan_27 u (nI j) (u.2.1 24 j) else f_A_costOfLoan_27 u (nI j) (u.1 0)) = some r ∧ f_B_costOf_22 v (nI j) (v.1 1) = some r
    rw [if_neg (by decide), c13, c14]
    exact key _
  · rw [if_neg g, if_pos (hl.mpr g)]
    show ∃ r, (if (0 : Int32) = 0 then f_A_costOfLoan_27 u (nI j) (u.2.1 24 j) else f_A_costOfLoan_27 u (nI j) (u.1 0)) = some r ∧ f_B_costOf_22 v (nI j) (u.2.1 24 j) = some r
    rw [if_pos rfl]
    exact key _
theorem cost_loop {N : Nat} {u : StA} {v : StB} {nh ng nl t : Nat} (c10 : u.1 6 = nI nl) (c11 : v.1 5 = nI nl) (c13 : u.1 0 = nI t) (c14 : v.1 1 = nI t) (e2 : u.2.1 2 = v.2 1) (e17 : u.2.1 19 = v.2 20) (e21 : u.2.1 23 = v.2 24) (e22 : u.2.1 24 = v.2 25) (hL : rL u nh ng nl) (hnh : nh ≤ 8) (hnl : nl ≤ 100) (x : Int32) : ∀ (n i : Nat) (x2 : Int32), i ≤ nl → nl - i < n → ∃ r, f_A_cost_25 N n u x x2 (nI i) = some ((0, r), u) ∧ f_B_cost_22 N n v x x2 (nI i) = some (r, v) := by
  intro n
  induction n with
  | zero => intro i _ h1 h2; omega
  | succ n ih =>
    intro i x2 h2 h3
    rw [f_A_cost_25, f_B_cost_22, c10, c11]
    by_cases hi : i < nl
    · rw [if_neg (lp_in hi (by omega)), if_neg (lp_in hi (by omega)), gI_n (by omega) (by omega), gI_n (by omega) (by omega), nI_clamp (by omega), nI_1, ← e17]
      by_cases g : u.2.1 19 i = x
      · obtain ⟨r, q1, q2⟩ := cost_eq c13 c14 e2 e17 e21 e22 hL hnh hnl hi
        rw [if_pos g, if_pos g, q1, q2]
        exact ih (i + 1) (x2 + r) (by omega) (by omega)
      · rw [if_neg g, if_neg g]
        exact ih (i + 1) x2 (by omega) (by omega)
    · rw [if_pos (lp_out (by omega) (by omega)), if_pos (lp_out (by omega) (by omega))]
      exact ⟨x2, rfl, rfl⟩
theorem sim_cost {N : Nat} (hN : 200 ≤ N) : Sim_cost N Rel := by
  intro u v a1 hRel
  obtain ⟨nh, ng, nk, nl, t, h0, hT⟩ := id hRel
  obtain ⟨hC, hE, hS, hV, hQ, hO, hX, hL, hG, hK⟩ := h0
  obtain ⟨c1, c2, c3, c4, c5, c6, c7, c8, c9, c10, c11, c12, c13, c14, c15, c16, c17⟩ := hC
  obtain ⟨e1, e2, e3, e4, e5, e6, e7, e8, e9, e10, e11, e12, e13, e14, e15, e16, e17, e18, e19, e20, e21, e22⟩ := hE
  obtain ⟨i1, i2⟩ := isH c1 c2 c3 a1
  rcases i2 with i2 | ⟨i2, j, hj, rfl⟩
  · have hA : f_A_cost N u a1 = some ((1, 0), u) := by unfold f_A_cost; rw [i1, if_pos i2]
    have hB : f_B_cost N v a1 = some (0, bF v 0 1) := by
      unfold f_B_cost
      rw [i2, goes_1_1 (by omega) _ _ _ _ _ rfl, bind_0]
    exact ⟨1, 0, u, 0, bF v 0 1, hA, by simp, hB, rfl, by simp, rel_th hRel 1⟩
  · obtain ⟨r, q1, q2⟩ := cost_loop (N := N) (u := u) (v := bF v 0 0) c10 c11 c13 c14 e2 e17 e21 e22 hL c3 c12 (nI j) N 0 0 (by omega) (by omega)
    refine ⟨0, r, u, r, bF v 0 0, ?_, by simp, ?_, rfl, fun _ => rfl, rel_th hRel 0⟩
    · unfold f_A_cost
      rw [i1, if_neg (lit_ne1 i2)]
      exact q1
    · unfold f_B_cost
      rw [i2, goes_ok (by omega) _ _ _ _ _ _ (by decide) (by decide) (by decide) (by decide), bind_1]
      exact q2
theorem sim_askAt {N : Nat} (hN : 200 ≤ N) : Sim_askAt N Rel := by
  intro u v a1 a2 hRel
  obtain ⟨nh, ng, nk, nl, t, h0, hT⟩ := id hRel
  obtain ⟨hC, hE, hS, hV, hQ, hO, hX, hL, hG, hK⟩ := h0
  obtain ⟨c1, c2, c3, c4, c5, c6, c7, c8, c9, c10, c11, c12, c13, c14, c15, c16, c17⟩ := hC
  obtain ⟨e1, e2, e3, e4, e5, e6, e7, e8, e9, e10, e11, e12, e13, e14, e15, e16, e17, e18, e19, e20, e21, e22⟩ := hE
  obtain ⟨i1, i2⟩ := isK c7 c8 c9 a1
  have bad : f_B_askAt_29 N v a1 a2 1 = some (0, bF v 0 1) := by
    unfold f_B_askAt_29 f_B_askAt_30
    rw [goes_1_1 (by omega) _ _ _ _ _ rfl, bind_0]
  rcases i2 with i2 | ⟨i2, j, hj, rfl⟩
  · have hA : f_A_askAt u a1 a2 = some ((1, 0), u) := by unfold f_A_askAt; rw [i1, if_pos i2]
    have hB : f_B_askAt N v a1 a2 = some (0, bF v 0 1) := by unfold f_B_askAt; rw [if_pos i2, bad]
    exact ⟨1, 0, u, 0, bF v 0 1, hA, by simp, hB, rfl, by simp, rel_th hRel 1⟩
  · rcases in_lit a2 (lo := 0) (hi := 5) (by omega) (by omega) with k2 | ⟨k2, w, -, hw, rfl⟩
    · have k2 : f_B_in a2 (0 : Int32) (5 : Int32) = 0 := k2
      have hA : f_A_askAt u (nI j) a2 = some ((1, 0), u) := by unfold f_A_askAt; rw [i1, if_neg (lit_ne1 i2), wi_in, if_pos k2]
      have hB : f_B_askAt N v (nI j) a2 = some (0, bF v 0 1) := by unfold f_B_askAt; rw [if_neg (lit_ne1 i2), if_pos k2, bad]
      exact ⟨1, 0, u, 0, bF v 0 1, hA, by simp, hB, rfl, by simp, rel_th hRel 1⟩
    · have k2 : f_B_in (nI w) (0 : Int32) (5 : Int32) = 1 := k2
      obtain ⟨m, hm, m1, m2, -⟩ := hV j (by omega)
      have hA : f_A_askAt u (nI j) (nI w) = some ((0, if nI w = (0 : Int32) then u.2.1 13 j else if nI w = (1 : Int32) then u.2.1 14 j else if nI w = (2 : Int32) then u.2.1 15 j else if nI w = (3 : Int32) then u.2.1 16 j else if nI w = (4 : Int32) then f_JI_bitCount (u.2.1 17 j) else if u.2.1 18 j = 0 then 0 else 1), u) := by
        unfold f_A_askAt f_As_visits
        rw [i1, if_neg (lit_ne1 i2), wi_in, if_neg (lit_ne1 k2)]
        simp only [gI_n (show j < 30 by omega) (show 30 < 2147483648 by omega), nI_clamp (show j < 2 ^ 31 by omega)]
        split
        · rfl
        · split
          · rfl
          · split
            · rfl
            · split
              · rfl
              · split
                · rfl
                · split <;> rfl
      have hB : f_B_askAt N v (nI j) (nI w) = some (if nI w = (0 : Int32) then v.2 13 j else if nI w = (1 : Int32) then v.2 14 j else if nI w = (2 : Int32) then v.2 15 j else if nI w = (3 : Int32) then v.2 16 j else if nI w = (4 : Int32) then v.2 17 j else if v.2 18 j = 0 then 0 else 1, bF v 0 0) := by
        unfold f_B_askAt f_B_askAt_30
        rw [if_neg (lit_ne1 i2), if_neg (lit_ne1 k2), goes_ok (by omega) _ _ _ _ _ _ (by decide) (by decide) (by decide) (by decide), bind_1]
        simp only [gI_n (show j < 30 by omega) (show 30 < 2147483648 by omega), nI_clamp (show j < 2 ^ 31 by omega)]
        split
        · rfl
        · split
          · rfl
          · split
            · rfl
            · split
              · rfl
              · split
                · rfl
                · show (if v.2 18 j = 0 then _ else _) = _
                  split <;> rfl
      refine ⟨0, _, u, _, bF v 0 0, hA, by simp, hB, rfl, fun _ => ?_, rel_th hRel 0⟩
      rw [e12, e13, e14, e15, e16, m1, m2]
theorem sim_loanAt {N : Nat} (hN : 200 ≤ N) : Sim_loanAt N Rel := by
  intro u v a1 a2 hRel
  obtain ⟨nh, ng, nk, nl, t, h0, hT⟩ := id hRel
  obtain ⟨hC, hE, hS, hV, hQ, hO, hX, hL, hG, hK⟩ := h0
  obtain ⟨c1, c2, c3, c4, c5, c6, c7, c8, c9, c10, c11, c12, c13, c14, c15, c16, c17⟩ := hC
  obtain ⟨e1, e2, e3, e4, e5, e6, e7, e8, e9, e10, e11, e12, e13, e14, e15, e16, e17, e18, e19, e20, e21, e22⟩ := hE
  obtain ⟨i1, i2⟩ := isL c10 c11 c12 a1
  have bad : f_B_loanAt_24 N v a1 a2 1 = some (0, bF v 0 1) := by
    unfold f_B_loanAt_24 f_B_loanAt_25
    rw [goes_1_1 (by omega) _ _ _ _ _ rfl, bind_0]
  rcases i2 with i2 | ⟨i2, j, hj, rfl⟩
  · have hA : f_A_loanAt u a1 a2 = some ((1, 0), u) := by unfold f_A_loanAt; rw [i1, if_pos i2]
    have hB : f_B_loanAt N v a1 a2 = some (0, bF v 0 1) := by unfold f_B_loanAt; rw [if_pos i2, bad]
    exact ⟨1, 0, u, 0, bF v 0 1, hA, by simp, hB, rfl, by simp, rel_th hRel 1⟩
  · rcases in_lit a2 (lo := 0) (hi := 6) (by omega) (by omega) with k2 | ⟨k2, w, -, hw, rfl⟩
    · have k2 : f_B_in a2 (0 : Int32) (6 : Int32) = 0 := k2
      have hA : f_A_loanAt u (nI j) a2 = some ((1, 0), u) := by unfold f_A_loanAt; rw [i1, if_neg (lit_ne1 i2), wi_in, if_pos k2]
      have hB : f_B_loanAt N v (nI j) a2 = some (0, bF v 0 1) := by unfold f_B_loanAt; rw [if_neg (lit_ne1 i2), if_pos k2, bad]
      exact ⟨1, 0, u, 0, bF v 0 1, hA, by simp, hB, rfl, by simp, rel_th hRel 1⟩
    · have k2 : f_B_in (nI w) (0 : Int32) (6 : Int32) = 1 := k2
      obtain ⟨r, q1, q2⟩ := cost_eq (u := u) (v := bF v 0 0) c13 c14 e2 e17 e21 e22 hL c3 c12 hj
      have hA : f_A_loanAt u (nI j) (nI w) = some ((0, if nI w = (0 : Int32) then u.2.1 19 j else if nI w = (1 : Int32) then u.2.1 20 j else if nI w = (2 : Int32) then u.2.1 21 j else if nI w = (3 : Int32) then u.2.1 22 j else if nI w = (4 : Int32) then u.2.1 23 j else if nI w = (5 : Int32) then u.2.1 24 j else r), u) := by
        unfold f_A_loanAt
        rw [i1, if_neg (lit_ne1 i2), wi_in, if_neg (lit_ne1 k2), q1]
        simp only [gI_n (show j < 100 by omega) (show 100 < 2147483648 by omega), nI_clamp (show j < 2 ^ 31 by omega)]
        split
        · rfl
        · split
          · rfl
          · split
            · rfl
            · split
              · rfl
              · split
                · rfl
                · split <;> rfl
      have hB : f_B_loanAt N v (nI j) (nI w) = some (if nI w = (0 : Int32) then v.2 20 j else if nI w = (1 : Int32) then v.2 21 j else if nI w = (2 : Int32) then v.2 22 j else if nI w = (3 : Int32) then v.2 23 j else if nI w = (4 : Int32) then v.2 24 j else if nI w = (5 : Int32) then v.2 25 j else r, bF v 0 0) := by
        unfold f_B_loanAt f_B_loanAt_25
        rw [if_neg (lit_ne1 i2), if_neg (lit_ne1 k2), goes_ok (by omega) _ _ _ _ _ _ (by decide) (by decide) (by decide) (by decide), bind_1, show (f_B_costOf (((1 : Int32), bF v 0 0) : Int32 × StB).2 (nI j)) = some r from q2]
        simp only [gI_n (show j < 100 by omega) (show 100 < 2147483648 by omega), nI_clamp (show j < 2 ^ 31 by omega)]
        split
        · rfl
        · split
          · rfl
          · split
            · rfl
            · split
              · rfl
              · split
                · rfl
                · split <;> rfl
      refine ⟨0, _, u, _, bF v 0 0, hA, by simp, hB, rfl, fun _ => ?_, rel_th hRel 0⟩
      rw [e17, e18, e19, e20, e21, e22]
