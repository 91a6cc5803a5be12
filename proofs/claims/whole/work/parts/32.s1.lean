theorem rel_th {u : StA} {v : StB} (h : Rel u v) (x : Int32) : Rel u (bF v 0 x) := by
  obtain ⟨nh, ng, nk, nl, t, h0, hT⟩ := h
  exact ⟨nh, ng, nk, nl, t, h0, hT⟩
theorem nI_sub1 (n : Nat) : nI n + 1 - 1 = nI n := by
  rw [nI_1, nI_pred]
theorem bind_1 {α : Type} {x : StB} {A B : Int32 × StB → Option α} : ((some ((1 : Int32), x)).bind fun q => if q.1 = (0 : Int32) then A q else B q) = B (1, x) := by
  show (if (1 : Int32) = 0 then A (1, x) else B (1, x)) = _
  rw [if_neg (by decide)]
theorem bind_0 {α : Type} {x : StB} {A B : Int32 × StB → Option α} : ((some ((0 : Int32), x)).bind fun q => if q.1 = (0 : Int32) then A q else B q) = A (0, x) := by
  show (if (0 : Int32) = 0 then A (0, x) else B (0, x)) = _
  rw [if_pos rfl]
theorem sim_house {N : Nat} (hN : 10 ≤ N) : Sim_house N Rel := by
  intro u v a1 a2 hRel
  obtain ⟨nh, ng, nk, nl, t, h0, hT⟩ := id hRel
  obtain ⟨hC, hE, hS, hV, hQ, hO, hX, hL, hG, hK⟩ := h0
  obtain ⟨c1, c2, c3, c4, c5, c6, c7, c8, c9, c10, c11, c12, c13, c14, c15, c16, c17⟩ := hC
  unfold f_A_house f_B_house
  rw [wi_in, wi_in]
  by_cases g1 : f_B_in a1 (0 : Int32) (9 : Int32) = 0
  · rw [if_pos g1, if_pos g1]
    refine ⟨2, 0, u, 0, bF v 0 1, rfl, by simp, ?_, rfl, by simp, rel_th hRel 1⟩
    unfold f_B_house_29 f_B_house_30 f_B_house_45
    split <;> rw [goes_10_2 (by omega) _ _ _ _ _ (by decide) rfl] <;> rfl
  · rw [if_neg g1, if_neg g1]
    by_cases g2 : f_B_in a2 (0 : Int32) (1000 : Int32) = 0
    · rw [if_pos g2, if_pos g2]
      refine ⟨2, 0, u, 0, bF v 0 1, rfl, by simp, ?_, rfl, by simp, rel_th hRel 1⟩
      unfold f_B_house_29 f_B_house_30 f_B_house_45
      split <;> rw [goes_10_2 (by omega) _ _ _ _ _ (by decide) rfl] <;> rfl
    · rw [if_neg g2, if_neg g2]
      unfold f_Ho_isFull f_B_house_30 f_B_house_45
      rw [c1, c2]
      by_cases g3 : nh < 8
      · have e1 : nI nh < (8 : Int32) := nI_lt (b := 8) g3 (by omega)
        have e2 : ¬ (8 : Int32) ≤ nI nh := nI_ge (b := 8) g3 (by omega)
        rw [if_pos e1, if_neg e2, if_pos rfl, goes_ok (by omega) _ _ _ _ _ _ (by decide) (by decide) (by decide) (by decide)]
        unfold f_Ho_add
        rw [c1, gI_n g3 (by omega), nI_clamp (by omega)]
        refine ⟨0, nI nh, sF (sA (sA u 1 nh a1) 2 nh a2) 3 (nI nh + 1), nI nh, bF (bA (bA (bF v 0 0) 0 nh a1) 1 nh a2) 2 (nI nh + 1), rfl, by simp, ?_, rfl, fun _ => rfl, ?_⟩
        · rw [bind_1]
          show gI (v.1 2) 8 (some (v.1 2 + 1 - 1, bF (bA (bA (bF v 0 0) 0 (v.1 2).toNatClampNeg a1) 1 (v.1 2).toNatClampNeg a2) 2 (v.1 2 + 1))) = _
          rw [c2, gI_n g3 (by omega), nI_clamp (by omega), nI_sub1]
        · obtain ⟨e1, e2, e3⟩ := hE
          refine ⟨nh + 1, ng, nk, nl, t, ⟨⟨nI_1 nh, nI_1 nh, by omega, c4, c5, c6, c7, c8, c9, c10, c11, c12, c13, c14, c15, c16, c17⟩, ⟨?_, ?_, e3⟩, hS, hV, hQ, hO, hX, ⟨fun j hj => ?_, hL.2⟩, hG, hK⟩, hT⟩
          · show upd (u.2.1 1) nh a1 = upd (v.2 0) nh a1
            rw [e1]
          · show upd (u.2.1 2) nh a2 = upd (v.2 1) nh a2
            rw [e2]
          · obtain ⟨h, a, h1, h2, h3⟩ := hL.1 j hj
            exact ⟨h, a, by omega, h2, h3⟩
      · have e1 : ¬ nI nh < (8 : Int32) := nI_nlt (b := 8) (by omega) (by omega)
        have e2 : (8 : Int32) ≤ nI nh := nI_le (a := 8) (by omega) (by omega)
        rw [if_neg e1, if_pos e2, if_neg (by decide), goes_10_8 (by omega) _ _ _ _ _ (by decide) (by decide) (by decide) rfl]
        exact ⟨4, 0, u, 0, bF v 0 2, rfl, by simp, rfl, rfl, by simp, rel_th hRel 2⟩
