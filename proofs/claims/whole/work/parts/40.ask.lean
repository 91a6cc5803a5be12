def rA1 (u : StA) (j e : Nat) : Prop := u.2.1 13 j = 0 → ∀ si pa, si < 1000000 → pa ≤ 500 → u.2.1 15 j = nI si → u.2.1 12 j = nI pa → e ≤ si + pa
def rL1 (u : StA) (j e : Nat) : Prop := u.2.1 24 j = -1 → ∀ a to, a < 30 → to ≤ 99999 → u.2.1 22 j = nI a → u.2.1 7 a = nI to → e ≤ to
theorem rT_iff (u : StA) (nk nl e : Nat) : rT u nk nl e ↔ (∀ j, j < nk → rA1 u j e) ∧ ∀ j, j < nl → rL1 u j e := Iff.rfl
/-- what sendOn leaves as it was -/
def fOn (u u1 : StA) (j t : Nat) : Prop := u1.1 = u.1 ∧ u1.2.2 = u.2.2 ∧ (∀ k, k ≠ 13 → k ≠ 14 → k ≠ 15 → k ≠ 17 → k ≠ 18 → u1.2.1 k = u.2.1 k) ∧ (∀ i, i ≠ j → u1.2.1 13 i = u.2.1 13 i ∧ u1.2.1 15 i = u.2.1 15 i) ∧ (u1.2.1 13 j = 0 → u1.2.1 15 j = nI t)
theorem rA1_on {u u1 : StA} {j t i e : Nat} (h : fOn u u1 j t) (hi : i ≠ j) (hA : rA1 u i e) : rA1 u1 i e := by
  obtain ⟨-, -, f1, f2, -⟩ := h
  intro z si pa h1 h2 z1 z2
  rw [(f2 i hi).1] at z
  rw [(f2 i hi).2] at z1
  rw [f1 12 (by decide) (by decide) (by decide) (by decide) (by decide)] at z2
  exact hA z si pa h1 h2 z1 z2
theorem rA1_own {u u1 : StA} {j t pa : Nat} (h : fOn u u1 j t) (ht : t < 1000000) (hp : pa ≤ 500) (h1 : 1 ≤ pa) (hpa : u.2.1 12 j = nI pa) : rA1 u1 j (t + 1) := by
  obtain ⟨-, -, f1, -, f3⟩ := h
  intro z si pa' q1 q2 z1 z2
  rw [f3 z, nI_eq (by omega) (by omega)] at z1
  rw [f1 12 (by decide) (by decide) (by decide) (by decide) (by decide), hpa, nI_eq (by omega) (by omega)] at z2
  omega
theorem rL1_on {u u1 : StA} {j t i e : Nat} (h : fOn u u1 j t) (hA : rL1 u i e) : rL1 u1 i e := by
  obtain ⟨-, -, f1, -, -⟩ := h
  intro z a to h1 h2 z1 z2
  rw [f1 24 (by decide) (by decide) (by decide) (by decide) (by decide)] at z
  rw [f1 22 (by decide) (by decide) (by decide) (by decide) (by decide)] at z1
  rw [f1 7 (by decide) (by decide) (by decide) (by decide) (by decide)] at z2
  exact hA z a to h1 h2 z1 z2
theorem on_rel' {N : Nat} {u : StA} {v : StB} {nh ng nk nl t : Nat} (h0 : r0 u v nh ng nk nl t) (hN : 200 ≤ N) {j : Nat} (hj : j < nk) : ∃ u1 v1, f_A_sendOn N u (nI j) = some u1 ∧ f_B_on N v (nI j) = some v1 ∧ r0 u1 v1 nh ng nk nl t ∧ v1.1 = v.1 ∧ fOn u u1 j t := by
  obtain ⟨u1, v1, q1, q2, q3, q4, q5, q6, q7, q8, q9⟩ := on_rel h0 hN hj
  exact ⟨u1, v1, q1, q2, q3, q5, q4, q6, q7, q8, q9⟩
set_option maxHeartbeats 1000000 in
theorem sim_ask {N : Nat} (hN : 200 ≤ N) : Sim_ask N Rel := by
  intro u v a1 a2 a3 hRel
  obtain ⟨nh, ng, nk, nl, t, h0, hT⟩ := id hRel
  obtain ⟨hC, hE, hS, hV, hQ, hO, hX, hL, hG, hK⟩ := h0
  obtain ⟨c1, c2, c3, c4, c5, c6, c7, c8, c9, c10, c11, c12, c13, c14, c15, c16, c17⟩ := hC
  obtain ⟨e1, e2, e3, e4, e5, e6, e7, e8, e9, e10, e11, e12, e13, e14, e15, e16, e17, e18, e19, e20, e21, e22⟩ := hE
  have hb1 : ∀ y, f_B_in a1 0 9 = 0 → f_B_ask_36 N v a1 a2 a3 11 (f_B_in a1 0 9) y = some (0, bF v 0 1) := fun y g => by
    unfold f_B_ask_36 f_B_ask_51
    split <;> rw [g, goes_11_1 (by omega) _ _ _ _ _ rfl, bind_0]
  have hb2 : f_B_in a1 0 9 ≠ 0 → f_B_ask_35 N v a1 a2 a3 11 (f_B_in a1 0 9) = some (0, bF v 0 2) := fun g => by
    unfold f_B_ask_35 f_B_ask_36 f_B_ask_51
    split <;> rw [goes_11_2 (by omega) _ _ _ _ _ g rfl, bind_0]
  by_cases g1 : f_B_in a1 0 9 = 0
  · refine ⟨1, 0, u, 0, bF v 0 1, ?_, by simp, ?_, rfl, by simp, rel_th hRel 1⟩
    · unfold f_A_ask; rw [wi_in, if_pos g1]
    · unfold f_B_ask
      by_cases g2 : f_B_in a2 1 20 = 0
      · rw [if_pos g2]; exact hb1 0 g1
      · rw [if_neg g2]
        by_cases g3 : f_B_in a3 1 500 = 0
        · rw [if_pos g3]; exact hb1 0 g1
        · rw [if_neg g3]; exact hb1 1 g1
  · rcases in_lit a2 (lo := 1) (hi := 20) (by omega) (by omega) with g2 | ⟨g2, uq, hq1, hq2, rfl⟩
    · have g2 : f_B_in a2 1 20 = 0 := g2
      refine ⟨2, 0, u, 0, bF v 0 2, ?_, by simp, ?_, rfl, by simp, rel_th hRel 2⟩
      · unfold f_A_ask; rw [wi_in, if_neg g1, wi_in, if_pos g2]
      · unfold f_B_ask; rw [if_pos g2]; exact hb2 g1
    · have g2 : f_B_in (nI uq) 1 20 = 1 := g2
      rcases in_lit a3 (lo := 1) (hi := 500) (by omega) (by omega) with g3 | ⟨g3, pa, hp1, hp2, rfl⟩
      · have g3 : f_B_in a3 1 500 = 0 := g3
        refine ⟨2, 0, u, 0, bF v 0 2, ?_, by simp, ?_, rfl, by simp, rel_th hRel 2⟩
        · unfold f_A_ask; rw [wi_in, if_neg g1, wi_in, if_neg (lit_ne1 g2), wi_in, if_pos g3]
        · unfold f_B_ask; rw [if_neg (lit_ne1 g2), if_pos g3]; exact hb2 g1
      · have g3 : f_B_in (nI pa) 1 500 = 1 := g3
        have hA0 : f_A_ask N u a1 (nI uq) (nI pa) = (if (f_As_isFull u) = (0 : Int32) then (f_As_add u a1 (nI uq) (nI pa)).bind fun q1 =>
          (f_A_sendOn N q1.2 q1.1).bind fun q2 =>
          some ((0, q1.1), q2)
        else some ((4, 0), u)) := by
          unfold f_A_ask; rw [wi_in, if_neg g1, wi_in, if_neg (lit_ne1 g2), wi_in, if_neg (lit_ne1 g3)]
        have hB0 : f_B_ask N v a1 (nI uq) (nI pa) = f_B_ask_36 N v a1 (nI uq) (nI pa) 11 (f_B_in a1 0 9) 1 := by
          unfold f_B_ask; rw [if_neg (lit_ne1 g2), if_neg (lit_ne1 g3)]
        unfold f_B_ask_36 at hB0
        rw [c8] at hB0
        by_cases g4 : nk < 30
        · have f1 : f_As_isFull u = 0 := by
            unfold f_As_isFull; rw [c7, if_pos (show nI nk < (30 : Int32) from nI_lt (b := 30) g4 (by omega))]
          rw [if_neg (show ¬ (30 : Int32) ≤ nI nk from nI_ge (b := 30) g4 (by omega))] at hB0
          unfold f_B_ask_51 at hB0
          rw [goes_ok (by omega) _ _ _ _ _ _ g1 (by decide) (by decide) (by decide), bind_1] at hB0
          have cb : (bF v 0 0).1 4 = nI nk := c8
          simp only [cb] at hB0
          rw [gI_n g4 (by omega), nI_clamp (by omega), nI_sub1] at hB0
          have r1 : r0 (sF (sA (sA (sA (sA u 10 nk a1) 11 nk (nI uq)) 12 nk (nI pa)) 13 nk 0) 5 (nI nk + 1)) (bF (bA (bA (bA (bA (bF v 0 0) 10 nk a1) 11 nk (nI uq)) 12 nk (nI pa)) 13 nk 0) 4 (nI nk + 1)) nh ng (nk + 1) nl t := by
            refine ⟨⟨c1, c2, c3, c4, c5, c6, nI_1 nk, nI_1 nk, by omega, c10, c11, c12, c13, c14, c15, c16, c17⟩, ⟨e1, e2, e3, e4, e5, e6, e7, e8, ?_, ?_, ?_, ?_, e13, e14, e15, e16, e17, e18, e19, e20, e21, e22⟩, hS, hV, hQ, hO, hX, hL, hG, fun j hj => ?_, fun j hj => ?_⟩
            · show upd (u.2.1 10) nk _ = upd (v.2 10) nk _
              rw [e9]
            · show upd (u.2.1 11) nk _ = upd (v.2 11) nk _
              rw [e10]
            · show upd (u.2.1 12) nk _ = upd (v.2 12) nk _
              rw [e11]
            · show upd (u.2.1 13) nk _ = upd (v.2 13) nk _
              rw [e12]
            · by_cases z : j = nk
              · subst z
                exact ⟨0, pa, 0, uq, by omega, hp1, hp2, by omega, hq2, (hK.2 j (by omega)).2, upd_s _ _ _, (hK.2 j (by omega)).1, upd_s _ _ _, fun _ => by omega⟩
              · obtain ⟨si, pa', gq, uq', k1, k2, k3, k4, k5, k6, k7, k8, k9, k10⟩ := hK.1 j (by omega)
                exact ⟨si, pa', gq, uq', k1, k2, k3, k4, k5, k6, (upd_n z).trans k7, k8, (upd_n z).trans k9, fun y => k10 ((upd_n z).symm.trans y)⟩
            · exact hK.2 j (by omega)
          obtain ⟨u1, v1, w1, w2, w3, w4, w5⟩ := on_rel' r1 hN (show nk < nk + 1 by omega)
          rw [w2, Option.bind_some] at hB0
          have hv : v1.1 4 - 1 = nI nk := by
            rw [w4]; exact nI_sub1 nk
          have hv0 : v1.1 0 = 0 := by rw [w4]; rfl
          rw [hv] at hB0
          have hA1 : f_A_ask N u a1 (nI uq) (nI pa) = some ((0, nI nk), u1) := by
            rw [hA0, if_pos f1]
            unfold f_As_add
            rw [c7, gI_n g4 (by omega), nI_clamp (by omega), Option.bind_some, w1]
            rfl
          refine ⟨0, nI nk, u1, nI nk, v1, hA1, by simp, hB0, hv0, fun _ => rfl, nh, ng, nk + 1, nl, t, w3, fun j hj => ?_, fun j hj => ?_⟩
          · by_cases z : j = nk
            · subst z
              exact rA1_own w5 (by omega) hp2 hp1 (upd_s _ _ _)
            · refine rA1_on w5 z ?_
              intro y si pa' q1 q2 y1 y2
              exact hT.1 j (by omega) ((upd_n z).symm.trans y) si pa' q1 q2 y1 ((upd_n z).symm.trans y2)
          · exact rL1_on w5 (hT.2 j hj)
        · have f1 : ¬ f_As_isFull u = 0 := by
            unfold f_As_isFull; rw [c7, if_neg (show ¬ nI nk < (30 : Int32) from nI_nlt (b := 30) (by omega) (by omega))]; decide
          rw [if_neg f1] at hA0
          rw [if_pos (show (30 : Int32) ≤ nI nk from nI_le (a := 30) (by omega) (by omega))] at hB0
          unfold f_B_ask_51 at hB0
          rw [goes_11_8 (by omega) _ _ _ _ _ g1 (by decide) (by decide) rfl, bind_0] at hB0
          exact ⟨4, 0, u, 0, bF v 0 3, hA0, by simp, hB0, rfl, by simp, rel_th hRel 3⟩
