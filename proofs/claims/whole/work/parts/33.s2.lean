theorem isH {u : StA} {v : StB} {nh : Nat} (c1 : u.1 3 = nI nh) (c2 : v.1 2 = nI nh) (h : nh ≤ 8) (a : Int32) : f_Ho_has u a = f_B_isHouse v a ∧ (f_B_isHouse v a = 0 ∨ (f_B_isHouse v a = 1 ∧ ∃ j, j < nh ∧ a = nI j)) := by
  unfold f_Ho_has f_B_isHouse
  rw [c1, c2, in_n a (by omega)]
  exact ⟨rfl, in_or a (by omega)⟩
theorem isK {u : StA} {v : StB} {nk : Nat} (c1 : u.1 5 = nI nk) (c2 : v.1 4 = nI nk) (h : nk ≤ 30) (a : Int32) : f_As_has u a = f_B_in a 0 (v.1 4 - 1) ∧ (f_B_in a 0 (v.1 4 - 1) = 0 ∨ (f_B_in a 0 (v.1 4 - 1) = 1 ∧ ∃ j, j < nk ∧ a = nI j)) := by
  unfold f_As_has
  rw [c1, c2, in_n a (by omega)]
  exact ⟨rfl, in_or a (by omega)⟩
theorem isL {u : StA} {v : StB} {nl : Nat} (c1 : u.1 6 = nI nl) (c2 : v.1 5 = nI nl) (h : nl ≤ 100) (a : Int32) : f_Lo_has u a = f_B_isLoan v a ∧ (f_B_isLoan v a = 0 ∨ (f_B_isLoan v a = 1 ∧ ∃ j, j < nl ∧ a = nI j)) := by
  unfold f_Lo_has f_B_isLoan
  rw [c1, c2, in_n a (by omega)]
  exact ⟨rfl, in_or a (by omega)⟩
theorem ended_iff {x : Int32} (h : x = -1 ∨ ∃ e, e < 1000000 ∧ x = nI e) : 0 ≤ x ↔ ¬ x = -1 := by
  rcases h with h | ⟨e, h, rfl⟩
  · subst h; decide
  · exact ⟨fun _ => nI_ne1 (by omega), fun _ => nI_le0 (by omega)⟩
theorem lit_ne1 {x : Int32} (h : x = 1) : x ≠ 0 := by rw [h]; decide
theorem sim_cut {N : Nat} (hN : 10 ≤ N) : Sim_cut N Rel := by
  intro u v a1 a2 hRel ha2
  obtain ⟨nh, ng, nk, nl, t, h0, hT⟩ := id hRel
  obtain ⟨hC, hE, hS, hV, hQ, hO, hX, hL, hG, hK⟩ := h0
  obtain ⟨c1, c2, c3, c4, c5, c6, c7, c8, c9, c10, c11, c12, c13, c14, c15, c16, c17⟩ := hC
  obtain ⟨i1, i2⟩ := isH c1 c2 c3 a1
  unfold f_A_cut f_B_cut
  rw [i1]
  rcases i2 with i2 | ⟨i2, j, hj, rfl⟩
  · rw [if_pos i2, if_pos i2]
    unfold f_B_cut_30 f_B_cut_31
    rw [i2, goes_5_1 (by omega) _ _ _ _ _ rfl]
    exact ⟨1, 0, u, bF v 0 1, rfl, by simp, rfl, rfl, rel_th hRel 1⟩
  · rw [if_neg (lit_ne1 i2), if_neg (lit_ne1 i2), gI_n (by omega) (by omega), gI_n (by omega) (by omega), nI_clamp (by omega), i2]
    obtain ⟨e1, e2, e3, e4⟩ := hE
    rw [e3]
    by_cases g : v.2 2 j = a2
    · rw [if_pos g, if_pos g]
      unfold f_B_cut_30 f_B_cut_31
      rw [goes_5_4 (by omega) _ _ _ _ _ (by decide) (by decide) rfl]
      exact ⟨3, 0, u, bF v 0 2, rfl, by simp, rfl, rfl, rel_th hRel 2⟩
    · rw [if_neg g, if_neg g]
      unfold f_B_cut_31
      rw [goes_ok (by omega) _ _ _ _ _ _ (by decide) (by decide) (by decide) (by decide), bind_1, gI_n (by omega) (by omega), nI_clamp (by omega)]
      have hb : vp_nar .boolean a2 = a2 := by rcases ha2 with rfl | rfl <;> rfl
      rw [hb]
      refine ⟨0, 0, sA u 3 j a2, bA (bF v 0 0) 2 j a2, rfl, by simp, rfl, rfl, nh, ng, nk, nl, t, ⟨⟨c1, c2, c3, c4, c5, c6, c7, c8, c9, c10, c11, c12, c13, c14, c15, c16, c17⟩, ⟨e1, e2, ?_, e4⟩, hS, hV, hQ, hO, ?_, hL, hG, hK⟩, hT⟩
      · show upd (u.2.1 3) j a2 = upd (v.2 2) j a2
        rw [e3]
      · intro k hk
        show upd (u.2.1 3) j a2 k = 0 ∨ upd (u.2.1 3) j a2 k = 1
        by_cases q : k = j
        · rw [q, upd_s]; exact ha2
        · rw [upd_n q]; exact hX k hk
theorem sim_end {N : Nat} (hN : 10 ≤ N) : Sim_end N Rel := by
  intro u v a1 hRel
  obtain ⟨nh, ng, nk, nl, t, h0, hT⟩ := id hRel
  obtain ⟨hC, hE, hS, hV, hQ, hO, hX, hL, hG, hK⟩ := h0
  obtain ⟨c1, c2, c3, c4, c5, c6, c7, c8, c9, c10, c11, c12, c13, c14, c15, c16, c17⟩ := hC
  obtain ⟨i1, i2⟩ := isL c10 c11 c12 a1
  rcases i2 with i2 | ⟨i2, j, hj, rfl⟩
  · have hA : f_A_end u a1 = some ((1, 0), u) := by unfold f_A_end; rw [i1, if_pos i2]
    have hB : f_B_end N v a1 = some (bF v 0 1) := by
      unfold f_B_end f_B_end_29 f_B_end_30
      rw [if_pos i2, i2, goes_5_1 (by omega) _ _ _ _ _ rfl, bind_0]
    exact ⟨1, 0, u, bF v 0 1, hA, by simp, hB, rfl, rel_th hRel 1⟩
  · obtain ⟨e1, e2, e3, e4, e5, e6, e7, e8, e9, e10, e11, e12, e13, e14, e15, e16, e17, e18, e19, e20, e21, e22⟩ := hE
    have hl := ended_iff (hL.2 j)
    by_cases g : u.2.1 24 j = -1
    · have hA : f_A_end u (nI j) = some ((0, 0), sA u 24 j (u.1 0)) := by
        unfold f_A_end f_Lo_isLent
        rw [i1, if_neg (lit_ne1 i2), gI_n (by omega) (by omega), nI_clamp (by omega), if_pos g]
        show (if (1 : Int32) = 0 then some ((3, 0), u) else gI (nI j) 100 (some ((0, 0), sA u 24 j (u.1 0)))) = _
        rw [if_neg (by decide), gI_n (by omega) (by omega)]
      have hB : f_B_end N v (nI j) = some (bA (bF v 0 0) 25 j (v.1 1)) := by
        unfold f_B_end f_B_end_30
        rw [if_neg (lit_ne1 i2), gI_n (by omega) (by omega), nI_clamp (by omega), ← e22, if_neg (fun q => (hl.mp q) g), i2, goes_ok (by omega) _ _ _ _ _ _ (by decide) (by decide) (by decide) (by decide), bind_1, gI_n (by omega) (by omega)]
        rfl
      refine ⟨0, 0, _, _, hA, by simp, hB, rfl, nh, ng, nk, nl, t, ⟨⟨c1, c2, c3, c4, c5, c6, c7, c8, c9, c10, c11, c12, c13, c14, c15, c16, c17⟩, ⟨e1, e2, e3, e4, e5, e6, e7, e8, e9, e10, e11, e12, e13, e14, e15, e16, e17, e18, e19, e20, e21, ?_⟩, hS, hV, hQ, hO, hX, ⟨hL.1, fun k => ?_⟩, hG, hK⟩, hT.1, fun k hk hkk => ?_⟩
      · show upd (u.2.1 24) j (u.1 0) = upd (v.2 25) j (v.1 1)
        rw [e22, c13, c14]
      · show upd (u.2.1 24) j (u.1 0) k = -1 ∨ ∃ e, e < 1000000 ∧ upd (u.2.1 24) j (u.1 0) k = nI e
        by_cases q : k = j
        · rw [q, upd_s]; exact Or.inr ⟨t, by omega, c13⟩
        · rw [upd_n q]; exact hL.2 k
      · have hkk : upd (u.2.1 24) j (u.1 0) k = -1 := hkk
        by_cases q : k = j
        · rw [q, upd_s, c13] at hkk
          exact absurd hkk (nI_ne1 (by omega))
        · rw [upd_n q] at hkk
          exact hT.2 k hk hkk
    · have hA : f_A_end u (nI j) = some ((3, 0), u) := by
        unfold f_A_end f_Lo_isLent
        rw [i1, if_neg (lit_ne1 i2), gI_n (by omega) (by omega), nI_clamp (by omega), if_neg g]
        rfl
      have hB : f_B_end N v (nI j) = some (bF v 0 2) := by
        unfold f_B_end f_B_end_29 f_B_end_30
        rw [if_neg (lit_ne1 i2), gI_n (by omega) (by omega), nI_clamp (by omega), ← e22, if_pos (hl.mpr g), i2, goes_5_4 (by omega) _ _ _ _ _ (by decide) (by decide) rfl, bind_0]
      exact ⟨3, 0, u, bF v 0 2, hA, by simp, hB, rfl, rel_th hRel 2⟩
theorem sim_handed {N : Nat} (hN : 10 ≤ N) : Sim_handed N Rel := by
  intro u v a1 hRel
  obtain ⟨nh, ng, nk, nl, t, h0, hT⟩ := id hRel
  obtain ⟨hC, hE, hS, hV, hQ, hO, hX, hL, hG, hK⟩ := h0
  unfold f_A_handed f_B_handed f_A_isCall
  rw [wi_in]
  rcases in_lit a1 (lo := 0) (hi := 99) (by omega) (by omega) with i2 | ⟨i2, j, -, hj, rfl⟩
  · have i2 : f_B_in a1 (0 : Int32) (99 : Int32) = 0 := i2
    rw [if_pos i2, i2, goes_1_1 (by omega) _ _ _ _ _ rfl]
    exact ⟨1, 0, u, 0, bF v 0 1, rfl, by simp, rfl, rfl, by simp, rel_th hRel 1⟩
  · have i2 : f_B_in (nI j) (0 : Int32) (99 : Int32) = 1 := i2
    rw [if_neg (lit_ne1 i2), i2, goes_ok (by omega) _ _ _ _ _ _ (by decide) (by decide) (by decide) (by decide), bind_1, gI_n (by omega) (by omega), gI_n (by omega) (by omega), nI_clamp (by omega)]
    exact ⟨0, _, u, _, bF v 0 0, rfl, by simp, rfl, rfl, fun _ => (hO j (by omega)).1, rel_th hRel 0⟩
theorem sim_hand {N : Nat} (hN : 10 ≤ N) : Sim_hand N Rel := by
  intro u v a1 a2 hRel
  obtain ⟨nh, ng, nk, nl, t, h0, hT⟩ := id hRel
  obtain ⟨hC, hE, hS, hV, hQ, hO, hX, hL, hG, hK⟩ := h0
  obtain ⟨c1, c2, c3, c4, c5, c6, c7, c8, c9, c10, c11, c12, c13, c14, c15, c16, c17⟩ := hC
  have bad : f_B_hand_22 N v a1 a2 = some (bF v 0 1) := by
    unfold f_B_hand_22 f_B_hand_23 f_B_hand_54 f_B_hand_55
    rw [if_pos rfl, goes_5_1 (by omega) _ _ _ _ _ rfl, bind_0]
  have hAu : ∀ x, f_A_isCall x = f_B_in x 0 99 := fun x => rfl
  obtain ⟨k1, k2⟩ := isH c1 c2 c3 a2
  rcases in_lit a1 (lo := 0) (hi := 99) (by omega) (by omega) with i2 | ⟨i2, j, -, hj, rfl⟩
  · have i2 : f_B_in a1 (0 : Int32) (99 : Int32) = 0 := i2
    have hA : f_A_hand u a1 a2 = some ((1, 0), u) := by unfold f_A_hand; rw [hAu, if_pos i2]
    have hB : f_B_hand N v a1 a2 = some (bF v 0 1) := by unfold f_B_hand; rw [if_pos i2, bad]
    exact ⟨1, 0, u, bF v 0 1, hA, by simp, hB, rfl, rel_th hRel 1⟩
  · have i2 : f_B_in (nI j) (0 : Int32) (99 : Int32) = 1 := i2
    rcases k2 with k2 | ⟨k2, h, hh, rfl⟩
    · have hA : f_A_hand u (nI j) a2 = some ((1, 0), u) := by unfold f_A_hand; rw [hAu, if_neg (lit_ne1 i2), k1, if_pos k2]
      have hB : f_B_hand N v (nI j) a2 = some (bF v 0 1) := by unfold f_B_hand; rw [if_neg (lit_ne1 i2), if_pos k2, bad]
      exact ⟨1, 0, u, bF v 0 1, hA, by simp, hB, rfl, rel_th hRel 1⟩
    · obtain ⟨o1, o2⟩ := hO j (by omega)
      obtain ⟨e1, e2, e3, e4⟩ := hE
      have hle : 0 ≤ v.2 27 j ↔ ¬ v.2 27 j = -1 := by
        rcases o2 with h | ⟨h, hh, e⟩
        · rw [h]; decide
        · rw [e]; exact ⟨fun _ => nI_ne1 (by omega), fun _ => nI_le0 (by omega)⟩
      have s3 : f_B_hand_54 N v (nI j) (nI h) 1 5 1 1 = some (bF v 0 2) := by
        unfold f_B_hand_54 f_B_hand_55
        rw [goes_5_4 (by omega) _ _ _ _ _ (by decide) (by decide) rfl, bind_0]
      by_cases g : v.2 27 j = -1
      · by_cases g2 : v.2 2 h = 0
        · have hA : f_A_hand u (nI j) (nI h) = some ((0, 0), sA u 0 j (nI h)) := by
            unfold f_A_hand
            rw [hAu, if_neg (lit_ne1 i2), k1, if_neg (lit_ne1 k2), gI_n (by omega) (by omega), nI_clamp (by omega), o1, if_pos g, gI_n (by omega) (by omega), nI_clamp (by omega), e3, if_pos g2]
          have hB : f_B_hand N v (nI j) (nI h) = some (bA (bF v 0 0) 27 j (nI h)) := by
            unfold f_B_hand f_B_hand_23
            rw [if_neg (lit_ne1 i2), if_neg (lit_ne1 k2), if_neg (show ¬ (1 : Int32) = 0 by decide), gI_n (by omega) (by omega), nI_clamp (by omega), if_neg (fun q => (hle.mp q) g), gI_n (by omega) (by omega), nI_clamp (by omega), if_pos g2]
            unfold f_B_hand_55
            rw [goes_ok (by omega) _ _ _ _ _ _ (by decide) (by decide) (by decide) (by decide), bind_1, gI_n (by omega) (by omega), nI_clamp (by omega)]
          refine ⟨0, 0, _, _, hA, by simp, hB, rfl, nh, ng, nk, nl, t, ⟨⟨c1, c2, c3, c4, c5, c6, c7, c8, c9, c10, c11, c12, c13, c14, c15, c16, c17⟩, ⟨e1, e2, e3, e4⟩, hS, hV, hQ, fun k hk => ?_, hX, hL, hG, hK⟩, hT⟩
          show upd (u.2.1 0) j (nI h) k = upd (v.2 27) j (nI h) k ∧ (upd (v.2 27) j (nI h) k = -1 ∨ ∃ h', h' < 8 ∧ upd (v.2 27) j (nI h) k = nI h')
          by_cases q : k = j
          · rw [q, upd_s, upd_s]; exact ⟨rfl, Or.inr ⟨h, by omega, rfl⟩⟩
          · rw [upd_n q, upd_n q]; exact hO k hk
        · have hA : f_A_hand u (nI j) (nI h) = some ((3, 0), u) := by
            unfold f_A_hand
            rw [hAu, if_neg (lit_ne1 i2), k1, if_neg (lit_ne1 k2), gI_n (by omega) (by omega), nI_clamp (by omega), o1, if_pos g, gI_n (by omega) (by omega), nI_clamp (by omega), e3, if_neg g2]
          have hB : f_B_hand N v (nI j) (nI h) = some (bF v 0 2) := by
            unfold f_B_hand f_B_hand_23
            rw [if_neg (lit_ne1 i2), if_neg (lit_ne1 k2), if_neg (show ¬ (1 : Int32) = 0 by decide), gI_n (by omega) (by omega), nI_clamp (by omega), if_neg (fun q => (hle.mp q) g), gI_n (by omega) (by omega), nI_clamp (by omega), if_neg g2, s3]
          exact ⟨3, 0, u, bF v 0 2, hA, by simp, hB, rfl, rel_th hRel 2⟩
      · have hA : f_A_hand u (nI j) (nI h) = some ((3, 0), u) := by
          unfold f_A_hand
          rw [hAu, if_neg (lit_ne1 i2), k1, if_neg (lit_ne1 k2), gI_n (by omega) (by omega), nI_clamp (by omega), o1, if_neg g]
        have hB : f_B_hand N v (nI j) (nI h) = some (bF v 0 2) := by
          unfold f_B_hand f_B_hand_23
          rw [if_neg (lit_ne1 i2), if_neg (lit_ne1 k2), if_neg (show ¬ (1 : Int32) = 0 by decide), gI_n (by omega) (by omega), nI_clamp (by omega), if_pos (hle.mpr g), s3]
        exact ⟨3, 0, u, bF v 0 2, hA, by simp, hB, rfl, rel_th hRel 2⟩
