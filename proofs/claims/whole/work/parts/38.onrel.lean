set_option maxHeartbeats 1000000 in
theorem on_rel {N : Nat} {u : StA} {v : StB} {nh ng nk nl t : Nat} (h0 : r0 u v nh ng nk nl t) (hN : 200 ≤ N) {j : Nat} (hj : j < nk) : ∃ u1 v1, f_A_sendOn N u (nI j) = some u1 ∧ f_B_on N v (nI j) = some v1 ∧ r0 u1 v1 nh ng nk nl t ∧ u1.1 = u.1 ∧ v1.1 = v.1 ∧ u1.2.2 = u.2.2 ∧ (∀ k, k ≠ 13 → k ≠ 14 → k ≠ 15 → k ≠ 17 → k ≠ 18 → u1.2.1 k = u.2.1 k) ∧ (∀ i, i ≠ j → u1.2.1 13 i = u.2.1 13 i ∧ u1.2.1 15 i = u.2.1 15 i) ∧ (u1.2.1 13 j = 0 → u1.2.1 15 j = nI t) := by
  obtain ⟨hC, hE, hS, hV, hQ, hO, hX, hL, hG, hK⟩ := id h0
  obtain ⟨c1, c2, c3, c4, c5, c6, c7, c8, c9, c10, c11, c12, c13, c14, c15, c16, c17⟩ := hC
  obtain ⟨e1, e2, e3, e4, e5, e6, e7, e8, e9, e10, e11, e12, e13, e14, e15, e16, e17, e18, e19, e20, e21, e22⟩ := hE
  obtain ⟨m, hm, m1, m2, m3⟩ := hV j (by omega)
  obtain ⟨r, q1, q2, q3⟩ := on_loop h0 hN (show j < 30 by omega) hm m1 m3 N 0 (-1) (by omega) (by omega) (Or.inl rfl)
  have q1 : f_A_nextHouse N u (nI j) = some r := q1
  have q2 : f_B_on N v (nI j) = _ := q2
  have cj : (nI j).toNatClampNeg = j := nI_clamp (by omega)
  rcases q3 with rfl | ⟨h, hh, rfl, hb⟩
  · refine ⟨sA (sA (sA (sA u 13 j 2) 14 j (-1)) 15 j 0) 18 j (vp_nar .boolean 0), bA (bA (bA (bA v 14 j (-1)) 15 j 0) 18 j (vp_nar .boolean 0)) 13 j 2, ?_, ?_, ⟨⟨c1, c2, c3, c4, c5, c6, c7, c8, c9, c10, c11, c12, c13, c14, c15, c16, c17⟩, ⟨e1, e2, e3, e4, e5, e6, e7, e8, e9, e10, e11, ?_, ?_, ?_, e15, ?_, e17, e18, e19, e20, e21, e22⟩, hS, hV, hQ, hO, hX, hL, hG, ⟨fun k hk => ?_, fun k hk => ⟨(hK.2 k hk).1, (upd_n (by omega)).trans (hK.2 k hk).2⟩⟩⟩, rfl, rfl, rfl, ?_, ?_, ?_⟩
    · unfold f_A_sendOn f_As_close
      rw [q1, Option.bind_some, if_pos rfl, gI_n (by omega) (by omega), cj]
      rfl
    · rw [q2, if_neg sh_neg1]
      unfold f_B_on_94 f_B_on_117 f_B_on_118
      simp only [gI_n (show j < 30 by omega) (show 30 < 2147483648 by omega), cj]
      rw [if_pos (by decide), if_neg sh_neg1]
    · show upd (u.2.1 13) j 2 = upd (v.2 13) j 2
      rw [e12]
    · show upd (u.2.1 14) j (-1) = upd (v.2 14) j (-1)
      rw [e13]
    · show upd (u.2.1 15) j 0 = upd (v.2 15) j 0
      rw [e14]
    · show upd (u.2.1 18) j _ = upd (v.2 18) j _
      rw [e16]
    · obtain ⟨si, pa, gq, uq, k1, k2, k3, k4, k5, k6, k7, k8, k9, k10⟩ := hK.1 k hk
      by_cases hkj : k = j
      · subst hkj
        refine ⟨0, pa, gq, uq, by omega, k2, k3, k4, k5, ?_, k7, k8, k9, fun z => ?_⟩
        · show upd (u.2.1 15) k 0 k = nI 0
          rw [upd_s]; rfl
        · have z : upd (u.2.1 13) k 2 k = 0 := z
          rw [upd_s] at z
          exact absurd z (by decide)
      · refine ⟨si, pa, gq, uq, k1, k2, k3, k4, k5, ?_, k7, k8, k9, fun z => k10 ?_⟩
        · show upd (u.2.1 15) j 0 k = nI si
          rw [upd_n hkj]; exact k6
        · have z : upd (u.2.1 13) j 2 k = 0 := z
          rw [upd_n hkj] at z; exact z
    · intro k a b c d f
      show (if k = 18 then _ else if k = 15 then _ else if k = 14 then _ else if k = 13 then _ else u.2.1 k) = u.2.1 k
      rw [if_neg f, if_neg c, if_neg b, if_neg a]
    · intro i hij
      exact ⟨upd_n hij, upd_n hij⟩
    · intro z
      have z : upd (u.2.1 13) j 2 j = 0 := z
      rw [upd_s] at z
      exact absurd z (by decide)
  · obtain ⟨b1, b2⟩ := bit_set ⟨m, hm⟩ ⟨h, by omega⟩
    have b3 := bit_cnt ⟨m, hm⟩ ⟨h, by omega⟩ hb
    dsimp only at b1 b2 b3
    have ch : (nI h).toNatClampNeg = h := nI_clamp (by omega)
    have cjh : (nI (j * 8 + h)).toNatClampNeg = j * 8 + h := nI_clamp (by omega)
    have hnar : vp_nar .boolean (u.2.1 3 h) = u.2.1 3 h := by rcases hX h (by omega) with z | z <;> rw [z] <;> rfl
    refine ⟨sA (sA (sA (sA u 14 j (nI h)) 15 j (nI t)) 17 j (nI (m ||| 2 ^ h))) 18 j (u.2.1 3 h), bA (bA (bA (bA (bA v 14 j (nI h)) 15 j (nI t)) 18 j (u.2.1 3 h)) 19 (j * 8 + h) 1) 17 j (v.2 17 j + 1), ?_, ?_, ⟨⟨c1, c2, c3, c4, c5, c6, c7, c8, c9, c10, c11, c12, c13, c14, c15, c16, c17⟩, ⟨e1, e2, e3, e4, e5, e6, e7, e8, e9, e10, e11, e12, ?_, ?_, e15, ?_, e17, e18, e19, e20, e21, e22⟩, hS, fun k hk => ?_, hQ, hO, hX, hL, hG, ⟨fun k hk => ?_, fun k hk => ⟨(hK.2 k hk).1, (upd_n (by omega)).trans (hK.2 k hk).2⟩⟩⟩, rfl, rfl, rfl, ?_, ?_, ?_⟩
    · unfold f_A_sendOn f_As_move
      rw [q1, Option.bind_some, if_neg (nI_ne1 (by omega)), gI_n (by omega) (by omega), gI_n (by omega) (by omega), cj, ch, hnar, c13]
      show some (sA (sA (sA (sA u 14 j (nI h)) 15 j (nI t)) 17 j (u.2.1 17 j ||| ((1 : Int32) <<< (nI h &&& 31)))) 18 j (u.2.1 3 h)) = _
      rw [m1, b1]
    · rw [q2, if_pos (nI_le0 (by omega)), c14]
      unfold f_B_on_94 f_B_on_117 f_B_on_118
      have e8' : nI j * (8 : Int32) + nI h = nI (j * 8 + h) := by rw [show (8 : Int32) = nI 8 from rfl, pk_mul, nI_add]
      simp only [e8', gI_n (show j < 30 by omega) (show 30 < 2147483648 by omega), gI_n (show h < 8 by omega) (show 8 < 2147483648 by omega), gI_n (show j * 8 + h < 240 by omega) (show 240 < 2147483648 by omega), cj, ch, cjh]
      rw [if_neg (nI_nlt0 (by omega)), if_pos (nI_le0 (by omega))]
      have hc : (bA v 14 j (nI h)).2 2 h = u.2.1 3 h := by rw [e3]; rfl
      rw [hc]
      rcases hX h (by omega) with z | z
      · rw [z, if_pos rfl]; rfl
      · rw [z, if_neg (by decide), if_pos (nI_le0 (by omega))]; rfl
    · show upd (u.2.1 14) j _ = upd (v.2 14) j _
      rw [e13]
    · show upd (u.2.1 15) j _ = upd (v.2 15) j _
      rw [e14]
    · show upd (u.2.1 18) j _ = upd (v.2 18) j _
      rw [e16]
    · show ∃ m' : Nat, m' < 256 ∧ upd (u.2.1 17) j (nI (m ||| 2 ^ h)) k = nI m' ∧ upd (v.2 17) j (v.2 17 j + 1) k = f_JI_bitCount (nI m') ∧ ∀ h', h' < 8 → upd (v.2 19) (j * 8 + h) 1 (k * 8 + h') = if m'.testBit h' then 1 else 0
      by_cases hkj : k = j
      · subst hkj
        refine ⟨m ||| 2 ^ h, b2, upd_s _ _ _, ?_, fun h' hh' => ?_⟩
        · rw [upd_s, m2, b3]
        · rw [Nat.testBit_or, Nat.testBit_two_pow]
          by_cases hhh : h' = h
          · subst hhh
            rw [upd_s]; simp
          · rw [upd_n (by omega), m3 h' hh']
            have : ¬ h = h' := fun z => hhh z.symm
            simp [this]
      · obtain ⟨m', n1, n2, n3, n4⟩ := hV k hk
        refine ⟨m', n1, ?_, ?_, fun h' hh' => ?_⟩
        · rw [upd_n hkj]; exact n2
        · rw [upd_n hkj]; exact n3
        · rw [upd_n (by omega)]; exact n4 h' hh'
    · obtain ⟨si, pa, gq, uq, k1, k2, k3, k4, k5, k6, k7, k8, k9, k10⟩ := hK.1 k hk
      by_cases hkj : k = j
      · subst hkj
        exact ⟨t, pa, gq, uq, by omega, k2, k3, k4, k5, upd_s _ _ _, k7, k8, k9, k10⟩
      · exact ⟨si, pa, gq, uq, k1, k2, k3, k4, k5, (upd_n hkj).trans k6, k7, k8, k9, k10⟩
    · intro k a b c d f
      show (if k = 18 then _ else if k = 17 then _ else if k = 15 then _ else if k = 14 then _ else u.2.1 k) = u.2.1 k
      rw [if_neg f, if_neg d, if_neg c, if_neg b]
    · intro i hij
      exact ⟨rfl, upd_n hij⟩
    · intro _
      exact upd_s _ _ _
