set_option maxHeartbeats 1000000 in
theorem add_rel {u : StA} {v : StB} {nh ng nk nl t : Nat} (h0 : r0 u v nh ng nk nl t) (hT : rT u nk nl (t + 1)) (hn : nl ≤ 99) {h a : Nat} (hh : h < nh) (ha : a < ng) (hto : nI t < u.2.1 7 a) (nm j st : Int32) : r0 (sF (sA (sA (sA (sA (sA (sA u 20 nl nm) 19 nl (nI h)) 21 nl j) 22 nl (nI a)) 23 nl st) 24 nl (-1)) 6 (nI (nl + 1))) (bF (bA (bA (bA (bA (bA (bA v 20 nl (nI h)) 21 nl nm) 22 nl j) 23 nl (nI a)) 24 nl st) 25 nl (-1)) 5 (nI (nl + 1))) nh ng nk (nl + 1) t ∧ rT (sF (sA (sA (sA (sA (sA (sA u 20 nl nm) 19 nl (nI h)) 21 nl j) 22 nl (nI a)) 23 nl st) 24 nl (-1)) 6 (nI (nl + 1))) nk (nl + 1) (t + 1) := by
  obtain ⟨hC, hE, hS, hV, hQ, hO, hX, hL, hG, hK⟩ := id h0
  obtain ⟨c1, c2, c3, c4, c5, c6, c7, c8, c9, c10, c11, c12, c13, c14, c15, c16, c17⟩ := hC
  obtain ⟨e1, e2, e3, e4, e5, e6, e7, e8, e9, e10, e11, e12, e13, e14, e15, e16, e17, e18, e19, e20, e21, e22⟩ := hE
  refine ⟨⟨⟨c1, c2, c3, c4, c5, c6, c7, c8, c9, rfl, rfl, by omega, c13, c14, c15, c16, c17⟩, ⟨e1, e2, e3, e4, e5, e6, e7, e8, e9, e10, e11, e12, e13, e14, e15, e16, ?_, ?_, ?_, ?_, ?_, ?_⟩, hS, hV, hQ, hO, hX, ⟨fun k hk => ?_, fun k => ?_⟩, hG, hK⟩, hT.1, fun k hk => ?_⟩
  · show upd (u.2.1 19) nl _ = upd (v.2 20) nl _
    rw [e17]
  · show upd (u.2.1 20) nl _ = upd (v.2 21) nl _
    rw [e18]
  · show upd (u.2.1 21) nl _ = upd (v.2 22) nl _
    rw [e19]
  · show upd (u.2.1 22) nl _ = upd (v.2 23) nl _
    rw [e20]
  · show upd (u.2.1 23) nl _ = upd (v.2 24) nl _
    rw [e21]
  · show upd (u.2.1 24) nl _ = upd (v.2 25) nl _
    rw [e22]
  · show ∃ h' a', h' < nh ∧ a' < ng ∧ upd (u.2.1 19) nl (nI h) k = nI h' ∧ upd (u.2.1 22) nl (nI a) k = nI a'
    by_cases z : k = nl
    · subst z
      rw [upd_s, upd_s]
      exact ⟨h, a, hh, ha, rfl, rfl⟩
    · rw [upd_n z, upd_n z]
      exact hL.1 k (by omega)
  · show upd (u.2.1 24) nl (-1) k = -1 ∨ ∃ e, e < 1000000 ∧ upd (u.2.1 24) nl (-1) k = nI e
    by_cases z : k = nl
    · subst z
      rw [upd_s]; exact Or.inl rfl
    · rw [upd_n z]; exact hL.2 k
  · show upd (u.2.1 24) nl (-1) k = -1 → ∀ a' to, a' < 30 → to ≤ 99999 → upd (u.2.1 22) nl (nI a) k = nI a' → u.2.1 7 a' = nI to → t + 1 ≤ to
    by_cases z : k = nl
    · subst z
      rw [upd_s, upd_s]
      intro _ a' to ha' hto' y1 y2
      rw [nI_eq (by omega) (by omega)] at y1
      subst y1
      rw [y2, nI_ltI (by omega) (by omega)] at hto
      omega
    · rw [upd_n z, upd_n z]
      exact hT.2 k (by omega)
/-- where a house's number has been told: the end of lend, by the reference -/
def lFin (N : Nat) (v : StB) (j : Nat) (q : Int32) : Option StB :=
  if v.2 11 j ≤ v.2 16 j + q then some (bA (bA (bA (bA (bA v 16 j (v.2 16 j + q)) 13 j 1) 14 j (-1)) 15 j 0) 18 j 0) else f_B_on N (bA v 16 j (v.2 16 j + q)) (nI j)
theorem lend_loop {N : Nat} (hN : 200 ≤ N) {nh ng nk t j h a q : Nat} (hj : j < nk) (hh : h < nh) (ha : a < ng) (hq : q ≤ 20) (s : Int32) : ∀ (n i nl : Nat) (u : StA) (v : StB), r0 u v nh ng nk nl t → rT u nk nl (t + 1) → nI t < u.2.1 7 a → i ≤ q → nl + (q - i) ≤ 100 → q - i < n → ∃ u1 v1 nl1, f_A_lend_26 N n u (nI j) (nI h) (nI q) (nI t + s) (nI a) (nI i) = some (sA u1 16 j (u1.2.1 16 j + nI q)) ∧ f_B_lend_16 N n v (nI j) (nI h) (nI q) s (nI a) (nI i) = lFin N v1 j (nI q) ∧ r0 u1 v1 nh ng nk nl1 t ∧ rT u1 nk nl1 (t + 1) ∧ (∀ k, k ≤ 18 → u1.2.1 k = u.2.1 k) ∧ v1.1 0 = v.1 0 := by
  intro n
  induction n with
  | zero => intro i nl u v _ _ _ h1 h2 h3; omega
  | succ n ih =>
    intro i nl u v h0 hT hto h1 h2 h3
    obtain ⟨hC, hE, hS, hV, hQ, hO, hX, hL, hG, hK⟩ := id h0
    obtain ⟨c1, c2, c3, c4, c5, c6, c7, c8, c9, c10, c11, c12, c13, c14, c15, c16, c17⟩ := hC
    obtain ⟨e1, e2, e3, e4, e5, e6, e7, e8, e9, e10, e11, e12, e13, e14, e15, e16, e17, e18, e19, e20, e21, e22⟩ := hE
    rw [f_A_lend_26, f_B_lend_16]
    by_cases hi : i < q
    · rw [if_neg (nI_ge hi (by omega)), if_neg (nI_ge hi (by omega)), c11, gI_n (by omega) (by omega), nI_clamp (by omega)]
      obtain ⟨nm, f1, f2⟩ := fn_eq (N := N) hN (u := u) (v := bA v 20 nl (nI h)) c10 c11 (by omega) e18 e22 hL.2 (show h < 8 by omega)
      unfold f_Lo_add
      rw [f1, f2, Option.bind_some, Option.bind_some, c10, gI_n (by omega) (by omega), nI_clamp (by omega), Option.bind_some, nI_1, nI_1]
      obtain ⟨r1, r2⟩ := add_rel h0 hT (by omega) hh ha hto nm (nI j) (nI t + s)
      obtain ⟨u1, v1, nl1, p1, p2, p3, p4, p5, p6⟩ := ih (i + 1) (nl + 1) _ _ r1 r2 hto (by omega) (by omega) (by omega)
      refine ⟨u1, v1, nl1, p1, ?_, p3, p4, fun k hk => ?_, p6⟩
      · rw [c14]; exact p2
      · rw [p5 k hk]
        show (if k = 24 then _ else if k = 23 then _ else if k = 22 then _ else if k = 21 then _ else if k = 19 then _ else if k = 20 then _ else u.2.1 k) = u.2.1 k
        rw [if_neg (by omega), if_neg (by omega), if_neg (by omega), if_neg (by omega), if_neg (by omega), if_neg (by omega)]
    · rw [if_pos (nI_le (by omega) (by omega)), if_pos (nI_le (by omega) (by omega)), gI_n (by omega) (by omega), gI_n (by omega) (by omega), nI_clamp (by omega)]
      refine ⟨u, v, nl, rfl, ?_, h0, hT, fun _ _ => rfl, rfl⟩
      unfold lFin
      have hz : (bA v 16 j (v.2 16 j + nI q)).2 16 j = v.2 16 j + nI q := upd_s _ _ _
      rw [hz]
      by_cases g : v.2 11 j ≤ v.2 16 j + nI q
      · rw [if_pos g, if_pos g]; rfl
      · rw [if_neg g, if_neg g]
        cases f_B_on N (bA v 16 j (v.2 16 j + nI q)) (nI j) <;> rfl
set_option maxHeartbeats 1000000 in
theorem take_rel {N : Nat} (hN : 200 ≤ N) {nh ng nk nl t j h q : Nat} {u : StA} {v : StB} (h0 : r0 u v nh ng nk nl t) (hT : rT u nk nl (t + 1)) (hj : j < nk) (hh : h < nh) (hq : q ≤ 20) (hr : nl + q ≤ 100) (s : Int32) (ho : u.2.1 13 j = 0) (hc : 0 < q → (∃ gq uq, gq + q ≤ uq ∧ uq ≤ 20 ∧ u.2.1 16 j = nI gq ∧ u.2.1 11 j = nI uq) ∧ ∃ a, a < ng ∧ f_Ag_holding N u (nI h) (u.2.1 10 j) (nI t) = some (nI a) ∧ f_B_holding N v (nI h) (u.2.1 10 j) = some (nI a) ∧ nI t < u.2.1 7 a) : ∃ u1 v1, f_A_take N u (nI j) (nI h) (nI q) s = some u1 ∧ (if nI q = 0 then f_B_on N v (nI j) else f_B_lend N v (nI j) (nI h) (nI q) s) = some v1 ∧ v1.1 0 = v.1 0 ∧ Rel u1 v1 := by
  have fin : ∀ {u : StA} {v : StB} {nl : Nat}, r0 u v nh ng nk nl t → (∀ i, i < nk → i ≠ j → rA1 u i (t + 1)) → (∀ i, i < nl → rL1 u i (t + 1)) → ∃ u1 v1, f_A_sendOn N u (nI j) = some u1 ∧ f_B_on N v (nI j) = some v1 ∧ v1.1 0 = v.1 0 ∧ Rel u1 v1 := by
    intro u v nl h0 hA hB
    obtain ⟨u1, v1, w1, w2, w3, w4, w5⟩ := on_rel' h0 hN hj
    obtain ⟨si, pa, gq, uq, k1, k2, k3, k4, k5, k6, k7, k8, k9, k10⟩ := (h0.2.2.2.2.2.2.2.2.2).1 j hj
    have ht : t ≤ 99999 := by
      obtain ⟨⟨c1, c2, c3, c4, c5, c6, c7, c8, c9, c10, c11, c12, c13, c14, c15, c16⟩, -⟩ := h0
      exact c15
    refine ⟨u1, v1, w1, w2, by rw [w4], nh, ng, nk, nl, t, w3, fun i hi => ?_, fun i hi => rL1_on w5 (hB i hi)⟩
    by_cases z : i = j
    · subst z; exact rA1_own w5 (by omega) k3 k2 k7
    · exact rA1_on w5 z (hA i hi z)
  obtain ⟨hC, hE, hS, hV, hQ, hO, hX, hL, hG, hK⟩ := id h0
  obtain ⟨c1, c2, c3, c4, c5, c6, c7, c8, c9, c10, c11, c12, c13, c14, c15, c16, c17⟩ := hC
  obtain ⟨e1, e2, e3, e4, e5, e6, e7, e8, e9, e10, e11, e12, e13, e14, e15, e16, e17, e18, e19, e20, e21, e22⟩ := hE
  have cj : (nI j).toNatClampNeg = j := nI_clamp (by omega)
  have gj : ∀ {α : Type} (k : Option α), gI (nI j) 30 k = k := fun k => gI_n (by omega) (by omega) k
  by_cases g : q = 0
  · subst g
    obtain ⟨si, pa, gq, uq, k1, k2, k3, k4, k5, k6, k7, k8, k9, k10⟩ := hK.1 j hj
    have k11 := k10 ho
    obtain ⟨u1, v1, w1, w2, w3, w4⟩ := fin h0 (fun i hi _ => hT.1 i hi) hT.2
    refine ⟨u1, v1, ?_, ?_, w3, w4⟩
    · unfold f_A_take f_A_take_18 f_As_wanting
      rw [if_pos (show nI 0 ≤ (0 : Int32) by decide)]
      simp only [gj, cj, k8, k9, Option.bind_some, pk_sub k4]
      rw [if_neg (nI_ne0 (by omega) (by omega)), w1]
      rfl
    · rw [if_pos (show nI 0 = (0 : Int32) from rfl)]; exact w2
  · obtain ⟨⟨gq, uq, b1, b2, b3, b4⟩, a, ha, d1, d2, d3⟩ := hc (by omega)
    obtain ⟨u1, v1, nl1, p1, p2, p3, p4, p5, p6⟩ := lend_loop (N := N) hN hj hh ha hq s N 0 nl u v h0 hT d3 (by omega) (by omega) (by omega)
    have hz : u1.2.1 16 j + nI q = nI (gq + q) := by rw [p5 16 (by decide), b3, nI_add]
    rw [hz] at p1
    obtain ⟨hC', hE', hS', hV', hQ', hO', hX', hL', hG', hK'⟩ := id p3
    obtain ⟨c1', c2', c3', c4', c5', c6', c7', c8', c9', c10', c11', c12', c13', c14', c15', c16', c17'⟩ := hC'
    obtain ⟨e1', e2', e3', e4', e5', e6', e7', e8', e9', e10', e11', e12', e13', e14', e15', e16', e17', e18', e19', e20', e21', e22'⟩ := hE'
    have hzB : v1.2 16 j + nI q = nI (gq + q) := by rw [← e15']; exact hz
    have h11 : v1.2 11 j = nI uq := by rw [← e10', p5 11 (by decide), b4]
    have hA0 : f_A_take N u (nI j) (nI h) (nI q) s = f_A_take_18 N (sA u1 16 j (nI (gq + q))) (nI j) (nI h) (nI q) s := by
      unfold f_A_take f_A_lend
      rw [if_neg (show ¬ nI q ≤ (0 : Int32) from nI_nle (by omega) (by omega))]
      simp only [gj, cj, c13, d1, Option.bind_some]
      rw [show f_A_lend_26 N N u (nI j) (nI h) (nI q) (nI t + s) (nI a) 0 = f_A_lend_26 N N u (nI j) (nI h) (nI q) (nI t + s) (nI a) (nI 0) from rfl, p1, Option.bind_some]
    have hB0 : f_B_lend N v (nI j) (nI h) (nI q) s = lFin N v1 j (nI q) := by
      unfold f_B_lend
      simp only [gj, cj, ← e9, d2, Option.bind_some]
      exact p2
    have hw : f_As_wanting (sA u1 16 j (nI (gq + q))) (nI j) = some (nI (uq - (gq + q))) := by
      unfold f_As_wanting
      simp only [gj, cj]
      have y1 : (sA u1 16 j (nI (gq + q))).2.1 16 j = nI (gq + q) := upd_s _ _ _
      have y2 : (sA u1 16 j (nI (gq + q))).2.1 11 j = nI uq := (congrFun (p5 11 (by decide)) j).trans b4
      rw [y1, y2, pk_sub b1]
    rw [if_neg (show ¬ nI q = (0 : Int32) from nI_ne0 (by omega) (by omega)), hA0, hB0]
    unfold f_A_take_18
    rw [hw, Option.bind_some]
    unfold lFin
    rw [hzB, h11]
    obtain ⟨si, pa, gq', uq', k1, k2, k3, k4, k5, k6, k7, k8, k9, k10⟩ := hK'.1 j hj
    have huq : uq' = uq := by
      rw [p5 11 (by decide), b4, nI_eq (by omega) (by omega)] at k9
      exact k9.symm
    subst huq
    by_cases g2 : gq + q = uq'
    · have hA1 : (if nI (uq' - (gq + q)) = (0 : Int32) then (f_As_close (sA u1 16 j (nI (gq + q))) (nI j) (1 : Int32)).bind fun q4 => some q4 else (f_A_sendOn N (sA u1 16 j (nI (gq + q))) (nI j)).bind fun q3 => some q3) = some (sA (sA (sA (sA (sA u1 16 j (nI (gq + q))) 13 j 1) 14 j (-1)) 15 j 0) 18 j 0) := by
        rw [g2, Nat.sub_self, if_pos (show nI 0 = (0 : Int32) from rfl)]
        unfold f_As_close
        simp only [gj, cj]
        rfl
      rw [hA1, if_pos (nI_le (show uq' ≤ gq + q by omega) (by omega))]
      refine ⟨_, _, rfl, rfl, p6, nh, ng, nk, nl1, t, ⟨⟨c1', c2', c3', c4', c5', c6', c7', c8', c9', c10', c11', c12', c13', c14', c15', c16', c17'⟩, ⟨e1', e2', e3', e4', e5', e6', e7', e8', e9', e10', e11', ?_, ?_, ?_, ?_, ?_, e17', e18', e19', e20', e21', e22'⟩, hS', hV', hQ', hO', hX', hL', hG', fun i hi => ?_, fun i hi => ?_⟩, fun i hi => ?_, p4.2⟩
      · show upd (u1.2.1 13) j _ = upd (v1.2 13) j _
        rw [e12']
      · show upd (u1.2.1 14) j _ = upd (v1.2 14) j _
        rw [e13']
      · show upd (u1.2.1 15) j _ = upd (v1.2 15) j _
        rw [e14']
      · show upd (u1.2.1 16) j _ = upd (v1.2 16) j _
        rw [e15']
      · show upd (u1.2.1 18) j _ = upd (v1.2 18) j _
        rw [e16']
      · show ∃ si pa gq uq, si ≤ t ∧ 1 ≤ pa ∧ pa ≤ 500 ∧ gq ≤ uq ∧ uq ≤ 20 ∧ upd (u1.2.1 15) j 0 i = nI si ∧ u1.2.1 12 i = nI pa ∧ upd (u1.2.1 16) j _ i = nI gq ∧ u1.2.1 11 i = nI uq ∧ (upd (u1.2.1 13) j 1 i = 0 → gq < uq)
        by_cases z : i = j
        · subst z
          refine ⟨0, pa, gq + q, uq', by omega, k2, k3, by omega, k5, upd_s _ _ _, k7, upd_s _ _ _, k9, fun y => ?_⟩
          rw [upd_s] at y
          exact absurd y (by decide)
        · rw [upd_n z, upd_n z, upd_n z]
          exact hK'.1 i hi
      · show upd (u1.2.1 16) j _ i = 0 ∧ upd (u1.2.1 15) j 0 i = 0
        rw [upd_n (by omega), upd_n (by omega)]
        exact hK'.2 i hi
      · show upd (u1.2.1 13) j 1 i = 0 → ∀ si pa, si < 1000000 → pa ≤ 500 → upd (u1.2.1 15) j 0 i = nI si → u1.2.1 12 i = nI pa → t + 1 ≤ si + pa
        by_cases z : i = j
        · subst z
          intro y
          rw [upd_s] at y
          exact absurd y (by decide)
        · rw [upd_n z, upd_n z]
          exact p4.1 i hi
    · have r1 : r0 (sA u1 16 j (nI (gq + q))) (bA v1 16 j (nI (gq + q))) nh ng nk nl1 t := by
        refine ⟨⟨c1', c2', c3', c4', c5', c6', c7', c8', c9', c10', c11', c12', c13', c14', c15', c16', c17'⟩, ⟨e1', e2', e3', e4', e5', e6', e7', e8', e9', e10', e11', e12', e13', e14', ?_, e16', e17', e18', e19', e20', e21', e22'⟩, hS', hV', hQ', hO', hX', hL', hG', fun i hi => ?_, fun i hi => ?_⟩
        · show upd (u1.2.1 16) j _ = upd (v1.2 16) j _
          rw [e15']
        · show ∃ si pa gq uq, si ≤ t ∧ 1 ≤ pa ∧ pa ≤ 500 ∧ gq ≤ uq ∧ uq ≤ 20 ∧ u1.2.1 15 i = nI si ∧ u1.2.1 12 i = nI pa ∧ upd (u1.2.1 16) j _ i = nI gq ∧ u1.2.1 11 i = nI uq ∧ (u1.2.1 13 i = 0 → gq < uq)
          by_cases z : i = j
          · subst z
            exact ⟨si, pa, gq + q, uq', k1, k2, k3, by omega, k5, k6, k7, upd_s _ _ _, k9, fun y => by omega⟩
          · rw [upd_n z]
            exact hK'.1 i hi
        · show upd (u1.2.1 16) j _ i = 0 ∧ u1.2.1 15 i = 0
          rw [upd_n (by omega)]
          exact hK'.2 i hi
      obtain ⟨u2, v2, w1, w2, w3, w4⟩ := fin r1 (fun i hi _ => p4.1 i hi) p4.2
      refine ⟨u2, v2, ?_, ?_, ?_, w4⟩
      · rw [if_neg (nI_ne0 (by omega) (by omega)), w1]; rfl
      · rw [if_neg (nI_ge (by omega) (by omega))]; exact w2
      · rw [w3]; exact p6
