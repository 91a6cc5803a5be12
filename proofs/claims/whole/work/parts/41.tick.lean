theorem clock_rel {u : StA} {v : StB} {nh ng nk nl t t' : Nat} (h0 : r0 u v nh ng nk nl t) (h : t ≤ t') (h' : t' ≤ 99999) : r0 (sF u 0 (nI t')) (bF v 1 (nI t')) nh ng nk nl t' := by
  obtain ⟨hC, hE, hS, hV, hQ, hO, hX, hL, hG, hK⟩ := h0
  obtain ⟨c1, c2, c3, c4, c5, c6, c7, c8, c9, c10, c11, c12, c13, c14, c15, c16, c17⟩ := hC
  refine ⟨⟨c1, c2, c3, c4, c5, c6, c7, c8, c9, c10, c11, c12, rfl, rfl, h', c16, c17⟩, hE, hS, hV, hQ, hO, hX, hL, hG, fun j hj => ?_, hK.2⟩
  obtain ⟨si, pa, gq, uq, k1, k⟩ := hK.1 j hj
  exact ⟨si, pa, gq, uq, by omega, k⟩
theorem end_rel {u : StA} {v : StB} {nh ng nk nl t j : Nat} (h0 : r0 u v nh ng nk nl t) : r0 (sA u 24 j (u.1 0)) (bA v 25 j (v.1 1)) nh ng nk nl t := by
  obtain ⟨hC, hE, hS, hV, hQ, hO, hX, hL, hG, hK⟩ := h0
  obtain ⟨c1, c2, c3, c4, c5, c6, c7, c8, c9, c10, c11, c12, c13, c14, c15, c16, c17⟩ := hC
  obtain ⟨e1, e2, e3, e4, e5, e6, e7, e8, e9, e10, e11, e12, e13, e14, e15, e16, e17, e18, e19, e20, e21, e22⟩ := hE
  refine ⟨⟨c1, c2, c3, c4, c5, c6, c7, c8, c9, c10, c11, c12, c13, c14, c15, c16, c17⟩, ⟨e1, e2, e3, e4, e5, e6, e7, e8, e9, e10, e11, e12, e13, e14, e15, e16, e17, e18, e19, e20, e21, ?_⟩, hS, hV, hQ, hO, hX, ⟨hL.1, fun k => ?_⟩, hG, hK⟩
  · show upd (u.2.1 24) j (u.1 0) = upd (v.2 25) j (v.1 1)
    rw [e22, c13, c14]
  · show upd (u.2.1 24) j (u.1 0) k = -1 ∨ ∃ e, e < 1000000 ∧ upd (u.2.1 24) j (u.1 0) k = nI e
    by_cases q : k = j
    · rw [q, upd_s]; exact Or.inr ⟨t, by omega, c13⟩
    · rw [upd_n q]; exact hL.2 k
theorem rL1_end {u : StA} {j i e t : Nat} (ht : t ≤ 99999) (c13 : u.1 0 = nI t) (h : i ≠ j → rL1 u i e) : rL1 (sA u 24 j (u.1 0)) i e := by
  intro z
  have z : upd (u.2.1 24) j (u.1 0) i = -1 := z
  by_cases q : i = j
  · rw [q, upd_s, c13] at z
    exact absurd z (nI_ne1 (by omega))
  · rw [upd_n q] at z
    exact h q z
/-- the loans, by both -/
theorem tk_loans {N : Nat} {nh ng nk nl t : Nat} (K : StB → Int32 → Int32 → Int32 → Option (Int32 × StB)) (x1 x2 x3 : Int32) : ∀ (n i : Nat) (u : StA) (v : StB), r0 u v nh ng nk nl t → i ≤ nl → nl - i < n → (∀ j, j < i → rL1 u j (t + 1)) → ∃ u1 v1, f_A_endLoansWithAgreements_2 N n u (nI i) = some u1 ∧ f_B_tick_62 N K n v x1 x2 x3 (nI i) = f_B_tick_120 N K N v1 x1 x2 x3 0 ∧ r0 u1 v1 nh ng nk nl t ∧ (∀ j, j < nl → rL1 u1 j (t + 1)) ∧ v1.1 = v.1 := by
  intro n
  induction n with
  | zero => intro i u v _ h1 h2; omega
  | succ n ih =>
    intro i u v h0 h1 h2 hP
    obtain ⟨hC, hE, hS, hV, hQ, hO, hX, hL, hG, hK⟩ := id h0
    obtain ⟨c1, c2, c3, c4, c5, c6, c7, c8, c9, c10, c11, c12, c13, c14, c15, c16, c17⟩ := hC
    obtain ⟨e1, e2, e3, e4, e5, e6, e7, e8, e9, e10, e11, e12, e13, e14, e15, e16, e17, e18, e19, e20, e21, e22⟩ := hE
    rw [f_A_endLoansWithAgreements_2, f_B_tick_62, c10, c11]
    by_cases hi : i < nl
    · obtain ⟨h, a, hh, ha, q1, q2⟩ := hL.1 i hi
      obtain ⟨to, hto, q3⟩ := hG a ha
      have hl := ended_iff (hL.2 i)
      rw [if_neg (lp_in hi (by omega)), if_neg (lp_in hi (by omega))]
      unfold f_Lo_isLent
      simp only [gI_n (show i < 100 by omega) (show 100 < 2147483648 by omega), nI_clamp (show i < 2 ^ 31 by omega), ← e22, ← e20, ← e7, q2, nI_clamp (show a < 2 ^ 31 by omega), gI_n (show a < 30 by omega) (show 30 < 2147483648 by omega), q3, c13, c14]
      rw [nI_1]
      by_cases g : u.2.1 24 i = -1
      · rw [if_pos g, if_neg (fun q => (hl.mp q) g), Option.bind_some, if_neg (by decide)]
        by_cases g2 : t < to
        · rw [if_pos (nI_lt g2 (by omega)), if_pos (nI_lt g2 (by omega))]
          refine ih (i + 1) u v h0 (by omega) (by omega) fun j hj => ?_
          by_cases z : j = i
          · subst z
            intro _ a' to' ha' hto' y1 y2
            rw [q2, nI_eq (by omega) (by omega)] at y1
            subst y1
            rw [q3, nI_eq (by omega) (by omega)] at y2
            omega
          · exact hP j (by omega)
        · rw [if_neg (nI_nlt (by omega) (by omega)), if_neg (nI_nlt (by omega) (by omega))]
          have h0' := end_rel (j := i) h0
          have hr := ih (i + 1) _ _ h0' (by omega) (by omega) fun j hj => rL1_end (t := t) (by omega) c13 fun hz => hP j (by omega)
          rw [c13, c14] at hr
          exact hr
      · rw [if_neg g, if_pos (hl.mpr g), Option.bind_some, if_pos rfl]
        refine ih (i + 1) u v h0 (by omega) (by omega) fun j hj => ?_
        by_cases z : j = i
        · subst z
          intro y; exact absurd y g
        · exact hP j (by omega)
    · rw [if_pos (lp_out (by omega) (by omega)), if_pos (lp_out (by omega) (by omega))]
      exact ⟨u, v, rfl, rfl, h0, fun j hj => hP j (by omega), rfl⟩
/-- the asks, by both -/
theorem tk_asks {N : Nat} (hN : 200 ≤ N) {nh ng nk nl t : Nat} (K : StB → Int32 → Int32 → Int32 → Option (Int32 × StB)) (x1 x3 : Int32) : ∀ (n i : Nat) (u : StA) (v : StB), r0 u v nh ng nk nl t → i ≤ nk → nk - i < n → (∀ j, j < i → rA1 u j (t + 1)) → (∀ j, j < nl → rL1 u j (t + 1)) → ∃ c u1 v1, (∀ y, f_A_sendOnImpatientAsks_4 N n u y (nI i) = some (y + c, u1)) ∧ (∀ x2, f_B_tick_120 N K n v x1 x2 x3 (nI i) = K v1 x1 (x2 + c) (x3 + 1)) ∧ r0 u1 v1 nh ng nk nl t ∧ rT u1 nk nl (t + 1) ∧ v1.1 = v.1 := by
  intro n
  induction n with
  | zero => intro i u v _ h1 h2; omega
  | succ n ih =>
    intro i u v h0 h1 h2 hP hPl
    obtain ⟨hC, hE, hS, hV, hQ, hO, hX, hL, hG, hK⟩ := id h0
    obtain ⟨c1, c2, c3, c4, c5, c6, c7, c8, c9, c10, c11, c12, c13, c14, c15, c16, c17⟩ := hC
    obtain ⟨e1, e2, e3, e4, e5, e6, e7, e8, e9, e10, e11, e12, e13, e14, e15, e16, e17, e18, e19, e20, e21, e22⟩ := hE
    by_cases hi : i < nk
    · obtain ⟨si, pa, gq, uq, k1, k2, k3, k4, k5, k6, k7, k8, k9, k10⟩ := hK.1 i hi
      have hA : ∀ y, f_A_sendOnImpatientAsks_4 N (n + 1) u y (nI i) = if u.2.1 13 i = 0 then (if t < si + pa then f_A_sendOnImpatientAsks_4 N n u y (nI (i + 1)) else (f_A_sendOn N u (nI i)).bind fun q3 => f_A_sendOnImpatientAsks_4 N n q3 (y + 1) (nI (i + 1))) else f_A_sendOnImpatientAsks_4 N n u y (nI (i + 1)) := fun y => by
        rw [f_A_sendOnImpatientAsks_4, c7, if_neg (lp_in hi (by omega))]
        unfold f_As_isOpen f_As_patienceEnd
        simp only [gI_n (show i < 30 by omega) (show 30 < 2147483648 by omega), nI_clamp (show i < 2 ^ 31 by omega), k6, k7, nI_add, c13, nI_1]
        have hlt : (nI t < nI (si + pa)) ↔ t < si + pa := nI_ltI (by omega) (by omega)
        by_cases g : u.2.1 13 i = 0
        · rw [if_pos g, if_pos g, Option.bind_some, if_neg (by decide), Option.bind_some]
          simp only [hlt]
        · rw [if_neg g, if_neg g, Option.bind_some, if_pos rfl]
      have hB : ∀ x2, f_B_tick_120 N K (n + 1) v x1 x2 x3 (nI i) = if u.2.1 13 i = 0 then (if t < si + pa then f_B_tick_120 N K n v x1 x2 x3 (nI (i + 1)) else (f_B_on N v (nI i)).bind fun q5 => f_B_tick_120 N K n q5 x1 (x2 + 1) x3 (nI (i + 1))) else f_B_tick_120 N K n v x1 x2 x3 (nI (i + 1)) := fun x2 => by
        rw [f_B_tick_120, c8, if_neg (lp_in hi (by omega))]
        simp only [gI_n (show i < 30 by omega) (show 30 < 2147483648 by omega), nI_clamp (show i < 2 ^ 31 by omega), ← e12, ← e11, ← e14, k6, k7, c14, nI_1, pk_sub k1]
        have hlt : (nI pa ≤ nI (t - si)) ↔ ¬ t < si + pa := by rw [nI_leI (by omega) (by omega)]; omega
        by_cases g : u.2.1 13 i = 0
        · rw [if_pos g, if_pos g]
          by_cases g2 : t < si + pa
          · rw [if_neg (fun z => hlt.mp z g2), if_pos g2]
          · rw [if_pos (hlt.mpr g2), if_neg g2]
        · rw [if_neg g, if_neg g]
      by_cases g : u.2.1 13 i = 0
      · by_cases g2 : t < si + pa
        · obtain ⟨c, u1, v1, q1, q2, q3⟩ := ih (i + 1) u v h0 (by omega) (by omega) (fun j hj => by
            by_cases z : j = i
            · subst z
              intro _ si' pa' hs hp y1 y2
              rw [k6, nI_eq (by omega) (by omega)] at y1
              rw [k7, nI_eq (by omega) (by omega)] at y2
              omega
            · exact hP j (by omega)) hPl
          refine ⟨c, u1, v1, fun y => ?_, fun x2 => ?_, q3⟩
          · rw [hA, if_pos g, if_pos g2]; exact q1 y
          · rw [hB, if_pos g, if_pos g2]; exact q2 x2
        · obtain ⟨uu, vv, w1, w2, w3, w4, w5⟩ := on_rel' h0 hN hi
          obtain ⟨c, u1, v1, q1, q2, q3, q4, q5⟩ := ih (i + 1) uu vv w3 (by omega) (by omega) (fun j hj => by
            by_cases z : j = i
            · subst z
              exact rA1_own w5 (by omega) k3 k2 k7
            · exact rA1_on w5 z (hP j (by omega))) (fun j hj => rL1_on w5 (hPl j hj))
          refine ⟨1 + c, u1, v1, fun y => ?_, fun x2 => ?_, q3, q4, q5.trans w4⟩
          · rw [hA, if_pos g, if_neg g2, w1, Option.bind_some, q1, Int32.add_assoc]
          · rw [hB, if_pos g, if_neg g2, w2, Option.bind_some, q2, Int32.add_assoc]
      · obtain ⟨c, u1, v1, q1, q2, q3⟩ := ih (i + 1) u v h0 (by omega) (by omega) (fun j hj => by
            by_cases z : j = i
            · subst z
              intro y; exact absurd y g
            · exact hP j (by omega)) hPl
        refine ⟨c, u1, v1, fun y => ?_, fun x2 => ?_, q3⟩
        · rw [hA, if_neg g]; exact q1 y
        · rw [hB, if_neg g]; exact q2 x2
    · refine ⟨0, u, v, fun y => ?_, fun x2 => ?_, h0, ⟨fun j hj => hP j (by omega), hPl⟩, rfl⟩
      · rw [f_A_sendOnImpatientAsks_4, c7, if_pos (lp_out (by omega) (by omega)), Int32.add_zero]
      · rw [f_B_tick_120, c8, if_pos (lp_out (by omega) (by omega)), Int32.add_zero]
/-- a minute, by both -/
theorem tk_minute {N : Nat} (hN : 200 ≤ N) {nh ng nk nl t : Nat} {u : StA} {v : StB} (h0 : r0 u v nh ng nk nl t) (K : StB → Int32 → Int32 → Int32 → Option (Int32 × StB)) (x1 x2 x3 : Int32) : ∃ c u1 u2 v1, f_A_endLoansWithAgreements N u = some u1 ∧ f_A_sendOnImpatientAsks N u1 = some (c, u2) ∧ f_B_tick_62 N K N v x1 x2 x3 0 = K v1 x1 (x2 + c) (x3 + 1) ∧ r0 u2 v1 nh ng nk nl t ∧ rT u2 nk nl (t + 1) ∧ v1.1 = v.1 := by
  have hC := h0.1
  obtain ⟨c1, c2, c3, c4, c5, c6, c7, c8, c9, c10, c11, c12, c13, c14, c15, c16, c17⟩ := hC
  obtain ⟨u1, v1, q1, q2, q3, q4, q5⟩ := tk_loans (N := N) K x1 x2 x3 N 0 u v h0 (by omega) (by omega) (fun j hj => by omega)
  obtain ⟨c, u2, v2, w1, w2, w3, w4, w5⟩ := tk_asks (N := N) hN K x1 x3 N 0 u1 v1 q3 (by omega) (by omega) (fun j hj => by omega) q4
  refine ⟨c, u1, u2, v2, q1, ?_, ?_, w3, w4, w5.trans q5⟩
  · have := w1 0
    rw [Int32.zero_add] at this
    exact this
  · exact q2.trans (w2 x2)
