theorem tk_quiet1 {N : Nat} {nh ng nk nl t e : Nat} {u : StA} {v : StB} (h0 : r0 u v nh ng nk nl t) (hT : rT u nk nl e) (he : t < e) : ∀ (n i : Nat), i ≤ nl → nl - i < n → f_A_endLoansWithAgreements_2 N n u (nI i) = some u := by
  obtain ⟨hC, hE, hS, hV, hQ, hO, hX, hL, hG, hK⟩ := id h0
  obtain ⟨c1, c2, c3, c4, c5, c6, c7, c8, c9, c10, c11, c12, c13, c14, c15, c16, c17⟩ := hC
  intro n
  induction n with
  | zero => intro i h1 h2; omega
  | succ n ih =>
    intro i h1 h2
    rw [f_A_endLoansWithAgreements_2, c10]
    by_cases hi : i < nl
    · obtain ⟨h, a, hh, ha, q1, q2⟩ := hL.1 i hi
      obtain ⟨to, hto, q3⟩ := hG a ha
      rw [if_neg (lp_in hi (by omega))]
      unfold f_Lo_isLent
      simp only [gI_n (show i < 100 by omega) (show 100 < 2147483648 by omega), nI_clamp (show i < 2 ^ 31 by omega), q2, nI_clamp (show a < 2 ^ 31 by omega), gI_n (show a < 30 by omega) (show 30 < 2147483648 by omega), q3, c13]
      rw [nI_1]
      have hr := ih (i + 1) (by omega) (by omega)
      by_cases g : u.2.1 24 i = -1
      · have := hT.2 i hi g a to (by omega) hto q2 q3
        rw [if_pos g, Option.bind_some, if_neg (by decide), if_pos (nI_lt (by omega) (by omega))]
        exact hr
      · rw [if_neg g, Option.bind_some, if_pos rfl]
        exact hr
    · rw [if_pos (lp_out (by omega) (by omega))]
theorem tk_quiet2 {N : Nat} {nh ng nk nl t e : Nat} {u : StA} {v : StB} (h0 : r0 u v nh ng nk nl t) (hT : rT u nk nl e) (he : t < e) (y : Int32) : ∀ (n i : Nat), i ≤ nk → nk - i < n → f_A_sendOnImpatientAsks_4 N n u y (nI i) = some (y, u) := by
  obtain ⟨hC, hE, hS, hV, hQ, hO, hX, hL, hG, hK⟩ := id h0
  obtain ⟨c1, c2, c3, c4, c5, c6, c7, c8, c9, c10, c11, c12, c13, c14, c15, c16, c17⟩ := hC
  intro n
  induction n with
  | zero => intro i h1 h2; omega
  | succ n ih =>
    intro i h1 h2
    rw [f_A_sendOnImpatientAsks_4, c7]
    by_cases hi : i < nk
    · obtain ⟨si, pa, gq, uq, k1, k2, k3, k4, k5, k6, k7, k8, k9, k10⟩ := hK.1 i hi
      rw [if_neg (lp_in hi (by omega))]
      unfold f_As_isOpen f_As_patienceEnd
      simp only [gI_n (show i < 30 by omega) (show 30 < 2147483648 by omega), nI_clamp (show i < 2 ^ 31 by omega), k6, k7, nI_add, c13, nI_1]
      have hr := ih (i + 1) (by omega) (by omega)
      by_cases g : u.2.1 13 i = 0
      · have := hT.1 i hi g si pa (by omega) k3 k6 k7
        rw [if_pos g, Option.bind_some, if_neg (by decide), Option.bind_some, if_pos (nI_lt (by omega) (by omega))]
        exact hr
      · rw [if_neg g, Option.bind_some, if_pos rfl]
        exact hr
    · rw [if_pos (lp_out (by omega) (by omega))]
/-- minutes in which nothing is due -/
theorem tk_run {N : Nat} (hN : 200 ≤ N) {nh ng nk nl e A : Nat} (he : e ≤ 99999) (hA : A ≤ 2000) (x2 : Int32) : ∀ (d n : Nat) (u : StA) (v : StB) (t x : Nat), r0 u v nh ng nk nl t → rT u nk nl e → t + d < e → x + d ≤ A → ∃ v1, f_B_tick_44 N (n + d) v (nI A) x2 (nI x) = f_B_tick_44 N n v1 (nI A) x2 (nI (x + d)) ∧ r0 (sF u 0 (nI (t + d))) v1 nh ng nk nl (t + d) ∧ v1.1 0 = v.1 0 := by
  intro d
  induction d with
  | zero =>
    intro n u v t x h0 hT h1 h2
    refine ⟨v, rfl, ?_, rfl⟩
    have : sF u 0 (nI (t + 0)) = u := by
      have hc : u.1 0 = nI t := by
        obtain ⟨⟨c1, c2, c3, c4, c5, c6, c7, c8, c9, c10, c11, c12, c13, c14⟩, -⟩ := h0
        exact c13
      unfold sF
      rw [show t + 0 = t from rfl, ← hc]
      refine Prod.ext ?_ rfl
      funext j
      show (if j = 0 then u.1 0 else u.1 j) = u.1 j
      by_cases z : j = 0
      · rw [if_pos z, z]
      · rw [if_neg z]
    rw [this]; exact h0
  | succ d ih =>
    intro n u v t x h0 hT h1 h2
    have c14 : v.1 1 = nI t := by
      obtain ⟨⟨c1, c2, c3, c4, c5, c6, c7, c8, c9, c10, c11, c12, c13, c14, c15⟩, -⟩ := h0
      exact c14
    have h0' := clock_rel h0 (show t ≤ t + 1 by omega) (by omega)
    obtain ⟨c, u1, u2, v1, q1, q2, q3, q4, q5, q6⟩ := tk_minute hN h0' (f_B_tick_44 N (n + d)) (nI A) x2 (nI x)
    have hC' := h0'.1
    have hT' : rT (sF u 0 (nI (t + 1))) nk nl e := hT
    obtain ⟨d1, d2, d3, d4, d5, d6, d7, d8, d9, d10, d11, d12, d13, d14, d15, d16, d17⟩ := hC'
    have z1 := tk_quiet1 (N := N) h0' hT' (by omega) N 0 (by omega) (by omega)
    have z2 := tk_quiet2 (N := N) h0' hT' (by omega) 0 N 0 (by omega) (by omega)
    have z1 : f_A_endLoansWithAgreements N (sF u 0 (nI (t + 1))) = some (sF u 0 (nI (t + 1))) := z1
    have z2 : f_A_sendOnImpatientAsks N (sF u 0 (nI (t + 1))) = some (0, sF u 0 (nI (t + 1))) := z2
    rw [z1] at q1
    have q1 : sF u 0 (nI (t + 1)) = u1 := Option.some.inj q1
    rw [← q1, z2] at q2
    have q2 := Option.some.inj q2
    have qc : c = 0 := (congrArg Prod.fst q2).symm
    have qu : u2 = sF u 0 (nI (t + 1)) := (congrArg Prod.snd q2).symm
    rw [qu] at q4
    obtain ⟨v2, w1, w2, w3⟩ := ih n _ v1 (t + 1) (x + 1) q4 hT (by omega) (by omega)
    refine ⟨v2, ?_, ?_, ?_⟩
    · rw [show n + (d + 1) = (n + d) + 1 from rfl, f_B_tick_44, if_neg (nI_ge (by omega) (by omega)), c14, nI_1, q3, qc, Int32.add_zero, nI_1, w1]
      congr 2
      omega
    · rw [sF_sF] at w2
      have : t + 1 + d = t + (d + 1) := by omega
      rw [this] at w2
      exact w2
    · rw [w3, q6]; rfl
theorem min_n {a b : Nat} (ha : a < 2 ^ 31) (hb : b < 2 ^ 31) : f_JM_min (nI a) (nI b) = nI (min a b) := by
  unfold f_JM_min
  by_cases h : b < a
  · rw [if_pos (nI_lt h ha), Nat.min_eq_right (by omega)]
  · rw [if_neg (nI_nlt (by omega) hb), Nat.min_eq_left (by omega)]
theorem rA1_le {u : StA} {j e e' : Nat} (h : rA1 u j e) (he : e' ≤ e) : rA1 u j e' := fun z si pa q1 q2 y1 y2 => Nat.le_trans he (h z si pa q1 q2 y1 y2)
theorem rL1_le {u : StA} {j e e' : Nat} (h : rL1 u j e) (he : e' ≤ e) : rL1 u j e' := fun z si pa q1 q2 y1 y2 => Nat.le_trans he (h z si pa q1 q2 y1 y2)
theorem nx_loans {N : Nat} {nh ng nk nl t : Nat} {u : StA} {v : StB} (h0 : r0 u v nh ng nk nl t) (hT : rT u nk nl (t + 1)) (x1 : Int32) : ∀ (n i b : Nat), i ≤ nl → nl - i < n → t < b → b ≤ 99999 → (∀ j, j < nk → rA1 u j b) → (∀ j, j < i → rL1 u j b) → ∃ e, f_A_nextEvent_47 N n u x1 (nI b) (nI i) = some (nI e) ∧ t < e ∧ e ≤ b ∧ rT u nk nl e := by
  obtain ⟨hC, hE, hS, hV, hQ, hO, hX, hL, hG, hK⟩ := id h0
  obtain ⟨c1, c2, c3, c4, c5, c6, c7, c8, c9, c10, c11, c12, c13, c14, c15, c16, c17⟩ := hC
  intro n
  induction n with
  | zero => intro i b h1 h2; omega
  | succ n ih =>
    intro i b h1 h2 hb hb2 hA hB
    rw [f_A_nextEvent_47, c10]
    by_cases hi : i < nl
    · obtain ⟨h, a, hh, ha, q1, q2⟩ := hL.1 i hi
      obtain ⟨to, hto, q3⟩ := hG a ha
      rw [if_neg (lp_in hi (by omega))]
      unfold f_Lo_isLent
      simp only [gI_n (show i < 100 by omega) (show 100 < 2147483648 by omega), nI_clamp (show i < 2 ^ 31 by omega), q2, nI_clamp (show a < 2 ^ 31 by omega), gI_n (show a < 30 by omega) (show 30 < 2147483648 by omega), q3, min_n (show b < 2 ^ 31 by omega) (show to < 2 ^ 31 by omega)]
      rw [nI_1]
      by_cases g : u.2.1 24 i = -1
      · have := hT.2 i hi g a to (by omega) hto q2 q3
        rw [if_pos g, Option.bind_some, if_neg (by decide)]
        obtain ⟨e, w1, w2, w3, w4⟩ := ih (i + 1) (min b to) (by omega) (by omega) (by omega) (by omega) (fun j hj => rA1_le (hA j hj) (by omega)) (fun j hj => by
          by_cases z : j = i
          · subst z
            intro _ a' to' ha' hto' y1 y2
            rw [q2, nI_eq (by omega) (by omega)] at y1
            subst y1
            rw [q3, nI_eq (by omega) (by omega)] at y2
            omega
          · exact rL1_le (hB j (by omega)) (by omega))
        exact ⟨e, w1, w2, by omega, w4⟩
      · rw [if_neg g, Option.bind_some, if_pos rfl]
        exact ih (i + 1) b (by omega) (by omega) hb hb2 hA (fun j hj => by
          by_cases z : j = i
          · subst z
            intro y; exact absurd y g
          · exact hB j (by omega))
    · rw [if_pos (lp_out (by omega) (by omega))]
      exact ⟨b, rfl, hb, by omega, hA, fun j hj => hB j (by omega)⟩
theorem nx_asks {N : Nat} (hN : 200 ≤ N) {nh ng nk nl t : Nat} {u : StA} {v : StB} (h0 : r0 u v nh ng nk nl t) (hT : rT u nk nl (t + 1)) (x1 : Int32) : ∀ (n i b : Nat), i ≤ nk → nk - i < n → t < b → b ≤ 99999 → (∀ j, j < i → rA1 u j b) → ∃ e, f_A_nextEvent_4 N n u x1 (nI b) (nI i) = some (nI e) ∧ t < e ∧ e ≤ b ∧ rT u nk nl e := by
  obtain ⟨hC, hE, hS, hV, hQ, hO, hX, hL, hG, hK⟩ := id h0
  obtain ⟨c1, c2, c3, c4, c5, c6, c7, c8, c9, c10, c11, c12, c13, c14, c15, c16, c17⟩ := hC
  intro n
  induction n with
  | zero => intro i b h1 h2; omega
  | succ n ih =>
    intro i b h1 h2 hb hb2 hA
    rw [f_A_nextEvent_4, c7]
    by_cases hi : i < nk
    · obtain ⟨si, pa, gq, uq, k1, k2, k3, k4, k5, k6, k7, k8, k9, k10⟩ := hK.1 i hi
      rw [if_neg (lp_in hi (by omega))]
      unfold f_As_isOpen f_As_patienceEnd
      simp only [gI_n (show i < 30 by omega) (show 30 < 2147483648 by omega), nI_clamp (show i < 2 ^ 31 by omega), k6, k7, nI_add, nI_1]
      by_cases g : u.2.1 13 i = 0
      · have := hT.1 i hi g si pa (by omega) k3 k6 k7
        rw [if_pos g, Option.bind_some, if_neg (by decide), Option.bind_some, min_n (by omega) (by omega)]
        obtain ⟨e, w1, w2, w3, w4⟩ := ih (i + 1) (min b (si + pa)) (by omega) (by omega) (by omega) (by omega) (fun j hj => by
          by_cases z : j = i
          · subst z
            intro _ si' pa' hs hp y1 y2
            rw [k6, nI_eq (by omega) (by omega)] at y1
            rw [k7, nI_eq (by omega) (by omega)] at y2
            omega
          · exact rA1_le (hA j (by omega)) (by omega))
        exact ⟨e, w1, w2, by omega, w4⟩
      · rw [if_neg g, Option.bind_some, if_pos rfl]
        exact ih (i + 1) b (by omega) (by omega) hb hb2 (fun j hj => by
          by_cases z : j = i
          · subst z
            intro y; exact absurd y g
          · exact hA j (by omega))
    · rw [if_pos (lp_out (by omega) (by omega))]
      exact nx_loans h0 hT x1 N 0 b (by omega) (by omega) hb hb2 (fun j hj => hA j (by omega)) (fun j hj => by omega)
theorem tk_main {N : Nat} (hN : 200 ≤ N) {nh ng nk nl A t0 : Nat} (hA : A ≤ 2000) (ht : t0 + A ≤ 99999) : ∀ (m nA nB t s : Nat) (u : StA) (v : StB) (x2 : Int32), r0 u v nh ng nk nl t → rT u nk nl (t + 1) → t0 ≤ t → t ≤ t0 + A → s ≤ t - t0 → t0 + A - t ≤ m → m < nA → t0 + A - t < nB → ∃ r u1 v1, f_A_tick_44 N nA u (nI A) (nI (t0 + A)) x2 (nI s) = some ((0, r), u1) ∧ f_B_tick_44 N nB v (nI A) x2 (nI (t - t0)) = some (r, v1) ∧ v1.1 0 = v.1 0 ∧ Rel u1 v1 := by
  intro m
  induction m with
  | zero =>
    intro nA nB t s u v x2 h0 hT h1 h2 h3 h4 h5 h6
    have c13 : u.1 0 = nI t := by
      obtain ⟨⟨c1, c2, c3, c4, c5, c6, c7, c8, c9, c10, c11, c12, c13, c14⟩, -⟩ := h0
      exact c13
    obtain ⟨nA, rfl⟩ : ∃ n, nA = n + 1 := ⟨nA - 1, by omega⟩
    obtain ⟨nB, rfl⟩ : ∃ n, nB = n + 1 := ⟨nB - 1, by omega⟩
    refine ⟨x2, u, v, ?_, ?_, rfl, nh, ng, nk, nl, t, h0, hT⟩
    · rw [f_A_tick_44, c13, if_pos (nI_le (show t0 + A ≤ t by omega) (by omega))]
      split <;> rfl
    · rw [f_B_tick_44, if_pos (nI_le (by omega) (by omega))]
  | succ m ih =>
    intro nA nB t s u v x2 h0 hT h1 h2 h3 h4 h5 h6
    have c13 : u.1 0 = nI t := by
      obtain ⟨⟨c1, c2, c3, c4, c5, c6, c7, c8, c9, c10, c11, c12, c13, c14⟩, -⟩ := h0
      exact c13
    by_cases hend : t = t0 + A
    · obtain ⟨nA, rfl⟩ : ∃ n, nA = n + 1 := ⟨nA - 1, by omega⟩
      obtain ⟨nB, rfl⟩ : ∃ n, nB = n + 1 := ⟨nB - 1, by omega⟩
      refine ⟨x2, u, v, ?_, ?_, rfl, nh, ng, nk, nl, t, h0, hT⟩
      · rw [f_A_tick_44, c13, if_pos (nI_le (show t0 + A ≤ t by omega) (by omega))]
        split <;> rfl
      · rw [f_B_tick_44, if_pos (nI_le (by omega) (by omega))]
    · obtain ⟨nA, rfl⟩ : ∃ n, nA = n + 1 := ⟨nA - 1, by omega⟩
      have hnk : nk ≤ 30 := by
        obtain ⟨⟨c1, c2, c3, c4, c5, c6, c7, c8, c9, c10⟩, -⟩ := h0
        exact c9
      obtain ⟨e, w1, w2, w3, w4⟩ := nx_asks (N := N) hN h0 hT (nI (t0 + A)) N 0 (t0 + A) (by omega) (by omega) (by omega) (by omega) (fun j hj => by omega)
      have w1 : f_A_nextEvent N u (nI (t0 + A)) = some (nI e) := w1
      obtain ⟨v1, q1, q2, q3⟩ := tk_run (N := N) hN (show e ≤ 99999 by omega) hA x2 (e - 1 - t) (nB - (e - t) + 1) u v t (t - t0) h0 w4 (by omega) (by omega)
      have he1 : t + (e - 1 - t) + 1 = e := by omega
      have c14 : v1.1 1 = nI (t + (e - 1 - t)) := by
        obtain ⟨⟨c1, c2, c3, c4, c5, c6, c7, c8, c9, c10, c11, c12, c13, c14, c15⟩, -⟩ := q2
        exact c14
      have h1' := clock_rel q2 (show t + (e - 1 - t) ≤ e by omega) (by omega)
      rw [sF_sF] at h1'
      obtain ⟨c, u1, u2, v2, p1, p2, p3, p4, p5, p6⟩ := tk_minute hN h1' (f_B_tick_44 N (nB - (e - t))) (nI A) x2 (nI (t - t0 + (e - 1 - t)))
      obtain ⟨r, u3, v3, z1, z2, z3, z4⟩ := ih nA (nB - (e - t)) e (s + 1) u2 v2 (x2 + c) p4 p5 (by omega) (by omega) (by omega) (by omega) (by omega) (by omega)
      refine ⟨r, u3, v3, ?_, ?_, ?_, z4⟩
      · rw [f_A_tick_44, if_neg (nI_ge (by omega) (by omega)), c13, if_neg (nI_ge (by omega) (by omega)), w1, Option.bind_some, p1, Option.bind_some, p2, Option.bind_some, nI_1]
        exact z1
      · rw [show nB = nB - (e - t) + 1 + (e - 1 - t) by omega, q1, f_B_tick_44, if_neg (nI_ge (by omega) (by omega)), c14, nI_1, he1, p3, nI_1]
        rw [show t - t0 + (e - 1 - t) + 1 = e - t0 by omega]
        exact z2
      · rw [z3, p6, ← q3]; rfl
theorem sim_tick {N : Nat} (hN : 2100 ≤ N) : Sim_tick N Rel := by
  intro u v a1 hRel
  obtain ⟨nh, ng, nk, nl, t, h0, hT⟩ := id hRel
  have hC := h0.1
  obtain ⟨c1, c2, c3, c4, c5, c6, c7, c8, c9, c10, c11, c12, c13, c14, c15, c16, c17⟩ := hC
  have hb : f_B_tick_29 N v a1 2 1 = some (0, bF v 0 1) := by
    unfold f_B_tick_29 f_B_tick_30
    rw [goes_2_2 (by omega) _ _ _ _ _ (by decide) rfl, bind_0]
  rcases in_lit a1 (lo := 1) (hi := 2000) (by omega) (by omega) with g | ⟨g, A, hA1, hA2, rfl⟩
  · have g : f_B_in a1 1 2000 = 0 := g
    refine ⟨2, 0, u, 0, bF v 0 1, ?_, by simp, ?_, rfl, by simp, rel_th hRel 1⟩
    · unfold f_A_tick; rw [wi_in, if_pos g]
    · unfold f_B_tick; rw [if_pos g]; exact hb
  · have g : f_B_in (nI A) 1 2000 = 1 := g
    by_cases g2 : t + A ≤ 99999
    · obtain ⟨r, u1, v1, q1, q2, q3, q4⟩ := tk_main (N := N) (by omega) hA2 g2 A N N t 0 u (bF v 0 0) 0 h0 hT (by omega) (by omega) (by omega) (by omega) (by omega) (by omega)
      refine ⟨0, r, u1, r, v1, ?_, by simp, ?_, q3, fun _ => rfl, q4⟩
      · unfold f_A_tick
        rw [wi_in, if_neg (lit_ne1 g), c13, nI_add, if_pos (show nI (t + A) ≤ (99999 : Int32) from nI_le (b := 99999) g2 (by omega))]
        exact q1
      · unfold f_B_tick f_B_tick_30
        have hlt : ¬ (99999 : Int32) - nI t < nI A := by
          rw [show (99999 : Int32) = nI 99999 from rfl, pk_sub (by omega)]
          exact nI_nlt (by omega) (by omega)
        rw [if_neg (lit_ne1 g), c14, if_neg hlt, goes_ok (by omega) _ _ _ _ _ _ (by decide) (by decide) (by decide) (by decide), bind_1]
        rw [Nat.sub_self] at q2
        exact q2
    · refine ⟨2, 0, u, 0, bF v 0 1, ?_, by simp, ?_, rfl, by simp, rel_th hRel 1⟩
      · unfold f_A_tick
        rw [wi_in, if_neg (lit_ne1 g), c13, nI_add, if_neg (show ¬ nI (t + A) ≤ (99999 : Int32) from nI_ge (a := 99999) (by omega) (by omega))]
      · unfold f_B_tick
        have hlt : (99999 : Int32) - nI t < nI A := by
          rw [show (99999 : Int32) = nI 99999 from rfl, pk_sub (by omega)]
          exact nI_lt (by omega) (by omega)
        rw [if_neg (lit_ne1 g), c14, if_pos hlt]
        exact hb
