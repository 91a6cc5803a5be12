theorem i32_99999 : (99999 : Int32).toInt = 99999 := by decide
theorem i32_0 : (0 : Int32).toInt = 0 := by decide
theorem ag_span (a3 a4 : Int32) : (f_A_isSpan a3 a4 = 0 ∧ (f_B_in a3 0 99999 = 0 ∨ f_B_in a4 0 99999 = 0 ∨ a4 ≤ a3)) ∨ (f_A_isSpan a3 a4 = 1 ∧ f_B_in a3 0 99999 = 1 ∧ f_B_in a4 0 99999 = 1 ∧ ¬ a4 ≤ a3) := by
  unfold f_A_isSpan f_B_in
  have k1 := i32_99999
  have k2 := i32_0
  by_cases h1 : a3 < 0
  · left; simp [h1]
  · by_cases h2 : a4 ≤ a3
    · left; simp [h1, h2]
    · by_cases h3 : (99999 : Int32) < a4
      · left; simp [h1, h2, h3]
      · right
        have h4 : ¬ (99999 : Int32) < a3 := by
          simp only [Int32.lt_iff_toInt_lt, Int32.le_iff_toInt_le] at *
          omega
        have h5 : ¬ a4 < 0 := by
          simp only [Int32.lt_iff_toInt_lt, Int32.le_iff_toInt_le] at *
          omega
        simp [h1, h2, h3, h4, h5]
theorem ag_hours (a5 : Int32) : (f_A_isHours a5 = 0 ∧ (a5 < 0 ∨ f_B_in (a5 / 100) 0 23 = 0 ∨ f_B_in (a5 - a5 / 100 * 100) 0 23 = 0)) ∨ (f_A_isHours a5 = 1 ∧ ¬ a5 < 0 ∧ f_B_in (a5 / 100) 0 23 = 1 ∧ f_B_in (a5 - a5 / 100 * 100) 0 23 = 1) := by
  unfold f_A_isHours f_B_in
  by_cases h1 : a5 < 0
  · left; simp [h1]
  · obtain ⟨j, hj, rfl⟩ := nI_of h1
    rw [show (100 : Int32) = nI 100 from rfl, pk_rem (by omega) (by omega) (by omega), pk_div (by omega) (by omega) (by omega)]
    have key : ∀ q : Nat, q < 2 ^ 31 → ((24 : Int32) ≤ nI q ↔ (23 : Int32) < nI q) ∧ ¬ nI q < 0 := fun q hq => by
      refine ⟨?_, nI_nlt0 (by omega)⟩
      rw [show (24 : Int32) = nI 24 from rfl, show (23 : Int32) = nI 23 from rfl, nI_leI (by omega) (by omega), nI_ltI (by omega) (by omega)]
      omega
    obtain ⟨p1, p2⟩ := key (j / 100) (by omega)
    obtain ⟨p3, p4⟩ := key (j % 100) (by omega)
    simp only [p1, p3]
    by_cases g1 : (23 : Int32) < nI (j / 100)
    · left; simp [h1, g1, p2]
    · by_cases g2 : (23 : Int32) < nI (j % 100)
      · left; simp [h1, g1, g2, p2, p4]
      · right; simp [h1, g1, g2, p2, p4]
theorem ag_small (N : Nat) (v : StB) (a1 a2 a3 a4 a5 a6 y0 : Int32) : f_B_agree_23 N v a1 a2 a3 a4 a5 a6 y0 = f_B_agree_109 N N v a1 a2 a3 a4 a5 a6 y0 (if f_A_isSpan a3 a4 = 0 then 0 else if f_A_isHours a5 = 0 then 0 else if f_B_in a6 1 20 = 0 then 0 else 1) 1 0 := by
  unfold f_B_agree_23
  rcases ag_span a3 a4 with ⟨s1, s2⟩ | ⟨s1, s2, s3, s4⟩
  · rw [if_pos s1]
    rcases s2 with s2 | s2 | s2
    · rw [if_pos s2]
    · by_cases g : f_B_in a3 0 99999 = 0
      · rw [if_pos g]
      · rw [if_neg g, if_pos s2]
    · by_cases g : f_B_in a3 0 99999 = 0
      · rw [if_pos g]
      · by_cases g2 : f_B_in a4 0 99999 = 0
        · rw [if_neg g, if_pos g2]
        · rw [if_neg g, if_neg g2, if_pos s2]
  · rw [if_neg (lit_ne1 s1), if_neg (lit_ne1 s2), if_neg (lit_ne1 s3), if_neg s4]
    rcases ag_hours a5 with ⟨t1, t2⟩ | ⟨t1, t2, t3, t4⟩
    · rw [if_pos t1]
      rcases t2 with t2 | t2 | t2
      · rw [if_pos t2]
      · by_cases g : a5 < 0
        · rw [if_pos g]
        · rw [if_neg g, if_pos t2]
      · by_cases g : a5 < 0
        · rw [if_pos g]
        · by_cases g2 : f_B_in (a5 / 100) 0 23 = 0
          · rw [if_neg g, if_pos g2]
          · rw [if_neg g, if_neg g2, if_pos t2]
    · rw [if_neg (lit_ne1 t1), if_neg t2, if_neg (lit_ne1 t3), if_neg (lit_ne1 t4)]
      by_cases g : f_B_in a6 1 20 = 0
      · rw [if_pos g, if_pos g]
      · rw [if_neg g, if_neg g]
theorem ag_loop {N : Nat} {u : StA} {v : StB} {ng : Nat} (c4 : u.1 4 = nI ng) (c5 : v.1 3 = nI ng) (hng : ng ≤ 30) (e4 : u.2.1 4 = v.2 3) (e5 : u.2.1 5 = v.2 4) (e6 : u.2.1 6 = v.2 5) (e7 : u.2.1 7 = v.2 6) (a1 a2 a3 a4 a5 a6 x7 x8 : Int32) : ∀ (n i : Nat) (x9 : Int32), i ≤ ng → ng - i < n → ∃ w, f_Ag_meetAny_3 N n u a1 a2 a3 a4 (nI i) = some w ∧ (w = 0 ∨ w = 1) ∧ f_B_agree_109 N n v a1 a2 a3 a4 a5 a6 x7 x8 x9 (nI i) = (if (30 : Int32) ≤ nI ng then f_B_agree_195 N v a1 a2 a3 a4 a5 a6 x7 x8 (if w = 0 then x9 else 0) (nI ng) 15 x7 x8 (if w = 0 then x9 else 0) 0 else f_B_agree_195 N v a1 a2 a3 a4 a5 a6 x7 x8 (if w = 0 then x9 else 0) (nI ng) 15 x7 x8 (if w = 0 then x9 else 0) 1) := by
  intro n
  induction n with
  | zero => intro i _ h1 h2; omega
  | succ n ih =>
    intro i x9 h1 h2
    rw [f_Ag_meetAny_3, f_B_agree_109, c4, c5]
    by_cases hi : i < ng
    · rw [if_neg (lp_in hi (by omega)), if_neg (lp_in hi (by omega)), gI_n (by omega) (by omega), gI_n (by omega) (by omega), nI_clamp (by omega), nI_1, ← e4, ← e5, ← e6, ← e7]
      by_cases g1 : u.2.1 4 i = a1
      · by_cases g2 : u.2.1 5 i = a2
        · rw [if_pos g1, if_pos g1, if_pos g2, if_pos g2]
          by_cases g3 : a4 ≤ u.2.1 6 i
          · rw [if_pos g3]
            obtain ⟨w, q1, q2, q3⟩ := ih (i + 1) x9 (by omega) (by omega)
            refine ⟨w, q1, q2, ?_⟩
            by_cases g4 : u.2.1 7 i ≤ a3
            · rw [if_pos g4]; exact q3
            · rw [if_neg g4, if_pos g3]; exact q3
          · rw [if_neg g3]
            by_cases g4 : u.2.1 7 i ≤ a3
            · rw [if_pos g4, if_pos g4]
              exact ih (i + 1) x9 (by omega) (by omega)
            · rw [if_neg g4, if_neg g4, if_neg g3]
              obtain ⟨w, q1, q2, q3⟩ := ih (i + 1) 0 (by omega) (by omega)
              refine ⟨1, rfl, Or.inr rfl, ?_⟩
              rw [q3, if_neg (show ¬ (1 : Int32) = 0 by decide)]
              rcases q2 with rfl | rfl
              · rw [if_pos rfl]
              · rw [if_neg (show ¬ (1 : Int32) = 0 by decide)]
        · rw [if_pos g1, if_pos g1, if_neg g2, if_neg g2]
          exact ih (i + 1) x9 (by omega) (by omega)
      · rw [if_neg g1, if_neg g1]
        exact ih (i + 1) x9 (by omega) (by omega)
    · have hin : i = ng := by omega
      subst hin
      rw [if_pos (lp_out (by omega) (by omega)), if_pos (lp_out (by omega) (by omega))]
      exact ⟨0, rfl, Or.inl rfl, rfl⟩
set_option maxHeartbeats 1000000 in
theorem sim_agree {N : Nat} (hN : 200 ≤ N) : Sim_agree N Rel := by
  intro u v a1 a2 a3 a4 a5 a6 hRel
  obtain ⟨nh, ng, nk, nl, t, h0, hT⟩ := id hRel
  obtain ⟨hC, hE, hS, hV, hQ, hO, hX, hL, hG, hK⟩ := h0
  obtain ⟨c1, c2, c3, c4, c5, c6, c7, c8, c9, c10, c11, c12, c13, c14, c15, c16, c17⟩ := hC
  obtain ⟨e1, e2, e3, e4, e5, e6, e7, e8, e9, e10, e11, e12, e13, e14, e15, e16, e17, e18, e19, e20, e21, e22⟩ := hE
  obtain ⟨i1, i2⟩ := isH c1 c2 c3 a1
  have lp := fun x7 x8 : Int32 => ag_loop (N := N) (u := u) (v := v) c4 c5 c6 e4 e5 e6 e7 a1 a2 a3 a4 a5 a6 x7 x8 N 0 1 (by omega) (by omega)
  have hB1 : f_B_agree_22 N v a1 a2 a3 a4 a5 a6 = some (0, bF v 0 1) := by
    unfold f_B_agree_22
    rw [ag_small]
    obtain ⟨w, q1, q2, q3⟩ := lp 0 (if f_A_isSpan a3 a4 = 0 then 0 else if f_A_isHours a5 = 0 then 0 else if f_B_in a6 1 20 = 0 then 0 else 1)
    rw [show f_B_agree_109 N N v a1 a2 a3 a4 a5 a6 0 _ 1 0 = f_B_agree_109 N N v a1 a2 a3 a4 a5 a6 0 _ 1 (nI 0) from rfl, q3]
    unfold f_B_agree_195
    split <;> rw [goes_15_1 (by omega) _ _ _ _ _ rfl, bind_0]
  have ex1 : f_A_agree N u a1 a2 a3 a4 a5 a6 = some ((1, 0), u) → f_B_agree N v a1 a2 a3 a4 a5 a6 = f_B_agree_22 N v a1 a2 a3 a4 a5 a6 → ∃ (cd : Nat) (r : Int32) (u1 : StA) (b1 : Int32) (v1 : StB), f_A_agree N u a1 a2 a3 a4 a5 a6 = some ((cd, r), u1) ∧ (cd = 0 ∨ cd = 1 ∨ cd = 2 ∨ cd = 3 ∨ cd = 4) ∧ f_B_agree N v a1 a2 a3 a4 a5 a6 = some (b1, v1) ∧ v1.1 0 = kL_agree cd ∧ (cd = 0 → r = b1) ∧ Rel u1 v1 := fun hA hB =>
    ⟨1, 0, u, 0, bF v 0 1, hA, by simp, hB.trans hB1, rfl, by simp, rel_th hRel 1⟩
  rcases i2 with i2 | ⟨i2, h, hh, rfl⟩
  · refine ex1 ?_ ?_
    · unfold f_A_agree; rw [i1, if_pos i2]
    · unfold f_B_agree; rw [if_pos i2]
  · by_cases g2 : f_B_in a2 0 9 = 0
    · refine ex1 ?_ ?_
      · unfold f_A_agree; rw [i1, if_neg (lit_ne1 i2), wi_in, if_pos g2]
      · unfold f_B_agree; rw [if_neg (lit_ne1 i2), if_pos g2]
    · clear ex1 hB1
      have hA0 : f_A_agree N u (nI h) a2 a3 a4 a5 a6 = (if (f_A_isSpan a3 a4) = (0 : Int32) then some ((2, 0), u)
      else if (f_A_isHours a5) = (0 : Int32) then some ((2, 0), u)
        else if (f_B_in a6 (1 : Int32) (20 : Int32)) = (0 : Int32) then some ((2, 0), u)
          else (f_Ag_meetAny N u (nI h) a2 a3 a4).bind fun q1 =>
            if q1 = (0 : Int32) then if (f_Ag_isFull u) = (0 : Int32) then (f_Ag_add u (nI h) a2 a3 a4 a5 a6).bind fun q2 =>
                some ((0, q2.1), q2.2)
              else some ((4, 0), u)
            else some ((3, 0), u)) := by
        unfold f_A_agree; rw [i1, if_neg (lit_ne1 i2), wi_in, if_neg g2, wi_in]
      have hB0 : f_B_agree N v (nI h) a2 a3 a4 a5 a6 = f_B_agree_23 N v (nI h) a2 a3 a4 a5 a6 1 := by
        unfold f_B_agree; rw [if_neg (lit_ne1 i2), if_neg g2]
      have bad : (if f_A_isSpan a3 a4 = 0 then (0 : Int32) else if f_A_isHours a5 = 0 then 0 else if f_B_in a6 1 20 = 0 then 0 else 1) = 0 → f_A_agree N u (nI h) a2 a3 a4 a5 a6 = some ((2, 0), u) → ∃ (cd : Nat) (r : Int32) (u1 : StA) (b1 : Int32) (v1 : StB), f_A_agree N u (nI h) a2 a3 a4 a5 a6 = some ((cd, r), u1) ∧ (cd = 0 ∨ cd = 1 ∨ cd = 2 ∨ cd = 3 ∨ cd = 4) ∧ f_B_agree N v (nI h) a2 a3 a4 a5 a6 = some (b1, v1) ∧ v1.1 0 = kL_agree cd ∧ (cd = 0 → r = b1) ∧ Rel u1 v1 := fun hs hA => by
        refine ⟨2, 0, u, 0, bF v 0 2, hA, by simp, ?_, rfl, by simp, rel_th hRel 2⟩
        rw [hB0, ag_small, hs]
        obtain ⟨w, q1, q2, q3⟩ := lp 1 0
        rw [show f_B_agree_109 N N v (nI h) a2 a3 a4 a5 a6 1 0 1 0 = f_B_agree_109 N N v (nI h) a2 a3 a4 a5 a6 1 0 1 (nI 0) from rfl, q3]
        unfold f_B_agree_195
        split <;> rw [goes_15_2 (by omega) _ _ _ _ _ (by decide) rfl, bind_0]
      by_cases g3 : f_A_isSpan a3 a4 = 0
      · exact bad (by rw [if_pos g3]) (by rw [hA0, if_pos g3])
      · by_cases g4 : f_A_isHours a5 = 0
        · exact bad (by rw [if_neg g3, if_pos g4]) (by rw [hA0, if_neg g3, if_pos g4])
        · by_cases g5 : f_B_in a6 1 20 = 0
          · exact bad (by rw [if_neg g3, if_neg g4, if_pos g5]) (by rw [hA0, if_neg g3, if_neg g4, if_pos g5])
          · clear bad
            rw [if_neg g3, if_neg g4, if_neg g5] at hA0
            obtain ⟨w, q1, q2, q3⟩ := lp 1 1
            have hB3 : f_B_agree N v (nI h) a2 a3 a4 a5 a6 = f_B_agree_109 N N v (nI h) a2 a3 a4 a5 a6 1 1 1 (nI 0) := by
              rw [hB0, ag_small, if_neg g3, if_neg g4, if_neg g5]
              rfl
            have hB2 := hB3.trans q3
            have q1 : f_Ag_meetAny N u (nI h) a2 a3 a4 = some w := q1
            rw [q1, Option.bind_some] at hA0
            rcases q2 with rfl | rfl
            · simp only [if_true] at hA0 hB2
              by_cases g6 : ng < 30
              · have f1 : f_Ag_isFull u = 0 := by
                  unfold f_Ag_isFull; rw [c4, if_pos (show nI ng < (30 : Int32) from nI_lt (b := 30) g6 (by omega))]
                have f2 : f_A_agree N u (nI h) a2 a3 a4 a5 a6 = some ((0, nI ng), sF (sA (sA (sA (sA (sA (sA u 4 ng (nI h)) 5 ng a2) 6 ng a3) 7 ng a4) 8 ng a5) 9 ng a6) 4 (nI ng + 1)) := by
                  rw [hA0, if_pos f1]
                  unfold f_Ag_add
                  rw [c4, gI_n g6 (by omega), nI_clamp (by omega)]
                  rfl
                have f3 : f_B_agree N v (nI h) a2 a3 a4 a5 a6 = some (nI ng, bF (bA (bA (bA (bA (bA (bA (bA (bF v 0 0) 3 ng (nI h)) 4 ng a2) 5 ng a3) 6 ng a4) 7 ng (a5 / 100)) 8 ng (a5 - a5 / 100 * 100)) 9 ng a6) 3 (nI ng + 1)) := by
                  rw [hB2, if_neg (show ¬ (30 : Int32) ≤ nI ng from nI_ge (b := 30) g6 (by omega))]
                  unfold f_B_agree_195
                  rw [goes_ok (by omega) _ _ _ _ _ _ (by decide) (by decide) (by decide) (by decide), bind_1]
                  have cb : (bF v 0 0).1 3 = nI ng := c5
                  simp only [cb]
                  rw [gI_n g6 (by omega), nI_clamp (by omega), nI_sub1]
                have hto : ∃ to, to ≤ 99999 ∧ a4 = nI to := by
                  rcases ag_span a3 a4 with ⟨s1, -⟩ | ⟨-, -, s3, -⟩
                  · exact absurd s1 g3
                  · rcases in_lit a4 (lo := 0) (hi := 99999) (by omega) (by omega) with z | ⟨-, j, -, hj, z⟩
                    · rw [show f_B_in a4 (nI 0) (nI 99999) = f_B_in a4 0 99999 from rfl, s3] at z
                      exact absurd z (by decide)
                    · exact ⟨j, hj, z⟩
                refine ⟨0, nI ng, _, nI ng, _, f2, by simp, f3, rfl, fun _ => rfl, nh, ng + 1, nk, nl, t, ⟨⟨c1, c2, c3, nI_1 ng, nI_1 ng, by omega, c7, c8, c9, c10, c11, c12, c13, c14, c15, c16, c17⟩, ⟨e1, e2, e3, ?_, ?_, ?_, ?_, ?_, e9, e10, e11, e12, e13, e14, e15, e16, e17, e18, e19, e20, e21, e22⟩, fun j => ?_, hV, hQ, hO, hX, ⟨fun j hj => ?_, hL.2⟩, fun j hj => ?_, hK⟩, hT.1, fun j hj hl a to ha hto z1 z2 => ?_⟩
                · show upd (u.2.1 4) ng _ = upd (v.2 3) ng _
                  rw [e4]
                · show upd (u.2.1 5) ng _ = upd (v.2 4) ng _
                  rw [e5]
                · show upd (u.2.1 6) ng _ = upd (v.2 5) ng _
                  rw [e6]
                · show upd (u.2.1 7) ng _ = upd (v.2 6) ng _
                  rw [e7]
                · show upd (u.2.1 9) ng _ = upd (v.2 9) ng _
                  rw [e8]
                · show upd (u.2.1 8) ng a5 j / 100 = upd (v.2 7) ng (a5 / 100) j ∧ upd (u.2.1 8) ng a5 j - upd (u.2.1 8) ng a5 j / 100 * 100 = upd (v.2 8) ng (a5 - a5 / 100 * 100) j
                  by_cases z : j = ng
                  · subst z; rw [upd_s, upd_s, upd_s]; exact ⟨rfl, rfl⟩
                  · rw [upd_n z, upd_n z, upd_n z]; exact hS j
                · obtain ⟨h', a, p1, p2, p3⟩ := hL.1 j hj
                  exact ⟨h', a, p1, by omega, p3⟩
                · show ∃ to, to ≤ 99999 ∧ upd (u.2.1 7) ng a4 j = nI to
                  by_cases z : j = ng
                  · subst z; rw [upd_s]; exact hto
                  · rw [upd_n z]; exact hG j (by omega)
                · have z2 : upd (u.2.1 7) ng a4 a = nI to := z2
                  obtain ⟨h', a', p1, p2, p3, p4⟩ := hL.1 j hj
                  have z1 : u.2.1 22 j = nI a := z1
                  rw [p4, nI_eq (by omega) (by omega)] at z1
                  rw [upd_n (by omega)] at z2
                  exact hT.2 j hj hl a to ha hto (by rw [p4, z1]) z2
              · have f1 : ¬ f_Ag_isFull u = 0 := by
                  unfold f_Ag_isFull; rw [c4, if_neg (show ¬ nI ng < (30 : Int32) from nI_nlt (b := 30) (by omega) (by omega))]; decide
                rw [if_neg f1] at hA0
                refine ⟨4, 0, u, 0, bF v 0 4, hA0, by simp, ?_, rfl, by simp, rel_th hRel 4⟩
                rw [hB2, if_pos (show (30 : Int32) ≤ nI ng from nI_le (a := 30) (by omega) (by omega))]
                unfold f_B_agree_195
                rw [goes_15_8 (by omega) _ _ _ _ _ (by decide) (by decide) (by decide) rfl, bind_0]
            · rw [if_neg (by decide)] at hA0
              simp only [if_neg (show ¬ (1 : Int32) = 0 by decide)] at hB2
              refine ⟨3, 0, u, 0, bF v 0 3, hA0, by simp, ?_, rfl, by simp, rel_th hRel 3⟩
              rw [hB2]
              unfold f_B_agree_195
              split <;> rw [goes_15_4 (by omega) _ _ _ _ _ (by decide) (by decide) rfl, bind_0]
