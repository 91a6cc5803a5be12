/-- not known -/
theorem ms_unknown {N : Nat} (hN : 200 ≤ N) (v : StB) (x1 x2 x3 x4 x5 : Int32) : f_B_message_26 N v x1 x2 x3 x4 x5 = some (0, bF v 0 1) := by
  have key : ∀ y, f_B_message_73 N v x1 x2 x3 x4 x5 0 y = some (0, bF v 0 1) := fun y => by
    unfold f_B_message_73 f_B_message_93 f_B_message_94 f_B_message_125 f_B_message_126 f_B_message_154 f_B_message_182 f_B_message_187
    rw [if_pos rfl, if_pos rfl, if_pos rfl, if_pos rfl, if_neg (by decide), goes_11_1 (by omega) _ _ _ _ _ rfl, bind_0]
  unfold f_B_message_26 f_B_message_27 f_B_message_72 f_B_message_68
  rw [key, key]
  split
  · rfl
  · split
    · rfl
    · split
      · rfl
      · split <;> rfl
theorem ms_small {N : Nat} (hN : 200 ≤ N) (v : StB) (x1 x3 x4 x5 : Int32) {h : Nat} (hh : h < 8) : f_B_message_73 N v x1 (nI h) x3 x4 x5 1 0 = some (0, bF v 0 2) := by
  unfold f_B_message_73 f_B_message_93 f_B_message_94 f_B_message_125 f_B_message_126 f_B_message_154 f_B_message_182 f_B_message_187
  rw [if_neg (show ¬ (1 : Int32) = 0 by decide), gI_n (by omega) (by omega), nI_clamp (by omega)]
  by_cases g : v.2 2 h = 0
  · rw [if_pos g, if_neg (show ¬ (1 : Int32) = 0 by decide), if_pos rfl, if_pos rfl, if_neg (show ¬ (1 : Int32) = 0 by decide), if_neg (by decide), goes_11_2 (by omega) _ _ _ _ _ (by decide) rfl, bind_0]
  · rw [if_neg g, if_pos rfl, if_pos rfl, if_pos rfl, if_neg (by decide), goes_11_2 (by omega) _ _ _ _ _ (by decide) rfl, bind_0]
theorem ms_cut {N : Nat} (hN : 200 ≤ N) (v : StB) (x1 x3 x4 x5 : Int32) {h : Nat} (hh : h < 8) (g : ¬ v.2 2 h = 0) : f_B_message_73 N v x1 (nI h) x3 x4 x5 1 1 = some (5, bF (bF v 0 0) 6 (v.1 6 + 1)) := by
  unfold f_B_message_73 f_B_message_93 f_B_message_94 f_B_message_125 f_B_message_126 f_B_message_154 f_B_message_182 f_B_message_187
  rw [if_neg (show ¬ (1 : Int32) = 0 by decide), gI_n (by omega) (by omega), nI_clamp (by omega), if_neg g, if_pos rfl, if_pos rfl, if_pos rfl, if_neg (by decide), goes_ok (by omega) _ _ _ _ _ _ (by decide) (by decide) (by decide) (by decide), bind_1, if_pos rfl]
  unfold f_B_message_211 f_B_message_227 f_B_message_246
  rw [if_neg (by decide), if_pos rfl, if_neg (by decide)]
  rfl
theorem ms_num {h n : Nat} : (1000 : Int32) * nI h + nI n = nI (1000 * h + n) := by
  rw [show (1000 : Int32) = nI 1000 from rfl, pk_mul, nI_add]
theorem ms_seen {N : Nat} (hN : 200 ≤ N) (v : StB) (x1 x4 x5 : Int32) {h n : Nat} (hh : h < 8) (hn : n < 1000) (g : v.2 2 h = 0) (g2 : ¬ v.2 26 (1000 * h + n) = 0) : f_B_message_73 N v x1 (nI h) (nI n) x4 x5 1 1 = some (2, bF (bF v 0 0) 7 (v.1 7 + 1)) := by
  unfold f_B_message_73 f_B_message_93 f_B_message_94 f_B_message_125 f_B_message_126 f_B_message_154 f_B_message_182 f_B_message_187
  rw [if_neg (show ¬ (1 : Int32) = 0 by decide), gI_n (show h < 8 by omega) (by omega), nI_clamp (show h < 2 ^ 31 by omega), if_pos g, if_neg (show ¬ (1 : Int32) = 0 by decide), if_neg (show ¬ (1 : Int32) = 0 by decide), ms_num, gI_n (show 1000 * h + n < 8000 by omega) (by omega), nI_clamp (show 1000 * h + n < 2 ^ 31 by omega), if_neg g2, if_pos rfl, if_neg (show ¬ (1 : Int32) = 0 by decide), if_neg (by decide), goes_ok (by omega) _ _ _ _ _ _ (by decide) (by decide) (by decide) (by decide), bind_1, if_neg (by decide)]
  unfold f_B_message_211 f_B_message_227 f_B_message_246
  rw [if_pos rfl, if_pos rfl, if_neg (by decide)]
  rfl
theorem ms_new {N : Nat} (v : StB) (x1 x4 x5 w : Int32) {h n : Nat} (hh : h < 8) (hn : n < 1000) (g : v.2 2 h = 0) (g2 : v.2 26 (1000 * h + n) = 0) (hw : f_B_what N v x1 (nI h) x4 = some w) : f_B_message_73 N v x1 (nI h) (nI n) x4 x5 1 1 = f_B_message_154 N v x1 (nI h) (nI n) x4 x5 1 1 1 1 w := by
  unfold f_B_message_73 f_B_message_94 f_B_message_126
  rw [if_neg (show ¬ (1 : Int32) = 0 by decide), gI_n (show h < 8 by omega) (by omega), nI_clamp (show h < 2 ^ 31 by omega), if_pos g, if_neg (show ¬ (1 : Int32) = 0 by decide), if_neg (show ¬ (1 : Int32) = 0 by decide), ms_num, gI_n (show 1000 * h + n < 8000 by omega) (by omega), nI_clamp (show 1000 * h + n < 2 ^ 31 by omega), if_pos g2, if_neg (show ¬ (1 : Int32) = 0 by decide), hw, Option.bind_some]
theorem ms_store {N : Nat} (hN : 200 ≤ N) (v : StB) (x1 x4 x5 w : Int32) {h n : Nat} (hh : h < 8) (hn : n < 1000) (w5 : ¬ w = 5) (w2 : ¬ w = 2) : f_B_message_187 N v x1 (nI h) (nI n) x4 x5 1 1 1 1 w 11 1 1 1 1 = f_B_message_246 N (bA (bF v 0 0) 26 (1000 * h + n) w) x1 (nI h) (nI n) x4 x5 1 1 1 1 w := by
  unfold f_B_message_187 f_B_message_211 f_B_message_227
  rw [goes_ok (by omega) _ _ _ _ _ _ (by decide) (by decide) (by decide) (by decide), bind_1, if_neg w5, if_neg w2, if_neg (show ¬ (1 : Int32) = 0 by decide), ms_num, gI_n (show 1000 * h + n < 8000 by omega) (by omega), nI_clamp (show 1000 * h + n < 2 ^ 31 by omega)]
/-- a number is kept, by both -/
theorem keep_rel {u : StA} {v : StB} {nh ng nk nl t : Nat} (h0 : r0 u v nh ng nk nl t) {h n s : Nat} (hh : h < 8) (hn : n < 1000) (hs : s < 16) (hz : nib u.2.2 (1000 * h + n) = 0) : ∃ L, f_Nu_keep u (nI h) (nI n) (nI s) = some (u.1, u.2.1, L) ∧ r0 (u.1, u.2.1, L) (bA (bF v 0 0) 26 (1000 * h + n) (nI s)) nh ng nk nl t := by
  obtain ⟨⟨a, b, L⟩, q1, q2, q3, q4⟩ := nu_keep (u := u) hh hn hs hz
  have q2 : a = u.1 := q2
  have q3 : b = u.2.1 := q3
  subst q2 q3
  obtain ⟨hC, hE, hS, hV, hQ, hO, hX, hL, hG, hK⟩ := id h0
  refine ⟨L, q1, hC, hE, hS, hV, fun k hk => ?_, hO, hX, hL, hG, hK⟩
  show upd (v.2 26) (1000 * h + n) (nI s) k = nI (nib L k)
  have q4 : nib L k = if k = 1000 * h + n then s else nib u.2.2 k := q4 k
  rw [q4]
  by_cases z : k = 1000 * h + n
  · subst z; rw [upd_s, if_pos rfl]
  · rw [upd_n z, if_neg z]; exact hQ k hk
set_option maxHeartbeats 1000000 in
theorem sim_message {N : Nat} (hN : 200 ≤ N) : Sim_message N Rel := by
  intro u v a1 a2 a3 a4 a5 hRel
  obtain ⟨nh, ng, nk, nl, t, h0, hT⟩ := id hRel
  obtain ⟨hC, hE, hS, hV, hQ, hO, hX, hL, hG, hK⟩ := id h0
  obtain ⟨c1, c2, c3, c4, c5, c6, c7, c8, c9, c10, c11, c12, c13, c14, c15, c16, c17⟩ := hC
  obtain ⟨e1, e2, e3, e4, e5, e6, e7, e8, e9, e10, e11, e12, e13, e14, e15, e16, e17, e18, e19, e20, e21, e22⟩ := hE
  obtain ⟨i1, i2⟩ := isK c7 c8 c9 a1
  obtain ⟨j1, j2⟩ := isH c1 c2 c3 a2
  have hnum : ∀ x, f_A_isNumber x = f_B_in x 0 999 := fun x => rfl
  rcases i2 with i2 | ⟨i2, j, hj, rfl⟩
  · refine ⟨1, 0, u, 0, bF v 0 1, ?_, by simp, ?_, rfl, by simp, rel_th hRel 1⟩
    · unfold f_A_message; rw [i1, if_pos i2]
    · unfold f_B_message; rw [if_pos i2]; exact ms_unknown hN ..
  · rcases j2 with j2 | ⟨j2, h, hh, rfl⟩
    · refine ⟨1, 0, u, 0, bF v 0 1, ?_, by simp, ?_, rfl, by simp, rel_th hRel 1⟩
      · unfold f_A_message; rw [i1, if_neg (lit_ne1 i2), j1, if_pos j2]
      · unfold f_B_message; rw [if_neg (lit_ne1 i2), if_pos j2]; exact ms_unknown hN ..
    · have hA0 : f_A_message N u (nI j) (nI h) a3 a4 a5 = (if (f_B_in a3 0 999) = (0 : Int32) then some ((2, 0), u)
      else if (f_B_in a4 (0 : Int32) (20 : Int32)) = (0 : Int32) then some ((2, 0), u)
        else if a4 ≤ (0 : Int32) then f_A_message_77 N u (nI j) (nI h) a3 a4 a5
          else if (f_B_in a5 (0 : Int32) (999 : Int32)) = (0 : Int32) then some ((2, 0), u)
            else f_A_message_77 N u (nI j) (nI h) a3 a4 a5) := by
        unfold f_A_message; rw [i1, if_neg (lit_ne1 i2), j1, if_neg (lit_ne1 j2), hnum, wi_in, wi_in]
      have hB0 : f_B_message N v (nI j) (nI h) a3 a4 a5 = f_B_message_27 N v (nI j) (nI h) a3 a4 a5 1 := by
        unfold f_B_message; rw [if_neg (lit_ne1 i2), if_neg (lit_ne1 j2)]
      have bad : f_A_message N u (nI j) (nI h) a3 a4 a5 = some ((2, 0), u) → f_B_message N v (nI j) (nI h) a3 a4 a5 = f_B_message_72 N v (nI j) (nI h) a3 a4 a5 1 → ∃ (cd : Nat) (r : Int32) (u1 : StA) (b1 : Int32) (v1 : StB), f_A_message N u (nI j) (nI h) a3 a4 a5 = some ((cd, r), u1) ∧ (cd = 0 ∨ cd = 1 ∨ cd = 2 ∨ cd = 4) ∧ f_B_message N v (nI j) (nI h) a3 a4 a5 = some (b1, v1) ∧ v1.1 0 = kL_message cd ∧ (cd = 0 → r = b1) ∧ Rel u1 v1 := fun hA hB => by
        refine ⟨2, 0, u, 0, bF v 0 2, hA, by simp, ?_, rfl, by simp, rel_th hRel 2⟩
        rw [hB]; unfold f_B_message_72; exact ms_small hN _ _ _ _ _ (by omega)
      have good : ∀ n q, n < 1000 → q ≤ 20 → a3 = nI n → a4 = nI q → f_A_message N u (nI j) (nI h) a3 a4 a5 = f_A_message_77 N u (nI j) (nI h) a3 a4 a5 → f_B_message N v (nI j) (nI h) a3 a4 a5 = f_B_message_68 N v (nI j) (nI h) a3 a4 a5 1 → ∃ (cd : Nat) (r : Int32) (u1 : StA) (b1 : Int32) (v1 : StB), f_A_message N u (nI j) (nI h) a3 a4 a5 = some ((cd, r), u1) ∧ (cd = 0 ∨ cd = 1 ∨ cd = 2 ∨ cd = 4) ∧ f_B_message N v (nI j) (nI h) a3 a4 a5 = some (b1, v1) ∧ v1.1 0 = kL_message cd ∧ (cd = 0 → r = b1) ∧ Rel u1 v1 := by
        intro n q hn hq hz3 hz4 hA hB
        rw [hA, hB]
        clear bad hA0 hB0 hA hB
        subst hz3 hz4
        have h8 : h < 8 := by omega
        have hk : 1000 * h + n < 8000 := by omega
        unfold f_B_message_68
        unfold f_A_message_77
        rw [gI_n (show h < 8 by omega) (by omega), nI_clamp (show h < 2 ^ 31 by omega), e3, nu_state h8 hn]
        by_cases g : v.2 2 h = 0
        · rw [if_pos g, Option.bind_some]
          have hs := hQ _ hk
          by_cases g2 : nib u.2.2 (1000 * h + n) = 0
          · have g2' : v.2 26 (1000 * h + n) = 0 := by rw [hs, g2]; rfl
            rw [g2, if_pos (show nI 0 = (0 : Int32) from rfl)]
            obtain ⟨w, w1, w2, w3⟩ := judge_eq hN h0 hj hh hq
            rw [w1, Option.bind_some, ms_new v _ _ _ w h8 hn g g2' w2]
            have other : ∀ wn, wn < 16 → w = nI wn → ¬ w = 1 → ¬ w = 5 → ¬ w = 2 → ∃ (cd : Nat) (r : Int32) (u1 : StA) (b1 : Int32) (v1 : StB), (if w = (1 : Int32) then if nI q ≤ (f_Lo_room u) then f_A_message_163 N u (nI j) (nI h) (nI n) (nI q) a5 w else some ((4, 0), u) else f_A_message_163 N u (nI j) (nI h) (nI n) (nI q) a5 w) = some ((cd, r), u1) ∧ (cd = 0 ∨ cd = 1 ∨ cd = 2 ∨ cd = 4) ∧ f_B_message_154 N v (nI j) (nI h) (nI n) (nI q) a5 1 1 1 1 w = some (b1, v1) ∧ v1.1 0 = kL_message cd ∧ (cd = 0 → r = b1) ∧ Rel u1 v1 := by
              intro wn hwn hw n1 n5 n2
              obtain ⟨L, l1, l2⟩ := keep_rel h0 h8 hn hwn g2
              refine ⟨0, w, (u.1, u.2.1, L), w, bA (bF v 0 0) 26 (1000 * h + n) w, ?_, by simp, ?_, rfl, fun _ => rfl, nh, ng, nk, nl, t, ?_, hT⟩
              · rw [if_neg n1]
                unfold f_A_message_163
                rw [hw, l1, Option.bind_some, ← hw, if_neg n1]
              · unfold f_B_message_154 f_B_message_182
                rw [if_neg n1, ms_store hN v _ _ _ w h8 hn n5 n2]
                unfold f_B_message_246
                rw [if_neg n1]
              · rw [hw]; exact l2
            rcases w3 with rfl | rfl | ⟨rfl, w4, w5⟩
            · exact other 3 (by omega) rfl (by decide) (by decide) (by decide)
            · exact other 4 (by omega) rfl (by decide) (by decide) (by decide)
            · clear other
              rw [if_pos rfl]
              unfold f_Lo_room f_B_message_154 f_B_message_182
              rw [c10, c11, if_pos rfl, nI_add, show (100 : Int32) = nI 100 from rfl, pk_sub c12]
              by_cases g3 : nl + q ≤ 100
              · rw [if_pos (nI_le (show q ≤ 100 - nl by omega) (by omega)), if_neg (nI_nlt (by omega) (by omega)), ms_store hN v _ _ _ 1 h8 hn (by decide) (by decide)]
                obtain ⟨L, l1, l2⟩ := keep_rel (s := 1) h0 h8 hn (by omega) g2
                have l1 : f_Nu_keep u (nI h) (nI n) 1 = some (u.1, u.2.1, L) := l1
                have l2 : r0 (u.1, u.2.1, L) (bA (bF v 0 0) 26 (1000 * h + n) 1) nh ng nk nl t := l2
                obtain ⟨u1, v1, t1, t2, t3, t4⟩ := take_rel (N := N) hN l2 hT hj hh hq g3 a5 w4 (fun hq0 => by
                  obtain ⟨y1, a, ha, y2, y3, y4⟩ := w5 hq0
                  obtain ⟨r, z1, z2, -⟩ := holding_loop (N := N) (u := (u.1, u.2.1, L)) (v := v) c4 c5 c6 c14 e4 e5 e6 e7 hS (nI h) (u.2.1 10 j) N 0 (by omega) (by omega)
                  obtain ⟨r', z1', z2', -⟩ := holding_loop (N := N) (u := (u.1, u.2.1, L)) (v := bA (bF v 0 0) 26 (1000 * h + n) 1) c4 c5 c6 c14 e4 e5 e6 e7 hS (nI h) (u.2.1 10 j) N 0 (by omega) (by omega)
                  have z2 : f_B_holding N v (nI h) (u.2.1 10 j) = some r := z2
                  rw [y3] at z2
                  have z2 : nI a = r := Option.some.inj z2
                  rw [z1] at z1'
                  have z3 : r = r' := Option.some.inj z1'
                  refine ⟨y1, a, ha, ?_, ?_, y4⟩
                  · rw [z2]; exact z1
                  · rw [z2, z3]; exact z2')
                refine ⟨0, 1, u1, 1, v1, ?_, by simp, ?_, t3, fun _ => rfl, t4⟩
                · unfold f_A_message_163
                  rw [l1, Option.bind_some, if_pos rfl, t1, Option.bind_some]
                · unfold f_B_message_246
                  rw [if_pos rfl]
                  by_cases g5 : nI q = 0
                  · rw [if_pos g5] at t2
                    rw [if_pos g5, t2, Option.bind_some]
                  · rw [if_neg g5] at t2
                    rw [if_neg g5, t2, Option.bind_some]
              · rw [if_neg (nI_ge (show 100 - nl < q by omega) (by omega)), if_pos (nI_lt (show 100 < nl + q by omega) (by omega))]
                unfold f_B_message_187
                rw [goes_11_8 (by omega) _ _ _ _ _ (by decide) (by decide) (by decide) rfl, bind_0]
                exact ⟨4, 0, u, 0, bF v 0 3, rfl, by simp, rfl, rfl, by simp, rel_th hRel 3⟩
          · have hlt := nib_lt u.2.2 (1000 * h + n)
            have g2' : ¬ v.2 26 (1000 * h + n) = 0 := by rw [hs]; exact nI_ne0 (by omega) (by omega)
            rw [if_neg (show ¬ nI (nib u.2.2 (1000 * h + n)) = 0 from nI_ne0 (by omega) (by omega)), ms_seen hN v _ _ _ h8 hn g g2']
            refine ⟨0, 2, _, 2, _, rfl, by simp, rfl, rfl, fun _ => rfl, nh, ng, nk, nl, t, ⟨⟨c1, c2, c3, c4, c5, c6, c7, c8, c9, c10, c11, c12, c13, c14, c15, c16, ?_⟩, ⟨e1, e2, e3, e4, e5, e6, e7, e8, e9, e10, e11, e12, e13, e14, e15, e16, e17, e18, e19, e20, e21, e22⟩, hS, hV, hQ, hO, hX, hL, hG, hK⟩, hT⟩
            show u.1 2 + 1 = v.1 7 + 1
            rw [c17]
        · rw [if_neg g, ms_cut hN v _ _ _ _ h8 g]
          refine ⟨0, 5, _, 5, _, rfl, by simp, rfl, rfl, fun _ => rfl, nh, ng, nk, nl, t, ⟨⟨c1, c2, c3, c4, c5, c6, c7, c8, c9, c10, c11, c12, c13, c14, c15, ?_, c17⟩, ⟨e1, e2, e3, e4, e5, e6, e7, e8, e9, e10, e11, e12, e13, e14, e15, e16, e17, e18, e19, e20, e21, e22⟩, hS, hV, hQ, hO, hX, hL, hG, hK⟩, hT⟩
          show u.1 1 + 1 = v.1 6 + 1
          rw [c16]
      unfold f_B_message_27 at hB0
      rcases in_lit a3 (lo := 0) (hi := 999) (by omega) (by omega) with g3 | ⟨g3, n, -, hn, hz3⟩
      · have g3 : f_B_in a3 0 999 = 0 := g3
        exact bad (by rw [hA0, if_pos g3]) (by rw [hB0, if_pos g3])
      · have g3 : f_B_in a3 0 999 = 1 := g3
        rw [if_neg (lit_ne1 g3)] at hA0 hB0
        rcases in_lit a4 (lo := 0) (hi := 20) (by omega) (by omega) with g4 | ⟨g4, q, -, hq, hz4⟩
        · have g4 : f_B_in a4 0 20 = 0 := g4
          exact bad (by rw [hA0, if_pos g4]) (by rw [hB0, if_pos g4])
        · have g4 : f_B_in a4 0 20 = 1 := g4
          rw [if_neg (lit_ne1 g4)] at hA0 hB0
          by_cases g5 : q = 0
          · have y : a4 = 0 := by rw [hz4, g5]; rfl
            exact good n q (by omega) hq hz3 hz4 (by rw [hA0, if_pos (by rw [y]; decide)]) (by rw [hB0, if_pos y])
          · have y1 : ¬ a4 ≤ 0 := by rw [hz4]; exact nI_nle (by omega) (by omega)
            have y2 : ¬ a4 = 0 := by rw [hz4]; exact nI_ne0 (by omega) (by omega)
            rw [if_neg y1] at hA0
            rw [if_neg y2] at hB0
            by_cases g6 : f_B_in a5 0 999 = 0
            · exact bad (by rw [hA0, if_pos g6]) (by rw [hB0, if_pos g6])
            · exact good n q (by omega) hq hz3 hz4 (by rw [hA0, if_neg g6]) (by rw [hB0, if_neg g6])
