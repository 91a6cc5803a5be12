theorem holds_eq {u : StA} {v : StB} {t : Nat} (c14 : v.1 1 = nI t) (e6 : u.2.1 6 = v.2 5) (e7 : u.2.1 7 = v.2 6) (hS : rS u v) {i : Nat} (hi : i < 30) : ∃ r, f_Ag_holdsAt u (nI i) (nI t) = some r ∧ f_B_holds v (nI i) = some r ∧ (r = 0 ∨ (r = 1 ∧ nI t < u.2.1 7 i)) := by
  unfold f_Ag_holdsAt f_B_holds f_B_holds_65 f_B_holds_70 f_Ag_holdsAt_64
  simp only [gI_n (show i < 30 from hi) (show 30 < 2147483648 by omega), nI_clamp (show i < 2 ^ 31 by omega), c14, e6, e7, (hS i).2]
  simp only [(hS i).1]
  unfold f_B_in
  generalize v.2 7 i = F
  generalize v.2 8 i = L
  generalize (nI t / (60 : Int32)) - (nI t / (60 : Int32)) / (24 : Int32) * (24 : Int32) = hr
  generalize v.2 5 i = fr
  generalize v.2 6 i = to
  generalize nI t = T
  have n1 : to ≤ T ↔ ¬ T < to := Int32.not_lt.symm
  have n2 : L < F ↔ ¬ F ≤ L := Int32.not_le.symm
  have n3 : F ≤ hr ↔ ¬ hr < F := Int32.not_lt.symm
  simp only [n1, n2, n3]
  by_cases h1 : T < fr
  · simp only [h1, if_true]
    refine ⟨0, rfl, ?_, Or.inl rfl⟩
    split <;> (try split) <;> (try split) <;> rfl
  · by_cases h2 : T < to
    · by_cases h3 : F ≤ L <;> by_cases h4 : hr < F <;> by_cases h5 : L < hr <;> simp [h1, h2, h3, h4, h5]
    · refine ⟨0, ?_, ?_, Or.inl rfl⟩
      · simp [h1, h2]
      · simp only [h1, h2, if_false, not_false_iff, if_true]
        split <;> (try split) <;> (try split) <;> rfl
theorem holding_loop {N : Nat} {u : StA} {v : StB} {ng t : Nat} (c4 : u.1 4 = nI ng) (c5 : v.1 3 = nI ng) (hng : ng ≤ 30) (c14 : v.1 1 = nI t) (e4 : u.2.1 4 = v.2 3) (e5 : u.2.1 5 = v.2 4) (e6 : u.2.1 6 = v.2 5) (e7 : u.2.1 7 = v.2 6) (hS : rS u v) (h k : Int32) : ∀ (n i : Nat), i ≤ ng → ng - i < n → ∃ r, f_Ag_holding_3 N n u h k (nI t) (nI i) = some r ∧ f_B_holding_2 N n v h k (nI i) = some r ∧ (r = -1 ∨ ∃ a, a < ng ∧ r = nI a ∧ nI t < u.2.1 7 a) := by
  intro n
  induction n with
  | zero => intro i h1 h2; omega
  | succ n ih =>
    intro i h1 h2
    rw [f_Ag_holding_3, f_B_holding_2, c4, c5]
    by_cases hi : i < ng
    · rw [if_neg (lp_in hi (by omega)), if_neg (lp_in hi (by omega)), gI_n (by omega) (by omega), gI_n (by omega) (by omega), nI_clamp (by omega), nI_1, ← e4, ← e5]
      obtain ⟨r, q1, q2, q3⟩ := ih (i + 1) (by omega) (by omega)
      by_cases g1 : u.2.1 4 i = h
      · by_cases g2 : u.2.1 5 i = k
        · obtain ⟨w, w1, w2, w3⟩ := holds_eq c14 e6 e7 hS (show i < 30 by omega)
          rw [if_pos g1, if_pos g1, if_pos g2, if_pos g2, w1, w2]
          rcases w3 with rfl | ⟨rfl, w3⟩
          · exact ⟨r, q1, q2, q3⟩
          · exact ⟨nI i, rfl, rfl, Or.inr ⟨i, hi, rfl, w3⟩⟩
        · rw [if_pos g1, if_pos g1, if_neg g2, if_neg g2]
          exact ⟨r, q1, q2, q3⟩
      · rw [if_neg g1, if_neg g1]
        exact ⟨r, q1, q2, q3⟩
    · rw [if_pos (lp_out (by omega) (by omega)), if_pos (lp_out (by omega) (by omega))]
      exact ⟨-1, rfl, rfl, Or.inl rfl⟩
theorem bit_was : ∀ (m : Fin 256) (h : Fin 8), (((nI m.val >>> (nI h.val &&& 31)) &&& 1) = 1) = (m.val.testBit h.val = true) := by
  have : ∀ (m : Fin 256) (h : Fin 8), decide (((nI m.val >>> (nI h.val &&& 31)) &&& 1) = 1) = m.val.testBit h.val := by decide +kernel
  intro m h
  have := this m h
  rw [← this, decide_eq_true_eq]
theorem bit_set : ∀ (m : Fin 256) (h : Fin 8), (nI m.val ||| ((1 : Int32) <<< (nI h.val &&& 31))) = nI (m.val ||| 2 ^ h.val) ∧ (m.val ||| 2 ^ h.val) < 256 := by decide +kernel
theorem bit_cnt : ∀ (m : Fin 256) (h : Fin 8), m.val.testBit h.val = false → f_JI_bitCount (nI (m.val ||| 2 ^ h.val)) = f_JI_bitCount (nI m.val) + 1 := by decide +kernel
theorem was_eq {u : StA} {v : StB} (hV : rV u v) {j h : Nat} (hj : j < 30) (hh : h < 8) {m : Nat} (hm : m < 256) (m1 : u.2.1 17 j = nI m) : f_As_wasAt u (nI j) (nI h) = some (if m.testBit h then 1 else 0) := by
  unfold f_As_wasAt
  rw [gI_n (by omega) (by omega), nI_clamp (by omega), m1]
  have := bit_was ⟨m, hm⟩ ⟨h, hh⟩
  dsimp only at this
  simp only [this]
  by_cases q : m.testBit h = true
  · simp [q]
  · simp [q]
theorem sh_neg1 : ¬ (0 : Int32) ≤ -1 := by decide
/-- the houses gone through, by both -/
theorem on_loop {N : Nat} {u : StA} {v : StB} {nh ng nk nl t : Nat} (h0 : r0 u v nh ng nk nl t) (hN : 200 ≤ N) {j : Nat} (hj : j < 30) {m : Nat} (hm : m < 256) (m1 : u.2.1 17 j = nI m) (m3 : ∀ h, h < 8 → v.2 19 (j * 8 + h) = if m.testBit h then 1 else 0) : ∀ (n i : Nat) (b : Int32), i ≤ nh → nh - i < n → (b = -1 ∨ ∃ h, h < nh ∧ b = nI h ∧ m.testBit h = false) → ∃ r, f_A_nextHouse_4 N n u (nI j) b (nI i) = some r ∧ f_B_on_4 N n v (nI j) b (nI i) = (if (0 : Int32) ≤ r then f_B_on_94 N (bA v 14 j r) (nI j) r (nI nh) (nI j) (v.1 1) else f_B_on_94 N (bA v 14 j r) (nI j) r (nI nh) (nI j) 0) ∧ (r = -1 ∨ ∃ h, h < nh ∧ r = nI h ∧ m.testBit h = false) := by
  obtain ⟨hC, hE, hS, hV, hQ, hO, hX, hL, hG, hK⟩ := h0
  obtain ⟨c1, c2, c3, c4, c5, c6, c7, c8, c9, c10, c11, c12, c13, c14, c15, c16, c17⟩ := hC
  obtain ⟨e1, e2, e3, e4, e5, e6, e7, e8, e9, e10, e11, e12, e13, e14, e15, e16, e17, e18, e19, e20, e21, e22⟩ := hE
  intro n
  induction n with
  | zero => intro i b h1 h2; omega
  | succ n ih =>
    intro i b h1 h2 hb
    rw [f_A_nextHouse_4, f_B_on_4, c1, c2]
    by_cases hi : i < nh
    · rw [if_neg (lp_in hi (by omega)), if_neg (lp_in hi (by omega)), was_eq hV hj (by omega) hm m1, show (8 : Int32) = nI 8 from rfl, pk_mul, nI_add, nI_clamp (show j * 8 + i < 2 ^ 31 by omega), m3 i (by omega), nI_1]
      simp only [Option.bind_some, gI_n (show j * 8 + i < 240 by omega) (show 240 < 2147483648 by omega), gI_n hj (show 30 < 2147483648 by omega), gI_n (show i < 8 by omega) (show 8 < 2147483648 by omega)]
      by_cases g1 : m.testBit i = true
      · rw [if_pos g1, if_neg (by decide), if_neg (by decide)]
        exact ih (i + 1) b (by omega) (by omega) hb
      · rw [if_neg g1, if_pos rfl, if_pos rfl, nI_clamp (show j < 2 ^ 31 by omega)]
        obtain ⟨r, q1, q2, q3⟩ := holding_loop (N := N) c4 c5 c6 c14 e4 e5 e6 e7 hS (nI i) (u.2.1 10 j) N 0 (by omega) (by omega)
        unfold f_Ag_holding f_B_holding
        rw [c13, ← e9, show f_Ag_holding_3 N N u (nI i) (u.2.1 10 j) (nI t) 0 = f_Ag_holding_3 N N u (nI i) (u.2.1 10 j) (nI t) (nI 0) from rfl, show f_B_holding_2 N N v (nI i) (u.2.1 10 j) 0 = f_B_holding_2 N N v (nI i) (u.2.1 10 j) (nI 0) from rfl, q1, q2]
        simp only [Option.bind_some]
        rcases q3 with rfl | ⟨a, ha, rfl, -⟩
        · rw [if_pos rfl, if_neg sh_neg1]
          exact ih (i + 1) b (by omega) (by omega) hb
        · rw [if_neg (nI_ne1 (by omega)), if_pos (nI_le0 (by omega))]
          have hbi : (nI i = -1 ∨ ∃ h, h < nh ∧ nI i = nI h ∧ m.testBit h = false) := Or.inr ⟨i, hi, rfl, by simpa using g1⟩
          rcases hb with rfl | ⟨h, hh, rfl, hbt⟩
          · rw [if_pos rfl, if_pos (by decide)]
            exact ih (i + 1) (nI i) (by omega) (by omega) hbi
          · rw [if_neg (nI_ne1 (by omega)), if_neg (nI_nlt0 (by omega)), gI_n (by omega) (by omega), gI_n (by omega) (by omega), nI_clamp (by omega), nI_clamp (by omega), e1]
            by_cases g2 : v.2 0 i ≤ v.2 0 h
            · rw [if_pos g2, if_pos g2]
              exact ih (i + 1) (nI h) (by omega) (by omega) (Or.inr ⟨h, hh, rfl, hbt⟩)
            · rw [if_neg g2, if_neg g2]
              exact ih (i + 1) (nI i) (by omega) (by omega) hbi
    · have hin : i = nh := by omega
      subst hin
      rw [if_pos (lp_out (by omega) (by omega)), if_pos (lp_out (by omega) (by omega)), gI_n (by omega) (by omega), nI_clamp (by omega)]
      exact ⟨b, rfl, rfl, hb⟩
