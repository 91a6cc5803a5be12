theorem lent_loop {N : Nat} {u : StA} {v : StB} {nl : Nat} (c10 : u.1 6 = nI nl) (c11 : v.1 5 = nI nl) (hn : nl ≤ 100) (e20 : u.2.1 22 = v.2 23) (e22 : u.2.1 24 = v.2 25) (hL : ∀ j, u.2.1 24 j = -1 ∨ ∃ e, e < 1000000 ∧ u.2.1 24 j = nI e) (x1 : Int32) : ∀ (n i : Nat) (x2 : Int32), i ≤ nl → nl - i < n → ∃ r, f_Lo_lentUnder_4 N n u x1 x2 (nI i) = some r ∧ f_B_lent_4 N n v x1 x2 (nI i) = some r := by
  intro n
  induction n with
  | zero => intro i _ h1 h2; omega
  | succ n ih =>
    intro i x2 h1 h2
    rw [f_Lo_lentUnder_4, f_B_lent_4, c10, c11]
    by_cases hi : i < nl
    · rw [if_neg (lp_in hi (by omega)), if_neg (lp_in hi (by omega))]
      unfold f_Lo_isLent
      simp only [gI_n (show i < 100 by omega) (show 100 < 2147483648 by omega), nI_clamp (show i < 2 ^ 31 by omega), ← e20, ← e22, nI_1]
      have hl := ended_iff (hL i)
      by_cases g1 : u.2.1 22 i = x1
      · rw [if_pos g1, if_pos g1]
        by_cases g2 : u.2.1 24 i = -1
        · rw [if_pos g2, Option.bind_some, if_neg (by decide), if_neg (fun q => (hl.mp q) g2)]
          exact ih (i + 1) (x2 + 1) (by omega) (by omega)
        · rw [if_neg g2, Option.bind_some, if_pos rfl, if_pos (hl.mpr g2)]
          exact ih (i + 1) x2 (by omega) (by omega)
      · rw [if_neg g1, if_neg g1]
        exact ih (i + 1) x2 (by omega) (by omega)
    · rw [if_pos (lp_out (by omega) (by omega)), if_pos (lp_out (by omega) (by omega))]
      exact ⟨x2, rfl, rfl⟩
theorem le_min (a x y : Int32) : (a ≤ f_JM_min x y) ↔ ¬ x < a ∧ a ≤ y := by
  unfold f_JM_min
  by_cases h : y < x
  · rw [if_pos h]
    simp only [Int32.lt_iff_toInt_lt, Int32.le_iff_toInt_le] at *
    omega
  · rw [if_neg h]
    simp only [Int32.lt_iff_toInt_lt, Int32.le_iff_toInt_le] at *
    omega
theorem judge_eq {N : Nat} (hN : 200 ≤ N) {nh ng nk nl t : Nat} {u : StA} {v : StB} (h0 : r0 u v nh ng nk nl t) {j h q : Nat} (hj : j < nk) (hh : h < nh) (hq : q ≤ 20) : ∃ w, f_A_judge N u (nI j) (nI h) (nI q) = some w ∧ f_B_what N v (nI j) (nI h) (nI q) = some w ∧ (w = 3 ∨ w = 4 ∨ (w = 1 ∧ u.2.1 13 j = 0 ∧ (0 < q → (∃ gq uq, gq + q ≤ uq ∧ uq ≤ 20 ∧ u.2.1 16 j = nI gq ∧ u.2.1 11 j = nI uq) ∧ ∃ a, a < ng ∧ f_Ag_holding N u (nI h) (u.2.1 10 j) (nI t) = some (nI a) ∧ f_B_holding N v (nI h) (u.2.1 10 j) = some (nI a) ∧ nI t < u.2.1 7 a))) := by
  obtain ⟨hC, hE, hS, hV, hQ, hO, hX, hL, hG, hK⟩ := id h0
  obtain ⟨c1, c2, c3, c4, c5, c6, c7, c8, c9, c10, c11, c12, c13, c14, c15, c16, c17⟩ := hC
  obtain ⟨e1, e2, e3, e4, e5, e6, e7, e8, e9, e10, e11, e12, e13, e14, e15, e16, e17, e18, e19, e20, e21, e22⟩ := hE
  obtain ⟨si, pa, gq, uq, k1, k2, k3, k4, k5, k6, k7, k8, k9, k10⟩ := hK.1 j hj
  obtain ⟨r, q1, q2, q3⟩ := holding_loop (N := N) c4 c5 c6 c14 e4 e5 e6 e7 hS (nI h) (u.2.1 10 j) N 0 (by omega) (by omega)
  have q1 : f_Ag_holding N u (nI h) (u.2.1 10 j) (nI t) = some r := q1
  have q2 : f_B_holding N v (nI h) (u.2.1 10 j) = some r := q2
  have cj : (nI j).toNatClampNeg = j := nI_clamp (by omega)
  have gj : ∀ {α : Type} (k : Option α), gI (nI j) 30 k = k := fun k => gI_n (by omega) (by omega) k
  unfold f_A_judge f_As_isOpenAt f_As_isOpen f_B_what
  simp only [gj, cj, ← e12, ← e13, ← e9, ← e10, ← e15, ← e8]
  by_cases g1 : u.2.1 13 j = 0
  · rw [if_pos g1, if_pos g1, Option.bind_some, if_neg (show ¬ (1 : Int32) = 0 by decide)]
    by_cases g2 : u.2.1 14 j = nI h
    · rw [if_pos g2, if_pos g2, Option.bind_some, if_neg (show ¬ (1 : Int32) = 0 by decide), q2, Option.bind_some]
      unfold f_A_judge_23 f_A_mostToTake f_As_wanting
      simp only [gj, cj, c13, q1, Option.bind_some, if_true, if_neg (show ¬ (1 : Int32) = 0 by decide)]
      by_cases g3 : q = 0
      · subst g3
        rw [if_pos (show nI 0 ≤ (0 : Int32) by decide), if_pos (show nI 0 ≤ (0 : Int32) by decide)]
        exact ⟨1, rfl, rfl, Or.inr (Or.inr ⟨rfl, g1, fun z => by omega⟩)⟩
      · rw [if_neg (show ¬ nI q ≤ (0 : Int32) from nI_nle (by omega) (by omega)), if_neg (show ¬ nI q ≤ (0 : Int32) from nI_nle (by omega) (by omega))]
        rw [k8, k9, pk_sub k4]
        rcases q3 with rfl | ⟨a, ha, rfl, hto⟩
        · rw [if_pos rfl, Option.bind_some, if_neg (show ¬ nI q ≤ (0 : Int32) from nI_nle (by omega) (by omega)), if_pos (show (-1 : Int32) < 0 by decide)]
          refine ⟨4, rfl, ?_, Or.inr (Or.inl rfl)⟩
          split <;> rfl
        · obtain ⟨l, l1, l2⟩ := lent_loop (N := N) c10 c11 c12 e20 e22 hL.2 (nI a) N 0 0 (by omega) (by omega)
          have l1 : f_Lo_lentUnder N u (nI a) = some l := l1
          have l2 : f_B_lent N v (nI a) = some l := l2
          rw [if_neg (nI_ne1 (by omega)), if_neg (nI_nlt0 (by omega)), gI_n (show a < 30 by omega) (by omega), gI_n (show a < 30 by omega) (by omega), nI_clamp (show a < 2 ^ 31 by omega), l1, l2, Option.bind_some, Option.bind_some, Option.bind_some]
          simp only [le_min]
          by_cases g4 : nI (uq - gq) < nI q
          · rw [if_pos g4, if_neg (fun z => z.1 g4)]
            exact ⟨4, rfl, rfl, Or.inr (Or.inl rfl)⟩
          · rw [if_neg g4]
            by_cases g5 : nI q ≤ u.2.1 9 a - l
            · rw [if_pos g5, if_pos ⟨g4, g5⟩]
              have g4' : ¬ uq - gq < q := fun z => g4 (nI_lt z (by omega))
              exact ⟨1, rfl, rfl, Or.inr (Or.inr ⟨rfl, g1, fun _ => ⟨⟨gq, uq, by omega, k5, rfl, rfl⟩, a, ha, rfl, rfl, hto⟩⟩)⟩
            · rw [if_neg g5, if_neg (fun z => g5 z.2)]
              exact ⟨4, rfl, rfl, Or.inr (Or.inl rfl)⟩
    · rw [if_neg g2, if_neg g2, Option.bind_some, if_pos rfl]
      exact ⟨3, rfl, rfl, Or.inl rfl⟩
  · rw [if_neg g1, if_neg g1, Option.bind_some, if_pos rfl, Option.bind_some, if_pos rfl]
    exact ⟨3, rfl, rfl, Or.inl rfl⟩
theorem pigeon : ∀ (m : Nat) (f : Nat → Nat), (∀ x, x ≤ m → f x < m) → ∃ x y, x < y ∧ y ≤ m ∧ f x = f y := by
  intro m
  induction m with
  | zero => intro f h; have := h 0 (by omega); omega
  | succ m ih =>
    intro f h
    by_cases hx : ∃ x, x ≤ m ∧ f x = f (m + 1)
    · obtain ⟨x, h1, h2⟩ := hx
      exact ⟨x, m + 1, by omega, by omega, h2⟩
    · have hne : ∀ x, x ≤ m → f x ≠ f (m + 1) := fun x h1 h2 => hx ⟨x, h1, h2⟩
      have hc := h (m + 1) (by omega)
      obtain ⟨x, y, h1, h2, h3⟩ := ih (fun x => if f (m + 1) < f x then f x - 1 else f x) (fun x h1 => by
        have a := hne x h1
        have b := h x (by omega)
        show (if f (m + 1) < f x then f x - 1 else f x) < m
        split <;> omega)
      refine ⟨x, y, h1, by omega, ?_⟩
      have a1 := hne x (by omega)
      have a2 := hne y (by omega)
      have h3 : (if f (m + 1) < f x then f x - 1 else f x) = (if f (m + 1) < f y then f y - 1 else f y) := h3
      split at h3 <;> split at h3 <;> omega
theorem fn_a {N : Nat} {u : StA} {v : StB} {nl : Nat} (K : StB → Int32 → Int32 → Int32 → Option Int32) (c11 : v.1 5 = nI nl) (hn : nl ≤ 100) (e18 : u.2.1 20 = v.2 21) (e22 : u.2.1 24 = v.2 25) (hL : ∀ j, u.2.1 24 j = -1 ∨ ∃ e, e < 1000000 ∧ u.2.1 24 j = nI e) (x1 x2 x3 : Int32) : ∀ (n i : Nat), i ≤ nl → nl - i < n → (∀ j, i ≤ j → j < nl → ¬ (u.2.1 20 j = 100 * x1 + x2 ∧ u.2.1 24 j = -1)) → f_B_freeName_13 N K n v x1 x2 x3 (nI i) = if x3 = 0 then K v x1 x2 x3 else K v x1 (x2 + 1) x3 := by
  intro n
  induction n with
  | zero => intro i h1 h2; omega
  | succ n ih =>
    intro i h1 h2 hP
    rw [f_B_freeName_13, c11]
    by_cases hi : i < nl
    · rw [if_neg (lp_in hi (by omega)), gI_n (by omega) (by omega), nI_clamp (by omega), ← e22, ← e18, nI_1]
      have hl := ended_iff (hL i)
      have hr := ih (i + 1) (by omega) (by omega) (fun j hj => hP j (by omega))
      by_cases g : u.2.1 24 i = -1
      · rw [if_neg (fun q => (hl.mp q) g), if_neg (fun q => hP i (by omega) hi ⟨q, g⟩)]
        exact hr
      · rw [if_pos (hl.mpr g)]
        exact hr
    · rw [if_pos (lp_out (by omega) (by omega))]
theorem fn_b {N : Nat} {u : StA} {v : StB} {nl : Nat} (K : StB → Int32 → Int32 → Int32 → Option Int32) (c11 : v.1 5 = nI nl) (hn : nl ≤ 100) (e18 : u.2.1 20 = v.2 21) (e22 : u.2.1 24 = v.2 25) (hL : ∀ j, u.2.1 24 j = -1 ∨ ∃ e, e < 1000000 ∧ u.2.1 24 j = nI e) (x1 x2 : Int32) : ∀ (n i : Nat) (x3 : Int32), i ≤ nl → nl - i < n → (∃ j, i ≤ j ∧ j < nl ∧ u.2.1 20 j = 100 * x1 + x2 ∧ u.2.1 24 j = -1) → f_B_freeName_13 N K n v x1 x2 x3 (nI i) = K v x1 (x2 + 1) 1 := by
  intro n
  induction n with
  | zero => intro i _ h1 h2; omega
  | succ n ih =>
    intro i x3 h1 h2 hP
    obtain ⟨j, p1, p2, p3, p4⟩ := hP
    have hi : i < nl := by omega
    rw [f_B_freeName_13, c11, if_neg (lp_in hi (by omega)), gI_n (by omega) (by omega), nI_clamp (by omega), ← e22, ← e18, nI_1]
    have hl := ended_iff (hL i)
    by_cases g : u.2.1 24 i = -1
    · rw [if_neg (fun q => (hl.mp q) g)]
      by_cases g2 : u.2.1 20 i = 100 * x1 + x2
      · rw [if_pos g2]
        by_cases z : ∃ j, i + 1 ≤ j ∧ j < nl ∧ u.2.1 20 j = 100 * x1 + x2 ∧ u.2.1 24 j = -1
        · exact ih (i + 1) 1 (by omega) (by omega) z
        · rw [fn_a K c11 hn e18 e22 hL x1 x2 1 n (i + 1) (by omega) (by omega) (fun j hj hjn y => z ⟨j, hj, hjn, y⟩), if_neg (by decide)]
      · rw [if_neg g2]
        refine ih (i + 1) x3 (by omega) (by omega) ⟨j, ?_, p2, p3, p4⟩
        by_cases z : j = i
        · subst z; exact absurd p3 g2
        · omega
    · rw [if_pos (hl.mpr g)]
      refine ih (i + 1) x3 (by omega) (by omega) ⟨j, ?_, p2, p3, p4⟩
      by_cases z : j = i
      · subst z; exact absurd p4 g
      · omega
theorem fn_all {N : Nat} (hN : 200 ≤ N) {u : StA} {v : StB} {nl : Nat} (c10 : u.1 6 = nI nl) (c11 : v.1 5 = nI nl) (hn : nl ≤ 99) (e18 : u.2.1 20 = v.2 21) (e22 : u.2.1 24 = v.2 25) (hL : ∀ j, u.2.1 24 j = -1 ∨ ∃ e, e < 1000000 ∧ u.2.1 24 j = nI e) {h : Nat} (hh : h < 8) : ∀ (d n m y : Nat), y + d = 99 → d < n → d + 1 < m → (∀ x, x < y → ∃ j, j < nl ∧ u.2.1 20 j = nI (100 * h + x) ∧ u.2.1 24 j = -1) → ∃ r, f_Lo_freeName_7 N n u (nI h) (nI (100 * h + y)) (nI y) = some r ∧ f_B_freeName_4 N m v (nI h) (nI y) 1 = some r := by
  intro d
  induction d with
  | zero =>
    intro n m y h1 h2 h3 hP
    have hy : y = 99 := by omega
    subst hy
    obtain ⟨n, rfl⟩ : ∃ k, n = k + 1 := ⟨n - 1, by omega⟩
    obtain ⟨m, rfl⟩ : ∃ k, m = k + 2 := ⟨m - 2, by omega⟩
    have enm : (100 : Int32) * nI h + nI 99 = nI (100 * h + 99) := by rw [show (100 : Int32) = nI 100 from rfl, pk_mul, nI_add]
    refine ⟨nI (100 * h + 99), ?_, ?_⟩
    · rw [f_Lo_freeName_7, if_pos (show (99 : Int32) ≤ nI 99 by decide)]
    · rw [f_B_freeName_4, if_neg (by decide), show f_B_freeName_13 N (f_B_freeName_4 N (m + 1)) N v (nI h) (nI 99) 0 0 = f_B_freeName_13 N (f_B_freeName_4 N (m + 1)) N v (nI h) (nI 99) 0 (nI 0) from rfl]
      rw [fn_a (f_B_freeName_4 N (m + 1)) c11 (by omega) e18 e22 hL (nI h) (nI 99) 0 N 0 (by omega) (by omega) ?_, if_pos rfl, f_B_freeName_4, if_pos rfl, enm]
      intro j _ hj ⟨z1, z2⟩
      rw [enm] at z1
      have hall : ∀ x, ∃ j, x ≤ 99 → j < nl ∧ u.2.1 20 j = nI (100 * h + x) := fun x => by
        by_cases hx : x < 99
        · obtain ⟨j, q1, q2, -⟩ := hP x hx
          exact ⟨j, fun _ => ⟨q1, q2⟩⟩
        · refine ⟨j, fun hx2 => ?_⟩
          have : x = 99 := by omega
          subst this
          exact ⟨hj, z1⟩
      have hf := fun x => Classical.choose_spec (hall x)
      obtain ⟨x, y, p1, p2, p3⟩ := pigeon 99 (fun x => Classical.choose (hall x)) (fun x hx => by have := (hf x hx).1; omega)
      have a1 := (hf x (by omega)).2
      have a2 := (hf y p2).2
      have p3 : Classical.choose (hall x) = Classical.choose (hall y) := p3
      rw [p3, a2, nI_eq (by omega) (by omega)] at a1
      omega
  | succ d ih =>
    intro n m y h1 h2 h3 hP
    obtain ⟨n, rfl⟩ : ∃ k, n = k + 1 := ⟨n - 1, by omega⟩
    obtain ⟨m, rfl⟩ : ∃ k, m = k + 2 := ⟨m - 2, by omega⟩
    have enm : (100 : Int32) * nI h + nI y = nI (100 * h + y) := by rw [show (100 : Int32) = nI 100 from rfl, pk_mul, nI_add]
    obtain ⟨r, q1, -, q3⟩ := named_loop (N := N) (u := u) (v := v) c10 c11 (by omega) e18 e22 hL (nI (100 * h + y)) N 0 (by omega) (by omega)
    have q1 : f_Lo_bearerOf N u (nI (100 * h + y)) = some r := q1
    rw [f_Lo_freeName_7, if_neg (show ¬ (99 : Int32) ≤ nI y from nI_ge (b := 99) (by omega) (by omega)), q1, Option.bind_some, nI_1, nI_1]
    rw [f_B_freeName_4, if_neg (show ¬ (1 : Int32) = 0 by decide), show f_B_freeName_13 N (f_B_freeName_4 N (m + 1)) N v (nI h) (nI y) 0 0 = f_B_freeName_13 N (f_B_freeName_4 N (m + 1)) N v (nI h) (nI y) 0 (nI 0) from rfl]
    rcases q3 with ⟨rfl, q3⟩ | ⟨j, p1, p2, rfl, p3, p4⟩
    · refine ⟨nI (100 * h + y), ?_, ?_⟩
      · rw [if_pos rfl]
      · rw [fn_a (f_B_freeName_4 N (m + 1)) c11 (by omega) e18 e22 hL (nI h) (nI y) 0 N 0 (by omega) (by omega) (fun j a b z => q3 j a b (by rw [enm] at z; exact z)), if_pos rfl, f_B_freeName_4, if_pos rfl, enm]
    · rw [if_neg (nI_ne1 (by omega)), fn_b (f_B_freeName_4 N (m + 1)) c11 (by omega) e18 e22 hL (nI h) (nI y) N 0 0 (by omega) (by omega) ⟨j, p1, p2, by rw [enm]; exact p3, p4⟩, nI_1]
      exact ih n (m + 1) (y + 1) (by omega) (by omega) (by omega) (fun x hx => by
        by_cases z : x = y
        · subst z; exact ⟨j, p2, p3, p4⟩
        · exact hP x (by omega))
theorem fn_eq {N : Nat} (hN : 200 ≤ N) {u : StA} {v : StB} {nl : Nat} (c10 : u.1 6 = nI nl) (c11 : v.1 5 = nI nl) (hn : nl ≤ 99) (e18 : u.2.1 20 = v.2 21) (e22 : u.2.1 24 = v.2 25) (hL : ∀ j, u.2.1 24 j = -1 ∨ ∃ e, e < 1000000 ∧ u.2.1 24 j = nI e) {h : Nat} (hh : h < 8) : ∃ r, f_Lo_freeName N u (nI h) = some r ∧ f_B_freeName N v (nI h) = some r := by
  obtain ⟨r, q1, q2⟩ := fn_all (N := N) hN c10 c11 hn e18 e22 hL hh 99 N N 0 (by omega) (by omega) (by omega) (fun x hx => by omega)
  refine ⟨r, ?_, q2⟩
  unfold f_Lo_freeName
  rw [show (100 : Int32) = nI 100 from rfl, pk_mul, Nat.mul_comm]
  exact q1
