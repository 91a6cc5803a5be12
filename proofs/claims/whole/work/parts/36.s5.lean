/-! numbers, four bits each -/
theorem nu_place {h n : Nat} (hh : h < 8) (hn : n < 1000) : f_Nu_placeOf (nI h) (nI n) = nI (1000 * h + n) := by
  unfold f_Nu_placeOf
  rw [show (1000 : Int32) = nI 1000 from rfl, pk_mul, nI_add, Nat.mul_comm]
theorem nu_word {k : Nat} (hk : k < 8000) : nI k / (16 : Int32) = nI (k / 16) := pk_div (d := 16) (by omega) (by omega) (by omega)
theorem nu_shift {k : Nat} (hk : k < 8000) : f_Nu_shiftOf (nI k) = nI (4 * (k % 16)) := by
  unfold f_Nu_shiftOf
  rw [show (16 : Int32) = nI 16 from rfl, pk_rem (by omega) (by omega) (by omega), show (4 : Int32) = nI 4 from rfl, pk_mul, Nat.mul_comm]
theorem nu_shr (x : Int64) {k : Nat} (hk : k < 64) : ((x.toUInt64 >>> ((nI k).toInt64.toUInt64 &&& Int64.toUInt64 63)).toInt64).toBitVec.toNat = x.toBitVec.toNat / 2 ^ k := by
  have h : ((nI k).toInt64.toUInt64 &&& Int64.toUInt64 63).toNat % 64 = k := by
    rw [nI_l (by omega), UInt64.toNat_and]
    have e : (lN k).toUInt64.toNat = k % 2 ^ 64 := rfl
    have e2 : (Int64.toUInt64 63).toNat = 2 ^ 6 - 1 := by decide
    rw [e, e2, Nat.and_two_pow_sub_one_eq_mod]
    omega
  show (x.toUInt64 >>> ((nI k).toInt64.toUInt64 &&& Int64.toUInt64 63)).toNat = _
  rw [UInt64.toNat_shiftRight, Nat.shiftRight_eq_div_pow, h]
  rfl
theorem nu_i32 (x : Int64) : x.toInt32.toBitVec.toNat = x.toBitVec.toNat % 2 ^ 32 := by
  rw [Int64.toBitVec_toInt32, BitVec.signExtend_eq_setWidth_of_le _ (by decide), BitVec.toNat_setWidth]
theorem nu_state {u : StA} {h n : Nat} (hh : h < 8) (hn : n < 1000) : f_Nu_stateOf u (nI h) (nI n) = some (nI (nib u.2.2 (1000 * h + n))) := by
  unfold f_Nu_stateOf
  rw [nu_place hh hn, nu_word (by omega), gI_n (by omega) (by omega), nI_clamp (by omega), nu_shift (by omega), pk_and _ (m := (15 : Int32)) 4 (by decide), nu_i32, nu_shr _ (by omega)]
  unfold nib
  congr 2
  rw [Nat.mod_mod_of_dvd _ (by decide : 2 ^ 4 ∣ 2 ^ 32)]
theorem nib_lt (f : Nat → Int64) (k : Nat) : nib f k < 16 := Nat.mod_lt _ (by decide)
theorem nu_or (x : Int64) {s k : Nat} (hs : s < 16) (hk : k < 64) (hk4 : k ≤ 60) : (x ||| ((nI s).toInt64 <<< ((nI k).toInt64 &&& 63))).toBitVec.toNat = x.toBitVec.toNat ||| (s * 2 ^ k) := by
  have hp : 2 ^ k ≤ 2 ^ 60 := Nat.pow_le_pow_right (by decide) hk4
  have h1 : ((nI k).toInt64 &&& 63) = lN k := by
    rw [nI_l (by omega)]
    apply Int64.toBitVec_inj.mp
    rw [Int64.toBitVec_and]
    apply BitVec.eq_of_toNat_eq
    rw [BitVec.toNat_and]
    show (BitVec.ofNat 64 k).toNat &&& (63#64).toNat = (BitVec.ofNat 64 k).toNat
    rw [BitVec.toNat_ofNat, show (63#64).toNat = 2 ^ 6 - 1 from by decide, Nat.and_two_pow_sub_one_eq_mod]
    omega
  have h2 : ((lN k).toBitVec.smod 64).toNat = k := by
    have : ∀ j : Fin 64, ((BitVec.ofNat 64 j.val).smod 64).toNat = j.val := by decide +kernel
    exact this ⟨k, hk⟩
  rw [h1, nI_l (by omega), Int64.toBitVec_or, BitVec.toNat_or]
  congr 1
  show ((lN s).toBitVec <<< ((lN k).toBitVec.smod 64).toNat).toNat = _
  rw [h2, BitVec.toNat_shiftLeft, Nat.shiftLeft_eq]
  show (BitVec.ofNat 64 s).toNat * 2 ^ k % 2 ^ 64 = _
  rw [BitVec.toNat_ofNat, Nat.mod_eq_of_lt (show s < 2 ^ 64 by omega)]
  apply Nat.mod_eq_of_lt
  calc s * 2 ^ k ≤ 15 * 2 ^ 60 := Nat.mul_le_mul (by omega) hp
    _ < 2 ^ 64 := by decide
theorem nib_or_same (a : Nat) {s q : Nat} (hs : s < 16) (h0 : a / 2 ^ (4 * q) % 16 = 0) : (a ||| (s * 2 ^ (4 * q))) / 2 ^ (4 * q) % 16 = s := by
  rw [Nat.or_div_two_pow, Nat.mul_div_cancel _ (Nat.two_pow_pos _), show (16 : Nat) = 2 ^ 4 from rfl, Nat.or_mod_two_pow, show a / 2 ^ (4 * q) % 2 ^ 4 = 0 from h0, Nat.zero_or]
  exact Nat.mod_eq_of_lt hs
theorem nib_or_other (a : Nat) {s p q : Nat} (hs : s < 16) (h : p ≠ q) : (a ||| (s * 2 ^ (4 * q))) / 2 ^ (4 * p) % 16 = a / 2 ^ (4 * p) % 16 := by
  have hz : s * 2 ^ (4 * q) / 2 ^ (4 * p) % 2 ^ 4 = 0 := by
    rcases Nat.lt_or_gt_of_ne h with h | h
    · obtain ⟨d, rfl⟩ : ∃ d, q = p + 1 + d := ⟨q - p - 1, by omega⟩
      have e : s * 2 ^ (4 * (p + 1 + d)) = s * 2 ^ (4 * d) * 2 ^ 4 * 2 ^ (4 * p) := by
        rw [show 4 * (p + 1 + d) = 4 * d + 4 + 4 * p by omega, Nat.pow_add, Nat.pow_add, ← Nat.mul_assoc, ← Nat.mul_assoc]
      rw [e, Nat.mul_div_cancel _ (Nat.two_pow_pos _), Nat.mul_mod_left]
    · obtain ⟨d, rfl⟩ : ∃ d, p = q + 1 + d := ⟨p - q - 1, by omega⟩
      have hlt : s * 2 ^ (4 * q) < 2 ^ (4 * (q + 1 + d)) := by
        have e : 2 ^ (4 * (q + 1 + d)) = 2 ^ (4 * d) * 16 * 2 ^ (4 * q) := by
          rw [show 4 * (q + 1 + d) = 4 * d + 4 + 4 * q by omega, Nat.pow_add, Nat.pow_add]
        rw [e]
        apply Nat.mul_lt_mul_of_pos_right _ (Nat.two_pow_pos _)
        have : 1 ≤ 2 ^ (4 * d) := Nat.two_pow_pos _
        omega
      rw [Nat.div_eq_of_lt hlt]
  rw [Nat.or_div_two_pow, show (16 : Nat) = 2 ^ 4 from rfl, Nat.or_mod_two_pow, hz, Nat.or_zero]
theorem nu_keep {u : StA} {h n s : Nat} (hh : h < 8) (hn : n < 1000) (hs : s < 16) (h0 : nib u.2.2 (1000 * h + n) = 0) : ∃ u1 : StA, f_Nu_keep u (nI h) (nI n) (nI s) = some u1 ∧ u1.1 = u.1 ∧ u1.2.1 = u.2.1 ∧ ∀ k, nib u1.2.2 k = if k = 1000 * h + n then s else nib u.2.2 k := by
  unfold f_Nu_keep
  rw [nu_place hh hn, nu_word (by omega), gI_n (by omega) (by omega), nI_clamp (by omega), nu_shift (by omega)]
  refine ⟨_, rfl, rfl, rfl, fun k => ?_⟩
  generalize hm : 1000 * h + n = m at h0 ⊢
  show (vp_updL u.2.2 (m / 16) _ (k / 16)).toBitVec.toNat / 2 ^ (4 * (k % 16)) % 16 = _
  by_cases hk : k / 16 = m / 16
  · rw [hk, pk_uLs, nu_or _ hs (by omega) (by omega)]
    by_cases hkm : k = m
    · subst hkm
      rw [if_pos rfl]
      exact nib_or_same _ hs h0
    · rw [if_neg hkm]
      have hne : k % 16 ≠ m % 16 := by omega
      rw [nib_or_other _ hs hne]
      unfold nib
      rw [hk]
  · rw [pk_uLn hk, if_neg (fun e => hk (by rw [e]))]
    rfl
theorem sim_seen {N : Nat} (hN : 200 ≤ N) : Sim_seen N Rel := by
  intro u v a1 a2 hRel
  obtain ⟨nh, ng, nk, nl, t, h0, hT⟩ := id hRel
  obtain ⟨hC, hE, hS, hV, hQ, hO, hX, hL, hG, hK⟩ := h0
  obtain ⟨c1, c2, c3, c4, c5, c6, c7, c8, c9, c10, c11, c12, c13, c14, c15, c16, c17⟩ := hC
  obtain ⟨i1, i2⟩ := isH c1 c2 c3 a1
  have hnum : ∀ x, f_A_isNumber x = f_B_in x 0 999 := fun x => rfl
  rcases i2 with i2 | ⟨i2, j, hj, rfl⟩
  · have hA : f_A_seen u a1 a2 = some ((1, 0), u) := by unfold f_A_seen; rw [i1, if_pos i2]
    have hB : f_B_seen N v a1 a2 = some (0, bF v 0 1) := by unfold f_B_seen; rw [i2, goes_3_1 (by omega) _ _ _ _ _ rfl, bind_0]
    exact ⟨1, 0, u, 0, bF v 0 1, hA, by simp, hB, rfl, by simp, rel_th hRel 1⟩
  · rcases in_lit a2 (lo := 0) (hi := 999) (by omega) (by omega) with k2 | ⟨k2, n, -, hn, rfl⟩
    · have k2 : f_B_in a2 (0 : Int32) (999 : Int32) = 0 := k2
      have hA : f_A_seen u (nI j) a2 = some ((2, 0), u) := by unfold f_A_seen; rw [i1, if_neg (lit_ne1 i2), hnum, if_pos k2]
      have hB : f_B_seen N v (nI j) a2 = some (0, bF v 0 2) := by unfold f_B_seen; rw [i2, k2, goes_3_2 (by omega) _ _ _ _ _ (by decide) rfl, bind_0]
      exact ⟨2, 0, u, 0, bF v 0 2, hA, by simp, hB, rfl, by simp, rel_th hRel 2⟩
    · have k2 : f_B_in (nI n) (0 : Int32) (999 : Int32) = 1 := k2
      have hA : f_A_seen u (nI j) (nI n) = some ((0, nI (nib u.2.2 (1000 * j + n))), u) := by
        unfold f_A_seen
        rw [i1, if_neg (lit_ne1 i2), hnum, if_neg (lit_ne1 k2), nu_state (by omega) (by omega)]; rfl
      have hB : f_B_seen N v (nI j) (nI n) = some (v.2 26 (1000 * j + n), bF v 0 0) := by
        unfold f_B_seen
        rw [i2, k2, goes_ok (by omega) _ _ _ _ _ _ (by decide) (by decide) (by decide) (by decide), bind_1, show (1000 : Int32) = nI 1000 from rfl, pk_mul, nI_add, gI_n (by omega) (by omega), nI_clamp (by omega)]
        rfl
      exact ⟨0, _, u, _, bF v 0 0, hA, by simp, hB, rfl, fun _ => (hQ _ (by omega)).symm, rel_th hRel 0⟩
