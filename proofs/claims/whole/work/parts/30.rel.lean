/-! the two states side by side -/
def rC (u : StA) (v : StB) (nh ng nk nl t : Nat) : Prop :=
  u.1 3 = nI nh ∧ v.1 2 = nI nh ∧ nh ≤ 8 ∧ u.1 4 = nI ng ∧ v.1 3 = nI ng ∧ ng ≤ 30 ∧ u.1 5 = nI nk ∧ v.1 4 = nI nk ∧ nk ≤ 30 ∧ u.1 6 = nI nl ∧ v.1 5 = nI nl ∧ nl ≤ 100 ∧ u.1 0 = nI t ∧ v.1 1 = nI t ∧ t ≤ 99999 ∧ u.1 1 = v.1 6 ∧ u.1 2 = v.1 7
def rE (u : StA) (v : StB) : Prop :=
  u.2.1 1 = v.2 0 ∧ u.2.1 2 = v.2 1 ∧ u.2.1 3 = v.2 2 ∧ u.2.1 4 = v.2 3 ∧ u.2.1 5 = v.2 4 ∧ u.2.1 6 = v.2 5 ∧ u.2.1 7 = v.2 6 ∧ u.2.1 9 = v.2 9 ∧ u.2.1 10 = v.2 10 ∧ u.2.1 11 = v.2 11 ∧ u.2.1 12 = v.2 12 ∧ u.2.1 13 = v.2 13 ∧ u.2.1 14 = v.2 14 ∧ u.2.1 15 = v.2 15 ∧ u.2.1 16 = v.2 16 ∧ u.2.1 18 = v.2 18 ∧ u.2.1 19 = v.2 20 ∧ u.2.1 20 = v.2 21 ∧ u.2.1 21 = v.2 22 ∧ u.2.1 22 = v.2 23 ∧ u.2.1 23 = v.2 24 ∧ u.2.1 24 = v.2 25
def rS (u : StA) (v : StB) : Prop := ∀ j, u.2.1 8 j / 100 = v.2 7 j ∧ u.2.1 8 j - u.2.1 8 j / 100 * 100 = v.2 8 j
def rV (u : StA) (v : StB) : Prop := ∀ j, j < 30 → ∃ m : Nat, m < 256 ∧ u.2.1 17 j = nI m ∧ v.2 17 j = f_JI_bitCount (nI m) ∧ ∀ h, h < 8 → v.2 19 (j * 8 + h) = if m.testBit h then 1 else 0
def nib (f : Nat → Int64) (k : Nat) : Nat := (f (k / 16)).toBitVec.toNat / 2 ^ (4 * (k % 16)) % 16
def rQ (u : StA) (v : StB) : Prop := ∀ k, k < 8000 → v.2 26 k = nI (nib u.2.2 k)
def rO (u : StA) (v : StB) : Prop := ∀ j, j < 100 → u.2.1 0 j = v.2 27 j ∧ (v.2 27 j = -1 ∨ ∃ h, h < 8 ∧ v.2 27 j = nI h)
def rX (u : StA) : Prop := ∀ j, j < 8 → u.2.1 3 j = 0 ∨ u.2.1 3 j = 1
def rL (u : StA) (nh ng nl : Nat) : Prop := (∀ j, j < nl → ∃ h a, h < nh ∧ a < ng ∧ u.2.1 19 j = nI h ∧ u.2.1 22 j = nI a) ∧ ∀ j, u.2.1 24 j = -1 ∨ ∃ e, e < 1000000 ∧ u.2.1 24 j = nI e
def rG (u : StA) (ng : Nat) : Prop := ∀ j, j < ng → ∃ to, to ≤ 99999 ∧ u.2.1 7 j = nI to
def rK (u : StA) (nk t : Nat) : Prop := (∀ j, j < nk → ∃ si pa gq uq, si ≤ t ∧ 1 ≤ pa ∧ pa ≤ 500 ∧ gq ≤ uq ∧ uq ≤ 20 ∧ u.2.1 15 j = nI si ∧ u.2.1 12 j = nI pa ∧ u.2.1 16 j = nI gq ∧ u.2.1 11 j = nI uq ∧ (u.2.1 13 j = 0 → gq < uq)) ∧ ∀ j, nk ≤ j → u.2.1 16 j = 0 ∧ u.2.1 15 j = 0
/-- nobody is due before e -/
def rT (u : StA) (nk nl e : Nat) : Prop := (∀ j, j < nk → u.2.1 13 j = 0 → ∀ si pa, si < 1000000 → pa ≤ 500 → u.2.1 15 j = nI si → u.2.1 12 j = nI pa → e ≤ si + pa) ∧ ∀ j, j < nl → u.2.1 24 j = -1 → ∀ a to, a < 30 → to ≤ 99999 → u.2.1 22 j = nI a → u.2.1 7 a = nI to → e ≤ to
def r0 (u : StA) (v : StB) (nh ng nk nl t : Nat) : Prop := rC u v nh ng nk nl t ∧ rE u v ∧ rS u v ∧ rV u v ∧ rQ u v ∧ rO u v ∧ rX u ∧ rL u nh ng nl ∧ rG u ng ∧ rK u nk t
def Rel (u : StA) (v : StB) : Prop := ∃ nh ng nk nl t, r0 u v nh ng nk nl t ∧ rT u nk nl (t + 1)
/-! numbers -/
theorem gI_n {α : Type} {i n : Nat} (h : i < n) (hn : n < 2147483648) (k : Option α) : gI (nI i) n k = k := by
  unfold gI
  rw [if_neg (nI_in h (by omega))]
theorem nI_neg1 : (-1 : Int32).toInt = -1 := by decide
theorem nI_ne1 {n : Nat} (h : n < 2147483648) : ¬ nI n = -1 := fun e => by
  have h1 := nI_toInt (n := n) (by omega)
  rw [e, nI_neg1] at h1
  omega
theorem nI_nlt0 {n : Nat} (h : n < 2147483648) : ¬ nI n < 0 := nI_pos (by omega)
theorem nI_le0 {n : Nat} (h : n < 2147483648) : 0 ≤ nI n := nI_pos' (by omega)
theorem upd_s (f : Nat → Int32) (k : Nat) (x : Int32) : upd f k x k = x := pk_us
theorem upd_n {f : Nat → Int32} {k j : Nat} {x : Int32} (h : j ≠ k) : upd f k x j = f j := pk_un h
theorem bF_bF (v : StB) (k : Nat) (a b : Int32) : bF (bF v k a) k b = bF v k b := by
  unfold bF
  simp only [Prod.mk.injEq, and_true]
  funext j
  by_cases h : j = k <;> simp [h]
theorem sF_sF (u : StA) (k : Nat) (a b : Int32) : sF (sF u k a) k b = sF u k b := by
  unfold sF
  simp only [Prod.mk.injEq, and_true]
  funext j
  by_cases h : j = k <;> simp [h]
/-- a number of things that are there -/
theorem in_n (a : Int32) {n : Nat} (hn : n ≤ 1000) : f_B_in a 0 (nI n - 1) = if a < 0 then 0 else if nI n ≤ a then 0 else 1 := by
  unfold f_B_in
  have h : (nI n - 1 < a) ↔ nI n ≤ a := by
    rw [Int32.lt_iff_toInt_lt, Int32.le_iff_toInt_le, show (1 : Int32) = nI 1 from rfl, pk_sub_toInt (by omega) (by omega), nI_toInt (by omega)]
    omega
  simp only [h]
theorem in_or (a : Int32) {n : Nat} (hn : n ≤ 1000) : (if a < 0 then (0 : Int32) else if nI n ≤ a then 0 else 1) = 0 ∨ ((if a < 0 then (0 : Int32) else if nI n ≤ a then 0 else 1) = 1 ∧ ∃ j, j < n ∧ a = nI j) := by
  rcases pk_ix a (n := n) (by omega) with h | h | ⟨j, h, rfl⟩
  · left; rw [if_pos h]
  · left
    by_cases h0 : a < 0
    · rw [if_pos h0]
    · rw [if_neg h0, if_pos h]
  · right
    rw [if_neg (nI_nlt0 (by omega)), if_neg (nI_ge h (by omega))]
    exact ⟨rfl, j, h, rfl⟩
theorem in_lit (a : Int32) {lo hi : Nat} (h : hi < 2147483648) (hlo : lo ≤ hi) : f_B_in a (nI lo) (nI hi) = 0 ∨ (f_B_in a (nI lo) (nI hi) = 1 ∧ ∃ j, lo ≤ j ∧ j ≤ hi ∧ a = nI j) := by
  unfold f_B_in
  by_cases h1 : a < nI lo
  · left; rw [if_pos h1]
  · rw [if_neg h1]
    by_cases h2 : nI hi < a
    · left; rw [if_pos h2]
    · right
      rw [if_neg h2]
      have e1 : ¬ a < 0 := fun h0 => h1 (Int32.lt_of_lt_of_le h0 (nI_le0 (by omega)))
      obtain ⟨j, hj, rfl⟩ := nI_of e1
      refine ⟨rfl, j, ?_, ?_, rfl⟩
      · exact Nat.not_lt.mp fun q => h1 (nI_lt q (by omega))
      · exact Nat.not_lt.mp fun q => h2 (nI_lt q (by omega))
theorem wi_in (a b c : Int32) : f_A_isWithin a b c = f_B_in a b c := rfl
