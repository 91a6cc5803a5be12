theorem goes_ok {N : Nat} (hN : 6 ≤ N) (v : StB) (k a2 a3 a4 a5 : Int32) (h2 : a2 ≠ 0) (h3 : a3 ≠ 0) (h4 : a4 ≠ 0) (h5 : a5 ≠ 0) : f_B_goes N v k a2 a3 a4 a5 = some (1, bF v 0 0) := by
  obtain ⟨n, rfl⟩ : ∃ n, N = n + 6 := ⟨N - 6, by omega⟩
  unfold f_B_goes
  rw [if_neg h2, if_neg h3, if_neg h4, if_neg h5, f_B_goes_46, if_pos (by decide), if_pos rfl]
theorem goes_1_1 {N : Nat} (hN : 6 ≤ N) (v : StB) (a2 a3 a4 a5 : Int32)  (h2 : a2 = 0) : f_B_goes N v 1 a2 a3 a4 a5 = some (0, bF v 0 1) := by
  obtain ⟨n, rfl⟩ : ∃ n, N = n + 6 := ⟨N - 6, by omega⟩
  unfold f_B_goes
  rw [if_pos h2]
  rw [f_B_goes_46, if_neg (by decide), if_neg (by decide)]
  rw [f_B_goes_46, if_pos (by decide), if_neg (by decide)]
  simp only [bF_bF]
  try rfl
theorem goes_1_2 {N : Nat} (hN : 6 ≤ N) (v : StB) (a2 a3 a4 a5 : Int32) (h2 : a2 ≠ 0) (h3 : a3 = 0) : f_B_goes N v 1 a2 a3 a4 a5 = some (0, bF v 0 1) := by
  obtain ⟨n, rfl⟩ : ∃ n, N = n + 6 := ⟨N - 6, by omega⟩
  unfold f_B_goes
  rw [if_neg h2, if_pos h3]
  rw [f_B_goes_46, if_neg (by decide), if_neg (by decide)]
  rw [f_B_goes_46, if_neg (by decide), if_pos (by decide)]
  rw [f_B_goes_46, if_pos (by decide), if_neg (by decide)]
  simp only [bF_bF]
  try rfl
theorem goes_1_4 {N : Nat} (hN : 6 ≤ N) (v : StB) (a2 a3 a4 a5 : Int32) (h2 : a2 ≠ 0) (h3 : a3 ≠ 0) (h4 : a4 = 0) : f_B_goes N v 1 a2 a3 a4 a5 = some (0, bF v 0 1) := by
  obtain ⟨n, rfl⟩ : ∃ n, N = n + 6 := ⟨N - 6, by omega⟩
  unfold f_B_goes
  rw [if_neg h2, if_neg h3, if_pos h4]
  rw [f_B_goes_46, if_neg (by decide), if_neg (by decide)]
  rw [f_B_goes_46, if_neg (by decide), if_pos (by decide)]
  rw [f_B_goes_46, if_neg (by decide), if_pos (by decide)]
  rw [f_B_goes_46, if_pos (by decide), if_neg (by decide)]
  simp only [bF_bF]
  try rfl
theorem goes_1_8 {N : Nat} (hN : 6 ≤ N) (v : StB) (a2 a3 a4 a5 : Int32) (h2 : a2 ≠ 0) (h3 : a3 ≠ 0) (h4 : a4 ≠ 0) (h5 : a5 = 0) : f_B_goes N v 1 a2 a3 a4 a5 = some (0, bF v 0 1) := by
  obtain ⟨n, rfl⟩ : ∃ n, N = n + 6 := ⟨N - 6, by omega⟩
  unfold f_B_goes
  rw [if_neg h2, if_neg h3, if_neg h4, if_pos h5]
  rw [f_B_goes_46, if_neg (by decide), if_neg (by decide)]
  rw [f_B_goes_46, if_neg (by decide), if_pos (by decide)]
  rw [f_B_goes_46, if_neg (by decide), if_pos (by decide)]
  rw [f_B_goes_46, if_neg (by decide), if_pos (by decide)]
  rw [f_B_goes_46, if_pos (by decide), if_neg (by decide)]
  simp only [bF_bF]
  try rfl
theorem goes_2_1 {N : Nat} (hN : 6 ≤ N) (v : StB) (a2 a3 a4 a5 : Int32)  (h2 : a2 = 0) : f_B_goes N v 2 a2 a3 a4 a5 = some (0, bF v 0 0) := by
  obtain ⟨n, rfl⟩ : ∃ n, N = n + 6 := ⟨N - 6, by omega⟩
  unfold f_B_goes
  rw [if_pos h2]
  rw [f_B_goes_46, if_neg (by decide), if_pos (by decide)]
  rw [f_B_goes_46, if_pos (by decide), if_neg (by decide)]
  try rfl
theorem goes_2_2 {N : Nat} (hN : 6 ≤ N) (v : StB) (a2 a3 a4 a5 : Int32) (h2 : a2 ≠ 0) (h3 : a3 = 0) : f_B_goes N v 2 a2 a3 a4 a5 = some (0, bF v 0 1) := by
  obtain ⟨n, rfl⟩ : ∃ n, N = n + 6 := ⟨N - 6, by omega⟩
  unfold f_B_goes
  rw [if_neg h2, if_pos h3]
  rw [f_B_goes_46, if_neg (by decide), if_pos (by decide)]
  rw [f_B_goes_46, if_neg (by decide), if_neg (by decide)]
  rw [f_B_goes_46, if_pos (by decide), if_neg (by decide)]
  simp only [bF_bF]
  try rfl
theorem goes_2_4 {N : Nat} (hN : 6 ≤ N) (v : StB) (a2 a3 a4 a5 : Int32) (h2 : a2 ≠ 0) (h3 : a3 ≠ 0) (h4 : a4 = 0) : f_B_goes N v 2 a2 a3 a4 a5 = some (0, bF v 0 1) := by
  obtain ⟨n, rfl⟩ : ∃ n, N = n + 6 := ⟨N - 6, by omega⟩
  unfold f_B_goes
  rw [if_neg h2, if_neg h3, if_pos h4]
  rw [f_B_goes_46, if_neg (by decide), if_pos (by decide)]
  rw [f_B_goes_46, if_neg (by decide), if_neg (by decide)]
  rw [f_B_goes_46, if_neg (by decide), if_pos (by decide)]
  rw [f_B_goes_46, if_pos (by decide), if_neg (by decide)]
  simp only [bF_bF]
  try rfl
theorem goes_2_8 {N : Nat} (hN : 6 ≤ N) (v : StB) (a2 a3 a4 a5 : Int32) (h2 : a2 ≠ 0) (h3 : a3 ≠ 0) (h4 : a4 ≠ 0) (h5 : a5 = 0) : f_B_goes N v 2 a2 a3 a4 a5 = some (0, bF v 0 1) := by
  obtain ⟨n, rfl⟩ : ∃ n, N = n + 6 := ⟨N - 6, by omega⟩
  unfold f_B_goes
  rw [if_neg h2, if_neg h3, if_neg h4, if_pos h5]
  rw [f_B_goes_46, if_neg (by decide), if_pos (by decide)]
  rw [f_B_goes_46, if_neg (by decide), if_neg (by decide)]
  rw [f_B_goes_46, if_neg (by decide), if_pos (by decide)]
  rw [f_B_goes_46, if_neg (by decide), if_pos (by decide)]
  rw [f_B_goes_46, if_pos (by decide), if_neg (by decide)]
  simp only [bF_bF]
  try rfl
theorem goes_3_1 {N : Nat} (hN : 6 ≤ N) (v : StB) (a2 a3 a4 a5 : Int32)  (h2 : a2 = 0) : f_B_goes N v 3 a2 a3 a4 a5 = some (0, bF v 0 1) := by
  obtain ⟨n, rfl⟩ : ∃ n, N = n + 6 := ⟨N - 6, by omega⟩
  unfold f_B_goes
  rw [if_pos h2]
  rw [f_B_goes_46, if_neg (by decide), if_neg (by decide)]
  rw [f_B_goes_46, if_pos (by decide), if_neg (by decide)]
  simp only [bF_bF]
  try rfl
theorem goes_3_2 {N : Nat} (hN : 6 ≤ N) (v : StB) (a2 a3 a4 a5 : Int32) (h2 : a2 ≠ 0) (h3 : a3 = 0) : f_B_goes N v 3 a2 a3 a4 a5 = some (0, bF v 0 2) := by
  obtain ⟨n, rfl⟩ : ∃ n, N = n + 6 := ⟨N - 6, by omega⟩
  unfold f_B_goes
  rw [if_neg h2, if_pos h3]
  rw [f_B_goes_46, if_neg (by decide), if_neg (by decide)]
  rw [f_B_goes_46, if_neg (by decide), if_neg (by decide)]
  rw [f_B_goes_46, if_pos (by decide), if_neg (by decide)]
  simp only [bF_bF]
  try rfl
theorem goes_3_4 {N : Nat} (hN : 6 ≤ N) (v : StB) (a2 a3 a4 a5 : Int32) (h2 : a2 ≠ 0) (h3 : a3 ≠ 0) (h4 : a4 = 0) : f_B_goes N v 3 a2 a3 a4 a5 = some (0, bF v 0 2) := by
  obtain ⟨n, rfl⟩ : ∃ n, N = n + 6 := ⟨N - 6, by omega⟩
  unfold f_B_goes
  rw [if_neg h2, if_neg h3, if_pos h4]
  rw [f_B_goes_46, if_neg (by decide), if_neg (by decide)]
  rw [f_B_goes_46, if_neg (by decide), if_neg (by decide)]
  rw [f_B_goes_46, if_neg (by decide), if_pos (by decide)]
  rw [f_B_goes_46, if_pos (by decide), if_neg (by decide)]
  simp only [bF_bF]
  try rfl
theorem goes_3_8 {N : Nat} (hN : 6 ≤ N) (v : StB) (a2 a3 a4 a5 : Int32) (h2 : a2 ≠ 0) (h3 : a3 ≠ 0) (h4 : a4 ≠ 0) (h5 : a5 = 0) : f_B_goes N v 3 a2 a3 a4 a5 = some (0, bF v 0 2) := by
  obtain ⟨n, rfl⟩ : ∃ n, N = n + 6 := ⟨N - 6, by omega⟩
  unfold f_B_goes
  rw [if_neg h2, if_neg h3, if_neg h4, if_pos h5]
  rw [f_B_goes_46, if_neg (by decide), if_neg (by decide)]
  rw [f_B_goes_46, if_neg (by decide), if_neg (by decide)]
  rw [f_B_goes_46, if_neg (by decide), if_pos (by decide)]
  rw [f_B_goes_46, if_neg (by decide), if_pos (by decide)]
  rw [f_B_goes_46, if_pos (by decide), if_neg (by decide)]
  simp only [bF_bF]
  try rfl
theorem goes_5_1 {N : Nat} (hN : 6 ≤ N) (v : StB) (a2 a3 a4 a5 : Int32)  (h2 : a2 = 0) : f_B_goes N v 5 a2 a3 a4 a5 = some (0, bF v 0 1) := by
  obtain ⟨n, rfl⟩ : ∃ n, N = n + 6 := ⟨N - 6, by omega⟩
  unfold f_B_goes
  rw [if_pos h2]
  rw [f_B_goes_46, if_neg (by decide), if_neg (by decide)]
  rw [f_B_goes_46, if_pos (by decide), if_neg (by decide)]
  simp only [bF_bF]
  try rfl
theorem goes_5_2 {N : Nat} (hN : 6 ≤ N) (v : StB) (a2 a3 a4 a5 : Int32) (h2 : a2 ≠ 0) (h3 : a3 = 0) : f_B_goes N v 5 a2 a3 a4 a5 = some (0, bF v 0 1) := by
  obtain ⟨n, rfl⟩ : ∃ n, N = n + 6 := ⟨N - 6, by omega⟩
  unfold f_B_goes
  rw [if_neg h2, if_pos h3]
  rw [f_B_goes_46, if_neg (by decide), if_neg (by decide)]
  rw [f_B_goes_46, if_neg (by decide), if_pos (by decide)]
  rw [f_B_goes_46, if_pos (by decide), if_neg (by decide)]
  simp only [bF_bF]
  try rfl
theorem goes_5_4 {N : Nat} (hN : 6 ≤ N) (v : StB) (a2 a3 a4 a5 : Int32) (h2 : a2 ≠ 0) (h3 : a3 ≠ 0) (h4 : a4 = 0) : f_B_goes N v 5 a2 a3 a4 a5 = some (0, bF v 0 2) := by
  obtain ⟨n, rfl⟩ : ∃ n, N = n + 6 := ⟨N - 6, by omega⟩
  unfold f_B_goes
  rw [if_neg h2, if_neg h3, if_pos h4]
  rw [f_B_goes_46, if_neg (by decide), if_neg (by decide)]
  rw [f_B_goes_46, if_neg (by decide), if_pos (by decide)]
  rw [f_B_goes_46, if_neg (by decide), if_neg (by decide)]
  rw [f_B_goes_46, if_pos (by decide), if_neg (by decide)]
  simp only [bF_bF]
  try rfl
theorem goes_5_8 {N : Nat} (hN : 6 ≤ N) (v : StB) (a2 a3 a4 a5 : Int32) (h2 : a2 ≠ 0) (h3 : a3 ≠ 0) (h4 : a4 ≠ 0) (h5 : a5 = 0) : f_B_goes N v 5 a2 a3 a4 a5 = some (0, bF v 0 2) := by
  obtain ⟨n, rfl⟩ : ∃ n, N = n + 6 := ⟨N - 6, by omega⟩
  unfold f_B_goes
  rw [if_neg h2, if_neg h3, if_neg h4, if_pos h5]
  rw [f_B_goes_46, if_neg (by decide), if_neg (by decide)]
  rw [f_B_goes_46, if_neg (by decide), if_pos (by decide)]
  rw [f_B_goes_46, if_neg (by decide), if_neg (by decide)]
  rw [f_B_goes_46, if_neg (by decide), if_pos (by decide)]
  rw [f_B_goes_46, if_pos (by decide), if_neg (by decide)]
  simp only [bF_bF]
  try rfl
theorem goes_10_1 {N : Nat} (hN : 6 ≤ N) (v : StB) (a2 a3 a4 a5 : Int32)  (h2 : a2 = 0) : f_B_goes N v 10 a2 a3 a4 a5 = some (0, bF v 0 0) := by
  obtain ⟨n, rfl⟩ : ∃ n, N = n + 6 := ⟨N - 6, by omega⟩
  unfold f_B_goes
  rw [if_pos h2]
  rw [f_B_goes_46, if_neg (by decide), if_pos (by decide)]
  rw [f_B_goes_46, if_pos (by decide), if_neg (by decide)]
  try rfl
theorem goes_10_2 {N : Nat} (hN : 6 ≤ N) (v : StB) (a2 a3 a4 a5 : Int32) (h2 : a2 ≠ 0) (h3 : a3 = 0) : f_B_goes N v 10 a2 a3 a4 a5 = some (0, bF v 0 1) := by
  obtain ⟨n, rfl⟩ : ∃ n, N = n + 6 := ⟨N - 6, by omega⟩
  unfold f_B_goes
  rw [if_neg h2, if_pos h3]
  rw [f_B_goes_46, if_neg (by decide), if_pos (by decide)]
  rw [f_B_goes_46, if_neg (by decide), if_neg (by decide)]
  rw [f_B_goes_46, if_pos (by decide), if_neg (by decide)]
  simp only [bF_bF]
  try rfl
theorem goes_10_4 {N : Nat} (hN : 6 ≤ N) (v : StB) (a2 a3 a4 a5 : Int32) (h2 : a2 ≠ 0) (h3 : a3 ≠ 0) (h4 : a4 = 0) : f_B_goes N v 10 a2 a3 a4 a5 = some (0, bF v 0 1) := by
  obtain ⟨n, rfl⟩ : ∃ n, N = n + 6 := ⟨N - 6, by omega⟩
  unfold f_B_goes
  rw [if_neg h2, if_neg h3, if_pos h4]
  rw [f_B_goes_46, if_neg (by decide), if_pos (by decide)]
  rw [f_B_goes_46, if_neg (by decide), if_neg (by decide)]
  rw [f_B_goes_46, if_neg (by decide), if_pos (by decide)]
  rw [f_B_goes_46, if_pos (by decide), if_neg (by decide)]
  simp only [bF_bF]
  try rfl
theorem goes_10_8 {N : Nat} (hN : 6 ≤ N) (v : StB) (a2 a3 a4 a5 : Int32) (h2 : a2 ≠ 0) (h3 : a3 ≠ 0) (h4 : a4 ≠ 0) (h5 : a5 = 0) : f_B_goes N v 10 a2 a3 a4 a5 = some (0, bF v 0 2) := by
  obtain ⟨n, rfl⟩ : ∃ n, N = n + 6 := ⟨N - 6, by omega⟩
  unfold f_B_goes
  rw [if_neg h2, if_neg h3, if_neg h4, if_pos h5]
  rw [f_B_goes_46, if_neg (by decide), if_pos (by decide)]
  rw [f_B_goes_46, if_neg (by decide), if_neg (by decide)]
  rw [f_B_goes_46, if_neg (by decide), if_pos (by decide)]
  rw [f_B_goes_46, if_neg (by decide), if_neg (by decide)]
  rw [f_B_goes_46, if_pos (by decide), if_neg (by decide)]
  simp only [bF_bF]
  try rfl
theorem goes_11_1 {N : Nat} (hN : 6 ≤ N) (v : StB) (a2 a3 a4 a5 : Int32)  (h2 : a2 = 0) : f_B_goes N v 11 a2 a3 a4 a5 = some (0, bF v 0 1) := by
  obtain ⟨n, rfl⟩ : ∃ n, N = n + 6 := ⟨N - 6, by omega⟩
  unfold f_B_goes
  rw [if_pos h2]
  rw [f_B_goes_46, if_neg (by decide), if_neg (by decide)]
  rw [f_B_goes_46, if_pos (by decide), if_neg (by decide)]
  simp only [bF_bF]
  try rfl
theorem goes_11_2 {N : Nat} (hN : 6 ≤ N) (v : StB) (a2 a3 a4 a5 : Int32) (h2 : a2 ≠ 0) (h3 : a3 = 0) : f_B_goes N v 11 a2 a3 a4 a5 = some (0, bF v 0 2) := by
  obtain ⟨n, rfl⟩ : ∃ n, N = n + 6 := ⟨N - 6, by omega⟩
  unfold f_B_goes
  rw [if_neg h2, if_pos h3]
  rw [f_B_goes_46, if_neg (by decide), if_neg (by decide)]
  rw [f_B_goes_46, if_neg (by decide), if_neg (by decide)]
  rw [f_B_goes_46, if_pos (by decide), if_neg (by decide)]
  simp only [bF_bF]
  try rfl
theorem goes_11_4 {N : Nat} (hN : 6 ≤ N) (v : StB) (a2 a3 a4 a5 : Int32) (h2 : a2 ≠ 0) (h3 : a3 ≠ 0) (h4 : a4 = 0) : f_B_goes N v 11 a2 a3 a4 a5 = some (0, bF v 0 2) := by
  obtain ⟨n, rfl⟩ : ∃ n, N = n + 6 := ⟨N - 6, by omega⟩
  unfold f_B_goes
  rw [if_neg h2, if_neg h3, if_pos h4]
  rw [f_B_goes_46, if_neg (by decide), if_neg (by decide)]
  rw [f_B_goes_46, if_neg (by decide), if_neg (by decide)]
  rw [f_B_goes_46, if_neg (by decide), if_pos (by decide)]
  rw [f_B_goes_46, if_pos (by decide), if_neg (by decide)]
  simp only [bF_bF]
  try rfl
theorem goes_11_8 {N : Nat} (hN : 6 ≤ N) (v : StB) (a2 a3 a4 a5 : Int32) (h2 : a2 ≠ 0) (h3 : a3 ≠ 0) (h4 : a4 ≠ 0) (h5 : a5 = 0) : f_B_goes N v 11 a2 a3 a4 a5 = some (0, bF v 0 3) := by
  obtain ⟨n, rfl⟩ : ∃ n, N = n + 6 := ⟨N - 6, by omega⟩
  unfold f_B_goes
  rw [if_neg h2, if_neg h3, if_neg h4, if_pos h5]
  rw [f_B_goes_46, if_neg (by decide), if_neg (by decide)]
  rw [f_B_goes_46, if_neg (by decide), if_neg (by decide)]
  rw [f_B_goes_46, if_neg (by decide), if_pos (by decide)]
  rw [f_B_goes_46, if_neg (by decide), if_neg (by decide)]
  rw [f_B_goes_46, if_pos (by decide), if_neg (by decide)]
  simp only [bF_bF]
  try rfl
theorem goes_15_1 {N : Nat} (hN : 6 ≤ N) (v : StB) (a2 a3 a4 a5 : Int32)  (h2 : a2 = 0) : f_B_goes N v 15 a2 a3 a4 a5 = some (0, bF v 0 1) := by
  obtain ⟨n, rfl⟩ : ∃ n, N = n + 6 := ⟨N - 6, by omega⟩
  unfold f_B_goes
  rw [if_pos h2]
  rw [f_B_goes_46, if_neg (by decide), if_neg (by decide)]
  rw [f_B_goes_46, if_pos (by decide), if_neg (by decide)]
  simp only [bF_bF]
  try rfl
theorem goes_15_2 {N : Nat} (hN : 6 ≤ N) (v : StB) (a2 a3 a4 a5 : Int32) (h2 : a2 ≠ 0) (h3 : a3 = 0) : f_B_goes N v 15 a2 a3 a4 a5 = some (0, bF v 0 2) := by
  obtain ⟨n, rfl⟩ : ∃ n, N = n + 6 := ⟨N - 6, by omega⟩
  unfold f_B_goes
  rw [if_neg h2, if_pos h3]
  rw [f_B_goes_46, if_neg (by decide), if_neg (by decide)]
  rw [f_B_goes_46, if_neg (by decide), if_neg (by decide)]
  rw [f_B_goes_46, if_pos (by decide), if_neg (by decide)]
  simp only [bF_bF]
  try rfl
theorem goes_15_4 {N : Nat} (hN : 6 ≤ N) (v : StB) (a2 a3 a4 a5 : Int32) (h2 : a2 ≠ 0) (h3 : a3 ≠ 0) (h4 : a4 = 0) : f_B_goes N v 15 a2 a3 a4 a5 = some (0, bF v 0 3) := by
  obtain ⟨n, rfl⟩ : ∃ n, N = n + 6 := ⟨N - 6, by omega⟩
  unfold f_B_goes
  rw [if_neg h2, if_neg h3, if_pos h4]
  rw [f_B_goes_46, if_neg (by decide), if_neg (by decide)]
  rw [f_B_goes_46, if_neg (by decide), if_neg (by decide)]
  rw [f_B_goes_46, if_neg (by decide), if_neg (by decide)]
  rw [f_B_goes_46, if_pos (by decide), if_neg (by decide)]
  simp only [bF_bF]
  try rfl
theorem goes_15_8 {N : Nat} (hN : 6 ≤ N) (v : StB) (a2 a3 a4 a5 : Int32) (h2 : a2 ≠ 0) (h3 : a3 ≠ 0) (h4 : a4 ≠ 0) (h5 : a5 = 0) : f_B_goes N v 15 a2 a3 a4 a5 = some (0, bF v 0 4) := by
  obtain ⟨n, rfl⟩ : ∃ n, N = n + 6 := ⟨N - 6, by omega⟩
  unfold f_B_goes
  rw [if_neg h2, if_neg h3, if_neg h4, if_pos h5]
  rw [f_B_goes_46, if_neg (by decide), if_neg (by decide)]
  rw [f_B_goes_46, if_neg (by decide), if_neg (by decide)]
  rw [f_B_goes_46, if_neg (by decide), if_neg (by decide)]
  rw [f_B_goes_46, if_neg (by decide), if_neg (by decide)]
  rw [f_B_goes_46, if_pos (by decide), if_neg (by decide)]
  simp only [bF_bF]
  try rfl
