theorem gw_x {x : Int32} {k : Int} (h : ¬ x = Int32.ofInt k) (hk : Int32.minValue.toInt ≤ k ∧ k ≤ Int32.maxValue.toInt) : x.toInt ≠ k := fun e => h (by rw [← e]; exact (Int32.ofInt_toInt x).symm)
theorem gw_out4 {x : Int32} (h0 : ¬ x = (0 : Int32)) (h1 : ¬ x = (1 : Int32)) (h2 : ¬ x = (2 : Int32)) (h3 : ¬ x = (3 : Int32)) (h4 : ¬ x = (4 : Int32)) : x.toInt < 0 ∨ 4 < x.toInt := by
  have g0 : x.toInt ≠ 0 := gw_x (k := 0) h0 (by decide)
  have g1 : x.toInt ≠ 1 := gw_x (k := 1) h1 (by decide)
  have g2 : x.toInt ≠ 2 := gw_x (k := 2) h2 (by decide)
  have g3 : x.toInt ≠ 3 := gw_x (k := 3) h3 (by decide)
  have g4 : x.toInt ≠ 4 := gw_x (k := 4) h4 (by decide)
  omega
theorem gw_out5 {x : Int32} (h0 : ¬ x = (0 : Int32)) (h1 : ¬ x = (1 : Int32)) (h2 : ¬ x = (2 : Int32)) (h3 : ¬ x = (3 : Int32)) (h4 : ¬ x = (4 : Int32)) (h5 : ¬ x = (5 : Int32)) : x.toInt < 0 ∨ 5 < x.toInt := by
  have g0 : x.toInt ≠ 0 := gw_x (k := 0) h0 (by decide)
  have g1 : x.toInt ≠ 1 := gw_x (k := 1) h1 (by decide)
  have g2 : x.toInt ≠ 2 := gw_x (k := 2) h2 (by decide)
  have g3 : x.toInt ≠ 3 := gw_x (k := 3) h3 (by decide)
  have g4 : x.toInt ≠ 4 := gw_x (k := 4) h4 (by decide)
  have g5 : x.toInt ≠ 5 := gw_x (k := 5) h5 (by decide)
  omega
theorem gw_out6 {x : Int32} (h0 : ¬ x = (0 : Int32)) (h1 : ¬ x = (1 : Int32)) (h2 : ¬ x = (2 : Int32)) (h3 : ¬ x = (3 : Int32)) (h4 : ¬ x = (4 : Int32)) (h5 : ¬ x = (5 : Int32)) (h6 : ¬ x = (6 : Int32)) : x.toInt < 0 ∨ 6 < x.toInt := by
  have g0 : x.toInt ≠ 0 := gw_x (k := 0) h0 (by decide)
  have g1 : x.toInt ≠ 1 := gw_x (k := 1) h1 (by decide)
  have g2 : x.toInt ≠ 2 := gw_x (k := 2) h2 (by decide)
  have g3 : x.toInt ≠ 3 := gw_x (k := 3) h3 (by decide)
  have g4 : x.toInt ≠ 4 := gw_x (k := 4) h4 (by decide)
  have g5 : x.toInt ≠ 5 := gw_x (k := 5) h5 (by decide)
  have g6 : x.toInt ≠ 6 := gw_x (k := 6) h6 (by decide)
  omega
theorem lk_A_65 : gw_LV "AidRows" "AidRows$Houses" 65 yHo_isFull cHo_isFull 1 (some .boolean) 0 := ⟨mw_295, mw_296, mw_297, mw_2, mw_298, ⟨by decide +kernel, by decide +kernel, by decide +kernel⟩⟩
theorem lk_A_74 : gw_LV "AidRows" "AidRows$Houses" 74 yHo_add cHo_add 3 (some .int) 2 := ⟨mw_315, mw_316, mw_317, mw_2, mw_318, ⟨by decide +kernel, by decide +kernel, by decide +kernel⟩⟩
theorem lk_A_78 : gw_LV "AidRows" "AidRows$Houses" 78 yHo_has cHo_has 2 (some .boolean) 1 := ⟨mw_328, mw_329, mw_330, mw_2, mw_331, ⟨by decide +kernel, by decide +kernel, by decide +kernel⟩⟩
theorem lk_A_87 : gw_LS "AidRows" 87 yA_isSpan cA_isSpan 2 (some .boolean) 2 := ⟨mw_348, mw_349, mw_1, mw_350, ⟨by decide +kernel, by decide +kernel, by decide +kernel⟩⟩
theorem lk_A_91 : gw_LS "AidRows" 91 yA_isHours cA_isHours 1 (some .boolean) 1 := ⟨mw_352, mw_353, mw_1, mw_354, ⟨by decide +kernel, by decide +kernel, by decide +kernel⟩⟩
theorem lk_A_96 : gw_LV "AidRows" "AidRows$Agreements" 96 yAg_meetAny cAg_meetAny 6 (some .boolean) 4 := ⟨mw_356, mw_357, mw_358, mw_3, mw_359, ⟨by decide +kernel, by decide +kernel, by decide +kernel⟩⟩
theorem lk_A_105 : gw_LV "AidRows" "AidRows$Agreements" 105 yAg_isFull cAg_isFull 1 (some .boolean) 0 := ⟨mw_376, mw_377, mw_378, mw_3, mw_379, ⟨by decide +kernel, by decide +kernel, by decide +kernel⟩⟩
theorem lk_A_108 : gw_LV "AidRows" "AidRows$Agreements" 108 yAg_add cAg_add 7 (some .int) 6 := ⟨mw_381, mw_382, mw_383, mw_3, mw_384, ⟨by decide +kernel, by decide +kernel, by decide +kernel⟩⟩
theorem lk_A_186 : gw_LV "AidRows" "AidRows$Loans" 186 yLo_has cLo_has 2 (some .boolean) 1 := ⟨mw_560, mw_561, mw_562, mw_5, mw_563, ⟨by decide +kernel, by decide +kernel, by decide +kernel⟩⟩
theorem lk_A_240 : gw_LS "AidRows" 240 yA_isCall cA_isCall 1 (some .boolean) 1 := ⟨mw_610, mw_611, mw_1, mw_612, ⟨by decide +kernel, by decide +kernel, by decide +kernel⟩⟩
theorem lk_A_249 : gw_LV "AidRows" "AidRows$Loans" 249 yLo_lent cLo_lent 3 (some .int) 0 := ⟨mw_630, mw_631, mw_632, mw_5, mw_633, ⟨by decide +kernel, by decide +kernel, by decide +kernel⟩⟩
theorem lk_A_252 : gw_LV "AidRows" "AidRows$Asks" 252 yAs_open cAs_open 3 (some .int) 0 := ⟨mw_634, mw_635, mw_636, mw_4, mw_637, ⟨by decide +kernel, by decide +kernel, by decide +kernel⟩⟩
theorem lk_A_128 : gw_LS "AidRows" 128 yA_isNumber cA_isNumber 1 (some .boolean) 1 := ⟨mw_443, mw_444, mw_1, mw_445, ⟨by decide +kernel, by decide +kernel, by decide +kernel⟩⟩
theorem lk_A_141 : gw_LV "AidRows" "AidRows$Numbers" 141 yNu_stateOf cNu_stateOf 4 (some .int) 2 := ⟨mw_447, mw_448, mw_449, mw_6, mw_450, ⟨by decide +kernel, by decide +kernel, by decide +kernel⟩⟩
theorem lk_A_125 : gw_LV "AidRows" "AidRows$Asks" 125 yAs_has cAs_has 2 (some .boolean) 1 := ⟨mw_438, mw_439, mw_440, mw_4, mw_441, ⟨by decide +kernel, by decide +kernel, by decide +kernel⟩⟩
theorem lk_A_211 : gw_LV "AidRows" "AidRows$Asks" 211 yAs_visits cAs_visits 2 (some .int) 1 := ⟨mw_574, mw_575, mw_576, mw_4, mw_577, ⟨by decide +kernel, by decide +kernel, by decide +kernel⟩⟩
theorem lk_A_231 : gw_LV "AidRows" "AidRows" 231 yA_costOfLoan cA_costOfLoan 5 (some .int) 1 := ⟨mw_592, mw_594, ms_12, mw_1, mw_595, ⟨by decide +kernel, by decide +kernel, by decide +kernel⟩⟩
theorem lk_A_115 : gw_LV "AidRows" "AidRows$Asks" 115 yAs_isFull cAs_isFull 1 (some .boolean) 0 := ⟨mw_394, mw_395, mw_396, mw_4, mw_397, ⟨by decide +kernel, by decide +kernel, by decide +kernel⟩⟩
theorem lk_A_118 : gw_LV "AidRows" "AidRows$Asks" 118 yAs_add cAs_add 4 (some .int) 3 := ⟨mw_399, mw_400, mw_401, mw_4, mw_402, ⟨by decide +kernel, by decide +kernel, by decide +kernel⟩⟩
theorem lk_A_174 : gw_LV "AidRows" "AidRows" 174 yA_nextEvent cA_nextEvent 4 (some .int) 1 := ⟨mw_527, mw_529, ms_9, mw_1, mw_530, ⟨by decide +kernel, by decide +kernel, by decide +kernel⟩⟩
theorem lk_A_178 : gw_LV "AidRows" "AidRows" 178 yA_endLoansWithAgreements cA_endLoansWithAgreements 2 (none) 0 := ⟨mw_537, mw_539, ms_10, mw_1, mw_540, ⟨by decide +kernel, by decide +kernel, by decide +kernel⟩⟩
theorem lk_A_181 : gw_LV "AidRows" "AidRows" 181 yA_sendOnImpatientAsks cA_sendOnImpatientAsks 3 (some .int) 0 := ⟨mw_541, mw_543, ms_11, mw_1, mw_544, ⟨by decide +kernel, by decide +kernel, by decide +kernel⟩⟩
theorem lk_A_156 : gw_LV "AidRows" "AidRows$Numbers" 156 yNu_keep cNu_keep 5 (none) 3 := ⟨mw_489, mw_490, mw_491, mw_6, mw_492, ⟨by decide +kernel, by decide +kernel, by decide +kernel⟩⟩
theorem lk_A_160 : gw_LV "AidRows" "AidRows" 160 yA_take cA_take 5 (none) 4 := ⟨mw_493, mw_495, ms_6, mw_1, mw_496, ⟨by decide +kernel, by decide +kernel, by decide +kernel⟩⟩
theorem lk_A_147 : gw_LV "AidRows" "AidRows" 147 yA_judge cA_judge 5 (some .int) 3 := ⟨mw_457, mw_459, ms_4, mw_1, mw_460, ⟨by decide +kernel, by decide +kernel, by decide +kernel⟩⟩
theorem lk_A_150 : gw_LV "AidRows" "AidRows$Loans" 150 yLo_room cLo_room 1 (some .int) 0 := ⟨mw_484, mw_485, mw_486, mw_5, mw_487, ⟨by decide +kernel, by decide +kernel, by decide +kernel⟩⟩
