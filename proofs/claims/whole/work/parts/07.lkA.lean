theorem nb_A_isWithin (a b c : Int32) : narrow .boolean (.int (f_A_isWithin a b c)) = .int (f_A_isWithin a b c) := by
  unfold f_A_isWithin
  split
  · rfl
  · split <;> rfl
theorem lk_A_54 : gw_LS "AidRows" 54 yA_isWithin cA_isWithin 3 (some .boolean) 3 := ⟨mw_223, mw_224, mw_1, mw_225, ⟨by decide +kernel, by decide +kernel, by decide +kernel⟩⟩
theorem lk_As_44 : gw_LV "AidRows$Asks" "AidRows$Asks" 44 yAs_isOpen cAs_isOpen 2 (some .boolean) 1 := ⟨mw_465, mw_466, mw_467, mw_4, mw_468, ⟨by decide +kernel, by decide +kernel, by decide +kernel⟩⟩
theorem lk_Lo_41 : gw_LV "AidRows$Loans" "AidRows$Loans" 41 yLo_isLent cLo_isLent 2 (some .boolean) 1 := ⟨mw_210, mw_211, mw_212, mw_5, mw_213, ⟨by decide +kernel, by decide +kernel, by decide +kernel⟩⟩
theorem lk_A_189 : gw_LV "AidRows" "AidRows$Loans" 189 yLo_isLent cLo_isLent 2 (some .boolean) 1 := ⟨mw_536, mw_211, mw_212, mw_5, mw_213, ⟨by decide +kernel, by decide +kernel, by decide +kernel⟩⟩
theorem lk_A_307 : gw_LV "AidRows" "AidRows$Asks" 307 yAs_isOpen cAs_isOpen 2 (some .boolean) 1 := ⟨mw_531, mw_466, mw_467, mw_4, mw_468, ⟨by decide +kernel, by decide +kernel, by decide +kernel⟩⟩
theorem lk_A_310 : gw_LV "AidRows" "AidRows$Asks" 310 yAs_patienceEnd cAs_patienceEnd 2 (some .int) 1 := ⟨mw_532, mw_533, mw_534, mw_4, mw_535, ⟨by decide +kernel, by decide +kernel, by decide +kernel⟩⟩
theorem lk_Ag_34 : gw_LV "AidRows$Agreements" "AidRows$Agreements" 34 yAg_holdsAt cAg_holdsAt 7 (some .boolean) 2 := ⟨mw_419, mw_421, ms_3, mw_3, mw_422, ⟨by decide +kernel, by decide +kernel, by decide +kernel⟩⟩
theorem lk_As_48 : gw_LS "AidRows$Asks" 48 yJI_bitCount cJI_bitCount 1 (some .int) 1 := ⟨mw_578, mw_579, mw_17, mw_580, ⟨by decide +kernel, by decide +kernel, by decide +kernel⟩⟩
theorem lk_Nu_15 : gw_LS "AidRows$Numbers" 15 yNu_placeOf cNu_placeOf 2 (some .int) 2 := ⟨mw_451, mw_452, mw_6, mw_453, ⟨by decide +kernel, by decide +kernel, by decide +kernel⟩⟩
theorem lk_Nu_19 : gw_LS "AidRows$Numbers" 19 yNu_shiftOf cNu_shiftOf 1 (some .int) 1 := ⟨mw_454, mw_455, mw_6, mw_456, ⟨by decide +kernel, by decide +kernel, by decide +kernel⟩⟩
theorem lk_A_237 : gw_LV "AidRows" "AidRows$Loans" 237 yLo_bearerOf cLo_bearerOf 3 (some .int) 1 := ⟨mw_206, mw_207, mw_208, mw_5, mw_209, ⟨by decide +kernel, by decide +kernel, by decide +kernel⟩⟩
theorem lk_A_269 : gw_LV "AidRows" "AidRows$Asks" 269 yAs_wasAt cAs_wasAt 3 (some .boolean) 2 := ⟨mw_411, mw_412, mw_413, mw_4, mw_414, ⟨by decide +kernel, by decide +kernel, by decide +kernel⟩⟩
theorem lk_A_275 : gw_LV "AidRows" "AidRows$Agreements" 275 yAg_holding cAg_holding 5 (some .int) 3 := ⟨mw_415, mw_416, mw_417, mw_3, mw_418, ⟨by decide +kernel, by decide +kernel, by decide +kernel⟩⟩
theorem lk_A_287 : gw_LV "AidRows" "AidRows$Asks" 287 yAs_wanting cAs_wanting 2 (some .int) 1 := ⟨mw_473, mw_474, mw_475, mw_4, mw_476, ⟨by decide +kernel, by decide +kernel, by decide +kernel⟩⟩
theorem lk_A_293 : gw_LV "AidRows" "AidRows$Loans" 293 yLo_lentUnder cLo_lentUnder 4 (some .int) 1 := ⟨mw_477, mw_478, mw_479, mw_5, mw_480, ⟨by decide +kernel, by decide +kernel, by decide +kernel⟩⟩
theorem lk_Lo_38 : gw_LV "AidRows$Loans" "AidRows$Loans" 38 yLo_bearerOf cLo_bearerOf 3 (some .int) 1 := ⟨mw_509, mw_207, mw_208, mw_5, mw_209, ⟨by decide +kernel, by decide +kernel, by decide +kernel⟩⟩
theorem lk_A_257 : gw_LV "AidRows" "AidRows" 257 yA_nextHouse cA_nextHouse 5 (some .int) 1 := ⟨mw_407, mw_409, ms_2, mw_1, mw_410, ⟨by decide +kernel, by decide +kernel, by decide +kernel⟩⟩
theorem lk_A_264 : gw_LV "AidRows" "AidRows$Asks" 264 yAs_move cAs_move 5 (none) 4 := ⟨mw_427, mw_428, mw_429, mw_4, mw_430, ⟨by decide +kernel, by decide +kernel, by decide +kernel⟩⟩
theorem lk_A_260 : gw_LV "AidRows" "AidRows$Asks" 260 yAs_close cAs_close 3 (none) 2 := ⟨mw_423, mw_424, mw_425, mw_4, mw_426, ⟨by decide +kernel, by decide +kernel, by decide +kernel⟩⟩
theorem lk_A_284 : gw_LV "AidRows" "AidRows" 284 yA_mostToTake cA_mostToTake 4 (some .int) 2 := ⟨mw_469, mw_471, ms_5, mw_1, mw_472, ⟨by decide +kernel, by decide +kernel, by decide +kernel⟩⟩
theorem lk_A_281 : gw_LV "AidRows" "AidRows$Asks" 281 yAs_isOpenAt cAs_isOpenAt 3 (some .boolean) 2 := ⟨mw_461, mw_462, mw_463, mw_4, mw_464, ⟨by decide +kernel, by decide +kernel, by decide +kernel⟩⟩
theorem lk_A_121 : gw_LV "AidRows" "AidRows" 121 yA_sendOn cA_sendOn 3 (none) 1 := ⟨mw_403, mw_405, ms_1, mw_1, mw_406, ⟨by decide +kernel, by decide +kernel, by decide +kernel⟩⟩
theorem lk_Lo_34 : gw_LV "AidRows$Loans" "AidRows$Loans" 34 yLo_freeName cLo_freeName 4 (some .int) 1 := ⟨mw_505, mw_507, ms_8, mw_5, mw_508, ⟨by decide +kernel, by decide +kernel, by decide +kernel⟩⟩
theorem lk_A_304 : gw_LV "AidRows" "AidRows$Loans" 304 yLo_add cLo_add 5 (none) 4 := ⟨mw_501, mw_502, mw_503, mw_5, mw_504, ⟨by decide +kernel, by decide +kernel, by decide +kernel⟩⟩
theorem lk_A_301 : gw_LV "AidRows" "AidRows" 301 yA_lend cA_lend 7 (none) 4 := ⟨mw_497, mw_499, ms_7, mw_1, mw_500, ⟨by decide +kernel, by decide +kernel, by decide +kernel⟩⟩
