theorem nb_B_in (a b c : Int32) : narrow .boolean (.int (f_B_in a b c)) = .int (f_B_in a b c) := by
  unfold f_B_in
  split
  · rfl
  · split <;> rfl
theorem lk_B_102 : gw_LS "AidRowsModel" 102 yB_in cB_in 3 (some .boolean) 3 := ⟨mw_762, mw_763, mw_8, mw_764, ⟨by decide +kernel, by decide +kernel, by decide +kernel⟩⟩
theorem lk_B_106 : gw_LV "AidRowsModel" "AidRowsModel" 106 yB_goes cB_goes 8 (some .boolean) 5 := ⟨mw_765, mw_767, ms_13, mw_8, mw_768, ⟨by decide +kernel, by decide +kernel, by decide +kernel⟩⟩
theorem lk_B_110 : gw_LV "AidRowsModel" "AidRowsModel" 110 yB_isHouse cB_isHouse 2 (some .boolean) 1 := ⟨mw_773, mw_775, ms_14, mw_8, mw_776, ⟨by decide +kernel, by decide +kernel, by decide +kernel⟩⟩
theorem lk_B_121 : gw_LV "AidRowsModel" "AidRowsModel" 121 yB_holds cB_holds 4 (some .boolean) 1 := ⟨mw_790, mw_792, ms_17, mw_8, mw_793, ⟨by decide +kernel, by decide +kernel, by decide +kernel⟩⟩
theorem lk_B_124 : gw_LV "AidRowsModel" "AidRowsModel" 124 yB_holding cB_holding 4 (some .int) 2 := ⟨mw_786, mw_788, ms_16, mw_8, mw_789, ⟨by decide +kernel, by decide +kernel, by decide +kernel⟩⟩
theorem lk_B_131 : gw_LV "AidRowsModel" "AidRowsModel" 131 yB_on cB_on 4 (none) 1 := ⟨mw_782, mw_784, ms_15, mw_8, mw_785, ⟨by decide +kernel, by decide +kernel, by decide +kernel⟩⟩
theorem lk_B_138 : gw_LV "AidRowsModel" "AidRowsModel" 138 yB_freeName cB_freeName 5 (some .int) 1 := ⟨mw_810, mw_812, ms_21, mw_8, mw_813, ⟨by decide +kernel, by decide +kernel, by decide +kernel⟩⟩
theorem lk_B_142 : gw_LV "AidRowsModel" "AidRowsModel" 142 yB_lent cB_lent 4 (some .int) 1 := ⟨mw_802, mw_804, ms_19, mw_8, mw_805, ⟨by decide +kernel, by decide +kernel, by decide +kernel⟩⟩
theorem lk_B_155 : gw_LV "AidRowsModel" "AidRowsModel" 155 yB_lend cB_lend 7 (none) 4 := ⟨mw_806, mw_808, ms_20, mw_8, mw_809, ⟨by decide +kernel, by decide +kernel, by decide +kernel⟩⟩
theorem lk_B_145 : gw_LV "AidRowsModel" "AidRowsModel" 145 yB_what cB_what 5 (some .int) 3 := ⟨mw_798, mw_800, ms_18, mw_8, mw_801, ⟨by decide +kernel, by decide +kernel, by decide +kernel⟩⟩
theorem lk_B_159 : gw_LV "AidRowsModel" "AidRowsModel" 159 yB_isLoan cB_isLoan 2 (some .boolean) 1 := ⟨mw_830, mw_832, ms_22, mw_8, mw_833, ⟨by decide +kernel, by decide +kernel, by decide +kernel⟩⟩
theorem lk_B_162 : gw_LV "AidRowsModel" "AidRowsModel" 162 yB_costOf cB_costOf 4 (some .int) 1 := ⟨mw_842, mw_844, ms_23, mw_8, mw_845, ⟨by decide +kernel, by decide +kernel, by decide +kernel⟩⟩
