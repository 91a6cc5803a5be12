set_option maxHeartbeats 4000000 in
set_option maxRecDepth 100000 in
theorem c_A_isWithin (l : Launch) (D : va_G) (ad : Nat → Nat) (cI cZ cJ : ClassId) (u : StA) (a1 : Int32) (a2 : Int32) (a3 : Int32) (r : Int32) (h : f_A_isWithin a1 a2 a3 = r) : gw_Ct l D vwCl (tA cI cZ cJ) (wA ad cI cZ cJ) yA_isWithin (Cond.code yA_isWithin cA_isWithin 3 (some .boolean) :: gG) ({ frames := 0, cells := 0, slots := 0, locals := 0 } : Room) [.int a1, .int a2, .int a3] u (some (.int r)) u := by
  refine gw_enter (by decide) (Nat.le_of_ble_eq_true rfl) ?_
  intro p e s m below meth c A hC hP hD hS ls hl
  obtain ⟨hx, hb, hr, hml, hG, hown, hlocks, hK, hA⟩ := id hC
  have hl : lv_has ls 3 [(0, .int a1), (1, .int a2), (2, .int a3)] := hl
  obtain ⟨H, hH⟩ : ∃ H, H = s.heap := ⟨_, rfl⟩
  obtain ⟨locs, hlocs⟩ : ∃ x : List Loc, x = [] := ⟨_, rfl⟩
  rw [← hlocs] at hS ⊢
  have hP : va_P D vwCl (wA ad cI cZ cJ u) H := by rw [hH]; exact hP
  have hS : va_S A s.heap H locs := by rw [hH]; exact hS
  suffices g : W p l e ({ frames := 0, cells := 0, slots := 0, locals := 0 } : Room) s m [.int a1, .int a2, .int a3].toArray below meth c H locs 0 0 (MQ below (gw_Q D vwCl (wA ad cI cZ cJ) A u (some (.int r))) [.int a1, .int a2, .int a3].toArray s 0 0 A) (F0 m 0 ls []) by rw [hH] at g; exact g
  unfold f_A_isWithin at h
  refine lv_iload_n hx hb dA_isWithin_0 rfl (lv_at hl 0 rfl) ?_
  refine lv_iload_n hx hb dA_isWithin_1 rfl (lv_at hl 1 rfl) ?_
  refine lv_icmp_lt (tgt := 14) hx hb dA_isWithin_2 (by decide) (fun hc => ?_) (fun hc => ?_)
  · rw [if_pos hc] at h
    refine lv_iconst (v := (0 : Int32)) hx hb dA_isWithin_14 (by decide) ?_
    subst h
    exact gw_zret hx hb hr (by first | rfl | exact nb_A_isWithin _ _ _) hlocks hP hD hS dA_isWithin_15
  · rw [if_neg hc] at h
    refine lv_iload_n hx hb dA_isWithin_5 rfl (lv_at hl 0 rfl) ?_
    refine lv_iload_n hx hb dA_isWithin_6 rfl (lv_at hl 2 rfl) ?_
    refine lv_icmp_gt (tgt := 14) hx hb dA_isWithin_7 (by decide) (fun hc => ?_) (fun hc => ?_)
    · rw [if_pos hc] at h
      refine lv_iconst (v := (0 : Int32)) hx hb dA_isWithin_14 (by decide) ?_
      subst h
      exact gw_zret hx hb hr (by first | rfl | exact nb_A_isWithin _ _ _) hlocks hP hD hS dA_isWithin_15
    · rw [if_neg hc] at h
      refine lv_iconst (v := (1 : Int32)) hx hb dA_isWithin_10 (by decide) ?_
      refine lv_goto (tgt := 15) hx hb dA_isWithin_11 (by decide) ?_
      subst h
      exact gw_zret hx hb hr (by first | rfl | exact nb_A_isWithin _ _ _) hlocks hP hD hS dA_isWithin_15
set_option maxHeartbeats 4000000 in
set_option maxRecDepth 100000 in
theorem c_A_isSpan (l : Launch) (D : va_G) (ad : Nat → Nat) (cI cZ cJ : ClassId) (u : StA) (a1 : Int32) (a2 : Int32) (r : Int32) (h : f_A_isSpan a1 a2 = r) : gw_Ct l D vwCl (tA cI cZ cJ) (wA ad cI cZ cJ) yA_isSpan (Cond.code yA_isSpan cA_isSpan 2 (some .boolean) :: gG) ({ frames := 0, cells := 0, slots := 0, locals := 0 } : Room) [.int a1, .int a2] u (some (.int r)) u := by
  refine gw_enter (by decide) (Nat.le_of_ble_eq_true rfl) ?_
  intro p e s m below meth c A hC hP hD hS ls hl
  obtain ⟨hx, hb, hr, hml, hG, hown, hlocks, hK, hA⟩ := id hC
  have hl : lv_has ls 2 [(0, .int a1), (1, .int a2)] := hl
  obtain ⟨H, hH⟩ : ∃ H, H = s.heap := ⟨_, rfl⟩
  obtain ⟨locs, hlocs⟩ : ∃ x : List Loc, x = [] := ⟨_, rfl⟩
  rw [← hlocs] at hS ⊢
  have hP : va_P D vwCl (wA ad cI cZ cJ u) H := by rw [hH]; exact hP
  have hS : va_S A s.heap H locs := by rw [hH]; exact hS
  suffices g : W p l e ({ frames := 0, cells := 0, slots := 0, locals := 0 } : Room) s m [.int a1, .int a2].toArray below meth c H locs 0 0 (MQ below (gw_Q D vwCl (wA ad cI cZ cJ) A u (some (.int r))) [.int a1, .int a2].toArray s 0 0 A) (F0 m 0 ls []) by rw [hH] at g; exact g
  unfold f_A_isSpan at h
  refine lv_iload_n hx hb dA_isSpan_0 rfl (lv_at hl 0 rfl) ?_
  refine lv_if_lt (tgt := 19) hx hb dA_isSpan_1 (by decide) (fun hc => ?_) (fun hc => ?_)
  · rw [if_pos hc] at h
    refine lv_iconst (v := (0 : Int32)) hx hb dA_isSpan_19 (by decide) ?_
    subst h
    exact gw_zret hx hb hr (by first | rfl | exact nb_A_isWithin _ _ _) hlocks hP hD hS dA_isSpan_20
  · rw [if_neg hc] at h
    refine lv_iload_n hx hb dA_isSpan_4 rfl (lv_at hl 0 rfl) ?_
    refine lv_iload_n hx hb dA_isSpan_5 rfl (lv_at hl 1 rfl) ?_
    refine lv_icmp_ge (tgt := 19) hx hb dA_isSpan_6 (by decide) (fun hc => ?_) (fun hc => ?_)
    · rw [if_pos hc] at h
      refine lv_iconst (v := (0 : Int32)) hx hb dA_isSpan_19 (by decide) ?_
      subst h
      exact gw_zret hx hb hr (by first | rfl | exact nb_A_isWithin _ _ _) hlocks hP hD hS dA_isSpan_20
    · rw [if_neg hc] at h
      refine lv_iload_n hx hb dA_isSpan_9 rfl (lv_at hl 1 rfl) ?_
      refine lv_ldc (v := (99999 : Int32)) hx hb hown (hG _ mw_351) dA_isSpan_10 ?_
      refine lv_icmp_gt (tgt := 19) hx hb dA_isSpan_12 (by decide) (fun hc => ?_) (fun hc => ?_)
      · rw [if_pos hc] at h
        refine lv_iconst (v := (0 : Int32)) hx hb dA_isSpan_19 (by decide) ?_
        subst h
        exact gw_zret hx hb hr (by first | rfl | exact nb_A_isWithin _ _ _) hlocks hP hD hS dA_isSpan_20
      · rw [if_neg hc] at h
        refine lv_iconst (v := (1 : Int32)) hx hb dA_isSpan_15 (by decide) ?_
        refine lv_goto (tgt := 20) hx hb dA_isSpan_16 (by decide) ?_
        subst h
        exact gw_zret hx hb hr (by first | rfl | exact nb_A_isWithin _ _ _) hlocks hP hD hS dA_isSpan_20
set_option maxHeartbeats 4000000 in
set_option maxRecDepth 100000 in
theorem c_A_isHours (l : Launch) (D : va_G) (ad : Nat → Nat) (cI cZ cJ : ClassId) (u : StA) (a1 : Int32) (r : Int32) (h : f_A_isHours a1 = r) : gw_Ct l D vwCl (tA cI cZ cJ) (wA ad cI cZ cJ) yA_isHours (Cond.code yA_isHours cA_isHours 1 (some .boolean) :: gG) ({ frames := 0, cells := 0, slots := 0, locals := 0 } : Room) [.int a1] u (some (.int r)) u := by
  refine gw_enter (by decide) (Nat.le_of_ble_eq_true rfl) ?_
  intro p e s m below meth c A hC hP hD hS ls hl
  obtain ⟨hx, hb, hr, hml, hG, hown, hlocks, hK, hA⟩ := id hC
  have hl : lv_has ls 1 [(0, .int a1)] := hl
  obtain ⟨H, hH⟩ : ∃ H, H = s.heap := ⟨_, rfl⟩
  obtain ⟨locs, hlocs⟩ : ∃ x : List Loc, x = [] := ⟨_, rfl⟩
  rw [← hlocs] at hS ⊢
  have hP : va_P D vwCl (wA ad cI cZ cJ u) H := by rw [hH]; exact hP
  have hS : va_S A s.heap H locs := by rw [hH]; exact hS
  suffices g : W p l e ({ frames := 0, cells := 0, slots := 0, locals := 0 } : Room) s m [.int a1].toArray below meth c H locs 0 0 (MQ below (gw_Q D vwCl (wA ad cI cZ cJ) A u (some (.int r))) [.int a1].toArray s 0 0 A) (F0 m 0 ls []) by rw [hH] at g; exact g
  unfold f_A_isHours at h
  refine lv_iload_n hx hb dA_isHours_0 rfl (lv_at hl 0 rfl) ?_
  refine lv_if_lt (tgt := 26) hx hb dA_isHours_1 (by decide) (fun hc => ?_) (fun hc => ?_)
  · rw [if_pos hc] at h
    refine lv_iconst (v := (0 : Int32)) hx hb dA_isHours_26 (by decide) ?_
    subst h
    exact gw_zret hx hb hr (by first | rfl | exact nb_A_isWithin _ _ _) hlocks hP hD hS dA_isHours_27
  · rw [if_neg hc] at h
    refine lv_iload_n hx hb dA_isHours_4 rfl (lv_at hl 0 rfl) ?_
    refine lv_bipush (v := (100 : Int32)) hx hb dA_isHours_5 (by decide) ?_
    refine lv_idiv hx hb dA_isHours_7 (by decide) ?_
    refine lv_bipush (v := (24 : Int32)) hx hb dA_isHours_8 (by decide) ?_
    refine lv_icmp_ge (tgt := 26) hx hb dA_isHours_10 (by decide) (fun hc => ?_) (fun hc => ?_)
    · rw [if_pos hc] at h
      refine lv_iconst (v := (0 : Int32)) hx hb dA_isHours_26 (by decide) ?_
      subst h
      exact gw_zret hx hb hr (by first | rfl | exact nb_A_isWithin _ _ _) hlocks hP hD hS dA_isHours_27
    · rw [if_neg hc] at h
      refine lv_iload_n hx hb dA_isHours_13 rfl (lv_at hl 0 rfl) ?_
      refine lv_bipush (v := (100 : Int32)) hx hb dA_isHours_14 (by decide) ?_
      refine lv_irem hx hb dA_isHours_16 (by decide) ?_
      refine lv_bipush (v := (24 : Int32)) hx hb dA_isHours_17 (by decide) ?_
      refine lv_icmp_ge (tgt := 26) hx hb dA_isHours_19 (by decide) (fun hc => ?_) (fun hc => ?_)
      · rw [if_pos hc] at h
        refine lv_iconst (v := (0 : Int32)) hx hb dA_isHours_26 (by decide) ?_
        subst h
        exact gw_zret hx hb hr (by first | rfl | exact nb_A_isWithin _ _ _) hlocks hP hD hS dA_isHours_27
      · rw [if_neg hc] at h
        refine lv_iconst (v := (1 : Int32)) hx hb dA_isHours_22 (by decide) ?_
        refine lv_goto (tgt := 27) hx hb dA_isHours_23 (by decide) ?_
        subst h
        exact gw_zret hx hb hr (by first | rfl | exact nb_A_isWithin _ _ _) hlocks hP hD hS dA_isHours_27
set_option maxHeartbeats 4000000 in
set_option maxRecDepth 100000 in
theorem c_A_isNumber (l : Launch) (D : va_G) (ad : Nat → Nat) (cI cZ cJ : ClassId) (u : StA) (a1 : Int32) (r : Int32) (h : f_A_isNumber a1 = r) : gw_Ct l D vwCl (tA cI cZ cJ) (wA ad cI cZ cJ) yA_isNumber (Cond.code yA_isNumber cA_isNumber 1 (some .boolean) :: gG) ({ frames := 1, cells := 0, slots := 0, locals := 22 } : Room) [.int a1] u (some (.int r)) u := by
  refine gw_enter (by decide) (Nat.le_of_ble_eq_true rfl) ?_
  intro p e s m below meth c A hC hP hD hS ls hl
  obtain ⟨hx, hb, hr, hml, hG, hown, hlocks, hK, hA⟩ := id hC
  have hl : lv_has ls 1 [(0, .int a1)] := hl
  obtain ⟨H, hH⟩ : ∃ H, H = s.heap := ⟨_, rfl⟩
  obtain ⟨locs, hlocs⟩ : ∃ x : List Loc, x = [] := ⟨_, rfl⟩
  rw [← hlocs] at hS ⊢
  have hP : va_P D vwCl (wA ad cI cZ cJ u) H := by rw [hH]; exact hP
  have hS : va_S A s.heap H locs := by rw [hH]; exact hS
  suffices g : W p l e ({ frames := 1, cells := 0, slots := 0, locals := 22 } : Room) s m [.int a1].toArray below meth c H locs 0 0 (MQ below (gw_Q D vwCl (wA ad cI cZ cJ) A u (some (.int r))) [.int a1].toArray s 0 0 A) (F0 m 0 ls []) by rw [hH] at g; exact g
  unfold f_A_isNumber at h
  refine lv_iload_n hx hb dA_isNumber_0 rfl (lv_at hl 0 rfl) ?_
  refine lv_iconst (v := (0 : Int32)) hx hb dA_isNumber_1 (by decide) ?_
  refine lv_sipush (v := (999 : Int32)) hx hb dA_isNumber_2 (by decide) ?_
  refine gw_callS (As := [.int a1, .int (0 : Int32), .int (999 : Int32)]) (rest := []) (u := u) (u' := u) hx hb hml hown hG (c_A_isWithin l D ad cI cZ cJ u a1 (0 : Int32) (999 : Int32) _ rfl) lk_A_54 rfl rfl ⟨Nat.le_of_ble_eq_true rfl, Nat.le_of_ble_eq_true rfl⟩ hK hP hD hS hA rfl hl.1 rfl (Nat.le_of_ble_eq_true rfl) dA_isNumber_5 ⟨Nat.le_of_ble_eq_true rfl, Nat.le_of_ble_eq_true rfl⟩ (fun H locs hP hD hS => ?_)
  subst h
  exact gw_zret hx hb hr (by first | rfl | exact nb_A_isWithin _ _ _) hlocks hP hD hS dA_isNumber_8
set_option maxHeartbeats 4000000 in
set_option maxRecDepth 100000 in
theorem c_A_isCall (l : Launch) (D : va_G) (ad : Nat → Nat) (cI cZ cJ : ClassId) (u : StA) (a1 : Int32) (r : Int32) (h : f_A_isCall a1 = r) : gw_Ct l D vwCl (tA cI cZ cJ) (wA ad cI cZ cJ) yA_isCall (Cond.code yA_isCall cA_isCall 1 (some .boolean) :: gG) ({ frames := 1, cells := 0, slots := 0, locals := 22 } : Room) [.int a1] u (some (.int r)) u := by
  refine gw_enter (by decide) (Nat.le_of_ble_eq_true rfl) ?_
  intro p e s m below meth c A hC hP hD hS ls hl
  obtain ⟨hx, hb, hr, hml, hG, hown, hlocks, hK, hA⟩ := id hC
  have hl : lv_has ls 1 [(0, .int a1)] := hl
  obtain ⟨H, hH⟩ : ∃ H, H = s.heap := ⟨_, rfl⟩
  obtain ⟨locs, hlocs⟩ : ∃ x : List Loc, x = [] := ⟨_, rfl⟩
  rw [← hlocs] at hS ⊢
  have hP : va_P D vwCl (wA ad cI cZ cJ u) H := by rw [hH]; exact hP
  have hS : va_S A s.heap H locs := by rw [hH]; exact hS
  suffices g : W p l e ({ frames := 1, cells := 0, slots := 0, locals := 22 } : Room) s m [.int a1].toArray below meth c H locs 0 0 (MQ below (gw_Q D vwCl (wA ad cI cZ cJ) A u (some (.int r))) [.int a1].toArray s 0 0 A) (F0 m 0 ls []) by rw [hH] at g; exact g
  unfold f_A_isCall at h
  refine lv_iload_n hx hb dA_isCall_0 rfl (lv_at hl 0 rfl) ?_
  refine lv_iconst (v := (0 : Int32)) hx hb dA_isCall_1 (by decide) ?_
  refine lv_bipush (v := (99 : Int32)) hx hb dA_isCall_2 (by decide) ?_
  refine gw_callS (As := [.int a1, .int (0 : Int32), .int (99 : Int32)]) (rest := []) (u := u) (u' := u) hx hb hml hown hG (c_A_isWithin l D ad cI cZ cJ u a1 (0 : Int32) (99 : Int32) _ rfl) lk_A_54 rfl rfl ⟨Nat.le_of_ble_eq_true rfl, Nat.le_of_ble_eq_true rfl⟩ hK hP hD hS hA rfl hl.1 rfl (Nat.le_of_ble_eq_true rfl) dA_isCall_4 ⟨Nat.le_of_ble_eq_true rfl, Nat.le_of_ble_eq_true rfl⟩ (fun H locs hP hD hS => ?_)
  subst h
  exact gw_zret hx hb hr (by first | rfl | exact nb_A_isWithin _ _ _) hlocks hP hD hS dA_isCall_7
set_option maxHeartbeats 4000000 in
set_option maxRecDepth 100000 in
theorem c_Ho_has (l : Launch) (D : va_G) (ad : Nat → Nat) (cI cZ cJ : ClassId) (u : StA) (a1 : Int32) (r : Int32) (h : f_Ho_has u a1 = r) : gw_Ct l D vwCl (tA cI cZ cJ) (wA ad cI cZ cJ) yHo_has (Cond.code yHo_has cHo_has 2 (some .boolean) :: gG) ({ frames := 0, cells := 0, slots := 0, locals := 0 } : Room) [.ref (ad 1), .int a1] u (some (.int r)) u := by
  refine gw_enter (by decide) (Nat.le_of_ble_eq_true rfl) ?_
  intro p e s m below meth c A hC hP hD hS ls hl
  obtain ⟨hx, hb, hr, hml, hG, hown, hlocks, hK, hA⟩ := id hC
  have hl : lv_has ls 2 [(0, .ref (ad 1)), (1, .int a1)] := hl
  obtain ⟨H, hH⟩ : ∃ H, H = s.heap := ⟨_, rfl⟩
  obtain ⟨locs, hlocs⟩ : ∃ x : List Loc, x = [] := ⟨_, rfl⟩
  rw [← hlocs] at hS ⊢
  have hP : va_P D vwCl (wA ad cI cZ cJ u) H := by rw [hH]; exact hP
  have hS : va_S A s.heap H locs := by rw [hH]; exact hS
  suffices g : W p l e ({ frames := 0, cells := 0, slots := 0, locals := 0 } : Room) s m [.ref (ad 1), .int a1].toArray below meth c H locs 0 0 (MQ below (gw_Q D vwCl (wA ad cI cZ cJ) A u (some (.int r))) [.ref (ad 1), .int a1].toArray s 0 0 A) (F0 m 0 ls []) by rw [hH] at g; exact g
  unfold f_Ho_has at h
  refine lv_iload_n hx hb dHo_has_0 rfl (lv_at hl 1 rfl) ?_
  refine lv_if_lt (tgt := 16) hx hb dHo_has_1 (by decide) (fun hc => ?_) (fun hc => ?_)
  · rw [if_pos hc] at h
    refine lv_iconst (v := (0 : Int32)) hx hb dHo_has_16 (by decide) ?_
    subst h
    exact gw_zret hx hb hr (by first | rfl | exact nb_A_isWithin _ _ _) hlocks hP hD hS dHo_has_17
  · rw [if_neg hc] at h
    refine lv_iload_n hx hb dHo_has_4 rfl (lv_at hl 1 rfl) ?_
    refine lv_aload_n hx hb dHo_has_5 rfl (lv_at hl 0 rfl) ?_
    refine va_get (D := D) (ci := 1) (v := .int (u.1 3)) (C := RHo) (T := THo) (N := 4) hx hb hG inHo hown hK hP 1 rfl rfl 3 (by decide) (hG _ mw_38) (fun _ h9 => h9) rfl dHo_has_6 ?_
    refine lv_icmp_ge (tgt := 16) hx hb dHo_has_9 (by decide) (fun hc => ?_) (fun hc => ?_)
    · rw [if_pos hc] at h
      refine lv_iconst (v := (0 : Int32)) hx hb dHo_has_16 (by decide) ?_
      subst h
      exact gw_zret hx hb hr (by first | rfl | exact nb_A_isWithin _ _ _) hlocks hP hD hS dHo_has_17
    · rw [if_neg hc] at h
      refine lv_iconst (v := (1 : Int32)) hx hb dHo_has_12 (by decide) ?_
      refine lv_goto (tgt := 17) hx hb dHo_has_13 (by decide) ?_
      subst h
      exact gw_zret hx hb hr (by first | rfl | exact nb_A_isWithin _ _ _) hlocks hP hD hS dHo_has_17
set_option maxHeartbeats 4000000 in
set_option maxRecDepth 100000 in
theorem c_Ho_isFull (l : Launch) (D : va_G) (ad : Nat → Nat) (cI cZ cJ : ClassId) (u : StA) (r : Int32) (h : f_Ho_isFull u = r) : gw_Ct l D vwCl (tA cI cZ cJ) (wA ad cI cZ cJ) yHo_isFull (Cond.code yHo_isFull cHo_isFull 1 (some .boolean) :: gG) ({ frames := 0, cells := 0, slots := 0, locals := 0 } : Room) [.ref (ad 1)] u (some (.int r)) u := by
  refine gw_enter (by decide) (Nat.le_of_ble_eq_true rfl) ?_
  intro p e s m below meth c A hC hP hD hS ls hl
  obtain ⟨hx, hb, hr, hml, hG, hown, hlocks, hK, hA⟩ := id hC
  have hl : lv_has ls 1 [(0, .ref (ad 1))] := hl
  obtain ⟨H, hH⟩ : ∃ H, H = s.heap := ⟨_, rfl⟩
  obtain ⟨locs, hlocs⟩ : ∃ x : List Loc, x = [] := ⟨_, rfl⟩
  rw [← hlocs] at hS ⊢
  have hP : va_P D vwCl (wA ad cI cZ cJ u) H := by rw [hH]; exact hP
  have hS : va_S A s.heap H locs := by rw [hH]; exact hS
  suffices g : W p l e ({ frames := 0, cells := 0, slots := 0, locals := 0 } : Room) s m [.ref (ad 1)].toArray below meth c H locs 0 0 (MQ below (gw_Q D vwCl (wA ad cI cZ cJ) A u (some (.int r))) [.ref (ad 1)].toArray s 0 0 A) (F0 m 0 ls []) by rw [hH] at g; exact g
  unfold f_Ho_isFull at h
  refine lv_aload_n hx hb dHo_isFull_0 rfl (lv_at hl 0 rfl) ?_
  refine va_get (D := D) (ci := 1) (v := .int (u.1 3)) (C := RHo) (T := THo) (N := 4) hx hb hG inHo hown hK hP 1 rfl rfl 3 (by decide) (hG _ mw_38) (fun _ h9 => h9) rfl dHo_isFull_1 ?_
  refine lv_bipush (v := (8 : Int32)) hx hb dHo_isFull_4 (by decide) ?_
  refine lv_icmp_lt (tgt := 13) hx hb dHo_isFull_6 (by decide) (fun hc => ?_) (fun hc => ?_)
  · rw [if_pos hc] at h
    refine lv_iconst (v := (0 : Int32)) hx hb dHo_isFull_13 (by decide) ?_
    subst h
    exact gw_zret hx hb hr (by first | rfl | exact nb_A_isWithin _ _ _) hlocks hP hD hS dHo_isFull_14
  · rw [if_neg hc] at h
    refine lv_iconst (v := (1 : Int32)) hx hb dHo_isFull_9 (by decide) ?_
    refine lv_goto (tgt := 14) hx hb dHo_isFull_10 (by decide) ?_
    subst h
    exact gw_zret hx hb hr (by first | rfl | exact nb_A_isWithin _ _ _) hlocks hP hD hS dHo_isFull_14
set_option maxHeartbeats 4000000 in
set_option maxRecDepth 100000 in
theorem c_Ho_add (l : Launch) (D : va_G) (ad : Nat → Nat) (cI cZ cJ : ClassId) (u : StA) (a1 : Int32) (a2 : Int32) (r : Int32) (w : StA) (h : f_Ho_add u a1 a2 = some (r, w)) : gw_Ct l D vwCl (tA cI cZ cJ) (wA ad cI cZ cJ) yHo_add (Cond.code yHo_add cHo_add 3 (some .int) :: gG) ({ frames := 0, cells := 0, slots := 0, locals := 0 } : Room) [.ref (ad 1), .int a1, .int a2] u (some (.int r)) w := by
  refine gw_enter (by decide) (Nat.le_of_ble_eq_true rfl) ?_
  intro p e s m below meth c A hC hP hD hS ls hl
  obtain ⟨hx, hb, hr, hml, hG, hown, hlocks, hK, hA⟩ := id hC
  have hl : lv_has ls 3 [(0, .ref (ad 1)), (1, .int a1), (2, .int a2)] := hl
  obtain ⟨H, hH⟩ : ∃ H, H = s.heap := ⟨_, rfl⟩
  obtain ⟨locs, hlocs⟩ : ∃ x : List Loc, x = [] := ⟨_, rfl⟩
  rw [← hlocs] at hS ⊢
  have hP : va_P D vwCl (wA ad cI cZ cJ u) H := by rw [hH]; exact hP
  have hS : va_S A s.heap H locs := by rw [hH]; exact hS
  suffices g : W p l e ({ frames := 0, cells := 0, slots := 0, locals := 0 } : Room) s m [.ref (ad 1), .int a1, .int a2].toArray below meth c H locs 0 0 (MQ below (gw_Q D vwCl (wA ad cI cZ cJ) A w (some (.int r))) [.ref (ad 1), .int a1, .int a2].toArray s 0 0 A) (F0 m 0 ls []) by rw [hH] at g; exact g
  unfold f_Ho_add at h
  refine lv_aload_n hx hb dHo_add_0 rfl (lv_at hl 0 rfl) ?_
  refine va_get (D := D) (ci := 1) (v := .ref (ad 7)) (C := RHo) (T := THo) (N := 4) hx hb hG inHo hown hK hP 1 rfl rfl 0 (by decide) (hG _ mw_32) (fun _ h9 => h9) rfl dHo_add_1 ?_
  refine lv_aload_n hx hb dHo_add_4 rfl (lv_at hl 0 rfl) ?_
  refine va_get (D := D) (ci := 1) (v := .int (u.1 3)) (C := RHo) (T := THo) (N := 4) hx hb hG inHo hown hK hP 1 rfl rfl 3 (by decide) (hG _ mw_38) (fun _ h9 => h9) rfl dHo_add_5 ?_
  refine lv_iload_n hx hb dHo_add_8 rfl (lv_at hl 1 rfl) ?_
  obtain ⟨hg1, h⟩ := gI_some h
  refine va_iast (f := (u.2.1 1)) hx hb hK hP hD hS 7 0 rfl rfl hg1 dHo_add_9 (fun H locs hP hD hS => ?_)
  rw [wA_a1] at hP hD
  refine lv_aload_n hx hb dHo_add_10 rfl (lv_at hl 0 rfl) ?_
  refine va_get (D := D) (ci := 1) (v := .ref (ad 8)) (C := RHo) (T := THo) (N := 4) hx hb hG inHo hown hK hP 1 rfl rfl 1 (by decide) (hG _ mw_34) (fun _ h9 => h9) rfl dHo_add_11 ?_
  refine lv_aload_n hx hb dHo_add_14 rfl (lv_at hl 0 rfl) ?_
  refine va_get (D := D) (ci := 1) (v := .int (u.1 3)) (C := RHo) (T := THo) (N := 4) hx hb hG inHo hown hK hP 1 rfl rfl 3 (by decide) (hG _ mw_38) (fun _ h9 => h9) rfl dHo_add_15 ?_
  refine lv_iload_n hx hb dHo_add_18 rfl (lv_at hl 2 rfl) ?_
  refine va_iast (f := ((sA u 1 ((u.1 3)).toNatClampNeg a1).2.1 2)) hx hb hK hP hD hS 8 0 rfl rfl hg1 dHo_add_19 (fun H locs hP hD hS => ?_)
  rw [wA_a2] at hP hD
  refine lv_aload_n hx hb dHo_add_20 rfl (lv_at hl 0 rfl) ?_
  refine lv_dup hx hb dHo_add_21 rfl ?_
  refine va_get (D := D) (ci := 1) (v := .int (u.1 3)) (C := RHo) (T := THo) (N := 4) hx hb hG inHo hown hK hP 1 rfl rfl 3 (by decide) (hG _ mw_38) (fun _ h9 => h9) rfl dHo_add_22 ?_
  refine lv_dup_x1 hx hb dHo_add_25 rfl rfl ?_
  refine lv_iconst (v := (1 : Int32)) hx hb dHo_add_26 (by decide) ?_
  refine lv_iadd hx hb dHo_add_27 ?_
  refine va_put (D := D) (ci := 1) (v := .int ((u.1 3) + (1 : Int32))) (ty := .int) (C := RHo) (T := THo) (N := 4) hx hb hG inHo tyHo tyHo_ok nmHo hown hK hP hD hS 1 rfl rfl 3 (by decide) (hG _ mw_38) (fun _ h9 => h9) rfl (by decide +kernel) rfl rfl (Nat.le_of_ble_eq_true rfl) dHo_add_28 (fun H locs hP hD hS => ?_)
  rw [wA_f3] at hP hD
  cases h
  exact gw_iret hx hb hr hlocks hP hD hS dHo_add_31
set_option maxHeartbeats 4000000 in
set_option maxRecDepth 100000 in
theorem c_Ag_isFull (l : Launch) (D : va_G) (ad : Nat → Nat) (cI cZ cJ : ClassId) (u : StA) (r : Int32) (h : f_Ag_isFull u = r) : gw_Ct l D vwCl (tA cI cZ cJ) (wA ad cI cZ cJ) yAg_isFull (Cond.code yAg_isFull cAg_isFull 1 (some .boolean) :: gG) ({ frames := 0, cells := 0, slots := 0, locals := 0 } : Room) [.ref (ad 2)] u (some (.int r)) u := by
  refine gw_enter (by decide) (Nat.le_of_ble_eq_true rfl) ?_
  intro p e s m below meth c A hC hP hD hS ls hl
  obtain ⟨hx, hb, hr, hml, hG, hown, hlocks, hK, hA⟩ := id hC
  have hl : lv_has ls 1 [(0, .ref (ad 2))] := hl
  obtain ⟨H, hH⟩ : ∃ H, H = s.heap := ⟨_, rfl⟩
  obtain ⟨locs, hlocs⟩ : ∃ x : List Loc, x = [] := ⟨_, rfl⟩
  rw [← hlocs] at hS ⊢
  have hP : va_P D vwCl (wA ad cI cZ cJ u) H := by rw [hH]; exact hP
  have hS : va_S A s.heap H locs := by rw [hH]; exact hS
  suffices g : W p l e ({ frames := 0, cells := 0, slots := 0, locals := 0 } : Room) s m [.ref (ad 2)].toArray below meth c H locs 0 0 (MQ below (gw_Q D vwCl (wA ad cI cZ cJ) A u (some (.int r))) [.ref (ad 2)].toArray s 0 0 A) (F0 m 0 ls []) by rw [hH] at g; exact g
  unfold f_Ag_isFull at h
  refine lv_aload_n hx hb dAg_isFull_0 rfl (lv_at hl 0 rfl) ?_
  refine va_get (D := D) (ci := 2) (v := .int (u.1 4)) (C := RAg) (T := TAg) (N := 7) hx hb hG inAg hown hK hP 2 rfl rfl 6 (by decide) (hG _ mw_65) (fun _ h9 => h9) rfl dAg_isFull_1 ?_
  refine lv_bipush (v := (30 : Int32)) hx hb dAg_isFull_4 (by decide) ?_
  refine lv_icmp_lt (tgt := 13) hx hb dAg_isFull_6 (by decide) (fun hc => ?_) (fun hc => ?_)
  · rw [if_pos hc] at h
    refine lv_iconst (v := (0 : Int32)) hx hb dAg_isFull_13 (by decide) ?_
    subst h
    exact gw_zret hx hb hr (by first | rfl | exact nb_A_isWithin _ _ _) hlocks hP hD hS dAg_isFull_14
  · rw [if_neg hc] at h
    refine lv_iconst (v := (1 : Int32)) hx hb dAg_isFull_9 (by decide) ?_
    refine lv_goto (tgt := 14) hx hb dAg_isFull_10 (by decide) ?_
    subst h
    exact gw_zret hx hb hr (by first | rfl | exact nb_A_isWithin _ _ _) hlocks hP hD hS dAg_isFull_14
set_option maxHeartbeats 4000000 in
set_option maxRecDepth 100000 in
theorem c_Ag_add (l : Launch) (D : va_G) (ad : Nat → Nat) (cI cZ cJ : ClassId) (u : StA) (a1 : Int32) (a2 : Int32) (a3 : Int32) (a4 : Int32) (a5 : Int32) (a6 : Int32) (r : Int32) (w : StA) (h : f_Ag_add u a1 a2 a3 a4 a5 a6 = some (r, w)) : gw_Ct l D vwCl (tA cI cZ cJ) (wA ad cI cZ cJ) yAg_add (Cond.code yAg_add cAg_add 7 (some .int) :: gG) ({ frames := 0, cells := 0, slots := 0, locals := 0 } : Room) [.ref (ad 2), .int a1, .int a2, .int a3, .int a4, .int a5, .int a6] u (some (.int r)) w := by
  refine gw_enter (by decide) (Nat.le_of_ble_eq_true rfl) ?_
  intro p e s m below meth c A hC hP hD hS ls hl
  obtain ⟨hx, hb, hr, hml, hG, hown, hlocks, hK, hA⟩ := id hC
  have hl : lv_has ls 7 [(0, .ref (ad 2)), (1, .int a1), (2, .int a2), (3, .int a3), (4, .int a4), (5, .int a5), (6, .int a6)] := hl
  obtain ⟨H, hH⟩ : ∃ H, H = s.heap := ⟨_, rfl⟩
  obtain ⟨locs, hlocs⟩ : ∃ x : List Loc, x = [] := ⟨_, rfl⟩
  rw [← hlocs] at hS ⊢
  have hP : va_P D vwCl (wA ad cI cZ cJ u) H := by rw [hH]; exact hP
  have hS : va_S A s.heap H locs := by rw [hH]; exact hS
  suffices g : W p l e ({ frames := 0, cells := 0, slots := 0, locals := 0 } : Room) s m [.ref (ad 2), .int a1, .int a2, .int a3, .int a4, .int a5, .int a6].toArray below meth c H locs 0 0 (MQ below (gw_Q D vwCl (wA ad cI cZ cJ) A w (some (.int r))) [.ref (ad 2), .int a1, .int a2, .int a3, .int a4, .int a5, .int a6].toArray s 0 0 A) (F0 m 0 ls []) by rw [hH] at g; exact g
  unfold f_Ag_add at h
  refine lv_aload_n hx hb dAg_add_0 rfl (lv_at hl 0 rfl) ?_
  refine va_get (D := D) (ci := 2) (v := .ref (ad 10)) (C := RAg) (T := TAg) (N := 7) hx hb hG inAg hown hK hP 2 rfl rfl 0 (by decide) (hG _ mw_57) (fun _ h9 => h9) rfl dAg_add_1 ?_
  refine lv_aload_n hx hb dAg_add_4 rfl (lv_at hl 0 rfl) ?_
  refine va_get (D := D) (ci := 2) (v := .int (u.1 4)) (C := RAg) (T := TAg) (N := 7) hx hb hG inAg hown hK hP 2 rfl rfl 6 (by decide) (hG _ mw_65) (fun _ h9 => h9) rfl dAg_add_5 ?_
  refine lv_iload_n hx hb dAg_add_8 rfl (lv_at hl 1 rfl) ?_
  obtain ⟨hg1, h⟩ := gI_some h
  refine va_iast (f := (u.2.1 4)) hx hb hK hP hD hS 10 0 rfl rfl hg1 dAg_add_9 (fun H locs hP hD hS => ?_)
  rw [wA_a4] at hP hD
  refine lv_aload_n hx hb dAg_add_10 rfl (lv_at hl 0 rfl) ?_
  refine va_get (D := D) (ci := 2) (v := .ref (ad 11)) (C := RAg) (T := TAg) (N := 7) hx hb hG inAg hown hK hP 2 rfl rfl 1 (by decide) (hG _ mw_58) (fun _ h9 => h9) rfl dAg_add_11 ?_
  refine lv_aload_n hx hb dAg_add_14 rfl (lv_at hl 0 rfl) ?_
  refine va_get (D := D) (ci := 2) (v := .int (u.1 4)) (C := RAg) (T := TAg) (N := 7) hx hb hG inAg hown hK hP 2 rfl rfl 6 (by decide) (hG _ mw_65) (fun _ h9 => h9) rfl dAg_add_15 ?_
  refine lv_iload_n hx hb dAg_add_18 rfl (lv_at hl 2 rfl) ?_
  refine va_iast (f := ((sA u 4 ((u.1 4)).toNatClampNeg a1).2.1 5)) hx hb hK hP hD hS 11 0 rfl rfl hg1 dAg_add_19 (fun H locs hP hD hS => ?_)
  rw [wA_a5] at hP hD
  refine lv_aload_n hx hb dAg_add_20 rfl (lv_at hl 0 rfl) ?_
  refine va_get (D := D) (ci := 2) (v := .ref (ad 12)) (C := RAg) (T := TAg) (N := 7) hx hb hG inAg hown hK hP 2 rfl rfl 2 (by decide) (hG _ mw_59) (fun _ h9 => h9) rfl dAg_add_21 ?_
  refine lv_aload_n hx hb dAg_add_24 rfl (lv_at hl 0 rfl) ?_
  refine va_get (D := D) (ci := 2) (v := .int (u.1 4)) (C := RAg) (T := TAg) (N := 7) hx hb hG inAg hown hK hP 2 rfl rfl 6 (by decide) (hG _ mw_65) (fun _ h9 => h9) rfl dAg_add_25 ?_
  refine lv_iload_n hx hb dAg_add_28 rfl (lv_at hl 3 rfl) ?_
  refine va_iast (f := ((sA (sA u 4 ((u.1 4)).toNatClampNeg a1) 5 ((u.1 4)).toNatClampNeg a2).2.1 6)) hx hb hK hP hD hS 12 0 rfl rfl hg1 dAg_add_29 (fun H locs hP hD hS => ?_)
  rw [wA_a6] at hP hD
  refine lv_aload_n hx hb dAg_add_30 rfl (lv_at hl 0 rfl) ?_
  refine va_get (D := D) (ci := 2) (v := .ref (ad 13)) (C := RAg) (T := TAg) (N := 7) hx hb hG inAg hown hK hP 2 rfl rfl 3 (by decide) (hG _ mw_60) (fun _ h9 => h9) rfl dAg_add_31 ?_
  refine lv_aload_n hx hb dAg_add_34 rfl (lv_at hl 0 rfl) ?_
  refine va_get (D := D) (ci := 2) (v := .int (u.1 4)) (C := RAg) (T := TAg) (N := 7) hx hb hG inAg hown hK hP 2 rfl rfl 6 (by decide) (hG _ mw_65) (fun _ h9 => h9) rfl dAg_add_35 ?_
  refine lv_iload hx hb dAg_add_38 (lv_at hl 4 rfl) ?_
  refine va_iast (f := ((sA (sA (sA u 4 ((u.1 4)).toNatClampNeg a1) 5 ((u.1 4)).toNatClampNeg a2) 6 ((u.1 4)).toNatClampNeg a3).2.1 7)) hx hb hK hP hD hS 13 0 rfl rfl hg1 dAg_add_40 (fun H locs hP hD hS => ?_)
  rw [wA_a7] at hP hD
  refine lv_aload_n hx hb dAg_add_41 rfl (lv_at hl 0 rfl) ?_
  refine va_get (D := D) (ci := 2) (v := .ref (ad 14)) (C := RAg) (T := TAg) (N := 7) hx hb hG inAg hown hK hP 2 rfl rfl 4 (by decide) (hG _ mw_62) (fun _ h9 => h9) rfl dAg_add_42 ?_
  refine lv_aload_n hx hb dAg_add_45 rfl (lv_at hl 0 rfl) ?_
  refine va_get (D := D) (ci := 2) (v := .int (u.1 4)) (C := RAg) (T := TAg) (N := 7) hx hb hG inAg hown hK hP 2 rfl rfl 6 (by decide) (hG _ mw_65) (fun _ h9 => h9) rfl dAg_add_46 ?_
  refine lv_iload hx hb dAg_add_49 (lv_at hl 5 rfl) ?_
  refine va_iast (f := ((sA (sA (sA (sA u 4 ((u.1 4)).toNatClampNeg a1) 5 ((u.1 4)).toNatClampNeg a2) 6 ((u.1 4)).toNatClampNeg a3) 7 ((u.1 4)).toNatClampNeg a4).2.1 8)) hx hb hK hP hD hS 14 0 rfl rfl hg1 dAg_add_51 (fun H locs hP hD hS => ?_)
  rw [wA_a8] at hP hD
  refine lv_aload_n hx hb dAg_add_52 rfl (lv_at hl 0 rfl) ?_
  refine va_get (D := D) (ci := 2) (v := .ref (ad 15)) (C := RAg) (T := TAg) (N := 7) hx hb hG inAg hown hK hP 2 rfl rfl 5 (by decide) (hG _ mw_63) (fun _ h9 => h9) rfl dAg_add_53 ?_
  refine lv_aload_n hx hb dAg_add_56 rfl (lv_at hl 0 rfl) ?_
  refine va_get (D := D) (ci := 2) (v := .int (u.1 4)) (C := RAg) (T := TAg) (N := 7) hx hb hG inAg hown hK hP 2 rfl rfl 6 (by decide) (hG _ mw_65) (fun _ h9 => h9) rfl dAg_add_57 ?_
  refine lv_iload hx hb dAg_add_60 (lv_at hl 6 rfl) ?_
  refine va_iast (f := ((sA (sA (sA (sA (sA u 4 ((u.1 4)).toNatClampNeg a1) 5 ((u.1 4)).toNatClampNeg a2) 6 ((u.1 4)).toNatClampNeg a3) 7 ((u.1 4)).toNatClampNeg a4) 8 ((u.1 4)).toNatClampNeg a5).2.1 9)) hx hb hK hP hD hS 15 0 rfl rfl hg1 dAg_add_62 (fun H locs hP hD hS => ?_)
  rw [wA_a9] at hP hD
  refine lv_aload_n hx hb dAg_add_63 rfl (lv_at hl 0 rfl) ?_
  refine lv_dup hx hb dAg_add_64 rfl ?_
  refine va_get (D := D) (ci := 2) (v := .int (u.1 4)) (C := RAg) (T := TAg) (N := 7) hx hb hG inAg hown hK hP 2 rfl rfl 6 (by decide) (hG _ mw_65) (fun _ h9 => h9) rfl dAg_add_65 ?_
  refine lv_dup_x1 hx hb dAg_add_68 rfl rfl ?_
  refine lv_iconst (v := (1 : Int32)) hx hb dAg_add_69 (by decide) ?_
  refine lv_iadd hx hb dAg_add_70 ?_
  refine va_put (D := D) (ci := 2) (v := .int ((u.1 4) + (1 : Int32))) (ty := .int) (C := RAg) (T := TAg) (N := 7) hx hb hG inAg tyAg tyAg_ok nmAg hown hK hP hD hS 2 rfl rfl 6 (by decide) (hG _ mw_65) (fun _ h9 => h9) rfl (by decide +kernel) rfl rfl (Nat.le_of_ble_eq_true rfl) dAg_add_71 (fun H locs hP hD hS => ?_)
  rw [wA_f4] at hP hD
  cases h
  exact gw_iret hx hb hr hlocks hP hD hS dAg_add_74
set_option maxHeartbeats 4000000 in
set_option maxRecDepth 100000 in
theorem lp_Ag_meetAny_3 {p : Program} {l : Launch} {e : Env} {s : State} {m : MethodId} {args : Array Value} {below : List Frame} {meth : Method} {c : Code} {A : Nat → Prop} {D : va_G} {ad : Nat → Nat} {cI cZ cJ : ClassId} (hC : gw_C p s m args meth c "AidRows$Agreements" cAg_meetAny 6 (some .boolean) gG D vwCl (tA cI cZ cJ) A) (N : Nat) : ∀ (n : Nat) (u : StA) (x1 : Int32) (x2 : Int32) (x3 : Int32) (x4 : Int32) (x5 : Int32) (r : Int32), f_Ag_meetAny_3 N n u x1 x2 x3 x4 x5 = some r → ∀ (H : Heap) (locs : List Loc) (ls : Array Slot), va_P D vwCl (wA ad cI cZ cJ u) H → va_D A (wA ad cI cZ cJ u) → va_S A s.heap H locs → lv_has ls 6 [(0, .ref (ad 2)), (1, .int x1), (2, .int x2), (3, .int x3), (4, .int x4), (5, .int x5)] → W p l e ({ frames := 0, cells := 0, slots := 0, locals := 0 } : Room) s m args below meth c H locs 0 0 (MQ below (gw_Q D vwCl (wA ad cI cZ cJ) A u (some (.int r))) args s 0 0 A) (F0 m 3 ls []) := by
  obtain ⟨hx, hb, hr, hml, hG, hown, hlocks, hK, hA⟩ := id hC
  intro n
  induction n with
  | zero => intro u x1 x2 x3 x4 x5 r h; cases h
  | succ n ih =>
    intro u x1 x2 x3 x4 x5 r h H locs ls hP hD hS hl
    rw [f_Ag_meetAny_3] at h
    refine lv_iload hx hb dAg_meetAny_3 (lv_at hl 5 rfl) ?_
    refine lv_aload_n hx hb dAg_meetAny_5 rfl (lv_at hl 0 rfl) ?_
    refine va_get (D := D) (ci := 2) (v := .int (u.1 4)) (C := RAg) (T := TAg) (N := 7) hx hb hG inAg hown hK hP 2 rfl rfl 6 (by decide) (hG _ mw_65) (fun _ h9 => h9) rfl dAg_meetAny_6 ?_
    refine lv_icmp_ge (tgt := 65) hx hb dAg_meetAny_9 (by decide) (fun hc => ?_) (fun hc => ?_)
    · rw [if_pos hc] at h
      refine lv_iconst (v := (0 : Int32)) hx hb dAg_meetAny_65 (by decide) ?_
      cases h
      exact gw_zret hx hb hr (by first | rfl | exact nb_A_isWithin _ _ _) hlocks hP hD hS dAg_meetAny_66
    · rw [if_neg hc] at h
      refine lv_aload_n hx hb dAg_meetAny_12 rfl (lv_at hl 0 rfl) ?_
      refine va_get (D := D) (ci := 2) (v := .ref (ad 10)) (C := RAg) (T := TAg) (N := 7) hx hb hG inAg hown hK hP 2 rfl rfl 0 (by decide) (hG _ mw_57) (fun _ h9 => h9) rfl dAg_meetAny_13 ?_
      refine lv_iload hx hb dAg_meetAny_16 (lv_at hl 5 rfl) ?_
      obtain ⟨hg1, h⟩ := gI_some h
      refine va_iald (f := (u.2.1 4)) hx hb hK hP 10 0 rfl rfl hg1 dAg_meetAny_18 ?_
      refine lv_iload_n hx hb dAg_meetAny_19 rfl (lv_at hl 1 rfl) ?_
      refine lv_icmp_ne (tgt := 59) hx hb dAg_meetAny_20 (by decide) (fun hc => ?_) (fun hc => ?_)
      · rw [if_neg hc] at h
        refine lv_iinc (v := (x5 + (1 : Int32))) (lv' := [(5, .int (x5 + (1 : Int32))), (0, .ref (ad 2)), (1, .int x1), (2, .int x2), (3, .int x3), (4, .int x4)]) hx hb dAg_meetAny_59 hl (k := 5) rfl rfl (by decide) rfl (fun ls hl => ?_)
        refine lv_goto (tgt := 3) hx hb dAg_meetAny_62 (by decide) ?_
        exact ih u x1 x2 x3 x4 (x5 + (1 : Int32)) _ h H locs ls hP hD hS (lv_sub hl [1, 2, 3, 4, 5, 0] rfl)
      · rw [if_pos hc] at h
        refine lv_aload_n hx hb dAg_meetAny_23 rfl (lv_at hl 0 rfl) ?_
        refine va_get (D := D) (ci := 2) (v := .ref (ad 11)) (C := RAg) (T := TAg) (N := 7) hx hb hG inAg hown hK hP 2 rfl rfl 1 (by decide) (hG _ mw_58) (fun _ h9 => h9) rfl dAg_meetAny_24 ?_
        refine lv_iload hx hb dAg_meetAny_27 (lv_at hl 5 rfl) ?_
        refine va_iald (f := (u.2.1 5)) hx hb hK hP 11 0 rfl rfl hg1 dAg_meetAny_29 ?_
        refine lv_iload_n hx hb dAg_meetAny_30 rfl (lv_at hl 2 rfl) ?_
        refine lv_icmp_ne (tgt := 59) hx hb dAg_meetAny_31 (by decide) (fun hc => ?_) (fun hc => ?_)
        · rw [if_neg hc] at h
          refine lv_iinc (v := (x5 + (1 : Int32))) (lv' := [(5, .int (x5 + (1 : Int32))), (0, .ref (ad 2)), (1, .int x1), (2, .int x2), (3, .int x3), (4, .int x4)]) hx hb dAg_meetAny_59 hl (k := 5) rfl rfl (by decide) rfl (fun ls hl => ?_)
          refine lv_goto (tgt := 3) hx hb dAg_meetAny_62 (by decide) ?_
          exact ih u x1 x2 x3 x4 (x5 + (1 : Int32)) _ h H locs ls hP hD hS (lv_sub hl [1, 2, 3, 4, 5, 0] rfl)
        · rw [if_pos hc] at h
          refine lv_aload_n hx hb dAg_meetAny_34 rfl (lv_at hl 0 rfl) ?_
          refine va_get (D := D) (ci := 2) (v := .ref (ad 12)) (C := RAg) (T := TAg) (N := 7) hx hb hG inAg hown hK hP 2 rfl rfl 2 (by decide) (hG _ mw_59) (fun _ h9 => h9) rfl dAg_meetAny_35 ?_
          refine lv_iload hx hb dAg_meetAny_38 (lv_at hl 5 rfl) ?_
          refine va_iald (f := (u.2.1 6)) hx hb hK hP 12 0 rfl rfl hg1 dAg_meetAny_40 ?_
          refine lv_iload hx hb dAg_meetAny_41 (lv_at hl 4 rfl) ?_
          refine lv_icmp_ge (tgt := 59) hx hb dAg_meetAny_43 (by decide) (fun hc => ?_) (fun hc => ?_)
          · rw [if_pos hc] at h
            refine lv_iinc (v := (x5 + (1 : Int32))) (lv' := [(5, .int (x5 + (1 : Int32))), (0, .ref (ad 2)), (1, .int x1), (2, .int x2), (3, .int x3), (4, .int x4)]) hx hb dAg_meetAny_59 hl (k := 5) rfl rfl (by decide) rfl (fun ls hl => ?_)
            refine lv_goto (tgt := 3) hx hb dAg_meetAny_62 (by decide) ?_
            exact ih u x1 x2 x3 x4 (x5 + (1 : Int32)) _ h H locs ls hP hD hS (lv_sub hl [1, 2, 3, 4, 5, 0] rfl)
          · rw [if_neg hc] at h
            refine lv_iload_n hx hb dAg_meetAny_46 rfl (lv_at hl 3 rfl) ?_
            refine lv_aload_n hx hb dAg_meetAny_47 rfl (lv_at hl 0 rfl) ?_
            refine va_get (D := D) (ci := 2) (v := .ref (ad 13)) (C := RAg) (T := TAg) (N := 7) hx hb hG inAg hown hK hP 2 rfl rfl 3 (by decide) (hG _ mw_60) (fun _ h9 => h9) rfl dAg_meetAny_48 ?_
            refine lv_iload hx hb dAg_meetAny_51 (lv_at hl 5 rfl) ?_
            refine va_iald (f := (u.2.1 7)) hx hb hK hP 13 0 rfl rfl hg1 dAg_meetAny_53 ?_
            refine lv_icmp_ge (tgt := 59) hx hb dAg_meetAny_54 (by decide) (fun hc => ?_) (fun hc => ?_)
            · rw [if_pos hc] at h
              refine lv_iinc (v := (x5 + (1 : Int32))) (lv' := [(5, .int (x5 + (1 : Int32))), (0, .ref (ad 2)), (1, .int x1), (2, .int x2), (3, .int x3), (4, .int x4)]) hx hb dAg_meetAny_59 hl (k := 5) rfl rfl (by decide) rfl (fun ls hl => ?_)
              refine lv_goto (tgt := 3) hx hb dAg_meetAny_62 (by decide) ?_
              exact ih u x1 x2 x3 x4 (x5 + (1 : Int32)) _ h H locs ls hP hD hS (lv_sub hl [1, 2, 3, 4, 5, 0] rfl)
            · rw [if_neg hc] at h
              refine lv_iconst (v := (1 : Int32)) hx hb dAg_meetAny_57 (by decide) ?_
              cases h
              exact gw_zret hx hb hr (by first | rfl | exact nb_A_isWithin _ _ _) hlocks hP hD hS dAg_meetAny_58
set_option maxHeartbeats 4000000 in
set_option maxRecDepth 100000 in
theorem c_Ag_meetAny (l : Launch) (D : va_G) (ad : Nat → Nat) (cI cZ cJ : ClassId) (N : Nat) (u : StA) (a1 : Int32) (a2 : Int32) (a3 : Int32) (a4 : Int32) (r : Int32) (h : f_Ag_meetAny N u a1 a2 a3 a4 = some r) : gw_Ct l D vwCl (tA cI cZ cJ) (wA ad cI cZ cJ) yAg_meetAny (Cond.code yAg_meetAny cAg_meetAny 6 (some .boolean) :: gG) ({ frames := 0, cells := 0, slots := 0, locals := 0 } : Room) [.ref (ad 2), .int a1, .int a2, .int a3, .int a4] u (some (.int r)) u := by
  refine gw_enter (by decide) (Nat.le_of_ble_eq_true rfl) ?_
  intro p e s m below meth c A hC hP hD hS ls hl
  obtain ⟨hx, hb, hr, hml, hG, hown, hlocks, hK, hA⟩ := id hC
  have hl : lv_has ls 6 [(0, .ref (ad 2)), (1, .int a1), (2, .int a2), (3, .int a3), (4, .int a4)] := hl
  obtain ⟨H, hH⟩ : ∃ H, H = s.heap := ⟨_, rfl⟩
  obtain ⟨locs, hlocs⟩ : ∃ x : List Loc, x = [] := ⟨_, rfl⟩
  rw [← hlocs] at hS ⊢
  have hP : va_P D vwCl (wA ad cI cZ cJ u) H := by rw [hH]; exact hP
  have hS : va_S A s.heap H locs := by rw [hH]; exact hS
  suffices g : W p l e ({ frames := 0, cells := 0, slots := 0, locals := 0 } : Room) s m [.ref (ad 2), .int a1, .int a2, .int a3, .int a4].toArray below meth c H locs 0 0 (MQ below (gw_Q D vwCl (wA ad cI cZ cJ) A u (some (.int r))) [.ref (ad 2), .int a1, .int a2, .int a3, .int a4].toArray s 0 0 A) (F0 m 0 ls []) by rw [hH] at g; exact g
  unfold f_Ag_meetAny at h
  refine lv_iconst (v := (0 : Int32)) hx hb dAg_meetAny_0 (by decide) ?_
  refine lv_istore (lv' := [(5, .int (0 : Int32)), (0, .ref (ad 2)), (1, .int a1), (2, .int a2), (3, .int a3), (4, .int a4)]) hx hb dAg_meetAny_1 hl (by decide) rfl (fun ls hl => ?_)
  exact lp_Ag_meetAny_3 hC N N u a1 a2 a3 a4 (0 : Int32) _ h H locs ls hP hD hS (lv_sub hl [1, 2, 3, 4, 5, 0] rfl)
set_option maxHeartbeats 4000000 in
set_option maxRecDepth 100000 in
theorem lp_Ag_holdsAt_64 {p : Program} {l : Launch} {e : Env} {s : State} {m : MethodId} {args : Array Value} {below : List Frame} {meth : Method} {c : Code} {A : Nat → Prop} {D : va_G} {ad : Nat → Nat} {cI cZ cJ : ClassId} (hC : gw_C p s m args meth c "AidRows$Agreements" cAg_holdsAt 7 (some .boolean) gG D vwCl (tA cI cZ cJ) A) : ∀ (u : StA) (x1 : Int32) (x2 : Int32) (x3 : Int32) (x4 : Int32) (x5 : Int32) (y0 : Int32) (r : Int32), f_Ag_holdsAt_64 u x1 x2 x3 x4 x5 y0 = some r → ∀ (H : Heap) (locs : List Loc) (ls : Array Slot), va_P D vwCl (wA ad cI cZ cJ u) H → va_D A (wA ad cI cZ cJ u) → va_S A s.heap H locs → lv_has ls 7 [(0, .ref (ad 2)), (1, .int x1), (2, .int x2), (3, .int x3), (4, .int x4), (5, .int x5)] → W p l e ({ frames := 0, cells := 0, slots := 0, locals := 0 } : Room) s m args below meth c H locs 0 0 (MQ below (gw_Q D vwCl (wA ad cI cZ cJ) A u (some (.int r))) args s 0 0 A) (F0 m 64 ls [.int y0]) := by
  obtain ⟨hx, hb, hr, hml, hG, hown, hlocks, hK, hA⟩ := id hC
  intro u x1 x2 x3 x4 x5 y0 r h H locs ls hP hD hS hl
  unfold f_Ag_holdsAt_64 at h
  refine lv_istore (lv' := [(6, .int y0), (0, .ref (ad 2)), (1, .int x1), (2, .int x2), (3, .int x3), (4, .int x4), (5, .int x5)]) hx hb dAg_holdsAt_64 hl (by decide) rfl (fun ls hl => ?_)
  refine lv_iload hx hb dAg_holdsAt_66 (lv_at hl 0 rfl) ?_
  refine lv_if_eq (tgt := 91) hx hb dAg_holdsAt_68 (by decide) (fun hc => ?_) (fun hc => ?_)
  · rw [if_pos hc] at h
    refine lv_iload_n hx hb dAg_holdsAt_91 rfl (lv_at hl 4 rfl) ?_
    refine lv_iload hx hb dAg_holdsAt_92 (lv_at hl 5 rfl) ?_
    refine lv_icmp_lt (tgt := 107) hx hb dAg_holdsAt_94 (by decide) (fun hc => ?_) (fun hc => ?_)
    · rw [if_pos hc] at h
      refine lv_iconst (v := (0 : Int32)) hx hb dAg_holdsAt_107 (by decide) ?_
      cases h
      exact gw_zret hx hb hr (by first | rfl | exact nb_A_isWithin _ _ _) hlocks hP hD hS dAg_holdsAt_108
    · rw [if_neg hc] at h
      refine lv_iload_n hx hb dAg_holdsAt_97 rfl (lv_at hl 4 rfl) ?_
      refine lv_iload hx hb dAg_holdsAt_98 (lv_at hl 6 rfl) ?_
      refine lv_icmp_gt (tgt := 107) hx hb dAg_holdsAt_100 (by decide) (fun hc => ?_) (fun hc => ?_)
      · rw [if_pos hc] at h
        refine lv_iconst (v := (0 : Int32)) hx hb dAg_holdsAt_107 (by decide) ?_
        cases h
        exact gw_zret hx hb hr (by first | rfl | exact nb_A_isWithin _ _ _) hlocks hP hD hS dAg_holdsAt_108
      · rw [if_neg hc] at h
        refine lv_iconst (v := (1 : Int32)) hx hb dAg_holdsAt_103 (by decide) ?_
        refine lv_goto (tgt := 108) hx hb dAg_holdsAt_104 (by decide) ?_
        cases h
        exact gw_zret hx hb hr (by first | rfl | exact nb_A_isWithin _ _ _) hlocks hP hD hS dAg_holdsAt_108
  · rw [if_neg hc] at h
    refine lv_iload_n hx hb dAg_holdsAt_71 rfl (lv_at hl 4 rfl) ?_
    refine lv_iload hx hb dAg_holdsAt_72 (lv_at hl 5 rfl) ?_
    refine lv_icmp_ge (tgt := 83) hx hb dAg_holdsAt_74 (by decide) (fun hc => ?_) (fun hc => ?_)
    · rw [if_pos hc] at h
      refine lv_iconst (v := (1 : Int32)) hx hb dAg_holdsAt_83 (by decide) ?_
      refine lv_goto (tgt := 108) hx hb dAg_holdsAt_84 (by decide) ?_
      cases h
      exact gw_zret hx hb hr (by first | rfl | exact nb_A_isWithin _ _ _) hlocks hP hD hS dAg_holdsAt_108
    · rw [if_neg hc] at h
      refine lv_iload_n hx hb dAg_holdsAt_77 rfl (lv_at hl 4 rfl) ?_
      refine lv_iload hx hb dAg_holdsAt_78 (lv_at hl 6 rfl) ?_
      refine lv_icmp_gt (tgt := 87) hx hb dAg_holdsAt_80 (by decide) (fun hc => ?_) (fun hc => ?_)
      · rw [if_pos hc] at h
        refine lv_iconst (v := (0 : Int32)) hx hb dAg_holdsAt_87 (by decide) ?_
        refine lv_goto (tgt := 108) hx hb dAg_holdsAt_88 (by decide) ?_
        cases h
        exact gw_zret hx hb hr (by first | rfl | exact nb_A_isWithin _ _ _) hlocks hP hD hS dAg_holdsAt_108
      · rw [if_neg hc] at h
        refine lv_iconst (v := (1 : Int32)) hx hb dAg_holdsAt_83 (by decide) ?_
        refine lv_goto (tgt := 108) hx hb dAg_holdsAt_84 (by decide) ?_
        cases h
        exact gw_zret hx hb hr (by first | rfl | exact nb_A_isWithin _ _ _) hlocks hP hD hS dAg_holdsAt_108
set_option maxHeartbeats 4000000 in
set_option maxRecDepth 100000 in
theorem c_Ag_holdsAt (l : Launch) (D : va_G) (ad : Nat → Nat) (cI cZ cJ : ClassId) (u : StA) (a1 : Int32) (a2 : Int32) (r : Int32) (h : f_Ag_holdsAt u a1 a2 = some r) : gw_Ct l D vwCl (tA cI cZ cJ) (wA ad cI cZ cJ) yAg_holdsAt (Cond.code yAg_holdsAt cAg_holdsAt 7 (some .boolean) :: gG) ({ frames := 0, cells := 0, slots := 0, locals := 0 } : Room) [.ref (ad 2), .int a1, .int a2] u (some (.int r)) u := by
  refine gw_enter (by decide) (Nat.le_of_ble_eq_true rfl) ?_
  intro p e s m below meth c A hC hP hD hS ls hl
  obtain ⟨hx, hb, hr, hml, hG, hown, hlocks, hK, hA⟩ := id hC
  have hl : lv_has ls 7 [(0, .ref (ad 2)), (1, .int a1), (2, .int a2)] := hl
  obtain ⟨H, hH⟩ : ∃ H, H = s.heap := ⟨_, rfl⟩
  obtain ⟨locs, hlocs⟩ : ∃ x : List Loc, x = [] := ⟨_, rfl⟩
  rw [← hlocs] at hS ⊢
  have hP : va_P D vwCl (wA ad cI cZ cJ u) H := by rw [hH]; exact hP
  have hS : va_S A s.heap H locs := by rw [hH]; exact hS
  suffices g : W p l e ({ frames := 0, cells := 0, slots := 0, locals := 0 } : Room) s m [.ref (ad 2), .int a1, .int a2].toArray below meth c H locs 0 0 (MQ below (gw_Q D vwCl (wA ad cI cZ cJ) A u (some (.int r))) [.ref (ad 2), .int a1, .int a2].toArray s 0 0 A) (F0 m 0 ls []) by rw [hH] at g; exact g
  unfold f_Ag_holdsAt at h
  refine lv_iload_n hx hb dAg_holdsAt_0 rfl (lv_at hl 2 rfl) ?_
  refine lv_aload_n hx hb dAg_holdsAt_1 rfl (lv_at hl 0 rfl) ?_
  refine va_get (D := D) (ci := 2) (v := .ref (ad 12)) (C := RAg) (T := TAg) (N := 7) hx hb hG inAg hown hK hP 2 rfl rfl 2 (by decide) (hG _ mw_59) (fun _ h9 => h9) rfl dAg_holdsAt_2 ?_
  refine lv_iload_n hx hb dAg_holdsAt_5 rfl (lv_at hl 1 rfl) ?_
  obtain ⟨hg1, h⟩ := gI_some h
  refine va_iald (f := (u.2.1 6)) hx hb hK hP 12 0 rfl rfl hg1 dAg_holdsAt_6 ?_
  refine lv_icmp_lt (tgt := 20) hx hb dAg_holdsAt_7 (by decide) (fun hc => ?_) (fun hc => ?_)
  · rw [if_pos hc] at h
    refine lv_iconst (v := (0 : Int32)) hx hb dAg_holdsAt_20 (by decide) ?_
    cases h
    exact gw_zret hx hb hr (by first | rfl | exact nb_A_isWithin _ _ _) hlocks hP hD hS dAg_holdsAt_21
  · rw [if_neg hc] at h
    refine lv_iload_n hx hb dAg_holdsAt_10 rfl (lv_at hl 2 rfl) ?_
    refine lv_aload_n hx hb dAg_holdsAt_11 rfl (lv_at hl 0 rfl) ?_
    refine va_get (D := D) (ci := 2) (v := .ref (ad 13)) (C := RAg) (T := TAg) (N := 7) hx hb hG inAg hown hK hP 2 rfl rfl 3 (by decide) (hG _ mw_60) (fun _ h9 => h9) rfl dAg_holdsAt_12 ?_
    refine lv_iload_n hx hb dAg_holdsAt_15 rfl (lv_at hl 1 rfl) ?_
    refine va_iald (f := (u.2.1 7)) hx hb hK hP 13 0 rfl rfl hg1 dAg_holdsAt_16 ?_
    refine lv_icmp_lt (tgt := 22) hx hb dAg_holdsAt_17 (by decide) (fun hc => ?_) (fun hc => ?_)
    · rw [if_pos hc] at h
      refine lv_iload_n hx hb dAg_holdsAt_22 rfl (lv_at hl 2 rfl) ?_
      refine lv_bipush (v := (60 : Int32)) hx hb dAg_holdsAt_23 (by decide) ?_
      refine lv_idiv hx hb dAg_holdsAt_25 (by decide) ?_
      refine lv_bipush (v := (24 : Int32)) hx hb dAg_holdsAt_26 (by decide) ?_
      refine lv_irem hx hb dAg_holdsAt_28 (by decide) ?_
      refine lv_istore_n (lv' := [(3, .int ((a2 / (60 : Int32)) - (a2 / (60 : Int32)) / (24 : Int32) * (24 : Int32))), (0, .ref (ad 2)), (1, .int a1), (2, .int a2)]) hx hb dAg_holdsAt_29 rfl hl (by decide) rfl (fun ls hl => ?_)
      refine lv_aload_n hx hb dAg_holdsAt_30 rfl (lv_at hl 1 rfl) ?_
      refine va_get (D := D) (ci := 2) (v := .ref (ad 14)) (C := RAg) (T := TAg) (N := 7) hx hb hG inAg hown hK hP 2 rfl rfl 4 (by decide) (hG _ mw_62) (fun _ h9 => h9) rfl dAg_holdsAt_31 ?_
      refine lv_iload_n hx hb dAg_holdsAt_34 rfl (lv_at hl 2 rfl) ?_
      refine va_iald (f := (u.2.1 8)) hx hb hK hP 14 0 rfl rfl hg1 dAg_holdsAt_35 ?_
      refine lv_bipush (v := (100 : Int32)) hx hb dAg_holdsAt_36 (by decide) ?_
      refine lv_idiv hx hb dAg_holdsAt_38 (by decide) ?_
      refine lv_istore (lv' := [(4, .int ((u.2.1 8 (a1).toNatClampNeg) / (100 : Int32))), (3, .int ((a2 / (60 : Int32)) - (a2 / (60 : Int32)) / (24 : Int32) * (24 : Int32))), (0, .ref (ad 2)), (1, .int a1), (2, .int a2)]) hx hb dAg_holdsAt_39 hl (by decide) rfl (fun ls hl => ?_)
      refine lv_aload_n hx hb dAg_holdsAt_41 rfl (lv_at hl 2 rfl) ?_
      refine va_get (D := D) (ci := 2) (v := .ref (ad 14)) (C := RAg) (T := TAg) (N := 7) hx hb hG inAg hown hK hP 2 rfl rfl 4 (by decide) (hG _ mw_62) (fun _ h9 => h9) rfl dAg_holdsAt_42 ?_
      refine lv_iload_n hx hb dAg_holdsAt_45 rfl (lv_at hl 3 rfl) ?_
      refine va_iald (f := (u.2.1 8)) hx hb hK hP 14 0 rfl rfl hg1 dAg_holdsAt_46 ?_
      refine lv_bipush (v := (100 : Int32)) hx hb dAg_holdsAt_47 (by decide) ?_
      refine lv_irem hx hb dAg_holdsAt_49 (by decide) ?_
      refine lv_istore (lv' := [(5, .int ((u.2.1 8 (a1).toNatClampNeg) - (u.2.1 8 (a1).toNatClampNeg) / (100 : Int32) * (100 : Int32))), (4, .int ((u.2.1 8 (a1).toNatClampNeg) / (100 : Int32))), (3, .int ((a2 / (60 : Int32)) - (a2 / (60 : Int32)) / (24 : Int32) * (24 : Int32))), (0, .ref (ad 2)), (1, .int a1), (2, .int a2)]) hx hb dAg_holdsAt_50 hl (by decide) rfl (fun ls hl => ?_)
      refine lv_iload hx hb dAg_holdsAt_52 (lv_at hl 0 rfl) ?_
      refine lv_iload hx hb dAg_holdsAt_54 (lv_at hl 1 rfl) ?_
      refine lv_icmp_ge (tgt := 63) hx hb dAg_holdsAt_56 (by decide) (fun hc => ?_) (fun hc => ?_)
      · rw [if_pos hc] at h
        refine lv_iconst (v := (0 : Int32)) hx hb dAg_holdsAt_63 (by decide) ?_
        exact lp_Ag_holdsAt_64 hC u a1 a2 ((a2 / (60 : Int32)) - (a2 / (60 : Int32)) / (24 : Int32) * (24 : Int32)) ((u.2.1 8 (a1).toNatClampNeg) / (100 : Int32)) ((u.2.1 8 (a1).toNatClampNeg) - (u.2.1 8 (a1).toNatClampNeg) / (100 : Int32) * (100 : Int32)) (0 : Int32) _ h H locs ls hP hD hS (lv_sub hl [3, 4, 5, 2, 1, 0] rfl)
      · rw [if_neg hc] at h
        refine lv_iconst (v := (1 : Int32)) hx hb dAg_holdsAt_59 (by decide) ?_
        refine lv_goto (tgt := 64) hx hb dAg_holdsAt_60 (by decide) ?_
        exact lp_Ag_holdsAt_64 hC u a1 a2 ((a2 / (60 : Int32)) - (a2 / (60 : Int32)) / (24 : Int32) * (24 : Int32)) ((u.2.1 8 (a1).toNatClampNeg) / (100 : Int32)) ((u.2.1 8 (a1).toNatClampNeg) - (u.2.1 8 (a1).toNatClampNeg) / (100 : Int32) * (100 : Int32)) (1 : Int32) _ h H locs ls hP hD hS (lv_sub hl [3, 4, 5, 2, 1, 0] rfl)
    · rw [if_neg hc] at h
      refine lv_iconst (v := (0 : Int32)) hx hb dAg_holdsAt_20 (by decide) ?_
      cases h
      exact gw_zret hx hb hr (by first | rfl | exact nb_A_isWithin _ _ _) hlocks hP hD hS dAg_holdsAt_21
