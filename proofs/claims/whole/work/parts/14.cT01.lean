set_option maxHeartbeats 4000000 in
set_option maxRecDepth 100000 in
theorem c_A_house (l : Launch) (hst : l.stackTraces = false) (D : va_G) (ad : Nat → Nat) (cI cZ cJ : ClassId) (u : StA) (a1 : Int32) (a2 : Int32) (cd : Nat) (r : Int32) (w : StA) (h : f_A_house u a1 a2 = some ((cd, r), w)) : gx_Ct l D vwCl (tA cI cZ cJ) (wA ad cI cZ cJ) yA_house (Cond.code yA_house cA_house 3 (some .int) :: gG) ({ frames := 6, cells := 1, slots := 6, locals := 82 } : Room) [.ref (ad 0), .int a1, .int a2] u cd (some (.int r)) w := by
  refine gx_enter hst (by decide) (Nat.le_of_ble_eq_true rfl) ?_
  intro p e s m below meth c A hC hP hD hS ls hl
  obtain ⟨⟨hx, hb, hr, hml, hG, hown, hlocks, hK, hA⟩, hst, hE, htb⟩ := id hC
  have hl : lv_has ls 3 [(0, .ref (ad 0)), (1, .int a1), (2, .int a2)] := hl
  obtain ⟨H, hH⟩ : ∃ H, H = s.heap := ⟨_, rfl⟩
  obtain ⟨locs, hlocs⟩ : ∃ x : List Loc, x = [] := ⟨_, rfl⟩
  rw [← hlocs] at hS ⊢
  have hP : va_P D vwCl (wA ad cI cZ cJ u) H := by rw [hH]; exact hP
  have hS : va_S A s.heap H locs := by rw [hH]; exact hS
  suffices g : W p l e ({ frames := 6, cells := 1, slots := 6, locals := 82 } : Room) s m [.ref (ad 0), .int a1, .int a2].toArray below meth c H locs 0 0 (vx_MQ below (gx_Q D vwCl (wA ad cI cZ cJ) A cd w (some (.int r))) (gx_X D vwCl (wA ad cI cZ cJ) A cd w) [.ref (ad 0), .int a1, .int a2].toArray s 1 6 A) (F0 m 0 ls []) by rw [hH] at g; exact g
  unfold f_A_house at h
  refine lv_iload_n hx hb dA_house_0 rfl (lv_at hl 1 rfl) ?_
  refine lv_iconst (v := (0 : Int32)) hx hb dA_house_1 (by decide) ?_
  refine lv_bipush (v := (9 : Int32)) hx hb dA_house_2 (by decide) ?_
  refine gw_callS (As := [.int a1, .int (0 : Int32), .int (9 : Int32)]) (rest := []) (u := u) (u' := u) hx hb hml hown hG (c_A_isWithin l D ad cI cZ cJ u a1 (0 : Int32) (9 : Int32) _ rfl) lk_A_54 rfl rfl ⟨Nat.le_of_ble_eq_true rfl, Nat.le_of_ble_eq_true rfl⟩ hK hP hD hS hA rfl hl.1 rfl (Nat.le_of_ble_eq_true rfl) dA_house_4 ⟨Nat.le_of_ble_eq_true rfl, Nat.le_of_ble_eq_true rfl⟩ (fun H locs hP hD hS => ?_)
  refine lv_if_eq (tgt := 21) hx hb dA_house_7 (by decide) (fun hc => ?_) (fun hc => ?_)
  · rw [if_pos hc] at h
    cases h
    exact gx_thr (cd := 2) (cls := "java/lang/IndexOutOfBoundsException") (text := "rank or price") hC rfl (by decide) rfl (by decide +kernel) (by decide +kernel) mw_226 mw_12 (by decide +kernel) gx_a2 gx_b2 gx_g2 hP hD hS hl.1 dA_house_21 dA_house_24 dA_house_25 dA_house_27 dA_house_30 (Nat.le_of_ble_eq_true rfl) (Nat.le_of_ble_eq_true rfl) (Nat.le_of_ble_eq_true rfl) (Nat.le_of_ble_eq_true rfl)
  · rw [if_neg hc] at h
    refine lv_iload_n hx hb dA_house_10 rfl (lv_at hl 2 rfl) ?_
    refine lv_iconst (v := (0 : Int32)) hx hb dA_house_11 (by decide) ?_
    refine lv_sipush (v := (1000 : Int32)) hx hb dA_house_12 (by decide) ?_
    refine gw_callS (As := [.int a2, .int (0 : Int32), .int (1000 : Int32)]) (rest := []) (u := u) (u' := u) hx hb hml hown hG (c_A_isWithin l D ad cI cZ cJ u a2 (0 : Int32) (1000 : Int32) _ rfl) lk_A_54 rfl rfl ⟨Nat.le_of_ble_eq_true rfl, Nat.le_of_ble_eq_true rfl⟩ hK hP hD hS hA rfl hl.1 rfl (Nat.le_of_ble_eq_true rfl) dA_house_15 ⟨Nat.le_of_ble_eq_true rfl, Nat.le_of_ble_eq_true rfl⟩ (fun H locs hP hD hS => ?_)
    refine lv_if_ne (tgt := 31) hx hb dA_house_18 (by decide) (fun hc => ?_) (fun hc => ?_)
    · rw [if_neg hc] at h
      refine lv_aload_n hx hb dA_house_31 rfl (lv_at hl 0 rfl) ?_
      refine va_get (D := D) (ci := 0) (v := .ref (ad 1)) (C := RA) (T := TA) (N := 9) hx hb hG inA hown hK hP 0 rfl rfl 0 (by decide) (hG _ mw_174) (fun _ h9 => h9) rfl dA_house_32 ?_
      refine gw_callV (As := []) (rest := []) (u := u) (u' := u) hx hb hml hown hG (c_Ho_isFull l D ad cI cZ cJ u _ rfl) lk_A_65 rfl rfl ⟨Nat.le_of_ble_eq_true rfl, Nat.le_of_ble_eq_true rfl⟩ (va_recv hK hP (ci := 1) (q0 := 1) rfl rfl) hK hP hD hS hA rfl hl.1 rfl (Nat.le_of_ble_eq_true rfl) dA_house_35 ⟨Nat.le_of_ble_eq_true rfl, Nat.le_of_ble_eq_true rfl⟩ (fun H locs hP hD hS => ?_)
      refine lv_if_eq (tgt := 51) hx hb dA_house_38 (by decide) (fun hc => ?_) (fun hc => ?_)
      · rw [if_pos hc] at h
        refine lv_aload_n hx hb dA_house_51 rfl (lv_at hl 0 rfl) ?_
        refine va_get (D := D) (ci := 0) (v := .ref (ad 1)) (C := RA) (T := TA) (N := 9) hx hb hG inA hown hK hP 0 rfl rfl 0 (by decide) (hG _ mw_174) (fun _ h9 => h9) rfl dA_house_52 ?_
        refine lv_iload_n hx hb dA_house_55 rfl (lv_at hl 1 rfl) ?_
        refine lv_iload_n hx hb dA_house_56 rfl (lv_at hl 2 rfl) ?_
        obtain ⟨q1, q1_h, h⟩ := gw_bind h
        refine gw_callV (As := [.int a1, .int a2]) (rest := []) (u := u) (u' := q1.2) hx hb hml hown hG (c_Ho_add l D ad cI cZ cJ u a1 a2 _ _ q1_h) lk_A_74 rfl rfl ⟨Nat.le_of_ble_eq_true rfl, Nat.le_of_ble_eq_true rfl⟩ (va_recv hK hP (ci := 1) (q0 := 1) rfl rfl) hK hP hD hS hA rfl hl.1 rfl (Nat.le_of_ble_eq_true rfl) dA_house_57 ⟨Nat.le_of_ble_eq_true rfl, Nat.le_of_ble_eq_true rfl⟩ (fun H locs hP hD hS => ?_)
        cases h
        exact gx_iret hx hb hr hlocks hP hD hS dA_house_60
      · rw [if_neg hc] at h
        cases h
        exact gx_thr (cd := 4) (cls := "java/lang/UnsupportedOperationException") (text := "no room for a house") hC rfl (by decide) rfl (by decide +kernel) (by decide +kernel) mw_299 mw_13 (by decide +kernel) gx_a4 gx_b4 gx_g4 hP hD hS hl.1 dA_house_41 dA_house_44 dA_house_45 dA_house_47 dA_house_50 (Nat.le_of_ble_eq_true rfl) (Nat.le_of_ble_eq_true rfl) (Nat.le_of_ble_eq_true rfl) (Nat.le_of_ble_eq_true rfl)
    · rw [if_pos hc] at h
      cases h
      exact gx_thr (cd := 2) (cls := "java/lang/IndexOutOfBoundsException") (text := "rank or price") hC rfl (by decide) rfl (by decide +kernel) (by decide +kernel) mw_226 mw_12 (by decide +kernel) gx_a2 gx_b2 gx_g2 hP hD hS hl.1 dA_house_21 dA_house_24 dA_house_25 dA_house_27 dA_house_30 (Nat.le_of_ble_eq_true rfl) (Nat.le_of_ble_eq_true rfl) (Nat.le_of_ble_eq_true rfl) (Nat.le_of_ble_eq_true rfl)
set_option maxHeartbeats 4000000 in
set_option maxRecDepth 100000 in
theorem c_A_agree (l : Launch) (hst : l.stackTraces = false) (D : va_G) (ad : Nat → Nat) (cI cZ cJ : ClassId) (N : Nat) (u : StA) (a1 : Int32) (a2 : Int32) (a3 : Int32) (a4 : Int32) (a5 : Int32) (a6 : Int32) (cd : Nat) (r : Int32) (w : StA) (h : f_A_agree N u a1 a2 a3 a4 a5 a6 = some ((cd, r), w)) : gx_Ct l D vwCl (tA cI cZ cJ) (wA ad cI cZ cJ) yA_agree (Cond.code yA_agree cA_agree 7 (some .int) :: gG) ({ frames := 6, cells := 1, slots := 6, locals := 82 } : Room) [.ref (ad 0), .int a1, .int a2, .int a3, .int a4, .int a5, .int a6] u cd (some (.int r)) w := by
  refine gx_enter hst (by decide) (Nat.le_of_ble_eq_true rfl) ?_
  intro p e s m below meth c A hC hP hD hS ls hl
  obtain ⟨⟨hx, hb, hr, hml, hG, hown, hlocks, hK, hA⟩, hst, hE, htb⟩ := id hC
  have hl : lv_has ls 7 [(0, .ref (ad 0)), (1, .int a1), (2, .int a2), (3, .int a3), (4, .int a4), (5, .int a5), (6, .int a6)] := hl
  obtain ⟨H, hH⟩ : ∃ H, H = s.heap := ⟨_, rfl⟩
  obtain ⟨locs, hlocs⟩ : ∃ x : List Loc, x = [] := ⟨_, rfl⟩
  rw [← hlocs] at hS ⊢
  have hP : va_P D vwCl (wA ad cI cZ cJ u) H := by rw [hH]; exact hP
  have hS : va_S A s.heap H locs := by rw [hH]; exact hS
  suffices g : W p l e ({ frames := 6, cells := 1, slots := 6, locals := 82 } : Room) s m [.ref (ad 0), .int a1, .int a2, .int a3, .int a4, .int a5, .int a6].toArray below meth c H locs 0 0 (vx_MQ below (gx_Q D vwCl (wA ad cI cZ cJ) A cd w (some (.int r))) (gx_X D vwCl (wA ad cI cZ cJ) A cd w) [.ref (ad 0), .int a1, .int a2, .int a3, .int a4, .int a5, .int a6].toArray s 1 6 A) (F0 m 0 ls []) by rw [hH] at g; exact g
  unfold f_A_agree at h
  refine lv_aload_n hx hb dA_agree_0 rfl (lv_at hl 0 rfl) ?_
  refine va_get (D := D) (ci := 0) (v := .ref (ad 1)) (C := RA) (T := TA) (N := 9) hx hb hG inA hown hK hP 0 rfl rfl 0 (by decide) (hG _ mw_174) (fun _ h9 => h9) rfl dA_agree_1 ?_
  refine lv_iload_n hx hb dA_agree_4 rfl (lv_at hl 1 rfl) ?_
  refine gw_callV (As := [.int a1]) (rest := []) (u := u) (u' := u) hx hb hml hown hG (c_Ho_has l D ad cI cZ cJ u a1 _ rfl) lk_A_78 rfl rfl ⟨Nat.le_of_ble_eq_true rfl, Nat.le_of_ble_eq_true rfl⟩ (va_recv hK hP (ci := 1) (q0 := 1) rfl rfl) hK hP hD hS hA rfl hl.1 rfl (Nat.le_of_ble_eq_true rfl) dA_agree_5 ⟨Nat.le_of_ble_eq_true rfl, Nat.le_of_ble_eq_true rfl⟩ (fun H locs hP hD hS => ?_)
  refine lv_if_eq (tgt := 21) hx hb dA_agree_8 (by decide) (fun hc => ?_) (fun hc => ?_)
  · rw [if_pos hc] at h
    cases h
    exact gx_thr (cd := 1) (cls := "java/lang/IllegalArgumentException") (text := "no such house or kind") hC rfl (by decide) rfl (by decide +kernel) (by decide +kernel) mw_332 mw_14 (by decide +kernel) gx_a1 gx_b1 gx_g1 hP hD hS hl.1 dA_agree_21 dA_agree_24 dA_agree_25 dA_agree_27 dA_agree_30 (Nat.le_of_ble_eq_true rfl) (Nat.le_of_ble_eq_true rfl) (Nat.le_of_ble_eq_true rfl) (Nat.le_of_ble_eq_true rfl)
  · rw [if_neg hc] at h
    refine lv_iload_n hx hb dA_agree_11 rfl (lv_at hl 2 rfl) ?_
    refine lv_iconst (v := (0 : Int32)) hx hb dA_agree_12 (by decide) ?_
    refine lv_bipush (v := (9 : Int32)) hx hb dA_agree_13 (by decide) ?_
    refine gw_callS (As := [.int a2, .int (0 : Int32), .int (9 : Int32)]) (rest := []) (u := u) (u' := u) hx hb hml hown hG (c_A_isWithin l D ad cI cZ cJ u a2 (0 : Int32) (9 : Int32) _ rfl) lk_A_54 rfl rfl ⟨Nat.le_of_ble_eq_true rfl, Nat.le_of_ble_eq_true rfl⟩ hK hP hD hS hA rfl hl.1 rfl (Nat.le_of_ble_eq_true rfl) dA_agree_15 ⟨Nat.le_of_ble_eq_true rfl, Nat.le_of_ble_eq_true rfl⟩ (fun H locs hP hD hS => ?_)
    refine lv_if_ne (tgt := 31) hx hb dA_agree_18 (by decide) (fun hc => ?_) (fun hc => ?_)
    · rw [if_neg hc] at h
      refine lv_iload_n hx hb dA_agree_31 rfl (lv_at hl 3 rfl) ?_
      refine lv_iload hx hb dA_agree_32 (lv_at hl 4 rfl) ?_
      refine gw_callS (As := [.int a3, .int a4]) (rest := []) (u := u) (u' := u) hx hb hml hown hG (c_A_isSpan l D ad cI cZ cJ u a3 a4 _ rfl) lk_A_87 rfl rfl ⟨Nat.le_of_ble_eq_true rfl, Nat.le_of_ble_eq_true rfl⟩ hK hP hD hS hA rfl hl.1 rfl (Nat.le_of_ble_eq_true rfl) dA_agree_34 ⟨Nat.le_of_ble_eq_true rfl, Nat.le_of_ble_eq_true rfl⟩ (fun H locs hP hD hS => ?_)
      refine lv_if_eq (tgt := 59) hx hb dA_agree_37 (by decide) (fun hc => ?_) (fun hc => ?_)
      · rw [if_pos hc] at h
        cases h
        exact gx_thr (cd := 2) (cls := "java/lang/IndexOutOfBoundsException") (text := "minutes, hours or units") hC rfl (by decide) rfl (by decide +kernel) (by decide +kernel) mw_226 mw_12 (by decide +kernel) gx_a2 gx_b2 gx_g2 hP hD hS hl.1 dA_agree_59 dA_agree_62 dA_agree_63 dA_agree_65 dA_agree_68 (Nat.le_of_ble_eq_true rfl) (Nat.le_of_ble_eq_true rfl) (Nat.le_of_ble_eq_true rfl) (Nat.le_of_ble_eq_true rfl)
      · rw [if_neg hc] at h
        refine lv_iload hx hb dA_agree_40 (lv_at hl 5 rfl) ?_
        refine gw_callS (As := [.int a5]) (rest := []) (u := u) (u' := u) hx hb hml hown hG (c_A_isHours l D ad cI cZ cJ u a5 _ rfl) lk_A_91 rfl rfl ⟨Nat.le_of_ble_eq_true rfl, Nat.le_of_ble_eq_true rfl⟩ hK hP hD hS hA rfl hl.1 rfl (Nat.le_of_ble_eq_true rfl) dA_agree_42 ⟨Nat.le_of_ble_eq_true rfl, Nat.le_of_ble_eq_true rfl⟩ (fun H locs hP hD hS => ?_)
        refine lv_if_eq (tgt := 59) hx hb dA_agree_45 (by decide) (fun hc => ?_) (fun hc => ?_)
        · rw [if_pos hc] at h
          cases h
          exact gx_thr (cd := 2) (cls := "java/lang/IndexOutOfBoundsException") (text := "minutes, hours or units") hC rfl (by decide) rfl (by decide +kernel) (by decide +kernel) mw_226 mw_12 (by decide +kernel) gx_a2 gx_b2 gx_g2 hP hD hS hl.1 dA_agree_59 dA_agree_62 dA_agree_63 dA_agree_65 dA_agree_68 (Nat.le_of_ble_eq_true rfl) (Nat.le_of_ble_eq_true rfl) (Nat.le_of_ble_eq_true rfl) (Nat.le_of_ble_eq_true rfl)
        · rw [if_neg hc] at h
          refine lv_iload hx hb dA_agree_48 (lv_at hl 6 rfl) ?_
          refine lv_iconst (v := (1 : Int32)) hx hb dA_agree_50 (by decide) ?_
          refine lv_bipush (v := (20 : Int32)) hx hb dA_agree_51 (by decide) ?_
          refine gw_callS (As := [.int a6, .int (1 : Int32), .int (20 : Int32)]) (rest := []) (u := u) (u' := u) hx hb hml hown hG (c_A_isWithin l D ad cI cZ cJ u a6 (1 : Int32) (20 : Int32) _ rfl) lk_A_54 rfl rfl ⟨Nat.le_of_ble_eq_true rfl, Nat.le_of_ble_eq_true rfl⟩ hK hP hD hS hA rfl hl.1 rfl (Nat.le_of_ble_eq_true rfl) dA_agree_53 ⟨Nat.le_of_ble_eq_true rfl, Nat.le_of_ble_eq_true rfl⟩ (fun H locs hP hD hS => ?_)
          refine lv_if_ne (tgt := 69) hx hb dA_agree_56 (by decide) (fun hc => ?_) (fun hc => ?_)
          · rw [if_neg hc] at h
            refine lv_aload_n hx hb dA_agree_69 rfl (lv_at hl 0 rfl) ?_
            refine va_get (D := D) (ci := 0) (v := .ref (ad 2)) (C := RA) (T := TA) (N := 9) hx hb hG inA hown hK hP 0 rfl rfl 1 (by decide) (hG _ mw_175) (fun _ h9 => h9) rfl dA_agree_70 ?_
            refine lv_iload_n hx hb dA_agree_73 rfl (lv_at hl 1 rfl) ?_
            refine lv_iload_n hx hb dA_agree_74 rfl (lv_at hl 2 rfl) ?_
            refine lv_iload_n hx hb dA_agree_75 rfl (lv_at hl 3 rfl) ?_
            refine lv_iload hx hb dA_agree_76 (lv_at hl 4 rfl) ?_
            obtain ⟨q1, q1_h, h⟩ := gw_bind h
            refine gw_callV (As := [.int a1, .int a2, .int a3, .int a4]) (rest := []) (u := u) (u' := u) hx hb hml hown hG (c_Ag_meetAny l D ad cI cZ cJ N u a1 a2 a3 a4 _ q1_h) lk_A_96 rfl rfl ⟨Nat.le_of_ble_eq_true rfl, Nat.le_of_ble_eq_true rfl⟩ (va_recv hK hP (ci := 2) (q0 := 2) rfl rfl) hK hP hD hS hA rfl hl.1 rfl (Nat.le_of_ble_eq_true rfl) dA_agree_78 ⟨Nat.le_of_ble_eq_true rfl, Nat.le_of_ble_eq_true rfl⟩ (fun H locs hP hD hS => ?_)
            refine lv_if_eq (tgt := 94) hx hb dA_agree_81 (by decide) (fun hc => ?_) (fun hc => ?_)
            · rw [if_pos hc] at h
              refine lv_aload_n hx hb dA_agree_94 rfl (lv_at hl 0 rfl) ?_
              refine va_get (D := D) (ci := 0) (v := .ref (ad 2)) (C := RA) (T := TA) (N := 9) hx hb hG inA hown hK hP 0 rfl rfl 1 (by decide) (hG _ mw_175) (fun _ h9 => h9) rfl dA_agree_95 ?_
              refine gw_callV (As := []) (rest := []) (u := u) (u' := u) hx hb hml hown hG (c_Ag_isFull l D ad cI cZ cJ u _ rfl) lk_A_105 rfl rfl ⟨Nat.le_of_ble_eq_true rfl, Nat.le_of_ble_eq_true rfl⟩ (va_recv hK hP (ci := 2) (q0 := 2) rfl rfl) hK hP hD hS hA rfl hl.1 rfl (Nat.le_of_ble_eq_true rfl) dA_agree_98 ⟨Nat.le_of_ble_eq_true rfl, Nat.le_of_ble_eq_true rfl⟩ (fun H locs hP hD hS => ?_)
              refine lv_if_eq (tgt := 114) hx hb dA_agree_101 (by decide) (fun hc => ?_) (fun hc => ?_)
              · rw [if_pos hc] at h
                refine lv_aload_n hx hb dA_agree_114 rfl (lv_at hl 0 rfl) ?_
                refine va_get (D := D) (ci := 0) (v := .ref (ad 2)) (C := RA) (T := TA) (N := 9) hx hb hG inA hown hK hP 0 rfl rfl 1 (by decide) (hG _ mw_175) (fun _ h9 => h9) rfl dA_agree_115 ?_
                refine lv_iload_n hx hb dA_agree_118 rfl (lv_at hl 1 rfl) ?_
                refine lv_iload_n hx hb dA_agree_119 rfl (lv_at hl 2 rfl) ?_
                refine lv_iload_n hx hb dA_agree_120 rfl (lv_at hl 3 rfl) ?_
                refine lv_iload hx hb dA_agree_121 (lv_at hl 4 rfl) ?_
                refine lv_iload hx hb dA_agree_123 (lv_at hl 5 rfl) ?_
                refine lv_iload hx hb dA_agree_125 (lv_at hl 6 rfl) ?_
                obtain ⟨q2, q2_h, h⟩ := gw_bind h
                refine gw_callV (As := [.int a1, .int a2, .int a3, .int a4, .int a5, .int a6]) (rest := []) (u := u) (u' := q2.2) hx hb hml hown hG (c_Ag_add l D ad cI cZ cJ u a1 a2 a3 a4 a5 a6 _ _ q2_h) lk_A_108 rfl rfl ⟨Nat.le_of_ble_eq_true rfl, Nat.le_of_ble_eq_true rfl⟩ (va_recv hK hP (ci := 2) (q0 := 2) rfl rfl) hK hP hD hS hA rfl hl.1 rfl (Nat.le_of_ble_eq_true rfl) dA_agree_127 ⟨Nat.le_of_ble_eq_true rfl, Nat.le_of_ble_eq_true rfl⟩ (fun H locs hP hD hS => ?_)
                cases h
                exact gx_iret hx hb hr hlocks hP hD hS dA_agree_130
              · rw [if_neg hc] at h
                cases h
                exact gx_thr (cd := 4) (cls := "java/lang/UnsupportedOperationException") (text := "no room for an agreement") hC rfl (by decide) rfl (by decide +kernel) (by decide +kernel) mw_299 mw_13 (by decide +kernel) gx_a4 gx_b4 gx_g4 hP hD hS hl.1 dA_agree_104 dA_agree_107 dA_agree_108 dA_agree_110 dA_agree_113 (Nat.le_of_ble_eq_true rfl) (Nat.le_of_ble_eq_true rfl) (Nat.le_of_ble_eq_true rfl) (Nat.le_of_ble_eq_true rfl)
            · rw [if_neg hc] at h
              cases h
              exact gx_thr (cd := 3) (cls := "java/lang/IllegalStateException") (text := "the house has an agreement then") hC rfl (by decide) rfl (by decide +kernel) (by decide +kernel) mw_360 mw_15 (by decide +kernel) gx_a3 gx_b3 gx_g3 hP hD hS hl.1 dA_agree_84 dA_agree_87 dA_agree_88 dA_agree_90 dA_agree_93 (Nat.le_of_ble_eq_true rfl) (Nat.le_of_ble_eq_true rfl) (Nat.le_of_ble_eq_true rfl) (Nat.le_of_ble_eq_true rfl)
          · rw [if_pos hc] at h
            cases h
            exact gx_thr (cd := 2) (cls := "java/lang/IndexOutOfBoundsException") (text := "minutes, hours or units") hC rfl (by decide) rfl (by decide +kernel) (by decide +kernel) mw_226 mw_12 (by decide +kernel) gx_a2 gx_b2 gx_g2 hP hD hS hl.1 dA_agree_59 dA_agree_62 dA_agree_63 dA_agree_65 dA_agree_68 (Nat.le_of_ble_eq_true rfl) (Nat.le_of_ble_eq_true rfl) (Nat.le_of_ble_eq_true rfl) (Nat.le_of_ble_eq_true rfl)
    · rw [if_pos hc] at h
      cases h
      exact gx_thr (cd := 1) (cls := "java/lang/IllegalArgumentException") (text := "no such house or kind") hC rfl (by decide) rfl (by decide +kernel) (by decide +kernel) mw_332 mw_14 (by decide +kernel) gx_a1 gx_b1 gx_g1 hP hD hS hl.1 dA_agree_21 dA_agree_24 dA_agree_25 dA_agree_27 dA_agree_30 (Nat.le_of_ble_eq_true rfl) (Nat.le_of_ble_eq_true rfl) (Nat.le_of_ble_eq_true rfl) (Nat.le_of_ble_eq_true rfl)
set_option maxHeartbeats 4000000 in
set_option maxRecDepth 100000 in
theorem c_A_cut (l : Launch) (hst : l.stackTraces = false) (D : va_G) (ad : Nat → Nat) (cI cZ cJ : ClassId) (u : StA) (a1 : Int32) (a2 : Int32) (cd : Nat) (r : Int32) (w : StA) (h : f_A_cut u a1 a2 = some ((cd, r), w)) : gx_Ct l D vwCl (tA cI cZ cJ) (wA ad cI cZ cJ) yA_cut (Cond.code yA_cut cA_cut 3 none :: gG) ({ frames := 6, cells := 1, slots := 6, locals := 82 } : Room) [.ref (ad 0), .int a1, .int a2] u cd (none) w := by
  refine gx_enter hst (by decide) (Nat.le_of_ble_eq_true rfl) ?_
  intro p e s m below meth c A hC hP hD hS ls hl
  obtain ⟨⟨hx, hb, hr, hml, hG, hown, hlocks, hK, hA⟩, hst, hE, htb⟩ := id hC
  have hl : lv_has ls 3 [(0, .ref (ad 0)), (1, .int a1), (2, .int a2)] := hl
  obtain ⟨H, hH⟩ : ∃ H, H = s.heap := ⟨_, rfl⟩
  obtain ⟨locs, hlocs⟩ : ∃ x : List Loc, x = [] := ⟨_, rfl⟩
  rw [← hlocs] at hS ⊢
  have hP : va_P D vwCl (wA ad cI cZ cJ u) H := by rw [hH]; exact hP
  have hS : va_S A s.heap H locs := by rw [hH]; exact hS
  suffices g : W p l e ({ frames := 6, cells := 1, slots := 6, locals := 82 } : Room) s m [.ref (ad 0), .int a1, .int a2].toArray below meth c H locs 0 0 (vx_MQ below (gx_Q D vwCl (wA ad cI cZ cJ) A cd w (none)) (gx_X D vwCl (wA ad cI cZ cJ) A cd w) [.ref (ad 0), .int a1, .int a2].toArray s 1 6 A) (F0 m 0 ls []) by rw [hH] at g; exact g
  unfold f_A_cut at h
  refine lv_aload_n hx hb dA_cut_0 rfl (lv_at hl 0 rfl) ?_
  refine va_get (D := D) (ci := 0) (v := .ref (ad 1)) (C := RA) (T := TA) (N := 9) hx hb hG inA hown hK hP 0 rfl rfl 0 (by decide) (hG _ mw_174) (fun _ h9 => h9) rfl dA_cut_1 ?_
  refine lv_iload_n hx hb dA_cut_4 rfl (lv_at hl 1 rfl) ?_
  refine gw_callV (As := [.int a1]) (rest := []) (u := u) (u' := u) hx hb hml hown hG (c_Ho_has l D ad cI cZ cJ u a1 _ rfl) lk_A_78 rfl rfl ⟨Nat.le_of_ble_eq_true rfl, Nat.le_of_ble_eq_true rfl⟩ (va_recv hK hP (ci := 1) (q0 := 1) rfl rfl) hK hP hD hS hA rfl hl.1 rfl (Nat.le_of_ble_eq_true rfl) dA_cut_5 ⟨Nat.le_of_ble_eq_true rfl, Nat.le_of_ble_eq_true rfl⟩ (fun H locs hP hD hS => ?_)
  refine lv_if_ne (tgt := 21) hx hb dA_cut_8 (by decide) (fun hc => ?_) (fun hc => ?_)
  · rw [if_neg hc] at h
    refine lv_aload_n hx hb dA_cut_21 rfl (lv_at hl 0 rfl) ?_
    refine va_get (D := D) (ci := 0) (v := .ref (ad 1)) (C := RA) (T := TA) (N := 9) hx hb hG inA hown hK hP 0 rfl rfl 0 (by decide) (hG _ mw_174) (fun _ h9 => h9) rfl dA_cut_22 ?_
    refine va_get (D := D) (ci := 1) (v := .ref (ad 9)) (C := RHo) (T := THo) (N := 4) hx hb hG inHo hown hK hP 1 rfl rfl 2 (by decide) (hG _ mw_37) (fun _ h9 => h9) rfl dA_cut_25 ?_
    refine lv_iload_n hx hb dA_cut_28 rfl (lv_at hl 1 rfl) ?_
    obtain ⟨hg1, h⟩ := gI_some h
    refine va_zald (f := (u.2.1 3)) hx hb hK hP 9 1 rfl rfl hg1 dA_cut_29 ?_
    refine lv_iload_n hx hb dA_cut_30 rfl (lv_at hl 2 rfl) ?_
    refine lv_icmp_ne (tgt := 44) hx hb dA_cut_31 (by decide) (fun hc => ?_) (fun hc => ?_)
    · rw [if_neg hc] at h
      refine lv_aload_n hx hb dA_cut_44 rfl (lv_at hl 0 rfl) ?_
      refine va_get (D := D) (ci := 0) (v := .ref (ad 1)) (C := RA) (T := TA) (N := 9) hx hb hG inA hown hK hP 0 rfl rfl 0 (by decide) (hG _ mw_174) (fun _ h9 => h9) rfl dA_cut_45 ?_
      refine va_get (D := D) (ci := 1) (v := .ref (ad 9)) (C := RHo) (T := THo) (N := 4) hx hb hG inHo hown hK hP 1 rfl rfl 2 (by decide) (hG _ mw_37) (fun _ h9 => h9) rfl dA_cut_48 ?_
      refine lv_iload_n hx hb dA_cut_51 rfl (lv_at hl 1 rfl) ?_
      refine lv_iload_n hx hb dA_cut_52 rfl (lv_at hl 2 rfl) ?_
      refine va_zast (f := (u.2.1 3)) hx hb hK hP hD hS 9 1 rfl rfl hg1 dA_cut_53 (fun H locs hP hD hS => ?_)
      rw [wA_a3] at hP hD
      cases h
      exact gx_vret hx hb hr hlocks hP hD hS dA_cut_54
    · rw [if_pos hc] at h
      cases h
      exact gx_thr (cd := 3) (cls := "java/lang/IllegalStateException") (text := "the line is so") hC rfl (by decide) rfl (by decide +kernel) (by decide +kernel) mw_360 mw_15 (by decide +kernel) gx_a3 gx_b3 gx_g3 hP hD hS hl.1 dA_cut_34 dA_cut_37 dA_cut_38 dA_cut_40 dA_cut_43 (Nat.le_of_ble_eq_true rfl) (Nat.le_of_ble_eq_true rfl) (Nat.le_of_ble_eq_true rfl) (Nat.le_of_ble_eq_true rfl)
  · rw [if_pos hc] at h
    cases h
    exact gx_thr (cd := 1) (cls := "java/lang/IllegalArgumentException") (text := "no such house") hC rfl (by decide) rfl (by decide +kernel) (by decide +kernel) mw_332 mw_14 (by decide +kernel) gx_a1 gx_b1 gx_g1 hP hD hS hl.1 dA_cut_11 dA_cut_14 dA_cut_15 dA_cut_17 dA_cut_20 (Nat.le_of_ble_eq_true rfl) (Nat.le_of_ble_eq_true rfl) (Nat.le_of_ble_eq_true rfl) (Nat.le_of_ble_eq_true rfl)
set_option maxHeartbeats 4000000 in
set_option maxRecDepth 100000 in
theorem c_A_end (l : Launch) (hst : l.stackTraces = false) (D : va_G) (ad : Nat → Nat) (cI cZ cJ : ClassId) (u : StA) (a1 : Int32) (cd : Nat) (r : Int32) (w : StA) (h : f_A_end u a1 = some ((cd, r), w)) : gx_Ct l D vwCl (tA cI cZ cJ) (wA ad cI cZ cJ) yA_end (Cond.code yA_end cA_end 2 none :: gG) ({ frames := 6, cells := 1, slots := 6, locals := 82 } : Room) [.ref (ad 0), .int a1] u cd (none) w := by
  refine gx_enter hst (by decide) (Nat.le_of_ble_eq_true rfl) ?_
  intro p e s m below meth c A hC hP hD hS ls hl
  obtain ⟨⟨hx, hb, hr, hml, hG, hown, hlocks, hK, hA⟩, hst, hE, htb⟩ := id hC
  have hl : lv_has ls 2 [(0, .ref (ad 0)), (1, .int a1)] := hl
  obtain ⟨H, hH⟩ : ∃ H, H = s.heap := ⟨_, rfl⟩
  obtain ⟨locs, hlocs⟩ : ∃ x : List Loc, x = [] := ⟨_, rfl⟩
  rw [← hlocs] at hS ⊢
  have hP : va_P D vwCl (wA ad cI cZ cJ u) H := by rw [hH]; exact hP
  have hS : va_S A s.heap H locs := by rw [hH]; exact hS
  suffices g : W p l e ({ frames := 6, cells := 1, slots := 6, locals := 82 } : Room) s m [.ref (ad 0), .int a1].toArray below meth c H locs 0 0 (vx_MQ below (gx_Q D vwCl (wA ad cI cZ cJ) A cd w (none)) (gx_X D vwCl (wA ad cI cZ cJ) A cd w) [.ref (ad 0), .int a1].toArray s 1 6 A) (F0 m 0 ls []) by rw [hH] at g; exact g
  unfold f_A_end at h
  refine lv_aload_n hx hb dA_end_0 rfl (lv_at hl 0 rfl) ?_
  refine va_get (D := D) (ci := 0) (v := .ref (ad 4)) (C := RA) (T := TA) (N := 9) hx hb hG inA hown hK hP 0 rfl rfl 3 (by decide) (hG _ mw_177) (fun _ h9 => h9) rfl dA_end_1 ?_
  refine lv_iload_n hx hb dA_end_4 rfl (lv_at hl 1 rfl) ?_
  refine gw_callV (As := [.int a1]) (rest := []) (u := u) (u' := u) hx hb hml hown hG (c_Lo_has l D ad cI cZ cJ u a1 _ rfl) lk_A_186 rfl rfl ⟨Nat.le_of_ble_eq_true rfl, Nat.le_of_ble_eq_true rfl⟩ (va_recv hK hP (ci := 4) (q0 := 4) rfl rfl) hK hP hD hS hA rfl hl.1 rfl (Nat.le_of_ble_eq_true rfl) dA_end_5 ⟨Nat.le_of_ble_eq_true rfl, Nat.le_of_ble_eq_true rfl⟩ (fun H locs hP hD hS => ?_)
  refine lv_if_ne (tgt := 21) hx hb dA_end_8 (by decide) (fun hc => ?_) (fun hc => ?_)
  · rw [if_neg hc] at h
    refine lv_aload_n hx hb dA_end_21 rfl (lv_at hl 0 rfl) ?_
    refine va_get (D := D) (ci := 0) (v := .ref (ad 4)) (C := RA) (T := TA) (N := 9) hx hb hG inA hown hK hP 0 rfl rfl 3 (by decide) (hG _ mw_177) (fun _ h9 => h9) rfl dA_end_22 ?_
    refine lv_iload_n hx hb dA_end_25 rfl (lv_at hl 1 rfl) ?_
    obtain ⟨q1, q1_h, h⟩ := gw_bind h
    refine gw_callV (As := [.int a1]) (rest := []) (u := u) (u' := u) hx hb hml hown hG (c_Lo_isLent l D ad cI cZ cJ u a1 _ q1_h) lk_A_189 rfl rfl ⟨Nat.le_of_ble_eq_true rfl, Nat.le_of_ble_eq_true rfl⟩ (va_recv hK hP (ci := 4) (q0 := 4) rfl rfl) hK hP hD hS hA rfl hl.1 rfl (Nat.le_of_ble_eq_true rfl) dA_end_26 ⟨Nat.le_of_ble_eq_true rfl, Nat.le_of_ble_eq_true rfl⟩ (fun H locs hP hD hS => ?_)
    refine lv_if_ne (tgt := 42) hx hb dA_end_29 (by decide) (fun hc => ?_) (fun hc => ?_)
    · rw [if_neg hc] at h
      refine lv_aload_n hx hb dA_end_42 rfl (lv_at hl 0 rfl) ?_
      refine va_get (D := D) (ci := 0) (v := .ref (ad 4)) (C := RA) (T := TA) (N := 9) hx hb hG inA hown hK hP 0 rfl rfl 3 (by decide) (hG _ mw_177) (fun _ h9 => h9) rfl dA_end_43 ?_
      refine va_get (D := D) (ci := 4) (v := .ref (ad 30)) (C := RLo) (T := TLo) (N := 7) hx hb hG inLo hown hK hP 4 rfl rfl 5 (by decide) (hG _ mw_142) (fun _ h9 => h9) rfl dA_end_46 ?_
      refine lv_iload_n hx hb dA_end_49 rfl (lv_at hl 1 rfl) ?_
      refine lv_aload_n hx hb dA_end_50 rfl (lv_at hl 0 rfl) ?_
      refine va_get (D := D) (ci := 0) (v := .int (u.1 0)) (C := RA) (T := TA) (N := 9) hx hb hG inA hown hK hP 0 rfl rfl 6 (by decide) (hG _ mw_180) (fun _ h9 => h9) rfl dA_end_51 ?_
      obtain ⟨hg2, h⟩ := gI_some h
      refine va_iast (f := (u.2.1 24)) hx hb hK hP hD hS 30 0 rfl rfl hg2 dA_end_54 (fun H locs hP hD hS => ?_)
      rw [wA_a24] at hP hD
      cases h
      exact gx_vret hx hb hr hlocks hP hD hS dA_end_55
    · rw [if_pos hc] at h
      cases h
      exact gx_thr (cd := 3) (cls := "java/lang/IllegalStateException") (text := "the loan has ended") hC rfl (by decide) rfl (by decide +kernel) (by decide +kernel) mw_360 mw_15 (by decide +kernel) gx_a3 gx_b3 gx_g3 hP hD hS hl.1 dA_end_32 dA_end_35 dA_end_36 dA_end_38 dA_end_41 (Nat.le_of_ble_eq_true rfl) (Nat.le_of_ble_eq_true rfl) (Nat.le_of_ble_eq_true rfl) (Nat.le_of_ble_eq_true rfl)
  · rw [if_pos hc] at h
    cases h
    exact gx_thr (cd := 1) (cls := "java/lang/IllegalArgumentException") (text := "no such loan") hC rfl (by decide) rfl (by decide +kernel) (by decide +kernel) mw_332 mw_14 (by decide +kernel) gx_a1 gx_b1 gx_g1 hP hD hS hl.1 dA_end_11 dA_end_14 dA_end_15 dA_end_17 dA_end_20 (Nat.le_of_ble_eq_true rfl) (Nat.le_of_ble_eq_true rfl) (Nat.le_of_ble_eq_true rfl) (Nat.le_of_ble_eq_true rfl)
set_option maxHeartbeats 4000000 in
set_option maxRecDepth 100000 in
theorem c_A_hand (l : Launch) (hst : l.stackTraces = false) (D : va_G) (ad : Nat → Nat) (cI cZ cJ : ClassId) (u : StA) (a1 : Int32) (a2 : Int32) (cd : Nat) (r : Int32) (w : StA) (h : f_A_hand u a1 a2 = some ((cd, r), w)) : gx_Ct l D vwCl (tA cI cZ cJ) (wA ad cI cZ cJ) yA_hand (Cond.code yA_hand cA_hand 3 none :: gG) ({ frames := 6, cells := 1, slots := 6, locals := 82 } : Room) [.ref (ad 0), .int a1, .int a2] u cd (none) w := by
  refine gx_enter hst (by decide) (Nat.le_of_ble_eq_true rfl) ?_
  intro p e s m below meth c A hC hP hD hS ls hl
  obtain ⟨⟨hx, hb, hr, hml, hG, hown, hlocks, hK, hA⟩, hst, hE, htb⟩ := id hC
  have hl : lv_has ls 3 [(0, .ref (ad 0)), (1, .int a1), (2, .int a2)] := hl
  obtain ⟨H, hH⟩ : ∃ H, H = s.heap := ⟨_, rfl⟩
  obtain ⟨locs, hlocs⟩ : ∃ x : List Loc, x = [] := ⟨_, rfl⟩
  rw [← hlocs] at hS ⊢
  have hP : va_P D vwCl (wA ad cI cZ cJ u) H := by rw [hH]; exact hP
  have hS : va_S A s.heap H locs := by rw [hH]; exact hS
  suffices g : W p l e ({ frames := 6, cells := 1, slots := 6, locals := 82 } : Room) s m [.ref (ad 0), .int a1, .int a2].toArray below meth c H locs 0 0 (vx_MQ below (gx_Q D vwCl (wA ad cI cZ cJ) A cd w (none)) (gx_X D vwCl (wA ad cI cZ cJ) A cd w) [.ref (ad 0), .int a1, .int a2].toArray s 1 6 A) (F0 m 0 ls []) by rw [hH] at g; exact g
  unfold f_A_hand at h
  refine lv_iload_n hx hb dA_hand_0 rfl (lv_at hl 1 rfl) ?_
  refine gw_callS (As := [.int a1]) (rest := []) (u := u) (u' := u) hx hb hml hown hG (c_A_isCall l D ad cI cZ cJ u a1 _ rfl) lk_A_240 rfl rfl ⟨Nat.le_of_ble_eq_true rfl, Nat.le_of_ble_eq_true rfl⟩ hK hP hD hS hA rfl hl.1 rfl (Nat.le_of_ble_eq_true rfl) dA_hand_1 ⟨Nat.le_of_ble_eq_true rfl, Nat.le_of_ble_eq_true rfl⟩ (fun H locs hP hD hS => ?_)
  refine lv_if_eq (tgt := 18) hx hb dA_hand_4 (by decide) (fun hc => ?_) (fun hc => ?_)
  · rw [if_pos hc] at h
    cases h
    exact gx_thr (cd := 1) (cls := "java/lang/IllegalArgumentException") (text := "no such call or house") hC rfl (by decide) rfl (by decide +kernel) (by decide +kernel) mw_332 mw_14 (by decide +kernel) gx_a1 gx_b1 gx_g1 hP hD hS hl.1 dA_hand_18 dA_hand_21 dA_hand_22 dA_hand_24 dA_hand_27 (Nat.le_of_ble_eq_true rfl) (Nat.le_of_ble_eq_true rfl) (Nat.le_of_ble_eq_true rfl) (Nat.le_of_ble_eq_true rfl)
  · rw [if_neg hc] at h
    refine lv_aload_n hx hb dA_hand_7 rfl (lv_at hl 0 rfl) ?_
    refine va_get (D := D) (ci := 0) (v := .ref (ad 1)) (C := RA) (T := TA) (N := 9) hx hb hG inA hown hK hP 0 rfl rfl 0 (by decide) (hG _ mw_174) (fun _ h9 => h9) rfl dA_hand_8 ?_
    refine lv_iload_n hx hb dA_hand_11 rfl (lv_at hl 2 rfl) ?_
    refine gw_callV (As := [.int a2]) (rest := []) (u := u) (u' := u) hx hb hml hown hG (c_Ho_has l D ad cI cZ cJ u a2 _ rfl) lk_A_78 rfl rfl ⟨Nat.le_of_ble_eq_true rfl, Nat.le_of_ble_eq_true rfl⟩ (va_recv hK hP (ci := 1) (q0 := 1) rfl rfl) hK hP hD hS hA rfl hl.1 rfl (Nat.le_of_ble_eq_true rfl) dA_hand_12 ⟨Nat.le_of_ble_eq_true rfl, Nat.le_of_ble_eq_true rfl⟩ (fun H locs hP hD hS => ?_)
    refine lv_if_ne (tgt := 28) hx hb dA_hand_15 (by decide) (fun hc => ?_) (fun hc => ?_)
    · rw [if_neg hc] at h
      refine lv_aload_n hx hb dA_hand_28 rfl (lv_at hl 0 rfl) ?_
      refine va_get (D := D) (ci := 0) (v := .ref (ad 6)) (C := RA) (T := TA) (N := 9) hx hb hG inA hown hK hP 0 rfl rfl 5 (by decide) (hG _ mw_179) (fun _ h9 => h9) rfl dA_hand_29 ?_
      refine lv_iload_n hx hb dA_hand_32 rfl (lv_at hl 1 rfl) ?_
      obtain ⟨hg1, h⟩ := gI_some h
      refine va_iald (f := (u.2.1 0)) hx hb hK hP 6 0 rfl rfl hg1 dA_hand_33 ?_
      refine lv_iconst (v := (-1 : Int32)) hx hb dA_hand_34 (by decide) ?_
      refine lv_icmp_ne (tgt := 50) hx hb dA_hand_35 (by decide) (fun hc => ?_) (fun hc => ?_)
      · rw [if_neg hc] at h
        cases h
        exact gx_thr (cd := 3) (cls := "java/lang/IllegalStateException") (text := "the call was handed over, or the line is cut") hC rfl (by decide) rfl (by decide +kernel) (by decide +kernel) mw_360 mw_15 (by decide +kernel) gx_a3 gx_b3 gx_g3 hP hD hS hl.1 dA_hand_50 dA_hand_53 dA_hand_54 dA_hand_56 dA_hand_59 (Nat.le_of_ble_eq_true rfl) (Nat.le_of_ble_eq_true rfl) (Nat.le_of_ble_eq_true rfl) (Nat.le_of_ble_eq_true rfl)
      · rw [if_pos hc] at h
        refine lv_aload_n hx hb dA_hand_38 rfl (lv_at hl 0 rfl) ?_
        refine va_get (D := D) (ci := 0) (v := .ref (ad 1)) (C := RA) (T := TA) (N := 9) hx hb hG inA hown hK hP 0 rfl rfl 0 (by decide) (hG _ mw_174) (fun _ h9 => h9) rfl dA_hand_39 ?_
        refine va_get (D := D) (ci := 1) (v := .ref (ad 9)) (C := RHo) (T := THo) (N := 4) hx hb hG inHo hown hK hP 1 rfl rfl 2 (by decide) (hG _ mw_37) (fun _ h9 => h9) rfl dA_hand_42 ?_
        refine lv_iload_n hx hb dA_hand_45 rfl (lv_at hl 2 rfl) ?_
        obtain ⟨hg2, h⟩ := gI_some h
        refine va_zald (f := (u.2.1 3)) hx hb hK hP 9 1 rfl rfl hg2 dA_hand_46 ?_
        refine lv_if_eq (tgt := 60) hx hb dA_hand_47 (by decide) (fun hc => ?_) (fun hc => ?_)
        · rw [if_pos hc] at h
          refine lv_aload_n hx hb dA_hand_60 rfl (lv_at hl 0 rfl) ?_
          refine va_get (D := D) (ci := 0) (v := .ref (ad 6)) (C := RA) (T := TA) (N := 9) hx hb hG inA hown hK hP 0 rfl rfl 5 (by decide) (hG _ mw_179) (fun _ h9 => h9) rfl dA_hand_61 ?_
          refine lv_iload_n hx hb dA_hand_64 rfl (lv_at hl 1 rfl) ?_
          refine lv_iload_n hx hb dA_hand_65 rfl (lv_at hl 2 rfl) ?_
          refine va_iast (f := (u.2.1 0)) hx hb hK hP hD hS 6 0 rfl rfl hg1 dA_hand_66 (fun H locs hP hD hS => ?_)
          rw [wA_a0] at hP hD
          cases h
          exact gx_vret hx hb hr hlocks hP hD hS dA_hand_67
        · rw [if_neg hc] at h
          cases h
          exact gx_thr (cd := 3) (cls := "java/lang/IllegalStateException") (text := "the call was handed over, or the line is cut") hC rfl (by decide) rfl (by decide +kernel) (by decide +kernel) mw_360 mw_15 (by decide +kernel) gx_a3 gx_b3 gx_g3 hP hD hS hl.1 dA_hand_50 dA_hand_53 dA_hand_54 dA_hand_56 dA_hand_59 (Nat.le_of_ble_eq_true rfl) (Nat.le_of_ble_eq_true rfl) (Nat.le_of_ble_eq_true rfl) (Nat.le_of_ble_eq_true rfl)
    · rw [if_pos hc] at h
      cases h
      exact gx_thr (cd := 1) (cls := "java/lang/IllegalArgumentException") (text := "no such call or house") hC rfl (by decide) rfl (by decide +kernel) (by decide +kernel) mw_332 mw_14 (by decide +kernel) gx_a1 gx_b1 gx_g1 hP hD hS hl.1 dA_hand_18 dA_hand_21 dA_hand_22 dA_hand_24 dA_hand_27 (Nat.le_of_ble_eq_true rfl) (Nat.le_of_ble_eq_true rfl) (Nat.le_of_ble_eq_true rfl) (Nat.le_of_ble_eq_true rfl)
set_option maxHeartbeats 4000000 in
set_option maxRecDepth 100000 in
theorem c_A_handed (l : Launch) (hst : l.stackTraces = false) (D : va_G) (ad : Nat → Nat) (cI cZ cJ : ClassId) (u : StA) (a1 : Int32) (cd : Nat) (r : Int32) (w : StA) (h : f_A_handed u a1 = some ((cd, r), w)) : gx_Ct l D vwCl (tA cI cZ cJ) (wA ad cI cZ cJ) yA_handed (Cond.code yA_handed cA_handed 2 (some .int) :: gG) ({ frames := 6, cells := 1, slots := 6, locals := 82 } : Room) [.ref (ad 0), .int a1] u cd (some (.int r)) w := by
  refine gx_enter hst (by decide) (Nat.le_of_ble_eq_true rfl) ?_
  intro p e s m below meth c A hC hP hD hS ls hl
  obtain ⟨⟨hx, hb, hr, hml, hG, hown, hlocks, hK, hA⟩, hst, hE, htb⟩ := id hC
  have hl : lv_has ls 2 [(0, .ref (ad 0)), (1, .int a1)] := hl
  obtain ⟨H, hH⟩ : ∃ H, H = s.heap := ⟨_, rfl⟩
  obtain ⟨locs, hlocs⟩ : ∃ x : List Loc, x = [] := ⟨_, rfl⟩
  rw [← hlocs] at hS ⊢
  have hP : va_P D vwCl (wA ad cI cZ cJ u) H := by rw [hH]; exact hP
  have hS : va_S A s.heap H locs := by rw [hH]; exact hS
  suffices g : W p l e ({ frames := 6, cells := 1, slots := 6, locals := 82 } : Room) s m [.ref (ad 0), .int a1].toArray below meth c H locs 0 0 (vx_MQ below (gx_Q D vwCl (wA ad cI cZ cJ) A cd w (some (.int r))) (gx_X D vwCl (wA ad cI cZ cJ) A cd w) [.ref (ad 0), .int a1].toArray s 1 6 A) (F0 m 0 ls []) by rw [hH] at g; exact g
  unfold f_A_handed at h
  refine lv_iload_n hx hb dA_handed_0 rfl (lv_at hl 1 rfl) ?_
  refine gw_callS (As := [.int a1]) (rest := []) (u := u) (u' := u) hx hb hml hown hG (c_A_isCall l D ad cI cZ cJ u a1 _ rfl) lk_A_240 rfl rfl ⟨Nat.le_of_ble_eq_true rfl, Nat.le_of_ble_eq_true rfl⟩ hK hP hD hS hA rfl hl.1 rfl (Nat.le_of_ble_eq_true rfl) dA_handed_1 ⟨Nat.le_of_ble_eq_true rfl, Nat.le_of_ble_eq_true rfl⟩ (fun H locs hP hD hS => ?_)
  refine lv_if_ne (tgt := 17) hx hb dA_handed_4 (by decide) (fun hc => ?_) (fun hc => ?_)
  · rw [if_neg hc] at h
    refine lv_aload_n hx hb dA_handed_17 rfl (lv_at hl 0 rfl) ?_
    refine va_get (D := D) (ci := 0) (v := .ref (ad 6)) (C := RA) (T := TA) (N := 9) hx hb hG inA hown hK hP 0 rfl rfl 5 (by decide) (hG _ mw_179) (fun _ h9 => h9) rfl dA_handed_18 ?_
    refine lv_iload_n hx hb dA_handed_21 rfl (lv_at hl 1 rfl) ?_
    obtain ⟨hg1, h⟩ := gI_some h
    refine va_iald (f := (u.2.1 0)) hx hb hK hP 6 0 rfl rfl hg1 dA_handed_22 ?_
    cases h
    exact gx_iret hx hb hr hlocks hP hD hS dA_handed_23
  · rw [if_pos hc] at h
    cases h
    exact gx_thr (cd := 1) (cls := "java/lang/IllegalArgumentException") (text := "no such call") hC rfl (by decide) rfl (by decide +kernel) (by decide +kernel) mw_332 mw_14 (by decide +kernel) gx_a1 gx_b1 gx_g1 hP hD hS hl.1 dA_handed_7 dA_handed_10 dA_handed_11 dA_handed_13 dA_handed_16 (Nat.le_of_ble_eq_true rfl) (Nat.le_of_ble_eq_true rfl) (Nat.le_of_ble_eq_true rfl) (Nat.le_of_ble_eq_true rfl)
set_option maxHeartbeats 4000000 in
set_option maxRecDepth 100000 in
theorem c_A_count (l : Launch) (hst : l.stackTraces = false) (D : va_G) (ad : Nat → Nat) (cI cZ cJ : ClassId) (N : Nat) (u : StA) (a1 : Int32) (cd : Nat) (r : Int32) (w : StA) (h : f_A_count N u a1 = some ((cd, r), w)) : gx_Ct l D vwCl (tA cI cZ cJ) (wA ad cI cZ cJ) yA_count (Cond.code yA_count cA_count 2 (some .int) :: gG) ({ frames := 6, cells := 1, slots := 6, locals := 82 } : Room) [.ref (ad 0), .int a1] u cd (some (.int r)) w := by
  refine gx_enter hst (by decide) (Nat.le_of_ble_eq_true rfl) ?_
  intro p e s m below meth c A hC hP hD hS ls hl
  obtain ⟨⟨hx, hb, hr, hml, hG, hown, hlocks, hK, hA⟩, hst, hE, htb⟩ := id hC
  have hl : lv_has ls 2 [(0, .ref (ad 0)), (1, .int a1)] := hl
  obtain ⟨H, hH⟩ : ∃ H, H = s.heap := ⟨_, rfl⟩
  obtain ⟨locs, hlocs⟩ : ∃ x : List Loc, x = [] := ⟨_, rfl⟩
  rw [← hlocs] at hS ⊢
  have hP : va_P D vwCl (wA ad cI cZ cJ u) H := by rw [hH]; exact hP
  have hS : va_S A s.heap H locs := by rw [hH]; exact hS
  suffices g : W p l e ({ frames := 6, cells := 1, slots := 6, locals := 82 } : Room) s m [.ref (ad 0), .int a1].toArray below meth c H locs 0 0 (vx_MQ below (gx_Q D vwCl (wA ad cI cZ cJ) A cd w (some (.int r))) (gx_X D vwCl (wA ad cI cZ cJ) A cd w) [.ref (ad 0), .int a1].toArray s 1 6 A) (F0 m 0 ls []) by rw [hH] at g; exact g
  unfold f_A_count at h
  refine lv_iload_n hx hb dA_count_0 rfl (lv_at hl 1 rfl) ?_
  by_cases hc : a1 = (0 : Int32)
  · rw [if_pos hc] at h
    refine lv_tableIn (off := (35)) (tgt := 36) hx hb dA_count_1 (by rw [hc]; decide) (by rw [hc]; decide) (by rw [hc]; decide +kernel) (by decide) ?_
    refine lv_aload_n hx hb dA_count_36 rfl (lv_at hl 0 rfl) ?_
    refine va_get (D := D) (ci := 0) (v := .int (u.1 0)) (C := RA) (T := TA) (N := 9) hx hb hG inA hown hK hP 0 rfl rfl 6 (by decide) (hG _ mw_180) (fun _ h9 => h9) rfl dA_count_37 ?_
    cases h
    exact gx_iret hx hb hr hlocks hP hD hS dA_count_40
  rw [if_neg hc] at h
  have hs0 := hc
  by_cases hc : a1 = (1 : Int32)
  · rw [if_pos hc] at h
    refine lv_tableIn (off := (40)) (tgt := 41) hx hb dA_count_1 (by rw [hc]; decide) (by rw [hc]; decide) (by rw [hc]; decide +kernel) (by decide) ?_
    refine lv_aload_n hx hb dA_count_41 rfl (lv_at hl 0 rfl) ?_
    refine va_get (D := D) (ci := 0) (v := .ref (ad 4)) (C := RA) (T := TA) (N := 9) hx hb hG inA hown hK hP 0 rfl rfl 3 (by decide) (hG _ mw_177) (fun _ h9 => h9) rfl dA_count_42 ?_
    obtain ⟨q1, q1_h, h⟩ := gw_bind h
    refine gw_callV (As := []) (rest := []) (u := u) (u' := u) hx hb hml hown hG (c_Lo_lent l D ad cI cZ cJ N u _ q1_h) lk_A_249 rfl rfl ⟨Nat.le_of_ble_eq_true rfl, Nat.le_of_ble_eq_true rfl⟩ (va_recv hK hP (ci := 4) (q0 := 4) rfl rfl) hK hP hD hS hA rfl hl.1 rfl (Nat.le_of_ble_eq_true rfl) dA_count_45 ⟨Nat.le_of_ble_eq_true rfl, Nat.le_of_ble_eq_true rfl⟩ (fun H locs hP hD hS => ?_)
    cases h
    exact gx_iret hx hb hr hlocks hP hD hS dA_count_48
  rw [if_neg hc] at h
  have hs1 := hc
  by_cases hc : a1 = (2 : Int32)
  · rw [if_pos hc] at h
    refine lv_tableIn (off := (48)) (tgt := 49) hx hb dA_count_1 (by rw [hc]; decide) (by rw [hc]; decide) (by rw [hc]; decide +kernel) (by decide) ?_
    refine lv_aload_n hx hb dA_count_49 rfl (lv_at hl 0 rfl) ?_
    refine va_get (D := D) (ci := 0) (v := .ref (ad 3)) (C := RA) (T := TA) (N := 9) hx hb hG inA hown hK hP 0 rfl rfl 2 (by decide) (hG _ mw_176) (fun _ h9 => h9) rfl dA_count_50 ?_
    obtain ⟨q2, q2_h, h⟩ := gw_bind h
    refine gw_callV (As := []) (rest := []) (u := u) (u' := u) hx hb hml hown hG (c_As_open l D ad cI cZ cJ N u _ q2_h) lk_A_252 rfl rfl ⟨Nat.le_of_ble_eq_true rfl, Nat.le_of_ble_eq_true rfl⟩ (va_recv hK hP (ci := 3) (q0 := 3) rfl rfl) hK hP hD hS hA rfl hl.1 rfl (Nat.le_of_ble_eq_true rfl) dA_count_53 ⟨Nat.le_of_ble_eq_true rfl, Nat.le_of_ble_eq_true rfl⟩ (fun H locs hP hD hS => ?_)
    cases h
    exact gx_iret hx hb hr hlocks hP hD hS dA_count_56
  rw [if_neg hc] at h
  have hs2 := hc
  by_cases hc : a1 = (3 : Int32)
  · rw [if_pos hc] at h
    refine lv_tableIn (off := (56)) (tgt := 57) hx hb dA_count_1 (by rw [hc]; decide) (by rw [hc]; decide) (by rw [hc]; decide +kernel) (by decide) ?_
    refine lv_aload_n hx hb dA_count_57 rfl (lv_at hl 0 rfl) ?_
    refine va_get (D := D) (ci := 0) (v := .int (u.1 1)) (C := RA) (T := TA) (N := 9) hx hb hG inA hown hK hP 0 rfl rfl 7 (by decide) (hG _ mw_181) (fun _ h9 => h9) rfl dA_count_58 ?_
    cases h
    exact gx_iret hx hb hr hlocks hP hD hS dA_count_61
  rw [if_neg hc] at h
  have hs3 := hc
  by_cases hc : a1 = (4 : Int32)
  · rw [if_pos hc] at h
    refine lv_tableIn (off := (61)) (tgt := 62) hx hb dA_count_1 (by rw [hc]; decide) (by rw [hc]; decide) (by rw [hc]; decide +kernel) (by decide) ?_
    refine lv_aload_n hx hb dA_count_62 rfl (lv_at hl 0 rfl) ?_
    refine va_get (D := D) (ci := 0) (v := .int (u.1 2)) (C := RA) (T := TA) (N := 9) hx hb hG inA hown hK hP 0 rfl rfl 8 (by decide) (hG _ mw_182) (fun _ h9 => h9) rfl dA_count_63 ?_
    cases h
    exact gx_iret hx hb hr hlocks hP hD hS dA_count_66
  rw [if_neg hc] at h
  have hs4 := hc
  refine lv_tableOut (tgt := 67) hx hb dA_count_1 (gw_out4 hs0 hs1 hs2 hs3 hs4) (by decide) ?_
  cases h
  exact gx_thr (cd := 1) (cls := "java/lang/IllegalArgumentException") (text := "no such what") hC rfl (by decide) rfl (by decide +kernel) (by decide +kernel) mw_332 mw_14 (by decide +kernel) gx_a1 gx_b1 gx_g1 hP hD hS hl.1 dA_count_67 dA_count_70 dA_count_71 dA_count_73 dA_count_76 (Nat.le_of_ble_eq_true rfl) (Nat.le_of_ble_eq_true rfl) (Nat.le_of_ble_eq_true rfl) (Nat.le_of_ble_eq_true rfl)
set_option maxHeartbeats 4000000 in
set_option maxRecDepth 100000 in
theorem c_A_seen (l : Launch) (hst : l.stackTraces = false) (D : va_G) (ad : Nat → Nat) (cI cZ cJ : ClassId) (u : StA) (a1 : Int32) (a2 : Int32) (cd : Nat) (r : Int32) (w : StA) (h : f_A_seen u a1 a2 = some ((cd, r), w)) : gx_Ct l D vwCl (tA cI cZ cJ) (wA ad cI cZ cJ) yA_seen (Cond.code yA_seen cA_seen 3 (some .int) :: gG) ({ frames := 6, cells := 1, slots := 6, locals := 82 } : Room) [.ref (ad 0), .int a1, .int a2] u cd (some (.int r)) w := by
  refine gx_enter hst (by decide) (Nat.le_of_ble_eq_true rfl) ?_
  intro p e s m below meth c A hC hP hD hS ls hl
  obtain ⟨⟨hx, hb, hr, hml, hG, hown, hlocks, hK, hA⟩, hst, hE, htb⟩ := id hC
  have hl : lv_has ls 3 [(0, .ref (ad 0)), (1, .int a1), (2, .int a2)] := hl
  obtain ⟨H, hH⟩ : ∃ H, H = s.heap := ⟨_, rfl⟩
  obtain ⟨locs, hlocs⟩ : ∃ x : List Loc, x = [] := ⟨_, rfl⟩
  rw [← hlocs] at hS ⊢
  have hP : va_P D vwCl (wA ad cI cZ cJ u) H := by rw [hH]; exact hP
  have hS : va_S A s.heap H locs := by rw [hH]; exact hS
  suffices g : W p l e ({ frames := 6, cells := 1, slots := 6, locals := 82 } : Room) s m [.ref (ad 0), .int a1, .int a2].toArray below meth c H locs 0 0 (vx_MQ below (gx_Q D vwCl (wA ad cI cZ cJ) A cd w (some (.int r))) (gx_X D vwCl (wA ad cI cZ cJ) A cd w) [.ref (ad 0), .int a1, .int a2].toArray s 1 6 A) (F0 m 0 ls []) by rw [hH] at g; exact g
  unfold f_A_seen at h
  refine lv_aload_n hx hb dA_seen_0 rfl (lv_at hl 0 rfl) ?_
  refine va_get (D := D) (ci := 0) (v := .ref (ad 1)) (C := RA) (T := TA) (N := 9) hx hb hG inA hown hK hP 0 rfl rfl 0 (by decide) (hG _ mw_174) (fun _ h9 => h9) rfl dA_seen_1 ?_
  refine lv_iload_n hx hb dA_seen_4 rfl (lv_at hl 1 rfl) ?_
  refine gw_callV (As := [.int a1]) (rest := []) (u := u) (u' := u) hx hb hml hown hG (c_Ho_has l D ad cI cZ cJ u a1 _ rfl) lk_A_78 rfl rfl ⟨Nat.le_of_ble_eq_true rfl, Nat.le_of_ble_eq_true rfl⟩ (va_recv hK hP (ci := 1) (q0 := 1) rfl rfl) hK hP hD hS hA rfl hl.1 rfl (Nat.le_of_ble_eq_true rfl) dA_seen_5 ⟨Nat.le_of_ble_eq_true rfl, Nat.le_of_ble_eq_true rfl⟩ (fun H locs hP hD hS => ?_)
  refine lv_if_ne (tgt := 21) hx hb dA_seen_8 (by decide) (fun hc => ?_) (fun hc => ?_)
  · rw [if_neg hc] at h
    refine lv_iload_n hx hb dA_seen_21 rfl (lv_at hl 2 rfl) ?_
    refine gw_callS (As := [.int a2]) (rest := []) (u := u) (u' := u) hx hb hml hown hG (c_A_isNumber l D ad cI cZ cJ u a2 _ rfl) lk_A_128 rfl rfl ⟨Nat.le_of_ble_eq_true rfl, Nat.le_of_ble_eq_true rfl⟩ hK hP hD hS hA rfl hl.1 rfl (Nat.le_of_ble_eq_true rfl) dA_seen_22 ⟨Nat.le_of_ble_eq_true rfl, Nat.le_of_ble_eq_true rfl⟩ (fun H locs hP hD hS => ?_)
    refine lv_if_ne (tgt := 38) hx hb dA_seen_25 (by decide) (fun hc => ?_) (fun hc => ?_)
    · rw [if_neg hc] at h
      refine lv_aload_n hx hb dA_seen_38 rfl (lv_at hl 0 rfl) ?_
      refine va_get (D := D) (ci := 0) (v := .ref (ad 5)) (C := RA) (T := TA) (N := 9) hx hb hG inA hown hK hP 0 rfl rfl 4 (by decide) (hG _ mw_178) (fun _ h9 => h9) rfl dA_seen_39 ?_
      refine lv_iload_n hx hb dA_seen_42 rfl (lv_at hl 1 rfl) ?_
      refine lv_iload_n hx hb dA_seen_43 rfl (lv_at hl 2 rfl) ?_
      obtain ⟨q1, q1_h, h⟩ := gw_bind h
      refine gw_callV (As := [.int a1, .int a2]) (rest := []) (u := u) (u' := u) hx hb hml hown hG (c_Nu_stateOf l D ad cI cZ cJ u a1 a2 _ q1_h) lk_A_141 rfl rfl ⟨Nat.le_of_ble_eq_true rfl, Nat.le_of_ble_eq_true rfl⟩ (va_recv hK hP (ci := 5) (q0 := 5) rfl rfl) hK hP hD hS hA rfl hl.1 rfl (Nat.le_of_ble_eq_true rfl) dA_seen_44 ⟨Nat.le_of_ble_eq_true rfl, Nat.le_of_ble_eq_true rfl⟩ (fun H locs hP hD hS => ?_)
      cases h
      exact gx_iret hx hb hr hlocks hP hD hS dA_seen_47
    · rw [if_pos hc] at h
      cases h
      exact gx_thr (cd := 2) (cls := "java/lang/IndexOutOfBoundsException") (text := "no such number") hC rfl (by decide) rfl (by decide +kernel) (by decide +kernel) mw_226 mw_12 (by decide +kernel) gx_a2 gx_b2 gx_g2 hP hD hS hl.1 dA_seen_28 dA_seen_31 dA_seen_32 dA_seen_34 dA_seen_37 (Nat.le_of_ble_eq_true rfl) (Nat.le_of_ble_eq_true rfl) (Nat.le_of_ble_eq_true rfl) (Nat.le_of_ble_eq_true rfl)
  · rw [if_pos hc] at h
    cases h
    exact gx_thr (cd := 1) (cls := "java/lang/IllegalArgumentException") (text := "no such house") hC rfl (by decide) rfl (by decide +kernel) (by decide +kernel) mw_332 mw_14 (by decide +kernel) gx_a1 gx_b1 gx_g1 hP hD hS hl.1 dA_seen_11 dA_seen_14 dA_seen_15 dA_seen_17 dA_seen_20 (Nat.le_of_ble_eq_true rfl) (Nat.le_of_ble_eq_true rfl) (Nat.le_of_ble_eq_true rfl) (Nat.le_of_ble_eq_true rfl)
set_option maxHeartbeats 4000000 in
set_option maxRecDepth 100000 in
theorem c_A_askAt (l : Launch) (hst : l.stackTraces = false) (D : va_G) (ad : Nat → Nat) (cI cZ cJ : ClassId) (u : StA) (a1 : Int32) (a2 : Int32) (cd : Nat) (r : Int32) (w : StA) (h : f_A_askAt u a1 a2 = some ((cd, r), w)) : gx_Ct l D vwCl (tA cI cZ cJ) (wA ad cI cZ cJ) yA_askAt (Cond.code yA_askAt cA_askAt 3 (some .int) :: gG) ({ frames := 6, cells := 1, slots := 6, locals := 82 } : Room) [.ref (ad 0), .int a1, .int a2] u cd (some (.int r)) w := by
  refine gx_enter hst (by decide) (Nat.le_of_ble_eq_true rfl) ?_
  intro p e s m below meth c A hC hP hD hS ls hl
  obtain ⟨⟨hx, hb, hr, hml, hG, hown, hlocks, hK, hA⟩, hst, hE, htb⟩ := id hC
  have hl : lv_has ls 3 [(0, .ref (ad 0)), (1, .int a1), (2, .int a2)] := hl
  obtain ⟨H, hH⟩ : ∃ H, H = s.heap := ⟨_, rfl⟩
  obtain ⟨locs, hlocs⟩ : ∃ x : List Loc, x = [] := ⟨_, rfl⟩
  rw [← hlocs] at hS ⊢
  have hP : va_P D vwCl (wA ad cI cZ cJ u) H := by rw [hH]; exact hP
  have hS : va_S A s.heap H locs := by rw [hH]; exact hS
  suffices g : W p l e ({ frames := 6, cells := 1, slots := 6, locals := 82 } : Room) s m [.ref (ad 0), .int a1, .int a2].toArray below meth c H locs 0 0 (vx_MQ below (gx_Q D vwCl (wA ad cI cZ cJ) A cd w (some (.int r))) (gx_X D vwCl (wA ad cI cZ cJ) A cd w) [.ref (ad 0), .int a1, .int a2].toArray s 1 6 A) (F0 m 0 ls []) by rw [hH] at g; exact g
  unfold f_A_askAt at h
  refine lv_aload_n hx hb dA_askAt_0 rfl (lv_at hl 0 rfl) ?_
  refine va_get (D := D) (ci := 0) (v := .ref (ad 3)) (C := RA) (T := TA) (N := 9) hx hb hG inA hown hK hP 0 rfl rfl 2 (by decide) (hG _ mw_176) (fun _ h9 => h9) rfl dA_askAt_1 ?_
  refine lv_iload_n hx hb dA_askAt_4 rfl (lv_at hl 1 rfl) ?_
  refine gw_callV (As := [.int a1]) (rest := []) (u := u) (u' := u) hx hb hml hown hG (c_As_has l D ad cI cZ cJ u a1 _ rfl) lk_A_125 rfl rfl ⟨Nat.le_of_ble_eq_true rfl, Nat.le_of_ble_eq_true rfl⟩ (va_recv hK hP (ci := 3) (q0 := 3) rfl rfl) hK hP hD hS hA rfl hl.1 rfl (Nat.le_of_ble_eq_true rfl) dA_askAt_5 ⟨Nat.le_of_ble_eq_true rfl, Nat.le_of_ble_eq_true rfl⟩ (fun H locs hP hD hS => ?_)
  refine lv_if_eq (tgt := 20) hx hb dA_askAt_8 (by decide) (fun hc => ?_) (fun hc => ?_)
  · rw [if_pos hc] at h
    cases h
    exact gx_thr (cd := 1) (cls := "java/lang/IllegalArgumentException") (text := "no such ask or what") hC rfl (by decide) rfl (by decide +kernel) (by decide +kernel) mw_332 mw_14 (by decide +kernel) gx_a1 gx_b1 gx_g1 hP hD hS hl.1 dA_askAt_20 dA_askAt_23 dA_askAt_24 dA_askAt_26 dA_askAt_29 (Nat.le_of_ble_eq_true rfl) (Nat.le_of_ble_eq_true rfl) (Nat.le_of_ble_eq_true rfl) (Nat.le_of_ble_eq_true rfl)
  · rw [if_neg hc] at h
    refine lv_iload_n hx hb dA_askAt_11 rfl (lv_at hl 2 rfl) ?_
    refine lv_iconst (v := (0 : Int32)) hx hb dA_askAt_12 (by decide) ?_
    refine lv_iconst (v := (5 : Int32)) hx hb dA_askAt_13 (by decide) ?_
    refine gw_callS (As := [.int a2, .int (0 : Int32), .int (5 : Int32)]) (rest := []) (u := u) (u' := u) hx hb hml hown hG (c_A_isWithin l D ad cI cZ cJ u a2 (0 : Int32) (5 : Int32) _ rfl) lk_A_54 rfl rfl ⟨Nat.le_of_ble_eq_true rfl, Nat.le_of_ble_eq_true rfl⟩ hK hP hD hS hA rfl hl.1 rfl (Nat.le_of_ble_eq_true rfl) dA_askAt_14 ⟨Nat.le_of_ble_eq_true rfl, Nat.le_of_ble_eq_true rfl⟩ (fun H locs hP hD hS => ?_)
    refine lv_if_ne (tgt := 30) hx hb dA_askAt_17 (by decide) (fun hc => ?_) (fun hc => ?_)
    · rw [if_neg hc] at h
      refine lv_iload_n hx hb dA_askAt_30 rfl (lv_at hl 2 rfl) ?_
      by_cases hc : a2 = (0 : Int32)
      · rw [if_pos hc] at h
        refine lv_tableIn (off := (33)) (tgt := 64) hx hb dA_askAt_31 (by rw [hc]; decide) (by rw [hc]; decide) (by rw [hc]; decide +kernel) (by decide) ?_
        refine lv_aload_n hx hb dA_askAt_64 rfl (lv_at hl 0 rfl) ?_
        refine va_get (D := D) (ci := 0) (v := .ref (ad 3)) (C := RA) (T := TA) (N := 9) hx hb hG inA hown hK hP 0 rfl rfl 2 (by decide) (hG _ mw_176) (fun _ h9 => h9) rfl dA_askAt_65 ?_
        refine va_get (D := D) (ci := 3) (v := .ref (ad 19)) (C := RAs) (T := TAs) (N := 10) hx hb hG inAs hown hK hP 3 rfl rfl 3 (by decide) (hG _ mw_92) (fun _ h9 => h9) rfl dA_askAt_68 ?_
        refine lv_iload_n hx hb dA_askAt_71 rfl (lv_at hl 1 rfl) ?_
        obtain ⟨hg1, h⟩ := gI_some h
        refine va_iald (f := (u.2.1 13)) hx hb hK hP 19 0 rfl rfl hg1 dA_askAt_72 ?_
        cases h
        exact gx_iret hx hb hr hlocks hP hD hS dA_askAt_73
      rw [if_neg hc] at h
      have hs0 := hc
      by_cases hc : a2 = (1 : Int32)
      · rw [if_pos hc] at h
        refine lv_tableIn (off := (43)) (tgt := 74) hx hb dA_askAt_31 (by rw [hc]; decide) (by rw [hc]; decide) (by rw [hc]; decide +kernel) (by decide) ?_
        refine lv_aload_n hx hb dA_askAt_74 rfl (lv_at hl 0 rfl) ?_
        refine va_get (D := D) (ci := 0) (v := .ref (ad 3)) (C := RA) (T := TA) (N := 9) hx hb hG inA hown hK hP 0 rfl rfl 2 (by decide) (hG _ mw_176) (fun _ h9 => h9) rfl dA_askAt_75 ?_
        refine va_get (D := D) (ci := 3) (v := .ref (ad 20)) (C := RAs) (T := TAs) (N := 10) hx hb hG inAs hown hK hP 3 rfl rfl 4 (by decide) (hG _ mw_94) (fun _ h9 => h9) rfl dA_askAt_78 ?_
        refine lv_iload_n hx hb dA_askAt_81 rfl (lv_at hl 1 rfl) ?_
        obtain ⟨hg2, h⟩ := gI_some h
        refine va_iald (f := (u.2.1 14)) hx hb hK hP 20 0 rfl rfl hg2 dA_askAt_82 ?_
        cases h
        exact gx_iret hx hb hr hlocks hP hD hS dA_askAt_83
      rw [if_neg hc] at h
      have hs1 := hc
      by_cases hc : a2 = (2 : Int32)
      · rw [if_pos hc] at h
        refine lv_tableIn (off := (53)) (tgt := 84) hx hb dA_askAt_31 (by rw [hc]; decide) (by rw [hc]; decide) (by rw [hc]; decide +kernel) (by decide) ?_
        refine lv_aload_n hx hb dA_askAt_84 rfl (lv_at hl 0 rfl) ?_
        refine va_get (D := D) (ci := 0) (v := .ref (ad 3)) (C := RA) (T := TA) (N := 9) hx hb hG inA hown hK hP 0 rfl rfl 2 (by decide) (hG _ mw_176) (fun _ h9 => h9) rfl dA_askAt_85 ?_
        refine va_get (D := D) (ci := 3) (v := .ref (ad 21)) (C := RAs) (T := TAs) (N := 10) hx hb hG inAs hown hK hP 3 rfl rfl 5 (by decide) (hG _ mw_96) (fun _ h9 => h9) rfl dA_askAt_88 ?_
        refine lv_iload_n hx hb dA_askAt_91 rfl (lv_at hl 1 rfl) ?_
        obtain ⟨hg3, h⟩ := gI_some h
        refine va_iald (f := (u.2.1 15)) hx hb hK hP 21 0 rfl rfl hg3 dA_askAt_92 ?_
        cases h
        exact gx_iret hx hb hr hlocks hP hD hS dA_askAt_93
      rw [if_neg hc] at h
      have hs2 := hc
      by_cases hc : a2 = (3 : Int32)
      · rw [if_pos hc] at h
        refine lv_tableIn (off := (63)) (tgt := 94) hx hb dA_askAt_31 (by rw [hc]; decide) (by rw [hc]; decide) (by rw [hc]; decide +kernel) (by decide) ?_
        refine lv_aload_n hx hb dA_askAt_94 rfl (lv_at hl 0 rfl) ?_
        refine va_get (D := D) (ci := 0) (v := .ref (ad 3)) (C := RA) (T := TA) (N := 9) hx hb hG inA hown hK hP 0 rfl rfl 2 (by decide) (hG _ mw_176) (fun _ h9 => h9) rfl dA_askAt_95 ?_
        refine va_get (D := D) (ci := 3) (v := .ref (ad 22)) (C := RAs) (T := TAs) (N := 10) hx hb hG inAs hown hK hP 3 rfl rfl 6 (by decide) (hG _ mw_98) (fun _ h9 => h9) rfl dA_askAt_98 ?_
        refine lv_iload_n hx hb dA_askAt_101 rfl (lv_at hl 1 rfl) ?_
        obtain ⟨hg4, h⟩ := gI_some h
        refine va_iald (f := (u.2.1 16)) hx hb hK hP 22 0 rfl rfl hg4 dA_askAt_102 ?_
        cases h
        exact gx_iret hx hb hr hlocks hP hD hS dA_askAt_103
      rw [if_neg hc] at h
      have hs3 := hc
      by_cases hc : a2 = (4 : Int32)
      · rw [if_pos hc] at h
        refine lv_tableIn (off := (73)) (tgt := 104) hx hb dA_askAt_31 (by rw [hc]; decide) (by rw [hc]; decide) (by rw [hc]; decide +kernel) (by decide) ?_
        refine lv_aload_n hx hb dA_askAt_104 rfl (lv_at hl 0 rfl) ?_
        refine va_get (D := D) (ci := 0) (v := .ref (ad 3)) (C := RA) (T := TA) (N := 9) hx hb hG inA hown hK hP 0 rfl rfl 2 (by decide) (hG _ mw_176) (fun _ h9 => h9) rfl dA_askAt_105 ?_
        refine lv_iload_n hx hb dA_askAt_108 rfl (lv_at hl 1 rfl) ?_
        obtain ⟨q5, q5_h, h⟩ := gw_bind h
        refine gw_callV (As := [.int a1]) (rest := []) (u := u) (u' := u) hx hb hml hown hG (c_As_visits l D ad cI cZ cJ u a1 _ q5_h) lk_A_211 rfl rfl ⟨Nat.le_of_ble_eq_true rfl, Nat.le_of_ble_eq_true rfl⟩ (va_recv hK hP (ci := 3) (q0 := 3) rfl rfl) hK hP hD hS hA rfl hl.1 rfl (Nat.le_of_ble_eq_true rfl) dA_askAt_109 ⟨Nat.le_of_ble_eq_true rfl, Nat.le_of_ble_eq_true rfl⟩ (fun H locs hP hD hS => ?_)
        cases h
        exact gx_iret hx hb hr hlocks hP hD hS dA_askAt_112
      rw [if_neg hc] at h
      have hs4 := hc
      refine lv_tableOut (tgt := 113) hx hb dA_askAt_31 (gw_out4 hs0 hs1 hs2 hs3 hs4) (by decide) ?_
      refine lv_aload_n hx hb dA_askAt_113 rfl (lv_at hl 0 rfl) ?_
      refine va_get (D := D) (ci := 0) (v := .ref (ad 3)) (C := RA) (T := TA) (N := 9) hx hb hG inA hown hK hP 0 rfl rfl 2 (by decide) (hG _ mw_176) (fun _ h9 => h9) rfl dA_askAt_114 ?_
      refine va_get (D := D) (ci := 3) (v := .ref (ad 24)) (C := RAs) (T := TAs) (N := 10) hx hb hG inAs hown hK hP 3 rfl rfl 8 (by decide) (hG _ mw_101) (fun _ h9 => h9) rfl dA_askAt_117 ?_
      refine lv_iload_n hx hb dA_askAt_120 rfl (lv_at hl 1 rfl) ?_
      obtain ⟨hg6, h⟩ := gI_some h
      refine va_zald (f := (u.2.1 18)) hx hb hK hP 24 1 rfl rfl hg6 dA_askAt_121 ?_
      refine lv_if_eq (tgt := 129) hx hb dA_askAt_122 (by decide) (fun hc => ?_) (fun hc => ?_)
      · rw [if_pos hc] at h
        refine lv_iconst (v := (0 : Int32)) hx hb dA_askAt_129 (by decide) ?_
        cases h
        exact gx_iret hx hb hr hlocks hP hD hS dA_askAt_130
      · rw [if_neg hc] at h
        refine lv_iconst (v := (1 : Int32)) hx hb dA_askAt_125 (by decide) ?_
        refine lv_goto (tgt := 130) hx hb dA_askAt_126 (by decide) ?_
        cases h
        exact gx_iret hx hb hr hlocks hP hD hS dA_askAt_130
    · rw [if_pos hc] at h
      cases h
      exact gx_thr (cd := 1) (cls := "java/lang/IllegalArgumentException") (text := "no such ask or what") hC rfl (by decide) rfl (by decide +kernel) (by decide +kernel) mw_332 mw_14 (by decide +kernel) gx_a1 gx_b1 gx_g1 hP hD hS hl.1 dA_askAt_20 dA_askAt_23 dA_askAt_24 dA_askAt_26 dA_askAt_29 (Nat.le_of_ble_eq_true rfl) (Nat.le_of_ble_eq_true rfl) (Nat.le_of_ble_eq_true rfl) (Nat.le_of_ble_eq_true rfl)
