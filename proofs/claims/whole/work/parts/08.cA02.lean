set_option maxHeartbeats 4000000 in
set_option maxRecDepth 100000 in
theorem c_As_has (l : Launch) (D : va_G) (ad : Nat → Nat) (cI cZ cJ : ClassId) (u : StA) (a1 : Int32) (r : Int32) (h : f_As_has u a1 = r) : gw_Ct l D vwCl (tA cI cZ cJ) (wA ad cI cZ cJ) yAs_has (Cond.code yAs_has cAs_has 2 (some .boolean) :: gG) ({ frames := 0, cells := 0, slots := 0, locals := 0 } : Room) [.ref (ad 3), .int a1] u (some (.int r)) u := by
  refine gw_enter (by decide) (Nat.le_of_ble_eq_true rfl) ?_
  intro p e s m below meth c A hC hP hD hS ls hl
  obtain ⟨hx, hb, hr, hml, hG, hown, hlocks, hK, hA⟩ := id hC
  have hl : lv_has ls 2 [(0, .ref (ad 3)), (1, .int a1)] := hl
  obtain ⟨H, hH⟩ : ∃ H, H = s.heap := ⟨_, rfl⟩
  obtain ⟨locs, hlocs⟩ : ∃ x : List Loc, x = [] := ⟨_, rfl⟩
  rw [← hlocs] at hS ⊢
  have hP : va_P D vwCl (wA ad cI cZ cJ u) H := by rw [hH]; exact hP
  have hS : va_S A s.heap H locs := by rw [hH]; exact hS
  suffices g : W p l e ({ frames := 0, cells := 0, slots := 0, locals := 0 } : Room) s m [.ref (ad 3), .int a1].toArray below meth c H locs 0 0 (MQ below (gw_Q D vwCl (wA ad cI cZ cJ) A u (some (.int r))) [.ref (ad 3), .int a1].toArray s 0 0 A) (F0 m 0 ls []) by rw [hH] at g; exact g
  unfold f_As_has at h
  refine lv_iload_n hx hb dAs_has_0 rfl (lv_at hl 1 rfl) ?_
  refine lv_if_lt (tgt := 16) hx hb dAs_has_1 (by decide) (fun hc => ?_) (fun hc => ?_)
  · rw [if_pos hc] at h
    refine lv_iconst (v := (0 : Int32)) hx hb dAs_has_16 (by decide) ?_
    subst h
    exact gw_zret hx hb hr (by first | rfl | exact nb_A_isWithin _ _ _) hlocks hP hD hS dAs_has_17
  · rw [if_neg hc] at h
    refine lv_iload_n hx hb dAs_has_4 rfl (lv_at hl 1 rfl) ?_
    refine lv_aload_n hx hb dAs_has_5 rfl (lv_at hl 0 rfl) ?_
    refine va_get (D := D) (ci := 3) (v := .int (u.1 5)) (C := RAs) (T := TAs) (N := 10) hx hb hG inAs hown hK hP 3 rfl rfl 9 (by decide) (hG _ mw_102) (fun _ h9 => h9) rfl dAs_has_6 ?_
    refine lv_icmp_ge (tgt := 16) hx hb dAs_has_9 (by decide) (fun hc => ?_) (fun hc => ?_)
    · rw [if_pos hc] at h
      refine lv_iconst (v := (0 : Int32)) hx hb dAs_has_16 (by decide) ?_
      subst h
      exact gw_zret hx hb hr (by first | rfl | exact nb_A_isWithin _ _ _) hlocks hP hD hS dAs_has_17
    · rw [if_neg hc] at h
      refine lv_iconst (v := (1 : Int32)) hx hb dAs_has_12 (by decide) ?_
      refine lv_goto (tgt := 17) hx hb dAs_has_13 (by decide) ?_
      subst h
      exact gw_zret hx hb hr (by first | rfl | exact nb_A_isWithin _ _ _) hlocks hP hD hS dAs_has_17
set_option maxHeartbeats 4000000 in
set_option maxRecDepth 100000 in
theorem c_As_isFull (l : Launch) (D : va_G) (ad : Nat → Nat) (cI cZ cJ : ClassId) (u : StA) (r : Int32) (h : f_As_isFull u = r) : gw_Ct l D vwCl (tA cI cZ cJ) (wA ad cI cZ cJ) yAs_isFull (Cond.code yAs_isFull cAs_isFull 1 (some .boolean) :: gG) ({ frames := 0, cells := 0, slots := 0, locals := 0 } : Room) [.ref (ad 3)] u (some (.int r)) u := by
  refine gw_enter (by decide) (Nat.le_of_ble_eq_true rfl) ?_
  intro p e s m below meth c A hC hP hD hS ls hl
  obtain ⟨hx, hb, hr, hml, hG, hown, hlocks, hK, hA⟩ := id hC
  have hl : lv_has ls 1 [(0, .ref (ad 3))] := hl
  obtain ⟨H, hH⟩ : ∃ H, H = s.heap := ⟨_, rfl⟩
  obtain ⟨locs, hlocs⟩ : ∃ x : List Loc, x = [] := ⟨_, rfl⟩
  rw [← hlocs] at hS ⊢
  have hP : va_P D vwCl (wA ad cI cZ cJ u) H := by rw [hH]; exact hP
  have hS : va_S A s.heap H locs := by rw [hH]; exact hS
  suffices g : W p l e ({ frames := 0, cells := 0, slots := 0, locals := 0 } : Room) s m [.ref (ad 3)].toArray below meth c H locs 0 0 (MQ below (gw_Q D vwCl (wA ad cI cZ cJ) A u (some (.int r))) [.ref (ad 3)].toArray s 0 0 A) (F0 m 0 ls []) by rw [hH] at g; exact g
  unfold f_As_isFull at h
  refine lv_aload_n hx hb dAs_isFull_0 rfl (lv_at hl 0 rfl) ?_
  refine va_get (D := D) (ci := 3) (v := .int (u.1 5)) (C := RAs) (T := TAs) (N := 10) hx hb hG inAs hown hK hP 3 rfl rfl 9 (by decide) (hG _ mw_102) (fun _ h9 => h9) rfl dAs_isFull_1 ?_
  refine lv_bipush (v := (30 : Int32)) hx hb dAs_isFull_4 (by decide) ?_
  refine lv_icmp_lt (tgt := 13) hx hb dAs_isFull_6 (by decide) (fun hc => ?_) (fun hc => ?_)
  · rw [if_pos hc] at h
    refine lv_iconst (v := (0 : Int32)) hx hb dAs_isFull_13 (by decide) ?_
    subst h
    exact gw_zret hx hb hr (by first | rfl | exact nb_A_isWithin _ _ _) hlocks hP hD hS dAs_isFull_14
  · rw [if_neg hc] at h
    refine lv_iconst (v := (1 : Int32)) hx hb dAs_isFull_9 (by decide) ?_
    refine lv_goto (tgt := 14) hx hb dAs_isFull_10 (by decide) ?_
    subst h
    exact gw_zret hx hb hr (by first | rfl | exact nb_A_isWithin _ _ _) hlocks hP hD hS dAs_isFull_14
set_option maxHeartbeats 4000000 in
set_option maxRecDepth 100000 in
theorem c_As_add (l : Launch) (D : va_G) (ad : Nat → Nat) (cI cZ cJ : ClassId) (u : StA) (a1 : Int32) (a2 : Int32) (a3 : Int32) (r : Int32) (w : StA) (h : f_As_add u a1 a2 a3 = some (r, w)) : gw_Ct l D vwCl (tA cI cZ cJ) (wA ad cI cZ cJ) yAs_add (Cond.code yAs_add cAs_add 4 (some .int) :: gG) ({ frames := 0, cells := 0, slots := 0, locals := 0 } : Room) [.ref (ad 3), .int a1, .int a2, .int a3] u (some (.int r)) w := by
  refine gw_enter (by decide) (Nat.le_of_ble_eq_true rfl) ?_
  intro p e s m below meth c A hC hP hD hS ls hl
  obtain ⟨hx, hb, hr, hml, hG, hown, hlocks, hK, hA⟩ := id hC
  have hl : lv_has ls 4 [(0, .ref (ad 3)), (1, .int a1), (2, .int a2), (3, .int a3)] := hl
  obtain ⟨H, hH⟩ : ∃ H, H = s.heap := ⟨_, rfl⟩
  obtain ⟨locs, hlocs⟩ : ∃ x : List Loc, x = [] := ⟨_, rfl⟩
  rw [← hlocs] at hS ⊢
  have hP : va_P D vwCl (wA ad cI cZ cJ u) H := by rw [hH]; exact hP
  have hS : va_S A s.heap H locs := by rw [hH]; exact hS
  suffices g : W p l e ({ frames := 0, cells := 0, slots := 0, locals := 0 } : Room) s m [.ref (ad 3), .int a1, .int a2, .int a3].toArray below meth c H locs 0 0 (MQ below (gw_Q D vwCl (wA ad cI cZ cJ) A w (some (.int r))) [.ref (ad 3), .int a1, .int a2, .int a3].toArray s 0 0 A) (F0 m 0 ls []) by rw [hH] at g; exact g
  unfold f_As_add at h
  refine lv_aload_n hx hb dAs_add_0 rfl (lv_at hl 0 rfl) ?_
  refine va_get (D := D) (ci := 3) (v := .ref (ad 16)) (C := RAs) (T := TAs) (N := 10) hx hb hG inAs hown hK hP 3 rfl rfl 0 (by decide) (hG _ mw_87) (fun _ h9 => h9) rfl dAs_add_1 ?_
  refine lv_aload_n hx hb dAs_add_4 rfl (lv_at hl 0 rfl) ?_
  refine va_get (D := D) (ci := 3) (v := .int (u.1 5)) (C := RAs) (T := TAs) (N := 10) hx hb hG inAs hown hK hP 3 rfl rfl 9 (by decide) (hG _ mw_102) (fun _ h9 => h9) rfl dAs_add_5 ?_
  refine lv_iload_n hx hb dAs_add_8 rfl (lv_at hl 1 rfl) ?_
  obtain ⟨hg1, h⟩ := gI_some h
  refine va_iast (f := (u.2.1 10)) hx hb hK hP hD hS 16 0 rfl rfl hg1 dAs_add_9 (fun H locs hP hD hS => ?_)
  rw [wA_a10] at hP hD
  refine lv_aload_n hx hb dAs_add_10 rfl (lv_at hl 0 rfl) ?_
  refine va_get (D := D) (ci := 3) (v := .ref (ad 17)) (C := RAs) (T := TAs) (N := 10) hx hb hG inAs hown hK hP 3 rfl rfl 1 (by decide) (hG _ mw_89) (fun _ h9 => h9) rfl dAs_add_11 ?_
  refine lv_aload_n hx hb dAs_add_14 rfl (lv_at hl 0 rfl) ?_
  refine va_get (D := D) (ci := 3) (v := .int (u.1 5)) (C := RAs) (T := TAs) (N := 10) hx hb hG inAs hown hK hP 3 rfl rfl 9 (by decide) (hG _ mw_102) (fun _ h9 => h9) rfl dAs_add_15 ?_
  refine lv_iload_n hx hb dAs_add_18 rfl (lv_at hl 2 rfl) ?_
  refine va_iast (f := ((sA u 10 ((u.1 5)).toNatClampNeg a1).2.1 11)) hx hb hK hP hD hS 17 0 rfl rfl hg1 dAs_add_19 (fun H locs hP hD hS => ?_)
  rw [wA_a11] at hP hD
  refine lv_aload_n hx hb dAs_add_20 rfl (lv_at hl 0 rfl) ?_
  refine va_get (D := D) (ci := 3) (v := .ref (ad 18)) (C := RAs) (T := TAs) (N := 10) hx hb hG inAs hown hK hP 3 rfl rfl 2 (by decide) (hG _ mw_90) (fun _ h9 => h9) rfl dAs_add_21 ?_
  refine lv_aload_n hx hb dAs_add_24 rfl (lv_at hl 0 rfl) ?_
  refine va_get (D := D) (ci := 3) (v := .int (u.1 5)) (C := RAs) (T := TAs) (N := 10) hx hb hG inAs hown hK hP 3 rfl rfl 9 (by decide) (hG _ mw_102) (fun _ h9 => h9) rfl dAs_add_25 ?_
  refine lv_iload_n hx hb dAs_add_28 rfl (lv_at hl 3 rfl) ?_
  refine va_iast (f := ((sA (sA u 10 ((u.1 5)).toNatClampNeg a1) 11 ((u.1 5)).toNatClampNeg a2).2.1 12)) hx hb hK hP hD hS 18 0 rfl rfl hg1 dAs_add_29 (fun H locs hP hD hS => ?_)
  rw [wA_a12] at hP hD
  refine lv_aload_n hx hb dAs_add_30 rfl (lv_at hl 0 rfl) ?_
  refine va_get (D := D) (ci := 3) (v := .ref (ad 19)) (C := RAs) (T := TAs) (N := 10) hx hb hG inAs hown hK hP 3 rfl rfl 3 (by decide) (hG _ mw_91) (fun _ h9 => h9) rfl dAs_add_31 ?_
  refine lv_aload_n hx hb dAs_add_34 rfl (lv_at hl 0 rfl) ?_
  refine va_get (D := D) (ci := 3) (v := .int (u.1 5)) (C := RAs) (T := TAs) (N := 10) hx hb hG inAs hown hK hP 3 rfl rfl 9 (by decide) (hG _ mw_102) (fun _ h9 => h9) rfl dAs_add_35 ?_
  refine lv_iconst (v := (0 : Int32)) hx hb dAs_add_38 (by decide) ?_
  refine va_iast (f := ((sA (sA (sA u 10 ((u.1 5)).toNatClampNeg a1) 11 ((u.1 5)).toNatClampNeg a2) 12 ((u.1 5)).toNatClampNeg a3).2.1 13)) hx hb hK hP hD hS 19 0 rfl rfl hg1 dAs_add_39 (fun H locs hP hD hS => ?_)
  rw [wA_a13] at hP hD
  refine lv_aload_n hx hb dAs_add_40 rfl (lv_at hl 0 rfl) ?_
  refine lv_dup hx hb dAs_add_41 rfl ?_
  refine va_get (D := D) (ci := 3) (v := .int (u.1 5)) (C := RAs) (T := TAs) (N := 10) hx hb hG inAs hown hK hP 3 rfl rfl 9 (by decide) (hG _ mw_102) (fun _ h9 => h9) rfl dAs_add_42 ?_
  refine lv_dup_x1 hx hb dAs_add_45 rfl rfl ?_
  refine lv_iconst (v := (1 : Int32)) hx hb dAs_add_46 (by decide) ?_
  refine lv_iadd hx hb dAs_add_47 ?_
  refine va_put (D := D) (ci := 3) (v := .int ((u.1 5) + (1 : Int32))) (ty := .int) (C := RAs) (T := TAs) (N := 10) hx hb hG inAs tyAs tyAs_ok nmAs hown hK hP hD hS 3 rfl rfl 9 (by decide) (hG _ mw_102) (fun _ h9 => h9) rfl (by decide +kernel) rfl rfl (Nat.le_of_ble_eq_true rfl) dAs_add_48 (fun H locs hP hD hS => ?_)
  rw [wA_f5] at hP hD
  cases h
  exact gw_iret hx hb hr hlocks hP hD hS dAs_add_51
set_option maxHeartbeats 4000000 in
set_option maxRecDepth 100000 in
theorem c_As_move (l : Launch) (D : va_G) (ad : Nat → Nat) (cI cZ cJ : ClassId) (u : StA) (a1 : Int32) (a2 : Int32) (a3 : Int32) (a4 : Int32) (w : StA) (h : f_As_move u a1 a2 a3 a4 = some w) : gw_Ct l D vwCl (tA cI cZ cJ) (wA ad cI cZ cJ) yAs_move (Cond.code yAs_move cAs_move 5 none :: gG) ({ frames := 0, cells := 0, slots := 0, locals := 0 } : Room) [.ref (ad 3), .int a1, .int a2, .int a3, .int a4] u (none) w := by
  refine gw_enter (by decide) (Nat.le_of_ble_eq_true rfl) ?_
  intro p e s m below meth c A hC hP hD hS ls hl
  obtain ⟨hx, hb, hr, hml, hG, hown, hlocks, hK, hA⟩ := id hC
  have hl : lv_has ls 5 [(0, .ref (ad 3)), (1, .int a1), (2, .int a2), (3, .int a3), (4, .int a4)] := hl
  obtain ⟨H, hH⟩ : ∃ H, H = s.heap := ⟨_, rfl⟩
  obtain ⟨locs, hlocs⟩ : ∃ x : List Loc, x = [] := ⟨_, rfl⟩
  rw [← hlocs] at hS ⊢
  have hP : va_P D vwCl (wA ad cI cZ cJ u) H := by rw [hH]; exact hP
  have hS : va_S A s.heap H locs := by rw [hH]; exact hS
  suffices g : W p l e ({ frames := 0, cells := 0, slots := 0, locals := 0 } : Room) s m [.ref (ad 3), .int a1, .int a2, .int a3, .int a4].toArray below meth c H locs 0 0 (MQ below (gw_Q D vwCl (wA ad cI cZ cJ) A w (none)) [.ref (ad 3), .int a1, .int a2, .int a3, .int a4].toArray s 0 0 A) (F0 m 0 ls []) by rw [hH] at g; exact g
  unfold f_As_move at h
  refine lv_aload_n hx hb dAs_move_0 rfl (lv_at hl 0 rfl) ?_
  refine va_get (D := D) (ci := 3) (v := .ref (ad 20)) (C := RAs) (T := TAs) (N := 10) hx hb hG inAs hown hK hP 3 rfl rfl 4 (by decide) (hG _ mw_93) (fun _ h9 => h9) rfl dAs_move_1 ?_
  refine lv_iload_n hx hb dAs_move_4 rfl (lv_at hl 1 rfl) ?_
  refine lv_iload_n hx hb dAs_move_5 rfl (lv_at hl 2 rfl) ?_
  obtain ⟨hg1, h⟩ := gI_some h
  refine va_iast (f := (u.2.1 14)) hx hb hK hP hD hS 20 0 rfl rfl hg1 dAs_move_6 (fun H locs hP hD hS => ?_)
  rw [wA_a14] at hP hD
  refine lv_aload_n hx hb dAs_move_7 rfl (lv_at hl 0 rfl) ?_
  refine va_get (D := D) (ci := 3) (v := .ref (ad 21)) (C := RAs) (T := TAs) (N := 10) hx hb hG inAs hown hK hP 3 rfl rfl 5 (by decide) (hG _ mw_95) (fun _ h9 => h9) rfl dAs_move_8 ?_
  refine lv_iload_n hx hb dAs_move_11 rfl (lv_at hl 1 rfl) ?_
  refine lv_iload_n hx hb dAs_move_12 rfl (lv_at hl 3 rfl) ?_
  refine va_iast (f := ((sA u 14 (a1).toNatClampNeg a2).2.1 15)) hx hb hK hP hD hS 21 0 rfl rfl hg1 dAs_move_13 (fun H locs hP hD hS => ?_)
  rw [wA_a15] at hP hD
  refine lv_aload_n hx hb dAs_move_14 rfl (lv_at hl 0 rfl) ?_
  refine va_get (D := D) (ci := 3) (v := .ref (ad 23)) (C := RAs) (T := TAs) (N := 10) hx hb hG inAs hown hK hP 3 rfl rfl 7 (by decide) (hG _ mw_99) (fun _ h9 => h9) rfl dAs_move_15 ?_
  refine lv_iload_n hx hb dAs_move_18 rfl (lv_at hl 1 rfl) ?_
  refine lv_dup2_11 hx hb dAs_move_19 rfl rfl ?_
  refine va_iald (f := (u.2.1 17)) hx hb hK hP 23 0 rfl rfl hg1 dAs_move_20 ?_
  refine lv_iconst (v := (1 : Int32)) hx hb dAs_move_21 (by decide) ?_
  refine lv_iload_n hx hb dAs_move_22 rfl (lv_at hl 2 rfl) ?_
  refine lv_ishl hx hb dAs_move_23 ?_
  refine lv_ior hx hb dAs_move_24 ?_
  refine va_iast (f := ((sA (sA u 14 (a1).toNatClampNeg a2) 15 (a1).toNatClampNeg a3).2.1 17)) hx hb hK hP hD hS 23 0 rfl rfl hg1 dAs_move_25 (fun H locs hP hD hS => ?_)
  rw [wA_a17] at hP hD
  refine lv_aload_n hx hb dAs_move_26 rfl (lv_at hl 0 rfl) ?_
  refine va_get (D := D) (ci := 3) (v := .ref (ad 24)) (C := RAs) (T := TAs) (N := 10) hx hb hG inAs hown hK hP 3 rfl rfl 8 (by decide) (hG _ mw_100) (fun _ h9 => h9) rfl dAs_move_27 ?_
  refine lv_iload_n hx hb dAs_move_30 rfl (lv_at hl 1 rfl) ?_
  refine lv_iload hx hb dAs_move_31 (lv_at hl 4 rfl) ?_
  refine va_zast (f := ((sA (sA (sA u 14 (a1).toNatClampNeg a2) 15 (a1).toNatClampNeg a3) 17 (a1).toNatClampNeg ((u.2.1 17 (a1).toNatClampNeg) ||| ((1 : Int32) <<< (a2 &&& 31)))).2.1 18)) hx hb hK hP hD hS 24 1 rfl rfl hg1 dAs_move_33 (fun H locs hP hD hS => ?_)
  rw [wA_a18] at hP hD
  cases h
  exact gw_vret hx hb hr hlocks hP hD hS dAs_move_34
set_option maxHeartbeats 4000000 in
set_option maxRecDepth 100000 in
theorem c_As_close (l : Launch) (D : va_G) (ad : Nat → Nat) (cI cZ cJ : ClassId) (u : StA) (a1 : Int32) (a2 : Int32) (w : StA) (h : f_As_close u a1 a2 = some w) : gw_Ct l D vwCl (tA cI cZ cJ) (wA ad cI cZ cJ) yAs_close (Cond.code yAs_close cAs_close 3 none :: gG) ({ frames := 0, cells := 0, slots := 0, locals := 0 } : Room) [.ref (ad 3), .int a1, .int a2] u (none) w := by
  refine gw_enter (by decide) (Nat.le_of_ble_eq_true rfl) ?_
  intro p e s m below meth c A hC hP hD hS ls hl
  obtain ⟨hx, hb, hr, hml, hG, hown, hlocks, hK, hA⟩ := id hC
  have hl : lv_has ls 3 [(0, .ref (ad 3)), (1, .int a1), (2, .int a2)] := hl
  obtain ⟨H, hH⟩ : ∃ H, H = s.heap := ⟨_, rfl⟩
  obtain ⟨locs, hlocs⟩ : ∃ x : List Loc, x = [] := ⟨_, rfl⟩
  rw [← hlocs] at hS ⊢
  have hP : va_P D vwCl (wA ad cI cZ cJ u) H := by rw [hH]; exact hP
  have hS : va_S A s.heap H locs := by rw [hH]; exact hS
  suffices g : W p l e ({ frames := 0, cells := 0, slots := 0, locals := 0 } : Room) s m [.ref (ad 3), .int a1, .int a2].toArray below meth c H locs 0 0 (MQ below (gw_Q D vwCl (wA ad cI cZ cJ) A w (none)) [.ref (ad 3), .int a1, .int a2].toArray s 0 0 A) (F0 m 0 ls []) by rw [hH] at g; exact g
  unfold f_As_close at h
  refine lv_aload_n hx hb dAs_close_0 rfl (lv_at hl 0 rfl) ?_
  refine va_get (D := D) (ci := 3) (v := .ref (ad 19)) (C := RAs) (T := TAs) (N := 10) hx hb hG inAs hown hK hP 3 rfl rfl 3 (by decide) (hG _ mw_91) (fun _ h9 => h9) rfl dAs_close_1 ?_
  refine lv_iload_n hx hb dAs_close_4 rfl (lv_at hl 1 rfl) ?_
  refine lv_iload_n hx hb dAs_close_5 rfl (lv_at hl 2 rfl) ?_
  obtain ⟨hg1, h⟩ := gI_some h
  refine va_iast (f := (u.2.1 13)) hx hb hK hP hD hS 19 0 rfl rfl hg1 dAs_close_6 (fun H locs hP hD hS => ?_)
  rw [wA_a13] at hP hD
  refine lv_aload_n hx hb dAs_close_7 rfl (lv_at hl 0 rfl) ?_
  refine va_get (D := D) (ci := 3) (v := .ref (ad 20)) (C := RAs) (T := TAs) (N := 10) hx hb hG inAs hown hK hP 3 rfl rfl 4 (by decide) (hG _ mw_93) (fun _ h9 => h9) rfl dAs_close_8 ?_
  refine lv_iload_n hx hb dAs_close_11 rfl (lv_at hl 1 rfl) ?_
  refine lv_iconst (v := (-1 : Int32)) hx hb dAs_close_12 (by decide) ?_
  refine va_iast (f := ((sA u 13 (a1).toNatClampNeg a2).2.1 14)) hx hb hK hP hD hS 20 0 rfl rfl hg1 dAs_close_13 (fun H locs hP hD hS => ?_)
  rw [wA_a14] at hP hD
  refine lv_aload_n hx hb dAs_close_14 rfl (lv_at hl 0 rfl) ?_
  refine va_get (D := D) (ci := 3) (v := .ref (ad 21)) (C := RAs) (T := TAs) (N := 10) hx hb hG inAs hown hK hP 3 rfl rfl 5 (by decide) (hG _ mw_95) (fun _ h9 => h9) rfl dAs_close_15 ?_
  refine lv_iload_n hx hb dAs_close_18 rfl (lv_at hl 1 rfl) ?_
  refine lv_iconst (v := (0 : Int32)) hx hb dAs_close_19 (by decide) ?_
  refine va_iast (f := ((sA (sA u 13 (a1).toNatClampNeg a2) 14 (a1).toNatClampNeg (-1 : Int32)).2.1 15)) hx hb hK hP hD hS 21 0 rfl rfl hg1 dAs_close_20 (fun H locs hP hD hS => ?_)
  rw [wA_a15] at hP hD
  refine lv_aload_n hx hb dAs_close_21 rfl (lv_at hl 0 rfl) ?_
  refine va_get (D := D) (ci := 3) (v := .ref (ad 24)) (C := RAs) (T := TAs) (N := 10) hx hb hG inAs hown hK hP 3 rfl rfl 8 (by decide) (hG _ mw_100) (fun _ h9 => h9) rfl dAs_close_22 ?_
  refine lv_iload_n hx hb dAs_close_25 rfl (lv_at hl 1 rfl) ?_
  refine lv_iconst (v := (0 : Int32)) hx hb dAs_close_26 (by decide) ?_
  refine va_zast (f := ((sA (sA (sA u 13 (a1).toNatClampNeg a2) 14 (a1).toNatClampNeg (-1 : Int32)) 15 (a1).toNatClampNeg (0 : Int32)).2.1 18)) hx hb hK hP hD hS 24 1 rfl rfl hg1 dAs_close_27 (fun H locs hP hD hS => ?_)
  rw [wA_a18] at hP hD
  cases h
  exact gw_vret hx hb hr hlocks hP hD hS dAs_close_28
set_option maxHeartbeats 4000000 in
set_option maxRecDepth 100000 in
theorem c_As_isOpen (l : Launch) (D : va_G) (ad : Nat → Nat) (cI cZ cJ : ClassId) (u : StA) (a1 : Int32) (r : Int32) (h : f_As_isOpen u a1 = some r) : gw_Ct l D vwCl (tA cI cZ cJ) (wA ad cI cZ cJ) yAs_isOpen (Cond.code yAs_isOpen cAs_isOpen 2 (some .boolean) :: gG) ({ frames := 0, cells := 0, slots := 0, locals := 0 } : Room) [.ref (ad 3), .int a1] u (some (.int r)) u := by
  refine gw_enter (by decide) (Nat.le_of_ble_eq_true rfl) ?_
  intro p e s m below meth c A hC hP hD hS ls hl
  obtain ⟨hx, hb, hr, hml, hG, hown, hlocks, hK, hA⟩ := id hC
  have hl : lv_has ls 2 [(0, .ref (ad 3)), (1, .int a1)] := hl
  obtain ⟨H, hH⟩ : ∃ H, H = s.heap := ⟨_, rfl⟩
  obtain ⟨locs, hlocs⟩ : ∃ x : List Loc, x = [] := ⟨_, rfl⟩
  rw [← hlocs] at hS ⊢
  have hP : va_P D vwCl (wA ad cI cZ cJ u) H := by rw [hH]; exact hP
  have hS : va_S A s.heap H locs := by rw [hH]; exact hS
  suffices g : W p l e ({ frames := 0, cells := 0, slots := 0, locals := 0 } : Room) s m [.ref (ad 3), .int a1].toArray below meth c H locs 0 0 (MQ below (gw_Q D vwCl (wA ad cI cZ cJ) A u (some (.int r))) [.ref (ad 3), .int a1].toArray s 0 0 A) (F0 m 0 ls []) by rw [hH] at g; exact g
  unfold f_As_isOpen at h
  refine lv_aload_n hx hb dAs_isOpen_0 rfl (lv_at hl 0 rfl) ?_
  refine va_get (D := D) (ci := 3) (v := .ref (ad 19)) (C := RAs) (T := TAs) (N := 10) hx hb hG inAs hown hK hP 3 rfl rfl 3 (by decide) (hG _ mw_91) (fun _ h9 => h9) rfl dAs_isOpen_1 ?_
  refine lv_iload_n hx hb dAs_isOpen_4 rfl (lv_at hl 1 rfl) ?_
  obtain ⟨hg1, h⟩ := gI_some h
  refine va_iald (f := (u.2.1 13)) hx hb hK hP 19 0 rfl rfl hg1 dAs_isOpen_5 ?_
  refine lv_if_ne (tgt := 13) hx hb dAs_isOpen_6 (by decide) (fun hc => ?_) (fun hc => ?_)
  · rw [if_neg hc] at h
    refine lv_iconst (v := (0 : Int32)) hx hb dAs_isOpen_13 (by decide) ?_
    cases h
    exact gw_zret hx hb hr (by first | rfl | exact nb_A_isWithin _ _ _) hlocks hP hD hS dAs_isOpen_14
  · rw [if_pos hc] at h
    refine lv_iconst (v := (1 : Int32)) hx hb dAs_isOpen_9 (by decide) ?_
    refine lv_goto (tgt := 14) hx hb dAs_isOpen_10 (by decide) ?_
    cases h
    exact gw_zret hx hb hr (by first | rfl | exact nb_A_isWithin _ _ _) hlocks hP hD hS dAs_isOpen_14
set_option maxHeartbeats 4000000 in
set_option maxRecDepth 100000 in
theorem c_As_isOpenAt (l : Launch) (D : va_G) (ad : Nat → Nat) (cI cZ cJ : ClassId) (u : StA) (a1 : Int32) (a2 : Int32) (r : Int32) (h : f_As_isOpenAt u a1 a2 = some r) : gw_Ct l D vwCl (tA cI cZ cJ) (wA ad cI cZ cJ) yAs_isOpenAt (Cond.code yAs_isOpenAt cAs_isOpenAt 3 (some .boolean) :: gG) ({ frames := 1, cells := 0, slots := 0, locals := 21 } : Room) [.ref (ad 3), .int a1, .int a2] u (some (.int r)) u := by
  refine gw_enter (by decide) (Nat.le_of_ble_eq_true rfl) ?_
  intro p e s m below meth c A hC hP hD hS ls hl
  obtain ⟨hx, hb, hr, hml, hG, hown, hlocks, hK, hA⟩ := id hC
  have hl : lv_has ls 3 [(0, .ref (ad 3)), (1, .int a1), (2, .int a2)] := hl
  obtain ⟨H, hH⟩ : ∃ H, H = s.heap := ⟨_, rfl⟩
  obtain ⟨locs, hlocs⟩ : ∃ x : List Loc, x = [] := ⟨_, rfl⟩
  rw [← hlocs] at hS ⊢
  have hP : va_P D vwCl (wA ad cI cZ cJ u) H := by rw [hH]; exact hP
  have hS : va_S A s.heap H locs := by rw [hH]; exact hS
  suffices g : W p l e ({ frames := 1, cells := 0, slots := 0, locals := 21 } : Room) s m [.ref (ad 3), .int a1, .int a2].toArray below meth c H locs 0 0 (MQ below (gw_Q D vwCl (wA ad cI cZ cJ) A u (some (.int r))) [.ref (ad 3), .int a1, .int a2].toArray s 0 0 A) (F0 m 0 ls []) by rw [hH] at g; exact g
  unfold f_As_isOpenAt at h
  refine lv_aload_n hx hb dAs_isOpenAt_0 rfl (lv_at hl 0 rfl) ?_
  refine lv_iload_n hx hb dAs_isOpenAt_1 rfl (lv_at hl 1 rfl) ?_
  obtain ⟨q1, q1_h, h⟩ := gw_bind h
  refine gw_callV (As := [.int a1]) (rest := []) (u := u) (u' := u) hx hb hml hown hG (c_As_isOpen l D ad cI cZ cJ u a1 _ q1_h) lk_As_44 rfl rfl ⟨Nat.le_of_ble_eq_true rfl, Nat.le_of_ble_eq_true rfl⟩ (va_recv hK hP (ci := 3) (q0 := 3) rfl rfl) hK hP hD hS hA rfl hl.1 rfl (Nat.le_of_ble_eq_true rfl) dAs_isOpenAt_2 ⟨Nat.le_of_ble_eq_true rfl, Nat.le_of_ble_eq_true rfl⟩ (fun H locs hP hD hS => ?_)
  refine lv_if_eq (tgt := 22) hx hb dAs_isOpenAt_5 (by decide) (fun hc => ?_) (fun hc => ?_)
  · rw [if_pos hc] at h
    refine lv_iconst (v := (0 : Int32)) hx hb dAs_isOpenAt_22 (by decide) ?_
    cases h
    exact gw_zret hx hb hr (by first | rfl | exact nb_A_isWithin _ _ _) hlocks hP hD hS dAs_isOpenAt_23
  · rw [if_neg hc] at h
    refine lv_aload_n hx hb dAs_isOpenAt_8 rfl (lv_at hl 0 rfl) ?_
    refine va_get (D := D) (ci := 3) (v := .ref (ad 20)) (C := RAs) (T := TAs) (N := 10) hx hb hG inAs hown hK hP 3 rfl rfl 4 (by decide) (hG _ mw_93) (fun _ h9 => h9) rfl dAs_isOpenAt_9 ?_
    refine lv_iload_n hx hb dAs_isOpenAt_12 rfl (lv_at hl 1 rfl) ?_
    obtain ⟨hg2, h⟩ := gI_some h
    refine va_iald (f := (u.2.1 14)) hx hb hK hP 20 0 rfl rfl hg2 dAs_isOpenAt_13 ?_
    refine lv_iload_n hx hb dAs_isOpenAt_14 rfl (lv_at hl 2 rfl) ?_
    refine lv_icmp_ne (tgt := 22) hx hb dAs_isOpenAt_15 (by decide) (fun hc => ?_) (fun hc => ?_)
    · rw [if_neg hc] at h
      refine lv_iconst (v := (0 : Int32)) hx hb dAs_isOpenAt_22 (by decide) ?_
      cases h
      exact gw_zret hx hb hr (by first | rfl | exact nb_A_isWithin _ _ _) hlocks hP hD hS dAs_isOpenAt_23
    · rw [if_pos hc] at h
      refine lv_iconst (v := (1 : Int32)) hx hb dAs_isOpenAt_18 (by decide) ?_
      refine lv_goto (tgt := 23) hx hb dAs_isOpenAt_19 (by decide) ?_
      cases h
      exact gw_zret hx hb hr (by first | rfl | exact nb_A_isWithin _ _ _) hlocks hP hD hS dAs_isOpenAt_23
set_option maxHeartbeats 4000000 in
set_option maxRecDepth 100000 in
theorem c_As_wasAt (l : Launch) (D : va_G) (ad : Nat → Nat) (cI cZ cJ : ClassId) (u : StA) (a1 : Int32) (a2 : Int32) (r : Int32) (h : f_As_wasAt u a1 a2 = some r) : gw_Ct l D vwCl (tA cI cZ cJ) (wA ad cI cZ cJ) yAs_wasAt (Cond.code yAs_wasAt cAs_wasAt 3 (some .boolean) :: gG) ({ frames := 0, cells := 0, slots := 0, locals := 0 } : Room) [.ref (ad 3), .int a1, .int a2] u (some (.int r)) u := by
  refine gw_enter (by decide) (Nat.le_of_ble_eq_true rfl) ?_
  intro p e s m below meth c A hC hP hD hS ls hl
  obtain ⟨hx, hb, hr, hml, hG, hown, hlocks, hK, hA⟩ := id hC
  have hl : lv_has ls 3 [(0, .ref (ad 3)), (1, .int a1), (2, .int a2)] := hl
  obtain ⟨H, hH⟩ : ∃ H, H = s.heap := ⟨_, rfl⟩
  obtain ⟨locs, hlocs⟩ : ∃ x : List Loc, x = [] := ⟨_, rfl⟩
  rw [← hlocs] at hS ⊢
  have hP : va_P D vwCl (wA ad cI cZ cJ u) H := by rw [hH]; exact hP
  have hS : va_S A s.heap H locs := by rw [hH]; exact hS
  suffices g : W p l e ({ frames := 0, cells := 0, slots := 0, locals := 0 } : Room) s m [.ref (ad 3), .int a1, .int a2].toArray below meth c H locs 0 0 (MQ below (gw_Q D vwCl (wA ad cI cZ cJ) A u (some (.int r))) [.ref (ad 3), .int a1, .int a2].toArray s 0 0 A) (F0 m 0 ls []) by rw [hH] at g; exact g
  unfold f_As_wasAt at h
  refine lv_aload_n hx hb dAs_wasAt_0 rfl (lv_at hl 0 rfl) ?_
  refine va_get (D := D) (ci := 3) (v := .ref (ad 23)) (C := RAs) (T := TAs) (N := 10) hx hb hG inAs hown hK hP 3 rfl rfl 7 (by decide) (hG _ mw_99) (fun _ h9 => h9) rfl dAs_wasAt_1 ?_
  refine lv_iload_n hx hb dAs_wasAt_4 rfl (lv_at hl 1 rfl) ?_
  obtain ⟨hg1, h⟩ := gI_some h
  refine va_iald (f := (u.2.1 17)) hx hb hK hP 23 0 rfl rfl hg1 dAs_wasAt_5 ?_
  refine lv_iload_n hx hb dAs_wasAt_6 rfl (lv_at hl 2 rfl) ?_
  refine lv_ishr hx hb dAs_wasAt_7 ?_
  refine lv_iconst (v := (1 : Int32)) hx hb dAs_wasAt_8 (by decide) ?_
  refine lv_iand hx hb dAs_wasAt_9 ?_
  refine lv_iconst (v := (1 : Int32)) hx hb dAs_wasAt_10 (by decide) ?_
  refine lv_icmp_ne (tgt := 18) hx hb dAs_wasAt_11 (by decide) (fun hc => ?_) (fun hc => ?_)
  · rw [if_neg hc] at h
    refine lv_iconst (v := (0 : Int32)) hx hb dAs_wasAt_18 (by decide) ?_
    cases h
    exact gw_zret hx hb hr (by first | rfl | exact nb_A_isWithin _ _ _) hlocks hP hD hS dAs_wasAt_19
  · rw [if_pos hc] at h
    refine lv_iconst (v := (1 : Int32)) hx hb dAs_wasAt_14 (by decide) ?_
    refine lv_goto (tgt := 19) hx hb dAs_wasAt_15 (by decide) ?_
    cases h
    exact gw_zret hx hb hr (by first | rfl | exact nb_A_isWithin _ _ _) hlocks hP hD hS dAs_wasAt_19
set_option maxHeartbeats 4000000 in
set_option maxRecDepth 100000 in
theorem c_As_wanting (l : Launch) (D : va_G) (ad : Nat → Nat) (cI cZ cJ : ClassId) (u : StA) (a1 : Int32) (r : Int32) (h : f_As_wanting u a1 = some r) : gw_Ct l D vwCl (tA cI cZ cJ) (wA ad cI cZ cJ) yAs_wanting (Cond.code yAs_wanting cAs_wanting 2 (some .int) :: gG) ({ frames := 0, cells := 0, slots := 0, locals := 0 } : Room) [.ref (ad 3), .int a1] u (some (.int r)) u := by
  refine gw_enter (by decide) (Nat.le_of_ble_eq_true rfl) ?_
  intro p e s m below meth c A hC hP hD hS ls hl
  obtain ⟨hx, hb, hr, hml, hG, hown, hlocks, hK, hA⟩ := id hC
  have hl : lv_has ls 2 [(0, .ref (ad 3)), (1, .int a1)] := hl
  obtain ⟨H, hH⟩ : ∃ H, H = s.heap := ⟨_, rfl⟩
  obtain ⟨locs, hlocs⟩ : ∃ x : List Loc, x = [] := ⟨_, rfl⟩
  rw [← hlocs] at hS ⊢
  have hP : va_P D vwCl (wA ad cI cZ cJ u) H := by rw [hH]; exact hP
  have hS : va_S A s.heap H locs := by rw [hH]; exact hS
  suffices g : W p l e ({ frames := 0, cells := 0, slots := 0, locals := 0 } : Room) s m [.ref (ad 3), .int a1].toArray below meth c H locs 0 0 (MQ below (gw_Q D vwCl (wA ad cI cZ cJ) A u (some (.int r))) [.ref (ad 3), .int a1].toArray s 0 0 A) (F0 m 0 ls []) by rw [hH] at g; exact g
  unfold f_As_wanting at h
  refine lv_aload_n hx hb dAs_wanting_0 rfl (lv_at hl 0 rfl) ?_
  refine va_get (D := D) (ci := 3) (v := .ref (ad 17)) (C := RAs) (T := TAs) (N := 10) hx hb hG inAs hown hK hP 3 rfl rfl 1 (by decide) (hG _ mw_89) (fun _ h9 => h9) rfl dAs_wanting_1 ?_
  refine lv_iload_n hx hb dAs_wanting_4 rfl (lv_at hl 1 rfl) ?_
  obtain ⟨hg1, h⟩ := gI_some h
  refine va_iald (f := (u.2.1 11)) hx hb hK hP 17 0 rfl rfl hg1 dAs_wanting_5 ?_
  refine lv_aload_n hx hb dAs_wanting_6 rfl (lv_at hl 0 rfl) ?_
  refine va_get (D := D) (ci := 3) (v := .ref (ad 22)) (C := RAs) (T := TAs) (N := 10) hx hb hG inAs hown hK hP 3 rfl rfl 6 (by decide) (hG _ mw_97) (fun _ h9 => h9) rfl dAs_wanting_7 ?_
  refine lv_iload_n hx hb dAs_wanting_10 rfl (lv_at hl 1 rfl) ?_
  refine va_iald (f := (u.2.1 16)) hx hb hK hP 22 0 rfl rfl hg1 dAs_wanting_11 ?_
  refine lv_isub hx hb dAs_wanting_12 ?_
  cases h
  exact gw_iret hx hb hr hlocks hP hD hS dAs_wanting_13
set_option maxHeartbeats 4000000 in
set_option maxRecDepth 100000 in
theorem c_As_patienceEnd (l : Launch) (D : va_G) (ad : Nat → Nat) (cI cZ cJ : ClassId) (u : StA) (a1 : Int32) (r : Int32) (h : f_As_patienceEnd u a1 = some r) : gw_Ct l D vwCl (tA cI cZ cJ) (wA ad cI cZ cJ) yAs_patienceEnd (Cond.code yAs_patienceEnd cAs_patienceEnd 2 (some .int) :: gG) ({ frames := 0, cells := 0, slots := 0, locals := 0 } : Room) [.ref (ad 3), .int a1] u (some (.int r)) u := by
  refine gw_enter (by decide) (Nat.le_of_ble_eq_true rfl) ?_
  intro p e s m below meth c A hC hP hD hS ls hl
  obtain ⟨hx, hb, hr, hml, hG, hown, hlocks, hK, hA⟩ := id hC
  have hl : lv_has ls 2 [(0, .ref (ad 3)), (1, .int a1)] := hl
  obtain ⟨H, hH⟩ : ∃ H, H = s.heap := ⟨_, rfl⟩
  obtain ⟨locs, hlocs⟩ : ∃ x : List Loc, x = [] := ⟨_, rfl⟩
  rw [← hlocs] at hS ⊢
  have hP : va_P D vwCl (wA ad cI cZ cJ u) H := by rw [hH]; exact hP
  have hS : va_S A s.heap H locs := by rw [hH]; exact hS
  suffices g : W p l e ({ frames := 0, cells := 0, slots := 0, locals := 0 } : Room) s m [.ref (ad 3), .int a1].toArray below meth c H locs 0 0 (MQ below (gw_Q D vwCl (wA ad cI cZ cJ) A u (some (.int r))) [.ref (ad 3), .int a1].toArray s 0 0 A) (F0 m 0 ls []) by rw [hH] at g; exact g
  unfold f_As_patienceEnd at h
  refine lv_aload_n hx hb dAs_patienceEnd_0 rfl (lv_at hl 0 rfl) ?_
  refine va_get (D := D) (ci := 3) (v := .ref (ad 21)) (C := RAs) (T := TAs) (N := 10) hx hb hG inAs hown hK hP 3 rfl rfl 5 (by decide) (hG _ mw_95) (fun _ h9 => h9) rfl dAs_patienceEnd_1 ?_
  refine lv_iload_n hx hb dAs_patienceEnd_4 rfl (lv_at hl 1 rfl) ?_
  obtain ⟨hg1, h⟩ := gI_some h
  refine va_iald (f := (u.2.1 15)) hx hb hK hP 21 0 rfl rfl hg1 dAs_patienceEnd_5 ?_
  refine lv_aload_n hx hb dAs_patienceEnd_6 rfl (lv_at hl 0 rfl) ?_
  refine va_get (D := D) (ci := 3) (v := .ref (ad 18)) (C := RAs) (T := TAs) (N := 10) hx hb hG inAs hown hK hP 3 rfl rfl 2 (by decide) (hG _ mw_90) (fun _ h9 => h9) rfl dAs_patienceEnd_7 ?_
  refine lv_iload_n hx hb dAs_patienceEnd_10 rfl (lv_at hl 1 rfl) ?_
  refine va_iald (f := (u.2.1 12)) hx hb hK hP 18 0 rfl rfl hg1 dAs_patienceEnd_11 ?_
  refine lv_iadd hx hb dAs_patienceEnd_12 ?_
  cases h
  exact gw_iret hx hb hr hlocks hP hD hS dAs_patienceEnd_13
set_option maxHeartbeats 4000000 in
set_option maxRecDepth 100000 in
theorem lp_As_open_4 {p : Program} {l : Launch} {e : Env} {s : State} {m : MethodId} {args : Array Value} {below : List Frame} {meth : Method} {c : Code} {A : Nat → Prop} {D : va_G} {ad : Nat → Nat} {cI cZ cJ : ClassId} (hC : gw_C p s m args meth c "AidRows$Asks" cAs_open 3 (some .int) gG D vwCl (tA cI cZ cJ) A) (N : Nat) : ∀ (n : Nat) (u : StA) (x1 : Int32) (x2 : Int32) (r : Int32), f_As_open_4 N n u x1 x2 = some r → ∀ (H : Heap) (locs : List Loc) (ls : Array Slot), va_P D vwCl (wA ad cI cZ cJ u) H → va_D A (wA ad cI cZ cJ u) → va_S A s.heap H locs → lv_has ls 3 [(0, .ref (ad 3)), (1, .int x1), (2, .int x2)] → W p l e ({ frames := 1, cells := 0, slots := 0, locals := 21 } : Room) s m args below meth c H locs 0 0 (MQ below (gw_Q D vwCl (wA ad cI cZ cJ) A u (some (.int r))) args s 0 0 A) (F0 m 4 ls []) := by
  obtain ⟨hx, hb, hr, hml, hG, hown, hlocks, hK, hA⟩ := id hC
  intro n
  induction n with
  | zero => intro u x1 x2 r h; cases h
  | succ n ih =>
    intro u x1 x2 r h H locs ls hP hD hS hl
    rw [f_As_open_4] at h
    refine lv_iload_n hx hb dAs_open_4 rfl (lv_at hl 2 rfl) ?_
    refine lv_aload_n hx hb dAs_open_5 rfl (lv_at hl 0 rfl) ?_
    refine va_get (D := D) (ci := 3) (v := .int (u.1 5)) (C := RAs) (T := TAs) (N := 10) hx hb hG inAs hown hK hP 3 rfl rfl 9 (by decide) (hG _ mw_102) (fun _ h9 => h9) rfl dAs_open_6 ?_
    refine lv_icmp_ge (tgt := 29) hx hb dAs_open_9 (by decide) (fun hc => ?_) (fun hc => ?_)
    · rw [if_pos hc] at h
      refine lv_iload_n hx hb dAs_open_29 rfl (lv_at hl 1 rfl) ?_
      cases h
      exact gw_iret hx hb hr hlocks hP hD hS dAs_open_30
    · rw [if_neg hc] at h
      refine lv_aload_n hx hb dAs_open_12 rfl (lv_at hl 0 rfl) ?_
      refine lv_iload_n hx hb dAs_open_13 rfl (lv_at hl 2 rfl) ?_
      obtain ⟨q1, q1_h, h⟩ := gw_bind h
      refine gw_callV (As := [.int x2]) (rest := []) (u := u) (u' := u) hx hb hml hown hG (c_As_isOpen l D ad cI cZ cJ u x2 _ q1_h) lk_As_44 rfl rfl ⟨Nat.le_of_ble_eq_true rfl, Nat.le_of_ble_eq_true rfl⟩ (va_recv hK hP (ci := 3) (q0 := 3) rfl rfl) hK hP hD hS hA rfl hl.1 rfl (Nat.le_of_ble_eq_true rfl) dAs_open_14 ⟨Nat.le_of_ble_eq_true rfl, Nat.le_of_ble_eq_true rfl⟩ (fun H locs hP hD hS => ?_)
      refine lv_if_eq (tgt := 23) hx hb dAs_open_17 (by decide) (fun hc => ?_) (fun hc => ?_)
      · rw [if_pos hc] at h
        refine lv_iinc (v := (x2 + (1 : Int32))) (lv' := [(2, .int (x2 + (1 : Int32))), (0, .ref (ad 3)), (1, .int x1)]) hx hb dAs_open_23 hl (k := 2) rfl rfl (by decide) rfl (fun ls hl => ?_)
        refine lv_goto (tgt := 4) hx hb dAs_open_26 (by decide) ?_
        exact ih u x1 (x2 + (1 : Int32)) _ h H locs ls hP hD hS (lv_sub hl [1, 2, 0] rfl)
      · rw [if_neg hc] at h
        refine lv_iinc (v := (x1 + (1 : Int32))) (lv' := [(1, .int (x1 + (1 : Int32))), (0, .ref (ad 3)), (2, .int x2)]) hx hb dAs_open_20 hl (k := 1) rfl rfl (by decide) rfl (fun ls hl => ?_)
        refine lv_iinc (v := (x2 + (1 : Int32))) (lv' := [(2, .int (x2 + (1 : Int32))), (1, .int (x1 + (1 : Int32))), (0, .ref (ad 3))]) hx hb dAs_open_23 hl (k := 2) rfl rfl (by decide) rfl (fun ls hl => ?_)
        refine lv_goto (tgt := 4) hx hb dAs_open_26 (by decide) ?_
        exact ih u (x1 + (1 : Int32)) (x2 + (1 : Int32)) _ h H locs ls hP hD hS (lv_sub hl [2, 1, 0] rfl)
set_option maxHeartbeats 4000000 in
set_option maxRecDepth 100000 in
theorem c_As_open (l : Launch) (D : va_G) (ad : Nat → Nat) (cI cZ cJ : ClassId) (N : Nat) (u : StA) (r : Int32) (h : f_As_open N u = some r) : gw_Ct l D vwCl (tA cI cZ cJ) (wA ad cI cZ cJ) yAs_open (Cond.code yAs_open cAs_open 3 (some .int) :: gG) ({ frames := 1, cells := 0, slots := 0, locals := 21 } : Room) [.ref (ad 3)] u (some (.int r)) u := by
  refine gw_enter (by decide) (Nat.le_of_ble_eq_true rfl) ?_
  intro p e s m below meth c A hC hP hD hS ls hl
  obtain ⟨hx, hb, hr, hml, hG, hown, hlocks, hK, hA⟩ := id hC
  have hl : lv_has ls 3 [(0, .ref (ad 3))] := hl
  obtain ⟨H, hH⟩ : ∃ H, H = s.heap := ⟨_, rfl⟩
  obtain ⟨locs, hlocs⟩ : ∃ x : List Loc, x = [] := ⟨_, rfl⟩
  rw [← hlocs] at hS ⊢
  have hP : va_P D vwCl (wA ad cI cZ cJ u) H := by rw [hH]; exact hP
  have hS : va_S A s.heap H locs := by rw [hH]; exact hS
  suffices g : W p l e ({ frames := 1, cells := 0, slots := 0, locals := 21 } : Room) s m [.ref (ad 3)].toArray below meth c H locs 0 0 (MQ below (gw_Q D vwCl (wA ad cI cZ cJ) A u (some (.int r))) [.ref (ad 3)].toArray s 0 0 A) (F0 m 0 ls []) by rw [hH] at g; exact g
  unfold f_As_open at h
  refine lv_iconst (v := (0 : Int32)) hx hb dAs_open_0 (by decide) ?_
  refine lv_istore_n (lv' := [(1, .int (0 : Int32)), (0, .ref (ad 3))]) hx hb dAs_open_1 rfl hl (by decide) rfl (fun ls hl => ?_)
  refine lv_iconst (v := (0 : Int32)) hx hb dAs_open_2 (by decide) ?_
  refine lv_istore_n (lv' := [(2, .int (0 : Int32)), (1, .int (0 : Int32)), (0, .ref (ad 3))]) hx hb dAs_open_3 rfl hl (by decide) rfl (fun ls hl => ?_)
  exact lp_As_open_4 hC N N u (0 : Int32) (0 : Int32) _ h H locs ls hP hD hS (lv_sub hl [2, 1, 0] rfl)
set_option maxHeartbeats 4000000 in
set_option maxRecDepth 100000 in
theorem c_Lo_has (l : Launch) (D : va_G) (ad : Nat → Nat) (cI cZ cJ : ClassId) (u : StA) (a1 : Int32) (r : Int32) (h : f_Lo_has u a1 = r) : gw_Ct l D vwCl (tA cI cZ cJ) (wA ad cI cZ cJ) yLo_has (Cond.code yLo_has cLo_has 2 (some .boolean) :: gG) ({ frames := 0, cells := 0, slots := 0, locals := 0 } : Room) [.ref (ad 4), .int a1] u (some (.int r)) u := by
  refine gw_enter (by decide) (Nat.le_of_ble_eq_true rfl) ?_
  intro p e s m below meth c A hC hP hD hS ls hl
  obtain ⟨hx, hb, hr, hml, hG, hown, hlocks, hK, hA⟩ := id hC
  have hl : lv_has ls 2 [(0, .ref (ad 4)), (1, .int a1)] := hl
  obtain ⟨H, hH⟩ : ∃ H, H = s.heap := ⟨_, rfl⟩
  obtain ⟨locs, hlocs⟩ : ∃ x : List Loc, x = [] := ⟨_, rfl⟩
  rw [← hlocs] at hS ⊢
  have hP : va_P D vwCl (wA ad cI cZ cJ u) H := by rw [hH]; exact hP
  have hS : va_S A s.heap H locs := by rw [hH]; exact hS
  suffices g : W p l e ({ frames := 0, cells := 0, slots := 0, locals := 0 } : Room) s m [.ref (ad 4), .int a1].toArray below meth c H locs 0 0 (MQ below (gw_Q D vwCl (wA ad cI cZ cJ) A u (some (.int r))) [.ref (ad 4), .int a1].toArray s 0 0 A) (F0 m 0 ls []) by rw [hH] at g; exact g
  unfold f_Lo_has at h
  refine lv_iload_n hx hb dLo_has_0 rfl (lv_at hl 1 rfl) ?_
  refine lv_if_lt (tgt := 16) hx hb dLo_has_1 (by decide) (fun hc => ?_) (fun hc => ?_)
  · rw [if_pos hc] at h
    refine lv_iconst (v := (0 : Int32)) hx hb dLo_has_16 (by decide) ?_
    subst h
    exact gw_zret hx hb hr (by first | rfl | exact nb_A_isWithin _ _ _) hlocks hP hD hS dLo_has_17
  · rw [if_neg hc] at h
    refine lv_iload_n hx hb dLo_has_4 rfl (lv_at hl 1 rfl) ?_
    refine lv_aload_n hx hb dLo_has_5 rfl (lv_at hl 0 rfl) ?_
    refine va_get (D := D) (ci := 4) (v := .int (u.1 6)) (C := RLo) (T := TLo) (N := 7) hx hb hG inLo hown hK hP 4 rfl rfl 6 (by decide) (hG _ mw_143) (fun _ h9 => h9) rfl dLo_has_6 ?_
    refine lv_icmp_ge (tgt := 16) hx hb dLo_has_9 (by decide) (fun hc => ?_) (fun hc => ?_)
    · rw [if_pos hc] at h
      refine lv_iconst (v := (0 : Int32)) hx hb dLo_has_16 (by decide) ?_
      subst h
      exact gw_zret hx hb hr (by first | rfl | exact nb_A_isWithin _ _ _) hlocks hP hD hS dLo_has_17
    · rw [if_neg hc] at h
      refine lv_iconst (v := (1 : Int32)) hx hb dLo_has_12 (by decide) ?_
      refine lv_goto (tgt := 17) hx hb dLo_has_13 (by decide) ?_
      subst h
      exact gw_zret hx hb hr (by first | rfl | exact nb_A_isWithin _ _ _) hlocks hP hD hS dLo_has_17
set_option maxHeartbeats 4000000 in
set_option maxRecDepth 100000 in
theorem c_Lo_room (l : Launch) (D : va_G) (ad : Nat → Nat) (cI cZ cJ : ClassId) (u : StA) (r : Int32) (h : f_Lo_room u = r) : gw_Ct l D vwCl (tA cI cZ cJ) (wA ad cI cZ cJ) yLo_room (Cond.code yLo_room cLo_room 1 (some .int) :: gG) ({ frames := 0, cells := 0, slots := 0, locals := 0 } : Room) [.ref (ad 4)] u (some (.int r)) u := by
  refine gw_enter (by decide) (Nat.le_of_ble_eq_true rfl) ?_
  intro p e s m below meth c A hC hP hD hS ls hl
  obtain ⟨hx, hb, hr, hml, hG, hown, hlocks, hK, hA⟩ := id hC
  have hl : lv_has ls 1 [(0, .ref (ad 4))] := hl
  obtain ⟨H, hH⟩ : ∃ H, H = s.heap := ⟨_, rfl⟩
  obtain ⟨locs, hlocs⟩ : ∃ x : List Loc, x = [] := ⟨_, rfl⟩
  rw [← hlocs] at hS ⊢
  have hP : va_P D vwCl (wA ad cI cZ cJ u) H := by rw [hH]; exact hP
  have hS : va_S A s.heap H locs := by rw [hH]; exact hS
  suffices g : W p l e ({ frames := 0, cells := 0, slots := 0, locals := 0 } : Room) s m [.ref (ad 4)].toArray below meth c H locs 0 0 (MQ below (gw_Q D vwCl (wA ad cI cZ cJ) A u (some (.int r))) [.ref (ad 4)].toArray s 0 0 A) (F0 m 0 ls []) by rw [hH] at g; exact g
  unfold f_Lo_room at h
  refine lv_bipush (v := (100 : Int32)) hx hb dLo_room_0 (by decide) ?_
  refine lv_aload_n hx hb dLo_room_2 rfl (lv_at hl 0 rfl) ?_
  refine va_get (D := D) (ci := 4) (v := .int (u.1 6)) (C := RLo) (T := TLo) (N := 7) hx hb hG inLo hown hK hP 4 rfl rfl 6 (by decide) (hG _ mw_143) (fun _ h9 => h9) rfl dLo_room_3 ?_
  refine lv_isub hx hb dLo_room_6 ?_
  subst h
  exact gw_iret hx hb hr hlocks hP hD hS dLo_room_7
set_option maxHeartbeats 4000000 in
set_option maxRecDepth 100000 in
theorem c_Lo_isLent (l : Launch) (D : va_G) (ad : Nat → Nat) (cI cZ cJ : ClassId) (u : StA) (a1 : Int32) (r : Int32) (h : f_Lo_isLent u a1 = some r) : gw_Ct l D vwCl (tA cI cZ cJ) (wA ad cI cZ cJ) yLo_isLent (Cond.code yLo_isLent cLo_isLent 2 (some .boolean) :: gG) ({ frames := 0, cells := 0, slots := 0, locals := 0 } : Room) [.ref (ad 4), .int a1] u (some (.int r)) u := by
  refine gw_enter (by decide) (Nat.le_of_ble_eq_true rfl) ?_
  intro p e s m below meth c A hC hP hD hS ls hl
  obtain ⟨hx, hb, hr, hml, hG, hown, hlocks, hK, hA⟩ := id hC
  have hl : lv_has ls 2 [(0, .ref (ad 4)), (1, .int a1)] := hl
  obtain ⟨H, hH⟩ : ∃ H, H = s.heap := ⟨_, rfl⟩
  obtain ⟨locs, hlocs⟩ : ∃ x : List Loc, x = [] := ⟨_, rfl⟩
  rw [← hlocs] at hS ⊢
  have hP : va_P D vwCl (wA ad cI cZ cJ u) H := by rw [hH]; exact hP
  have hS : va_S A s.heap H locs := by rw [hH]; exact hS
  suffices g : W p l e ({ frames := 0, cells := 0, slots := 0, locals := 0 } : Room) s m [.ref (ad 4), .int a1].toArray below meth c H locs 0 0 (MQ below (gw_Q D vwCl (wA ad cI cZ cJ) A u (some (.int r))) [.ref (ad 4), .int a1].toArray s 0 0 A) (F0 m 0 ls []) by rw [hH] at g; exact g
  unfold f_Lo_isLent at h
  refine lv_aload_n hx hb dLo_isLent_0 rfl (lv_at hl 0 rfl) ?_
  refine va_get (D := D) (ci := 4) (v := .ref (ad 30)) (C := RLo) (T := TLo) (N := 7) hx hb hG inLo hown hK hP 4 rfl rfl 5 (by decide) (hG _ mw_141) (fun _ h9 => h9) rfl dLo_isLent_1 ?_
  refine lv_iload_n hx hb dLo_isLent_4 rfl (lv_at hl 1 rfl) ?_
  obtain ⟨hg1, h⟩ := gI_some h
  refine va_iald (f := (u.2.1 24)) hx hb hK hP 30 0 rfl rfl hg1 dLo_isLent_5 ?_
  refine lv_iconst (v := (-1 : Int32)) hx hb dLo_isLent_6 (by decide) ?_
  refine lv_icmp_ne (tgt := 14) hx hb dLo_isLent_7 (by decide) (fun hc => ?_) (fun hc => ?_)
  · rw [if_neg hc] at h
    refine lv_iconst (v := (0 : Int32)) hx hb dLo_isLent_14 (by decide) ?_
    cases h
    exact gw_zret hx hb hr (by first | rfl | exact nb_A_isWithin _ _ _) hlocks hP hD hS dLo_isLent_15
  · rw [if_pos hc] at h
    refine lv_iconst (v := (1 : Int32)) hx hb dLo_isLent_10 (by decide) ?_
    refine lv_goto (tgt := 15) hx hb dLo_isLent_11 (by decide) ?_
    cases h
    exact gw_zret hx hb hr (by first | rfl | exact nb_A_isWithin _ _ _) hlocks hP hD hS dLo_isLent_15
set_option maxHeartbeats 4000000 in
set_option maxRecDepth 100000 in
theorem lp_Lo_lent_4 {p : Program} {l : Launch} {e : Env} {s : State} {m : MethodId} {args : Array Value} {below : List Frame} {meth : Method} {c : Code} {A : Nat → Prop} {D : va_G} {ad : Nat → Nat} {cI cZ cJ : ClassId} (hC : gw_C p s m args meth c "AidRows$Loans" cLo_lent 3 (some .int) gG D vwCl (tA cI cZ cJ) A) (N : Nat) : ∀ (n : Nat) (u : StA) (x1 : Int32) (x2 : Int32) (r : Int32), f_Lo_lent_4 N n u x1 x2 = some r → ∀ (H : Heap) (locs : List Loc) (ls : Array Slot), va_P D vwCl (wA ad cI cZ cJ u) H → va_D A (wA ad cI cZ cJ u) → va_S A s.heap H locs → lv_has ls 3 [(0, .ref (ad 4)), (1, .int x1), (2, .int x2)] → W p l e ({ frames := 1, cells := 0, slots := 0, locals := 21 } : Room) s m args below meth c H locs 0 0 (MQ below (gw_Q D vwCl (wA ad cI cZ cJ) A u (some (.int r))) args s 0 0 A) (F0 m 4 ls []) := by
  obtain ⟨hx, hb, hr, hml, hG, hown, hlocks, hK, hA⟩ := id hC
  intro n
  induction n with
  | zero => intro u x1 x2 r h; cases h
  | succ n ih =>
    intro u x1 x2 r h H locs ls hP hD hS hl
    rw [f_Lo_lent_4] at h
    refine lv_iload_n hx hb dLo_lent_4 rfl (lv_at hl 2 rfl) ?_
    refine lv_aload_n hx hb dLo_lent_5 rfl (lv_at hl 0 rfl) ?_
    refine va_get (D := D) (ci := 4) (v := .int (u.1 6)) (C := RLo) (T := TLo) (N := 7) hx hb hG inLo hown hK hP 4 rfl rfl 6 (by decide) (hG _ mw_143) (fun _ h9 => h9) rfl dLo_lent_6 ?_
    refine lv_icmp_ge (tgt := 29) hx hb dLo_lent_9 (by decide) (fun hc => ?_) (fun hc => ?_)
    · rw [if_pos hc] at h
      refine lv_iload_n hx hb dLo_lent_29 rfl (lv_at hl 1 rfl) ?_
      cases h
      exact gw_iret hx hb hr hlocks hP hD hS dLo_lent_30
    · rw [if_neg hc] at h
      refine lv_aload_n hx hb dLo_lent_12 rfl (lv_at hl 0 rfl) ?_
      refine lv_iload_n hx hb dLo_lent_13 rfl (lv_at hl 2 rfl) ?_
      obtain ⟨q1, q1_h, h⟩ := gw_bind h
      refine gw_callV (As := [.int x2]) (rest := []) (u := u) (u' := u) hx hb hml hown hG (c_Lo_isLent l D ad cI cZ cJ u x2 _ q1_h) lk_Lo_41 rfl rfl ⟨Nat.le_of_ble_eq_true rfl, Nat.le_of_ble_eq_true rfl⟩ (va_recv hK hP (ci := 4) (q0 := 4) rfl rfl) hK hP hD hS hA rfl hl.1 rfl (Nat.le_of_ble_eq_true rfl) dLo_lent_14 ⟨Nat.le_of_ble_eq_true rfl, Nat.le_of_ble_eq_true rfl⟩ (fun H locs hP hD hS => ?_)
      refine lv_if_eq (tgt := 23) hx hb dLo_lent_17 (by decide) (fun hc => ?_) (fun hc => ?_)
      · rw [if_pos hc] at h
        refine lv_iinc (v := (x2 + (1 : Int32))) (lv' := [(2, .int (x2 + (1 : Int32))), (0, .ref (ad 4)), (1, .int x1)]) hx hb dLo_lent_23 hl (k := 2) rfl rfl (by decide) rfl (fun ls hl => ?_)
        refine lv_goto (tgt := 4) hx hb dLo_lent_26 (by decide) ?_
        exact ih u x1 (x2 + (1 : Int32)) _ h H locs ls hP hD hS (lv_sub hl [1, 2, 0] rfl)
      · rw [if_neg hc] at h
        refine lv_iinc (v := (x1 + (1 : Int32))) (lv' := [(1, .int (x1 + (1 : Int32))), (0, .ref (ad 4)), (2, .int x2)]) hx hb dLo_lent_20 hl (k := 1) rfl rfl (by decide) rfl (fun ls hl => ?_)
        refine lv_iinc (v := (x2 + (1 : Int32))) (lv' := [(2, .int (x2 + (1 : Int32))), (1, .int (x1 + (1 : Int32))), (0, .ref (ad 4))]) hx hb dLo_lent_23 hl (k := 2) rfl rfl (by decide) rfl (fun ls hl => ?_)
        refine lv_goto (tgt := 4) hx hb dLo_lent_26 (by decide) ?_
        exact ih u (x1 + (1 : Int32)) (x2 + (1 : Int32)) _ h H locs ls hP hD hS (lv_sub hl [2, 1, 0] rfl)
set_option maxHeartbeats 4000000 in
set_option maxRecDepth 100000 in
theorem c_Lo_lent (l : Launch) (D : va_G) (ad : Nat → Nat) (cI cZ cJ : ClassId) (N : Nat) (u : StA) (r : Int32) (h : f_Lo_lent N u = some r) : gw_Ct l D vwCl (tA cI cZ cJ) (wA ad cI cZ cJ) yLo_lent (Cond.code yLo_lent cLo_lent 3 (some .int) :: gG) ({ frames := 1, cells := 0, slots := 0, locals := 21 } : Room) [.ref (ad 4)] u (some (.int r)) u := by
  refine gw_enter (by decide) (Nat.le_of_ble_eq_true rfl) ?_
  intro p e s m below meth c A hC hP hD hS ls hl
  obtain ⟨hx, hb, hr, hml, hG, hown, hlocks, hK, hA⟩ := id hC
  have hl : lv_has ls 3 [(0, .ref (ad 4))] := hl
  obtain ⟨H, hH⟩ : ∃ H, H = s.heap := ⟨_, rfl⟩
  obtain ⟨locs, hlocs⟩ : ∃ x : List Loc, x = [] := ⟨_, rfl⟩
  rw [← hlocs] at hS ⊢
  have hP : va_P D vwCl (wA ad cI cZ cJ u) H := by rw [hH]; exact hP
  have hS : va_S A s.heap H locs := by rw [hH]; exact hS
  suffices g : W p l e ({ frames := 1, cells := 0, slots := 0, locals := 21 } : Room) s m [.ref (ad 4)].toArray below meth c H locs 0 0 (MQ below (gw_Q D vwCl (wA ad cI cZ cJ) A u (some (.int r))) [.ref (ad 4)].toArray s 0 0 A) (F0 m 0 ls []) by rw [hH] at g; exact g
  unfold f_Lo_lent at h
  refine lv_iconst (v := (0 : Int32)) hx hb dLo_lent_0 (by decide) ?_
  refine lv_istore_n (lv' := [(1, .int (0 : Int32)), (0, .ref (ad 4))]) hx hb dLo_lent_1 rfl hl (by decide) rfl (fun ls hl => ?_)
  refine lv_iconst (v := (0 : Int32)) hx hb dLo_lent_2 (by decide) ?_
  refine lv_istore_n (lv' := [(2, .int (0 : Int32)), (1, .int (0 : Int32)), (0, .ref (ad 4))]) hx hb dLo_lent_3 rfl hl (by decide) rfl (fun ls hl => ?_)
  exact lp_Lo_lent_4 hC N N u (0 : Int32) (0 : Int32) _ h H locs ls hP hD hS (lv_sub hl [2, 1, 0] rfl)
