set_option maxHeartbeats 4000000 in
set_option maxRecDepth 100000 in
theorem lp_Lo_bearerOf_2 {p : Program} {l : Launch} {e : Env} {s : State} {m : MethodId} {args : Array Value} {below : List Frame} {meth : Method} {c : Code} {A : Nat → Prop} {D : va_G} {ad : Nat → Nat} {cI cZ cJ : ClassId} (hC : gw_C p s m args meth c "AidRows$Loans" cLo_bearerOf 3 (some .int) gG D vwCl (tA cI cZ cJ) A) (N : Nat) : ∀ (n : Nat) (u : StA) (x1 : Int32) (x2 : Int32) (r : Int32), f_Lo_bearerOf_2 N n u x1 x2 = some r → ∀ (H : Heap) (locs : List Loc) (ls : Array Slot), va_P D vwCl (wA ad cI cZ cJ u) H → va_D A (wA ad cI cZ cJ u) → va_S A s.heap H locs → lv_has ls 3 [(0, .ref (ad 4)), (1, .int x1), (2, .int x2)] → W p l e ({ frames := 1, cells := 0, slots := 0, locals := 21 } : Room) s m args below meth c H locs 0 0 (MQ below (gw_Q D vwCl (wA ad cI cZ cJ) A u (some (.int r))) args s 0 0 A) (F0 m 2 ls []) := by
  obtain ⟨hx, hb, hr, hml, hG, hown, hlocks, hK, hA⟩ := id hC
  intro n
  induction n with
  | zero => intro u x1 x2 r h; cases h
  | succ n ih =>
    intro u x1 x2 r h H locs ls hP hD hS hl
    rw [f_Lo_bearerOf_2] at h
    refine lv_iload_n hx hb dLo_bearerOf_2 rfl (lv_at hl 2 rfl) ?_
    refine lv_aload_n hx hb dLo_bearerOf_3 rfl (lv_at hl 0 rfl) ?_
    refine va_get (D := D) (ci := 4) (v := .int (u.1 6)) (C := RLo) (T := TLo) (N := 7) hx hb hG inLo hown hK hP 4 rfl rfl 6 (by decide) (hG _ mw_143) (fun _ h9 => h9) rfl dLo_bearerOf_4 ?_
    refine lv_icmp_ge (tgt := 36) hx hb dLo_bearerOf_7 (by decide) (fun hc => ?_) (fun hc => ?_)
    · rw [if_pos hc] at h
      refine lv_iconst (v := (-1 : Int32)) hx hb dLo_bearerOf_36 (by decide) ?_
      cases h
      exact gw_iret hx hb hr hlocks hP hD hS dLo_bearerOf_37
    · rw [if_neg hc] at h
      refine lv_aload_n hx hb dLo_bearerOf_10 rfl (lv_at hl 0 rfl) ?_
      refine va_get (D := D) (ci := 4) (v := .ref (ad 26)) (C := RLo) (T := TLo) (N := 7) hx hb hG inLo hown hK hP 4 rfl rfl 1 (by decide) (hG _ mw_133) (fun _ h9 => h9) rfl dLo_bearerOf_11 ?_
      refine lv_iload_n hx hb dLo_bearerOf_14 rfl (lv_at hl 2 rfl) ?_
      obtain ⟨hg1, h⟩ := gI_some h
      refine va_iald (f := (u.2.1 20)) hx hb hK hP 26 0 rfl rfl hg1 dLo_bearerOf_15 ?_
      refine lv_iload_n hx hb dLo_bearerOf_16 rfl (lv_at hl 1 rfl) ?_
      refine lv_icmp_ne (tgt := 30) hx hb dLo_bearerOf_17 (by decide) (fun hc => ?_) (fun hc => ?_)
      · rw [if_neg hc] at h
        refine lv_iinc (v := (x2 + (1 : Int32))) (lv' := [(2, .int (x2 + (1 : Int32))), (0, .ref (ad 4)), (1, .int x1)]) hx hb dLo_bearerOf_30 hl (k := 2) rfl rfl (by decide) rfl (fun ls hl => ?_)
        refine lv_goto (tgt := 2) hx hb dLo_bearerOf_33 (by decide) ?_
        exact ih u x1 (x2 + (1 : Int32)) _ h H locs ls hP hD hS (lv_sub hl [1, 2, 0] rfl)
      · rw [if_pos hc] at h
        refine lv_aload_n hx hb dLo_bearerOf_20 rfl (lv_at hl 0 rfl) ?_
        refine lv_iload_n hx hb dLo_bearerOf_21 rfl (lv_at hl 2 rfl) ?_
        obtain ⟨q2, q2_h, h⟩ := gw_bind h
        refine gw_callV (As := [.int x2]) (rest := []) (u := u) (u' := u) hx hb hml hown hG (c_Lo_isLent l D ad cI cZ cJ u x2 _ q2_h) lk_Lo_41 rfl rfl ⟨Nat.le_of_ble_eq_true rfl, Nat.le_of_ble_eq_true rfl⟩ (va_recv hK hP (ci := 4) (q0 := 4) rfl rfl) hK hP hD hS hA rfl hl.1 rfl (Nat.le_of_ble_eq_true rfl) dLo_bearerOf_22 ⟨Nat.le_of_ble_eq_true rfl, Nat.le_of_ble_eq_true rfl⟩ (fun H locs hP hD hS => ?_)
        refine lv_if_eq (tgt := 30) hx hb dLo_bearerOf_25 (by decide) (fun hc => ?_) (fun hc => ?_)
        · rw [if_pos hc] at h
          refine lv_iinc (v := (x2 + (1 : Int32))) (lv' := [(2, .int (x2 + (1 : Int32))), (0, .ref (ad 4)), (1, .int x1)]) hx hb dLo_bearerOf_30 hl (k := 2) rfl rfl (by decide) rfl (fun ls hl => ?_)
          refine lv_goto (tgt := 2) hx hb dLo_bearerOf_33 (by decide) ?_
          exact ih u x1 (x2 + (1 : Int32)) _ h H locs ls hP hD hS (lv_sub hl [1, 2, 0] rfl)
        · rw [if_neg hc] at h
          refine lv_iload_n hx hb dLo_bearerOf_28 rfl (lv_at hl 2 rfl) ?_
          cases h
          exact gw_iret hx hb hr hlocks hP hD hS dLo_bearerOf_29
set_option maxHeartbeats 4000000 in
set_option maxRecDepth 100000 in
theorem c_Lo_bearerOf (l : Launch) (D : va_G) (ad : Nat → Nat) (cI cZ cJ : ClassId) (N : Nat) (u : StA) (a1 : Int32) (r : Int32) (h : f_Lo_bearerOf N u a1 = some r) : gw_Ct l D vwCl (tA cI cZ cJ) (wA ad cI cZ cJ) yLo_bearerOf (Cond.code yLo_bearerOf cLo_bearerOf 3 (some .int) :: gG) ({ frames := 1, cells := 0, slots := 0, locals := 21 } : Room) [.ref (ad 4), .int a1] u (some (.int r)) u := by
  refine gw_enter (by decide) (Nat.le_of_ble_eq_true rfl) ?_
  intro p e s m below meth c A hC hP hD hS ls hl
  obtain ⟨hx, hb, hr, hml, hG, hown, hlocks, hK, hA⟩ := id hC
  have hl : lv_has ls 3 [(0, .ref (ad 4)), (1, .int a1)] := hl
  obtain ⟨H, hH⟩ : ∃ H, H = s.heap := ⟨_, rfl⟩
  obtain ⟨locs, hlocs⟩ : ∃ x : List Loc, x = [] := ⟨_, rfl⟩
  rw [← hlocs] at hS ⊢
  have hP : va_P D vwCl (wA ad cI cZ cJ u) H := by rw [hH]; exact hP
  have hS : va_S A s.heap H locs := by rw [hH]; exact hS
  suffices g : W p l e ({ frames := 1, cells := 0, slots := 0, locals := 21 } : Room) s m [.ref (ad 4), .int a1].toArray below meth c H locs 0 0 (MQ below (gw_Q D vwCl (wA ad cI cZ cJ) A u (some (.int r))) [.ref (ad 4), .int a1].toArray s 0 0 A) (F0 m 0 ls []) by rw [hH] at g; exact g
  unfold f_Lo_bearerOf at h
  refine lv_iconst (v := (0 : Int32)) hx hb dLo_bearerOf_0 (by decide) ?_
  refine lv_istore_n (lv' := [(2, .int (0 : Int32)), (0, .ref (ad 4)), (1, .int a1)]) hx hb dLo_bearerOf_1 rfl hl (by decide) rfl (fun ls hl => ?_)
  exact lp_Lo_bearerOf_2 hC N N u a1 (0 : Int32) _ h H locs ls hP hD hS (lv_sub hl [1, 2, 0] rfl)
set_option maxHeartbeats 4000000 in
set_option maxRecDepth 100000 in
theorem c_Nu_stateOf (l : Launch) (D : va_G) (ad : Nat → Nat) (cI cZ cJ : ClassId) (u : StA) (a1 : Int32) (a2 : Int32) (r : Int32) (h : f_Nu_stateOf u a1 a2 = some r) : gw_Ct l D vwCl (tA cI cZ cJ) (wA ad cI cZ cJ) yNu_stateOf (Cond.code yNu_stateOf cNu_stateOf 4 (some .int) :: gG) ({ frames := 1, cells := 0, slots := 0, locals := 21 } : Room) [.ref (ad 5), .int a1, .int a2] u (some (.int r)) u := by
  refine gw_enter (by decide) (Nat.le_of_ble_eq_true rfl) ?_
  intro p e s m below meth c A hC hP hD hS ls hl
  obtain ⟨hx, hb, hr, hml, hG, hown, hlocks, hK, hA⟩ := id hC
  have hl : lv_has ls 4 [(0, .ref (ad 5)), (1, .int a1), (2, .int a2)] := hl
  obtain ⟨H, hH⟩ : ∃ H, H = s.heap := ⟨_, rfl⟩
  obtain ⟨locs, hlocs⟩ : ∃ x : List Loc, x = [] := ⟨_, rfl⟩
  rw [← hlocs] at hS ⊢
  have hP : va_P D vwCl (wA ad cI cZ cJ u) H := by rw [hH]; exact hP
  have hS : va_S A s.heap H locs := by rw [hH]; exact hS
  suffices g : W p l e ({ frames := 1, cells := 0, slots := 0, locals := 21 } : Room) s m [.ref (ad 5), .int a1, .int a2].toArray below meth c H locs 0 0 (MQ below (gw_Q D vwCl (wA ad cI cZ cJ) A u (some (.int r))) [.ref (ad 5), .int a1, .int a2].toArray s 0 0 A) (F0 m 0 ls []) by rw [hH] at g; exact g
  unfold f_Nu_stateOf at h
  refine lv_iload_n hx hb dNu_stateOf_0 rfl (lv_at hl 1 rfl) ?_
  refine lv_iload_n hx hb dNu_stateOf_1 rfl (lv_at hl 2 rfl) ?_
  refine gw_callS (As := [.int a1, .int a2]) (rest := []) (u := u) (u' := u) hx hb hml hown hG (c_Nu_placeOf l D ad cI cZ cJ u a1 a2 _ rfl) lk_Nu_15 rfl rfl ⟨Nat.le_of_ble_eq_true rfl, Nat.le_of_ble_eq_true rfl⟩ hK hP hD hS hA rfl hl.1 rfl (Nat.le_of_ble_eq_true rfl) dNu_stateOf_2 ⟨Nat.le_of_ble_eq_true rfl, Nat.le_of_ble_eq_true rfl⟩ (fun H locs hP hD hS => ?_)
  refine lv_istore_n (lv' := [(3, .int (f_Nu_placeOf a1 a2)), (0, .ref (ad 5)), (1, .int a1), (2, .int a2)]) hx hb dNu_stateOf_5 rfl hl (by decide) rfl (fun ls hl => ?_)
  refine lv_aload_n hx hb dNu_stateOf_6 rfl (lv_at hl 1 rfl) ?_
  refine va_get (D := D) (ci := 5) (v := .ref (ad 31)) (C := RNu) (T := TNu) (N := 1) hx hb hG inNu hown hK hP 5 rfl rfl 0 (by decide) (hG _ mw_166) (fun _ h9 => h9) rfl dNu_stateOf_7 ?_
  refine lv_iload_n hx hb dNu_stateOf_10 rfl (lv_at hl 0 rfl) ?_
  refine lv_bipush (v := (16 : Int32)) hx hb dNu_stateOf_11 (by decide) ?_
  refine lv_idiv hx hb dNu_stateOf_13 (by decide) ?_
  obtain ⟨hg1, h⟩ := gI_some h
  refine va_lald (f := u.2.2) hx hb hK hP 31 2 rfl rfl hg1 dNu_stateOf_14 ?_
  refine lv_iload_n hx hb dNu_stateOf_15 rfl (lv_at hl 0 rfl) ?_
  refine gw_callS (As := [.int (f_Nu_placeOf a1 a2)]) (rest := [.long (u.2.2 (((f_Nu_placeOf a1 a2) / (16 : Int32))).toNatClampNeg)]) (u := u) (u' := u) hx hb hml hown hG (c_Nu_shiftOf l D ad cI cZ cJ u (f_Nu_placeOf a1 a2) _ rfl) lk_Nu_19 rfl rfl ⟨Nat.le_of_ble_eq_true rfl, Nat.le_of_ble_eq_true rfl⟩ hK hP hD hS hA rfl hl.1 rfl (Nat.le_of_ble_eq_true rfl) dNu_stateOf_16 ⟨Nat.le_of_ble_eq_true rfl, Nat.le_of_ble_eq_true rfl⟩ (fun H locs hP hD hS => ?_)
  refine lv_lushr (v := (((u.2.2 (((f_Nu_placeOf a1 a2) / (16 : Int32))).toNatClampNeg)).toUInt64 >>> (((f_Nu_shiftOf (f_Nu_placeOf a1 a2))).toInt64.toUInt64 &&& Int64.toUInt64 63)).toInt64) hx hb dNu_stateOf_19 rfl ?_
  refine lv_l2i (v := ((((u.2.2 (((f_Nu_placeOf a1 a2) / (16 : Int32))).toNatClampNeg)).toUInt64 >>> (((f_Nu_shiftOf (f_Nu_placeOf a1 a2))).toInt64.toUInt64 &&& Int64.toUInt64 63)).toInt64).toInt32) hx hb dNu_stateOf_20 rfl ?_
  refine lv_bipush (v := (15 : Int32)) hx hb dNu_stateOf_21 (by decide) ?_
  refine lv_iand hx hb dNu_stateOf_23 ?_
  cases h
  exact gw_iret hx hb hr hlocks hP hD hS dNu_stateOf_24
set_option maxHeartbeats 4000000 in
set_option maxRecDepth 100000 in
theorem c_Nu_keep (l : Launch) (D : va_G) (ad : Nat → Nat) (cI cZ cJ : ClassId) (u : StA) (a1 : Int32) (a2 : Int32) (a3 : Int32) (w : StA) (h : f_Nu_keep u a1 a2 a3 = some w) : gw_Ct l D vwCl (tA cI cZ cJ) (wA ad cI cZ cJ) yNu_keep (Cond.code yNu_keep cNu_keep 5 none :: gG) ({ frames := 1, cells := 0, slots := 0, locals := 21 } : Room) [.ref (ad 5), .int a1, .int a2, .int a3] u (none) w := by
  refine gw_enter (by decide) (Nat.le_of_ble_eq_true rfl) ?_
  intro p e s m below meth c A hC hP hD hS ls hl
  obtain ⟨hx, hb, hr, hml, hG, hown, hlocks, hK, hA⟩ := id hC
  have hl : lv_has ls 5 [(0, .ref (ad 5)), (1, .int a1), (2, .int a2), (3, .int a3)] := hl
  obtain ⟨H, hH⟩ : ∃ H, H = s.heap := ⟨_, rfl⟩
  obtain ⟨locs, hlocs⟩ : ∃ x : List Loc, x = [] := ⟨_, rfl⟩
  rw [← hlocs] at hS ⊢
  have hP : va_P D vwCl (wA ad cI cZ cJ u) H := by rw [hH]; exact hP
  have hS : va_S A s.heap H locs := by rw [hH]; exact hS
  suffices g : W p l e ({ frames := 1, cells := 0, slots := 0, locals := 21 } : Room) s m [.ref (ad 5), .int a1, .int a2, .int a3].toArray below meth c H locs 0 0 (MQ below (gw_Q D vwCl (wA ad cI cZ cJ) A w (none)) [.ref (ad 5), .int a1, .int a2, .int a3].toArray s 0 0 A) (F0 m 0 ls []) by rw [hH] at g; exact g
  unfold f_Nu_keep at h
  refine lv_iload_n hx hb dNu_keep_0 rfl (lv_at hl 1 rfl) ?_
  refine lv_iload_n hx hb dNu_keep_1 rfl (lv_at hl 2 rfl) ?_
  refine gw_callS (As := [.int a1, .int a2]) (rest := []) (u := u) (u' := u) hx hb hml hown hG (c_Nu_placeOf l D ad cI cZ cJ u a1 a2 _ rfl) lk_Nu_15 rfl rfl ⟨Nat.le_of_ble_eq_true rfl, Nat.le_of_ble_eq_true rfl⟩ hK hP hD hS hA rfl hl.1 rfl (Nat.le_of_ble_eq_true rfl) dNu_keep_2 ⟨Nat.le_of_ble_eq_true rfl, Nat.le_of_ble_eq_true rfl⟩ (fun H locs hP hD hS => ?_)
  refine lv_istore (lv' := [(4, .int (f_Nu_placeOf a1 a2)), (0, .ref (ad 5)), (1, .int a1), (2, .int a2), (3, .int a3)]) hx hb dNu_keep_5 hl (by decide) rfl (fun ls hl => ?_)
  refine lv_aload_n hx hb dNu_keep_7 rfl (lv_at hl 1 rfl) ?_
  refine va_get (D := D) (ci := 5) (v := .ref (ad 31)) (C := RNu) (T := TNu) (N := 1) hx hb hG inNu hown hK hP 5 rfl rfl 0 (by decide) (hG _ mw_166) (fun _ h9 => h9) rfl dNu_keep_8 ?_
  refine lv_iload hx hb dNu_keep_11 (lv_at hl 0 rfl) ?_
  refine lv_bipush (v := (16 : Int32)) hx hb dNu_keep_13 (by decide) ?_
  refine lv_idiv hx hb dNu_keep_15 (by decide) ?_
  refine lv_dup2_11 hx hb dNu_keep_16 rfl rfl ?_
  obtain ⟨hg1, h⟩ := gI_some h
  refine va_lald (f := u.2.2) hx hb hK hP 31 2 rfl rfl hg1 dNu_keep_17 ?_
  refine lv_iload_n hx hb dNu_keep_18 rfl (lv_at hl 4 rfl) ?_
  refine lv_i2l (v := (a3).toInt64) hx hb dNu_keep_19 rfl ?_
  refine lv_iload hx hb dNu_keep_20 (lv_at hl 0 rfl) ?_
  refine gw_callS (As := [.int (f_Nu_placeOf a1 a2)]) (rest := [.long ((a3).toInt64), .long (u.2.2 (((f_Nu_placeOf a1 a2) / (16 : Int32))).toNatClampNeg), .int ((f_Nu_placeOf a1 a2) / (16 : Int32)), .ref (ad 31)]) (u := u) (u' := u) hx hb hml hown hG (c_Nu_shiftOf l D ad cI cZ cJ u (f_Nu_placeOf a1 a2) _ rfl) lk_Nu_19 rfl rfl ⟨Nat.le_of_ble_eq_true rfl, Nat.le_of_ble_eq_true rfl⟩ hK hP hD hS hA rfl hl.1 rfl (Nat.le_of_ble_eq_true rfl) dNu_keep_22 ⟨Nat.le_of_ble_eq_true rfl, Nat.le_of_ble_eq_true rfl⟩ (fun H locs hP hD hS => ?_)
  refine lv_lshl (v := (((a3).toInt64) <<< (((f_Nu_shiftOf (f_Nu_placeOf a1 a2))).toInt64 &&& 63))) hx hb dNu_keep_25 rfl ?_
  refine lv_lor hx hb dNu_keep_26 ?_
  refine va_last (f := u.2.2) hx hb hK hP hD hS 31 2 rfl rfl hg1 dNu_keep_27 (fun H locs hP hD hS => ?_)
  rw [wA_l] at hP hD
  cases h
  exact gw_vret hx hb hr hlocks hP hD hS dNu_keep_28
set_option maxHeartbeats 4000000 in
set_option maxRecDepth 100000 in
theorem c_A_named (l : Launch) (D : va_G) (ad : Nat → Nat) (cI cZ cJ : ClassId) (N : Nat) (u : StA) (a1 : Int32) (r : Int32) (h : f_A_named N u a1 = some r) : gw_Ct l D vwCl (tA cI cZ cJ) (wA ad cI cZ cJ) yA_named (Cond.code yA_named cA_named 2 (some .int) :: gG) ({ frames := 2, cells := 0, slots := 0, locals := 43 } : Room) [.ref (ad 0), .int a1] u (some (.int r)) u := by
  refine gw_enter (by decide) (Nat.le_of_ble_eq_true rfl) ?_
  intro p e s m below meth c A hC hP hD hS ls hl
  obtain ⟨hx, hb, hr, hml, hG, hown, hlocks, hK, hA⟩ := id hC
  have hl : lv_has ls 2 [(0, .ref (ad 0)), (1, .int a1)] := hl
  obtain ⟨H, hH⟩ : ∃ H, H = s.heap := ⟨_, rfl⟩
  obtain ⟨locs, hlocs⟩ : ∃ x : List Loc, x = [] := ⟨_, rfl⟩
  rw [← hlocs] at hS ⊢
  have hP : va_P D vwCl (wA ad cI cZ cJ u) H := by rw [hH]; exact hP
  have hS : va_S A s.heap H locs := by rw [hH]; exact hS
  suffices g : W p l e ({ frames := 2, cells := 0, slots := 0, locals := 43 } : Room) s m [.ref (ad 0), .int a1].toArray below meth c H locs 0 0 (MQ below (gw_Q D vwCl (wA ad cI cZ cJ) A u (some (.int r))) [.ref (ad 0), .int a1].toArray s 0 0 A) (F0 m 0 ls []) by rw [hH] at g; exact g
  unfold f_A_named at h
  refine lv_aload_n hx hb dA_named_0 rfl (lv_at hl 0 rfl) ?_
  refine va_get (D := D) (ci := 0) (v := .ref (ad 4)) (C := RA) (T := TA) (N := 9) hx hb hG inA hown hK hP 0 rfl rfl 3 (by decide) (hG _ mw_177) (fun _ h9 => h9) rfl dA_named_1 ?_
  refine lv_iload_n hx hb dA_named_4 rfl (lv_at hl 1 rfl) ?_
  obtain ⟨q1, q1_h, h⟩ := gw_bind h
  refine gw_callV (As := [.int a1]) (rest := []) (u := u) (u' := u) hx hb hml hown hG (c_Lo_bearerOf l D ad cI cZ cJ N u a1 _ q1_h) lk_A_237 rfl rfl ⟨Nat.le_of_ble_eq_true rfl, Nat.le_of_ble_eq_true rfl⟩ (va_recv hK hP (ci := 4) (q0 := 4) rfl rfl) hK hP hD hS hA rfl hl.1 rfl (Nat.le_of_ble_eq_true rfl) dA_named_5 ⟨Nat.le_of_ble_eq_true rfl, Nat.le_of_ble_eq_true rfl⟩ (fun H locs hP hD hS => ?_)
  cases h
  exact gw_iret hx hb hr hlocks hP hD hS dA_named_8
set_option maxHeartbeats 4000000 in
set_option maxRecDepth 100000 in
theorem lp_A_nextHouse_4 {p : Program} {l : Launch} {e : Env} {s : State} {m : MethodId} {args : Array Value} {below : List Frame} {meth : Method} {c : Code} {A : Nat → Prop} {D : va_G} {ad : Nat → Nat} {cI cZ cJ : ClassId} (hC : gw_C p s m args meth c "AidRows" cA_nextHouse 5 (some .int) gG D vwCl (tA cI cZ cJ) A) (N : Nat) : ∀ (n : Nat) (u : StA) (x1 : Int32) (x2 : Int32) (x3 : Int32) (r : Int32), f_A_nextHouse_4 N n u x1 x2 x3 = some r → ∀ (H : Heap) (locs : List Loc) (ls : Array Slot), va_P D vwCl (wA ad cI cZ cJ u) H → va_D A (wA ad cI cZ cJ u) → va_S A s.heap H locs → lv_has ls 5 [(0, .ref (ad 0)), (1, .int x1), (2, .int x2), (3, .int x3)] → W p l e ({ frames := 2, cells := 0, slots := 0, locals := 50 } : Room) s m args below meth c H locs 0 0 (MQ below (gw_Q D vwCl (wA ad cI cZ cJ) A u (some (.int r))) args s 0 0 A) (F0 m 4 ls []) := by
  obtain ⟨hx, hb, hr, hml, hG, hown, hlocks, hK, hA⟩ := id hC
  intro n
  induction n with
  | zero => intro u x1 x2 x3 r h; cases h
  | succ n ih =>
    intro u x1 x2 x3 r h H locs ls hP hD hS hl
    rw [f_A_nextHouse_4] at h
    refine lv_iload_n hx hb dA_nextHouse_4 rfl (lv_at hl 3 rfl) ?_
    refine lv_aload_n hx hb dA_nextHouse_5 rfl (lv_at hl 0 rfl) ?_
    refine va_get (D := D) (ci := 0) (v := .ref (ad 1)) (C := RA) (T := TA) (N := 9) hx hb hG inA hown hK hP 0 rfl rfl 0 (by decide) (hG _ mw_174) (fun _ h9 => h9) rfl dA_nextHouse_6 ?_
    refine va_get (D := D) (ci := 1) (v := .int (u.1 3)) (C := RHo) (T := THo) (N := 4) hx hb hG inHo hown hK hP 1 rfl rfl 3 (by decide) (hG _ mw_39) (fun _ h9 => h9) rfl dA_nextHouse_9 ?_
    refine lv_icmp_ge (tgt := 98) hx hb dA_nextHouse_12 (by decide) (fun hc => ?_) (fun hc => ?_)
    · rw [if_pos hc] at h
      refine lv_iload_n hx hb dA_nextHouse_98 rfl (lv_at hl 2 rfl) ?_
      cases h
      exact gw_iret hx hb hr hlocks hP hD hS dA_nextHouse_99
    · rw [if_neg hc] at h
      refine lv_aload_n hx hb dA_nextHouse_15 rfl (lv_at hl 0 rfl) ?_
      refine va_get (D := D) (ci := 0) (v := .ref (ad 3)) (C := RA) (T := TA) (N := 9) hx hb hG inA hown hK hP 0 rfl rfl 2 (by decide) (hG _ mw_176) (fun _ h9 => h9) rfl dA_nextHouse_16 ?_
      refine lv_iload_n hx hb dA_nextHouse_19 rfl (lv_at hl 1 rfl) ?_
      refine lv_iload_n hx hb dA_nextHouse_20 rfl (lv_at hl 3 rfl) ?_
      obtain ⟨q1, q1_h, h⟩ := gw_bind h
      refine gw_callV (As := [.int x1, .int x3]) (rest := []) (u := u) (u' := u) hx hb hml hown hG (c_As_wasAt l D ad cI cZ cJ u x1 x3 _ q1_h) lk_A_269 rfl rfl ⟨Nat.le_of_ble_eq_true rfl, Nat.le_of_ble_eq_true rfl⟩ (va_recv hK hP (ci := 3) (q0 := 3) rfl rfl) hK hP hD hS hA rfl hl.1 rfl (Nat.le_of_ble_eq_true rfl) dA_nextHouse_21 ⟨Nat.le_of_ble_eq_true rfl, Nat.le_of_ble_eq_true rfl⟩ (fun H locs hP hD hS => ?_)
      refine lv_if_ne (tgt := 56) hx hb dA_nextHouse_24 (by decide) (fun hc => ?_) (fun hc => ?_)
      · rw [if_neg hc] at h
        refine lv_iconst (v := (0 : Int32)) hx hb dA_nextHouse_56 (by decide) ?_
        refine lv_istore (lv' := [(4, .int (0 : Int32)), (0, .ref (ad 0)), (1, .int x1), (2, .int x2), (3, .int x3)]) hx hb dA_nextHouse_57 hl (by decide) rfl (fun ls hl => ?_)
        refine lv_iload hx hb dA_nextHouse_59 (lv_at hl 0 rfl) ?_
        refine lv_if_eq (tgt := 92) hx hb dA_nextHouse_61 (by decide) (fun _ => ?_) (fun hc => absurd hc (by decide))
        refine lv_iinc (v := (x3 + (1 : Int32))) (lv' := [(3, .int (x3 + (1 : Int32))), (4, .int (0 : Int32)), (0, .ref (ad 0)), (1, .int x1), (2, .int x2)]) hx hb dA_nextHouse_92 hl (k := 4) rfl rfl (by decide) rfl (fun ls hl => ?_)
        refine lv_goto (tgt := 4) hx hb dA_nextHouse_95 (by decide) ?_
        exact ih u x1 x2 (x3 + (1 : Int32)) _ h H locs ls hP hD hS (lv_sub hl [2, 3, 4, 0] rfl)
      · rw [if_pos hc] at h
        refine lv_aload_n hx hb dA_nextHouse_27 rfl (lv_at hl 0 rfl) ?_
        refine va_get (D := D) (ci := 0) (v := .ref (ad 2)) (C := RA) (T := TA) (N := 9) hx hb hG inA hown hK hP 0 rfl rfl 1 (by decide) (hG _ mw_175) (fun _ h9 => h9) rfl dA_nextHouse_28 ?_
        refine lv_iload_n hx hb dA_nextHouse_31 rfl (lv_at hl 3 rfl) ?_
        refine lv_aload_n hx hb dA_nextHouse_32 rfl (lv_at hl 0 rfl) ?_
        refine va_get (D := D) (ci := 0) (v := .ref (ad 3)) (C := RA) (T := TA) (N := 9) hx hb hG inA hown hK hP 0 rfl rfl 2 (by decide) (hG _ mw_176) (fun _ h9 => h9) rfl dA_nextHouse_33 ?_
        refine va_get (D := D) (ci := 3) (v := .ref (ad 16)) (C := RAs) (T := TAs) (N := 10) hx hb hG inAs hown hK hP 3 rfl rfl 0 (by decide) (hG _ mw_88) (fun _ h9 => h9) rfl dA_nextHouse_36 ?_
        refine lv_iload_n hx hb dA_nextHouse_39 rfl (lv_at hl 1 rfl) ?_
        obtain ⟨hg2, h⟩ := gI_some h
        refine va_iald (f := (u.2.1 10)) hx hb hK hP 16 0 rfl rfl hg2 dA_nextHouse_40 ?_
        refine lv_aload_n hx hb dA_nextHouse_41 rfl (lv_at hl 0 rfl) ?_
        refine va_get (D := D) (ci := 0) (v := .int (u.1 0)) (C := RA) (T := TA) (N := 9) hx hb hG inA hown hK hP 0 rfl rfl 6 (by decide) (hG _ mw_180) (fun _ h9 => h9) rfl dA_nextHouse_42 ?_
        obtain ⟨q3, q3_h, h⟩ := gw_bind h
        refine gw_callV (As := [.int x3, .int (u.2.1 10 (x1).toNatClampNeg), .int (u.1 0)]) (rest := []) (u := u) (u' := u) hx hb hml hown hG (c_Ag_holding l D ad cI cZ cJ N u x3 (u.2.1 10 (x1).toNatClampNeg) (u.1 0) _ q3_h) lk_A_275 rfl rfl ⟨Nat.le_of_ble_eq_true rfl, Nat.le_of_ble_eq_true rfl⟩ (va_recv hK hP (ci := 2) (q0 := 2) rfl rfl) hK hP hD hS hA rfl hl.1 rfl (Nat.le_of_ble_eq_true rfl) dA_nextHouse_45 ⟨Nat.le_of_ble_eq_true rfl, Nat.le_of_ble_eq_true rfl⟩ (fun H locs hP hD hS => ?_)
        refine lv_iconst (v := (-1 : Int32)) hx hb dA_nextHouse_48 (by decide) ?_
        refine lv_icmp_eq (tgt := 56) hx hb dA_nextHouse_49 (by decide) (fun hc => ?_) (fun hc => ?_)
        · rw [if_pos hc] at h
          refine lv_iconst (v := (0 : Int32)) hx hb dA_nextHouse_56 (by decide) ?_
          refine lv_istore (lv' := [(4, .int (0 : Int32)), (0, .ref (ad 0)), (1, .int x1), (2, .int x2), (3, .int x3)]) hx hb dA_nextHouse_57 hl (by decide) rfl (fun ls hl => ?_)
          refine lv_iload hx hb dA_nextHouse_59 (lv_at hl 0 rfl) ?_
          refine lv_if_eq (tgt := 92) hx hb dA_nextHouse_61 (by decide) (fun _ => ?_) (fun hc => absurd hc (by decide))
          refine lv_iinc (v := (x3 + (1 : Int32))) (lv' := [(3, .int (x3 + (1 : Int32))), (4, .int (0 : Int32)), (0, .ref (ad 0)), (1, .int x1), (2, .int x2)]) hx hb dA_nextHouse_92 hl (k := 4) rfl rfl (by decide) rfl (fun ls hl => ?_)
          refine lv_goto (tgt := 4) hx hb dA_nextHouse_95 (by decide) ?_
          exact ih u x1 x2 (x3 + (1 : Int32)) _ h H locs ls hP hD hS (lv_sub hl [2, 3, 4, 0] rfl)
        · rw [if_neg hc] at h
          refine lv_iconst (v := (1 : Int32)) hx hb dA_nextHouse_52 (by decide) ?_
          refine lv_goto (tgt := 57) hx hb dA_nextHouse_53 (by decide) ?_
          refine lv_istore (lv' := [(4, .int (1 : Int32)), (0, .ref (ad 0)), (1, .int x1), (2, .int x2), (3, .int x3)]) hx hb dA_nextHouse_57 hl (by decide) rfl (fun ls hl => ?_)
          refine lv_iload hx hb dA_nextHouse_59 (lv_at hl 0 rfl) ?_
          refine lv_if_eq (tgt := 92) hx hb dA_nextHouse_61 (by decide) (fun hc => absurd hc (by decide)) (fun _ => ?_)
          refine lv_iload_n hx hb dA_nextHouse_64 rfl (lv_at hl 3 rfl) ?_
          refine lv_iconst (v := (-1 : Int32)) hx hb dA_nextHouse_65 (by decide) ?_
          refine lv_icmp_eq (tgt := 90) hx hb dA_nextHouse_66 (by decide) (fun hc => ?_) (fun hc => ?_)
          · rw [if_pos hc] at h
            refine lv_iload_n hx hb dA_nextHouse_90 rfl (lv_at hl 4 rfl) ?_
            refine lv_istore_n (lv' := [(2, .int x3), (4, .int (1 : Int32)), (0, .ref (ad 0)), (1, .int x1), (3, .int x3)]) hx hb dA_nextHouse_91 rfl hl (by decide) rfl (fun ls hl => ?_)
            refine lv_iinc (v := (x3 + (1 : Int32))) (lv' := [(3, .int (x3 + (1 : Int32))), (2, .int x3), (4, .int (1 : Int32)), (0, .ref (ad 0)), (1, .int x1)]) hx hb dA_nextHouse_92 hl (k := 4) rfl rfl (by decide) rfl (fun ls hl => ?_)
            refine lv_goto (tgt := 4) hx hb dA_nextHouse_95 (by decide) ?_
            exact ih u x1 x3 (x3 + (1 : Int32)) _ h H locs ls hP hD hS (lv_sub hl [3, 4, 1, 0] rfl)
          · rw [if_neg hc] at h
            refine lv_aload_n hx hb dA_nextHouse_69 rfl (lv_at hl 1 rfl) ?_
            refine va_get (D := D) (ci := 0) (v := .ref (ad 1)) (C := RA) (T := TA) (N := 9) hx hb hG inA hown hK hP 0 rfl rfl 0 (by decide) (hG _ mw_174) (fun _ h9 => h9) rfl dA_nextHouse_70 ?_
            refine va_get (D := D) (ci := 1) (v := .ref (ad 7)) (C := RHo) (T := THo) (N := 4) hx hb hG inHo hown hK hP 1 rfl rfl 0 (by decide) (hG _ mw_33) (fun _ h9 => h9) rfl dA_nextHouse_73 ?_
            refine lv_iload_n hx hb dA_nextHouse_76 rfl (lv_at hl 4 rfl) ?_
            obtain ⟨hg4, h⟩ := gI_some h
            refine va_iald (f := (u.2.1 1)) hx hb hK hP 7 0 rfl rfl hg4 dA_nextHouse_77 ?_
            refine lv_aload_n hx hb dA_nextHouse_78 rfl (lv_at hl 1 rfl) ?_
            refine va_get (D := D) (ci := 0) (v := .ref (ad 1)) (C := RA) (T := TA) (N := 9) hx hb hG inA hown hK hP 0 rfl rfl 0 (by decide) (hG _ mw_174) (fun _ h9 => h9) rfl dA_nextHouse_79 ?_
            refine va_get (D := D) (ci := 1) (v := .ref (ad 7)) (C := RHo) (T := THo) (N := 4) hx hb hG inHo hown hK hP 1 rfl rfl 0 (by decide) (hG _ mw_33) (fun _ h9 => h9) rfl dA_nextHouse_82 ?_
            refine lv_iload_n hx hb dA_nextHouse_85 rfl (lv_at hl 3 rfl) ?_
            obtain ⟨hg5, h⟩ := gI_some h
            refine va_iald (f := (u.2.1 1)) hx hb hK hP 7 0 rfl rfl hg5 dA_nextHouse_86 ?_
            refine lv_icmp_le (tgt := 92) hx hb dA_nextHouse_87 (by decide) (fun hc => ?_) (fun hc => ?_)
            · rw [if_pos hc] at h
              refine lv_iinc (v := (x3 + (1 : Int32))) (lv' := [(3, .int (x3 + (1 : Int32))), (4, .int (1 : Int32)), (0, .ref (ad 0)), (1, .int x1), (2, .int x2)]) hx hb dA_nextHouse_92 hl (k := 4) rfl rfl (by decide) rfl (fun ls hl => ?_)
              refine lv_goto (tgt := 4) hx hb dA_nextHouse_95 (by decide) ?_
              exact ih u x1 x2 (x3 + (1 : Int32)) _ h H locs ls hP hD hS (lv_sub hl [2, 3, 4, 0] rfl)
            · rw [if_neg hc] at h
              refine lv_iload_n hx hb dA_nextHouse_90 rfl (lv_at hl 4 rfl) ?_
              refine lv_istore_n (lv' := [(2, .int x3), (4, .int (1 : Int32)), (0, .ref (ad 0)), (1, .int x1), (3, .int x3)]) hx hb dA_nextHouse_91 rfl hl (by decide) rfl (fun ls hl => ?_)
              refine lv_iinc (v := (x3 + (1 : Int32))) (lv' := [(3, .int (x3 + (1 : Int32))), (2, .int x3), (4, .int (1 : Int32)), (0, .ref (ad 0)), (1, .int x1)]) hx hb dA_nextHouse_92 hl (k := 4) rfl rfl (by decide) rfl (fun ls hl => ?_)
              refine lv_goto (tgt := 4) hx hb dA_nextHouse_95 (by decide) ?_
              exact ih u x1 x3 (x3 + (1 : Int32)) _ h H locs ls hP hD hS (lv_sub hl [3, 4, 1, 0] rfl)
set_option maxHeartbeats 4000000 in
set_option maxRecDepth 100000 in
theorem c_A_nextHouse (l : Launch) (D : va_G) (ad : Nat → Nat) (cI cZ cJ : ClassId) (N : Nat) (u : StA) (a1 : Int32) (r : Int32) (h : f_A_nextHouse N u a1 = some r) : gw_Ct l D vwCl (tA cI cZ cJ) (wA ad cI cZ cJ) yA_nextHouse (Cond.code yA_nextHouse cA_nextHouse 5 (some .int) :: gG) ({ frames := 2, cells := 0, slots := 0, locals := 50 } : Room) [.ref (ad 0), .int a1] u (some (.int r)) u := by
  refine gw_enter (by decide) (Nat.le_of_ble_eq_true rfl) ?_
  intro p e s m below meth c A hC hP hD hS ls hl
  obtain ⟨hx, hb, hr, hml, hG, hown, hlocks, hK, hA⟩ := id hC
  have hl : lv_has ls 5 [(0, .ref (ad 0)), (1, .int a1)] := hl
  obtain ⟨H, hH⟩ : ∃ H, H = s.heap := ⟨_, rfl⟩
  obtain ⟨locs, hlocs⟩ : ∃ x : List Loc, x = [] := ⟨_, rfl⟩
  rw [← hlocs] at hS ⊢
  have hP : va_P D vwCl (wA ad cI cZ cJ u) H := by rw [hH]; exact hP
  have hS : va_S A s.heap H locs := by rw [hH]; exact hS
  suffices g : W p l e ({ frames := 2, cells := 0, slots := 0, locals := 50 } : Room) s m [.ref (ad 0), .int a1].toArray below meth c H locs 0 0 (MQ below (gw_Q D vwCl (wA ad cI cZ cJ) A u (some (.int r))) [.ref (ad 0), .int a1].toArray s 0 0 A) (F0 m 0 ls []) by rw [hH] at g; exact g
  unfold f_A_nextHouse at h
  refine lv_iconst (v := (-1 : Int32)) hx hb dA_nextHouse_0 (by decide) ?_
  refine lv_istore_n (lv' := [(2, .int (-1 : Int32)), (0, .ref (ad 0)), (1, .int a1)]) hx hb dA_nextHouse_1 rfl hl (by decide) rfl (fun ls hl => ?_)
  refine lv_iconst (v := (0 : Int32)) hx hb dA_nextHouse_2 (by decide) ?_
  refine lv_istore_n (lv' := [(3, .int (0 : Int32)), (2, .int (-1 : Int32)), (0, .ref (ad 0)), (1, .int a1)]) hx hb dA_nextHouse_3 rfl hl (by decide) rfl (fun ls hl => ?_)
  exact lp_A_nextHouse_4 hC N N u a1 (-1 : Int32) (0 : Int32) _ h H locs ls hP hD hS (lv_sub hl [2, 3, 1, 0] rfl)
set_option maxHeartbeats 4000000 in
set_option maxRecDepth 100000 in
theorem c_A_mostToTake (l : Launch) (D : va_G) (ad : Nat → Nat) (cI cZ cJ : ClassId) (N : Nat) (u : StA) (a1 : Int32) (a2 : Int32) (r : Int32) (h : f_A_mostToTake N u a1 a2 = some r) : gw_Ct l D vwCl (tA cI cZ cJ) (wA ad cI cZ cJ) yA_mostToTake (Cond.code yA_mostToTake cA_mostToTake 4 (some .int) :: gG) ({ frames := 2, cells := 0, slots := 0, locals := 50 } : Room) [.ref (ad 0), .int a1, .int a2] u (some (.int r)) u := by
  refine gw_enter (by decide) (Nat.le_of_ble_eq_true rfl) ?_
  intro p e s m below meth c A hC hP hD hS ls hl
  obtain ⟨hx, hb, hr, hml, hG, hown, hlocks, hK, hA⟩ := id hC
  have hl : lv_has ls 4 [(0, .ref (ad 0)), (1, .int a1), (2, .int a2)] := hl
  obtain ⟨H, hH⟩ : ∃ H, H = s.heap := ⟨_, rfl⟩
  obtain ⟨locs, hlocs⟩ : ∃ x : List Loc, x = [] := ⟨_, rfl⟩
  rw [← hlocs] at hS ⊢
  have hP : va_P D vwCl (wA ad cI cZ cJ u) H := by rw [hH]; exact hP
  have hS : va_S A s.heap H locs := by rw [hH]; exact hS
  suffices g : W p l e ({ frames := 2, cells := 0, slots := 0, locals := 50 } : Room) s m [.ref (ad 0), .int a1, .int a2].toArray below meth c H locs 0 0 (MQ below (gw_Q D vwCl (wA ad cI cZ cJ) A u (some (.int r))) [.ref (ad 0), .int a1, .int a2].toArray s 0 0 A) (F0 m 0 ls []) by rw [hH] at g; exact g
  unfold f_A_mostToTake at h
  refine lv_aload_n hx hb dA_mostToTake_0 rfl (lv_at hl 0 rfl) ?_
  refine va_get (D := D) (ci := 0) (v := .ref (ad 2)) (C := RA) (T := TA) (N := 9) hx hb hG inA hown hK hP 0 rfl rfl 1 (by decide) (hG _ mw_175) (fun _ h9 => h9) rfl dA_mostToTake_1 ?_
  refine lv_iload_n hx hb dA_mostToTake_4 rfl (lv_at hl 2 rfl) ?_
  refine lv_aload_n hx hb dA_mostToTake_5 rfl (lv_at hl 0 rfl) ?_
  refine va_get (D := D) (ci := 0) (v := .ref (ad 3)) (C := RA) (T := TA) (N := 9) hx hb hG inA hown hK hP 0 rfl rfl 2 (by decide) (hG _ mw_176) (fun _ h9 => h9) rfl dA_mostToTake_6 ?_
  refine va_get (D := D) (ci := 3) (v := .ref (ad 16)) (C := RAs) (T := TAs) (N := 10) hx hb hG inAs hown hK hP 3 rfl rfl 0 (by decide) (hG _ mw_88) (fun _ h9 => h9) rfl dA_mostToTake_9 ?_
  refine lv_iload_n hx hb dA_mostToTake_12 rfl (lv_at hl 1 rfl) ?_
  obtain ⟨hg1, h⟩ := gI_some h
  refine va_iald (f := (u.2.1 10)) hx hb hK hP 16 0 rfl rfl hg1 dA_mostToTake_13 ?_
  refine lv_aload_n hx hb dA_mostToTake_14 rfl (lv_at hl 0 rfl) ?_
  refine va_get (D := D) (ci := 0) (v := .int (u.1 0)) (C := RA) (T := TA) (N := 9) hx hb hG inA hown hK hP 0 rfl rfl 6 (by decide) (hG _ mw_180) (fun _ h9 => h9) rfl dA_mostToTake_15 ?_
  obtain ⟨q2, q2_h, h⟩ := gw_bind h
  refine gw_callV (As := [.int a2, .int (u.2.1 10 (a1).toNatClampNeg), .int (u.1 0)]) (rest := []) (u := u) (u' := u) hx hb hml hown hG (c_Ag_holding l D ad cI cZ cJ N u a2 (u.2.1 10 (a1).toNatClampNeg) (u.1 0) _ q2_h) lk_A_275 rfl rfl ⟨Nat.le_of_ble_eq_true rfl, Nat.le_of_ble_eq_true rfl⟩ (va_recv hK hP (ci := 2) (q0 := 2) rfl rfl) hK hP hD hS hA rfl hl.1 rfl (Nat.le_of_ble_eq_true rfl) dA_mostToTake_18 ⟨Nat.le_of_ble_eq_true rfl, Nat.le_of_ble_eq_true rfl⟩ (fun H locs hP hD hS => ?_)
  refine lv_istore_n (lv' := [(3, .int q2), (0, .ref (ad 0)), (1, .int a1), (2, .int a2)]) hx hb dA_mostToTake_21 rfl hl (by decide) rfl (fun ls hl => ?_)
  refine lv_iload_n hx hb dA_mostToTake_22 rfl (lv_at hl 0 rfl) ?_
  refine lv_iconst (v := (-1 : Int32)) hx hb dA_mostToTake_23 (by decide) ?_
  refine lv_icmp_ne (tgt := 29) hx hb dA_mostToTake_24 (by decide) (fun hc => ?_) (fun hc => ?_)
  · rw [if_neg hc] at h
    refine lv_aload_n hx hb dA_mostToTake_29 rfl (lv_at hl 1 rfl) ?_
    refine va_get (D := D) (ci := 0) (v := .ref (ad 3)) (C := RA) (T := TA) (N := 9) hx hb hG inA hown hK hP 0 rfl rfl 2 (by decide) (hG _ mw_176) (fun _ h9 => h9) rfl dA_mostToTake_30 ?_
    refine lv_iload_n hx hb dA_mostToTake_33 rfl (lv_at hl 2 rfl) ?_
    obtain ⟨q3, q3_h, h⟩ := gw_bind h
    refine gw_callV (As := [.int a1]) (rest := []) (u := u) (u' := u) hx hb hml hown hG (c_As_wanting l D ad cI cZ cJ u a1 _ q3_h) lk_A_287 rfl rfl ⟨Nat.le_of_ble_eq_true rfl, Nat.le_of_ble_eq_true rfl⟩ (va_recv hK hP (ci := 3) (q0 := 3) rfl rfl) hK hP hD hS hA rfl hl.1 rfl (Nat.le_of_ble_eq_true rfl) dA_mostToTake_34 ⟨Nat.le_of_ble_eq_true rfl, Nat.le_of_ble_eq_true rfl⟩ (fun H locs hP hD hS => ?_)
    refine lv_aload_n hx hb dA_mostToTake_37 rfl (lv_at hl 1 rfl) ?_
    refine va_get (D := D) (ci := 0) (v := .ref (ad 2)) (C := RA) (T := TA) (N := 9) hx hb hG inA hown hK hP 0 rfl rfl 1 (by decide) (hG _ mw_175) (fun _ h9 => h9) rfl dA_mostToTake_38 ?_
    refine va_get (D := D) (ci := 2) (v := .ref (ad 15)) (C := RAg) (T := TAg) (N := 7) hx hb hG inAg hown hK hP 2 rfl rfl 5 (by decide) (hG _ mw_64) (fun _ h9 => h9) rfl dA_mostToTake_41 ?_
    refine lv_iload_n hx hb dA_mostToTake_44 rfl (lv_at hl 0 rfl) ?_
    obtain ⟨hg4, h⟩ := gI_some h
    refine va_iald (f := (u.2.1 9)) hx hb hK hP 15 0 rfl rfl hg4 dA_mostToTake_45 ?_
    refine lv_aload_n hx hb dA_mostToTake_46 rfl (lv_at hl 1 rfl) ?_
    refine va_get (D := D) (ci := 0) (v := .ref (ad 4)) (C := RA) (T := TA) (N := 9) hx hb hG inA hown hK hP 0 rfl rfl 3 (by decide) (hG _ mw_177) (fun _ h9 => h9) rfl dA_mostToTake_47 ?_
    refine lv_iload_n hx hb dA_mostToTake_50 rfl (lv_at hl 0 rfl) ?_
    obtain ⟨q5, q5_h, h⟩ := gw_bind h
    refine gw_callV (As := [.int q2]) (rest := [.int (u.2.1 9 (q2).toNatClampNeg), .int q3]) (u := u) (u' := u) hx hb hml hown hG (c_Lo_lentUnder l D ad cI cZ cJ N u q2 _ q5_h) lk_A_293 rfl rfl ⟨Nat.le_of_ble_eq_true rfl, Nat.le_of_ble_eq_true rfl⟩ (va_recv hK hP (ci := 4) (q0 := 4) rfl rfl) hK hP hD hS hA rfl hl.1 rfl (Nat.le_of_ble_eq_true rfl) dA_mostToTake_51 ⟨Nat.le_of_ble_eq_true rfl, Nat.le_of_ble_eq_true rfl⟩ (fun H locs hP hD hS => ?_)
    refine lv_isub hx hb dA_mostToTake_54 ?_
    refine va_mmin hx hb (hml.trans hl.1.symm) hown (hG _ mw_481) (hG _ mw_482) (hG _ mw_16) (hG _ mw_483) (Nat.le_of_ble_eq_true rfl) (Nat.le_of_ble_eq_true rfl) (Nat.le_of_ble_eq_true rfl) (Nat.le_of_ble_eq_true rfl) dA_mostToTake_55 ?_
    refine W.eq (g2 := F0 m 58 ls (.int (f_JM_min q3 ((u.2.1 9 (q2).toNatClampNeg) - q5)) :: [])) rfl ?_
    cases h
    exact gw_iret hx hb hr hlocks hP hD hS dA_mostToTake_58
  · rw [if_pos hc] at h
    refine lv_iconst (v := (0 : Int32)) hx hb dA_mostToTake_27 (by decide) ?_
    cases h
    exact gw_iret hx hb hr hlocks hP hD hS dA_mostToTake_28
set_option maxHeartbeats 4000000 in
set_option maxRecDepth 100000 in
theorem lp_Lo_freeName_7 {p : Program} {l : Launch} {e : Env} {s : State} {m : MethodId} {args : Array Value} {below : List Frame} {meth : Method} {c : Code} {A : Nat → Prop} {D : va_G} {ad : Nat → Nat} {cI cZ cJ : ClassId} (hC : gw_C p s m args meth c "AidRows$Loans" cLo_freeName 4 (some .int) gG D vwCl (tA cI cZ cJ) A) (N : Nat) : ∀ (n : Nat) (u : StA) (x1 : Int32) (x2 : Int32) (x3 : Int32) (r : Int32), f_Lo_freeName_7 N n u x1 x2 x3 = some r → ∀ (H : Heap) (locs : List Loc) (ls : Array Slot), va_P D vwCl (wA ad cI cZ cJ u) H → va_D A (wA ad cI cZ cJ u) → va_S A s.heap H locs → lv_has ls 4 [(0, .ref (ad 4)), (1, .int x1), (2, .int x2), (3, .int x3)] → W p l e ({ frames := 2, cells := 0, slots := 0, locals := 43 } : Room) s m args below meth c H locs 0 0 (MQ below (gw_Q D vwCl (wA ad cI cZ cJ) A u (some (.int r))) args s 0 0 A) (F0 m 7 ls []) := by
  obtain ⟨hx, hb, hr, hml, hG, hown, hlocks, hK, hA⟩ := id hC
  intro n
  induction n with
  | zero => intro u x1 x2 x3 r h; cases h
  | succ n ih =>
    intro u x1 x2 x3 r h H locs ls hP hD hS hl
    rw [f_Lo_freeName_7] at h
    refine lv_iload_n hx hb dLo_freeName_7 rfl (lv_at hl 3 rfl) ?_
    refine lv_bipush (v := (99 : Int32)) hx hb dLo_freeName_8 (by decide) ?_
    refine lv_icmp_ge (tgt := 31) hx hb dLo_freeName_10 (by decide) (fun hc => ?_) (fun hc => ?_)
    · rw [if_pos hc] at h
      refine lv_iload_n hx hb dLo_freeName_31 rfl (lv_at hl 2 rfl) ?_
      cases h
      exact gw_iret hx hb hr hlocks hP hD hS dLo_freeName_32
    · rw [if_neg hc] at h
      refine lv_aload_n hx hb dLo_freeName_13 rfl (lv_at hl 0 rfl) ?_
      refine lv_iload_n hx hb dLo_freeName_14 rfl (lv_at hl 2 rfl) ?_
      obtain ⟨q1, q1_h, h⟩ := gw_bind h
      refine gw_callV (As := [.int x2]) (rest := []) (u := u) (u' := u) hx hb hml hown hG (c_Lo_bearerOf l D ad cI cZ cJ N u x2 _ q1_h) lk_Lo_38 rfl rfl ⟨Nat.le_of_ble_eq_true rfl, Nat.le_of_ble_eq_true rfl⟩ (va_recv hK hP (ci := 4) (q0 := 4) rfl rfl) hK hP hD hS hA rfl hl.1 rfl (Nat.le_of_ble_eq_true rfl) dLo_freeName_15 ⟨Nat.le_of_ble_eq_true rfl, Nat.le_of_ble_eq_true rfl⟩ (fun H locs hP hD hS => ?_)
      refine lv_iconst (v := (-1 : Int32)) hx hb dLo_freeName_18 (by decide) ?_
      refine lv_icmp_eq (tgt := 31) hx hb dLo_freeName_19 (by decide) (fun hc => ?_) (fun hc => ?_)
      · rw [if_pos hc] at h
        refine lv_iload_n hx hb dLo_freeName_31 rfl (lv_at hl 2 rfl) ?_
        cases h
        exact gw_iret hx hb hr hlocks hP hD hS dLo_freeName_32
      · rw [if_neg hc] at h
        refine lv_iinc (v := (x2 + (1 : Int32))) (lv' := [(2, .int (x2 + (1 : Int32))), (0, .ref (ad 4)), (1, .int x1), (3, .int x3)]) hx hb dLo_freeName_22 hl (k := 2) rfl rfl (by decide) rfl (fun ls hl => ?_)
        refine lv_iinc (v := (x3 + (1 : Int32))) (lv' := [(3, .int (x3 + (1 : Int32))), (2, .int (x2 + (1 : Int32))), (0, .ref (ad 4)), (1, .int x1)]) hx hb dLo_freeName_25 hl (k := 3) rfl rfl (by decide) rfl (fun ls hl => ?_)
        refine lv_goto (tgt := 7) hx hb dLo_freeName_28 (by decide) ?_
        exact ih u x1 (x2 + (1 : Int32)) (x3 + (1 : Int32)) _ h H locs ls hP hD hS (lv_sub hl [2, 3, 1, 0] rfl)
set_option maxHeartbeats 4000000 in
set_option maxRecDepth 100000 in
theorem c_Lo_freeName (l : Launch) (D : va_G) (ad : Nat → Nat) (cI cZ cJ : ClassId) (N : Nat) (u : StA) (a1 : Int32) (r : Int32) (h : f_Lo_freeName N u a1 = some r) : gw_Ct l D vwCl (tA cI cZ cJ) (wA ad cI cZ cJ) yLo_freeName (Cond.code yLo_freeName cLo_freeName 4 (some .int) :: gG) ({ frames := 2, cells := 0, slots := 0, locals := 43 } : Room) [.ref (ad 4), .int a1] u (some (.int r)) u := by
  refine gw_enter (by decide) (Nat.le_of_ble_eq_true rfl) ?_
  intro p e s m below meth c A hC hP hD hS ls hl
  obtain ⟨hx, hb, hr, hml, hG, hown, hlocks, hK, hA⟩ := id hC
  have hl : lv_has ls 4 [(0, .ref (ad 4)), (1, .int a1)] := hl
  obtain ⟨H, hH⟩ : ∃ H, H = s.heap := ⟨_, rfl⟩
  obtain ⟨locs, hlocs⟩ : ∃ x : List Loc, x = [] := ⟨_, rfl⟩
  rw [← hlocs] at hS ⊢
  have hP : va_P D vwCl (wA ad cI cZ cJ u) H := by rw [hH]; exact hP
  have hS : va_S A s.heap H locs := by rw [hH]; exact hS
  suffices g : W p l e ({ frames := 2, cells := 0, slots := 0, locals := 43 } : Room) s m [.ref (ad 4), .int a1].toArray below meth c H locs 0 0 (MQ below (gw_Q D vwCl (wA ad cI cZ cJ) A u (some (.int r))) [.ref (ad 4), .int a1].toArray s 0 0 A) (F0 m 0 ls []) by rw [hH] at g; exact g
  unfold f_Lo_freeName at h
  refine lv_iload_n hx hb dLo_freeName_0 rfl (lv_at hl 1 rfl) ?_
  refine lv_bipush (v := (100 : Int32)) hx hb dLo_freeName_1 (by decide) ?_
  refine lv_imul hx hb dLo_freeName_3 ?_
  refine lv_istore_n (lv' := [(2, .int (a1 * (100 : Int32))), (0, .ref (ad 4)), (1, .int a1)]) hx hb dLo_freeName_4 rfl hl (by decide) rfl (fun ls hl => ?_)
  refine lv_iconst (v := (0 : Int32)) hx hb dLo_freeName_5 (by decide) ?_
  refine lv_istore_n (lv' := [(3, .int (0 : Int32)), (2, .int (a1 * (100 : Int32))), (0, .ref (ad 4)), (1, .int a1)]) hx hb dLo_freeName_6 rfl hl (by decide) rfl (fun ls hl => ?_)
  exact lp_Lo_freeName_7 hC N N u a1 (a1 * (100 : Int32)) (0 : Int32) _ h H locs ls hP hD hS (lv_sub hl [2, 3, 1, 0] rfl)
set_option maxHeartbeats 4000000 in
set_option maxRecDepth 100000 in
theorem c_A_sendOn (l : Launch) (D : va_G) (ad : Nat → Nat) (cI cZ cJ : ClassId) (N : Nat) (u : StA) (a1 : Int32) (w : StA) (h : f_A_sendOn N u a1 = some w) : gw_Ct l D vwCl (tA cI cZ cJ) (wA ad cI cZ cJ) yA_sendOn (Cond.code yA_sendOn cA_sendOn 3 none :: gG) ({ frames := 3, cells := 0, slots := 0, locals := 74 } : Room) [.ref (ad 0), .int a1] u (none) w := by
  refine gw_enter (by decide) (Nat.le_of_ble_eq_true rfl) ?_
  intro p e s m below meth c A hC hP hD hS ls hl
  obtain ⟨hx, hb, hr, hml, hG, hown, hlocks, hK, hA⟩ := id hC
  have hl : lv_has ls 3 [(0, .ref (ad 0)), (1, .int a1)] := hl
  obtain ⟨H, hH⟩ : ∃ H, H = s.heap := ⟨_, rfl⟩
  obtain ⟨locs, hlocs⟩ : ∃ x : List Loc, x = [] := ⟨_, rfl⟩
  rw [← hlocs] at hS ⊢
  have hP : va_P D vwCl (wA ad cI cZ cJ u) H := by rw [hH]; exact hP
  have hS : va_S A s.heap H locs := by rw [hH]; exact hS
  suffices g : W p l e ({ frames := 3, cells := 0, slots := 0, locals := 74 } : Room) s m [.ref (ad 0), .int a1].toArray below meth c H locs 0 0 (MQ below (gw_Q D vwCl (wA ad cI cZ cJ) A w (none)) [.ref (ad 0), .int a1].toArray s 0 0 A) (F0 m 0 ls []) by rw [hH] at g; exact g
  unfold f_A_sendOn at h
  refine lv_aload_n hx hb dA_sendOn_0 rfl (lv_at hl 0 rfl) ?_
  refine lv_iload_n hx hb dA_sendOn_1 rfl (lv_at hl 1 rfl) ?_
  obtain ⟨q1, q1_h, h⟩ := gw_bind h
  refine gw_callV (As := [.int a1]) (rest := []) (u := u) (u' := u) hx hb hml hown hG (c_A_nextHouse l D ad cI cZ cJ N u a1 _ q1_h) lk_A_257 rfl rfl ⟨Nat.le_of_ble_eq_true rfl, Nat.le_of_ble_eq_true rfl⟩ (va_recv hK hP (ci := 0) (q0 := 0) rfl rfl) hK hP hD hS hA rfl hl.1 rfl (Nat.le_of_ble_eq_true rfl) dA_sendOn_2 ⟨Nat.le_of_ble_eq_true rfl, Nat.le_of_ble_eq_true rfl⟩ (fun H locs hP hD hS => ?_)
  refine lv_istore_n (lv' := [(2, .int q1), (0, .ref (ad 0)), (1, .int a1)]) hx hb dA_sendOn_5 rfl hl (by decide) rfl (fun ls hl => ?_)
  refine lv_iload_n hx hb dA_sendOn_6 rfl (lv_at hl 0 rfl) ?_
  refine lv_iconst (v := (-1 : Int32)) hx hb dA_sendOn_7 (by decide) ?_
  refine lv_icmp_ne (tgt := 23) hx hb dA_sendOn_8 (by decide) (fun hc => ?_) (fun hc => ?_)
  · rw [if_neg hc] at h
    refine lv_aload_n hx hb dA_sendOn_23 rfl (lv_at hl 1 rfl) ?_
    refine va_get (D := D) (ci := 0) (v := .ref (ad 3)) (C := RA) (T := TA) (N := 9) hx hb hG inA hown hK hP 0 rfl rfl 2 (by decide) (hG _ mw_176) (fun _ h9 => h9) rfl dA_sendOn_24 ?_
    refine lv_iload_n hx hb dA_sendOn_27 rfl (lv_at hl 2 rfl) ?_
    refine lv_iload_n hx hb dA_sendOn_28 rfl (lv_at hl 0 rfl) ?_
    refine lv_aload_n hx hb dA_sendOn_29 rfl (lv_at hl 1 rfl) ?_
    refine va_get (D := D) (ci := 0) (v := .int (u.1 0)) (C := RA) (T := TA) (N := 9) hx hb hG inA hown hK hP 0 rfl rfl 6 (by decide) (hG _ mw_180) (fun _ h9 => h9) rfl dA_sendOn_30 ?_
    refine lv_aload_n hx hb dA_sendOn_33 rfl (lv_at hl 1 rfl) ?_
    refine va_get (D := D) (ci := 0) (v := .ref (ad 1)) (C := RA) (T := TA) (N := 9) hx hb hG inA hown hK hP 0 rfl rfl 0 (by decide) (hG _ mw_174) (fun _ h9 => h9) rfl dA_sendOn_34 ?_
    refine va_get (D := D) (ci := 1) (v := .ref (ad 9)) (C := RHo) (T := THo) (N := 4) hx hb hG inHo hown hK hP 1 rfl rfl 2 (by decide) (hG _ mw_37) (fun _ h9 => h9) rfl dA_sendOn_37 ?_
    refine lv_iload_n hx hb dA_sendOn_40 rfl (lv_at hl 0 rfl) ?_
    obtain ⟨hg2, h⟩ := gI_some h
    refine va_zald (f := (u.2.1 3)) hx hb hK hP 9 1 rfl rfl hg2 dA_sendOn_41 ?_
    obtain ⟨q3, q3_h, h⟩ := gw_bind h
    refine gw_callV (As := [.int a1, .int q1, .int (u.1 0), .int (u.2.1 3 (q1).toNatClampNeg)]) (rest := []) (u := u) (u' := q3) hx hb hml hown hG (c_As_move l D ad cI cZ cJ u a1 q1 (u.1 0) (u.2.1 3 (q1).toNatClampNeg) _ q3_h) lk_A_264 rfl rfl ⟨Nat.le_of_ble_eq_true rfl, Nat.le_of_ble_eq_true rfl⟩ (va_recv hK hP (ci := 3) (q0 := 3) rfl rfl) hK hP hD hS hA rfl hl.1 rfl (Nat.le_of_ble_eq_true rfl) dA_sendOn_42 ⟨Nat.le_of_ble_eq_true rfl, Nat.le_of_ble_eq_true rfl⟩ (fun H locs hP hD hS => ?_)
    cases h
    exact gw_vret hx hb hr hlocks hP hD hS dA_sendOn_45
  · rw [if_pos hc] at h
    refine lv_aload_n hx hb dA_sendOn_11 rfl (lv_at hl 1 rfl) ?_
    refine va_get (D := D) (ci := 0) (v := .ref (ad 3)) (C := RA) (T := TA) (N := 9) hx hb hG inA hown hK hP 0 rfl rfl 2 (by decide) (hG _ mw_176) (fun _ h9 => h9) rfl dA_sendOn_12 ?_
    refine lv_iload_n hx hb dA_sendOn_15 rfl (lv_at hl 2 rfl) ?_
    refine lv_iconst (v := (2 : Int32)) hx hb dA_sendOn_16 (by decide) ?_
    obtain ⟨q4, q4_h, h⟩ := gw_bind h
    refine gw_callV (As := [.int a1, .int (2 : Int32)]) (rest := []) (u := u) (u' := q4) hx hb hml hown hG (c_As_close l D ad cI cZ cJ u a1 (2 : Int32) _ q4_h) lk_A_260 rfl rfl ⟨Nat.le_of_ble_eq_true rfl, Nat.le_of_ble_eq_true rfl⟩ (va_recv hK hP (ci := 3) (q0 := 3) rfl rfl) hK hP hD hS hA rfl hl.1 rfl (Nat.le_of_ble_eq_true rfl) dA_sendOn_17 ⟨Nat.le_of_ble_eq_true rfl, Nat.le_of_ble_eq_true rfl⟩ (fun H locs hP hD hS => ?_)
    refine lv_goto (tgt := 45) hx hb dA_sendOn_20 (by decide) ?_
    cases h
    exact gw_vret hx hb hr hlocks hP hD hS dA_sendOn_45
set_option maxHeartbeats 4000000 in
set_option maxRecDepth 100000 in
theorem lp_A_judge_23 {p : Program} {l : Launch} {e : Env} {s : State} {m : MethodId} {args : Array Value} {below : List Frame} {meth : Method} {c : Code} {A : Nat → Prop} {D : va_G} {ad : Nat → Nat} {cI cZ cJ : ClassId} (hC : gw_C p s m args meth c "AidRows" cA_judge 5 (some .int) gG D vwCl (tA cI cZ cJ) A) (N : Nat) : ∀ (u : StA) (x1 : Int32) (x2 : Int32) (x3 : Int32) (y0 : Int32) (r : Int32), f_A_judge_23 N u x1 x2 x3 y0 = some r → ∀ (H : Heap) (locs : List Loc) (ls : Array Slot), va_P D vwCl (wA ad cI cZ cJ u) H → va_D A (wA ad cI cZ cJ u) → va_S A s.heap H locs → lv_has ls 5 [(0, .ref (ad 0)), (1, .int x1), (2, .int x2), (3, .int x3)] → W p l e ({ frames := 3, cells := 0, slots := 0, locals := 73 } : Room) s m args below meth c H locs 0 0 (MQ below (gw_Q D vwCl (wA ad cI cZ cJ) A u (some (.int r))) args s 0 0 A) (F0 m 23 ls [.int y0]) := by
  obtain ⟨hx, hb, hr, hml, hG, hown, hlocks, hK, hA⟩ := id hC
  intro u x1 x2 x3 y0 r h H locs ls hP hD hS hl
  unfold f_A_judge_23 at h
  refine lv_istore (lv' := [(4, .int y0), (0, .ref (ad 0)), (1, .int x1), (2, .int x2), (3, .int x3)]) hx hb dA_judge_23 hl (by decide) rfl (fun ls hl => ?_)
  refine lv_iload hx hb dA_judge_25 (lv_at hl 0 rfl) ?_
  refine lv_if_eq (tgt := 44) hx hb dA_judge_27 (by decide) (fun hc => ?_) (fun hc => ?_)
  · rw [if_pos hc] at h
    refine lv_iconst (v := (1 : Int32)) hx hb dA_judge_44 (by decide) ?_
    cases h
    exact gw_iret hx hb hr hlocks hP hD hS dA_judge_45
  · rw [if_neg hc] at h
    refine lv_iload_n hx hb dA_judge_30 rfl (lv_at hl 4 rfl) ?_
    refine lv_aload_n hx hb dA_judge_31 rfl (lv_at hl 1 rfl) ?_
    refine lv_iload_n hx hb dA_judge_32 rfl (lv_at hl 2 rfl) ?_
    refine lv_iload_n hx hb dA_judge_33 rfl (lv_at hl 3 rfl) ?_
    obtain ⟨q2, q2_h, h⟩ := gw_bind h
    refine gw_callV (As := [.int x1, .int x2]) (rest := [.int x3]) (u := u) (u' := u) hx hb hml hown hG (c_A_mostToTake l D ad cI cZ cJ N u x1 x2 _ q2_h) lk_A_284 rfl rfl ⟨Nat.le_of_ble_eq_true rfl, Nat.le_of_ble_eq_true rfl⟩ (va_recv hK hP (ci := 0) (q0 := 0) rfl rfl) hK hP hD hS hA rfl hl.1 rfl (Nat.le_of_ble_eq_true rfl) dA_judge_34 ⟨Nat.le_of_ble_eq_true rfl, Nat.le_of_ble_eq_true rfl⟩ (fun H locs hP hD hS => ?_)
    refine lv_icmp_le (tgt := 44) hx hb dA_judge_37 (by decide) (fun hc => ?_) (fun hc => ?_)
    · rw [if_pos hc] at h
      refine lv_iconst (v := (1 : Int32)) hx hb dA_judge_44 (by decide) ?_
      cases h
      exact gw_iret hx hb hr hlocks hP hD hS dA_judge_45
    · rw [if_neg hc] at h
      refine lv_iconst (v := (4 : Int32)) hx hb dA_judge_40 (by decide) ?_
      refine lv_goto (tgt := 45) hx hb dA_judge_41 (by decide) ?_
      cases h
      exact gw_iret hx hb hr hlocks hP hD hS dA_judge_45
set_option maxHeartbeats 4000000 in
set_option maxRecDepth 100000 in
theorem c_A_judge (l : Launch) (D : va_G) (ad : Nat → Nat) (cI cZ cJ : ClassId) (N : Nat) (u : StA) (a1 : Int32) (a2 : Int32) (a3 : Int32) (r : Int32) (h : f_A_judge N u a1 a2 a3 = some r) : gw_Ct l D vwCl (tA cI cZ cJ) (wA ad cI cZ cJ) yA_judge (Cond.code yA_judge cA_judge 5 (some .int) :: gG) ({ frames := 3, cells := 0, slots := 0, locals := 73 } : Room) [.ref (ad 0), .int a1, .int a2, .int a3] u (some (.int r)) u := by
  refine gw_enter (by decide) (Nat.le_of_ble_eq_true rfl) ?_
  intro p e s m below meth c A hC hP hD hS ls hl
  obtain ⟨hx, hb, hr, hml, hG, hown, hlocks, hK, hA⟩ := id hC
  have hl : lv_has ls 5 [(0, .ref (ad 0)), (1, .int a1), (2, .int a2), (3, .int a3)] := hl
  obtain ⟨H, hH⟩ : ∃ H, H = s.heap := ⟨_, rfl⟩
  obtain ⟨locs, hlocs⟩ : ∃ x : List Loc, x = [] := ⟨_, rfl⟩
  rw [← hlocs] at hS ⊢
  have hP : va_P D vwCl (wA ad cI cZ cJ u) H := by rw [hH]; exact hP
  have hS : va_S A s.heap H locs := by rw [hH]; exact hS
  suffices g : W p l e ({ frames := 3, cells := 0, slots := 0, locals := 73 } : Room) s m [.ref (ad 0), .int a1, .int a2, .int a3].toArray below meth c H locs 0 0 (MQ below (gw_Q D vwCl (wA ad cI cZ cJ) A u (some (.int r))) [.ref (ad 0), .int a1, .int a2, .int a3].toArray s 0 0 A) (F0 m 0 ls []) by rw [hH] at g; exact g
  unfold f_A_judge at h
  refine lv_aload_n hx hb dA_judge_0 rfl (lv_at hl 0 rfl) ?_
  refine va_get (D := D) (ci := 0) (v := .ref (ad 3)) (C := RA) (T := TA) (N := 9) hx hb hG inA hown hK hP 0 rfl rfl 2 (by decide) (hG _ mw_176) (fun _ h9 => h9) rfl dA_judge_1 ?_
  refine lv_iload_n hx hb dA_judge_4 rfl (lv_at hl 1 rfl) ?_
  refine lv_iload_n hx hb dA_judge_5 rfl (lv_at hl 2 rfl) ?_
  obtain ⟨q1, q1_h, h⟩ := gw_bind h
  refine gw_callV (As := [.int a1, .int a2]) (rest := []) (u := u) (u' := u) hx hb hml hown hG (c_As_isOpenAt l D ad cI cZ cJ u a1 a2 _ q1_h) lk_A_281 rfl rfl ⟨Nat.le_of_ble_eq_true rfl, Nat.le_of_ble_eq_true rfl⟩ (va_recv hK hP (ci := 3) (q0 := 3) rfl rfl) hK hP hD hS hA rfl hl.1 rfl (Nat.le_of_ble_eq_true rfl) dA_judge_6 ⟨Nat.le_of_ble_eq_true rfl, Nat.le_of_ble_eq_true rfl⟩ (fun H locs hP hD hS => ?_)
  refine lv_if_ne (tgt := 14) hx hb dA_judge_9 (by decide) (fun hc => ?_) (fun hc => ?_)
  · rw [if_neg hc] at h
    refine lv_iload_n hx hb dA_judge_14 rfl (lv_at hl 3 rfl) ?_
    refine lv_if_le (tgt := 22) hx hb dA_judge_15 (by decide) (fun hc => ?_) (fun hc => ?_)
    · rw [if_pos hc] at h
      refine lv_iconst (v := (0 : Int32)) hx hb dA_judge_22 (by decide) ?_
      exact lp_A_judge_23 hC N u a1 a2 a3 (0 : Int32) _ h H locs ls hP hD hS (lv_sub hl [0, 1, 2, 3] rfl)
    · rw [if_neg hc] at h
      refine lv_iconst (v := (1 : Int32)) hx hb dA_judge_18 (by decide) ?_
      refine lv_goto (tgt := 23) hx hb dA_judge_19 (by decide) ?_
      exact lp_A_judge_23 hC N u a1 a2 a3 (1 : Int32) _ h H locs ls hP hD hS (lv_sub hl [0, 1, 2, 3] rfl)
  · rw [if_pos hc] at h
    refine lv_iconst (v := (3 : Int32)) hx hb dA_judge_12 (by decide) ?_
    cases h
    exact gw_iret hx hb hr hlocks hP hD hS dA_judge_13
set_option maxHeartbeats 4000000 in
set_option maxRecDepth 100000 in
theorem lp_A_sendOnImpatientAsks_4 {p : Program} {l : Launch} {e : Env} {s : State} {m : MethodId} {args : Array Value} {below : List Frame} {meth : Method} {c : Code} {A : Nat → Prop} {D : va_G} {ad : Nat → Nat} {cI cZ cJ : ClassId} (hC : gw_C p s m args meth c "AidRows" cA_sendOnImpatientAsks 3 (some .int) gG D vwCl (tA cI cZ cJ) A) (N : Nat) : ∀ (n : Nat) (u : StA) (x1 : Int32) (x2 : Int32) (r : Int32) (w : StA), f_A_sendOnImpatientAsks_4 N n u x1 x2 = some (r, w) → ∀ (H : Heap) (locs : List Loc) (ls : Array Slot), va_P D vwCl (wA ad cI cZ cJ u) H → va_D A (wA ad cI cZ cJ u) → va_S A s.heap H locs → lv_has ls 3 [(0, .ref (ad 0)), (1, .int x1), (2, .int x2)] → W p l e ({ frames := 4, cells := 0, slots := 0, locals := 96 } : Room) s m args below meth c H locs 0 0 (MQ below (gw_Q D vwCl (wA ad cI cZ cJ) A w (some (.int r))) args s 0 0 A) (F0 m 4 ls []) := by
  obtain ⟨hx, hb, hr, hml, hG, hown, hlocks, hK, hA⟩ := id hC
  intro n
  induction n with
  | zero => intro u x1 x2 r w h; cases h
  | succ n ih =>
    intro u x1 x2 r w h H locs ls hP hD hS hl
    rw [f_A_sendOnImpatientAsks_4] at h
    refine lv_iload_n hx hb dA_sendOnImpatientAsks_4 rfl (lv_at hl 2 rfl) ?_
    refine lv_aload_n hx hb dA_sendOnImpatientAsks_5 rfl (lv_at hl 0 rfl) ?_
    refine va_get (D := D) (ci := 0) (v := .ref (ad 3)) (C := RA) (T := TA) (N := 9) hx hb hG inA hown hK hP 0 rfl rfl 2 (by decide) (hG _ mw_176) (fun _ h9 => h9) rfl dA_sendOnImpatientAsks_6 ?_
    refine va_get (D := D) (ci := 3) (v := .int (u.1 5)) (C := RAs) (T := TAs) (N := 10) hx hb hG inAs hown hK hP 3 rfl rfl 9 (by decide) (hG _ mw_103) (fun _ h9 => h9) rfl dA_sendOnImpatientAsks_9 ?_
    refine lv_icmp_ge (tgt := 55) hx hb dA_sendOnImpatientAsks_12 (by decide) (fun hc => ?_) (fun hc => ?_)
    · rw [if_pos hc] at h
      refine lv_iload_n hx hb dA_sendOnImpatientAsks_55 rfl (lv_at hl 1 rfl) ?_
      cases h
      exact gw_iret hx hb hr hlocks hP hD hS dA_sendOnImpatientAsks_56
    · rw [if_neg hc] at h
      refine lv_aload_n hx hb dA_sendOnImpatientAsks_15 rfl (lv_at hl 0 rfl) ?_
      refine va_get (D := D) (ci := 0) (v := .ref (ad 3)) (C := RA) (T := TA) (N := 9) hx hb hG inA hown hK hP 0 rfl rfl 2 (by decide) (hG _ mw_176) (fun _ h9 => h9) rfl dA_sendOnImpatientAsks_16 ?_
      refine lv_iload_n hx hb dA_sendOnImpatientAsks_19 rfl (lv_at hl 2 rfl) ?_
      obtain ⟨q1, q1_h, h⟩ := gw_bind h
      refine gw_callV (As := [.int x2]) (rest := []) (u := u) (u' := u) hx hb hml hown hG (c_As_isOpen l D ad cI cZ cJ u x2 _ q1_h) lk_A_307 rfl rfl ⟨Nat.le_of_ble_eq_true rfl, Nat.le_of_ble_eq_true rfl⟩ (va_recv hK hP (ci := 3) (q0 := 3) rfl rfl) hK hP hD hS hA rfl hl.1 rfl (Nat.le_of_ble_eq_true rfl) dA_sendOnImpatientAsks_20 ⟨Nat.le_of_ble_eq_true rfl, Nat.le_of_ble_eq_true rfl⟩ (fun H locs hP hD hS => ?_)
      refine lv_if_eq (tgt := 49) hx hb dA_sendOnImpatientAsks_23 (by decide) (fun hc => ?_) (fun hc => ?_)
      · rw [if_pos hc] at h
        refine lv_iinc (v := (x2 + (1 : Int32))) (lv' := [(2, .int (x2 + (1 : Int32))), (0, .ref (ad 0)), (1, .int x1)]) hx hb dA_sendOnImpatientAsks_49 hl (k := 2) rfl rfl (by decide) rfl (fun ls hl => ?_)
        refine lv_goto (tgt := 4) hx hb dA_sendOnImpatientAsks_52 (by decide) ?_
        exact ih u x1 (x2 + (1 : Int32)) _ _ h H locs ls hP hD hS (lv_sub hl [1, 2, 0] rfl)
      · rw [if_neg hc] at h
        refine lv_aload_n hx hb dA_sendOnImpatientAsks_26 rfl (lv_at hl 0 rfl) ?_
        refine va_get (D := D) (ci := 0) (v := .ref (ad 3)) (C := RA) (T := TA) (N := 9) hx hb hG inA hown hK hP 0 rfl rfl 2 (by decide) (hG _ mw_176) (fun _ h9 => h9) rfl dA_sendOnImpatientAsks_27 ?_
        refine lv_iload_n hx hb dA_sendOnImpatientAsks_30 rfl (lv_at hl 2 rfl) ?_
        obtain ⟨q2, q2_h, h⟩ := gw_bind h
        refine gw_callV (As := [.int x2]) (rest := []) (u := u) (u' := u) hx hb hml hown hG (c_As_patienceEnd l D ad cI cZ cJ u x2 _ q2_h) lk_A_310 rfl rfl ⟨Nat.le_of_ble_eq_true rfl, Nat.le_of_ble_eq_true rfl⟩ (va_recv hK hP (ci := 3) (q0 := 3) rfl rfl) hK hP hD hS hA rfl hl.1 rfl (Nat.le_of_ble_eq_true rfl) dA_sendOnImpatientAsks_31 ⟨Nat.le_of_ble_eq_true rfl, Nat.le_of_ble_eq_true rfl⟩ (fun H locs hP hD hS => ?_)
        refine lv_aload_n hx hb dA_sendOnImpatientAsks_34 rfl (lv_at hl 0 rfl) ?_
        refine va_get (D := D) (ci := 0) (v := .int (u.1 0)) (C := RA) (T := TA) (N := 9) hx hb hG inA hown hK hP 0 rfl rfl 6 (by decide) (hG _ mw_180) (fun _ h9 => h9) rfl dA_sendOnImpatientAsks_35 ?_
        refine lv_icmp_gt (tgt := 49) hx hb dA_sendOnImpatientAsks_38 (by decide) (fun hc => ?_) (fun hc => ?_)
        · rw [if_pos hc] at h
          refine lv_iinc (v := (x2 + (1 : Int32))) (lv' := [(2, .int (x2 + (1 : Int32))), (0, .ref (ad 0)), (1, .int x1)]) hx hb dA_sendOnImpatientAsks_49 hl (k := 2) rfl rfl (by decide) rfl (fun ls hl => ?_)
          refine lv_goto (tgt := 4) hx hb dA_sendOnImpatientAsks_52 (by decide) ?_
          exact ih u x1 (x2 + (1 : Int32)) _ _ h H locs ls hP hD hS (lv_sub hl [1, 2, 0] rfl)
        · rw [if_neg hc] at h
          refine lv_aload_n hx hb dA_sendOnImpatientAsks_41 rfl (lv_at hl 0 rfl) ?_
          refine lv_iload_n hx hb dA_sendOnImpatientAsks_42 rfl (lv_at hl 2 rfl) ?_
          obtain ⟨q3, q3_h, h⟩ := gw_bind h
          refine gw_callV (As := [.int x2]) (rest := []) (u := u) (u' := q3) hx hb hml hown hG (c_A_sendOn l D ad cI cZ cJ N u x2 _ q3_h) lk_A_121 rfl rfl ⟨Nat.le_of_ble_eq_true rfl, Nat.le_of_ble_eq_true rfl⟩ (va_recv hK hP (ci := 0) (q0 := 0) rfl rfl) hK hP hD hS hA rfl hl.1 rfl (Nat.le_of_ble_eq_true rfl) dA_sendOnImpatientAsks_43 ⟨Nat.le_of_ble_eq_true rfl, Nat.le_of_ble_eq_true rfl⟩ (fun H locs hP hD hS => ?_)
          refine lv_iinc (v := (x1 + (1 : Int32))) (lv' := [(1, .int (x1 + (1 : Int32))), (0, .ref (ad 0)), (2, .int x2)]) hx hb dA_sendOnImpatientAsks_46 hl (k := 1) rfl rfl (by decide) rfl (fun ls hl => ?_)
          refine lv_iinc (v := (x2 + (1 : Int32))) (lv' := [(2, .int (x2 + (1 : Int32))), (1, .int (x1 + (1 : Int32))), (0, .ref (ad 0))]) hx hb dA_sendOnImpatientAsks_49 hl (k := 2) rfl rfl (by decide) rfl (fun ls hl => ?_)
          refine lv_goto (tgt := 4) hx hb dA_sendOnImpatientAsks_52 (by decide) ?_
          exact ih q3 (x1 + (1 : Int32)) (x2 + (1 : Int32)) _ _ h H locs ls hP hD hS (lv_sub hl [2, 1, 0] rfl)
set_option maxHeartbeats 4000000 in
set_option maxRecDepth 100000 in
theorem c_A_sendOnImpatientAsks (l : Launch) (D : va_G) (ad : Nat → Nat) (cI cZ cJ : ClassId) (N : Nat) (u : StA) (r : Int32) (w : StA) (h : f_A_sendOnImpatientAsks N u = some (r, w)) : gw_Ct l D vwCl (tA cI cZ cJ) (wA ad cI cZ cJ) yA_sendOnImpatientAsks (Cond.code yA_sendOnImpatientAsks cA_sendOnImpatientAsks 3 (some .int) :: gG) ({ frames := 4, cells := 0, slots := 0, locals := 96 } : Room) [.ref (ad 0)] u (some (.int r)) w := by
  refine gw_enter (by decide) (Nat.le_of_ble_eq_true rfl) ?_
  intro p e s m below meth c A hC hP hD hS ls hl
  obtain ⟨hx, hb, hr, hml, hG, hown, hlocks, hK, hA⟩ := id hC
  have hl : lv_has ls 3 [(0, .ref (ad 0))] := hl
  obtain ⟨H, hH⟩ : ∃ H, H = s.heap := ⟨_, rfl⟩
  obtain ⟨locs, hlocs⟩ : ∃ x : List Loc, x = [] := ⟨_, rfl⟩
  rw [← hlocs] at hS ⊢
  have hP : va_P D vwCl (wA ad cI cZ cJ u) H := by rw [hH]; exact hP
  have hS : va_S A s.heap H locs := by rw [hH]; exact hS
  suffices g : W p l e ({ frames := 4, cells := 0, slots := 0, locals := 96 } : Room) s m [.ref (ad 0)].toArray below meth c H locs 0 0 (MQ below (gw_Q D vwCl (wA ad cI cZ cJ) A w (some (.int r))) [.ref (ad 0)].toArray s 0 0 A) (F0 m 0 ls []) by rw [hH] at g; exact g
  unfold f_A_sendOnImpatientAsks at h
  refine lv_iconst (v := (0 : Int32)) hx hb dA_sendOnImpatientAsks_0 (by decide) ?_
  refine lv_istore_n (lv' := [(1, .int (0 : Int32)), (0, .ref (ad 0))]) hx hb dA_sendOnImpatientAsks_1 rfl hl (by decide) rfl (fun ls hl => ?_)
  refine lv_iconst (v := (0 : Int32)) hx hb dA_sendOnImpatientAsks_2 (by decide) ?_
  refine lv_istore_n (lv' := [(2, .int (0 : Int32)), (1, .int (0 : Int32)), (0, .ref (ad 0))]) hx hb dA_sendOnImpatientAsks_3 rfl hl (by decide) rfl (fun ls hl => ?_)
  exact lp_A_sendOnImpatientAsks_4 hC N N u (0 : Int32) (0 : Int32) _ _ h H locs ls hP hD hS (lv_sub hl [2, 1, 0] rfl)
