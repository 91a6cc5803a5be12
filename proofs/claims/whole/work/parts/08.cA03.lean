set_option maxHeartbeats 4000000 in
set_option maxRecDepth 100000 in
theorem lp_Lo_lentUnder_4 {p : Program} {l : Launch} {e : Env} {s : State} {m : MethodId} {args : Array Value} {below : List Frame} {meth : Method} {c : Code} {A : Nat → Prop} {D : va_G} {ad : Nat → Nat} {cI cZ cJ : ClassId} (hC : gw_C p s m args meth c "AidRows$Loans" cLo_lentUnder 4 (some .int) gG D vwCl (tA cI cZ cJ) A) (N : Nat) : ∀ (n : Nat) (u : StA) (x1 : Int32) (x2 : Int32) (x3 : Int32) (r : Int32), f_Lo_lentUnder_4 N n u x1 x2 x3 = some r → ∀ (H : Heap) (locs : List Loc) (ls : Array Slot), va_P D vwCl (wA ad cI cZ cJ u) H → va_D A (wA ad cI cZ cJ u) → va_S A s.heap H locs → lv_has ls 4 [(0, .ref (ad 4)), (1, .int x1), (2, .int x2), (3, .int x3)] → W p l e ({ frames := 1, cells := 0, slots := 0, locals := 21 } : Room) s m args below meth c H locs 0 0 (MQ below (gw_Q D vwCl (wA ad cI cZ cJ) A u (some (.int r))) args s 0 0 A) (F0 m 4 ls []) := by
  obtain ⟨hx, hb, hr, hml, hG, hown, hlocks, hK, hA⟩ := id hC
  intro n
  induction n with
  | zero => intro u x1 x2 x3 r h; cases h
  | succ n ih =>
    intro u x1 x2 x3 r h H locs ls hP hD hS hl
    rw [f_Lo_lentUnder_4] at h
    refine lv_iload_n hx hb dLo_lentUnder_4 rfl (lv_at hl 3 rfl) ?_
    refine lv_aload_n hx hb dLo_lentUnder_5 rfl (lv_at hl 0 rfl) ?_
    refine va_get (D := D) (ci := 4) (v := .int (u.1 6)) (C := RLo) (T := TLo) (N := 7) hx hb hG inLo hown hK hP 4 rfl rfl 6 (by decide) (hG _ mw_143) (fun _ h9 => h9) rfl dLo_lentUnder_6 ?_
    refine lv_icmp_ge (tgt := 39) hx hb dLo_lentUnder_9 (by decide) (fun hc => ?_) (fun hc => ?_)
    · rw [if_pos hc] at h
      refine lv_iload_n hx hb dLo_lentUnder_39 rfl (lv_at hl 2 rfl) ?_
      cases h
      exact gw_iret hx hb hr hlocks hP hD hS dLo_lentUnder_40
    · rw [if_neg hc] at h
      refine lv_aload_n hx hb dLo_lentUnder_12 rfl (lv_at hl 0 rfl) ?_
      refine va_get (D := D) (ci := 4) (v := .ref (ad 28)) (C := RLo) (T := TLo) (N := 7) hx hb hG inLo hown hK hP 4 rfl rfl 3 (by decide) (hG _ mw_137) (fun _ h9 => h9) rfl dLo_lentUnder_13 ?_
      refine lv_iload_n hx hb dLo_lentUnder_16 rfl (lv_at hl 3 rfl) ?_
      obtain ⟨hg1, h⟩ := gI_some h
      refine va_iald (f := (u.2.1 22)) hx hb hK hP 28 0 rfl rfl hg1 dLo_lentUnder_17 ?_
      refine lv_iload_n hx hb dLo_lentUnder_18 rfl (lv_at hl 1 rfl) ?_
      refine lv_icmp_ne (tgt := 33) hx hb dLo_lentUnder_19 (by decide) (fun hc => ?_) (fun hc => ?_)
      · rw [if_neg hc] at h
        refine lv_iinc (v := (x3 + (1 : Int32))) (lv' := [(3, .int (x3 + (1 : Int32))), (0, .ref (ad 4)), (1, .int x1), (2, .int x2)]) hx hb dLo_lentUnder_33 hl (k := 3) rfl rfl (by decide) rfl (fun ls hl => ?_)
        refine lv_goto (tgt := 4) hx hb dLo_lentUnder_36 (by decide) ?_
        exact ih u x1 x2 (x3 + (1 : Int32)) _ h H locs ls hP hD hS (lv_sub hl [1, 2, 3, 0] rfl)
      · rw [if_pos hc] at h
        refine lv_aload_n hx hb dLo_lentUnder_22 rfl (lv_at hl 0 rfl) ?_
        refine lv_iload_n hx hb dLo_lentUnder_23 rfl (lv_at hl 3 rfl) ?_
        obtain ⟨q2, q2_h, h⟩ := gw_bind h
        refine gw_callV (As := [.int x3]) (rest := []) (u := u) (u' := u) hx hb hml hown hG (c_Lo_isLent l D ad cI cZ cJ u x3 _ q2_h) lk_Lo_41 rfl rfl ⟨Nat.le_of_ble_eq_true rfl, Nat.le_of_ble_eq_true rfl⟩ (va_recv hK hP (ci := 4) (q0 := 4) rfl rfl) hK hP hD hS hA rfl hl.1 rfl (Nat.le_of_ble_eq_true rfl) dLo_lentUnder_24 ⟨Nat.le_of_ble_eq_true rfl, Nat.le_of_ble_eq_true rfl⟩ (fun H locs hP hD hS => ?_)
        refine lv_if_eq (tgt := 33) hx hb dLo_lentUnder_27 (by decide) (fun hc => ?_) (fun hc => ?_)
        · rw [if_pos hc] at h
          refine lv_iinc (v := (x3 + (1 : Int32))) (lv' := [(3, .int (x3 + (1 : Int32))), (0, .ref (ad 4)), (1, .int x1), (2, .int x2)]) hx hb dLo_lentUnder_33 hl (k := 3) rfl rfl (by decide) rfl (fun ls hl => ?_)
          refine lv_goto (tgt := 4) hx hb dLo_lentUnder_36 (by decide) ?_
          exact ih u x1 x2 (x3 + (1 : Int32)) _ h H locs ls hP hD hS (lv_sub hl [1, 2, 3, 0] rfl)
        · rw [if_neg hc] at h
          refine lv_iinc (v := (x2 + (1 : Int32))) (lv' := [(2, .int (x2 + (1 : Int32))), (0, .ref (ad 4)), (1, .int x1), (3, .int x3)]) hx hb dLo_lentUnder_30 hl (k := 2) rfl rfl (by decide) rfl (fun ls hl => ?_)
          refine lv_iinc (v := (x3 + (1 : Int32))) (lv' := [(3, .int (x3 + (1 : Int32))), (2, .int (x2 + (1 : Int32))), (0, .ref (ad 4)), (1, .int x1)]) hx hb dLo_lentUnder_33 hl (k := 3) rfl rfl (by decide) rfl (fun ls hl => ?_)
          refine lv_goto (tgt := 4) hx hb dLo_lentUnder_36 (by decide) ?_
          exact ih u x1 (x2 + (1 : Int32)) (x3 + (1 : Int32)) _ h H locs ls hP hD hS (lv_sub hl [2, 3, 1, 0] rfl)
set_option maxHeartbeats 4000000 in
set_option maxRecDepth 100000 in
theorem c_Lo_lentUnder (l : Launch) (D : va_G) (ad : Nat → Nat) (cI cZ cJ : ClassId) (N : Nat) (u : StA) (a1 : Int32) (r : Int32) (h : f_Lo_lentUnder N u a1 = some r) : gw_Ct l D vwCl (tA cI cZ cJ) (wA ad cI cZ cJ) yLo_lentUnder (Cond.code yLo_lentUnder cLo_lentUnder 4 (some .int) :: gG) ({ frames := 1, cells := 0, slots := 0, locals := 21 } : Room) [.ref (ad 4), .int a1] u (some (.int r)) u := by
  refine gw_enter (by decide) (Nat.le_of_ble_eq_true rfl) ?_
  intro p e s m below meth c A hC hP hD hS ls hl
  obtain ⟨hx, hb, hr, hml, hG, hown, hlocks, hK, hA⟩ := id hC
  have hl : lv_has ls 4 [(0, .ref (ad 4)), (1, .int a1)] := hl
  obtain ⟨H, hH⟩ : ∃ H, H = s.heap := ⟨_, rfl⟩
  obtain ⟨locs, hlocs⟩ : ∃ x : List Loc, x = [] := ⟨_, rfl⟩
  rw [← hlocs] at hS ⊢
  have hP : va_P D vwCl (wA ad cI cZ cJ u) H := by rw [hH]; exact hP
  have hS : va_S A s.heap H locs := by rw [hH]; exact hS
  suffices g : W p l e ({ frames := 1, cells := 0, slots := 0, locals := 21 } : Room) s m [.ref (ad 4), .int a1].toArray below meth c H locs 0 0 (MQ below (gw_Q D vwCl (wA ad cI cZ cJ) A u (some (.int r))) [.ref (ad 4), .int a1].toArray s 0 0 A) (F0 m 0 ls []) by rw [hH] at g; exact g
  unfold f_Lo_lentUnder at h
  refine lv_iconst (v := (0 : Int32)) hx hb dLo_lentUnder_0 (by decide) ?_
  refine lv_istore_n (lv' := [(2, .int (0 : Int32)), (0, .ref (ad 4)), (1, .int a1)]) hx hb dLo_lentUnder_1 rfl hl (by decide) rfl (fun ls hl => ?_)
  refine lv_iconst (v := (0 : Int32)) hx hb dLo_lentUnder_2 (by decide) ?_
  refine lv_istore_n (lv' := [(3, .int (0 : Int32)), (2, .int (0 : Int32)), (0, .ref (ad 4)), (1, .int a1)]) hx hb dLo_lentUnder_3 rfl hl (by decide) rfl (fun ls hl => ?_)
  exact lp_Lo_lentUnder_4 hC N N u a1 (0 : Int32) (0 : Int32) _ h H locs ls hP hD hS (lv_sub hl [2, 3, 1, 0] rfl)
set_option maxHeartbeats 4000000 in
set_option maxRecDepth 100000 in
theorem c_Nu_placeOf (l : Launch) (D : va_G) (ad : Nat → Nat) (cI cZ cJ : ClassId) (u : StA) (a1 : Int32) (a2 : Int32) (r : Int32) (h : f_Nu_placeOf a1 a2 = r) : gw_Ct l D vwCl (tA cI cZ cJ) (wA ad cI cZ cJ) yNu_placeOf (Cond.code yNu_placeOf cNu_placeOf 2 (some .int) :: gG) ({ frames := 0, cells := 0, slots := 0, locals := 0 } : Room) [.int a1, .int a2] u (some (.int r)) u := by
  refine gw_enter (by decide) (Nat.le_of_ble_eq_true rfl) ?_
  intro p e s m below meth c A hC hP hD hS ls hl
  obtain ⟨hx, hb, hr, hml, hG, hown, hlocks, hK, hA⟩ := id hC
  have hl : lv_has ls 2 [(0, .int a1), (1, .int a2)] := hl
  obtain ⟨H, hH⟩ : ∃ H, H = s.heap := ⟨_, rfl⟩
  obtain ⟨locs, hlocs⟩ : ∃ x : List Loc, x = [] := ⟨_, rfl⟩
  rw [← hlocs] at hS ⊢
  have hP : va_P D vwCl (wA ad cI cZ cJ u) H := by rw [hH]; exact hP
  have hS : va_S A s.heap H locs := by rw [hH]; exact hS
  suffices g : W p l e ({ frames := 0, cells := 0, slots := 0, locals := 0 } : Room) s m [.int a1, .int a2].toArray below meth c H locs 0 0 (MQ below (gw_Q D vwCl (wA ad cI cZ cJ) A u (some (.int r))) [.int a1, .int a2].toArray s 0 0 A) (F0 m 0 ls []) by rw [hH] at g; exact g
  unfold f_Nu_placeOf at h
  refine lv_iload_n hx hb dNu_placeOf_0 rfl (lv_at hl 0 rfl) ?_
  refine lv_sipush (v := (1000 : Int32)) hx hb dNu_placeOf_1 (by decide) ?_
  refine lv_imul hx hb dNu_placeOf_4 ?_
  refine lv_iload_n hx hb dNu_placeOf_5 rfl (lv_at hl 1 rfl) ?_
  refine lv_iadd hx hb dNu_placeOf_6 ?_
  subst h
  exact gw_iret hx hb hr hlocks hP hD hS dNu_placeOf_7
set_option maxHeartbeats 4000000 in
set_option maxRecDepth 100000 in
theorem c_Nu_shiftOf (l : Launch) (D : va_G) (ad : Nat → Nat) (cI cZ cJ : ClassId) (u : StA) (a1 : Int32) (r : Int32) (h : f_Nu_shiftOf a1 = r) : gw_Ct l D vwCl (tA cI cZ cJ) (wA ad cI cZ cJ) yNu_shiftOf (Cond.code yNu_shiftOf cNu_shiftOf 1 (some .int) :: gG) ({ frames := 0, cells := 0, slots := 0, locals := 0 } : Room) [.int a1] u (some (.int r)) u := by
  refine gw_enter (by decide) (Nat.le_of_ble_eq_true rfl) ?_
  intro p e s m below meth c A hC hP hD hS ls hl
  obtain ⟨hx, hb, hr, hml, hG, hown, hlocks, hK, hA⟩ := id hC
  have hl : lv_has ls 1 [(0, .int a1)] := hl
  obtain ⟨H, hH⟩ : ∃ H, H = s.heap := ⟨_, rfl⟩
  obtain ⟨locs, hlocs⟩ : ∃ x : List Loc, x = [] := ⟨_, rfl⟩
  rw [← hlocs] at hS ⊢
  have hP : va_P D vwCl (wA ad cI cZ cJ u) H := by rw [hH]; exact hP
  have hS : va_S A s.heap H locs := by rw [hH]; exact hS
  suffices g : W p l e ({ frames := 0, cells := 0, slots := 0, locals := 0 } : Room) s m [.int a1].toArray below meth c H locs 0 0 (MQ below (gw_Q D vwCl (wA ad cI cZ cJ) A u (some (.int r))) [.int a1].toArray s 0 0 A) (F0 m 0 ls []) by rw [hH] at g; exact g
  unfold f_Nu_shiftOf at h
  refine lv_iload_n hx hb dNu_shiftOf_0 rfl (lv_at hl 0 rfl) ?_
  refine lv_bipush (v := (16 : Int32)) hx hb dNu_shiftOf_1 (by decide) ?_
  refine lv_irem hx hb dNu_shiftOf_3 (by decide) ?_
  refine lv_iconst (v := (4 : Int32)) hx hb dNu_shiftOf_4 (by decide) ?_
  refine lv_imul hx hb dNu_shiftOf_5 ?_
  subst h
  exact gw_iret hx hb hr hlocks hP hD hS dNu_shiftOf_6
set_option maxHeartbeats 4000000 in
set_option maxRecDepth 100000 in
theorem c_JI_bitCount (l : Launch) (D : va_G) (ad : Nat → Nat) (cI cZ cJ : ClassId) (u : StA) (a1 : Int32) (r : Int32) (h : f_JI_bitCount a1 = r) : gw_Ct l D vwCl (tA cI cZ cJ) (wA ad cI cZ cJ) yJI_bitCount (Cond.code yJI_bitCount cJI_bitCount 1 (some .int) :: gG) ({ frames := 0, cells := 0, slots := 0, locals := 0 } : Room) [.int a1] u (some (.int r)) u := by
  refine gw_enter (by decide) (Nat.le_of_ble_eq_true rfl) ?_
  intro p e s m below meth c A hC hP hD hS ls hl
  obtain ⟨hx, hb, hr, hml, hG, hown, hlocks, hK, hA⟩ := id hC
  have hl : lv_has ls 1 [(0, .int a1)] := hl
  obtain ⟨H, hH⟩ : ∃ H, H = s.heap := ⟨_, rfl⟩
  obtain ⟨locs, hlocs⟩ : ∃ x : List Loc, x = [] := ⟨_, rfl⟩
  rw [← hlocs] at hS ⊢
  have hP : va_P D vwCl (wA ad cI cZ cJ u) H := by rw [hH]; exact hP
  have hS : va_S A s.heap H locs := by rw [hH]; exact hS
  suffices g : W p l e ({ frames := 0, cells := 0, slots := 0, locals := 0 } : Room) s m [.int a1].toArray below meth c H locs 0 0 (MQ below (gw_Q D vwCl (wA ad cI cZ cJ) A u (some (.int r))) [.int a1].toArray s 0 0 A) (F0 m 0 ls []) by rw [hH] at g; exact g
  unfold f_JI_bitCount at h
  refine lv_iload_n hx hb dJI_bitCount_0 rfl (lv_at hl 0 rfl) ?_
  refine lv_iload_n hx hb dJI_bitCount_1 rfl (lv_at hl 0 rfl) ?_
  refine lv_iconst (v := (1 : Int32)) hx hb dJI_bitCount_2 (by decide) ?_
  refine lv_iushr (v := ((a1).toUInt32 >>> (((1 : Int32)).toUInt32 &&& Int32.toUInt32 31)).toInt32) hx hb dJI_bitCount_3 rfl ?_
  refine lv_ldcw (v := (1431655765 : Int32)) hx hb hown (hG _ mw_581) dJI_bitCount_4 ?_
  refine lv_iand hx hb dJI_bitCount_7 ?_
  refine lv_isub hx hb dJI_bitCount_8 ?_
  refine lv_istore_n (lv' := [(0, .int (jb1 a1))]) hx hb dJI_bitCount_9 rfl hl (by decide) rfl (fun ls hl => ?_)
  refine lv_iload_n hx hb dJI_bitCount_10 rfl (lv_at hl 0 rfl) ?_
  refine lv_ldcw (v := (858993459 : Int32)) hx hb hown (hG _ mw_582) dJI_bitCount_11 ?_
  refine lv_iand hx hb dJI_bitCount_14 ?_
  refine lv_iload_n hx hb dJI_bitCount_15 rfl (lv_at hl 0 rfl) ?_
  refine lv_iconst (v := (2 : Int32)) hx hb dJI_bitCount_16 (by decide) ?_
  refine lv_iushr (v := (((jb1 a1)).toUInt32 >>> (((2 : Int32)).toUInt32 &&& Int32.toUInt32 31)).toInt32) hx hb dJI_bitCount_17 rfl ?_
  refine lv_ldcw (v := (858993459 : Int32)) hx hb hown (hG _ mw_582) dJI_bitCount_18 ?_
  refine lv_iand hx hb dJI_bitCount_21 ?_
  refine lv_iadd hx hb dJI_bitCount_22 ?_
  refine lv_istore_n (lv' := [(0, .int (jb2 (jb1 a1)))]) hx hb dJI_bitCount_23 rfl hl (by decide) rfl (fun ls hl => ?_)
  refine lv_iload_n hx hb dJI_bitCount_24 rfl (lv_at hl 0 rfl) ?_
  refine lv_iload_n hx hb dJI_bitCount_25 rfl (lv_at hl 0 rfl) ?_
  refine lv_iconst (v := (4 : Int32)) hx hb dJI_bitCount_26 (by decide) ?_
  refine lv_iushr (v := (((jb2 (jb1 a1))).toUInt32 >>> (((4 : Int32)).toUInt32 &&& Int32.toUInt32 31)).toInt32) hx hb dJI_bitCount_27 rfl ?_
  refine lv_iadd hx hb dJI_bitCount_28 ?_
  refine lv_ldcw (v := (252645135 : Int32)) hx hb hown (hG _ mw_583) dJI_bitCount_29 ?_
  refine lv_iand hx hb dJI_bitCount_32 ?_
  refine lv_istore_n (lv' := [(0, .int (jb3 (jb2 (jb1 a1))))]) hx hb dJI_bitCount_33 rfl hl (by decide) rfl (fun ls hl => ?_)
  refine lv_iload_n hx hb dJI_bitCount_34 rfl (lv_at hl 0 rfl) ?_
  refine lv_iload_n hx hb dJI_bitCount_35 rfl (lv_at hl 0 rfl) ?_
  refine lv_bipush (v := (8 : Int32)) hx hb dJI_bitCount_36 (by decide) ?_
  refine lv_iushr (v := (((jb3 (jb2 (jb1 a1)))).toUInt32 >>> (((8 : Int32)).toUInt32 &&& Int32.toUInt32 31)).toInt32) hx hb dJI_bitCount_38 rfl ?_
  refine lv_iadd hx hb dJI_bitCount_39 ?_
  refine lv_istore_n (lv' := [(0, .int (jb4 (jb3 (jb2 (jb1 a1)))))]) hx hb dJI_bitCount_40 rfl hl (by decide) rfl (fun ls hl => ?_)
  refine lv_iload_n hx hb dJI_bitCount_41 rfl (lv_at hl 0 rfl) ?_
  refine lv_iload_n hx hb dJI_bitCount_42 rfl (lv_at hl 0 rfl) ?_
  refine lv_bipush (v := (16 : Int32)) hx hb dJI_bitCount_43 (by decide) ?_
  refine lv_iushr (v := (((jb4 (jb3 (jb2 (jb1 a1))))).toUInt32 >>> (((16 : Int32)).toUInt32 &&& Int32.toUInt32 31)).toInt32) hx hb dJI_bitCount_45 rfl ?_
  refine lv_iadd hx hb dJI_bitCount_46 ?_
  refine lv_istore_n (lv' := [(0, .int (jb5 (jb4 (jb3 (jb2 (jb1 a1))))))]) hx hb dJI_bitCount_47 rfl hl (by decide) rfl (fun ls hl => ?_)
  refine lv_iload_n hx hb dJI_bitCount_48 rfl (lv_at hl 0 rfl) ?_
  refine lv_bipush (v := (63 : Int32)) hx hb dJI_bitCount_49 (by decide) ?_
  refine lv_iand hx hb dJI_bitCount_51 ?_
  subst h
  exact gw_iret hx hb hr hlocks hP hD hS dJI_bitCount_52
set_option maxHeartbeats 4000000 in
set_option maxRecDepth 100000 in
theorem lp_A_nextEvent_47 {p : Program} {l : Launch} {e : Env} {s : State} {m : MethodId} {args : Array Value} {below : List Frame} {meth : Method} {c : Code} {A : Nat → Prop} {D : va_G} {ad : Nat → Nat} {cI cZ cJ : ClassId} (hC : gw_C p s m args meth c "AidRows" cA_nextEvent 4 (some .int) gG D vwCl (tA cI cZ cJ) A) (N : Nat) : ∀ (n : Nat) (u : StA) (x1 : Int32) (x2 : Int32) (x3 : Int32) (r : Int32), f_A_nextEvent_47 N n u x1 x2 x3 = some r → ∀ (H : Heap) (locs : List Loc) (ls : Array Slot), va_P D vwCl (wA ad cI cZ cJ u) H → va_D A (wA ad cI cZ cJ u) → va_S A s.heap H locs → lv_has ls 4 [(0, .ref (ad 0)), (1, .int x1), (2, .int x2), (3, .int x3)] → W p l e ({ frames := 1, cells := 0, slots := 0, locals := 21 } : Room) s m args below meth c H locs 0 0 (MQ below (gw_Q D vwCl (wA ad cI cZ cJ) A u (some (.int r))) args s 0 0 A) (F0 m 47 ls []) := by
  obtain ⟨hx, hb, hr, hml, hG, hown, hlocks, hK, hA⟩ := id hC
  intro n
  induction n with
  | zero => intro u x1 x2 x3 r h; cases h
  | succ n ih =>
    intro u x1 x2 x3 r h H locs ls hP hD hS hl
    rw [f_A_nextEvent_47] at h
    refine lv_iload_n hx hb dA_nextEvent_47 rfl (lv_at hl 3 rfl) ?_
    refine lv_aload_n hx hb dA_nextEvent_48 rfl (lv_at hl 0 rfl) ?_
    refine va_get (D := D) (ci := 0) (v := .ref (ad 4)) (C := RA) (T := TA) (N := 9) hx hb hG inA hown hK hP 0 rfl rfl 3 (by decide) (hG _ mw_177) (fun _ h9 => h9) rfl dA_nextEvent_49 ?_
    refine va_get (D := D) (ci := 4) (v := .int (u.1 6)) (C := RLo) (T := TLo) (N := 7) hx hb hG inLo hown hK hP 4 rfl rfl 6 (by decide) (hG _ mw_144) (fun _ h9 => h9) rfl dA_nextEvent_52 ?_
    refine lv_icmp_ge (tgt := 97) hx hb dA_nextEvent_55 (by decide) (fun hc => ?_) (fun hc => ?_)
    · rw [if_pos hc] at h
      refine lv_iload_n hx hb dA_nextEvent_97 rfl (lv_at hl 2 rfl) ?_
      cases h
      exact gw_iret hx hb hr hlocks hP hD hS dA_nextEvent_98
    · rw [if_neg hc] at h
      refine lv_aload_n hx hb dA_nextEvent_58 rfl (lv_at hl 0 rfl) ?_
      refine va_get (D := D) (ci := 0) (v := .ref (ad 4)) (C := RA) (T := TA) (N := 9) hx hb hG inA hown hK hP 0 rfl rfl 3 (by decide) (hG _ mw_177) (fun _ h9 => h9) rfl dA_nextEvent_59 ?_
      refine lv_iload_n hx hb dA_nextEvent_62 rfl (lv_at hl 3 rfl) ?_
      obtain ⟨q3, q3_h, h⟩ := gw_bind h
      refine gw_callV (As := [.int x3]) (rest := []) (u := u) (u' := u) hx hb hml hown hG (c_Lo_isLent l D ad cI cZ cJ u x3 _ q3_h) lk_A_189 rfl rfl ⟨Nat.le_of_ble_eq_true rfl, Nat.le_of_ble_eq_true rfl⟩ (va_recv hK hP (ci := 4) (q0 := 4) rfl rfl) hK hP hD hS hA rfl hl.1 rfl (Nat.le_of_ble_eq_true rfl) dA_nextEvent_63 ⟨Nat.le_of_ble_eq_true rfl, Nat.le_of_ble_eq_true rfl⟩ (fun H locs hP hD hS => ?_)
      refine lv_if_eq (tgt := 91) hx hb dA_nextEvent_66 (by decide) (fun hc => ?_) (fun hc => ?_)
      · rw [if_pos hc] at h
        refine lv_iinc (v := (x3 + (1 : Int32))) (lv' := [(3, .int (x3 + (1 : Int32))), (0, .ref (ad 0)), (1, .int x1), (2, .int x2)]) hx hb dA_nextEvent_91 hl (k := 3) rfl rfl (by decide) rfl (fun ls hl => ?_)
        refine lv_goto (tgt := 47) hx hb dA_nextEvent_94 (by decide) ?_
        exact ih u x1 x2 (x3 + (1 : Int32)) _ h H locs ls hP hD hS (lv_sub hl [1, 2, 3, 0] rfl)
      · rw [if_neg hc] at h
        refine lv_iload_n hx hb dA_nextEvent_69 rfl (lv_at hl 2 rfl) ?_
        refine lv_aload_n hx hb dA_nextEvent_70 rfl (lv_at hl 0 rfl) ?_
        refine va_get (D := D) (ci := 0) (v := .ref (ad 2)) (C := RA) (T := TA) (N := 9) hx hb hG inA hown hK hP 0 rfl rfl 1 (by decide) (hG _ mw_175) (fun _ h9 => h9) rfl dA_nextEvent_71 ?_
        refine va_get (D := D) (ci := 2) (v := .ref (ad 13)) (C := RAg) (T := TAg) (N := 7) hx hb hG inAg hown hK hP 2 rfl rfl 3 (by decide) (hG _ mw_61) (fun _ h9 => h9) rfl dA_nextEvent_74 ?_
        refine lv_aload_n hx hb dA_nextEvent_77 rfl (lv_at hl 0 rfl) ?_
        refine va_get (D := D) (ci := 0) (v := .ref (ad 4)) (C := RA) (T := TA) (N := 9) hx hb hG inA hown hK hP 0 rfl rfl 3 (by decide) (hG _ mw_177) (fun _ h9 => h9) rfl dA_nextEvent_78 ?_
        refine va_get (D := D) (ci := 4) (v := .ref (ad 28)) (C := RLo) (T := TLo) (N := 7) hx hb hG inLo hown hK hP 4 rfl rfl 3 (by decide) (hG _ mw_138) (fun _ h9 => h9) rfl dA_nextEvent_81 ?_
        refine lv_iload_n hx hb dA_nextEvent_84 rfl (lv_at hl 3 rfl) ?_
        obtain ⟨hg4, h⟩ := gI_some h
        refine va_iald (f := (u.2.1 22)) hx hb hK hP 28 0 rfl rfl hg4 dA_nextEvent_85 ?_
        obtain ⟨hg5, h⟩ := gI_some h
        refine va_iald (f := (u.2.1 7)) hx hb hK hP 13 0 rfl rfl hg5 dA_nextEvent_86 ?_
        refine va_mmin hx hb (hml.trans hl.1.symm) hown (hG _ mw_481) (hG _ mw_482) (hG _ mw_16) (hG _ mw_483) (Nat.le_of_ble_eq_true rfl) (Nat.le_of_ble_eq_true rfl) (Nat.le_of_ble_eq_true rfl) (Nat.le_of_ble_eq_true rfl) dA_nextEvent_87 ?_
        refine W.eq (g2 := F0 m 90 ls (.int (f_JM_min x2 (u.2.1 7 ((u.2.1 22 (x3).toNatClampNeg)).toNatClampNeg)) :: [])) rfl ?_
        refine lv_istore_n (lv' := [(2, .int (f_JM_min x2 (u.2.1 7 ((u.2.1 22 (x3).toNatClampNeg)).toNatClampNeg))), (0, .ref (ad 0)), (1, .int x1), (3, .int x3)]) hx hb dA_nextEvent_90 rfl hl (by decide) rfl (fun ls hl => ?_)
        refine lv_iinc (v := (x3 + (1 : Int32))) (lv' := [(3, .int (x3 + (1 : Int32))), (2, .int (f_JM_min x2 (u.2.1 7 ((u.2.1 22 (x3).toNatClampNeg)).toNatClampNeg))), (0, .ref (ad 0)), (1, .int x1)]) hx hb dA_nextEvent_91 hl (k := 3) rfl rfl (by decide) rfl (fun ls hl => ?_)
        refine lv_goto (tgt := 47) hx hb dA_nextEvent_94 (by decide) ?_
        exact ih u x1 (f_JM_min x2 (u.2.1 7 ((u.2.1 22 (x3).toNatClampNeg)).toNatClampNeg)) (x3 + (1 : Int32)) _ h H locs ls hP hD hS (lv_sub hl [2, 3, 1, 0] rfl)
set_option maxHeartbeats 4000000 in
set_option maxRecDepth 100000 in
theorem lp_A_nextEvent_4 {p : Program} {l : Launch} {e : Env} {s : State} {m : MethodId} {args : Array Value} {below : List Frame} {meth : Method} {c : Code} {A : Nat → Prop} {D : va_G} {ad : Nat → Nat} {cI cZ cJ : ClassId} (hC : gw_C p s m args meth c "AidRows" cA_nextEvent 4 (some .int) gG D vwCl (tA cI cZ cJ) A) (N : Nat) : ∀ (n : Nat) (u : StA) (x1 : Int32) (x2 : Int32) (x3 : Int32) (r : Int32), f_A_nextEvent_4 N n u x1 x2 x3 = some r → ∀ (H : Heap) (locs : List Loc) (ls : Array Slot), va_P D vwCl (wA ad cI cZ cJ u) H → va_D A (wA ad cI cZ cJ u) → va_S A s.heap H locs → lv_has ls 4 [(0, .ref (ad 0)), (1, .int x1), (2, .int x2), (3, .int x3)] → W p l e ({ frames := 1, cells := 0, slots := 0, locals := 21 } : Room) s m args below meth c H locs 0 0 (MQ below (gw_Q D vwCl (wA ad cI cZ cJ) A u (some (.int r))) args s 0 0 A) (F0 m 4 ls []) := by
  obtain ⟨hx, hb, hr, hml, hG, hown, hlocks, hK, hA⟩ := id hC
  intro n
  induction n with
  | zero => intro u x1 x2 x3 r h; cases h
  | succ n ih =>
    intro u x1 x2 x3 r h H locs ls hP hD hS hl
    rw [f_A_nextEvent_4] at h
    refine lv_iload_n hx hb dA_nextEvent_4 rfl (lv_at hl 3 rfl) ?_
    refine lv_aload_n hx hb dA_nextEvent_5 rfl (lv_at hl 0 rfl) ?_
    refine va_get (D := D) (ci := 0) (v := .ref (ad 3)) (C := RA) (T := TA) (N := 9) hx hb hG inA hown hK hP 0 rfl rfl 2 (by decide) (hG _ mw_176) (fun _ h9 => h9) rfl dA_nextEvent_6 ?_
    refine va_get (D := D) (ci := 3) (v := .int (u.1 5)) (C := RAs) (T := TAs) (N := 10) hx hb hG inAs hown hK hP 3 rfl rfl 9 (by decide) (hG _ mw_103) (fun _ h9 => h9) rfl dA_nextEvent_9 ?_
    refine lv_icmp_ge (tgt := 45) hx hb dA_nextEvent_12 (by decide) (fun hc => ?_) (fun hc => ?_)
    · rw [if_pos hc] at h
      refine lv_iconst (v := (0 : Int32)) hx hb dA_nextEvent_45 (by decide) ?_
      refine lv_istore_n (lv' := [(3, .int (0 : Int32)), (0, .ref (ad 0)), (1, .int x1), (2, .int x2)]) hx hb dA_nextEvent_46 rfl hl (by decide) rfl (fun ls hl => ?_)
      exact lp_A_nextEvent_47 hC N N u x1 x2 (0 : Int32) _ h H locs ls hP hD hS (lv_sub hl [1, 2, 3, 0] rfl)
    · rw [if_neg hc] at h
      refine lv_aload_n hx hb dA_nextEvent_15 rfl (lv_at hl 0 rfl) ?_
      refine va_get (D := D) (ci := 0) (v := .ref (ad 3)) (C := RA) (T := TA) (N := 9) hx hb hG inA hown hK hP 0 rfl rfl 2 (by decide) (hG _ mw_176) (fun _ h9 => h9) rfl dA_nextEvent_16 ?_
      refine lv_iload_n hx hb dA_nextEvent_19 rfl (lv_at hl 3 rfl) ?_
      obtain ⟨q1, q1_h, h⟩ := gw_bind h
      refine gw_callV (As := [.int x3]) (rest := []) (u := u) (u' := u) hx hb hml hown hG (c_As_isOpen l D ad cI cZ cJ u x3 _ q1_h) lk_A_307 rfl rfl ⟨Nat.le_of_ble_eq_true rfl, Nat.le_of_ble_eq_true rfl⟩ (va_recv hK hP (ci := 3) (q0 := 3) rfl rfl) hK hP hD hS hA rfl hl.1 rfl (Nat.le_of_ble_eq_true rfl) dA_nextEvent_20 ⟨Nat.le_of_ble_eq_true rfl, Nat.le_of_ble_eq_true rfl⟩ (fun H locs hP hD hS => ?_)
      refine lv_if_eq (tgt := 39) hx hb dA_nextEvent_23 (by decide) (fun hc => ?_) (fun hc => ?_)
      · rw [if_pos hc] at h
        refine lv_iinc (v := (x3 + (1 : Int32))) (lv' := [(3, .int (x3 + (1 : Int32))), (0, .ref (ad 0)), (1, .int x1), (2, .int x2)]) hx hb dA_nextEvent_39 hl (k := 3) rfl rfl (by decide) rfl (fun ls hl => ?_)
        refine lv_goto (tgt := 4) hx hb dA_nextEvent_42 (by decide) ?_
        exact ih u x1 x2 (x3 + (1 : Int32)) _ h H locs ls hP hD hS (lv_sub hl [1, 2, 3, 0] rfl)
      · rw [if_neg hc] at h
        refine lv_iload_n hx hb dA_nextEvent_26 rfl (lv_at hl 2 rfl) ?_
        refine lv_aload_n hx hb dA_nextEvent_27 rfl (lv_at hl 0 rfl) ?_
        refine va_get (D := D) (ci := 0) (v := .ref (ad 3)) (C := RA) (T := TA) (N := 9) hx hb hG inA hown hK hP 0 rfl rfl 2 (by decide) (hG _ mw_176) (fun _ h9 => h9) rfl dA_nextEvent_28 ?_
        refine lv_iload_n hx hb dA_nextEvent_31 rfl (lv_at hl 3 rfl) ?_
        obtain ⟨q2, q2_h, h⟩ := gw_bind h
        refine gw_callV (As := [.int x3]) (rest := [.int x2]) (u := u) (u' := u) hx hb hml hown hG (c_As_patienceEnd l D ad cI cZ cJ u x3 _ q2_h) lk_A_310 rfl rfl ⟨Nat.le_of_ble_eq_true rfl, Nat.le_of_ble_eq_true rfl⟩ (va_recv hK hP (ci := 3) (q0 := 3) rfl rfl) hK hP hD hS hA rfl hl.1 rfl (Nat.le_of_ble_eq_true rfl) dA_nextEvent_32 ⟨Nat.le_of_ble_eq_true rfl, Nat.le_of_ble_eq_true rfl⟩ (fun H locs hP hD hS => ?_)
        refine va_mmin hx hb (hml.trans hl.1.symm) hown (hG _ mw_481) (hG _ mw_482) (hG _ mw_16) (hG _ mw_483) (Nat.le_of_ble_eq_true rfl) (Nat.le_of_ble_eq_true rfl) (Nat.le_of_ble_eq_true rfl) (Nat.le_of_ble_eq_true rfl) dA_nextEvent_35 ?_
        refine W.eq (g2 := F0 m 38 ls (.int (f_JM_min x2 q2) :: [])) rfl ?_
        refine lv_istore_n (lv' := [(2, .int (f_JM_min x2 q2)), (0, .ref (ad 0)), (1, .int x1), (3, .int x3)]) hx hb dA_nextEvent_38 rfl hl (by decide) rfl (fun ls hl => ?_)
        refine lv_iinc (v := (x3 + (1 : Int32))) (lv' := [(3, .int (x3 + (1 : Int32))), (2, .int (f_JM_min x2 q2)), (0, .ref (ad 0)), (1, .int x1)]) hx hb dA_nextEvent_39 hl (k := 3) rfl rfl (by decide) rfl (fun ls hl => ?_)
        refine lv_goto (tgt := 4) hx hb dA_nextEvent_42 (by decide) ?_
        exact ih u x1 (f_JM_min x2 q2) (x3 + (1 : Int32)) _ h H locs ls hP hD hS (lv_sub hl [2, 3, 1, 0] rfl)
set_option maxHeartbeats 4000000 in
set_option maxRecDepth 100000 in
theorem c_A_nextEvent (l : Launch) (D : va_G) (ad : Nat → Nat) (cI cZ cJ : ClassId) (N : Nat) (u : StA) (a1 : Int32) (r : Int32) (h : f_A_nextEvent N u a1 = some r) : gw_Ct l D vwCl (tA cI cZ cJ) (wA ad cI cZ cJ) yA_nextEvent (Cond.code yA_nextEvent cA_nextEvent 4 (some .int) :: gG) ({ frames := 1, cells := 0, slots := 0, locals := 21 } : Room) [.ref (ad 0), .int a1] u (some (.int r)) u := by
  refine gw_enter (by decide) (Nat.le_of_ble_eq_true rfl) ?_
  intro p e s m below meth c A hC hP hD hS ls hl
  obtain ⟨hx, hb, hr, hml, hG, hown, hlocks, hK, hA⟩ := id hC
  have hl : lv_has ls 4 [(0, .ref (ad 0)), (1, .int a1)] := hl
  obtain ⟨H, hH⟩ : ∃ H, H = s.heap := ⟨_, rfl⟩
  obtain ⟨locs, hlocs⟩ : ∃ x : List Loc, x = [] := ⟨_, rfl⟩
  rw [← hlocs] at hS ⊢
  have hP : va_P D vwCl (wA ad cI cZ cJ u) H := by rw [hH]; exact hP
  have hS : va_S A s.heap H locs := by rw [hH]; exact hS
  suffices g : W p l e ({ frames := 1, cells := 0, slots := 0, locals := 21 } : Room) s m [.ref (ad 0), .int a1].toArray below meth c H locs 0 0 (MQ below (gw_Q D vwCl (wA ad cI cZ cJ) A u (some (.int r))) [.ref (ad 0), .int a1].toArray s 0 0 A) (F0 m 0 ls []) by rw [hH] at g; exact g
  unfold f_A_nextEvent at h
  refine lv_iload_n hx hb dA_nextEvent_0 rfl (lv_at hl 1 rfl) ?_
  refine lv_istore_n (lv' := [(2, .int a1), (0, .ref (ad 0)), (1, .int a1)]) hx hb dA_nextEvent_1 rfl hl (by decide) rfl (fun ls hl => ?_)
  refine lv_iconst (v := (0 : Int32)) hx hb dA_nextEvent_2 (by decide) ?_
  refine lv_istore_n (lv' := [(3, .int (0 : Int32)), (2, .int a1), (0, .ref (ad 0)), (1, .int a1)]) hx hb dA_nextEvent_3 rfl hl (by decide) rfl (fun ls hl => ?_)
  exact lp_A_nextEvent_4 hC N N u a1 a1 (0 : Int32) _ h H locs ls hP hD hS (lv_sub hl [2, 3, 1, 0] rfl)
set_option maxHeartbeats 4000000 in
set_option maxRecDepth 100000 in
theorem lp_A_endLoansWithAgreements_2 {p : Program} {l : Launch} {e : Env} {s : State} {m : MethodId} {args : Array Value} {below : List Frame} {meth : Method} {c : Code} {A : Nat → Prop} {D : va_G} {ad : Nat → Nat} {cI cZ cJ : ClassId} (hC : gw_C p s m args meth c "AidRows" cA_endLoansWithAgreements 2 none gG D vwCl (tA cI cZ cJ) A) (N : Nat) : ∀ (n : Nat) (u : StA) (x1 : Int32) (w : StA), f_A_endLoansWithAgreements_2 N n u x1 = some w → ∀ (H : Heap) (locs : List Loc) (ls : Array Slot), va_P D vwCl (wA ad cI cZ cJ u) H → va_D A (wA ad cI cZ cJ u) → va_S A s.heap H locs → lv_has ls 2 [(0, .ref (ad 0)), (1, .int x1)] → W p l e ({ frames := 1, cells := 0, slots := 0, locals := 21 } : Room) s m args below meth c H locs 0 0 (MQ below (gw_Q D vwCl (wA ad cI cZ cJ) A w (none)) args s 0 0 A) (F0 m 2 ls []) := by
  obtain ⟨hx, hb, hr, hml, hG, hown, hlocks, hK, hA⟩ := id hC
  intro n
  induction n with
  | zero => intro u x1 w h; cases h
  | succ n ih =>
    intro u x1 w h H locs ls hP hD hS hl
    rw [f_A_endLoansWithAgreements_2] at h
    refine lv_iload_n hx hb dA_endLoansWithAgreements_2 rfl (lv_at hl 1 rfl) ?_
    refine lv_aload_n hx hb dA_endLoansWithAgreements_3 rfl (lv_at hl 0 rfl) ?_
    refine va_get (D := D) (ci := 0) (v := .ref (ad 4)) (C := RA) (T := TA) (N := 9) hx hb hG inA hown hK hP 0 rfl rfl 3 (by decide) (hG _ mw_177) (fun _ h9 => h9) rfl dA_endLoansWithAgreements_4 ?_
    refine va_get (D := D) (ci := 4) (v := .int (u.1 6)) (C := RLo) (T := TLo) (N := 7) hx hb hG inLo hown hK hP 4 rfl rfl 6 (by decide) (hG _ mw_144) (fun _ h9 => h9) rfl dA_endLoansWithAgreements_7 ?_
    refine lv_icmp_ge (tgt := 67) hx hb dA_endLoansWithAgreements_10 (by decide) (fun hc => ?_) (fun hc => ?_)
    · rw [if_pos hc] at h
      cases h
      exact gw_vret hx hb hr hlocks hP hD hS dA_endLoansWithAgreements_67
    · rw [if_neg hc] at h
      refine lv_aload_n hx hb dA_endLoansWithAgreements_13 rfl (lv_at hl 0 rfl) ?_
      refine va_get (D := D) (ci := 0) (v := .ref (ad 4)) (C := RA) (T := TA) (N := 9) hx hb hG inA hown hK hP 0 rfl rfl 3 (by decide) (hG _ mw_177) (fun _ h9 => h9) rfl dA_endLoansWithAgreements_14 ?_
      refine lv_iload_n hx hb dA_endLoansWithAgreements_17 rfl (lv_at hl 1 rfl) ?_
      obtain ⟨q1, q1_h, h⟩ := gw_bind h
      refine gw_callV (As := [.int x1]) (rest := []) (u := u) (u' := u) hx hb hml hown hG (c_Lo_isLent l D ad cI cZ cJ u x1 _ q1_h) lk_A_189 rfl rfl ⟨Nat.le_of_ble_eq_true rfl, Nat.le_of_ble_eq_true rfl⟩ (va_recv hK hP (ci := 4) (q0 := 4) rfl rfl) hK hP hD hS hA rfl hl.1 rfl (Nat.le_of_ble_eq_true rfl) dA_endLoansWithAgreements_18 ⟨Nat.le_of_ble_eq_true rfl, Nat.le_of_ble_eq_true rfl⟩ (fun H locs hP hD hS => ?_)
      refine lv_if_eq (tgt := 61) hx hb dA_endLoansWithAgreements_21 (by decide) (fun hc => ?_) (fun hc => ?_)
      · rw [if_pos hc] at h
        refine lv_iinc (v := (x1 + (1 : Int32))) (lv' := [(1, .int (x1 + (1 : Int32))), (0, .ref (ad 0))]) hx hb dA_endLoansWithAgreements_61 hl (k := 1) rfl rfl (by decide) rfl (fun ls hl => ?_)
        refine lv_goto (tgt := 2) hx hb dA_endLoansWithAgreements_64 (by decide) ?_
        exact ih u (x1 + (1 : Int32)) _ h H locs ls hP hD hS (lv_sub hl [1, 0] rfl)
      · rw [if_neg hc] at h
        refine lv_aload_n hx hb dA_endLoansWithAgreements_24 rfl (lv_at hl 0 rfl) ?_
        refine va_get (D := D) (ci := 0) (v := .ref (ad 2)) (C := RA) (T := TA) (N := 9) hx hb hG inA hown hK hP 0 rfl rfl 1 (by decide) (hG _ mw_175) (fun _ h9 => h9) rfl dA_endLoansWithAgreements_25 ?_
        refine va_get (D := D) (ci := 2) (v := .ref (ad 13)) (C := RAg) (T := TAg) (N := 7) hx hb hG inAg hown hK hP 2 rfl rfl 3 (by decide) (hG _ mw_61) (fun _ h9 => h9) rfl dA_endLoansWithAgreements_28 ?_
        refine lv_aload_n hx hb dA_endLoansWithAgreements_31 rfl (lv_at hl 0 rfl) ?_
        refine va_get (D := D) (ci := 0) (v := .ref (ad 4)) (C := RA) (T := TA) (N := 9) hx hb hG inA hown hK hP 0 rfl rfl 3 (by decide) (hG _ mw_177) (fun _ h9 => h9) rfl dA_endLoansWithAgreements_32 ?_
        refine va_get (D := D) (ci := 4) (v := .ref (ad 28)) (C := RLo) (T := TLo) (N := 7) hx hb hG inLo hown hK hP 4 rfl rfl 3 (by decide) (hG _ mw_138) (fun _ h9 => h9) rfl dA_endLoansWithAgreements_35 ?_
        refine lv_iload_n hx hb dA_endLoansWithAgreements_38 rfl (lv_at hl 1 rfl) ?_
        obtain ⟨hg2, h⟩ := gI_some h
        refine va_iald (f := (u.2.1 22)) hx hb hK hP 28 0 rfl rfl hg2 dA_endLoansWithAgreements_39 ?_
        obtain ⟨hg3, h⟩ := gI_some h
        refine va_iald (f := (u.2.1 7)) hx hb hK hP 13 0 rfl rfl hg3 dA_endLoansWithAgreements_40 ?_
        refine lv_aload_n hx hb dA_endLoansWithAgreements_41 rfl (lv_at hl 0 rfl) ?_
        refine va_get (D := D) (ci := 0) (v := .int (u.1 0)) (C := RA) (T := TA) (N := 9) hx hb hG inA hown hK hP 0 rfl rfl 6 (by decide) (hG _ mw_180) (fun _ h9 => h9) rfl dA_endLoansWithAgreements_42 ?_
        refine lv_icmp_gt (tgt := 61) hx hb dA_endLoansWithAgreements_45 (by decide) (fun hc => ?_) (fun hc => ?_)
        · rw [if_pos hc] at h
          refine lv_iinc (v := (x1 + (1 : Int32))) (lv' := [(1, .int (x1 + (1 : Int32))), (0, .ref (ad 0))]) hx hb dA_endLoansWithAgreements_61 hl (k := 1) rfl rfl (by decide) rfl (fun ls hl => ?_)
          refine lv_goto (tgt := 2) hx hb dA_endLoansWithAgreements_64 (by decide) ?_
          exact ih u (x1 + (1 : Int32)) _ h H locs ls hP hD hS (lv_sub hl [1, 0] rfl)
        · rw [if_neg hc] at h
          refine lv_aload_n hx hb dA_endLoansWithAgreements_48 rfl (lv_at hl 0 rfl) ?_
          refine va_get (D := D) (ci := 0) (v := .ref (ad 4)) (C := RA) (T := TA) (N := 9) hx hb hG inA hown hK hP 0 rfl rfl 3 (by decide) (hG _ mw_177) (fun _ h9 => h9) rfl dA_endLoansWithAgreements_49 ?_
          refine va_get (D := D) (ci := 4) (v := .ref (ad 30)) (C := RLo) (T := TLo) (N := 7) hx hb hG inLo hown hK hP 4 rfl rfl 5 (by decide) (hG _ mw_142) (fun _ h9 => h9) rfl dA_endLoansWithAgreements_52 ?_
          refine lv_iload_n hx hb dA_endLoansWithAgreements_55 rfl (lv_at hl 1 rfl) ?_
          refine lv_aload_n hx hb dA_endLoansWithAgreements_56 rfl (lv_at hl 0 rfl) ?_
          refine va_get (D := D) (ci := 0) (v := .int (u.1 0)) (C := RA) (T := TA) (N := 9) hx hb hG inA hown hK hP 0 rfl rfl 6 (by decide) (hG _ mw_180) (fun _ h9 => h9) rfl dA_endLoansWithAgreements_57 ?_
          refine va_iast (f := (u.2.1 24)) hx hb hK hP hD hS 30 0 rfl rfl hg2 dA_endLoansWithAgreements_60 (fun H locs hP hD hS => ?_)
          rw [wA_a24] at hP hD
          refine lv_iinc (v := (x1 + (1 : Int32))) (lv' := [(1, .int (x1 + (1 : Int32))), (0, .ref (ad 0))]) hx hb dA_endLoansWithAgreements_61 hl (k := 1) rfl rfl (by decide) rfl (fun ls hl => ?_)
          refine lv_goto (tgt := 2) hx hb dA_endLoansWithAgreements_64 (by decide) ?_
          exact ih (sA u 24 (x1).toNatClampNeg (u.1 0)) (x1 + (1 : Int32)) _ h H locs ls hP hD hS (lv_sub hl [1, 0] rfl)
set_option maxHeartbeats 4000000 in
set_option maxRecDepth 100000 in
theorem c_A_endLoansWithAgreements (l : Launch) (D : va_G) (ad : Nat → Nat) (cI cZ cJ : ClassId) (N : Nat) (u : StA) (w : StA) (h : f_A_endLoansWithAgreements N u = some w) : gw_Ct l D vwCl (tA cI cZ cJ) (wA ad cI cZ cJ) yA_endLoansWithAgreements (Cond.code yA_endLoansWithAgreements cA_endLoansWithAgreements 2 none :: gG) ({ frames := 1, cells := 0, slots := 0, locals := 21 } : Room) [.ref (ad 0)] u (none) w := by
  refine gw_enter (by decide) (Nat.le_of_ble_eq_true rfl) ?_
  intro p e s m below meth c A hC hP hD hS ls hl
  obtain ⟨hx, hb, hr, hml, hG, hown, hlocks, hK, hA⟩ := id hC
  have hl : lv_has ls 2 [(0, .ref (ad 0))] := hl
  obtain ⟨H, hH⟩ : ∃ H, H = s.heap := ⟨_, rfl⟩
  obtain ⟨locs, hlocs⟩ : ∃ x : List Loc, x = [] := ⟨_, rfl⟩
  rw [← hlocs] at hS ⊢
  have hP : va_P D vwCl (wA ad cI cZ cJ u) H := by rw [hH]; exact hP
  have hS : va_S A s.heap H locs := by rw [hH]; exact hS
  suffices g : W p l e ({ frames := 1, cells := 0, slots := 0, locals := 21 } : Room) s m [.ref (ad 0)].toArray below meth c H locs 0 0 (MQ below (gw_Q D vwCl (wA ad cI cZ cJ) A w (none)) [.ref (ad 0)].toArray s 0 0 A) (F0 m 0 ls []) by rw [hH] at g; exact g
  unfold f_A_endLoansWithAgreements at h
  refine lv_iconst (v := (0 : Int32)) hx hb dA_endLoansWithAgreements_0 (by decide) ?_
  refine lv_istore_n (lv' := [(1, .int (0 : Int32)), (0, .ref (ad 0))]) hx hb dA_endLoansWithAgreements_1 rfl hl (by decide) rfl (fun ls hl => ?_)
  exact lp_A_endLoansWithAgreements_2 hC N N u (0 : Int32) _ h H locs ls hP hD hS (lv_sub hl [1, 0] rfl)
set_option maxHeartbeats 4000000 in
set_option maxRecDepth 100000 in
theorem lp_A_costOfLoan_27 {p : Program} {l : Launch} {e : Env} {s : State} {m : MethodId} {args : Array Value} {below : List Frame} {meth : Method} {c : Code} {A : Nat → Prop} {D : va_G} {ad : Nat → Nat} {cI cZ cJ : ClassId} (hC : gw_C p s m args meth c "AidRows" cA_costOfLoan 5 (some .int) gG D vwCl (tA cI cZ cJ) A) : ∀ (u : StA) (x1 : Int32) (y0 : Int32) (r : Int32), f_A_costOfLoan_27 u x1 y0 = some r → ∀ (H : Heap) (locs : List Loc) (ls : Array Slot), va_P D vwCl (wA ad cI cZ cJ u) H → va_D A (wA ad cI cZ cJ u) → va_S A s.heap H locs → lv_has ls 5 [(0, .ref (ad 0)), (1, .int x1)] → W p l e ({ frames := 1, cells := 0, slots := 0, locals := 21 } : Room) s m args below meth c H locs 0 0 (MQ below (gw_Q D vwCl (wA ad cI cZ cJ) A u (some (.int r))) args s 0 0 A) (F0 m 27 ls [.int y0]) := by
  obtain ⟨hx, hb, hr, hml, hG, hown, hlocks, hK, hA⟩ := id hC
  intro u x1 y0 r h H locs ls hP hD hS hl
  unfold f_A_costOfLoan_27 at h
  refine lv_istore_n (lv' := [(2, .int y0), (0, .ref (ad 0)), (1, .int x1)]) hx hb dA_costOfLoan_27 rfl hl (by decide) rfl (fun ls hl => ?_)
  refine lv_iload_n hx hb dA_costOfLoan_28 rfl (lv_at hl 0 rfl) ?_
  refine lv_aload_n hx hb dA_costOfLoan_29 rfl (lv_at hl 1 rfl) ?_
  refine va_get (D := D) (ci := 0) (v := .ref (ad 4)) (C := RA) (T := TA) (N := 9) hx hb hG inA hown hK hP 0 rfl rfl 3 (by decide) (hG _ mw_177) (fun _ h9 => h9) rfl dA_costOfLoan_30 ?_
  refine va_get (D := D) (ci := 4) (v := .ref (ad 29)) (C := RLo) (T := TLo) (N := 7) hx hb hG inLo hown hK hP 4 rfl rfl 4 (by decide) (hG _ mw_140) (fun _ h9 => h9) rfl dA_costOfLoan_33 ?_
  refine lv_iload_n hx hb dA_costOfLoan_36 rfl (lv_at hl 2 rfl) ?_
  obtain ⟨hg3, h⟩ := gI_some h
  refine va_iald (f := (u.2.1 23)) hx hb hK hP 29 0 rfl rfl hg3 dA_costOfLoan_37 ?_
  refine lv_isub hx hb dA_costOfLoan_38 ?_
  refine lv_istore_n (lv' := [(3, .int (y0 - (u.2.1 23 (x1).toNatClampNeg))), (2, .int y0), (0, .ref (ad 0)), (1, .int x1)]) hx hb dA_costOfLoan_39 rfl hl (by decide) rfl (fun ls hl => ?_)
  refine lv_iload_n hx hb dA_costOfLoan_40 rfl (lv_at hl 0 rfl) ?_
  refine lv_if_gt (tgt := 46) hx hb dA_costOfLoan_41 (by decide) (fun hc => ?_) (fun hc => ?_)
  · rw [if_pos hc] at h
    refine lv_iload_n hx hb dA_costOfLoan_46 rfl (lv_at hl 0 rfl) ?_
    refine lv_bipush (v := (60 : Int32)) hx hb dA_costOfLoan_47 (by decide) ?_
    refine lv_iadd hx hb dA_costOfLoan_49 ?_
    refine lv_iconst (v := (1 : Int32)) hx hb dA_costOfLoan_50 (by decide) ?_
    refine lv_isub hx hb dA_costOfLoan_51 ?_
    refine lv_bipush (v := (60 : Int32)) hx hb dA_costOfLoan_52 (by decide) ?_
    refine lv_idiv hx hb dA_costOfLoan_54 (by decide) ?_
    refine lv_istore (lv' := [(4, .int ((((y0 - (u.2.1 23 (x1).toNatClampNeg)) + (60 : Int32)) - (1 : Int32)) / (60 : Int32))), (3, .int (y0 - (u.2.1 23 (x1).toNatClampNeg))), (2, .int y0), (0, .ref (ad 0)), (1, .int x1)]) hx hb dA_costOfLoan_55 hl (by decide) rfl (fun ls hl => ?_)
    refine lv_iload hx hb dA_costOfLoan_57 (lv_at hl 0 rfl) ?_
    refine lv_aload_n hx hb dA_costOfLoan_59 rfl (lv_at hl 3 rfl) ?_
    refine va_get (D := D) (ci := 0) (v := .ref (ad 1)) (C := RA) (T := TA) (N := 9) hx hb hG inA hown hK hP 0 rfl rfl 0 (by decide) (hG _ mw_174) (fun _ h9 => h9) rfl dA_costOfLoan_60 ?_
    refine va_get (D := D) (ci := 1) (v := .ref (ad 8)) (C := RHo) (T := THo) (N := 4) hx hb hG inHo hown hK hP 1 rfl rfl 1 (by decide) (hG _ mw_35) (fun _ h9 => h9) rfl dA_costOfLoan_63 ?_
    refine lv_aload_n hx hb dA_costOfLoan_66 rfl (lv_at hl 3 rfl) ?_
    refine va_get (D := D) (ci := 0) (v := .ref (ad 4)) (C := RA) (T := TA) (N := 9) hx hb hG inA hown hK hP 0 rfl rfl 3 (by decide) (hG _ mw_177) (fun _ h9 => h9) rfl dA_costOfLoan_67 ?_
    refine va_get (D := D) (ci := 4) (v := .ref (ad 25)) (C := RLo) (T := TLo) (N := 7) hx hb hG inLo hown hK hP 4 rfl rfl 0 (by decide) (hG _ mw_132) (fun _ h9 => h9) rfl dA_costOfLoan_70 ?_
    refine lv_iload_n hx hb dA_costOfLoan_73 rfl (lv_at hl 4 rfl) ?_
    refine va_iald (f := (u.2.1 19)) hx hb hK hP 25 0 rfl rfl hg3 dA_costOfLoan_74 ?_
    obtain ⟨hg4, h⟩ := gI_some h
    refine va_iald (f := (u.2.1 2)) hx hb hK hP 8 0 rfl rfl hg4 dA_costOfLoan_75 ?_
    refine lv_imul hx hb dA_costOfLoan_76 ?_
    cases h
    exact gw_iret hx hb hr hlocks hP hD hS dA_costOfLoan_77
  · rw [if_neg hc] at h
    refine lv_iconst (v := (0 : Int32)) hx hb dA_costOfLoan_44 (by decide) ?_
    cases h
    exact gw_iret hx hb hr hlocks hP hD hS dA_costOfLoan_45
set_option maxHeartbeats 4000000 in
set_option maxRecDepth 100000 in
theorem c_A_costOfLoan (l : Launch) (D : va_G) (ad : Nat → Nat) (cI cZ cJ : ClassId) (u : StA) (a1 : Int32) (r : Int32) (h : f_A_costOfLoan u a1 = some r) : gw_Ct l D vwCl (tA cI cZ cJ) (wA ad cI cZ cJ) yA_costOfLoan (Cond.code yA_costOfLoan cA_costOfLoan 5 (some .int) :: gG) ({ frames := 1, cells := 0, slots := 0, locals := 21 } : Room) [.ref (ad 0), .int a1] u (some (.int r)) u := by
  refine gw_enter (by decide) (Nat.le_of_ble_eq_true rfl) ?_
  intro p e s m below meth c A hC hP hD hS ls hl
  obtain ⟨hx, hb, hr, hml, hG, hown, hlocks, hK, hA⟩ := id hC
  have hl : lv_has ls 5 [(0, .ref (ad 0)), (1, .int a1)] := hl
  obtain ⟨H, hH⟩ : ∃ H, H = s.heap := ⟨_, rfl⟩
  obtain ⟨locs, hlocs⟩ : ∃ x : List Loc, x = [] := ⟨_, rfl⟩
  rw [← hlocs] at hS ⊢
  have hP : va_P D vwCl (wA ad cI cZ cJ u) H := by rw [hH]; exact hP
  have hS : va_S A s.heap H locs := by rw [hH]; exact hS
  suffices g : W p l e ({ frames := 1, cells := 0, slots := 0, locals := 21 } : Room) s m [.ref (ad 0), .int a1].toArray below meth c H locs 0 0 (MQ below (gw_Q D vwCl (wA ad cI cZ cJ) A u (some (.int r))) [.ref (ad 0), .int a1].toArray s 0 0 A) (F0 m 0 ls []) by rw [hH] at g; exact g
  unfold f_A_costOfLoan at h
  refine lv_aload_n hx hb dA_costOfLoan_0 rfl (lv_at hl 0 rfl) ?_
  refine va_get (D := D) (ci := 0) (v := .ref (ad 4)) (C := RA) (T := TA) (N := 9) hx hb hG inA hown hK hP 0 rfl rfl 3 (by decide) (hG _ mw_177) (fun _ h9 => h9) rfl dA_costOfLoan_1 ?_
  refine lv_iload_n hx hb dA_costOfLoan_4 rfl (lv_at hl 1 rfl) ?_
  obtain ⟨q1, q1_h, h⟩ := gw_bind h
  refine gw_callV (As := [.int a1]) (rest := []) (u := u) (u' := u) hx hb hml hown hG (c_Lo_isLent l D ad cI cZ cJ u a1 _ q1_h) lk_A_189 rfl rfl ⟨Nat.le_of_ble_eq_true rfl, Nat.le_of_ble_eq_true rfl⟩ (va_recv hK hP (ci := 4) (q0 := 4) rfl rfl) hK hP hD hS hA rfl hl.1 rfl (Nat.le_of_ble_eq_true rfl) dA_costOfLoan_5 ⟨Nat.le_of_ble_eq_true rfl, Nat.le_of_ble_eq_true rfl⟩ (fun H locs hP hD hS => ?_)
  refine lv_if_eq (tgt := 18) hx hb dA_costOfLoan_8 (by decide) (fun hc => ?_) (fun hc => ?_)
  · rw [if_pos hc] at h
    refine lv_aload_n hx hb dA_costOfLoan_18 rfl (lv_at hl 0 rfl) ?_
    refine va_get (D := D) (ci := 0) (v := .ref (ad 4)) (C := RA) (T := TA) (N := 9) hx hb hG inA hown hK hP 0 rfl rfl 3 (by decide) (hG _ mw_177) (fun _ h9 => h9) rfl dA_costOfLoan_19 ?_
    refine va_get (D := D) (ci := 4) (v := .ref (ad 30)) (C := RLo) (T := TLo) (N := 7) hx hb hG inLo hown hK hP 4 rfl rfl 5 (by decide) (hG _ mw_142) (fun _ h9 => h9) rfl dA_costOfLoan_22 ?_
    refine lv_iload_n hx hb dA_costOfLoan_25 rfl (lv_at hl 1 rfl) ?_
    obtain ⟨hg2, h⟩ := gI_some h
    refine va_iald (f := (u.2.1 24)) hx hb hK hP 30 0 rfl rfl hg2 dA_costOfLoan_26 ?_
    exact lp_A_costOfLoan_27 hC u a1 (u.2.1 24 (a1).toNatClampNeg) _ h H locs ls hP hD hS (lv_sub hl [0, 1] rfl)
  · rw [if_neg hc] at h
    refine lv_aload_n hx hb dA_costOfLoan_11 rfl (lv_at hl 0 rfl) ?_
    refine va_get (D := D) (ci := 0) (v := .int (u.1 0)) (C := RA) (T := TA) (N := 9) hx hb hG inA hown hK hP 0 rfl rfl 6 (by decide) (hG _ mw_180) (fun _ h9 => h9) rfl dA_costOfLoan_12 ?_
    refine lv_goto (tgt := 27) hx hb dA_costOfLoan_15 (by decide) ?_
    exact lp_A_costOfLoan_27 hC u a1 (u.1 0) _ h H locs ls hP hD hS (lv_sub hl [0, 1] rfl)
set_option maxHeartbeats 4000000 in
set_option maxRecDepth 100000 in
theorem lp_Ag_holding_3 {p : Program} {l : Launch} {e : Env} {s : State} {m : MethodId} {args : Array Value} {below : List Frame} {meth : Method} {c : Code} {A : Nat → Prop} {D : va_G} {ad : Nat → Nat} {cI cZ cJ : ClassId} (hC : gw_C p s m args meth c "AidRows$Agreements" cAg_holding 5 (some .int) gG D vwCl (tA cI cZ cJ) A) (N : Nat) : ∀ (n : Nat) (u : StA) (x1 : Int32) (x2 : Int32) (x3 : Int32) (x4 : Int32) (r : Int32), f_Ag_holding_3 N n u x1 x2 x3 x4 = some r → ∀ (H : Heap) (locs : List Loc) (ls : Array Slot), va_P D vwCl (wA ad cI cZ cJ u) H → va_D A (wA ad cI cZ cJ u) → va_S A s.heap H locs → lv_has ls 5 [(0, .ref (ad 2)), (1, .int x1), (2, .int x2), (3, .int x3), (4, .int x4)] → W p l e ({ frames := 1, cells := 0, slots := 0, locals := 26 } : Room) s m args below meth c H locs 0 0 (MQ below (gw_Q D vwCl (wA ad cI cZ cJ) A u (some (.int r))) args s 0 0 A) (F0 m 3 ls []) := by
  obtain ⟨hx, hb, hr, hml, hG, hown, hlocks, hK, hA⟩ := id hC
  intro n
  induction n with
  | zero => intro u x1 x2 x3 x4 r h; cases h
  | succ n ih =>
    intro u x1 x2 x3 x4 r h H locs ls hP hD hS hl
    rw [f_Ag_holding_3] at h
    refine lv_iload hx hb dAg_holding_3 (lv_at hl 4 rfl) ?_
    refine lv_aload_n hx hb dAg_holding_5 rfl (lv_at hl 0 rfl) ?_
    refine va_get (D := D) (ci := 2) (v := .int (u.1 4)) (C := RAg) (T := TAg) (N := 7) hx hb hG inAg hown hK hP 2 rfl rfl 6 (by decide) (hG _ mw_65) (fun _ h9 => h9) rfl dAg_holding_6 ?_
    refine lv_icmp_ge (tgt := 53) hx hb dAg_holding_9 (by decide) (fun hc => ?_) (fun hc => ?_)
    · rw [if_pos hc] at h
      refine lv_iconst (v := (-1 : Int32)) hx hb dAg_holding_53 (by decide) ?_
      cases h
      exact gw_iret hx hb hr hlocks hP hD hS dAg_holding_54
    · rw [if_neg hc] at h
      refine lv_aload_n hx hb dAg_holding_12 rfl (lv_at hl 0 rfl) ?_
      refine va_get (D := D) (ci := 2) (v := .ref (ad 10)) (C := RAg) (T := TAg) (N := 7) hx hb hG inAg hown hK hP 2 rfl rfl 0 (by decide) (hG _ mw_57) (fun _ h9 => h9) rfl dAg_holding_13 ?_
      refine lv_iload hx hb dAg_holding_16 (lv_at hl 4 rfl) ?_
      obtain ⟨hg1, h⟩ := gI_some h
      refine va_iald (f := (u.2.1 4)) hx hb hK hP 10 0 rfl rfl hg1 dAg_holding_18 ?_
      refine lv_iload_n hx hb dAg_holding_19 rfl (lv_at hl 1 rfl) ?_
      refine lv_icmp_ne (tgt := 47) hx hb dAg_holding_20 (by decide) (fun hc => ?_) (fun hc => ?_)
      · rw [if_neg hc] at h
        refine lv_iinc (v := (x4 + (1 : Int32))) (lv' := [(4, .int (x4 + (1 : Int32))), (0, .ref (ad 2)), (1, .int x1), (2, .int x2), (3, .int x3)]) hx hb dAg_holding_47 hl (k := 4) rfl rfl (by decide) rfl (fun ls hl => ?_)
        refine lv_goto (tgt := 3) hx hb dAg_holding_50 (by decide) ?_
        exact ih u x1 x2 x3 (x4 + (1 : Int32)) _ h H locs ls hP hD hS (lv_sub hl [1, 2, 3, 4, 0] rfl)
      · rw [if_pos hc] at h
        refine lv_aload_n hx hb dAg_holding_23 rfl (lv_at hl 0 rfl) ?_
        refine va_get (D := D) (ci := 2) (v := .ref (ad 11)) (C := RAg) (T := TAg) (N := 7) hx hb hG inAg hown hK hP 2 rfl rfl 1 (by decide) (hG _ mw_58) (fun _ h9 => h9) rfl dAg_holding_24 ?_
        refine lv_iload hx hb dAg_holding_27 (lv_at hl 4 rfl) ?_
        refine va_iald (f := (u.2.1 5)) hx hb hK hP 11 0 rfl rfl hg1 dAg_holding_29 ?_
        refine lv_iload_n hx hb dAg_holding_30 rfl (lv_at hl 2 rfl) ?_
        refine lv_icmp_ne (tgt := 47) hx hb dAg_holding_31 (by decide) (fun hc => ?_) (fun hc => ?_)
        · rw [if_neg hc] at h
          refine lv_iinc (v := (x4 + (1 : Int32))) (lv' := [(4, .int (x4 + (1 : Int32))), (0, .ref (ad 2)), (1, .int x1), (2, .int x2), (3, .int x3)]) hx hb dAg_holding_47 hl (k := 4) rfl rfl (by decide) rfl (fun ls hl => ?_)
          refine lv_goto (tgt := 3) hx hb dAg_holding_50 (by decide) ?_
          exact ih u x1 x2 x3 (x4 + (1 : Int32)) _ h H locs ls hP hD hS (lv_sub hl [1, 2, 3, 4, 0] rfl)
        · rw [if_pos hc] at h
          refine lv_aload_n hx hb dAg_holding_34 rfl (lv_at hl 0 rfl) ?_
          refine lv_iload hx hb dAg_holding_35 (lv_at hl 4 rfl) ?_
          refine lv_iload_n hx hb dAg_holding_37 rfl (lv_at hl 3 rfl) ?_
          obtain ⟨q2, q2_h, h⟩ := gw_bind h
          refine gw_callV (As := [.int x4, .int x3]) (rest := []) (u := u) (u' := u) hx hb hml hown hG (c_Ag_holdsAt l D ad cI cZ cJ u x4 x3 _ q2_h) lk_Ag_34 rfl rfl ⟨Nat.le_of_ble_eq_true rfl, Nat.le_of_ble_eq_true rfl⟩ (va_recv hK hP (ci := 2) (q0 := 2) rfl rfl) hK hP hD hS hA rfl hl.1 rfl (Nat.le_of_ble_eq_true rfl) dAg_holding_38 ⟨Nat.le_of_ble_eq_true rfl, Nat.le_of_ble_eq_true rfl⟩ (fun H locs hP hD hS => ?_)
          refine lv_if_eq (tgt := 47) hx hb dAg_holding_41 (by decide) (fun hc => ?_) (fun hc => ?_)
          · rw [if_pos hc] at h
            refine lv_iinc (v := (x4 + (1 : Int32))) (lv' := [(4, .int (x4 + (1 : Int32))), (0, .ref (ad 2)), (1, .int x1), (2, .int x2), (3, .int x3)]) hx hb dAg_holding_47 hl (k := 4) rfl rfl (by decide) rfl (fun ls hl => ?_)
            refine lv_goto (tgt := 3) hx hb dAg_holding_50 (by decide) ?_
            exact ih u x1 x2 x3 (x4 + (1 : Int32)) _ h H locs ls hP hD hS (lv_sub hl [1, 2, 3, 4, 0] rfl)
          · rw [if_neg hc] at h
            refine lv_iload hx hb dAg_holding_44 (lv_at hl 4 rfl) ?_
            cases h
            exact gw_iret hx hb hr hlocks hP hD hS dAg_holding_46
set_option maxHeartbeats 4000000 in
set_option maxRecDepth 100000 in
theorem c_Ag_holding (l : Launch) (D : va_G) (ad : Nat → Nat) (cI cZ cJ : ClassId) (N : Nat) (u : StA) (a1 : Int32) (a2 : Int32) (a3 : Int32) (r : Int32) (h : f_Ag_holding N u a1 a2 a3 = some r) : gw_Ct l D vwCl (tA cI cZ cJ) (wA ad cI cZ cJ) yAg_holding (Cond.code yAg_holding cAg_holding 5 (some .int) :: gG) ({ frames := 1, cells := 0, slots := 0, locals := 26 } : Room) [.ref (ad 2), .int a1, .int a2, .int a3] u (some (.int r)) u := by
  refine gw_enter (by decide) (Nat.le_of_ble_eq_true rfl) ?_
  intro p e s m below meth c A hC hP hD hS ls hl
  obtain ⟨hx, hb, hr, hml, hG, hown, hlocks, hK, hA⟩ := id hC
  have hl : lv_has ls 5 [(0, .ref (ad 2)), (1, .int a1), (2, .int a2), (3, .int a3)] := hl
  obtain ⟨H, hH⟩ : ∃ H, H = s.heap := ⟨_, rfl⟩
  obtain ⟨locs, hlocs⟩ : ∃ x : List Loc, x = [] := ⟨_, rfl⟩
  rw [← hlocs] at hS ⊢
  have hP : va_P D vwCl (wA ad cI cZ cJ u) H := by rw [hH]; exact hP
  have hS : va_S A s.heap H locs := by rw [hH]; exact hS
  suffices g : W p l e ({ frames := 1, cells := 0, slots := 0, locals := 26 } : Room) s m [.ref (ad 2), .int a1, .int a2, .int a3].toArray below meth c H locs 0 0 (MQ below (gw_Q D vwCl (wA ad cI cZ cJ) A u (some (.int r))) [.ref (ad 2), .int a1, .int a2, .int a3].toArray s 0 0 A) (F0 m 0 ls []) by rw [hH] at g; exact g
  unfold f_Ag_holding at h
  refine lv_iconst (v := (0 : Int32)) hx hb dAg_holding_0 (by decide) ?_
  refine lv_istore (lv' := [(4, .int (0 : Int32)), (0, .ref (ad 2)), (1, .int a1), (2, .int a2), (3, .int a3)]) hx hb dAg_holding_1 hl (by decide) rfl (fun ls hl => ?_)
  exact lp_Ag_holding_3 hC N N u a1 a2 a3 (0 : Int32) _ h H locs ls hP hD hS (lv_sub hl [1, 2, 3, 4, 0] rfl)
set_option maxHeartbeats 4000000 in
set_option maxRecDepth 100000 in
theorem c_As_visits (l : Launch) (D : va_G) (ad : Nat → Nat) (cI cZ cJ : ClassId) (u : StA) (a1 : Int32) (r : Int32) (h : f_As_visits u a1 = some r) : gw_Ct l D vwCl (tA cI cZ cJ) (wA ad cI cZ cJ) yAs_visits (Cond.code yAs_visits cAs_visits 2 (some .int) :: gG) ({ frames := 1, cells := 0, slots := 0, locals := 20 } : Room) [.ref (ad 3), .int a1] u (some (.int r)) u := by
  refine gw_enter (by decide) (Nat.le_of_ble_eq_true rfl) ?_
  intro p e s m below meth c A hC hP hD hS ls hl
  obtain ⟨hx, hb, hr, hml, hG, hown, hlocks, hK, hA⟩ := id hC
  have hl : lv_has ls 2 [(0, .ref (ad 3)), (1, .int a1)] := hl
  obtain ⟨H, hH⟩ : ∃ H, H = s.heap := ⟨_, rfl⟩
  obtain ⟨locs, hlocs⟩ : ∃ x : List Loc, x = [] := ⟨_, rfl⟩
  rw [← hlocs] at hS ⊢
  have hP : va_P D vwCl (wA ad cI cZ cJ u) H := by rw [hH]; exact hP
  have hS : va_S A s.heap H locs := by rw [hH]; exact hS
  suffices g : W p l e ({ frames := 1, cells := 0, slots := 0, locals := 20 } : Room) s m [.ref (ad 3), .int a1].toArray below meth c H locs 0 0 (MQ below (gw_Q D vwCl (wA ad cI cZ cJ) A u (some (.int r))) [.ref (ad 3), .int a1].toArray s 0 0 A) (F0 m 0 ls []) by rw [hH] at g; exact g
  unfold f_As_visits at h
  refine lv_aload_n hx hb dAs_visits_0 rfl (lv_at hl 0 rfl) ?_
  refine va_get (D := D) (ci := 3) (v := .ref (ad 23)) (C := RAs) (T := TAs) (N := 10) hx hb hG inAs hown hK hP 3 rfl rfl 7 (by decide) (hG _ mw_99) (fun _ h9 => h9) rfl dAs_visits_1 ?_
  refine lv_iload_n hx hb dAs_visits_4 rfl (lv_at hl 1 rfl) ?_
  obtain ⟨hg1, h⟩ := gI_some h
  refine va_iald (f := (u.2.1 17)) hx hb hK hP 23 0 rfl rfl hg1 dAs_visits_5 ?_
  refine gw_callS (As := [.int (u.2.1 17 (a1).toNatClampNeg)]) (rest := []) (u := u) (u' := u) hx hb hml hown hG (c_JI_bitCount l D ad cI cZ cJ u (u.2.1 17 (a1).toNatClampNeg) _ rfl) lk_As_48 rfl rfl ⟨Nat.le_of_ble_eq_true rfl, Nat.le_of_ble_eq_true rfl⟩ hK hP hD hS hA rfl hl.1 rfl (Nat.le_of_ble_eq_true rfl) dAs_visits_6 ⟨Nat.le_of_ble_eq_true rfl, Nat.le_of_ble_eq_true rfl⟩ (fun H locs hP hD hS => ?_)
  cases h
  exact gw_iret hx hb hr hlocks hP hD hS dAs_visits_9
