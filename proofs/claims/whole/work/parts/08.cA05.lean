set_option maxHeartbeats 4000000 in
set_option maxRecDepth 100000 in
theorem c_Lo_add (l : Launch) (D : va_G) (ad : Nat → Nat) (cI cZ cJ : ClassId) (N : Nat) (u : StA) (a1 : Int32) (a2 : Int32) (a3 : Int32) (a4 : Int32) (w : StA) (h : f_Lo_add N u a1 a2 a3 a4 = some w) : gw_Ct l D vwCl (tA cI cZ cJ) (wA ad cI cZ cJ) yLo_add (Cond.code yLo_add cLo_add 5 none :: gG) ({ frames := 3, cells := 0, slots := 0, locals := 66 } : Room) [.ref (ad 4), .int a1, .int a2, .int a3, .int a4] u (none) w := by
  refine gw_enter (by decide) (Nat.le_of_ble_eq_true rfl) ?_
  intro p e s m below meth c A hC hP hD hS ls hl
  obtain ⟨hx, hb, hr, hml, hG, hown, hlocks, hK, hA⟩ := id hC
  have hl : lv_has ls 5 [(0, .ref (ad 4)), (1, .int a1), (2, .int a2), (3, .int a3), (4, .int a4)] := hl
  obtain ⟨H, hH⟩ : ∃ H, H = s.heap := ⟨_, rfl⟩
  obtain ⟨locs, hlocs⟩ : ∃ x : List Loc, x = [] := ⟨_, rfl⟩
  rw [← hlocs] at hS ⊢
  have hP : va_P D vwCl (wA ad cI cZ cJ u) H := by rw [hH]; exact hP
  have hS : va_S A s.heap H locs := by rw [hH]; exact hS
  suffices g : W p l e ({ frames := 3, cells := 0, slots := 0, locals := 66 } : Room) s m [.ref (ad 4), .int a1, .int a2, .int a3, .int a4].toArray below meth c H locs 0 0 (MQ below (gw_Q D vwCl (wA ad cI cZ cJ) A w (none)) [.ref (ad 4), .int a1, .int a2, .int a3, .int a4].toArray s 0 0 A) (F0 m 0 ls []) by rw [hH] at g; exact g
  unfold f_Lo_add at h
  refine lv_aload_n hx hb dLo_add_0 rfl (lv_at hl 0 rfl) ?_
  refine va_get (D := D) (ci := 4) (v := .ref (ad 26)) (C := RLo) (T := TLo) (N := 7) hx hb hG inLo hown hK hP 4 rfl rfl 1 (by decide) (hG _ mw_133) (fun _ h9 => h9) rfl dLo_add_1 ?_
  refine lv_aload_n hx hb dLo_add_4 rfl (lv_at hl 0 rfl) ?_
  refine va_get (D := D) (ci := 4) (v := .int (u.1 6)) (C := RLo) (T := TLo) (N := 7) hx hb hG inLo hown hK hP 4 rfl rfl 6 (by decide) (hG _ mw_143) (fun _ h9 => h9) rfl dLo_add_5 ?_
  refine lv_aload_n hx hb dLo_add_8 rfl (lv_at hl 0 rfl) ?_
  refine lv_iload_n hx hb dLo_add_9 rfl (lv_at hl 1 rfl) ?_
  obtain ⟨q1, q1_h, h⟩ := gw_bind h
  refine gw_callV (As := [.int a1]) (rest := [.int (u.1 6), .ref (ad 26)]) (u := u) (u' := u) hx hb hml hown hG (c_Lo_freeName l D ad cI cZ cJ N u a1 _ q1_h) lk_Lo_34 rfl rfl ⟨Nat.le_of_ble_eq_true rfl, Nat.le_of_ble_eq_true rfl⟩ (va_recv hK hP (ci := 4) (q0 := 4) rfl rfl) hK hP hD hS hA rfl hl.1 rfl (Nat.le_of_ble_eq_true rfl) dLo_add_10 ⟨Nat.le_of_ble_eq_true rfl, Nat.le_of_ble_eq_true rfl⟩ (fun H locs hP hD hS => ?_)
  obtain ⟨hg2, h⟩ := gI_some h
  refine va_iast (f := (u.2.1 20)) hx hb hK hP hD hS 26 0 rfl rfl hg2 dLo_add_13 (fun H locs hP hD hS => ?_)
  rw [wA_a20] at hP hD
  refine lv_aload_n hx hb dLo_add_14 rfl (lv_at hl 0 rfl) ?_
  refine va_get (D := D) (ci := 4) (v := .ref (ad 25)) (C := RLo) (T := TLo) (N := 7) hx hb hG inLo hown hK hP 4 rfl rfl 0 (by decide) (hG _ mw_131) (fun _ h9 => h9) rfl dLo_add_15 ?_
  refine lv_aload_n hx hb dLo_add_18 rfl (lv_at hl 0 rfl) ?_
  refine va_get (D := D) (ci := 4) (v := .int (u.1 6)) (C := RLo) (T := TLo) (N := 7) hx hb hG inLo hown hK hP 4 rfl rfl 6 (by decide) (hG _ mw_143) (fun _ h9 => h9) rfl dLo_add_19 ?_
  refine lv_iload_n hx hb dLo_add_22 rfl (lv_at hl 1 rfl) ?_
  refine va_iast (f := ((sA u 20 ((u.1 6)).toNatClampNeg q1).2.1 19)) hx hb hK hP hD hS 25 0 rfl rfl hg2 dLo_add_23 (fun H locs hP hD hS => ?_)
  rw [wA_a19] at hP hD
  refine lv_aload_n hx hb dLo_add_24 rfl (lv_at hl 0 rfl) ?_
  refine va_get (D := D) (ci := 4) (v := .ref (ad 27)) (C := RLo) (T := TLo) (N := 7) hx hb hG inLo hown hK hP 4 rfl rfl 2 (by decide) (hG _ mw_135) (fun _ h9 => h9) rfl dLo_add_25 ?_
  refine lv_aload_n hx hb dLo_add_28 rfl (lv_at hl 0 rfl) ?_
  refine va_get (D := D) (ci := 4) (v := .int (u.1 6)) (C := RLo) (T := TLo) (N := 7) hx hb hG inLo hown hK hP 4 rfl rfl 6 (by decide) (hG _ mw_143) (fun _ h9 => h9) rfl dLo_add_29 ?_
  refine lv_iload_n hx hb dLo_add_32 rfl (lv_at hl 2 rfl) ?_
  refine va_iast (f := ((sA (sA u 20 ((u.1 6)).toNatClampNeg q1) 19 ((u.1 6)).toNatClampNeg a1).2.1 21)) hx hb hK hP hD hS 27 0 rfl rfl hg2 dLo_add_33 (fun H locs hP hD hS => ?_)
  rw [wA_a21] at hP hD
  refine lv_aload_n hx hb dLo_add_34 rfl (lv_at hl 0 rfl) ?_
  refine va_get (D := D) (ci := 4) (v := .ref (ad 28)) (C := RLo) (T := TLo) (N := 7) hx hb hG inLo hown hK hP 4 rfl rfl 3 (by decide) (hG _ mw_137) (fun _ h9 => h9) rfl dLo_add_35 ?_
  refine lv_aload_n hx hb dLo_add_38 rfl (lv_at hl 0 rfl) ?_
  refine va_get (D := D) (ci := 4) (v := .int (u.1 6)) (C := RLo) (T := TLo) (N := 7) hx hb hG inLo hown hK hP 4 rfl rfl 6 (by decide) (hG _ mw_143) (fun _ h9 => h9) rfl dLo_add_39 ?_
  refine lv_iload_n hx hb dLo_add_42 rfl (lv_at hl 3 rfl) ?_
  refine va_iast (f := ((sA (sA (sA u 20 ((u.1 6)).toNatClampNeg q1) 19 ((u.1 6)).toNatClampNeg a1) 21 ((u.1 6)).toNatClampNeg a2).2.1 22)) hx hb hK hP hD hS 28 0 rfl rfl hg2 dLo_add_43 (fun H locs hP hD hS => ?_)
  rw [wA_a22] at hP hD
  refine lv_aload_n hx hb dLo_add_44 rfl (lv_at hl 0 rfl) ?_
  refine va_get (D := D) (ci := 4) (v := .ref (ad 29)) (C := RLo) (T := TLo) (N := 7) hx hb hG inLo hown hK hP 4 rfl rfl 4 (by decide) (hG _ mw_139) (fun _ h9 => h9) rfl dLo_add_45 ?_
  refine lv_aload_n hx hb dLo_add_48 rfl (lv_at hl 0 rfl) ?_
  refine va_get (D := D) (ci := 4) (v := .int (u.1 6)) (C := RLo) (T := TLo) (N := 7) hx hb hG inLo hown hK hP 4 rfl rfl 6 (by decide) (hG _ mw_143) (fun _ h9 => h9) rfl dLo_add_49 ?_
  refine lv_iload hx hb dLo_add_52 (lv_at hl 4 rfl) ?_
  refine va_iast (f := ((sA (sA (sA (sA u 20 ((u.1 6)).toNatClampNeg q1) 19 ((u.1 6)).toNatClampNeg a1) 21 ((u.1 6)).toNatClampNeg a2) 22 ((u.1 6)).toNatClampNeg a3).2.1 23)) hx hb hK hP hD hS 29 0 rfl rfl hg2 dLo_add_54 (fun H locs hP hD hS => ?_)
  rw [wA_a23] at hP hD
  refine lv_aload_n hx hb dLo_add_55 rfl (lv_at hl 0 rfl) ?_
  refine va_get (D := D) (ci := 4) (v := .ref (ad 30)) (C := RLo) (T := TLo) (N := 7) hx hb hG inLo hown hK hP 4 rfl rfl 5 (by decide) (hG _ mw_141) (fun _ h9 => h9) rfl dLo_add_56 ?_
  refine lv_aload_n hx hb dLo_add_59 rfl (lv_at hl 0 rfl) ?_
  refine va_get (D := D) (ci := 4) (v := .int (u.1 6)) (C := RLo) (T := TLo) (N := 7) hx hb hG inLo hown hK hP 4 rfl rfl 6 (by decide) (hG _ mw_143) (fun _ h9 => h9) rfl dLo_add_60 ?_
  refine lv_iconst (v := (-1 : Int32)) hx hb dLo_add_63 (by decide) ?_
  refine va_iast (f := ((sA (sA (sA (sA (sA u 20 ((u.1 6)).toNatClampNeg q1) 19 ((u.1 6)).toNatClampNeg a1) 21 ((u.1 6)).toNatClampNeg a2) 22 ((u.1 6)).toNatClampNeg a3) 23 ((u.1 6)).toNatClampNeg a4).2.1 24)) hx hb hK hP hD hS 30 0 rfl rfl hg2 dLo_add_64 (fun H locs hP hD hS => ?_)
  rw [wA_a24] at hP hD
  refine lv_aload_n hx hb dLo_add_65 rfl (lv_at hl 0 rfl) ?_
  refine lv_dup hx hb dLo_add_66 rfl ?_
  refine va_get (D := D) (ci := 4) (v := .int (u.1 6)) (C := RLo) (T := TLo) (N := 7) hx hb hG inLo hown hK hP 4 rfl rfl 6 (by decide) (hG _ mw_143) (fun _ h9 => h9) rfl dLo_add_67 ?_
  refine lv_iconst (v := (1 : Int32)) hx hb dLo_add_70 (by decide) ?_
  refine lv_iadd hx hb dLo_add_71 ?_
  refine va_put (D := D) (ci := 4) (v := .int ((u.1 6) + (1 : Int32))) (ty := .int) (C := RLo) (T := TLo) (N := 7) hx hb hG inLo tyLo tyLo_ok nmLo hown hK hP hD hS 4 rfl rfl 6 (by decide) (hG _ mw_143) (fun _ h9 => h9) rfl (by decide +kernel) rfl rfl (Nat.le_of_ble_eq_true rfl) dLo_add_72 (fun H locs hP hD hS => ?_)
  rw [wA_f6] at hP hD
  cases h
  exact gw_vret hx hb hr hlocks hP hD hS dLo_add_75
set_option maxHeartbeats 4000000 in
set_option maxRecDepth 100000 in
theorem lp_A_lend_26 {p : Program} {l : Launch} {e : Env} {s : State} {m : MethodId} {args : Array Value} {below : List Frame} {meth : Method} {c : Code} {A : Nat → Prop} {D : va_G} {ad : Nat → Nat} {cI cZ cJ : ClassId} (hC : gw_C p s m args meth c "AidRows" cA_lend 7 none gG D vwCl (tA cI cZ cJ) A) (N : Nat) : ∀ (n : Nat) (u : StA) (x1 : Int32) (x2 : Int32) (x3 : Int32) (x4 : Int32) (x5 : Int32) (x6 : Int32) (w : StA), f_A_lend_26 N n u x1 x2 x3 x4 x5 x6 = some w → ∀ (H : Heap) (locs : List Loc) (ls : Array Slot), va_P D vwCl (wA ad cI cZ cJ u) H → va_D A (wA ad cI cZ cJ u) → va_S A s.heap H locs → lv_has ls 7 [(0, .ref (ad 0)), (1, .int x1), (2, .int x2), (3, .int x3), (4, .int x4), (5, .int x5), (6, .int x6)] → W p l e ({ frames := 4, cells := 0, slots := 0, locals := 90 } : Room) s m args below meth c H locs 0 0 (MQ below (gw_Q D vwCl (wA ad cI cZ cJ) A w (none)) args s 0 0 A) (F0 m 26 ls []) := by
  obtain ⟨hx, hb, hr, hml, hG, hown, hlocks, hK, hA⟩ := id hC
  intro n
  induction n with
  | zero => intro u x1 x2 x3 x4 x5 x6 w h; cases h
  | succ n ih =>
    intro u x1 x2 x3 x4 x5 x6 w h H locs ls hP hD hS hl
    rw [f_A_lend_26] at h
    refine lv_iload hx hb dA_lend_26 (lv_at hl 6 rfl) ?_
    refine lv_iload_n hx hb dA_lend_28 rfl (lv_at hl 3 rfl) ?_
    refine lv_icmp_ge (tgt := 51) hx hb dA_lend_29 (by decide) (fun hc => ?_) (fun hc => ?_)
    · rw [if_pos hc] at h
      refine lv_aload_n hx hb dA_lend_51 rfl (lv_at hl 0 rfl) ?_
      refine va_get (D := D) (ci := 0) (v := .ref (ad 3)) (C := RA) (T := TA) (N := 9) hx hb hG inA hown hK hP 0 rfl rfl 2 (by decide) (hG _ mw_176) (fun _ h9 => h9) rfl dA_lend_52 ?_
      refine va_get (D := D) (ci := 3) (v := .ref (ad 22)) (C := RAs) (T := TAs) (N := 10) hx hb hG inAs hown hK hP 3 rfl rfl 6 (by decide) (hG _ mw_98) (fun _ h9 => h9) rfl dA_lend_55 ?_
      refine lv_iload_n hx hb dA_lend_58 rfl (lv_at hl 1 rfl) ?_
      refine lv_dup2_11 hx hb dA_lend_59 rfl rfl ?_
      obtain ⟨hg3, h⟩ := gI_some h
      refine va_iald (f := (u.2.1 16)) hx hb hK hP 22 0 rfl rfl hg3 dA_lend_60 ?_
      refine lv_iload_n hx hb dA_lend_61 rfl (lv_at hl 3 rfl) ?_
      refine lv_iadd hx hb dA_lend_62 ?_
      refine va_iast (f := (u.2.1 16)) hx hb hK hP hD hS 22 0 rfl rfl hg3 dA_lend_63 (fun H locs hP hD hS => ?_)
      rw [wA_a16] at hP hD
      cases h
      exact gw_vret hx hb hr hlocks hP hD hS dA_lend_64
    · rw [if_neg hc] at h
      refine lv_aload_n hx hb dA_lend_32 rfl (lv_at hl 0 rfl) ?_
      refine va_get (D := D) (ci := 0) (v := .ref (ad 4)) (C := RA) (T := TA) (N := 9) hx hb hG inA hown hK hP 0 rfl rfl 3 (by decide) (hG _ mw_177) (fun _ h9 => h9) rfl dA_lend_33 ?_
      refine lv_iload_n hx hb dA_lend_36 rfl (lv_at hl 2 rfl) ?_
      refine lv_iload_n hx hb dA_lend_37 rfl (lv_at hl 1 rfl) ?_
      refine lv_iload hx hb dA_lend_38 (lv_at hl 5 rfl) ?_
      refine lv_iload hx hb dA_lend_40 (lv_at hl 4 rfl) ?_
      obtain ⟨q4, q4_h, h⟩ := gw_bind h
      refine gw_callV (As := [.int x2, .int x1, .int x5, .int x4]) (rest := []) (u := u) (u' := q4) hx hb hml hown hG (c_Lo_add l D ad cI cZ cJ N u x2 x1 x5 x4 _ q4_h) lk_A_304 rfl rfl ⟨Nat.le_of_ble_eq_true rfl, Nat.le_of_ble_eq_true rfl⟩ (va_recv hK hP (ci := 4) (q0 := 4) rfl rfl) hK hP hD hS hA rfl hl.1 rfl (Nat.le_of_ble_eq_true rfl) dA_lend_42 ⟨Nat.le_of_ble_eq_true rfl, Nat.le_of_ble_eq_true rfl⟩ (fun H locs hP hD hS => ?_)
      refine lv_iinc (v := (x6 + (1 : Int32))) (lv' := [(6, .int (x6 + (1 : Int32))), (0, .ref (ad 0)), (1, .int x1), (2, .int x2), (3, .int x3), (4, .int x4), (5, .int x5)]) hx hb dA_lend_45 hl (k := 6) rfl rfl (by decide) rfl (fun ls hl => ?_)
      refine lv_goto (tgt := 26) hx hb dA_lend_48 (by decide) ?_
      exact ih q4 x1 x2 x3 x4 x5 (x6 + (1 : Int32)) _ h H locs ls hP hD hS (lv_sub hl [1, 2, 3, 4, 5, 6, 0] rfl)
set_option maxHeartbeats 4000000 in
set_option maxRecDepth 100000 in
theorem c_A_lend (l : Launch) (D : va_G) (ad : Nat → Nat) (cI cZ cJ : ClassId) (N : Nat) (u : StA) (a1 : Int32) (a2 : Int32) (a3 : Int32) (a4 : Int32) (w : StA) (h : f_A_lend N u a1 a2 a3 a4 = some w) : gw_Ct l D vwCl (tA cI cZ cJ) (wA ad cI cZ cJ) yA_lend (Cond.code yA_lend cA_lend 7 none :: gG) ({ frames := 4, cells := 0, slots := 0, locals := 90 } : Room) [.ref (ad 0), .int a1, .int a2, .int a3, .int a4] u (none) w := by
  refine gw_enter (by decide) (Nat.le_of_ble_eq_true rfl) ?_
  intro p e s m below meth c A hC hP hD hS ls hl
  obtain ⟨hx, hb, hr, hml, hG, hown, hlocks, hK, hA⟩ := id hC
  have hl : lv_has ls 7 [(0, .ref (ad 0)), (1, .int a1), (2, .int a2), (3, .int a3), (4, .int a4)] := hl
  obtain ⟨H, hH⟩ : ∃ H, H = s.heap := ⟨_, rfl⟩
  obtain ⟨locs, hlocs⟩ : ∃ x : List Loc, x = [] := ⟨_, rfl⟩
  rw [← hlocs] at hS ⊢
  have hP : va_P D vwCl (wA ad cI cZ cJ u) H := by rw [hH]; exact hP
  have hS : va_S A s.heap H locs := by rw [hH]; exact hS
  suffices g : W p l e ({ frames := 4, cells := 0, slots := 0, locals := 90 } : Room) s m [.ref (ad 0), .int a1, .int a2, .int a3, .int a4].toArray below meth c H locs 0 0 (MQ below (gw_Q D vwCl (wA ad cI cZ cJ) A w (none)) [.ref (ad 0), .int a1, .int a2, .int a3, .int a4].toArray s 0 0 A) (F0 m 0 ls []) by rw [hH] at g; exact g
  unfold f_A_lend at h
  refine lv_aload_n hx hb dA_lend_0 rfl (lv_at hl 0 rfl) ?_
  refine va_get (D := D) (ci := 0) (v := .ref (ad 2)) (C := RA) (T := TA) (N := 9) hx hb hG inA hown hK hP 0 rfl rfl 1 (by decide) (hG _ mw_175) (fun _ h9 => h9) rfl dA_lend_1 ?_
  refine lv_iload_n hx hb dA_lend_4 rfl (lv_at hl 2 rfl) ?_
  refine lv_aload_n hx hb dA_lend_5 rfl (lv_at hl 0 rfl) ?_
  refine va_get (D := D) (ci := 0) (v := .ref (ad 3)) (C := RA) (T := TA) (N := 9) hx hb hG inA hown hK hP 0 rfl rfl 2 (by decide) (hG _ mw_176) (fun _ h9 => h9) rfl dA_lend_6 ?_
  refine va_get (D := D) (ci := 3) (v := .ref (ad 16)) (C := RAs) (T := TAs) (N := 10) hx hb hG inAs hown hK hP 3 rfl rfl 0 (by decide) (hG _ mw_88) (fun _ h9 => h9) rfl dA_lend_9 ?_
  refine lv_iload_n hx hb dA_lend_12 rfl (lv_at hl 1 rfl) ?_
  obtain ⟨hg1, h⟩ := gI_some h
  refine va_iald (f := (u.2.1 10)) hx hb hK hP 16 0 rfl rfl hg1 dA_lend_13 ?_
  refine lv_aload_n hx hb dA_lend_14 rfl (lv_at hl 0 rfl) ?_
  refine va_get (D := D) (ci := 0) (v := .int (u.1 0)) (C := RA) (T := TA) (N := 9) hx hb hG inA hown hK hP 0 rfl rfl 6 (by decide) (hG _ mw_180) (fun _ h9 => h9) rfl dA_lend_15 ?_
  obtain ⟨q2, q2_h, h⟩ := gw_bind h
  refine gw_callV (As := [.int a2, .int (u.2.1 10 (a1).toNatClampNeg), .int (u.1 0)]) (rest := []) (u := u) (u' := u) hx hb hml hown hG (c_Ag_holding l D ad cI cZ cJ N u a2 (u.2.1 10 (a1).toNatClampNeg) (u.1 0) _ q2_h) lk_A_275 rfl rfl ⟨Nat.le_of_ble_eq_true rfl, Nat.le_of_ble_eq_true rfl⟩ (va_recv hK hP (ci := 2) (q0 := 2) rfl rfl) hK hP hD hS hA rfl hl.1 rfl (Nat.le_of_ble_eq_true rfl) dA_lend_18 ⟨Nat.le_of_ble_eq_true rfl, Nat.le_of_ble_eq_true rfl⟩ (fun H locs hP hD hS => ?_)
  refine lv_istore (lv' := [(5, .int q2), (0, .ref (ad 0)), (1, .int a1), (2, .int a2), (3, .int a3), (4, .int a4)]) hx hb dA_lend_21 hl (by decide) rfl (fun ls hl => ?_)
  refine lv_iconst (v := (0 : Int32)) hx hb dA_lend_23 (by decide) ?_
  refine lv_istore (lv' := [(6, .int (0 : Int32)), (5, .int q2), (0, .ref (ad 0)), (1, .int a1), (2, .int a2), (3, .int a3), (4, .int a4)]) hx hb dA_lend_24 hl (by decide) rfl (fun ls hl => ?_)
  exact lp_A_lend_26 hC N N u a1 a2 a3 a4 q2 (0 : Int32) _ h H locs ls hP hD hS (lv_sub hl [2, 3, 4, 5, 6, 1, 0] rfl)
set_option maxHeartbeats 4000000 in
set_option maxRecDepth 100000 in
theorem lp_A_take_18 {p : Program} {l : Launch} {e : Env} {s : State} {m : MethodId} {args : Array Value} {below : List Frame} {meth : Method} {c : Code} {A : Nat → Prop} {D : va_G} {ad : Nat → Nat} {cI cZ cJ : ClassId} (hC : gw_C p s m args meth c "AidRows" cA_take 5 none gG D vwCl (tA cI cZ cJ) A) (N : Nat) : ∀ (u : StA) (x1 : Int32) (x2 : Int32) (x3 : Int32) (x4 : Int32) (w : StA), f_A_take_18 N u x1 x2 x3 x4 = some w → ∀ (H : Heap) (locs : List Loc) (ls : Array Slot), va_P D vwCl (wA ad cI cZ cJ u) H → va_D A (wA ad cI cZ cJ u) → va_S A s.heap H locs → lv_has ls 5 [(0, .ref (ad 0)), (1, .int x1), (2, .int x2), (3, .int x3), (4, .int x4)] → W p l e ({ frames := 5, cells := 0, slots := 0, locals := 116 } : Room) s m args below meth c H locs 0 0 (MQ below (gw_Q D vwCl (wA ad cI cZ cJ) A w (none)) args s 0 0 A) (F0 m 18 ls []) := by
  obtain ⟨hx, hb, hr, hml, hG, hown, hlocks, hK, hA⟩ := id hC
  intro u x1 x2 x3 x4 w h H locs ls hP hD hS hl
  unfold f_A_take_18 at h
  refine lv_aload_n hx hb dA_take_18 rfl (lv_at hl 0 rfl) ?_
  refine va_get (D := D) (ci := 0) (v := .ref (ad 3)) (C := RA) (T := TA) (N := 9) hx hb hG inA hown hK hP 0 rfl rfl 2 (by decide) (hG _ mw_176) (fun _ h9 => h9) rfl dA_take_19 ?_
  refine lv_iload_n hx hb dA_take_22 rfl (lv_at hl 1 rfl) ?_
  obtain ⟨q2, q2_h, h⟩ := gw_bind h
  refine gw_callV (As := [.int x1]) (rest := []) (u := u) (u' := u) hx hb hml hown hG (c_As_wanting l D ad cI cZ cJ u x1 _ q2_h) lk_A_287 rfl rfl ⟨Nat.le_of_ble_eq_true rfl, Nat.le_of_ble_eq_true rfl⟩ (va_recv hK hP (ci := 3) (q0 := 3) rfl rfl) hK hP hD hS hA rfl hl.1 rfl (Nat.le_of_ble_eq_true rfl) dA_take_23 ⟨Nat.le_of_ble_eq_true rfl, Nat.le_of_ble_eq_true rfl⟩ (fun H locs hP hD hS => ?_)
  refine lv_if_ne (tgt := 41) hx hb dA_take_26 (by decide) (fun hc => ?_) (fun hc => ?_)
  · rw [if_neg hc] at h
    refine lv_aload_n hx hb dA_take_41 rfl (lv_at hl 0 rfl) ?_
    refine lv_iload_n hx hb dA_take_42 rfl (lv_at hl 1 rfl) ?_
    obtain ⟨q3, q3_h, h⟩ := gw_bind h
    refine gw_callV (As := [.int x1]) (rest := []) (u := u) (u' := q3) hx hb hml hown hG (c_A_sendOn l D ad cI cZ cJ N u x1 _ q3_h) lk_A_121 rfl rfl ⟨Nat.le_of_ble_eq_true rfl, Nat.le_of_ble_eq_true rfl⟩ (va_recv hK hP (ci := 0) (q0 := 0) rfl rfl) hK hP hD hS hA rfl hl.1 rfl (Nat.le_of_ble_eq_true rfl) dA_take_43 ⟨Nat.le_of_ble_eq_true rfl, Nat.le_of_ble_eq_true rfl⟩ (fun H locs hP hD hS => ?_)
    cases h
    exact gw_vret hx hb hr hlocks hP hD hS dA_take_46
  · rw [if_pos hc] at h
    refine lv_aload_n hx hb dA_take_29 rfl (lv_at hl 0 rfl) ?_
    refine va_get (D := D) (ci := 0) (v := .ref (ad 3)) (C := RA) (T := TA) (N := 9) hx hb hG inA hown hK hP 0 rfl rfl 2 (by decide) (hG _ mw_176) (fun _ h9 => h9) rfl dA_take_30 ?_
    refine lv_iload_n hx hb dA_take_33 rfl (lv_at hl 1 rfl) ?_
    refine lv_iconst (v := (1 : Int32)) hx hb dA_take_34 (by decide) ?_
    obtain ⟨q4, q4_h, h⟩ := gw_bind h
    refine gw_callV (As := [.int x1, .int (1 : Int32)]) (rest := []) (u := u) (u' := q4) hx hb hml hown hG (c_As_close l D ad cI cZ cJ u x1 (1 : Int32) _ q4_h) lk_A_260 rfl rfl ⟨Nat.le_of_ble_eq_true rfl, Nat.le_of_ble_eq_true rfl⟩ (va_recv hK hP (ci := 3) (q0 := 3) rfl rfl) hK hP hD hS hA rfl hl.1 rfl (Nat.le_of_ble_eq_true rfl) dA_take_35 ⟨Nat.le_of_ble_eq_true rfl, Nat.le_of_ble_eq_true rfl⟩ (fun H locs hP hD hS => ?_)
    refine lv_goto (tgt := 46) hx hb dA_take_38 (by decide) ?_
    cases h
    exact gw_vret hx hb hr hlocks hP hD hS dA_take_46
set_option maxHeartbeats 4000000 in
set_option maxRecDepth 100000 in
theorem c_A_take (l : Launch) (D : va_G) (ad : Nat → Nat) (cI cZ cJ : ClassId) (N : Nat) (u : StA) (a1 : Int32) (a2 : Int32) (a3 : Int32) (a4 : Int32) (w : StA) (h : f_A_take N u a1 a2 a3 a4 = some w) : gw_Ct l D vwCl (tA cI cZ cJ) (wA ad cI cZ cJ) yA_take (Cond.code yA_take cA_take 5 none :: gG) ({ frames := 5, cells := 0, slots := 0, locals := 116 } : Room) [.ref (ad 0), .int a1, .int a2, .int a3, .int a4] u (none) w := by
  refine gw_enter (by decide) (Nat.le_of_ble_eq_true rfl) ?_
  intro p e s m below meth c A hC hP hD hS ls hl
  obtain ⟨hx, hb, hr, hml, hG, hown, hlocks, hK, hA⟩ := id hC
  have hl : lv_has ls 5 [(0, .ref (ad 0)), (1, .int a1), (2, .int a2), (3, .int a3), (4, .int a4)] := hl
  obtain ⟨H, hH⟩ : ∃ H, H = s.heap := ⟨_, rfl⟩
  obtain ⟨locs, hlocs⟩ : ∃ x : List Loc, x = [] := ⟨_, rfl⟩
  rw [← hlocs] at hS ⊢
  have hP : va_P D vwCl (wA ad cI cZ cJ u) H := by rw [hH]; exact hP
  have hS : va_S A s.heap H locs := by rw [hH]; exact hS
  suffices g : W p l e ({ frames := 5, cells := 0, slots := 0, locals := 116 } : Room) s m [.ref (ad 0), .int a1, .int a2, .int a3, .int a4].toArray below meth c H locs 0 0 (MQ below (gw_Q D vwCl (wA ad cI cZ cJ) A w (none)) [.ref (ad 0), .int a1, .int a2, .int a3, .int a4].toArray s 0 0 A) (F0 m 0 ls []) by rw [hH] at g; exact g
  unfold f_A_take at h
  refine lv_iload_n hx hb dA_take_0 rfl (lv_at hl 3 rfl) ?_
  refine lv_if_le (tgt := 18) hx hb dA_take_1 (by decide) (fun hc => ?_) (fun hc => ?_)
  · rw [if_pos hc] at h
    exact lp_A_take_18 hC N u a1 a2 a3 a4 _ h H locs ls hP hD hS (lv_sub hl [0, 1, 2, 3, 4] rfl)
  · rw [if_neg hc] at h
    refine lv_aload_n hx hb dA_take_4 rfl (lv_at hl 0 rfl) ?_
    refine lv_iload_n hx hb dA_take_5 rfl (lv_at hl 1 rfl) ?_
    refine lv_iload_n hx hb dA_take_6 rfl (lv_at hl 2 rfl) ?_
    refine lv_iload_n hx hb dA_take_7 rfl (lv_at hl 3 rfl) ?_
    refine lv_aload_n hx hb dA_take_8 rfl (lv_at hl 0 rfl) ?_
    refine va_get (D := D) (ci := 0) (v := .int (u.1 0)) (C := RA) (T := TA) (N := 9) hx hb hG inA hown hK hP 0 rfl rfl 6 (by decide) (hG _ mw_180) (fun _ h9 => h9) rfl dA_take_9 ?_
    refine lv_iload hx hb dA_take_12 (lv_at hl 4 rfl) ?_
    refine lv_iadd hx hb dA_take_14 ?_
    obtain ⟨q1, q1_h, h⟩ := gw_bind h
    refine gw_callV (As := [.int a1, .int a2, .int a3, .int ((u.1 0) + a4)]) (rest := []) (u := u) (u' := q1) hx hb hml hown hG (c_A_lend l D ad cI cZ cJ N u a1 a2 a3 ((u.1 0) + a4) _ q1_h) lk_A_301 rfl rfl ⟨Nat.le_of_ble_eq_true rfl, Nat.le_of_ble_eq_true rfl⟩ (va_recv hK hP (ci := 0) (q0 := 0) rfl rfl) hK hP hD hS hA rfl hl.1 rfl (Nat.le_of_ble_eq_true rfl) dA_take_15 ⟨Nat.le_of_ble_eq_true rfl, Nat.le_of_ble_eq_true rfl⟩ (fun H locs hP hD hS => ?_)
    exact lp_A_take_18 hC N q1 a1 a2 a3 a4 _ h H locs ls hP hD hS (lv_sub hl [0, 1, 2, 3, 4] rfl)
