set_option maxHeartbeats 4000000 in
set_option maxRecDepth 100000 in
theorem lp_B_holds_70 {p : Program} {l : Launch} {e : Env} {s : State} {m : MethodId} {args : Array Value} {below : List Frame} {meth : Method} {c : Code} {A : Nat → Prop} {D : va_G} {bd : Nat → Nat} {cI cZ : ClassId} (hC : gw_C p s m args meth c "AidRowsModel" cB_holds 4 (some .boolean) gG D vwCl (tB cI cZ) A) : ∀ (u : StB) (x1 : Int32) (x2 : Int32) (y0 : Int32) (r : Int32), f_B_holds_70 u x1 x2 y0 = some r → ∀ (H : Heap) (locs : List Loc) (ls : Array Slot), va_P D vwCl (wB bd cI cZ u) H → va_D A (wB bd cI cZ u) → va_S A s.heap H locs → lv_has ls 4 [(0, .ref (bd 0)), (1, .int x1), (2, .int x2)] → W p l e ({ frames := 1, cells := 0, slots := 0, locals := 22 } : Room) s m args below meth c H locs 0 0 (MQ below (gw_Q D vwCl (wB bd cI cZ) A u (some (.int r))) args s 0 0 A) (F0 m 70 ls [.int y0]) := by
  obtain ⟨hx, hb, hr, hml, hG, hown, hlocks, hK, hA⟩ := id hC
  intro u x1 x2 y0 r h H locs ls hP hD hS hl
  unfold f_B_holds_70 at h
  refine lv_istore_n (lv' := [(3, .int y0), (0, .ref (bd 0)), (1, .int x1), (2, .int x2)]) hx hb dB_holds_70 rfl hl (by decide) rfl (fun ls hl => ?_)
  refine lv_aload_n hx hb dB_holds_71 rfl (lv_at hl 1 rfl) ?_
  refine va_get (D := D) (ci := 6) (v := .int (u.1 1)) (C := RB) (T := TB) (N := 36) hx hb hG inB hown hK hP 0 rfl rfl 1 (by decide) (hG _ mw_646) (fun _ h9 => h9) rfl dB_holds_72 ?_
  refine lv_aload_n hx hb dB_holds_75 rfl (lv_at hl 1 rfl) ?_
  refine va_get (D := D) (ci := 6) (v := .ref (bd 6)) (C := RB) (T := TB) (N := 36) hx hb hG inB hown hK hP 0 rfl rfl 9 (by decide) (hG _ mw_654) (fun _ h9 => h9) rfl dB_holds_76 ?_
  refine lv_iload_n hx hb dB_holds_79 rfl (lv_at hl 2 rfl) ?_
  obtain ⟨hg2, h⟩ := gI_some h
  refine va_iald (f := (u.2 5)) hx hb hK hP 6 0 rfl rfl hg2 dB_holds_80 ?_
  refine lv_icmp_lt (tgt := 105) hx hb dB_holds_81 (by decide) (fun hc => ?_) (fun hc => ?_)
  · rw [if_pos hc] at h
    refine lv_iconst (v := (0 : Int32)) hx hb dB_holds_105 (by decide) ?_
    cases h
    exact gw_zret hx hb hr (by first | rfl | exact nb_B_in _ _ _) hlocks hP hD hS dB_holds_106
  · rw [if_neg hc] at h
    refine lv_aload_n hx hb dB_holds_84 rfl (lv_at hl 1 rfl) ?_
    refine va_get (D := D) (ci := 6) (v := .int (u.1 1)) (C := RB) (T := TB) (N := 36) hx hb hG inB hown hK hP 0 rfl rfl 1 (by decide) (hG _ mw_646) (fun _ h9 => h9) rfl dB_holds_85 ?_
    refine lv_aload_n hx hb dB_holds_88 rfl (lv_at hl 1 rfl) ?_
    refine va_get (D := D) (ci := 6) (v := .ref (bd 7)) (C := RB) (T := TB) (N := 36) hx hb hG inB hown hK hP 0 rfl rfl 10 (by decide) (hG _ mw_655) (fun _ h9 => h9) rfl dB_holds_89 ?_
    refine lv_iload_n hx hb dB_holds_92 rfl (lv_at hl 2 rfl) ?_
    refine va_iald (f := (u.2 6)) hx hb hK hP 7 0 rfl rfl hg2 dB_holds_93 ?_
    refine lv_icmp_ge (tgt := 105) hx hb dB_holds_94 (by decide) (fun hc => ?_) (fun hc => ?_)
    · rw [if_pos hc] at h
      refine lv_iconst (v := (0 : Int32)) hx hb dB_holds_105 (by decide) ?_
      cases h
      exact gw_zret hx hb hr (by first | rfl | exact nb_B_in _ _ _) hlocks hP hD hS dB_holds_106
    · rw [if_neg hc] at h
      refine lv_iload_n hx hb dB_holds_97 rfl (lv_at hl 0 rfl) ?_
      refine lv_if_eq (tgt := 105) hx hb dB_holds_98 (by decide) (fun hc => ?_) (fun hc => ?_)
      · rw [if_pos hc] at h
        refine lv_iconst (v := (0 : Int32)) hx hb dB_holds_105 (by decide) ?_
        cases h
        exact gw_zret hx hb hr (by first | rfl | exact nb_B_in _ _ _) hlocks hP hD hS dB_holds_106
      · rw [if_neg hc] at h
        refine lv_iconst (v := (1 : Int32)) hx hb dB_holds_101 (by decide) ?_
        refine lv_goto (tgt := 106) hx hb dB_holds_102 (by decide) ?_
        cases h
        exact gw_zret hx hb hr (by first | rfl | exact nb_B_in _ _ _) hlocks hP hD hS dB_holds_106
set_option maxHeartbeats 4000000 in
set_option maxRecDepth 100000 in
theorem lp_B_holds_65 {p : Program} {l : Launch} {e : Env} {s : State} {m : MethodId} {args : Array Value} {below : List Frame} {meth : Method} {c : Code} {A : Nat → Prop} {D : va_G} {bd : Nat → Nat} {cI cZ : ClassId} (hC : gw_C p s m args meth c "AidRowsModel" cB_holds 4 (some .boolean) gG D vwCl (tB cI cZ) A) : ∀ (u : StB) (x1 : Int32) (x2 : Int32) (r : Int32), f_B_holds_65 u x1 x2 = some r → ∀ (H : Heap) (locs : List Loc) (ls : Array Slot), va_P D vwCl (wB bd cI cZ u) H → va_D A (wB bd cI cZ u) → va_S A s.heap H locs → lv_has ls 4 [(0, .ref (bd 0)), (1, .int x1), (2, .int x2)] → W p l e ({ frames := 1, cells := 0, slots := 0, locals := 22 } : Room) s m args below meth c H locs 0 0 (MQ below (gw_Q D vwCl (wB bd cI cZ) A u (some (.int r))) args s 0 0 A) (F0 m 65 ls []) := by
  obtain ⟨hx, hb, hr, hml, hG, hown, hlocks, hK, hA⟩ := id hC
  intro u x1 x2 r h H locs ls hP hD hS hl
  unfold f_B_holds_65 at h
  refine lv_iconst (v := (1 : Int32)) hx hb dB_holds_65 (by decide) ?_
  refine lv_goto (tgt := 70) hx hb dB_holds_66 (by decide) ?_
  exact lp_B_holds_70 hC u x1 x2 (1 : Int32) _ h H locs ls hP hD hS (lv_sub hl [0, 1, 2] rfl)
set_option maxHeartbeats 4000000 in
set_option maxRecDepth 100000 in
theorem c_B_holds (l : Launch) (D : va_G) (bd : Nat → Nat) (cI cZ : ClassId) (u : StB) (a1 : Int32) (r : Int32) (h : f_B_holds u a1 = some r) : gw_Ct l D vwCl (tB cI cZ) (wB bd cI cZ) yB_holds (Cond.code yB_holds cB_holds 4 (some .boolean) :: gG) ({ frames := 1, cells := 0, slots := 0, locals := 22 } : Room) [.ref (bd 0), .int a1] u (some (.int r)) u := by
  refine gw_enter (by decide) (Nat.le_of_ble_eq_true rfl) ?_
  intro p e s m below meth c A hC hP hD hS ls hl
  obtain ⟨hx, hb, hr, hml, hG, hown, hlocks, hK, hA⟩ := id hC
  have hl : lv_has ls 4 [(0, .ref (bd 0)), (1, .int a1)] := hl
  obtain ⟨H, hH⟩ : ∃ H, H = s.heap := ⟨_, rfl⟩
  obtain ⟨locs, hlocs⟩ : ∃ x : List Loc, x = [] := ⟨_, rfl⟩
  rw [← hlocs] at hS ⊢
  have hP : va_P D vwCl (wB bd cI cZ u) H := by rw [hH]; exact hP
  have hS : va_S A s.heap H locs := by rw [hH]; exact hS
  suffices g : W p l e ({ frames := 1, cells := 0, slots := 0, locals := 22 } : Room) s m [.ref (bd 0), .int a1].toArray below meth c H locs 0 0 (MQ below (gw_Q D vwCl (wB bd cI cZ) A u (some (.int r))) [.ref (bd 0), .int a1].toArray s 0 0 A) (F0 m 0 ls []) by rw [hH] at g; exact g
  unfold f_B_holds at h
  refine lv_aload_n hx hb dB_holds_0 rfl (lv_at hl 0 rfl) ?_
  refine va_get (D := D) (ci := 6) (v := .int (u.1 1)) (C := RB) (T := TB) (N := 36) hx hb hG inB hown hK hP 0 rfl rfl 1 (by decide) (hG _ mw_646) (fun _ h9 => h9) rfl dB_holds_1 ?_
  refine lv_bipush (v := (60 : Int32)) hx hb dB_holds_4 (by decide) ?_
  refine lv_idiv hx hb dB_holds_6 (by decide) ?_
  refine lv_bipush (v := (24 : Int32)) hx hb dB_holds_7 (by decide) ?_
  refine lv_irem hx hb dB_holds_9 (by decide) ?_
  refine lv_istore_n (lv' := [(2, .int (((u.1 1) / (60 : Int32)) - ((u.1 1) / (60 : Int32)) / (24 : Int32) * (24 : Int32))), (0, .ref (bd 0)), (1, .int a1)]) hx hb dB_holds_10 rfl hl (by decide) rfl (fun ls hl => ?_)
  refine lv_aload_n hx hb dB_holds_11 rfl (lv_at hl 1 rfl) ?_
  refine va_get (D := D) (ci := 6) (v := .ref (bd 8)) (C := RB) (T := TB) (N := 36) hx hb hG inB hown hK hP 0 rfl rfl 11 (by decide) (hG _ mw_656) (fun _ h9 => h9) rfl dB_holds_12 ?_
  refine lv_iload_n hx hb dB_holds_15 rfl (lv_at hl 2 rfl) ?_
  obtain ⟨hg1, h⟩ := gI_some h
  refine va_iald (f := (u.2 7)) hx hb hK hP 8 0 rfl rfl hg1 dB_holds_16 ?_
  refine lv_aload_n hx hb dB_holds_17 rfl (lv_at hl 1 rfl) ?_
  refine va_get (D := D) (ci := 6) (v := .ref (bd 9)) (C := RB) (T := TB) (N := 36) hx hb hG inB hown hK hP 0 rfl rfl 12 (by decide) (hG _ mw_657) (fun _ h9 => h9) rfl dB_holds_18 ?_
  refine lv_iload_n hx hb dB_holds_21 rfl (lv_at hl 2 rfl) ?_
  refine va_iald (f := (u.2 8)) hx hb hK hP 9 0 rfl rfl hg1 dB_holds_22 ?_
  refine lv_icmp_gt (tgt := 45) hx hb dB_holds_23 (by decide) (fun hc => ?_) (fun hc => ?_)
  · rw [if_pos hc] at h
    refine lv_iload_n hx hb dB_holds_45 rfl (lv_at hl 0 rfl) ?_
    refine lv_aload_n hx hb dB_holds_46 rfl (lv_at hl 1 rfl) ?_
    refine va_get (D := D) (ci := 6) (v := .ref (bd 8)) (C := RB) (T := TB) (N := 36) hx hb hG inB hown hK hP 0 rfl rfl 11 (by decide) (hG _ mw_656) (fun _ h9 => h9) rfl dB_holds_47 ?_
    refine lv_iload_n hx hb dB_holds_50 rfl (lv_at hl 2 rfl) ?_
    refine va_iald (f := (u.2 7)) hx hb hK hP 8 0 rfl rfl hg1 dB_holds_51 ?_
    refine lv_icmp_ge (tgt := 65) hx hb dB_holds_52 (by decide) (fun hc => ?_) (fun hc => ?_)
    · rw [if_pos hc] at h
      exact lp_B_holds_65 hC u a1 (((u.1 1) / (60 : Int32)) - ((u.1 1) / (60 : Int32)) / (24 : Int32) * (24 : Int32)) _ h H locs ls hP hD hS (lv_sub hl [1, 2, 0] rfl)
    · rw [if_neg hc] at h
      refine lv_iload_n hx hb dB_holds_55 rfl (lv_at hl 0 rfl) ?_
      refine lv_aload_n hx hb dB_holds_56 rfl (lv_at hl 1 rfl) ?_
      refine va_get (D := D) (ci := 6) (v := .ref (bd 9)) (C := RB) (T := TB) (N := 36) hx hb hG inB hown hK hP 0 rfl rfl 12 (by decide) (hG _ mw_657) (fun _ h9 => h9) rfl dB_holds_57 ?_
      refine lv_iload_n hx hb dB_holds_60 rfl (lv_at hl 2 rfl) ?_
      refine va_iald (f := (u.2 8)) hx hb hK hP 9 0 rfl rfl hg1 dB_holds_61 ?_
      refine lv_icmp_gt (tgt := 69) hx hb dB_holds_62 (by decide) (fun hc => ?_) (fun hc => ?_)
      · rw [if_pos hc] at h
        refine lv_iconst (v := (0 : Int32)) hx hb dB_holds_69 (by decide) ?_
        exact lp_B_holds_70 hC u a1 (((u.1 1) / (60 : Int32)) - ((u.1 1) / (60 : Int32)) / (24 : Int32) * (24 : Int32)) (0 : Int32) _ h H locs ls hP hD hS (lv_sub hl [1, 2, 0] rfl)
      · rw [if_neg hc] at h
        exact lp_B_holds_65 hC u a1 (((u.1 1) / (60 : Int32)) - ((u.1 1) / (60 : Int32)) / (24 : Int32) * (24 : Int32)) _ h H locs ls hP hD hS (lv_sub hl [1, 2, 0] rfl)
  · rw [if_neg hc] at h
    refine lv_iload_n hx hb dB_holds_26 rfl (lv_at hl 0 rfl) ?_
    refine lv_aload_n hx hb dB_holds_27 rfl (lv_at hl 1 rfl) ?_
    refine va_get (D := D) (ci := 6) (v := .ref (bd 8)) (C := RB) (T := TB) (N := 36) hx hb hG inB hown hK hP 0 rfl rfl 11 (by decide) (hG _ mw_656) (fun _ h9 => h9) rfl dB_holds_28 ?_
    refine lv_iload_n hx hb dB_holds_31 rfl (lv_at hl 2 rfl) ?_
    refine va_iald (f := (u.2 7)) hx hb hK hP 8 0 rfl rfl hg1 dB_holds_32 ?_
    refine lv_aload_n hx hb dB_holds_33 rfl (lv_at hl 1 rfl) ?_
    refine va_get (D := D) (ci := 6) (v := .ref (bd 9)) (C := RB) (T := TB) (N := 36) hx hb hG inB hown hK hP 0 rfl rfl 12 (by decide) (hG _ mw_657) (fun _ h9 => h9) rfl dB_holds_34 ?_
    refine lv_iload_n hx hb dB_holds_37 rfl (lv_at hl 2 rfl) ?_
    refine va_iald (f := (u.2 8)) hx hb hK hP 9 0 rfl rfl hg1 dB_holds_38 ?_
    refine gw_callS (As := [.int (((u.1 1) / (60 : Int32)) - ((u.1 1) / (60 : Int32)) / (24 : Int32) * (24 : Int32)), .int (u.2 7 (a1).toNatClampNeg), .int (u.2 8 (a1).toNatClampNeg)]) (rest := []) (u := u) (u' := u) hx hb hml hown hG (c_B_in l D bd cI cZ u (((u.1 1) / (60 : Int32)) - ((u.1 1) / (60 : Int32)) / (24 : Int32) * (24 : Int32)) (u.2 7 (a1).toNatClampNeg) (u.2 8 (a1).toNatClampNeg) _ rfl) lk_B_102 rfl rfl ⟨Nat.le_of_ble_eq_true rfl, Nat.le_of_ble_eq_true rfl⟩ hK hP hD hS hA rfl hl.1 rfl (Nat.le_of_ble_eq_true rfl) dB_holds_39 ⟨Nat.le_of_ble_eq_true rfl, Nat.le_of_ble_eq_true rfl⟩ (fun H locs hP hD hS => ?_)
    refine lv_goto (tgt := 70) hx hb dB_holds_42 (by decide) ?_
    exact lp_B_holds_70 hC u a1 (((u.1 1) / (60 : Int32)) - ((u.1 1) / (60 : Int32)) / (24 : Int32) * (24 : Int32)) (f_B_in (((u.1 1) / (60 : Int32)) - ((u.1 1) / (60 : Int32)) / (24 : Int32) * (24 : Int32)) (u.2 7 (a1).toNatClampNeg) (u.2 8 (a1).toNatClampNeg)) _ h H locs ls hP hD hS (lv_sub hl [1, 2, 0] rfl)
set_option maxHeartbeats 4000000 in
set_option maxRecDepth 100000 in
theorem lp_B_holding_2 {p : Program} {l : Launch} {e : Env} {s : State} {m : MethodId} {args : Array Value} {below : List Frame} {meth : Method} {c : Code} {A : Nat → Prop} {D : va_G} {bd : Nat → Nat} {cI cZ : ClassId} (hC : gw_C p s m args meth c "AidRowsModel" cB_holding 4 (some .int) gG D vwCl (tB cI cZ) A) (N : Nat) : ∀ (n : Nat) (u : StB) (x1 : Int32) (x2 : Int32) (x3 : Int32) (r : Int32), f_B_holding_2 N n u x1 x2 x3 = some r → ∀ (H : Heap) (locs : List Loc) (ls : Array Slot), va_P D vwCl (wB bd cI cZ u) H → va_D A (wB bd cI cZ u) → va_S A s.heap H locs → lv_has ls 4 [(0, .ref (bd 0)), (1, .int x1), (2, .int x2), (3, .int x3)] → W p l e ({ frames := 2, cells := 0, slots := 0, locals := 45 } : Room) s m args below meth c H locs 0 0 (MQ below (gw_Q D vwCl (wB bd cI cZ) A u (some (.int r))) args s 0 0 A) (F0 m 2 ls []) := by
  obtain ⟨hx, hb, hr, hml, hG, hown, hlocks, hK, hA⟩ := id hC
  intro n
  induction n with
  | zero => intro u x1 x2 x3 r h; cases h
  | succ n ih =>
    intro u x1 x2 x3 r h H locs ls hP hD hS hl
    rw [f_B_holding_2] at h
    refine lv_iload_n hx hb dB_holding_2 rfl (lv_at hl 3 rfl) ?_
    refine lv_aload_n hx hb dB_holding_3 rfl (lv_at hl 0 rfl) ?_
    refine va_get (D := D) (ci := 6) (v := .int (u.1 3)) (C := RB) (T := TB) (N := 36) hx hb hG inB hown hK hP 0 rfl rfl 6 (by decide) (hG _ mw_651) (fun _ h9 => h9) rfl dB_holding_4 ?_
    refine lv_icmp_ge (tgt := 46) hx hb dB_holding_7 (by decide) (fun hc => ?_) (fun hc => ?_)
    · rw [if_pos hc] at h
      refine lv_iconst (v := (-1 : Int32)) hx hb dB_holding_46 (by decide) ?_
      cases h
      exact gw_iret hx hb hr hlocks hP hD hS dB_holding_47
    · rw [if_neg hc] at h
      refine lv_aload_n hx hb dB_holding_10 rfl (lv_at hl 0 rfl) ?_
      refine va_get (D := D) (ci := 6) (v := .ref (bd 4)) (C := RB) (T := TB) (N := 36) hx hb hG inB hown hK hP 0 rfl rfl 7 (by decide) (hG _ mw_652) (fun _ h9 => h9) rfl dB_holding_11 ?_
      refine lv_iload_n hx hb dB_holding_14 rfl (lv_at hl 3 rfl) ?_
      obtain ⟨hg1, h⟩ := gI_some h
      refine va_iald (f := (u.2 3)) hx hb hK hP 4 0 rfl rfl hg1 dB_holding_15 ?_
      refine lv_iload_n hx hb dB_holding_16 rfl (lv_at hl 1 rfl) ?_
      refine lv_icmp_ne (tgt := 40) hx hb dB_holding_17 (by decide) (fun hc => ?_) (fun hc => ?_)
      · rw [if_neg hc] at h
        refine lv_iinc (v := (x3 + (1 : Int32))) (lv' := [(3, .int (x3 + (1 : Int32))), (0, .ref (bd 0)), (1, .int x1), (2, .int x2)]) hx hb dB_holding_40 hl (k := 3) rfl rfl (by decide) rfl (fun ls hl => ?_)
        refine lv_goto (tgt := 2) hx hb dB_holding_43 (by decide) ?_
        exact ih u x1 x2 (x3 + (1 : Int32)) _ h H locs ls hP hD hS (lv_sub hl [1, 2, 3, 0] rfl)
      · rw [if_pos hc] at h
        refine lv_aload_n hx hb dB_holding_20 rfl (lv_at hl 0 rfl) ?_
        refine va_get (D := D) (ci := 6) (v := .ref (bd 5)) (C := RB) (T := TB) (N := 36) hx hb hG inB hown hK hP 0 rfl rfl 8 (by decide) (hG _ mw_653) (fun _ h9 => h9) rfl dB_holding_21 ?_
        refine lv_iload_n hx hb dB_holding_24 rfl (lv_at hl 3 rfl) ?_
        refine va_iald (f := (u.2 4)) hx hb hK hP 5 0 rfl rfl hg1 dB_holding_25 ?_
        refine lv_iload_n hx hb dB_holding_26 rfl (lv_at hl 2 rfl) ?_
        refine lv_icmp_ne (tgt := 40) hx hb dB_holding_27 (by decide) (fun hc => ?_) (fun hc => ?_)
        · rw [if_neg hc] at h
          refine lv_iinc (v := (x3 + (1 : Int32))) (lv' := [(3, .int (x3 + (1 : Int32))), (0, .ref (bd 0)), (1, .int x1), (2, .int x2)]) hx hb dB_holding_40 hl (k := 3) rfl rfl (by decide) rfl (fun ls hl => ?_)
          refine lv_goto (tgt := 2) hx hb dB_holding_43 (by decide) ?_
          exact ih u x1 x2 (x3 + (1 : Int32)) _ h H locs ls hP hD hS (lv_sub hl [1, 2, 3, 0] rfl)
        · rw [if_pos hc] at h
          refine lv_aload_n hx hb dB_holding_30 rfl (lv_at hl 0 rfl) ?_
          refine lv_iload_n hx hb dB_holding_31 rfl (lv_at hl 3 rfl) ?_
          obtain ⟨q2, q2_h, h⟩ := gw_bind h
          refine gw_callV (As := [.int x3]) (rest := []) (u := u) (u' := u) hx hb hml hown hG (c_B_holds l D bd cI cZ u x3 _ q2_h) lk_B_121 rfl rfl ⟨Nat.le_of_ble_eq_true rfl, Nat.le_of_ble_eq_true rfl⟩ (va_recv hK hP (ci := 6) (q0 := 0) rfl rfl) hK hP hD hS hA rfl hl.1 rfl (Nat.le_of_ble_eq_true rfl) dB_holding_32 ⟨Nat.le_of_ble_eq_true rfl, Nat.le_of_ble_eq_true rfl⟩ (fun H locs hP hD hS => ?_)
          refine lv_if_eq (tgt := 40) hx hb dB_holding_35 (by decide) (fun hc => ?_) (fun hc => ?_)
          · rw [if_pos hc] at h
            refine lv_iinc (v := (x3 + (1 : Int32))) (lv' := [(3, .int (x3 + (1 : Int32))), (0, .ref (bd 0)), (1, .int x1), (2, .int x2)]) hx hb dB_holding_40 hl (k := 3) rfl rfl (by decide) rfl (fun ls hl => ?_)
            refine lv_goto (tgt := 2) hx hb dB_holding_43 (by decide) ?_
            exact ih u x1 x2 (x3 + (1 : Int32)) _ h H locs ls hP hD hS (lv_sub hl [1, 2, 3, 0] rfl)
          · rw [if_neg hc] at h
            refine lv_iload_n hx hb dB_holding_38 rfl (lv_at hl 3 rfl) ?_
            cases h
            exact gw_iret hx hb hr hlocks hP hD hS dB_holding_39
set_option maxHeartbeats 4000000 in
set_option maxRecDepth 100000 in
theorem c_B_holding (l : Launch) (D : va_G) (bd : Nat → Nat) (cI cZ : ClassId) (N : Nat) (u : StB) (a1 : Int32) (a2 : Int32) (r : Int32) (h : f_B_holding N u a1 a2 = some r) : gw_Ct l D vwCl (tB cI cZ) (wB bd cI cZ) yB_holding (Cond.code yB_holding cB_holding 4 (some .int) :: gG) ({ frames := 2, cells := 0, slots := 0, locals := 45 } : Room) [.ref (bd 0), .int a1, .int a2] u (some (.int r)) u := by
  refine gw_enter (by decide) (Nat.le_of_ble_eq_true rfl) ?_
  intro p e s m below meth c A hC hP hD hS ls hl
  obtain ⟨hx, hb, hr, hml, hG, hown, hlocks, hK, hA⟩ := id hC
  have hl : lv_has ls 4 [(0, .ref (bd 0)), (1, .int a1), (2, .int a2)] := hl
  obtain ⟨H, hH⟩ : ∃ H, H = s.heap := ⟨_, rfl⟩
  obtain ⟨locs, hlocs⟩ : ∃ x : List Loc, x = [] := ⟨_, rfl⟩
  rw [← hlocs] at hS ⊢
  have hP : va_P D vwCl (wB bd cI cZ u) H := by rw [hH]; exact hP
  have hS : va_S A s.heap H locs := by rw [hH]; exact hS
  suffices g : W p l e ({ frames := 2, cells := 0, slots := 0, locals := 45 } : Room) s m [.ref (bd 0), .int a1, .int a2].toArray below meth c H locs 0 0 (MQ below (gw_Q D vwCl (wB bd cI cZ) A u (some (.int r))) [.ref (bd 0), .int a1, .int a2].toArray s 0 0 A) (F0 m 0 ls []) by rw [hH] at g; exact g
  unfold f_B_holding at h
  refine lv_iconst (v := (0 : Int32)) hx hb dB_holding_0 (by decide) ?_
  refine lv_istore_n (lv' := [(3, .int (0 : Int32)), (0, .ref (bd 0)), (1, .int a1), (2, .int a2)]) hx hb dB_holding_1 rfl hl (by decide) rfl (fun ls hl => ?_)
  exact lp_B_holding_2 hC N N u a1 a2 (0 : Int32) _ h H locs ls hP hD hS (lv_sub hl [1, 2, 3, 0] rfl)
set_option maxHeartbeats 4000000 in
set_option maxRecDepth 100000 in
theorem lp_B_on_118 {p : Program} {l : Launch} {e : Env} {s : State} {m : MethodId} {args : Array Value} {below : List Frame} {meth : Method} {c : Code} {A : Nat → Prop} {D : va_G} {bd : Nat → Nat} {cI cZ : ClassId} (hC : gw_C p s m args meth c "AidRowsModel" cB_on 4 none gG D vwCl (tB cI cZ) A) (N : Nat) : ∀ (u : StB) (x1 : Int32) (x2 : Int32) (x3 : Int32) (y1 : Int32) (y2 : Int32) (w : StB), f_B_on_118 N u x1 x2 x3 y1 y2 = some w → ∀ (H : Heap) (locs : List Loc) (ls : Array Slot), va_P D vwCl (wB bd cI cZ u) H → va_D A (wB bd cI cZ u) → va_S A s.heap H locs → lv_has ls 4 [(0, .ref (bd 0)), (1, .int x1), (2, .int x2), (3, .int x3)] → W p l e ({ frames := 3, cells := 0, slots := 0, locals := 68 } : Room) s m args below meth c H locs 0 0 (MQ below (gw_Q D vwCl (wB bd cI cZ) A w (none)) args s 0 0 A) (F0 m 118 ls [.int y2, .int y1, .ref (bd 19)]) := by
  obtain ⟨hx, hb, hr, hml, hG, hown, hlocks, hK, hA⟩ := id hC
  intro u x1 x2 x3 y1 y2 w h H locs ls hP hD hS hl
  unfold f_B_on_118 at h
  obtain ⟨hg9, h⟩ := gI_some h
  refine va_zast (f := (u.2 18)) hx hb hK hP hD hS 19 1 rfl rfl hg9 dB_on_118 (fun H locs hP hD hS => ?_)
  rw [wB_a18] at hP hD
  refine lv_iload_n hx hb dB_on_119 rfl (lv_at hl 2 rfl) ?_
  refine lv_if_ge (tgt := 131) hx hb dB_on_120 (by decide) (fun hc => ?_) (fun hc => ?_)
  · rw [if_pos hc] at h
    refine lv_aload_n hx hb dB_on_131 rfl (lv_at hl 0 rfl) ?_
    refine va_get (D := D) (ci := 6) (v := .ref (bd 20)) (C := RB) (T := TB) (N := 36) hx hb hG inB hown hK hP 0 rfl rfl 24 (by decide) (hG _ mw_669) (fun _ h9 => h9) rfl dB_on_132 ?_
    refine lv_iload_n hx hb dB_on_135 rfl (lv_at hl 1 rfl) ?_
    refine lv_bipush (v := (8 : Int32)) hx hb dB_on_136 (by decide) ?_
    refine lv_imul hx hb dB_on_138 ?_
    refine lv_iload_n hx hb dB_on_139 rfl (lv_at hl 2 rfl) ?_
    refine lv_iadd hx hb dB_on_140 ?_
    refine lv_iconst (v := (1 : Int32)) hx hb dB_on_141 (by decide) ?_
    obtain ⟨hg10, h⟩ := gI_some h
    refine va_zast (f := ((bA u 18 (y1).toNatClampNeg (vp_nar .boolean y2)).2 19)) hx hb hK hP hD hS 20 1 rfl rfl hg10 dB_on_142 (fun H locs hP hD hS => ?_)
    rw [wB_a19] at hP hD
    refine lv_aload_n hx hb dB_on_143 rfl (lv_at hl 0 rfl) ?_
    refine va_get (D := D) (ci := 6) (v := .ref (bd 18)) (C := RB) (T := TB) (N := 36) hx hb hG inB hown hK hP 0 rfl rfl 22 (by decide) (hG _ mw_667) (fun _ h9 => h9) rfl dB_on_144 ?_
    refine lv_iload_n hx hb dB_on_147 rfl (lv_at hl 1 rfl) ?_
    refine lv_dup2_11 hx hb dB_on_148 rfl rfl ?_
    obtain ⟨hg11, h⟩ := gI_some h
    refine va_iald (f := (u.2 17)) hx hb hK hP 18 0 rfl rfl hg11 dB_on_149 ?_
    refine lv_iconst (v := (1 : Int32)) hx hb dB_on_150 (by decide) ?_
    refine lv_iadd hx hb dB_on_151 ?_
    refine va_iast (f := ((bA (bA u 18 (y1).toNatClampNeg (vp_nar .boolean y2)) 19 (((x1 * (8 : Int32)) + x2)).toNatClampNeg (vp_nar .boolean (1 : Int32))).2 17)) hx hb hK hP hD hS 18 0 rfl rfl hg11 dB_on_152 (fun H locs hP hD hS => ?_)
    rw [wB_a17] at hP hD
    cases h
    exact gw_vret hx hb hr hlocks hP hD hS dB_on_153
  · rw [if_neg hc] at h
    refine lv_aload_n hx hb dB_on_123 rfl (lv_at hl 0 rfl) ?_
    refine va_get (D := D) (ci := 6) (v := .ref (bd 14)) (C := RB) (T := TB) (N := 36) hx hb hG inB hown hK hP 0 rfl rfl 18 (by decide) (hG _ mw_663) (fun _ h9 => h9) rfl dB_on_124 ?_
    refine lv_iload_n hx hb dB_on_127 rfl (lv_at hl 1 rfl) ?_
    refine lv_iconst (v := (2 : Int32)) hx hb dB_on_128 (by decide) ?_
    obtain ⟨hg12, h⟩ := gI_some h
    refine va_iast (f := ((bA u 18 (y1).toNatClampNeg (vp_nar .boolean y2)).2 13)) hx hb hK hP hD hS 14 0 rfl rfl hg12 dB_on_129 (fun H locs hP hD hS => ?_)
    rw [wB_a13] at hP hD
    cases h
    exact gw_vret hx hb hr hlocks hP hD hS dB_on_130
set_option maxHeartbeats 4000000 in
set_option maxRecDepth 100000 in
theorem lp_B_on_117 {p : Program} {l : Launch} {e : Env} {s : State} {m : MethodId} {args : Array Value} {below : List Frame} {meth : Method} {c : Code} {A : Nat → Prop} {D : va_G} {bd : Nat → Nat} {cI cZ : ClassId} (hC : gw_C p s m args meth c "AidRowsModel" cB_on 4 none gG D vwCl (tB cI cZ) A) (N : Nat) : ∀ (u : StB) (x1 : Int32) (x2 : Int32) (x3 : Int32) (y1 : Int32) (w : StB), f_B_on_117 N u x1 x2 x3 y1 = some w → ∀ (H : Heap) (locs : List Loc) (ls : Array Slot), va_P D vwCl (wB bd cI cZ u) H → va_D A (wB bd cI cZ u) → va_S A s.heap H locs → lv_has ls 4 [(0, .ref (bd 0)), (1, .int x1), (2, .int x2), (3, .int x3)] → W p l e ({ frames := 3, cells := 0, slots := 0, locals := 68 } : Room) s m args below meth c H locs 0 0 (MQ below (gw_Q D vwCl (wB bd cI cZ) A w (none)) args s 0 0 A) (F0 m 117 ls [.int y1, .ref (bd 19)]) := by
  obtain ⟨hx, hb, hr, hml, hG, hown, hlocks, hK, hA⟩ := id hC
  intro u x1 x2 x3 y1 w h H locs ls hP hD hS hl
  unfold f_B_on_117 at h
  refine lv_iconst (v := (0 : Int32)) hx hb dB_on_117 (by decide) ?_
  exact lp_B_on_118 hC N u x1 x2 x3 y1 (0 : Int32) _ h H locs ls hP hD hS (lv_sub hl [0, 1, 2, 3] rfl)
set_option maxHeartbeats 4000000 in
set_option maxRecDepth 100000 in
theorem lp_B_on_94 {p : Program} {l : Launch} {e : Env} {s : State} {m : MethodId} {args : Array Value} {below : List Frame} {meth : Method} {c : Code} {A : Nat → Prop} {D : va_G} {bd : Nat → Nat} {cI cZ : ClassId} (hC : gw_C p s m args meth c "AidRowsModel" cB_on 4 none gG D vwCl (tB cI cZ) A) (N : Nat) : ∀ (u : StB) (x1 : Int32) (x2 : Int32) (x3 : Int32) (y1 : Int32) (y2 : Int32) (w : StB), f_B_on_94 N u x1 x2 x3 y1 y2 = some w → ∀ (H : Heap) (locs : List Loc) (ls : Array Slot), va_P D vwCl (wB bd cI cZ u) H → va_D A (wB bd cI cZ u) → va_S A s.heap H locs → lv_has ls 4 [(0, .ref (bd 0)), (1, .int x1), (2, .int x2), (3, .int x3)] → W p l e ({ frames := 3, cells := 0, slots := 0, locals := 68 } : Room) s m args below meth c H locs 0 0 (MQ below (gw_Q D vwCl (wB bd cI cZ) A w (none)) args s 0 0 A) (F0 m 94 ls [.int y2, .int y1, .ref (bd 16)]) := by
  obtain ⟨hx, hb, hr, hml, hG, hown, hlocks, hK, hA⟩ := id hC
  intro u x1 x2 x3 y1 y2 w h H locs ls hP hD hS hl
  unfold f_B_on_94 at h
  obtain ⟨hg7, h⟩ := gI_some h
  refine va_iast (f := (u.2 15)) hx hb hK hP hD hS 16 0 rfl rfl hg7 dB_on_94 (fun H locs hP hD hS => ?_)
  rw [wB_a15] at hP hD
  refine lv_aload_n hx hb dB_on_95 rfl (lv_at hl 0 rfl) ?_
  refine va_get (D := D) (ci := 6) (v := .ref (bd 19)) (C := RB) (T := TB) (N := 36) hx hb hG inB hown hK hP 0 rfl rfl 23 (by decide) (hG _ mw_668) (fun _ h9 => h9) rfl dB_on_96 ?_
  refine lv_iload_n hx hb dB_on_99 rfl (lv_at hl 1 rfl) ?_
  refine lv_iload_n hx hb dB_on_100 rfl (lv_at hl 2 rfl) ?_
  refine lv_if_lt (tgt := 117) hx hb dB_on_101 (by decide) (fun hc => ?_) (fun hc => ?_)
  · rw [if_pos hc] at h
    exact lp_B_on_117 hC N (bA u 15 (y1).toNatClampNeg y2) x1 x2 x3 x1 _ h H locs ls hP hD hS (lv_sub hl [0, 1, 2, 3] rfl)
  · rw [if_neg hc] at h
    refine lv_aload_n hx hb dB_on_104 rfl (lv_at hl 0 rfl) ?_
    refine va_get (D := D) (ci := 6) (v := .ref (bd 3)) (C := RB) (T := TB) (N := 36) hx hb hG inB hown hK hP 0 rfl rfl 5 (by decide) (hG _ mw_650) (fun _ h9 => h9) rfl dB_on_105 ?_
    refine lv_iload_n hx hb dB_on_108 rfl (lv_at hl 2 rfl) ?_
    obtain ⟨hg8, h⟩ := gI_some h
    refine va_zald (f := (u.2 2)) hx hb hK hP 3 1 rfl rfl hg8 dB_on_109 ?_
    refine lv_if_eq (tgt := 117) hx hb dB_on_110 (by decide) (fun hc => ?_) (fun hc => ?_)
    · rw [if_pos hc] at h
      exact lp_B_on_117 hC N (bA u 15 (y1).toNatClampNeg y2) x1 x2 x3 x1 _ h H locs ls hP hD hS (lv_sub hl [0, 1, 2, 3] rfl)
    · rw [if_neg hc] at h
      refine lv_iconst (v := (1 : Int32)) hx hb dB_on_113 (by decide) ?_
      refine lv_goto (tgt := 118) hx hb dB_on_114 (by decide) ?_
      exact lp_B_on_118 hC N (bA u 15 (y1).toNatClampNeg y2) x1 x2 x3 x1 (1 : Int32) _ h H locs ls hP hD hS (lv_sub hl [0, 1, 2, 3] rfl)
set_option maxHeartbeats 4000000 in
set_option maxRecDepth 100000 in
theorem lp_B_on_4 {p : Program} {l : Launch} {e : Env} {s : State} {m : MethodId} {args : Array Value} {below : List Frame} {meth : Method} {c : Code} {A : Nat → Prop} {D : va_G} {bd : Nat → Nat} {cI cZ : ClassId} (hC : gw_C p s m args meth c "AidRowsModel" cB_on 4 none gG D vwCl (tB cI cZ) A) (N : Nat) : ∀ (n : Nat) (u : StB) (x1 : Int32) (x2 : Int32) (x3 : Int32) (w : StB), f_B_on_4 N n u x1 x2 x3 = some w → ∀ (H : Heap) (locs : List Loc) (ls : Array Slot), va_P D vwCl (wB bd cI cZ u) H → va_D A (wB bd cI cZ u) → va_S A s.heap H locs → lv_has ls 4 [(0, .ref (bd 0)), (1, .int x1), (2, .int x2), (3, .int x3)] → W p l e ({ frames := 3, cells := 0, slots := 0, locals := 68 } : Room) s m args below meth c H locs 0 0 (MQ below (gw_Q D vwCl (wB bd cI cZ) A w (none)) args s 0 0 A) (F0 m 4 ls []) := by
  obtain ⟨hx, hb, hr, hml, hG, hown, hlocks, hK, hA⟩ := id hC
  intro n
  induction n with
  | zero => intro u x1 x2 x3 w h; cases h
  | succ n ih =>
    intro u x1 x2 x3 w h H locs ls hP hD hS hl
    rw [f_B_on_4] at h
    refine lv_iload_n hx hb dB_on_4 rfl (lv_at hl 3 rfl) ?_
    refine lv_aload_n hx hb dB_on_5 rfl (lv_at hl 0 rfl) ?_
    refine va_get (D := D) (ci := 6) (v := .int (u.1 2)) (C := RB) (T := TB) (N := 36) hx hb hG inB hown hK hP 0 rfl rfl 2 (by decide) (hG _ mw_647) (fun _ h9 => h9) rfl dB_on_6 ?_
    refine lv_icmp_ge (tgt := 70) hx hb dB_on_9 (by decide) (fun hc => ?_) (fun hc => ?_)
    · rw [if_pos hc] at h
      refine lv_aload_n hx hb dB_on_70 rfl (lv_at hl 0 rfl) ?_
      refine va_get (D := D) (ci := 6) (v := .ref (bd 15)) (C := RB) (T := TB) (N := 36) hx hb hG inB hown hK hP 0 rfl rfl 19 (by decide) (hG _ mw_664) (fun _ h9 => h9) rfl dB_on_71 ?_
      refine lv_iload_n hx hb dB_on_74 rfl (lv_at hl 1 rfl) ?_
      refine lv_iload_n hx hb dB_on_75 rfl (lv_at hl 2 rfl) ?_
      obtain ⟨hg1, h⟩ := gI_some h
      refine va_iast (f := (u.2 14)) hx hb hK hP hD hS 15 0 rfl rfl hg1 dB_on_76 (fun H locs hP hD hS => ?_)
      rw [wB_a14] at hP hD
      refine lv_aload_n hx hb dB_on_77 rfl (lv_at hl 0 rfl) ?_
      refine va_get (D := D) (ci := 6) (v := .ref (bd 16)) (C := RB) (T := TB) (N := 36) hx hb hG inB hown hK hP 0 rfl rfl 20 (by decide) (hG _ mw_665) (fun _ h9 => h9) rfl dB_on_78 ?_
      refine lv_iload_n hx hb dB_on_81 rfl (lv_at hl 1 rfl) ?_
      refine lv_iload_n hx hb dB_on_82 rfl (lv_at hl 2 rfl) ?_
      refine lv_if_ge (tgt := 90) hx hb dB_on_83 (by decide) (fun hc => ?_) (fun hc => ?_)
      · rw [if_pos hc] at h
        refine lv_aload_n hx hb dB_on_90 rfl (lv_at hl 0 rfl) ?_
        refine va_get (D := D) (ci := 6) (v := .int (u.1 1)) (C := RB) (T := TB) (N := 36) hx hb hG inB hown hK hP 0 rfl rfl 1 (by decide) (hG _ mw_646) (fun _ h9 => h9) rfl dB_on_91 ?_
        exact lp_B_on_94 hC N (bA u 14 (x1).toNatClampNeg x2) x1 x2 x3 x1 (u.1 1) _ h H locs ls hP hD hS (lv_sub hl [0, 1, 2, 3] rfl)
      · rw [if_neg hc] at h
        refine lv_iconst (v := (0 : Int32)) hx hb dB_on_86 (by decide) ?_
        refine lv_goto (tgt := 94) hx hb dB_on_87 (by decide) ?_
        exact lp_B_on_94 hC N (bA u 14 (x1).toNatClampNeg x2) x1 x2 x3 x1 (0 : Int32) _ h H locs ls hP hD hS (lv_sub hl [0, 1, 2, 3] rfl)
    · rw [if_neg hc] at h
      refine lv_aload_n hx hb dB_on_12 rfl (lv_at hl 0 rfl) ?_
      refine va_get (D := D) (ci := 6) (v := .ref (bd 20)) (C := RB) (T := TB) (N := 36) hx hb hG inB hown hK hP 0 rfl rfl 24 (by decide) (hG _ mw_669) (fun _ h9 => h9) rfl dB_on_13 ?_
      refine lv_iload_n hx hb dB_on_16 rfl (lv_at hl 1 rfl) ?_
      refine lv_bipush (v := (8 : Int32)) hx hb dB_on_17 (by decide) ?_
      refine lv_imul hx hb dB_on_19 ?_
      refine lv_iload_n hx hb dB_on_20 rfl (lv_at hl 3 rfl) ?_
      refine lv_iadd hx hb dB_on_21 ?_
      obtain ⟨hg2, h⟩ := gI_some h
      refine va_zald (f := (u.2 19)) hx hb hK hP 20 1 rfl rfl hg2 dB_on_22 ?_
      refine lv_if_ne (tgt := 64) hx hb dB_on_23 (by decide) (fun hc => ?_) (fun hc => ?_)
      · rw [if_neg hc] at h
        refine lv_iinc (v := (x3 + (1 : Int32))) (lv' := [(3, .int (x3 + (1 : Int32))), (0, .ref (bd 0)), (1, .int x1), (2, .int x2)]) hx hb dB_on_64 hl (k := 3) rfl rfl (by decide) rfl (fun ls hl => ?_)
        refine lv_goto (tgt := 4) hx hb dB_on_67 (by decide) ?_
        exact ih u x1 x2 (x3 + (1 : Int32)) _ h H locs ls hP hD hS (lv_sub hl [1, 2, 3, 0] rfl)
      · rw [if_pos hc] at h
        refine lv_aload_n hx hb dB_on_26 rfl (lv_at hl 0 rfl) ?_
        refine lv_iload_n hx hb dB_on_27 rfl (lv_at hl 3 rfl) ?_
        refine lv_aload_n hx hb dB_on_28 rfl (lv_at hl 0 rfl) ?_
        refine va_get (D := D) (ci := 6) (v := .ref (bd 11)) (C := RB) (T := TB) (N := 36) hx hb hG inB hown hK hP 0 rfl rfl 15 (by decide) (hG _ mw_660) (fun _ h9 => h9) rfl dB_on_29 ?_
        refine lv_iload_n hx hb dB_on_32 rfl (lv_at hl 1 rfl) ?_
        obtain ⟨hg3, h⟩ := gI_some h
        refine va_iald (f := (u.2 10)) hx hb hK hP 11 0 rfl rfl hg3 dB_on_33 ?_
        obtain ⟨q4, q4_h, h⟩ := gw_bind h
        refine gw_callV (As := [.int x3, .int (u.2 10 (x1).toNatClampNeg)]) (rest := []) (u := u) (u' := u) hx hb hml hown hG (c_B_holding l D bd cI cZ N u x3 (u.2 10 (x1).toNatClampNeg) _ q4_h) lk_B_124 rfl rfl ⟨Nat.le_of_ble_eq_true rfl, Nat.le_of_ble_eq_true rfl⟩ (va_recv hK hP (ci := 6) (q0 := 0) rfl rfl) hK hP hD hS hA rfl hl.1 rfl (Nat.le_of_ble_eq_true rfl) dB_on_34 ⟨Nat.le_of_ble_eq_true rfl, Nat.le_of_ble_eq_true rfl⟩ (fun H locs hP hD hS => ?_)
        refine lv_if_ge (tgt := 43) hx hb dB_on_37 (by decide) (fun hc => ?_) (fun hc => ?_)
        · rw [if_pos hc] at h
          refine lv_iload_n hx hb dB_on_43 rfl (lv_at hl 2 rfl) ?_
          refine lv_if_lt (tgt := 62) hx hb dB_on_44 (by decide) (fun hc => ?_) (fun hc => ?_)
          · rw [if_pos hc] at h
            refine lv_iload_n hx hb dB_on_62 rfl (lv_at hl 3 rfl) ?_
            refine lv_istore_n (lv' := [(2, .int x3), (0, .ref (bd 0)), (1, .int x1), (3, .int x3)]) hx hb dB_on_63 rfl hl (by decide) rfl (fun ls hl => ?_)
            refine lv_iinc (v := (x3 + (1 : Int32))) (lv' := [(3, .int (x3 + (1 : Int32))), (2, .int x3), (0, .ref (bd 0)), (1, .int x1)]) hx hb dB_on_64 hl (k := 3) rfl rfl (by decide) rfl (fun ls hl => ?_)
            refine lv_goto (tgt := 4) hx hb dB_on_67 (by decide) ?_
            exact ih u x1 x3 (x3 + (1 : Int32)) _ h H locs ls hP hD hS (lv_sub hl [2, 3, 1, 0] rfl)
          · rw [if_neg hc] at h
            refine lv_aload_n hx hb dB_on_47 rfl (lv_at hl 0 rfl) ?_
            refine va_get (D := D) (ci := 6) (v := .ref (bd 1)) (C := RB) (T := TB) (N := 36) hx hb hG inB hown hK hP 0 rfl rfl 3 (by decide) (hG _ mw_648) (fun _ h9 => h9) rfl dB_on_48 ?_
            refine lv_iload_n hx hb dB_on_51 rfl (lv_at hl 3 rfl) ?_
            obtain ⟨hg5, h⟩ := gI_some h
            refine va_iald (f := (u.2 0)) hx hb hK hP 1 0 rfl rfl hg5 dB_on_52 ?_
            refine lv_aload_n hx hb dB_on_53 rfl (lv_at hl 0 rfl) ?_
            refine va_get (D := D) (ci := 6) (v := .ref (bd 1)) (C := RB) (T := TB) (N := 36) hx hb hG inB hown hK hP 0 rfl rfl 3 (by decide) (hG _ mw_648) (fun _ h9 => h9) rfl dB_on_54 ?_
            refine lv_iload_n hx hb dB_on_57 rfl (lv_at hl 2 rfl) ?_
            obtain ⟨hg6, h⟩ := gI_some h
            refine va_iald (f := (u.2 0)) hx hb hK hP 1 0 rfl rfl hg6 dB_on_58 ?_
            refine lv_icmp_le (tgt := 64) hx hb dB_on_59 (by decide) (fun hc => ?_) (fun hc => ?_)
            · rw [if_pos hc] at h
              refine lv_iinc (v := (x3 + (1 : Int32))) (lv' := [(3, .int (x3 + (1 : Int32))), (0, .ref (bd 0)), (1, .int x1), (2, .int x2)]) hx hb dB_on_64 hl (k := 3) rfl rfl (by decide) rfl (fun ls hl => ?_)
              refine lv_goto (tgt := 4) hx hb dB_on_67 (by decide) ?_
              exact ih u x1 x2 (x3 + (1 : Int32)) _ h H locs ls hP hD hS (lv_sub hl [1, 2, 3, 0] rfl)
            · rw [if_neg hc] at h
              refine lv_iload_n hx hb dB_on_62 rfl (lv_at hl 3 rfl) ?_
              refine lv_istore_n (lv' := [(2, .int x3), (0, .ref (bd 0)), (1, .int x1), (3, .int x3)]) hx hb dB_on_63 rfl hl (by decide) rfl (fun ls hl => ?_)
              refine lv_iinc (v := (x3 + (1 : Int32))) (lv' := [(3, .int (x3 + (1 : Int32))), (2, .int x3), (0, .ref (bd 0)), (1, .int x1)]) hx hb dB_on_64 hl (k := 3) rfl rfl (by decide) rfl (fun ls hl => ?_)
              refine lv_goto (tgt := 4) hx hb dB_on_67 (by decide) ?_
              exact ih u x1 x3 (x3 + (1 : Int32)) _ h H locs ls hP hD hS (lv_sub hl [2, 3, 1, 0] rfl)
        · rw [if_neg hc] at h
          refine lv_goto (tgt := 64) hx hb dB_on_40 (by decide) ?_
          refine lv_iinc (v := (x3 + (1 : Int32))) (lv' := [(3, .int (x3 + (1 : Int32))), (0, .ref (bd 0)), (1, .int x1), (2, .int x2)]) hx hb dB_on_64 hl (k := 3) rfl rfl (by decide) rfl (fun ls hl => ?_)
          refine lv_goto (tgt := 4) hx hb dB_on_67 (by decide) ?_
          exact ih u x1 x2 (x3 + (1 : Int32)) _ h H locs ls hP hD hS (lv_sub hl [1, 2, 3, 0] rfl)
set_option maxHeartbeats 4000000 in
set_option maxRecDepth 100000 in
theorem c_B_on (l : Launch) (D : va_G) (bd : Nat → Nat) (cI cZ : ClassId) (N : Nat) (u : StB) (a1 : Int32) (w : StB) (h : f_B_on N u a1 = some w) : gw_Ct l D vwCl (tB cI cZ) (wB bd cI cZ) yB_on (Cond.code yB_on cB_on 4 none :: gG) ({ frames := 3, cells := 0, slots := 0, locals := 68 } : Room) [.ref (bd 0), .int a1] u (none) w := by
  refine gw_enter (by decide) (Nat.le_of_ble_eq_true rfl) ?_
  intro p e s m below meth c A hC hP hD hS ls hl
  obtain ⟨hx, hb, hr, hml, hG, hown, hlocks, hK, hA⟩ := id hC
  have hl : lv_has ls 4 [(0, .ref (bd 0)), (1, .int a1)] := hl
  obtain ⟨H, hH⟩ : ∃ H, H = s.heap := ⟨_, rfl⟩
  obtain ⟨locs, hlocs⟩ : ∃ x : List Loc, x = [] := ⟨_, rfl⟩
  rw [← hlocs] at hS ⊢
  have hP : va_P D vwCl (wB bd cI cZ u) H := by rw [hH]; exact hP
  have hS : va_S A s.heap H locs := by rw [hH]; exact hS
  suffices g : W p l e ({ frames := 3, cells := 0, slots := 0, locals := 68 } : Room) s m [.ref (bd 0), .int a1].toArray below meth c H locs 0 0 (MQ below (gw_Q D vwCl (wB bd cI cZ) A w (none)) [.ref (bd 0), .int a1].toArray s 0 0 A) (F0 m 0 ls []) by rw [hH] at g; exact g
  unfold f_B_on at h
  refine lv_iconst (v := (-1 : Int32)) hx hb dB_on_0 (by decide) ?_
  refine lv_istore_n (lv' := [(2, .int (-1 : Int32)), (0, .ref (bd 0)), (1, .int a1)]) hx hb dB_on_1 rfl hl (by decide) rfl (fun ls hl => ?_)
  refine lv_iconst (v := (0 : Int32)) hx hb dB_on_2 (by decide) ?_
  refine lv_istore_n (lv' := [(3, .int (0 : Int32)), (2, .int (-1 : Int32)), (0, .ref (bd 0)), (1, .int a1)]) hx hb dB_on_3 rfl hl (by decide) rfl (fun ls hl => ?_)
  exact lp_B_on_4 hC N N u a1 (-1 : Int32) (0 : Int32) _ h H locs ls hP hD hS (lv_sub hl [2, 3, 1, 0] rfl)
set_option maxHeartbeats 4000000 in
set_option maxRecDepth 100000 in
theorem lp_B_ask_51 {p : Program} {l : Launch} {e : Env} {s : State} {m : MethodId} {args : Array Value} {below : List Frame} {meth : Method} {c : Code} {A : Nat → Prop} {D : va_G} {bd : Nat → Nat} {cI cZ : ClassId} (hC : gw_C p s m args meth c "AidRowsModel" cB_ask 4 (some .int) gG D vwCl (tB cI cZ) A) (N : Nat) : ∀ (u : StB) (x1 : Int32) (x2 : Int32) (x3 : Int32) (y1 : Int32) (y2 : Int32) (y3 : Int32) (y4 : Int32) (y5 : Int32) (r : Int32) (w : StB), f_B_ask_51 N u x1 x2 x3 y1 y2 y3 y4 y5 = some (r, w) → ∀ (H : Heap) (locs : List Loc) (ls : Array Slot), va_P D vwCl (wB bd cI cZ u) H → va_D A (wB bd cI cZ u) → va_S A s.heap H locs → lv_has ls 4 [(0, .ref (bd 0)), (1, .int x1), (2, .int x2), (3, .int x3)] → W p l e ({ frames := 4, cells := 0, slots := 0, locals := 91 } : Room) s m args below meth c H locs 0 0 (MQ below (gw_Q D vwCl (wB bd cI cZ) A w (some (.int r))) args s 0 0 A) (F0 m 51 ls [.int y5, .int y4, .int y3, .int y2, .int y1, .ref (bd 0)]) := by
  obtain ⟨hx, hb, hr, hml, hG, hown, hlocks, hK, hA⟩ := id hC
  intro u x1 x2 x3 y1 y2 y3 y4 y5 r w h H locs ls hP hD hS hl
  unfold f_B_ask_51 at h
  obtain ⟨q1, q1_h, h⟩ := gw_bind h
  refine gw_callV (As := [.int y1, .int y2, .int y3, .int y4, .int y5]) (rest := []) (u := u) (u' := q1.2) hx hb hml hown hG (c_B_goes l D bd cI cZ N u y1 y2 y3 y4 y5 _ _ q1_h) lk_B_106 rfl rfl ⟨Nat.le_of_ble_eq_true rfl, Nat.le_of_ble_eq_true rfl⟩ (va_recv hK hP (ci := 6) (q0 := 0) rfl rfl) hK hP hD hS hA rfl hl.1 rfl (Nat.le_of_ble_eq_true rfl) dB_ask_51 ⟨Nat.le_of_ble_eq_true rfl, Nat.le_of_ble_eq_true rfl⟩ (fun H locs hP hD hS => ?_)
  refine lv_if_ne (tgt := 59) hx hb dB_ask_54 (by decide) (fun hc => ?_) (fun hc => ?_)
  · rw [if_neg hc] at h
    refine lv_aload_n hx hb dB_ask_59 rfl (lv_at hl 0 rfl) ?_
    refine va_get (D := D) (ci := 6) (v := .ref (bd 11)) (C := RB) (T := TB) (N := 36) hx hb hG inB hown hK hP 0 rfl rfl 15 (by decide) (hG _ mw_660) (fun _ h9 => h9) rfl dB_ask_60 ?_
    refine lv_aload_n hx hb dB_ask_63 rfl (lv_at hl 0 rfl) ?_
    refine va_get (D := D) (ci := 6) (v := .int (q1.2.1 4)) (C := RB) (T := TB) (N := 36) hx hb hG inB hown hK hP 0 rfl rfl 14 (by decide) (hG _ mw_659) (fun _ h9 => h9) rfl dB_ask_64 ?_
    refine lv_iload_n hx hb dB_ask_67 rfl (lv_at hl 1 rfl) ?_
    obtain ⟨hg2, h⟩ := gI_some h
    refine va_iast (f := (q1.2.2 10)) hx hb hK hP hD hS 11 0 rfl rfl hg2 dB_ask_68 (fun H locs hP hD hS => ?_)
    rw [wB_a10] at hP hD
    refine lv_aload_n hx hb dB_ask_69 rfl (lv_at hl 0 rfl) ?_
    refine va_get (D := D) (ci := 6) (v := .ref (bd 12)) (C := RB) (T := TB) (N := 36) hx hb hG inB hown hK hP 0 rfl rfl 16 (by decide) (hG _ mw_661) (fun _ h9 => h9) rfl dB_ask_70 ?_
    refine lv_aload_n hx hb dB_ask_73 rfl (lv_at hl 0 rfl) ?_
    refine va_get (D := D) (ci := 6) (v := .int (q1.2.1 4)) (C := RB) (T := TB) (N := 36) hx hb hG inB hown hK hP 0 rfl rfl 14 (by decide) (hG _ mw_659) (fun _ h9 => h9) rfl dB_ask_74 ?_
    refine lv_iload_n hx hb dB_ask_77 rfl (lv_at hl 2 rfl) ?_
    refine va_iast (f := ((bA q1.2 10 ((q1.2.1 4)).toNatClampNeg x1).2 11)) hx hb hK hP hD hS 12 0 rfl rfl hg2 dB_ask_78 (fun H locs hP hD hS => ?_)
    rw [wB_a11] at hP hD
    refine lv_aload_n hx hb dB_ask_79 rfl (lv_at hl 0 rfl) ?_
    refine va_get (D := D) (ci := 6) (v := .ref (bd 13)) (C := RB) (T := TB) (N := 36) hx hb hG inB hown hK hP 0 rfl rfl 17 (by decide) (hG _ mw_662) (fun _ h9 => h9) rfl dB_ask_80 ?_
    refine lv_aload_n hx hb dB_ask_83 rfl (lv_at hl 0 rfl) ?_
    refine va_get (D := D) (ci := 6) (v := .int (q1.2.1 4)) (C := RB) (T := TB) (N := 36) hx hb hG inB hown hK hP 0 rfl rfl 14 (by decide) (hG _ mw_659) (fun _ h9 => h9) rfl dB_ask_84 ?_
    refine lv_iload_n hx hb dB_ask_87 rfl (lv_at hl 3 rfl) ?_
    refine va_iast (f := ((bA (bA q1.2 10 ((q1.2.1 4)).toNatClampNeg x1) 11 ((q1.2.1 4)).toNatClampNeg x2).2 12)) hx hb hK hP hD hS 13 0 rfl rfl hg2 dB_ask_88 (fun H locs hP hD hS => ?_)
    rw [wB_a12] at hP hD
    refine lv_aload_n hx hb dB_ask_89 rfl (lv_at hl 0 rfl) ?_
    refine va_get (D := D) (ci := 6) (v := .ref (bd 14)) (C := RB) (T := TB) (N := 36) hx hb hG inB hown hK hP 0 rfl rfl 18 (by decide) (hG _ mw_663) (fun _ h9 => h9) rfl dB_ask_90 ?_
    refine lv_aload_n hx hb dB_ask_93 rfl (lv_at hl 0 rfl) ?_
    refine va_get (D := D) (ci := 6) (v := .int (q1.2.1 4)) (C := RB) (T := TB) (N := 36) hx hb hG inB hown hK hP 0 rfl rfl 14 (by decide) (hG _ mw_659) (fun _ h9 => h9) rfl dB_ask_94 ?_
    refine lv_iconst (v := (0 : Int32)) hx hb dB_ask_97 (by decide) ?_
    refine va_iast (f := ((bA (bA (bA q1.2 10 ((q1.2.1 4)).toNatClampNeg x1) 11 ((q1.2.1 4)).toNatClampNeg x2) 12 ((q1.2.1 4)).toNatClampNeg x3).2 13)) hx hb hK hP hD hS 14 0 rfl rfl hg2 dB_ask_98 (fun H locs hP hD hS => ?_)
    rw [wB_a13] at hP hD
    refine lv_aload_n hx hb dB_ask_99 rfl (lv_at hl 0 rfl) ?_
    refine lv_dup hx hb dB_ask_100 rfl ?_
    refine va_get (D := D) (ci := 6) (v := .int (q1.2.1 4)) (C := RB) (T := TB) (N := 36) hx hb hG inB hown hK hP 0 rfl rfl 14 (by decide) (hG _ mw_659) (fun _ h9 => h9) rfl dB_ask_101 ?_
    refine lv_iconst (v := (1 : Int32)) hx hb dB_ask_104 (by decide) ?_
    refine lv_iadd hx hb dB_ask_105 ?_
    refine va_put (D := D) (ci := 6) (v := .int ((q1.2.1 4) + (1 : Int32))) (ty := .int) (C := RB) (T := TB) (N := 36) hx hb hG inB tyB tyB_ok nmB hown hK hP hD hS 0 rfl rfl 14 (by decide) (hG _ mw_659) (fun _ h9 => h9) rfl (by decide +kernel) rfl rfl (Nat.le_of_ble_eq_true rfl) dB_ask_106 (fun H locs hP hD hS => ?_)
    rw [wB_f4] at hP hD
    refine lv_aload_n hx hb dB_ask_109 rfl (lv_at hl 0 rfl) ?_
    refine lv_aload_n hx hb dB_ask_110 rfl (lv_at hl 0 rfl) ?_
    refine va_get (D := D) (ci := 6) (v := .int ((q1.2.1 4) + (1 : Int32))) (C := RB) (T := TB) (N := 36) hx hb hG inB hown hK hP 0 rfl rfl 14 (by decide) (hG _ mw_659) (fun _ h9 => h9) rfl dB_ask_111 ?_
    refine lv_iconst (v := (1 : Int32)) hx hb dB_ask_114 (by decide) ?_
    refine lv_isub hx hb dB_ask_115 ?_
    obtain ⟨q3, q3_h, h⟩ := gw_bind h
    refine gw_callV (As := [.int (((q1.2.1 4) + (1 : Int32)) - (1 : Int32))]) (rest := []) (u := (bF (bA (bA (bA (bA q1.2 10 ((q1.2.1 4)).toNatClampNeg x1) 11 ((q1.2.1 4)).toNatClampNeg x2) 12 ((q1.2.1 4)).toNatClampNeg x3) 13 ((q1.2.1 4)).toNatClampNeg (0 : Int32)) 4 ((q1.2.1 4) + (1 : Int32)))) (u' := q3) hx hb hml hown hG (c_B_on l D bd cI cZ N (bF (bA (bA (bA (bA q1.2 10 ((q1.2.1 4)).toNatClampNeg x1) 11 ((q1.2.1 4)).toNatClampNeg x2) 12 ((q1.2.1 4)).toNatClampNeg x3) 13 ((q1.2.1 4)).toNatClampNeg (0 : Int32)) 4 ((q1.2.1 4) + (1 : Int32))) (((q1.2.1 4) + (1 : Int32)) - (1 : Int32)) _ q3_h) lk_B_131 rfl rfl ⟨Nat.le_of_ble_eq_true rfl, Nat.le_of_ble_eq_true rfl⟩ (va_recv hK hP (ci := 6) (q0 := 0) rfl rfl) hK hP hD hS hA rfl hl.1 rfl (Nat.le_of_ble_eq_true rfl) dB_ask_116 ⟨Nat.le_of_ble_eq_true rfl, Nat.le_of_ble_eq_true rfl⟩ (fun H locs hP hD hS => ?_)
    refine lv_aload_n hx hb dB_ask_119 rfl (lv_at hl 0 rfl) ?_
    refine va_get (D := D) (ci := 6) (v := .int (q3.1 4)) (C := RB) (T := TB) (N := 36) hx hb hG inB hown hK hP 0 rfl rfl 14 (by decide) (hG _ mw_659) (fun _ h9 => h9) rfl dB_ask_120 ?_
    refine lv_iconst (v := (1 : Int32)) hx hb dB_ask_123 (by decide) ?_
    refine lv_isub hx hb dB_ask_124 ?_
    cases h
    exact gw_iret hx hb hr hlocks hP hD hS dB_ask_125
  · rw [if_pos hc] at h
    refine lv_iconst (v := (0 : Int32)) hx hb dB_ask_57 (by decide) ?_
    cases h
    exact gw_iret hx hb hr hlocks hP hD hS dB_ask_58
set_option maxHeartbeats 4000000 in
set_option maxRecDepth 100000 in
theorem lp_B_ask_36 {p : Program} {l : Launch} {e : Env} {s : State} {m : MethodId} {args : Array Value} {below : List Frame} {meth : Method} {c : Code} {A : Nat → Prop} {D : va_G} {bd : Nat → Nat} {cI cZ : ClassId} (hC : gw_C p s m args meth c "AidRowsModel" cB_ask 4 (some .int) gG D vwCl (tB cI cZ) A) (N : Nat) : ∀ (u : StB) (x1 : Int32) (x2 : Int32) (x3 : Int32) (y1 : Int32) (y2 : Int32) (y3 : Int32) (r : Int32) (w : StB), f_B_ask_36 N u x1 x2 x3 y1 y2 y3 = some (r, w) → ∀ (H : Heap) (locs : List Loc) (ls : Array Slot), va_P D vwCl (wB bd cI cZ u) H → va_D A (wB bd cI cZ u) → va_S A s.heap H locs → lv_has ls 4 [(0, .ref (bd 0)), (1, .int x1), (2, .int x2), (3, .int x3)] → W p l e ({ frames := 4, cells := 0, slots := 0, locals := 91 } : Room) s m args below meth c H locs 0 0 (MQ below (gw_Q D vwCl (wB bd cI cZ) A w (some (.int r))) args s 0 0 A) (F0 m 36 ls [.int y3, .int y2, .int y1, .ref (bd 0)]) := by
  obtain ⟨hx, hb, hr, hml, hG, hown, hlocks, hK, hA⟩ := id hC
  intro u x1 x2 x3 y1 y2 y3 r w h H locs ls hP hD hS hl
  unfold f_B_ask_36 at h
  refine lv_iconst (v := (1 : Int32)) hx hb dB_ask_36 (by decide) ?_
  refine lv_aload_n hx hb dB_ask_37 rfl (lv_at hl 0 rfl) ?_
  refine va_get (D := D) (ci := 6) (v := .int (u.1 4)) (C := RB) (T := TB) (N := 36) hx hb hG inB hown hK hP 0 rfl rfl 14 (by decide) (hG _ mw_659) (fun _ h9 => h9) rfl dB_ask_38 ?_
  refine lv_bipush (v := (30 : Int32)) hx hb dB_ask_41 (by decide) ?_
  refine lv_icmp_ge (tgt := 50) hx hb dB_ask_43 (by decide) (fun hc => ?_) (fun hc => ?_)
  · rw [if_pos hc] at h
    refine lv_iconst (v := (0 : Int32)) hx hb dB_ask_50 (by decide) ?_
    exact lp_B_ask_51 hC N u x1 x2 x3 y1 y2 y3 (1 : Int32) (0 : Int32) _ _ h H locs ls hP hD hS (lv_sub hl [0, 1, 2, 3] rfl)
  · rw [if_neg hc] at h
    refine lv_iconst (v := (1 : Int32)) hx hb dB_ask_46 (by decide) ?_
    refine lv_goto (tgt := 51) hx hb dB_ask_47 (by decide) ?_
    exact lp_B_ask_51 hC N u x1 x2 x3 y1 y2 y3 (1 : Int32) (1 : Int32) _ _ h H locs ls hP hD hS (lv_sub hl [0, 1, 2, 3] rfl)
set_option maxHeartbeats 4000000 in
set_option maxRecDepth 100000 in
theorem lp_B_ask_35 {p : Program} {l : Launch} {e : Env} {s : State} {m : MethodId} {args : Array Value} {below : List Frame} {meth : Method} {c : Code} {A : Nat → Prop} {D : va_G} {bd : Nat → Nat} {cI cZ : ClassId} (hC : gw_C p s m args meth c "AidRowsModel" cB_ask 4 (some .int) gG D vwCl (tB cI cZ) A) (N : Nat) : ∀ (u : StB) (x1 : Int32) (x2 : Int32) (x3 : Int32) (y1 : Int32) (y2 : Int32) (r : Int32) (w : StB), f_B_ask_35 N u x1 x2 x3 y1 y2 = some (r, w) → ∀ (H : Heap) (locs : List Loc) (ls : Array Slot), va_P D vwCl (wB bd cI cZ u) H → va_D A (wB bd cI cZ u) → va_S A s.heap H locs → lv_has ls 4 [(0, .ref (bd 0)), (1, .int x1), (2, .int x2), (3, .int x3)] → W p l e ({ frames := 4, cells := 0, slots := 0, locals := 91 } : Room) s m args below meth c H locs 0 0 (MQ below (gw_Q D vwCl (wB bd cI cZ) A w (some (.int r))) args s 0 0 A) (F0 m 35 ls [.int y2, .int y1, .ref (bd 0)]) := by
  obtain ⟨hx, hb, hr, hml, hG, hown, hlocks, hK, hA⟩ := id hC
  intro u x1 x2 x3 y1 y2 r w h H locs ls hP hD hS hl
  unfold f_B_ask_35 at h
  refine lv_iconst (v := (0 : Int32)) hx hb dB_ask_35 (by decide) ?_
  exact lp_B_ask_36 hC N u x1 x2 x3 y1 y2 (0 : Int32) _ _ h H locs ls hP hD hS (lv_sub hl [0, 1, 2, 3] rfl)
set_option maxHeartbeats 4000000 in
set_option maxRecDepth 100000 in
theorem c_B_ask (l : Launch) (D : va_G) (bd : Nat → Nat) (cI cZ : ClassId) (N : Nat) (u : StB) (a1 : Int32) (a2 : Int32) (a3 : Int32) (r : Int32) (w : StB) (h : f_B_ask N u a1 a2 a3 = some (r, w)) : gw_Ct l D vwCl (tB cI cZ) (wB bd cI cZ) yB_ask (Cond.code yB_ask cB_ask 4 (some .int) :: gG) ({ frames := 4, cells := 0, slots := 0, locals := 91 } : Room) [.ref (bd 0), .int a1, .int a2, .int a3] u (some (.int r)) w := by
  refine gw_enter (by decide) (Nat.le_of_ble_eq_true rfl) ?_
  intro p e s m below meth c A hC hP hD hS ls hl
  obtain ⟨hx, hb, hr, hml, hG, hown, hlocks, hK, hA⟩ := id hC
  have hl : lv_has ls 4 [(0, .ref (bd 0)), (1, .int a1), (2, .int a2), (3, .int a3)] := hl
  obtain ⟨H, hH⟩ : ∃ H, H = s.heap := ⟨_, rfl⟩
  obtain ⟨locs, hlocs⟩ : ∃ x : List Loc, x = [] := ⟨_, rfl⟩
  rw [← hlocs] at hS ⊢
  have hP : va_P D vwCl (wB bd cI cZ u) H := by rw [hH]; exact hP
  have hS : va_S A s.heap H locs := by rw [hH]; exact hS
  suffices g : W p l e ({ frames := 4, cells := 0, slots := 0, locals := 91 } : Room) s m [.ref (bd 0), .int a1, .int a2, .int a3].toArray below meth c H locs 0 0 (MQ below (gw_Q D vwCl (wB bd cI cZ) A w (some (.int r))) [.ref (bd 0), .int a1, .int a2, .int a3].toArray s 0 0 A) (F0 m 0 ls []) by rw [hH] at g; exact g
  unfold f_B_ask at h
  refine lv_aload_n hx hb dB_ask_0 rfl (lv_at hl 0 rfl) ?_
  refine lv_bipush (v := (11 : Int32)) hx hb dB_ask_1 (by decide) ?_
  refine lv_iload_n hx hb dB_ask_3 rfl (lv_at hl 1 rfl) ?_
  refine lv_iconst (v := (0 : Int32)) hx hb dB_ask_4 (by decide) ?_
  refine lv_bipush (v := (9 : Int32)) hx hb dB_ask_5 (by decide) ?_
  refine gw_callS (As := [.int a1, .int (0 : Int32), .int (9 : Int32)]) (rest := [.int (11 : Int32), .ref (bd 0)]) (u := u) (u' := u) hx hb hml hown hG (c_B_in l D bd cI cZ u a1 (0 : Int32) (9 : Int32) _ rfl) lk_B_102 rfl rfl ⟨Nat.le_of_ble_eq_true rfl, Nat.le_of_ble_eq_true rfl⟩ hK hP hD hS hA rfl hl.1 rfl (Nat.le_of_ble_eq_true rfl) dB_ask_7 ⟨Nat.le_of_ble_eq_true rfl, Nat.le_of_ble_eq_true rfl⟩ (fun H locs hP hD hS => ?_)
  refine lv_iload_n hx hb dB_ask_10 rfl (lv_at hl 2 rfl) ?_
  refine lv_iconst (v := (1 : Int32)) hx hb dB_ask_11 (by decide) ?_
  refine lv_bipush (v := (20 : Int32)) hx hb dB_ask_12 (by decide) ?_
  refine gw_callS (As := [.int a2, .int (1 : Int32), .int (20 : Int32)]) (rest := [.int (f_B_in a1 (0 : Int32) (9 : Int32)), .int (11 : Int32), .ref (bd 0)]) (u := u) (u' := u) hx hb hml hown hG (c_B_in l D bd cI cZ u a2 (1 : Int32) (20 : Int32) _ rfl) lk_B_102 rfl rfl ⟨Nat.le_of_ble_eq_true rfl, Nat.le_of_ble_eq_true rfl⟩ hK hP hD hS hA rfl hl.1 rfl (Nat.le_of_ble_eq_true rfl) dB_ask_14 ⟨Nat.le_of_ble_eq_true rfl, Nat.le_of_ble_eq_true rfl⟩ (fun H locs hP hD hS => ?_)
  refine lv_if_eq (tgt := 35) hx hb dB_ask_17 (by decide) (fun hc => ?_) (fun hc => ?_)
  · rw [if_pos hc] at h
    exact lp_B_ask_35 hC N u a1 a2 a3 (11 : Int32) (f_B_in a1 (0 : Int32) (9 : Int32)) _ _ h H locs ls hP hD hS (lv_sub hl [0, 1, 2, 3] rfl)
  · rw [if_neg hc] at h
    refine lv_iload_n hx hb dB_ask_20 rfl (lv_at hl 3 rfl) ?_
    refine lv_iconst (v := (1 : Int32)) hx hb dB_ask_21 (by decide) ?_
    refine lv_sipush (v := (500 : Int32)) hx hb dB_ask_22 (by decide) ?_
    refine gw_callS (As := [.int a3, .int (1 : Int32), .int (500 : Int32)]) (rest := [.int (f_B_in a1 (0 : Int32) (9 : Int32)), .int (11 : Int32), .ref (bd 0)]) (u := u) (u' := u) hx hb hml hown hG (c_B_in l D bd cI cZ u a3 (1 : Int32) (500 : Int32) _ rfl) lk_B_102 rfl rfl ⟨Nat.le_of_ble_eq_true rfl, Nat.le_of_ble_eq_true rfl⟩ hK hP hD hS hA rfl hl.1 rfl (Nat.le_of_ble_eq_true rfl) dB_ask_25 ⟨Nat.le_of_ble_eq_true rfl, Nat.le_of_ble_eq_true rfl⟩ (fun H locs hP hD hS => ?_)
    refine lv_if_eq (tgt := 35) hx hb dB_ask_28 (by decide) (fun hc => ?_) (fun hc => ?_)
    · rw [if_pos hc] at h
      exact lp_B_ask_35 hC N u a1 a2 a3 (11 : Int32) (f_B_in a1 (0 : Int32) (9 : Int32)) _ _ h H locs ls hP hD hS (lv_sub hl [0, 1, 2, 3] rfl)
    · rw [if_neg hc] at h
      refine lv_iconst (v := (1 : Int32)) hx hb dB_ask_31 (by decide) ?_
      refine lv_goto (tgt := 36) hx hb dB_ask_32 (by decide) ?_
      exact lp_B_ask_36 hC N u a1 a2 a3 (11 : Int32) (f_B_in a1 (0 : Int32) (9 : Int32)) (1 : Int32) _ _ h H locs ls hP hD hS (lv_sub hl [0, 1, 2, 3] rfl)
