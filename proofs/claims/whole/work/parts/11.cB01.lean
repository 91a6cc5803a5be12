set_option maxHeartbeats 4000000 in
set_option maxRecDepth 100000 in
theorem c_B_thrown (l : Launch) (D : va_G) (bd : Nat → Nat) (cI cZ : ClassId) (u : StB) (r : Int32) (h : f_B_thrown u = r) : gw_Ct l D vwCl (tB cI cZ) (wB bd cI cZ) yB_thrown (Cond.code yB_thrown cB_thrown 1 (some .int) :: gG) ({ frames := 0, cells := 0, slots := 0, locals := 0 } : Room) [.ref (bd 0)] u (some (.int r)) u := by
  refine gw_enter (by decide) (Nat.le_of_ble_eq_true rfl) ?_
  intro p e s m below meth c A hC hP hD hS ls hl
  obtain ⟨hx, hb, hr, hml, hG, hown, hlocks, hK, hA⟩ := id hC
  have hl : lv_has ls 1 [(0, .ref (bd 0))] := hl
  obtain ⟨H, hH⟩ : ∃ H, H = s.heap := ⟨_, rfl⟩
  obtain ⟨locs, hlocs⟩ : ∃ x : List Loc, x = [] := ⟨_, rfl⟩
  rw [← hlocs] at hS ⊢
  have hP : va_P D vwCl (wB bd cI cZ u) H := by rw [hH]; exact hP
  have hS : va_S A s.heap H locs := by rw [hH]; exact hS
  suffices g : W p l e ({ frames := 0, cells := 0, slots := 0, locals := 0 } : Room) s m [.ref (bd 0)].toArray below meth c H locs 0 0 (MQ below (gw_Q D vwCl (wB bd cI cZ) A u (some (.int r))) [.ref (bd 0)].toArray s 0 0 A) (F0 m 0 ls []) by rw [hH] at g; exact g
  unfold f_B_thrown at h
  refine lv_aload_n hx hb dB_thrown_0 rfl (lv_at hl 0 rfl) ?_
  refine va_get (D := D) (ci := 6) (v := .int (u.1 0)) (C := RB) (T := TB) (N := 36) hx hb hG inB hown hK hP 0 rfl rfl 0 (by decide) (hG _ mw_645) (fun _ h9 => h9) rfl dB_thrown_1 ?_
  subst h
  exact gw_iret hx hb hr hlocks hP hD hS dB_thrown_4
set_option maxHeartbeats 4000000 in
set_option maxRecDepth 100000 in
theorem c_B_in (l : Launch) (D : va_G) (bd : Nat → Nat) (cI cZ : ClassId) (u : StB) (a1 : Int32) (a2 : Int32) (a3 : Int32) (r : Int32) (h : f_B_in a1 a2 a3 = r) : gw_Ct l D vwCl (tB cI cZ) (wB bd cI cZ) yB_in (Cond.code yB_in cB_in 3 (some .boolean) :: gG) ({ frames := 0, cells := 0, slots := 0, locals := 0 } : Room) [.int a1, .int a2, .int a3] u (some (.int r)) u := by
  refine gw_enter (by decide) (Nat.le_of_ble_eq_true rfl) ?_
  intro p e s m below meth c A hC hP hD hS ls hl
  obtain ⟨hx, hb, hr, hml, hG, hown, hlocks, hK, hA⟩ := id hC
  have hl : lv_has ls 3 [(0, .int a1), (1, .int a2), (2, .int a3)] := hl
  obtain ⟨H, hH⟩ : ∃ H, H = s.heap := ⟨_, rfl⟩
  obtain ⟨locs, hlocs⟩ : ∃ x : List Loc, x = [] := ⟨_, rfl⟩
  rw [← hlocs] at hS ⊢
  have hP : va_P D vwCl (wB bd cI cZ u) H := by rw [hH]; exact hP
  have hS : va_S A s.heap H locs := by rw [hH]; exact hS
  suffices g : W p l e ({ frames := 0, cells := 0, slots := 0, locals := 0 } : Room) s m [.int a1, .int a2, .int a3].toArray below meth c H locs 0 0 (MQ below (gw_Q D vwCl (wB bd cI cZ) A u (some (.int r))) [.int a1, .int a2, .int a3].toArray s 0 0 A) (F0 m 0 ls []) by rw [hH] at g; exact g
  unfold f_B_in at h
  refine lv_iload_n hx hb dB_in_0 rfl (lv_at hl 0 rfl) ?_
  refine lv_iload_n hx hb dB_in_1 rfl (lv_at hl 1 rfl) ?_
  refine lv_icmp_lt (tgt := 14) hx hb dB_in_2 (by decide) (fun hc => ?_) (fun hc => ?_)
  · rw [if_pos hc] at h
    refine lv_iconst (v := (0 : Int32)) hx hb dB_in_14 (by decide) ?_
    subst h
    exact gw_zret hx hb hr (by first | rfl | exact nb_B_in _ _ _) hlocks hP hD hS dB_in_15
  · rw [if_neg hc] at h
    refine lv_iload_n hx hb dB_in_5 rfl (lv_at hl 0 rfl) ?_
    refine lv_iload_n hx hb dB_in_6 rfl (lv_at hl 2 rfl) ?_
    refine lv_icmp_gt (tgt := 14) hx hb dB_in_7 (by decide) (fun hc => ?_) (fun hc => ?_)
    · rw [if_pos hc] at h
      refine lv_iconst (v := (0 : Int32)) hx hb dB_in_14 (by decide) ?_
      subst h
      exact gw_zret hx hb hr (by first | rfl | exact nb_B_in _ _ _) hlocks hP hD hS dB_in_15
    · rw [if_neg hc] at h
      refine lv_iconst (v := (1 : Int32)) hx hb dB_in_10 (by decide) ?_
      refine lv_goto (tgt := 15) hx hb dB_in_11 (by decide) ?_
      subst h
      exact gw_zret hx hb hr (by first | rfl | exact nb_B_in _ _ _) hlocks hP hD hS dB_in_15
set_option maxHeartbeats 4000000 in
set_option maxRecDepth 100000 in
theorem lp_B_goes_46 {p : Program} {l : Launch} {e : Env} {s : State} {m : MethodId} {args : Array Value} {below : List Frame} {meth : Method} {c : Code} {A : Nat → Prop} {D : va_G} {bd : Nat → Nat} {cI cZ : ClassId} (hC : gw_C p s m args meth c "AidRowsModel" cB_goes 8 (some .boolean) gG D vwCl (tB cI cZ) A) (N : Nat) : ∀ (n : Nat) (u : StB) (x1 : Int32) (x2 : Int32) (x3 : Int32) (x4 : Int32) (x5 : Int32) (x6 : Int32) (x7 : Int32) (r : Int32) (w : StB), f_B_goes_46 N n u x1 x2 x3 x4 x5 x6 x7 = some (r, w) → ∀ (H : Heap) (locs : List Loc) (ls : Array Slot), va_P D vwCl (wB bd cI cZ u) H → va_D A (wB bd cI cZ u) → va_S A s.heap H locs → lv_has ls 8 [(0, .ref (bd 0)), (1, .int x1), (2, .int x2), (3, .int x3), (4, .int x4), (5, .int x5), (6, .int x6), (7, .int x7)] → W p l e ({ frames := 0, cells := 0, slots := 0, locals := 0 } : Room) s m args below meth c H locs 0 0 (MQ below (gw_Q D vwCl (wB bd cI cZ) A w (some (.int r))) args s 0 0 A) (F0 m 46 ls []) := by
  obtain ⟨hx, hb, hr, hml, hG, hown, hlocks, hK, hA⟩ := id hC
  intro n
  induction n with
  | zero => intro u x1 x2 x3 x4 x5 x6 x7 r w h; cases h
  | succ n ih =>
    intro u x1 x2 x3 x4 x5 x6 x7 r w h H locs ls hP hD hS hl
    rw [f_B_goes_46] at h
    refine lv_iload hx hb dB_goes_46 (lv_at hl 7 rfl) ?_
    refine lv_iload hx hb dB_goes_48 (lv_at hl 6 rfl) ?_
    refine lv_icmp_gt (tgt := 79) hx hb dB_goes_50 (by decide) (fun hc => ?_) (fun hc => ?_)
    · rw [if_pos hc] at h
      refine lv_iload hx hb dB_goes_79 (lv_at hl 6 rfl) ?_
      refine lv_if_ne (tgt := 88) hx hb dB_goes_81 (by decide) (fun hc => ?_) (fun hc => ?_)
      · rw [if_neg hc] at h
        refine lv_iconst (v := (0 : Int32)) hx hb dB_goes_88 (by decide) ?_
        cases h
        exact gw_zret hx hb hr (by first | rfl | exact nb_B_in _ _ _) hlocks hP hD hS dB_goes_89
      · rw [if_pos hc] at h
        refine lv_iconst (v := (1 : Int32)) hx hb dB_goes_84 (by decide) ?_
        refine lv_goto (tgt := 89) hx hb dB_goes_85 (by decide) ?_
        cases h
        exact gw_zret hx hb hr (by first | rfl | exact nb_B_in _ _ _) hlocks hP hD hS dB_goes_89
    · rw [if_neg hc] at h
      refine lv_iload_n hx hb dB_goes_53 rfl (lv_at hl 1 rfl) ?_
      refine lv_iload hx hb dB_goes_54 (lv_at hl 7 rfl) ?_
      refine lv_iand hx hb dB_goes_56 ?_
      refine lv_if_le (tgt := 70) hx hb dB_goes_57 (by decide) (fun hc => ?_) (fun hc => ?_)
      · rw [if_pos hc] at h
        refine lv_iconst (v := (2 : Int32)) hx hb dB_goes_70 (by decide) ?_
        refine lv_iload hx hb dB_goes_71 (lv_at hl 7 rfl) ?_
        refine lv_imul hx hb dB_goes_73 ?_
        refine lv_istore (lv' := [(7, .int ((2 : Int32) * x7)), (0, .ref (bd 0)), (1, .int x1), (2, .int x2), (3, .int x3), (4, .int x4), (5, .int x5), (6, .int x6)]) hx hb dB_goes_74 hl (by decide) rfl (fun ls hl => ?_)
        refine lv_goto (tgt := 46) hx hb dB_goes_76 (by decide) ?_
        exact ih u x1 x2 x3 x4 x5 x6 ((2 : Int32) * x7) _ _ h H locs ls hP hD hS (lv_sub hl [1, 2, 3, 4, 5, 6, 7, 0] rfl)
      · rw [if_neg hc] at h
        refine lv_aload_n hx hb dB_goes_60 rfl (lv_at hl 0 rfl) ?_
        refine lv_dup hx hb dB_goes_61 rfl ?_
        refine va_get (D := D) (ci := 6) (v := .int (u.1 0)) (C := RB) (T := TB) (N := 36) hx hb hG inB hown hK hP 0 rfl rfl 0 (by decide) (hG _ mw_645) (fun _ h9 => h9) rfl dB_goes_62 ?_
        refine lv_iconst (v := (1 : Int32)) hx hb dB_goes_65 (by decide) ?_
        refine lv_iadd hx hb dB_goes_66 ?_
        refine va_put (D := D) (ci := 6) (v := .int ((u.1 0) + (1 : Int32))) (ty := .int) (C := RB) (T := TB) (N := 36) hx hb hG inB tyB tyB_ok nmB hown hK hP hD hS 0 rfl rfl 0 (by decide) (hG _ mw_645) (fun _ h9 => h9) rfl (by decide +kernel) rfl rfl (Nat.le_of_ble_eq_true rfl) dB_goes_67 (fun H locs hP hD hS => ?_)
        rw [wB_f0] at hP hD
        refine lv_iconst (v := (2 : Int32)) hx hb dB_goes_70 (by decide) ?_
        refine lv_iload hx hb dB_goes_71 (lv_at hl 7 rfl) ?_
        refine lv_imul hx hb dB_goes_73 ?_
        refine lv_istore (lv' := [(7, .int ((2 : Int32) * x7)), (0, .ref (bd 0)), (1, .int x1), (2, .int x2), (3, .int x3), (4, .int x4), (5, .int x5), (6, .int x6)]) hx hb dB_goes_74 hl (by decide) rfl (fun ls hl => ?_)
        refine lv_goto (tgt := 46) hx hb dB_goes_76 (by decide) ?_
        exact ih (bF u 0 ((u.1 0) + (1 : Int32))) x1 x2 x3 x4 x5 x6 ((2 : Int32) * x7) _ _ h H locs ls hP hD hS (lv_sub hl [1, 2, 3, 4, 5, 6, 7, 0] rfl)
set_option maxHeartbeats 4000000 in
set_option maxRecDepth 100000 in
theorem c_B_goes (l : Launch) (D : va_G) (bd : Nat → Nat) (cI cZ : ClassId) (N : Nat) (u : StB) (a1 : Int32) (a2 : Int32) (a3 : Int32) (a4 : Int32) (a5 : Int32) (r : Int32) (w : StB) (h : f_B_goes N u a1 a2 a3 a4 a5 = some (r, w)) : gw_Ct l D vwCl (tB cI cZ) (wB bd cI cZ) yB_goes (Cond.code yB_goes cB_goes 8 (some .boolean) :: gG) ({ frames := 0, cells := 0, slots := 0, locals := 0 } : Room) [.ref (bd 0), .int a1, .int a2, .int a3, .int a4, .int a5] u (some (.int r)) w := by
  refine gw_enter (by decide) (Nat.le_of_ble_eq_true rfl) ?_
  intro p e s m below meth c A hC hP hD hS ls hl
  obtain ⟨hx, hb, hr, hml, hG, hown, hlocks, hK, hA⟩ := id hC
  have hl : lv_has ls 8 [(0, .ref (bd 0)), (1, .int a1), (2, .int a2), (3, .int a3), (4, .int a4), (5, .int a5)] := hl
  obtain ⟨H, hH⟩ : ∃ H, H = s.heap := ⟨_, rfl⟩
  obtain ⟨locs, hlocs⟩ : ∃ x : List Loc, x = [] := ⟨_, rfl⟩
  rw [← hlocs] at hS ⊢
  have hP : va_P D vwCl (wB bd cI cZ u) H := by rw [hH]; exact hP
  have hS : va_S A s.heap H locs := by rw [hH]; exact hS
  suffices g : W p l e ({ frames := 0, cells := 0, slots := 0, locals := 0 } : Room) s m [.ref (bd 0), .int a1, .int a2, .int a3, .int a4, .int a5].toArray below meth c H locs 0 0 (MQ below (gw_Q D vwCl (wB bd cI cZ) A w (some (.int r))) [.ref (bd 0), .int a1, .int a2, .int a3, .int a4, .int a5].toArray s 0 0 A) (F0 m 0 ls []) by rw [hH] at g; exact g
  unfold f_B_goes at h
  refine lv_iload_n hx hb dB_goes_0 rfl (lv_at hl 2 rfl) ?_
  refine lv_if_ne (tgt := 8) hx hb dB_goes_1 (by decide) (fun hc => ?_) (fun hc => ?_)
  · rw [if_neg hc] at h
    refine lv_iload_n hx hb dB_goes_8 rfl (lv_at hl 3 rfl) ?_
    refine lv_if_ne (tgt := 16) hx hb dB_goes_9 (by decide) (fun hc => ?_) (fun hc => ?_)
    · rw [if_neg hc] at h
      refine lv_iload hx hb dB_goes_16 (lv_at hl 4 rfl) ?_
      refine lv_if_ne (tgt := 25) hx hb dB_goes_18 (by decide) (fun hc => ?_) (fun hc => ?_)
      · rw [if_neg hc] at h
        refine lv_iload hx hb dB_goes_25 (lv_at hl 5 rfl) ?_
        refine lv_if_ne (tgt := 35) hx hb dB_goes_27 (by decide) (fun hc => ?_) (fun hc => ?_)
        · rw [if_neg hc] at h
          refine lv_iconst (v := (0 : Int32)) hx hb dB_goes_35 (by decide) ?_
          refine lv_istore (lv' := [(6, .int (0 : Int32)), (0, .ref (bd 0)), (1, .int a1), (2, .int a2), (3, .int a3), (4, .int a4), (5, .int a5)]) hx hb dB_goes_36 hl (by decide) rfl (fun ls hl => ?_)
          refine lv_aload_n hx hb dB_goes_38 rfl (lv_at hl 1 rfl) ?_
          refine lv_iconst (v := (0 : Int32)) hx hb dB_goes_39 (by decide) ?_
          refine va_put (D := D) (ci := 6) (v := .int (0 : Int32)) (ty := .int) (C := RB) (T := TB) (N := 36) hx hb hG inB tyB tyB_ok nmB hown hK hP hD hS 0 rfl rfl 0 (by decide) (hG _ mw_645) (fun _ h9 => h9) rfl (by decide +kernel) rfl rfl (Nat.le_of_ble_eq_true rfl) dB_goes_40 (fun H locs hP hD hS => ?_)
          rw [wB_f0] at hP hD
          refine lv_iconst (v := (1 : Int32)) hx hb dB_goes_43 (by decide) ?_
          refine lv_istore (lv' := [(7, .int (1 : Int32)), (6, .int (0 : Int32)), (0, .ref (bd 0)), (1, .int a1), (2, .int a2), (3, .int a3), (4, .int a4), (5, .int a5)]) hx hb dB_goes_44 hl (by decide) rfl (fun ls hl => ?_)
          exact lp_B_goes_46 hC N N (bF u 0 (0 : Int32)) a1 a2 a3 a4 a5 (0 : Int32) (1 : Int32) _ _ h H locs ls hP hD hS (lv_sub hl [2, 3, 4, 5, 6, 7, 1, 0] rfl)
        · rw [if_pos hc] at h
          refine lv_bipush (v := (8 : Int32)) hx hb dB_goes_30 (by decide) ?_
          refine lv_goto (tgt := 36) hx hb dB_goes_32 (by decide) ?_
          refine lv_istore (lv' := [(6, .int (8 : Int32)), (0, .ref (bd 0)), (1, .int a1), (2, .int a2), (3, .int a3), (4, .int a4), (5, .int a5)]) hx hb dB_goes_36 hl (by decide) rfl (fun ls hl => ?_)
          refine lv_aload_n hx hb dB_goes_38 rfl (lv_at hl 1 rfl) ?_
          refine lv_iconst (v := (0 : Int32)) hx hb dB_goes_39 (by decide) ?_
          refine va_put (D := D) (ci := 6) (v := .int (0 : Int32)) (ty := .int) (C := RB) (T := TB) (N := 36) hx hb hG inB tyB tyB_ok nmB hown hK hP hD hS 0 rfl rfl 0 (by decide) (hG _ mw_645) (fun _ h9 => h9) rfl (by decide +kernel) rfl rfl (Nat.le_of_ble_eq_true rfl) dB_goes_40 (fun H locs hP hD hS => ?_)
          rw [wB_f0] at hP hD
          refine lv_iconst (v := (1 : Int32)) hx hb dB_goes_43 (by decide) ?_
          refine lv_istore (lv' := [(7, .int (1 : Int32)), (6, .int (8 : Int32)), (0, .ref (bd 0)), (1, .int a1), (2, .int a2), (3, .int a3), (4, .int a4), (5, .int a5)]) hx hb dB_goes_44 hl (by decide) rfl (fun ls hl => ?_)
          exact lp_B_goes_46 hC N N (bF u 0 (0 : Int32)) a1 a2 a3 a4 a5 (8 : Int32) (1 : Int32) _ _ h H locs ls hP hD hS (lv_sub hl [2, 3, 4, 5, 6, 7, 1, 0] rfl)
      · rw [if_pos hc] at h
        refine lv_iconst (v := (4 : Int32)) hx hb dB_goes_21 (by decide) ?_
        refine lv_goto (tgt := 36) hx hb dB_goes_22 (by decide) ?_
        refine lv_istore (lv' := [(6, .int (4 : Int32)), (0, .ref (bd 0)), (1, .int a1), (2, .int a2), (3, .int a3), (4, .int a4), (5, .int a5)]) hx hb dB_goes_36 hl (by decide) rfl (fun ls hl => ?_)
        refine lv_aload_n hx hb dB_goes_38 rfl (lv_at hl 1 rfl) ?_
        refine lv_iconst (v := (0 : Int32)) hx hb dB_goes_39 (by decide) ?_
        refine va_put (D := D) (ci := 6) (v := .int (0 : Int32)) (ty := .int) (C := RB) (T := TB) (N := 36) hx hb hG inB tyB tyB_ok nmB hown hK hP hD hS 0 rfl rfl 0 (by decide) (hG _ mw_645) (fun _ h9 => h9) rfl (by decide +kernel) rfl rfl (Nat.le_of_ble_eq_true rfl) dB_goes_40 (fun H locs hP hD hS => ?_)
        rw [wB_f0] at hP hD
        refine lv_iconst (v := (1 : Int32)) hx hb dB_goes_43 (by decide) ?_
        refine lv_istore (lv' := [(7, .int (1 : Int32)), (6, .int (4 : Int32)), (0, .ref (bd 0)), (1, .int a1), (2, .int a2), (3, .int a3), (4, .int a4), (5, .int a5)]) hx hb dB_goes_44 hl (by decide) rfl (fun ls hl => ?_)
        exact lp_B_goes_46 hC N N (bF u 0 (0 : Int32)) a1 a2 a3 a4 a5 (4 : Int32) (1 : Int32) _ _ h H locs ls hP hD hS (lv_sub hl [2, 3, 4, 5, 6, 7, 1, 0] rfl)
    · rw [if_pos hc] at h
      refine lv_iconst (v := (2 : Int32)) hx hb dB_goes_12 (by decide) ?_
      refine lv_goto (tgt := 36) hx hb dB_goes_13 (by decide) ?_
      refine lv_istore (lv' := [(6, .int (2 : Int32)), (0, .ref (bd 0)), (1, .int a1), (2, .int a2), (3, .int a3), (4, .int a4), (5, .int a5)]) hx hb dB_goes_36 hl (by decide) rfl (fun ls hl => ?_)
      refine lv_aload_n hx hb dB_goes_38 rfl (lv_at hl 1 rfl) ?_
      refine lv_iconst (v := (0 : Int32)) hx hb dB_goes_39 (by decide) ?_
      refine va_put (D := D) (ci := 6) (v := .int (0 : Int32)) (ty := .int) (C := RB) (T := TB) (N := 36) hx hb hG inB tyB tyB_ok nmB hown hK hP hD hS 0 rfl rfl 0 (by decide) (hG _ mw_645) (fun _ h9 => h9) rfl (by decide +kernel) rfl rfl (Nat.le_of_ble_eq_true rfl) dB_goes_40 (fun H locs hP hD hS => ?_)
      rw [wB_f0] at hP hD
      refine lv_iconst (v := (1 : Int32)) hx hb dB_goes_43 (by decide) ?_
      refine lv_istore (lv' := [(7, .int (1 : Int32)), (6, .int (2 : Int32)), (0, .ref (bd 0)), (1, .int a1), (2, .int a2), (3, .int a3), (4, .int a4), (5, .int a5)]) hx hb dB_goes_44 hl (by decide) rfl (fun ls hl => ?_)
      exact lp_B_goes_46 hC N N (bF u 0 (0 : Int32)) a1 a2 a3 a4 a5 (2 : Int32) (1 : Int32) _ _ h H locs ls hP hD hS (lv_sub hl [2, 3, 4, 5, 6, 7, 1, 0] rfl)
  · rw [if_pos hc] at h
    refine lv_iconst (v := (1 : Int32)) hx hb dB_goes_4 (by decide) ?_
    refine lv_goto (tgt := 36) hx hb dB_goes_5 (by decide) ?_
    refine lv_istore (lv' := [(6, .int (1 : Int32)), (0, .ref (bd 0)), (1, .int a1), (2, .int a2), (3, .int a3), (4, .int a4), (5, .int a5)]) hx hb dB_goes_36 hl (by decide) rfl (fun ls hl => ?_)
    refine lv_aload_n hx hb dB_goes_38 rfl (lv_at hl 1 rfl) ?_
    refine lv_iconst (v := (0 : Int32)) hx hb dB_goes_39 (by decide) ?_
    refine va_put (D := D) (ci := 6) (v := .int (0 : Int32)) (ty := .int) (C := RB) (T := TB) (N := 36) hx hb hG inB tyB tyB_ok nmB hown hK hP hD hS 0 rfl rfl 0 (by decide) (hG _ mw_645) (fun _ h9 => h9) rfl (by decide +kernel) rfl rfl (Nat.le_of_ble_eq_true rfl) dB_goes_40 (fun H locs hP hD hS => ?_)
    rw [wB_f0] at hP hD
    refine lv_iconst (v := (1 : Int32)) hx hb dB_goes_43 (by decide) ?_
    refine lv_istore (lv' := [(7, .int (1 : Int32)), (6, .int (1 : Int32)), (0, .ref (bd 0)), (1, .int a1), (2, .int a2), (3, .int a3), (4, .int a4), (5, .int a5)]) hx hb dB_goes_44 hl (by decide) rfl (fun ls hl => ?_)
    exact lp_B_goes_46 hC N N (bF u 0 (0 : Int32)) a1 a2 a3 a4 a5 (1 : Int32) (1 : Int32) _ _ h H locs ls hP hD hS (lv_sub hl [2, 3, 4, 5, 6, 7, 1, 0] rfl)
set_option maxHeartbeats 4000000 in
set_option maxRecDepth 100000 in
theorem c_B_isHouse (l : Launch) (D : va_G) (bd : Nat → Nat) (cI cZ : ClassId) (u : StB) (a1 : Int32) (r : Int32) (h : f_B_isHouse u a1 = r) : gw_Ct l D vwCl (tB cI cZ) (wB bd cI cZ) yB_isHouse (Cond.code yB_isHouse cB_isHouse 2 (some .boolean) :: gG) ({ frames := 1, cells := 0, slots := 0, locals := 22 } : Room) [.ref (bd 0), .int a1] u (some (.int r)) u := by
  refine gw_enter (by decide) (Nat.le_of_ble_eq_true rfl) ?_
  intro p e s m below meth c A hC hP hD hS ls hl
  obtain ⟨hx, hb, hr, hml, hG, hown, hlocks, hK, hA⟩ := id hC
  have hl : lv_has ls 2 [(0, .ref (bd 0)), (1, .int a1)] := hl
  obtain ⟨H, hH⟩ : ∃ H, H = s.heap := ⟨_, rfl⟩
  obtain ⟨locs, hlocs⟩ : ∃ x : List Loc, x = [] := ⟨_, rfl⟩
  rw [← hlocs] at hS ⊢
  have hP : va_P D vwCl (wB bd cI cZ u) H := by rw [hH]; exact hP
  have hS : va_S A s.heap H locs := by rw [hH]; exact hS
  suffices g : W p l e ({ frames := 1, cells := 0, slots := 0, locals := 22 } : Room) s m [.ref (bd 0), .int a1].toArray below meth c H locs 0 0 (MQ below (gw_Q D vwCl (wB bd cI cZ) A u (some (.int r))) [.ref (bd 0), .int a1].toArray s 0 0 A) (F0 m 0 ls []) by rw [hH] at g; exact g
  unfold f_B_isHouse at h
  refine lv_iload_n hx hb dB_isHouse_0 rfl (lv_at hl 1 rfl) ?_
  refine lv_iconst (v := (0 : Int32)) hx hb dB_isHouse_1 (by decide) ?_
  refine lv_aload_n hx hb dB_isHouse_2 rfl (lv_at hl 0 rfl) ?_
  refine va_get (D := D) (ci := 6) (v := .int (u.1 2)) (C := RB) (T := TB) (N := 36) hx hb hG inB hown hK hP 0 rfl rfl 2 (by decide) (hG _ mw_647) (fun _ h9 => h9) rfl dB_isHouse_3 ?_
  refine lv_iconst (v := (1 : Int32)) hx hb dB_isHouse_6 (by decide) ?_
  refine lv_isub hx hb dB_isHouse_7 ?_
  refine gw_callS (As := [.int a1, .int (0 : Int32), .int ((u.1 2) - (1 : Int32))]) (rest := []) (u := u) (u' := u) hx hb hml hown hG (c_B_in l D bd cI cZ u a1 (0 : Int32) ((u.1 2) - (1 : Int32)) _ rfl) lk_B_102 rfl rfl ⟨Nat.le_of_ble_eq_true rfl, Nat.le_of_ble_eq_true rfl⟩ hK hP hD hS hA rfl hl.1 rfl (Nat.le_of_ble_eq_true rfl) dB_isHouse_8 ⟨Nat.le_of_ble_eq_true rfl, Nat.le_of_ble_eq_true rfl⟩ (fun H locs hP hD hS => ?_)
  subst h
  exact gw_zret hx hb hr (by first | rfl | exact nb_B_in _ _ _) hlocks hP hD hS dB_isHouse_11
set_option maxHeartbeats 4000000 in
set_option maxRecDepth 100000 in
theorem lp_B_house_45 {p : Program} {l : Launch} {e : Env} {s : State} {m : MethodId} {args : Array Value} {below : List Frame} {meth : Method} {c : Code} {A : Nat → Prop} {D : va_G} {bd : Nat → Nat} {cI cZ : ClassId} (hC : gw_C p s m args meth c "AidRowsModel" cB_house 3 (some .int) gG D vwCl (tB cI cZ) A) (N : Nat) : ∀ (u : StB) (x1 : Int32) (x2 : Int32) (y1 : Int32) (y2 : Int32) (y3 : Int32) (y4 : Int32) (y5 : Int32) (r : Int32) (w : StB), f_B_house_45 N u x1 x2 y1 y2 y3 y4 y5 = some (r, w) → ∀ (H : Heap) (locs : List Loc) (ls : Array Slot), va_P D vwCl (wB bd cI cZ u) H → va_D A (wB bd cI cZ u) → va_S A s.heap H locs → lv_has ls 3 [(0, .ref (bd 0)), (1, .int x1), (2, .int x2)] → W p l e ({ frames := 1, cells := 0, slots := 0, locals := 27 } : Room) s m args below meth c H locs 0 0 (MQ below (gw_Q D vwCl (wB bd cI cZ) A w (some (.int r))) args s 0 0 A) (F0 m 45 ls [.int y5, .int y4, .int y3, .int y2, .int y1, .ref (bd 0)]) := by
  obtain ⟨hx, hb, hr, hml, hG, hown, hlocks, hK, hA⟩ := id hC
  intro u x1 x2 y1 y2 y3 y4 y5 r w h H locs ls hP hD hS hl
  unfold f_B_house_45 at h
  obtain ⟨q1, q1_h, h⟩ := gw_bind h
  refine gw_callV (As := [.int y1, .int y2, .int y3, .int y4, .int y5]) (rest := []) (u := u) (u' := q1.2) hx hb hml hown hG (c_B_goes l D bd cI cZ N u y1 y2 y3 y4 y5 _ _ q1_h) lk_B_106 rfl rfl ⟨Nat.le_of_ble_eq_true rfl, Nat.le_of_ble_eq_true rfl⟩ (va_recv hK hP (ci := 6) (q0 := 0) rfl rfl) hK hP hD hS hA rfl hl.1 rfl (Nat.le_of_ble_eq_true rfl) dB_house_45 ⟨Nat.le_of_ble_eq_true rfl, Nat.le_of_ble_eq_true rfl⟩ (fun H locs hP hD hS => ?_)
  refine lv_if_ne (tgt := 53) hx hb dB_house_48 (by decide) (fun hc => ?_) (fun hc => ?_)
  · rw [if_neg hc] at h
    refine lv_aload_n hx hb dB_house_53 rfl (lv_at hl 0 rfl) ?_
    refine va_get (D := D) (ci := 6) (v := .ref (bd 1)) (C := RB) (T := TB) (N := 36) hx hb hG inB hown hK hP 0 rfl rfl 3 (by decide) (hG _ mw_648) (fun _ h9 => h9) rfl dB_house_54 ?_
    refine lv_aload_n hx hb dB_house_57 rfl (lv_at hl 0 rfl) ?_
    refine va_get (D := D) (ci := 6) (v := .int (q1.2.1 2)) (C := RB) (T := TB) (N := 36) hx hb hG inB hown hK hP 0 rfl rfl 2 (by decide) (hG _ mw_647) (fun _ h9 => h9) rfl dB_house_58 ?_
    refine lv_iload_n hx hb dB_house_61 rfl (lv_at hl 1 rfl) ?_
    obtain ⟨hg2, h⟩ := gI_some h
    refine va_iast (f := (q1.2.2 0)) hx hb hK hP hD hS 1 0 rfl rfl hg2 dB_house_62 (fun H locs hP hD hS => ?_)
    rw [wB_a0] at hP hD
    refine lv_aload_n hx hb dB_house_63 rfl (lv_at hl 0 rfl) ?_
    refine va_get (D := D) (ci := 6) (v := .ref (bd 2)) (C := RB) (T := TB) (N := 36) hx hb hG inB hown hK hP 0 rfl rfl 4 (by decide) (hG _ mw_649) (fun _ h9 => h9) rfl dB_house_64 ?_
    refine lv_aload_n hx hb dB_house_67 rfl (lv_at hl 0 rfl) ?_
    refine va_get (D := D) (ci := 6) (v := .int (q1.2.1 2)) (C := RB) (T := TB) (N := 36) hx hb hG inB hown hK hP 0 rfl rfl 2 (by decide) (hG _ mw_647) (fun _ h9 => h9) rfl dB_house_68 ?_
    refine lv_iload_n hx hb dB_house_71 rfl (lv_at hl 2 rfl) ?_
    refine va_iast (f := ((bA q1.2 0 ((q1.2.1 2)).toNatClampNeg x1).2 1)) hx hb hK hP hD hS 2 0 rfl rfl hg2 dB_house_72 (fun H locs hP hD hS => ?_)
    rw [wB_a1] at hP hD
    refine lv_aload_n hx hb dB_house_73 rfl (lv_at hl 0 rfl) ?_
    refine lv_dup hx hb dB_house_74 rfl ?_
    refine va_get (D := D) (ci := 6) (v := .int (q1.2.1 2)) (C := RB) (T := TB) (N := 36) hx hb hG inB hown hK hP 0 rfl rfl 2 (by decide) (hG _ mw_647) (fun _ h9 => h9) rfl dB_house_75 ?_
    refine lv_iconst (v := (1 : Int32)) hx hb dB_house_78 (by decide) ?_
    refine lv_iadd hx hb dB_house_79 ?_
    refine va_put (D := D) (ci := 6) (v := .int ((q1.2.1 2) + (1 : Int32))) (ty := .int) (C := RB) (T := TB) (N := 36) hx hb hG inB tyB tyB_ok nmB hown hK hP hD hS 0 rfl rfl 2 (by decide) (hG _ mw_647) (fun _ h9 => h9) rfl (by decide +kernel) rfl rfl (Nat.le_of_ble_eq_true rfl) dB_house_80 (fun H locs hP hD hS => ?_)
    rw [wB_f2] at hP hD
    refine lv_aload_n hx hb dB_house_83 rfl (lv_at hl 0 rfl) ?_
    refine va_get (D := D) (ci := 6) (v := .int ((q1.2.1 2) + (1 : Int32))) (C := RB) (T := TB) (N := 36) hx hb hG inB hown hK hP 0 rfl rfl 2 (by decide) (hG _ mw_647) (fun _ h9 => h9) rfl dB_house_84 ?_
    refine lv_iconst (v := (1 : Int32)) hx hb dB_house_87 (by decide) ?_
    refine lv_isub hx hb dB_house_88 ?_
    cases h
    exact gw_iret hx hb hr hlocks hP hD hS dB_house_89
  · rw [if_pos hc] at h
    refine lv_iconst (v := (0 : Int32)) hx hb dB_house_51 (by decide) ?_
    cases h
    exact gw_iret hx hb hr hlocks hP hD hS dB_house_52
set_option maxHeartbeats 4000000 in
set_option maxRecDepth 100000 in
theorem lp_B_house_30 {p : Program} {l : Launch} {e : Env} {s : State} {m : MethodId} {args : Array Value} {below : List Frame} {meth : Method} {c : Code} {A : Nat → Prop} {D : va_G} {bd : Nat → Nat} {cI cZ : ClassId} (hC : gw_C p s m args meth c "AidRowsModel" cB_house 3 (some .int) gG D vwCl (tB cI cZ) A) (N : Nat) : ∀ (u : StB) (x1 : Int32) (x2 : Int32) (y1 : Int32) (y2 : Int32) (y3 : Int32) (r : Int32) (w : StB), f_B_house_30 N u x1 x2 y1 y2 y3 = some (r, w) → ∀ (H : Heap) (locs : List Loc) (ls : Array Slot), va_P D vwCl (wB bd cI cZ u) H → va_D A (wB bd cI cZ u) → va_S A s.heap H locs → lv_has ls 3 [(0, .ref (bd 0)), (1, .int x1), (2, .int x2)] → W p l e ({ frames := 1, cells := 0, slots := 0, locals := 27 } : Room) s m args below meth c H locs 0 0 (MQ below (gw_Q D vwCl (wB bd cI cZ) A w (some (.int r))) args s 0 0 A) (F0 m 30 ls [.int y3, .int y2, .int y1, .ref (bd 0)]) := by
  obtain ⟨hx, hb, hr, hml, hG, hown, hlocks, hK, hA⟩ := id hC
  intro u x1 x2 y1 y2 y3 r w h H locs ls hP hD hS hl
  unfold f_B_house_30 at h
  refine lv_iconst (v := (1 : Int32)) hx hb dB_house_30 (by decide) ?_
  refine lv_aload_n hx hb dB_house_31 rfl (lv_at hl 0 rfl) ?_
  refine va_get (D := D) (ci := 6) (v := .int (u.1 2)) (C := RB) (T := TB) (N := 36) hx hb hG inB hown hK hP 0 rfl rfl 2 (by decide) (hG _ mw_647) (fun _ h9 => h9) rfl dB_house_32 ?_
  refine lv_bipush (v := (8 : Int32)) hx hb dB_house_35 (by decide) ?_
  refine lv_icmp_ge (tgt := 44) hx hb dB_house_37 (by decide) (fun hc => ?_) (fun hc => ?_)
  · rw [if_pos hc] at h
    refine lv_iconst (v := (0 : Int32)) hx hb dB_house_44 (by decide) ?_
    exact lp_B_house_45 hC N u x1 x2 y1 y2 y3 (1 : Int32) (0 : Int32) _ _ h H locs ls hP hD hS (lv_sub hl [0, 1, 2] rfl)
  · rw [if_neg hc] at h
    refine lv_iconst (v := (1 : Int32)) hx hb dB_house_40 (by decide) ?_
    refine lv_goto (tgt := 45) hx hb dB_house_41 (by decide) ?_
    exact lp_B_house_45 hC N u x1 x2 y1 y2 y3 (1 : Int32) (1 : Int32) _ _ h H locs ls hP hD hS (lv_sub hl [0, 1, 2] rfl)
set_option maxHeartbeats 4000000 in
set_option maxRecDepth 100000 in
theorem lp_B_house_29 {p : Program} {l : Launch} {e : Env} {s : State} {m : MethodId} {args : Array Value} {below : List Frame} {meth : Method} {c : Code} {A : Nat → Prop} {D : va_G} {bd : Nat → Nat} {cI cZ : ClassId} (hC : gw_C p s m args meth c "AidRowsModel" cB_house 3 (some .int) gG D vwCl (tB cI cZ) A) (N : Nat) : ∀ (u : StB) (x1 : Int32) (x2 : Int32) (y1 : Int32) (y2 : Int32) (r : Int32) (w : StB), f_B_house_29 N u x1 x2 y1 y2 = some (r, w) → ∀ (H : Heap) (locs : List Loc) (ls : Array Slot), va_P D vwCl (wB bd cI cZ u) H → va_D A (wB bd cI cZ u) → va_S A s.heap H locs → lv_has ls 3 [(0, .ref (bd 0)), (1, .int x1), (2, .int x2)] → W p l e ({ frames := 1, cells := 0, slots := 0, locals := 27 } : Room) s m args below meth c H locs 0 0 (MQ below (gw_Q D vwCl (wB bd cI cZ) A w (some (.int r))) args s 0 0 A) (F0 m 29 ls [.int y2, .int y1, .ref (bd 0)]) := by
  obtain ⟨hx, hb, hr, hml, hG, hown, hlocks, hK, hA⟩ := id hC
  intro u x1 x2 y1 y2 r w h H locs ls hP hD hS hl
  unfold f_B_house_29 at h
  refine lv_iconst (v := (0 : Int32)) hx hb dB_house_29 (by decide) ?_
  exact lp_B_house_30 hC N u x1 x2 y1 y2 (0 : Int32) _ _ h H locs ls hP hD hS (lv_sub hl [0, 1, 2] rfl)
set_option maxHeartbeats 4000000 in
set_option maxRecDepth 100000 in
theorem c_B_house (l : Launch) (D : va_G) (bd : Nat → Nat) (cI cZ : ClassId) (N : Nat) (u : StB) (a1 : Int32) (a2 : Int32) (r : Int32) (w : StB) (h : f_B_house N u a1 a2 = some (r, w)) : gw_Ct l D vwCl (tB cI cZ) (wB bd cI cZ) yB_house (Cond.code yB_house cB_house 3 (some .int) :: gG) ({ frames := 1, cells := 0, slots := 0, locals := 27 } : Room) [.ref (bd 0), .int a1, .int a2] u (some (.int r)) w := by
  refine gw_enter (by decide) (Nat.le_of_ble_eq_true rfl) ?_
  intro p e s m below meth c A hC hP hD hS ls hl
  obtain ⟨hx, hb, hr, hml, hG, hown, hlocks, hK, hA⟩ := id hC
  have hl : lv_has ls 3 [(0, .ref (bd 0)), (1, .int a1), (2, .int a2)] := hl
  obtain ⟨H, hH⟩ : ∃ H, H = s.heap := ⟨_, rfl⟩
  obtain ⟨locs, hlocs⟩ : ∃ x : List Loc, x = [] := ⟨_, rfl⟩
  rw [← hlocs] at hS ⊢
  have hP : va_P D vwCl (wB bd cI cZ u) H := by rw [hH]; exact hP
  have hS : va_S A s.heap H locs := by rw [hH]; exact hS
  suffices g : W p l e ({ frames := 1, cells := 0, slots := 0, locals := 27 } : Room) s m [.ref (bd 0), .int a1, .int a2].toArray below meth c H locs 0 0 (MQ below (gw_Q D vwCl (wB bd cI cZ) A w (some (.int r))) [.ref (bd 0), .int a1, .int a2].toArray s 0 0 A) (F0 m 0 ls []) by rw [hH] at g; exact g
  unfold f_B_house at h
  refine lv_aload_n hx hb dB_house_0 rfl (lv_at hl 0 rfl) ?_
  refine lv_bipush (v := (10 : Int32)) hx hb dB_house_1 (by decide) ?_
  refine lv_iconst (v := (1 : Int32)) hx hb dB_house_3 (by decide) ?_
  refine lv_iload_n hx hb dB_house_4 rfl (lv_at hl 1 rfl) ?_
  refine lv_iconst (v := (0 : Int32)) hx hb dB_house_5 (by decide) ?_
  refine lv_bipush (v := (9 : Int32)) hx hb dB_house_6 (by decide) ?_
  refine gw_callS (As := [.int a1, .int (0 : Int32), .int (9 : Int32)]) (rest := [.int (1 : Int32), .int (10 : Int32), .ref (bd 0)]) (u := u) (u' := u) hx hb hml hown hG (c_B_in l D bd cI cZ u a1 (0 : Int32) (9 : Int32) _ rfl) lk_B_102 rfl rfl ⟨Nat.le_of_ble_eq_true rfl, Nat.le_of_ble_eq_true rfl⟩ hK hP hD hS hA rfl hl.1 rfl (Nat.le_of_ble_eq_true rfl) dB_house_8 ⟨Nat.le_of_ble_eq_true rfl, Nat.le_of_ble_eq_true rfl⟩ (fun H locs hP hD hS => ?_)
  refine lv_if_eq (tgt := 29) hx hb dB_house_11 (by decide) (fun hc => ?_) (fun hc => ?_)
  · rw [if_pos hc] at h
    exact lp_B_house_29 hC N u a1 a2 (10 : Int32) (1 : Int32) _ _ h H locs ls hP hD hS (lv_sub hl [0, 1, 2] rfl)
  · rw [if_neg hc] at h
    refine lv_iload_n hx hb dB_house_14 rfl (lv_at hl 2 rfl) ?_
    refine lv_iconst (v := (0 : Int32)) hx hb dB_house_15 (by decide) ?_
    refine lv_sipush (v := (1000 : Int32)) hx hb dB_house_16 (by decide) ?_
    refine gw_callS (As := [.int a2, .int (0 : Int32), .int (1000 : Int32)]) (rest := [.int (1 : Int32), .int (10 : Int32), .ref (bd 0)]) (u := u) (u' := u) hx hb hml hown hG (c_B_in l D bd cI cZ u a2 (0 : Int32) (1000 : Int32) _ rfl) lk_B_102 rfl rfl ⟨Nat.le_of_ble_eq_true rfl, Nat.le_of_ble_eq_true rfl⟩ hK hP hD hS hA rfl hl.1 rfl (Nat.le_of_ble_eq_true rfl) dB_house_19 ⟨Nat.le_of_ble_eq_true rfl, Nat.le_of_ble_eq_true rfl⟩ (fun H locs hP hD hS => ?_)
    refine lv_if_eq (tgt := 29) hx hb dB_house_22 (by decide) (fun hc => ?_) (fun hc => ?_)
    · rw [if_pos hc] at h
      exact lp_B_house_29 hC N u a1 a2 (10 : Int32) (1 : Int32) _ _ h H locs ls hP hD hS (lv_sub hl [0, 1, 2] rfl)
    · rw [if_neg hc] at h
      refine lv_iconst (v := (1 : Int32)) hx hb dB_house_25 (by decide) ?_
      refine lv_goto (tgt := 30) hx hb dB_house_26 (by decide) ?_
      exact lp_B_house_30 hC N u a1 a2 (10 : Int32) (1 : Int32) (1 : Int32) _ _ h H locs ls hP hD hS (lv_sub hl [0, 1, 2] rfl)
set_option maxHeartbeats 4000000 in
set_option maxRecDepth 100000 in
theorem lp_B_agree_195 {p : Program} {l : Launch} {e : Env} {s : State} {m : MethodId} {args : Array Value} {below : List Frame} {meth : Method} {c : Code} {A : Nat → Prop} {D : va_G} {bd : Nat → Nat} {cI cZ : ClassId} (hC : gw_C p s m args meth c "AidRowsModel" cB_agree 11 (some .int) gG D vwCl (tB cI cZ) A) (N : Nat) : ∀ (u : StB) (x1 : Int32) (x2 : Int32) (x3 : Int32) (x4 : Int32) (x5 : Int32) (x6 : Int32) (x7 : Int32) (x8 : Int32) (x9 : Int32) (x10 : Int32) (y1 : Int32) (y2 : Int32) (y3 : Int32) (y4 : Int32) (y5 : Int32) (r : Int32) (w : StB), f_B_agree_195 N u x1 x2 x3 x4 x5 x6 x7 x8 x9 x10 y1 y2 y3 y4 y5 = some (r, w) → ∀ (H : Heap) (locs : List Loc) (ls : Array Slot), va_P D vwCl (wB bd cI cZ u) H → va_D A (wB bd cI cZ u) → va_S A s.heap H locs → lv_has ls 11 [(0, .ref (bd 0)), (1, .int x1), (2, .int x2), (3, .int x3), (4, .int x4), (5, .int x5), (6, .int x6), (7, .int x7), (8, .int x8), (9, .int x9), (10, .int x10)] → W p l e ({ frames := 2, cells := 0, slots := 0, locals := 43 } : Room) s m args below meth c H locs 0 0 (MQ below (gw_Q D vwCl (wB bd cI cZ) A w (some (.int r))) args s 0 0 A) (F0 m 195 ls [.int y5, .int y4, .int y3, .int y2, .int y1, .ref (bd 0)]) := by
  obtain ⟨hx, hb, hr, hml, hG, hown, hlocks, hK, hA⟩ := id hC
  intro u x1 x2 x3 x4 x5 x6 x7 x8 x9 x10 y1 y2 y3 y4 y5 r w h H locs ls hP hD hS hl
  unfold f_B_agree_195 at h
  obtain ⟨q2, q2_h, h⟩ := gw_bind h
  refine gw_callV (As := [.int y1, .int y2, .int y3, .int y4, .int y5]) (rest := []) (u := u) (u' := q2.2) hx hb hml hown hG (c_B_goes l D bd cI cZ N u y1 y2 y3 y4 y5 _ _ q2_h) lk_B_106 rfl rfl ⟨Nat.le_of_ble_eq_true rfl, Nat.le_of_ble_eq_true rfl⟩ (va_recv hK hP (ci := 6) (q0 := 0) rfl rfl) hK hP hD hS hA rfl hl.1 rfl (Nat.le_of_ble_eq_true rfl) dB_agree_195 ⟨Nat.le_of_ble_eq_true rfl, Nat.le_of_ble_eq_true rfl⟩ (fun H locs hP hD hS => ?_)
  refine lv_if_ne (tgt := 203) hx hb dB_agree_198 (by decide) (fun hc => ?_) (fun hc => ?_)
  · rw [if_neg hc] at h
    refine lv_aload_n hx hb dB_agree_203 rfl (lv_at hl 0 rfl) ?_
    refine va_get (D := D) (ci := 6) (v := .ref (bd 4)) (C := RB) (T := TB) (N := 36) hx hb hG inB hown hK hP 0 rfl rfl 7 (by decide) (hG _ mw_652) (fun _ h9 => h9) rfl dB_agree_204 ?_
    refine lv_aload_n hx hb dB_agree_207 rfl (lv_at hl 0 rfl) ?_
    refine va_get (D := D) (ci := 6) (v := .int (q2.2.1 3)) (C := RB) (T := TB) (N := 36) hx hb hG inB hown hK hP 0 rfl rfl 6 (by decide) (hG _ mw_651) (fun _ h9 => h9) rfl dB_agree_208 ?_
    refine lv_iload_n hx hb dB_agree_211 rfl (lv_at hl 1 rfl) ?_
    obtain ⟨hg3, h⟩ := gI_some h
    refine va_iast (f := (q2.2.2 3)) hx hb hK hP hD hS 4 0 rfl rfl hg3 dB_agree_212 (fun H locs hP hD hS => ?_)
    rw [wB_a3] at hP hD
    refine lv_aload_n hx hb dB_agree_213 rfl (lv_at hl 0 rfl) ?_
    refine va_get (D := D) (ci := 6) (v := .ref (bd 5)) (C := RB) (T := TB) (N := 36) hx hb hG inB hown hK hP 0 rfl rfl 8 (by decide) (hG _ mw_653) (fun _ h9 => h9) rfl dB_agree_214 ?_
    refine lv_aload_n hx hb dB_agree_217 rfl (lv_at hl 0 rfl) ?_
    refine va_get (D := D) (ci := 6) (v := .int (q2.2.1 3)) (C := RB) (T := TB) (N := 36) hx hb hG inB hown hK hP 0 rfl rfl 6 (by decide) (hG _ mw_651) (fun _ h9 => h9) rfl dB_agree_218 ?_
    refine lv_iload_n hx hb dB_agree_221 rfl (lv_at hl 2 rfl) ?_
    refine va_iast (f := ((bA q2.2 3 ((q2.2.1 3)).toNatClampNeg x1).2 4)) hx hb hK hP hD hS 5 0 rfl rfl hg3 dB_agree_222 (fun H locs hP hD hS => ?_)
    rw [wB_a4] at hP hD
    refine lv_aload_n hx hb dB_agree_223 rfl (lv_at hl 0 rfl) ?_
    refine va_get (D := D) (ci := 6) (v := .ref (bd 6)) (C := RB) (T := TB) (N := 36) hx hb hG inB hown hK hP 0 rfl rfl 9 (by decide) (hG _ mw_654) (fun _ h9 => h9) rfl dB_agree_224 ?_
    refine lv_aload_n hx hb dB_agree_227 rfl (lv_at hl 0 rfl) ?_
    refine va_get (D := D) (ci := 6) (v := .int (q2.2.1 3)) (C := RB) (T := TB) (N := 36) hx hb hG inB hown hK hP 0 rfl rfl 6 (by decide) (hG _ mw_651) (fun _ h9 => h9) rfl dB_agree_228 ?_
    refine lv_iload_n hx hb dB_agree_231 rfl (lv_at hl 3 rfl) ?_
    refine va_iast (f := ((bA (bA q2.2 3 ((q2.2.1 3)).toNatClampNeg x1) 4 ((q2.2.1 3)).toNatClampNeg x2).2 5)) hx hb hK hP hD hS 6 0 rfl rfl hg3 dB_agree_232 (fun H locs hP hD hS => ?_)
    rw [wB_a5] at hP hD
    refine lv_aload_n hx hb dB_agree_233 rfl (lv_at hl 0 rfl) ?_
    refine va_get (D := D) (ci := 6) (v := .ref (bd 7)) (C := RB) (T := TB) (N := 36) hx hb hG inB hown hK hP 0 rfl rfl 10 (by decide) (hG _ mw_655) (fun _ h9 => h9) rfl dB_agree_234 ?_
    refine lv_aload_n hx hb dB_agree_237 rfl (lv_at hl 0 rfl) ?_
    refine va_get (D := D) (ci := 6) (v := .int (q2.2.1 3)) (C := RB) (T := TB) (N := 36) hx hb hG inB hown hK hP 0 rfl rfl 6 (by decide) (hG _ mw_651) (fun _ h9 => h9) rfl dB_agree_238 ?_
    refine lv_iload hx hb dB_agree_241 (lv_at hl 4 rfl) ?_
    refine va_iast (f := ((bA (bA (bA q2.2 3 ((q2.2.1 3)).toNatClampNeg x1) 4 ((q2.2.1 3)).toNatClampNeg x2) 5 ((q2.2.1 3)).toNatClampNeg x3).2 6)) hx hb hK hP hD hS 7 0 rfl rfl hg3 dB_agree_243 (fun H locs hP hD hS => ?_)
    rw [wB_a6] at hP hD
    refine lv_aload_n hx hb dB_agree_244 rfl (lv_at hl 0 rfl) ?_
    refine va_get (D := D) (ci := 6) (v := .ref (bd 8)) (C := RB) (T := TB) (N := 36) hx hb hG inB hown hK hP 0 rfl rfl 11 (by decide) (hG _ mw_656) (fun _ h9 => h9) rfl dB_agree_245 ?_
    refine lv_aload_n hx hb dB_agree_248 rfl (lv_at hl 0 rfl) ?_
    refine va_get (D := D) (ci := 6) (v := .int (q2.2.1 3)) (C := RB) (T := TB) (N := 36) hx hb hG inB hown hK hP 0 rfl rfl 6 (by decide) (hG _ mw_651) (fun _ h9 => h9) rfl dB_agree_249 ?_
    refine lv_iload hx hb dB_agree_252 (lv_at hl 5 rfl) ?_
    refine lv_bipush (v := (100 : Int32)) hx hb dB_agree_254 (by decide) ?_
    refine lv_idiv hx hb dB_agree_256 (by decide) ?_
    refine va_iast (f := ((bA (bA (bA (bA q2.2 3 ((q2.2.1 3)).toNatClampNeg x1) 4 ((q2.2.1 3)).toNatClampNeg x2) 5 ((q2.2.1 3)).toNatClampNeg x3) 6 ((q2.2.1 3)).toNatClampNeg x4).2 7)) hx hb hK hP hD hS 8 0 rfl rfl hg3 dB_agree_257 (fun H locs hP hD hS => ?_)
    rw [wB_a7] at hP hD
    refine lv_aload_n hx hb dB_agree_258 rfl (lv_at hl 0 rfl) ?_
    refine va_get (D := D) (ci := 6) (v := .ref (bd 9)) (C := RB) (T := TB) (N := 36) hx hb hG inB hown hK hP 0 rfl rfl 12 (by decide) (hG _ mw_657) (fun _ h9 => h9) rfl dB_agree_259 ?_
    refine lv_aload_n hx hb dB_agree_262 rfl (lv_at hl 0 rfl) ?_
    refine va_get (D := D) (ci := 6) (v := .int (q2.2.1 3)) (C := RB) (T := TB) (N := 36) hx hb hG inB hown hK hP 0 rfl rfl 6 (by decide) (hG _ mw_651) (fun _ h9 => h9) rfl dB_agree_263 ?_
    refine lv_iload hx hb dB_agree_266 (lv_at hl 5 rfl) ?_
    refine lv_bipush (v := (100 : Int32)) hx hb dB_agree_268 (by decide) ?_
    refine lv_irem hx hb dB_agree_270 (by decide) ?_
    refine va_iast (f := ((bA (bA (bA (bA (bA q2.2 3 ((q2.2.1 3)).toNatClampNeg x1) 4 ((q2.2.1 3)).toNatClampNeg x2) 5 ((q2.2.1 3)).toNatClampNeg x3) 6 ((q2.2.1 3)).toNatClampNeg x4) 7 ((q2.2.1 3)).toNatClampNeg (x5 / (100 : Int32))).2 8)) hx hb hK hP hD hS 9 0 rfl rfl hg3 dB_agree_271 (fun H locs hP hD hS => ?_)
    rw [wB_a8] at hP hD
    refine lv_aload_n hx hb dB_agree_272 rfl (lv_at hl 0 rfl) ?_
    refine va_get (D := D) (ci := 6) (v := .ref (bd 10)) (C := RB) (T := TB) (N := 36) hx hb hG inB hown hK hP 0 rfl rfl 13 (by decide) (hG _ mw_658) (fun _ h9 => h9) rfl dB_agree_273 ?_
    refine lv_aload_n hx hb dB_agree_276 rfl (lv_at hl 0 rfl) ?_
    refine va_get (D := D) (ci := 6) (v := .int (q2.2.1 3)) (C := RB) (T := TB) (N := 36) hx hb hG inB hown hK hP 0 rfl rfl 6 (by decide) (hG _ mw_651) (fun _ h9 => h9) rfl dB_agree_277 ?_
    refine lv_iload hx hb dB_agree_280 (lv_at hl 6 rfl) ?_
    refine va_iast (f := ((bA (bA (bA (bA (bA (bA q2.2 3 ((q2.2.1 3)).toNatClampNeg x1) 4 ((q2.2.1 3)).toNatClampNeg x2) 5 ((q2.2.1 3)).toNatClampNeg x3) 6 ((q2.2.1 3)).toNatClampNeg x4) 7 ((q2.2.1 3)).toNatClampNeg (x5 / (100 : Int32))) 8 ((q2.2.1 3)).toNatClampNeg (x5 - x5 / (100 : Int32) * (100 : Int32))).2 9)) hx hb hK hP hD hS 10 0 rfl rfl hg3 dB_agree_282 (fun H locs hP hD hS => ?_)
    rw [wB_a9] at hP hD
    refine lv_aload_n hx hb dB_agree_283 rfl (lv_at hl 0 rfl) ?_
    refine lv_dup hx hb dB_agree_284 rfl ?_
    refine va_get (D := D) (ci := 6) (v := .int (q2.2.1 3)) (C := RB) (T := TB) (N := 36) hx hb hG inB hown hK hP 0 rfl rfl 6 (by decide) (hG _ mw_651) (fun _ h9 => h9) rfl dB_agree_285 ?_
    refine lv_iconst (v := (1 : Int32)) hx hb dB_agree_288 (by decide) ?_
    refine lv_iadd hx hb dB_agree_289 ?_
    refine va_put (D := D) (ci := 6) (v := .int ((q2.2.1 3) + (1 : Int32))) (ty := .int) (C := RB) (T := TB) (N := 36) hx hb hG inB tyB tyB_ok nmB hown hK hP hD hS 0 rfl rfl 6 (by decide) (hG _ mw_651) (fun _ h9 => h9) rfl (by decide +kernel) rfl rfl (Nat.le_of_ble_eq_true rfl) dB_agree_290 (fun H locs hP hD hS => ?_)
    rw [wB_f3] at hP hD
    refine lv_aload_n hx hb dB_agree_293 rfl (lv_at hl 0 rfl) ?_
    refine va_get (D := D) (ci := 6) (v := .int ((q2.2.1 3) + (1 : Int32))) (C := RB) (T := TB) (N := 36) hx hb hG inB hown hK hP 0 rfl rfl 6 (by decide) (hG _ mw_651) (fun _ h9 => h9) rfl dB_agree_294 ?_
    refine lv_iconst (v := (1 : Int32)) hx hb dB_agree_297 (by decide) ?_
    refine lv_isub hx hb dB_agree_298 ?_
    cases h
    exact gw_iret hx hb hr hlocks hP hD hS dB_agree_299
  · rw [if_pos hc] at h
    refine lv_iconst (v := (0 : Int32)) hx hb dB_agree_201 (by decide) ?_
    cases h
    exact gw_iret hx hb hr hlocks hP hD hS dB_agree_202
set_option maxHeartbeats 4000000 in
set_option maxRecDepth 100000 in
theorem lp_B_agree_109 {p : Program} {l : Launch} {e : Env} {s : State} {m : MethodId} {args : Array Value} {below : List Frame} {meth : Method} {c : Code} {A : Nat → Prop} {D : va_G} {bd : Nat → Nat} {cI cZ : ClassId} (hC : gw_C p s m args meth c "AidRowsModel" cB_agree 11 (some .int) gG D vwCl (tB cI cZ) A) (N : Nat) : ∀ (n : Nat) (u : StB) (x1 : Int32) (x2 : Int32) (x3 : Int32) (x4 : Int32) (x5 : Int32) (x6 : Int32) (x7 : Int32) (x8 : Int32) (x9 : Int32) (x10 : Int32) (r : Int32) (w : StB), f_B_agree_109 N n u x1 x2 x3 x4 x5 x6 x7 x8 x9 x10 = some (r, w) → ∀ (H : Heap) (locs : List Loc) (ls : Array Slot), va_P D vwCl (wB bd cI cZ u) H → va_D A (wB bd cI cZ u) → va_S A s.heap H locs → lv_has ls 11 [(0, .ref (bd 0)), (1, .int x1), (2, .int x2), (3, .int x3), (4, .int x4), (5, .int x5), (6, .int x6), (7, .int x7), (8, .int x8), (9, .int x9), (10, .int x10)] → W p l e ({ frames := 2, cells := 0, slots := 0, locals := 43 } : Room) s m args below meth c H locs 0 0 (MQ below (gw_Q D vwCl (wB bd cI cZ) A w (some (.int r))) args s 0 0 A) (F0 m 109 ls []) := by
  obtain ⟨hx, hb, hr, hml, hG, hown, hlocks, hK, hA⟩ := id hC
  intro n
  induction n with
  | zero => intro u x1 x2 x3 x4 x5 x6 x7 x8 x9 x10 r w h; cases h
  | succ n ih =>
    intro u x1 x2 x3 x4 x5 x6 x7 x8 x9 x10 r w h H locs ls hP hD hS hl
    rw [f_B_agree_109] at h
    refine lv_iload hx hb dB_agree_109 (lv_at hl 10 rfl) ?_
    refine lv_aload_n hx hb dB_agree_111 rfl (lv_at hl 0 rfl) ?_
    refine va_get (D := D) (ci := 6) (v := .int (u.1 3)) (C := RB) (T := TB) (N := 36) hx hb hG inB hown hK hP 0 rfl rfl 6 (by decide) (hG _ mw_651) (fun _ h9 => h9) rfl dB_agree_112 ?_
    refine lv_icmp_ge (tgt := 172) hx hb dB_agree_115 (by decide) (fun hc => ?_) (fun hc => ?_)
    · rw [if_pos hc] at h
      refine lv_aload_n hx hb dB_agree_172 rfl (lv_at hl 0 rfl) ?_
      refine lv_bipush (v := (15 : Int32)) hx hb dB_agree_173 (by decide) ?_
      refine lv_iload hx hb dB_agree_175 (lv_at hl 7 rfl) ?_
      refine lv_iload hx hb dB_agree_177 (lv_at hl 8 rfl) ?_
      refine lv_iload hx hb dB_agree_179 (lv_at hl 9 rfl) ?_
      refine lv_aload_n hx hb dB_agree_181 rfl (lv_at hl 0 rfl) ?_
      refine va_get (D := D) (ci := 6) (v := .int (u.1 3)) (C := RB) (T := TB) (N := 36) hx hb hG inB hown hK hP 0 rfl rfl 6 (by decide) (hG _ mw_651) (fun _ h9 => h9) rfl dB_agree_182 ?_
      refine lv_bipush (v := (30 : Int32)) hx hb dB_agree_185 (by decide) ?_
      refine lv_icmp_ge (tgt := 194) hx hb dB_agree_187 (by decide) (fun hc => ?_) (fun hc => ?_)
      · rw [if_pos hc] at h
        refine lv_iconst (v := (0 : Int32)) hx hb dB_agree_194 (by decide) ?_
        exact lp_B_agree_195 hC N u x1 x2 x3 x4 x5 x6 x7 x8 x9 x10 (15 : Int32) x7 x8 x9 (0 : Int32) _ _ h H locs ls hP hD hS (lv_sub hl [0, 1, 2, 3, 4, 5, 6, 7, 8, 9, 10] rfl)
      · rw [if_neg hc] at h
        refine lv_iconst (v := (1 : Int32)) hx hb dB_agree_190 (by decide) ?_
        refine lv_goto (tgt := 195) hx hb dB_agree_191 (by decide) ?_
        exact lp_B_agree_195 hC N u x1 x2 x3 x4 x5 x6 x7 x8 x9 x10 (15 : Int32) x7 x8 x9 (1 : Int32) _ _ h H locs ls hP hD hS (lv_sub hl [0, 1, 2, 3, 4, 5, 6, 7, 8, 9, 10] rfl)
    · rw [if_neg hc] at h
      refine lv_aload_n hx hb dB_agree_118 rfl (lv_at hl 0 rfl) ?_
      refine va_get (D := D) (ci := 6) (v := .ref (bd 4)) (C := RB) (T := TB) (N := 36) hx hb hG inB hown hK hP 0 rfl rfl 7 (by decide) (hG _ mw_652) (fun _ h9 => h9) rfl dB_agree_119 ?_
      refine lv_iload hx hb dB_agree_122 (lv_at hl 10 rfl) ?_
      obtain ⟨hg1, h⟩ := gI_some h
      refine va_iald (f := (u.2 3)) hx hb hK hP 4 0 rfl rfl hg1 dB_agree_124 ?_
      refine lv_iload_n hx hb dB_agree_125 rfl (lv_at hl 1 rfl) ?_
      refine lv_icmp_ne (tgt := 166) hx hb dB_agree_126 (by decide) (fun hc => ?_) (fun hc => ?_)
      · rw [if_neg hc] at h
        refine lv_iinc (v := (x10 + (1 : Int32))) (lv' := [(10, .int (x10 + (1 : Int32))), (0, .ref (bd 0)), (1, .int x1), (2, .int x2), (3, .int x3), (4, .int x4), (5, .int x5), (6, .int x6), (7, .int x7), (8, .int x8), (9, .int x9)]) hx hb dB_agree_166 hl (k := 10) rfl rfl (by decide) rfl (fun ls hl => ?_)
        refine lv_goto (tgt := 109) hx hb dB_agree_169 (by decide) ?_
        exact ih u x1 x2 x3 x4 x5 x6 x7 x8 x9 (x10 + (1 : Int32)) _ _ h H locs ls hP hD hS (lv_sub hl [1, 2, 3, 4, 5, 6, 7, 8, 9, 10, 0] rfl)
      · rw [if_pos hc] at h
        refine lv_aload_n hx hb dB_agree_129 rfl (lv_at hl 0 rfl) ?_
        refine va_get (D := D) (ci := 6) (v := .ref (bd 5)) (C := RB) (T := TB) (N := 36) hx hb hG inB hown hK hP 0 rfl rfl 8 (by decide) (hG _ mw_653) (fun _ h9 => h9) rfl dB_agree_130 ?_
        refine lv_iload hx hb dB_agree_133 (lv_at hl 10 rfl) ?_
        refine va_iald (f := (u.2 4)) hx hb hK hP 5 0 rfl rfl hg1 dB_agree_135 ?_
        refine lv_iload_n hx hb dB_agree_136 rfl (lv_at hl 2 rfl) ?_
        refine lv_icmp_ne (tgt := 166) hx hb dB_agree_137 (by decide) (fun hc => ?_) (fun hc => ?_)
        · rw [if_neg hc] at h
          refine lv_iinc (v := (x10 + (1 : Int32))) (lv' := [(10, .int (x10 + (1 : Int32))), (0, .ref (bd 0)), (1, .int x1), (2, .int x2), (3, .int x3), (4, .int x4), (5, .int x5), (6, .int x6), (7, .int x7), (8, .int x8), (9, .int x9)]) hx hb dB_agree_166 hl (k := 10) rfl rfl (by decide) rfl (fun ls hl => ?_)
          refine lv_goto (tgt := 109) hx hb dB_agree_169 (by decide) ?_
          exact ih u x1 x2 x3 x4 x5 x6 x7 x8 x9 (x10 + (1 : Int32)) _ _ h H locs ls hP hD hS (lv_sub hl [1, 2, 3, 4, 5, 6, 7, 8, 9, 10, 0] rfl)
        · rw [if_pos hc] at h
          refine lv_iload_n hx hb dB_agree_140 rfl (lv_at hl 3 rfl) ?_
          refine lv_aload_n hx hb dB_agree_141 rfl (lv_at hl 0 rfl) ?_
          refine va_get (D := D) (ci := 6) (v := .ref (bd 7)) (C := RB) (T := TB) (N := 36) hx hb hG inB hown hK hP 0 rfl rfl 10 (by decide) (hG _ mw_655) (fun _ h9 => h9) rfl dB_agree_142 ?_
          refine lv_iload hx hb dB_agree_145 (lv_at hl 10 rfl) ?_
          refine va_iald (f := (u.2 6)) hx hb hK hP 7 0 rfl rfl hg1 dB_agree_147 ?_
          refine lv_icmp_ge (tgt := 166) hx hb dB_agree_148 (by decide) (fun hc => ?_) (fun hc => ?_)
          · rw [if_pos hc] at h
            refine lv_iinc (v := (x10 + (1 : Int32))) (lv' := [(10, .int (x10 + (1 : Int32))), (0, .ref (bd 0)), (1, .int x1), (2, .int x2), (3, .int x3), (4, .int x4), (5, .int x5), (6, .int x6), (7, .int x7), (8, .int x8), (9, .int x9)]) hx hb dB_agree_166 hl (k := 10) rfl rfl (by decide) rfl (fun ls hl => ?_)
            refine lv_goto (tgt := 109) hx hb dB_agree_169 (by decide) ?_
            exact ih u x1 x2 x3 x4 x5 x6 x7 x8 x9 (x10 + (1 : Int32)) _ _ h H locs ls hP hD hS (lv_sub hl [1, 2, 3, 4, 5, 6, 7, 8, 9, 10, 0] rfl)
          · rw [if_neg hc] at h
            refine lv_aload_n hx hb dB_agree_151 rfl (lv_at hl 0 rfl) ?_
            refine va_get (D := D) (ci := 6) (v := .ref (bd 6)) (C := RB) (T := TB) (N := 36) hx hb hG inB hown hK hP 0 rfl rfl 9 (by decide) (hG _ mw_654) (fun _ h9 => h9) rfl dB_agree_152 ?_
            refine lv_iload hx hb dB_agree_155 (lv_at hl 10 rfl) ?_
            refine va_iald (f := (u.2 5)) hx hb hK hP 6 0 rfl rfl hg1 dB_agree_157 ?_
            refine lv_iload hx hb dB_agree_158 (lv_at hl 4 rfl) ?_
            refine lv_icmp_ge (tgt := 166) hx hb dB_agree_160 (by decide) (fun hc => ?_) (fun hc => ?_)
            · rw [if_pos hc] at h
              refine lv_iinc (v := (x10 + (1 : Int32))) (lv' := [(10, .int (x10 + (1 : Int32))), (0, .ref (bd 0)), (1, .int x1), (2, .int x2), (3, .int x3), (4, .int x4), (5, .int x5), (6, .int x6), (7, .int x7), (8, .int x8), (9, .int x9)]) hx hb dB_agree_166 hl (k := 10) rfl rfl (by decide) rfl (fun ls hl => ?_)
              refine lv_goto (tgt := 109) hx hb dB_agree_169 (by decide) ?_
              exact ih u x1 x2 x3 x4 x5 x6 x7 x8 x9 (x10 + (1 : Int32)) _ _ h H locs ls hP hD hS (lv_sub hl [1, 2, 3, 4, 5, 6, 7, 8, 9, 10, 0] rfl)
            · rw [if_neg hc] at h
              refine lv_iconst (v := (0 : Int32)) hx hb dB_agree_163 (by decide) ?_
              refine lv_istore (lv' := [(9, .int (0 : Int32)), (0, .ref (bd 0)), (1, .int x1), (2, .int x2), (3, .int x3), (4, .int x4), (5, .int x5), (6, .int x6), (7, .int x7), (8, .int x8), (10, .int x10)]) hx hb dB_agree_164 hl (by decide) rfl (fun ls hl => ?_)
              refine lv_iinc (v := (x10 + (1 : Int32))) (lv' := [(10, .int (x10 + (1 : Int32))), (9, .int (0 : Int32)), (0, .ref (bd 0)), (1, .int x1), (2, .int x2), (3, .int x3), (4, .int x4), (5, .int x5), (6, .int x6), (7, .int x7), (8, .int x8)]) hx hb dB_agree_166 hl (k := 10) rfl rfl (by decide) rfl (fun ls hl => ?_)
              refine lv_goto (tgt := 109) hx hb dB_agree_169 (by decide) ?_
              exact ih u x1 x2 x3 x4 x5 x6 x7 x8 (0 : Int32) (x10 + (1 : Int32)) _ _ h H locs ls hP hD hS (lv_sub hl [2, 3, 4, 5, 6, 7, 8, 9, 10, 1, 0] rfl)
set_option maxHeartbeats 4000000 in
set_option maxRecDepth 100000 in
theorem lp_B_agree_23 {p : Program} {l : Launch} {e : Env} {s : State} {m : MethodId} {args : Array Value} {below : List Frame} {meth : Method} {c : Code} {A : Nat → Prop} {D : va_G} {bd : Nat → Nat} {cI cZ : ClassId} (hC : gw_C p s m args meth c "AidRowsModel" cB_agree 11 (some .int) gG D vwCl (tB cI cZ) A) (N : Nat) : ∀ (u : StB) (x1 : Int32) (x2 : Int32) (x3 : Int32) (x4 : Int32) (x5 : Int32) (x6 : Int32) (y0 : Int32) (r : Int32) (w : StB), f_B_agree_23 N u x1 x2 x3 x4 x5 x6 y0 = some (r, w) → ∀ (H : Heap) (locs : List Loc) (ls : Array Slot), va_P D vwCl (wB bd cI cZ u) H → va_D A (wB bd cI cZ u) → va_S A s.heap H locs → lv_has ls 11 [(0, .ref (bd 0)), (1, .int x1), (2, .int x2), (3, .int x3), (4, .int x4), (5, .int x5), (6, .int x6)] → W p l e ({ frames := 2, cells := 0, slots := 0, locals := 43 } : Room) s m args below meth c H locs 0 0 (MQ below (gw_Q D vwCl (wB bd cI cZ) A w (some (.int r))) args s 0 0 A) (F0 m 23 ls [.int y0]) := by
  obtain ⟨hx, hb, hr, hml, hG, hown, hlocks, hK, hA⟩ := id hC
  intro u x1 x2 x3 x4 x5 x6 y0 r w h H locs ls hP hD hS hl
  unfold f_B_agree_23 at h
  refine lv_istore (lv' := [(7, .int y0), (0, .ref (bd 0)), (1, .int x1), (2, .int x2), (3, .int x3), (4, .int x4), (5, .int x5), (6, .int x6)]) hx hb dB_agree_23 hl (by decide) rfl (fun ls hl => ?_)
  refine lv_iload_n hx hb dB_agree_25 rfl (lv_at hl 4 rfl) ?_
  refine lv_iconst (v := (0 : Int32)) hx hb dB_agree_26 (by decide) ?_
  refine lv_ldc (v := (99999 : Int32)) hx hb hown (hG _ mw_777) dB_agree_27 ?_
  refine gw_callS (As := [.int x3, .int (0 : Int32), .int (99999 : Int32)]) (rest := []) (u := u) (u' := u) hx hb hml hown hG (c_B_in l D bd cI cZ u x3 (0 : Int32) (99999 : Int32) _ rfl) lk_B_102 rfl rfl ⟨Nat.le_of_ble_eq_true rfl, Nat.le_of_ble_eq_true rfl⟩ hK hP hD hS hA rfl hl.1 rfl (Nat.le_of_ble_eq_true rfl) dB_agree_29 ⟨Nat.le_of_ble_eq_true rfl, Nat.le_of_ble_eq_true rfl⟩ (fun H locs hP hD hS => ?_)
  refine lv_if_eq (tgt := 100) hx hb dB_agree_32 (by decide) (fun hc => ?_) (fun hc => ?_)
  · rw [if_pos hc] at h
    refine lv_iconst (v := (0 : Int32)) hx hb dB_agree_100 (by decide) ?_
    refine lv_istore (lv' := [(8, .int (0 : Int32)), (7, .int y0), (0, .ref (bd 0)), (1, .int x1), (2, .int x2), (3, .int x3), (4, .int x4), (5, .int x5), (6, .int x6)]) hx hb dB_agree_101 hl (by decide) rfl (fun ls hl => ?_)
    refine lv_iconst (v := (1 : Int32)) hx hb dB_agree_103 (by decide) ?_
    refine lv_istore (lv' := [(9, .int (1 : Int32)), (8, .int (0 : Int32)), (7, .int y0), (0, .ref (bd 0)), (1, .int x1), (2, .int x2), (3, .int x3), (4, .int x4), (5, .int x5), (6, .int x6)]) hx hb dB_agree_104 hl (by decide) rfl (fun ls hl => ?_)
    refine lv_iconst (v := (0 : Int32)) hx hb dB_agree_106 (by decide) ?_
    refine lv_istore (lv' := [(10, .int (0 : Int32)), (9, .int (1 : Int32)), (8, .int (0 : Int32)), (7, .int y0), (0, .ref (bd 0)), (1, .int x1), (2, .int x2), (3, .int x3), (4, .int x4), (5, .int x5), (6, .int x6)]) hx hb dB_agree_107 hl (by decide) rfl (fun ls hl => ?_)
    exact lp_B_agree_109 hC N N u x1 x2 x3 x4 x5 x6 y0 (0 : Int32) (1 : Int32) (0 : Int32) _ _ h H locs ls hP hD hS (lv_sub hl [4, 5, 6, 7, 8, 9, 10, 3, 2, 1, 0] rfl)
  · rw [if_neg hc] at h
    refine lv_iload hx hb dB_agree_35 (lv_at hl 5 rfl) ?_
    refine lv_iconst (v := (0 : Int32)) hx hb dB_agree_37 (by decide) ?_
    refine lv_ldc (v := (99999 : Int32)) hx hb hown (hG _ mw_777) dB_agree_38 ?_
    refine gw_callS (As := [.int x4, .int (0 : Int32), .int (99999 : Int32)]) (rest := []) (u := u) (u' := u) hx hb hml hown hG (c_B_in l D bd cI cZ u x4 (0 : Int32) (99999 : Int32) _ rfl) lk_B_102 rfl rfl ⟨Nat.le_of_ble_eq_true rfl, Nat.le_of_ble_eq_true rfl⟩ hK hP hD hS hA rfl hl.1 rfl (Nat.le_of_ble_eq_true rfl) dB_agree_40 ⟨Nat.le_of_ble_eq_true rfl, Nat.le_of_ble_eq_true rfl⟩ (fun H locs hP hD hS => ?_)
    refine lv_if_eq (tgt := 100) hx hb dB_agree_43 (by decide) (fun hc => ?_) (fun hc => ?_)
    · rw [if_pos hc] at h
      refine lv_iconst (v := (0 : Int32)) hx hb dB_agree_100 (by decide) ?_
      refine lv_istore (lv' := [(8, .int (0 : Int32)), (7, .int y0), (0, .ref (bd 0)), (1, .int x1), (2, .int x2), (3, .int x3), (4, .int x4), (5, .int x5), (6, .int x6)]) hx hb dB_agree_101 hl (by decide) rfl (fun ls hl => ?_)
      refine lv_iconst (v := (1 : Int32)) hx hb dB_agree_103 (by decide) ?_
      refine lv_istore (lv' := [(9, .int (1 : Int32)), (8, .int (0 : Int32)), (7, .int y0), (0, .ref (bd 0)), (1, .int x1), (2, .int x2), (3, .int x3), (4, .int x4), (5, .int x5), (6, .int x6)]) hx hb dB_agree_104 hl (by decide) rfl (fun ls hl => ?_)
      refine lv_iconst (v := (0 : Int32)) hx hb dB_agree_106 (by decide) ?_
      refine lv_istore (lv' := [(10, .int (0 : Int32)), (9, .int (1 : Int32)), (8, .int (0 : Int32)), (7, .int y0), (0, .ref (bd 0)), (1, .int x1), (2, .int x2), (3, .int x3), (4, .int x4), (5, .int x5), (6, .int x6)]) hx hb dB_agree_107 hl (by decide) rfl (fun ls hl => ?_)
      exact lp_B_agree_109 hC N N u x1 x2 x3 x4 x5 x6 y0 (0 : Int32) (1 : Int32) (0 : Int32) _ _ h H locs ls hP hD hS (lv_sub hl [4, 5, 6, 7, 8, 9, 10, 3, 2, 1, 0] rfl)
    · rw [if_neg hc] at h
      refine lv_iload_n hx hb dB_agree_46 rfl (lv_at hl 4 rfl) ?_
      refine lv_iload hx hb dB_agree_47 (lv_at hl 5 rfl) ?_
      refine lv_icmp_ge (tgt := 100) hx hb dB_agree_49 (by decide) (fun hc => ?_) (fun hc => ?_)
      · rw [if_pos hc] at h
        refine lv_iconst (v := (0 : Int32)) hx hb dB_agree_100 (by decide) ?_
        refine lv_istore (lv' := [(8, .int (0 : Int32)), (7, .int y0), (0, .ref (bd 0)), (1, .int x1), (2, .int x2), (3, .int x3), (4, .int x4), (5, .int x5), (6, .int x6)]) hx hb dB_agree_101 hl (by decide) rfl (fun ls hl => ?_)
        refine lv_iconst (v := (1 : Int32)) hx hb dB_agree_103 (by decide) ?_
        refine lv_istore (lv' := [(9, .int (1 : Int32)), (8, .int (0 : Int32)), (7, .int y0), (0, .ref (bd 0)), (1, .int x1), (2, .int x2), (3, .int x3), (4, .int x4), (5, .int x5), (6, .int x6)]) hx hb dB_agree_104 hl (by decide) rfl (fun ls hl => ?_)
        refine lv_iconst (v := (0 : Int32)) hx hb dB_agree_106 (by decide) ?_
        refine lv_istore (lv' := [(10, .int (0 : Int32)), (9, .int (1 : Int32)), (8, .int (0 : Int32)), (7, .int y0), (0, .ref (bd 0)), (1, .int x1), (2, .int x2), (3, .int x3), (4, .int x4), (5, .int x5), (6, .int x6)]) hx hb dB_agree_107 hl (by decide) rfl (fun ls hl => ?_)
        exact lp_B_agree_109 hC N N u x1 x2 x3 x4 x5 x6 y0 (0 : Int32) (1 : Int32) (0 : Int32) _ _ h H locs ls hP hD hS (lv_sub hl [4, 5, 6, 7, 8, 9, 10, 3, 2, 1, 0] rfl)
      · rw [if_neg hc] at h
        refine lv_iload hx hb dB_agree_52 (lv_at hl 6 rfl) ?_
        refine lv_if_lt (tgt := 100) hx hb dB_agree_54 (by decide) (fun hc => ?_) (fun hc => ?_)
        · rw [if_pos hc] at h
          refine lv_iconst (v := (0 : Int32)) hx hb dB_agree_100 (by decide) ?_
          refine lv_istore (lv' := [(8, .int (0 : Int32)), (7, .int y0), (0, .ref (bd 0)), (1, .int x1), (2, .int x2), (3, .int x3), (4, .int x4), (5, .int x5), (6, .int x6)]) hx hb dB_agree_101 hl (by decide) rfl (fun ls hl => ?_)
          refine lv_iconst (v := (1 : Int32)) hx hb dB_agree_103 (by decide) ?_
          refine lv_istore (lv' := [(9, .int (1 : Int32)), (8, .int (0 : Int32)), (7, .int y0), (0, .ref (bd 0)), (1, .int x1), (2, .int x2), (3, .int x3), (4, .int x4), (5, .int x5), (6, .int x6)]) hx hb dB_agree_104 hl (by decide) rfl (fun ls hl => ?_)
          refine lv_iconst (v := (0 : Int32)) hx hb dB_agree_106 (by decide) ?_
          refine lv_istore (lv' := [(10, .int (0 : Int32)), (9, .int (1 : Int32)), (8, .int (0 : Int32)), (7, .int y0), (0, .ref (bd 0)), (1, .int x1), (2, .int x2), (3, .int x3), (4, .int x4), (5, .int x5), (6, .int x6)]) hx hb dB_agree_107 hl (by decide) rfl (fun ls hl => ?_)
          exact lp_B_agree_109 hC N N u x1 x2 x3 x4 x5 x6 y0 (0 : Int32) (1 : Int32) (0 : Int32) _ _ h H locs ls hP hD hS (lv_sub hl [4, 5, 6, 7, 8, 9, 10, 3, 2, 1, 0] rfl)
        · rw [if_neg hc] at h
          refine lv_iload hx hb dB_agree_57 (lv_at hl 6 rfl) ?_
          refine lv_bipush (v := (100 : Int32)) hx hb dB_agree_59 (by decide) ?_
          refine lv_idiv hx hb dB_agree_61 (by decide) ?_
          refine lv_iconst (v := (0 : Int32)) hx hb dB_agree_62 (by decide) ?_
          refine lv_bipush (v := (23 : Int32)) hx hb dB_agree_63 (by decide) ?_
          refine gw_callS (As := [.int (x5 / (100 : Int32)), .int (0 : Int32), .int (23 : Int32)]) (rest := []) (u := u) (u' := u) hx hb hml hown hG (c_B_in l D bd cI cZ u (x5 / (100 : Int32)) (0 : Int32) (23 : Int32) _ rfl) lk_B_102 rfl rfl ⟨Nat.le_of_ble_eq_true rfl, Nat.le_of_ble_eq_true rfl⟩ hK hP hD hS hA rfl hl.1 rfl (Nat.le_of_ble_eq_true rfl) dB_agree_65 ⟨Nat.le_of_ble_eq_true rfl, Nat.le_of_ble_eq_true rfl⟩ (fun H locs hP hD hS => ?_)
          refine lv_if_eq (tgt := 100) hx hb dB_agree_68 (by decide) (fun hc => ?_) (fun hc => ?_)
          · rw [if_pos hc] at h
            refine lv_iconst (v := (0 : Int32)) hx hb dB_agree_100 (by decide) ?_
            refine lv_istore (lv' := [(8, .int (0 : Int32)), (7, .int y0), (0, .ref (bd 0)), (1, .int x1), (2, .int x2), (3, .int x3), (4, .int x4), (5, .int x5), (6, .int x6)]) hx hb dB_agree_101 hl (by decide) rfl (fun ls hl => ?_)
            refine lv_iconst (v := (1 : Int32)) hx hb dB_agree_103 (by decide) ?_
            refine lv_istore (lv' := [(9, .int (1 : Int32)), (8, .int (0 : Int32)), (7, .int y0), (0, .ref (bd 0)), (1, .int x1), (2, .int x2), (3, .int x3), (4, .int x4), (5, .int x5), (6, .int x6)]) hx hb dB_agree_104 hl (by decide) rfl (fun ls hl => ?_)
            refine lv_iconst (v := (0 : Int32)) hx hb dB_agree_106 (by decide) ?_
            refine lv_istore (lv' := [(10, .int (0 : Int32)), (9, .int (1 : Int32)), (8, .int (0 : Int32)), (7, .int y0), (0, .ref (bd 0)), (1, .int x1), (2, .int x2), (3, .int x3), (4, .int x4), (5, .int x5), (6, .int x6)]) hx hb dB_agree_107 hl (by decide) rfl (fun ls hl => ?_)
            exact lp_B_agree_109 hC N N u x1 x2 x3 x4 x5 x6 y0 (0 : Int32) (1 : Int32) (0 : Int32) _ _ h H locs ls hP hD hS (lv_sub hl [4, 5, 6, 7, 8, 9, 10, 3, 2, 1, 0] rfl)
          · rw [if_neg hc] at h
            refine lv_iload hx hb dB_agree_71 (lv_at hl 6 rfl) ?_
            refine lv_bipush (v := (100 : Int32)) hx hb dB_agree_73 (by decide) ?_
            refine lv_irem hx hb dB_agree_75 (by decide) ?_
            refine lv_iconst (v := (0 : Int32)) hx hb dB_agree_76 (by decide) ?_
            refine lv_bipush (v := (23 : Int32)) hx hb dB_agree_77 (by decide) ?_
            refine gw_callS (As := [.int (x5 - x5 / (100 : Int32) * (100 : Int32)), .int (0 : Int32), .int (23 : Int32)]) (rest := []) (u := u) (u' := u) hx hb hml hown hG (c_B_in l D bd cI cZ u (x5 - x5 / (100 : Int32) * (100 : Int32)) (0 : Int32) (23 : Int32) _ rfl) lk_B_102 rfl rfl ⟨Nat.le_of_ble_eq_true rfl, Nat.le_of_ble_eq_true rfl⟩ hK hP hD hS hA rfl hl.1 rfl (Nat.le_of_ble_eq_true rfl) dB_agree_79 ⟨Nat.le_of_ble_eq_true rfl, Nat.le_of_ble_eq_true rfl⟩ (fun H locs hP hD hS => ?_)
            refine lv_if_eq (tgt := 100) hx hb dB_agree_82 (by decide) (fun hc => ?_) (fun hc => ?_)
            · rw [if_pos hc] at h
              refine lv_iconst (v := (0 : Int32)) hx hb dB_agree_100 (by decide) ?_
              refine lv_istore (lv' := [(8, .int (0 : Int32)), (7, .int y0), (0, .ref (bd 0)), (1, .int x1), (2, .int x2), (3, .int x3), (4, .int x4), (5, .int x5), (6, .int x6)]) hx hb dB_agree_101 hl (by decide) rfl (fun ls hl => ?_)
              refine lv_iconst (v := (1 : Int32)) hx hb dB_agree_103 (by decide) ?_
              refine lv_istore (lv' := [(9, .int (1 : Int32)), (8, .int (0 : Int32)), (7, .int y0), (0, .ref (bd 0)), (1, .int x1), (2, .int x2), (3, .int x3), (4, .int x4), (5, .int x5), (6, .int x6)]) hx hb dB_agree_104 hl (by decide) rfl (fun ls hl => ?_)
              refine lv_iconst (v := (0 : Int32)) hx hb dB_agree_106 (by decide) ?_
              refine lv_istore (lv' := [(10, .int (0 : Int32)), (9, .int (1 : Int32)), (8, .int (0 : Int32)), (7, .int y0), (0, .ref (bd 0)), (1, .int x1), (2, .int x2), (3, .int x3), (4, .int x4), (5, .int x5), (6, .int x6)]) hx hb dB_agree_107 hl (by decide) rfl (fun ls hl => ?_)
              exact lp_B_agree_109 hC N N u x1 x2 x3 x4 x5 x6 y0 (0 : Int32) (1 : Int32) (0 : Int32) _ _ h H locs ls hP hD hS (lv_sub hl [4, 5, 6, 7, 8, 9, 10, 3, 2, 1, 0] rfl)
            · rw [if_neg hc] at h
              refine lv_iload hx hb dB_agree_85 (lv_at hl 7 rfl) ?_
              refine lv_iconst (v := (1 : Int32)) hx hb dB_agree_87 (by decide) ?_
              refine lv_bipush (v := (20 : Int32)) hx hb dB_agree_88 (by decide) ?_
              refine gw_callS (As := [.int x6, .int (1 : Int32), .int (20 : Int32)]) (rest := []) (u := u) (u' := u) hx hb hml hown hG (c_B_in l D bd cI cZ u x6 (1 : Int32) (20 : Int32) _ rfl) lk_B_102 rfl rfl ⟨Nat.le_of_ble_eq_true rfl, Nat.le_of_ble_eq_true rfl⟩ hK hP hD hS hA rfl hl.1 rfl (Nat.le_of_ble_eq_true rfl) dB_agree_90 ⟨Nat.le_of_ble_eq_true rfl, Nat.le_of_ble_eq_true rfl⟩ (fun H locs hP hD hS => ?_)
              refine lv_if_eq (tgt := 100) hx hb dB_agree_93 (by decide) (fun hc => ?_) (fun hc => ?_)
              · rw [if_pos hc] at h
                refine lv_iconst (v := (0 : Int32)) hx hb dB_agree_100 (by decide) ?_
                refine lv_istore (lv' := [(8, .int (0 : Int32)), (7, .int y0), (0, .ref (bd 0)), (1, .int x1), (2, .int x2), (3, .int x3), (4, .int x4), (5, .int x5), (6, .int x6)]) hx hb dB_agree_101 hl (by decide) rfl (fun ls hl => ?_)
                refine lv_iconst (v := (1 : Int32)) hx hb dB_agree_103 (by decide) ?_
                refine lv_istore (lv' := [(9, .int (1 : Int32)), (8, .int (0 : Int32)), (7, .int y0), (0, .ref (bd 0)), (1, .int x1), (2, .int x2), (3, .int x3), (4, .int x4), (5, .int x5), (6, .int x6)]) hx hb dB_agree_104 hl (by decide) rfl (fun ls hl => ?_)
                refine lv_iconst (v := (0 : Int32)) hx hb dB_agree_106 (by decide) ?_
                refine lv_istore (lv' := [(10, .int (0 : Int32)), (9, .int (1 : Int32)), (8, .int (0 : Int32)), (7, .int y0), (0, .ref (bd 0)), (1, .int x1), (2, .int x2), (3, .int x3), (4, .int x4), (5, .int x5), (6, .int x6)]) hx hb dB_agree_107 hl (by decide) rfl (fun ls hl => ?_)
                exact lp_B_agree_109 hC N N u x1 x2 x3 x4 x5 x6 y0 (0 : Int32) (1 : Int32) (0 : Int32) _ _ h H locs ls hP hD hS (lv_sub hl [4, 5, 6, 7, 8, 9, 10, 3, 2, 1, 0] rfl)
              · rw [if_neg hc] at h
                refine lv_iconst (v := (1 : Int32)) hx hb dB_agree_96 (by decide) ?_
                refine lv_goto (tgt := 101) hx hb dB_agree_97 (by decide) ?_
                refine lv_istore (lv' := [(8, .int (1 : Int32)), (7, .int y0), (0, .ref (bd 0)), (1, .int x1), (2, .int x2), (3, .int x3), (4, .int x4), (5, .int x5), (6, .int x6)]) hx hb dB_agree_101 hl (by decide) rfl (fun ls hl => ?_)
                refine lv_iconst (v := (1 : Int32)) hx hb dB_agree_103 (by decide) ?_
                refine lv_istore (lv' := [(9, .int (1 : Int32)), (8, .int (1 : Int32)), (7, .int y0), (0, .ref (bd 0)), (1, .int x1), (2, .int x2), (3, .int x3), (4, .int x4), (5, .int x5), (6, .int x6)]) hx hb dB_agree_104 hl (by decide) rfl (fun ls hl => ?_)
                refine lv_iconst (v := (0 : Int32)) hx hb dB_agree_106 (by decide) ?_
                refine lv_istore (lv' := [(10, .int (0 : Int32)), (9, .int (1 : Int32)), (8, .int (1 : Int32)), (7, .int y0), (0, .ref (bd 0)), (1, .int x1), (2, .int x2), (3, .int x3), (4, .int x4), (5, .int x5), (6, .int x6)]) hx hb dB_agree_107 hl (by decide) rfl (fun ls hl => ?_)
                exact lp_B_agree_109 hC N N u x1 x2 x3 x4 x5 x6 y0 (1 : Int32) (1 : Int32) (0 : Int32) _ _ h H locs ls hP hD hS (lv_sub hl [4, 5, 6, 7, 8, 9, 10, 3, 2, 1, 0] rfl)
set_option maxHeartbeats 4000000 in
set_option maxRecDepth 100000 in
theorem lp_B_agree_22 {p : Program} {l : Launch} {e : Env} {s : State} {m : MethodId} {args : Array Value} {below : List Frame} {meth : Method} {c : Code} {A : Nat → Prop} {D : va_G} {bd : Nat → Nat} {cI cZ : ClassId} (hC : gw_C p s m args meth c "AidRowsModel" cB_agree 11 (some .int) gG D vwCl (tB cI cZ) A) (N : Nat) : ∀ (u : StB) (x1 : Int32) (x2 : Int32) (x3 : Int32) (x4 : Int32) (x5 : Int32) (x6 : Int32) (r : Int32) (w : StB), f_B_agree_22 N u x1 x2 x3 x4 x5 x6 = some (r, w) → ∀ (H : Heap) (locs : List Loc) (ls : Array Slot), va_P D vwCl (wB bd cI cZ u) H → va_D A (wB bd cI cZ u) → va_S A s.heap H locs → lv_has ls 11 [(0, .ref (bd 0)), (1, .int x1), (2, .int x2), (3, .int x3), (4, .int x4), (5, .int x5), (6, .int x6)] → W p l e ({ frames := 2, cells := 0, slots := 0, locals := 43 } : Room) s m args below meth c H locs 0 0 (MQ below (gw_Q D vwCl (wB bd cI cZ) A w (some (.int r))) args s 0 0 A) (F0 m 22 ls []) := by
  obtain ⟨hx, hb, hr, hml, hG, hown, hlocks, hK, hA⟩ := id hC
  intro u x1 x2 x3 x4 x5 x6 r w h H locs ls hP hD hS hl
  unfold f_B_agree_22 at h
  refine lv_iconst (v := (0 : Int32)) hx hb dB_agree_22 (by decide) ?_
  exact lp_B_agree_23 hC N u x1 x2 x3 x4 x5 x6 (0 : Int32) _ _ h H locs ls hP hD hS (lv_sub hl [0, 1, 2, 3, 4, 5, 6] rfl)
set_option maxHeartbeats 4000000 in
set_option maxRecDepth 100000 in
theorem c_B_agree (l : Launch) (D : va_G) (bd : Nat → Nat) (cI cZ : ClassId) (N : Nat) (u : StB) (a1 : Int32) (a2 : Int32) (a3 : Int32) (a4 : Int32) (a5 : Int32) (a6 : Int32) (r : Int32) (w : StB) (h : f_B_agree N u a1 a2 a3 a4 a5 a6 = some (r, w)) : gw_Ct l D vwCl (tB cI cZ) (wB bd cI cZ) yB_agree (Cond.code yB_agree cB_agree 11 (some .int) :: gG) ({ frames := 2, cells := 0, slots := 0, locals := 43 } : Room) [.ref (bd 0), .int a1, .int a2, .int a3, .int a4, .int a5, .int a6] u (some (.int r)) w := by
  refine gw_enter (by decide) (Nat.le_of_ble_eq_true rfl) ?_
  intro p e s m below meth c A hC hP hD hS ls hl
  obtain ⟨hx, hb, hr, hml, hG, hown, hlocks, hK, hA⟩ := id hC
  have hl : lv_has ls 11 [(0, .ref (bd 0)), (1, .int a1), (2, .int a2), (3, .int a3), (4, .int a4), (5, .int a5), (6, .int a6)] := hl
  obtain ⟨H, hH⟩ : ∃ H, H = s.heap := ⟨_, rfl⟩
  obtain ⟨locs, hlocs⟩ : ∃ x : List Loc, x = [] := ⟨_, rfl⟩
  rw [← hlocs] at hS ⊢
  have hP : va_P D vwCl (wB bd cI cZ u) H := by rw [hH]; exact hP
  have hS : va_S A s.heap H locs := by rw [hH]; exact hS
  suffices g : W p l e ({ frames := 2, cells := 0, slots := 0, locals := 43 } : Room) s m [.ref (bd 0), .int a1, .int a2, .int a3, .int a4, .int a5, .int a6].toArray below meth c H locs 0 0 (MQ below (gw_Q D vwCl (wB bd cI cZ) A w (some (.int r))) [.ref (bd 0), .int a1, .int a2, .int a3, .int a4, .int a5, .int a6].toArray s 0 0 A) (F0 m 0 ls []) by rw [hH] at g; exact g
  unfold f_B_agree at h
  refine lv_aload_n hx hb dB_agree_0 rfl (lv_at hl 0 rfl) ?_
  refine lv_iload_n hx hb dB_agree_1 rfl (lv_at hl 1 rfl) ?_
  refine gw_callV (As := [.int a1]) (rest := []) (u := u) (u' := u) hx hb hml hown hG (c_B_isHouse l D bd cI cZ u a1 _ rfl) lk_B_110 rfl rfl ⟨Nat.le_of_ble_eq_true rfl, Nat.le_of_ble_eq_true rfl⟩ (va_recv hK hP (ci := 6) (q0 := 0) rfl rfl) hK hP hD hS hA rfl hl.1 rfl (Nat.le_of_ble_eq_true rfl) dB_agree_2 ⟨Nat.le_of_ble_eq_true rfl, Nat.le_of_ble_eq_true rfl⟩ (fun H locs hP hD hS => ?_)
  refine lv_if_eq (tgt := 22) hx hb dB_agree_5 (by decide) (fun hc => ?_) (fun hc => ?_)
  · rw [if_pos hc] at h
    exact lp_B_agree_22 hC N u a1 a2 a3 a4 a5 a6 _ _ h H locs ls hP hD hS (lv_sub hl [0, 1, 2, 3, 4, 5, 6] rfl)
  · rw [if_neg hc] at h
    refine lv_iload_n hx hb dB_agree_8 rfl (lv_at hl 2 rfl) ?_
    refine lv_iconst (v := (0 : Int32)) hx hb dB_agree_9 (by decide) ?_
    refine lv_bipush (v := (9 : Int32)) hx hb dB_agree_10 (by decide) ?_
    refine gw_callS (As := [.int a2, .int (0 : Int32), .int (9 : Int32)]) (rest := []) (u := u) (u' := u) hx hb hml hown hG (c_B_in l D bd cI cZ u a2 (0 : Int32) (9 : Int32) _ rfl) lk_B_102 rfl rfl ⟨Nat.le_of_ble_eq_true rfl, Nat.le_of_ble_eq_true rfl⟩ hK hP hD hS hA rfl hl.1 rfl (Nat.le_of_ble_eq_true rfl) dB_agree_12 ⟨Nat.le_of_ble_eq_true rfl, Nat.le_of_ble_eq_true rfl⟩ (fun H locs hP hD hS => ?_)
    refine lv_if_eq (tgt := 22) hx hb dB_agree_15 (by decide) (fun hc => ?_) (fun hc => ?_)
    · rw [if_pos hc] at h
      exact lp_B_agree_22 hC N u a1 a2 a3 a4 a5 a6 _ _ h H locs ls hP hD hS (lv_sub hl [0, 1, 2, 3, 4, 5, 6] rfl)
    · rw [if_neg hc] at h
      refine lv_iconst (v := (1 : Int32)) hx hb dB_agree_18 (by decide) ?_
      refine lv_goto (tgt := 23) hx hb dB_agree_19 (by decide) ?_
      exact lp_B_agree_23 hC N u a1 a2 a3 a4 a5 a6 (1 : Int32) _ _ h H locs ls hP hD hS (lv_sub hl [0, 1, 2, 3, 4, 5, 6] rfl)
