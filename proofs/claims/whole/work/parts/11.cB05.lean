set_option maxHeartbeats 4000000 in
set_option maxRecDepth 100000 in
theorem lp_B_costOf_22 {p : Program} {l : Launch} {e : Env} {s : State} {m : MethodId} {args : Array Value} {below : List Frame} {meth : Method} {c : Code} {A : Nat → Prop} {D : va_G} {bd : Nat → Nat} {cI cZ : ClassId} (hC : gw_C p s m args meth c "AidRowsModel" cB_costOf 4 (some .int) gG D vwCl (tB cI cZ) A) : ∀ (u : StB) (x1 : Int32) (y0 : Int32) (r : Int32), f_B_costOf_22 u x1 y0 = some r → ∀ (H : Heap) (locs : List Loc) (ls : Array Slot), va_P D vwCl (wB bd cI cZ u) H → va_D A (wB bd cI cZ u) → va_S A s.heap H locs → lv_has ls 4 [(0, .ref (bd 0)), (1, .int x1)] → W p l e ({ frames := 0, cells := 0, slots := 0, locals := 0 } : Room) s m args below meth c H locs 0 0 (MQ below (gw_Q D vwCl (wB bd cI cZ) A u (some (.int r))) args s 0 0 A) (F0 m 22 ls [.int y0]) := by
  obtain ⟨hx, hb, hr, hml, hG, hown, hlocks, hK, hA⟩ := id hC
  intro u x1 y0 r h H locs ls hP hD hS hl
  unfold f_B_costOf_22 at h
  refine lv_istore_n (lv' := [(2, .int y0), (0, .ref (bd 0)), (1, .int x1)]) hx hb dB_costOf_22 rfl hl (by decide) rfl (fun ls hl => ?_)
  refine lv_iload_n hx hb dB_costOf_23 rfl (lv_at hl 0 rfl) ?_
  refine lv_aload_n hx hb dB_costOf_24 rfl (lv_at hl 1 rfl) ?_
  refine va_get (D := D) (ci := 6) (v := .ref (bd 25)) (C := RB) (T := TB) (N := 36) hx hb hG inB hown hK hP 0 rfl rfl 30 (by decide) (hG _ mw_675) (fun _ h9 => h9) rfl dB_costOf_25 ?_
  refine lv_iload_n hx hb dB_costOf_28 rfl (lv_at hl 2 rfl) ?_
  obtain ⟨hg2, h⟩ := gI_some h
  refine va_iald (f := (u.2 24)) hx hb hK hP 25 0 rfl rfl hg2 dB_costOf_29 ?_
  refine lv_isub hx hb dB_costOf_30 ?_
  refine lv_istore_n (lv' := [(3, .int (y0 - (u.2 24 (x1).toNatClampNeg))), (2, .int y0), (0, .ref (bd 0)), (1, .int x1)]) hx hb dB_costOf_31 rfl hl (by decide) rfl (fun ls hl => ?_)
  refine lv_iload_n hx hb dB_costOf_32 rfl (lv_at hl 0 rfl) ?_
  refine lv_if_gt (tgt := 40) hx hb dB_costOf_33 (by decide) (fun hc => ?_) (fun hc => ?_)
  · rw [if_pos hc] at h
    refine lv_aload_n hx hb dB_costOf_40 rfl (lv_at hl 2 rfl) ?_
    refine va_get (D := D) (ci := 6) (v := .ref (bd 2)) (C := RB) (T := TB) (N := 36) hx hb hG inB hown hK hP 0 rfl rfl 4 (by decide) (hG _ mw_649) (fun _ h9 => h9) rfl dB_costOf_41 ?_
    refine lv_aload_n hx hb dB_costOf_44 rfl (lv_at hl 2 rfl) ?_
    refine va_get (D := D) (ci := 6) (v := .ref (bd 21)) (C := RB) (T := TB) (N := 36) hx hb hG inB hown hK hP 0 rfl rfl 26 (by decide) (hG _ mw_671) (fun _ h9 => h9) rfl dB_costOf_45 ?_
    refine lv_iload_n hx hb dB_costOf_48 rfl (lv_at hl 3 rfl) ?_
    refine va_iald (f := (u.2 20)) hx hb hK hP 21 0 rfl rfl hg2 dB_costOf_49 ?_
    obtain ⟨hg3, h⟩ := gI_some h
    refine va_iald (f := (u.2 1)) hx hb hK hP 2 0 rfl rfl hg3 dB_costOf_50 ?_
    refine lv_iload_n hx hb dB_costOf_51 rfl (lv_at hl 0 rfl) ?_
    refine lv_bipush (v := (59 : Int32)) hx hb dB_costOf_52 (by decide) ?_
    refine lv_iadd hx hb dB_costOf_54 ?_
    refine lv_bipush (v := (60 : Int32)) hx hb dB_costOf_55 (by decide) ?_
    refine lv_idiv hx hb dB_costOf_57 (by decide) ?_
    refine lv_imul hx hb dB_costOf_58 ?_
    cases h
    exact gw_iret hx hb hr hlocks hP hD hS dB_costOf_59
  · rw [if_neg hc] at h
    refine lv_iconst (v := (0 : Int32)) hx hb dB_costOf_36 (by decide) ?_
    refine lv_goto (tgt := 59) hx hb dB_costOf_37 (by decide) ?_
    cases h
    exact gw_iret hx hb hr hlocks hP hD hS dB_costOf_59
set_option maxHeartbeats 4000000 in
set_option maxRecDepth 100000 in
theorem c_B_costOf (l : Launch) (D : va_G) (bd : Nat → Nat) (cI cZ : ClassId) (u : StB) (a1 : Int32) (r : Int32) (h : f_B_costOf u a1 = some r) : gw_Ct l D vwCl (tB cI cZ) (wB bd cI cZ) yB_costOf (Cond.code yB_costOf cB_costOf 4 (some .int) :: gG) ({ frames := 0, cells := 0, slots := 0, locals := 0 } : Room) [.ref (bd 0), .int a1] u (some (.int r)) u := by
  refine gw_enter (by decide) (Nat.le_of_ble_eq_true rfl) ?_
  intro p e s m below meth c A hC hP hD hS ls hl
  obtain ⟨hx, hb, hr, hml, hG, hown, hlocks, hK, hA⟩ := id hC
  have hl : lv_has ls 4 [(0, .ref (bd 0)), (1, .int a1)] := hl
  obtain ⟨H, hH⟩ : ∃ H, H = s.heap := ⟨_, rfl⟩
  obtain ⟨locs, hlocs⟩ : ∃ x : List Loc, x = [] := ⟨_, rfl⟩
  rw [← hlocs] at hS ⊢
  have hP : va_P D vwCl (wB bd cI cZ u) H := by rw [hH]; exact hP
  have hS : va_S A s.heap H locs := by rw [hH]; exact hS
  suffices g : W p l e ({ frames := 0, cells := 0, slots := 0, locals := 0 } : Room) s m [.ref (bd 0), .int a1].toArray below meth c H locs 0 0 (MQ below (gw_Q D vwCl (wB bd cI cZ) A u (some (.int r))) [.ref (bd 0), .int a1].toArray s 0 0 A) (F0 m 0 ls []) by rw [hH] at g; exact g
  unfold f_B_costOf at h
  refine lv_aload_n hx hb dB_costOf_0 rfl (lv_at hl 0 rfl) ?_
  refine va_get (D := D) (ci := 6) (v := .ref (bd 26)) (C := RB) (T := TB) (N := 36) hx hb hG inB hown hK hP 0 rfl rfl 31 (by decide) (hG _ mw_676) (fun _ h9 => h9) rfl dB_costOf_1 ?_
  refine lv_iload_n hx hb dB_costOf_4 rfl (lv_at hl 1 rfl) ?_
  obtain ⟨hg1, h⟩ := gI_some h
  refine va_iald (f := (u.2 25)) hx hb hK hP 26 0 rfl rfl hg1 dB_costOf_5 ?_
  refine lv_if_ge (tgt := 16) hx hb dB_costOf_6 (by decide) (fun hc => ?_) (fun hc => ?_)
  · rw [if_pos hc] at h
    refine lv_aload_n hx hb dB_costOf_16 rfl (lv_at hl 0 rfl) ?_
    refine va_get (D := D) (ci := 6) (v := .ref (bd 26)) (C := RB) (T := TB) (N := 36) hx hb hG inB hown hK hP 0 rfl rfl 31 (by decide) (hG _ mw_676) (fun _ h9 => h9) rfl dB_costOf_17 ?_
    refine lv_iload_n hx hb dB_costOf_20 rfl (lv_at hl 1 rfl) ?_
    refine va_iald (f := (u.2 25)) hx hb hK hP 26 0 rfl rfl hg1 dB_costOf_21 ?_
    exact lp_B_costOf_22 hC u a1 (u.2 25 (a1).toNatClampNeg) _ h H locs ls hP hD hS (lv_sub hl [0, 1] rfl)
  · rw [if_neg hc] at h
    refine lv_aload_n hx hb dB_costOf_9 rfl (lv_at hl 0 rfl) ?_
    refine va_get (D := D) (ci := 6) (v := .int (u.1 1)) (C := RB) (T := TB) (N := 36) hx hb hG inB hown hK hP 0 rfl rfl 1 (by decide) (hG _ mw_646) (fun _ h9 => h9) rfl dB_costOf_10 ?_
    refine lv_goto (tgt := 22) hx hb dB_costOf_13 (by decide) ?_
    exact lp_B_costOf_22 hC u a1 (u.1 1) _ h H locs ls hP hD hS (lv_sub hl [0, 1] rfl)
set_option maxHeartbeats 4000000 in
set_option maxRecDepth 100000 in
theorem lp_B_loanAt_25 {p : Program} {l : Launch} {e : Env} {s : State} {m : MethodId} {args : Array Value} {below : List Frame} {meth : Method} {c : Code} {A : Nat → Prop} {D : va_G} {bd : Nat → Nat} {cI cZ : ClassId} (hC : gw_C p s m args meth c "AidRowsModel" cB_loanAt 3 (some .int) gG D vwCl (tB cI cZ) A) (N : Nat) : ∀ (u : StB) (x1 : Int32) (x2 : Int32) (y1 : Int32) (y2 : Int32) (r : Int32) (w : StB), f_B_loanAt_25 N u x1 x2 y1 y2 = some (r, w) → ∀ (H : Heap) (locs : List Loc) (ls : Array Slot), va_P D vwCl (wB bd cI cZ u) H → va_D A (wB bd cI cZ u) → va_S A s.heap H locs → lv_has ls 3 [(0, .ref (bd 0)), (1, .int x1), (2, .int x2)] → W p l e ({ frames := 2, cells := 0, slots := 0, locals := 43 } : Room) s m args below meth c H locs 0 0 (MQ below (gw_Q D vwCl (wB bd cI cZ) A w (some (.int r))) args s 0 0 A) (F0 m 25 ls [.int y2, .int y1, .ref (bd 0)]) := by
  obtain ⟨hx, hb, hr, hml, hG, hown, hlocks, hK, hA⟩ := id hC
  intro u x1 x2 y1 y2 r w h H locs ls hP hD hS hl
  unfold f_B_loanAt_25 at h
  refine lv_iconst (v := (1 : Int32)) hx hb dB_loanAt_25 (by decide) ?_
  refine lv_iconst (v := (1 : Int32)) hx hb dB_loanAt_26 (by decide) ?_
  refine lv_iconst (v := (1 : Int32)) hx hb dB_loanAt_27 (by decide) ?_
  obtain ⟨q1, q1_h, h⟩ := gw_bind h
  refine gw_callV (As := [.int y1, .int y2, .int (1 : Int32), .int (1 : Int32), .int (1 : Int32)]) (rest := []) (u := u) (u' := q1.2) hx hb hml hown hG (c_B_goes l D bd cI cZ N u y1 y2 (1 : Int32) (1 : Int32) (1 : Int32) _ _ q1_h) lk_B_106 rfl rfl ⟨Nat.le_of_ble_eq_true rfl, Nat.le_of_ble_eq_true rfl⟩ (va_recv hK hP (ci := 6) (q0 := 0) rfl rfl) hK hP hD hS hA rfl hl.1 rfl (Nat.le_of_ble_eq_true rfl) dB_loanAt_28 ⟨Nat.le_of_ble_eq_true rfl, Nat.le_of_ble_eq_true rfl⟩ (fun H locs hP hD hS => ?_)
  refine lv_if_ne (tgt := 36) hx hb dB_loanAt_31 (by decide) (fun hc => ?_) (fun hc => ?_)
  · rw [if_neg hc] at h
    refine lv_iload_n hx hb dB_loanAt_36 rfl (lv_at hl 2 rfl) ?_
    refine lv_if_ne (tgt := 49) hx hb dB_loanAt_37 (by decide) (fun hc => ?_) (fun hc => ?_)
    · rw [if_neg hc] at h
      refine lv_iload_n hx hb dB_loanAt_49 rfl (lv_at hl 2 rfl) ?_
      refine lv_iconst (v := (1 : Int32)) hx hb dB_loanAt_50 (by decide) ?_
      refine lv_icmp_ne (tgt := 63) hx hb dB_loanAt_51 (by decide) (fun hc => ?_) (fun hc => ?_)
      · rw [if_neg hc] at h
        refine lv_iload_n hx hb dB_loanAt_63 rfl (lv_at hl 2 rfl) ?_
        refine lv_iconst (v := (2 : Int32)) hx hb dB_loanAt_64 (by decide) ?_
        refine lv_icmp_ne (tgt := 77) hx hb dB_loanAt_65 (by decide) (fun hc => ?_) (fun hc => ?_)
        · rw [if_neg hc] at h
          refine lv_iload_n hx hb dB_loanAt_77 rfl (lv_at hl 2 rfl) ?_
          refine lv_iconst (v := (3 : Int32)) hx hb dB_loanAt_78 (by decide) ?_
          refine lv_icmp_ne (tgt := 91) hx hb dB_loanAt_79 (by decide) (fun hc => ?_) (fun hc => ?_)
          · rw [if_neg hc] at h
            refine lv_iload_n hx hb dB_loanAt_91 rfl (lv_at hl 2 rfl) ?_
            refine lv_iconst (v := (4 : Int32)) hx hb dB_loanAt_92 (by decide) ?_
            refine lv_icmp_ne (tgt := 105) hx hb dB_loanAt_93 (by decide) (fun hc => ?_) (fun hc => ?_)
            · rw [if_neg hc] at h
              refine lv_iload_n hx hb dB_loanAt_105 rfl (lv_at hl 2 rfl) ?_
              refine lv_iconst (v := (5 : Int32)) hx hb dB_loanAt_106 (by decide) ?_
              refine lv_icmp_ne (tgt := 119) hx hb dB_loanAt_107 (by decide) (fun hc => ?_) (fun hc => ?_)
              · rw [if_neg hc] at h
                refine lv_aload_n hx hb dB_loanAt_119 rfl (lv_at hl 0 rfl) ?_
                refine lv_iload_n hx hb dB_loanAt_120 rfl (lv_at hl 1 rfl) ?_
                obtain ⟨q2, q2_h, h⟩ := gw_bind h
                refine gw_callV (As := [.int x1]) (rest := []) (u := q1.2) (u' := q1.2) hx hb hml hown hG (c_B_costOf l D bd cI cZ q1.2 x1 _ q2_h) lk_B_162 rfl rfl ⟨Nat.le_of_ble_eq_true rfl, Nat.le_of_ble_eq_true rfl⟩ (va_recv hK hP (ci := 6) (q0 := 0) rfl rfl) hK hP hD hS hA rfl hl.1 rfl (Nat.le_of_ble_eq_true rfl) dB_loanAt_121 ⟨Nat.le_of_ble_eq_true rfl, Nat.le_of_ble_eq_true rfl⟩ (fun H locs hP hD hS => ?_)
                cases h
                exact gw_iret hx hb hr hlocks hP hD hS dB_loanAt_124
              · rw [if_pos hc] at h
                refine lv_aload_n hx hb dB_loanAt_110 rfl (lv_at hl 0 rfl) ?_
                refine va_get (D := D) (ci := 6) (v := .ref (bd 26)) (C := RB) (T := TB) (N := 36) hx hb hG inB hown hK hP 0 rfl rfl 31 (by decide) (hG _ mw_676) (fun _ h9 => h9) rfl dB_loanAt_111 ?_
                refine lv_iload_n hx hb dB_loanAt_114 rfl (lv_at hl 1 rfl) ?_
                obtain ⟨hg3, h⟩ := gI_some h
                refine va_iald (f := (q1.2.2 25)) hx hb hK hP 26 0 rfl rfl hg3 dB_loanAt_115 ?_
                refine lv_goto (tgt := 124) hx hb dB_loanAt_116 (by decide) ?_
                cases h
                exact gw_iret hx hb hr hlocks hP hD hS dB_loanAt_124
            · rw [if_pos hc] at h
              refine lv_aload_n hx hb dB_loanAt_96 rfl (lv_at hl 0 rfl) ?_
              refine va_get (D := D) (ci := 6) (v := .ref (bd 25)) (C := RB) (T := TB) (N := 36) hx hb hG inB hown hK hP 0 rfl rfl 30 (by decide) (hG _ mw_675) (fun _ h9 => h9) rfl dB_loanAt_97 ?_
              refine lv_iload_n hx hb dB_loanAt_100 rfl (lv_at hl 1 rfl) ?_
              obtain ⟨hg4, h⟩ := gI_some h
              refine va_iald (f := (q1.2.2 24)) hx hb hK hP 25 0 rfl rfl hg4 dB_loanAt_101 ?_
              refine lv_goto (tgt := 124) hx hb dB_loanAt_102 (by decide) ?_
              cases h
              exact gw_iret hx hb hr hlocks hP hD hS dB_loanAt_124
          · rw [if_pos hc] at h
            refine lv_aload_n hx hb dB_loanAt_82 rfl (lv_at hl 0 rfl) ?_
            refine va_get (D := D) (ci := 6) (v := .ref (bd 24)) (C := RB) (T := TB) (N := 36) hx hb hG inB hown hK hP 0 rfl rfl 29 (by decide) (hG _ mw_674) (fun _ h9 => h9) rfl dB_loanAt_83 ?_
            refine lv_iload_n hx hb dB_loanAt_86 rfl (lv_at hl 1 rfl) ?_
            obtain ⟨hg5, h⟩ := gI_some h
            refine va_iald (f := (q1.2.2 23)) hx hb hK hP 24 0 rfl rfl hg5 dB_loanAt_87 ?_
            refine lv_goto (tgt := 124) hx hb dB_loanAt_88 (by decide) ?_
            cases h
            exact gw_iret hx hb hr hlocks hP hD hS dB_loanAt_124
        · rw [if_pos hc] at h
          refine lv_aload_n hx hb dB_loanAt_68 rfl (lv_at hl 0 rfl) ?_
          refine va_get (D := D) (ci := 6) (v := .ref (bd 23)) (C := RB) (T := TB) (N := 36) hx hb hG inB hown hK hP 0 rfl rfl 28 (by decide) (hG _ mw_673) (fun _ h9 => h9) rfl dB_loanAt_69 ?_
          refine lv_iload_n hx hb dB_loanAt_72 rfl (lv_at hl 1 rfl) ?_
          obtain ⟨hg6, h⟩ := gI_some h
          refine va_iald (f := (q1.2.2 22)) hx hb hK hP 23 0 rfl rfl hg6 dB_loanAt_73 ?_
          refine lv_goto (tgt := 124) hx hb dB_loanAt_74 (by decide) ?_
          cases h
          exact gw_iret hx hb hr hlocks hP hD hS dB_loanAt_124
      · rw [if_pos hc] at h
        refine lv_aload_n hx hb dB_loanAt_54 rfl (lv_at hl 0 rfl) ?_
        refine va_get (D := D) (ci := 6) (v := .ref (bd 22)) (C := RB) (T := TB) (N := 36) hx hb hG inB hown hK hP 0 rfl rfl 27 (by decide) (hG _ mw_672) (fun _ h9 => h9) rfl dB_loanAt_55 ?_
        refine lv_iload_n hx hb dB_loanAt_58 rfl (lv_at hl 1 rfl) ?_
        obtain ⟨hg7, h⟩ := gI_some h
        refine va_iald (f := (q1.2.2 21)) hx hb hK hP 22 0 rfl rfl hg7 dB_loanAt_59 ?_
        refine lv_goto (tgt := 124) hx hb dB_loanAt_60 (by decide) ?_
        cases h
        exact gw_iret hx hb hr hlocks hP hD hS dB_loanAt_124
    · rw [if_pos hc] at h
      refine lv_aload_n hx hb dB_loanAt_40 rfl (lv_at hl 0 rfl) ?_
      refine va_get (D := D) (ci := 6) (v := .ref (bd 21)) (C := RB) (T := TB) (N := 36) hx hb hG inB hown hK hP 0 rfl rfl 26 (by decide) (hG _ mw_671) (fun _ h9 => h9) rfl dB_loanAt_41 ?_
      refine lv_iload_n hx hb dB_loanAt_44 rfl (lv_at hl 1 rfl) ?_
      obtain ⟨hg8, h⟩ := gI_some h
      refine va_iald (f := (q1.2.2 20)) hx hb hK hP 21 0 rfl rfl hg8 dB_loanAt_45 ?_
      refine lv_goto (tgt := 124) hx hb dB_loanAt_46 (by decide) ?_
      cases h
      exact gw_iret hx hb hr hlocks hP hD hS dB_loanAt_124
  · rw [if_pos hc] at h
    refine lv_iconst (v := (0 : Int32)) hx hb dB_loanAt_34 (by decide) ?_
    cases h
    exact gw_iret hx hb hr hlocks hP hD hS dB_loanAt_35
set_option maxHeartbeats 4000000 in
set_option maxRecDepth 100000 in
theorem lp_B_loanAt_24 {p : Program} {l : Launch} {e : Env} {s : State} {m : MethodId} {args : Array Value} {below : List Frame} {meth : Method} {c : Code} {A : Nat → Prop} {D : va_G} {bd : Nat → Nat} {cI cZ : ClassId} (hC : gw_C p s m args meth c "AidRowsModel" cB_loanAt 3 (some .int) gG D vwCl (tB cI cZ) A) (N : Nat) : ∀ (u : StB) (x1 : Int32) (x2 : Int32) (y1 : Int32) (r : Int32) (w : StB), f_B_loanAt_24 N u x1 x2 y1 = some (r, w) → ∀ (H : Heap) (locs : List Loc) (ls : Array Slot), va_P D vwCl (wB bd cI cZ u) H → va_D A (wB bd cI cZ u) → va_S A s.heap H locs → lv_has ls 3 [(0, .ref (bd 0)), (1, .int x1), (2, .int x2)] → W p l e ({ frames := 2, cells := 0, slots := 0, locals := 43 } : Room) s m args below meth c H locs 0 0 (MQ below (gw_Q D vwCl (wB bd cI cZ) A w (some (.int r))) args s 0 0 A) (F0 m 24 ls [.int y1, .ref (bd 0)]) := by
  obtain ⟨hx, hb, hr, hml, hG, hown, hlocks, hK, hA⟩ := id hC
  intro u x1 x2 y1 r w h H locs ls hP hD hS hl
  unfold f_B_loanAt_24 at h
  refine lv_iconst (v := (0 : Int32)) hx hb dB_loanAt_24 (by decide) ?_
  exact lp_B_loanAt_25 hC N u x1 x2 y1 (0 : Int32) _ _ h H locs ls hP hD hS (lv_sub hl [0, 1, 2] rfl)
set_option maxHeartbeats 4000000 in
set_option maxRecDepth 100000 in
theorem c_B_loanAt (l : Launch) (D : va_G) (bd : Nat → Nat) (cI cZ : ClassId) (N : Nat) (u : StB) (a1 : Int32) (a2 : Int32) (r : Int32) (w : StB) (h : f_B_loanAt N u a1 a2 = some (r, w)) : gw_Ct l D vwCl (tB cI cZ) (wB bd cI cZ) yB_loanAt (Cond.code yB_loanAt cB_loanAt 3 (some .int) :: gG) ({ frames := 2, cells := 0, slots := 0, locals := 43 } : Room) [.ref (bd 0), .int a1, .int a2] u (some (.int r)) w := by
  refine gw_enter (by decide) (Nat.le_of_ble_eq_true rfl) ?_
  intro p e s m below meth c A hC hP hD hS ls hl
  obtain ⟨hx, hb, hr, hml, hG, hown, hlocks, hK, hA⟩ := id hC
  have hl : lv_has ls 3 [(0, .ref (bd 0)), (1, .int a1), (2, .int a2)] := hl
  obtain ⟨H, hH⟩ : ∃ H, H = s.heap := ⟨_, rfl⟩
  obtain ⟨locs, hlocs⟩ : ∃ x : List Loc, x = [] := ⟨_, rfl⟩
  rw [← hlocs] at hS ⊢
  have hP : va_P D vwCl (wB bd cI cZ u) H := by rw [hH]; exact hP
  have hS : va_S A s.heap H locs := by rw [hH]; exact hS
  suffices g : W p l e ({ frames := 2, cells := 0, slots := 0, locals := 43 } : Room) s m [.ref (bd 0), .int a1, .int a2].toArray below meth c H locs 0 0 (MQ below (gw_Q D vwCl (wB bd cI cZ) A w (some (.int r))) [.ref (bd 0), .int a1, .int a2].toArray s 0 0 A) (F0 m 0 ls []) by rw [hH] at g; exact g
  unfold f_B_loanAt at h
  refine lv_aload_n hx hb dB_loanAt_0 rfl (lv_at hl 0 rfl) ?_
  refine lv_iconst (v := (1 : Int32)) hx hb dB_loanAt_1 (by decide) ?_
  refine lv_aload_n hx hb dB_loanAt_2 rfl (lv_at hl 0 rfl) ?_
  refine lv_iload_n hx hb dB_loanAt_3 rfl (lv_at hl 1 rfl) ?_
  refine gw_callV (As := [.int a1]) (rest := [.int (1 : Int32), .ref (bd 0)]) (u := u) (u' := u) hx hb hml hown hG (c_B_isLoan l D bd cI cZ u a1 _ rfl) lk_B_159 rfl rfl ⟨Nat.le_of_ble_eq_true rfl, Nat.le_of_ble_eq_true rfl⟩ (va_recv hK hP (ci := 6) (q0 := 0) rfl rfl) hK hP hD hS hA rfl hl.1 rfl (Nat.le_of_ble_eq_true rfl) dB_loanAt_4 ⟨Nat.le_of_ble_eq_true rfl, Nat.le_of_ble_eq_true rfl⟩ (fun H locs hP hD hS => ?_)
  refine lv_if_eq (tgt := 24) hx hb dB_loanAt_7 (by decide) (fun hc => ?_) (fun hc => ?_)
  · rw [if_pos hc] at h
    exact lp_B_loanAt_24 hC N u a1 a2 (1 : Int32) _ _ h H locs ls hP hD hS (lv_sub hl [0, 1, 2] rfl)
  · rw [if_neg hc] at h
    refine lv_iload_n hx hb dB_loanAt_10 rfl (lv_at hl 2 rfl) ?_
    refine lv_iconst (v := (0 : Int32)) hx hb dB_loanAt_11 (by decide) ?_
    refine lv_bipush (v := (6 : Int32)) hx hb dB_loanAt_12 (by decide) ?_
    refine gw_callS (As := [.int a2, .int (0 : Int32), .int (6 : Int32)]) (rest := [.int (1 : Int32), .ref (bd 0)]) (u := u) (u' := u) hx hb hml hown hG (c_B_in l D bd cI cZ u a2 (0 : Int32) (6 : Int32) _ rfl) lk_B_102 rfl rfl ⟨Nat.le_of_ble_eq_true rfl, Nat.le_of_ble_eq_true rfl⟩ hK hP hD hS hA rfl hl.1 rfl (Nat.le_of_ble_eq_true rfl) dB_loanAt_14 ⟨Nat.le_of_ble_eq_true rfl, Nat.le_of_ble_eq_true rfl⟩ (fun H locs hP hD hS => ?_)
    refine lv_if_eq (tgt := 24) hx hb dB_loanAt_17 (by decide) (fun hc => ?_) (fun hc => ?_)
    · rw [if_pos hc] at h
      exact lp_B_loanAt_24 hC N u a1 a2 (1 : Int32) _ _ h H locs ls hP hD hS (lv_sub hl [0, 1, 2] rfl)
    · rw [if_neg hc] at h
      refine lv_iconst (v := (1 : Int32)) hx hb dB_loanAt_20 (by decide) ?_
      refine lv_goto (tgt := 25) hx hb dB_loanAt_21 (by decide) ?_
      exact lp_B_loanAt_25 hC N u a1 a2 (1 : Int32) (1 : Int32) _ _ h H locs ls hP hD hS (lv_sub hl [0, 1, 2] rfl)
set_option maxHeartbeats 4000000 in
set_option maxRecDepth 100000 in
theorem lp_B_cost_22 {p : Program} {l : Launch} {e : Env} {s : State} {m : MethodId} {args : Array Value} {below : List Frame} {meth : Method} {c : Code} {A : Nat → Prop} {D : va_G} {bd : Nat → Nat} {cI cZ : ClassId} (hC : gw_C p s m args meth c "AidRowsModel" cB_cost 4 (some .int) gG D vwCl (tB cI cZ) A) (N : Nat) : ∀ (n : Nat) (u : StB) (x1 : Int32) (x2 : Int32) (x3 : Int32) (r : Int32) (w : StB), f_B_cost_22 N n u x1 x2 x3 = some (r, w) → ∀ (H : Heap) (locs : List Loc) (ls : Array Slot), va_P D vwCl (wB bd cI cZ u) H → va_D A (wB bd cI cZ u) → va_S A s.heap H locs → lv_has ls 4 [(0, .ref (bd 0)), (1, .int x1), (2, .int x2), (3, .int x3)] → W p l e ({ frames := 2, cells := 0, slots := 0, locals := 43 } : Room) s m args below meth c H locs 0 0 (MQ below (gw_Q D vwCl (wB bd cI cZ) A w (some (.int r))) args s 0 0 A) (F0 m 22 ls []) := by
  obtain ⟨hx, hb, hr, hml, hG, hown, hlocks, hK, hA⟩ := id hC
  intro n
  induction n with
  | zero => intro u x1 x2 x3 r w h; cases h
  | succ n ih =>
    intro u x1 x2 x3 r w h H locs ls hP hD hS hl
    rw [f_B_cost_22] at h
    refine lv_iload_n hx hb dB_cost_22 rfl (lv_at hl 3 rfl) ?_
    refine lv_aload_n hx hb dB_cost_23 rfl (lv_at hl 0 rfl) ?_
    refine va_get (D := D) (ci := 6) (v := .int (u.1 5)) (C := RB) (T := TB) (N := 36) hx hb hG inB hown hK hP 0 rfl rfl 25 (by decide) (hG _ mw_670) (fun _ h9 => h9) rfl dB_cost_24 ?_
    refine lv_icmp_ge (tgt := 54) hx hb dB_cost_27 (by decide) (fun hc => ?_) (fun hc => ?_)
    · rw [if_pos hc] at h
      refine lv_iload_n hx hb dB_cost_54 rfl (lv_at hl 2 rfl) ?_
      cases h
      exact gw_iret hx hb hr hlocks hP hD hS dB_cost_55
    · rw [if_neg hc] at h
      refine lv_aload_n hx hb dB_cost_30 rfl (lv_at hl 0 rfl) ?_
      refine va_get (D := D) (ci := 6) (v := .ref (bd 21)) (C := RB) (T := TB) (N := 36) hx hb hG inB hown hK hP 0 rfl rfl 26 (by decide) (hG _ mw_671) (fun _ h9 => h9) rfl dB_cost_31 ?_
      refine lv_iload_n hx hb dB_cost_34 rfl (lv_at hl 3 rfl) ?_
      obtain ⟨hg2, h⟩ := gI_some h
      refine va_iald (f := (u.2 20)) hx hb hK hP 21 0 rfl rfl hg2 dB_cost_35 ?_
      refine lv_iload_n hx hb dB_cost_36 rfl (lv_at hl 1 rfl) ?_
      refine lv_icmp_ne (tgt := 48) hx hb dB_cost_37 (by decide) (fun hc => ?_) (fun hc => ?_)
      · rw [if_neg hc] at h
        refine lv_iinc (v := (x3 + (1 : Int32))) (lv' := [(3, .int (x3 + (1 : Int32))), (0, .ref (bd 0)), (1, .int x1), (2, .int x2)]) hx hb dB_cost_48 hl (k := 3) rfl rfl (by decide) rfl (fun ls hl => ?_)
        refine lv_goto (tgt := 22) hx hb dB_cost_51 (by decide) ?_
        exact ih u x1 x2 (x3 + (1 : Int32)) _ _ h H locs ls hP hD hS (lv_sub hl [1, 2, 3, 0] rfl)
      · rw [if_pos hc] at h
        refine lv_iload_n hx hb dB_cost_40 rfl (lv_at hl 2 rfl) ?_
        refine lv_aload_n hx hb dB_cost_41 rfl (lv_at hl 0 rfl) ?_
        refine lv_iload_n hx hb dB_cost_42 rfl (lv_at hl 3 rfl) ?_
        obtain ⟨q3, q3_h, h⟩ := gw_bind h
        refine gw_callV (As := [.int x3]) (rest := [.int x2]) (u := u) (u' := u) hx hb hml hown hG (c_B_costOf l D bd cI cZ u x3 _ q3_h) lk_B_162 rfl rfl ⟨Nat.le_of_ble_eq_true rfl, Nat.le_of_ble_eq_true rfl⟩ (va_recv hK hP (ci := 6) (q0 := 0) rfl rfl) hK hP hD hS hA rfl hl.1 rfl (Nat.le_of_ble_eq_true rfl) dB_cost_43 ⟨Nat.le_of_ble_eq_true rfl, Nat.le_of_ble_eq_true rfl⟩ (fun H locs hP hD hS => ?_)
        refine lv_iadd hx hb dB_cost_46 ?_
        refine lv_istore_n (lv' := [(2, .int (x2 + q3)), (0, .ref (bd 0)), (1, .int x1), (3, .int x3)]) hx hb dB_cost_47 rfl hl (by decide) rfl (fun ls hl => ?_)
        refine lv_iinc (v := (x3 + (1 : Int32))) (lv' := [(3, .int (x3 + (1 : Int32))), (2, .int (x2 + q3)), (0, .ref (bd 0)), (1, .int x1)]) hx hb dB_cost_48 hl (k := 3) rfl rfl (by decide) rfl (fun ls hl => ?_)
        refine lv_goto (tgt := 22) hx hb dB_cost_51 (by decide) ?_
        exact ih u x1 (x2 + q3) (x3 + (1 : Int32)) _ _ h H locs ls hP hD hS (lv_sub hl [2, 3, 1, 0] rfl)
set_option maxHeartbeats 4000000 in
set_option maxRecDepth 100000 in
theorem c_B_cost (l : Launch) (D : va_G) (bd : Nat → Nat) (cI cZ : ClassId) (N : Nat) (u : StB) (a1 : Int32) (r : Int32) (w : StB) (h : f_B_cost N u a1 = some (r, w)) : gw_Ct l D vwCl (tB cI cZ) (wB bd cI cZ) yB_cost (Cond.code yB_cost cB_cost 4 (some .int) :: gG) ({ frames := 2, cells := 0, slots := 0, locals := 43 } : Room) [.ref (bd 0), .int a1] u (some (.int r)) w := by
  refine gw_enter (by decide) (Nat.le_of_ble_eq_true rfl) ?_
  intro p e s m below meth c A hC hP hD hS ls hl
  obtain ⟨hx, hb, hr, hml, hG, hown, hlocks, hK, hA⟩ := id hC
  have hl : lv_has ls 4 [(0, .ref (bd 0)), (1, .int a1)] := hl
  obtain ⟨H, hH⟩ : ∃ H, H = s.heap := ⟨_, rfl⟩
  obtain ⟨locs, hlocs⟩ : ∃ x : List Loc, x = [] := ⟨_, rfl⟩
  rw [← hlocs] at hS ⊢
  have hP : va_P D vwCl (wB bd cI cZ u) H := by rw [hH]; exact hP
  have hS : va_S A s.heap H locs := by rw [hH]; exact hS
  suffices g : W p l e ({ frames := 2, cells := 0, slots := 0, locals := 43 } : Room) s m [.ref (bd 0), .int a1].toArray below meth c H locs 0 0 (MQ below (gw_Q D vwCl (wB bd cI cZ) A w (some (.int r))) [.ref (bd 0), .int a1].toArray s 0 0 A) (F0 m 0 ls []) by rw [hH] at g; exact g
  unfold f_B_cost at h
  refine lv_aload_n hx hb dB_cost_0 rfl (lv_at hl 0 rfl) ?_
  refine lv_iconst (v := (1 : Int32)) hx hb dB_cost_1 (by decide) ?_
  refine lv_aload_n hx hb dB_cost_2 rfl (lv_at hl 0 rfl) ?_
  refine lv_iload_n hx hb dB_cost_3 rfl (lv_at hl 1 rfl) ?_
  refine gw_callV (As := [.int a1]) (rest := [.int (1 : Int32), .ref (bd 0)]) (u := u) (u' := u) hx hb hml hown hG (c_B_isHouse l D bd cI cZ u a1 _ rfl) lk_B_110 rfl rfl ⟨Nat.le_of_ble_eq_true rfl, Nat.le_of_ble_eq_true rfl⟩ (va_recv hK hP (ci := 6) (q0 := 0) rfl rfl) hK hP hD hS hA rfl hl.1 rfl (Nat.le_of_ble_eq_true rfl) dB_cost_4 ⟨Nat.le_of_ble_eq_true rfl, Nat.le_of_ble_eq_true rfl⟩ (fun H locs hP hD hS => ?_)
  refine lv_iconst (v := (1 : Int32)) hx hb dB_cost_7 (by decide) ?_
  refine lv_iconst (v := (1 : Int32)) hx hb dB_cost_8 (by decide) ?_
  refine lv_iconst (v := (1 : Int32)) hx hb dB_cost_9 (by decide) ?_
  obtain ⟨q1, q1_h, h⟩ := gw_bind h
  refine gw_callV (As := [.int (1 : Int32), .int (f_B_isHouse u a1), .int (1 : Int32), .int (1 : Int32), .int (1 : Int32)]) (rest := []) (u := u) (u' := q1.2) hx hb hml hown hG (c_B_goes l D bd cI cZ N u (1 : Int32) (f_B_isHouse u a1) (1 : Int32) (1 : Int32) (1 : Int32) _ _ q1_h) lk_B_106 rfl rfl ⟨Nat.le_of_ble_eq_true rfl, Nat.le_of_ble_eq_true rfl⟩ (va_recv hK hP (ci := 6) (q0 := 0) rfl rfl) hK hP hD hS hA rfl hl.1 rfl (Nat.le_of_ble_eq_true rfl) dB_cost_10 ⟨Nat.le_of_ble_eq_true rfl, Nat.le_of_ble_eq_true rfl⟩ (fun H locs hP hD hS => ?_)
  refine lv_if_ne (tgt := 18) hx hb dB_cost_13 (by decide) (fun hc => ?_) (fun hc => ?_)
  · rw [if_neg hc] at h
    refine lv_iconst (v := (0 : Int32)) hx hb dB_cost_18 (by decide) ?_
    refine lv_istore_n (lv' := [(2, .int (0 : Int32)), (0, .ref (bd 0)), (1, .int a1)]) hx hb dB_cost_19 rfl hl (by decide) rfl (fun ls hl => ?_)
    refine lv_iconst (v := (0 : Int32)) hx hb dB_cost_20 (by decide) ?_
    refine lv_istore_n (lv' := [(3, .int (0 : Int32)), (2, .int (0 : Int32)), (0, .ref (bd 0)), (1, .int a1)]) hx hb dB_cost_21 rfl hl (by decide) rfl (fun ls hl => ?_)
    exact lp_B_cost_22 hC N N q1.2 a1 (0 : Int32) (0 : Int32) _ _ h H locs ls hP hD hS (lv_sub hl [2, 3, 1, 0] rfl)
  · rw [if_pos hc] at h
    refine lv_iconst (v := (0 : Int32)) hx hb dB_cost_16 (by decide) ?_
    cases h
    exact gw_iret hx hb hr hlocks hP hD hS dB_cost_17
set_option maxHeartbeats 4000000 in
set_option maxRecDepth 100000 in
theorem lp_B_named_7 {p : Program} {l : Launch} {e : Env} {s : State} {m : MethodId} {args : Array Value} {below : List Frame} {meth : Method} {c : Code} {A : Nat → Prop} {D : va_G} {bd : Nat → Nat} {cI cZ : ClassId} (hC : gw_C p s m args meth c "AidRowsModel" cB_named 3 (some .int) gG D vwCl (tB cI cZ) A) (N : Nat) : ∀ (n : Nat) (u : StB) (x1 : Int32) (x2 : Int32) (r : Int32) (w : StB), f_B_named_7 N n u x1 x2 = some (r, w) → ∀ (H : Heap) (locs : List Loc) (ls : Array Slot), va_P D vwCl (wB bd cI cZ u) H → va_D A (wB bd cI cZ u) → va_S A s.heap H locs → lv_has ls 3 [(0, .ref (bd 0)), (1, .int x1), (2, .int x2)] → W p l e ({ frames := 0, cells := 0, slots := 0, locals := 0 } : Room) s m args below meth c H locs 0 0 (MQ below (gw_Q D vwCl (wB bd cI cZ) A w (some (.int r))) args s 0 0 A) (F0 m 7 ls []) := by
  obtain ⟨hx, hb, hr, hml, hG, hown, hlocks, hK, hA⟩ := id hC
  intro n
  induction n with
  | zero => intro u x1 x2 r w h; cases h
  | succ n ih =>
    intro u x1 x2 r w h H locs ls hP hD hS hl
    rw [f_B_named_7] at h
    refine lv_iload_n hx hb dB_named_7 rfl (lv_at hl 2 rfl) ?_
    refine lv_aload_n hx hb dB_named_8 rfl (lv_at hl 0 rfl) ?_
    refine va_get (D := D) (ci := 6) (v := .int (u.1 5)) (C := RB) (T := TB) (N := 36) hx hb hG inB hown hK hP 0 rfl rfl 25 (by decide) (hG _ mw_670) (fun _ h9 => h9) rfl dB_named_9 ?_
    refine lv_icmp_ge (tgt := 42) hx hb dB_named_12 (by decide) (fun hc => ?_) (fun hc => ?_)
    · rw [if_pos hc] at h
      refine lv_iconst (v := (-1 : Int32)) hx hb dB_named_42 (by decide) ?_
      cases h
      exact gw_iret hx hb hr hlocks hP hD hS dB_named_43
    · rw [if_neg hc] at h
      refine lv_aload_n hx hb dB_named_15 rfl (lv_at hl 0 rfl) ?_
      refine va_get (D := D) (ci := 6) (v := .ref (bd 26)) (C := RB) (T := TB) (N := 36) hx hb hG inB hown hK hP 0 rfl rfl 31 (by decide) (hG _ mw_676) (fun _ h9 => h9) rfl dB_named_16 ?_
      refine lv_iload_n hx hb dB_named_19 rfl (lv_at hl 2 rfl) ?_
      obtain ⟨hg1, h⟩ := gI_some h
      refine va_iald (f := (u.2 25)) hx hb hK hP 26 0 rfl rfl hg1 dB_named_20 ?_
      refine lv_if_ge (tgt := 36) hx hb dB_named_21 (by decide) (fun hc => ?_) (fun hc => ?_)
      · rw [if_pos hc] at h
        refine lv_iinc (v := (x2 + (1 : Int32))) (lv' := [(2, .int (x2 + (1 : Int32))), (0, .ref (bd 0)), (1, .int x1)]) hx hb dB_named_36 hl (k := 2) rfl rfl (by decide) rfl (fun ls hl => ?_)
        refine lv_goto (tgt := 7) hx hb dB_named_39 (by decide) ?_
        exact ih u x1 (x2 + (1 : Int32)) _ _ h H locs ls hP hD hS (lv_sub hl [1, 2, 0] rfl)
      · rw [if_neg hc] at h
        refine lv_aload_n hx hb dB_named_24 rfl (lv_at hl 0 rfl) ?_
        refine va_get (D := D) (ci := 6) (v := .ref (bd 22)) (C := RB) (T := TB) (N := 36) hx hb hG inB hown hK hP 0 rfl rfl 27 (by decide) (hG _ mw_672) (fun _ h9 => h9) rfl dB_named_25 ?_
        refine lv_iload_n hx hb dB_named_28 rfl (lv_at hl 2 rfl) ?_
        refine va_iald (f := (u.2 21)) hx hb hK hP 22 0 rfl rfl hg1 dB_named_29 ?_
        refine lv_iload_n hx hb dB_named_30 rfl (lv_at hl 1 rfl) ?_
        refine lv_icmp_ne (tgt := 36) hx hb dB_named_31 (by decide) (fun hc => ?_) (fun hc => ?_)
        · rw [if_neg hc] at h
          refine lv_iinc (v := (x2 + (1 : Int32))) (lv' := [(2, .int (x2 + (1 : Int32))), (0, .ref (bd 0)), (1, .int x1)]) hx hb dB_named_36 hl (k := 2) rfl rfl (by decide) rfl (fun ls hl => ?_)
          refine lv_goto (tgt := 7) hx hb dB_named_39 (by decide) ?_
          exact ih u x1 (x2 + (1 : Int32)) _ _ h H locs ls hP hD hS (lv_sub hl [1, 2, 0] rfl)
        · rw [if_pos hc] at h
          refine lv_iload_n hx hb dB_named_34 rfl (lv_at hl 2 rfl) ?_
          cases h
          exact gw_iret hx hb hr hlocks hP hD hS dB_named_35
set_option maxHeartbeats 4000000 in
set_option maxRecDepth 100000 in
theorem c_B_named (l : Launch) (D : va_G) (bd : Nat → Nat) (cI cZ : ClassId) (N : Nat) (u : StB) (a1 : Int32) (r : Int32) (w : StB) (h : f_B_named N u a1 = some (r, w)) : gw_Ct l D vwCl (tB cI cZ) (wB bd cI cZ) yB_named (Cond.code yB_named cB_named 3 (some .int) :: gG) ({ frames := 0, cells := 0, slots := 0, locals := 0 } : Room) [.ref (bd 0), .int a1] u (some (.int r)) w := by
  refine gw_enter (by decide) (Nat.le_of_ble_eq_true rfl) ?_
  intro p e s m below meth c A hC hP hD hS ls hl
  obtain ⟨hx, hb, hr, hml, hG, hown, hlocks, hK, hA⟩ := id hC
  have hl : lv_has ls 3 [(0, .ref (bd 0)), (1, .int a1)] := hl
  obtain ⟨H, hH⟩ : ∃ H, H = s.heap := ⟨_, rfl⟩
  obtain ⟨locs, hlocs⟩ : ∃ x : List Loc, x = [] := ⟨_, rfl⟩
  rw [← hlocs] at hS ⊢
  have hP : va_P D vwCl (wB bd cI cZ u) H := by rw [hH]; exact hP
  have hS : va_S A s.heap H locs := by rw [hH]; exact hS
  suffices g : W p l e ({ frames := 0, cells := 0, slots := 0, locals := 0 } : Room) s m [.ref (bd 0), .int a1].toArray below meth c H locs 0 0 (MQ below (gw_Q D vwCl (wB bd cI cZ) A w (some (.int r))) [.ref (bd 0), .int a1].toArray s 0 0 A) (F0 m 0 ls []) by rw [hH] at g; exact g
  unfold f_B_named at h
  refine lv_aload_n hx hb dB_named_0 rfl (lv_at hl 0 rfl) ?_
  refine lv_iconst (v := (0 : Int32)) hx hb dB_named_1 (by decide) ?_
  refine va_put (D := D) (ci := 6) (v := .int (0 : Int32)) (ty := .int) (C := RB) (T := TB) (N := 36) hx hb hG inB tyB tyB_ok nmB hown hK hP hD hS 0 rfl rfl 0 (by decide) (hG _ mw_645) (fun _ h9 => h9) rfl (by decide +kernel) rfl rfl (Nat.le_of_ble_eq_true rfl) dB_named_2 (fun H locs hP hD hS => ?_)
  rw [wB_f0] at hP hD
  refine lv_iconst (v := (0 : Int32)) hx hb dB_named_5 (by decide) ?_
  refine lv_istore_n (lv' := [(2, .int (0 : Int32)), (0, .ref (bd 0)), (1, .int a1)]) hx hb dB_named_6 rfl hl (by decide) rfl (fun ls hl => ?_)
  exact lp_B_named_7 hC N N (bF u 0 (0 : Int32)) a1 (0 : Int32) _ _ h H locs ls hP hD hS (lv_sub hl [1, 2, 0] rfl)
set_option maxHeartbeats 4000000 in
set_option maxRecDepth 100000 in
theorem lp_B_hand_55 {p : Program} {l : Launch} {e : Env} {s : State} {m : MethodId} {args : Array Value} {below : List Frame} {meth : Method} {c : Code} {A : Nat → Prop} {D : va_G} {bd : Nat → Nat} {cI cZ : ClassId} (hC : gw_C p s m args meth c "AidRowsModel" cB_hand 4 none gG D vwCl (tB cI cZ) A) (N : Nat) : ∀ (u : StB) (x1 : Int32) (x2 : Int32) (x3 : Int32) (y1 : Int32) (y2 : Int32) (y3 : Int32) (y4 : Int32) (w : StB), f_B_hand_55 N u x1 x2 x3 y1 y2 y3 y4 = some w → ∀ (H : Heap) (locs : List Loc) (ls : Array Slot), va_P D vwCl (wB bd cI cZ u) H → va_D A (wB bd cI cZ u) → va_S A s.heap H locs → lv_has ls 4 [(0, .ref (bd 0)), (1, .int x1), (2, .int x2), (3, .int x3)] → W p l e ({ frames := 2, cells := 0, slots := 0, locals := 43 } : Room) s m args below meth c H locs 0 0 (MQ below (gw_Q D vwCl (wB bd cI cZ) A w (none)) args s 0 0 A) (F0 m 55 ls [.int y4, .int y3, .int y2, .int y1, .ref (bd 0)]) := by
  obtain ⟨hx, hb, hr, hml, hG, hown, hlocks, hK, hA⟩ := id hC
  intro u x1 x2 x3 y1 y2 y3 y4 w h H locs ls hP hD hS hl
  unfold f_B_hand_55 at h
  refine lv_iconst (v := (1 : Int32)) hx hb dB_hand_55 (by decide) ?_
  obtain ⟨q3, q3_h, h⟩ := gw_bind h
  refine gw_callV (As := [.int y1, .int y2, .int y3, .int y4, .int (1 : Int32)]) (rest := []) (u := u) (u' := q3.2) hx hb hml hown hG (c_B_goes l D bd cI cZ N u y1 y2 y3 y4 (1 : Int32) _ _ q3_h) lk_B_106 rfl rfl ⟨Nat.le_of_ble_eq_true rfl, Nat.le_of_ble_eq_true rfl⟩ (va_recv hK hP (ci := 6) (q0 := 0) rfl rfl) hK hP hD hS hA rfl hl.1 rfl (Nat.le_of_ble_eq_true rfl) dB_hand_56 ⟨Nat.le_of_ble_eq_true rfl, Nat.le_of_ble_eq_true rfl⟩ (fun H locs hP hD hS => ?_)
  refine lv_if_eq (tgt := 69) hx hb dB_hand_59 (by decide) (fun hc => ?_) (fun hc => ?_)
  · rw [if_pos hc] at h
    cases h
    exact gw_vret hx hb hr hlocks hP hD hS dB_hand_69
  · rw [if_neg hc] at h
    refine lv_aload_n hx hb dB_hand_62 rfl (lv_at hl 0 rfl) ?_
    refine va_get (D := D) (ci := 6) (v := .ref (bd 28)) (C := RB) (T := TB) (N := 36) hx hb hG inB hown hK hP 0 rfl rfl 33 (by decide) (hG _ mw_678) (fun _ h9 => h9) rfl dB_hand_63 ?_
    refine lv_iload_n hx hb dB_hand_66 rfl (lv_at hl 1 rfl) ?_
    refine lv_iload_n hx hb dB_hand_67 rfl (lv_at hl 2 rfl) ?_
    obtain ⟨hg4, h⟩ := gI_some h
    refine va_iast (f := (q3.2.2 27)) hx hb hK hP hD hS 28 0 rfl rfl hg4 dB_hand_68 (fun H locs hP hD hS => ?_)
    rw [wB_a27] at hP hD
    cases h
    exact gw_vret hx hb hr hlocks hP hD hS dB_hand_69
set_option maxHeartbeats 4000000 in
set_option maxRecDepth 100000 in
theorem lp_B_hand_54 {p : Program} {l : Launch} {e : Env} {s : State} {m : MethodId} {args : Array Value} {below : List Frame} {meth : Method} {c : Code} {A : Nat → Prop} {D : va_G} {bd : Nat → Nat} {cI cZ : ClassId} (hC : gw_C p s m args meth c "AidRowsModel" cB_hand 4 none gG D vwCl (tB cI cZ) A) (N : Nat) : ∀ (u : StB) (x1 : Int32) (x2 : Int32) (x3 : Int32) (y1 : Int32) (y2 : Int32) (y3 : Int32) (w : StB), f_B_hand_54 N u x1 x2 x3 y1 y2 y3 = some w → ∀ (H : Heap) (locs : List Loc) (ls : Array Slot), va_P D vwCl (wB bd cI cZ u) H → va_D A (wB bd cI cZ u) → va_S A s.heap H locs → lv_has ls 4 [(0, .ref (bd 0)), (1, .int x1), (2, .int x2), (3, .int x3)] → W p l e ({ frames := 2, cells := 0, slots := 0, locals := 43 } : Room) s m args below meth c H locs 0 0 (MQ below (gw_Q D vwCl (wB bd cI cZ) A w (none)) args s 0 0 A) (F0 m 54 ls [.int y3, .int y2, .int y1, .ref (bd 0)]) := by
  obtain ⟨hx, hb, hr, hml, hG, hown, hlocks, hK, hA⟩ := id hC
  intro u x1 x2 x3 y1 y2 y3 w h H locs ls hP hD hS hl
  unfold f_B_hand_54 at h
  refine lv_iconst (v := (0 : Int32)) hx hb dB_hand_54 (by decide) ?_
  exact lp_B_hand_55 hC N u x1 x2 x3 y1 y2 y3 (0 : Int32) _ h H locs ls hP hD hS (lv_sub hl [0, 1, 2, 3] rfl)
set_option maxHeartbeats 4000000 in
set_option maxRecDepth 100000 in
theorem lp_B_hand_23 {p : Program} {l : Launch} {e : Env} {s : State} {m : MethodId} {args : Array Value} {below : List Frame} {meth : Method} {c : Code} {A : Nat → Prop} {D : va_G} {bd : Nat → Nat} {cI cZ : ClassId} (hC : gw_C p s m args meth c "AidRowsModel" cB_hand 4 none gG D vwCl (tB cI cZ) A) (N : Nat) : ∀ (u : StB) (x1 : Int32) (x2 : Int32) (y0 : Int32) (w : StB), f_B_hand_23 N u x1 x2 y0 = some w → ∀ (H : Heap) (locs : List Loc) (ls : Array Slot), va_P D vwCl (wB bd cI cZ u) H → va_D A (wB bd cI cZ u) → va_S A s.heap H locs → lv_has ls 4 [(0, .ref (bd 0)), (1, .int x1), (2, .int x2)] → W p l e ({ frames := 2, cells := 0, slots := 0, locals := 43 } : Room) s m args below meth c H locs 0 0 (MQ below (gw_Q D vwCl (wB bd cI cZ) A w (none)) args s 0 0 A) (F0 m 23 ls [.int y0]) := by
  obtain ⟨hx, hb, hr, hml, hG, hown, hlocks, hK, hA⟩ := id hC
  intro u x1 x2 y0 w h H locs ls hP hD hS hl
  unfold f_B_hand_23 at h
  refine lv_istore_n (lv' := [(3, .int y0), (0, .ref (bd 0)), (1, .int x1), (2, .int x2)]) hx hb dB_hand_23 rfl hl (by decide) rfl (fun ls hl => ?_)
  refine lv_aload_n hx hb dB_hand_24 rfl (lv_at hl 1 rfl) ?_
  refine lv_iconst (v := (5 : Int32)) hx hb dB_hand_25 (by decide) ?_
  refine lv_iload_n hx hb dB_hand_26 rfl (lv_at hl 0 rfl) ?_
  refine lv_iconst (v := (1 : Int32)) hx hb dB_hand_27 (by decide) ?_
  refine lv_iload_n hx hb dB_hand_28 rfl (lv_at hl 0 rfl) ?_
  refine lv_if_eq (tgt := 54) hx hb dB_hand_29 (by decide) (fun hc => ?_) (fun hc => ?_)
  · rw [if_pos hc] at h
    exact lp_B_hand_54 hC N u x1 x2 y0 (5 : Int32) y0 (1 : Int32) _ h H locs ls hP hD hS (lv_sub hl [1, 2, 3, 0] rfl)
  · rw [if_neg hc] at h
    refine lv_aload_n hx hb dB_hand_32 rfl (lv_at hl 1 rfl) ?_
    refine va_get (D := D) (ci := 6) (v := .ref (bd 28)) (C := RB) (T := TB) (N := 36) hx hb hG inB hown hK hP 0 rfl rfl 33 (by decide) (hG _ mw_678) (fun _ h9 => h9) rfl dB_hand_33 ?_
    refine lv_iload_n hx hb dB_hand_36 rfl (lv_at hl 2 rfl) ?_
    obtain ⟨hg1, h⟩ := gI_some h
    refine va_iald (f := (u.2 27)) hx hb hK hP 28 0 rfl rfl hg1 dB_hand_37 ?_
    refine lv_if_ge (tgt := 54) hx hb dB_hand_38 (by decide) (fun hc => ?_) (fun hc => ?_)
    · rw [if_pos hc] at h
      exact lp_B_hand_54 hC N u x1 x2 y0 (5 : Int32) y0 (1 : Int32) _ h H locs ls hP hD hS (lv_sub hl [1, 2, 3, 0] rfl)
    · rw [if_neg hc] at h
      refine lv_aload_n hx hb dB_hand_41 rfl (lv_at hl 1 rfl) ?_
      refine va_get (D := D) (ci := 6) (v := .ref (bd 3)) (C := RB) (T := TB) (N := 36) hx hb hG inB hown hK hP 0 rfl rfl 5 (by decide) (hG _ mw_650) (fun _ h9 => h9) rfl dB_hand_42 ?_
      refine lv_iload_n hx hb dB_hand_45 rfl (lv_at hl 3 rfl) ?_
      obtain ⟨hg2, h⟩ := gI_some h
      refine va_zald (f := (u.2 2)) hx hb hK hP 3 1 rfl rfl hg2 dB_hand_46 ?_
      refine lv_if_ne (tgt := 54) hx hb dB_hand_47 (by decide) (fun hc => ?_) (fun hc => ?_)
      · rw [if_neg hc] at h
        exact lp_B_hand_54 hC N u x1 x2 y0 (5 : Int32) y0 (1 : Int32) _ h H locs ls hP hD hS (lv_sub hl [1, 2, 3, 0] rfl)
      · rw [if_pos hc] at h
        refine lv_iconst (v := (1 : Int32)) hx hb dB_hand_50 (by decide) ?_
        refine lv_goto (tgt := 55) hx hb dB_hand_51 (by decide) ?_
        exact lp_B_hand_55 hC N u x1 x2 y0 (5 : Int32) y0 (1 : Int32) (1 : Int32) _ h H locs ls hP hD hS (lv_sub hl [1, 2, 3, 0] rfl)
set_option maxHeartbeats 4000000 in
set_option maxRecDepth 100000 in
theorem lp_B_hand_22 {p : Program} {l : Launch} {e : Env} {s : State} {m : MethodId} {args : Array Value} {below : List Frame} {meth : Method} {c : Code} {A : Nat → Prop} {D : va_G} {bd : Nat → Nat} {cI cZ : ClassId} (hC : gw_C p s m args meth c "AidRowsModel" cB_hand 4 none gG D vwCl (tB cI cZ) A) (N : Nat) : ∀ (u : StB) (x1 : Int32) (x2 : Int32) (w : StB), f_B_hand_22 N u x1 x2 = some w → ∀ (H : Heap) (locs : List Loc) (ls : Array Slot), va_P D vwCl (wB bd cI cZ u) H → va_D A (wB bd cI cZ u) → va_S A s.heap H locs → lv_has ls 4 [(0, .ref (bd 0)), (1, .int x1), (2, .int x2)] → W p l e ({ frames := 2, cells := 0, slots := 0, locals := 43 } : Room) s m args below meth c H locs 0 0 (MQ below (gw_Q D vwCl (wB bd cI cZ) A w (none)) args s 0 0 A) (F0 m 22 ls []) := by
  obtain ⟨hx, hb, hr, hml, hG, hown, hlocks, hK, hA⟩ := id hC
  intro u x1 x2 w h H locs ls hP hD hS hl
  unfold f_B_hand_22 at h
  refine lv_iconst (v := (0 : Int32)) hx hb dB_hand_22 (by decide) ?_
  exact lp_B_hand_23 hC N u x1 x2 (0 : Int32) _ h H locs ls hP hD hS (lv_sub hl [0, 1, 2] rfl)
set_option maxHeartbeats 4000000 in
set_option maxRecDepth 100000 in
theorem c_B_hand (l : Launch) (D : va_G) (bd : Nat → Nat) (cI cZ : ClassId) (N : Nat) (u : StB) (a1 : Int32) (a2 : Int32) (w : StB) (h : f_B_hand N u a1 a2 = some w) : gw_Ct l D vwCl (tB cI cZ) (wB bd cI cZ) yB_hand (Cond.code yB_hand cB_hand 4 none :: gG) ({ frames := 2, cells := 0, slots := 0, locals := 43 } : Room) [.ref (bd 0), .int a1, .int a2] u (none) w := by
  refine gw_enter (by decide) (Nat.le_of_ble_eq_true rfl) ?_
  intro p e s m below meth c A hC hP hD hS ls hl
  obtain ⟨hx, hb, hr, hml, hG, hown, hlocks, hK, hA⟩ := id hC
  have hl : lv_has ls 4 [(0, .ref (bd 0)), (1, .int a1), (2, .int a2)] := hl
  obtain ⟨H, hH⟩ : ∃ H, H = s.heap := ⟨_, rfl⟩
  obtain ⟨locs, hlocs⟩ : ∃ x : List Loc, x = [] := ⟨_, rfl⟩
  rw [← hlocs] at hS ⊢
  have hP : va_P D vwCl (wB bd cI cZ u) H := by rw [hH]; exact hP
  have hS : va_S A s.heap H locs := by rw [hH]; exact hS
  suffices g : W p l e ({ frames := 2, cells := 0, slots := 0, locals := 43 } : Room) s m [.ref (bd 0), .int a1, .int a2].toArray below meth c H locs 0 0 (MQ below (gw_Q D vwCl (wB bd cI cZ) A w (none)) [.ref (bd 0), .int a1, .int a2].toArray s 0 0 A) (F0 m 0 ls []) by rw [hH] at g; exact g
  unfold f_B_hand at h
  refine lv_iload_n hx hb dB_hand_0 rfl (lv_at hl 1 rfl) ?_
  refine lv_iconst (v := (0 : Int32)) hx hb dB_hand_1 (by decide) ?_
  refine lv_bipush (v := (99 : Int32)) hx hb dB_hand_2 (by decide) ?_
  refine gw_callS (As := [.int a1, .int (0 : Int32), .int (99 : Int32)]) (rest := []) (u := u) (u' := u) hx hb hml hown hG (c_B_in l D bd cI cZ u a1 (0 : Int32) (99 : Int32) _ rfl) lk_B_102 rfl rfl ⟨Nat.le_of_ble_eq_true rfl, Nat.le_of_ble_eq_true rfl⟩ hK hP hD hS hA rfl hl.1 rfl (Nat.le_of_ble_eq_true rfl) dB_hand_4 ⟨Nat.le_of_ble_eq_true rfl, Nat.le_of_ble_eq_true rfl⟩ (fun H locs hP hD hS => ?_)
  refine lv_if_eq (tgt := 22) hx hb dB_hand_7 (by decide) (fun hc => ?_) (fun hc => ?_)
  · rw [if_pos hc] at h
    exact lp_B_hand_22 hC N u a1 a2 _ h H locs ls hP hD hS (lv_sub hl [0, 1, 2] rfl)
  · rw [if_neg hc] at h
    refine lv_aload_n hx hb dB_hand_10 rfl (lv_at hl 0 rfl) ?_
    refine lv_iload_n hx hb dB_hand_11 rfl (lv_at hl 2 rfl) ?_
    refine gw_callV (As := [.int a2]) (rest := []) (u := u) (u' := u) hx hb hml hown hG (c_B_isHouse l D bd cI cZ u a2 _ rfl) lk_B_110 rfl rfl ⟨Nat.le_of_ble_eq_true rfl, Nat.le_of_ble_eq_true rfl⟩ (va_recv hK hP (ci := 6) (q0 := 0) rfl rfl) hK hP hD hS hA rfl hl.1 rfl (Nat.le_of_ble_eq_true rfl) dB_hand_12 ⟨Nat.le_of_ble_eq_true rfl, Nat.le_of_ble_eq_true rfl⟩ (fun H locs hP hD hS => ?_)
    refine lv_if_eq (tgt := 22) hx hb dB_hand_15 (by decide) (fun hc => ?_) (fun hc => ?_)
    · rw [if_pos hc] at h
      exact lp_B_hand_22 hC N u a1 a2 _ h H locs ls hP hD hS (lv_sub hl [0, 1, 2] rfl)
    · rw [if_neg hc] at h
      refine lv_iconst (v := (1 : Int32)) hx hb dB_hand_18 (by decide) ?_
      refine lv_goto (tgt := 23) hx hb dB_hand_19 (by decide) ?_
      exact lp_B_hand_23 hC N u a1 a2 (1 : Int32) _ h H locs ls hP hD hS (lv_sub hl [0, 1, 2] rfl)
set_option maxHeartbeats 4000000 in
set_option maxRecDepth 100000 in
theorem c_B_handed (l : Launch) (D : va_G) (bd : Nat → Nat) (cI cZ : ClassId) (N : Nat) (u : StB) (a1 : Int32) (r : Int32) (w : StB) (h : f_B_handed N u a1 = some (r, w)) : gw_Ct l D vwCl (tB cI cZ) (wB bd cI cZ) yB_handed (Cond.code yB_handed cB_handed 2 (some .int) :: gG) ({ frames := 1, cells := 0, slots := 0, locals := 27 } : Room) [.ref (bd 0), .int a1] u (some (.int r)) w := by
  refine gw_enter (by decide) (Nat.le_of_ble_eq_true rfl) ?_
  intro p e s m below meth c A hC hP hD hS ls hl
  obtain ⟨hx, hb, hr, hml, hG, hown, hlocks, hK, hA⟩ := id hC
  have hl : lv_has ls 2 [(0, .ref (bd 0)), (1, .int a1)] := hl
  obtain ⟨H, hH⟩ : ∃ H, H = s.heap := ⟨_, rfl⟩
  obtain ⟨locs, hlocs⟩ : ∃ x : List Loc, x = [] := ⟨_, rfl⟩
  rw [← hlocs] at hS ⊢
  have hP : va_P D vwCl (wB bd cI cZ u) H := by rw [hH]; exact hP
  have hS : va_S A s.heap H locs := by rw [hH]; exact hS
  suffices g : W p l e ({ frames := 1, cells := 0, slots := 0, locals := 27 } : Room) s m [.ref (bd 0), .int a1].toArray below meth c H locs 0 0 (MQ below (gw_Q D vwCl (wB bd cI cZ) A w (some (.int r))) [.ref (bd 0), .int a1].toArray s 0 0 A) (F0 m 0 ls []) by rw [hH] at g; exact g
  unfold f_B_handed at h
  refine lv_aload_n hx hb dB_handed_0 rfl (lv_at hl 0 rfl) ?_
  refine lv_iconst (v := (1 : Int32)) hx hb dB_handed_1 (by decide) ?_
  refine lv_iload_n hx hb dB_handed_2 rfl (lv_at hl 1 rfl) ?_
  refine lv_iconst (v := (0 : Int32)) hx hb dB_handed_3 (by decide) ?_
  refine lv_bipush (v := (99 : Int32)) hx hb dB_handed_4 (by decide) ?_
  refine gw_callS (As := [.int a1, .int (0 : Int32), .int (99 : Int32)]) (rest := [.int (1 : Int32), .ref (bd 0)]) (u := u) (u' := u) hx hb hml hown hG (c_B_in l D bd cI cZ u a1 (0 : Int32) (99 : Int32) _ rfl) lk_B_102 rfl rfl ⟨Nat.le_of_ble_eq_true rfl, Nat.le_of_ble_eq_true rfl⟩ hK hP hD hS hA rfl hl.1 rfl (Nat.le_of_ble_eq_true rfl) dB_handed_6 ⟨Nat.le_of_ble_eq_true rfl, Nat.le_of_ble_eq_true rfl⟩ (fun H locs hP hD hS => ?_)
  refine lv_iconst (v := (1 : Int32)) hx hb dB_handed_9 (by decide) ?_
  refine lv_iconst (v := (1 : Int32)) hx hb dB_handed_10 (by decide) ?_
  refine lv_iconst (v := (1 : Int32)) hx hb dB_handed_11 (by decide) ?_
  obtain ⟨q1, q1_h, h⟩ := gw_bind h
  refine gw_callV (As := [.int (1 : Int32), .int (f_B_in a1 (0 : Int32) (99 : Int32)), .int (1 : Int32), .int (1 : Int32), .int (1 : Int32)]) (rest := []) (u := u) (u' := q1.2) hx hb hml hown hG (c_B_goes l D bd cI cZ N u (1 : Int32) (f_B_in a1 (0 : Int32) (99 : Int32)) (1 : Int32) (1 : Int32) (1 : Int32) _ _ q1_h) lk_B_106 rfl rfl ⟨Nat.le_of_ble_eq_true rfl, Nat.le_of_ble_eq_true rfl⟩ (va_recv hK hP (ci := 6) (q0 := 0) rfl rfl) hK hP hD hS hA rfl hl.1 rfl (Nat.le_of_ble_eq_true rfl) dB_handed_12 ⟨Nat.le_of_ble_eq_true rfl, Nat.le_of_ble_eq_true rfl⟩ (fun H locs hP hD hS => ?_)
  refine lv_if_ne (tgt := 20) hx hb dB_handed_15 (by decide) (fun hc => ?_) (fun hc => ?_)
  · rw [if_neg hc] at h
    refine lv_aload_n hx hb dB_handed_20 rfl (lv_at hl 0 rfl) ?_
    refine va_get (D := D) (ci := 6) (v := .ref (bd 28)) (C := RB) (T := TB) (N := 36) hx hb hG inB hown hK hP 0 rfl rfl 33 (by decide) (hG _ mw_678) (fun _ h9 => h9) rfl dB_handed_21 ?_
    refine lv_iload_n hx hb dB_handed_24 rfl (lv_at hl 1 rfl) ?_
    obtain ⟨hg2, h⟩ := gI_some h
    refine va_iald (f := (q1.2.2 27)) hx hb hK hP 28 0 rfl rfl hg2 dB_handed_25 ?_
    cases h
    exact gw_iret hx hb hr hlocks hP hD hS dB_handed_26
  · rw [if_pos hc] at h
    refine lv_iconst (v := (0 : Int32)) hx hb dB_handed_18 (by decide) ?_
    cases h
    exact gw_iret hx hb hr hlocks hP hD hS dB_handed_19
set_option maxHeartbeats 4000000 in
set_option maxRecDepth 100000 in
theorem lp_B_count_56 {p : Program} {l : Launch} {e : Env} {s : State} {m : MethodId} {args : Array Value} {below : List Frame} {meth : Method} {c : Code} {A : Nat → Prop} {D : va_G} {bd : Nat → Nat} {cI cZ : ClassId} (hC : gw_C p s m args meth c "AidRowsModel" cB_count 4 (some .int) gG D vwCl (tB cI cZ) A) (N : Nat) : ∀ (n : Nat) (u : StB) (x1 : Int32) (x2 : Int32) (x3 : Int32) (r : Int32) (w : StB), f_B_count_56 N n u x1 x2 x3 = some (r, w) → ∀ (H : Heap) (locs : List Loc) (ls : Array Slot), va_P D vwCl (wB bd cI cZ u) H → va_D A (wB bd cI cZ u) → va_S A s.heap H locs → lv_has ls 4 [(0, .ref (bd 0)), (1, .int x1), (2, .int x2), (3, .int x3)] → W p l e ({ frames := 1, cells := 0, slots := 0, locals := 27 } : Room) s m args below meth c H locs 0 0 (MQ below (gw_Q D vwCl (wB bd cI cZ) A w (some (.int r))) args s 0 0 A) (F0 m 56 ls []) := by
  obtain ⟨hx, hb, hr, hml, hG, hown, hlocks, hK, hA⟩ := id hC
  intro n
  induction n with
  | zero => intro u x1 x2 x3 r w h; cases h
  | succ n ih =>
    intro u x1 x2 x3 r w h H locs ls hP hD hS hl
    rw [f_B_count_56] at h
    refine lv_iload_n hx hb dB_count_56 rfl (lv_at hl 3 rfl) ?_
    refine lv_aload_n hx hb dB_count_57 rfl (lv_at hl 0 rfl) ?_
    refine va_get (D := D) (ci := 6) (v := .int (u.1 4)) (C := RB) (T := TB) (N := 36) hx hb hG inB hown hK hP 0 rfl rfl 14 (by decide) (hG _ mw_659) (fun _ h9 => h9) rfl dB_count_58 ?_
    refine lv_icmp_ge (tgt := 87) hx hb dB_count_61 (by decide) (fun hc => ?_) (fun hc => ?_)
    · rw [if_pos hc] at h
      refine lv_iload_n hx hb dB_count_87 rfl (lv_at hl 1 rfl) ?_
      refine lv_if_ne (tgt := 98) hx hb dB_count_88 (by decide) (fun hc => ?_) (fun hc => ?_)
      · rw [if_neg hc] at h
        refine lv_iload_n hx hb dB_count_98 rfl (lv_at hl 1 rfl) ?_
        refine lv_iconst (v := (3 : Int32)) hx hb dB_count_99 (by decide) ?_
        refine lv_icmp_ne (tgt := 110) hx hb dB_count_100 (by decide) (fun hc => ?_) (fun hc => ?_)
        · rw [if_neg hc] at h
          refine lv_iload_n hx hb dB_count_110 rfl (lv_at hl 1 rfl) ?_
          refine lv_iconst (v := (4 : Int32)) hx hb dB_count_111 (by decide) ?_
          refine lv_icmp_ne (tgt := 122) hx hb dB_count_112 (by decide) (fun hc => ?_) (fun hc => ?_)
          · rw [if_neg hc] at h
            refine lv_iload_n hx hb dB_count_122 rfl (lv_at hl 2 rfl) ?_
            cases h
            exact gw_iret hx hb hr hlocks hP hD hS dB_count_123
          · rw [if_pos hc] at h
            refine lv_aload_n hx hb dB_count_115 rfl (lv_at hl 0 rfl) ?_
            refine va_get (D := D) (ci := 6) (v := .int (u.1 7)) (C := RB) (T := TB) (N := 36) hx hb hG inB hown hK hP 0 rfl rfl 35 (by decide) (hG _ mw_680) (fun _ h9 => h9) rfl dB_count_116 ?_
            refine lv_goto (tgt := 123) hx hb dB_count_119 (by decide) ?_
            cases h
            exact gw_iret hx hb hr hlocks hP hD hS dB_count_123
        · rw [if_pos hc] at h
          refine lv_aload_n hx hb dB_count_103 rfl (lv_at hl 0 rfl) ?_
          refine va_get (D := D) (ci := 6) (v := .int (u.1 6)) (C := RB) (T := TB) (N := 36) hx hb hG inB hown hK hP 0 rfl rfl 34 (by decide) (hG _ mw_679) (fun _ h9 => h9) rfl dB_count_104 ?_
          refine lv_goto (tgt := 123) hx hb dB_count_107 (by decide) ?_
          cases h
          exact gw_iret hx hb hr hlocks hP hD hS dB_count_123
      · rw [if_pos hc] at h
        refine lv_aload_n hx hb dB_count_91 rfl (lv_at hl 0 rfl) ?_
        refine va_get (D := D) (ci := 6) (v := .int (u.1 1)) (C := RB) (T := TB) (N := 36) hx hb hG inB hown hK hP 0 rfl rfl 1 (by decide) (hG _ mw_646) (fun _ h9 => h9) rfl dB_count_92 ?_
        refine lv_goto (tgt := 123) hx hb dB_count_95 (by decide) ?_
        cases h
        exact gw_iret hx hb hr hlocks hP hD hS dB_count_123
    · rw [if_neg hc] at h
      refine lv_iload_n hx hb dB_count_64 rfl (lv_at hl 1 rfl) ?_
      refine lv_iconst (v := (2 : Int32)) hx hb dB_count_65 (by decide) ?_
      refine lv_icmp_ne (tgt := 81) hx hb dB_count_66 (by decide) (fun hc => ?_) (fun hc => ?_)
      · rw [if_neg hc] at h
        refine lv_iinc (v := (x3 + (1 : Int32))) (lv' := [(3, .int (x3 + (1 : Int32))), (0, .ref (bd 0)), (1, .int x1), (2, .int x2)]) hx hb dB_count_81 hl (k := 3) rfl rfl (by decide) rfl (fun ls hl => ?_)
        refine lv_goto (tgt := 56) hx hb dB_count_84 (by decide) ?_
        exact ih u x1 x2 (x3 + (1 : Int32)) _ _ h H locs ls hP hD hS (lv_sub hl [1, 2, 3, 0] rfl)
      · rw [if_pos hc] at h
        refine lv_aload_n hx hb dB_count_69 rfl (lv_at hl 0 rfl) ?_
        refine va_get (D := D) (ci := 6) (v := .ref (bd 14)) (C := RB) (T := TB) (N := 36) hx hb hG inB hown hK hP 0 rfl rfl 18 (by decide) (hG _ mw_663) (fun _ h9 => h9) rfl dB_count_70 ?_
        refine lv_iload_n hx hb dB_count_73 rfl (lv_at hl 3 rfl) ?_
        obtain ⟨hg3, h⟩ := gI_some h
        refine va_iald (f := (u.2 13)) hx hb hK hP 14 0 rfl rfl hg3 dB_count_74 ?_
        refine lv_if_ne (tgt := 81) hx hb dB_count_75 (by decide) (fun hc => ?_) (fun hc => ?_)
        · rw [if_neg hc] at h
          refine lv_iinc (v := (x3 + (1 : Int32))) (lv' := [(3, .int (x3 + (1 : Int32))), (0, .ref (bd 0)), (1, .int x1), (2, .int x2)]) hx hb dB_count_81 hl (k := 3) rfl rfl (by decide) rfl (fun ls hl => ?_)
          refine lv_goto (tgt := 56) hx hb dB_count_84 (by decide) ?_
          exact ih u x1 x2 (x3 + (1 : Int32)) _ _ h H locs ls hP hD hS (lv_sub hl [1, 2, 3, 0] rfl)
        · rw [if_pos hc] at h
          refine lv_iinc (v := (x2 + (1 : Int32))) (lv' := [(2, .int (x2 + (1 : Int32))), (0, .ref (bd 0)), (1, .int x1), (3, .int x3)]) hx hb dB_count_78 hl (k := 2) rfl rfl (by decide) rfl (fun ls hl => ?_)
          refine lv_iinc (v := (x3 + (1 : Int32))) (lv' := [(3, .int (x3 + (1 : Int32))), (2, .int (x2 + (1 : Int32))), (0, .ref (bd 0)), (1, .int x1)]) hx hb dB_count_81 hl (k := 3) rfl rfl (by decide) rfl (fun ls hl => ?_)
          refine lv_goto (tgt := 56) hx hb dB_count_84 (by decide) ?_
          exact ih u x1 (x2 + (1 : Int32)) (x3 + (1 : Int32)) _ _ h H locs ls hP hD hS (lv_sub hl [2, 3, 1, 0] rfl)
set_option maxHeartbeats 4000000 in
set_option maxRecDepth 100000 in
theorem lp_B_count_23 {p : Program} {l : Launch} {e : Env} {s : State} {m : MethodId} {args : Array Value} {below : List Frame} {meth : Method} {c : Code} {A : Nat → Prop} {D : va_G} {bd : Nat → Nat} {cI cZ : ClassId} (hC : gw_C p s m args meth c "AidRowsModel" cB_count 4 (some .int) gG D vwCl (tB cI cZ) A) (N : Nat) : ∀ (n : Nat) (u : StB) (x1 : Int32) (x2 : Int32) (x3 : Int32) (r : Int32) (w : StB), f_B_count_23 N n u x1 x2 x3 = some (r, w) → ∀ (H : Heap) (locs : List Loc) (ls : Array Slot), va_P D vwCl (wB bd cI cZ u) H → va_D A (wB bd cI cZ u) → va_S A s.heap H locs → lv_has ls 4 [(0, .ref (bd 0)), (1, .int x1), (2, .int x2), (3, .int x3)] → W p l e ({ frames := 1, cells := 0, slots := 0, locals := 27 } : Room) s m args below meth c H locs 0 0 (MQ below (gw_Q D vwCl (wB bd cI cZ) A w (some (.int r))) args s 0 0 A) (F0 m 23 ls []) := by
  obtain ⟨hx, hb, hr, hml, hG, hown, hlocks, hK, hA⟩ := id hC
  intro n
  induction n with
  | zero => intro u x1 x2 x3 r w h; cases h
  | succ n ih =>
    intro u x1 x2 x3 r w h H locs ls hP hD hS hl
    rw [f_B_count_23] at h
    refine lv_iload_n hx hb dB_count_23 rfl (lv_at hl 3 rfl) ?_
    refine lv_aload_n hx hb dB_count_24 rfl (lv_at hl 0 rfl) ?_
    refine va_get (D := D) (ci := 6) (v := .int (u.1 5)) (C := RB) (T := TB) (N := 36) hx hb hG inB hown hK hP 0 rfl rfl 25 (by decide) (hG _ mw_670) (fun _ h9 => h9) rfl dB_count_25 ?_
    refine lv_icmp_ge (tgt := 54) hx hb dB_count_28 (by decide) (fun hc => ?_) (fun hc => ?_)
    · rw [if_pos hc] at h
      refine lv_iconst (v := (0 : Int32)) hx hb dB_count_54 (by decide) ?_
      refine lv_istore_n (lv' := [(3, .int (0 : Int32)), (0, .ref (bd 0)), (1, .int x1), (2, .int x2)]) hx hb dB_count_55 rfl hl (by decide) rfl (fun ls hl => ?_)
      exact lp_B_count_56 hC N N u x1 x2 (0 : Int32) _ _ h H locs ls hP hD hS (lv_sub hl [1, 2, 3, 0] rfl)
    · rw [if_neg hc] at h
      refine lv_iload_n hx hb dB_count_31 rfl (lv_at hl 1 rfl) ?_
      refine lv_iconst (v := (1 : Int32)) hx hb dB_count_32 (by decide) ?_
      refine lv_icmp_ne (tgt := 48) hx hb dB_count_33 (by decide) (fun hc => ?_) (fun hc => ?_)
      · rw [if_neg hc] at h
        refine lv_iinc (v := (x3 + (1 : Int32))) (lv' := [(3, .int (x3 + (1 : Int32))), (0, .ref (bd 0)), (1, .int x1), (2, .int x2)]) hx hb dB_count_48 hl (k := 3) rfl rfl (by decide) rfl (fun ls hl => ?_)
        refine lv_goto (tgt := 23) hx hb dB_count_51 (by decide) ?_
        exact ih u x1 x2 (x3 + (1 : Int32)) _ _ h H locs ls hP hD hS (lv_sub hl [1, 2, 3, 0] rfl)
      · rw [if_pos hc] at h
        refine lv_aload_n hx hb dB_count_36 rfl (lv_at hl 0 rfl) ?_
        refine va_get (D := D) (ci := 6) (v := .ref (bd 26)) (C := RB) (T := TB) (N := 36) hx hb hG inB hown hK hP 0 rfl rfl 31 (by decide) (hG _ mw_676) (fun _ h9 => h9) rfl dB_count_37 ?_
        refine lv_iload_n hx hb dB_count_40 rfl (lv_at hl 3 rfl) ?_
        obtain ⟨hg2, h⟩ := gI_some h
        refine va_iald (f := (u.2 25)) hx hb hK hP 26 0 rfl rfl hg2 dB_count_41 ?_
        refine lv_if_ge (tgt := 48) hx hb dB_count_42 (by decide) (fun hc => ?_) (fun hc => ?_)
        · rw [if_pos hc] at h
          refine lv_iinc (v := (x3 + (1 : Int32))) (lv' := [(3, .int (x3 + (1 : Int32))), (0, .ref (bd 0)), (1, .int x1), (2, .int x2)]) hx hb dB_count_48 hl (k := 3) rfl rfl (by decide) rfl (fun ls hl => ?_)
          refine lv_goto (tgt := 23) hx hb dB_count_51 (by decide) ?_
          exact ih u x1 x2 (x3 + (1 : Int32)) _ _ h H locs ls hP hD hS (lv_sub hl [1, 2, 3, 0] rfl)
        · rw [if_neg hc] at h
          refine lv_iinc (v := (x2 + (1 : Int32))) (lv' := [(2, .int (x2 + (1 : Int32))), (0, .ref (bd 0)), (1, .int x1), (3, .int x3)]) hx hb dB_count_45 hl (k := 2) rfl rfl (by decide) rfl (fun ls hl => ?_)
          refine lv_iinc (v := (x3 + (1 : Int32))) (lv' := [(3, .int (x3 + (1 : Int32))), (2, .int (x2 + (1 : Int32))), (0, .ref (bd 0)), (1, .int x1)]) hx hb dB_count_48 hl (k := 3) rfl rfl (by decide) rfl (fun ls hl => ?_)
          refine lv_goto (tgt := 23) hx hb dB_count_51 (by decide) ?_
          exact ih u x1 (x2 + (1 : Int32)) (x3 + (1 : Int32)) _ _ h H locs ls hP hD hS (lv_sub hl [2, 3, 1, 0] rfl)
set_option maxHeartbeats 4000000 in
set_option maxRecDepth 100000 in
theorem c_B_count (l : Launch) (D : va_G) (bd : Nat → Nat) (cI cZ : ClassId) (N : Nat) (u : StB) (a1 : Int32) (r : Int32) (w : StB) (h : f_B_count N u a1 = some (r, w)) : gw_Ct l D vwCl (tB cI cZ) (wB bd cI cZ) yB_count (Cond.code yB_count cB_count 4 (some .int) :: gG) ({ frames := 1, cells := 0, slots := 0, locals := 27 } : Room) [.ref (bd 0), .int a1] u (some (.int r)) w := by
  refine gw_enter (by decide) (Nat.le_of_ble_eq_true rfl) ?_
  intro p e s m below meth c A hC hP hD hS ls hl
  obtain ⟨hx, hb, hr, hml, hG, hown, hlocks, hK, hA⟩ := id hC
  have hl : lv_has ls 4 [(0, .ref (bd 0)), (1, .int a1)] := hl
  obtain ⟨H, hH⟩ : ∃ H, H = s.heap := ⟨_, rfl⟩
  obtain ⟨locs, hlocs⟩ : ∃ x : List Loc, x = [] := ⟨_, rfl⟩
  rw [← hlocs] at hS ⊢
  have hP : va_P D vwCl (wB bd cI cZ u) H := by rw [hH]; exact hP
  have hS : va_S A s.heap H locs := by rw [hH]; exact hS
  suffices g : W p l e ({ frames := 1, cells := 0, slots := 0, locals := 27 } : Room) s m [.ref (bd 0), .int a1].toArray below meth c H locs 0 0 (MQ below (gw_Q D vwCl (wB bd cI cZ) A w (some (.int r))) [.ref (bd 0), .int a1].toArray s 0 0 A) (F0 m 0 ls []) by rw [hH] at g; exact g
  unfold f_B_count at h
  refine lv_aload_n hx hb dB_count_0 rfl (lv_at hl 0 rfl) ?_
  refine lv_iconst (v := (1 : Int32)) hx hb dB_count_1 (by decide) ?_
  refine lv_iload_n hx hb dB_count_2 rfl (lv_at hl 1 rfl) ?_
  refine lv_iconst (v := (0 : Int32)) hx hb dB_count_3 (by decide) ?_
  refine lv_iconst (v := (4 : Int32)) hx hb dB_count_4 (by decide) ?_
  refine gw_callS (As := [.int a1, .int (0 : Int32), .int (4 : Int32)]) (rest := [.int (1 : Int32), .ref (bd 0)]) (u := u) (u' := u) hx hb hml hown hG (c_B_in l D bd cI cZ u a1 (0 : Int32) (4 : Int32) _ rfl) lk_B_102 rfl rfl ⟨Nat.le_of_ble_eq_true rfl, Nat.le_of_ble_eq_true rfl⟩ hK hP hD hS hA rfl hl.1 rfl (Nat.le_of_ble_eq_true rfl) dB_count_5 ⟨Nat.le_of_ble_eq_true rfl, Nat.le_of_ble_eq_true rfl⟩ (fun H locs hP hD hS => ?_)
  refine lv_iconst (v := (1 : Int32)) hx hb dB_count_8 (by decide) ?_
  refine lv_iconst (v := (1 : Int32)) hx hb dB_count_9 (by decide) ?_
  refine lv_iconst (v := (1 : Int32)) hx hb dB_count_10 (by decide) ?_
  obtain ⟨q1, q1_h, h⟩ := gw_bind h
  refine gw_callV (As := [.int (1 : Int32), .int (f_B_in a1 (0 : Int32) (4 : Int32)), .int (1 : Int32), .int (1 : Int32), .int (1 : Int32)]) (rest := []) (u := u) (u' := q1.2) hx hb hml hown hG (c_B_goes l D bd cI cZ N u (1 : Int32) (f_B_in a1 (0 : Int32) (4 : Int32)) (1 : Int32) (1 : Int32) (1 : Int32) _ _ q1_h) lk_B_106 rfl rfl ⟨Nat.le_of_ble_eq_true rfl, Nat.le_of_ble_eq_true rfl⟩ (va_recv hK hP (ci := 6) (q0 := 0) rfl rfl) hK hP hD hS hA rfl hl.1 rfl (Nat.le_of_ble_eq_true rfl) dB_count_11 ⟨Nat.le_of_ble_eq_true rfl, Nat.le_of_ble_eq_true rfl⟩ (fun H locs hP hD hS => ?_)
  refine lv_if_ne (tgt := 19) hx hb dB_count_14 (by decide) (fun hc => ?_) (fun hc => ?_)
  · rw [if_neg hc] at h
    refine lv_iconst (v := (0 : Int32)) hx hb dB_count_19 (by decide) ?_
    refine lv_istore_n (lv' := [(2, .int (0 : Int32)), (0, .ref (bd 0)), (1, .int a1)]) hx hb dB_count_20 rfl hl (by decide) rfl (fun ls hl => ?_)
    refine lv_iconst (v := (0 : Int32)) hx hb dB_count_21 (by decide) ?_
    refine lv_istore_n (lv' := [(3, .int (0 : Int32)), (2, .int (0 : Int32)), (0, .ref (bd 0)), (1, .int a1)]) hx hb dB_count_22 rfl hl (by decide) rfl (fun ls hl => ?_)
    exact lp_B_count_23 hC N N q1.2 a1 (0 : Int32) (0 : Int32) _ _ h H locs ls hP hD hS (lv_sub hl [2, 3, 1, 0] rfl)
  · rw [if_pos hc] at h
    refine lv_iconst (v := (0 : Int32)) hx hb dB_count_17 (by decide) ?_
    cases h
    exact gw_iret hx hb hr hlocks hP hD hS dB_count_18
