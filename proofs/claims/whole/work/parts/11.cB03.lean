set_option maxHeartbeats 4000000 in
set_option maxRecDepth 100000 in
theorem lp_B_lent_4 {p : Program} {l : Launch} {e : Env} {s : State} {m : MethodId} {args : Array Value} {below : List Frame} {meth : Method} {c : Code} {A : Nat → Prop} {D : va_G} {bd : Nat → Nat} {cI cZ : ClassId} (hC : gw_C p s m args meth c "AidRowsModel" cB_lent 4 (some .int) gG D vwCl (tB cI cZ) A) (N : Nat) : ∀ (n : Nat) (u : StB) (x1 : Int32) (x2 : Int32) (x3 : Int32) (r : Int32), f_B_lent_4 N n u x1 x2 x3 = some r → ∀ (H : Heap) (locs : List Loc) (ls : Array Slot), va_P D vwCl (wB bd cI cZ u) H → va_D A (wB bd cI cZ u) → va_S A s.heap H locs → lv_has ls 4 [(0, .ref (bd 0)), (1, .int x1), (2, .int x2), (3, .int x3)] → W p l e ({ frames := 0, cells := 0, slots := 0, locals := 0 } : Room) s m args below meth c H locs 0 0 (MQ below (gw_Q D vwCl (wB bd cI cZ) A u (some (.int r))) args s 0 0 A) (F0 m 4 ls []) := by
  obtain ⟨hx, hb, hr, hml, hG, hown, hlocks, hK, hA⟩ := id hC
  intro n
  induction n with
  | zero => intro u x1 x2 x3 r h; cases h
  | succ n ih =>
    intro u x1 x2 x3 r h H locs ls hP hD hS hl
    rw [f_B_lent_4] at h
    refine lv_iload_n hx hb dB_lent_4 rfl (lv_at hl 3 rfl) ?_
    refine lv_aload_n hx hb dB_lent_5 rfl (lv_at hl 0 rfl) ?_
    refine va_get (D := D) (ci := 6) (v := .int (u.1 5)) (C := RB) (T := TB) (N := 36) hx hb hG inB hown hK hP 0 rfl rfl 25 (by decide) (hG _ mw_670) (fun _ h9 => h9) rfl dB_lent_6 ?_
    refine lv_icmp_ge (tgt := 40) hx hb dB_lent_9 (by decide) (fun hc => ?_) (fun hc => ?_)
    · rw [if_pos hc] at h
      refine lv_iload_n hx hb dB_lent_40 rfl (lv_at hl 2 rfl) ?_
      cases h
      exact gw_iret hx hb hr hlocks hP hD hS dB_lent_41
    · rw [if_neg hc] at h
      refine lv_aload_n hx hb dB_lent_12 rfl (lv_at hl 0 rfl) ?_
      refine va_get (D := D) (ci := 6) (v := .ref (bd 24)) (C := RB) (T := TB) (N := 36) hx hb hG inB hown hK hP 0 rfl rfl 29 (by decide) (hG _ mw_674) (fun _ h9 => h9) rfl dB_lent_13 ?_
      refine lv_iload_n hx hb dB_lent_16 rfl (lv_at hl 3 rfl) ?_
      obtain ⟨hg1, h⟩ := gI_some h
      refine va_iald (f := (u.2 23)) hx hb hK hP 24 0 rfl rfl hg1 dB_lent_17 ?_
      refine lv_iload_n hx hb dB_lent_18 rfl (lv_at hl 1 rfl) ?_
      refine lv_icmp_ne (tgt := 34) hx hb dB_lent_19 (by decide) (fun hc => ?_) (fun hc => ?_)
      · rw [if_neg hc] at h
        refine lv_iinc (v := (x3 + (1 : Int32))) (lv' := [(3, .int (x3 + (1 : Int32))), (0, .ref (bd 0)), (1, .int x1), (2, .int x2)]) hx hb dB_lent_34 hl (k := 3) rfl rfl (by decide) rfl (fun ls hl => ?_)
        refine lv_goto (tgt := 4) hx hb dB_lent_37 (by decide) ?_
        exact ih u x1 x2 (x3 + (1 : Int32)) _ h H locs ls hP hD hS (lv_sub hl [1, 2, 3, 0] rfl)
      · rw [if_pos hc] at h
        refine lv_aload_n hx hb dB_lent_22 rfl (lv_at hl 0 rfl) ?_
        refine va_get (D := D) (ci := 6) (v := .ref (bd 26)) (C := RB) (T := TB) (N := 36) hx hb hG inB hown hK hP 0 rfl rfl 31 (by decide) (hG _ mw_676) (fun _ h9 => h9) rfl dB_lent_23 ?_
        refine lv_iload_n hx hb dB_lent_26 rfl (lv_at hl 3 rfl) ?_
        refine va_iald (f := (u.2 25)) hx hb hK hP 26 0 rfl rfl hg1 dB_lent_27 ?_
        refine lv_if_ge (tgt := 34) hx hb dB_lent_28 (by decide) (fun hc => ?_) (fun hc => ?_)
        · rw [if_pos hc] at h
          refine lv_iinc (v := (x3 + (1 : Int32))) (lv' := [(3, .int (x3 + (1 : Int32))), (0, .ref (bd 0)), (1, .int x1), (2, .int x2)]) hx hb dB_lent_34 hl (k := 3) rfl rfl (by decide) rfl (fun ls hl => ?_)
          refine lv_goto (tgt := 4) hx hb dB_lent_37 (by decide) ?_
          exact ih u x1 x2 (x3 + (1 : Int32)) _ h H locs ls hP hD hS (lv_sub hl [1, 2, 3, 0] rfl)
        · rw [if_neg hc] at h
          refine lv_iinc (v := (x2 + (1 : Int32))) (lv' := [(2, .int (x2 + (1 : Int32))), (0, .ref (bd 0)), (1, .int x1), (3, .int x3)]) hx hb dB_lent_31 hl (k := 2) rfl rfl (by decide) rfl (fun ls hl => ?_)
          refine lv_iinc (v := (x3 + (1 : Int32))) (lv' := [(3, .int (x3 + (1 : Int32))), (2, .int (x2 + (1 : Int32))), (0, .ref (bd 0)), (1, .int x1)]) hx hb dB_lent_34 hl (k := 3) rfl rfl (by decide) rfl (fun ls hl => ?_)
          refine lv_goto (tgt := 4) hx hb dB_lent_37 (by decide) ?_
          exact ih u x1 (x2 + (1 : Int32)) (x3 + (1 : Int32)) _ h H locs ls hP hD hS (lv_sub hl [2, 3, 1, 0] rfl)
set_option maxHeartbeats 4000000 in
set_option maxRecDepth 100000 in
theorem c_B_lent (l : Launch) (D : va_G) (bd : Nat → Nat) (cI cZ : ClassId) (N : Nat) (u : StB) (a1 : Int32) (r : Int32) (h : f_B_lent N u a1 = some r) : gw_Ct l D vwCl (tB cI cZ) (wB bd cI cZ) yB_lent (Cond.code yB_lent cB_lent 4 (some .int) :: gG) ({ frames := 0, cells := 0, slots := 0, locals := 0 } : Room) [.ref (bd 0), .int a1] u (some (.int r)) u := by
  refine gw_enter (by decide) (Nat.le_of_ble_eq_true rfl) ?_
  intro p e s m below meth c A hC hP hD hS ls hl
  obtain ⟨hx, hb, hr, hml, hG, hown, hlocks, hK, hA⟩ := id hC
  have hl : lv_has ls 4 [(0, .ref (bd 0)), (1, .int a1)] := hl
  obtain ⟨H, hH⟩ : ∃ H, H = s.heap := ⟨_, rfl⟩
  obtain ⟨locs, hlocs⟩ : ∃ x : List Loc, x = [] := ⟨_, rfl⟩
  rw [← hlocs] at hS ⊢
  have hP : va_P D vwCl (wB bd cI cZ u) H := by rw [hH]; exact hP
  have hS : va_S A s.heap H locs := by rw [hH]; exact hS
  suffices g : W p l e ({ frames := 0, cells := 0, slots := 0, locals := 0 } : Room) s m [.ref (bd 0), .int a1].toArray below meth c H locs 0 0 (MQ below (gw_Q D vwCl (wB bd cI cZ) A u (some (.int r))) [.ref (bd 0), .int a1].toArray s 0 0 A) (F0 m 0 ls []) by rw [hH] at g; exact g
  unfold f_B_lent at h
  refine lv_iconst (v := (0 : Int32)) hx hb dB_lent_0 (by decide) ?_
  refine lv_istore_n (lv' := [(2, .int (0 : Int32)), (0, .ref (bd 0)), (1, .int a1)]) hx hb dB_lent_1 rfl hl (by decide) rfl (fun ls hl => ?_)
  refine lv_iconst (v := (0 : Int32)) hx hb dB_lent_2 (by decide) ?_
  refine lv_istore_n (lv' := [(3, .int (0 : Int32)), (2, .int (0 : Int32)), (0, .ref (bd 0)), (1, .int a1)]) hx hb dB_lent_3 rfl hl (by decide) rfl (fun ls hl => ?_)
  exact lp_B_lent_4 hC N N u a1 (0 : Int32) (0 : Int32) _ h H locs ls hP hD hS (lv_sub hl [2, 3, 1, 0] rfl)
set_option maxHeartbeats 4000000 in
set_option maxRecDepth 100000 in
theorem lp_B_freeName_13 {p : Program} {l : Launch} {e : Env} {s : State} {m : MethodId} {args : Array Value} {below : List Frame} {meth : Method} {c : Code} {A : Nat → Prop} {D : va_G} {bd : Nat → Nat} {cI cZ : ClassId} (hC : gw_C p s m args meth c "AidRowsModel" cB_freeName 5 (some .int) gG D vwCl (tB cI cZ) A) (N : Nat) (K : StB → Int32 → Int32 → Int32 → Option Int32) (hKK : ∀ (u : StB) (x1 : Int32) (x2 : Int32) (x3 : Int32) (r : Int32), K u x1 x2 x3 = some r → ∀ (H : Heap) (locs : List Loc) (ls : Array Slot), va_P D vwCl (wB bd cI cZ u) H → va_D A (wB bd cI cZ u) → va_S A s.heap H locs → lv_has ls 5 [(0, .ref (bd 0)), (1, .int x1), (2, .int x2), (3, .int x3)] → W p l e ({ frames := 0, cells := 0, slots := 0, locals := 0 } : Room) s m args below meth c H locs 0 0 (MQ below (gw_Q D vwCl (wB bd cI cZ) A u (some (.int r))) args s 0 0 A) (F0 m 4 ls [])) : ∀ (n : Nat) (u : StB) (x1 : Int32) (x2 : Int32) (x3 : Int32) (x4 : Int32) (r : Int32), f_B_freeName_13 N K n u x1 x2 x3 x4 = some r → ∀ (H : Heap) (locs : List Loc) (ls : Array Slot), va_P D vwCl (wB bd cI cZ u) H → va_D A (wB bd cI cZ u) → va_S A s.heap H locs → lv_has ls 5 [(0, .ref (bd 0)), (1, .int x1), (2, .int x2), (3, .int x3), (4, .int x4)] → W p l e ({ frames := 0, cells := 0, slots := 0, locals := 0 } : Room) s m args below meth c H locs 0 0 (MQ below (gw_Q D vwCl (wB bd cI cZ) A u (some (.int r))) args s 0 0 A) (F0 m 13 ls []) := by
  obtain ⟨hx, hb, hr, hml, hG, hown, hlocks, hK, hA⟩ := id hC
  intro n
  induction n with
  | zero => intro u x1 x2 x3 x4 r h; cases h
  | succ n ih =>
    intro u x1 x2 x3 x4 r h H locs ls hP hD hS hl
    rw [f_B_freeName_13] at h
    refine lv_iload hx hb dB_freeName_13 (lv_at hl 4 rfl) ?_
    refine lv_aload_n hx hb dB_freeName_15 rfl (lv_at hl 0 rfl) ?_
    refine va_get (D := D) (ci := 6) (v := .int (u.1 5)) (C := RB) (T := TB) (N := 36) hx hb hG inB hown hK hP 0 rfl rfl 25 (by decide) (hG _ mw_670) (fun _ h9 => h9) rfl dB_freeName_16 ?_
    refine lv_icmp_ge (tgt := 56) hx hb dB_freeName_19 (by decide) (fun hc => ?_) (fun hc => ?_)
    · rw [if_pos hc] at h
      refine lv_iload_n hx hb dB_freeName_56 rfl (lv_at hl 3 rfl) ?_
      refine lv_if_eq (tgt := 4) hx hb dB_freeName_57 (by decide) (fun hc => ?_) (fun hc => ?_)
      · rw [if_pos hc] at h
        exact hKK u x1 x2 x3 _ h H locs ls hP hD hS (lv_sub hl [0, 1, 2, 3] rfl)
      · rw [if_neg hc] at h
        refine lv_iinc (v := (x2 + (1 : Int32))) (lv' := [(2, .int (x2 + (1 : Int32))), (0, .ref (bd 0)), (1, .int x1), (3, .int x3), (4, .int x4)]) hx hb dB_freeName_60 hl (k := 2) rfl rfl (by decide) rfl (fun ls hl => ?_)
        refine lv_goto (tgt := 4) hx hb dB_freeName_63 (by decide) ?_
        exact hKK u x1 (x2 + (1 : Int32)) x3 _ h H locs ls hP hD hS (lv_sub hl [1, 2, 0, 3] rfl)
    · rw [if_neg hc] at h
      refine lv_aload_n hx hb dB_freeName_22 rfl (lv_at hl 0 rfl) ?_
      refine va_get (D := D) (ci := 6) (v := .ref (bd 26)) (C := RB) (T := TB) (N := 36) hx hb hG inB hown hK hP 0 rfl rfl 31 (by decide) (hG _ mw_676) (fun _ h9 => h9) rfl dB_freeName_23 ?_
      refine lv_iload hx hb dB_freeName_26 (lv_at hl 4 rfl) ?_
      obtain ⟨hg1, h⟩ := gI_some h
      refine va_iald (f := (u.2 25)) hx hb hK hP 26 0 rfl rfl hg1 dB_freeName_28 ?_
      refine lv_if_ge (tgt := 50) hx hb dB_freeName_29 (by decide) (fun hc => ?_) (fun hc => ?_)
      · rw [if_pos hc] at h
        refine lv_iinc (v := (x4 + (1 : Int32))) (lv' := [(4, .int (x4 + (1 : Int32))), (0, .ref (bd 0)), (1, .int x1), (2, .int x2), (3, .int x3)]) hx hb dB_freeName_50 hl (k := 4) rfl rfl (by decide) rfl (fun ls hl => ?_)
        refine lv_goto (tgt := 13) hx hb dB_freeName_53 (by decide) ?_
        exact ih u x1 x2 x3 (x4 + (1 : Int32)) _ h H locs ls hP hD hS (lv_sub hl [1, 2, 3, 4, 0] rfl)
      · rw [if_neg hc] at h
        refine lv_aload_n hx hb dB_freeName_32 rfl (lv_at hl 0 rfl) ?_
        refine va_get (D := D) (ci := 6) (v := .ref (bd 22)) (C := RB) (T := TB) (N := 36) hx hb hG inB hown hK hP 0 rfl rfl 27 (by decide) (hG _ mw_672) (fun _ h9 => h9) rfl dB_freeName_33 ?_
        refine lv_iload hx hb dB_freeName_36 (lv_at hl 4 rfl) ?_
        refine va_iald (f := (u.2 21)) hx hb hK hP 22 0 rfl rfl hg1 dB_freeName_38 ?_
        refine lv_bipush (v := (100 : Int32)) hx hb dB_freeName_39 (by decide) ?_
        refine lv_iload_n hx hb dB_freeName_41 rfl (lv_at hl 1 rfl) ?_
        refine lv_imul hx hb dB_freeName_42 ?_
        refine lv_iload_n hx hb dB_freeName_43 rfl (lv_at hl 2 rfl) ?_
        refine lv_iadd hx hb dB_freeName_44 ?_
        refine lv_icmp_ne (tgt := 50) hx hb dB_freeName_45 (by decide) (fun hc => ?_) (fun hc => ?_)
        · rw [if_neg hc] at h
          refine lv_iinc (v := (x4 + (1 : Int32))) (lv' := [(4, .int (x4 + (1 : Int32))), (0, .ref (bd 0)), (1, .int x1), (2, .int x2), (3, .int x3)]) hx hb dB_freeName_50 hl (k := 4) rfl rfl (by decide) rfl (fun ls hl => ?_)
          refine lv_goto (tgt := 13) hx hb dB_freeName_53 (by decide) ?_
          exact ih u x1 x2 x3 (x4 + (1 : Int32)) _ h H locs ls hP hD hS (lv_sub hl [1, 2, 3, 4, 0] rfl)
        · rw [if_pos hc] at h
          refine lv_iconst (v := (1 : Int32)) hx hb dB_freeName_48 (by decide) ?_
          refine lv_istore_n (lv' := [(3, .int (1 : Int32)), (0, .ref (bd 0)), (1, .int x1), (2, .int x2), (4, .int x4)]) hx hb dB_freeName_49 rfl hl (by decide) rfl (fun ls hl => ?_)
          refine lv_iinc (v := (x4 + (1 : Int32))) (lv' := [(4, .int (x4 + (1 : Int32))), (3, .int (1 : Int32)), (0, .ref (bd 0)), (1, .int x1), (2, .int x2)]) hx hb dB_freeName_50 hl (k := 4) rfl rfl (by decide) rfl (fun ls hl => ?_)
          refine lv_goto (tgt := 13) hx hb dB_freeName_53 (by decide) ?_
          exact ih u x1 x2 (1 : Int32) (x4 + (1 : Int32)) _ h H locs ls hP hD hS (lv_sub hl [2, 3, 4, 1, 0] rfl)
set_option maxHeartbeats 4000000 in
set_option maxRecDepth 100000 in
theorem lp_B_freeName_4 {p : Program} {l : Launch} {e : Env} {s : State} {m : MethodId} {args : Array Value} {below : List Frame} {meth : Method} {c : Code} {A : Nat → Prop} {D : va_G} {bd : Nat → Nat} {cI cZ : ClassId} (hC : gw_C p s m args meth c "AidRowsModel" cB_freeName 5 (some .int) gG D vwCl (tB cI cZ) A) (N : Nat) : ∀ (n : Nat) (u : StB) (x1 : Int32) (x2 : Int32) (x3 : Int32) (r : Int32), f_B_freeName_4 N n u x1 x2 x3 = some r → ∀ (H : Heap) (locs : List Loc) (ls : Array Slot), va_P D vwCl (wB bd cI cZ u) H → va_D A (wB bd cI cZ u) → va_S A s.heap H locs → lv_has ls 5 [(0, .ref (bd 0)), (1, .int x1), (2, .int x2), (3, .int x3)] → W p l e ({ frames := 0, cells := 0, slots := 0, locals := 0 } : Room) s m args below meth c H locs 0 0 (MQ below (gw_Q D vwCl (wB bd cI cZ) A u (some (.int r))) args s 0 0 A) (F0 m 4 ls []) := by
  obtain ⟨hx, hb, hr, hml, hG, hown, hlocks, hK, hA⟩ := id hC
  intro n
  induction n with
  | zero => intro u x1 x2 x3 r h; cases h
  | succ n ih =>
    intro u x1 x2 x3 r h H locs ls hP hD hS hl
    rw [f_B_freeName_4] at h
    refine lv_iload_n hx hb dB_freeName_4 rfl (lv_at hl 3 rfl) ?_
    refine lv_if_eq (tgt := 66) hx hb dB_freeName_5 (by decide) (fun hc => ?_) (fun hc => ?_)
    · rw [if_pos hc] at h
      refine lv_bipush (v := (100 : Int32)) hx hb dB_freeName_66 (by decide) ?_
      refine lv_iload_n hx hb dB_freeName_68 rfl (lv_at hl 1 rfl) ?_
      refine lv_imul hx hb dB_freeName_69 ?_
      refine lv_iload_n hx hb dB_freeName_70 rfl (lv_at hl 2 rfl) ?_
      refine lv_iadd hx hb dB_freeName_71 ?_
      cases h
      exact gw_iret hx hb hr hlocks hP hD hS dB_freeName_72
    · rw [if_neg hc] at h
      refine lv_iconst (v := (0 : Int32)) hx hb dB_freeName_8 (by decide) ?_
      refine lv_istore_n (lv' := [(3, .int (0 : Int32)), (0, .ref (bd 0)), (1, .int x1), (2, .int x2)]) hx hb dB_freeName_9 rfl hl (by decide) rfl (fun ls hl => ?_)
      refine lv_iconst (v := (0 : Int32)) hx hb dB_freeName_10 (by decide) ?_
      refine lv_istore (lv' := [(4, .int (0 : Int32)), (3, .int (0 : Int32)), (0, .ref (bd 0)), (1, .int x1), (2, .int x2)]) hx hb dB_freeName_11 hl (by decide) rfl (fun ls hl => ?_)
      exact lp_B_freeName_13 hC N _ ih N u x1 x2 (0 : Int32) (0 : Int32) _ h H locs ls hP hD hS (lv_sub hl [2, 3, 4, 1, 0] rfl)
set_option maxHeartbeats 4000000 in
set_option maxRecDepth 100000 in
theorem c_B_freeName (l : Launch) (D : va_G) (bd : Nat → Nat) (cI cZ : ClassId) (N : Nat) (u : StB) (a1 : Int32) (r : Int32) (h : f_B_freeName N u a1 = some r) : gw_Ct l D vwCl (tB cI cZ) (wB bd cI cZ) yB_freeName (Cond.code yB_freeName cB_freeName 5 (some .int) :: gG) ({ frames := 0, cells := 0, slots := 0, locals := 0 } : Room) [.ref (bd 0), .int a1] u (some (.int r)) u := by
  refine gw_enter (by decide) (Nat.le_of_ble_eq_true rfl) ?_
  intro p e s m below meth c A hC hP hD hS ls hl
  obtain ⟨hx, hb, hr, hml, hG, hown, hlocks, hK, hA⟩ := id hC
  have hl : lv_has ls 5 [(0, .ref (bd 0)), (1, .int a1)] := hl
  obtain ⟨H, hH⟩ : ∃ H, H = s.heap := ⟨_, rfl⟩
  obtain ⟨locs, hlocs⟩ : ∃ x : List Loc, x = [] := ⟨_, rfl⟩
  rw [← hlocs] at hS ⊢
  have hP : va_P D vwCl (wB bd cI cZ u) H := by rw [hH]; exact hP
  have hS : va_S A s.heap H locs := by rw [hH]; exact hS
  suffices g : W p l e ({ frames := 0, cells := 0, slots := 0, locals := 0 } : Room) s m [.ref (bd 0), .int a1].toArray below meth c H locs 0 0 (MQ below (gw_Q D vwCl (wB bd cI cZ) A u (some (.int r))) [.ref (bd 0), .int a1].toArray s 0 0 A) (F0 m 0 ls []) by rw [hH] at g; exact g
  unfold f_B_freeName at h
  refine lv_iconst (v := (0 : Int32)) hx hb dB_freeName_0 (by decide) ?_
  refine lv_istore_n (lv' := [(2, .int (0 : Int32)), (0, .ref (bd 0)), (1, .int a1)]) hx hb dB_freeName_1 rfl hl (by decide) rfl (fun ls hl => ?_)
  refine lv_iconst (v := (1 : Int32)) hx hb dB_freeName_2 (by decide) ?_
  refine lv_istore_n (lv' := [(3, .int (1 : Int32)), (2, .int (0 : Int32)), (0, .ref (bd 0)), (1, .int a1)]) hx hb dB_freeName_3 rfl hl (by decide) rfl (fun ls hl => ?_)
  exact lp_B_freeName_4 hC N N u a1 (0 : Int32) (1 : Int32) _ h H locs ls hP hD hS (lv_sub hl [2, 3, 1, 0] rfl)
set_option maxHeartbeats 4000000 in
set_option maxRecDepth 100000 in
theorem lp_B_lend_16 {p : Program} {l : Launch} {e : Env} {s : State} {m : MethodId} {args : Array Value} {below : List Frame} {meth : Method} {c : Code} {A : Nat → Prop} {D : va_G} {bd : Nat → Nat} {cI cZ : ClassId} (hC : gw_C p s m args meth c "AidRowsModel" cB_lend 7 none gG D vwCl (tB cI cZ) A) (N : Nat) : ∀ (n : Nat) (u : StB) (x1 : Int32) (x2 : Int32) (x3 : Int32) (x4 : Int32) (x5 : Int32) (x6 : Int32) (w : StB), f_B_lend_16 N n u x1 x2 x3 x4 x5 x6 = some w → ∀ (H : Heap) (locs : List Loc) (ls : Array Slot), va_P D vwCl (wB bd cI cZ u) H → va_D A (wB bd cI cZ u) → va_S A s.heap H locs → lv_has ls 7 [(0, .ref (bd 0)), (1, .int x1), (2, .int x2), (3, .int x3), (4, .int x4), (5, .int x5), (6, .int x6)] → W p l e ({ frames := 4, cells := 0, slots := 0, locals := 91 } : Room) s m args below meth c H locs 0 0 (MQ below (gw_Q D vwCl (wB bd cI cZ) A w (none)) args s 0 0 A) (F0 m 16 ls []) := by
  obtain ⟨hx, hb, hr, hml, hG, hown, hlocks, hK, hA⟩ := id hC
  intro n
  induction n with
  | zero => intro u x1 x2 x3 x4 x5 x6 w h; cases h
  | succ n ih =>
    intro u x1 x2 x3 x4 x5 x6 w h H locs ls hP hD hS hl
    rw [f_B_lend_16] at h
    refine lv_iload hx hb dB_lend_16 (lv_at hl 6 rfl) ?_
    refine lv_iload_n hx hb dB_lend_18 rfl (lv_at hl 3 rfl) ?_
    refine lv_icmp_ge (tgt := 109) hx hb dB_lend_19 (by decide) (fun hc => ?_) (fun hc => ?_)
    · rw [if_pos hc] at h
      refine lv_aload_n hx hb dB_lend_109 rfl (lv_at hl 0 rfl) ?_
      refine va_get (D := D) (ci := 6) (v := .ref (bd 17)) (C := RB) (T := TB) (N := 36) hx hb hG inB hown hK hP 0 rfl rfl 21 (by decide) (hG _ mw_666) (fun _ h9 => h9) rfl dB_lend_110 ?_
      refine lv_iload_n hx hb dB_lend_113 rfl (lv_at hl 1 rfl) ?_
      refine lv_aload_n hx hb dB_lend_114 rfl (lv_at hl 0 rfl) ?_
      refine va_get (D := D) (ci := 6) (v := .ref (bd 17)) (C := RB) (T := TB) (N := 36) hx hb hG inB hown hK hP 0 rfl rfl 21 (by decide) (hG _ mw_666) (fun _ h9 => h9) rfl dB_lend_115 ?_
      refine lv_iload_n hx hb dB_lend_118 rfl (lv_at hl 1 rfl) ?_
      obtain ⟨hg3, h⟩ := gI_some h
      refine va_iald (f := (u.2 16)) hx hb hK hP 17 0 rfl rfl hg3 dB_lend_119 ?_
      refine lv_iload_n hx hb dB_lend_120 rfl (lv_at hl 3 rfl) ?_
      refine lv_iadd hx hb dB_lend_121 ?_
      refine va_iast (f := (u.2 16)) hx hb hK hP hD hS 17 0 rfl rfl hg3 dB_lend_122 (fun H locs hP hD hS => ?_)
      rw [wB_a16] at hP hD
      refine lv_aload_n hx hb dB_lend_123 rfl (lv_at hl 0 rfl) ?_
      refine va_get (D := D) (ci := 6) (v := .ref (bd 17)) (C := RB) (T := TB) (N := 36) hx hb hG inB hown hK hP 0 rfl rfl 21 (by decide) (hG _ mw_666) (fun _ h9 => h9) rfl dB_lend_124 ?_
      refine lv_iload_n hx hb dB_lend_127 rfl (lv_at hl 1 rfl) ?_
      refine va_iald (f := ((bA u 16 (x1).toNatClampNeg ((u.2 16 (x1).toNatClampNeg) + x3)).2 16)) hx hb hK hP 17 0 rfl rfl hg3 dB_lend_128 ?_
      refine lv_aload_n hx hb dB_lend_129 rfl (lv_at hl 0 rfl) ?_
      refine va_get (D := D) (ci := 6) (v := .ref (bd 12)) (C := RB) (T := TB) (N := 36) hx hb hG inB hown hK hP 0 rfl rfl 16 (by decide) (hG _ mw_661) (fun _ h9 => h9) rfl dB_lend_130 ?_
      refine lv_iload_n hx hb dB_lend_133 rfl (lv_at hl 1 rfl) ?_
      refine va_iald (f := (u.2 11)) hx hb hK hP 12 0 rfl rfl hg3 dB_lend_134 ?_
      refine lv_icmp_ge (tgt := 144) hx hb dB_lend_135 (by decide) (fun hc => ?_) (fun hc => ?_)
      · rw [if_pos hc] at h
        refine lv_aload_n hx hb dB_lend_144 rfl (lv_at hl 0 rfl) ?_
        refine va_get (D := D) (ci := 6) (v := .ref (bd 14)) (C := RB) (T := TB) (N := 36) hx hb hG inB hown hK hP 0 rfl rfl 18 (by decide) (hG _ mw_663) (fun _ h9 => h9) rfl dB_lend_145 ?_
        refine lv_iload_n hx hb dB_lend_148 rfl (lv_at hl 1 rfl) ?_
        refine lv_iconst (v := (1 : Int32)) hx hb dB_lend_149 (by decide) ?_
        refine va_iast (f := ((bA u 16 (x1).toNatClampNeg ((u.2 16 (x1).toNatClampNeg) + x3)).2 13)) hx hb hK hP hD hS 14 0 rfl rfl hg3 dB_lend_150 (fun H locs hP hD hS => ?_)
        rw [wB_a13] at hP hD
        refine lv_aload_n hx hb dB_lend_151 rfl (lv_at hl 0 rfl) ?_
        refine va_get (D := D) (ci := 6) (v := .ref (bd 15)) (C := RB) (T := TB) (N := 36) hx hb hG inB hown hK hP 0 rfl rfl 19 (by decide) (hG _ mw_664) (fun _ h9 => h9) rfl dB_lend_152 ?_
        refine lv_iload_n hx hb dB_lend_155 rfl (lv_at hl 1 rfl) ?_
        refine lv_iconst (v := (-1 : Int32)) hx hb dB_lend_156 (by decide) ?_
        refine va_iast (f := ((bA (bA u 16 (x1).toNatClampNeg ((u.2 16 (x1).toNatClampNeg) + x3)) 13 (x1).toNatClampNeg (1 : Int32)).2 14)) hx hb hK hP hD hS 15 0 rfl rfl hg3 dB_lend_157 (fun H locs hP hD hS => ?_)
        rw [wB_a14] at hP hD
        refine lv_aload_n hx hb dB_lend_158 rfl (lv_at hl 0 rfl) ?_
        refine va_get (D := D) (ci := 6) (v := .ref (bd 16)) (C := RB) (T := TB) (N := 36) hx hb hG inB hown hK hP 0 rfl rfl 20 (by decide) (hG _ mw_665) (fun _ h9 => h9) rfl dB_lend_159 ?_
        refine lv_iload_n hx hb dB_lend_162 rfl (lv_at hl 1 rfl) ?_
        refine lv_iconst (v := (0 : Int32)) hx hb dB_lend_163 (by decide) ?_
        refine va_iast (f := ((bA (bA (bA u 16 (x1).toNatClampNeg ((u.2 16 (x1).toNatClampNeg) + x3)) 13 (x1).toNatClampNeg (1 : Int32)) 14 (x1).toNatClampNeg (-1 : Int32)).2 15)) hx hb hK hP hD hS 16 0 rfl rfl hg3 dB_lend_164 (fun H locs hP hD hS => ?_)
        rw [wB_a15] at hP hD
        refine lv_aload_n hx hb dB_lend_165 rfl (lv_at hl 0 rfl) ?_
        refine va_get (D := D) (ci := 6) (v := .ref (bd 19)) (C := RB) (T := TB) (N := 36) hx hb hG inB hown hK hP 0 rfl rfl 23 (by decide) (hG _ mw_668) (fun _ h9 => h9) rfl dB_lend_166 ?_
        refine lv_iload_n hx hb dB_lend_169 rfl (lv_at hl 1 rfl) ?_
        refine lv_iconst (v := (0 : Int32)) hx hb dB_lend_170 (by decide) ?_
        refine va_zast (f := ((bA (bA (bA (bA u 16 (x1).toNatClampNeg ((u.2 16 (x1).toNatClampNeg) + x3)) 13 (x1).toNatClampNeg (1 : Int32)) 14 (x1).toNatClampNeg (-1 : Int32)) 15 (x1).toNatClampNeg (0 : Int32)).2 18)) hx hb hK hP hD hS 19 1 rfl rfl hg3 dB_lend_171 (fun H locs hP hD hS => ?_)
        rw [wB_a18] at hP hD
        cases h
        exact gw_vret hx hb hr hlocks hP hD hS dB_lend_172
      · rw [if_neg hc] at h
        refine lv_aload_n hx hb dB_lend_138 rfl (lv_at hl 0 rfl) ?_
        refine lv_iload_n hx hb dB_lend_139 rfl (lv_at hl 1 rfl) ?_
        obtain ⟨q4, q4_h, h⟩ := gw_bind h
        refine gw_callV (As := [.int x1]) (rest := []) (u := (bA u 16 (x1).toNatClampNeg ((u.2 16 (x1).toNatClampNeg) + x3))) (u' := q4) hx hb hml hown hG (c_B_on l D bd cI cZ N (bA u 16 (x1).toNatClampNeg ((u.2 16 (x1).toNatClampNeg) + x3)) x1 _ q4_h) lk_B_131 rfl rfl ⟨Nat.le_of_ble_eq_true rfl, Nat.le_of_ble_eq_true rfl⟩ (va_recv hK hP (ci := 6) (q0 := 0) rfl rfl) hK hP hD hS hA rfl hl.1 rfl (Nat.le_of_ble_eq_true rfl) dB_lend_140 ⟨Nat.le_of_ble_eq_true rfl, Nat.le_of_ble_eq_true rfl⟩ (fun H locs hP hD hS => ?_)
        cases h
        exact gw_vret hx hb hr hlocks hP hD hS dB_lend_143
    · rw [if_neg hc] at h
      refine lv_aload_n hx hb dB_lend_22 rfl (lv_at hl 0 rfl) ?_
      refine va_get (D := D) (ci := 6) (v := .ref (bd 21)) (C := RB) (T := TB) (N := 36) hx hb hG inB hown hK hP 0 rfl rfl 26 (by decide) (hG _ mw_671) (fun _ h9 => h9) rfl dB_lend_23 ?_
      refine lv_aload_n hx hb dB_lend_26 rfl (lv_at hl 0 rfl) ?_
      refine va_get (D := D) (ci := 6) (v := .int (u.1 5)) (C := RB) (T := TB) (N := 36) hx hb hG inB hown hK hP 0 rfl rfl 25 (by decide) (hG _ mw_670) (fun _ h9 => h9) rfl dB_lend_27 ?_
      refine lv_iload_n hx hb dB_lend_30 rfl (lv_at hl 2 rfl) ?_
      obtain ⟨hg5, h⟩ := gI_some h
      refine va_iast (f := (u.2 20)) hx hb hK hP hD hS 21 0 rfl rfl hg5 dB_lend_31 (fun H locs hP hD hS => ?_)
      rw [wB_a20] at hP hD
      refine lv_aload_n hx hb dB_lend_32 rfl (lv_at hl 0 rfl) ?_
      refine va_get (D := D) (ci := 6) (v := .ref (bd 22)) (C := RB) (T := TB) (N := 36) hx hb hG inB hown hK hP 0 rfl rfl 27 (by decide) (hG _ mw_672) (fun _ h9 => h9) rfl dB_lend_33 ?_
      refine lv_aload_n hx hb dB_lend_36 rfl (lv_at hl 0 rfl) ?_
      refine va_get (D := D) (ci := 6) (v := .int (u.1 5)) (C := RB) (T := TB) (N := 36) hx hb hG inB hown hK hP 0 rfl rfl 25 (by decide) (hG _ mw_670) (fun _ h9 => h9) rfl dB_lend_37 ?_
      refine lv_aload_n hx hb dB_lend_40 rfl (lv_at hl 0 rfl) ?_
      refine lv_iload_n hx hb dB_lend_41 rfl (lv_at hl 2 rfl) ?_
      obtain ⟨q6, q6_h, h⟩ := gw_bind h
      refine gw_callV (As := [.int x2]) (rest := [.int (u.1 5), .ref (bd 22)]) (u := (bA u 20 ((u.1 5)).toNatClampNeg x2)) (u' := (bA u 20 ((u.1 5)).toNatClampNeg x2)) hx hb hml hown hG (c_B_freeName l D bd cI cZ N (bA u 20 ((u.1 5)).toNatClampNeg x2) x2 _ q6_h) lk_B_138 rfl rfl ⟨Nat.le_of_ble_eq_true rfl, Nat.le_of_ble_eq_true rfl⟩ (va_recv hK hP (ci := 6) (q0 := 0) rfl rfl) hK hP hD hS hA rfl hl.1 rfl (Nat.le_of_ble_eq_true rfl) dB_lend_42 ⟨Nat.le_of_ble_eq_true rfl, Nat.le_of_ble_eq_true rfl⟩ (fun H locs hP hD hS => ?_)
      refine va_iast (f := ((bA u 20 ((u.1 5)).toNatClampNeg x2).2 21)) hx hb hK hP hD hS 22 0 rfl rfl hg5 dB_lend_45 (fun H locs hP hD hS => ?_)
      rw [wB_a21] at hP hD
      refine lv_aload_n hx hb dB_lend_46 rfl (lv_at hl 0 rfl) ?_
      refine va_get (D := D) (ci := 6) (v := .ref (bd 23)) (C := RB) (T := TB) (N := 36) hx hb hG inB hown hK hP 0 rfl rfl 28 (by decide) (hG _ mw_673) (fun _ h9 => h9) rfl dB_lend_47 ?_
      refine lv_aload_n hx hb dB_lend_50 rfl (lv_at hl 0 rfl) ?_
      refine va_get (D := D) (ci := 6) (v := .int (u.1 5)) (C := RB) (T := TB) (N := 36) hx hb hG inB hown hK hP 0 rfl rfl 25 (by decide) (hG _ mw_670) (fun _ h9 => h9) rfl dB_lend_51 ?_
      refine lv_iload_n hx hb dB_lend_54 rfl (lv_at hl 1 rfl) ?_
      refine va_iast (f := ((bA (bA u 20 ((u.1 5)).toNatClampNeg x2) 21 ((u.1 5)).toNatClampNeg q6).2 22)) hx hb hK hP hD hS 23 0 rfl rfl hg5 dB_lend_55 (fun H locs hP hD hS => ?_)
      rw [wB_a22] at hP hD
      refine lv_aload_n hx hb dB_lend_56 rfl (lv_at hl 0 rfl) ?_
      refine va_get (D := D) (ci := 6) (v := .ref (bd 24)) (C := RB) (T := TB) (N := 36) hx hb hG inB hown hK hP 0 rfl rfl 29 (by decide) (hG _ mw_674) (fun _ h9 => h9) rfl dB_lend_57 ?_
      refine lv_aload_n hx hb dB_lend_60 rfl (lv_at hl 0 rfl) ?_
      refine va_get (D := D) (ci := 6) (v := .int (u.1 5)) (C := RB) (T := TB) (N := 36) hx hb hG inB hown hK hP 0 rfl rfl 25 (by decide) (hG _ mw_670) (fun _ h9 => h9) rfl dB_lend_61 ?_
      refine lv_iload hx hb dB_lend_64 (lv_at hl 5 rfl) ?_
      refine va_iast (f := ((bA (bA (bA u 20 ((u.1 5)).toNatClampNeg x2) 21 ((u.1 5)).toNatClampNeg q6) 22 ((u.1 5)).toNatClampNeg x1).2 23)) hx hb hK hP hD hS 24 0 rfl rfl hg5 dB_lend_66 (fun H locs hP hD hS => ?_)
      rw [wB_a23] at hP hD
      refine lv_aload_n hx hb dB_lend_67 rfl (lv_at hl 0 rfl) ?_
      refine va_get (D := D) (ci := 6) (v := .ref (bd 25)) (C := RB) (T := TB) (N := 36) hx hb hG inB hown hK hP 0 rfl rfl 30 (by decide) (hG _ mw_675) (fun _ h9 => h9) rfl dB_lend_68 ?_
      refine lv_aload_n hx hb dB_lend_71 rfl (lv_at hl 0 rfl) ?_
      refine va_get (D := D) (ci := 6) (v := .int (u.1 5)) (C := RB) (T := TB) (N := 36) hx hb hG inB hown hK hP 0 rfl rfl 25 (by decide) (hG _ mw_670) (fun _ h9 => h9) rfl dB_lend_72 ?_
      refine lv_aload_n hx hb dB_lend_75 rfl (lv_at hl 0 rfl) ?_
      refine va_get (D := D) (ci := 6) (v := .int (u.1 1)) (C := RB) (T := TB) (N := 36) hx hb hG inB hown hK hP 0 rfl rfl 1 (by decide) (hG _ mw_646) (fun _ h9 => h9) rfl dB_lend_76 ?_
      refine lv_iload hx hb dB_lend_79 (lv_at hl 4 rfl) ?_
      refine lv_iadd hx hb dB_lend_81 ?_
      refine va_iast (f := ((bA (bA (bA (bA u 20 ((u.1 5)).toNatClampNeg x2) 21 ((u.1 5)).toNatClampNeg q6) 22 ((u.1 5)).toNatClampNeg x1) 23 ((u.1 5)).toNatClampNeg x5).2 24)) hx hb hK hP hD hS 25 0 rfl rfl hg5 dB_lend_82 (fun H locs hP hD hS => ?_)
      rw [wB_a24] at hP hD
      refine lv_aload_n hx hb dB_lend_83 rfl (lv_at hl 0 rfl) ?_
      refine va_get (D := D) (ci := 6) (v := .ref (bd 26)) (C := RB) (T := TB) (N := 36) hx hb hG inB hown hK hP 0 rfl rfl 31 (by decide) (hG _ mw_676) (fun _ h9 => h9) rfl dB_lend_84 ?_
      refine lv_aload_n hx hb dB_lend_87 rfl (lv_at hl 0 rfl) ?_
      refine va_get (D := D) (ci := 6) (v := .int (u.1 5)) (C := RB) (T := TB) (N := 36) hx hb hG inB hown hK hP 0 rfl rfl 25 (by decide) (hG _ mw_670) (fun _ h9 => h9) rfl dB_lend_88 ?_
      refine lv_iconst (v := (-1 : Int32)) hx hb dB_lend_91 (by decide) ?_
      refine va_iast (f := ((bA (bA (bA (bA (bA u 20 ((u.1 5)).toNatClampNeg x2) 21 ((u.1 5)).toNatClampNeg q6) 22 ((u.1 5)).toNatClampNeg x1) 23 ((u.1 5)).toNatClampNeg x5) 24 ((u.1 5)).toNatClampNeg ((u.1 1) + x4)).2 25)) hx hb hK hP hD hS 26 0 rfl rfl hg5 dB_lend_92 (fun H locs hP hD hS => ?_)
      rw [wB_a25] at hP hD
      refine lv_aload_n hx hb dB_lend_93 rfl (lv_at hl 0 rfl) ?_
      refine lv_dup hx hb dB_lend_94 rfl ?_
      refine va_get (D := D) (ci := 6) (v := .int (u.1 5)) (C := RB) (T := TB) (N := 36) hx hb hG inB hown hK hP 0 rfl rfl 25 (by decide) (hG _ mw_670) (fun _ h9 => h9) rfl dB_lend_95 ?_
      refine lv_iconst (v := (1 : Int32)) hx hb dB_lend_98 (by decide) ?_
      refine lv_iadd hx hb dB_lend_99 ?_
      refine va_put (D := D) (ci := 6) (v := .int ((u.1 5) + (1 : Int32))) (ty := .int) (C := RB) (T := TB) (N := 36) hx hb hG inB tyB tyB_ok nmB hown hK hP hD hS 0 rfl rfl 25 (by decide) (hG _ mw_670) (fun _ h9 => h9) rfl (by decide +kernel) rfl rfl (Nat.le_of_ble_eq_true rfl) dB_lend_100 (fun H locs hP hD hS => ?_)
      rw [wB_f5] at hP hD
      refine lv_iinc (v := (x6 + (1 : Int32))) (lv' := [(6, .int (x6 + (1 : Int32))), (0, .ref (bd 0)), (1, .int x1), (2, .int x2), (3, .int x3), (4, .int x4), (5, .int x5)]) hx hb dB_lend_103 hl (k := 6) rfl rfl (by decide) rfl (fun ls hl => ?_)
      refine lv_goto (tgt := 16) hx hb dB_lend_106 (by decide) ?_
      exact ih (bF (bA (bA (bA (bA (bA (bA u 20 ((u.1 5)).toNatClampNeg x2) 21 ((u.1 5)).toNatClampNeg q6) 22 ((u.1 5)).toNatClampNeg x1) 23 ((u.1 5)).toNatClampNeg x5) 24 ((u.1 5)).toNatClampNeg ((u.1 1) + x4)) 25 ((u.1 5)).toNatClampNeg (-1 : Int32)) 5 ((u.1 5) + (1 : Int32))) x1 x2 x3 x4 x5 (x6 + (1 : Int32)) _ h H locs ls hP hD hS (lv_sub hl [1, 2, 3, 4, 5, 6, 0] rfl)
set_option maxHeartbeats 4000000 in
set_option maxRecDepth 100000 in
theorem c_B_lend (l : Launch) (D : va_G) (bd : Nat → Nat) (cI cZ : ClassId) (N : Nat) (u : StB) (a1 : Int32) (a2 : Int32) (a3 : Int32) (a4 : Int32) (w : StB) (h : f_B_lend N u a1 a2 a3 a4 = some w) : gw_Ct l D vwCl (tB cI cZ) (wB bd cI cZ) yB_lend (Cond.code yB_lend cB_lend 7 none :: gG) ({ frames := 4, cells := 0, slots := 0, locals := 91 } : Room) [.ref (bd 0), .int a1, .int a2, .int a3, .int a4] u (none) w := by
  refine gw_enter (by decide) (Nat.le_of_ble_eq_true rfl) ?_
  intro p e s m below meth c A hC hP hD hS ls hl
  obtain ⟨hx, hb, hr, hml, hG, hown, hlocks, hK, hA⟩ := id hC
  have hl : lv_has ls 7 [(0, .ref (bd 0)), (1, .int a1), (2, .int a2), (3, .int a3), (4, .int a4)] := hl
  obtain ⟨H, hH⟩ : ∃ H, H = s.heap := ⟨_, rfl⟩
  obtain ⟨locs, hlocs⟩ : ∃ x : List Loc, x = [] := ⟨_, rfl⟩
  rw [← hlocs] at hS ⊢
  have hP : va_P D vwCl (wB bd cI cZ u) H := by rw [hH]; exact hP
  have hS : va_S A s.heap H locs := by rw [hH]; exact hS
  suffices g : W p l e ({ frames := 4, cells := 0, slots := 0, locals := 91 } : Room) s m [.ref (bd 0), .int a1, .int a2, .int a3, .int a4].toArray below meth c H locs 0 0 (MQ below (gw_Q D vwCl (wB bd cI cZ) A w (none)) [.ref (bd 0), .int a1, .int a2, .int a3, .int a4].toArray s 0 0 A) (F0 m 0 ls []) by rw [hH] at g; exact g
  unfold f_B_lend at h
  refine lv_aload_n hx hb dB_lend_0 rfl (lv_at hl 0 rfl) ?_
  refine lv_iload_n hx hb dB_lend_1 rfl (lv_at hl 2 rfl) ?_
  refine lv_aload_n hx hb dB_lend_2 rfl (lv_at hl 0 rfl) ?_
  refine va_get (D := D) (ci := 6) (v := .ref (bd 11)) (C := RB) (T := TB) (N := 36) hx hb hG inB hown hK hP 0 rfl rfl 15 (by decide) (hG _ mw_660) (fun _ h9 => h9) rfl dB_lend_3 ?_
  refine lv_iload_n hx hb dB_lend_6 rfl (lv_at hl 1 rfl) ?_
  obtain ⟨hg1, h⟩ := gI_some h
  refine va_iald (f := (u.2 10)) hx hb hK hP 11 0 rfl rfl hg1 dB_lend_7 ?_
  obtain ⟨q2, q2_h, h⟩ := gw_bind h
  refine gw_callV (As := [.int a2, .int (u.2 10 (a1).toNatClampNeg)]) (rest := []) (u := u) (u' := u) hx hb hml hown hG (c_B_holding l D bd cI cZ N u a2 (u.2 10 (a1).toNatClampNeg) _ q2_h) lk_B_124 rfl rfl ⟨Nat.le_of_ble_eq_true rfl, Nat.le_of_ble_eq_true rfl⟩ (va_recv hK hP (ci := 6) (q0 := 0) rfl rfl) hK hP hD hS hA rfl hl.1 rfl (Nat.le_of_ble_eq_true rfl) dB_lend_8 ⟨Nat.le_of_ble_eq_true rfl, Nat.le_of_ble_eq_true rfl⟩ (fun H locs hP hD hS => ?_)
  refine lv_istore (lv' := [(5, .int q2), (0, .ref (bd 0)), (1, .int a1), (2, .int a2), (3, .int a3), (4, .int a4)]) hx hb dB_lend_11 hl (by decide) rfl (fun ls hl => ?_)
  refine lv_iconst (v := (0 : Int32)) hx hb dB_lend_13 (by decide) ?_
  refine lv_istore (lv' := [(6, .int (0 : Int32)), (5, .int q2), (0, .ref (bd 0)), (1, .int a1), (2, .int a2), (3, .int a3), (4, .int a4)]) hx hb dB_lend_14 hl (by decide) rfl (fun ls hl => ?_)
  exact lp_B_lend_16 hC N N u a1 a2 a3 a4 q2 (0 : Int32) _ h H locs ls hP hD hS (lv_sub hl [2, 3, 4, 5, 6, 1, 0] rfl)
set_option maxHeartbeats 4000000 in
set_option maxRecDepth 100000 in
theorem c_B_what (l : Launch) (D : va_G) (bd : Nat → Nat) (cI cZ : ClassId) (N : Nat) (u : StB) (a1 : Int32) (a2 : Int32) (a3 : Int32) (r : Int32) (h : f_B_what N u a1 a2 a3 = some r) : gw_Ct l D vwCl (tB cI cZ) (wB bd cI cZ) yB_what (Cond.code yB_what cB_what 5 (some .int) :: gG) ({ frames := 3, cells := 0, slots := 0, locals := 68 } : Room) [.ref (bd 0), .int a1, .int a2, .int a3] u (some (.int r)) u := by
  refine gw_enter (by decide) (Nat.le_of_ble_eq_true rfl) ?_
  intro p e s m below meth c A hC hP hD hS ls hl
  obtain ⟨hx, hb, hr, hml, hG, hown, hlocks, hK, hA⟩ := id hC
  have hl : lv_has ls 5 [(0, .ref (bd 0)), (1, .int a1), (2, .int a2), (3, .int a3)] := hl
  obtain ⟨H, hH⟩ : ∃ H, H = s.heap := ⟨_, rfl⟩
  obtain ⟨locs, hlocs⟩ : ∃ x : List Loc, x = [] := ⟨_, rfl⟩
  rw [← hlocs] at hS ⊢
  have hP : va_P D vwCl (wB bd cI cZ u) H := by rw [hH]; exact hP
  have hS : va_S A s.heap H locs := by rw [hH]; exact hS
  suffices g : W p l e ({ frames := 3, cells := 0, slots := 0, locals := 68 } : Room) s m [.ref (bd 0), .int a1, .int a2, .int a3].toArray below meth c H locs 0 0 (MQ below (gw_Q D vwCl (wB bd cI cZ) A u (some (.int r))) [.ref (bd 0), .int a1, .int a2, .int a3].toArray s 0 0 A) (F0 m 0 ls []) by rw [hH] at g; exact g
  unfold f_B_what at h
  refine lv_aload_n hx hb dB_what_0 rfl (lv_at hl 0 rfl) ?_
  refine va_get (D := D) (ci := 6) (v := .ref (bd 14)) (C := RB) (T := TB) (N := 36) hx hb hG inB hown hK hP 0 rfl rfl 18 (by decide) (hG _ mw_663) (fun _ h9 => h9) rfl dB_what_1 ?_
  refine lv_iload_n hx hb dB_what_4 rfl (lv_at hl 1 rfl) ?_
  obtain ⟨hg1, h⟩ := gI_some h
  refine va_iald (f := (u.2 13)) hx hb hK hP 14 0 rfl rfl hg1 dB_what_5 ?_
  refine lv_if_ne (tgt := 19) hx hb dB_what_6 (by decide) (fun hc => ?_) (fun hc => ?_)
  · rw [if_neg hc] at h
    refine lv_iconst (v := (3 : Int32)) hx hb dB_what_19 (by decide) ?_
    cases h
    exact gw_iret hx hb hr hlocks hP hD hS dB_what_20
  · rw [if_pos hc] at h
    refine lv_aload_n hx hb dB_what_9 rfl (lv_at hl 0 rfl) ?_
    refine va_get (D := D) (ci := 6) (v := .ref (bd 15)) (C := RB) (T := TB) (N := 36) hx hb hG inB hown hK hP 0 rfl rfl 19 (by decide) (hG _ mw_664) (fun _ h9 => h9) rfl dB_what_10 ?_
    refine lv_iload_n hx hb dB_what_13 rfl (lv_at hl 1 rfl) ?_
    refine va_iald (f := (u.2 14)) hx hb hK hP 15 0 rfl rfl hg1 dB_what_14 ?_
    refine lv_iload_n hx hb dB_what_15 rfl (lv_at hl 2 rfl) ?_
    refine lv_icmp_eq (tgt := 21) hx hb dB_what_16 (by decide) (fun hc => ?_) (fun hc => ?_)
    · rw [if_pos hc] at h
      refine lv_aload_n hx hb dB_what_21 rfl (lv_at hl 0 rfl) ?_
      refine lv_iload_n hx hb dB_what_22 rfl (lv_at hl 2 rfl) ?_
      refine lv_aload_n hx hb dB_what_23 rfl (lv_at hl 0 rfl) ?_
      refine va_get (D := D) (ci := 6) (v := .ref (bd 11)) (C := RB) (T := TB) (N := 36) hx hb hG inB hown hK hP 0 rfl rfl 15 (by decide) (hG _ mw_660) (fun _ h9 => h9) rfl dB_what_24 ?_
      refine lv_iload_n hx hb dB_what_27 rfl (lv_at hl 1 rfl) ?_
      refine va_iald (f := (u.2 10)) hx hb hK hP 11 0 rfl rfl hg1 dB_what_28 ?_
      obtain ⟨q2, q2_h, h⟩ := gw_bind h
      refine gw_callV (As := [.int a2, .int (u.2 10 (a1).toNatClampNeg)]) (rest := []) (u := u) (u' := u) hx hb hml hown hG (c_B_holding l D bd cI cZ N u a2 (u.2 10 (a1).toNatClampNeg) _ q2_h) lk_B_124 rfl rfl ⟨Nat.le_of_ble_eq_true rfl, Nat.le_of_ble_eq_true rfl⟩ (va_recv hK hP (ci := 6) (q0 := 0) rfl rfl) hK hP hD hS hA rfl hl.1 rfl (Nat.le_of_ble_eq_true rfl) dB_what_29 ⟨Nat.le_of_ble_eq_true rfl, Nat.le_of_ble_eq_true rfl⟩ (fun H locs hP hD hS => ?_)
      refine lv_istore (lv' := [(4, .int q2), (0, .ref (bd 0)), (1, .int a1), (2, .int a2), (3, .int a3)]) hx hb dB_what_32 hl (by decide) rfl (fun ls hl => ?_)
      refine lv_iload_n hx hb dB_what_34 rfl (lv_at hl 4 rfl) ?_
      refine lv_if_le (tgt := 80) hx hb dB_what_35 (by decide) (fun hc => ?_) (fun hc => ?_)
      · rw [if_pos hc] at h
        refine lv_iconst (v := (1 : Int32)) hx hb dB_what_80 (by decide) ?_
        cases h
        exact gw_iret hx hb hr hlocks hP hD hS dB_what_81
      · rw [if_neg hc] at h
        refine lv_iload_n hx hb dB_what_38 rfl (lv_at hl 4 rfl) ?_
        refine lv_aload_n hx hb dB_what_39 rfl (lv_at hl 1 rfl) ?_
        refine va_get (D := D) (ci := 6) (v := .ref (bd 12)) (C := RB) (T := TB) (N := 36) hx hb hG inB hown hK hP 0 rfl rfl 16 (by decide) (hG _ mw_661) (fun _ h9 => h9) rfl dB_what_40 ?_
        refine lv_iload_n hx hb dB_what_43 rfl (lv_at hl 2 rfl) ?_
        refine va_iald (f := (u.2 11)) hx hb hK hP 12 0 rfl rfl hg1 dB_what_44 ?_
        refine lv_aload_n hx hb dB_what_45 rfl (lv_at hl 1 rfl) ?_
        refine va_get (D := D) (ci := 6) (v := .ref (bd 17)) (C := RB) (T := TB) (N := 36) hx hb hG inB hown hK hP 0 rfl rfl 21 (by decide) (hG _ mw_666) (fun _ h9 => h9) rfl dB_what_46 ?_
        refine lv_iload_n hx hb dB_what_49 rfl (lv_at hl 2 rfl) ?_
        refine va_iald (f := (u.2 16)) hx hb hK hP 17 0 rfl rfl hg1 dB_what_50 ?_
        refine lv_isub hx hb dB_what_51 ?_
        refine lv_icmp_gt (tgt := 78) hx hb dB_what_52 (by decide) (fun hc => ?_) (fun hc => ?_)
        · rw [if_pos hc] at h
          refine lv_iconst (v := (4 : Int32)) hx hb dB_what_78 (by decide) ?_
          cases h
          exact gw_iret hx hb hr hlocks hP hD hS dB_what_79
        · rw [if_neg hc] at h
          refine lv_iload hx hb dB_what_55 (lv_at hl 0 rfl) ?_
          refine lv_if_lt (tgt := 78) hx hb dB_what_57 (by decide) (fun hc => ?_) (fun hc => ?_)
          · rw [if_pos hc] at h
            refine lv_iconst (v := (4 : Int32)) hx hb dB_what_78 (by decide) ?_
            cases h
            exact gw_iret hx hb hr hlocks hP hD hS dB_what_79
          · rw [if_neg hc] at h
            refine lv_iload_n hx hb dB_what_60 rfl (lv_at hl 4 rfl) ?_
            refine lv_aload_n hx hb dB_what_61 rfl (lv_at hl 1 rfl) ?_
            refine va_get (D := D) (ci := 6) (v := .ref (bd 10)) (C := RB) (T := TB) (N := 36) hx hb hG inB hown hK hP 0 rfl rfl 13 (by decide) (hG _ mw_658) (fun _ h9 => h9) rfl dB_what_62 ?_
            refine lv_iload hx hb dB_what_65 (lv_at hl 0 rfl) ?_
            obtain ⟨hg3, h⟩ := gI_some h
            refine va_iald (f := (u.2 9)) hx hb hK hP 10 0 rfl rfl hg3 dB_what_67 ?_
            refine lv_aload_n hx hb dB_what_68 rfl (lv_at hl 1 rfl) ?_
            refine lv_iload hx hb dB_what_69 (lv_at hl 0 rfl) ?_
            obtain ⟨q4, q4_h, h⟩ := gw_bind h
            refine gw_callV (As := [.int q2]) (rest := [.int (u.2 9 (q2).toNatClampNeg), .int a3]) (u := u) (u' := u) hx hb hml hown hG (c_B_lent l D bd cI cZ N u q2 _ q4_h) lk_B_142 rfl rfl ⟨Nat.le_of_ble_eq_true rfl, Nat.le_of_ble_eq_true rfl⟩ (va_recv hK hP (ci := 6) (q0 := 0) rfl rfl) hK hP hD hS hA rfl hl.1 rfl (Nat.le_of_ble_eq_true rfl) dB_what_71 ⟨Nat.le_of_ble_eq_true rfl, Nat.le_of_ble_eq_true rfl⟩ (fun H locs hP hD hS => ?_)
            refine lv_isub hx hb dB_what_74 ?_
            refine lv_icmp_le (tgt := 80) hx hb dB_what_75 (by decide) (fun hc => ?_) (fun hc => ?_)
            · rw [if_pos hc] at h
              refine lv_iconst (v := (1 : Int32)) hx hb dB_what_80 (by decide) ?_
              cases h
              exact gw_iret hx hb hr hlocks hP hD hS dB_what_81
            · rw [if_neg hc] at h
              refine lv_iconst (v := (4 : Int32)) hx hb dB_what_78 (by decide) ?_
              cases h
              exact gw_iret hx hb hr hlocks hP hD hS dB_what_79
    · rw [if_neg hc] at h
      refine lv_iconst (v := (3 : Int32)) hx hb dB_what_19 (by decide) ?_
      cases h
      exact gw_iret hx hb hr hlocks hP hD hS dB_what_20
set_option maxHeartbeats 4000000 in
set_option maxRecDepth 100000 in
theorem lp_B_message_246 {p : Program} {l : Launch} {e : Env} {s : State} {m : MethodId} {args : Array Value} {below : List Frame} {meth : Method} {c : Code} {A : Nat → Prop} {D : va_G} {bd : Nat → Nat} {cI cZ : ClassId} (hC : gw_C p s m args meth c "AidRowsModel" cB_message 11 (some .int) gG D vwCl (tB cI cZ) A) (N : Nat) : ∀ (u : StB) (x1 : Int32) (x2 : Int32) (x3 : Int32) (x4 : Int32) (x5 : Int32) (x6 : Int32) (x7 : Int32) (x8 : Int32) (x9 : Int32) (x10 : Int32) (r : Int32) (w : StB), f_B_message_246 N u x1 x2 x3 x4 x5 x6 x7 x8 x9 x10 = some (r, w) → ∀ (H : Heap) (locs : List Loc) (ls : Array Slot), va_P D vwCl (wB bd cI cZ u) H → va_D A (wB bd cI cZ u) → va_S A s.heap H locs → lv_has ls 11 [(0, .ref (bd 0)), (1, .int x1), (2, .int x2), (3, .int x3), (4, .int x4), (5, .int x5), (6, .int x6), (7, .int x7), (8, .int x8), (9, .int x9), (10, .int x10)] → W p l e ({ frames := 5, cells := 0, slots := 0, locals := 117 } : Room) s m args below meth c H locs 0 0 (MQ below (gw_Q D vwCl (wB bd cI cZ) A w (some (.int r))) args s 0 0 A) (F0 m 246 ls []) := by
  obtain ⟨hx, hb, hr, hml, hG, hown, hlocks, hK, hA⟩ := id hC
  intro u x1 x2 x3 x4 x5 x6 x7 x8 x9 x10 r w h H locs ls hP hD hS hl
  unfold f_B_message_246 at h
  refine lv_iload hx hb dB_message_246 (lv_at hl 10 rfl) ?_
  refine lv_iconst (v := (1 : Int32)) hx hb dB_message_248 (by decide) ?_
  refine lv_icmp_eq (tgt := 255) hx hb dB_message_249 (by decide) (fun hc => ?_) (fun hc => ?_)
  · rw [if_pos hc] at h
    refine lv_iload hx hb dB_message_255 (lv_at hl 4 rfl) ?_
    refine lv_if_ne (tgt := 268) hx hb dB_message_257 (by decide) (fun hc => ?_) (fun hc => ?_)
    · rw [if_neg hc] at h
      refine lv_aload_n hx hb dB_message_268 rfl (lv_at hl 0 rfl) ?_
      refine lv_iload_n hx hb dB_message_269 rfl (lv_at hl 1 rfl) ?_
      refine lv_iload_n hx hb dB_message_270 rfl (lv_at hl 2 rfl) ?_
      refine lv_iload hx hb dB_message_271 (lv_at hl 4 rfl) ?_
      refine lv_iload hx hb dB_message_273 (lv_at hl 5 rfl) ?_
      obtain ⟨q6, q6_h, h⟩ := gw_bind h
      refine gw_callV (As := [.int x1, .int x2, .int x4, .int x5]) (rest := []) (u := u) (u' := q6) hx hb hml hown hG (c_B_lend l D bd cI cZ N u x1 x2 x4 x5 _ q6_h) lk_B_155 rfl rfl ⟨Nat.le_of_ble_eq_true rfl, Nat.le_of_ble_eq_true rfl⟩ (va_recv hK hP (ci := 6) (q0 := 0) rfl rfl) hK hP hD hS hA rfl hl.1 rfl (Nat.le_of_ble_eq_true rfl) dB_message_275 ⟨Nat.le_of_ble_eq_true rfl, Nat.le_of_ble_eq_true rfl⟩ (fun H locs hP hD hS => ?_)
      refine lv_iload hx hb dB_message_278 (lv_at hl 10 rfl) ?_
      cases h
      exact gw_iret hx hb hr hlocks hP hD hS dB_message_280
    · rw [if_pos hc] at h
      refine lv_aload_n hx hb dB_message_260 rfl (lv_at hl 0 rfl) ?_
      refine lv_iload_n hx hb dB_message_261 rfl (lv_at hl 1 rfl) ?_
      obtain ⟨q7, q7_h, h⟩ := gw_bind h
      refine gw_callV (As := [.int x1]) (rest := []) (u := u) (u' := q7) hx hb hml hown hG (c_B_on l D bd cI cZ N u x1 _ q7_h) lk_B_131 rfl rfl ⟨Nat.le_of_ble_eq_true rfl, Nat.le_of_ble_eq_true rfl⟩ (va_recv hK hP (ci := 6) (q0 := 0) rfl rfl) hK hP hD hS hA rfl hl.1 rfl (Nat.le_of_ble_eq_true rfl) dB_message_262 ⟨Nat.le_of_ble_eq_true rfl, Nat.le_of_ble_eq_true rfl⟩ (fun H locs hP hD hS => ?_)
      refine lv_goto (tgt := 278) hx hb dB_message_265 (by decide) ?_
      refine lv_iload hx hb dB_message_278 (lv_at hl 10 rfl) ?_
      cases h
      exact gw_iret hx hb hr hlocks hP hD hS dB_message_280
  · rw [if_neg hc] at h
    refine lv_iload hx hb dB_message_252 (lv_at hl 10 rfl) ?_
    cases h
    exact gw_iret hx hb hr hlocks hP hD hS dB_message_254
set_option maxHeartbeats 4000000 in
set_option maxRecDepth 100000 in
theorem lp_B_message_227 {p : Program} {l : Launch} {e : Env} {s : State} {m : MethodId} {args : Array Value} {below : List Frame} {meth : Method} {c : Code} {A : Nat → Prop} {D : va_G} {bd : Nat → Nat} {cI cZ : ClassId} (hC : gw_C p s m args meth c "AidRowsModel" cB_message 11 (some .int) gG D vwCl (tB cI cZ) A) (N : Nat) : ∀ (u : StB) (x1 : Int32) (x2 : Int32) (x3 : Int32) (x4 : Int32) (x5 : Int32) (x6 : Int32) (x7 : Int32) (x8 : Int32) (x9 : Int32) (x10 : Int32) (r : Int32) (w : StB), f_B_message_227 N u x1 x2 x3 x4 x5 x6 x7 x8 x9 x10 = some (r, w) → ∀ (H : Heap) (locs : List Loc) (ls : Array Slot), va_P D vwCl (wB bd cI cZ u) H → va_D A (wB bd cI cZ u) → va_S A s.heap H locs → lv_has ls 11 [(0, .ref (bd 0)), (1, .int x1), (2, .int x2), (3, .int x3), (4, .int x4), (5, .int x5), (6, .int x6), (7, .int x7), (8, .int x8), (9, .int x9), (10, .int x10)] → W p l e ({ frames := 5, cells := 0, slots := 0, locals := 117 } : Room) s m args below meth c H locs 0 0 (MQ below (gw_Q D vwCl (wB bd cI cZ) A w (some (.int r))) args s 0 0 A) (F0 m 227 ls []) := by
  obtain ⟨hx, hb, hr, hml, hG, hown, hlocks, hK, hA⟩ := id hC
  intro u x1 x2 x3 x4 x5 x6 x7 x8 x9 x10 r w h H locs ls hP hD hS hl
  unfold f_B_message_227 at h
  refine lv_iload hx hb dB_message_227 (lv_at hl 9 rfl) ?_
  refine lv_if_eq (tgt := 246) hx hb dB_message_229 (by decide) (fun hc => ?_) (fun hc => ?_)
  · rw [if_pos hc] at h
    exact lp_B_message_246 hC N u x1 x2 x3 x4 x5 x6 x7 x8 x9 x10 _ _ h H locs ls hP hD hS (lv_sub hl [0, 1, 2, 3, 4, 5, 6, 7, 8, 9, 10] rfl)
  · rw [if_neg hc] at h
    refine lv_aload_n hx hb dB_message_232 rfl (lv_at hl 0 rfl) ?_
    refine va_get (D := D) (ci := 6) (v := .ref (bd 27)) (C := RB) (T := TB) (N := 36) hx hb hG inB hown hK hP 0 rfl rfl 32 (by decide) (hG _ mw_677) (fun _ h9 => h9) rfl dB_message_233 ?_
    refine lv_sipush (v := (1000 : Int32)) hx hb dB_message_236 (by decide) ?_
    refine lv_iload_n hx hb dB_message_239 rfl (lv_at hl 2 rfl) ?_
    refine lv_imul hx hb dB_message_240 ?_
    refine lv_iload_n hx hb dB_message_241 rfl (lv_at hl 3 rfl) ?_
    refine lv_iadd hx hb dB_message_242 ?_
    refine lv_iload hx hb dB_message_243 (lv_at hl 10 rfl) ?_
    obtain ⟨hg5, h⟩ := gI_some h
    refine va_iast (f := (u.2 26)) hx hb hK hP hD hS 27 0 rfl rfl hg5 dB_message_245 (fun H locs hP hD hS => ?_)
    rw [wB_a26] at hP hD
    exact lp_B_message_246 hC N (bA u 26 ((((1000 : Int32) * x2) + x3)).toNatClampNeg x10) x1 x2 x3 x4 x5 x6 x7 x8 x9 x10 _ _ h H locs ls hP hD hS (lv_sub hl [0, 1, 2, 3, 4, 5, 6, 7, 8, 9, 10] rfl)
set_option maxHeartbeats 4000000 in
set_option maxRecDepth 100000 in
theorem lp_B_message_211 {p : Program} {l : Launch} {e : Env} {s : State} {m : MethodId} {args : Array Value} {below : List Frame} {meth : Method} {c : Code} {A : Nat → Prop} {D : va_G} {bd : Nat → Nat} {cI cZ : ClassId} (hC : gw_C p s m args meth c "AidRowsModel" cB_message 11 (some .int) gG D vwCl (tB cI cZ) A) (N : Nat) : ∀ (u : StB) (x1 : Int32) (x2 : Int32) (x3 : Int32) (x4 : Int32) (x5 : Int32) (x6 : Int32) (x7 : Int32) (x8 : Int32) (x9 : Int32) (x10 : Int32) (r : Int32) (w : StB), f_B_message_211 N u x1 x2 x3 x4 x5 x6 x7 x8 x9 x10 = some (r, w) → ∀ (H : Heap) (locs : List Loc) (ls : Array Slot), va_P D vwCl (wB bd cI cZ u) H → va_D A (wB bd cI cZ u) → va_S A s.heap H locs → lv_has ls 11 [(0, .ref (bd 0)), (1, .int x1), (2, .int x2), (3, .int x3), (4, .int x4), (5, .int x5), (6, .int x6), (7, .int x7), (8, .int x8), (9, .int x9), (10, .int x10)] → W p l e ({ frames := 5, cells := 0, slots := 0, locals := 117 } : Room) s m args below meth c H locs 0 0 (MQ below (gw_Q D vwCl (wB bd cI cZ) A w (some (.int r))) args s 0 0 A) (F0 m 211 ls []) := by
  obtain ⟨hx, hb, hr, hml, hG, hown, hlocks, hK, hA⟩ := id hC
  intro u x1 x2 x3 x4 x5 x6 x7 x8 x9 x10 r w h H locs ls hP hD hS hl
  unfold f_B_message_211 at h
  refine lv_iload hx hb dB_message_211 (lv_at hl 10 rfl) ?_
  refine lv_iconst (v := (2 : Int32)) hx hb dB_message_213 (by decide) ?_
  refine lv_icmp_ne (tgt := 227) hx hb dB_message_214 (by decide) (fun hc => ?_) (fun hc => ?_)
  · rw [if_neg hc] at h
    exact lp_B_message_227 hC N u x1 x2 x3 x4 x5 x6 x7 x8 x9 x10 _ _ h H locs ls hP hD hS (lv_sub hl [0, 1, 2, 3, 4, 5, 6, 7, 8, 9, 10] rfl)
  · rw [if_pos hc] at h
    refine lv_aload_n hx hb dB_message_217 rfl (lv_at hl 0 rfl) ?_
    refine lv_dup hx hb dB_message_218 rfl ?_
    refine va_get (D := D) (ci := 6) (v := .int (u.1 7)) (C := RB) (T := TB) (N := 36) hx hb hG inB hown hK hP 0 rfl rfl 35 (by decide) (hG _ mw_680) (fun _ h9 => h9) rfl dB_message_219 ?_
    refine lv_iconst (v := (1 : Int32)) hx hb dB_message_222 (by decide) ?_
    refine lv_iadd hx hb dB_message_223 ?_
    refine va_put (D := D) (ci := 6) (v := .int ((u.1 7) + (1 : Int32))) (ty := .int) (C := RB) (T := TB) (N := 36) hx hb hG inB tyB tyB_ok nmB hown hK hP hD hS 0 rfl rfl 35 (by decide) (hG _ mw_680) (fun _ h9 => h9) rfl (by decide +kernel) rfl rfl (Nat.le_of_ble_eq_true rfl) dB_message_224 (fun H locs hP hD hS => ?_)
    rw [wB_f7] at hP hD
    exact lp_B_message_227 hC N (bF u 7 ((u.1 7) + (1 : Int32))) x1 x2 x3 x4 x5 x6 x7 x8 x9 x10 _ _ h H locs ls hP hD hS (lv_sub hl [0, 1, 2, 3, 4, 5, 6, 7, 8, 9, 10] rfl)
set_option maxHeartbeats 4000000 in
set_option maxRecDepth 100000 in
theorem lp_B_message_187 {p : Program} {l : Launch} {e : Env} {s : State} {m : MethodId} {args : Array Value} {below : List Frame} {meth : Method} {c : Code} {A : Nat → Prop} {D : va_G} {bd : Nat → Nat} {cI cZ : ClassId} (hC : gw_C p s m args meth c "AidRowsModel" cB_message 11 (some .int) gG D vwCl (tB cI cZ) A) (N : Nat) : ∀ (u : StB) (x1 : Int32) (x2 : Int32) (x3 : Int32) (x4 : Int32) (x5 : Int32) (x6 : Int32) (x7 : Int32) (x8 : Int32) (x9 : Int32) (x10 : Int32) (y1 : Int32) (y2 : Int32) (y3 : Int32) (y4 : Int32) (y5 : Int32) (r : Int32) (w : StB), f_B_message_187 N u x1 x2 x3 x4 x5 x6 x7 x8 x9 x10 y1 y2 y3 y4 y5 = some (r, w) → ∀ (H : Heap) (locs : List Loc) (ls : Array Slot), va_P D vwCl (wB bd cI cZ u) H → va_D A (wB bd cI cZ u) → va_S A s.heap H locs → lv_has ls 11 [(0, .ref (bd 0)), (1, .int x1), (2, .int x2), (3, .int x3), (4, .int x4), (5, .int x5), (6, .int x6), (7, .int x7), (8, .int x8), (9, .int x9), (10, .int x10)] → W p l e ({ frames := 5, cells := 0, slots := 0, locals := 117 } : Room) s m args below meth c H locs 0 0 (MQ below (gw_Q D vwCl (wB bd cI cZ) A w (some (.int r))) args s 0 0 A) (F0 m 187 ls [.int y5, .int y4, .int y3, .int y2, .int y1, .ref (bd 0)]) := by
  obtain ⟨hx, hb, hr, hml, hG, hown, hlocks, hK, hA⟩ := id hC
  intro u x1 x2 x3 x4 x5 x6 x7 x8 x9 x10 y1 y2 y3 y4 y5 r w h H locs ls hP hD hS hl
  unfold f_B_message_187 at h
  obtain ⟨q4, q4_h, h⟩ := gw_bind h
  refine gw_callV (As := [.int y1, .int y2, .int y3, .int y4, .int y5]) (rest := []) (u := u) (u' := q4.2) hx hb hml hown hG (c_B_goes l D bd cI cZ N u y1 y2 y3 y4 y5 _ _ q4_h) lk_B_106 rfl rfl ⟨Nat.le_of_ble_eq_true rfl, Nat.le_of_ble_eq_true rfl⟩ (va_recv hK hP (ci := 6) (q0 := 0) rfl rfl) hK hP hD hS hA rfl hl.1 rfl (Nat.le_of_ble_eq_true rfl) dB_message_187 ⟨Nat.le_of_ble_eq_true rfl, Nat.le_of_ble_eq_true rfl⟩ (fun H locs hP hD hS => ?_)
  refine lv_if_ne (tgt := 195) hx hb dB_message_190 (by decide) (fun hc => ?_) (fun hc => ?_)
  · rw [if_neg hc] at h
    refine lv_iload hx hb dB_message_195 (lv_at hl 10 rfl) ?_
    refine lv_iconst (v := (5 : Int32)) hx hb dB_message_197 (by decide) ?_
    refine lv_icmp_ne (tgt := 211) hx hb dB_message_198 (by decide) (fun hc => ?_) (fun hc => ?_)
    · rw [if_neg hc] at h
      exact lp_B_message_211 hC N q4.2 x1 x2 x3 x4 x5 x6 x7 x8 x9 x10 _ _ h H locs ls hP hD hS (lv_sub hl [0, 1, 2, 3, 4, 5, 6, 7, 8, 9, 10] rfl)
    · rw [if_pos hc] at h
      refine lv_aload_n hx hb dB_message_201 rfl (lv_at hl 0 rfl) ?_
      refine lv_dup hx hb dB_message_202 rfl ?_
      refine va_get (D := D) (ci := 6) (v := .int (q4.2.1 6)) (C := RB) (T := TB) (N := 36) hx hb hG inB hown hK hP 0 rfl rfl 34 (by decide) (hG _ mw_679) (fun _ h9 => h9) rfl dB_message_203 ?_
      refine lv_iconst (v := (1 : Int32)) hx hb dB_message_206 (by decide) ?_
      refine lv_iadd hx hb dB_message_207 ?_
      refine va_put (D := D) (ci := 6) (v := .int ((q4.2.1 6) + (1 : Int32))) (ty := .int) (C := RB) (T := TB) (N := 36) hx hb hG inB tyB tyB_ok nmB hown hK hP hD hS 0 rfl rfl 34 (by decide) (hG _ mw_679) (fun _ h9 => h9) rfl (by decide +kernel) rfl rfl (Nat.le_of_ble_eq_true rfl) dB_message_208 (fun H locs hP hD hS => ?_)
      rw [wB_f6] at hP hD
      exact lp_B_message_211 hC N (bF q4.2 6 ((q4.2.1 6) + (1 : Int32))) x1 x2 x3 x4 x5 x6 x7 x8 x9 x10 _ _ h H locs ls hP hD hS (lv_sub hl [0, 1, 2, 3, 4, 5, 6, 7, 8, 9, 10] rfl)
  · rw [if_pos hc] at h
    refine lv_iconst (v := (0 : Int32)) hx hb dB_message_193 (by decide) ?_
    cases h
    exact gw_iret hx hb hr hlocks hP hD hS dB_message_194
set_option maxHeartbeats 4000000 in
set_option maxRecDepth 100000 in
theorem lp_B_message_182 {p : Program} {l : Launch} {e : Env} {s : State} {m : MethodId} {args : Array Value} {below : List Frame} {meth : Method} {c : Code} {A : Nat → Prop} {D : va_G} {bd : Nat → Nat} {cI cZ : ClassId} (hC : gw_C p s m args meth c "AidRowsModel" cB_message 11 (some .int) gG D vwCl (tB cI cZ) A) (N : Nat) : ∀ (u : StB) (x1 : Int32) (x2 : Int32) (x3 : Int32) (x4 : Int32) (x5 : Int32) (x6 : Int32) (x7 : Int32) (x8 : Int32) (x9 : Int32) (x10 : Int32) (y1 : Int32) (y2 : Int32) (y3 : Int32) (y4 : Int32) (r : Int32) (w : StB), f_B_message_182 N u x1 x2 x3 x4 x5 x6 x7 x8 x9 x10 y1 y2 y3 y4 = some (r, w) → ∀ (H : Heap) (locs : List Loc) (ls : Array Slot), va_P D vwCl (wB bd cI cZ u) H → va_D A (wB bd cI cZ u) → va_S A s.heap H locs → lv_has ls 11 [(0, .ref (bd 0)), (1, .int x1), (2, .int x2), (3, .int x3), (4, .int x4), (5, .int x5), (6, .int x6), (7, .int x7), (8, .int x8), (9, .int x9), (10, .int x10)] → W p l e ({ frames := 5, cells := 0, slots := 0, locals := 117 } : Room) s m args below meth c H locs 0 0 (MQ below (gw_Q D vwCl (wB bd cI cZ) A w (some (.int r))) args s 0 0 A) (F0 m 182 ls [.int y4, .int y3, .int y2, .int y1, .ref (bd 0)]) := by
  obtain ⟨hx, hb, hr, hml, hG, hown, hlocks, hK, hA⟩ := id hC
  intro u x1 x2 x3 x4 x5 x6 x7 x8 x9 x10 y1 y2 y3 y4 r w h H locs ls hP hD hS hl
  unfold f_B_message_182 at h
  refine lv_iconst (v := (1 : Int32)) hx hb dB_message_182 (by decide) ?_
  refine lv_goto (tgt := 187) hx hb dB_message_183 (by decide) ?_
  exact lp_B_message_187 hC N u x1 x2 x3 x4 x5 x6 x7 x8 x9 x10 y1 y2 y3 y4 (1 : Int32) _ _ h H locs ls hP hD hS (lv_sub hl [0, 1, 2, 3, 4, 5, 6, 7, 8, 9, 10] rfl)
set_option maxHeartbeats 4000000 in
set_option maxRecDepth 100000 in
theorem lp_B_message_154 {p : Program} {l : Launch} {e : Env} {s : State} {m : MethodId} {args : Array Value} {below : List Frame} {meth : Method} {c : Code} {A : Nat → Prop} {D : va_G} {bd : Nat → Nat} {cI cZ : ClassId} (hC : gw_C p s m args meth c "AidRowsModel" cB_message 11 (some .int) gG D vwCl (tB cI cZ) A) (N : Nat) : ∀ (u : StB) (x1 : Int32) (x2 : Int32) (x3 : Int32) (x4 : Int32) (x5 : Int32) (x6 : Int32) (x7 : Int32) (x8 : Int32) (x9 : Int32) (y0 : Int32) (r : Int32) (w : StB), f_B_message_154 N u x1 x2 x3 x4 x5 x6 x7 x8 x9 y0 = some (r, w) → ∀ (H : Heap) (locs : List Loc) (ls : Array Slot), va_P D vwCl (wB bd cI cZ u) H → va_D A (wB bd cI cZ u) → va_S A s.heap H locs → lv_has ls 11 [(0, .ref (bd 0)), (1, .int x1), (2, .int x2), (3, .int x3), (4, .int x4), (5, .int x5), (6, .int x6), (7, .int x7), (8, .int x8), (9, .int x9)] → W p l e ({ frames := 5, cells := 0, slots := 0, locals := 117 } : Room) s m args below meth c H locs 0 0 (MQ below (gw_Q D vwCl (wB bd cI cZ) A w (some (.int r))) args s 0 0 A) (F0 m 154 ls [.int y0]) := by
  obtain ⟨hx, hb, hr, hml, hG, hown, hlocks, hK, hA⟩ := id hC
  intro u x1 x2 x3 x4 x5 x6 x7 x8 x9 y0 r w h H locs ls hP hD hS hl
  unfold f_B_message_154 at h
  refine lv_istore (lv' := [(10, .int y0), (0, .ref (bd 0)), (1, .int x1), (2, .int x2), (3, .int x3), (4, .int x4), (5, .int x5), (6, .int x6), (7, .int x7), (8, .int x8), (9, .int x9)]) hx hb dB_message_154 hl (by decide) rfl (fun ls hl => ?_)
  refine lv_aload_n hx hb dB_message_156 rfl (lv_at hl 1 rfl) ?_
  refine lv_bipush (v := (11 : Int32)) hx hb dB_message_157 (by decide) ?_
  refine lv_iload hx hb dB_message_159 (lv_at hl 7 rfl) ?_
  refine lv_iload hx hb dB_message_161 (lv_at hl 8 rfl) ?_
  refine lv_iconst (v := (1 : Int32)) hx hb dB_message_163 (by decide) ?_
  refine lv_iload hx hb dB_message_164 (lv_at hl 0 rfl) ?_
  refine lv_iconst (v := (1 : Int32)) hx hb dB_message_166 (by decide) ?_
  refine lv_icmp_ne (tgt := 182) hx hb dB_message_167 (by decide) (fun hc => ?_) (fun hc => ?_)
  · rw [if_neg hc] at h
    exact lp_B_message_182 hC N u x1 x2 x3 x4 x5 x6 x7 x8 x9 y0 (11 : Int32) x6 x7 (1 : Int32) _ _ h H locs ls hP hD hS (lv_sub hl [1, 2, 3, 4, 5, 6, 7, 8, 9, 10, 0] rfl)
  · rw [if_pos hc] at h
    refine lv_aload_n hx hb dB_message_170 rfl (lv_at hl 1 rfl) ?_
    refine va_get (D := D) (ci := 6) (v := .int (u.1 5)) (C := RB) (T := TB) (N := 36) hx hb hG inB hown hK hP 0 rfl rfl 25 (by decide) (hG _ mw_670) (fun _ h9 => h9) rfl dB_message_171 ?_
    refine lv_iload hx hb dB_message_174 (lv_at hl 5 rfl) ?_
    refine lv_iadd hx hb dB_message_176 ?_
    refine lv_bipush (v := (100 : Int32)) hx hb dB_message_177 (by decide) ?_
    refine lv_icmp_gt (tgt := 186) hx hb dB_message_179 (by decide) (fun hc => ?_) (fun hc => ?_)
    · rw [if_pos hc] at h
      refine lv_iconst (v := (0 : Int32)) hx hb dB_message_186 (by decide) ?_
      exact lp_B_message_187 hC N u x1 x2 x3 x4 x5 x6 x7 x8 x9 y0 (11 : Int32) x6 x7 (1 : Int32) (0 : Int32) _ _ h H locs ls hP hD hS (lv_sub hl [1, 2, 3, 4, 5, 6, 7, 8, 9, 10, 0] rfl)
    · rw [if_neg hc] at h
      exact lp_B_message_182 hC N u x1 x2 x3 x4 x5 x6 x7 x8 x9 y0 (11 : Int32) x6 x7 (1 : Int32) _ _ h H locs ls hP hD hS (lv_sub hl [1, 2, 3, 4, 5, 6, 7, 8, 9, 10, 0] rfl)
set_option maxHeartbeats 4000000 in
set_option maxRecDepth 100000 in
theorem lp_B_message_126 {p : Program} {l : Launch} {e : Env} {s : State} {m : MethodId} {args : Array Value} {below : List Frame} {meth : Method} {c : Code} {A : Nat → Prop} {D : va_G} {bd : Nat → Nat} {cI cZ : ClassId} (hC : gw_C p s m args meth c "AidRowsModel" cB_message 11 (some .int) gG D vwCl (tB cI cZ) A) (N : Nat) : ∀ (u : StB) (x1 : Int32) (x2 : Int32) (x3 : Int32) (x4 : Int32) (x5 : Int32) (x6 : Int32) (x7 : Int32) (x8 : Int32) (y0 : Int32) (r : Int32) (w : StB), f_B_message_126 N u x1 x2 x3 x4 x5 x6 x7 x8 y0 = some (r, w) → ∀ (H : Heap) (locs : List Loc) (ls : Array Slot), va_P D vwCl (wB bd cI cZ u) H → va_D A (wB bd cI cZ u) → va_S A s.heap H locs → lv_has ls 11 [(0, .ref (bd 0)), (1, .int x1), (2, .int x2), (3, .int x3), (4, .int x4), (5, .int x5), (6, .int x6), (7, .int x7), (8, .int x8)] → W p l e ({ frames := 5, cells := 0, slots := 0, locals := 117 } : Room) s m args below meth c H locs 0 0 (MQ below (gw_Q D vwCl (wB bd cI cZ) A w (some (.int r))) args s 0 0 A) (F0 m 126 ls [.int y0]) := by
  obtain ⟨hx, hb, hr, hml, hG, hown, hlocks, hK, hA⟩ := id hC
  intro u x1 x2 x3 x4 x5 x6 x7 x8 y0 r w h H locs ls hP hD hS hl
  unfold f_B_message_126 at h
  refine lv_istore (lv' := [(9, .int y0), (0, .ref (bd 0)), (1, .int x1), (2, .int x2), (3, .int x3), (4, .int x4), (5, .int x5), (6, .int x6), (7, .int x7), (8, .int x8)]) hx hb dB_message_126 hl (by decide) rfl (fun ls hl => ?_)
  refine lv_iload hx hb dB_message_128 (lv_at hl 0 rfl) ?_
  refine lv_if_eq (tgt := 144) hx hb dB_message_130 (by decide) (fun hc => ?_) (fun hc => ?_)
  · rw [if_pos hc] at h
    refine lv_iload hx hb dB_message_144 (lv_at hl 9 rfl) ?_
    refine lv_if_eq (tgt := 153) hx hb dB_message_146 (by decide) (fun hc => ?_) (fun hc => ?_)
    · rw [if_pos hc] at h
      refine lv_iconst (v := (5 : Int32)) hx hb dB_message_153 (by decide) ?_
      exact lp_B_message_154 hC N u x1 x2 x3 x4 x5 x6 x7 x8 y0 (5 : Int32) _ _ h H locs ls hP hD hS (lv_sub hl [1, 2, 3, 4, 5, 6, 7, 8, 9, 0] rfl)
    · rw [if_neg hc] at h
      refine lv_iconst (v := (2 : Int32)) hx hb dB_message_149 (by decide) ?_
      refine lv_goto (tgt := 154) hx hb dB_message_150 (by decide) ?_
      exact lp_B_message_154 hC N u x1 x2 x3 x4 x5 x6 x7 x8 y0 (2 : Int32) _ _ h H locs ls hP hD hS (lv_sub hl [1, 2, 3, 4, 5, 6, 7, 8, 9, 0] rfl)
  · rw [if_neg hc] at h
    refine lv_aload_n hx hb dB_message_133 rfl (lv_at hl 1 rfl) ?_
    refine lv_iload_n hx hb dB_message_134 rfl (lv_at hl 2 rfl) ?_
    refine lv_iload_n hx hb dB_message_135 rfl (lv_at hl 3 rfl) ?_
    refine lv_iload hx hb dB_message_136 (lv_at hl 5 rfl) ?_
    obtain ⟨q3, q3_h, h⟩ := gw_bind h
    refine gw_callV (As := [.int x1, .int x2, .int x4]) (rest := []) (u := u) (u' := u) hx hb hml hown hG (c_B_what l D bd cI cZ N u x1 x2 x4 _ q3_h) lk_B_145 rfl rfl ⟨Nat.le_of_ble_eq_true rfl, Nat.le_of_ble_eq_true rfl⟩ (va_recv hK hP (ci := 6) (q0 := 0) rfl rfl) hK hP hD hS hA rfl hl.1 rfl (Nat.le_of_ble_eq_true rfl) dB_message_138 ⟨Nat.le_of_ble_eq_true rfl, Nat.le_of_ble_eq_true rfl⟩ (fun H locs hP hD hS => ?_)
    refine lv_goto (tgt := 154) hx hb dB_message_141 (by decide) ?_
    exact lp_B_message_154 hC N u x1 x2 x3 x4 x5 x6 x7 x8 y0 q3 _ _ h H locs ls hP hD hS (lv_sub hl [1, 2, 3, 4, 5, 6, 7, 8, 9, 0] rfl)
set_option maxHeartbeats 4000000 in
set_option maxRecDepth 100000 in
theorem lp_B_message_125 {p : Program} {l : Launch} {e : Env} {s : State} {m : MethodId} {args : Array Value} {below : List Frame} {meth : Method} {c : Code} {A : Nat → Prop} {D : va_G} {bd : Nat → Nat} {cI cZ : ClassId} (hC : gw_C p s m args meth c "AidRowsModel" cB_message 11 (some .int) gG D vwCl (tB cI cZ) A) (N : Nat) : ∀ (u : StB) (x1 : Int32) (x2 : Int32) (x3 : Int32) (x4 : Int32) (x5 : Int32) (x6 : Int32) (x7 : Int32) (x8 : Int32) (r : Int32) (w : StB), f_B_message_125 N u x1 x2 x3 x4 x5 x6 x7 x8 = some (r, w) → ∀ (H : Heap) (locs : List Loc) (ls : Array Slot), va_P D vwCl (wB bd cI cZ u) H → va_D A (wB bd cI cZ u) → va_S A s.heap H locs → lv_has ls 11 [(0, .ref (bd 0)), (1, .int x1), (2, .int x2), (3, .int x3), (4, .int x4), (5, .int x5), (6, .int x6), (7, .int x7), (8, .int x8)] → W p l e ({ frames := 5, cells := 0, slots := 0, locals := 117 } : Room) s m args below meth c H locs 0 0 (MQ below (gw_Q D vwCl (wB bd cI cZ) A w (some (.int r))) args s 0 0 A) (F0 m 125 ls []) := by
  obtain ⟨hx, hb, hr, hml, hG, hown, hlocks, hK, hA⟩ := id hC
  intro u x1 x2 x3 x4 x5 x6 x7 x8 r w h H locs ls hP hD hS hl
  unfold f_B_message_125 at h
  refine lv_iconst (v := (0 : Int32)) hx hb dB_message_125 (by decide) ?_
  exact lp_B_message_126 hC N u x1 x2 x3 x4 x5 x6 x7 x8 (0 : Int32) _ _ h H locs ls hP hD hS (lv_sub hl [0, 1, 2, 3, 4, 5, 6, 7, 8] rfl)
set_option maxHeartbeats 4000000 in
set_option maxRecDepth 100000 in
theorem lp_B_message_94 {p : Program} {l : Launch} {e : Env} {s : State} {m : MethodId} {args : Array Value} {below : List Frame} {meth : Method} {c : Code} {A : Nat → Prop} {D : va_G} {bd : Nat → Nat} {cI cZ : ClassId} (hC : gw_C p s m args meth c "AidRowsModel" cB_message 11 (some .int) gG D vwCl (tB cI cZ) A) (N : Nat) : ∀ (u : StB) (x1 : Int32) (x2 : Int32) (x3 : Int32) (x4 : Int32) (x5 : Int32) (x6 : Int32) (x7 : Int32) (y0 : Int32) (r : Int32) (w : StB), f_B_message_94 N u x1 x2 x3 x4 x5 x6 x7 y0 = some (r, w) → ∀ (H : Heap) (locs : List Loc) (ls : Array Slot), va_P D vwCl (wB bd cI cZ u) H → va_D A (wB bd cI cZ u) → va_S A s.heap H locs → lv_has ls 11 [(0, .ref (bd 0)), (1, .int x1), (2, .int x2), (3, .int x3), (4, .int x4), (5, .int x5), (6, .int x6), (7, .int x7)] → W p l e ({ frames := 5, cells := 0, slots := 0, locals := 117 } : Room) s m args below meth c H locs 0 0 (MQ below (gw_Q D vwCl (wB bd cI cZ) A w (some (.int r))) args s 0 0 A) (F0 m 94 ls [.int y0]) := by
  obtain ⟨hx, hb, hr, hml, hG, hown, hlocks, hK, hA⟩ := id hC
  intro u x1 x2 x3 x4 x5 x6 x7 y0 r w h H locs ls hP hD hS hl
  unfold f_B_message_94 at h
  refine lv_istore (lv' := [(8, .int y0), (0, .ref (bd 0)), (1, .int x1), (2, .int x2), (3, .int x3), (4, .int x4), (5, .int x5), (6, .int x6), (7, .int x7)]) hx hb dB_message_94 hl (by decide) rfl (fun ls hl => ?_)
  refine lv_iload hx hb dB_message_96 (lv_at hl 0 rfl) ?_
  refine lv_if_eq (tgt := 125) hx hb dB_message_98 (by decide) (fun hc => ?_) (fun hc => ?_)
  · rw [if_pos hc] at h
    exact lp_B_message_125 hC N u x1 x2 x3 x4 x5 x6 x7 y0 _ _ h H locs ls hP hD hS (lv_sub hl [1, 2, 3, 4, 5, 6, 7, 8, 0] rfl)
  · rw [if_neg hc] at h
    refine lv_iload hx hb dB_message_101 (lv_at hl 8 rfl) ?_
    refine lv_if_eq (tgt := 125) hx hb dB_message_103 (by decide) (fun hc => ?_) (fun hc => ?_)
    · rw [if_pos hc] at h
      exact lp_B_message_125 hC N u x1 x2 x3 x4 x5 x6 x7 y0 _ _ h H locs ls hP hD hS (lv_sub hl [1, 2, 3, 4, 5, 6, 7, 8, 0] rfl)
    · rw [if_neg hc] at h
      refine lv_aload_n hx hb dB_message_106 rfl (lv_at hl 1 rfl) ?_
      refine va_get (D := D) (ci := 6) (v := .ref (bd 27)) (C := RB) (T := TB) (N := 36) hx hb hG inB hown hK hP 0 rfl rfl 32 (by decide) (hG _ mw_677) (fun _ h9 => h9) rfl dB_message_107 ?_
      refine lv_sipush (v := (1000 : Int32)) hx hb dB_message_110 (by decide) ?_
      refine lv_iload_n hx hb dB_message_113 rfl (lv_at hl 3 rfl) ?_
      refine lv_imul hx hb dB_message_114 ?_
      refine lv_iload_n hx hb dB_message_115 rfl (lv_at hl 4 rfl) ?_
      refine lv_iadd hx hb dB_message_116 ?_
      obtain ⟨hg2, h⟩ := gI_some h
      refine va_iald (f := (u.2 26)) hx hb hK hP 27 0 rfl rfl hg2 dB_message_117 ?_
      refine lv_if_ne (tgt := 125) hx hb dB_message_118 (by decide) (fun hc => ?_) (fun hc => ?_)
      · rw [if_neg hc] at h
        exact lp_B_message_125 hC N u x1 x2 x3 x4 x5 x6 x7 y0 _ _ h H locs ls hP hD hS (lv_sub hl [1, 2, 3, 4, 5, 6, 7, 8, 0] rfl)
      · rw [if_pos hc] at h
        refine lv_iconst (v := (1 : Int32)) hx hb dB_message_121 (by decide) ?_
        refine lv_goto (tgt := 126) hx hb dB_message_122 (by decide) ?_
        exact lp_B_message_126 hC N u x1 x2 x3 x4 x5 x6 x7 y0 (1 : Int32) _ _ h H locs ls hP hD hS (lv_sub hl [1, 2, 3, 4, 5, 6, 7, 8, 0] rfl)
set_option maxHeartbeats 4000000 in
set_option maxRecDepth 100000 in
theorem lp_B_message_93 {p : Program} {l : Launch} {e : Env} {s : State} {m : MethodId} {args : Array Value} {below : List Frame} {meth : Method} {c : Code} {A : Nat → Prop} {D : va_G} {bd : Nat → Nat} {cI cZ : ClassId} (hC : gw_C p s m args meth c "AidRowsModel" cB_message 11 (some .int) gG D vwCl (tB cI cZ) A) (N : Nat) : ∀ (u : StB) (x1 : Int32) (x2 : Int32) (x3 : Int32) (x4 : Int32) (x5 : Int32) (x6 : Int32) (x7 : Int32) (r : Int32) (w : StB), f_B_message_93 N u x1 x2 x3 x4 x5 x6 x7 = some (r, w) → ∀ (H : Heap) (locs : List Loc) (ls : Array Slot), va_P D vwCl (wB bd cI cZ u) H → va_D A (wB bd cI cZ u) → va_S A s.heap H locs → lv_has ls 11 [(0, .ref (bd 0)), (1, .int x1), (2, .int x2), (3, .int x3), (4, .int x4), (5, .int x5), (6, .int x6), (7, .int x7)] → W p l e ({ frames := 5, cells := 0, slots := 0, locals := 117 } : Room) s m args below meth c H locs 0 0 (MQ below (gw_Q D vwCl (wB bd cI cZ) A w (some (.int r))) args s 0 0 A) (F0 m 93 ls []) := by
  obtain ⟨hx, hb, hr, hml, hG, hown, hlocks, hK, hA⟩ := id hC
  intro u x1 x2 x3 x4 x5 x6 x7 r w h H locs ls hP hD hS hl
  unfold f_B_message_93 at h
  refine lv_iconst (v := (0 : Int32)) hx hb dB_message_93 (by decide) ?_
  exact lp_B_message_94 hC N u x1 x2 x3 x4 x5 x6 x7 (0 : Int32) _ _ h H locs ls hP hD hS (lv_sub hl [0, 1, 2, 3, 4, 5, 6, 7] rfl)
set_option maxHeartbeats 4000000 in
set_option maxRecDepth 100000 in
theorem lp_B_message_73 {p : Program} {l : Launch} {e : Env} {s : State} {m : MethodId} {args : Array Value} {below : List Frame} {meth : Method} {c : Code} {A : Nat → Prop} {D : va_G} {bd : Nat → Nat} {cI cZ : ClassId} (hC : gw_C p s m args meth c "AidRowsModel" cB_message 11 (some .int) gG D vwCl (tB cI cZ) A) (N : Nat) : ∀ (u : StB) (x1 : Int32) (x2 : Int32) (x3 : Int32) (x4 : Int32) (x5 : Int32) (x6 : Int32) (y0 : Int32) (r : Int32) (w : StB), f_B_message_73 N u x1 x2 x3 x4 x5 x6 y0 = some (r, w) → ∀ (H : Heap) (locs : List Loc) (ls : Array Slot), va_P D vwCl (wB bd cI cZ u) H → va_D A (wB bd cI cZ u) → va_S A s.heap H locs → lv_has ls 11 [(0, .ref (bd 0)), (1, .int x1), (2, .int x2), (3, .int x3), (4, .int x4), (5, .int x5), (6, .int x6)] → W p l e ({ frames := 5, cells := 0, slots := 0, locals := 117 } : Room) s m args below meth c H locs 0 0 (MQ below (gw_Q D vwCl (wB bd cI cZ) A w (some (.int r))) args s 0 0 A) (F0 m 73 ls [.int y0]) := by
  obtain ⟨hx, hb, hr, hml, hG, hown, hlocks, hK, hA⟩ := id hC
  intro u x1 x2 x3 x4 x5 x6 y0 r w h H locs ls hP hD hS hl
  unfold f_B_message_73 at h
  refine lv_istore (lv' := [(7, .int y0), (0, .ref (bd 0)), (1, .int x1), (2, .int x2), (3, .int x3), (4, .int x4), (5, .int x5), (6, .int x6)]) hx hb dB_message_73 hl (by decide) rfl (fun ls hl => ?_)
  refine lv_iload hx hb dB_message_75 (lv_at hl 7 rfl) ?_
  refine lv_if_eq (tgt := 93) hx hb dB_message_77 (by decide) (fun hc => ?_) (fun hc => ?_)
  · rw [if_pos hc] at h
    exact lp_B_message_93 hC N u x1 x2 x3 x4 x5 x6 y0 _ _ h H locs ls hP hD hS (lv_sub hl [1, 2, 3, 4, 5, 6, 7, 0] rfl)
  · rw [if_neg hc] at h
    refine lv_aload_n hx hb dB_message_80 rfl (lv_at hl 1 rfl) ?_
    refine va_get (D := D) (ci := 6) (v := .ref (bd 3)) (C := RB) (T := TB) (N := 36) hx hb hG inB hown hK hP 0 rfl rfl 5 (by decide) (hG _ mw_650) (fun _ h9 => h9) rfl dB_message_81 ?_
    refine lv_iload_n hx hb dB_message_84 rfl (lv_at hl 3 rfl) ?_
    obtain ⟨hg1, h⟩ := gI_some h
    refine va_zald (f := (u.2 2)) hx hb hK hP 3 1 rfl rfl hg1 dB_message_85 ?_
    refine lv_if_ne (tgt := 93) hx hb dB_message_86 (by decide) (fun hc => ?_) (fun hc => ?_)
    · rw [if_neg hc] at h
      exact lp_B_message_93 hC N u x1 x2 x3 x4 x5 x6 y0 _ _ h H locs ls hP hD hS (lv_sub hl [1, 2, 3, 4, 5, 6, 7, 0] rfl)
    · rw [if_pos hc] at h
      refine lv_iconst (v := (1 : Int32)) hx hb dB_message_89 (by decide) ?_
      refine lv_goto (tgt := 94) hx hb dB_message_90 (by decide) ?_
      exact lp_B_message_94 hC N u x1 x2 x3 x4 x5 x6 y0 (1 : Int32) _ _ h H locs ls hP hD hS (lv_sub hl [1, 2, 3, 4, 5, 6, 7, 0] rfl)
set_option maxHeartbeats 4000000 in
set_option maxRecDepth 100000 in
theorem lp_B_message_72 {p : Program} {l : Launch} {e : Env} {s : State} {m : MethodId} {args : Array Value} {below : List Frame} {meth : Method} {c : Code} {A : Nat → Prop} {D : va_G} {bd : Nat → Nat} {cI cZ : ClassId} (hC : gw_C p s m args meth c "AidRowsModel" cB_message 11 (some .int) gG D vwCl (tB cI cZ) A) (N : Nat) : ∀ (u : StB) (x1 : Int32) (x2 : Int32) (x3 : Int32) (x4 : Int32) (x5 : Int32) (x6 : Int32) (r : Int32) (w : StB), f_B_message_72 N u x1 x2 x3 x4 x5 x6 = some (r, w) → ∀ (H : Heap) (locs : List Loc) (ls : Array Slot), va_P D vwCl (wB bd cI cZ u) H → va_D A (wB bd cI cZ u) → va_S A s.heap H locs → lv_has ls 11 [(0, .ref (bd 0)), (1, .int x1), (2, .int x2), (3, .int x3), (4, .int x4), (5, .int x5), (6, .int x6)] → W p l e ({ frames := 5, cells := 0, slots := 0, locals := 117 } : Room) s m args below meth c H locs 0 0 (MQ below (gw_Q D vwCl (wB bd cI cZ) A w (some (.int r))) args s 0 0 A) (F0 m 72 ls []) := by
  obtain ⟨hx, hb, hr, hml, hG, hown, hlocks, hK, hA⟩ := id hC
  intro u x1 x2 x3 x4 x5 x6 r w h H locs ls hP hD hS hl
  unfold f_B_message_72 at h
  refine lv_iconst (v := (0 : Int32)) hx hb dB_message_72 (by decide) ?_
  exact lp_B_message_73 hC N u x1 x2 x3 x4 x5 x6 (0 : Int32) _ _ h H locs ls hP hD hS (lv_sub hl [0, 1, 2, 3, 4, 5, 6] rfl)
set_option maxHeartbeats 4000000 in
set_option maxRecDepth 100000 in
theorem lp_B_message_68 {p : Program} {l : Launch} {e : Env} {s : State} {m : MethodId} {args : Array Value} {below : List Frame} {meth : Method} {c : Code} {A : Nat → Prop} {D : va_G} {bd : Nat → Nat} {cI cZ : ClassId} (hC : gw_C p s m args meth c "AidRowsModel" cB_message 11 (some .int) gG D vwCl (tB cI cZ) A) (N : Nat) : ∀ (u : StB) (x1 : Int32) (x2 : Int32) (x3 : Int32) (x4 : Int32) (x5 : Int32) (x6 : Int32) (r : Int32) (w : StB), f_B_message_68 N u x1 x2 x3 x4 x5 x6 = some (r, w) → ∀ (H : Heap) (locs : List Loc) (ls : Array Slot), va_P D vwCl (wB bd cI cZ u) H → va_D A (wB bd cI cZ u) → va_S A s.heap H locs → lv_has ls 11 [(0, .ref (bd 0)), (1, .int x1), (2, .int x2), (3, .int x3), (4, .int x4), (5, .int x5), (6, .int x6)] → W p l e ({ frames := 5, cells := 0, slots := 0, locals := 117 } : Room) s m args below meth c H locs 0 0 (MQ below (gw_Q D vwCl (wB bd cI cZ) A w (some (.int r))) args s 0 0 A) (F0 m 68 ls []) := by
  obtain ⟨hx, hb, hr, hml, hG, hown, hlocks, hK, hA⟩ := id hC
  intro u x1 x2 x3 x4 x5 x6 r w h H locs ls hP hD hS hl
  unfold f_B_message_68 at h
  refine lv_iconst (v := (1 : Int32)) hx hb dB_message_68 (by decide) ?_
  refine lv_goto (tgt := 73) hx hb dB_message_69 (by decide) ?_
  exact lp_B_message_73 hC N u x1 x2 x3 x4 x5 x6 (1 : Int32) _ _ h H locs ls hP hD hS (lv_sub hl [0, 1, 2, 3, 4, 5, 6] rfl)
set_option maxHeartbeats 4000000 in
set_option maxRecDepth 100000 in
theorem lp_B_message_27 {p : Program} {l : Launch} {e : Env} {s : State} {m : MethodId} {args : Array Value} {below : List Frame} {meth : Method} {c : Code} {A : Nat → Prop} {D : va_G} {bd : Nat → Nat} {cI cZ : ClassId} (hC : gw_C p s m args meth c "AidRowsModel" cB_message 11 (some .int) gG D vwCl (tB cI cZ) A) (N : Nat) : ∀ (u : StB) (x1 : Int32) (x2 : Int32) (x3 : Int32) (x4 : Int32) (x5 : Int32) (y0 : Int32) (r : Int32) (w : StB), f_B_message_27 N u x1 x2 x3 x4 x5 y0 = some (r, w) → ∀ (H : Heap) (locs : List Loc) (ls : Array Slot), va_P D vwCl (wB bd cI cZ u) H → va_D A (wB bd cI cZ u) → va_S A s.heap H locs → lv_has ls 11 [(0, .ref (bd 0)), (1, .int x1), (2, .int x2), (3, .int x3), (4, .int x4), (5, .int x5)] → W p l e ({ frames := 5, cells := 0, slots := 0, locals := 117 } : Room) s m args below meth c H locs 0 0 (MQ below (gw_Q D vwCl (wB bd cI cZ) A w (some (.int r))) args s 0 0 A) (F0 m 27 ls [.int y0]) := by
  obtain ⟨hx, hb, hr, hml, hG, hown, hlocks, hK, hA⟩ := id hC
  intro u x1 x2 x3 x4 x5 y0 r w h H locs ls hP hD hS hl
  unfold f_B_message_27 at h
  refine lv_istore (lv' := [(6, .int y0), (0, .ref (bd 0)), (1, .int x1), (2, .int x2), (3, .int x3), (4, .int x4), (5, .int x5)]) hx hb dB_message_27 hl (by decide) rfl (fun ls hl => ?_)
  refine lv_iload_n hx hb dB_message_29 rfl (lv_at hl 4 rfl) ?_
  refine lv_iconst (v := (0 : Int32)) hx hb dB_message_30 (by decide) ?_
  refine lv_sipush (v := (999 : Int32)) hx hb dB_message_31 (by decide) ?_
  refine gw_callS (As := [.int x3, .int (0 : Int32), .int (999 : Int32)]) (rest := []) (u := u) (u' := u) hx hb hml hown hG (c_B_in l D bd cI cZ u x3 (0 : Int32) (999 : Int32) _ rfl) lk_B_102 rfl rfl ⟨Nat.le_of_ble_eq_true rfl, Nat.le_of_ble_eq_true rfl⟩ hK hP hD hS hA rfl hl.1 rfl (Nat.le_of_ble_eq_true rfl) dB_message_34 ⟨Nat.le_of_ble_eq_true rfl, Nat.le_of_ble_eq_true rfl⟩ (fun H locs hP hD hS => ?_)
  refine lv_if_eq (tgt := 72) hx hb dB_message_37 (by decide) (fun hc => ?_) (fun hc => ?_)
  · rw [if_pos hc] at h
    exact lp_B_message_72 hC N u x1 x2 x3 x4 x5 y0 _ _ h H locs ls hP hD hS (lv_sub hl [1, 2, 3, 4, 5, 6, 0] rfl)
  · rw [if_neg hc] at h
    refine lv_iload hx hb dB_message_40 (lv_at hl 5 rfl) ?_
    refine lv_iconst (v := (0 : Int32)) hx hb dB_message_42 (by decide) ?_
    refine lv_bipush (v := (20 : Int32)) hx hb dB_message_43 (by decide) ?_
    refine gw_callS (As := [.int x4, .int (0 : Int32), .int (20 : Int32)]) (rest := []) (u := u) (u' := u) hx hb hml hown hG (c_B_in l D bd cI cZ u x4 (0 : Int32) (20 : Int32) _ rfl) lk_B_102 rfl rfl ⟨Nat.le_of_ble_eq_true rfl, Nat.le_of_ble_eq_true rfl⟩ hK hP hD hS hA rfl hl.1 rfl (Nat.le_of_ble_eq_true rfl) dB_message_45 ⟨Nat.le_of_ble_eq_true rfl, Nat.le_of_ble_eq_true rfl⟩ (fun H locs hP hD hS => ?_)
    refine lv_if_eq (tgt := 72) hx hb dB_message_48 (by decide) (fun hc => ?_) (fun hc => ?_)
    · rw [if_pos hc] at h
      exact lp_B_message_72 hC N u x1 x2 x3 x4 x5 y0 _ _ h H locs ls hP hD hS (lv_sub hl [1, 2, 3, 4, 5, 6, 0] rfl)
    · rw [if_neg hc] at h
      refine lv_iload hx hb dB_message_51 (lv_at hl 5 rfl) ?_
      refine lv_if_eq (tgt := 68) hx hb dB_message_53 (by decide) (fun hc => ?_) (fun hc => ?_)
      · rw [if_pos hc] at h
        exact lp_B_message_68 hC N u x1 x2 x3 x4 x5 y0 _ _ h H locs ls hP hD hS (lv_sub hl [1, 2, 3, 4, 5, 6, 0] rfl)
      · rw [if_neg hc] at h
        refine lv_iload hx hb dB_message_56 (lv_at hl 6 rfl) ?_
        refine lv_iconst (v := (0 : Int32)) hx hb dB_message_58 (by decide) ?_
        refine lv_sipush (v := (999 : Int32)) hx hb dB_message_59 (by decide) ?_
        refine gw_callS (As := [.int x5, .int (0 : Int32), .int (999 : Int32)]) (rest := []) (u := u) (u' := u) hx hb hml hown hG (c_B_in l D bd cI cZ u x5 (0 : Int32) (999 : Int32) _ rfl) lk_B_102 rfl rfl ⟨Nat.le_of_ble_eq_true rfl, Nat.le_of_ble_eq_true rfl⟩ hK hP hD hS hA rfl hl.1 rfl (Nat.le_of_ble_eq_true rfl) dB_message_62 ⟨Nat.le_of_ble_eq_true rfl, Nat.le_of_ble_eq_true rfl⟩ (fun H locs hP hD hS => ?_)
        refine lv_if_eq (tgt := 72) hx hb dB_message_65 (by decide) (fun hc => ?_) (fun hc => ?_)
        · rw [if_pos hc] at h
          exact lp_B_message_72 hC N u x1 x2 x3 x4 x5 y0 _ _ h H locs ls hP hD hS (lv_sub hl [1, 2, 3, 4, 5, 6, 0] rfl)
        · rw [if_neg hc] at h
          exact lp_B_message_68 hC N u x1 x2 x3 x4 x5 y0 _ _ h H locs ls hP hD hS (lv_sub hl [1, 2, 3, 4, 5, 6, 0] rfl)
set_option maxHeartbeats 4000000 in
set_option maxRecDepth 100000 in
theorem lp_B_message_26 {p : Program} {l : Launch} {e : Env} {s : State} {m : MethodId} {args : Array Value} {below : List Frame} {meth : Method} {c : Code} {A : Nat → Prop} {D : va_G} {bd : Nat → Nat} {cI cZ : ClassId} (hC : gw_C p s m args meth c "AidRowsModel" cB_message 11 (some .int) gG D vwCl (tB cI cZ) A) (N : Nat) : ∀ (u : StB) (x1 : Int32) (x2 : Int32) (x3 : Int32) (x4 : Int32) (x5 : Int32) (r : Int32) (w : StB), f_B_message_26 N u x1 x2 x3 x4 x5 = some (r, w) → ∀ (H : Heap) (locs : List Loc) (ls : Array Slot), va_P D vwCl (wB bd cI cZ u) H → va_D A (wB bd cI cZ u) → va_S A s.heap H locs → lv_has ls 11 [(0, .ref (bd 0)), (1, .int x1), (2, .int x2), (3, .int x3), (4, .int x4), (5, .int x5)] → W p l e ({ frames := 5, cells := 0, slots := 0, locals := 117 } : Room) s m args below meth c H locs 0 0 (MQ below (gw_Q D vwCl (wB bd cI cZ) A w (some (.int r))) args s 0 0 A) (F0 m 26 ls []) := by
  obtain ⟨hx, hb, hr, hml, hG, hown, hlocks, hK, hA⟩ := id hC
  intro u x1 x2 x3 x4 x5 r w h H locs ls hP hD hS hl
  unfold f_B_message_26 at h
  refine lv_iconst (v := (0 : Int32)) hx hb dB_message_26 (by decide) ?_
  exact lp_B_message_27 hC N u x1 x2 x3 x4 x5 (0 : Int32) _ _ h H locs ls hP hD hS (lv_sub hl [0, 1, 2, 3, 4, 5] rfl)
set_option maxHeartbeats 4000000 in
set_option maxRecDepth 100000 in
theorem c_B_message (l : Launch) (D : va_G) (bd : Nat → Nat) (cI cZ : ClassId) (N : Nat) (u : StB) (a1 : Int32) (a2 : Int32) (a3 : Int32) (a4 : Int32) (a5 : Int32) (r : Int32) (w : StB) (h : f_B_message N u a1 a2 a3 a4 a5 = some (r, w)) : gw_Ct l D vwCl (tB cI cZ) (wB bd cI cZ) yB_message (Cond.code yB_message cB_message 11 (some .int) :: gG) ({ frames := 5, cells := 0, slots := 0, locals := 117 } : Room) [.ref (bd 0), .int a1, .int a2, .int a3, .int a4, .int a5] u (some (.int r)) w := by
  refine gw_enter (by decide) (Nat.le_of_ble_eq_true rfl) ?_
  intro p e s m below meth c A hC hP hD hS ls hl
  obtain ⟨hx, hb, hr, hml, hG, hown, hlocks, hK, hA⟩ := id hC
  have hl : lv_has ls 11 [(0, .ref (bd 0)), (1, .int a1), (2, .int a2), (3, .int a3), (4, .int a4), (5, .int a5)] := hl
  obtain ⟨H, hH⟩ : ∃ H, H = s.heap := ⟨_, rfl⟩
  obtain ⟨locs, hlocs⟩ : ∃ x : List Loc, x = [] := ⟨_, rfl⟩
  rw [← hlocs] at hS ⊢
  have hP : va_P D vwCl (wB bd cI cZ u) H := by rw [hH]; exact hP
  have hS : va_S A s.heap H locs := by rw [hH]; exact hS
  suffices g : W p l e ({ frames := 5, cells := 0, slots := 0, locals := 117 } : Room) s m [.ref (bd 0), .int a1, .int a2, .int a3, .int a4, .int a5].toArray below meth c H locs 0 0 (MQ below (gw_Q D vwCl (wB bd cI cZ) A w (some (.int r))) [.ref (bd 0), .int a1, .int a2, .int a3, .int a4, .int a5].toArray s 0 0 A) (F0 m 0 ls []) by rw [hH] at g; exact g
  unfold f_B_message at h
  refine lv_iload_n hx hb dB_message_0 rfl (lv_at hl 1 rfl) ?_
  refine lv_iconst (v := (0 : Int32)) hx hb dB_message_1 (by decide) ?_
  refine lv_aload_n hx hb dB_message_2 rfl (lv_at hl 0 rfl) ?_
  refine va_get (D := D) (ci := 6) (v := .int (u.1 4)) (C := RB) (T := TB) (N := 36) hx hb hG inB hown hK hP 0 rfl rfl 14 (by decide) (hG _ mw_659) (fun _ h9 => h9) rfl dB_message_3 ?_
  refine lv_iconst (v := (1 : Int32)) hx hb dB_message_6 (by decide) ?_
  refine lv_isub hx hb dB_message_7 ?_
  refine gw_callS (As := [.int a1, .int (0 : Int32), .int ((u.1 4) - (1 : Int32))]) (rest := []) (u := u) (u' := u) hx hb hml hown hG (c_B_in l D bd cI cZ u a1 (0 : Int32) ((u.1 4) - (1 : Int32)) _ rfl) lk_B_102 rfl rfl ⟨Nat.le_of_ble_eq_true rfl, Nat.le_of_ble_eq_true rfl⟩ hK hP hD hS hA rfl hl.1 rfl (Nat.le_of_ble_eq_true rfl) dB_message_8 ⟨Nat.le_of_ble_eq_true rfl, Nat.le_of_ble_eq_true rfl⟩ (fun H locs hP hD hS => ?_)
  refine lv_if_eq (tgt := 26) hx hb dB_message_11 (by decide) (fun hc => ?_) (fun hc => ?_)
  · rw [if_pos hc] at h
    exact lp_B_message_26 hC N u a1 a2 a3 a4 a5 _ _ h H locs ls hP hD hS (lv_sub hl [0, 1, 2, 3, 4, 5] rfl)
  · rw [if_neg hc] at h
    refine lv_aload_n hx hb dB_message_14 rfl (lv_at hl 0 rfl) ?_
    refine lv_iload_n hx hb dB_message_15 rfl (lv_at hl 2 rfl) ?_
    refine gw_callV (As := [.int a2]) (rest := []) (u := u) (u' := u) hx hb hml hown hG (c_B_isHouse l D bd cI cZ u a2 _ rfl) lk_B_110 rfl rfl ⟨Nat.le_of_ble_eq_true rfl, Nat.le_of_ble_eq_true rfl⟩ (va_recv hK hP (ci := 6) (q0 := 0) rfl rfl) hK hP hD hS hA rfl hl.1 rfl (Nat.le_of_ble_eq_true rfl) dB_message_16 ⟨Nat.le_of_ble_eq_true rfl, Nat.le_of_ble_eq_true rfl⟩ (fun H locs hP hD hS => ?_)
    refine lv_if_eq (tgt := 26) hx hb dB_message_19 (by decide) (fun hc => ?_) (fun hc => ?_)
    · rw [if_pos hc] at h
      exact lp_B_message_26 hC N u a1 a2 a3 a4 a5 _ _ h H locs ls hP hD hS (lv_sub hl [0, 1, 2, 3, 4, 5] rfl)
    · rw [if_neg hc] at h
      refine lv_iconst (v := (1 : Int32)) hx hb dB_message_22 (by decide) ?_
      refine lv_goto (tgt := 27) hx hb dB_message_23 (by decide) ?_
      exact lp_B_message_27 hC N u a1 a2 a3 a4 a5 (1 : Int32) _ _ h H locs ls hP hD hS (lv_sub hl [0, 1, 2, 3, 4, 5] rfl)
