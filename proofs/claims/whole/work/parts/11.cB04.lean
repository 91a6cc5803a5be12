set_option maxHeartbeats 4000000 in
set_option maxRecDepth 100000 in
theorem c_B_seen (l : Launch) (D : va_G) (bd : Nat → Nat) (cI cZ : ClassId) (N : Nat) (u : StB) (a1 : Int32) (a2 : Int32) (r : Int32) (w : StB) (h : f_B_seen N u a1 a2 = some (r, w)) : gw_Ct l D vwCl (tB cI cZ) (wB bd cI cZ) yB_seen (Cond.code yB_seen cB_seen 3 (some .int) :: gG) ({ frames := 2, cells := 0, slots := 0, locals := 43 } : Room) [.ref (bd 0), .int a1, .int a2] u (some (.int r)) w := by
  refine gw_enter (by decide) (Nat.le_of_ble_eq_true rfl) ?_
  intro p e s m below meth c A hC hP hD hS ls hl
  obtain ⟨hx, hb, hr, hml, hG, hown, hlocks, hK, hA⟩ := id hC
  have hl : lv_has ls 3 [(0, .ref (bd 0)), (1, .int a1), (2, .int a2)] := hl
  obtain ⟨H, hH⟩ : ∃ H, H = s.heap := ⟨_, rfl⟩
  obtain ⟨locs, hlocs⟩ : ∃ x : List Loc, x = [] := ⟨_, rfl⟩
  rw [← hlocs] at hS ⊢
  have hP : va_P D vwCl (wB bd cI cZ u) H := by rw [hH]; exact hP
  have hS : va_S A s.heap H locs := by rw [hH]; exact hS
  suffices g : W p l e ({ frames := 2, cells := 0, slots := 0, locals := 43 } : Room) s m [.ref (bd 0), .int a1, .int a2].toArray below meth c H locs 0 0 (MQ below (gw_Q D vwCl (wB bd cI cZ) A w (some (.int r))) [.ref (bd 0), .int a1, .int a2].toArray s 0 0 A) (F0 m 0 ls []) by rw [hH] at g; exact g
  unfold f_B_seen at h
  refine lv_aload_n hx hb dB_seen_0 rfl (lv_at hl 0 rfl) ?_
  refine lv_iconst (v := (3 : Int32)) hx hb dB_seen_1 (by decide) ?_
  refine lv_aload_n hx hb dB_seen_2 rfl (lv_at hl 0 rfl) ?_
  refine lv_iload_n hx hb dB_seen_3 rfl (lv_at hl 1 rfl) ?_
  refine gw_callV (As := [.int a1]) (rest := [.int (3 : Int32), .ref (bd 0)]) (u := u) (u' := u) hx hb hml hown hG (c_B_isHouse l D bd cI cZ u a1 _ rfl) lk_B_110 rfl rfl ⟨Nat.le_of_ble_eq_true rfl, Nat.le_of_ble_eq_true rfl⟩ (va_recv hK hP (ci := 6) (q0 := 0) rfl rfl) hK hP hD hS hA rfl hl.1 rfl (Nat.le_of_ble_eq_true rfl) dB_seen_4 ⟨Nat.le_of_ble_eq_true rfl, Nat.le_of_ble_eq_true rfl⟩ (fun H locs hP hD hS => ?_)
  refine lv_iload_n hx hb dB_seen_7 rfl (lv_at hl 2 rfl) ?_
  refine lv_iconst (v := (0 : Int32)) hx hb dB_seen_8 (by decide) ?_
  refine lv_sipush (v := (999 : Int32)) hx hb dB_seen_9 (by decide) ?_
  refine gw_callS (As := [.int a2, .int (0 : Int32), .int (999 : Int32)]) (rest := [.int (f_B_isHouse u a1), .int (3 : Int32), .ref (bd 0)]) (u := u) (u' := u) hx hb hml hown hG (c_B_in l D bd cI cZ u a2 (0 : Int32) (999 : Int32) _ rfl) lk_B_102 rfl rfl ⟨Nat.le_of_ble_eq_true rfl, Nat.le_of_ble_eq_true rfl⟩ hK hP hD hS hA rfl hl.1 rfl (Nat.le_of_ble_eq_true rfl) dB_seen_12 ⟨Nat.le_of_ble_eq_true rfl, Nat.le_of_ble_eq_true rfl⟩ (fun H locs hP hD hS => ?_)
  refine lv_iconst (v := (1 : Int32)) hx hb dB_seen_15 (by decide) ?_
  refine lv_iconst (v := (1 : Int32)) hx hb dB_seen_16 (by decide) ?_
  obtain ⟨q1, q1_h, h⟩ := gw_bind h
  refine gw_callV (As := [.int (3 : Int32), .int (f_B_isHouse u a1), .int (f_B_in a2 (0 : Int32) (999 : Int32)), .int (1 : Int32), .int (1 : Int32)]) (rest := []) (u := u) (u' := q1.2) hx hb hml hown hG (c_B_goes l D bd cI cZ N u (3 : Int32) (f_B_isHouse u a1) (f_B_in a2 (0 : Int32) (999 : Int32)) (1 : Int32) (1 : Int32) _ _ q1_h) lk_B_106 rfl rfl ⟨Nat.le_of_ble_eq_true rfl, Nat.le_of_ble_eq_true rfl⟩ (va_recv hK hP (ci := 6) (q0 := 0) rfl rfl) hK hP hD hS hA rfl hl.1 rfl (Nat.le_of_ble_eq_true rfl) dB_seen_17 ⟨Nat.le_of_ble_eq_true rfl, Nat.le_of_ble_eq_true rfl⟩ (fun H locs hP hD hS => ?_)
  refine lv_if_ne (tgt := 25) hx hb dB_seen_20 (by decide) (fun hc => ?_) (fun hc => ?_)
  · rw [if_neg hc] at h
    refine lv_aload_n hx hb dB_seen_25 rfl (lv_at hl 0 rfl) ?_
    refine va_get (D := D) (ci := 6) (v := .ref (bd 27)) (C := RB) (T := TB) (N := 36) hx hb hG inB hown hK hP 0 rfl rfl 32 (by decide) (hG _ mw_677) (fun _ h9 => h9) rfl dB_seen_26 ?_
    refine lv_sipush (v := (1000 : Int32)) hx hb dB_seen_29 (by decide) ?_
    refine lv_iload_n hx hb dB_seen_32 rfl (lv_at hl 1 rfl) ?_
    refine lv_imul hx hb dB_seen_33 ?_
    refine lv_iload_n hx hb dB_seen_34 rfl (lv_at hl 2 rfl) ?_
    refine lv_iadd hx hb dB_seen_35 ?_
    obtain ⟨hg2, h⟩ := gI_some h
    refine va_iald (f := (q1.2.2 26)) hx hb hK hP 27 0 rfl rfl hg2 dB_seen_36 ?_
    cases h
    exact gw_iret hx hb hr hlocks hP hD hS dB_seen_37
  · rw [if_pos hc] at h
    refine lv_iconst (v := (0 : Int32)) hx hb dB_seen_23 (by decide) ?_
    cases h
    exact gw_iret hx hb hr hlocks hP hD hS dB_seen_24
set_option maxHeartbeats 4000000 in
set_option maxRecDepth 100000 in
theorem lp_B_tick_120 {p : Program} {l : Launch} {e : Env} {s : State} {m : MethodId} {args : Array Value} {below : List Frame} {meth : Method} {c : Code} {A : Nat → Prop} {D : va_G} {bd : Nat → Nat} {cI cZ : ClassId} (hC : gw_C p s m args meth c "AidRowsModel" cB_tick 5 (some .int) gG D vwCl (tB cI cZ) A) (N : Nat) (K : StB → Int32 → Int32 → Int32 → Option (Int32 × StB)) (hKK : ∀ (u : StB) (x1 : Int32) (x2 : Int32) (x3 : Int32) (r : Int32) (w : StB), K u x1 x2 x3 = some (r, w) → ∀ (H : Heap) (locs : List Loc) (ls : Array Slot), va_P D vwCl (wB bd cI cZ u) H → va_D A (wB bd cI cZ u) → va_S A s.heap H locs → lv_has ls 5 [(0, .ref (bd 0)), (1, .int x1), (2, .int x2), (3, .int x3)] → W p l e ({ frames := 4, cells := 0, slots := 0, locals := 91 } : Room) s m args below meth c H locs 0 0 (MQ below (gw_Q D vwCl (wB bd cI cZ) A w (some (.int r))) args s 0 0 A) (F0 m 44 ls [])) : ∀ (n : Nat) (u : StB) (x1 : Int32) (x2 : Int32) (x3 : Int32) (x4 : Int32) (r : Int32) (w : StB), f_B_tick_120 N K n u x1 x2 x3 x4 = some (r, w) → ∀ (H : Heap) (locs : List Loc) (ls : Array Slot), va_P D vwCl (wB bd cI cZ u) H → va_D A (wB bd cI cZ u) → va_S A s.heap H locs → lv_has ls 5 [(0, .ref (bd 0)), (1, .int x1), (2, .int x2), (3, .int x3), (4, .int x4)] → W p l e ({ frames := 4, cells := 0, slots := 0, locals := 91 } : Room) s m args below meth c H locs 0 0 (MQ below (gw_Q D vwCl (wB bd cI cZ) A w (some (.int r))) args s 0 0 A) (F0 m 120 ls []) := by
  obtain ⟨hx, hb, hr, hml, hG, hown, hlocks, hK, hA⟩ := id hC
  intro n
  induction n with
  | zero => intro u x1 x2 x3 x4 r w h; cases h
  | succ n ih =>
    intro u x1 x2 x3 x4 r w h H locs ls hP hD hS hl
    rw [f_B_tick_120] at h
    refine lv_iload hx hb dB_tick_120 (lv_at hl 4 rfl) ?_
    refine lv_aload_n hx hb dB_tick_122 rfl (lv_at hl 0 rfl) ?_
    refine va_get (D := D) (ci := 6) (v := .int (u.1 4)) (C := RB) (T := TB) (N := 36) hx hb hG inB hown hK hP 0 rfl rfl 14 (by decide) (hG _ mw_659) (fun _ h9 => h9) rfl dB_tick_123 ?_
    refine lv_icmp_ge (tgt := 179) hx hb dB_tick_126 (by decide) (fun hc => ?_) (fun hc => ?_)
    · rw [if_pos hc] at h
      refine lv_iinc (v := (x3 + (1 : Int32))) (lv' := [(3, .int (x3 + (1 : Int32))), (0, .ref (bd 0)), (1, .int x1), (2, .int x2), (4, .int x4)]) hx hb dB_tick_179 hl (k := 3) rfl rfl (by decide) rfl (fun ls hl => ?_)
      refine lv_goto (tgt := 44) hx hb dB_tick_182 (by decide) ?_
      exact hKK u x1 x2 (x3 + (1 : Int32)) _ _ h H locs ls hP hD hS (lv_sub hl [1, 2, 3, 0] rfl)
    · rw [if_neg hc] at h
      refine lv_aload_n hx hb dB_tick_129 rfl (lv_at hl 0 rfl) ?_
      refine va_get (D := D) (ci := 6) (v := .ref (bd 14)) (C := RB) (T := TB) (N := 36) hx hb hG inB hown hK hP 0 rfl rfl 18 (by decide) (hG _ mw_663) (fun _ h9 => h9) rfl dB_tick_130 ?_
      refine lv_iload hx hb dB_tick_133 (lv_at hl 4 rfl) ?_
      obtain ⟨hg4, h⟩ := gI_some h
      refine va_iald (f := (u.2 13)) hx hb hK hP 14 0 rfl rfl hg4 dB_tick_135 ?_
      refine lv_if_ne (tgt := 173) hx hb dB_tick_136 (by decide) (fun hc => ?_) (fun hc => ?_)
      · rw [if_neg hc] at h
        refine lv_iinc (v := (x4 + (1 : Int32))) (lv' := [(4, .int (x4 + (1 : Int32))), (0, .ref (bd 0)), (1, .int x1), (2, .int x2), (3, .int x3)]) hx hb dB_tick_173 hl (k := 4) rfl rfl (by decide) rfl (fun ls hl => ?_)
        refine lv_goto (tgt := 120) hx hb dB_tick_176 (by decide) ?_
        exact ih u x1 x2 x3 (x4 + (1 : Int32)) _ _ h H locs ls hP hD hS (lv_sub hl [1, 2, 3, 4, 0] rfl)
      · rw [if_pos hc] at h
        refine lv_aload_n hx hb dB_tick_139 rfl (lv_at hl 0 rfl) ?_
        refine va_get (D := D) (ci := 6) (v := .int (u.1 1)) (C := RB) (T := TB) (N := 36) hx hb hG inB hown hK hP 0 rfl rfl 1 (by decide) (hG _ mw_646) (fun _ h9 => h9) rfl dB_tick_140 ?_
        refine lv_aload_n hx hb dB_tick_143 rfl (lv_at hl 0 rfl) ?_
        refine va_get (D := D) (ci := 6) (v := .ref (bd 16)) (C := RB) (T := TB) (N := 36) hx hb hG inB hown hK hP 0 rfl rfl 20 (by decide) (hG _ mw_665) (fun _ h9 => h9) rfl dB_tick_144 ?_
        refine lv_iload hx hb dB_tick_147 (lv_at hl 4 rfl) ?_
        refine va_iald (f := (u.2 15)) hx hb hK hP 16 0 rfl rfl hg4 dB_tick_149 ?_
        refine lv_isub hx hb dB_tick_150 ?_
        refine lv_aload_n hx hb dB_tick_151 rfl (lv_at hl 0 rfl) ?_
        refine va_get (D := D) (ci := 6) (v := .ref (bd 13)) (C := RB) (T := TB) (N := 36) hx hb hG inB hown hK hP 0 rfl rfl 17 (by decide) (hG _ mw_662) (fun _ h9 => h9) rfl dB_tick_152 ?_
        refine lv_iload hx hb dB_tick_155 (lv_at hl 4 rfl) ?_
        refine va_iald (f := (u.2 12)) hx hb hK hP 13 0 rfl rfl hg4 dB_tick_157 ?_
        refine lv_icmp_ge (tgt := 164) hx hb dB_tick_158 (by decide) (fun hc => ?_) (fun hc => ?_)
        · rw [if_pos hc] at h
          refine lv_aload_n hx hb dB_tick_164 rfl (lv_at hl 0 rfl) ?_
          refine lv_iload hx hb dB_tick_165 (lv_at hl 4 rfl) ?_
          obtain ⟨q5, q5_h, h⟩ := gw_bind h
          refine gw_callV (As := [.int x4]) (rest := []) (u := u) (u' := q5) hx hb hml hown hG (c_B_on l D bd cI cZ N u x4 _ q5_h) lk_B_131 rfl rfl ⟨Nat.le_of_ble_eq_true rfl, Nat.le_of_ble_eq_true rfl⟩ (va_recv hK hP (ci := 6) (q0 := 0) rfl rfl) hK hP hD hS hA rfl hl.1 rfl (Nat.le_of_ble_eq_true rfl) dB_tick_167 ⟨Nat.le_of_ble_eq_true rfl, Nat.le_of_ble_eq_true rfl⟩ (fun H locs hP hD hS => ?_)
          refine lv_iinc (v := (x2 + (1 : Int32))) (lv' := [(2, .int (x2 + (1 : Int32))), (0, .ref (bd 0)), (1, .int x1), (3, .int x3), (4, .int x4)]) hx hb dB_tick_170 hl (k := 2) rfl rfl (by decide) rfl (fun ls hl => ?_)
          refine lv_iinc (v := (x4 + (1 : Int32))) (lv' := [(4, .int (x4 + (1 : Int32))), (2, .int (x2 + (1 : Int32))), (0, .ref (bd 0)), (1, .int x1), (3, .int x3)]) hx hb dB_tick_173 hl (k := 4) rfl rfl (by decide) rfl (fun ls hl => ?_)
          refine lv_goto (tgt := 120) hx hb dB_tick_176 (by decide) ?_
          exact ih q5 x1 (x2 + (1 : Int32)) x3 (x4 + (1 : Int32)) _ _ h H locs ls hP hD hS (lv_sub hl [2, 3, 1, 4, 0] rfl)
        · rw [if_neg hc] at h
          refine lv_goto (tgt := 173) hx hb dB_tick_161 (by decide) ?_
          refine lv_iinc (v := (x4 + (1 : Int32))) (lv' := [(4, .int (x4 + (1 : Int32))), (0, .ref (bd 0)), (1, .int x1), (2, .int x2), (3, .int x3)]) hx hb dB_tick_173 hl (k := 4) rfl rfl (by decide) rfl (fun ls hl => ?_)
          refine lv_goto (tgt := 120) hx hb dB_tick_176 (by decide) ?_
          exact ih u x1 x2 x3 (x4 + (1 : Int32)) _ _ h H locs ls hP hD hS (lv_sub hl [1, 2, 3, 4, 0] rfl)
set_option maxHeartbeats 4000000 in
set_option maxRecDepth 100000 in
theorem lp_B_tick_62 {p : Program} {l : Launch} {e : Env} {s : State} {m : MethodId} {args : Array Value} {below : List Frame} {meth : Method} {c : Code} {A : Nat → Prop} {D : va_G} {bd : Nat → Nat} {cI cZ : ClassId} (hC : gw_C p s m args meth c "AidRowsModel" cB_tick 5 (some .int) gG D vwCl (tB cI cZ) A) (N : Nat) (K : StB → Int32 → Int32 → Int32 → Option (Int32 × StB)) (hKK : ∀ (u : StB) (x1 : Int32) (x2 : Int32) (x3 : Int32) (r : Int32) (w : StB), K u x1 x2 x3 = some (r, w) → ∀ (H : Heap) (locs : List Loc) (ls : Array Slot), va_P D vwCl (wB bd cI cZ u) H → va_D A (wB bd cI cZ u) → va_S A s.heap H locs → lv_has ls 5 [(0, .ref (bd 0)), (1, .int x1), (2, .int x2), (3, .int x3)] → W p l e ({ frames := 4, cells := 0, slots := 0, locals := 91 } : Room) s m args below meth c H locs 0 0 (MQ below (gw_Q D vwCl (wB bd cI cZ) A w (some (.int r))) args s 0 0 A) (F0 m 44 ls [])) : ∀ (n : Nat) (u : StB) (x1 : Int32) (x2 : Int32) (x3 : Int32) (x4 : Int32) (r : Int32) (w : StB), f_B_tick_62 N K n u x1 x2 x3 x4 = some (r, w) → ∀ (H : Heap) (locs : List Loc) (ls : Array Slot), va_P D vwCl (wB bd cI cZ u) H → va_D A (wB bd cI cZ u) → va_S A s.heap H locs → lv_has ls 5 [(0, .ref (bd 0)), (1, .int x1), (2, .int x2), (3, .int x3), (4, .int x4)] → W p l e ({ frames := 4, cells := 0, slots := 0, locals := 91 } : Room) s m args below meth c H locs 0 0 (MQ below (gw_Q D vwCl (wB bd cI cZ) A w (some (.int r))) args s 0 0 A) (F0 m 62 ls []) := by
  obtain ⟨hx, hb, hr, hml, hG, hown, hlocks, hK, hA⟩ := id hC
  intro n
  induction n with
  | zero => intro u x1 x2 x3 x4 r w h; cases h
  | succ n ih =>
    intro u x1 x2 x3 x4 r w h H locs ls hP hD hS hl
    rw [f_B_tick_62] at h
    refine lv_iload hx hb dB_tick_62 (lv_at hl 4 rfl) ?_
    refine lv_aload_n hx hb dB_tick_64 rfl (lv_at hl 0 rfl) ?_
    refine va_get (D := D) (ci := 6) (v := .int (u.1 5)) (C := RB) (T := TB) (N := 36) hx hb hG inB hown hK hP 0 rfl rfl 25 (by decide) (hG _ mw_670) (fun _ h9 => h9) rfl dB_tick_65 ?_
    refine lv_icmp_ge (tgt := 117) hx hb dB_tick_68 (by decide) (fun hc => ?_) (fun hc => ?_)
    · rw [if_pos hc] at h
      refine lv_iconst (v := (0 : Int32)) hx hb dB_tick_117 (by decide) ?_
      refine lv_istore (lv' := [(4, .int (0 : Int32)), (0, .ref (bd 0)), (1, .int x1), (2, .int x2), (3, .int x3)]) hx hb dB_tick_118 hl (by decide) rfl (fun ls hl => ?_)
      exact lp_B_tick_120 hC N K hKK N u x1 x2 x3 (0 : Int32) _ _ h H locs ls hP hD hS (lv_sub hl [1, 2, 3, 4, 0] rfl)
    · rw [if_neg hc] at h
      refine lv_aload_n hx hb dB_tick_71 rfl (lv_at hl 0 rfl) ?_
      refine va_get (D := D) (ci := 6) (v := .ref (bd 26)) (C := RB) (T := TB) (N := 36) hx hb hG inB hown hK hP 0 rfl rfl 31 (by decide) (hG _ mw_676) (fun _ h9 => h9) rfl dB_tick_72 ?_
      refine lv_iload hx hb dB_tick_75 (lv_at hl 4 rfl) ?_
      obtain ⟨hg2, h⟩ := gI_some h
      refine va_iald (f := (u.2 25)) hx hb hK hP 26 0 rfl rfl hg2 dB_tick_77 ?_
      refine lv_if_ge (tgt := 111) hx hb dB_tick_78 (by decide) (fun hc => ?_) (fun hc => ?_)
      · rw [if_pos hc] at h
        refine lv_iinc (v := (x4 + (1 : Int32))) (lv' := [(4, .int (x4 + (1 : Int32))), (0, .ref (bd 0)), (1, .int x1), (2, .int x2), (3, .int x3)]) hx hb dB_tick_111 hl (k := 4) rfl rfl (by decide) rfl (fun ls hl => ?_)
        refine lv_goto (tgt := 62) hx hb dB_tick_114 (by decide) ?_
        exact ih u x1 x2 x3 (x4 + (1 : Int32)) _ _ h H locs ls hP hD hS (lv_sub hl [1, 2, 3, 4, 0] rfl)
      · rw [if_neg hc] at h
        refine lv_aload_n hx hb dB_tick_81 rfl (lv_at hl 0 rfl) ?_
        refine va_get (D := D) (ci := 6) (v := .int (u.1 1)) (C := RB) (T := TB) (N := 36) hx hb hG inB hown hK hP 0 rfl rfl 1 (by decide) (hG _ mw_646) (fun _ h9 => h9) rfl dB_tick_82 ?_
        refine lv_aload_n hx hb dB_tick_85 rfl (lv_at hl 0 rfl) ?_
        refine va_get (D := D) (ci := 6) (v := .ref (bd 7)) (C := RB) (T := TB) (N := 36) hx hb hG inB hown hK hP 0 rfl rfl 10 (by decide) (hG _ mw_655) (fun _ h9 => h9) rfl dB_tick_86 ?_
        refine lv_aload_n hx hb dB_tick_89 rfl (lv_at hl 0 rfl) ?_
        refine va_get (D := D) (ci := 6) (v := .ref (bd 24)) (C := RB) (T := TB) (N := 36) hx hb hG inB hown hK hP 0 rfl rfl 29 (by decide) (hG _ mw_674) (fun _ h9 => h9) rfl dB_tick_90 ?_
        refine lv_iload hx hb dB_tick_93 (lv_at hl 4 rfl) ?_
        refine va_iald (f := (u.2 23)) hx hb hK hP 24 0 rfl rfl hg2 dB_tick_95 ?_
        obtain ⟨hg3, h⟩ := gI_some h
        refine va_iald (f := (u.2 6)) hx hb hK hP 7 0 rfl rfl hg3 dB_tick_96 ?_
        refine lv_icmp_lt (tgt := 111) hx hb dB_tick_97 (by decide) (fun hc => ?_) (fun hc => ?_)
        · rw [if_pos hc] at h
          refine lv_iinc (v := (x4 + (1 : Int32))) (lv' := [(4, .int (x4 + (1 : Int32))), (0, .ref (bd 0)), (1, .int x1), (2, .int x2), (3, .int x3)]) hx hb dB_tick_111 hl (k := 4) rfl rfl (by decide) rfl (fun ls hl => ?_)
          refine lv_goto (tgt := 62) hx hb dB_tick_114 (by decide) ?_
          exact ih u x1 x2 x3 (x4 + (1 : Int32)) _ _ h H locs ls hP hD hS (lv_sub hl [1, 2, 3, 4, 0] rfl)
        · rw [if_neg hc] at h
          refine lv_aload_n hx hb dB_tick_100 rfl (lv_at hl 0 rfl) ?_
          refine va_get (D := D) (ci := 6) (v := .ref (bd 26)) (C := RB) (T := TB) (N := 36) hx hb hG inB hown hK hP 0 rfl rfl 31 (by decide) (hG _ mw_676) (fun _ h9 => h9) rfl dB_tick_101 ?_
          refine lv_iload hx hb dB_tick_104 (lv_at hl 4 rfl) ?_
          refine lv_aload_n hx hb dB_tick_106 rfl (lv_at hl 0 rfl) ?_
          refine va_get (D := D) (ci := 6) (v := .int (u.1 1)) (C := RB) (T := TB) (N := 36) hx hb hG inB hown hK hP 0 rfl rfl 1 (by decide) (hG _ mw_646) (fun _ h9 => h9) rfl dB_tick_107 ?_
          refine va_iast (f := (u.2 25)) hx hb hK hP hD hS 26 0 rfl rfl hg2 dB_tick_110 (fun H locs hP hD hS => ?_)
          rw [wB_a25] at hP hD
          refine lv_iinc (v := (x4 + (1 : Int32))) (lv' := [(4, .int (x4 + (1 : Int32))), (0, .ref (bd 0)), (1, .int x1), (2, .int x2), (3, .int x3)]) hx hb dB_tick_111 hl (k := 4) rfl rfl (by decide) rfl (fun ls hl => ?_)
          refine lv_goto (tgt := 62) hx hb dB_tick_114 (by decide) ?_
          exact ih (bA u 25 (x4).toNatClampNeg (u.1 1)) x1 x2 x3 (x4 + (1 : Int32)) _ _ h H locs ls hP hD hS (lv_sub hl [1, 2, 3, 4, 0] rfl)
set_option maxHeartbeats 4000000 in
set_option maxRecDepth 100000 in
theorem lp_B_tick_44 {p : Program} {l : Launch} {e : Env} {s : State} {m : MethodId} {args : Array Value} {below : List Frame} {meth : Method} {c : Code} {A : Nat → Prop} {D : va_G} {bd : Nat → Nat} {cI cZ : ClassId} (hC : gw_C p s m args meth c "AidRowsModel" cB_tick 5 (some .int) gG D vwCl (tB cI cZ) A) (N : Nat) : ∀ (n : Nat) (u : StB) (x1 : Int32) (x2 : Int32) (x3 : Int32) (r : Int32) (w : StB), f_B_tick_44 N n u x1 x2 x3 = some (r, w) → ∀ (H : Heap) (locs : List Loc) (ls : Array Slot), va_P D vwCl (wB bd cI cZ u) H → va_D A (wB bd cI cZ u) → va_S A s.heap H locs → lv_has ls 5 [(0, .ref (bd 0)), (1, .int x1), (2, .int x2), (3, .int x3)] → W p l e ({ frames := 4, cells := 0, slots := 0, locals := 91 } : Room) s m args below meth c H locs 0 0 (MQ below (gw_Q D vwCl (wB bd cI cZ) A w (some (.int r))) args s 0 0 A) (F0 m 44 ls []) := by
  obtain ⟨hx, hb, hr, hml, hG, hown, hlocks, hK, hA⟩ := id hC
  intro n
  induction n with
  | zero => intro u x1 x2 x3 r w h; cases h
  | succ n ih =>
    intro u x1 x2 x3 r w h H locs ls hP hD hS hl
    rw [f_B_tick_44] at h
    refine lv_iload_n hx hb dB_tick_44 rfl (lv_at hl 3 rfl) ?_
    refine lv_iload_n hx hb dB_tick_45 rfl (lv_at hl 1 rfl) ?_
    refine lv_icmp_ge (tgt := 185) hx hb dB_tick_46 (by decide) (fun hc => ?_) (fun hc => ?_)
    · rw [if_pos hc] at h
      refine lv_iload_n hx hb dB_tick_185 rfl (lv_at hl 2 rfl) ?_
      cases h
      exact gw_iret hx hb hr hlocks hP hD hS dB_tick_186
    · rw [if_neg hc] at h
      refine lv_aload_n hx hb dB_tick_49 rfl (lv_at hl 0 rfl) ?_
      refine lv_dup hx hb dB_tick_50 rfl ?_
      refine va_get (D := D) (ci := 6) (v := .int (u.1 1)) (C := RB) (T := TB) (N := 36) hx hb hG inB hown hK hP 0 rfl rfl 1 (by decide) (hG _ mw_646) (fun _ h9 => h9) rfl dB_tick_51 ?_
      refine lv_iconst (v := (1 : Int32)) hx hb dB_tick_54 (by decide) ?_
      refine lv_iadd hx hb dB_tick_55 ?_
      refine va_put (D := D) (ci := 6) (v := .int ((u.1 1) + (1 : Int32))) (ty := .int) (C := RB) (T := TB) (N := 36) hx hb hG inB tyB tyB_ok nmB hown hK hP hD hS 0 rfl rfl 1 (by decide) (hG _ mw_646) (fun _ h9 => h9) rfl (by decide +kernel) rfl rfl (Nat.le_of_ble_eq_true rfl) dB_tick_56 (fun H locs hP hD hS => ?_)
      rw [wB_f1] at hP hD
      refine lv_iconst (v := (0 : Int32)) hx hb dB_tick_59 (by decide) ?_
      refine lv_istore (lv' := [(4, .int (0 : Int32)), (0, .ref (bd 0)), (1, .int x1), (2, .int x2), (3, .int x3)]) hx hb dB_tick_60 hl (by decide) rfl (fun ls hl => ?_)
      exact lp_B_tick_62 hC N _ ih N (bF u 1 ((u.1 1) + (1 : Int32))) x1 x2 x3 (0 : Int32) _ _ h H locs ls hP hD hS (lv_sub hl [1, 2, 3, 4, 0] rfl)
set_option maxHeartbeats 4000000 in
set_option maxRecDepth 100000 in
theorem lp_B_tick_30 {p : Program} {l : Launch} {e : Env} {s : State} {m : MethodId} {args : Array Value} {below : List Frame} {meth : Method} {c : Code} {A : Nat → Prop} {D : va_G} {bd : Nat → Nat} {cI cZ : ClassId} (hC : gw_C p s m args meth c "AidRowsModel" cB_tick 5 (some .int) gG D vwCl (tB cI cZ) A) (N : Nat) : ∀ (u : StB) (x1 : Int32) (y1 : Int32) (y2 : Int32) (y3 : Int32) (r : Int32) (w : StB), f_B_tick_30 N u x1 y1 y2 y3 = some (r, w) → ∀ (H : Heap) (locs : List Loc) (ls : Array Slot), va_P D vwCl (wB bd cI cZ u) H → va_D A (wB bd cI cZ u) → va_S A s.heap H locs → lv_has ls 5 [(0, .ref (bd 0)), (1, .int x1)] → W p l e ({ frames := 4, cells := 0, slots := 0, locals := 91 } : Room) s m args below meth c H locs 0 0 (MQ below (gw_Q D vwCl (wB bd cI cZ) A w (some (.int r))) args s 0 0 A) (F0 m 30 ls [.int y3, .int y2, .int y1, .ref (bd 0)]) := by
  obtain ⟨hx, hb, hr, hml, hG, hown, hlocks, hK, hA⟩ := id hC
  intro u x1 y1 y2 y3 r w h H locs ls hP hD hS hl
  unfold f_B_tick_30 at h
  refine lv_iconst (v := (1 : Int32)) hx hb dB_tick_30 (by decide) ?_
  refine lv_iconst (v := (1 : Int32)) hx hb dB_tick_31 (by decide) ?_
  obtain ⟨q1, q1_h, h⟩ := gw_bind h
  refine gw_callV (As := [.int y1, .int y2, .int y3, .int (1 : Int32), .int (1 : Int32)]) (rest := []) (u := u) (u' := q1.2) hx hb hml hown hG (c_B_goes l D bd cI cZ N u y1 y2 y3 (1 : Int32) (1 : Int32) _ _ q1_h) lk_B_106 rfl rfl ⟨Nat.le_of_ble_eq_true rfl, Nat.le_of_ble_eq_true rfl⟩ (va_recv hK hP (ci := 6) (q0 := 0) rfl rfl) hK hP hD hS hA rfl hl.1 rfl (Nat.le_of_ble_eq_true rfl) dB_tick_32 ⟨Nat.le_of_ble_eq_true rfl, Nat.le_of_ble_eq_true rfl⟩ (fun H locs hP hD hS => ?_)
  refine lv_if_ne (tgt := 40) hx hb dB_tick_35 (by decide) (fun hc => ?_) (fun hc => ?_)
  · rw [if_neg hc] at h
    refine lv_iconst (v := (0 : Int32)) hx hb dB_tick_40 (by decide) ?_
    refine lv_istore_n (lv' := [(2, .int (0 : Int32)), (0, .ref (bd 0)), (1, .int x1)]) hx hb dB_tick_41 rfl hl (by decide) rfl (fun ls hl => ?_)
    refine lv_iconst (v := (0 : Int32)) hx hb dB_tick_42 (by decide) ?_
    refine lv_istore_n (lv' := [(3, .int (0 : Int32)), (2, .int (0 : Int32)), (0, .ref (bd 0)), (1, .int x1)]) hx hb dB_tick_43 rfl hl (by decide) rfl (fun ls hl => ?_)
    exact lp_B_tick_44 hC N N q1.2 x1 (0 : Int32) (0 : Int32) _ _ h H locs ls hP hD hS (lv_sub hl [2, 3, 1, 0] rfl)
  · rw [if_pos hc] at h
    refine lv_iconst (v := (0 : Int32)) hx hb dB_tick_38 (by decide) ?_
    cases h
    exact gw_iret hx hb hr hlocks hP hD hS dB_tick_39
set_option maxHeartbeats 4000000 in
set_option maxRecDepth 100000 in
theorem lp_B_tick_29 {p : Program} {l : Launch} {e : Env} {s : State} {m : MethodId} {args : Array Value} {below : List Frame} {meth : Method} {c : Code} {A : Nat → Prop} {D : va_G} {bd : Nat → Nat} {cI cZ : ClassId} (hC : gw_C p s m args meth c "AidRowsModel" cB_tick 5 (some .int) gG D vwCl (tB cI cZ) A) (N : Nat) : ∀ (u : StB) (x1 : Int32) (y1 : Int32) (y2 : Int32) (r : Int32) (w : StB), f_B_tick_29 N u x1 y1 y2 = some (r, w) → ∀ (H : Heap) (locs : List Loc) (ls : Array Slot), va_P D vwCl (wB bd cI cZ u) H → va_D A (wB bd cI cZ u) → va_S A s.heap H locs → lv_has ls 5 [(0, .ref (bd 0)), (1, .int x1)] → W p l e ({ frames := 4, cells := 0, slots := 0, locals := 91 } : Room) s m args below meth c H locs 0 0 (MQ below (gw_Q D vwCl (wB bd cI cZ) A w (some (.int r))) args s 0 0 A) (F0 m 29 ls [.int y2, .int y1, .ref (bd 0)]) := by
  obtain ⟨hx, hb, hr, hml, hG, hown, hlocks, hK, hA⟩ := id hC
  intro u x1 y1 y2 r w h H locs ls hP hD hS hl
  unfold f_B_tick_29 at h
  refine lv_iconst (v := (0 : Int32)) hx hb dB_tick_29 (by decide) ?_
  exact lp_B_tick_30 hC N u x1 y1 y2 (0 : Int32) _ _ h H locs ls hP hD hS (lv_sub hl [0, 1] rfl)
set_option maxHeartbeats 4000000 in
set_option maxRecDepth 100000 in
theorem c_B_tick (l : Launch) (D : va_G) (bd : Nat → Nat) (cI cZ : ClassId) (N : Nat) (u : StB) (a1 : Int32) (r : Int32) (w : StB) (h : f_B_tick N u a1 = some (r, w)) : gw_Ct l D vwCl (tB cI cZ) (wB bd cI cZ) yB_tick (Cond.code yB_tick cB_tick 5 (some .int) :: gG) ({ frames := 4, cells := 0, slots := 0, locals := 91 } : Room) [.ref (bd 0), .int a1] u (some (.int r)) w := by
  refine gw_enter (by decide) (Nat.le_of_ble_eq_true rfl) ?_
  intro p e s m below meth c A hC hP hD hS ls hl
  obtain ⟨hx, hb, hr, hml, hG, hown, hlocks, hK, hA⟩ := id hC
  have hl : lv_has ls 5 [(0, .ref (bd 0)), (1, .int a1)] := hl
  obtain ⟨H, hH⟩ : ∃ H, H = s.heap := ⟨_, rfl⟩
  obtain ⟨locs, hlocs⟩ : ∃ x : List Loc, x = [] := ⟨_, rfl⟩
  rw [← hlocs] at hS ⊢
  have hP : va_P D vwCl (wB bd cI cZ u) H := by rw [hH]; exact hP
  have hS : va_S A s.heap H locs := by rw [hH]; exact hS
  suffices g : W p l e ({ frames := 4, cells := 0, slots := 0, locals := 91 } : Room) s m [.ref (bd 0), .int a1].toArray below meth c H locs 0 0 (MQ below (gw_Q D vwCl (wB bd cI cZ) A w (some (.int r))) [.ref (bd 0), .int a1].toArray s 0 0 A) (F0 m 0 ls []) by rw [hH] at g; exact g
  unfold f_B_tick at h
  refine lv_aload_n hx hb dB_tick_0 rfl (lv_at hl 0 rfl) ?_
  refine lv_iconst (v := (2 : Int32)) hx hb dB_tick_1 (by decide) ?_
  refine lv_iconst (v := (1 : Int32)) hx hb dB_tick_2 (by decide) ?_
  refine lv_iload_n hx hb dB_tick_3 rfl (lv_at hl 1 rfl) ?_
  refine lv_iconst (v := (1 : Int32)) hx hb dB_tick_4 (by decide) ?_
  refine lv_sipush (v := (2000 : Int32)) hx hb dB_tick_5 (by decide) ?_
  refine gw_callS (As := [.int a1, .int (1 : Int32), .int (2000 : Int32)]) (rest := [.int (1 : Int32), .int (2 : Int32), .ref (bd 0)]) (u := u) (u' := u) hx hb hml hown hG (c_B_in l D bd cI cZ u a1 (1 : Int32) (2000 : Int32) _ rfl) lk_B_102 rfl rfl ⟨Nat.le_of_ble_eq_true rfl, Nat.le_of_ble_eq_true rfl⟩ hK hP hD hS hA rfl hl.1 rfl (Nat.le_of_ble_eq_true rfl) dB_tick_8 ⟨Nat.le_of_ble_eq_true rfl, Nat.le_of_ble_eq_true rfl⟩ (fun H locs hP hD hS => ?_)
  refine lv_if_eq (tgt := 29) hx hb dB_tick_11 (by decide) (fun hc => ?_) (fun hc => ?_)
  · rw [if_pos hc] at h
    exact lp_B_tick_29 hC N u a1 (2 : Int32) (1 : Int32) _ _ h H locs ls hP hD hS (lv_sub hl [0, 1] rfl)
  · rw [if_neg hc] at h
    refine lv_iload_n hx hb dB_tick_14 rfl (lv_at hl 1 rfl) ?_
    refine lv_ldc (v := (99999 : Int32)) hx hb hown (hG _ mw_777) dB_tick_15 ?_
    refine lv_aload_n hx hb dB_tick_17 rfl (lv_at hl 0 rfl) ?_
    refine va_get (D := D) (ci := 6) (v := .int (u.1 1)) (C := RB) (T := TB) (N := 36) hx hb hG inB hown hK hP 0 rfl rfl 1 (by decide) (hG _ mw_646) (fun _ h9 => h9) rfl dB_tick_18 ?_
    refine lv_isub hx hb dB_tick_21 ?_
    refine lv_icmp_gt (tgt := 29) hx hb dB_tick_22 (by decide) (fun hc => ?_) (fun hc => ?_)
    · rw [if_pos hc] at h
      exact lp_B_tick_29 hC N u a1 (2 : Int32) (1 : Int32) _ _ h H locs ls hP hD hS (lv_sub hl [0, 1] rfl)
    · rw [if_neg hc] at h
      refine lv_iconst (v := (1 : Int32)) hx hb dB_tick_25 (by decide) ?_
      refine lv_goto (tgt := 30) hx hb dB_tick_26 (by decide) ?_
      exact lp_B_tick_30 hC N u a1 (2 : Int32) (1 : Int32) (1 : Int32) _ _ h H locs ls hP hD hS (lv_sub hl [0, 1] rfl)
set_option maxHeartbeats 4000000 in
set_option maxRecDepth 100000 in
theorem lp_B_cut_31 {p : Program} {l : Launch} {e : Env} {s : State} {m : MethodId} {args : Array Value} {below : List Frame} {meth : Method} {c : Code} {A : Nat → Prop} {D : va_G} {bd : Nat → Nat} {cI cZ : ClassId} (hC : gw_C p s m args meth c "AidRowsModel" cB_cut 3 none gG D vwCl (tB cI cZ) A) (N : Nat) : ∀ (u : StB) (x1 : Int32) (x2 : Int32) (y1 : Int32) (y2 : Int32) (y3 : Int32) (y4 : Int32) (w : StB), f_B_cut_31 N u x1 x2 y1 y2 y3 y4 = some w → ∀ (H : Heap) (locs : List Loc) (ls : Array Slot), va_P D vwCl (wB bd cI cZ u) H → va_D A (wB bd cI cZ u) → va_S A s.heap H locs → lv_has ls 3 [(0, .ref (bd 0)), (1, .int x1), (2, .int x2)] → W p l e ({ frames := 2, cells := 0, slots := 0, locals := 43 } : Room) s m args below meth c H locs 0 0 (MQ below (gw_Q D vwCl (wB bd cI cZ) A w (none)) args s 0 0 A) (F0 m 31 ls [.int y4, .int y3, .int y2, .int y1, .ref (bd 0)]) := by
  obtain ⟨hx, hb, hr, hml, hG, hown, hlocks, hK, hA⟩ := id hC
  intro u x1 x2 y1 y2 y3 y4 w h H locs ls hP hD hS hl
  unfold f_B_cut_31 at h
  refine lv_iconst (v := (1 : Int32)) hx hb dB_cut_31 (by decide) ?_
  obtain ⟨q2, q2_h, h⟩ := gw_bind h
  refine gw_callV (As := [.int y1, .int y2, .int y3, .int y4, .int (1 : Int32)]) (rest := []) (u := u) (u' := q2.2) hx hb hml hown hG (c_B_goes l D bd cI cZ N u y1 y2 y3 y4 (1 : Int32) _ _ q2_h) lk_B_106 rfl rfl ⟨Nat.le_of_ble_eq_true rfl, Nat.le_of_ble_eq_true rfl⟩ (va_recv hK hP (ci := 6) (q0 := 0) rfl rfl) hK hP hD hS hA rfl hl.1 rfl (Nat.le_of_ble_eq_true rfl) dB_cut_32 ⟨Nat.le_of_ble_eq_true rfl, Nat.le_of_ble_eq_true rfl⟩ (fun H locs hP hD hS => ?_)
  refine lv_if_eq (tgt := 45) hx hb dB_cut_35 (by decide) (fun hc => ?_) (fun hc => ?_)
  · rw [if_pos hc] at h
    cases h
    exact gw_vret hx hb hr hlocks hP hD hS dB_cut_45
  · rw [if_neg hc] at h
    refine lv_aload_n hx hb dB_cut_38 rfl (lv_at hl 0 rfl) ?_
    refine va_get (D := D) (ci := 6) (v := .ref (bd 3)) (C := RB) (T := TB) (N := 36) hx hb hG inB hown hK hP 0 rfl rfl 5 (by decide) (hG _ mw_650) (fun _ h9 => h9) rfl dB_cut_39 ?_
    refine lv_iload_n hx hb dB_cut_42 rfl (lv_at hl 1 rfl) ?_
    refine lv_iload_n hx hb dB_cut_43 rfl (lv_at hl 2 rfl) ?_
    obtain ⟨hg3, h⟩ := gI_some h
    refine va_zast (f := (q2.2.2 2)) hx hb hK hP hD hS 3 1 rfl rfl hg3 dB_cut_44 (fun H locs hP hD hS => ?_)
    rw [wB_a2] at hP hD
    cases h
    exact gw_vret hx hb hr hlocks hP hD hS dB_cut_45
set_option maxHeartbeats 4000000 in
set_option maxRecDepth 100000 in
theorem lp_B_cut_30 {p : Program} {l : Launch} {e : Env} {s : State} {m : MethodId} {args : Array Value} {below : List Frame} {meth : Method} {c : Code} {A : Nat → Prop} {D : va_G} {bd : Nat → Nat} {cI cZ : ClassId} (hC : gw_C p s m args meth c "AidRowsModel" cB_cut 3 none gG D vwCl (tB cI cZ) A) (N : Nat) : ∀ (u : StB) (x1 : Int32) (x2 : Int32) (y1 : Int32) (y2 : Int32) (y3 : Int32) (w : StB), f_B_cut_30 N u x1 x2 y1 y2 y3 = some w → ∀ (H : Heap) (locs : List Loc) (ls : Array Slot), va_P D vwCl (wB bd cI cZ u) H → va_D A (wB bd cI cZ u) → va_S A s.heap H locs → lv_has ls 3 [(0, .ref (bd 0)), (1, .int x1), (2, .int x2)] → W p l e ({ frames := 2, cells := 0, slots := 0, locals := 43 } : Room) s m args below meth c H locs 0 0 (MQ below (gw_Q D vwCl (wB bd cI cZ) A w (none)) args s 0 0 A) (F0 m 30 ls [.int y3, .int y2, .int y1, .ref (bd 0)]) := by
  obtain ⟨hx, hb, hr, hml, hG, hown, hlocks, hK, hA⟩ := id hC
  intro u x1 x2 y1 y2 y3 w h H locs ls hP hD hS hl
  unfold f_B_cut_30 at h
  refine lv_iconst (v := (0 : Int32)) hx hb dB_cut_30 (by decide) ?_
  exact lp_B_cut_31 hC N u x1 x2 y1 y2 y3 (0 : Int32) _ h H locs ls hP hD hS (lv_sub hl [0, 1, 2] rfl)
set_option maxHeartbeats 4000000 in
set_option maxRecDepth 100000 in
theorem c_B_cut (l : Launch) (D : va_G) (bd : Nat → Nat) (cI cZ : ClassId) (N : Nat) (u : StB) (a1 : Int32) (a2 : Int32) (w : StB) (h : f_B_cut N u a1 a2 = some w) : gw_Ct l D vwCl (tB cI cZ) (wB bd cI cZ) yB_cut (Cond.code yB_cut cB_cut 3 none :: gG) ({ frames := 2, cells := 0, slots := 0, locals := 43 } : Room) [.ref (bd 0), .int a1, .int a2] u (none) w := by
  refine gw_enter (by decide) (Nat.le_of_ble_eq_true rfl) ?_
  intro p e s m below meth c A hC hP hD hS ls hl
  obtain ⟨hx, hb, hr, hml, hG, hown, hlocks, hK, hA⟩ := id hC
  have hl : lv_has ls 3 [(0, .ref (bd 0)), (1, .int a1), (2, .int a2)] := hl
  obtain ⟨H, hH⟩ : ∃ H, H = s.heap := ⟨_, rfl⟩
  obtain ⟨locs, hlocs⟩ : ∃ x : List Loc, x = [] := ⟨_, rfl⟩
  rw [← hlocs] at hS ⊢
  have hP : va_P D vwCl (wB bd cI cZ u) H := by rw [hH]; exact hP
  have hS : va_S A s.heap H locs := by rw [hH]; exact hS
  suffices g : W p l e ({ frames := 2, cells := 0, slots := 0, locals := 43 } : Room) s m [.ref (bd 0), .int a1, .int a2].toArray below meth c H locs 0 0 (MQ below (gw_Q D vwCl (wB bd cI cZ) A w (none)) [.ref (bd 0), .int a1, .int a2].toArray s 0 0 A) (F0 m 0 ls []) by rw [hH] at g; exact g
  unfold f_B_cut at h
  refine lv_aload_n hx hb dB_cut_0 rfl (lv_at hl 0 rfl) ?_
  refine lv_iconst (v := (5 : Int32)) hx hb dB_cut_1 (by decide) ?_
  refine lv_aload_n hx hb dB_cut_2 rfl (lv_at hl 0 rfl) ?_
  refine lv_iload_n hx hb dB_cut_3 rfl (lv_at hl 1 rfl) ?_
  refine gw_callV (As := [.int a1]) (rest := [.int (5 : Int32), .ref (bd 0)]) (u := u) (u' := u) hx hb hml hown hG (c_B_isHouse l D bd cI cZ u a1 _ rfl) lk_B_110 rfl rfl ⟨Nat.le_of_ble_eq_true rfl, Nat.le_of_ble_eq_true rfl⟩ (va_recv hK hP (ci := 6) (q0 := 0) rfl rfl) hK hP hD hS hA rfl hl.1 rfl (Nat.le_of_ble_eq_true rfl) dB_cut_4 ⟨Nat.le_of_ble_eq_true rfl, Nat.le_of_ble_eq_true rfl⟩ (fun H locs hP hD hS => ?_)
  refine lv_iconst (v := (1 : Int32)) hx hb dB_cut_7 (by decide) ?_
  refine lv_aload_n hx hb dB_cut_8 rfl (lv_at hl 0 rfl) ?_
  refine lv_iload_n hx hb dB_cut_9 rfl (lv_at hl 1 rfl) ?_
  refine gw_callV (As := [.int a1]) (rest := [.int (1 : Int32), .int (f_B_isHouse u a1), .int (5 : Int32), .ref (bd 0)]) (u := u) (u' := u) hx hb hml hown hG (c_B_isHouse l D bd cI cZ u a1 _ rfl) lk_B_110 rfl rfl ⟨Nat.le_of_ble_eq_true rfl, Nat.le_of_ble_eq_true rfl⟩ (va_recv hK hP (ci := 6) (q0 := 0) rfl rfl) hK hP hD hS hA rfl hl.1 rfl (Nat.le_of_ble_eq_true rfl) dB_cut_10 ⟨Nat.le_of_ble_eq_true rfl, Nat.le_of_ble_eq_true rfl⟩ (fun H locs hP hD hS => ?_)
  refine lv_if_eq (tgt := 30) hx hb dB_cut_13 (by decide) (fun hc => ?_) (fun hc => ?_)
  · rw [if_pos hc] at h
    exact lp_B_cut_30 hC N u a1 a2 (5 : Int32) (f_B_isHouse u a1) (1 : Int32) _ h H locs ls hP hD hS (lv_sub hl [0, 1, 2] rfl)
  · rw [if_neg hc] at h
    refine lv_aload_n hx hb dB_cut_16 rfl (lv_at hl 0 rfl) ?_
    refine va_get (D := D) (ci := 6) (v := .ref (bd 3)) (C := RB) (T := TB) (N := 36) hx hb hG inB hown hK hP 0 rfl rfl 5 (by decide) (hG _ mw_650) (fun _ h9 => h9) rfl dB_cut_17 ?_
    refine lv_iload_n hx hb dB_cut_20 rfl (lv_at hl 1 rfl) ?_
    obtain ⟨hg1, h⟩ := gI_some h
    refine va_zald (f := (u.2 2)) hx hb hK hP 3 1 rfl rfl hg1 dB_cut_21 ?_
    refine lv_iload_n hx hb dB_cut_22 rfl (lv_at hl 2 rfl) ?_
    refine lv_icmp_eq (tgt := 30) hx hb dB_cut_23 (by decide) (fun hc => ?_) (fun hc => ?_)
    · rw [if_pos hc] at h
      exact lp_B_cut_30 hC N u a1 a2 (5 : Int32) (f_B_isHouse u a1) (1 : Int32) _ h H locs ls hP hD hS (lv_sub hl [0, 1, 2] rfl)
    · rw [if_neg hc] at h
      refine lv_iconst (v := (1 : Int32)) hx hb dB_cut_26 (by decide) ?_
      refine lv_goto (tgt := 31) hx hb dB_cut_27 (by decide) ?_
      exact lp_B_cut_31 hC N u a1 a2 (5 : Int32) (f_B_isHouse u a1) (1 : Int32) (1 : Int32) _ h H locs ls hP hD hS (lv_sub hl [0, 1, 2] rfl)
set_option maxHeartbeats 4000000 in
set_option maxRecDepth 100000 in
theorem c_B_isLoan (l : Launch) (D : va_G) (bd : Nat → Nat) (cI cZ : ClassId) (u : StB) (a1 : Int32) (r : Int32) (h : f_B_isLoan u a1 = r) : gw_Ct l D vwCl (tB cI cZ) (wB bd cI cZ) yB_isLoan (Cond.code yB_isLoan cB_isLoan 2 (some .boolean) :: gG) ({ frames := 1, cells := 0, slots := 0, locals := 22 } : Room) [.ref (bd 0), .int a1] u (some (.int r)) u := by
  refine gw_enter (by decide) (Nat.le_of_ble_eq_true rfl) ?_
  intro p e s m below meth c A hC hP hD hS ls hl
  obtain ⟨hx, hb, hr, hml, hG, hown, hlocks, hK, hA⟩ := id hC
  have hl : lv_has ls 2 [(0, .ref (bd 0)), (1, .int a1)] := hl
  obtain ⟨H, hH⟩ : ∃ H, H = s.heap := ⟨_, rfl⟩
  obtain ⟨locs, hlocs⟩ : ∃ x : List Loc, x = [] := ⟨_, rfl⟩
  rw [← hlocs] at hS ⊢
  have hP : va_P D vwCl (wB bd cI cZ u) H := by rw [hH]; exact hP
  have hS : va_S A s.heap H locs := by rw [hH]; exact hS
  suffices g : W p l e ({ frames := 1, cells := 0, slots := 0, locals := 22 } : Room) s m [.ref (bd 0), .int a1].toArray below meth c H locs 0 0 (MQ below (gw_Q D vwCl (wB bd cI cZ) A u (some (.int r))) [.ref (bd 0), .int a1].toArray s 0 0 A) (F0 m 0 ls []) by rw [hH] at g; exact g
  unfold f_B_isLoan at h
  refine lv_iload_n hx hb dB_isLoan_0 rfl (lv_at hl 1 rfl) ?_
  refine lv_iconst (v := (0 : Int32)) hx hb dB_isLoan_1 (by decide) ?_
  refine lv_aload_n hx hb dB_isLoan_2 rfl (lv_at hl 0 rfl) ?_
  refine va_get (D := D) (ci := 6) (v := .int (u.1 5)) (C := RB) (T := TB) (N := 36) hx hb hG inB hown hK hP 0 rfl rfl 25 (by decide) (hG _ mw_670) (fun _ h9 => h9) rfl dB_isLoan_3 ?_
  refine lv_iconst (v := (1 : Int32)) hx hb dB_isLoan_6 (by decide) ?_
  refine lv_isub hx hb dB_isLoan_7 ?_
  refine gw_callS (As := [.int a1, .int (0 : Int32), .int ((u.1 5) - (1 : Int32))]) (rest := []) (u := u) (u' := u) hx hb hml hown hG (c_B_in l D bd cI cZ u a1 (0 : Int32) ((u.1 5) - (1 : Int32)) _ rfl) lk_B_102 rfl rfl ⟨Nat.le_of_ble_eq_true rfl, Nat.le_of_ble_eq_true rfl⟩ hK hP hD hS hA rfl hl.1 rfl (Nat.le_of_ble_eq_true rfl) dB_isLoan_8 ⟨Nat.le_of_ble_eq_true rfl, Nat.le_of_ble_eq_true rfl⟩ (fun H locs hP hD hS => ?_)
  subst h
  exact gw_zret hx hb hr (by first | rfl | exact nb_B_in _ _ _) hlocks hP hD hS dB_isLoan_11
set_option maxHeartbeats 4000000 in
set_option maxRecDepth 100000 in
theorem lp_B_end_30 {p : Program} {l : Launch} {e : Env} {s : State} {m : MethodId} {args : Array Value} {below : List Frame} {meth : Method} {c : Code} {A : Nat → Prop} {D : va_G} {bd : Nat → Nat} {cI cZ : ClassId} (hC : gw_C p s m args meth c "AidRowsModel" cB_end 2 none gG D vwCl (tB cI cZ) A) (N : Nat) : ∀ (u : StB) (x1 : Int32) (y1 : Int32) (y2 : Int32) (y3 : Int32) (y4 : Int32) (w : StB), f_B_end_30 N u x1 y1 y2 y3 y4 = some w → ∀ (H : Heap) (locs : List Loc) (ls : Array Slot), va_P D vwCl (wB bd cI cZ u) H → va_D A (wB bd cI cZ u) → va_S A s.heap H locs → lv_has ls 2 [(0, .ref (bd 0)), (1, .int x1)] → W p l e ({ frames := 2, cells := 0, slots := 0, locals := 43 } : Room) s m args below meth c H locs 0 0 (MQ below (gw_Q D vwCl (wB bd cI cZ) A w (none)) args s 0 0 A) (F0 m 30 ls [.int y4, .int y3, .int y2, .int y1, .ref (bd 0)]) := by
  obtain ⟨hx, hb, hr, hml, hG, hown, hlocks, hK, hA⟩ := id hC
  intro u x1 y1 y2 y3 y4 w h H locs ls hP hD hS hl
  unfold f_B_end_30 at h
  refine lv_iconst (v := (1 : Int32)) hx hb dB_end_30 (by decide) ?_
  obtain ⟨q2, q2_h, h⟩ := gw_bind h
  refine gw_callV (As := [.int y1, .int y2, .int y3, .int y4, .int (1 : Int32)]) (rest := []) (u := u) (u' := q2.2) hx hb hml hown hG (c_B_goes l D bd cI cZ N u y1 y2 y3 y4 (1 : Int32) _ _ q2_h) lk_B_106 rfl rfl ⟨Nat.le_of_ble_eq_true rfl, Nat.le_of_ble_eq_true rfl⟩ (va_recv hK hP (ci := 6) (q0 := 0) rfl rfl) hK hP hD hS hA rfl hl.1 rfl (Nat.le_of_ble_eq_true rfl) dB_end_31 ⟨Nat.le_of_ble_eq_true rfl, Nat.le_of_ble_eq_true rfl⟩ (fun H locs hP hD hS => ?_)
  refine lv_if_eq (tgt := 47) hx hb dB_end_34 (by decide) (fun hc => ?_) (fun hc => ?_)
  · rw [if_pos hc] at h
    cases h
    exact gw_vret hx hb hr hlocks hP hD hS dB_end_47
  · rw [if_neg hc] at h
    refine lv_aload_n hx hb dB_end_37 rfl (lv_at hl 0 rfl) ?_
    refine va_get (D := D) (ci := 6) (v := .ref (bd 26)) (C := RB) (T := TB) (N := 36) hx hb hG inB hown hK hP 0 rfl rfl 31 (by decide) (hG _ mw_676) (fun _ h9 => h9) rfl dB_end_38 ?_
    refine lv_iload_n hx hb dB_end_41 rfl (lv_at hl 1 rfl) ?_
    refine lv_aload_n hx hb dB_end_42 rfl (lv_at hl 0 rfl) ?_
    refine va_get (D := D) (ci := 6) (v := .int (q2.2.1 1)) (C := RB) (T := TB) (N := 36) hx hb hG inB hown hK hP 0 rfl rfl 1 (by decide) (hG _ mw_646) (fun _ h9 => h9) rfl dB_end_43 ?_
    obtain ⟨hg3, h⟩ := gI_some h
    refine va_iast (f := (q2.2.2 25)) hx hb hK hP hD hS 26 0 rfl rfl hg3 dB_end_46 (fun H locs hP hD hS => ?_)
    rw [wB_a25] at hP hD
    cases h
    exact gw_vret hx hb hr hlocks hP hD hS dB_end_47
set_option maxHeartbeats 4000000 in
set_option maxRecDepth 100000 in
theorem lp_B_end_29 {p : Program} {l : Launch} {e : Env} {s : State} {m : MethodId} {args : Array Value} {below : List Frame} {meth : Method} {c : Code} {A : Nat → Prop} {D : va_G} {bd : Nat → Nat} {cI cZ : ClassId} (hC : gw_C p s m args meth c "AidRowsModel" cB_end 2 none gG D vwCl (tB cI cZ) A) (N : Nat) : ∀ (u : StB) (x1 : Int32) (y1 : Int32) (y2 : Int32) (y3 : Int32) (w : StB), f_B_end_29 N u x1 y1 y2 y3 = some w → ∀ (H : Heap) (locs : List Loc) (ls : Array Slot), va_P D vwCl (wB bd cI cZ u) H → va_D A (wB bd cI cZ u) → va_S A s.heap H locs → lv_has ls 2 [(0, .ref (bd 0)), (1, .int x1)] → W p l e ({ frames := 2, cells := 0, slots := 0, locals := 43 } : Room) s m args below meth c H locs 0 0 (MQ below (gw_Q D vwCl (wB bd cI cZ) A w (none)) args s 0 0 A) (F0 m 29 ls [.int y3, .int y2, .int y1, .ref (bd 0)]) := by
  obtain ⟨hx, hb, hr, hml, hG, hown, hlocks, hK, hA⟩ := id hC
  intro u x1 y1 y2 y3 w h H locs ls hP hD hS hl
  unfold f_B_end_29 at h
  refine lv_iconst (v := (0 : Int32)) hx hb dB_end_29 (by decide) ?_
  exact lp_B_end_30 hC N u x1 y1 y2 y3 (0 : Int32) _ h H locs ls hP hD hS (lv_sub hl [0, 1] rfl)
set_option maxHeartbeats 4000000 in
set_option maxRecDepth 100000 in
theorem c_B_end (l : Launch) (D : va_G) (bd : Nat → Nat) (cI cZ : ClassId) (N : Nat) (u : StB) (a1 : Int32) (w : StB) (h : f_B_end N u a1 = some w) : gw_Ct l D vwCl (tB cI cZ) (wB bd cI cZ) yB_end (Cond.code yB_end cB_end 2 none :: gG) ({ frames := 2, cells := 0, slots := 0, locals := 43 } : Room) [.ref (bd 0), .int a1] u (none) w := by
  refine gw_enter (by decide) (Nat.le_of_ble_eq_true rfl) ?_
  intro p e s m below meth c A hC hP hD hS ls hl
  obtain ⟨hx, hb, hr, hml, hG, hown, hlocks, hK, hA⟩ := id hC
  have hl : lv_has ls 2 [(0, .ref (bd 0)), (1, .int a1)] := hl
  obtain ⟨H, hH⟩ : ∃ H, H = s.heap := ⟨_, rfl⟩
  obtain ⟨locs, hlocs⟩ : ∃ x : List Loc, x = [] := ⟨_, rfl⟩
  rw [← hlocs] at hS ⊢
  have hP : va_P D vwCl (wB bd cI cZ u) H := by rw [hH]; exact hP
  have hS : va_S A s.heap H locs := by rw [hH]; exact hS
  suffices g : W p l e ({ frames := 2, cells := 0, slots := 0, locals := 43 } : Room) s m [.ref (bd 0), .int a1].toArray below meth c H locs 0 0 (MQ below (gw_Q D vwCl (wB bd cI cZ) A w (none)) [.ref (bd 0), .int a1].toArray s 0 0 A) (F0 m 0 ls []) by rw [hH] at g; exact g
  unfold f_B_end at h
  refine lv_aload_n hx hb dB_end_0 rfl (lv_at hl 0 rfl) ?_
  refine lv_iconst (v := (5 : Int32)) hx hb dB_end_1 (by decide) ?_
  refine lv_aload_n hx hb dB_end_2 rfl (lv_at hl 0 rfl) ?_
  refine lv_iload_n hx hb dB_end_3 rfl (lv_at hl 1 rfl) ?_
  refine gw_callV (As := [.int a1]) (rest := [.int (5 : Int32), .ref (bd 0)]) (u := u) (u' := u) hx hb hml hown hG (c_B_isLoan l D bd cI cZ u a1 _ rfl) lk_B_159 rfl rfl ⟨Nat.le_of_ble_eq_true rfl, Nat.le_of_ble_eq_true rfl⟩ (va_recv hK hP (ci := 6) (q0 := 0) rfl rfl) hK hP hD hS hA rfl hl.1 rfl (Nat.le_of_ble_eq_true rfl) dB_end_4 ⟨Nat.le_of_ble_eq_true rfl, Nat.le_of_ble_eq_true rfl⟩ (fun H locs hP hD hS => ?_)
  refine lv_iconst (v := (1 : Int32)) hx hb dB_end_7 (by decide) ?_
  refine lv_aload_n hx hb dB_end_8 rfl (lv_at hl 0 rfl) ?_
  refine lv_iload_n hx hb dB_end_9 rfl (lv_at hl 1 rfl) ?_
  refine gw_callV (As := [.int a1]) (rest := [.int (1 : Int32), .int (f_B_isLoan u a1), .int (5 : Int32), .ref (bd 0)]) (u := u) (u' := u) hx hb hml hown hG (c_B_isLoan l D bd cI cZ u a1 _ rfl) lk_B_159 rfl rfl ⟨Nat.le_of_ble_eq_true rfl, Nat.le_of_ble_eq_true rfl⟩ (va_recv hK hP (ci := 6) (q0 := 0) rfl rfl) hK hP hD hS hA rfl hl.1 rfl (Nat.le_of_ble_eq_true rfl) dB_end_10 ⟨Nat.le_of_ble_eq_true rfl, Nat.le_of_ble_eq_true rfl⟩ (fun H locs hP hD hS => ?_)
  refine lv_if_eq (tgt := 29) hx hb dB_end_13 (by decide) (fun hc => ?_) (fun hc => ?_)
  · rw [if_pos hc] at h
    exact lp_B_end_29 hC N u a1 (5 : Int32) (f_B_isLoan u a1) (1 : Int32) _ h H locs ls hP hD hS (lv_sub hl [0, 1] rfl)
  · rw [if_neg hc] at h
    refine lv_aload_n hx hb dB_end_16 rfl (lv_at hl 0 rfl) ?_
    refine va_get (D := D) (ci := 6) (v := .ref (bd 26)) (C := RB) (T := TB) (N := 36) hx hb hG inB hown hK hP 0 rfl rfl 31 (by decide) (hG _ mw_676) (fun _ h9 => h9) rfl dB_end_17 ?_
    refine lv_iload_n hx hb dB_end_20 rfl (lv_at hl 1 rfl) ?_
    obtain ⟨hg1, h⟩ := gI_some h
    refine va_iald (f := (u.2 25)) hx hb hK hP 26 0 rfl rfl hg1 dB_end_21 ?_
    refine lv_if_ge (tgt := 29) hx hb dB_end_22 (by decide) (fun hc => ?_) (fun hc => ?_)
    · rw [if_pos hc] at h
      exact lp_B_end_29 hC N u a1 (5 : Int32) (f_B_isLoan u a1) (1 : Int32) _ h H locs ls hP hD hS (lv_sub hl [0, 1] rfl)
    · rw [if_neg hc] at h
      refine lv_iconst (v := (1 : Int32)) hx hb dB_end_25 (by decide) ?_
      refine lv_goto (tgt := 30) hx hb dB_end_26 (by decide) ?_
      exact lp_B_end_30 hC N u a1 (5 : Int32) (f_B_isLoan u a1) (1 : Int32) (1 : Int32) _ h H locs ls hP hD hS (lv_sub hl [0, 1] rfl)
set_option maxHeartbeats 4000000 in
set_option maxRecDepth 100000 in
theorem lp_B_askAt_30 {p : Program} {l : Launch} {e : Env} {s : State} {m : MethodId} {args : Array Value} {below : List Frame} {meth : Method} {c : Code} {A : Nat → Prop} {D : va_G} {bd : Nat → Nat} {cI cZ : ClassId} (hC : gw_C p s m args meth c "AidRowsModel" cB_askAt 3 (some .int) gG D vwCl (tB cI cZ) A) (N : Nat) : ∀ (u : StB) (x1 : Int32) (x2 : Int32) (y1 : Int32) (y2 : Int32) (r : Int32) (w : StB), f_B_askAt_30 N u x1 x2 y1 y2 = some (r, w) → ∀ (H : Heap) (locs : List Loc) (ls : Array Slot), va_P D vwCl (wB bd cI cZ u) H → va_D A (wB bd cI cZ u) → va_S A s.heap H locs → lv_has ls 3 [(0, .ref (bd 0)), (1, .int x1), (2, .int x2)] → W p l e ({ frames := 1, cells := 0, slots := 0, locals := 27 } : Room) s m args below meth c H locs 0 0 (MQ below (gw_Q D vwCl (wB bd cI cZ) A w (some (.int r))) args s 0 0 A) (F0 m 30 ls [.int y2, .int y1, .ref (bd 0)]) := by
  obtain ⟨hx, hb, hr, hml, hG, hown, hlocks, hK, hA⟩ := id hC
  intro u x1 x2 y1 y2 r w h H locs ls hP hD hS hl
  unfold f_B_askAt_30 at h
  refine lv_iconst (v := (1 : Int32)) hx hb dB_askAt_30 (by decide) ?_
  refine lv_iconst (v := (1 : Int32)) hx hb dB_askAt_31 (by decide) ?_
  refine lv_iconst (v := (1 : Int32)) hx hb dB_askAt_32 (by decide) ?_
  obtain ⟨q1, q1_h, h⟩ := gw_bind h
  refine gw_callV (As := [.int y1, .int y2, .int (1 : Int32), .int (1 : Int32), .int (1 : Int32)]) (rest := []) (u := u) (u' := q1.2) hx hb hml hown hG (c_B_goes l D bd cI cZ N u y1 y2 (1 : Int32) (1 : Int32) (1 : Int32) _ _ q1_h) lk_B_106 rfl rfl ⟨Nat.le_of_ble_eq_true rfl, Nat.le_of_ble_eq_true rfl⟩ (va_recv hK hP (ci := 6) (q0 := 0) rfl rfl) hK hP hD hS hA rfl hl.1 rfl (Nat.le_of_ble_eq_true rfl) dB_askAt_33 ⟨Nat.le_of_ble_eq_true rfl, Nat.le_of_ble_eq_true rfl⟩ (fun H locs hP hD hS => ?_)
  refine lv_if_ne (tgt := 41) hx hb dB_askAt_36 (by decide) (fun hc => ?_) (fun hc => ?_)
  · rw [if_neg hc] at h
    refine lv_iload_n hx hb dB_askAt_41 rfl (lv_at hl 2 rfl) ?_
    refine lv_if_ne (tgt := 54) hx hb dB_askAt_42 (by decide) (fun hc => ?_) (fun hc => ?_)
    · rw [if_neg hc] at h
      refine lv_iload_n hx hb dB_askAt_54 rfl (lv_at hl 2 rfl) ?_
      refine lv_iconst (v := (1 : Int32)) hx hb dB_askAt_55 (by decide) ?_
      refine lv_icmp_ne (tgt := 68) hx hb dB_askAt_56 (by decide) (fun hc => ?_) (fun hc => ?_)
      · rw [if_neg hc] at h
        refine lv_iload_n hx hb dB_askAt_68 rfl (lv_at hl 2 rfl) ?_
        refine lv_iconst (v := (2 : Int32)) hx hb dB_askAt_69 (by decide) ?_
        refine lv_icmp_ne (tgt := 82) hx hb dB_askAt_70 (by decide) (fun hc => ?_) (fun hc => ?_)
        · rw [if_neg hc] at h
          refine lv_iload_n hx hb dB_askAt_82 rfl (lv_at hl 2 rfl) ?_
          refine lv_iconst (v := (3 : Int32)) hx hb dB_askAt_83 (by decide) ?_
          refine lv_icmp_ne (tgt := 96) hx hb dB_askAt_84 (by decide) (fun hc => ?_) (fun hc => ?_)
          · rw [if_neg hc] at h
            refine lv_iload_n hx hb dB_askAt_96 rfl (lv_at hl 2 rfl) ?_
            refine lv_iconst (v := (4 : Int32)) hx hb dB_askAt_97 (by decide) ?_
            refine lv_icmp_ne (tgt := 110) hx hb dB_askAt_98 (by decide) (fun hc => ?_) (fun hc => ?_)
            · rw [if_neg hc] at h
              refine lv_aload_n hx hb dB_askAt_110 rfl (lv_at hl 0 rfl) ?_
              refine va_get (D := D) (ci := 6) (v := .ref (bd 19)) (C := RB) (T := TB) (N := 36) hx hb hG inB hown hK hP 0 rfl rfl 23 (by decide) (hG _ mw_668) (fun _ h9 => h9) rfl dB_askAt_111 ?_
              refine lv_iload_n hx hb dB_askAt_114 rfl (lv_at hl 1 rfl) ?_
              obtain ⟨hg2, h⟩ := gI_some h
              refine va_zald (f := (q1.2.2 18)) hx hb hK hP 19 1 rfl rfl hg2 dB_askAt_115 ?_
              refine lv_if_eq (tgt := 123) hx hb dB_askAt_116 (by decide) (fun hc => ?_) (fun hc => ?_)
              · rw [if_pos hc] at h
                refine lv_iconst (v := (0 : Int32)) hx hb dB_askAt_123 (by decide) ?_
                cases h
                exact gw_iret hx hb hr hlocks hP hD hS dB_askAt_124
              · rw [if_neg hc] at h
                refine lv_iconst (v := (1 : Int32)) hx hb dB_askAt_119 (by decide) ?_
                refine lv_goto (tgt := 124) hx hb dB_askAt_120 (by decide) ?_
                cases h
                exact gw_iret hx hb hr hlocks hP hD hS dB_askAt_124
            · rw [if_pos hc] at h
              refine lv_aload_n hx hb dB_askAt_101 rfl (lv_at hl 0 rfl) ?_
              refine va_get (D := D) (ci := 6) (v := .ref (bd 18)) (C := RB) (T := TB) (N := 36) hx hb hG inB hown hK hP 0 rfl rfl 22 (by decide) (hG _ mw_667) (fun _ h9 => h9) rfl dB_askAt_102 ?_
              refine lv_iload_n hx hb dB_askAt_105 rfl (lv_at hl 1 rfl) ?_
              obtain ⟨hg3, h⟩ := gI_some h
              refine va_iald (f := (q1.2.2 17)) hx hb hK hP 18 0 rfl rfl hg3 dB_askAt_106 ?_
              refine lv_goto (tgt := 124) hx hb dB_askAt_107 (by decide) ?_
              cases h
              exact gw_iret hx hb hr hlocks hP hD hS dB_askAt_124
          · rw [if_pos hc] at h
            refine lv_aload_n hx hb dB_askAt_87 rfl (lv_at hl 0 rfl) ?_
            refine va_get (D := D) (ci := 6) (v := .ref (bd 17)) (C := RB) (T := TB) (N := 36) hx hb hG inB hown hK hP 0 rfl rfl 21 (by decide) (hG _ mw_666) (fun _ h9 => h9) rfl dB_askAt_88 ?_
            refine lv_iload_n hx hb dB_askAt_91 rfl (lv_at hl 1 rfl) ?_
            obtain ⟨hg4, h⟩ := gI_some h
            refine va_iald (f := (q1.2.2 16)) hx hb hK hP 17 0 rfl rfl hg4 dB_askAt_92 ?_
            refine lv_goto (tgt := 124) hx hb dB_askAt_93 (by decide) ?_
            cases h
            exact gw_iret hx hb hr hlocks hP hD hS dB_askAt_124
        · rw [if_pos hc] at h
          refine lv_aload_n hx hb dB_askAt_73 rfl (lv_at hl 0 rfl) ?_
          refine va_get (D := D) (ci := 6) (v := .ref (bd 16)) (C := RB) (T := TB) (N := 36) hx hb hG inB hown hK hP 0 rfl rfl 20 (by decide) (hG _ mw_665) (fun _ h9 => h9) rfl dB_askAt_74 ?_
          refine lv_iload_n hx hb dB_askAt_77 rfl (lv_at hl 1 rfl) ?_
          obtain ⟨hg5, h⟩ := gI_some h
          refine va_iald (f := (q1.2.2 15)) hx hb hK hP 16 0 rfl rfl hg5 dB_askAt_78 ?_
          refine lv_goto (tgt := 124) hx hb dB_askAt_79 (by decide) ?_
          cases h
          exact gw_iret hx hb hr hlocks hP hD hS dB_askAt_124
      · rw [if_pos hc] at h
        refine lv_aload_n hx hb dB_askAt_59 rfl (lv_at hl 0 rfl) ?_
        refine va_get (D := D) (ci := 6) (v := .ref (bd 15)) (C := RB) (T := TB) (N := 36) hx hb hG inB hown hK hP 0 rfl rfl 19 (by decide) (hG _ mw_664) (fun _ h9 => h9) rfl dB_askAt_60 ?_
        refine lv_iload_n hx hb dB_askAt_63 rfl (lv_at hl 1 rfl) ?_
        obtain ⟨hg6, h⟩ := gI_some h
        refine va_iald (f := (q1.2.2 14)) hx hb hK hP 15 0 rfl rfl hg6 dB_askAt_64 ?_
        refine lv_goto (tgt := 124) hx hb dB_askAt_65 (by decide) ?_
        cases h
        exact gw_iret hx hb hr hlocks hP hD hS dB_askAt_124
    · rw [if_pos hc] at h
      refine lv_aload_n hx hb dB_askAt_45 rfl (lv_at hl 0 rfl) ?_
      refine va_get (D := D) (ci := 6) (v := .ref (bd 14)) (C := RB) (T := TB) (N := 36) hx hb hG inB hown hK hP 0 rfl rfl 18 (by decide) (hG _ mw_663) (fun _ h9 => h9) rfl dB_askAt_46 ?_
      refine lv_iload_n hx hb dB_askAt_49 rfl (lv_at hl 1 rfl) ?_
      obtain ⟨hg7, h⟩ := gI_some h
      refine va_iald (f := (q1.2.2 13)) hx hb hK hP 14 0 rfl rfl hg7 dB_askAt_50 ?_
      refine lv_goto (tgt := 124) hx hb dB_askAt_51 (by decide) ?_
      cases h
      exact gw_iret hx hb hr hlocks hP hD hS dB_askAt_124
  · rw [if_pos hc] at h
    refine lv_iconst (v := (0 : Int32)) hx hb dB_askAt_39 (by decide) ?_
    cases h
    exact gw_iret hx hb hr hlocks hP hD hS dB_askAt_40
set_option maxHeartbeats 4000000 in
set_option maxRecDepth 100000 in
theorem lp_B_askAt_29 {p : Program} {l : Launch} {e : Env} {s : State} {m : MethodId} {args : Array Value} {below : List Frame} {meth : Method} {c : Code} {A : Nat → Prop} {D : va_G} {bd : Nat → Nat} {cI cZ : ClassId} (hC : gw_C p s m args meth c "AidRowsModel" cB_askAt 3 (some .int) gG D vwCl (tB cI cZ) A) (N : Nat) : ∀ (u : StB) (x1 : Int32) (x2 : Int32) (y1 : Int32) (r : Int32) (w : StB), f_B_askAt_29 N u x1 x2 y1 = some (r, w) → ∀ (H : Heap) (locs : List Loc) (ls : Array Slot), va_P D vwCl (wB bd cI cZ u) H → va_D A (wB bd cI cZ u) → va_S A s.heap H locs → lv_has ls 3 [(0, .ref (bd 0)), (1, .int x1), (2, .int x2)] → W p l e ({ frames := 1, cells := 0, slots := 0, locals := 27 } : Room) s m args below meth c H locs 0 0 (MQ below (gw_Q D vwCl (wB bd cI cZ) A w (some (.int r))) args s 0 0 A) (F0 m 29 ls [.int y1, .ref (bd 0)]) := by
  obtain ⟨hx, hb, hr, hml, hG, hown, hlocks, hK, hA⟩ := id hC
  intro u x1 x2 y1 r w h H locs ls hP hD hS hl
  unfold f_B_askAt_29 at h
  refine lv_iconst (v := (0 : Int32)) hx hb dB_askAt_29 (by decide) ?_
  exact lp_B_askAt_30 hC N u x1 x2 y1 (0 : Int32) _ _ h H locs ls hP hD hS (lv_sub hl [0, 1, 2] rfl)
set_option maxHeartbeats 4000000 in
set_option maxRecDepth 100000 in
theorem c_B_askAt (l : Launch) (D : va_G) (bd : Nat → Nat) (cI cZ : ClassId) (N : Nat) (u : StB) (a1 : Int32) (a2 : Int32) (r : Int32) (w : StB) (h : f_B_askAt N u a1 a2 = some (r, w)) : gw_Ct l D vwCl (tB cI cZ) (wB bd cI cZ) yB_askAt (Cond.code yB_askAt cB_askAt 3 (some .int) :: gG) ({ frames := 1, cells := 0, slots := 0, locals := 27 } : Room) [.ref (bd 0), .int a1, .int a2] u (some (.int r)) w := by
  refine gw_enter (by decide) (Nat.le_of_ble_eq_true rfl) ?_
  intro p e s m below meth c A hC hP hD hS ls hl
  obtain ⟨hx, hb, hr, hml, hG, hown, hlocks, hK, hA⟩ := id hC
  have hl : lv_has ls 3 [(0, .ref (bd 0)), (1, .int a1), (2, .int a2)] := hl
  obtain ⟨H, hH⟩ : ∃ H, H = s.heap := ⟨_, rfl⟩
  obtain ⟨locs, hlocs⟩ : ∃ x : List Loc, x = [] := ⟨_, rfl⟩
  rw [← hlocs] at hS ⊢
  have hP : va_P D vwCl (wB bd cI cZ u) H := by rw [hH]; exact hP
  have hS : va_S A s.heap H locs := by rw [hH]; exact hS
  suffices g : W p l e ({ frames := 1, cells := 0, slots := 0, locals := 27 } : Room) s m [.ref (bd 0), .int a1, .int a2].toArray below meth c H locs 0 0 (MQ below (gw_Q D vwCl (wB bd cI cZ) A w (some (.int r))) [.ref (bd 0), .int a1, .int a2].toArray s 0 0 A) (F0 m 0 ls []) by rw [hH] at g; exact g
  unfold f_B_askAt at h
  refine lv_aload_n hx hb dB_askAt_0 rfl (lv_at hl 0 rfl) ?_
  refine lv_iconst (v := (1 : Int32)) hx hb dB_askAt_1 (by decide) ?_
  refine lv_iload_n hx hb dB_askAt_2 rfl (lv_at hl 1 rfl) ?_
  refine lv_iconst (v := (0 : Int32)) hx hb dB_askAt_3 (by decide) ?_
  refine lv_aload_n hx hb dB_askAt_4 rfl (lv_at hl 0 rfl) ?_
  refine va_get (D := D) (ci := 6) (v := .int (u.1 4)) (C := RB) (T := TB) (N := 36) hx hb hG inB hown hK hP 0 rfl rfl 14 (by decide) (hG _ mw_659) (fun _ h9 => h9) rfl dB_askAt_5 ?_
  refine lv_iconst (v := (1 : Int32)) hx hb dB_askAt_8 (by decide) ?_
  refine lv_isub hx hb dB_askAt_9 ?_
  refine gw_callS (As := [.int a1, .int (0 : Int32), .int ((u.1 4) - (1 : Int32))]) (rest := [.int (1 : Int32), .ref (bd 0)]) (u := u) (u' := u) hx hb hml hown hG (c_B_in l D bd cI cZ u a1 (0 : Int32) ((u.1 4) - (1 : Int32)) _ rfl) lk_B_102 rfl rfl ⟨Nat.le_of_ble_eq_true rfl, Nat.le_of_ble_eq_true rfl⟩ hK hP hD hS hA rfl hl.1 rfl (Nat.le_of_ble_eq_true rfl) dB_askAt_10 ⟨Nat.le_of_ble_eq_true rfl, Nat.le_of_ble_eq_true rfl⟩ (fun H locs hP hD hS => ?_)
  refine lv_if_eq (tgt := 29) hx hb dB_askAt_13 (by decide) (fun hc => ?_) (fun hc => ?_)
  · rw [if_pos hc] at h
    exact lp_B_askAt_29 hC N u a1 a2 (1 : Int32) _ _ h H locs ls hP hD hS (lv_sub hl [0, 1, 2] rfl)
  · rw [if_neg hc] at h
    refine lv_iload_n hx hb dB_askAt_16 rfl (lv_at hl 2 rfl) ?_
    refine lv_iconst (v := (0 : Int32)) hx hb dB_askAt_17 (by decide) ?_
    refine lv_iconst (v := (5 : Int32)) hx hb dB_askAt_18 (by decide) ?_
    refine gw_callS (As := [.int a2, .int (0 : Int32), .int (5 : Int32)]) (rest := [.int (1 : Int32), .ref (bd 0)]) (u := u) (u' := u) hx hb hml hown hG (c_B_in l D bd cI cZ u a2 (0 : Int32) (5 : Int32) _ rfl) lk_B_102 rfl rfl ⟨Nat.le_of_ble_eq_true rfl, Nat.le_of_ble_eq_true rfl⟩ hK hP hD hS hA rfl hl.1 rfl (Nat.le_of_ble_eq_true rfl) dB_askAt_19 ⟨Nat.le_of_ble_eq_true rfl, Nat.le_of_ble_eq_true rfl⟩ (fun H locs hP hD hS => ?_)
    refine lv_if_eq (tgt := 29) hx hb dB_askAt_22 (by decide) (fun hc => ?_) (fun hc => ?_)
    · rw [if_pos hc] at h
      exact lp_B_askAt_29 hC N u a1 a2 (1 : Int32) _ _ h H locs ls hP hD hS (lv_sub hl [0, 1, 2] rfl)
    · rw [if_neg hc] at h
      refine lv_iconst (v := (1 : Int32)) hx hb dB_askAt_25 (by decide) ?_
      refine lv_goto (tgt := 30) hx hb dB_askAt_26 (by decide) ?_
      exact lp_B_askAt_30 hC N u a1 a2 (1 : Int32) (1 : Int32) _ _ h H locs ls hP hD hS (lv_sub hl [0, 1, 2] rfl)
