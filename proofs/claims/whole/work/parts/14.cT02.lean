set_option maxHeartbeats 4000000 in
set_option maxRecDepth 100000 in
theorem c_A_loanAt (l : Launch) (hst : l.stackTraces = false) (D : va_G) (ad : Nat → Nat) (cI cZ cJ : ClassId) (u : StA) (a1 : Int32) (a2 : Int32) (cd : Nat) (r : Int32) (w : StA) (h : f_A_loanAt u a1 a2 = some ((cd, r), w)) : gx_Ct l D vwCl (tA cI cZ cJ) (wA ad cI cZ cJ) yA_loanAt (Cond.code yA_loanAt cA_loanAt 3 (some .int) :: gG) ({ frames := 6, cells := 1, slots := 6, locals := 82 } : Room) [.ref (ad 0), .int a1, .int a2] u cd (some (.int r)) w := by
  refine gx_enter hst (by decide) (Nat.le_of_ble_eq_true rfl) ?_
  intro p e s m below meth c A hC hP hD hS ls hl
  obtain ⟨⟨hx, hb, hr, hml, hG, hown, hlocks, hK, hA⟩, hst, hE, htb⟩ := id hC
  have hl : lv_has ls 3 [(0, .ref (ad 0)), (1, .int a1), (2, .int a2)] := hl
  obtain ⟨H, hH⟩ : ∃ H, H = s.heap := ⟨_, rfl⟩
  obtain ⟨locs, hlocs⟩ : ∃ x : List Loc, x = [] := ⟨_, rfl⟩
  rw [← hlocs] at hS ⊢
  have hP : va_P D vwCl (wA ad cI cZ cJ u) H := by rw [hH]; exact hP
  have hS : va_S A s.heap H locs := by rw [hH]; exact hS
  suffices g : W p l e ({ frames := 6, cells := 1, slots := 6, locals := 82 } : Room) s m [.ref (ad 0), .int a1, .int a2].toArray below meth c H locs 0 0 (vx_MQ below (gx_Q D vwCl (wA ad cI cZ cJ) A cd w (some (.int r))) (gx_X D vwCl (wA ad cI cZ cJ) A cd w) [.ref (ad 0), .int a1, .int a2].toArray s 1 6 A) (F0 m 0 ls []) by rw [hH] at g; exact g
  unfold f_A_loanAt at h
  refine lv_aload_n hx hb dA_loanAt_0 rfl (lv_at hl 0 rfl) ?_
  refine va_get (D := D) (ci := 0) (v := .ref (ad 4)) (C := RA) (T := TA) (N := 9) hx hb hG inA hown hK hP 0 rfl rfl 3 (by decide) (hG _ mw_177) (fun _ h9 => h9) rfl dA_loanAt_1 ?_
  refine lv_iload_n hx hb dA_loanAt_4 rfl (lv_at hl 1 rfl) ?_
  refine gw_callV (As := [.int a1]) (rest := []) (u := u) (u' := u) hx hb hml hown hG (c_Lo_has l D ad cI cZ cJ u a1 _ rfl) lk_A_186 rfl rfl ⟨Nat.le_of_ble_eq_true rfl, Nat.le_of_ble_eq_true rfl⟩ (va_recv hK hP (ci := 4) (q0 := 4) rfl rfl) hK hP hD hS hA rfl hl.1 rfl (Nat.le_of_ble_eq_true rfl) dA_loanAt_5 ⟨Nat.le_of_ble_eq_true rfl, Nat.le_of_ble_eq_true rfl⟩ (fun H locs hP hD hS => ?_)
  refine lv_if_eq (tgt := 21) hx hb dA_loanAt_8 (by decide) (fun hc => ?_) (fun hc => ?_)
  · rw [if_pos hc] at h
    cases h
    exact gx_thr (cd := 1) (cls := "java/lang/IllegalArgumentException") (text := "no such loan or what") hC rfl (by decide) rfl (by decide +kernel) (by decide +kernel) mw_332 mw_14 (by decide +kernel) gx_a1 gx_b1 gx_g1 hP hD hS hl.1 dA_loanAt_21 dA_loanAt_24 dA_loanAt_25 dA_loanAt_27 dA_loanAt_30 (Nat.le_of_ble_eq_true rfl) (Nat.le_of_ble_eq_true rfl) (Nat.le_of_ble_eq_true rfl) (Nat.le_of_ble_eq_true rfl)
  · rw [if_neg hc] at h
    refine lv_iload_n hx hb dA_loanAt_11 rfl (lv_at hl 2 rfl) ?_
    refine lv_iconst (v := (0 : Int32)) hx hb dA_loanAt_12 (by decide) ?_
    refine lv_bipush (v := (6 : Int32)) hx hb dA_loanAt_13 (by decide) ?_
    refine gw_callS (As := [.int a2, .int (0 : Int32), .int (6 : Int32)]) (rest := []) (u := u) (u' := u) hx hb hml hown hG (c_A_isWithin l D ad cI cZ cJ u a2 (0 : Int32) (6 : Int32) _ rfl) lk_A_54 rfl rfl ⟨Nat.le_of_ble_eq_true rfl, Nat.le_of_ble_eq_true rfl⟩ hK hP hD hS hA rfl hl.1 rfl (Nat.le_of_ble_eq_true rfl) dA_loanAt_15 ⟨Nat.le_of_ble_eq_true rfl, Nat.le_of_ble_eq_true rfl⟩ (fun H locs hP hD hS => ?_)
    refine lv_if_ne (tgt := 31) hx hb dA_loanAt_18 (by decide) (fun hc => ?_) (fun hc => ?_)
    · rw [if_neg hc] at h
      refine lv_iload_n hx hb dA_loanAt_31 rfl (lv_at hl 2 rfl) ?_
      by_cases hc : a2 = (0 : Int32)
      · rw [if_pos hc] at h
        refine lv_tableIn (off := (40)) (tgt := 72) hx hb dA_loanAt_32 (by rw [hc]; decide) (by rw [hc]; decide) (by rw [hc]; decide +kernel) (by decide) ?_
        refine lv_aload_n hx hb dA_loanAt_72 rfl (lv_at hl 0 rfl) ?_
        refine va_get (D := D) (ci := 0) (v := .ref (ad 4)) (C := RA) (T := TA) (N := 9) hx hb hG inA hown hK hP 0 rfl rfl 3 (by decide) (hG _ mw_177) (fun _ h9 => h9) rfl dA_loanAt_73 ?_
        refine va_get (D := D) (ci := 4) (v := .ref (ad 25)) (C := RLo) (T := TLo) (N := 7) hx hb hG inLo hown hK hP 4 rfl rfl 0 (by decide) (hG _ mw_132) (fun _ h9 => h9) rfl dA_loanAt_76 ?_
        refine lv_iload_n hx hb dA_loanAt_79 rfl (lv_at hl 1 rfl) ?_
        obtain ⟨hg1, h⟩ := gI_some h
        refine va_iald (f := (u.2.1 19)) hx hb hK hP 25 0 rfl rfl hg1 dA_loanAt_80 ?_
        cases h
        exact gx_iret hx hb hr hlocks hP hD hS dA_loanAt_81
      rw [if_neg hc] at h
      have hs0 := hc
      by_cases hc : a2 = (1 : Int32)
      · rw [if_pos hc] at h
        refine lv_tableIn (off := (50)) (tgt := 82) hx hb dA_loanAt_32 (by rw [hc]; decide) (by rw [hc]; decide) (by rw [hc]; decide +kernel) (by decide) ?_
        refine lv_aload_n hx hb dA_loanAt_82 rfl (lv_at hl 0 rfl) ?_
        refine va_get (D := D) (ci := 0) (v := .ref (ad 4)) (C := RA) (T := TA) (N := 9) hx hb hG inA hown hK hP 0 rfl rfl 3 (by decide) (hG _ mw_177) (fun _ h9 => h9) rfl dA_loanAt_83 ?_
        refine va_get (D := D) (ci := 4) (v := .ref (ad 26)) (C := RLo) (T := TLo) (N := 7) hx hb hG inLo hown hK hP 4 rfl rfl 1 (by decide) (hG _ mw_134) (fun _ h9 => h9) rfl dA_loanAt_86 ?_
        refine lv_iload_n hx hb dA_loanAt_89 rfl (lv_at hl 1 rfl) ?_
        obtain ⟨hg2, h⟩ := gI_some h
        refine va_iald (f := (u.2.1 20)) hx hb hK hP 26 0 rfl rfl hg2 dA_loanAt_90 ?_
        cases h
        exact gx_iret hx hb hr hlocks hP hD hS dA_loanAt_91
      rw [if_neg hc] at h
      have hs1 := hc
      by_cases hc : a2 = (2 : Int32)
      · rw [if_pos hc] at h
        refine lv_tableIn (off := (60)) (tgt := 92) hx hb dA_loanAt_32 (by rw [hc]; decide) (by rw [hc]; decide) (by rw [hc]; decide +kernel) (by decide) ?_
        refine lv_aload_n hx hb dA_loanAt_92 rfl (lv_at hl 0 rfl) ?_
        refine va_get (D := D) (ci := 0) (v := .ref (ad 4)) (C := RA) (T := TA) (N := 9) hx hb hG inA hown hK hP 0 rfl rfl 3 (by decide) (hG _ mw_177) (fun _ h9 => h9) rfl dA_loanAt_93 ?_
        refine va_get (D := D) (ci := 4) (v := .ref (ad 27)) (C := RLo) (T := TLo) (N := 7) hx hb hG inLo hown hK hP 4 rfl rfl 2 (by decide) (hG _ mw_136) (fun _ h9 => h9) rfl dA_loanAt_96 ?_
        refine lv_iload_n hx hb dA_loanAt_99 rfl (lv_at hl 1 rfl) ?_
        obtain ⟨hg3, h⟩ := gI_some h
        refine va_iald (f := (u.2.1 21)) hx hb hK hP 27 0 rfl rfl hg3 dA_loanAt_100 ?_
        cases h
        exact gx_iret hx hb hr hlocks hP hD hS dA_loanAt_101
      rw [if_neg hc] at h
      have hs2 := hc
      by_cases hc : a2 = (3 : Int32)
      · rw [if_pos hc] at h
        refine lv_tableIn (off := (70)) (tgt := 102) hx hb dA_loanAt_32 (by rw [hc]; decide) (by rw [hc]; decide) (by rw [hc]; decide +kernel) (by decide) ?_
        refine lv_aload_n hx hb dA_loanAt_102 rfl (lv_at hl 0 rfl) ?_
        refine va_get (D := D) (ci := 0) (v := .ref (ad 4)) (C := RA) (T := TA) (N := 9) hx hb hG inA hown hK hP 0 rfl rfl 3 (by decide) (hG _ mw_177) (fun _ h9 => h9) rfl dA_loanAt_103 ?_
        refine va_get (D := D) (ci := 4) (v := .ref (ad 28)) (C := RLo) (T := TLo) (N := 7) hx hb hG inLo hown hK hP 4 rfl rfl 3 (by decide) (hG _ mw_138) (fun _ h9 => h9) rfl dA_loanAt_106 ?_
        refine lv_iload_n hx hb dA_loanAt_109 rfl (lv_at hl 1 rfl) ?_
        obtain ⟨hg4, h⟩ := gI_some h
        refine va_iald (f := (u.2.1 22)) hx hb hK hP 28 0 rfl rfl hg4 dA_loanAt_110 ?_
        cases h
        exact gx_iret hx hb hr hlocks hP hD hS dA_loanAt_111
      rw [if_neg hc] at h
      have hs3 := hc
      by_cases hc : a2 = (4 : Int32)
      · rw [if_pos hc] at h
        refine lv_tableIn (off := (80)) (tgt := 112) hx hb dA_loanAt_32 (by rw [hc]; decide) (by rw [hc]; decide) (by rw [hc]; decide +kernel) (by decide) ?_
        refine lv_aload_n hx hb dA_loanAt_112 rfl (lv_at hl 0 rfl) ?_
        refine va_get (D := D) (ci := 0) (v := .ref (ad 4)) (C := RA) (T := TA) (N := 9) hx hb hG inA hown hK hP 0 rfl rfl 3 (by decide) (hG _ mw_177) (fun _ h9 => h9) rfl dA_loanAt_113 ?_
        refine va_get (D := D) (ci := 4) (v := .ref (ad 29)) (C := RLo) (T := TLo) (N := 7) hx hb hG inLo hown hK hP 4 rfl rfl 4 (by decide) (hG _ mw_140) (fun _ h9 => h9) rfl dA_loanAt_116 ?_
        refine lv_iload_n hx hb dA_loanAt_119 rfl (lv_at hl 1 rfl) ?_
        obtain ⟨hg5, h⟩ := gI_some h
        refine va_iald (f := (u.2.1 23)) hx hb hK hP 29 0 rfl rfl hg5 dA_loanAt_120 ?_
        cases h
        exact gx_iret hx hb hr hlocks hP hD hS dA_loanAt_121
      rw [if_neg hc] at h
      have hs4 := hc
      by_cases hc : a2 = (5 : Int32)
      · rw [if_pos hc] at h
        refine lv_tableIn (off := (90)) (tgt := 122) hx hb dA_loanAt_32 (by rw [hc]; decide) (by rw [hc]; decide) (by rw [hc]; decide +kernel) (by decide) ?_
        refine lv_aload_n hx hb dA_loanAt_122 rfl (lv_at hl 0 rfl) ?_
        refine va_get (D := D) (ci := 0) (v := .ref (ad 4)) (C := RA) (T := TA) (N := 9) hx hb hG inA hown hK hP 0 rfl rfl 3 (by decide) (hG _ mw_177) (fun _ h9 => h9) rfl dA_loanAt_123 ?_
        refine va_get (D := D) (ci := 4) (v := .ref (ad 30)) (C := RLo) (T := TLo) (N := 7) hx hb hG inLo hown hK hP 4 rfl rfl 5 (by decide) (hG _ mw_142) (fun _ h9 => h9) rfl dA_loanAt_126 ?_
        refine lv_iload_n hx hb dA_loanAt_129 rfl (lv_at hl 1 rfl) ?_
        obtain ⟨hg6, h⟩ := gI_some h
        refine va_iald (f := (u.2.1 24)) hx hb hK hP 30 0 rfl rfl hg6 dA_loanAt_130 ?_
        cases h
        exact gx_iret hx hb hr hlocks hP hD hS dA_loanAt_131
      rw [if_neg hc] at h
      have hs5 := hc
      refine lv_tableOut (tgt := 132) hx hb dA_loanAt_32 (gw_out5 hs0 hs1 hs2 hs3 hs4 hs5) (by decide) ?_
      refine lv_aload_n hx hb dA_loanAt_132 rfl (lv_at hl 0 rfl) ?_
      refine lv_iload_n hx hb dA_loanAt_133 rfl (lv_at hl 1 rfl) ?_
      obtain ⟨q7, q7_h, h⟩ := gw_bind h
      refine gw_callV (As := [.int a1]) (rest := []) (u := u) (u' := u) hx hb hml hown hG (c_A_costOfLoan l D ad cI cZ cJ u a1 _ q7_h) lk_A_231 rfl rfl ⟨Nat.le_of_ble_eq_true rfl, Nat.le_of_ble_eq_true rfl⟩ (va_recv hK hP (ci := 0) (q0 := 0) rfl rfl) hK hP hD hS hA rfl hl.1 rfl (Nat.le_of_ble_eq_true rfl) dA_loanAt_134 ⟨Nat.le_of_ble_eq_true rfl, Nat.le_of_ble_eq_true rfl⟩ (fun H locs hP hD hS => ?_)
      cases h
      exact gx_iret hx hb hr hlocks hP hD hS dA_loanAt_137
    · rw [if_pos hc] at h
      cases h
      exact gx_thr (cd := 1) (cls := "java/lang/IllegalArgumentException") (text := "no such loan or what") hC rfl (by decide) rfl (by decide +kernel) (by decide +kernel) mw_332 mw_14 (by decide +kernel) gx_a1 gx_b1 gx_g1 hP hD hS hl.1 dA_loanAt_21 dA_loanAt_24 dA_loanAt_25 dA_loanAt_27 dA_loanAt_30 (Nat.le_of_ble_eq_true rfl) (Nat.le_of_ble_eq_true rfl) (Nat.le_of_ble_eq_true rfl) (Nat.le_of_ble_eq_true rfl)
set_option maxHeartbeats 4000000 in
set_option maxRecDepth 100000 in
theorem lp_A_cost_25 {p : Program} {l : Launch} {e : Env} {s : State} {m : MethodId} {args : Array Value} {below : List Frame} {meth : Method} {c : Code} {A : Nat → Prop} {D : va_G} {ad : Nat → Nat} {cI cZ cJ : ClassId} (hC : gx_C p l s m args meth c "AidRows" cA_cost 4 (some .int) D vwCl (tA cI cZ cJ) A) (N : Nat) : ∀ (n : Nat) (u : StA) (x1 : Int32) (x2 : Int32) (x3 : Int32) (cd : Nat) (r : Int32) (w : StA), f_A_cost_25 N n u x1 x2 x3 = some ((cd, r), w) → ∀ (H : Heap) (locs : List Loc) (ls : Array Slot), va_P D vwCl (wA ad cI cZ cJ u) H → va_D A (wA ad cI cZ cJ u) → va_S A s.heap H locs → lv_has ls 4 [(0, .ref (ad 0)), (1, .int x1), (2, .int x2), (3, .int x3)] → W p l e ({ frames := 6, cells := 1, slots := 6, locals := 82 } : Room) s m args below meth c H locs 0 0 (vx_MQ below (gx_Q D vwCl (wA ad cI cZ cJ) A cd w (some (.int r))) (gx_X D vwCl (wA ad cI cZ cJ) A cd w) args s 1 6 A) (F0 m 25 ls []) := by
  obtain ⟨⟨hx, hb, hr, hml, hG, hown, hlocks, hK, hA⟩, hst, hE, htb⟩ := id hC
  intro n
  induction n with
  | zero => intro u x1 x2 x3 cd r w h; cases h
  | succ n ih =>
    intro u x1 x2 x3 cd r w h H locs ls hP hD hS hl
    rw [f_A_cost_25] at h
    refine lv_iload_n hx hb dA_cost_25 rfl (lv_at hl 3 rfl) ?_
    refine lv_aload_n hx hb dA_cost_26 rfl (lv_at hl 0 rfl) ?_
    refine va_get (D := D) (ci := 0) (v := .ref (ad 4)) (C := RA) (T := TA) (N := 9) hx hb hG inA hown hK hP 0 rfl rfl 3 (by decide) (hG _ mw_177) (fun _ h9 => h9) rfl dA_cost_27 ?_
    refine va_get (D := D) (ci := 4) (v := .int (u.1 6)) (C := RLo) (T := TLo) (N := 7) hx hb hG inLo hown hK hP 4 rfl rfl 6 (by decide) (hG _ mw_144) (fun _ h9 => h9) rfl dA_cost_30 ?_
    refine lv_icmp_ge (tgt := 63) hx hb dA_cost_33 (by decide) (fun hc => ?_) (fun hc => ?_)
    · rw [if_pos hc] at h
      refine lv_iload_n hx hb dA_cost_63 rfl (lv_at hl 2 rfl) ?_
      cases h
      exact gx_iret hx hb hr hlocks hP hD hS dA_cost_64
    · rw [if_neg hc] at h
      refine lv_aload_n hx hb dA_cost_36 rfl (lv_at hl 0 rfl) ?_
      refine va_get (D := D) (ci := 0) (v := .ref (ad 4)) (C := RA) (T := TA) (N := 9) hx hb hG inA hown hK hP 0 rfl rfl 3 (by decide) (hG _ mw_177) (fun _ h9 => h9) rfl dA_cost_37 ?_
      refine va_get (D := D) (ci := 4) (v := .ref (ad 25)) (C := RLo) (T := TLo) (N := 7) hx hb hG inLo hown hK hP 4 rfl rfl 0 (by decide) (hG _ mw_132) (fun _ h9 => h9) rfl dA_cost_40 ?_
      refine lv_iload_n hx hb dA_cost_43 rfl (lv_at hl 3 rfl) ?_
      obtain ⟨hg1, h⟩ := gI_some h
      refine va_iald (f := (u.2.1 19)) hx hb hK hP 25 0 rfl rfl hg1 dA_cost_44 ?_
      refine lv_iload_n hx hb dA_cost_45 rfl (lv_at hl 1 rfl) ?_
      refine lv_icmp_ne (tgt := 57) hx hb dA_cost_46 (by decide) (fun hc => ?_) (fun hc => ?_)
      · rw [if_neg hc] at h
        refine lv_iinc (v := (x3 + (1 : Int32))) (lv' := [(3, .int (x3 + (1 : Int32))), (0, .ref (ad 0)), (1, .int x1), (2, .int x2)]) hx hb dA_cost_57 hl (k := 3) rfl rfl (by decide) rfl (fun ls hl => ?_)
        refine lv_goto (tgt := 25) hx hb dA_cost_60 (by decide) ?_
        exact ih u x1 x2 (x3 + (1 : Int32)) _ _ _ h H locs ls hP hD hS (lv_sub hl [1, 2, 3, 0] rfl)
      · rw [if_pos hc] at h
        refine lv_iload_n hx hb dA_cost_49 rfl (lv_at hl 2 rfl) ?_
        refine lv_aload_n hx hb dA_cost_50 rfl (lv_at hl 0 rfl) ?_
        refine lv_iload_n hx hb dA_cost_51 rfl (lv_at hl 3 rfl) ?_
        obtain ⟨q2, q2_h, h⟩ := gw_bind h
        refine gw_callV (As := [.int x3]) (rest := [.int x2]) (u := u) (u' := u) hx hb hml hown hG (c_A_costOfLoan l D ad cI cZ cJ u x3 _ q2_h) lk_A_231 rfl rfl ⟨Nat.le_of_ble_eq_true rfl, Nat.le_of_ble_eq_true rfl⟩ (va_recv hK hP (ci := 0) (q0 := 0) rfl rfl) hK hP hD hS hA rfl hl.1 rfl (Nat.le_of_ble_eq_true rfl) dA_cost_52 ⟨Nat.le_of_ble_eq_true rfl, Nat.le_of_ble_eq_true rfl⟩ (fun H locs hP hD hS => ?_)
        refine lv_iadd hx hb dA_cost_55 ?_
        refine lv_istore_n (lv' := [(2, .int (x2 + q2)), (0, .ref (ad 0)), (1, .int x1), (3, .int x3)]) hx hb dA_cost_56 rfl hl (by decide) rfl (fun ls hl => ?_)
        refine lv_iinc (v := (x3 + (1 : Int32))) (lv' := [(3, .int (x3 + (1 : Int32))), (2, .int (x2 + q2)), (0, .ref (ad 0)), (1, .int x1)]) hx hb dA_cost_57 hl (k := 3) rfl rfl (by decide) rfl (fun ls hl => ?_)
        refine lv_goto (tgt := 25) hx hb dA_cost_60 (by decide) ?_
        exact ih u x1 (x2 + q2) (x3 + (1 : Int32)) _ _ _ h H locs ls hP hD hS (lv_sub hl [2, 3, 1, 0] rfl)
set_option maxHeartbeats 4000000 in
set_option maxRecDepth 100000 in
theorem c_A_cost (l : Launch) (hst : l.stackTraces = false) (D : va_G) (ad : Nat → Nat) (cI cZ cJ : ClassId) (N : Nat) (u : StA) (a1 : Int32) (cd : Nat) (r : Int32) (w : StA) (h : f_A_cost N u a1 = some ((cd, r), w)) : gx_Ct l D vwCl (tA cI cZ cJ) (wA ad cI cZ cJ) yA_cost (Cond.code yA_cost cA_cost 4 (some .int) :: gG) ({ frames := 6, cells := 1, slots := 6, locals := 82 } : Room) [.ref (ad 0), .int a1] u cd (some (.int r)) w := by
  refine gx_enter hst (by decide) (Nat.le_of_ble_eq_true rfl) ?_
  intro p e s m below meth c A hC hP hD hS ls hl
  obtain ⟨⟨hx, hb, hr, hml, hG, hown, hlocks, hK, hA⟩, hst, hE, htb⟩ := id hC
  have hl : lv_has ls 4 [(0, .ref (ad 0)), (1, .int a1)] := hl
  obtain ⟨H, hH⟩ : ∃ H, H = s.heap := ⟨_, rfl⟩
  obtain ⟨locs, hlocs⟩ : ∃ x : List Loc, x = [] := ⟨_, rfl⟩
  rw [← hlocs] at hS ⊢
  have hP : va_P D vwCl (wA ad cI cZ cJ u) H := by rw [hH]; exact hP
  have hS : va_S A s.heap H locs := by rw [hH]; exact hS
  suffices g : W p l e ({ frames := 6, cells := 1, slots := 6, locals := 82 } : Room) s m [.ref (ad 0), .int a1].toArray below meth c H locs 0 0 (vx_MQ below (gx_Q D vwCl (wA ad cI cZ cJ) A cd w (some (.int r))) (gx_X D vwCl (wA ad cI cZ cJ) A cd w) [.ref (ad 0), .int a1].toArray s 1 6 A) (F0 m 0 ls []) by rw [hH] at g; exact g
  unfold f_A_cost at h
  refine lv_aload_n hx hb dA_cost_0 rfl (lv_at hl 0 rfl) ?_
  refine va_get (D := D) (ci := 0) (v := .ref (ad 1)) (C := RA) (T := TA) (N := 9) hx hb hG inA hown hK hP 0 rfl rfl 0 (by decide) (hG _ mw_174) (fun _ h9 => h9) rfl dA_cost_1 ?_
  refine lv_iload_n hx hb dA_cost_4 rfl (lv_at hl 1 rfl) ?_
  refine gw_callV (As := [.int a1]) (rest := []) (u := u) (u' := u) hx hb hml hown hG (c_Ho_has l D ad cI cZ cJ u a1 _ rfl) lk_A_78 rfl rfl ⟨Nat.le_of_ble_eq_true rfl, Nat.le_of_ble_eq_true rfl⟩ (va_recv hK hP (ci := 1) (q0 := 1) rfl rfl) hK hP hD hS hA rfl hl.1 rfl (Nat.le_of_ble_eq_true rfl) dA_cost_5 ⟨Nat.le_of_ble_eq_true rfl, Nat.le_of_ble_eq_true rfl⟩ (fun H locs hP hD hS => ?_)
  refine lv_if_ne (tgt := 21) hx hb dA_cost_8 (by decide) (fun hc => ?_) (fun hc => ?_)
  · rw [if_neg hc] at h
    refine lv_iconst (v := (0 : Int32)) hx hb dA_cost_21 (by decide) ?_
    refine lv_istore_n (lv' := [(2, .int (0 : Int32)), (0, .ref (ad 0)), (1, .int a1)]) hx hb dA_cost_22 rfl hl (by decide) rfl (fun ls hl => ?_)
    refine lv_iconst (v := (0 : Int32)) hx hb dA_cost_23 (by decide) ?_
    refine lv_istore_n (lv' := [(3, .int (0 : Int32)), (2, .int (0 : Int32)), (0, .ref (ad 0)), (1, .int a1)]) hx hb dA_cost_24 rfl hl (by decide) rfl (fun ls hl => ?_)
    exact lp_A_cost_25 hC N N u a1 (0 : Int32) (0 : Int32) _ _ _ h H locs ls hP hD hS (lv_sub hl [2, 3, 1, 0] rfl)
  · rw [if_pos hc] at h
    cases h
    exact gx_thr (cd := 1) (cls := "java/lang/IllegalArgumentException") (text := "no such house") hC rfl (by decide) rfl (by decide +kernel) (by decide +kernel) mw_332 mw_14 (by decide +kernel) gx_a1 gx_b1 gx_g1 hP hD hS hl.1 dA_cost_11 dA_cost_14 dA_cost_15 dA_cost_17 dA_cost_20 (Nat.le_of_ble_eq_true rfl) (Nat.le_of_ble_eq_true rfl) (Nat.le_of_ble_eq_true rfl) (Nat.le_of_ble_eq_true rfl)
set_option maxHeartbeats 4000000 in
set_option maxRecDepth 100000 in
theorem c_A_ask (l : Launch) (hst : l.stackTraces = false) (D : va_G) (ad : Nat → Nat) (cI cZ cJ : ClassId) (N : Nat) (u : StA) (a1 : Int32) (a2 : Int32) (a3 : Int32) (cd : Nat) (r : Int32) (w : StA) (h : f_A_ask N u a1 a2 a3 = some ((cd, r), w)) : gx_Ct l D vwCl (tA cI cZ cJ) (wA ad cI cZ cJ) yA_ask (Cond.code yA_ask cA_ask 5 (some .int) :: gG) ({ frames := 6, cells := 1, slots := 6, locals := 96 } : Room) [.ref (ad 0), .int a1, .int a2, .int a3] u cd (some (.int r)) w := by
  refine gx_enter hst (by decide) (Nat.le_of_ble_eq_true rfl) ?_
  intro p e s m below meth c A hC hP hD hS ls hl
  obtain ⟨⟨hx, hb, hr, hml, hG, hown, hlocks, hK, hA⟩, hst, hE, htb⟩ := id hC
  have hl : lv_has ls 5 [(0, .ref (ad 0)), (1, .int a1), (2, .int a2), (3, .int a3)] := hl
  obtain ⟨H, hH⟩ : ∃ H, H = s.heap := ⟨_, rfl⟩
  obtain ⟨locs, hlocs⟩ : ∃ x : List Loc, x = [] := ⟨_, rfl⟩
  rw [← hlocs] at hS ⊢
  have hP : va_P D vwCl (wA ad cI cZ cJ u) H := by rw [hH]; exact hP
  have hS : va_S A s.heap H locs := by rw [hH]; exact hS
  suffices g : W p l e ({ frames := 6, cells := 1, slots := 6, locals := 96 } : Room) s m [.ref (ad 0), .int a1, .int a2, .int a3].toArray below meth c H locs 0 0 (vx_MQ below (gx_Q D vwCl (wA ad cI cZ cJ) A cd w (some (.int r))) (gx_X D vwCl (wA ad cI cZ cJ) A cd w) [.ref (ad 0), .int a1, .int a2, .int a3].toArray s 1 6 A) (F0 m 0 ls []) by rw [hH] at g; exact g
  unfold f_A_ask at h
  refine lv_iload_n hx hb dA_ask_0 rfl (lv_at hl 1 rfl) ?_
  refine lv_iconst (v := (0 : Int32)) hx hb dA_ask_1 (by decide) ?_
  refine lv_bipush (v := (9 : Int32)) hx hb dA_ask_2 (by decide) ?_
  refine gw_callS (As := [.int a1, .int (0 : Int32), .int (9 : Int32)]) (rest := []) (u := u) (u' := u) hx hb hml hown hG (c_A_isWithin l D ad cI cZ cJ u a1 (0 : Int32) (9 : Int32) _ rfl) lk_A_54 rfl rfl ⟨Nat.le_of_ble_eq_true rfl, Nat.le_of_ble_eq_true rfl⟩ hK hP hD hS hA rfl hl.1 rfl (Nat.le_of_ble_eq_true rfl) dA_ask_4 ⟨Nat.le_of_ble_eq_true rfl, Nat.le_of_ble_eq_true rfl⟩ (fun H locs hP hD hS => ?_)
  refine lv_if_ne (tgt := 20) hx hb dA_ask_7 (by decide) (fun hc => ?_) (fun hc => ?_)
  · rw [if_neg hc] at h
    refine lv_iload_n hx hb dA_ask_20 rfl (lv_at hl 2 rfl) ?_
    refine lv_iconst (v := (1 : Int32)) hx hb dA_ask_21 (by decide) ?_
    refine lv_bipush (v := (20 : Int32)) hx hb dA_ask_22 (by decide) ?_
    refine gw_callS (As := [.int a2, .int (1 : Int32), .int (20 : Int32)]) (rest := []) (u := u) (u' := u) hx hb hml hown hG (c_A_isWithin l D ad cI cZ cJ u a2 (1 : Int32) (20 : Int32) _ rfl) lk_A_54 rfl rfl ⟨Nat.le_of_ble_eq_true rfl, Nat.le_of_ble_eq_true rfl⟩ hK hP hD hS hA rfl hl.1 rfl (Nat.le_of_ble_eq_true rfl) dA_ask_24 ⟨Nat.le_of_ble_eq_true rfl, Nat.le_of_ble_eq_true rfl⟩ (fun H locs hP hD hS => ?_)
    refine lv_if_eq (tgt := 41) hx hb dA_ask_27 (by decide) (fun hc => ?_) (fun hc => ?_)
    · rw [if_pos hc] at h
      cases h
      exact gx_thr (cd := 2) (cls := "java/lang/IndexOutOfBoundsException") (text := "units or patience") hC rfl (by decide) rfl (by decide +kernel) (by decide +kernel) mw_226 mw_12 (by decide +kernel) gx_a2 gx_b2 gx_g2 hP hD hS hl.1 dA_ask_41 dA_ask_44 dA_ask_45 dA_ask_47 dA_ask_50 (Nat.le_of_ble_eq_true rfl) (Nat.le_of_ble_eq_true rfl) (Nat.le_of_ble_eq_true rfl) (Nat.le_of_ble_eq_true rfl)
    · rw [if_neg hc] at h
      refine lv_iload_n hx hb dA_ask_30 rfl (lv_at hl 3 rfl) ?_
      refine lv_iconst (v := (1 : Int32)) hx hb dA_ask_31 (by decide) ?_
      refine lv_sipush (v := (500 : Int32)) hx hb dA_ask_32 (by decide) ?_
      refine gw_callS (As := [.int a3, .int (1 : Int32), .int (500 : Int32)]) (rest := []) (u := u) (u' := u) hx hb hml hown hG (c_A_isWithin l D ad cI cZ cJ u a3 (1 : Int32) (500 : Int32) _ rfl) lk_A_54 rfl rfl ⟨Nat.le_of_ble_eq_true rfl, Nat.le_of_ble_eq_true rfl⟩ hK hP hD hS hA rfl hl.1 rfl (Nat.le_of_ble_eq_true rfl) dA_ask_35 ⟨Nat.le_of_ble_eq_true rfl, Nat.le_of_ble_eq_true rfl⟩ (fun H locs hP hD hS => ?_)
      refine lv_if_ne (tgt := 51) hx hb dA_ask_38 (by decide) (fun hc => ?_) (fun hc => ?_)
      · rw [if_neg hc] at h
        refine lv_aload_n hx hb dA_ask_51 rfl (lv_at hl 0 rfl) ?_
        refine va_get (D := D) (ci := 0) (v := .ref (ad 3)) (C := RA) (T := TA) (N := 9) hx hb hG inA hown hK hP 0 rfl rfl 2 (by decide) (hG _ mw_176) (fun _ h9 => h9) rfl dA_ask_52 ?_
        refine gw_callV (As := []) (rest := []) (u := u) (u' := u) hx hb hml hown hG (c_As_isFull l D ad cI cZ cJ u _ rfl) lk_A_115 rfl rfl ⟨Nat.le_of_ble_eq_true rfl, Nat.le_of_ble_eq_true rfl⟩ (va_recv hK hP (ci := 3) (q0 := 3) rfl rfl) hK hP hD hS hA rfl hl.1 rfl (Nat.le_of_ble_eq_true rfl) dA_ask_55 ⟨Nat.le_of_ble_eq_true rfl, Nat.le_of_ble_eq_true rfl⟩ (fun H locs hP hD hS => ?_)
        refine lv_if_eq (tgt := 71) hx hb dA_ask_58 (by decide) (fun hc => ?_) (fun hc => ?_)
        · rw [if_pos hc] at h
          refine lv_aload_n hx hb dA_ask_71 rfl (lv_at hl 0 rfl) ?_
          refine va_get (D := D) (ci := 0) (v := .ref (ad 3)) (C := RA) (T := TA) (N := 9) hx hb hG inA hown hK hP 0 rfl rfl 2 (by decide) (hG _ mw_176) (fun _ h9 => h9) rfl dA_ask_72 ?_
          refine lv_iload_n hx hb dA_ask_75 rfl (lv_at hl 1 rfl) ?_
          refine lv_iload_n hx hb dA_ask_76 rfl (lv_at hl 2 rfl) ?_
          refine lv_iload_n hx hb dA_ask_77 rfl (lv_at hl 3 rfl) ?_
          obtain ⟨q1, q1_h, h⟩ := gw_bind h
          refine gw_callV (As := [.int a1, .int a2, .int a3]) (rest := []) (u := u) (u' := q1.2) hx hb hml hown hG (c_As_add l D ad cI cZ cJ u a1 a2 a3 _ _ q1_h) lk_A_118 rfl rfl ⟨Nat.le_of_ble_eq_true rfl, Nat.le_of_ble_eq_true rfl⟩ (va_recv hK hP (ci := 3) (q0 := 3) rfl rfl) hK hP hD hS hA rfl hl.1 rfl (Nat.le_of_ble_eq_true rfl) dA_ask_78 ⟨Nat.le_of_ble_eq_true rfl, Nat.le_of_ble_eq_true rfl⟩ (fun H locs hP hD hS => ?_)
          refine lv_istore (lv' := [(4, .int q1.1), (0, .ref (ad 0)), (1, .int a1), (2, .int a2), (3, .int a3)]) hx hb dA_ask_81 hl (by decide) rfl (fun ls hl => ?_)
          refine lv_aload_n hx hb dA_ask_83 rfl (lv_at hl 1 rfl) ?_
          refine lv_iload hx hb dA_ask_84 (lv_at hl 0 rfl) ?_
          obtain ⟨q2, q2_h, h⟩ := gw_bind h
          refine gw_callV (As := [.int q1.1]) (rest := []) (u := q1.2) (u' := q2) hx hb hml hown hG (c_A_sendOn l D ad cI cZ cJ N q1.2 q1.1 _ q2_h) lk_A_121 rfl rfl ⟨Nat.le_of_ble_eq_true rfl, Nat.le_of_ble_eq_true rfl⟩ (va_recv hK hP (ci := 0) (q0 := 0) rfl rfl) hK hP hD hS hA rfl hl.1 rfl (Nat.le_of_ble_eq_true rfl) dA_ask_86 ⟨Nat.le_of_ble_eq_true rfl, Nat.le_of_ble_eq_true rfl⟩ (fun H locs hP hD hS => ?_)
          refine lv_iload hx hb dA_ask_89 (lv_at hl 0 rfl) ?_
          cases h
          exact gx_iret hx hb hr hlocks hP hD hS dA_ask_91
        · rw [if_neg hc] at h
          cases h
          exact gx_thr (cd := 4) (cls := "java/lang/UnsupportedOperationException") (text := "no room for an ask") hC rfl (by decide) rfl (by decide +kernel) (by decide +kernel) mw_299 mw_13 (by decide +kernel) gx_a4 gx_b4 gx_g4 hP hD hS hl.1 dA_ask_61 dA_ask_64 dA_ask_65 dA_ask_67 dA_ask_70 (Nat.le_of_ble_eq_true rfl) (Nat.le_of_ble_eq_true rfl) (Nat.le_of_ble_eq_true rfl) (Nat.le_of_ble_eq_true rfl)
      · rw [if_pos hc] at h
        cases h
        exact gx_thr (cd := 2) (cls := "java/lang/IndexOutOfBoundsException") (text := "units or patience") hC rfl (by decide) rfl (by decide +kernel) (by decide +kernel) mw_226 mw_12 (by decide +kernel) gx_a2 gx_b2 gx_g2 hP hD hS hl.1 dA_ask_41 dA_ask_44 dA_ask_45 dA_ask_47 dA_ask_50 (Nat.le_of_ble_eq_true rfl) (Nat.le_of_ble_eq_true rfl) (Nat.le_of_ble_eq_true rfl) (Nat.le_of_ble_eq_true rfl)
  · rw [if_pos hc] at h
    cases h
    exact gx_thr (cd := 1) (cls := "java/lang/IllegalArgumentException") (text := "no such kind") hC rfl (by decide) rfl (by decide +kernel) (by decide +kernel) mw_332 mw_14 (by decide +kernel) gx_a1 gx_b1 gx_g1 hP hD hS hl.1 dA_ask_10 dA_ask_13 dA_ask_14 dA_ask_16 dA_ask_19 (Nat.le_of_ble_eq_true rfl) (Nat.le_of_ble_eq_true rfl) (Nat.le_of_ble_eq_true rfl) (Nat.le_of_ble_eq_true rfl)
set_option maxHeartbeats 4000000 in
set_option maxRecDepth 100000 in
theorem lp_A_tick_44 {p : Program} {l : Launch} {e : Env} {s : State} {m : MethodId} {args : Array Value} {below : List Frame} {meth : Method} {c : Code} {A : Nat → Prop} {D : va_G} {ad : Nat → Nat} {cI cZ cJ : ClassId} (hC : gx_C p l s m args meth c "AidRows" cA_tick 5 (some .int) D vwCl (tA cI cZ cJ) A) (N : Nat) : ∀ (n : Nat) (u : StA) (x1 : Int32) (x2 : Int32) (x3 : Int32) (x4 : Int32) (cd : Nat) (r : Int32) (w : StA), f_A_tick_44 N n u x1 x2 x3 x4 = some ((cd, r), w) → ∀ (H : Heap) (locs : List Loc) (ls : Array Slot), va_P D vwCl (wA ad cI cZ cJ u) H → va_D A (wA ad cI cZ cJ u) → va_S A s.heap H locs → lv_has ls 5 [(0, .ref (ad 0)), (1, .int x1), (2, .int x2), (3, .int x3), (4, .int x4)] → W p l e ({ frames := 6, cells := 1, slots := 6, locals := 118 } : Room) s m args below meth c H locs 0 0 (vx_MQ below (gx_Q D vwCl (wA ad cI cZ cJ) A cd w (some (.int r))) (gx_X D vwCl (wA ad cI cZ cJ) A cd w) args s 1 6 A) (F0 m 44 ls []) := by
  obtain ⟨⟨hx, hb, hr, hml, hG, hown, hlocks, hK, hA⟩, hst, hE, htb⟩ := id hC
  intro n
  induction n with
  | zero => intro u x1 x2 x3 x4 cd r w h; cases h
  | succ n ih =>
    intro u x1 x2 x3 x4 cd r w h H locs ls hP hD hS hl
    rw [f_A_tick_44] at h
    refine lv_iload hx hb dA_tick_44 (lv_at hl 4 rfl) ?_
    refine lv_iload_n hx hb dA_tick_46 rfl (lv_at hl 1 rfl) ?_
    refine lv_icmp_ge (tgt := 84) hx hb dA_tick_47 (by decide) (fun hc => ?_) (fun hc => ?_)
    · rw [if_pos hc] at h
      refine lv_iload_n hx hb dA_tick_84 rfl (lv_at hl 3 rfl) ?_
      cases h
      exact gx_iret hx hb hr hlocks hP hD hS dA_tick_85
    · rw [if_neg hc] at h
      refine lv_aload_n hx hb dA_tick_50 rfl (lv_at hl 0 rfl) ?_
      refine va_get (D := D) (ci := 0) (v := .int (u.1 0)) (C := RA) (T := TA) (N := 9) hx hb hG inA hown hK hP 0 rfl rfl 6 (by decide) (hG _ mw_180) (fun _ h9 => h9) rfl dA_tick_51 ?_
      refine lv_iload_n hx hb dA_tick_54 rfl (lv_at hl 2 rfl) ?_
      refine lv_icmp_ge (tgt := 84) hx hb dA_tick_55 (by decide) (fun hc => ?_) (fun hc => ?_)
      · rw [if_pos hc] at h
        refine lv_iload_n hx hb dA_tick_84 rfl (lv_at hl 3 rfl) ?_
        cases h
        exact gx_iret hx hb hr hlocks hP hD hS dA_tick_85
      · rw [if_neg hc] at h
        refine lv_aload_n hx hb dA_tick_58 rfl (lv_at hl 0 rfl) ?_
        refine lv_aload_n hx hb dA_tick_59 rfl (lv_at hl 0 rfl) ?_
        refine lv_iload_n hx hb dA_tick_60 rfl (lv_at hl 2 rfl) ?_
        obtain ⟨q1, q1_h, h⟩ := gw_bind h
        refine gw_callV (As := [.int x2]) (rest := [.ref (ad 0)]) (u := u) (u' := u) hx hb hml hown hG (c_A_nextEvent l D ad cI cZ cJ N u x2 _ q1_h) lk_A_174 rfl rfl ⟨Nat.le_of_ble_eq_true rfl, Nat.le_of_ble_eq_true rfl⟩ (va_recv hK hP (ci := 0) (q0 := 0) rfl rfl) hK hP hD hS hA rfl hl.1 rfl (Nat.le_of_ble_eq_true rfl) dA_tick_61 ⟨Nat.le_of_ble_eq_true rfl, Nat.le_of_ble_eq_true rfl⟩ (fun H locs hP hD hS => ?_)
        refine va_put (D := D) (ci := 0) (v := .int q1) (ty := .int) (C := RA) (T := TA) (N := 9) hx hb hG inA tyA tyA_ok nmA hown hK hP hD hS 0 rfl rfl 6 (by decide) (hG _ mw_180) (fun _ h9 => h9) rfl (by decide +kernel) rfl rfl (Nat.le_of_ble_eq_true rfl) dA_tick_64 (fun H locs hP hD hS => ?_)
        rw [wA_f0] at hP hD
        refine lv_aload_n hx hb dA_tick_67 rfl (lv_at hl 0 rfl) ?_
        obtain ⟨q2, q2_h, h⟩ := gw_bind h
        refine gw_callV (As := []) (rest := []) (u := (sF u 0 q1)) (u' := q2) hx hb hml hown hG (c_A_endLoansWithAgreements l D ad cI cZ cJ N (sF u 0 q1) _ q2_h) lk_A_178 rfl rfl ⟨Nat.le_of_ble_eq_true rfl, Nat.le_of_ble_eq_true rfl⟩ (va_recv hK hP (ci := 0) (q0 := 0) rfl rfl) hK hP hD hS hA rfl hl.1 rfl (Nat.le_of_ble_eq_true rfl) dA_tick_68 ⟨Nat.le_of_ble_eq_true rfl, Nat.le_of_ble_eq_true rfl⟩ (fun H locs hP hD hS => ?_)
        refine lv_iload_n hx hb dA_tick_71 rfl (lv_at hl 3 rfl) ?_
        refine lv_aload_n hx hb dA_tick_72 rfl (lv_at hl 0 rfl) ?_
        obtain ⟨q3, q3_h, h⟩ := gw_bind h
        refine gw_callV (As := []) (rest := [.int x3]) (u := q2) (u' := q3.2) hx hb hml hown hG (c_A_sendOnImpatientAsks l D ad cI cZ cJ N q2 _ _ q3_h) lk_A_181 rfl rfl ⟨Nat.le_of_ble_eq_true rfl, Nat.le_of_ble_eq_true rfl⟩ (va_recv hK hP (ci := 0) (q0 := 0) rfl rfl) hK hP hD hS hA rfl hl.1 rfl (Nat.le_of_ble_eq_true rfl) dA_tick_73 ⟨Nat.le_of_ble_eq_true rfl, Nat.le_of_ble_eq_true rfl⟩ (fun H locs hP hD hS => ?_)
        refine lv_iadd hx hb dA_tick_76 ?_
        refine lv_istore_n (lv' := [(3, .int (x3 + q3.1)), (0, .ref (ad 0)), (1, .int x1), (2, .int x2), (4, .int x4)]) hx hb dA_tick_77 rfl hl (by decide) rfl (fun ls hl => ?_)
        refine lv_iinc (v := (x4 + (1 : Int32))) (lv' := [(4, .int (x4 + (1 : Int32))), (3, .int (x3 + q3.1)), (0, .ref (ad 0)), (1, .int x1), (2, .int x2)]) hx hb dA_tick_78 hl (k := 4) rfl rfl (by decide) rfl (fun ls hl => ?_)
        refine lv_goto (tgt := 44) hx hb dA_tick_81 (by decide) ?_
        exact ih q3.2 x1 x2 (x3 + q3.1) (x4 + (1 : Int32)) _ _ _ h H locs ls hP hD hS (lv_sub hl [2, 3, 4, 1, 0] rfl)
set_option maxHeartbeats 4000000 in
set_option maxRecDepth 100000 in
theorem c_A_tick (l : Launch) (hst : l.stackTraces = false) (D : va_G) (ad : Nat → Nat) (cI cZ cJ : ClassId) (N : Nat) (u : StA) (a1 : Int32) (cd : Nat) (r : Int32) (w : StA) (h : f_A_tick N u a1 = some ((cd, r), w)) : gx_Ct l D vwCl (tA cI cZ cJ) (wA ad cI cZ cJ) yA_tick (Cond.code yA_tick cA_tick 5 (some .int) :: gG) ({ frames := 6, cells := 1, slots := 6, locals := 118 } : Room) [.ref (ad 0), .int a1] u cd (some (.int r)) w := by
  refine gx_enter hst (by decide) (Nat.le_of_ble_eq_true rfl) ?_
  intro p e s m below meth c A hC hP hD hS ls hl
  obtain ⟨⟨hx, hb, hr, hml, hG, hown, hlocks, hK, hA⟩, hst, hE, htb⟩ := id hC
  have hl : lv_has ls 5 [(0, .ref (ad 0)), (1, .int a1)] := hl
  obtain ⟨H, hH⟩ : ∃ H, H = s.heap := ⟨_, rfl⟩
  obtain ⟨locs, hlocs⟩ : ∃ x : List Loc, x = [] := ⟨_, rfl⟩
  rw [← hlocs] at hS ⊢
  have hP : va_P D vwCl (wA ad cI cZ cJ u) H := by rw [hH]; exact hP
  have hS : va_S A s.heap H locs := by rw [hH]; exact hS
  suffices g : W p l e ({ frames := 6, cells := 1, slots := 6, locals := 118 } : Room) s m [.ref (ad 0), .int a1].toArray below meth c H locs 0 0 (vx_MQ below (gx_Q D vwCl (wA ad cI cZ cJ) A cd w (some (.int r))) (gx_X D vwCl (wA ad cI cZ cJ) A cd w) [.ref (ad 0), .int a1].toArray s 1 6 A) (F0 m 0 ls []) by rw [hH] at g; exact g
  unfold f_A_tick at h
  refine lv_iload_n hx hb dA_tick_0 rfl (lv_at hl 1 rfl) ?_
  refine lv_iconst (v := (1 : Int32)) hx hb dA_tick_1 (by decide) ?_
  refine lv_sipush (v := (2000 : Int32)) hx hb dA_tick_2 (by decide) ?_
  refine gw_callS (As := [.int a1, .int (1 : Int32), .int (2000 : Int32)]) (rest := []) (u := u) (u' := u) hx hb hml hown hG (c_A_isWithin l D ad cI cZ cJ u a1 (1 : Int32) (2000 : Int32) _ rfl) lk_A_54 rfl rfl ⟨Nat.le_of_ble_eq_true rfl, Nat.le_of_ble_eq_true rfl⟩ hK hP hD hS hA rfl hl.1 rfl (Nat.le_of_ble_eq_true rfl) dA_tick_5 ⟨Nat.le_of_ble_eq_true rfl, Nat.le_of_ble_eq_true rfl⟩ (fun H locs hP hD hS => ?_)
  refine lv_if_eq (tgt := 22) hx hb dA_tick_8 (by decide) (fun hc => ?_) (fun hc => ?_)
  · rw [if_pos hc] at h
    cases h
    exact gx_thr (cd := 2) (cls := "java/lang/IndexOutOfBoundsException") (text := "minutes") hC rfl (by decide) rfl (by decide +kernel) (by decide +kernel) mw_226 mw_12 (by decide +kernel) gx_a2 gx_b2 gx_g2 hP hD hS hl.1 dA_tick_22 dA_tick_25 dA_tick_26 dA_tick_28 dA_tick_31 (Nat.le_of_ble_eq_true rfl) (Nat.le_of_ble_eq_true rfl) (Nat.le_of_ble_eq_true rfl) (Nat.le_of_ble_eq_true rfl)
  · rw [if_neg hc] at h
    refine lv_aload_n hx hb dA_tick_11 rfl (lv_at hl 0 rfl) ?_
    refine va_get (D := D) (ci := 0) (v := .int (u.1 0)) (C := RA) (T := TA) (N := 9) hx hb hG inA hown hK hP 0 rfl rfl 6 (by decide) (hG _ mw_180) (fun _ h9 => h9) rfl dA_tick_12 ?_
    refine lv_iload_n hx hb dA_tick_15 rfl (lv_at hl 1 rfl) ?_
    refine lv_iadd hx hb dA_tick_16 ?_
    refine lv_ldc (v := (99999 : Int32)) hx hb hown (hG _ mw_351) dA_tick_17 ?_
    refine lv_icmp_le (tgt := 32) hx hb dA_tick_19 (by decide) (fun hc => ?_) (fun hc => ?_)
    · rw [if_pos hc] at h
      refine lv_aload_n hx hb dA_tick_32 rfl (lv_at hl 0 rfl) ?_
      refine va_get (D := D) (ci := 0) (v := .int (u.1 0)) (C := RA) (T := TA) (N := 9) hx hb hG inA hown hK hP 0 rfl rfl 6 (by decide) (hG _ mw_180) (fun _ h9 => h9) rfl dA_tick_33 ?_
      refine lv_iload_n hx hb dA_tick_36 rfl (lv_at hl 1 rfl) ?_
      refine lv_iadd hx hb dA_tick_37 ?_
      refine lv_istore_n (lv' := [(2, .int ((u.1 0) + a1)), (0, .ref (ad 0)), (1, .int a1)]) hx hb dA_tick_38 rfl hl (by decide) rfl (fun ls hl => ?_)
      refine lv_iconst (v := (0 : Int32)) hx hb dA_tick_39 (by decide) ?_
      refine lv_istore_n (lv' := [(3, .int (0 : Int32)), (2, .int ((u.1 0) + a1)), (0, .ref (ad 0)), (1, .int a1)]) hx hb dA_tick_40 rfl hl (by decide) rfl (fun ls hl => ?_)
      refine lv_iconst (v := (0 : Int32)) hx hb dA_tick_41 (by decide) ?_
      refine lv_istore (lv' := [(4, .int (0 : Int32)), (3, .int (0 : Int32)), (2, .int ((u.1 0) + a1)), (0, .ref (ad 0)), (1, .int a1)]) hx hb dA_tick_42 hl (by decide) rfl (fun ls hl => ?_)
      exact lp_A_tick_44 hC N N u a1 ((u.1 0) + a1) (0 : Int32) (0 : Int32) _ _ _ h H locs ls hP hD hS (lv_sub hl [3, 4, 2, 1, 0] rfl)
    · rw [if_neg hc] at h
      cases h
      exact gx_thr (cd := 2) (cls := "java/lang/IndexOutOfBoundsException") (text := "minutes") hC rfl (by decide) rfl (by decide +kernel) (by decide +kernel) mw_226 mw_12 (by decide +kernel) gx_a2 gx_b2 gx_g2 hP hD hS hl.1 dA_tick_22 dA_tick_25 dA_tick_26 dA_tick_28 dA_tick_31 (Nat.le_of_ble_eq_true rfl) (Nat.le_of_ble_eq_true rfl) (Nat.le_of_ble_eq_true rfl) (Nat.le_of_ble_eq_true rfl)
set_option maxHeartbeats 4000000 in
set_option maxRecDepth 100000 in
theorem lp_A_message_163 {p : Program} {l : Launch} {e : Env} {s : State} {m : MethodId} {args : Array Value} {below : List Frame} {meth : Method} {c : Code} {A : Nat → Prop} {D : va_G} {ad : Nat → Nat} {cI cZ cJ : ClassId} (hC : gx_C p l s m args meth c "AidRows" cA_message 7 (some .int) D vwCl (tA cI cZ cJ) A) (N : Nat) : ∀ (u : StA) (x1 : Int32) (x2 : Int32) (x3 : Int32) (x4 : Int32) (x5 : Int32) (x6 : Int32) (cd : Nat) (r : Int32) (w : StA), f_A_message_163 N u x1 x2 x3 x4 x5 x6 = some ((cd, r), w) → ∀ (H : Heap) (locs : List Loc) (ls : Array Slot), va_P D vwCl (wA ad cI cZ cJ u) H → va_D A (wA ad cI cZ cJ u) → va_S A s.heap H locs → lv_has ls 7 [(0, .ref (ad 0)), (1, .int x1), (2, .int x2), (3, .int x3), (4, .int x4), (5, .int x5), (6, .int x6)] → W p l e ({ frames := 6, cells := 1, slots := 6, locals := 140 } : Room) s m args below meth c H locs 0 0 (vx_MQ below (gx_Q D vwCl (wA ad cI cZ cJ) A cd w (some (.int r))) (gx_X D vwCl (wA ad cI cZ cJ) A cd w) args s 1 6 A) (F0 m 163 ls []) := by
  obtain ⟨⟨hx, hb, hr, hml, hG, hown, hlocks, hK, hA⟩, hst, hE, htb⟩ := id hC
  intro u x1 x2 x3 x4 x5 x6 cd r w h H locs ls hP hD hS hl
  unfold f_A_message_163 at h
  refine lv_aload_n hx hb dA_message_163 rfl (lv_at hl 0 rfl) ?_
  refine va_get (D := D) (ci := 0) (v := .ref (ad 5)) (C := RA) (T := TA) (N := 9) hx hb hG inA hown hK hP 0 rfl rfl 4 (by decide) (hG _ mw_178) (fun _ h9 => h9) rfl dA_message_164 ?_
  refine lv_iload_n hx hb dA_message_167 rfl (lv_at hl 2 rfl) ?_
  refine lv_iload_n hx hb dA_message_168 rfl (lv_at hl 3 rfl) ?_
  refine lv_iload hx hb dA_message_169 (lv_at hl 6 rfl) ?_
  obtain ⟨q4, q4_h, h⟩ := gw_bind h
  refine gw_callV (As := [.int x2, .int x3, .int x6]) (rest := []) (u := u) (u' := q4) hx hb hml hown hG (c_Nu_keep l D ad cI cZ cJ u x2 x3 x6 _ q4_h) lk_A_156 rfl rfl ⟨Nat.le_of_ble_eq_true rfl, Nat.le_of_ble_eq_true rfl⟩ (va_recv hK hP (ci := 5) (q0 := 5) rfl rfl) hK hP hD hS hA rfl hl.1 rfl (Nat.le_of_ble_eq_true rfl) dA_message_171 ⟨Nat.le_of_ble_eq_true rfl, Nat.le_of_ble_eq_true rfl⟩ (fun H locs hP hD hS => ?_)
  refine lv_iload hx hb dA_message_174 (lv_at hl 6 rfl) ?_
  refine lv_iconst (v := (1 : Int32)) hx hb dA_message_176 (by decide) ?_
  refine lv_icmp_ne (tgt := 190) hx hb dA_message_177 (by decide) (fun hc => ?_) (fun hc => ?_)
  · rw [if_neg hc] at h
    refine lv_iload hx hb dA_message_190 (lv_at hl 6 rfl) ?_
    cases h
    exact gx_iret hx hb hr hlocks hP hD hS dA_message_192
  · rw [if_pos hc] at h
    refine lv_aload_n hx hb dA_message_180 rfl (lv_at hl 0 rfl) ?_
    refine lv_iload_n hx hb dA_message_181 rfl (lv_at hl 1 rfl) ?_
    refine lv_iload_n hx hb dA_message_182 rfl (lv_at hl 2 rfl) ?_
    refine lv_iload hx hb dA_message_183 (lv_at hl 4 rfl) ?_
    refine lv_iload hx hb dA_message_185 (lv_at hl 5 rfl) ?_
    obtain ⟨q5, q5_h, h⟩ := gw_bind h
    refine gw_callV (As := [.int x1, .int x2, .int x4, .int x5]) (rest := []) (u := q4) (u' := q5) hx hb hml hown hG (c_A_take l D ad cI cZ cJ N q4 x1 x2 x4 x5 _ q5_h) lk_A_160 rfl rfl ⟨Nat.le_of_ble_eq_true rfl, Nat.le_of_ble_eq_true rfl⟩ (va_recv hK hP (ci := 0) (q0 := 0) rfl rfl) hK hP hD hS hA rfl hl.1 rfl (Nat.le_of_ble_eq_true rfl) dA_message_187 ⟨Nat.le_of_ble_eq_true rfl, Nat.le_of_ble_eq_true rfl⟩ (fun H locs hP hD hS => ?_)
    refine lv_iload hx hb dA_message_190 (lv_at hl 6 rfl) ?_
    cases h
    exact gx_iret hx hb hr hlocks hP hD hS dA_message_192
set_option maxHeartbeats 4000000 in
set_option maxRecDepth 100000 in
theorem lp_A_message_77 {p : Program} {l : Launch} {e : Env} {s : State} {m : MethodId} {args : Array Value} {below : List Frame} {meth : Method} {c : Code} {A : Nat → Prop} {D : va_G} {ad : Nat → Nat} {cI cZ cJ : ClassId} (hC : gx_C p l s m args meth c "AidRows" cA_message 7 (some .int) D vwCl (tA cI cZ cJ) A) (N : Nat) : ∀ (u : StA) (x1 : Int32) (x2 : Int32) (x3 : Int32) (x4 : Int32) (x5 : Int32) (cd : Nat) (r : Int32) (w : StA), f_A_message_77 N u x1 x2 x3 x4 x5 = some ((cd, r), w) → ∀ (H : Heap) (locs : List Loc) (ls : Array Slot), va_P D vwCl (wA ad cI cZ cJ u) H → va_D A (wA ad cI cZ cJ u) → va_S A s.heap H locs → lv_has ls 7 [(0, .ref (ad 0)), (1, .int x1), (2, .int x2), (3, .int x3), (4, .int x4), (5, .int x5)] → W p l e ({ frames := 6, cells := 1, slots := 6, locals := 140 } : Room) s m args below meth c H locs 0 0 (vx_MQ below (gx_Q D vwCl (wA ad cI cZ cJ) A cd w (some (.int r))) (gx_X D vwCl (wA ad cI cZ cJ) A cd w) args s 1 6 A) (F0 m 77 ls []) := by
  obtain ⟨⟨hx, hb, hr, hml, hG, hown, hlocks, hK, hA⟩, hst, hE, htb⟩ := id hC
  intro u x1 x2 x3 x4 x5 cd r w h H locs ls hP hD hS hl
  unfold f_A_message_77 at h
  refine lv_aload_n hx hb dA_message_77 rfl (lv_at hl 0 rfl) ?_
  refine va_get (D := D) (ci := 0) (v := .ref (ad 1)) (C := RA) (T := TA) (N := 9) hx hb hG inA hown hK hP 0 rfl rfl 0 (by decide) (hG _ mw_174) (fun _ h9 => h9) rfl dA_message_78 ?_
  refine va_get (D := D) (ci := 1) (v := .ref (ad 9)) (C := RHo) (T := THo) (N := 4) hx hb hG inHo hown hK hP 1 rfl rfl 2 (by decide) (hG _ mw_37) (fun _ h9 => h9) rfl dA_message_81 ?_
  refine lv_iload_n hx hb dA_message_84 rfl (lv_at hl 2 rfl) ?_
  obtain ⟨hg1, h⟩ := gI_some h
  refine va_zald (f := (u.2.1 3)) hx hb hK hP 9 1 rfl rfl hg1 dA_message_85 ?_
  refine lv_if_eq (tgt := 101) hx hb dA_message_86 (by decide) (fun hc => ?_) (fun hc => ?_)
  · rw [if_pos hc] at h
    refine lv_aload_n hx hb dA_message_101 rfl (lv_at hl 0 rfl) ?_
    refine va_get (D := D) (ci := 0) (v := .ref (ad 5)) (C := RA) (T := TA) (N := 9) hx hb hG inA hown hK hP 0 rfl rfl 4 (by decide) (hG _ mw_178) (fun _ h9 => h9) rfl dA_message_102 ?_
    refine lv_iload_n hx hb dA_message_105 rfl (lv_at hl 2 rfl) ?_
    refine lv_iload_n hx hb dA_message_106 rfl (lv_at hl 3 rfl) ?_
    obtain ⟨q2, q2_h, h⟩ := gw_bind h
    refine gw_callV (As := [.int x2, .int x3]) (rest := []) (u := u) (u' := u) hx hb hml hown hG (c_Nu_stateOf l D ad cI cZ cJ u x2 x3 _ q2_h) lk_A_141 rfl rfl ⟨Nat.le_of_ble_eq_true rfl, Nat.le_of_ble_eq_true rfl⟩ (va_recv hK hP (ci := 5) (q0 := 5) rfl rfl) hK hP hD hS hA rfl hl.1 rfl (Nat.le_of_ble_eq_true rfl) dA_message_107 ⟨Nat.le_of_ble_eq_true rfl, Nat.le_of_ble_eq_true rfl⟩ (fun H locs hP hD hS => ?_)
    refine lv_if_eq (tgt := 125) hx hb dA_message_110 (by decide) (fun hc => ?_) (fun hc => ?_)
    · rw [if_pos hc] at h
      refine lv_aload_n hx hb dA_message_125 rfl (lv_at hl 0 rfl) ?_
      refine lv_iload_n hx hb dA_message_126 rfl (lv_at hl 1 rfl) ?_
      refine lv_iload_n hx hb dA_message_127 rfl (lv_at hl 2 rfl) ?_
      refine lv_iload hx hb dA_message_128 (lv_at hl 4 rfl) ?_
      obtain ⟨q3, q3_h, h⟩ := gw_bind h
      refine gw_callV (As := [.int x1, .int x2, .int x4]) (rest := []) (u := u) (u' := u) hx hb hml hown hG (c_A_judge l D ad cI cZ cJ N u x1 x2 x4 _ q3_h) lk_A_147 rfl rfl ⟨Nat.le_of_ble_eq_true rfl, Nat.le_of_ble_eq_true rfl⟩ (va_recv hK hP (ci := 0) (q0 := 0) rfl rfl) hK hP hD hS hA rfl hl.1 rfl (Nat.le_of_ble_eq_true rfl) dA_message_130 ⟨Nat.le_of_ble_eq_true rfl, Nat.le_of_ble_eq_true rfl⟩ (fun H locs hP hD hS => ?_)
      refine lv_istore (lv' := [(6, .int q3), (0, .ref (ad 0)), (1, .int x1), (2, .int x2), (3, .int x3), (4, .int x4), (5, .int x5)]) hx hb dA_message_133 hl (by decide) rfl (fun ls hl => ?_)
      refine lv_iload hx hb dA_message_135 (lv_at hl 0 rfl) ?_
      refine lv_iconst (v := (1 : Int32)) hx hb dA_message_137 (by decide) ?_
      refine lv_icmp_ne (tgt := 163) hx hb dA_message_138 (by decide) (fun hc => ?_) (fun hc => ?_)
      · rw [if_neg hc] at h
        exact lp_A_message_163 hC N u x1 x2 x3 x4 x5 q3 _ _ _ h H locs ls hP hD hS (lv_sub hl [1, 2, 3, 4, 5, 6, 0] rfl)
      · rw [if_pos hc] at h
        refine lv_iload hx hb dA_message_141 (lv_at hl 5 rfl) ?_
        refine lv_aload_n hx hb dA_message_143 rfl (lv_at hl 1 rfl) ?_
        refine va_get (D := D) (ci := 0) (v := .ref (ad 4)) (C := RA) (T := TA) (N := 9) hx hb hG inA hown hK hP 0 rfl rfl 3 (by decide) (hG _ mw_177) (fun _ h9 => h9) rfl dA_message_144 ?_
        refine gw_callV (As := []) (rest := [.int x4]) (u := u) (u' := u) hx hb hml hown hG (c_Lo_room l D ad cI cZ cJ u _ rfl) lk_A_150 rfl rfl ⟨Nat.le_of_ble_eq_true rfl, Nat.le_of_ble_eq_true rfl⟩ (va_recv hK hP (ci := 4) (q0 := 4) rfl rfl) hK hP hD hS hA rfl hl.1 rfl (Nat.le_of_ble_eq_true rfl) dA_message_147 ⟨Nat.le_of_ble_eq_true rfl, Nat.le_of_ble_eq_true rfl⟩ (fun H locs hP hD hS => ?_)
        refine lv_icmp_le (tgt := 163) hx hb dA_message_150 (by decide) (fun hc => ?_) (fun hc => ?_)
        · rw [if_pos hc] at h
          exact lp_A_message_163 hC N u x1 x2 x3 x4 x5 q3 _ _ _ h H locs ls hP hD hS (lv_sub hl [1, 2, 3, 4, 5, 6, 0] rfl)
        · rw [if_neg hc] at h
          cases h
          exact gx_thr (cd := 4) (cls := "java/lang/UnsupportedOperationException") (text := "no room for the loans") hC rfl (by decide) rfl (by decide +kernel) (by decide +kernel) mw_299 mw_13 (by decide +kernel) gx_a4 gx_b4 gx_g4 hP hD hS hl.1 dA_message_153 dA_message_156 dA_message_157 dA_message_159 dA_message_162 (Nat.le_of_ble_eq_true rfl) (Nat.le_of_ble_eq_true rfl) (Nat.le_of_ble_eq_true rfl) (Nat.le_of_ble_eq_true rfl)
    · rw [if_neg hc] at h
      refine lv_aload_n hx hb dA_message_113 rfl (lv_at hl 0 rfl) ?_
      refine lv_dup hx hb dA_message_114 rfl ?_
      refine va_get (D := D) (ci := 0) (v := .int (u.1 2)) (C := RA) (T := TA) (N := 9) hx hb hG inA hown hK hP 0 rfl rfl 8 (by decide) (hG _ mw_182) (fun _ h9 => h9) rfl dA_message_115 ?_
      refine lv_iconst (v := (1 : Int32)) hx hb dA_message_118 (by decide) ?_
      refine lv_iadd hx hb dA_message_119 ?_
      refine va_put (D := D) (ci := 0) (v := .int ((u.1 2) + (1 : Int32))) (ty := .int) (C := RA) (T := TA) (N := 9) hx hb hG inA tyA tyA_ok nmA hown hK hP hD hS 0 rfl rfl 8 (by decide) (hG _ mw_182) (fun _ h9 => h9) rfl (by decide +kernel) rfl rfl (Nat.le_of_ble_eq_true rfl) dA_message_120 (fun H locs hP hD hS => ?_)
      rw [wA_f2] at hP hD
      refine lv_iconst (v := (2 : Int32)) hx hb dA_message_123 (by decide) ?_
      cases h
      exact gx_iret hx hb hr hlocks hP hD hS dA_message_124
  · rw [if_neg hc] at h
    refine lv_aload_n hx hb dA_message_89 rfl (lv_at hl 0 rfl) ?_
    refine lv_dup hx hb dA_message_90 rfl ?_
    refine va_get (D := D) (ci := 0) (v := .int (u.1 1)) (C := RA) (T := TA) (N := 9) hx hb hG inA hown hK hP 0 rfl rfl 7 (by decide) (hG _ mw_181) (fun _ h9 => h9) rfl dA_message_91 ?_
    refine lv_iconst (v := (1 : Int32)) hx hb dA_message_94 (by decide) ?_
    refine lv_iadd hx hb dA_message_95 ?_
    refine va_put (D := D) (ci := 0) (v := .int ((u.1 1) + (1 : Int32))) (ty := .int) (C := RA) (T := TA) (N := 9) hx hb hG inA tyA tyA_ok nmA hown hK hP hD hS 0 rfl rfl 7 (by decide) (hG _ mw_181) (fun _ h9 => h9) rfl (by decide +kernel) rfl rfl (Nat.le_of_ble_eq_true rfl) dA_message_96 (fun H locs hP hD hS => ?_)
    rw [wA_f1] at hP hD
    refine lv_iconst (v := (5 : Int32)) hx hb dA_message_99 (by decide) ?_
    cases h
    exact gx_iret hx hb hr hlocks hP hD hS dA_message_100
set_option maxHeartbeats 4000000 in
set_option maxRecDepth 100000 in
theorem c_A_message (l : Launch) (hst : l.stackTraces = false) (D : va_G) (ad : Nat → Nat) (cI cZ cJ : ClassId) (N : Nat) (u : StA) (a1 : Int32) (a2 : Int32) (a3 : Int32) (a4 : Int32) (a5 : Int32) (cd : Nat) (r : Int32) (w : StA) (h : f_A_message N u a1 a2 a3 a4 a5 = some ((cd, r), w)) : gx_Ct l D vwCl (tA cI cZ cJ) (wA ad cI cZ cJ) yA_message (Cond.code yA_message cA_message 7 (some .int) :: gG) ({ frames := 6, cells := 1, slots := 6, locals := 140 } : Room) [.ref (ad 0), .int a1, .int a2, .int a3, .int a4, .int a5] u cd (some (.int r)) w := by
  refine gx_enter hst (by decide) (Nat.le_of_ble_eq_true rfl) ?_
  intro p e s m below meth c A hC hP hD hS ls hl
  obtain ⟨⟨hx, hb, hr, hml, hG, hown, hlocks, hK, hA⟩, hst, hE, htb⟩ := id hC
  have hl : lv_has ls 7 [(0, .ref (ad 0)), (1, .int a1), (2, .int a2), (3, .int a3), (4, .int a4), (5, .int a5)] := hl
  obtain ⟨H, hH⟩ : ∃ H, H = s.heap := ⟨_, rfl⟩
  obtain ⟨locs, hlocs⟩ : ∃ x : List Loc, x = [] := ⟨_, rfl⟩
  rw [← hlocs] at hS ⊢
  have hP : va_P D vwCl (wA ad cI cZ cJ u) H := by rw [hH]; exact hP
  have hS : va_S A s.heap H locs := by rw [hH]; exact hS
  suffices g : W p l e ({ frames := 6, cells := 1, slots := 6, locals := 140 } : Room) s m [.ref (ad 0), .int a1, .int a2, .int a3, .int a4, .int a5].toArray below meth c H locs 0 0 (vx_MQ below (gx_Q D vwCl (wA ad cI cZ cJ) A cd w (some (.int r))) (gx_X D vwCl (wA ad cI cZ cJ) A cd w) [.ref (ad 0), .int a1, .int a2, .int a3, .int a4, .int a5].toArray s 1 6 A) (F0 m 0 ls []) by rw [hH] at g; exact g
  unfold f_A_message at h
  refine lv_aload_n hx hb dA_message_0 rfl (lv_at hl 0 rfl) ?_
  refine va_get (D := D) (ci := 0) (v := .ref (ad 3)) (C := RA) (T := TA) (N := 9) hx hb hG inA hown hK hP 0 rfl rfl 2 (by decide) (hG _ mw_176) (fun _ h9 => h9) rfl dA_message_1 ?_
  refine lv_iload_n hx hb dA_message_4 rfl (lv_at hl 1 rfl) ?_
  refine gw_callV (As := [.int a1]) (rest := []) (u := u) (u' := u) hx hb hml hown hG (c_As_has l D ad cI cZ cJ u a1 _ rfl) lk_A_125 rfl rfl ⟨Nat.le_of_ble_eq_true rfl, Nat.le_of_ble_eq_true rfl⟩ (va_recv hK hP (ci := 3) (q0 := 3) rfl rfl) hK hP hD hS hA rfl hl.1 rfl (Nat.le_of_ble_eq_true rfl) dA_message_5 ⟨Nat.le_of_ble_eq_true rfl, Nat.le_of_ble_eq_true rfl⟩ (fun H locs hP hD hS => ?_)
  refine lv_if_eq (tgt := 22) hx hb dA_message_8 (by decide) (fun hc => ?_) (fun hc => ?_)
  · rw [if_pos hc] at h
    cases h
    exact gx_thr (cd := 1) (cls := "java/lang/IllegalArgumentException") (text := "no such ask or house") hC rfl (by decide) rfl (by decide +kernel) (by decide +kernel) mw_332 mw_14 (by decide +kernel) gx_a1 gx_b1 gx_g1 hP hD hS hl.1 dA_message_22 dA_message_25 dA_message_26 dA_message_28 dA_message_31 (Nat.le_of_ble_eq_true rfl) (Nat.le_of_ble_eq_true rfl) (Nat.le_of_ble_eq_true rfl) (Nat.le_of_ble_eq_true rfl)
  · rw [if_neg hc] at h
    refine lv_aload_n hx hb dA_message_11 rfl (lv_at hl 0 rfl) ?_
    refine va_get (D := D) (ci := 0) (v := .ref (ad 1)) (C := RA) (T := TA) (N := 9) hx hb hG inA hown hK hP 0 rfl rfl 0 (by decide) (hG _ mw_174) (fun _ h9 => h9) rfl dA_message_12 ?_
    refine lv_iload_n hx hb dA_message_15 rfl (lv_at hl 2 rfl) ?_
    refine gw_callV (As := [.int a2]) (rest := []) (u := u) (u' := u) hx hb hml hown hG (c_Ho_has l D ad cI cZ cJ u a2 _ rfl) lk_A_78 rfl rfl ⟨Nat.le_of_ble_eq_true rfl, Nat.le_of_ble_eq_true rfl⟩ (va_recv hK hP (ci := 1) (q0 := 1) rfl rfl) hK hP hD hS hA rfl hl.1 rfl (Nat.le_of_ble_eq_true rfl) dA_message_16 ⟨Nat.le_of_ble_eq_true rfl, Nat.le_of_ble_eq_true rfl⟩ (fun H locs hP hD hS => ?_)
    refine lv_if_ne (tgt := 32) hx hb dA_message_19 (by decide) (fun hc => ?_) (fun hc => ?_)
    · rw [if_neg hc] at h
      refine lv_iload_n hx hb dA_message_32 rfl (lv_at hl 3 rfl) ?_
      refine gw_callS (As := [.int a3]) (rest := []) (u := u) (u' := u) hx hb hml hown hG (c_A_isNumber l D ad cI cZ cJ u a3 _ rfl) lk_A_128 rfl rfl ⟨Nat.le_of_ble_eq_true rfl, Nat.le_of_ble_eq_true rfl⟩ hK hP hD hS hA rfl hl.1 rfl (Nat.le_of_ble_eq_true rfl) dA_message_33 ⟨Nat.le_of_ble_eq_true rfl, Nat.le_of_ble_eq_true rfl⟩ (fun H locs hP hD hS => ?_)
      refine lv_if_eq (tgt := 67) hx hb dA_message_36 (by decide) (fun hc => ?_) (fun hc => ?_)
      · rw [if_pos hc] at h
        cases h
        exact gx_thr (cd := 2) (cls := "java/lang/IndexOutOfBoundsException") (text := "number, units or minutes") hC rfl (by decide) rfl (by decide +kernel) (by decide +kernel) mw_226 mw_12 (by decide +kernel) gx_a2 gx_b2 gx_g2 hP hD hS hl.1 dA_message_67 dA_message_70 dA_message_71 dA_message_73 dA_message_76 (Nat.le_of_ble_eq_true rfl) (Nat.le_of_ble_eq_true rfl) (Nat.le_of_ble_eq_true rfl) (Nat.le_of_ble_eq_true rfl)
      · rw [if_neg hc] at h
        refine lv_iload hx hb dA_message_39 (lv_at hl 4 rfl) ?_
        refine lv_iconst (v := (0 : Int32)) hx hb dA_message_41 (by decide) ?_
        refine lv_bipush (v := (20 : Int32)) hx hb dA_message_42 (by decide) ?_
        refine gw_callS (As := [.int a4, .int (0 : Int32), .int (20 : Int32)]) (rest := []) (u := u) (u' := u) hx hb hml hown hG (c_A_isWithin l D ad cI cZ cJ u a4 (0 : Int32) (20 : Int32) _ rfl) lk_A_54 rfl rfl ⟨Nat.le_of_ble_eq_true rfl, Nat.le_of_ble_eq_true rfl⟩ hK hP hD hS hA rfl hl.1 rfl (Nat.le_of_ble_eq_true rfl) dA_message_44 ⟨Nat.le_of_ble_eq_true rfl, Nat.le_of_ble_eq_true rfl⟩ (fun H locs hP hD hS => ?_)
        refine lv_if_eq (tgt := 67) hx hb dA_message_47 (by decide) (fun hc => ?_) (fun hc => ?_)
        · rw [if_pos hc] at h
          cases h
          exact gx_thr (cd := 2) (cls := "java/lang/IndexOutOfBoundsException") (text := "number, units or minutes") hC rfl (by decide) rfl (by decide +kernel) (by decide +kernel) mw_226 mw_12 (by decide +kernel) gx_a2 gx_b2 gx_g2 hP hD hS hl.1 dA_message_67 dA_message_70 dA_message_71 dA_message_73 dA_message_76 (Nat.le_of_ble_eq_true rfl) (Nat.le_of_ble_eq_true rfl) (Nat.le_of_ble_eq_true rfl) (Nat.le_of_ble_eq_true rfl)
        · rw [if_neg hc] at h
          refine lv_iload hx hb dA_message_50 (lv_at hl 4 rfl) ?_
          refine lv_if_le (tgt := 77) hx hb dA_message_52 (by decide) (fun hc => ?_) (fun hc => ?_)
          · rw [if_pos hc] at h
            exact lp_A_message_77 hC N u a1 a2 a3 a4 a5 _ _ _ h H locs ls hP hD hS (lv_sub hl [0, 1, 2, 3, 4, 5] rfl)
          · rw [if_neg hc] at h
            refine lv_iload hx hb dA_message_55 (lv_at hl 5 rfl) ?_
            refine lv_iconst (v := (0 : Int32)) hx hb dA_message_57 (by decide) ?_
            refine lv_sipush (v := (999 : Int32)) hx hb dA_message_58 (by decide) ?_
            refine gw_callS (As := [.int a5, .int (0 : Int32), .int (999 : Int32)]) (rest := []) (u := u) (u' := u) hx hb hml hown hG (c_A_isWithin l D ad cI cZ cJ u a5 (0 : Int32) (999 : Int32) _ rfl) lk_A_54 rfl rfl ⟨Nat.le_of_ble_eq_true rfl, Nat.le_of_ble_eq_true rfl⟩ hK hP hD hS hA rfl hl.1 rfl (Nat.le_of_ble_eq_true rfl) dA_message_61 ⟨Nat.le_of_ble_eq_true rfl, Nat.le_of_ble_eq_true rfl⟩ (fun H locs hP hD hS => ?_)
            refine lv_if_ne (tgt := 77) hx hb dA_message_64 (by decide) (fun hc => ?_) (fun hc => ?_)
            · rw [if_neg hc] at h
              exact lp_A_message_77 hC N u a1 a2 a3 a4 a5 _ _ _ h H locs ls hP hD hS (lv_sub hl [0, 1, 2, 3, 4, 5] rfl)
            · rw [if_pos hc] at h
              cases h
              exact gx_thr (cd := 2) (cls := "java/lang/IndexOutOfBoundsException") (text := "number, units or minutes") hC rfl (by decide) rfl (by decide +kernel) (by decide +kernel) mw_226 mw_12 (by decide +kernel) gx_a2 gx_b2 gx_g2 hP hD hS hl.1 dA_message_67 dA_message_70 dA_message_71 dA_message_73 dA_message_76 (Nat.le_of_ble_eq_true rfl) (Nat.le_of_ble_eq_true rfl) (Nat.le_of_ble_eq_true rfl) (Nat.le_of_ble_eq_true rfl)
    · rw [if_pos hc] at h
      cases h
      exact gx_thr (cd := 1) (cls := "java/lang/IllegalArgumentException") (text := "no such ask or house") hC rfl (by decide) rfl (by decide +kernel) (by decide +kernel) mw_332 mw_14 (by decide +kernel) gx_a1 gx_b1 gx_g1 hP hD hS hl.1 dA_message_22 dA_message_25 dA_message_26 dA_message_28 dA_message_31 (Nat.le_of_ble_eq_true rfl) (Nat.le_of_ble_eq_true rfl) (Nat.le_of_ble_eq_true rfl) (Nat.le_of_ble_eq_true rfl)
