def Sim_house (N : Nat) (Rel : StA → StB → Prop) : Prop := ∀ (u : StA) (v : StB) (a1 a2 : Int32), Rel u v → ∃ (cd : Nat) (r : Int32) (u1 : StA) (b1 : Int32) (v1 : StB), f_A_house u a1 a2 = some ((cd, r), u1) ∧ (cd = 0 ∨ cd = 2 ∨ cd = 4) ∧ f_B_house N v a1 a2 = some (b1, v1) ∧ v1.1 0 = kL_house cd ∧ (cd = 0 → r = b1) ∧ Rel u1 v1
def Sim_agree (N : Nat) (Rel : StA → StB → Prop) : Prop := ∀ (u : StA) (v : StB) (a1 a2 a3 a4 a5 a6 : Int32), Rel u v → ∃ (cd : Nat) (r : Int32) (u1 : StA) (b1 : Int32) (v1 : StB), f_A_agree N u a1 a2 a3 a4 a5 a6 = some ((cd, r), u1) ∧ (cd = 0 ∨ cd = 1 ∨ cd = 2 ∨ cd = 3 ∨ cd = 4) ∧ f_B_agree N v a1 a2 a3 a4 a5 a6 = some (b1, v1) ∧ v1.1 0 = kL_agree cd ∧ (cd = 0 → r = b1) ∧ Rel u1 v1
def Sim_ask (N : Nat) (Rel : StA → StB → Prop) : Prop := ∀ (u : StA) (v : StB) (a1 a2 a3 : Int32), Rel u v → ∃ (cd : Nat) (r : Int32) (u1 : StA) (b1 : Int32) (v1 : StB), f_A_ask N u a1 a2 a3 = some ((cd, r), u1) ∧ (cd = 0 ∨ cd = 1 ∨ cd = 2 ∨ cd = 4) ∧ f_B_ask N v a1 a2 a3 = some (b1, v1) ∧ v1.1 0 = kL_ask cd ∧ (cd = 0 → r = b1) ∧ Rel u1 v1
def Sim_message (N : Nat) (Rel : StA → StB → Prop) : Prop := ∀ (u : StA) (v : StB) (a1 a2 a3 a4 a5 : Int32), Rel u v → ∃ (cd : Nat) (r : Int32) (u1 : StA) (b1 : Int32) (v1 : StB), f_A_message N u a1 a2 a3 a4 a5 = some ((cd, r), u1) ∧ (cd = 0 ∨ cd = 1 ∨ cd = 2 ∨ cd = 4) ∧ f_B_message N v a1 a2 a3 a4 a5 = some (b1, v1) ∧ v1.1 0 = kL_message cd ∧ (cd = 0 → r = b1) ∧ Rel u1 v1
def Sim_seen (N : Nat) (Rel : StA → StB → Prop) : Prop := ∀ (u : StA) (v : StB) (a1 a2 : Int32), Rel u v → ∃ (cd : Nat) (r : Int32) (u1 : StA) (b1 : Int32) (v1 : StB), f_A_seen u a1 a2 = some ((cd, r), u1) ∧ (cd = 0 ∨ cd = 1 ∨ cd = 2) ∧ f_B_seen N v a1 a2 = some (b1, v1) ∧ v1.1 0 = kL_seen cd ∧ (cd = 0 → r = b1) ∧ Rel u1 v1
def Sim_tick (N : Nat) (Rel : StA → StB → Prop) : Prop := ∀ (u : StA) (v : StB) (a1 : Int32), Rel u v → ∃ (cd : Nat) (r : Int32) (u1 : StA) (b1 : Int32) (v1 : StB), f_A_tick N u a1 = some ((cd, r), u1) ∧ (cd = 0 ∨ cd = 2) ∧ f_B_tick N v a1 = some (b1, v1) ∧ v1.1 0 = kL_tick cd ∧ (cd = 0 → r = b1) ∧ Rel u1 v1
def Sim_cut (N : Nat) (Rel : StA → StB → Prop) : Prop := ∀ (u : StA) (v : StB) (a1 a2 : Int32), Rel u v → (a2 = 0 ∨ a2 = 1) → ∃ (cd : Nat) (r : Int32) (u1 : StA) (v1 : StB), f_A_cut u a1 a2 = some ((cd, r), u1) ∧ (cd = 0 ∨ cd = 1 ∨ cd = 3) ∧ f_B_cut N v a1 a2 = some v1 ∧ v1.1 0 = kL_cut cd ∧ Rel u1 v1
def Sim_end (N : Nat) (Rel : StA → StB → Prop) : Prop := ∀ (u : StA) (v : StB) (a1 : Int32), Rel u v → ∃ (cd : Nat) (r : Int32) (u1 : StA) (v1 : StB), f_A_end u a1 = some ((cd, r), u1) ∧ (cd = 0 ∨ cd = 1 ∨ cd = 3) ∧ f_B_end N v a1 = some v1 ∧ v1.1 0 = kL_end cd ∧ Rel u1 v1
def Sim_askAt (N : Nat) (Rel : StA → StB → Prop) : Prop := ∀ (u : StA) (v : StB) (a1 a2 : Int32), Rel u v → ∃ (cd : Nat) (r : Int32) (u1 : StA) (b1 : Int32) (v1 : StB), f_A_askAt u a1 a2 = some ((cd, r), u1) ∧ (cd = 0 ∨ cd = 1) ∧ f_B_askAt N v a1 a2 = some (b1, v1) ∧ v1.1 0 = kL_askAt cd ∧ (cd = 0 → r = b1) ∧ Rel u1 v1
def Sim_loanAt (N : Nat) (Rel : StA → StB → Prop) : Prop := ∀ (u : StA) (v : StB) (a1 a2 : Int32), Rel u v → ∃ (cd : Nat) (r : Int32) (u1 : StA) (b1 : Int32) (v1 : StB), f_A_loanAt u a1 a2 = some ((cd, r), u1) ∧ (cd = 0 ∨ cd = 1) ∧ f_B_loanAt N v a1 a2 = some (b1, v1) ∧ v1.1 0 = kL_loanAt cd ∧ (cd = 0 → r = b1) ∧ Rel u1 v1
def Sim_cost (N : Nat) (Rel : StA → StB → Prop) : Prop := ∀ (u : StA) (v : StB) (a1 : Int32), Rel u v → ∃ (cd : Nat) (r : Int32) (u1 : StA) (b1 : Int32) (v1 : StB), f_A_cost N u a1 = some ((cd, r), u1) ∧ (cd = 0 ∨ cd = 1) ∧ f_B_cost N v a1 = some (b1, v1) ∧ v1.1 0 = kL_cost cd ∧ (cd = 0 → r = b1) ∧ Rel u1 v1
def Sim_named (N : Nat) (Rel : StA → StB → Prop) : Prop := ∀ (u : StA) (v : StB) (a1 : Int32), Rel u v → ∃ (r : Int32) (v1 : StB), f_A_named N u a1 = some r ∧ f_B_named N v a1 = some (r, v1) ∧ Rel u v1
def Sim_hand (N : Nat) (Rel : StA → StB → Prop) : Prop := ∀ (u : StA) (v : StB) (a1 a2 : Int32), Rel u v → ∃ (cd : Nat) (r : Int32) (u1 : StA) (v1 : StB), f_A_hand u a1 a2 = some ((cd, r), u1) ∧ (cd = 0 ∨ cd = 1 ∨ cd = 3) ∧ f_B_hand N v a1 a2 = some v1 ∧ v1.1 0 = kL_hand cd ∧ Rel u1 v1
def Sim_handed (N : Nat) (Rel : StA → StB → Prop) : Prop := ∀ (u : StA) (v : StB) (a1 : Int32), Rel u v → ∃ (cd : Nat) (r : Int32) (u1 : StA) (b1 : Int32) (v1 : StB), f_A_handed u a1 = some ((cd, r), u1) ∧ (cd = 0 ∨ cd = 1) ∧ f_B_handed N v a1 = some (b1, v1) ∧ v1.1 0 = kL_handed cd ∧ (cd = 0 → r = b1) ∧ Rel u1 v1
def Sim_count (N : Nat) (Rel : StA → StB → Prop) : Prop := ∀ (u : StA) (v : StB) (a1 : Int32), Rel u v → ∃ (cd : Nat) (r : Int32) (u1 : StA) (b1 : Int32) (v1 : StB), f_A_count N u a1 = some ((cd, r), u1) ∧ (cd = 0 ∨ cd = 1) ∧ f_B_count N v a1 = some (b1, v1) ∧ v1.1 0 = kL_count cd ∧ (cd = 0 → r = b1) ∧ Rel u1 v1
def SimAll (N : Nat) (Rel : StA → StB → Prop) : Prop := Sim_house N Rel ∧ Sim_agree N Rel ∧ Sim_ask N Rel ∧ Sim_message N Rel ∧ Sim_seen N Rel ∧ Sim_tick N Rel ∧ Sim_cut N Rel ∧ Sim_end N Rel ∧ Sim_askAt N Rel ∧ Sim_loanAt N Rel ∧ Sim_cost N Rel ∧ Sim_named N Rel ∧ Sim_hand N Rel ∧ Sim_handed N Rel ∧ Sim_count N Rel
theorem ll_sub {L i : Nat} (hL : L ≤ 3584) (hi : i ≤ 512) : nI L - (7 : Int32) < nI (7 * i) ↔ L < 7 * i + 7 := by
  rw [Int32.lt_iff_toInt_lt, show (7 : Int32) = nI 7 from rfl, pk_sub_toInt (by omega) (by omega), nI_toInt (by omega)]
  omega
theorem ll_in {L i k : Nat} (hL : L ≤ 3584) (h : 7 * i + k < L) : vp_in (nI (7 * i) + nI k) L := by
  rw [nI_add]
  exact vp_in_nI h (by omega)
set_option maxHeartbeats 8000000 in
set_option maxRecDepth 100000 in
theorem law_loop {p : Program} {l : Launch} {e : Env} {s : State} {m : MethodId} {below : List Frame} {meth : Method} {c : Code} {b L : Nat} {xs : Nat → Int32} {D : va_G} {cI cZ cJ : ClassId} {ad bd : Nat → Nat} {oa : Nat} (hL : L ≤ 3584) (hC : gl_C p l s m meth c b L xs D cI cZ cJ) (N : Nat) (Rel : StA → StB → Prop) (hsim : SimAll N Rel) : ∀ (n i : Nat), i ≤ 512 → 513 - i ≤ n → ∀ (u : StA) (x : Nat → Int64) (v : StB), Rel u v → ∀ (x4 : Int32), x4 = nI (7 * i) → ∀ (H : Heap) (locs : List Loc) (ls : Array Slot), va_P D vwCl (wO ad cI cZ cJ oa (u, x) ++ wB bd cI cZ v) H → va_D (gl_A s) (wO ad cI cZ cJ oa (u, x) ++ wB bd cI cZ v) → va_S (gl_A s) s.heap H locs → lv_has ls 7 [(0, .ref b), (1, .ref (ad 0)), (2, .ref (bd 0)), (3, .ref oa), (4, .int x4)] → W p l e room_1 s m #[Value.ref b] below meth c H locs (62 + i) (11193 + 6 * i) (lw_Z below #[Value.ref b] s) (F0 m 23 ls []) := by
  obtain ⟨hx, hb, hr, hml, hG, hown, hlocks, hK, hX, hbl, hst, hE⟩ := id hC
  obtain ⟨s_house, s_agree, s_ask, s_message, s_seen, s_tick, s_cut, s_end, s_askAt, s_loanAt, s_cost, s_named, s_hand, s_handed, s_count⟩ := hsim
  have hbA : ¬ gl_A s b := Nat.not_le.mpr hbl
  intro n
  induction n with
  | zero => intro i h1 h2; omega
  | succ n ih =>
    intro i hi512 hn u x v hRel x4 ex4 H locs ls hP hD hS hl
    refine lv_iload hx hb dL_law_23 (lv_at hl 4 rfl) ?_
    refine lv_aload_n hx hb dL_law_25 rfl (lv_at hl 0 rfl) ?_
    refine va_slen hx hb hX hbl hbA hS dL_law_26 ?_
    refine lv_bipush (v := (7 : Int32)) hx hb dL_law_27 (by decide) ?_
    refine lv_isub hx hb dL_law_29 ?_
    refine lv_icmp_gt (tgt := 1093) hx hb dL_law_30 (by decide) (fun hc => ?_) (fun hc => ?_)
    · refine lv_iconst (v := (1 : Int32)) hx hb dL_law_1093 (by decide) ?_
      refine va_forget (fun q hq => hS.2.2 q hq) ?_
      refine W.widen (k := 1112) (n := 19541) (by omega) (by omega) ?_
      exact lw_ret hx hb hr hlocks dL_law_1094
    · have hin : 7 * i + 7 ≤ L := by
        have : ¬ L < 7 * i + 7 := fun h => hc (by rw [ex4]; exact (ll_sub hL hi512).mpr h)
        omega
      have hi0 : vp_in (x4 + (0 : Int32)) L := by rw [ex4]; exact ll_in (k := 0) hL (by omega)
      have hi1 : vp_in (x4 + (1 : Int32)) L := by rw [ex4]; exact ll_in (k := 1) hL (by omega)
      have hi2 : vp_in (x4 + (2 : Int32)) L := by rw [ex4]; exact ll_in (k := 2) hL (by omega)
      have hi3 : vp_in (x4 + (3 : Int32)) L := by rw [ex4]; exact ll_in (k := 3) hL (by omega)
      have hi4 : vp_in (x4 + (4 : Int32)) L := by rw [ex4]; exact ll_in (k := 4) hL (by omega)
      have hi5 : vp_in (x4 + (5 : Int32)) L := by rw [ex4]; exact ll_in (k := 5) hL (by omega)
      have hi6 : vp_in (x4 + (6 : Int32)) L := by rw [ex4]; exact ll_in (k := 6) hL (by omega)
      have hi00 : vp_in x4 L := by rw [ex4]; exact vp_in_nI (by omega) (by omega)
      refine lv_aload_n hx hb dL_law_33 rfl (lv_at hl 0 rfl) ?_
      refine lv_iload hx hb dL_law_34 (lv_at hl 4 rfl) ?_
      refine va_sld hx hb hX hbl hbA hS hi00 dL_law_36 ?_
      refine lv_bipush (v := (15 : Int32)) hx hb dL_law_37 (by decide) ?_
      refine lv_iand hx hb dL_law_39 ?_
      have next : ∀ (u : StA) (x : Nat → Int64) (v : StB), Rel u v → ∀ (H : Heap) (locs : List Loc) (ls : Array Slot), va_P D vwCl (wO ad cI cZ cJ oa (u, x) ++ wB bd cI cZ v) H → va_D (gl_A s) (wO ad cI cZ cJ oa (u, x) ++ wB bd cI cZ v) → va_S (gl_A s) s.heap H locs → lv_has ls 7 [(0, .ref b), (1, .ref (ad 0)), (2, .ref (bd 0)), (3, .ref oa), (4, .int x4)] → W p l e room_1 s m #[Value.ref b] below meth c H locs (62 + i + 1) (11193 + 6 * i + 6) (lw_Z below #[Value.ref b] s) (F0 m 1087 ls []) := by
        intro u x v hRel H locs ls hP hD hS hl
        refine lv_iinc (v := x4 + (7 : Int32)) (lv' := [(4, .int (x4 + (7 : Int32))), (0, .ref b), (1, .ref (ad 0)), (2, .ref (bd 0)), (3, .ref oa)]) hx hb dL_law_1087 hl (k := 4) rfl rfl (by decide) rfl (fun ls hl => ?_)
        refine lv_goto (tgt := 23) hx hb dL_law_1090 (by decide) ?_
        refine ih (i + 1) (by omega) (by omega) u x v hRel _ ?_ H locs ls hP hD hS (lv_sub hl [1, 2, 3, 4, 0] rfl)
        rw [ex4, show (7 : Int32) = nI 7 from rfl, nI_add]
        exact congrArg nI (by omega)
      have wide : ∀ (g : JFrame) (H : Heap) (locs : List Loc), W p l e room_1 s m #[Value.ref b] below meth c H locs (62 + i + 1) (11193 + 6 * i + 6) (lw_Z below #[Value.ref b] s) g → W p l e room_1 s m #[Value.ref b] below meth c H locs (62 + i) (11193 + 6 * i) (lw_Z below #[Value.ref b] s) g := fun g H locs h => W.widen (by omega) (by omega) h
      obtain ⟨j, hj, ej⟩ := pk_andE (xs x4.toNatClampNeg) (m := (15 : Int32)) 4 (by decide)
      rw [ej]
      have hj16 : j = 0 ∨ j = 1 ∨ j = 2 ∨ j = 3 ∨ j = 4 ∨ j = 5 ∨ j = 6 ∨ j = 7 ∨ j = 8 ∨ j = 9 ∨ j = 10 ∨ j = 11 ∨ j = 12 ∨ j = 13 ∨ j = 14 ∨ j = 15 := by omega
      clear ej
      rcases hj16 with rfl | rfl | rfl | rfl | rfl | rfl | rfl | rfl | rfl | rfl | rfl | rfl | rfl | rfl | rfl | rfl
      · refine lv_tableIn (off := 76) (tgt := 116) hx hb dL_law_40 (by decide) (by decide) (by decide +kernel) (by decide) ?_
        obtain ⟨cd, r, u1, b1, v1, hA1, hcd, hB1, ht, ho, hR1⟩ := s_house u v (xs (x4 + (1 : Int32)).toNatClampNeg) (xs (x4 + (2 : Int32)).toNatClampNeg) hRel
        exact lw_house hC N x4 hi1 hi2 cd r u1 hA1 hcd b1 v1 hB1 ht ho (by omega) (by omega) hP hD hS hl (fun x1 H locs ls hP hD hS hl => next u1 x1 v1 hR1 H locs ls hP hD hS hl)
      · refine lv_tableIn (off := 144) (tgt := 184) hx hb dL_law_40 (by decide) (by decide) (by decide +kernel) (by decide) ?_
        obtain ⟨cd, r, u1, b1, v1, hA1, hcd, hB1, ht, ho, hR1⟩ := s_agree u v (xs (x4 + (1 : Int32)).toNatClampNeg) (xs (x4 + (2 : Int32)).toNatClampNeg) (xs (x4 + (3 : Int32)).toNatClampNeg) (xs (x4 + (4 : Int32)).toNatClampNeg) (xs (x4 + (5 : Int32)).toNatClampNeg) (xs (x4 + (6 : Int32)).toNatClampNeg) hRel
        exact lw_agree hC N x4 hi1 hi2 hi3 hi4 hi5 hi6 cd r u1 hA1 hcd b1 v1 hB1 ht ho (by omega) (by omega) hP hD hS hl (fun x1 H locs ls hP hD hS hl => next u1 x1 v1 hR1 H locs ls hP hD hS hl)
      · refine lv_tableIn (off := 262) (tgt := 302) hx hb dL_law_40 (by decide) (by decide) (by decide +kernel) (by decide) ?_
        obtain ⟨cd, r, u1, b1, v1, hA1, hcd, hB1, ht, ho, hR1⟩ := s_ask u v (xs (x4 + (1 : Int32)).toNatClampNeg) (xs (x4 + (2 : Int32)).toNatClampNeg) (xs (x4 + (3 : Int32)).toNatClampNeg) hRel
        exact lw_ask hC N x4 hi1 hi2 hi3 cd r u1 hA1 hcd b1 v1 hB1 ht ho (by omega) (by omega) hP hD hS hl (fun x1 H locs ls hP hD hS hl => next u1 x1 v1 hR1 H locs ls hP hD hS hl)
      · refine lv_tableIn (off := 342) (tgt := 382) hx hb dL_law_40 (by decide) (by decide) (by decide +kernel) (by decide) ?_
        obtain ⟨cd, r, u1, b1, v1, hA1, hcd, hB1, ht, ho, hR1⟩ := s_message u v (xs (x4 + (1 : Int32)).toNatClampNeg) (xs (x4 + (2 : Int32)).toNatClampNeg) (xs (x4 + (3 : Int32)).toNatClampNeg) (xs (x4 + (4 : Int32)).toNatClampNeg) (xs (x4 + (5 : Int32)).toNatClampNeg) hRel
        exact lw_message hC N x4 hi1 hi2 hi3 hi4 hi5 cd r u1 hA1 hcd b1 v1 hB1 ht ho (by omega) (by omega) hP hD hS hl (fun x1 H locs ls hP hD hS hl => next u1 x1 v1 hR1 H locs ls hP hD hS hl)
      · refine lv_tableIn (off := 446) (tgt := 486) hx hb dL_law_40 (by decide) (by decide) (by decide +kernel) (by decide) ?_
        obtain ⟨cd, r, u1, b1, v1, hA1, hcd, hB1, ht, ho, hR1⟩ := s_seen u v (xs (x4 + (1 : Int32)).toNatClampNeg) (xs (x4 + (2 : Int32)).toNatClampNeg) hRel
        exact lw_seen hC N x4 hi1 hi2 cd r u1 hA1 hcd b1 v1 hB1 ht ho (by omega) (by omega) hP hD hS hl (fun x1 H locs ls hP hD hS hl => next u1 x1 v1 hR1 H locs ls hP hD hS hl)
      · refine lv_tableIn (off := 514) (tgt := 554) hx hb dL_law_40 (by decide) (by decide) (by decide +kernel) (by decide) ?_
        obtain ⟨cd, r, u1, b1, v1, hA1, hcd, hB1, ht, ho, hR1⟩ := s_tick u v (xs (x4 + (1 : Int32)).toNatClampNeg) hRel
        exact lw_tick hC N x4 hi1 cd r u1 hA1 hcd b1 v1 hB1 ht ho (by omega) (by omega) hP hD hS hl (fun x1 H locs ls hP hD hS hl => next u1 x1 v1 hR1 H locs ls hP hD hS hl)
      · refine lv_tableIn (off := 570) (tgt := 610) hx hb dL_law_40 (by decide) (by decide) (by decide +kernel) (by decide) ?_
        obtain ⟨cd, r, u1, v1, hA1, hcd, hB1, ht, hR1⟩ := s_cut u v (xs (x4 + (1 : Int32)).toNatClampNeg) (if (xs (x4 + (2 : Int32)).toNatClampNeg) = (0 : Int32) then (0 : Int32) else (1 : Int32)) hRel (by split <;> simp)
        exact lw_cut hC N x4 hi1 hi2 cd r u1 hA1 hcd v1 hB1 ht (by omega) (by omega) hP hD hS hl (fun x1 H locs ls hP hD hS hl => next u1 x1 v1 hR1 H locs ls hP hD hS hl)
      · refine lv_tableIn (off := 634) (tgt := 674) hx hb dL_law_40 (by decide) (by decide) (by decide +kernel) (by decide) ?_
        obtain ⟨cd, r, u1, v1, hA1, hcd, hB1, ht, hR1⟩ := s_end u v (xs (x4 + (1 : Int32)).toNatClampNeg) hRel
        exact lw_end hC N x4 hi1 cd r u1 hA1 hcd v1 hB1 ht (by omega) (by omega) hP hD hS hl (fun x1 H locs ls hP hD hS hl => next u1 x1 v1 hR1 H locs ls hP hD hS hl)
      · refine lv_tableIn (off := 670) (tgt := 710) hx hb dL_law_40 (by decide) (by decide) (by decide +kernel) (by decide) ?_
        obtain ⟨cd, r, u1, b1, v1, hA1, hcd, hB1, ht, ho, hR1⟩ := s_askAt u v (xs (x4 + (1 : Int32)).toNatClampNeg) (xs (x4 + (2 : Int32)).toNatClampNeg) hRel
        exact lw_askAt hC N x4 hi1 hi2 cd r u1 hA1 hcd b1 v1 hB1 ht ho (by omega) (by omega) hP hD hS hl (fun x1 H locs ls hP hD hS hl => next u1 x1 v1 hR1 H locs ls hP hD hS hl)
      · refine lv_tableIn (off := 738) (tgt := 778) hx hb dL_law_40 (by decide) (by decide) (by decide +kernel) (by decide) ?_
        obtain ⟨cd, r, u1, b1, v1, hA1, hcd, hB1, ht, ho, hR1⟩ := s_loanAt u v (xs (x4 + (1 : Int32)).toNatClampNeg) (xs (x4 + (2 : Int32)).toNatClampNeg) hRel
        exact lw_loanAt hC N x4 hi1 hi2 cd r u1 hA1 hcd b1 v1 hB1 ht ho (by omega) (by omega) hP hD hS hl (fun x1 H locs ls hP hD hS hl => next u1 x1 v1 hR1 H locs ls hP hD hS hl)
      · refine lv_tableIn (off := 806) (tgt := 846) hx hb dL_law_40 (by decide) (by decide) (by decide +kernel) (by decide) ?_
        obtain ⟨cd, r, u1, b1, v1, hA1, hcd, hB1, ht, ho, hR1⟩ := s_cost u v (xs (x4 + (1 : Int32)).toNatClampNeg) hRel
        exact lw_cost hC N x4 hi1 cd r u1 hA1 hcd b1 v1 hB1 ht ho (by omega) (by omega) hP hD hS hl (fun x1 H locs ls hP hD hS hl => next u1 x1 v1 hR1 H locs ls hP hD hS hl)
      · refine lv_tableIn (off := 862) (tgt := 902) hx hb dL_law_40 (by decide) (by decide) (by decide +kernel) (by decide) ?_
        obtain ⟨r, v1, hA1, hB1, hR1⟩ := s_named u v (xs (x4 + (1 : Int32)).toNatClampNeg) hRel
        exact lw_named hC N x4 hi1 r v1 hA1 hB1 (by omega) (by omega) hP hD hS hl (fun x1 H locs ls hP hD hS hl => wide _ _ _ (next u x1 v1 hR1 H locs ls hP hD hS hl))
      · refine lv_tableIn (off := 887) (tgt := 927) hx hb dL_law_40 (by decide) (by decide) (by decide +kernel) (by decide) ?_
        obtain ⟨cd, r, u1, v1, hA1, hcd, hB1, ht, hR1⟩ := s_hand u v (xs (x4 + (1 : Int32)).toNatClampNeg) (xs (x4 + (2 : Int32)).toNatClampNeg) hRel
        exact lw_hand hC N x4 hi1 hi2 cd r u1 hA1 hcd v1 hB1 ht (by omega) (by omega) hP hD hS hl (fun x1 H locs ls hP hD hS hl => next u1 x1 v1 hR1 H locs ls hP hD hS hl)
      · refine lv_tableIn (off := 935) (tgt := 975) hx hb dL_law_40 (by decide) (by decide) (by decide +kernel) (by decide) ?_
        obtain ⟨cd, r, u1, b1, v1, hA1, hcd, hB1, ht, ho, hR1⟩ := s_handed u v (xs (x4 + (1 : Int32)).toNatClampNeg) hRel
        exact lw_handed hC N x4 hi1 cd r u1 hA1 hcd b1 v1 hB1 ht ho (by omega) (by omega) hP hD hS hl (fun x1 H locs ls hP hD hS hl => next u1 x1 v1 hR1 H locs ls hP hD hS hl)
      · refine lv_tableIn (off := 991) (tgt := 1031) hx hb dL_law_40 (by decide) (by decide) (by decide +kernel) (by decide) ?_
        obtain ⟨cd, r, u1, b1, v1, hA1, hcd, hB1, ht, ho, hR1⟩ := s_count u v (xs (x4 + (1 : Int32)).toNatClampNeg) hRel
        exact lw_count hC N x4 hi1 cd r u1 hA1 hcd b1 v1 hB1 ht ho (by omega) (by omega) hP hD hS hl (fun x1 H locs ls hP hD hS hl => next u1 x1 v1 hR1 H locs ls hP hD hS hl)
      · refine lv_tableOut (tgt := 1087) hx hb dL_law_40 (by decide) (by decide) ?_
        exact wide _ _ _ (next u x v hRel H locs ls hP hD hS hl)
