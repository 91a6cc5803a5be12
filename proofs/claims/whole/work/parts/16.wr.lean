theorem lk_L_7 : gw_LV "AidRowsLaw" "AidRows" 7 yA_house cA_house 3 (some .int) 2 := ⟨mw_219, mw_220, mw_221, mw_1, mw_222, ⟨by decide +kernel, by decide +kernel, by decide +kernel⟩⟩
theorem lk_L_17 : gw_LV "AidRowsLaw" "AidRows" 17 yA_agree cA_agree 7 (some .int) 6 := ⟨mw_324, mw_325, mw_326, mw_1, mw_327, ⟨by decide +kernel, by decide +kernel, by decide +kernel⟩⟩
theorem lk_L_25 : gw_LV "AidRowsLaw" "AidRows" 25 yA_ask cA_ask 5 (some .int) 3 := ⟨mw_388, mw_389, mw_390, mw_1, mw_391, ⟨by decide +kernel, by decide +kernel, by decide +kernel⟩⟩
theorem lk_L_29 : gw_LV "AidRowsLaw" "AidRows" 29 yA_message cA_message 7 (some .int) 5 := ⟨mw_434, mw_435, mw_436, mw_1, mw_437, ⟨by decide +kernel, by decide +kernel, by decide +kernel⟩⟩
theorem lk_L_33 : gw_LV "AidRowsLaw" "AidRows" 33 yA_seen cA_seen 3 (some .int) 2 := ⟨mw_513, mw_514, mw_515, mw_1, mw_516, ⟨by decide +kernel, by decide +kernel, by decide +kernel⟩⟩
theorem lk_L_36 : gw_LV "AidRowsLaw" "AidRows" 36 yA_tick cA_tick 5 (some .int) 1 := ⟨mw_522, mw_523, mw_524, mw_1, mw_525, ⟨by decide +kernel, by decide +kernel, by decide +kernel⟩⟩
theorem lk_L_40 : gw_LV "AidRowsLaw" "AidRows" 40 yA_cut cA_cut 3 (none) 2 := ⟨mw_548, mw_549, mw_550, mw_1, mw_551, ⟨by decide +kernel, by decide +kernel, by decide +kernel⟩⟩
theorem lk_L_44 : gw_LV "AidRowsLaw" "AidRows" 44 yA_end cA_end 2 (none) 1 := ⟨mw_556, mw_557, mw_558, mw_1, mw_559, ⟨by decide +kernel, by decide +kernel, by decide +kernel⟩⟩
theorem lk_L_48 : gw_LV "AidRowsLaw" "AidRows" 48 yA_askAt cA_askAt 3 (some .int) 2 := ⟨mw_569, mw_570, mw_571, mw_1, mw_572, ⟨by decide +kernel, by decide +kernel, by decide +kernel⟩⟩
theorem lk_L_51 : gw_LV "AidRowsLaw" "AidRows" 51 yA_loanAt cA_loanAt 3 (some .int) 2 := ⟨mw_587, mw_588, mw_589, mw_1, mw_590, ⟨by decide +kernel, by decide +kernel, by decide +kernel⟩⟩
theorem lk_L_54 : gw_LV "AidRowsLaw" "AidRows" 54 yA_cost cA_cost 4 (some .int) 1 := ⟨mw_599, mw_600, mw_601, mw_1, mw_602, ⟨by decide +kernel, by decide +kernel, by decide +kernel⟩⟩
theorem lk_L_57 : gw_LV "AidRowsLaw" "AidRows" 57 yA_hand cA_hand 3 (none) 2 := ⟨mw_606, mw_607, mw_608, mw_1, mw_609, ⟨by decide +kernel, by decide +kernel, by decide +kernel⟩⟩
theorem lk_L_61 : gw_LV "AidRowsLaw" "AidRows" 61 yA_handed cA_handed 2 (some .int) 1 := ⟨mw_618, mw_619, mw_620, mw_1, mw_621, ⟨by decide +kernel, by decide +kernel, by decide +kernel⟩⟩
theorem lk_L_64 : gw_LV "AidRowsLaw" "AidRows" 64 yA_count cA_count 2 (some .int) 1 := ⟨mw_626, mw_627, mw_628, mw_1, mw_629, ⟨by decide +kernel, by decide +kernel, by decide +kernel⟩⟩
def wO (ad : Nat → Nat) (cI cZ cJ : ClassId) (oa : Nat) (s : StA × (Nat → Int64)) : va_W := wA ad cI cZ cJ s.1 ++ [(oa, .inl (cJ, 1, .inr (.inl s.2)))]
theorem gy_in0 : vp_in (0 : Int32) 1 := by
  unfold vp_in
  decide
set_option maxRecDepth 100000 in
theorem wO_l (ad : Nat → Nat) (cI cZ cJ : ClassId) (oa : Nat) (u : StA) (x : Nat → Int64) (i : Nat) (v : Int64) : (wO ad cI cZ cJ oa (u, x)).set 32 (oa, .inl (cJ, 1, .inr (.inl (vp_updL x i v)))) = wO ad cI cZ cJ oa (u, vp_updL x i v) := rfl
theorem gy_enter {S : Type} {l : Launch} {D : va_G} {cl : List vw_C} {tys : List (ClassId × FieldType)} {w : S → va_W} {y : MethodName} {cc : ByteArray} {maxL : Nat} {ret : Option FieldType} {hh : List (Nat × Nat × Nat × Nat)} {rm : Room} {av : List Value} {u u' : S} {o : Option Value}
    (hy : plainName y.cls = true) (hn : (lg_sl av).length ≤ maxL)
    (body : ∀ (p : Program) (e : Env) (s : State) (m : MethodId) (below : List Frame) (meth : Method) (c : Code) (A : Nat → Prop), gw_C p s m av.toArray meth c y.cls cc maxL ret gG D cl tys A → gx_E A s s.heap → c.exceptionTable.toList = Jvm.tableOf hh → va_P D cl (w u) s.heap → va_D A (w u) → va_S A s.heap s.heap [] → ∀ ls : Array Slot, lv_has ls maxL (lv_args 0 av) →
      W p l e rm s m av.toArray below meth c s.heap [] 0 0 (MQ below (gw_Q D cl w A u' o) av.toArray s 1 6 A) (F0 m 0 ls [])) :
    gy_Ct l D cl tys w y (Cond.codeWith y cc maxL ret hh :: gG) rm av u o u' := by
  intro sz
  refine va_MetW (cc := cc) (maxL := maxL) (ret := ret) (hh := hh) hy rfl ?_
  intro p e s m args below meth c s₁ B hml hv
  obtain ⟨rfl, hsz, hP, hK, hD0, hE⟩ := hv
  have hts := atoms_spec (ws := Cond.codeWith y cc maxL ret hh :: gG) B.pre
  subst hsz
  rw [lg_entry_eq]
  exact body p e s m below meth c (va_A (w u) s.heap.size) ⟨B.exec, B.bytes, B.returns, hml, fun w h => hts w (List.mem_cons_of_mem _ h), findClass_of_methodNamed B.named, B.notSynchronized, hK, fun q h => Or.inr h⟩ hE (vx_table (x := y) B (hts _ List.mem_cons_self)) hP (hD0.self) va_S.rf _ (lv_entry av hn)
def kL_house : Nat → Int32 := fun cd => match cd with
  | 2 => 1
  | 4 => 2
  | _ => 0
set_option maxHeartbeats 4000000 in
set_option maxRecDepth 100000 in
theorem c_L_house (l : Launch) (hst : l.stackTraces = false) (D : va_G) (ad : Nat → Nat) (cI cZ cJ : ClassId) (oa : Nat) (u : StA) (x : Nat → Int64) (a1 : Int32) (a2 : Int32) (cd : Nat) (r : Int32) (w : StA) (h : f_A_house u a1 a2 = some ((cd, r), w)) (hcd : cd = 0 ∨ cd = 2 ∨ cd = 4) : gy_Ct l D vwCl (tA cI cZ cJ) (wO ad cI cZ cJ oa) yL_house (Cond.codeWith yL_house cL_house 5 (some .int) [(0, 10, 13, 13), (0, 10, 17, 15)] :: gG) ({ frames := 7, cells := 1, slots := 6, locals := 104 } : Room) [.ref (ad 0), .int a1, .int a2, .ref oa] (u, x) (some (.int (kL_house cd))) (w, (if cd = 0 then vp_updL x 0 r.toInt64 else x)) := by
  refine gy_enter (by decide) (Nat.le_of_ble_eq_true rfl) ?_
  intro p e s m below meth c A hC hE htb hP hD hS ls hl
  obtain ⟨hx, hb, hr, hml, hG, hown, hlocks, hK, hA⟩ := id hC
  have hl : lv_has ls 5 [(0, .ref (ad 0)), (1, .int a1), (2, .int a2), (3, .ref oa)] := hl
  refine lv_aload_n hx hb dL_house_0 rfl (lv_at hl 3 rfl) ?_
  refine lv_iconst (v := (0 : Int32)) hx hb dL_house_1 (by decide) ?_
  refine lv_aload_n hx hb dL_house_2 rfl (lv_at hl 0 rfl) ?_
  refine lv_iload_n hx hb dL_house_3 rfl (lv_at hl 1 rfl) ?_
  refine lv_iload_n hx hb dL_house_4 rfl (lv_at hl 2 rfl) ?_
  refine gy_call (w := wA ad cI cZ cJ) (Y := [(oa, .inl (cJ, 1, .inr (.inl x)))]) (As := [.int a1, .int a2]) (rest := [.int (0 : Int32), .ref oa]) (u := u) (u' := w) hx hb hml hown hG (c_A_house l hst D ad cI cZ cJ u a1 a2 cd r w h) lk_L_7 rfl rfl ⟨Nat.le_of_ble_eq_true rfl, Nat.le_of_ble_eq_true rfl⟩ (va_recv hK hP (ci := 0) (q0 := 0) rfl rfl) hK hE hP hD hS hA rfl hl.1 rfl (Nat.le_of_ble_eq_true rfl) dL_house_5 ⟨Nat.le_of_ble_eq_true rfl, Nat.le_of_ble_eq_true rfl⟩ (fun h0 H locs hP hD hS => ?_) (fun h0 H locs q ce hP hD hS hce hcv hcl => ?_)
  · subst h0
    have hP : va_P D vwCl (wO ad cI cZ cJ oa (w, x)) H := hP
    have hD : va_D A (wO ad cI cZ cJ oa (w, x)) := hD
    refine lv_i2l (v := r.toInt64) hx hb dL_house_8 rfl ?_
    refine va_last (f := x) hx hb hK hP hD hS 32 2 rfl rfl gy_in0 dL_house_9 (fun H locs hP hD hS => ?_)
    have hP : va_P D vwCl (wO ad cI cZ cJ oa (w, vp_updL x 0 r.toInt64)) H := hP
    have hD : va_D A (wO ad cI cZ cJ oa (w, vp_updL x 0 r.toInt64)) := hD
    refine lv_goto (tgt := 21) hx hb dL_house_10 (by decide) ?_
    refine lv_iconst (v := (0 : Int32)) hx hb dL_house_21 (by decide) ?_
    exact gw_iret (cells := 1) (slots := 6) hx hb hr hlocks hP hD hS dL_house_22
  · have hP : va_P D vwCl (wO ad cI cZ cJ oa (w, x)) H := hP
    have hD : va_D A (wO ad cI cZ cJ oa (w, x)) := hD
    rcases hcd with rfl | rfl | rfl
    · exact absurd rfl h0
    · refine gy_catch (cd := 2) (hh := [(0, 10, 13, 13), (0, 10, 17, 15)]) hown hG hE htb [] ⟨0, 10, 13, 13⟩ [⟨0, 10, 17, 15⟩] rfl (fun z hz => nomatch hz) (by decide) (by decide) mw_217 (by decide +kernel) hce hcv hcl ?_
      refine lv_astore (lv' := [(4, .ref q), (0, .ref (ad 0)), (1, .int a1), (2, .int a2), (3, .ref oa)]) hx hb dL_house_13 hl (by decide) rfl (fun ls hl => ?_)
      refine lv_iconst (v := (1 : Int32)) hx hb dL_house_15 (by decide) ?_
      exact gw_iret (cells := 1) (slots := 6) hx hb hr hlocks hP hD hS dL_house_16
    · refine gy_catch (cd := 4) (hh := [(0, 10, 13, 13), (0, 10, 17, 15)]) hown hG hE htb [⟨0, 10, 13, 13⟩] ⟨0, 10, 17, 15⟩ [] rfl (List.forall_mem_cons.mpr ⟨⟨by decide, "java/lang/IndexOutOfBoundsException", mw_217, by decide +kernel⟩, fun _ hz => nomatch hz⟩) (by decide) (by decide) mw_218 (by decide +kernel) hce hcv hcl ?_
      refine lv_astore (lv' := [(4, .ref q), (0, .ref (ad 0)), (1, .int a1), (2, .int a2), (3, .ref oa)]) hx hb dL_house_17 hl (by decide) rfl (fun ls hl => ?_)
      refine lv_iconst (v := (2 : Int32)) hx hb dL_house_19 (by decide) ?_
      exact gw_iret (cells := 1) (slots := 6) hx hb hr hlocks hP hD hS dL_house_20
def kL_agree : Nat → Int32 := fun cd => match cd with
  | 1 => 1
  | 2 => 2
  | 3 => 3
  | 4 => 4
  | _ => 0
set_option maxHeartbeats 4000000 in
set_option maxRecDepth 100000 in
theorem c_L_agree (l : Launch) (hst : l.stackTraces = false) (D : va_G) (ad : Nat → Nat) (cI cZ cJ : ClassId) (oa : Nat) (N : Nat) (u : StA) (x : Nat → Int64) (a1 : Int32) (a2 : Int32) (a3 : Int32) (a4 : Int32) (a5 : Int32) (a6 : Int32) (cd : Nat) (r : Int32) (w : StA) (h : f_A_agree N u a1 a2 a3 a4 a5 a6 = some ((cd, r), w)) (hcd : cd = 0 ∨ cd = 1 ∨ cd = 2 ∨ cd = 3 ∨ cd = 4) : gy_Ct l D vwCl (tA cI cZ cJ) (wO ad cI cZ cJ oa) yL_agree (Cond.codeWith yL_agree cL_agree 9 (some .int) [(0, 18, 21, 21), (0, 18, 25, 13), (0, 18, 29, 23), (0, 18, 33, 15)] :: gG) ({ frames := 7, cells := 1, slots := 6, locals := 108 } : Room) [.ref (ad 0), .int a1, .int a2, .int a3, .int a4, .int a5, .int a6, .ref oa] (u, x) (some (.int (kL_agree cd))) (w, (if cd = 0 then vp_updL x 0 r.toInt64 else x)) := by
  refine gy_enter (by decide) (Nat.le_of_ble_eq_true rfl) ?_
  intro p e s m below meth c A hC hE htb hP hD hS ls hl
  obtain ⟨hx, hb, hr, hml, hG, hown, hlocks, hK, hA⟩ := id hC
  have hl : lv_has ls 9 [(0, .ref (ad 0)), (1, .int a1), (2, .int a2), (3, .int a3), (4, .int a4), (5, .int a5), (6, .int a6), (7, .ref oa)] := hl
  refine lv_aload hx hb dL_agree_0 (lv_at hl 7 rfl) ?_
  refine lv_iconst (v := (0 : Int32)) hx hb dL_agree_2 (by decide) ?_
  refine lv_aload_n hx hb dL_agree_3 rfl (lv_at hl 0 rfl) ?_
  refine lv_iload_n hx hb dL_agree_4 rfl (lv_at hl 1 rfl) ?_
  refine lv_iload_n hx hb dL_agree_5 rfl (lv_at hl 2 rfl) ?_
  refine lv_iload_n hx hb dL_agree_6 rfl (lv_at hl 3 rfl) ?_
  refine lv_iload hx hb dL_agree_7 (lv_at hl 4 rfl) ?_
  refine lv_iload hx hb dL_agree_9 (lv_at hl 5 rfl) ?_
  refine lv_iload hx hb dL_agree_11 (lv_at hl 6 rfl) ?_
  refine gy_call (w := wA ad cI cZ cJ) (Y := [(oa, .inl (cJ, 1, .inr (.inl x)))]) (As := [.int a1, .int a2, .int a3, .int a4, .int a5, .int a6]) (rest := [.int (0 : Int32), .ref oa]) (u := u) (u' := w) hx hb hml hown hG (c_A_agree l hst D ad cI cZ cJ N u a1 a2 a3 a4 a5 a6 cd r w h) lk_L_17 rfl rfl ⟨Nat.le_of_ble_eq_true rfl, Nat.le_of_ble_eq_true rfl⟩ (va_recv hK hP (ci := 0) (q0 := 0) rfl rfl) hK hE hP hD hS hA rfl hl.1 rfl (Nat.le_of_ble_eq_true rfl) dL_agree_13 ⟨Nat.le_of_ble_eq_true rfl, Nat.le_of_ble_eq_true rfl⟩ (fun h0 H locs hP hD hS => ?_) (fun h0 H locs q ce hP hD hS hce hcv hcl => ?_)
  · subst h0
    have hP : va_P D vwCl (wO ad cI cZ cJ oa (w, x)) H := hP
    have hD : va_D A (wO ad cI cZ cJ oa (w, x)) := hD
    refine lv_i2l (v := r.toInt64) hx hb dL_agree_16 rfl ?_
    refine va_last (f := x) hx hb hK hP hD hS 32 2 rfl rfl gy_in0 dL_agree_17 (fun H locs hP hD hS => ?_)
    have hP : va_P D vwCl (wO ad cI cZ cJ oa (w, vp_updL x 0 r.toInt64)) H := hP
    have hD : va_D A (wO ad cI cZ cJ oa (w, vp_updL x 0 r.toInt64)) := hD
    refine lv_goto (tgt := 37) hx hb dL_agree_18 (by decide) ?_
    refine lv_iconst (v := (0 : Int32)) hx hb dL_agree_37 (by decide) ?_
    exact gw_iret (cells := 1) (slots := 6) hx hb hr hlocks hP hD hS dL_agree_38
  · have hP : va_P D vwCl (wO ad cI cZ cJ oa (w, x)) H := hP
    have hD : va_D A (wO ad cI cZ cJ oa (w, x)) := hD
    rcases hcd with rfl | rfl | rfl | rfl | rfl
    · exact absurd rfl h0
    · refine gy_catch (cd := 1) (hh := [(0, 18, 21, 21), (0, 18, 25, 13), (0, 18, 29, 23), (0, 18, 33, 15)]) hown hG hE htb [] ⟨0, 18, 21, 21⟩ [⟨0, 18, 25, 13⟩, ⟨0, 18, 29, 23⟩, ⟨0, 18, 33, 15⟩] rfl (fun z hz => nomatch hz) (by decide) (by decide) mw_322 (by decide +kernel) hce hcv hcl ?_
      refine lv_astore (lv' := [(8, .ref q), (0, .ref (ad 0)), (1, .int a1), (2, .int a2), (3, .int a3), (4, .int a4), (5, .int a5), (6, .int a6), (7, .ref oa)]) hx hb dL_agree_21 hl (by decide) rfl (fun ls hl => ?_)
      refine lv_iconst (v := (1 : Int32)) hx hb dL_agree_23 (by decide) ?_
      exact gw_iret (cells := 1) (slots := 6) hx hb hr hlocks hP hD hS dL_agree_24
    · refine gy_catch (cd := 2) (hh := [(0, 18, 21, 21), (0, 18, 25, 13), (0, 18, 29, 23), (0, 18, 33, 15)]) hown hG hE htb [⟨0, 18, 21, 21⟩] ⟨0, 18, 25, 13⟩ [⟨0, 18, 29, 23⟩, ⟨0, 18, 33, 15⟩] rfl (List.forall_mem_cons.mpr ⟨⟨by decide, "java/lang/IllegalArgumentException", mw_322, by decide +kernel⟩, fun _ hz => nomatch hz⟩) (by decide) (by decide) mw_217 (by decide +kernel) hce hcv hcl ?_
      refine lv_astore (lv' := [(8, .ref q), (0, .ref (ad 0)), (1, .int a1), (2, .int a2), (3, .int a3), (4, .int a4), (5, .int a5), (6, .int a6), (7, .ref oa)]) hx hb dL_agree_25 hl (by decide) rfl (fun ls hl => ?_)
      refine lv_iconst (v := (2 : Int32)) hx hb dL_agree_27 (by decide) ?_
      exact gw_iret (cells := 1) (slots := 6) hx hb hr hlocks hP hD hS dL_agree_28
    · refine gy_catch (cd := 3) (hh := [(0, 18, 21, 21), (0, 18, 25, 13), (0, 18, 29, 23), (0, 18, 33, 15)]) hown hG hE htb [⟨0, 18, 21, 21⟩, ⟨0, 18, 25, 13⟩] ⟨0, 18, 29, 23⟩ [⟨0, 18, 33, 15⟩] rfl (List.forall_mem_cons.mpr ⟨⟨by decide, "java/lang/IllegalArgumentException", mw_322, by decide +kernel⟩, List.forall_mem_cons.mpr ⟨⟨by decide, "java/lang/IndexOutOfBoundsException", mw_217, by decide +kernel⟩, fun _ hz => nomatch hz⟩⟩) (by decide) (by decide) mw_323 (by decide +kernel) hce hcv hcl ?_
      refine lv_astore (lv' := [(8, .ref q), (0, .ref (ad 0)), (1, .int a1), (2, .int a2), (3, .int a3), (4, .int a4), (5, .int a5), (6, .int a6), (7, .ref oa)]) hx hb dL_agree_29 hl (by decide) rfl (fun ls hl => ?_)
      refine lv_iconst (v := (3 : Int32)) hx hb dL_agree_31 (by decide) ?_
      exact gw_iret (cells := 1) (slots := 6) hx hb hr hlocks hP hD hS dL_agree_32
    · refine gy_catch (cd := 4) (hh := [(0, 18, 21, 21), (0, 18, 25, 13), (0, 18, 29, 23), (0, 18, 33, 15)]) hown hG hE htb [⟨0, 18, 21, 21⟩, ⟨0, 18, 25, 13⟩, ⟨0, 18, 29, 23⟩] ⟨0, 18, 33, 15⟩ [] rfl (List.forall_mem_cons.mpr ⟨⟨by decide, "java/lang/IllegalArgumentException", mw_322, by decide +kernel⟩, List.forall_mem_cons.mpr ⟨⟨by decide, "java/lang/IndexOutOfBoundsException", mw_217, by decide +kernel⟩, List.forall_mem_cons.mpr ⟨⟨by decide, "java/lang/IllegalStateException", mw_323, by decide +kernel⟩, fun _ hz => nomatch hz⟩⟩⟩) (by decide) (by decide) mw_218 (by decide +kernel) hce hcv hcl ?_
      refine lv_astore (lv' := [(8, .ref q), (0, .ref (ad 0)), (1, .int a1), (2, .int a2), (3, .int a3), (4, .int a4), (5, .int a5), (6, .int a6), (7, .ref oa)]) hx hb dL_agree_33 hl (by decide) rfl (fun ls hl => ?_)
      refine lv_iconst (v := (4 : Int32)) hx hb dL_agree_35 (by decide) ?_
      exact gw_iret (cells := 1) (slots := 6) hx hb hr hlocks hP hD hS dL_agree_36
def kL_ask : Nat → Int32 := fun cd => match cd with
  | 1 => 1
  | 2 => 2
  | 4 => 3
  | _ => 0
set_option maxHeartbeats 4000000 in
set_option maxRecDepth 100000 in
theorem c_L_ask (l : Launch) (hst : l.stackTraces = false) (D : va_G) (ad : Nat → Nat) (cI cZ cJ : ClassId) (oa : Nat) (N : Nat) (u : StA) (x : Nat → Int64) (a1 : Int32) (a2 : Int32) (a3 : Int32) (cd : Nat) (r : Int32) (w : StA) (h : f_A_ask N u a1 a2 a3 = some ((cd, r), w)) (hcd : cd = 0 ∨ cd = 1 ∨ cd = 2 ∨ cd = 4) : gy_Ct l D vwCl (tA cI cZ cJ) (wO ad cI cZ cJ oa) yL_ask (Cond.codeWith yL_ask cL_ask 6 (some .int) [(0, 12, 15, 21), (0, 12, 19, 13), (0, 12, 23, 15)] :: gG) ({ frames := 7, cells := 1, slots := 6, locals := 120 } : Room) [.ref (ad 0), .int a1, .int a2, .int a3, .ref oa] (u, x) (some (.int (kL_ask cd))) (w, (if cd = 0 then vp_updL x 0 r.toInt64 else x)) := by
  refine gy_enter (by decide) (Nat.le_of_ble_eq_true rfl) ?_
  intro p e s m below meth c A hC hE htb hP hD hS ls hl
  obtain ⟨hx, hb, hr, hml, hG, hown, hlocks, hK, hA⟩ := id hC
  have hl : lv_has ls 6 [(0, .ref (ad 0)), (1, .int a1), (2, .int a2), (3, .int a3), (4, .ref oa)] := hl
  refine lv_aload hx hb dL_ask_0 (lv_at hl 4 rfl) ?_
  refine lv_iconst (v := (0 : Int32)) hx hb dL_ask_2 (by decide) ?_
  refine lv_aload_n hx hb dL_ask_3 rfl (lv_at hl 0 rfl) ?_
  refine lv_iload_n hx hb dL_ask_4 rfl (lv_at hl 1 rfl) ?_
  refine lv_iload_n hx hb dL_ask_5 rfl (lv_at hl 2 rfl) ?_
  refine lv_iload_n hx hb dL_ask_6 rfl (lv_at hl 3 rfl) ?_
  refine gy_call (w := wA ad cI cZ cJ) (Y := [(oa, .inl (cJ, 1, .inr (.inl x)))]) (As := [.int a1, .int a2, .int a3]) (rest := [.int (0 : Int32), .ref oa]) (u := u) (u' := w) hx hb hml hown hG (c_A_ask l hst D ad cI cZ cJ N u a1 a2 a3 cd r w h) lk_L_25 rfl rfl ⟨Nat.le_of_ble_eq_true rfl, Nat.le_of_ble_eq_true rfl⟩ (va_recv hK hP (ci := 0) (q0 := 0) rfl rfl) hK hE hP hD hS hA rfl hl.1 rfl (Nat.le_of_ble_eq_true rfl) dL_ask_7 ⟨Nat.le_of_ble_eq_true rfl, Nat.le_of_ble_eq_true rfl⟩ (fun h0 H locs hP hD hS => ?_) (fun h0 H locs q ce hP hD hS hce hcv hcl => ?_)
  · subst h0
    have hP : va_P D vwCl (wO ad cI cZ cJ oa (w, x)) H := hP
    have hD : va_D A (wO ad cI cZ cJ oa (w, x)) := hD
    refine lv_i2l (v := r.toInt64) hx hb dL_ask_10 rfl ?_
    refine va_last (f := x) hx hb hK hP hD hS 32 2 rfl rfl gy_in0 dL_ask_11 (fun H locs hP hD hS => ?_)
    have hP : va_P D vwCl (wO ad cI cZ cJ oa (w, vp_updL x 0 r.toInt64)) H := hP
    have hD : va_D A (wO ad cI cZ cJ oa (w, vp_updL x 0 r.toInt64)) := hD
    refine lv_goto (tgt := 27) hx hb dL_ask_12 (by decide) ?_
    refine lv_iconst (v := (0 : Int32)) hx hb dL_ask_27 (by decide) ?_
    exact gw_iret (cells := 1) (slots := 6) hx hb hr hlocks hP hD hS dL_ask_28
  · have hP : va_P D vwCl (wO ad cI cZ cJ oa (w, x)) H := hP
    have hD : va_D A (wO ad cI cZ cJ oa (w, x)) := hD
    rcases hcd with rfl | rfl | rfl | rfl
    · exact absurd rfl h0
    · refine gy_catch (cd := 1) (hh := [(0, 12, 15, 21), (0, 12, 19, 13), (0, 12, 23, 15)]) hown hG hE htb [] ⟨0, 12, 15, 21⟩ [⟨0, 12, 19, 13⟩, ⟨0, 12, 23, 15⟩] rfl (fun z hz => nomatch hz) (by decide) (by decide) mw_322 (by decide +kernel) hce hcv hcl ?_
      refine lv_astore (lv' := [(5, .ref q), (0, .ref (ad 0)), (1, .int a1), (2, .int a2), (3, .int a3), (4, .ref oa)]) hx hb dL_ask_15 hl (by decide) rfl (fun ls hl => ?_)
      refine lv_iconst (v := (1 : Int32)) hx hb dL_ask_17 (by decide) ?_
      exact gw_iret (cells := 1) (slots := 6) hx hb hr hlocks hP hD hS dL_ask_18
    · refine gy_catch (cd := 2) (hh := [(0, 12, 15, 21), (0, 12, 19, 13), (0, 12, 23, 15)]) hown hG hE htb [⟨0, 12, 15, 21⟩] ⟨0, 12, 19, 13⟩ [⟨0, 12, 23, 15⟩] rfl (List.forall_mem_cons.mpr ⟨⟨by decide, "java/lang/IllegalArgumentException", mw_322, by decide +kernel⟩, fun _ hz => nomatch hz⟩) (by decide) (by decide) mw_217 (by decide +kernel) hce hcv hcl ?_
      refine lv_astore (lv' := [(5, .ref q), (0, .ref (ad 0)), (1, .int a1), (2, .int a2), (3, .int a3), (4, .ref oa)]) hx hb dL_ask_19 hl (by decide) rfl (fun ls hl => ?_)
      refine lv_iconst (v := (2 : Int32)) hx hb dL_ask_21 (by decide) ?_
      exact gw_iret (cells := 1) (slots := 6) hx hb hr hlocks hP hD hS dL_ask_22
    · refine gy_catch (cd := 4) (hh := [(0, 12, 15, 21), (0, 12, 19, 13), (0, 12, 23, 15)]) hown hG hE htb [⟨0, 12, 15, 21⟩, ⟨0, 12, 19, 13⟩] ⟨0, 12, 23, 15⟩ [] rfl (List.forall_mem_cons.mpr ⟨⟨by decide, "java/lang/IllegalArgumentException", mw_322, by decide +kernel⟩, List.forall_mem_cons.mpr ⟨⟨by decide, "java/lang/IndexOutOfBoundsException", mw_217, by decide +kernel⟩, fun _ hz => nomatch hz⟩⟩) (by decide) (by decide) mw_218 (by decide +kernel) hce hcv hcl ?_
      refine lv_astore (lv' := [(5, .ref q), (0, .ref (ad 0)), (1, .int a1), (2, .int a2), (3, .int a3), (4, .ref oa)]) hx hb dL_ask_23 hl (by decide) rfl (fun ls hl => ?_)
      refine lv_iconst (v := (3 : Int32)) hx hb dL_ask_25 (by decide) ?_
      exact gw_iret (cells := 1) (slots := 6) hx hb hr hlocks hP hD hS dL_ask_26
def kL_message : Nat → Int32 := fun cd => match cd with
  | 1 => 1
  | 2 => 2
  | 4 => 3
  | _ => 0
set_option maxHeartbeats 4000000 in
set_option maxRecDepth 100000 in
theorem c_L_message (l : Launch) (hst : l.stackTraces = false) (D : va_G) (ad : Nat → Nat) (cI cZ cJ : ClassId) (oa : Nat) (N : Nat) (u : StA) (x : Nat → Int64) (a1 : Int32) (a2 : Int32) (a3 : Int32) (a4 : Int32) (a5 : Int32) (cd : Nat) (r : Int32) (w : StA) (h : f_A_message N u a1 a2 a3 a4 a5 = some ((cd, r), w)) (hcd : cd = 0 ∨ cd = 1 ∨ cd = 2 ∨ cd = 4) : gy_Ct l D vwCl (tA cI cZ cJ) (wO ad cI cZ cJ oa) yL_message (Cond.codeWith yL_message cL_message 8 (some .int) [(0, 16, 19, 21), (0, 16, 23, 13), (0, 16, 27, 15)] :: gG) ({ frames := 7, cells := 1, slots := 6, locals := 166 } : Room) [.ref (ad 0), .int a1, .int a2, .int a3, .int a4, .int a5, .ref oa] (u, x) (some (.int (kL_message cd))) (w, (if cd = 0 then vp_updL x 0 r.toInt64 else x)) := by
  refine gy_enter (by decide) (Nat.le_of_ble_eq_true rfl) ?_
  intro p e s m below meth c A hC hE htb hP hD hS ls hl
  obtain ⟨hx, hb, hr, hml, hG, hown, hlocks, hK, hA⟩ := id hC
  have hl : lv_has ls 8 [(0, .ref (ad 0)), (1, .int a1), (2, .int a2), (3, .int a3), (4, .int a4), (5, .int a5), (6, .ref oa)] := hl
  refine lv_aload hx hb dL_message_0 (lv_at hl 6 rfl) ?_
  refine lv_iconst (v := (0 : Int32)) hx hb dL_message_2 (by decide) ?_
  refine lv_aload_n hx hb dL_message_3 rfl (lv_at hl 0 rfl) ?_
  refine lv_iload_n hx hb dL_message_4 rfl (lv_at hl 1 rfl) ?_
  refine lv_iload_n hx hb dL_message_5 rfl (lv_at hl 2 rfl) ?_
  refine lv_iload_n hx hb dL_message_6 rfl (lv_at hl 3 rfl) ?_
  refine lv_iload hx hb dL_message_7 (lv_at hl 4 rfl) ?_
  refine lv_iload hx hb dL_message_9 (lv_at hl 5 rfl) ?_
  refine gy_call (w := wA ad cI cZ cJ) (Y := [(oa, .inl (cJ, 1, .inr (.inl x)))]) (As := [.int a1, .int a2, .int a3, .int a4, .int a5]) (rest := [.int (0 : Int32), .ref oa]) (u := u) (u' := w) hx hb hml hown hG (c_A_message l hst D ad cI cZ cJ N u a1 a2 a3 a4 a5 cd r w h) lk_L_29 rfl rfl ⟨Nat.le_of_ble_eq_true rfl, Nat.le_of_ble_eq_true rfl⟩ (va_recv hK hP (ci := 0) (q0 := 0) rfl rfl) hK hE hP hD hS hA rfl hl.1 rfl (Nat.le_of_ble_eq_true rfl) dL_message_11 ⟨Nat.le_of_ble_eq_true rfl, Nat.le_of_ble_eq_true rfl⟩ (fun h0 H locs hP hD hS => ?_) (fun h0 H locs q ce hP hD hS hce hcv hcl => ?_)
  · subst h0
    have hP : va_P D vwCl (wO ad cI cZ cJ oa (w, x)) H := hP
    have hD : va_D A (wO ad cI cZ cJ oa (w, x)) := hD
    refine lv_i2l (v := r.toInt64) hx hb dL_message_14 rfl ?_
    refine va_last (f := x) hx hb hK hP hD hS 32 2 rfl rfl gy_in0 dL_message_15 (fun H locs hP hD hS => ?_)
    have hP : va_P D vwCl (wO ad cI cZ cJ oa (w, vp_updL x 0 r.toInt64)) H := hP
    have hD : va_D A (wO ad cI cZ cJ oa (w, vp_updL x 0 r.toInt64)) := hD
    refine lv_goto (tgt := 31) hx hb dL_message_16 (by decide) ?_
    refine lv_iconst (v := (0 : Int32)) hx hb dL_message_31 (by decide) ?_
    exact gw_iret (cells := 1) (slots := 6) hx hb hr hlocks hP hD hS dL_message_32
  · have hP : va_P D vwCl (wO ad cI cZ cJ oa (w, x)) H := hP
    have hD : va_D A (wO ad cI cZ cJ oa (w, x)) := hD
    rcases hcd with rfl | rfl | rfl | rfl
    · exact absurd rfl h0
    · refine gy_catch (cd := 1) (hh := [(0, 16, 19, 21), (0, 16, 23, 13), (0, 16, 27, 15)]) hown hG hE htb [] ⟨0, 16, 19, 21⟩ [⟨0, 16, 23, 13⟩, ⟨0, 16, 27, 15⟩] rfl (fun z hz => nomatch hz) (by decide) (by decide) mw_322 (by decide +kernel) hce hcv hcl ?_
      refine lv_astore (lv' := [(7, .ref q), (0, .ref (ad 0)), (1, .int a1), (2, .int a2), (3, .int a3), (4, .int a4), (5, .int a5), (6, .ref oa)]) hx hb dL_message_19 hl (by decide) rfl (fun ls hl => ?_)
      refine lv_iconst (v := (1 : Int32)) hx hb dL_message_21 (by decide) ?_
      exact gw_iret (cells := 1) (slots := 6) hx hb hr hlocks hP hD hS dL_message_22
    · refine gy_catch (cd := 2) (hh := [(0, 16, 19, 21), (0, 16, 23, 13), (0, 16, 27, 15)]) hown hG hE htb [⟨0, 16, 19, 21⟩] ⟨0, 16, 23, 13⟩ [⟨0, 16, 27, 15⟩] rfl (List.forall_mem_cons.mpr ⟨⟨by decide, "java/lang/IllegalArgumentException", mw_322, by decide +kernel⟩, fun _ hz => nomatch hz⟩) (by decide) (by decide) mw_217 (by decide +kernel) hce hcv hcl ?_
      refine lv_astore (lv' := [(7, .ref q), (0, .ref (ad 0)), (1, .int a1), (2, .int a2), (3, .int a3), (4, .int a4), (5, .int a5), (6, .ref oa)]) hx hb dL_message_23 hl (by decide) rfl (fun ls hl => ?_)
      refine lv_iconst (v := (2 : Int32)) hx hb dL_message_25 (by decide) ?_
      exact gw_iret (cells := 1) (slots := 6) hx hb hr hlocks hP hD hS dL_message_26
    · refine gy_catch (cd := 4) (hh := [(0, 16, 19, 21), (0, 16, 23, 13), (0, 16, 27, 15)]) hown hG hE htb [⟨0, 16, 19, 21⟩, ⟨0, 16, 23, 13⟩] ⟨0, 16, 27, 15⟩ [] rfl (List.forall_mem_cons.mpr ⟨⟨by decide, "java/lang/IllegalArgumentException", mw_322, by decide +kernel⟩, List.forall_mem_cons.mpr ⟨⟨by decide, "java/lang/IndexOutOfBoundsException", mw_217, by decide +kernel⟩, fun _ hz => nomatch hz⟩⟩) (by decide) (by decide) mw_218 (by decide +kernel) hce hcv hcl ?_
      refine lv_astore (lv' := [(7, .ref q), (0, .ref (ad 0)), (1, .int a1), (2, .int a2), (3, .int a3), (4, .int a4), (5, .int a5), (6, .ref oa)]) hx hb dL_message_27 hl (by decide) rfl (fun ls hl => ?_)
      refine lv_iconst (v := (3 : Int32)) hx hb dL_message_29 (by decide) ?_
      exact gw_iret (cells := 1) (slots := 6) hx hb hr hlocks hP hD hS dL_message_30
def kL_seen : Nat → Int32 := fun cd => match cd with
  | 1 => 1
  | 2 => 2
  | _ => 0
set_option maxHeartbeats 4000000 in
set_option maxRecDepth 100000 in
theorem c_L_seen (l : Launch) (hst : l.stackTraces = false) (D : va_G) (ad : Nat → Nat) (cI cZ cJ : ClassId) (oa : Nat) (u : StA) (x : Nat → Int64) (a1 : Int32) (a2 : Int32) (cd : Nat) (r : Int32) (w : StA) (h : f_A_seen u a1 a2 = some ((cd, r), w)) (hcd : cd = 0 ∨ cd = 1 ∨ cd = 2) : gy_Ct l D vwCl (tA cI cZ cJ) (wO ad cI cZ cJ oa) yL_seen (Cond.codeWith yL_seen cL_seen 5 (some .int) [(0, 10, 13, 21), (0, 10, 17, 13)] :: gG) ({ frames := 7, cells := 1, slots := 6, locals := 104 } : Room) [.ref (ad 0), .int a1, .int a2, .ref oa] (u, x) (some (.int (kL_seen cd))) (w, (if cd = 0 then vp_updL x 0 r.toInt64 else x)) := by
  refine gy_enter (by decide) (Nat.le_of_ble_eq_true rfl) ?_
  intro p e s m below meth c A hC hE htb hP hD hS ls hl
  obtain ⟨hx, hb, hr, hml, hG, hown, hlocks, hK, hA⟩ := id hC
  have hl : lv_has ls 5 [(0, .ref (ad 0)), (1, .int a1), (2, .int a2), (3, .ref oa)] := hl
  refine lv_aload_n hx hb dL_seen_0 rfl (lv_at hl 3 rfl) ?_
  refine lv_iconst (v := (0 : Int32)) hx hb dL_seen_1 (by decide) ?_
  refine lv_aload_n hx hb dL_seen_2 rfl (lv_at hl 0 rfl) ?_
  refine lv_iload_n hx hb dL_seen_3 rfl (lv_at hl 1 rfl) ?_
  refine lv_iload_n hx hb dL_seen_4 rfl (lv_at hl 2 rfl) ?_
  refine gy_call (w := wA ad cI cZ cJ) (Y := [(oa, .inl (cJ, 1, .inr (.inl x)))]) (As := [.int a1, .int a2]) (rest := [.int (0 : Int32), .ref oa]) (u := u) (u' := w) hx hb hml hown hG (c_A_seen l hst D ad cI cZ cJ u a1 a2 cd r w h) lk_L_33 rfl rfl ⟨Nat.le_of_ble_eq_true rfl, Nat.le_of_ble_eq_true rfl⟩ (va_recv hK hP (ci := 0) (q0 := 0) rfl rfl) hK hE hP hD hS hA rfl hl.1 rfl (Nat.le_of_ble_eq_true rfl) dL_seen_5 ⟨Nat.le_of_ble_eq_true rfl, Nat.le_of_ble_eq_true rfl⟩ (fun h0 H locs hP hD hS => ?_) (fun h0 H locs q ce hP hD hS hce hcv hcl => ?_)
  · subst h0
    have hP : va_P D vwCl (wO ad cI cZ cJ oa (w, x)) H := hP
    have hD : va_D A (wO ad cI cZ cJ oa (w, x)) := hD
    refine lv_i2l (v := r.toInt64) hx hb dL_seen_8 rfl ?_
    refine va_last (f := x) hx hb hK hP hD hS 32 2 rfl rfl gy_in0 dL_seen_9 (fun H locs hP hD hS => ?_)
    have hP : va_P D vwCl (wO ad cI cZ cJ oa (w, vp_updL x 0 r.toInt64)) H := hP
    have hD : va_D A (wO ad cI cZ cJ oa (w, vp_updL x 0 r.toInt64)) := hD
    refine lv_goto (tgt := 21) hx hb dL_seen_10 (by decide) ?_
    refine lv_iconst (v := (0 : Int32)) hx hb dL_seen_21 (by decide) ?_
    exact gw_iret (cells := 1) (slots := 6) hx hb hr hlocks hP hD hS dL_seen_22
  · have hP : va_P D vwCl (wO ad cI cZ cJ oa (w, x)) H := hP
    have hD : va_D A (wO ad cI cZ cJ oa (w, x)) := hD
    rcases hcd with rfl | rfl | rfl
    · exact absurd rfl h0
    · refine gy_catch (cd := 1) (hh := [(0, 10, 13, 21), (0, 10, 17, 13)]) hown hG hE htb [] ⟨0, 10, 13, 21⟩ [⟨0, 10, 17, 13⟩] rfl (fun z hz => nomatch hz) (by decide) (by decide) mw_322 (by decide +kernel) hce hcv hcl ?_
      refine lv_astore (lv' := [(4, .ref q), (0, .ref (ad 0)), (1, .int a1), (2, .int a2), (3, .ref oa)]) hx hb dL_seen_13 hl (by decide) rfl (fun ls hl => ?_)
      refine lv_iconst (v := (1 : Int32)) hx hb dL_seen_15 (by decide) ?_
      exact gw_iret (cells := 1) (slots := 6) hx hb hr hlocks hP hD hS dL_seen_16
    · refine gy_catch (cd := 2) (hh := [(0, 10, 13, 21), (0, 10, 17, 13)]) hown hG hE htb [⟨0, 10, 13, 21⟩] ⟨0, 10, 17, 13⟩ [] rfl (List.forall_mem_cons.mpr ⟨⟨by decide, "java/lang/IllegalArgumentException", mw_322, by decide +kernel⟩, fun _ hz => nomatch hz⟩) (by decide) (by decide) mw_217 (by decide +kernel) hce hcv hcl ?_
      refine lv_astore (lv' := [(4, .ref q), (0, .ref (ad 0)), (1, .int a1), (2, .int a2), (3, .ref oa)]) hx hb dL_seen_17 hl (by decide) rfl (fun ls hl => ?_)
      refine lv_iconst (v := (2 : Int32)) hx hb dL_seen_19 (by decide) ?_
      exact gw_iret (cells := 1) (slots := 6) hx hb hr hlocks hP hD hS dL_seen_20
def kL_tick : Nat → Int32 := fun cd => match cd with
  | 2 => 1
  | _ => 0
set_option maxHeartbeats 4000000 in
set_option maxRecDepth 100000 in
theorem c_L_tick (l : Launch) (hst : l.stackTraces = false) (D : va_G) (ad : Nat → Nat) (cI cZ cJ : ClassId) (oa : Nat) (N : Nat) (u : StA) (x : Nat → Int64) (a1 : Int32) (cd : Nat) (r : Int32) (w : StA) (h : f_A_tick N u a1 = some ((cd, r), w)) (hcd : cd = 0 ∨ cd = 2) : gy_Ct l D vwCl (tA cI cZ cJ) (wO ad cI cZ cJ oa) yL_tick (Cond.codeWith yL_tick cL_tick 4 (some .int) [(0, 9, 12, 13)] :: gG) ({ frames := 7, cells := 1, slots := 6, locals := 142 } : Room) [.ref (ad 0), .int a1, .ref oa] (u, x) (some (.int (kL_tick cd))) (w, (if cd = 0 then vp_updL x 0 r.toInt64 else x)) := by
  refine gy_enter (by decide) (Nat.le_of_ble_eq_true rfl) ?_
  intro p e s m below meth c A hC hE htb hP hD hS ls hl
  obtain ⟨hx, hb, hr, hml, hG, hown, hlocks, hK, hA⟩ := id hC
  have hl : lv_has ls 4 [(0, .ref (ad 0)), (1, .int a1), (2, .ref oa)] := hl
  refine lv_aload_n hx hb dL_tick_0 rfl (lv_at hl 2 rfl) ?_
  refine lv_iconst (v := (0 : Int32)) hx hb dL_tick_1 (by decide) ?_
  refine lv_aload_n hx hb dL_tick_2 rfl (lv_at hl 0 rfl) ?_
  refine lv_iload_n hx hb dL_tick_3 rfl (lv_at hl 1 rfl) ?_
  refine gy_call (w := wA ad cI cZ cJ) (Y := [(oa, .inl (cJ, 1, .inr (.inl x)))]) (As := [.int a1]) (rest := [.int (0 : Int32), .ref oa]) (u := u) (u' := w) hx hb hml hown hG (c_A_tick l hst D ad cI cZ cJ N u a1 cd r w h) lk_L_36 rfl rfl ⟨Nat.le_of_ble_eq_true rfl, Nat.le_of_ble_eq_true rfl⟩ (va_recv hK hP (ci := 0) (q0 := 0) rfl rfl) hK hE hP hD hS hA rfl hl.1 rfl (Nat.le_of_ble_eq_true rfl) dL_tick_4 ⟨Nat.le_of_ble_eq_true rfl, Nat.le_of_ble_eq_true rfl⟩ (fun h0 H locs hP hD hS => ?_) (fun h0 H locs q ce hP hD hS hce hcv hcl => ?_)
  · subst h0
    have hP : va_P D vwCl (wO ad cI cZ cJ oa (w, x)) H := hP
    have hD : va_D A (wO ad cI cZ cJ oa (w, x)) := hD
    refine lv_i2l (v := r.toInt64) hx hb dL_tick_7 rfl ?_
    refine va_last (f := x) hx hb hK hP hD hS 32 2 rfl rfl gy_in0 dL_tick_8 (fun H locs hP hD hS => ?_)
    have hP : va_P D vwCl (wO ad cI cZ cJ oa (w, vp_updL x 0 r.toInt64)) H := hP
    have hD : va_D A (wO ad cI cZ cJ oa (w, vp_updL x 0 r.toInt64)) := hD
    refine lv_goto (tgt := 15) hx hb dL_tick_9 (by decide) ?_
    refine lv_iconst (v := (0 : Int32)) hx hb dL_tick_15 (by decide) ?_
    exact gw_iret (cells := 1) (slots := 6) hx hb hr hlocks hP hD hS dL_tick_16
  · have hP : va_P D vwCl (wO ad cI cZ cJ oa (w, x)) H := hP
    have hD : va_D A (wO ad cI cZ cJ oa (w, x)) := hD
    rcases hcd with rfl | rfl
    · exact absurd rfl h0
    · refine gy_catch (cd := 2) (hh := [(0, 9, 12, 13)]) hown hG hE htb [] ⟨0, 9, 12, 13⟩ [] rfl (fun z hz => nomatch hz) (by decide) (by decide) mw_217 (by decide +kernel) hce hcv hcl ?_
      refine lv_astore_n (lv' := [(3, .ref q), (0, .ref (ad 0)), (1, .int a1), (2, .ref oa)]) hx hb dL_tick_12 rfl hl (by decide) rfl (fun ls hl => ?_)
      refine lv_iconst (v := (1 : Int32)) hx hb dL_tick_13 (by decide) ?_
      exact gw_iret (cells := 1) (slots := 6) hx hb hr hlocks hP hD hS dL_tick_14
def kL_cut : Nat → Int32 := fun cd => match cd with
  | 1 => 1
  | 3 => 2
  | _ => 0
set_option maxHeartbeats 4000000 in
set_option maxRecDepth 100000 in
theorem c_L_cut (l : Launch) (hst : l.stackTraces = false) (D : va_G) (ad : Nat → Nat) (cI cZ cJ : ClassId) (oa : Nat) (u : StA) (x : Nat → Int64) (a1 : Int32) (a2 : Int32) (cd : Nat) (r : Int32) (w : StA) (h : f_A_cut u a1 a2 = some ((cd, r), w)) (hcd : cd = 0 ∨ cd = 1 ∨ cd = 3) : gy_Ct l D vwCl (tA cI cZ cJ) (wO ad cI cZ cJ oa) yL_cut (Cond.codeWith yL_cut cL_cut 4 (some .int) [(0, 6, 9, 21), (0, 6, 12, 23)] :: gG) ({ frames := 7, cells := 1, slots := 6, locals := 104 } : Room) [.ref (ad 0), .int a1, .int a2] (u, x) (some (.int (kL_cut cd))) (w, x) := by
  refine gy_enter (by decide) (Nat.le_of_ble_eq_true rfl) ?_
  intro p e s m below meth c A hC hE htb hP hD hS ls hl
  obtain ⟨hx, hb, hr, hml, hG, hown, hlocks, hK, hA⟩ := id hC
  have hl : lv_has ls 4 [(0, .ref (ad 0)), (1, .int a1), (2, .int a2)] := hl
  refine lv_aload_n hx hb dL_cut_0 rfl (lv_at hl 0 rfl) ?_
  refine lv_iload_n hx hb dL_cut_1 rfl (lv_at hl 1 rfl) ?_
  refine lv_iload_n hx hb dL_cut_2 rfl (lv_at hl 2 rfl) ?_
  refine gy_call (w := wA ad cI cZ cJ) (Y := [(oa, .inl (cJ, 1, .inr (.inl x)))]) (As := [.int a1, .int a2]) (rest := []) (u := u) (u' := w) hx hb hml hown hG (c_A_cut l hst D ad cI cZ cJ u a1 a2 cd r w h) lk_L_40 rfl rfl ⟨Nat.le_of_ble_eq_true rfl, Nat.le_of_ble_eq_true rfl⟩ (va_recv hK hP (ci := 0) (q0 := 0) rfl rfl) hK hE hP hD hS hA rfl hl.1 rfl (Nat.le_of_ble_eq_true rfl) dL_cut_3 ⟨Nat.le_of_ble_eq_true rfl, Nat.le_of_ble_eq_true rfl⟩ (fun h0 H locs hP hD hS => ?_) (fun h0 H locs q ce hP hD hS hce hcv hcl => ?_)
  · subst h0
    have hP : va_P D vwCl (wO ad cI cZ cJ oa (w, x)) H := hP
    have hD : va_D A (wO ad cI cZ cJ oa (w, x)) := hD
    refine lv_goto (tgt := 15) hx hb dL_cut_6 (by decide) ?_
    refine lv_iconst (v := (0 : Int32)) hx hb dL_cut_15 (by decide) ?_
    exact gw_iret (cells := 1) (slots := 6) hx hb hr hlocks hP hD hS dL_cut_16
  · have hP : va_P D vwCl (wO ad cI cZ cJ oa (w, x)) H := hP
    have hD : va_D A (wO ad cI cZ cJ oa (w, x)) := hD
    rcases hcd with rfl | rfl | rfl
    · exact absurd rfl h0
    · refine gy_catch (cd := 1) (hh := [(0, 6, 9, 21), (0, 6, 12, 23)]) hown hG hE htb [] ⟨0, 6, 9, 21⟩ [⟨0, 6, 12, 23⟩] rfl (fun z hz => nomatch hz) (by decide) (by decide) mw_322 (by decide +kernel) hce hcv hcl ?_
      refine lv_astore_n (lv' := [(3, .ref q), (0, .ref (ad 0)), (1, .int a1), (2, .int a2)]) hx hb dL_cut_9 rfl hl (by decide) rfl (fun ls hl => ?_)
      refine lv_iconst (v := (1 : Int32)) hx hb dL_cut_10 (by decide) ?_
      exact gw_iret (cells := 1) (slots := 6) hx hb hr hlocks hP hD hS dL_cut_11
    · refine gy_catch (cd := 3) (hh := [(0, 6, 9, 21), (0, 6, 12, 23)]) hown hG hE htb [⟨0, 6, 9, 21⟩] ⟨0, 6, 12, 23⟩ [] rfl (List.forall_mem_cons.mpr ⟨⟨by decide, "java/lang/IllegalArgumentException", mw_322, by decide +kernel⟩, fun _ hz => nomatch hz⟩) (by decide) (by decide) mw_323 (by decide +kernel) hce hcv hcl ?_
      refine lv_astore_n (lv' := [(3, .ref q), (0, .ref (ad 0)), (1, .int a1), (2, .int a2)]) hx hb dL_cut_12 rfl hl (by decide) rfl (fun ls hl => ?_)
      refine lv_iconst (v := (2 : Int32)) hx hb dL_cut_13 (by decide) ?_
      exact gw_iret (cells := 1) (slots := 6) hx hb hr hlocks hP hD hS dL_cut_14
def kL_end : Nat → Int32 := fun cd => match cd with
  | 1 => 1
  | 3 => 2
  | _ => 0
set_option maxHeartbeats 4000000 in
set_option maxRecDepth 100000 in
theorem c_L_end (l : Launch) (hst : l.stackTraces = false) (D : va_G) (ad : Nat → Nat) (cI cZ cJ : ClassId) (oa : Nat) (u : StA) (x : Nat → Int64) (a1 : Int32) (cd : Nat) (r : Int32) (w : StA) (h : f_A_end u a1 = some ((cd, r), w)) (hcd : cd = 0 ∨ cd = 1 ∨ cd = 3) : gy_Ct l D vwCl (tA cI cZ cJ) (wO ad cI cZ cJ oa) yL_end (Cond.codeWith yL_end cL_end 3 (some .int) [(0, 5, 8, 21), (0, 5, 11, 23)] :: gG) ({ frames := 7, cells := 1, slots := 6, locals := 103 } : Room) [.ref (ad 0), .int a1] (u, x) (some (.int (kL_end cd))) (w, x) := by
  refine gy_enter (by decide) (Nat.le_of_ble_eq_true rfl) ?_
  intro p e s m below meth c A hC hE htb hP hD hS ls hl
  obtain ⟨hx, hb, hr, hml, hG, hown, hlocks, hK, hA⟩ := id hC
  have hl : lv_has ls 3 [(0, .ref (ad 0)), (1, .int a1)] := hl
  refine lv_aload_n hx hb dL_end_0 rfl (lv_at hl 0 rfl) ?_
  refine lv_iload_n hx hb dL_end_1 rfl (lv_at hl 1 rfl) ?_
  refine gy_call (w := wA ad cI cZ cJ) (Y := [(oa, .inl (cJ, 1, .inr (.inl x)))]) (As := [.int a1]) (rest := []) (u := u) (u' := w) hx hb hml hown hG (c_A_end l hst D ad cI cZ cJ u a1 cd r w h) lk_L_44 rfl rfl ⟨Nat.le_of_ble_eq_true rfl, Nat.le_of_ble_eq_true rfl⟩ (va_recv hK hP (ci := 0) (q0 := 0) rfl rfl) hK hE hP hD hS hA rfl hl.1 rfl (Nat.le_of_ble_eq_true rfl) dL_end_2 ⟨Nat.le_of_ble_eq_true rfl, Nat.le_of_ble_eq_true rfl⟩ (fun h0 H locs hP hD hS => ?_) (fun h0 H locs q ce hP hD hS hce hcv hcl => ?_)
  · subst h0
    have hP : va_P D vwCl (wO ad cI cZ cJ oa (w, x)) H := hP
    have hD : va_D A (wO ad cI cZ cJ oa (w, x)) := hD
    refine lv_goto (tgt := 14) hx hb dL_end_5 (by decide) ?_
    refine lv_iconst (v := (0 : Int32)) hx hb dL_end_14 (by decide) ?_
    exact gw_iret (cells := 1) (slots := 6) hx hb hr hlocks hP hD hS dL_end_15
  · have hP : va_P D vwCl (wO ad cI cZ cJ oa (w, x)) H := hP
    have hD : va_D A (wO ad cI cZ cJ oa (w, x)) := hD
    rcases hcd with rfl | rfl | rfl
    · exact absurd rfl h0
    · refine gy_catch (cd := 1) (hh := [(0, 5, 8, 21), (0, 5, 11, 23)]) hown hG hE htb [] ⟨0, 5, 8, 21⟩ [⟨0, 5, 11, 23⟩] rfl (fun z hz => nomatch hz) (by decide) (by decide) mw_322 (by decide +kernel) hce hcv hcl ?_
      refine lv_astore_n (lv' := [(2, .ref q), (0, .ref (ad 0)), (1, .int a1)]) hx hb dL_end_8 rfl hl (by decide) rfl (fun ls hl => ?_)
      refine lv_iconst (v := (1 : Int32)) hx hb dL_end_9 (by decide) ?_
      exact gw_iret (cells := 1) (slots := 6) hx hb hr hlocks hP hD hS dL_end_10
    · refine gy_catch (cd := 3) (hh := [(0, 5, 8, 21), (0, 5, 11, 23)]) hown hG hE htb [⟨0, 5, 8, 21⟩] ⟨0, 5, 11, 23⟩ [] rfl (List.forall_mem_cons.mpr ⟨⟨by decide, "java/lang/IllegalArgumentException", mw_322, by decide +kernel⟩, fun _ hz => nomatch hz⟩) (by decide) (by decide) mw_323 (by decide +kernel) hce hcv hcl ?_
      refine lv_astore_n (lv' := [(2, .ref q), (0, .ref (ad 0)), (1, .int a1)]) hx hb dL_end_11 rfl hl (by decide) rfl (fun ls hl => ?_)
      refine lv_iconst (v := (2 : Int32)) hx hb dL_end_12 (by decide) ?_
      exact gw_iret (cells := 1) (slots := 6) hx hb hr hlocks hP hD hS dL_end_13
def kL_askAt : Nat → Int32 := fun cd => match cd with
  | 1 => 1
  | _ => 0
set_option maxHeartbeats 4000000 in
set_option maxRecDepth 100000 in
theorem c_L_askAt (l : Launch) (hst : l.stackTraces = false) (D : va_G) (ad : Nat → Nat) (cI cZ cJ : ClassId) (oa : Nat) (u : StA) (x : Nat → Int64) (a1 : Int32) (a2 : Int32) (cd : Nat) (r : Int32) (w : StA) (h : f_A_askAt u a1 a2 = some ((cd, r), w)) (hcd : cd = 0 ∨ cd = 1) : gy_Ct l D vwCl (tA cI cZ cJ) (wO ad cI cZ cJ oa) yL_askAt (Cond.codeWith yL_askAt cL_askAt 5 (some .int) [(0, 10, 13, 21)] :: gG) ({ frames := 7, cells := 1, slots := 6, locals := 104 } : Room) [.ref (ad 0), .int a1, .int a2, .ref oa] (u, x) (some (.int (kL_askAt cd))) (w, (if cd = 0 then vp_updL x 0 r.toInt64 else x)) := by
  refine gy_enter (by decide) (Nat.le_of_ble_eq_true rfl) ?_
  intro p e s m below meth c A hC hE htb hP hD hS ls hl
  obtain ⟨hx, hb, hr, hml, hG, hown, hlocks, hK, hA⟩ := id hC
  have hl : lv_has ls 5 [(0, .ref (ad 0)), (1, .int a1), (2, .int a2), (3, .ref oa)] := hl
  refine lv_aload_n hx hb dL_askAt_0 rfl (lv_at hl 3 rfl) ?_
  refine lv_iconst (v := (0 : Int32)) hx hb dL_askAt_1 (by decide) ?_
  refine lv_aload_n hx hb dL_askAt_2 rfl (lv_at hl 0 rfl) ?_
  refine lv_iload_n hx hb dL_askAt_3 rfl (lv_at hl 1 rfl) ?_
  refine lv_iload_n hx hb dL_askAt_4 rfl (lv_at hl 2 rfl) ?_
  refine gy_call (w := wA ad cI cZ cJ) (Y := [(oa, .inl (cJ, 1, .inr (.inl x)))]) (As := [.int a1, .int a2]) (rest := [.int (0 : Int32), .ref oa]) (u := u) (u' := w) hx hb hml hown hG (c_A_askAt l hst D ad cI cZ cJ u a1 a2 cd r w h) lk_L_48 rfl rfl ⟨Nat.le_of_ble_eq_true rfl, Nat.le_of_ble_eq_true rfl⟩ (va_recv hK hP (ci := 0) (q0 := 0) rfl rfl) hK hE hP hD hS hA rfl hl.1 rfl (Nat.le_of_ble_eq_true rfl) dL_askAt_5 ⟨Nat.le_of_ble_eq_true rfl, Nat.le_of_ble_eq_true rfl⟩ (fun h0 H locs hP hD hS => ?_) (fun h0 H locs q ce hP hD hS hce hcv hcl => ?_)
  · subst h0
    have hP : va_P D vwCl (wO ad cI cZ cJ oa (w, x)) H := hP
    have hD : va_D A (wO ad cI cZ cJ oa (w, x)) := hD
    refine lv_i2l (v := r.toInt64) hx hb dL_askAt_8 rfl ?_
    refine va_last (f := x) hx hb hK hP hD hS 32 2 rfl rfl gy_in0 dL_askAt_9 (fun H locs hP hD hS => ?_)
    have hP : va_P D vwCl (wO ad cI cZ cJ oa (w, vp_updL x 0 r.toInt64)) H := hP
    have hD : va_D A (wO ad cI cZ cJ oa (w, vp_updL x 0 r.toInt64)) := hD
    refine lv_goto (tgt := 17) hx hb dL_askAt_10 (by decide) ?_
    refine lv_iconst (v := (0 : Int32)) hx hb dL_askAt_17 (by decide) ?_
    exact gw_iret (cells := 1) (slots := 6) hx hb hr hlocks hP hD hS dL_askAt_18
  · have hP : va_P D vwCl (wO ad cI cZ cJ oa (w, x)) H := hP
    have hD : va_D A (wO ad cI cZ cJ oa (w, x)) := hD
    rcases hcd with rfl | rfl
    · exact absurd rfl h0
    · refine gy_catch (cd := 1) (hh := [(0, 10, 13, 21)]) hown hG hE htb [] ⟨0, 10, 13, 21⟩ [] rfl (fun z hz => nomatch hz) (by decide) (by decide) mw_322 (by decide +kernel) hce hcv hcl ?_
      refine lv_astore (lv' := [(4, .ref q), (0, .ref (ad 0)), (1, .int a1), (2, .int a2), (3, .ref oa)]) hx hb dL_askAt_13 hl (by decide) rfl (fun ls hl => ?_)
      refine lv_iconst (v := (1 : Int32)) hx hb dL_askAt_15 (by decide) ?_
      exact gw_iret (cells := 1) (slots := 6) hx hb hr hlocks hP hD hS dL_askAt_16
def kL_loanAt : Nat → Int32 := fun cd => match cd with
  | 1 => 1
  | _ => 0
set_option maxHeartbeats 4000000 in
set_option maxRecDepth 100000 in
theorem c_L_loanAt (l : Launch) (hst : l.stackTraces = false) (D : va_G) (ad : Nat → Nat) (cI cZ cJ : ClassId) (oa : Nat) (u : StA) (x : Nat → Int64) (a1 : Int32) (a2 : Int32) (cd : Nat) (r : Int32) (w : StA) (h : f_A_loanAt u a1 a2 = some ((cd, r), w)) (hcd : cd = 0 ∨ cd = 1) : gy_Ct l D vwCl (tA cI cZ cJ) (wO ad cI cZ cJ oa) yL_loanAt (Cond.codeWith yL_loanAt cL_loanAt 5 (some .int) [(0, 10, 13, 21)] :: gG) ({ frames := 7, cells := 1, slots := 6, locals := 104 } : Room) [.ref (ad 0), .int a1, .int a2, .ref oa] (u, x) (some (.int (kL_loanAt cd))) (w, (if cd = 0 then vp_updL x 0 r.toInt64 else x)) := by
  refine gy_enter (by decide) (Nat.le_of_ble_eq_true rfl) ?_
  intro p e s m below meth c A hC hE htb hP hD hS ls hl
  obtain ⟨hx, hb, hr, hml, hG, hown, hlocks, hK, hA⟩ := id hC
  have hl : lv_has ls 5 [(0, .ref (ad 0)), (1, .int a1), (2, .int a2), (3, .ref oa)] := hl
  refine lv_aload_n hx hb dL_loanAt_0 rfl (lv_at hl 3 rfl) ?_
  refine lv_iconst (v := (0 : Int32)) hx hb dL_loanAt_1 (by decide) ?_
  refine lv_aload_n hx hb dL_loanAt_2 rfl (lv_at hl 0 rfl) ?_
  refine lv_iload_n hx hb dL_loanAt_3 rfl (lv_at hl 1 rfl) ?_
  refine lv_iload_n hx hb dL_loanAt_4 rfl (lv_at hl 2 rfl) ?_
  refine gy_call (w := wA ad cI cZ cJ) (Y := [(oa, .inl (cJ, 1, .inr (.inl x)))]) (As := [.int a1, .int a2]) (rest := [.int (0 : Int32), .ref oa]) (u := u) (u' := w) hx hb hml hown hG (c_A_loanAt l hst D ad cI cZ cJ u a1 a2 cd r w h) lk_L_51 rfl rfl ⟨Nat.le_of_ble_eq_true rfl, Nat.le_of_ble_eq_true rfl⟩ (va_recv hK hP (ci := 0) (q0 := 0) rfl rfl) hK hE hP hD hS hA rfl hl.1 rfl (Nat.le_of_ble_eq_true rfl) dL_loanAt_5 ⟨Nat.le_of_ble_eq_true rfl, Nat.le_of_ble_eq_true rfl⟩ (fun h0 H locs hP hD hS => ?_) (fun h0 H locs q ce hP hD hS hce hcv hcl => ?_)
  · subst h0
    have hP : va_P D vwCl (wO ad cI cZ cJ oa (w, x)) H := hP
    have hD : va_D A (wO ad cI cZ cJ oa (w, x)) := hD
    refine lv_i2l (v := r.toInt64) hx hb dL_loanAt_8 rfl ?_
    refine va_last (f := x) hx hb hK hP hD hS 32 2 rfl rfl gy_in0 dL_loanAt_9 (fun H locs hP hD hS => ?_)
    have hP : va_P D vwCl (wO ad cI cZ cJ oa (w, vp_updL x 0 r.toInt64)) H := hP
    have hD : va_D A (wO ad cI cZ cJ oa (w, vp_updL x 0 r.toInt64)) := hD
    refine lv_goto (tgt := 17) hx hb dL_loanAt_10 (by decide) ?_
    refine lv_iconst (v := (0 : Int32)) hx hb dL_loanAt_17 (by decide) ?_
    exact gw_iret (cells := 1) (slots := 6) hx hb hr hlocks hP hD hS dL_loanAt_18
  · have hP : va_P D vwCl (wO ad cI cZ cJ oa (w, x)) H := hP
    have hD : va_D A (wO ad cI cZ cJ oa (w, x)) := hD
    rcases hcd with rfl | rfl
    · exact absurd rfl h0
    · refine gy_catch (cd := 1) (hh := [(0, 10, 13, 21)]) hown hG hE htb [] ⟨0, 10, 13, 21⟩ [] rfl (fun z hz => nomatch hz) (by decide) (by decide) mw_322 (by decide +kernel) hce hcv hcl ?_
      refine lv_astore (lv' := [(4, .ref q), (0, .ref (ad 0)), (1, .int a1), (2, .int a2), (3, .ref oa)]) hx hb dL_loanAt_13 hl (by decide) rfl (fun ls hl => ?_)
      refine lv_iconst (v := (1 : Int32)) hx hb dL_loanAt_15 (by decide) ?_
      exact gw_iret (cells := 1) (slots := 6) hx hb hr hlocks hP hD hS dL_loanAt_16
def kL_cost : Nat → Int32 := fun cd => match cd with
  | 1 => 1
  | _ => 0
set_option maxHeartbeats 4000000 in
set_option maxRecDepth 100000 in
theorem c_L_cost (l : Launch) (hst : l.stackTraces = false) (D : va_G) (ad : Nat → Nat) (cI cZ cJ : ClassId) (oa : Nat) (N : Nat) (u : StA) (x : Nat → Int64) (a1 : Int32) (cd : Nat) (r : Int32) (w : StA) (h : f_A_cost N u a1 = some ((cd, r), w)) (hcd : cd = 0 ∨ cd = 1) : gy_Ct l D vwCl (tA cI cZ cJ) (wO ad cI cZ cJ oa) yL_cost (Cond.codeWith yL_cost cL_cost 4 (some .int) [(0, 9, 12, 21)] :: gG) ({ frames := 7, cells := 1, slots := 6, locals := 105 } : Room) [.ref (ad 0), .int a1, .ref oa] (u, x) (some (.int (kL_cost cd))) (w, (if cd = 0 then vp_updL x 0 r.toInt64 else x)) := by
  refine gy_enter (by decide) (Nat.le_of_ble_eq_true rfl) ?_
  intro p e s m below meth c A hC hE htb hP hD hS ls hl
  obtain ⟨hx, hb, hr, hml, hG, hown, hlocks, hK, hA⟩ := id hC
  have hl : lv_has ls 4 [(0, .ref (ad 0)), (1, .int a1), (2, .ref oa)] := hl
  refine lv_aload_n hx hb dL_cost_0 rfl (lv_at hl 2 rfl) ?_
  refine lv_iconst (v := (0 : Int32)) hx hb dL_cost_1 (by decide) ?_
  refine lv_aload_n hx hb dL_cost_2 rfl (lv_at hl 0 rfl) ?_
  refine lv_iload_n hx hb dL_cost_3 rfl (lv_at hl 1 rfl) ?_
  refine gy_call (w := wA ad cI cZ cJ) (Y := [(oa, .inl (cJ, 1, .inr (.inl x)))]) (As := [.int a1]) (rest := [.int (0 : Int32), .ref oa]) (u := u) (u' := w) hx hb hml hown hG (c_A_cost l hst D ad cI cZ cJ N u a1 cd r w h) lk_L_54 rfl rfl ⟨Nat.le_of_ble_eq_true rfl, Nat.le_of_ble_eq_true rfl⟩ (va_recv hK hP (ci := 0) (q0 := 0) rfl rfl) hK hE hP hD hS hA rfl hl.1 rfl (Nat.le_of_ble_eq_true rfl) dL_cost_4 ⟨Nat.le_of_ble_eq_true rfl, Nat.le_of_ble_eq_true rfl⟩ (fun h0 H locs hP hD hS => ?_) (fun h0 H locs q ce hP hD hS hce hcv hcl => ?_)
  · subst h0
    have hP : va_P D vwCl (wO ad cI cZ cJ oa (w, x)) H := hP
    have hD : va_D A (wO ad cI cZ cJ oa (w, x)) := hD
    refine lv_i2l (v := r.toInt64) hx hb dL_cost_7 rfl ?_
    refine va_last (f := x) hx hb hK hP hD hS 32 2 rfl rfl gy_in0 dL_cost_8 (fun H locs hP hD hS => ?_)
    have hP : va_P D vwCl (wO ad cI cZ cJ oa (w, vp_updL x 0 r.toInt64)) H := hP
    have hD : va_D A (wO ad cI cZ cJ oa (w, vp_updL x 0 r.toInt64)) := hD
    refine lv_goto (tgt := 15) hx hb dL_cost_9 (by decide) ?_
    refine lv_iconst (v := (0 : Int32)) hx hb dL_cost_15 (by decide) ?_
    exact gw_iret (cells := 1) (slots := 6) hx hb hr hlocks hP hD hS dL_cost_16
  · have hP : va_P D vwCl (wO ad cI cZ cJ oa (w, x)) H := hP
    have hD : va_D A (wO ad cI cZ cJ oa (w, x)) := hD
    rcases hcd with rfl | rfl
    · exact absurd rfl h0
    · refine gy_catch (cd := 1) (hh := [(0, 9, 12, 21)]) hown hG hE htb [] ⟨0, 9, 12, 21⟩ [] rfl (fun z hz => nomatch hz) (by decide) (by decide) mw_322 (by decide +kernel) hce hcv hcl ?_
      refine lv_astore_n (lv' := [(3, .ref q), (0, .ref (ad 0)), (1, .int a1), (2, .ref oa)]) hx hb dL_cost_12 rfl hl (by decide) rfl (fun ls hl => ?_)
      refine lv_iconst (v := (1 : Int32)) hx hb dL_cost_13 (by decide) ?_
      exact gw_iret (cells := 1) (slots := 6) hx hb hr hlocks hP hD hS dL_cost_14
def kL_hand : Nat → Int32 := fun cd => match cd with
  | 1 => 1
  | 3 => 2
  | _ => 0
set_option maxHeartbeats 4000000 in
set_option maxRecDepth 100000 in
theorem c_L_hand (l : Launch) (hst : l.stackTraces = false) (D : va_G) (ad : Nat → Nat) (cI cZ cJ : ClassId) (oa : Nat) (u : StA) (x : Nat → Int64) (a1 : Int32) (a2 : Int32) (cd : Nat) (r : Int32) (w : StA) (h : f_A_hand u a1 a2 = some ((cd, r), w)) (hcd : cd = 0 ∨ cd = 1 ∨ cd = 3) : gy_Ct l D vwCl (tA cI cZ cJ) (wO ad cI cZ cJ oa) yL_hand (Cond.codeWith yL_hand cL_hand 4 (some .int) [(0, 6, 9, 21), (0, 6, 12, 23)] :: gG) ({ frames := 7, cells := 1, slots := 6, locals := 104 } : Room) [.ref (ad 0), .int a1, .int a2] (u, x) (some (.int (kL_hand cd))) (w, x) := by
  refine gy_enter (by decide) (Nat.le_of_ble_eq_true rfl) ?_
  intro p e s m below meth c A hC hE htb hP hD hS ls hl
  obtain ⟨hx, hb, hr, hml, hG, hown, hlocks, hK, hA⟩ := id hC
  have hl : lv_has ls 4 [(0, .ref (ad 0)), (1, .int a1), (2, .int a2)] := hl
  refine lv_aload_n hx hb dL_hand_0 rfl (lv_at hl 0 rfl) ?_
  refine lv_iload_n hx hb dL_hand_1 rfl (lv_at hl 1 rfl) ?_
  refine lv_iload_n hx hb dL_hand_2 rfl (lv_at hl 2 rfl) ?_
  refine gy_call (w := wA ad cI cZ cJ) (Y := [(oa, .inl (cJ, 1, .inr (.inl x)))]) (As := [.int a1, .int a2]) (rest := []) (u := u) (u' := w) hx hb hml hown hG (c_A_hand l hst D ad cI cZ cJ u a1 a2 cd r w h) lk_L_57 rfl rfl ⟨Nat.le_of_ble_eq_true rfl, Nat.le_of_ble_eq_true rfl⟩ (va_recv hK hP (ci := 0) (q0 := 0) rfl rfl) hK hE hP hD hS hA rfl hl.1 rfl (Nat.le_of_ble_eq_true rfl) dL_hand_3 ⟨Nat.le_of_ble_eq_true rfl, Nat.le_of_ble_eq_true rfl⟩ (fun h0 H locs hP hD hS => ?_) (fun h0 H locs q ce hP hD hS hce hcv hcl => ?_)
  · subst h0
    have hP : va_P D vwCl (wO ad cI cZ cJ oa (w, x)) H := hP
    have hD : va_D A (wO ad cI cZ cJ oa (w, x)) := hD
    refine lv_goto (tgt := 15) hx hb dL_hand_6 (by decide) ?_
    refine lv_iconst (v := (0 : Int32)) hx hb dL_hand_15 (by decide) ?_
    exact gw_iret (cells := 1) (slots := 6) hx hb hr hlocks hP hD hS dL_hand_16
  · have hP : va_P D vwCl (wO ad cI cZ cJ oa (w, x)) H := hP
    have hD : va_D A (wO ad cI cZ cJ oa (w, x)) := hD
    rcases hcd with rfl | rfl | rfl
    · exact absurd rfl h0
    · refine gy_catch (cd := 1) (hh := [(0, 6, 9, 21), (0, 6, 12, 23)]) hown hG hE htb [] ⟨0, 6, 9, 21⟩ [⟨0, 6, 12, 23⟩] rfl (fun z hz => nomatch hz) (by decide) (by decide) mw_322 (by decide +kernel) hce hcv hcl ?_
      refine lv_astore_n (lv' := [(3, .ref q), (0, .ref (ad 0)), (1, .int a1), (2, .int a2)]) hx hb dL_hand_9 rfl hl (by decide) rfl (fun ls hl => ?_)
      refine lv_iconst (v := (1 : Int32)) hx hb dL_hand_10 (by decide) ?_
      exact gw_iret (cells := 1) (slots := 6) hx hb hr hlocks hP hD hS dL_hand_11
    · refine gy_catch (cd := 3) (hh := [(0, 6, 9, 21), (0, 6, 12, 23)]) hown hG hE htb [⟨0, 6, 9, 21⟩] ⟨0, 6, 12, 23⟩ [] rfl (List.forall_mem_cons.mpr ⟨⟨by decide, "java/lang/IllegalArgumentException", mw_322, by decide +kernel⟩, fun _ hz => nomatch hz⟩) (by decide) (by decide) mw_323 (by decide +kernel) hce hcv hcl ?_
      refine lv_astore_n (lv' := [(3, .ref q), (0, .ref (ad 0)), (1, .int a1), (2, .int a2)]) hx hb dL_hand_12 rfl hl (by decide) rfl (fun ls hl => ?_)
      refine lv_iconst (v := (2 : Int32)) hx hb dL_hand_13 (by decide) ?_
      exact gw_iret (cells := 1) (slots := 6) hx hb hr hlocks hP hD hS dL_hand_14
def kL_handed : Nat → Int32 := fun cd => match cd with
  | 1 => 1
  | _ => 0
set_option maxHeartbeats 4000000 in
set_option maxRecDepth 100000 in
theorem c_L_handed (l : Launch) (hst : l.stackTraces = false) (D : va_G) (ad : Nat → Nat) (cI cZ cJ : ClassId) (oa : Nat) (u : StA) (x : Nat → Int64) (a1 : Int32) (cd : Nat) (r : Int32) (w : StA) (h : f_A_handed u a1 = some ((cd, r), w)) (hcd : cd = 0 ∨ cd = 1) : gy_Ct l D vwCl (tA cI cZ cJ) (wO ad cI cZ cJ oa) yL_handed (Cond.codeWith yL_handed cL_handed 4 (some .int) [(0, 9, 12, 21)] :: gG) ({ frames := 7, cells := 1, slots := 6, locals := 103 } : Room) [.ref (ad 0), .int a1, .ref oa] (u, x) (some (.int (kL_handed cd))) (w, (if cd = 0 then vp_updL x 0 r.toInt64 else x)) := by
  refine gy_enter (by decide) (Nat.le_of_ble_eq_true rfl) ?_
  intro p e s m below meth c A hC hE htb hP hD hS ls hl
  obtain ⟨hx, hb, hr, hml, hG, hown, hlocks, hK, hA⟩ := id hC
  have hl : lv_has ls 4 [(0, .ref (ad 0)), (1, .int a1), (2, .ref oa)] := hl
  refine lv_aload_n hx hb dL_handed_0 rfl (lv_at hl 2 rfl) ?_
  refine lv_iconst (v := (0 : Int32)) hx hb dL_handed_1 (by decide) ?_
  refine lv_aload_n hx hb dL_handed_2 rfl (lv_at hl 0 rfl) ?_
  refine lv_iload_n hx hb dL_handed_3 rfl (lv_at hl 1 rfl) ?_
  refine gy_call (w := wA ad cI cZ cJ) (Y := [(oa, .inl (cJ, 1, .inr (.inl x)))]) (As := [.int a1]) (rest := [.int (0 : Int32), .ref oa]) (u := u) (u' := w) hx hb hml hown hG (c_A_handed l hst D ad cI cZ cJ u a1 cd r w h) lk_L_61 rfl rfl ⟨Nat.le_of_ble_eq_true rfl, Nat.le_of_ble_eq_true rfl⟩ (va_recv hK hP (ci := 0) (q0 := 0) rfl rfl) hK hE hP hD hS hA rfl hl.1 rfl (Nat.le_of_ble_eq_true rfl) dL_handed_4 ⟨Nat.le_of_ble_eq_true rfl, Nat.le_of_ble_eq_true rfl⟩ (fun h0 H locs hP hD hS => ?_) (fun h0 H locs q ce hP hD hS hce hcv hcl => ?_)
  · subst h0
    have hP : va_P D vwCl (wO ad cI cZ cJ oa (w, x)) H := hP
    have hD : va_D A (wO ad cI cZ cJ oa (w, x)) := hD
    refine lv_i2l (v := r.toInt64) hx hb dL_handed_7 rfl ?_
    refine va_last (f := x) hx hb hK hP hD hS 32 2 rfl rfl gy_in0 dL_handed_8 (fun H locs hP hD hS => ?_)
    have hP : va_P D vwCl (wO ad cI cZ cJ oa (w, vp_updL x 0 r.toInt64)) H := hP
    have hD : va_D A (wO ad cI cZ cJ oa (w, vp_updL x 0 r.toInt64)) := hD
    refine lv_goto (tgt := 15) hx hb dL_handed_9 (by decide) ?_
    refine lv_iconst (v := (0 : Int32)) hx hb dL_handed_15 (by decide) ?_
    exact gw_iret (cells := 1) (slots := 6) hx hb hr hlocks hP hD hS dL_handed_16
  · have hP : va_P D vwCl (wO ad cI cZ cJ oa (w, x)) H := hP
    have hD : va_D A (wO ad cI cZ cJ oa (w, x)) := hD
    rcases hcd with rfl | rfl
    · exact absurd rfl h0
    · refine gy_catch (cd := 1) (hh := [(0, 9, 12, 21)]) hown hG hE htb [] ⟨0, 9, 12, 21⟩ [] rfl (fun z hz => nomatch hz) (by decide) (by decide) mw_322 (by decide +kernel) hce hcv hcl ?_
      refine lv_astore_n (lv' := [(3, .ref q), (0, .ref (ad 0)), (1, .int a1), (2, .ref oa)]) hx hb dL_handed_12 rfl hl (by decide) rfl (fun ls hl => ?_)
      refine lv_iconst (v := (1 : Int32)) hx hb dL_handed_13 (by decide) ?_
      exact gw_iret (cells := 1) (slots := 6) hx hb hr hlocks hP hD hS dL_handed_14
def kL_count : Nat → Int32 := fun cd => match cd with
  | 1 => 1
  | _ => 0
set_option maxHeartbeats 4000000 in
set_option maxRecDepth 100000 in
theorem c_L_count (l : Launch) (hst : l.stackTraces = false) (D : va_G) (ad : Nat → Nat) (cI cZ cJ : ClassId) (oa : Nat) (N : Nat) (u : StA) (x : Nat → Int64) (a1 : Int32) (cd : Nat) (r : Int32) (w : StA) (h : f_A_count N u a1 = some ((cd, r), w)) (hcd : cd = 0 ∨ cd = 1) : gy_Ct l D vwCl (tA cI cZ cJ) (wO ad cI cZ cJ oa) yL_count (Cond.codeWith yL_count cL_count 4 (some .int) [(0, 9, 12, 21)] :: gG) ({ frames := 7, cells := 1, slots := 6, locals := 103 } : Room) [.ref (ad 0), .int a1, .ref oa] (u, x) (some (.int (kL_count cd))) (w, (if cd = 0 then vp_updL x 0 r.toInt64 else x)) := by
  refine gy_enter (by decide) (Nat.le_of_ble_eq_true rfl) ?_
  intro p e s m below meth c A hC hE htb hP hD hS ls hl
  obtain ⟨hx, hb, hr, hml, hG, hown, hlocks, hK, hA⟩ := id hC
  have hl : lv_has ls 4 [(0, .ref (ad 0)), (1, .int a1), (2, .ref oa)] := hl
  refine lv_aload_n hx hb dL_count_0 rfl (lv_at hl 2 rfl) ?_
  refine lv_iconst (v := (0 : Int32)) hx hb dL_count_1 (by decide) ?_
  refine lv_aload_n hx hb dL_count_2 rfl (lv_at hl 0 rfl) ?_
  refine lv_iload_n hx hb dL_count_3 rfl (lv_at hl 1 rfl) ?_
  refine gy_call (w := wA ad cI cZ cJ) (Y := [(oa, .inl (cJ, 1, .inr (.inl x)))]) (As := [.int a1]) (rest := [.int (0 : Int32), .ref oa]) (u := u) (u' := w) hx hb hml hown hG (c_A_count l hst D ad cI cZ cJ N u a1 cd r w h) lk_L_64 rfl rfl ⟨Nat.le_of_ble_eq_true rfl, Nat.le_of_ble_eq_true rfl⟩ (va_recv hK hP (ci := 0) (q0 := 0) rfl rfl) hK hE hP hD hS hA rfl hl.1 rfl (Nat.le_of_ble_eq_true rfl) dL_count_4 ⟨Nat.le_of_ble_eq_true rfl, Nat.le_of_ble_eq_true rfl⟩ (fun h0 H locs hP hD hS => ?_) (fun h0 H locs q ce hP hD hS hce hcv hcl => ?_)
  · subst h0
    have hP : va_P D vwCl (wO ad cI cZ cJ oa (w, x)) H := hP
    have hD : va_D A (wO ad cI cZ cJ oa (w, x)) := hD
    refine lv_i2l (v := r.toInt64) hx hb dL_count_7 rfl ?_
    refine va_last (f := x) hx hb hK hP hD hS 32 2 rfl rfl gy_in0 dL_count_8 (fun H locs hP hD hS => ?_)
    have hP : va_P D vwCl (wO ad cI cZ cJ oa (w, vp_updL x 0 r.toInt64)) H := hP
    have hD : va_D A (wO ad cI cZ cJ oa (w, vp_updL x 0 r.toInt64)) := hD
    refine lv_goto (tgt := 15) hx hb dL_count_9 (by decide) ?_
    refine lv_iconst (v := (0 : Int32)) hx hb dL_count_15 (by decide) ?_
    exact gw_iret (cells := 1) (slots := 6) hx hb hr hlocks hP hD hS dL_count_16
  · have hP : va_P D vwCl (wO ad cI cZ cJ oa (w, x)) H := hP
    have hD : va_D A (wO ad cI cZ cJ oa (w, x)) := hD
    rcases hcd with rfl | rfl
    · exact absurd rfl h0
    · refine gy_catch (cd := 1) (hh := [(0, 9, 12, 21)]) hown hG hE htb [] ⟨0, 9, 12, 21⟩ [] rfl (fun z hz => nomatch hz) (by decide) (by decide) mw_322 (by decide +kernel) hce hcv hcl ?_
      refine lv_astore_n (lv' := [(3, .ref q), (0, .ref (ad 0)), (1, .int a1), (2, .ref oa)]) hx hb dL_count_12 rfl hl (by decide) rfl (fun ls hl => ?_)
      refine lv_iconst (v := (1 : Int32)) hx hb dL_count_13 (by decide) ?_
      exact gw_iret (cells := 1) (slots := 6) hx hb hr hlocks hP hD hS dL_count_14
