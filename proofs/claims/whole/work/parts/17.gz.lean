abbrev gl_A (s : State) : Nat → Prop := fun q => s.heap.size ≤ q
def gl_C (p : Program) (l : Launch) (s : State) (m : MethodId) (meth : Method) (c : Code) (b L : Nat) (xs : Nat → Int32) (D : va_G) (cI cZ cJ : ClassId) : Prop :=
  p.tables.exec = Jvm.exec ∧ c.code = code ∧ meth.sig.returnType = ret ∧ c.maxLocals = 7 ∧ (∀ w ∈ gG, w.before #[Value.ref b] s = true) ∧ s.vm.findClass "AidRowsLaw" = some m.cls ∧ meth.locks = false ∧ va_K D vwCl (tA cI cZ cJ) s ∧ va_X b L xs s s.heap ∧ b < s.heap.size ∧ l.stackTraces = false ∧ gx_E (gl_A s) s s.heap
def gz_LW (own : String) (index : Nat) (y : MethodName) (bytes : ByteArray) (maxL : Nat) (ret : Option FieldType) (hh : List (Nat × Nat × Nat × Nat)) (n : Nat) : Prop :=
  Cond.methodLink own index y ∈ gG ∧ Cond.static y ∈ gG ∧ Cond.initialized y.cls ∈ gG ∧ Cond.codeWith y bytes maxL ret hh ∈ gG ∧
  (y.cls ≠ "java/lang/invoke/MethodHandle" ∧ y.cls ≠ "java/lang/invoke/VarHandle" ∧ (parseMethodDescriptor y.desc).map (fun d => d.parameters.length) = some n)
section GZC
variable {p : Program} {l : Launch} {e : Env} {R : Room} {s : State} {m : MethodId} {args : Array Value} {below : List Frame} {meth : Method} {c : Code} {H : Heap} {locs : List Loc} {cells slots : Nat} {Q : State → Prop}
variable {S : Type} {D : va_G} {cl : List vw_C} {tys : List (ClassId × FieldType)} {w : S → va_W} {A : Nat → Prop} {H0 : Heap} {pc : Nat} {ls : Array Slot} {rest st0 : List Value} {u u' : S} {o : Option Value} {Y : va_W}
/-- a wrapper called from the law's world -/
theorem gz_callW {cc : ByteArray} {own : String} {index maxL n nL : Nat} {y : MethodName} {bytes : ByteArray} {ret : Option FieldType} {hh : List (Nat × Nat × Nat × Nat)} {rm : Room} {As : List Value}
    (hx : p.tables.exec = Jvm.exec) (hb : c.code = cc) (hml : c.maxLocals = nL) (hown : s.vm.findClass own = some m.cls) (hG : ∀ w ∈ gG, w.before args s = true)
    (hM : gy_Ct l D cl tys w y (Cond.codeWith y bytes maxL ret hh :: gG) rm As u o u') (lk : gz_LW own index y bytes maxL ret hh n)
    (hrc : rm.cells = 1) (hrs : rm.slots = 6) (hR : rm.frames + 1 ≤ R.frames ∧ 8 + (maxL + 11) + rm.locals ≤ R.locals)
    (hK : va_K D cl tys s) (hE : gx_E A s H0) (hP : va_P D cl (w u ++ Y) H) (hD : va_D A (w u ++ Y)) (hS : va_S A H0 H locs) (hA : ∀ q, H0.size ≤ q → A q)
    (hn : As.length = n) (hsize : ls.size = nL) (hst : st0 = As.reverse ++ rest) (hroom : (rest.map fun v => v.category).sum ≤ 8) (hdg : decode cc pc = .ok (.invokestatic index, 3)) (hf : cells + 1 ≤ R.cells ∧ slots + 6 ≤ R.slots)
    (kk : ∀ (H1 : Heap) (locs1 : List Loc), va_P D cl (w u' ++ Y) H1 → va_D A (w u' ++ Y) → va_S A H0 H1 locs1 → W p l e R s m args below meth c H1 locs1 (cells + 1) (slots + 6) Q (F0 m (pc + 3) ls (o.toList ++ rest))) :
    W p l e R s m args below meth c H locs cells slots Q (F0 m pc ls st0) := by
  obtain ⟨m1, m2, m4, m5, hd⟩ := lk
  have hF : ∀ q, va_A (w u) H.size q → A q := gy_free (fun k q h => hD.2 k q (gy_inL h)) hS hA
  exact gy_afterL (a := As.toArray) (vx_runSW (As := As) (rest := rest) (hh := hh) ⟨hx, hb, hml, hown, hG⟩ (hM H.size) (vx_cwSW n hG (gG_in (List.forall_mem_cons.mpr ⟨m1, List.forall_mem_cons.mpr ⟨m2, List.forall_mem_cons.mpr ⟨m4, gG_c m5⟩⟩⟩)) rfl hrc hrs hd hR) ⟨gx_blind, gx_pre hK (gy_P hP) (gy_D hD) (gy_E hE hS hF)⟩ rfl hn hsize hst (lv_room hroom) hdg hf) hP hD hS hA kk
/-- a method called whose world is the last part -/
theorem gz_callR {cc : ByteArray} {own C : String} {index maxL n nL : Nat} {y : MethodName} {bytes : ByteArray} {ret : Option FieldType} {rm : Room} {As : List Value} {b : Addr}
    (hx : p.tables.exec = Jvm.exec) (hb : c.code = cc) (hml : c.maxLocals = nL) (hown : s.vm.findClass own = some m.cls) (hG : ∀ w ∈ gG, w.before args s = true)
    (hM : gw_Ct l D cl tys w y (Cond.code y bytes maxL ret :: gG) rm (.ref b :: As) u o u') (lk : gw_LV own C index y bytes maxL ret n)
    (hrc : rm.cells = 0) (hrs : rm.slots = 0) (hR : rm.frames + 1 ≤ R.frames ∧ 8 + (maxL + 11) + rm.locals ≤ R.locals)
    (hrecv : ∃ cellB : Cell, H[b]? = some cellB ∧ cellB.vm.isStatics = false ∧ s.vm.findClass C = some cellB.cls)
    (hK : va_K D cl tys s) (hP : va_P D cl (Y ++ w u) H) (hD : va_D A (Y ++ w u)) (hS : va_S A H0 H locs) (hA : ∀ q, H0.size ≤ q → A q)
    (hn : As.length = n) (hsize : ls.size = nL) (hst : st0 = As.reverse ++ .ref b :: rest) (hroom : (rest.map fun v => v.category).sum ≤ 8) (hdg : decode cc pc = .ok (.invokevirtual index, 3)) (hf : cells ≤ R.cells ∧ slots ≤ R.slots)
    (kk : ∀ (H1 : Heap) (locs1 : List Loc), va_P D cl (Y ++ w u') H1 → va_D A (Y ++ w u') → va_S A H0 H1 locs1 → W p l e R s m args below meth c H1 locs1 cells slots Q (F0 m (pc + 3) ls (o.toList ++ rest))) :
    W p l e R s m args below meth c H locs cells slots Q (F0 m pc ls st0) := by
  obtain ⟨m1, m2, m3, m4, m5, hd⟩ := lk
  exact gy_afterR (mc := 0) (ms := 0) (a := (Value.ref b :: As).toArray) (va_runV (As := As) (rest := rest) ⟨hx, hb, hml, hown, hG⟩ (hM H.size) ⟨callB_of n hG (gG_in (gG_c m5)) rfl hrc hrs (hG _ m4) (hG _ m1) hd hR, hG _ m2, hG _ m3⟩ ⟨gw_blind, hrecv, gw_pre hK (gy_PR hP) (gy_DR hD)⟩ rfl hn hsize hst (lv_room hroom) hdg hf) hP hD hS hA kk
theorem gz_callL {cc : ByteArray} {own C : String} {index maxL n nL : Nat} {y : MethodName} {bytes : ByteArray} {ret : Option FieldType} {rm : Room} {As : List Value} {b : Addr}
    (hx : p.tables.exec = Jvm.exec) (hb : c.code = cc) (hml : c.maxLocals = nL) (hown : s.vm.findClass own = some m.cls) (hG : ∀ w ∈ gG, w.before args s = true)
    (hM : gw_Ct l D cl tys w y (Cond.code y bytes maxL ret :: gG) rm (.ref b :: As) u o u') (lk : gw_LV own C index y bytes maxL ret n)
    (hrc : rm.cells = 0) (hrs : rm.slots = 0) (hR : rm.frames + 1 ≤ R.frames ∧ 8 + (maxL + 11) + rm.locals ≤ R.locals)
    (hrecv : ∃ cellB : Cell, H[b]? = some cellB ∧ cellB.vm.isStatics = false ∧ s.vm.findClass C = some cellB.cls)
    (hK : va_K D cl tys s) (hP : va_P D cl (w u ++ Y) H) (hD : va_D A (w u ++ Y)) (hS : va_S A H0 H locs) (hA : ∀ q, H0.size ≤ q → A q)
    (hn : As.length = n) (hsize : ls.size = nL) (hst : st0 = As.reverse ++ .ref b :: rest) (hroom : (rest.map fun v => v.category).sum ≤ 8) (hdg : decode cc pc = .ok (.invokevirtual index, 3)) (hf : cells ≤ R.cells ∧ slots ≤ R.slots)
    (kk : ∀ (H1 : Heap) (locs1 : List Loc), va_P D cl (w u' ++ Y) H1 → va_D A (w u' ++ Y) → va_S A H0 H1 locs1 → W p l e R s m args below meth c H1 locs1 cells slots Q (F0 m (pc + 3) ls (o.toList ++ rest))) :
    W p l e R s m args below meth c H locs cells slots Q (F0 m pc ls st0) := by
  obtain ⟨m1, m2, m3, m4, m5, hd⟩ := lk
  exact gy_afterL (mc := 0) (ms := 0) (a := (Value.ref b :: As).toArray) (va_runV (As := As) (rest := rest) ⟨hx, hb, hml, hown, hG⟩ (hM H.size) ⟨callB_of n hG (gG_in (gG_c m5)) rfl hrc hrs (hG _ m4) (hG _ m1) hd hR, hG _ m2, hG _ m3⟩ ⟨gw_blind, hrecv, gw_pre hK (gy_P hP) (gy_D hD)⟩ rfl hn hsize hst (lv_room hroom) hdg hf) hP hD hS hA kk
end GZC
theorem gz_cmp (x : Int64) : lg_cmp x x = 0 := by
  unfold lg_cmp
  simp
section GZB
variable {p : Program} {l : Launch} {e : Env} {R : Room} {s : State} {m : MethodId} {args : Array Value} {below : List Frame} {meth : Method} {c : Code} {H : Heap} {locs : List Loc} {cells slots : Nat} {Q : State → Prop}
theorem gz_bool {cc : ByteArray} {pc : Nat} {ls : Array Slot} {rest : List Value} {x : Int32} (hx : p.tables.exec = Jvm.exec) (hb : c.code = cc) (d1 : decode cc pc = .ok (.ifCond .eq 7, 3)) (d2 : decode cc (pc + 3) = .ok (.iconst 1, 1)) (d3 : decode cc (pc + 4) = .ok (.goto 4, 3)) (d4 : decode cc (pc + 7) = .ok (.iconst 0, 1))
    (kk : W p l e R s m args below meth c H locs cells slots Q (F0 m (pc + 8) ls (.int (if x = (0 : Int32) then (0 : Int32) else (1 : Int32)) :: rest))) : W p l e R s m args below meth c H locs cells slots Q (F0 m pc ls (.int x :: rest)) := by
  refine lv_if_eq (tgt := pc + 7) hx hb d1 (by omega) (fun hc => ?_) (fun hc => ?_)
  · rw [if_pos hc] at kk
    exact lv_iconst (v := (0 : Int32)) hx hb d4 (by decide) kk
  · rw [if_neg hc] at kk
    refine lv_iconst (v := (1 : Int32)) hx hb d2 (by decide) ?_
    exact lv_goto (tgt := pc + 8) hx hb d3 (by omega) kk
end GZB
theorem lz_L_71 : gz_LW "AidRowsLaw" 71 yL_house cL_house 5 (some .int) [(0, 10, 13, 13), (0, 10, 17, 15)] 4 := ⟨mw_214, mw_215, mw_0, mw_216, ⟨by decide +kernel, by decide +kernel, by decide +kernel⟩⟩
theorem lz_L_76 : gw_LV "AidRowsLaw" "AidRowsModel" 76 yB_house cB_house 3 (some .int) 2 := ⟨mw_758, mw_759, mw_760, mw_8, mw_761, ⟨by decide +kernel, by decide +kernel, by decide +kernel⟩⟩
theorem lz_L_77 : gw_LV "AidRowsLaw" "AidRowsModel" 77 yB_thrown cB_thrown 1 (some .int) 0 := ⟨mw_754, mw_755, mw_756, mw_8, mw_757, ⟨by decide +kernel, by decide +kernel, by decide +kernel⟩⟩
theorem lz_L_81 : gz_LW "AidRowsLaw" 81 yL_agree cL_agree 9 (some .int) [(0, 18, 21, 21), (0, 18, 25, 13), (0, 18, 29, 23), (0, 18, 33, 15)] 8 := ⟨mw_319, mw_320, mw_0, mw_321, ⟨by decide +kernel, by decide +kernel, by decide +kernel⟩⟩
theorem lz_L_84 : gw_LV "AidRowsLaw" "AidRowsModel" 84 yB_agree cB_agree 11 (some .int) 6 := ⟨mw_769, mw_770, mw_771, mw_8, mw_772, ⟨by decide +kernel, by decide +kernel, by decide +kernel⟩⟩
theorem lz_L_85 : gz_LW "AidRowsLaw" 85 yL_ask cL_ask 6 (some .int) [(0, 12, 15, 21), (0, 12, 19, 13), (0, 12, 23, 15)] 5 := ⟨mw_385, mw_386, mw_0, mw_387, ⟨by decide +kernel, by decide +kernel, by decide +kernel⟩⟩
theorem lz_L_88 : gw_LV "AidRowsLaw" "AidRowsModel" 88 yB_ask cB_ask 4 (some .int) 3 := ⟨mw_778, mw_779, mw_780, mw_8, mw_781, ⟨by decide +kernel, by decide +kernel, by decide +kernel⟩⟩
theorem lz_L_89 : gz_LW "AidRowsLaw" 89 yL_message cL_message 8 (some .int) [(0, 16, 19, 21), (0, 16, 23, 13), (0, 16, 27, 15)] 7 := ⟨mw_431, mw_432, mw_0, mw_433, ⟨by decide +kernel, by decide +kernel, by decide +kernel⟩⟩
theorem lz_L_92 : gw_LV "AidRowsLaw" "AidRowsModel" 92 yB_message cB_message 11 (some .int) 5 := ⟨mw_794, mw_795, mw_796, mw_8, mw_797, ⟨by decide +kernel, by decide +kernel, by decide +kernel⟩⟩
theorem lz_L_93 : gz_LW "AidRowsLaw" 93 yL_seen cL_seen 5 (some .int) [(0, 10, 13, 21), (0, 10, 17, 13)] 4 := ⟨mw_510, mw_511, mw_0, mw_512, ⟨by decide +kernel, by decide +kernel, by decide +kernel⟩⟩
theorem lz_L_95 : gw_LV "AidRowsLaw" "AidRowsModel" 95 yB_seen cB_seen 3 (some .int) 2 := ⟨mw_814, mw_815, mw_816, mw_8, mw_817, ⟨by decide +kernel, by decide +kernel, by decide +kernel⟩⟩
theorem lz_L_96 : gz_LW "AidRowsLaw" 96 yL_tick cL_tick 4 (some .int) [(0, 9, 12, 13)] 3 := ⟨mw_519, mw_520, mw_0, mw_521, ⟨by decide +kernel, by decide +kernel, by decide +kernel⟩⟩
theorem lz_L_99 : gw_LV "AidRowsLaw" "AidRowsModel" 99 yB_tick cB_tick 5 (some .int) 1 := ⟨mw_818, mw_819, mw_820, mw_8, mw_821, ⟨by decide +kernel, by decide +kernel, by decide +kernel⟩⟩
theorem lz_L_100 : gz_LW "AidRowsLaw" 100 yL_cut cL_cut 4 (some .int) [(0, 6, 9, 21), (0, 6, 12, 23)] 3 := ⟨mw_545, mw_546, mw_0, mw_547, ⟨by decide +kernel, by decide +kernel, by decide +kernel⟩⟩
theorem lz_L_103 : gw_LV "AidRowsLaw" "AidRowsModel" 103 yB_cut cB_cut 3 (none) 2 := ⟨mw_822, mw_823, mw_824, mw_8, mw_825, ⟨by decide +kernel, by decide +kernel, by decide +kernel⟩⟩
theorem lz_L_104 : gz_LW "AidRowsLaw" 104 yL_end cL_end 3 (some .int) [(0, 5, 8, 21), (0, 5, 11, 23)] 2 := ⟨mw_553, mw_554, mw_0, mw_555, ⟨by decide +kernel, by decide +kernel, by decide +kernel⟩⟩
theorem lz_L_107 : gw_LV "AidRowsLaw" "AidRowsModel" 107 yB_end cB_end 2 (none) 1 := ⟨mw_826, mw_827, mw_828, mw_8, mw_829, ⟨by decide +kernel, by decide +kernel, by decide +kernel⟩⟩
theorem lz_L_108 : gz_LW "AidRowsLaw" 108 yL_askAt cL_askAt 5 (some .int) [(0, 10, 13, 21)] 4 := ⟨mw_566, mw_567, mw_0, mw_568, ⟨by decide +kernel, by decide +kernel, by decide +kernel⟩⟩
theorem lz_L_110 : gw_LV "AidRowsLaw" "AidRowsModel" 110 yB_askAt cB_askAt 3 (some .int) 2 := ⟨mw_834, mw_835, mw_836, mw_8, mw_837, ⟨by decide +kernel, by decide +kernel, by decide +kernel⟩⟩
theorem lz_L_111 : gz_LW "AidRowsLaw" 111 yL_loanAt cL_loanAt 5 (some .int) [(0, 10, 13, 21)] 4 := ⟨mw_584, mw_585, mw_0, mw_586, ⟨by decide +kernel, by decide +kernel, by decide +kernel⟩⟩
theorem lz_L_113 : gw_LV "AidRowsLaw" "AidRowsModel" 113 yB_loanAt cB_loanAt 3 (some .int) 2 := ⟨mw_838, mw_839, mw_840, mw_8, mw_841, ⟨by decide +kernel, by decide +kernel, by decide +kernel⟩⟩
theorem lz_L_114 : gz_LW "AidRowsLaw" 114 yL_cost cL_cost 4 (some .int) [(0, 9, 12, 21)] 3 := ⟨mw_596, mw_597, mw_0, mw_598, ⟨by decide +kernel, by decide +kernel, by decide +kernel⟩⟩
theorem lz_L_116 : gw_LV "AidRowsLaw" "AidRowsModel" 116 yB_cost cB_cost 4 (some .int) 1 := ⟨mw_846, mw_847, mw_848, mw_8, mw_849, ⟨by decide +kernel, by decide +kernel, by decide +kernel⟩⟩
theorem lz_L_117 : gw_LV "AidRowsLaw" "AidRows" 117 yA_named cA_named 2 (some .int) 1 := ⟨mw_202, mw_203, mw_204, mw_1, mw_205, ⟨by decide +kernel, by decide +kernel, by decide +kernel⟩⟩
theorem lz_L_120 : gw_LV "AidRowsLaw" "AidRowsModel" 120 yB_named cB_named 3 (some .int) 1 := ⟨mw_850, mw_851, mw_852, mw_8, mw_853, ⟨by decide +kernel, by decide +kernel, by decide +kernel⟩⟩
theorem lz_L_121 : gz_LW "AidRowsLaw" 121 yL_hand cL_hand 4 (some .int) [(0, 6, 9, 21), (0, 6, 12, 23)] 3 := ⟨mw_603, mw_604, mw_0, mw_605, ⟨by decide +kernel, by decide +kernel, by decide +kernel⟩⟩
theorem lz_L_124 : gw_LV "AidRowsLaw" "AidRowsModel" 124 yB_hand cB_hand 4 (none) 2 := ⟨mw_854, mw_855, mw_856, mw_8, mw_857, ⟨by decide +kernel, by decide +kernel, by decide +kernel⟩⟩
theorem lz_L_125 : gz_LW "AidRowsLaw" 125 yL_handed cL_handed 4 (some .int) [(0, 9, 12, 21)] 3 := ⟨mw_615, mw_616, mw_0, mw_617, ⟨by decide +kernel, by decide +kernel, by decide +kernel⟩⟩
theorem lz_L_127 : gw_LV "AidRowsLaw" "AidRowsModel" 127 yB_handed cB_handed 2 (some .int) 1 := ⟨mw_858, mw_859, mw_860, mw_8, mw_861, ⟨by decide +kernel, by decide +kernel, by decide +kernel⟩⟩
theorem lz_L_128 : gz_LW "AidRowsLaw" 128 yL_count cL_count 4 (some .int) [(0, 9, 12, 21)] 3 := ⟨mw_623, mw_624, mw_0, mw_625, ⟨by decide +kernel, by decide +kernel, by decide +kernel⟩⟩
theorem lz_L_130 : gw_LV "AidRowsLaw" "AidRowsModel" 130 yB_count cB_count 4 (some .int) 1 := ⟨mw_862, mw_863, mw_864, mw_8, mw_865, ⟨by decide +kernel, by decide +kernel, by decide +kernel⟩⟩
