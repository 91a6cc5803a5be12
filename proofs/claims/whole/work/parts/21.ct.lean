theorem gz_nI (n : Nat) (cA : ClassId) : vp_cell cA (n, .inl (fun _ => 0)) = arrV cA n (fun _ => defaultValue .int) := rfl
theorem gz_nZ (n : Nat) (cA : ClassId) : vp_cell cA (n, .inl (fun _ => 0)) = arrV cA n (fun _ => defaultValue .boolean) := rfl
theorem gz_nJ (n : Nat) (cA : ClassId) : vp_cell cA (n, .inr (.inl (fun _ => 0))) = arrV cA n (fun _ => defaultValue .long) := rfl
theorem gz_uniq {D : va_G} {cl : List vw_C} {tys : List (ClassId × FieldType)} {cA cI : ClassId} {ty : FieldType} {U : State} {k : Nat} (h : va_K D cl (tys ++ [(cA, ty)]) U) (hk : tys[k]? = some (cI, ty)) (hp : ∀ C, ty ≠ .object C) : cA = cI := by
  have h1 := (h.2 tys.length (cA, ty) (by simp)).2
  have h2 := (h.2 k (cI, ty) (by rw [List.getElem?_append_left (List.getElem?_eq_some_iff.mp hk).1]; exact hk)).2
  cases ty with
  | object C => exact absurd rfl (hp C)
  | _ => exact Option.some.inj (h1.symm.trans h2)
def gz_N (U : State) : Prop := ∀ q ∈ ([(9, yHo_init), (18, yAg_init), (25, yAs_init), (32, yLo_init), (39, yNu_init)] : List (Nat × MethodName)), va_Nw (.methodLinkNest "AidRows" q.1 q.2 "AidRows") U
theorem gz_N.same {u U : State} (h : u.vm = U.vm) (hN : gz_N u) : gz_N U := fun q hq => va_Nw.same rfl h (hN q hq)
theorem gz_N.warm {s U : State} (hW : s.WarmedH U.vm) (hN : gz_N s) : gz_N U := fun q hq => va_Nw.warmM hW (hN q hq)
def gz_Pc (D : va_G) (tys : List (ClassId × FieldType)) (ws : va_W) (sz : Nat) (av : List Value) : Array Value → State → Prop := va_Pc av (fun U => U.heap.size = sz ∧ va_P D vwCl ws U.heap ∧ va_K D vwCl tys U ∧ va_D (fun _ => True) ws ∧ gz_N U)
theorem gz_blind {D : va_G} {tys : List (ClassId × FieldType)} {ws : va_W} {sz : Nat} {av : List Value} : FrameBlind (gz_Pc D tys ws sz av) := fun a U g mk q => by
  obtain ⟨q0, q1, qP, qK, qD, qN⟩ := q
  exact ⟨q0, q1, qP, va_K.moved (u := U) (U := U.calling g mk a) (Vm.Alike.refl U.vm) qK, qD, gz_N.same (u := U) (U := U.calling g mk a) rfl qN⟩
theorem gz_pre {D : va_G} {tys : List (ClassId × FieldType)} {ws : va_W} {av : List Value} {s : State} {H : Heap} {A : Nat → Prop} (hK : va_K D vwCl tys s) (hP : va_P D vwCl ws H) (hD : va_D A ws) (hN : gz_N s) : ∀ U : State, U.heap = H → s.WarmedH U.vm → gz_Pc D tys ws H.size av av.toArray U := fun U hU hW => ⟨rfl, by rw [hU], by rw [hU]; exact hP, va_K.moved hW.alike hK, hD.weaken (fun _ _ _ _ => trivial), hN.warm hW⟩
def wI_Ho (cI cZ cJ : ClassId) (h0 : Nat) (a : Nat → Nat) : va_W := [(h0, .inr (1, [.ref (a 0), .ref (a 1), .ref (a 2), .int 0])), (a 0, .inl (cI, 8, .inl (fun _ => 0))), (a 1, .inl (cI, 8, .inl (fun _ => 0))), (a 2, .inl (cZ, 8, .inl (fun _ => 0)))]
set_option maxHeartbeats 4000000 in
set_option maxRecDepth 100000 in
theorem c_Ho_init (l : Launch) (D : va_G) (cI cZ cJ : ClassId) (h0 sz : Nat) : Met l yHo_init (Cond.code yHo_init cHo_init 1 none :: gG) ({ frames := 1, cells := 3, slots := 24, locals := 12 } : Room) (gz_Pc D (tA cI cZ cJ) [(h0, .inr (1, [.null, .null, .null, .int 0]))] sz [.ref h0]) (va_Qv (fun _ : Nat → Nat => True) (fun a t => va_P D vwCl (wI_Ho cI cZ cJ h0 a) t.heap ∧ va_D (va_A [(h0, .inr (1, [.null, .null, .null, .int 0]))] sz) (wI_Ho cI cZ cJ h0 a)) (va_A [(h0, .inr (1, [.null, .null, .null, .int 0]))] sz)) 3 24 (va_A [(h0, .inr (1, [.null, .null, .null, .int 0]))] sz) := by
  refine Met.ofW (cc := cHo_init) (maxL := 1) (ret := none) (by decide) rfl ?_
  intro p e s m args below meth c s₁ B hml hv
  obtain ⟨rfl, hsz, hP, hK, hD0, hN⟩ := hv
  have hx := B.exec
  have hb := B.bytes
  have hr := B.returns
  have hts := atoms_spec (ws := Cond.code yHo_init cHo_init 1 none :: gG) B.pre
  have hG : ∀ w ∈ gG, w.before _ s = true := fun w h => hts w (List.mem_cons_of_mem _ h)
  have hown : s.vm.findClass "AidRows$Houses" = some m.cls := findClass_of_methodNamed B.named
  have hlocks := B.notSynchronized
  have hin : meth.name = "<init>" := (name_of_methodNamed B.named B.method).1
  subst hsz
  have hD := hD0.self (sz := s.heap.size)
  generalize hAe : va_A [(h0, .inr (1, [.null, .null, .null, .int 0]))] s.heap.size = A at hD ⊢
  have hA : ∀ q : Nat, s.heap.size ≤ q → A q := fun q h => by rw [← hAe]; exact Or.inr h
  have hS : va_S A s.heap s.heap [] := va_S.rf
  have hl := lv_entry ([.ref h0]) (n := 1) (Nat.le_of_ble_eq_true rfl)
  rw [lg_entry_eq]
  generalize (lg_sl ([.ref h0]) ++ List.replicate (1 - (lg_sl ([.ref h0])).length) Slot.unset).toArray = ls at hl ⊢
  have hl : lv_has ls 1 [(0, .ref h0)] := hl
  refine lv_aload_n hx hb dHo_init_0 rfl (lv_at hl 0 rfl) ?_
  refine W.objInit hx hb hown (hG _ mw_31) (hG _ mw_24) (hG _ mw_25) rfl (by rw [hml]; exact hl.1) rfl dHo_init_1 (Nat.le_of_ble_eq_true rfl) (Nat.le_of_ble_eq_true rfl) ?_
  refine W.eq (g2 := F0 m 4 ls []) rfl ?_
  refine lv_aload_n hx hb dHo_init_4 rfl (lv_at hl 0 rfl) ?_
  refine lv_bipush (v := (8 : Int32)) hx hb dHo_init_5 (by decide) ?_
  refine va_newa (atype := .int) (n := (8 : Int32)) (N' := 8) (a0 := (8, .inl (fun _ => 0))) (ty := .int) hx hb (hG _ mw_49) rfl hK hP hD hS hA (gz_nI 8) (by decide) (by decide) (by decide) (Nat.le_of_ble_eq_true rfl) (Nat.le_of_ble_eq_true rfl) dHo_init_7 (fun q0 cA H hK1 hP hD hS => ?_)
  have hcA : cI = cA := (gz_uniq hK1 (k := 0) rfl (fun _ => by simp)).symm
  subst hcA
  have hP : va_P D vwCl [(h0, .inr (1, [.null, .null, .null, .int 0])), (q0, .inl (cI, 8, .inl (fun _ => 0)))] H := hP
  have hD : va_D A [(h0, .inr (1, [.null, .null, .null, .int 0])), (q0, .inl (cI, 8, .inl (fun _ => 0)))] := hD
  refine va_putF (D := D) (ci := 1) (v := .ref q0) (ty := .array .int) (C := RHo) (T := THo) (N := 4) hx hb hG inHo tyHo tyHo_ok nmHo hown hK hP hD hS 0 rfl rfl 0 (by decide) (hG _ mw_32) (fun _ h9 => h9) rfl hin rfl (by decide +kernel) rfl rfl (Nat.le_of_ble_eq_true rfl) dHo_init_9 (fun H locs hP hD hS => ?_)
  have hP : va_P D vwCl [(h0, .inr (1, [.ref q0, .null, .null, .int 0])), (q0, .inl (cI, 8, .inl (fun _ => 0)))] H := hP
  have hD : va_D A [(h0, .inr (1, [.ref q0, .null, .null, .int 0])), (q0, .inl (cI, 8, .inl (fun _ => 0)))] := hD
  refine lv_aload_n hx hb dHo_init_12 rfl (lv_at hl 0 rfl) ?_
  refine lv_bipush (v := (8 : Int32)) hx hb dHo_init_13 (by decide) ?_
  refine va_newa (atype := .int) (n := (8 : Int32)) (N' := 8) (a0 := (8, .inl (fun _ => 0))) (ty := .int) hx hb (hG _ mw_49) rfl hK hP hD hS hA (gz_nI 8) (by decide) (by decide) (by decide) (Nat.le_of_ble_eq_true rfl) (Nat.le_of_ble_eq_true rfl) dHo_init_15 (fun q1 cA H hK1 hP hD hS => ?_)
  have hcA : cI = cA := (gz_uniq hK1 (k := 0) rfl (fun _ => by simp)).symm
  subst hcA
  have hP : va_P D vwCl [(h0, .inr (1, [.ref q0, .null, .null, .int 0])), (q0, .inl (cI, 8, .inl (fun _ => 0))), (q1, .inl (cI, 8, .inl (fun _ => 0)))] H := hP
  have hD : va_D A [(h0, .inr (1, [.ref q0, .null, .null, .int 0])), (q0, .inl (cI, 8, .inl (fun _ => 0))), (q1, .inl (cI, 8, .inl (fun _ => 0)))] := hD
  refine va_putF (D := D) (ci := 1) (v := .ref q1) (ty := .array .int) (C := RHo) (T := THo) (N := 4) hx hb hG inHo tyHo tyHo_ok nmHo hown hK hP hD hS 0 rfl rfl 1 (by decide) (hG _ mw_34) (fun _ h9 => h9) rfl hin rfl (by decide +kernel) rfl rfl (Nat.le_of_ble_eq_true rfl) dHo_init_17 (fun H locs hP hD hS => ?_)
  have hP : va_P D vwCl [(h0, .inr (1, [.ref q0, .ref q1, .null, .int 0])), (q0, .inl (cI, 8, .inl (fun _ => 0))), (q1, .inl (cI, 8, .inl (fun _ => 0)))] H := hP
  have hD : va_D A [(h0, .inr (1, [.ref q0, .ref q1, .null, .int 0])), (q0, .inl (cI, 8, .inl (fun _ => 0))), (q1, .inl (cI, 8, .inl (fun _ => 0)))] := hD
  refine lv_aload_n hx hb dHo_init_20 rfl (lv_at hl 0 rfl) ?_
  refine lv_bipush (v := (8 : Int32)) hx hb dHo_init_21 (by decide) ?_
  refine va_newa (atype := .boolean) (n := (8 : Int32)) (N' := 8) (a0 := (8, .inl (fun _ => 0))) (ty := .boolean) hx hb (hG _ mw_50) rfl hK hP hD hS hA (gz_nZ 8) (by decide) (by decide) (by decide) (Nat.le_of_ble_eq_true rfl) (Nat.le_of_ble_eq_true rfl) dHo_init_23 (fun q2 cA H hK1 hP hD hS => ?_)
  have hcA : cZ = cA := (gz_uniq hK1 (k := 1) rfl (fun _ => by simp)).symm
  subst hcA
  have hP : va_P D vwCl [(h0, .inr (1, [.ref q0, .ref q1, .null, .int 0])), (q0, .inl (cI, 8, .inl (fun _ => 0))), (q1, .inl (cI, 8, .inl (fun _ => 0))), (q2, .inl (cZ, 8, .inl (fun _ => 0)))] H := hP
  have hD : va_D A [(h0, .inr (1, [.ref q0, .ref q1, .null, .int 0])), (q0, .inl (cI, 8, .inl (fun _ => 0))), (q1, .inl (cI, 8, .inl (fun _ => 0))), (q2, .inl (cZ, 8, .inl (fun _ => 0)))] := hD
  refine va_putF (D := D) (ci := 1) (v := .ref q2) (ty := .array .boolean) (C := RHo) (T := THo) (N := 4) hx hb hG inHo tyHo tyHo_ok nmHo hown hK hP hD hS 0 rfl rfl 2 (by decide) (hG _ mw_36) (fun _ h9 => h9) rfl hin rfl (by decide +kernel) rfl rfl (Nat.le_of_ble_eq_true rfl) dHo_init_25 (fun H locs hP hD hS => ?_)
  have hP : va_P D vwCl [(h0, .inr (1, [.ref q0, .ref q1, .ref q2, .int 0])), (q0, .inl (cI, 8, .inl (fun _ => 0))), (q1, .inl (cI, 8, .inl (fun _ => 0))), (q2, .inl (cZ, 8, .inl (fun _ => 0)))] H := hP
  have hD : va_D A [(h0, .inr (1, [.ref q0, .ref q1, .ref q2, .int 0])), (q0, .inl (cI, 8, .inl (fun _ => 0))), (q1, .inl (cI, 8, .inl (fun _ => 0))), (q2, .inl (cZ, 8, .inl (fun _ => 0)))] := hD
  refine W.widen (k := 3) (n := 24) (by omega) (by omega) ?_
  exact W.vret hx hb hr (fun t ht hW => ⟨⟨(fun k => [q0, q1, q2].getD k 0), rfl, trivial, by rw [ht]; exact hP, hD⟩, hS.F ht⟩) hS.2.2 dHo_init_28
def wI_Ag (cI cZ cJ : ClassId) (h0 : Nat) (a : Nat → Nat) : va_W := [(h0, .inr (2, [.ref (a 0), .ref (a 1), .ref (a 2), .ref (a 3), .ref (a 4), .ref (a 5), .int 0])), (a 0, .inl (cI, 30, .inl (fun _ => 0))), (a 1, .inl (cI, 30, .inl (fun _ => 0))), (a 2, .inl (cI, 30, .inl (fun _ => 0))), (a 3, .inl (cI, 30, .inl (fun _ => 0))), (a 4, .inl (cI, 30, .inl (fun _ => 0))), (a 5, .inl (cI, 30, .inl (fun _ => 0)))]
set_option maxHeartbeats 4000000 in
set_option maxRecDepth 100000 in
theorem c_Ag_init (l : Launch) (D : va_G) (cI cZ cJ : ClassId) (h0 sz : Nat) : Met l yAg_init (Cond.code yAg_init cAg_init 1 none :: gG) ({ frames := 1, cells := 6, slots := 180, locals := 12 } : Room) (gz_Pc D (tA cI cZ cJ) [(h0, .inr (2, [.null, .null, .null, .null, .null, .null, .int 0]))] sz [.ref h0]) (va_Qv (fun _ : Nat → Nat => True) (fun a t => va_P D vwCl (wI_Ag cI cZ cJ h0 a) t.heap ∧ va_D (va_A [(h0, .inr (2, [.null, .null, .null, .null, .null, .null, .int 0]))] sz) (wI_Ag cI cZ cJ h0 a)) (va_A [(h0, .inr (2, [.null, .null, .null, .null, .null, .null, .int 0]))] sz)) 6 180 (va_A [(h0, .inr (2, [.null, .null, .null, .null, .null, .null, .int 0]))] sz) := by
  refine Met.ofW (cc := cAg_init) (maxL := 1) (ret := none) (by decide) rfl ?_
  intro p e s m args below meth c s₁ B hml hv
  obtain ⟨rfl, hsz, hP, hK, hD0, hN⟩ := hv
  have hx := B.exec
  have hb := B.bytes
  have hr := B.returns
  have hts := atoms_spec (ws := Cond.code yAg_init cAg_init 1 none :: gG) B.pre
  have hG : ∀ w ∈ gG, w.before _ s = true := fun w h => hts w (List.mem_cons_of_mem _ h)
  have hown : s.vm.findClass "AidRows$Agreements" = some m.cls := findClass_of_methodNamed B.named
  have hlocks := B.notSynchronized
  have hin : meth.name = "<init>" := (name_of_methodNamed B.named B.method).1
  subst hsz
  have hD := hD0.self (sz := s.heap.size)
  generalize hAe : va_A [(h0, .inr (2, [.null, .null, .null, .null, .null, .null, .int 0]))] s.heap.size = A at hD ⊢
  have hA : ∀ q : Nat, s.heap.size ≤ q → A q := fun q h => by rw [← hAe]; exact Or.inr h
  have hS : va_S A s.heap s.heap [] := va_S.rf
  have hl := lv_entry ([.ref h0]) (n := 1) (Nat.le_of_ble_eq_true rfl)
  rw [lg_entry_eq]
  generalize (lg_sl ([.ref h0]) ++ List.replicate (1 - (lg_sl ([.ref h0])).length) Slot.unset).toArray = ls at hl ⊢
  have hl : lv_has ls 1 [(0, .ref h0)] := hl
  refine lv_aload_n hx hb dAg_init_0 rfl (lv_at hl 0 rfl) ?_
  refine W.objInit hx hb hown (hG _ mw_56) (hG _ mw_24) (hG _ mw_25) rfl (by rw [hml]; exact hl.1) rfl dAg_init_1 (Nat.le_of_ble_eq_true rfl) (Nat.le_of_ble_eq_true rfl) ?_
  refine W.eq (g2 := F0 m 4 ls []) rfl ?_
  refine lv_aload_n hx hb dAg_init_4 rfl (lv_at hl 0 rfl) ?_
  refine lv_bipush (v := (30 : Int32)) hx hb dAg_init_5 (by decide) ?_
  refine va_newa (atype := .int) (n := (30 : Int32)) (N' := 30) (a0 := (30, .inl (fun _ => 0))) (ty := .int) hx hb (hG _ mw_49) rfl hK hP hD hS hA (gz_nI 30) (by decide) (by decide) (by decide) (Nat.le_of_ble_eq_true rfl) (Nat.le_of_ble_eq_true rfl) dAg_init_7 (fun q0 cA H hK1 hP hD hS => ?_)
  have hcA : cI = cA := (gz_uniq hK1 (k := 0) rfl (fun _ => by simp)).symm
  subst hcA
  have hP : va_P D vwCl [(h0, .inr (2, [.null, .null, .null, .null, .null, .null, .int 0])), (q0, .inl (cI, 30, .inl (fun _ => 0)))] H := hP
  have hD : va_D A [(h0, .inr (2, [.null, .null, .null, .null, .null, .null, .int 0])), (q0, .inl (cI, 30, .inl (fun _ => 0)))] := hD
  refine va_putF (D := D) (ci := 2) (v := .ref q0) (ty := .array .int) (C := RAg) (T := TAg) (N := 7) hx hb hG inAg tyAg tyAg_ok nmAg hown hK hP hD hS 0 rfl rfl 0 (by decide) (hG _ mw_57) (fun _ h9 => h9) rfl hin rfl (by decide +kernel) rfl rfl (Nat.le_of_ble_eq_true rfl) dAg_init_9 (fun H locs hP hD hS => ?_)
  have hP : va_P D vwCl [(h0, .inr (2, [.ref q0, .null, .null, .null, .null, .null, .int 0])), (q0, .inl (cI, 30, .inl (fun _ => 0)))] H := hP
  have hD : va_D A [(h0, .inr (2, [.ref q0, .null, .null, .null, .null, .null, .int 0])), (q0, .inl (cI, 30, .inl (fun _ => 0)))] := hD
  refine lv_aload_n hx hb dAg_init_12 rfl (lv_at hl 0 rfl) ?_
  refine lv_bipush (v := (30 : Int32)) hx hb dAg_init_13 (by decide) ?_
  refine va_newa (atype := .int) (n := (30 : Int32)) (N' := 30) (a0 := (30, .inl (fun _ => 0))) (ty := .int) hx hb (hG _ mw_49) rfl hK hP hD hS hA (gz_nI 30) (by decide) (by decide) (by decide) (Nat.le_of_ble_eq_true rfl) (Nat.le_of_ble_eq_true rfl) dAg_init_15 (fun q1 cA H hK1 hP hD hS => ?_)
  have hcA : cI = cA := (gz_uniq hK1 (k := 0) rfl (fun _ => by simp)).symm
  subst hcA
  have hP : va_P D vwCl [(h0, .inr (2, [.ref q0, .null, .null, .null, .null, .null, .int 0])), (q0, .inl (cI, 30, .inl (fun _ => 0))), (q1, .inl (cI, 30, .inl (fun _ => 0)))] H := hP
  have hD : va_D A [(h0, .inr (2, [.ref q0, .null, .null, .null, .null, .null, .int 0])), (q0, .inl (cI, 30, .inl (fun _ => 0))), (q1, .inl (cI, 30, .inl (fun _ => 0)))] := hD
  refine va_putF (D := D) (ci := 2) (v := .ref q1) (ty := .array .int) (C := RAg) (T := TAg) (N := 7) hx hb hG inAg tyAg tyAg_ok nmAg hown hK hP hD hS 0 rfl rfl 1 (by decide) (hG _ mw_58) (fun _ h9 => h9) rfl hin rfl (by decide +kernel) rfl rfl (Nat.le_of_ble_eq_true rfl) dAg_init_17 (fun H locs hP hD hS => ?_)
  have hP : va_P D vwCl [(h0, .inr (2, [.ref q0, .ref q1, .null, .null, .null, .null, .int 0])), (q0, .inl (cI, 30, .inl (fun _ => 0))), (q1, .inl (cI, 30, .inl (fun _ => 0)))] H := hP
  have hD : va_D A [(h0, .inr (2, [.ref q0, .ref q1, .null, .null, .null, .null, .int 0])), (q0, .inl (cI, 30, .inl (fun _ => 0))), (q1, .inl (cI, 30, .inl (fun _ => 0)))] := hD
  refine lv_aload_n hx hb dAg_init_20 rfl (lv_at hl 0 rfl) ?_
  refine lv_bipush (v := (30 : Int32)) hx hb dAg_init_21 (by decide) ?_
  refine va_newa (atype := .int) (n := (30 : Int32)) (N' := 30) (a0 := (30, .inl (fun _ => 0))) (ty := .int) hx hb (hG _ mw_49) rfl hK hP hD hS hA (gz_nI 30) (by decide) (by decide) (by decide) (Nat.le_of_ble_eq_true rfl) (Nat.le_of_ble_eq_true rfl) dAg_init_23 (fun q2 cA H hK1 hP hD hS => ?_)
  have hcA : cI = cA := (gz_uniq hK1 (k := 0) rfl (fun _ => by simp)).symm
  subst hcA
  have hP : va_P D vwCl [(h0, .inr (2, [.ref q0, .ref q1, .null, .null, .null, .null, .int 0])), (q0, .inl (cI, 30, .inl (fun _ => 0))), (q1, .inl (cI, 30, .inl (fun _ => 0))), (q2, .inl (cI, 30, .inl (fun _ => 0)))] H := hP
  have hD : va_D A [(h0, .inr (2, [.ref q0, .ref q1, .null, .null, .null, .null, .int 0])), (q0, .inl (cI, 30, .inl (fun _ => 0))), (q1, .inl (cI, 30, .inl (fun _ => 0))), (q2, .inl (cI, 30, .inl (fun _ => 0)))] := hD
  refine va_putF (D := D) (ci := 2) (v := .ref q2) (ty := .array .int) (C := RAg) (T := TAg) (N := 7) hx hb hG inAg tyAg tyAg_ok nmAg hown hK hP hD hS 0 rfl rfl 2 (by decide) (hG _ mw_59) (fun _ h9 => h9) rfl hin rfl (by decide +kernel) rfl rfl (Nat.le_of_ble_eq_true rfl) dAg_init_25 (fun H locs hP hD hS => ?_)
  have hP : va_P D vwCl [(h0, .inr (2, [.ref q0, .ref q1, .ref q2, .null, .null, .null, .int 0])), (q0, .inl (cI, 30, .inl (fun _ => 0))), (q1, .inl (cI, 30, .inl (fun _ => 0))), (q2, .inl (cI, 30, .inl (fun _ => 0)))] H := hP
  have hD : va_D A [(h0, .inr (2, [.ref q0, .ref q1, .ref q2, .null, .null, .null, .int 0])), (q0, .inl (cI, 30, .inl (fun _ => 0))), (q1, .inl (cI, 30, .inl (fun _ => 0))), (q2, .inl (cI, 30, .inl (fun _ => 0)))] := hD
  refine lv_aload_n hx hb dAg_init_28 rfl (lv_at hl 0 rfl) ?_
  refine lv_bipush (v := (30 : Int32)) hx hb dAg_init_29 (by decide) ?_
  refine va_newa (atype := .int) (n := (30 : Int32)) (N' := 30) (a0 := (30, .inl (fun _ => 0))) (ty := .int) hx hb (hG _ mw_49) rfl hK hP hD hS hA (gz_nI 30) (by decide) (by decide) (by decide) (Nat.le_of_ble_eq_true rfl) (Nat.le_of_ble_eq_true rfl) dAg_init_31 (fun q3 cA H hK1 hP hD hS => ?_)
  have hcA : cI = cA := (gz_uniq hK1 (k := 0) rfl (fun _ => by simp)).symm
  subst hcA
  have hP : va_P D vwCl [(h0, .inr (2, [.ref q0, .ref q1, .ref q2, .null, .null, .null, .int 0])), (q0, .inl (cI, 30, .inl (fun _ => 0))), (q1, .inl (cI, 30, .inl (fun _ => 0))), (q2, .inl (cI, 30, .inl (fun _ => 0))), (q3, .inl (cI, 30, .inl (fun _ => 0)))] H := hP
  have hD : va_D A [(h0, .inr (2, [.ref q0, .ref q1, .ref q2, .null, .null, .null, .int 0])), (q0, .inl (cI, 30, .inl (fun _ => 0))), (q1, .inl (cI, 30, .inl (fun _ => 0))), (q2, .inl (cI, 30, .inl (fun _ => 0))), (q3, .inl (cI, 30, .inl (fun _ => 0)))] := hD
  refine va_putF (D := D) (ci := 2) (v := .ref q3) (ty := .array .int) (C := RAg) (T := TAg) (N := 7) hx hb hG inAg tyAg tyAg_ok nmAg hown hK hP hD hS 0 rfl rfl 3 (by decide) (hG _ mw_60) (fun _ h9 => h9) rfl hin rfl (by decide +kernel) rfl rfl (Nat.le_of_ble_eq_true rfl) dAg_init_33 (fun H locs hP hD hS => ?_)
  have hP : va_P D vwCl [(h0, .inr (2, [.ref q0, .ref q1, .ref q2, .ref q3, .null, .null, .int 0])), (q0, .inl (cI, 30, .inl (fun _ => 0))), (q1, .inl (cI, 30, .inl (fun _ => 0))), (q2, .inl (cI, 30, .inl (fun _ => 0))), (q3, .inl (cI, 30, .inl (fun _ => 0)))] H := hP
  have hD : va_D A [(h0, .inr (2, [.ref q0, .ref q1, .ref q2, .ref q3, .null, .null, .int 0])), (q0, .inl (cI, 30, .inl (fun _ => 0))), (q1, .inl (cI, 30, .inl (fun _ => 0))), (q2, .inl (cI, 30, .inl (fun _ => 0))), (q3, .inl (cI, 30, .inl (fun _ => 0)))] := hD
  refine lv_aload_n hx hb dAg_init_36 rfl (lv_at hl 0 rfl) ?_
  refine lv_bipush (v := (30 : Int32)) hx hb dAg_init_37 (by decide) ?_
  refine va_newa (atype := .int) (n := (30 : Int32)) (N' := 30) (a0 := (30, .inl (fun _ => 0))) (ty := .int) hx hb (hG _ mw_49) rfl hK hP hD hS hA (gz_nI 30) (by decide) (by decide) (by decide) (Nat.le_of_ble_eq_true rfl) (Nat.le_of_ble_eq_true rfl) dAg_init_39 (fun q4 cA H hK1 hP hD hS => ?_)
  have hcA : cI = cA := (gz_uniq hK1 (k := 0) rfl (fun _ => by simp)).symm
  subst hcA
  have hP : va_P D vwCl [(h0, .inr (2, [.ref q0, .ref q1, .ref q2, .ref q3, .null, .null, .int 0])), (q0, .inl (cI, 30, .inl (fun _ => 0))), (q1, .inl (cI, 30, .inl (fun _ => 0))), (q2, .inl (cI, 30, .inl (fun _ => 0))), (q3, .inl (cI, 30, .inl (fun _ => 0))), (q4, .inl (cI, 30, .inl (fun _ => 0)))] H := hP
  have hD : va_D A [(h0, .inr (2, [.ref q0, .ref q1, .ref q2, .ref q3, .null, .null, .int 0])), (q0, .inl (cI, 30, .inl (fun _ => 0))), (q1, .inl (cI, 30, .inl (fun _ => 0))), (q2, .inl (cI, 30, .inl (fun _ => 0))), (q3, .inl (cI, 30, .inl (fun _ => 0))), (q4, .inl (cI, 30, .inl (fun _ => 0)))] := hD
  refine va_putF (D := D) (ci := 2) (v := .ref q4) (ty := .array .int) (C := RAg) (T := TAg) (N := 7) hx hb hG inAg tyAg tyAg_ok nmAg hown hK hP hD hS 0 rfl rfl 4 (by decide) (hG _ mw_62) (fun _ h9 => h9) rfl hin rfl (by decide +kernel) rfl rfl (Nat.le_of_ble_eq_true rfl) dAg_init_41 (fun H locs hP hD hS => ?_)
  have hP : va_P D vwCl [(h0, .inr (2, [.ref q0, .ref q1, .ref q2, .ref q3, .ref q4, .null, .int 0])), (q0, .inl (cI, 30, .inl (fun _ => 0))), (q1, .inl (cI, 30, .inl (fun _ => 0))), (q2, .inl (cI, 30, .inl (fun _ => 0))), (q3, .inl (cI, 30, .inl (fun _ => 0))), (q4, .inl (cI, 30, .inl (fun _ => 0)))] H := hP
  have hD : va_D A [(h0, .inr (2, [.ref q0, .ref q1, .ref q2, .ref q3, .ref q4, .null, .int 0])), (q0, .inl (cI, 30, .inl (fun _ => 0))), (q1, .inl (cI, 30, .inl (fun _ => 0))), (q2, .inl (cI, 30, .inl (fun _ => 0))), (q3, .inl (cI, 30, .inl (fun _ => 0))), (q4, .inl (cI, 30, .inl (fun _ => 0)))] := hD
  refine lv_aload_n hx hb dAg_init_44 rfl (lv_at hl 0 rfl) ?_
  refine lv_bipush (v := (30 : Int32)) hx hb dAg_init_45 (by decide) ?_
  refine va_newa (atype := .int) (n := (30 : Int32)) (N' := 30) (a0 := (30, .inl (fun _ => 0))) (ty := .int) hx hb (hG _ mw_49) rfl hK hP hD hS hA (gz_nI 30) (by decide) (by decide) (by decide) (Nat.le_of_ble_eq_true rfl) (Nat.le_of_ble_eq_true rfl) dAg_init_47 (fun q5 cA H hK1 hP hD hS => ?_)
  have hcA : cI = cA := (gz_uniq hK1 (k := 0) rfl (fun _ => by simp)).symm
  subst hcA
  have hP : va_P D vwCl [(h0, .inr (2, [.ref q0, .ref q1, .ref q2, .ref q3, .ref q4, .null, .int 0])), (q0, .inl (cI, 30, .inl (fun _ => 0))), (q1, .inl (cI, 30, .inl (fun _ => 0))), (q2, .inl (cI, 30, .inl (fun _ => 0))), (q3, .inl (cI, 30, .inl (fun _ => 0))), (q4, .inl (cI, 30, .inl (fun _ => 0))), (q5, .inl (cI, 30, .inl (fun _ => 0)))] H := hP
  have hD : va_D A [(h0, .inr (2, [.ref q0, .ref q1, .ref q2, .ref q3, .ref q4, .null, .int 0])), (q0, .inl (cI, 30, .inl (fun _ => 0))), (q1, .inl (cI, 30, .inl (fun _ => 0))), (q2, .inl (cI, 30, .inl (fun _ => 0))), (q3, .inl (cI, 30, .inl (fun _ => 0))), (q4, .inl (cI, 30, .inl (fun _ => 0))), (q5, .inl (cI, 30, .inl (fun _ => 0)))] := hD
  refine va_putF (D := D) (ci := 2) (v := .ref q5) (ty := .array .int) (C := RAg) (T := TAg) (N := 7) hx hb hG inAg tyAg tyAg_ok nmAg hown hK hP hD hS 0 rfl rfl 5 (by decide) (hG _ mw_63) (fun _ h9 => h9) rfl hin rfl (by decide +kernel) rfl rfl (Nat.le_of_ble_eq_true rfl) dAg_init_49 (fun H locs hP hD hS => ?_)
  have hP : va_P D vwCl [(h0, .inr (2, [.ref q0, .ref q1, .ref q2, .ref q3, .ref q4, .ref q5, .int 0])), (q0, .inl (cI, 30, .inl (fun _ => 0))), (q1, .inl (cI, 30, .inl (fun _ => 0))), (q2, .inl (cI, 30, .inl (fun _ => 0))), (q3, .inl (cI, 30, .inl (fun _ => 0))), (q4, .inl (cI, 30, .inl (fun _ => 0))), (q5, .inl (cI, 30, .inl (fun _ => 0)))] H := hP
  have hD : va_D A [(h0, .inr (2, [.ref q0, .ref q1, .ref q2, .ref q3, .ref q4, .ref q5, .int 0])), (q0, .inl (cI, 30, .inl (fun _ => 0))), (q1, .inl (cI, 30, .inl (fun _ => 0))), (q2, .inl (cI, 30, .inl (fun _ => 0))), (q3, .inl (cI, 30, .inl (fun _ => 0))), (q4, .inl (cI, 30, .inl (fun _ => 0))), (q5, .inl (cI, 30, .inl (fun _ => 0)))] := hD
  refine W.widen (k := 6) (n := 180) (by omega) (by omega) ?_
  exact W.vret hx hb hr (fun t ht hW => ⟨⟨(fun k => [q0, q1, q2, q3, q4, q5].getD k 0), rfl, trivial, by rw [ht]; exact hP, hD⟩, hS.F ht⟩) hS.2.2 dAg_init_52
def wI_As (cI cZ cJ : ClassId) (h0 : Nat) (a : Nat → Nat) : va_W := [(h0, .inr (3, [.ref (a 0), .ref (a 1), .ref (a 2), .ref (a 3), .ref (a 4), .ref (a 5), .ref (a 6), .ref (a 7), .ref (a 8), .int 0])), (a 0, .inl (cI, 30, .inl (fun _ => 0))), (a 1, .inl (cI, 30, .inl (fun _ => 0))), (a 2, .inl (cI, 30, .inl (fun _ => 0))), (a 3, .inl (cI, 30, .inl (fun _ => 0))), (a 4, .inl (cI, 30, .inl (fun _ => 0))), (a 5, .inl (cI, 30, .inl (fun _ => 0))), (a 6, .inl (cI, 30, .inl (fun _ => 0))), (a 7, .inl (cI, 30, .inl (fun _ => 0))), (a 8, .inl (cZ, 30, .inl (fun _ => 0)))]
set_option maxHeartbeats 4000000 in
set_option maxRecDepth 100000 in
theorem c_As_init (l : Launch) (D : va_G) (cI cZ cJ : ClassId) (h0 sz : Nat) : Met l yAs_init (Cond.code yAs_init cAs_init 1 none :: gG) ({ frames := 1, cells := 9, slots := 270, locals := 12 } : Room) (gz_Pc D (tA cI cZ cJ) [(h0, .inr (3, [.null, .null, .null, .null, .null, .null, .null, .null, .null, .int 0]))] sz [.ref h0]) (va_Qv (fun _ : Nat → Nat => True) (fun a t => va_P D vwCl (wI_As cI cZ cJ h0 a) t.heap ∧ va_D (va_A [(h0, .inr (3, [.null, .null, .null, .null, .null, .null, .null, .null, .null, .int 0]))] sz) (wI_As cI cZ cJ h0 a)) (va_A [(h0, .inr (3, [.null, .null, .null, .null, .null, .null, .null, .null, .null, .int 0]))] sz)) 9 270 (va_A [(h0, .inr (3, [.null, .null, .null, .null, .null, .null, .null, .null, .null, .int 0]))] sz) := by
  refine Met.ofW (cc := cAs_init) (maxL := 1) (ret := none) (by decide) rfl ?_
  intro p e s m args below meth c s₁ B hml hv
  obtain ⟨rfl, hsz, hP, hK, hD0, hN⟩ := hv
  have hx := B.exec
  have hb := B.bytes
  have hr := B.returns
  have hts := atoms_spec (ws := Cond.code yAs_init cAs_init 1 none :: gG) B.pre
  have hG : ∀ w ∈ gG, w.before _ s = true := fun w h => hts w (List.mem_cons_of_mem _ h)
  have hown : s.vm.findClass "AidRows$Asks" = some m.cls := findClass_of_methodNamed B.named
  have hlocks := B.notSynchronized
  have hin : meth.name = "<init>" := (name_of_methodNamed B.named B.method).1
  subst hsz
  have hD := hD0.self (sz := s.heap.size)
  generalize hAe : va_A [(h0, .inr (3, [.null, .null, .null, .null, .null, .null, .null, .null, .null, .int 0]))] s.heap.size = A at hD ⊢
  have hA : ∀ q : Nat, s.heap.size ≤ q → A q := fun q h => by rw [← hAe]; exact Or.inr h
  have hS : va_S A s.heap s.heap [] := va_S.rf
  have hl := lv_entry ([.ref h0]) (n := 1) (Nat.le_of_ble_eq_true rfl)
  rw [lg_entry_eq]
  generalize (lg_sl ([.ref h0]) ++ List.replicate (1 - (lg_sl ([.ref h0])).length) Slot.unset).toArray = ls at hl ⊢
  have hl : lv_has ls 1 [(0, .ref h0)] := hl
  refine lv_aload_n hx hb dAs_init_0 rfl (lv_at hl 0 rfl) ?_
  refine W.objInit hx hb hown (hG _ mw_86) (hG _ mw_24) (hG _ mw_25) rfl (by rw [hml]; exact hl.1) rfl dAs_init_1 (Nat.le_of_ble_eq_true rfl) (Nat.le_of_ble_eq_true rfl) ?_
  refine W.eq (g2 := F0 m 4 ls []) rfl ?_
  refine lv_aload_n hx hb dAs_init_4 rfl (lv_at hl 0 rfl) ?_
  refine lv_bipush (v := (30 : Int32)) hx hb dAs_init_5 (by decide) ?_
  refine va_newa (atype := .int) (n := (30 : Int32)) (N' := 30) (a0 := (30, .inl (fun _ => 0))) (ty := .int) hx hb (hG _ mw_49) rfl hK hP hD hS hA (gz_nI 30) (by decide) (by decide) (by decide) (Nat.le_of_ble_eq_true rfl) (Nat.le_of_ble_eq_true rfl) dAs_init_7 (fun q0 cA H hK1 hP hD hS => ?_)
  have hcA : cI = cA := (gz_uniq hK1 (k := 0) rfl (fun _ => by simp)).symm
  subst hcA
  have hP : va_P D vwCl [(h0, .inr (3, [.null, .null, .null, .null, .null, .null, .null, .null, .null, .int 0])), (q0, .inl (cI, 30, .inl (fun _ => 0)))] H := hP
  have hD : va_D A [(h0, .inr (3, [.null, .null, .null, .null, .null, .null, .null, .null, .null, .int 0])), (q0, .inl (cI, 30, .inl (fun _ => 0)))] := hD
  refine va_putF (D := D) (ci := 3) (v := .ref q0) (ty := .array .int) (C := RAs) (T := TAs) (N := 10) hx hb hG inAs tyAs tyAs_ok nmAs hown hK hP hD hS 0 rfl rfl 0 (by decide) (hG _ mw_87) (fun _ h9 => h9) rfl hin rfl (by decide +kernel) rfl rfl (Nat.le_of_ble_eq_true rfl) dAs_init_9 (fun H locs hP hD hS => ?_)
  have hP : va_P D vwCl [(h0, .inr (3, [.ref q0, .null, .null, .null, .null, .null, .null, .null, .null, .int 0])), (q0, .inl (cI, 30, .inl (fun _ => 0)))] H := hP
  have hD : va_D A [(h0, .inr (3, [.ref q0, .null, .null, .null, .null, .null, .null, .null, .null, .int 0])), (q0, .inl (cI, 30, .inl (fun _ => 0)))] := hD
  refine lv_aload_n hx hb dAs_init_12 rfl (lv_at hl 0 rfl) ?_
  refine lv_bipush (v := (30 : Int32)) hx hb dAs_init_13 (by decide) ?_
  refine va_newa (atype := .int) (n := (30 : Int32)) (N' := 30) (a0 := (30, .inl (fun _ => 0))) (ty := .int) hx hb (hG _ mw_49) rfl hK hP hD hS hA (gz_nI 30) (by decide) (by decide) (by decide) (Nat.le_of_ble_eq_true rfl) (Nat.le_of_ble_eq_true rfl) dAs_init_15 (fun q1 cA H hK1 hP hD hS => ?_)
  have hcA : cI = cA := (gz_uniq hK1 (k := 0) rfl (fun _ => by simp)).symm
  subst hcA
  have hP : va_P D vwCl [(h0, .inr (3, [.ref q0, .null, .null, .null, .null, .null, .null, .null, .null, .int 0])), (q0, .inl (cI, 30, .inl (fun _ => 0))), (q1, .inl (cI, 30, .inl (fun _ => 0)))] H := hP
  have hD : va_D A [(h0, .inr (3, [.ref q0, .null, .null, .null, .null, .null, .null, .null, .null, .int 0])), (q0, .inl (cI, 30, .inl (fun _ => 0))), (q1, .inl (cI, 30, .inl (fun _ => 0)))] := hD
  refine va_putF (D := D) (ci := 3) (v := .ref q1) (ty := .array .int) (C := RAs) (T := TAs) (N := 10) hx hb hG inAs tyAs tyAs_ok nmAs hown hK hP hD hS 0 rfl rfl 1 (by decide) (hG _ mw_89) (fun _ h9 => h9) rfl hin rfl (by decide +kernel) rfl rfl (Nat.le_of_ble_eq_true rfl) dAs_init_17 (fun H locs hP hD hS => ?_)
  have hP : va_P D vwCl [(h0, .inr (3, [.ref q0, .ref q1, .null, .null, .null, .null, .null, .null, .null, .int 0])), (q0, .inl (cI, 30, .inl (fun _ => 0))), (q1, .inl (cI, 30, .inl (fun _ => 0)))] H := hP
  have hD : va_D A [(h0, .inr (3, [.ref q0, .ref q1, .null, .null, .null, .null, .null, .null, .null, .int 0])), (q0, .inl (cI, 30, .inl (fun _ => 0))), (q1, .inl (cI, 30, .inl (fun _ => 0)))] := hD
  refine lv_aload_n hx hb dAs_init_20 rfl (lv_at hl 0 rfl) ?_
  refine lv_bipush (v := (30 : Int32)) hx hb dAs_init_21 (by decide) ?_
  refine va_newa (atype := .int) (n := (30 : Int32)) (N' := 30) (a0 := (30, .inl (fun _ => 0))) (ty := .int) hx hb (hG _ mw_49) rfl hK hP hD hS hA (gz_nI 30) (by decide) (by decide) (by decide) (Nat.le_of_ble_eq_true rfl) (Nat.le_of_ble_eq_true rfl) dAs_init_23 (fun q2 cA H hK1 hP hD hS => ?_)
  have hcA : cI = cA := (gz_uniq hK1 (k := 0) rfl (fun _ => by simp)).symm
  subst hcA
  have hP : va_P D vwCl [(h0, .inr (3, [.ref q0, .ref q1, .null, .null, .null, .null, .null, .null, .null, .int 0])), (q0, .inl (cI, 30, .inl (fun _ => 0))), (q1, .inl (cI, 30, .inl (fun _ => 0))), (q2, .inl (cI, 30, .inl (fun _ => 0)))] H := hP
  have hD : va_D A [(h0, .inr (3, [.ref q0, .ref q1, .null, .null, .null, .null, .null, .null, .null, .int 0])), (q0, .inl (cI, 30, .inl (fun _ => 0))), (q1, .inl (cI, 30, .inl (fun _ => 0))), (q2, .inl (cI, 30, .inl (fun _ => 0)))] := hD
  refine va_putF (D := D) (ci := 3) (v := .ref q2) (ty := .array .int) (C := RAs) (T := TAs) (N := 10) hx hb hG inAs tyAs tyAs_ok nmAs hown hK hP hD hS 0 rfl rfl 2 (by decide) (hG _ mw_90) (fun _ h9 => h9) rfl hin rfl (by decide +kernel) rfl rfl (Nat.le_of_ble_eq_true rfl) dAs_init_25 (fun H locs hP hD hS => ?_)
  have hP : va_P D vwCl [(h0, .inr (3, [.ref q0, .ref q1, .ref q2, .null, .null, .null, .null, .null, .null, .int 0])), (q0, .inl (cI, 30, .inl (fun _ => 0))), (q1, .inl (cI, 30, .inl (fun _ => 0))), (q2, .inl (cI, 30, .inl (fun _ => 0)))] H := hP
  have hD : va_D A [(h0, .inr (3, [.ref q0, .ref q1, .ref q2, .null, .null, .null, .null, .null, .null, .int 0])), (q0, .inl (cI, 30, .inl (fun _ => 0))), (q1, .inl (cI, 30, .inl (fun _ => 0))), (q2, .inl (cI, 30, .inl (fun _ => 0)))] := hD
  refine lv_aload_n hx hb dAs_init_28 rfl (lv_at hl 0 rfl) ?_
  refine lv_bipush (v := (30 : Int32)) hx hb dAs_init_29 (by decide) ?_
  refine va_newa (atype := .int) (n := (30 : Int32)) (N' := 30) (a0 := (30, .inl (fun _ => 0))) (ty := .int) hx hb (hG _ mw_49) rfl hK hP hD hS hA (gz_nI 30) (by decide) (by decide) (by decide) (Nat.le_of_ble_eq_true rfl) (Nat.le_of_ble_eq_true rfl) dAs_init_31 (fun q3 cA H hK1 hP hD hS => ?_)
  have hcA : cI = cA := (gz_uniq hK1 (k := 0) rfl (fun _ => by simp)).symm
  subst hcA
  have hP : va_P D vwCl [(h0, .inr (3, [.ref q0, .ref q1, .ref q2, .null, .null, .null, .null, .null, .null, .int 0])), (q0, .inl (cI, 30, .inl (fun _ => 0))), (q1, .inl (cI, 30, .inl (fun _ => 0))), (q2, .inl (cI, 30, .inl (fun _ => 0))), (q3, .inl (cI, 30, .inl (fun _ => 0)))] H := hP
  have hD : va_D A [(h0, .inr (3, [.ref q0, .ref q1, .ref q2, .null, .null, .null, .null, .null, .null, .int 0])), (q0, .inl (cI, 30, .inl (fun _ => 0))), (q1, .inl (cI, 30, .inl (fun _ => 0))), (q2, .inl (cI, 30, .inl (fun _ => 0))), (q3, .inl (cI, 30, .inl (fun _ => 0)))] := hD
  refine va_putF (D := D) (ci := 3) (v := .ref q3) (ty := .array .int) (C := RAs) (T := TAs) (N := 10) hx hb hG inAs tyAs tyAs_ok nmAs hown hK hP hD hS 0 rfl rfl 3 (by decide) (hG _ mw_91) (fun _ h9 => h9) rfl hin rfl (by decide +kernel) rfl rfl (Nat.le_of_ble_eq_true rfl) dAs_init_33 (fun H locs hP hD hS => ?_)
  have hP : va_P D vwCl [(h0, .inr (3, [.ref q0, .ref q1, .ref q2, .ref q3, .null, .null, .null, .null, .null, .int 0])), (q0, .inl (cI, 30, .inl (fun _ => 0))), (q1, .inl (cI, 30, .inl (fun _ => 0))), (q2, .inl (cI, 30, .inl (fun _ => 0))), (q3, .inl (cI, 30, .inl (fun _ => 0)))] H := hP
  have hD : va_D A [(h0, .inr (3, [.ref q0, .ref q1, .ref q2, .ref q3, .null, .null, .null, .null, .null, .int 0])), (q0, .inl (cI, 30, .inl (fun _ => 0))), (q1, .inl (cI, 30, .inl (fun _ => 0))), (q2, .inl (cI, 30, .inl (fun _ => 0))), (q3, .inl (cI, 30, .inl (fun _ => 0)))] := hD
  refine lv_aload_n hx hb dAs_init_36 rfl (lv_at hl 0 rfl) ?_
  refine lv_bipush (v := (30 : Int32)) hx hb dAs_init_37 (by decide) ?_
  refine va_newa (atype := .int) (n := (30 : Int32)) (N' := 30) (a0 := (30, .inl (fun _ => 0))) (ty := .int) hx hb (hG _ mw_49) rfl hK hP hD hS hA (gz_nI 30) (by decide) (by decide) (by decide) (Nat.le_of_ble_eq_true rfl) (Nat.le_of_ble_eq_true rfl) dAs_init_39 (fun q4 cA H hK1 hP hD hS => ?_)
  have hcA : cI = cA := (gz_uniq hK1 (k := 0) rfl (fun _ => by simp)).symm
  subst hcA
  have hP : va_P D vwCl [(h0, .inr (3, [.ref q0, .ref q1, .ref q2, .ref q3, .null, .null, .null, .null, .null, .int 0])), (q0, .inl (cI, 30, .inl (fun _ => 0))), (q1, .inl (cI, 30, .inl (fun _ => 0))), (q2, .inl (cI, 30, .inl (fun _ => 0))), (q3, .inl (cI, 30, .inl (fun _ => 0))), (q4, .inl (cI, 30, .inl (fun _ => 0)))] H := hP
  have hD : va_D A [(h0, .inr (3, [.ref q0, .ref q1, .ref q2, .ref q3, .null, .null, .null, .null, .null, .int 0])), (q0, .inl (cI, 30, .inl (fun _ => 0))), (q1, .inl (cI, 30, .inl (fun _ => 0))), (q2, .inl (cI, 30, .inl (fun _ => 0))), (q3, .inl (cI, 30, .inl (fun _ => 0))), (q4, .inl (cI, 30, .inl (fun _ => 0)))] := hD
  refine va_putF (D := D) (ci := 3) (v := .ref q4) (ty := .array .int) (C := RAs) (T := TAs) (N := 10) hx hb hG inAs tyAs tyAs_ok nmAs hown hK hP hD hS 0 rfl rfl 4 (by decide) (hG _ mw_93) (fun _ h9 => h9) rfl hin rfl (by decide +kernel) rfl rfl (Nat.le_of_ble_eq_true rfl) dAs_init_41 (fun H locs hP hD hS => ?_)
  have hP : va_P D vwCl [(h0, .inr (3, [.ref q0, .ref q1, .ref q2, .ref q3, .ref q4, .null, .null, .null, .null, .int 0])), (q0, .inl (cI, 30, .inl (fun _ => 0))), (q1, .inl (cI, 30, .inl (fun _ => 0))), (q2, .inl (cI, 30, .inl (fun _ => 0))), (q3, .inl (cI, 30, .inl (fun _ => 0))), (q4, .inl (cI, 30, .inl (fun _ => 0)))] H := hP
  have hD : va_D A [(h0, .inr (3, [.ref q0, .ref q1, .ref q2, .ref q3, .ref q4, .null, .null, .null, .null, .int 0])), (q0, .inl (cI, 30, .inl (fun _ => 0))), (q1, .inl (cI, 30, .inl (fun _ => 0))), (q2, .inl (cI, 30, .inl (fun _ => 0))), (q3, .inl (cI, 30, .inl (fun _ => 0))), (q4, .inl (cI, 30, .inl (fun _ => 0)))] := hD
  refine lv_aload_n hx hb dAs_init_44 rfl (lv_at hl 0 rfl) ?_
  refine lv_bipush (v := (30 : Int32)) hx hb dAs_init_45 (by decide) ?_
  refine va_newa (atype := .int) (n := (30 : Int32)) (N' := 30) (a0 := (30, .inl (fun _ => 0))) (ty := .int) hx hb (hG _ mw_49) rfl hK hP hD hS hA (gz_nI 30) (by decide) (by decide) (by decide) (Nat.le_of_ble_eq_true rfl) (Nat.le_of_ble_eq_true rfl) dAs_init_47 (fun q5 cA H hK1 hP hD hS => ?_)
  have hcA : cI = cA := (gz_uniq hK1 (k := 0) rfl (fun _ => by simp)).symm
  subst hcA
  have hP : va_P D vwCl [(h0, .inr (3, [.ref q0, .ref q1, .ref q2, .ref q3, .ref q4, .null, .null, .null, .null, .int 0])), (q0, .inl (cI, 30, .inl (fun _ => 0))), (q1, .inl (cI, 30, .inl (fun _ => 0))), (q2, .inl (cI, 30, .inl (fun _ => 0))), (q3, .inl (cI, 30, .inl (fun _ => 0))), (q4, .inl (cI, 30, .inl (fun _ => 0))), (q5, .inl (cI, 30, .inl (fun _ => 0)))] H := hP
  have hD : va_D A [(h0, .inr (3, [.ref q0, .ref q1, .ref q2, .ref q3, .ref q4, .null, .null, .null, .null, .int 0])), (q0, .inl (cI, 30, .inl (fun _ => 0))), (q1, .inl (cI, 30, .inl (fun _ => 0))), (q2, .inl (cI, 30, .inl (fun _ => 0))), (q3, .inl (cI, 30, .inl (fun _ => 0))), (q4, .inl (cI, 30, .inl (fun _ => 0))), (q5, .inl (cI, 30, .inl (fun _ => 0)))] := hD
  refine va_putF (D := D) (ci := 3) (v := .ref q5) (ty := .array .int) (C := RAs) (T := TAs) (N := 10) hx hb hG inAs tyAs tyAs_ok nmAs hown hK hP hD hS 0 rfl rfl 5 (by decide) (hG _ mw_95) (fun _ h9 => h9) rfl hin rfl (by decide +kernel) rfl rfl (Nat.le_of_ble_eq_true rfl) dAs_init_49 (fun H locs hP hD hS => ?_)
  have hP : va_P D vwCl [(h0, .inr (3, [.ref q0, .ref q1, .ref q2, .ref q3, .ref q4, .ref q5, .null, .null, .null, .int 0])), (q0, .inl (cI, 30, .inl (fun _ => 0))), (q1, .inl (cI, 30, .inl (fun _ => 0))), (q2, .inl (cI, 30, .inl (fun _ => 0))), (q3, .inl (cI, 30, .inl (fun _ => 0))), (q4, .inl (cI, 30, .inl (fun _ => 0))), (q5, .inl (cI, 30, .inl (fun _ => 0)))] H := hP
  have hD : va_D A [(h0, .inr (3, [.ref q0, .ref q1, .ref q2, .ref q3, .ref q4, .ref q5, .null, .null, .null, .int 0])), (q0, .inl (cI, 30, .inl (fun _ => 0))), (q1, .inl (cI, 30, .inl (fun _ => 0))), (q2, .inl (cI, 30, .inl (fun _ => 0))), (q3, .inl (cI, 30, .inl (fun _ => 0))), (q4, .inl (cI, 30, .inl (fun _ => 0))), (q5, .inl (cI, 30, .inl (fun _ => 0)))] := hD
  refine lv_aload_n hx hb dAs_init_52 rfl (lv_at hl 0 rfl) ?_
  refine lv_bipush (v := (30 : Int32)) hx hb dAs_init_53 (by decide) ?_
  refine va_newa (atype := .int) (n := (30 : Int32)) (N' := 30) (a0 := (30, .inl (fun _ => 0))) (ty := .int) hx hb (hG _ mw_49) rfl hK hP hD hS hA (gz_nI 30) (by decide) (by decide) (by decide) (Nat.le_of_ble_eq_true rfl) (Nat.le_of_ble_eq_true rfl) dAs_init_55 (fun q6 cA H hK1 hP hD hS => ?_)
  have hcA : cI = cA := (gz_uniq hK1 (k := 0) rfl (fun _ => by simp)).symm
  subst hcA
  have hP : va_P D vwCl [(h0, .inr (3, [.ref q0, .ref q1, .ref q2, .ref q3, .ref q4, .ref q5, .null, .null, .null, .int 0])), (q0, .inl (cI, 30, .inl (fun _ => 0))), (q1, .inl (cI, 30, .inl (fun _ => 0))), (q2, .inl (cI, 30, .inl (fun _ => 0))), (q3, .inl (cI, 30, .inl (fun _ => 0))), (q4, .inl (cI, 30, .inl (fun _ => 0))), (q5, .inl (cI, 30, .inl (fun _ => 0))), (q6, .inl (cI, 30, .inl (fun _ => 0)))] H := hP
  have hD : va_D A [(h0, .inr (3, [.ref q0, .ref q1, .ref q2, .ref q3, .ref q4, .ref q5, .null, .null, .null, .int 0])), (q0, .inl (cI, 30, .inl (fun _ => 0))), (q1, .inl (cI, 30, .inl (fun _ => 0))), (q2, .inl (cI, 30, .inl (fun _ => 0))), (q3, .inl (cI, 30, .inl (fun _ => 0))), (q4, .inl (cI, 30, .inl (fun _ => 0))), (q5, .inl (cI, 30, .inl (fun _ => 0))), (q6, .inl (cI, 30, .inl (fun _ => 0)))] := hD
  refine va_putF (D := D) (ci := 3) (v := .ref q6) (ty := .array .int) (C := RAs) (T := TAs) (N := 10) hx hb hG inAs tyAs tyAs_ok nmAs hown hK hP hD hS 0 rfl rfl 6 (by decide) (hG _ mw_97) (fun _ h9 => h9) rfl hin rfl (by decide +kernel) rfl rfl (Nat.le_of_ble_eq_true rfl) dAs_init_57 (fun H locs hP hD hS => ?_)
  have hP : va_P D vwCl [(h0, .inr (3, [.ref q0, .ref q1, .ref q2, .ref q3, .ref q4, .ref q5, .ref q6, .null, .null, .int 0])), (q0, .inl (cI, 30, .inl (fun _ => 0))), (q1, .inl (cI, 30, .inl (fun _ => 0))), (q2, .inl (cI, 30, .inl (fun _ => 0))), (q3, .inl (cI, 30, .inl (fun _ => 0))), (q4, .inl (cI, 30, .inl (fun _ => 0))), (q5, .inl (cI, 30, .inl (fun _ => 0))), (q6, .inl (cI, 30, .inl (fun _ => 0)))] H := hP
  have hD : va_D A [(h0, .inr (3, [.ref q0, .ref q1, .ref q2, .ref q3, .ref q4, .ref q5, .ref q6, .null, .null, .int 0])), (q0, .inl (cI, 30, .inl (fun _ => 0))), (q1, .inl (cI, 30, .inl (fun _ => 0))), (q2, .inl (cI, 30, .inl (fun _ => 0))), (q3, .inl (cI, 30, .inl (fun _ => 0))), (q4, .inl (cI, 30, .inl (fun _ => 0))), (q5, .inl (cI, 30, .inl (fun _ => 0))), (q6, .inl (cI, 30, .inl (fun _ => 0)))] := hD
  refine lv_aload_n hx hb dAs_init_60 rfl (lv_at hl 0 rfl) ?_
  refine lv_bipush (v := (30 : Int32)) hx hb dAs_init_61 (by decide) ?_
  refine va_newa (atype := .int) (n := (30 : Int32)) (N' := 30) (a0 := (30, .inl (fun _ => 0))) (ty := .int) hx hb (hG _ mw_49) rfl hK hP hD hS hA (gz_nI 30) (by decide) (by decide) (by decide) (Nat.le_of_ble_eq_true rfl) (Nat.le_of_ble_eq_true rfl) dAs_init_63 (fun q7 cA H hK1 hP hD hS => ?_)
  have hcA : cI = cA := (gz_uniq hK1 (k := 0) rfl (fun _ => by simp)).symm
  subst hcA
  have hP : va_P D vwCl [(h0, .inr (3, [.ref q0, .ref q1, .ref q2, .ref q3, .ref q4, .ref q5, .ref q6, .null, .null, .int 0])), (q0, .inl (cI, 30, .inl (fun _ => 0))), (q1, .inl (cI, 30, .inl (fun _ => 0))), (q2, .inl (cI, 30, .inl (fun _ => 0))), (q3, .inl (cI, 30, .inl (fun _ => 0))), (q4, .inl (cI, 30, .inl (fun _ => 0))), (q5, .inl (cI, 30, .inl (fun _ => 0))), (q6, .inl (cI, 30, .inl (fun _ => 0))), (q7, .inl (cI, 30, .inl (fun _ => 0)))] H := hP
  have hD : va_D A [(h0, .inr (3, [.ref q0, .ref q1, .ref q2, .ref q3, .ref q4, .ref q5, .ref q6, .null, .null, .int 0])), (q0, .inl (cI, 30, .inl (fun _ => 0))), (q1, .inl (cI, 30, .inl (fun _ => 0))), (q2, .inl (cI, 30, .inl (fun _ => 0))), (q3, .inl (cI, 30, .inl (fun _ => 0))), (q4, .inl (cI, 30, .inl (fun _ => 0))), (q5, .inl (cI, 30, .inl (fun _ => 0))), (q6, .inl (cI, 30, .inl (fun _ => 0))), (q7, .inl (cI, 30, .inl (fun _ => 0)))] := hD
  refine va_putF (D := D) (ci := 3) (v := .ref q7) (ty := .array .int) (C := RAs) (T := TAs) (N := 10) hx hb hG inAs tyAs tyAs_ok nmAs hown hK hP hD hS 0 rfl rfl 7 (by decide) (hG _ mw_99) (fun _ h9 => h9) rfl hin rfl (by decide +kernel) rfl rfl (Nat.le_of_ble_eq_true rfl) dAs_init_65 (fun H locs hP hD hS => ?_)
  have hP : va_P D vwCl [(h0, .inr (3, [.ref q0, .ref q1, .ref q2, .ref q3, .ref q4, .ref q5, .ref q6, .ref q7, .null, .int 0])), (q0, .inl (cI, 30, .inl (fun _ => 0))), (q1, .inl (cI, 30, .inl (fun _ => 0))), (q2, .inl (cI, 30, .inl (fun _ => 0))), (q3, .inl (cI, 30, .inl (fun _ => 0))), (q4, .inl (cI, 30, .inl (fun _ => 0))), (q5, .inl (cI, 30, .inl (fun _ => 0))), (q6, .inl (cI, 30, .inl (fun _ => 0))), (q7, .inl (cI, 30, .inl (fun _ => 0)))] H := hP
  have hD : va_D A [(h0, .inr (3, [.ref q0, .ref q1, .ref q2, .ref q3, .ref q4, .ref q5, .ref q6, .ref q7, .null, .int 0])), (q0, .inl (cI, 30, .inl (fun _ => 0))), (q1, .inl (cI, 30, .inl (fun _ => 0))), (q2, .inl (cI, 30, .inl (fun _ => 0))), (q3, .inl (cI, 30, .inl (fun _ => 0))), (q4, .inl (cI, 30, .inl (fun _ => 0))), (q5, .inl (cI, 30, .inl (fun _ => 0))), (q6, .inl (cI, 30, .inl (fun _ => 0))), (q7, .inl (cI, 30, .inl (fun _ => 0)))] := hD
  refine lv_aload_n hx hb dAs_init_68 rfl (lv_at hl 0 rfl) ?_
  refine lv_bipush (v := (30 : Int32)) hx hb dAs_init_69 (by decide) ?_
  refine va_newa (atype := .boolean) (n := (30 : Int32)) (N' := 30) (a0 := (30, .inl (fun _ => 0))) (ty := .boolean) hx hb (hG _ mw_50) rfl hK hP hD hS hA (gz_nZ 30) (by decide) (by decide) (by decide) (Nat.le_of_ble_eq_true rfl) (Nat.le_of_ble_eq_true rfl) dAs_init_71 (fun q8 cA H hK1 hP hD hS => ?_)
  have hcA : cZ = cA := (gz_uniq hK1 (k := 1) rfl (fun _ => by simp)).symm
  subst hcA
  have hP : va_P D vwCl [(h0, .inr (3, [.ref q0, .ref q1, .ref q2, .ref q3, .ref q4, .ref q5, .ref q6, .ref q7, .null, .int 0])), (q0, .inl (cI, 30, .inl (fun _ => 0))), (q1, .inl (cI, 30, .inl (fun _ => 0))), (q2, .inl (cI, 30, .inl (fun _ => 0))), (q3, .inl (cI, 30, .inl (fun _ => 0))), (q4, .inl (cI, 30, .inl (fun _ => 0))), (q5, .inl (cI, 30, .inl (fun _ => 0))), (q6, .inl (cI, 30, .inl (fun _ => 0))), (q7, .inl (cI, 30, .inl (fun _ => 0))), (q8, .inl (cZ, 30, .inl (fun _ => 0)))] H := hP
  have hD : va_D A [(h0, .inr (3, [.ref q0, .ref q1, .ref q2, .ref q3, .ref q4, .ref q5, .ref q6, .ref q7, .null, .int 0])), (q0, .inl (cI, 30, .inl (fun _ => 0))), (q1, .inl (cI, 30, .inl (fun _ => 0))), (q2, .inl (cI, 30, .inl (fun _ => 0))), (q3, .inl (cI, 30, .inl (fun _ => 0))), (q4, .inl (cI, 30, .inl (fun _ => 0))), (q5, .inl (cI, 30, .inl (fun _ => 0))), (q6, .inl (cI, 30, .inl (fun _ => 0))), (q7, .inl (cI, 30, .inl (fun _ => 0))), (q8, .inl (cZ, 30, .inl (fun _ => 0)))] := hD
  refine va_putF (D := D) (ci := 3) (v := .ref q8) (ty := .array .boolean) (C := RAs) (T := TAs) (N := 10) hx hb hG inAs tyAs tyAs_ok nmAs hown hK hP hD hS 0 rfl rfl 8 (by decide) (hG _ mw_100) (fun _ h9 => h9) rfl hin rfl (by decide +kernel) rfl rfl (Nat.le_of_ble_eq_true rfl) dAs_init_73 (fun H locs hP hD hS => ?_)
  have hP : va_P D vwCl [(h0, .inr (3, [.ref q0, .ref q1, .ref q2, .ref q3, .ref q4, .ref q5, .ref q6, .ref q7, .ref q8, .int 0])), (q0, .inl (cI, 30, .inl (fun _ => 0))), (q1, .inl (cI, 30, .inl (fun _ => 0))), (q2, .inl (cI, 30, .inl (fun _ => 0))), (q3, .inl (cI, 30, .inl (fun _ => 0))), (q4, .inl (cI, 30, .inl (fun _ => 0))), (q5, .inl (cI, 30, .inl (fun _ => 0))), (q6, .inl (cI, 30, .inl (fun _ => 0))), (q7, .inl (cI, 30, .inl (fun _ => 0))), (q8, .inl (cZ, 30, .inl (fun _ => 0)))] H := hP
  have hD : va_D A [(h0, .inr (3, [.ref q0, .ref q1, .ref q2, .ref q3, .ref q4, .ref q5, .ref q6, .ref q7, .ref q8, .int 0])), (q0, .inl (cI, 30, .inl (fun _ => 0))), (q1, .inl (cI, 30, .inl (fun _ => 0))), (q2, .inl (cI, 30, .inl (fun _ => 0))), (q3, .inl (cI, 30, .inl (fun _ => 0))), (q4, .inl (cI, 30, .inl (fun _ => 0))), (q5, .inl (cI, 30, .inl (fun _ => 0))), (q6, .inl (cI, 30, .inl (fun _ => 0))), (q7, .inl (cI, 30, .inl (fun _ => 0))), (q8, .inl (cZ, 30, .inl (fun _ => 0)))] := hD
  refine W.widen (k := 9) (n := 270) (by omega) (by omega) ?_
  exact W.vret hx hb hr (fun t ht hW => ⟨⟨(fun k => [q0, q1, q2, q3, q4, q5, q6, q7, q8].getD k 0), rfl, trivial, by rw [ht]; exact hP, hD⟩, hS.F ht⟩) hS.2.2 dAs_init_76
def wI_Lo (cI cZ cJ : ClassId) (h0 : Nat) (a : Nat → Nat) : va_W := [(h0, .inr (4, [.ref (a 0), .ref (a 1), .ref (a 2), .ref (a 3), .ref (a 4), .ref (a 5), .int 0])), (a 0, .inl (cI, 100, .inl (fun _ => 0))), (a 1, .inl (cI, 100, .inl (fun _ => 0))), (a 2, .inl (cI, 100, .inl (fun _ => 0))), (a 3, .inl (cI, 100, .inl (fun _ => 0))), (a 4, .inl (cI, 100, .inl (fun _ => 0))), (a 5, .inl (cI, 100, .inl (fun _ => 0)))]
set_option maxHeartbeats 4000000 in
set_option maxRecDepth 100000 in
theorem c_Lo_init (l : Launch) (D : va_G) (cI cZ cJ : ClassId) (h0 sz : Nat) : Met l yLo_init (Cond.code yLo_init cLo_init 1 none :: gG) ({ frames := 1, cells := 6, slots := 600, locals := 12 } : Room) (gz_Pc D (tA cI cZ cJ) [(h0, .inr (4, [.null, .null, .null, .null, .null, .null, .int 0]))] sz [.ref h0]) (va_Qv (fun _ : Nat → Nat => True) (fun a t => va_P D vwCl (wI_Lo cI cZ cJ h0 a) t.heap ∧ va_D (va_A [(h0, .inr (4, [.null, .null, .null, .null, .null, .null, .int 0]))] sz) (wI_Lo cI cZ cJ h0 a)) (va_A [(h0, .inr (4, [.null, .null, .null, .null, .null, .null, .int 0]))] sz)) 6 600 (va_A [(h0, .inr (4, [.null, .null, .null, .null, .null, .null, .int 0]))] sz) := by
  refine Met.ofW (cc := cLo_init) (maxL := 1) (ret := none) (by decide) rfl ?_
  intro p e s m args below meth c s₁ B hml hv
  obtain ⟨rfl, hsz, hP, hK, hD0, hN⟩ := hv
  have hx := B.exec
  have hb := B.bytes
  have hr := B.returns
  have hts := atoms_spec (ws := Cond.code yLo_init cLo_init 1 none :: gG) B.pre
  have hG : ∀ w ∈ gG, w.before _ s = true := fun w h => hts w (List.mem_cons_of_mem _ h)
  have hown : s.vm.findClass "AidRows$Loans" = some m.cls := findClass_of_methodNamed B.named
  have hlocks := B.notSynchronized
  have hin : meth.name = "<init>" := (name_of_methodNamed B.named B.method).1
  subst hsz
  have hD := hD0.self (sz := s.heap.size)
  generalize hAe : va_A [(h0, .inr (4, [.null, .null, .null, .null, .null, .null, .int 0]))] s.heap.size = A at hD ⊢
  have hA : ∀ q : Nat, s.heap.size ≤ q → A q := fun q h => by rw [← hAe]; exact Or.inr h
  have hS : va_S A s.heap s.heap [] := va_S.rf
  have hl := lv_entry ([.ref h0]) (n := 1) (Nat.le_of_ble_eq_true rfl)
  rw [lg_entry_eq]
  generalize (lg_sl ([.ref h0]) ++ List.replicate (1 - (lg_sl ([.ref h0])).length) Slot.unset).toArray = ls at hl ⊢
  have hl : lv_has ls 1 [(0, .ref h0)] := hl
  refine lv_aload_n hx hb dLo_init_0 rfl (lv_at hl 0 rfl) ?_
  refine W.objInit hx hb hown (hG _ mw_130) (hG _ mw_24) (hG _ mw_25) rfl (by rw [hml]; exact hl.1) rfl dLo_init_1 (Nat.le_of_ble_eq_true rfl) (Nat.le_of_ble_eq_true rfl) ?_
  refine W.eq (g2 := F0 m 4 ls []) rfl ?_
  refine lv_aload_n hx hb dLo_init_4 rfl (lv_at hl 0 rfl) ?_
  refine lv_bipush (v := (100 : Int32)) hx hb dLo_init_5 (by decide) ?_
  refine va_newa (atype := .int) (n := (100 : Int32)) (N' := 100) (a0 := (100, .inl (fun _ => 0))) (ty := .int) hx hb (hG _ mw_49) rfl hK hP hD hS hA (gz_nI 100) (by decide) (by decide) (by decide) (Nat.le_of_ble_eq_true rfl) (Nat.le_of_ble_eq_true rfl) dLo_init_7 (fun q0 cA H hK1 hP hD hS => ?_)
  have hcA : cI = cA := (gz_uniq hK1 (k := 0) rfl (fun _ => by simp)).symm
  subst hcA
  have hP : va_P D vwCl [(h0, .inr (4, [.null, .null, .null, .null, .null, .null, .int 0])), (q0, .inl (cI, 100, .inl (fun _ => 0)))] H := hP
  have hD : va_D A [(h0, .inr (4, [.null, .null, .null, .null, .null, .null, .int 0])), (q0, .inl (cI, 100, .inl (fun _ => 0)))] := hD
  refine va_putF (D := D) (ci := 4) (v := .ref q0) (ty := .array .int) (C := RLo) (T := TLo) (N := 7) hx hb hG inLo tyLo tyLo_ok nmLo hown hK hP hD hS 0 rfl rfl 0 (by decide) (hG _ mw_131) (fun _ h9 => h9) rfl hin rfl (by decide +kernel) rfl rfl (Nat.le_of_ble_eq_true rfl) dLo_init_9 (fun H locs hP hD hS => ?_)
  have hP : va_P D vwCl [(h0, .inr (4, [.ref q0, .null, .null, .null, .null, .null, .int 0])), (q0, .inl (cI, 100, .inl (fun _ => 0)))] H := hP
  have hD : va_D A [(h0, .inr (4, [.ref q0, .null, .null, .null, .null, .null, .int 0])), (q0, .inl (cI, 100, .inl (fun _ => 0)))] := hD
  refine lv_aload_n hx hb dLo_init_12 rfl (lv_at hl 0 rfl) ?_
  refine lv_bipush (v := (100 : Int32)) hx hb dLo_init_13 (by decide) ?_
  refine va_newa (atype := .int) (n := (100 : Int32)) (N' := 100) (a0 := (100, .inl (fun _ => 0))) (ty := .int) hx hb (hG _ mw_49) rfl hK hP hD hS hA (gz_nI 100) (by decide) (by decide) (by decide) (Nat.le_of_ble_eq_true rfl) (Nat.le_of_ble_eq_true rfl) dLo_init_15 (fun q1 cA H hK1 hP hD hS => ?_)
  have hcA : cI = cA := (gz_uniq hK1 (k := 0) rfl (fun _ => by simp)).symm
  subst hcA
  have hP : va_P D vwCl [(h0, .inr (4, [.ref q0, .null, .null, .null, .null, .null, .int 0])), (q0, .inl (cI, 100, .inl (fun _ => 0))), (q1, .inl (cI, 100, .inl (fun _ => 0)))] H := hP
  have hD : va_D A [(h0, .inr (4, [.ref q0, .null, .null, .null, .null, .null, .int 0])), (q0, .inl (cI, 100, .inl (fun _ => 0))), (q1, .inl (cI, 100, .inl (fun _ => 0)))] := hD
  refine va_putF (D := D) (ci := 4) (v := .ref q1) (ty := .array .int) (C := RLo) (T := TLo) (N := 7) hx hb hG inLo tyLo tyLo_ok nmLo hown hK hP hD hS 0 rfl rfl 1 (by decide) (hG _ mw_133) (fun _ h9 => h9) rfl hin rfl (by decide +kernel) rfl rfl (Nat.le_of_ble_eq_true rfl) dLo_init_17 (fun H locs hP hD hS => ?_)
  have hP : va_P D vwCl [(h0, .inr (4, [.ref q0, .ref q1, .null, .null, .null, .null, .int 0])), (q0, .inl (cI, 100, .inl (fun _ => 0))), (q1, .inl (cI, 100, .inl (fun _ => 0)))] H := hP
  have hD : va_D A [(h0, .inr (4, [.ref q0, .ref q1, .null, .null, .null, .null, .int 0])), (q0, .inl (cI, 100, .inl (fun _ => 0))), (q1, .inl (cI, 100, .inl (fun _ => 0)))] := hD
  refine lv_aload_n hx hb dLo_init_20 rfl (lv_at hl 0 rfl) ?_
  refine lv_bipush (v := (100 : Int32)) hx hb dLo_init_21 (by decide) ?_
  refine va_newa (atype := .int) (n := (100 : Int32)) (N' := 100) (a0 := (100, .inl (fun _ => 0))) (ty := .int) hx hb (hG _ mw_49) rfl hK hP hD hS hA (gz_nI 100) (by decide) (by decide) (by decide) (Nat.le_of_ble_eq_true rfl) (Nat.le_of_ble_eq_true rfl) dLo_init_23 (fun q2 cA H hK1 hP hD hS => ?_)
  have hcA : cI = cA := (gz_uniq hK1 (k := 0) rfl (fun _ => by simp)).symm
  subst hcA
  have hP : va_P D vwCl [(h0, .inr (4, [.ref q0, .ref q1, .null, .null, .null, .null, .int 0])), (q0, .inl (cI, 100, .inl (fun _ => 0))), (q1, .inl (cI, 100, .inl (fun _ => 0))), (q2, .inl (cI, 100, .inl (fun _ => 0)))] H := hP
  have hD : va_D A [(h0, .inr (4, [.ref q0, .ref q1, .null, .null, .null, .null, .int 0])), (q0, .inl (cI, 100, .inl (fun _ => 0))), (q1, .inl (cI, 100, .inl (fun _ => 0))), (q2, .inl (cI, 100, .inl (fun _ => 0)))] := hD
  refine va_putF (D := D) (ci := 4) (v := .ref q2) (ty := .array .int) (C := RLo) (T := TLo) (N := 7) hx hb hG inLo tyLo tyLo_ok nmLo hown hK hP hD hS 0 rfl rfl 2 (by decide) (hG _ mw_135) (fun _ h9 => h9) rfl hin rfl (by decide +kernel) rfl rfl (Nat.le_of_ble_eq_true rfl) dLo_init_25 (fun H locs hP hD hS => ?_)
  have hP : va_P D vwCl [(h0, .inr (4, [.ref q0, .ref q1, .ref q2, .null, .null, .null, .int 0])), (q0, .inl (cI, 100, .inl (fun _ => 0))), (q1, .inl (cI, 100, .inl (fun _ => 0))), (q2, .inl (cI, 100, .inl (fun _ => 0)))] H := hP
  have hD : va_D A [(h0, .inr (4, [.ref q0, .ref q1, .ref q2, .null, .null, .null, .int 0])), (q0, .inl (cI, 100, .inl (fun _ => 0))), (q1, .inl (cI, 100, .inl (fun _ => 0))), (q2, .inl (cI, 100, .inl (fun _ => 0)))] := hD
  refine lv_aload_n hx hb dLo_init_28 rfl (lv_at hl 0 rfl) ?_
  refine lv_bipush (v := (100 : Int32)) hx hb dLo_init_29 (by decide) ?_
  refine va_newa (atype := .int) (n := (100 : Int32)) (N' := 100) (a0 := (100, .inl (fun _ => 0))) (ty := .int) hx hb (hG _ mw_49) rfl hK hP hD hS hA (gz_nI 100) (by decide) (by decide) (by decide) (Nat.le_of_ble_eq_true rfl) (Nat.le_of_ble_eq_true rfl) dLo_init_31 (fun q3 cA H hK1 hP hD hS => ?_)
  have hcA : cI = cA := (gz_uniq hK1 (k := 0) rfl (fun _ => by simp)).symm
  subst hcA
  have hP : va_P D vwCl [(h0, .inr (4, [.ref q0, .ref q1, .ref q2, .null, .null, .null, .int 0])), (q0, .inl (cI, 100, .inl (fun _ => 0))), (q1, .inl (cI, 100, .inl (fun _ => 0))), (q2, .inl (cI, 100, .inl (fun _ => 0))), (q3, .inl (cI, 100, .inl (fun _ => 0)))] H := hP
  have hD : va_D A [(h0, .inr (4, [.ref q0, .ref q1, .ref q2, .null, .null, .null, .int 0])), (q0, .inl (cI, 100, .inl (fun _ => 0))), (q1, .inl (cI, 100, .inl (fun _ => 0))), (q2, .inl (cI, 100, .inl (fun _ => 0))), (q3, .inl (cI, 100, .inl (fun _ => 0)))] := hD
  refine va_putF (D := D) (ci := 4) (v := .ref q3) (ty := .array .int) (C := RLo) (T := TLo) (N := 7) hx hb hG inLo tyLo tyLo_ok nmLo hown hK hP hD hS 0 rfl rfl 3 (by decide) (hG _ mw_137) (fun _ h9 => h9) rfl hin rfl (by decide +kernel) rfl rfl (Nat.le_of_ble_eq_true rfl) dLo_init_33 (fun H locs hP hD hS => ?_)
  have hP : va_P D vwCl [(h0, .inr (4, [.ref q0, .ref q1, .ref q2, .ref q3, .null, .null, .int 0])), (q0, .inl (cI, 100, .inl (fun _ => 0))), (q1, .inl (cI, 100, .inl (fun _ => 0))), (q2, .inl (cI, 100, .inl (fun _ => 0))), (q3, .inl (cI, 100, .inl (fun _ => 0)))] H := hP
  have hD : va_D A [(h0, .inr (4, [.ref q0, .ref q1, .ref q2, .ref q3, .null, .null, .int 0])), (q0, .inl (cI, 100, .inl (fun _ => 0))), (q1, .inl (cI, 100, .inl (fun _ => 0))), (q2, .inl (cI, 100, .inl (fun _ => 0))), (q3, .inl (cI, 100, .inl (fun _ => 0)))] := hD
  refine lv_aload_n hx hb dLo_init_36 rfl (lv_at hl 0 rfl) ?_
  refine lv_bipush (v := (100 : Int32)) hx hb dLo_init_37 (by decide) ?_
  refine va_newa (atype := .int) (n := (100 : Int32)) (N' := 100) (a0 := (100, .inl (fun _ => 0))) (ty := .int) hx hb (hG _ mw_49) rfl hK hP hD hS hA (gz_nI 100) (by decide) (by decide) (by decide) (Nat.le_of_ble_eq_true rfl) (Nat.le_of_ble_eq_true rfl) dLo_init_39 (fun q4 cA H hK1 hP hD hS => ?_)
  have hcA : cI = cA := (gz_uniq hK1 (k := 0) rfl (fun _ => by simp)).symm
  subst hcA
  have hP : va_P D vwCl [(h0, .inr (4, [.ref q0, .ref q1, .ref q2, .ref q3, .null, .null, .int 0])), (q0, .inl (cI, 100, .inl (fun _ => 0))), (q1, .inl (cI, 100, .inl (fun _ => 0))), (q2, .inl (cI, 100, .inl (fun _ => 0))), (q3, .inl (cI, 100, .inl (fun _ => 0))), (q4, .inl (cI, 100, .inl (fun _ => 0)))] H := hP
  have hD : va_D A [(h0, .inr (4, [.ref q0, .ref q1, .ref q2, .ref q3, .null, .null, .int 0])), (q0, .inl (cI, 100, .inl (fun _ => 0))), (q1, .inl (cI, 100, .inl (fun _ => 0))), (q2, .inl (cI, 100, .inl (fun _ => 0))), (q3, .inl (cI, 100, .inl (fun _ => 0))), (q4, .inl (cI, 100, .inl (fun _ => 0)))] := hD
  refine va_putF (D := D) (ci := 4) (v := .ref q4) (ty := .array .int) (C := RLo) (T := TLo) (N := 7) hx hb hG inLo tyLo tyLo_ok nmLo hown hK hP hD hS 0 rfl rfl 4 (by decide) (hG _ mw_139) (fun _ h9 => h9) rfl hin rfl (by decide +kernel) rfl rfl (Nat.le_of_ble_eq_true rfl) dLo_init_41 (fun H locs hP hD hS => ?_)
  have hP : va_P D vwCl [(h0, .inr (4, [.ref q0, .ref q1, .ref q2, .ref q3, .ref q4, .null, .int 0])), (q0, .inl (cI, 100, .inl (fun _ => 0))), (q1, .inl (cI, 100, .inl (fun _ => 0))), (q2, .inl (cI, 100, .inl (fun _ => 0))), (q3, .inl (cI, 100, .inl (fun _ => 0))), (q4, .inl (cI, 100, .inl (fun _ => 0)))] H := hP
  have hD : va_D A [(h0, .inr (4, [.ref q0, .ref q1, .ref q2, .ref q3, .ref q4, .null, .int 0])), (q0, .inl (cI, 100, .inl (fun _ => 0))), (q1, .inl (cI, 100, .inl (fun _ => 0))), (q2, .inl (cI, 100, .inl (fun _ => 0))), (q3, .inl (cI, 100, .inl (fun _ => 0))), (q4, .inl (cI, 100, .inl (fun _ => 0)))] := hD
  refine lv_aload_n hx hb dLo_init_44 rfl (lv_at hl 0 rfl) ?_
  refine lv_bipush (v := (100 : Int32)) hx hb dLo_init_45 (by decide) ?_
  refine va_newa (atype := .int) (n := (100 : Int32)) (N' := 100) (a0 := (100, .inl (fun _ => 0))) (ty := .int) hx hb (hG _ mw_49) rfl hK hP hD hS hA (gz_nI 100) (by decide) (by decide) (by decide) (Nat.le_of_ble_eq_true rfl) (Nat.le_of_ble_eq_true rfl) dLo_init_47 (fun q5 cA H hK1 hP hD hS => ?_)
  have hcA : cI = cA := (gz_uniq hK1 (k := 0) rfl (fun _ => by simp)).symm
  subst hcA
  have hP : va_P D vwCl [(h0, .inr (4, [.ref q0, .ref q1, .ref q2, .ref q3, .ref q4, .null, .int 0])), (q0, .inl (cI, 100, .inl (fun _ => 0))), (q1, .inl (cI, 100, .inl (fun _ => 0))), (q2, .inl (cI, 100, .inl (fun _ => 0))), (q3, .inl (cI, 100, .inl (fun _ => 0))), (q4, .inl (cI, 100, .inl (fun _ => 0))), (q5, .inl (cI, 100, .inl (fun _ => 0)))] H := hP
  have hD : va_D A [(h0, .inr (4, [.ref q0, .ref q1, .ref q2, .ref q3, .ref q4, .null, .int 0])), (q0, .inl (cI, 100, .inl (fun _ => 0))), (q1, .inl (cI, 100, .inl (fun _ => 0))), (q2, .inl (cI, 100, .inl (fun _ => 0))), (q3, .inl (cI, 100, .inl (fun _ => 0))), (q4, .inl (cI, 100, .inl (fun _ => 0))), (q5, .inl (cI, 100, .inl (fun _ => 0)))] := hD
  refine va_putF (D := D) (ci := 4) (v := .ref q5) (ty := .array .int) (C := RLo) (T := TLo) (N := 7) hx hb hG inLo tyLo tyLo_ok nmLo hown hK hP hD hS 0 rfl rfl 5 (by decide) (hG _ mw_141) (fun _ h9 => h9) rfl hin rfl (by decide +kernel) rfl rfl (Nat.le_of_ble_eq_true rfl) dLo_init_49 (fun H locs hP hD hS => ?_)
  have hP : va_P D vwCl [(h0, .inr (4, [.ref q0, .ref q1, .ref q2, .ref q3, .ref q4, .ref q5, .int 0])), (q0, .inl (cI, 100, .inl (fun _ => 0))), (q1, .inl (cI, 100, .inl (fun _ => 0))), (q2, .inl (cI, 100, .inl (fun _ => 0))), (q3, .inl (cI, 100, .inl (fun _ => 0))), (q4, .inl (cI, 100, .inl (fun _ => 0))), (q5, .inl (cI, 100, .inl (fun _ => 0)))] H := hP
  have hD : va_D A [(h0, .inr (4, [.ref q0, .ref q1, .ref q2, .ref q3, .ref q4, .ref q5, .int 0])), (q0, .inl (cI, 100, .inl (fun _ => 0))), (q1, .inl (cI, 100, .inl (fun _ => 0))), (q2, .inl (cI, 100, .inl (fun _ => 0))), (q3, .inl (cI, 100, .inl (fun _ => 0))), (q4, .inl (cI, 100, .inl (fun _ => 0))), (q5, .inl (cI, 100, .inl (fun _ => 0)))] := hD
  refine W.widen (k := 6) (n := 600) (by omega) (by omega) ?_
  exact W.vret hx hb hr (fun t ht hW => ⟨⟨(fun k => [q0, q1, q2, q3, q4, q5].getD k 0), rfl, trivial, by rw [ht]; exact hP, hD⟩, hS.F ht⟩) hS.2.2 dLo_init_52
def wI_Nu (cI cZ cJ : ClassId) (h0 : Nat) (a : Nat → Nat) : va_W := [(h0, .inr (5, [.ref (a 0)])), (a 0, .inl (cJ, 500, .inr (.inl (fun _ => 0))))]
set_option maxHeartbeats 4000000 in
set_option maxRecDepth 100000 in
theorem c_Nu_init (l : Launch) (D : va_G) (cI cZ cJ : ClassId) (h0 sz : Nat) : Met l yNu_init (Cond.code yNu_init cNu_init 1 none :: gG) ({ frames := 1, cells := 1, slots := 500, locals := 12 } : Room) (gz_Pc D (tA cI cZ cJ) [(h0, .inr (5, [.null]))] sz [.ref h0]) (va_Qv (fun _ : Nat → Nat => True) (fun a t => va_P D vwCl (wI_Nu cI cZ cJ h0 a) t.heap ∧ va_D (va_A [(h0, .inr (5, [.null]))] sz) (wI_Nu cI cZ cJ h0 a)) (va_A [(h0, .inr (5, [.null]))] sz)) 1 500 (va_A [(h0, .inr (5, [.null]))] sz) := by
  refine Met.ofW (cc := cNu_init) (maxL := 1) (ret := none) (by decide) rfl ?_
  intro p e s m args below meth c s₁ B hml hv
  obtain ⟨rfl, hsz, hP, hK, hD0, hN⟩ := hv
  have hx := B.exec
  have hb := B.bytes
  have hr := B.returns
  have hts := atoms_spec (ws := Cond.code yNu_init cNu_init 1 none :: gG) B.pre
  have hG : ∀ w ∈ gG, w.before _ s = true := fun w h => hts w (List.mem_cons_of_mem _ h)
  have hown : s.vm.findClass "AidRows$Numbers" = some m.cls := findClass_of_methodNamed B.named
  have hlocks := B.notSynchronized
  have hin : meth.name = "<init>" := (name_of_methodNamed B.named B.method).1
  subst hsz
  have hD := hD0.self (sz := s.heap.size)
  generalize hAe : va_A [(h0, .inr (5, [.null]))] s.heap.size = A at hD ⊢
  have hA : ∀ q : Nat, s.heap.size ≤ q → A q := fun q h => by rw [← hAe]; exact Or.inr h
  have hS : va_S A s.heap s.heap [] := va_S.rf
  have hl := lv_entry ([.ref h0]) (n := 1) (Nat.le_of_ble_eq_true rfl)
  rw [lg_entry_eq]
  generalize (lg_sl ([.ref h0]) ++ List.replicate (1 - (lg_sl ([.ref h0])).length) Slot.unset).toArray = ls at hl ⊢
  have hl : lv_has ls 1 [(0, .ref h0)] := hl
  refine lv_aload_n hx hb dNu_init_0 rfl (lv_at hl 0 rfl) ?_
  refine W.objInit hx hb hown (hG _ mw_165) (hG _ mw_24) (hG _ mw_25) rfl (by rw [hml]; exact hl.1) rfl dNu_init_1 (Nat.le_of_ble_eq_true rfl) (Nat.le_of_ble_eq_true rfl) ?_
  refine W.eq (g2 := F0 m 4 ls []) rfl ?_
  refine lv_aload_n hx hb dNu_init_4 rfl (lv_at hl 0 rfl) ?_
  refine lv_sipush (v := (500 : Int32)) hx hb dNu_init_5 (by decide) ?_
  refine va_newa (atype := .long) (n := (500 : Int32)) (N' := 500) (a0 := (500, .inr (.inl (fun _ => 0)))) (ty := .long) hx hb (hG _ mw_170) rfl hK hP hD hS hA (gz_nJ 500) (by decide) (by decide) (by decide) (Nat.le_of_ble_eq_true rfl) (Nat.le_of_ble_eq_true rfl) dNu_init_8 (fun q0 cA H hK1 hP hD hS => ?_)
  have hcA : cJ = cA := (gz_uniq hK1 (k := 2) rfl (fun _ => by simp)).symm
  subst hcA
  have hP : va_P D vwCl [(h0, .inr (5, [.null])), (q0, .inl (cJ, 500, .inr (.inl (fun _ => 0))))] H := hP
  have hD : va_D A [(h0, .inr (5, [.null])), (q0, .inl (cJ, 500, .inr (.inl (fun _ => 0))))] := hD
  refine va_putF (D := D) (ci := 5) (v := .ref q0) (ty := .array .long) (C := RNu) (T := TNu) (N := 1) hx hb hG inNu tyNu tyNu_ok nmNu hown hK hP hD hS 0 rfl rfl 0 (by decide) (hG _ mw_166) (fun _ h9 => h9) rfl hin rfl (by decide +kernel) rfl rfl (Nat.le_of_ble_eq_true rfl) dNu_init_10 (fun H locs hP hD hS => ?_)
  have hP : va_P D vwCl [(h0, .inr (5, [.ref q0])), (q0, .inl (cJ, 500, .inr (.inl (fun _ => 0))))] H := hP
  have hD : va_D A [(h0, .inr (5, [.ref q0])), (q0, .inl (cJ, 500, .inr (.inl (fun _ => 0))))] := hD
  refine W.widen (k := 1) (n := 500) (by omega) (by omega) ?_
  exact W.vret hx hb hr (fun t ht hW => ⟨⟨(fun k => [q0].getD k 0), rfl, trivial, by rw [ht]; exact hP, hD⟩, hS.F ht⟩) hS.2.2 dNu_init_13
