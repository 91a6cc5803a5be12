def gx_strs : List (Nat × String) := [(60, "rank or price"), (71, "no room for a house"), (84, "no such house or kind"), (94, "minutes, hours or units"), (102, "the house has an agreement then"), (106, "no room for an agreement"), (111, "no such kind"), (113, "units or patience"), (116, "no room for an ask"), (126, "no such ask or house"), (131, "number, units or minutes"), (154, "no room for the loans"), (164, "no such house"), (166, "no such number"), (172, "minutes"), (184, "the line is so"), (187, "no such loan"), (192, "the loan has ended"), (197, "no such ask or what"), (217, "no such loan or what"), (243, "no such call or house"), (245, "the call was handed over, or the line is cut"), (247, "no such call"), (255, "no such what")]
def gx_B : List Cond := [(Cond.castable "java/lang/IndexOutOfBoundsException" "java/lang/IndexOutOfBoundsException"), (Cond.declares ({ cls := "java/lang/RuntimeException", name := "<init>", desc := "()V" } : MethodName)), (Cond.declares ({ cls := "java/lang/RuntimeException", name := "<init>", desc := "(Ljava/lang/String;)V" } : MethodName)), (Cond.declares ({ cls := "java/lang/Exception", name := "<init>", desc := "()V" } : MethodName)), (Cond.declares ({ cls := "java/lang/Exception", name := "<init>", desc := "(Ljava/lang/String;)V" } : MethodName)), (Cond.declares ({ cls := "java/lang/Throwable", name := "<init>", desc := "()V" } : MethodName)), (Cond.declares ({ cls := "java/lang/Throwable", name := "<init>", desc := "(Ljava/lang/String;)V" } : MethodName)), (Cond.castable "java/lang/UnsupportedOperationException" "java/lang/UnsupportedOperationException"), (Cond.castable "java/lang/IllegalArgumentException" "java/lang/IllegalArgumentException"), (Cond.castable "java/lang/IllegalStateException" "java/lang/IllegalStateException")]
def gx_n : Nat → String := fun k => match k with
  | 1 => "java/lang/IllegalArgumentException"
  | 2 => "java/lang/IndexOutOfBoundsException"
  | 3 => "java/lang/IllegalStateException"
  | _ => "java/lang/UnsupportedOperationException"
def gx_nc : List (String × String) := [("java/lang/IllegalArgumentException", "java/lang/IndexOutOfBoundsException"), ("java/lang/IllegalArgumentException", "java/lang/IllegalStateException"), ("java/lang/IllegalArgumentException", "java/lang/UnsupportedOperationException"), ("java/lang/IndexOutOfBoundsException", "java/lang/IllegalArgumentException"), ("java/lang/IndexOutOfBoundsException", "java/lang/IllegalStateException"), ("java/lang/IndexOutOfBoundsException", "java/lang/UnsupportedOperationException"), ("java/lang/IllegalStateException", "java/lang/IllegalArgumentException"), ("java/lang/IllegalStateException", "java/lang/IndexOutOfBoundsException"), ("java/lang/IllegalStateException", "java/lang/UnsupportedOperationException"), ("java/lang/UnsupportedOperationException", "java/lang/IllegalArgumentException"), ("java/lang/UnsupportedOperationException", "java/lang/IndexOutOfBoundsException"), ("java/lang/UnsupportedOperationException", "java/lang/IllegalStateException")]
abbrev gx_up : List String := ["java/lang/RuntimeException", "java/lang/Exception"]
def gx_E (A : Nat → Prop) (U : State) (H : Heap) : Prop := vx_Zq Bundle.tN "UNASSIGNED_STACK" Bundle.steD A U H ∧ vx_Zq Bundle.tN "SUPPRESSED_SENTINEL" Bundle.listD A U H ∧ (∀ q ∈ gx_strs, ∃ a, vk_R "AidRows" q.1 q.2 a U) ∧ (∀ w ∈ gx_B, w.before #[] U = true) ∧ (∀ q ∈ gx_nc, va_Nc q.1 q.2 U)
theorem gx_Bt : ∀ w ∈ gx_B, w.onTables = true ∧ w.keepsFace = true := by decide +kernel
theorem gx_E.same {A : Nat → Prop} {u U : State} {H : Heap} (hv : u.vm = U.vm) (h : gx_E A u H) : gx_E A U H := by
  obtain ⟨h1, h2, h3, h4, h5⟩ := h
  have hA : u.vm.Alike U.vm := by rw [hv]; exact Vm.Alike.refl U.vm
  refine ⟨h1.moved hA, h2.moved hA, fun q hq => ?_, fun w hw => va_tabs (gx_Bt w hw).1 hv (h4 w hw), fun q hq => (h5 q hq).moved hA⟩
  obtain ⟨a, ha⟩ := h3 q hq
  exact ⟨a, ha.same hv.symm⟩
theorem gx_E.warm {A : Nat → Prop} {s U : State} {H : Heap} (hW : s.WarmedH U.vm) (h : gx_E A s H) : gx_E A U H := by
  obtain ⟨h1, h2, h3, h4, h6⟩ := h
  refine ⟨h1.moved hW.alike, h2.moved hW.alike, fun q hq => ?_, fun w hw => ?_, fun q hq => (h6 q hq).moved hW.alike⟩
  · obtain ⟨a, ha⟩ := h3 q hq
    exact ⟨a, ha.warm hW⟩
  · have h5 : w.before #[] (s.setVm U.vm) = true := Cond.before_shiftedFace (State.Shifted.of_warmed hW) w (gx_Bt w hw).2 (h4 w hw)
    exact va_tabs (u := s.setVm U.vm) (U := U) (gx_Bt w hw).1 rfl h5
theorem gx_E.kept {A : Nat → Prop} {U : State} {H H1 : Heap} (h : gx_E A U H) (hq : ∀ a : Nat, a < H.size → ¬ A a → H1[a]? = H[a]?) : gx_E A U H1 := ⟨h.1.kept hq, h.2.1.kept hq, h.2.2⟩
theorem gx_E.narrow {A B : Nat → Prop} {U : State} {H : Heap} (h : gx_E A U H) (hAB : ∀ q, B q → A q) : gx_E B U H := ⟨h.1.narrow hAB, h.2.1.narrow hAB, h.2.2⟩
def gx_P {S : Type} (D : va_G) (cl : List vw_C) (tys : List (ClassId × FieldType)) (w : S → va_W) (u : S) (sz : Nat) (av : List Value) : Array Value → State → Prop := va_Pc av (fun U => U.heap.size = sz ∧ va_P D cl (w u) U.heap ∧ va_K D cl tys U ∧ va_D (fun _ => True) (w u) ∧ gx_E (va_A (w u) sz) U U.heap)
def gx_Q {S : Type} (D : va_G) (cl : List vw_C) (w : S → va_W) (A : Nat → Prop) (cd : Nat) (u' : S) (o : Option Value) : Array Value → State → Outcome → State → Prop := fun a st oc t => cd = 0 ∧ gw_Q D cl w A u' o a st oc t
def gx_X {S : Type} (D : va_G) (cl : List vw_C) (w : S → va_W) (A : Nat → Prop) (cd : Nat) (u' : S) : String → State → State → Prop := fun E st t => (cd ≠ 0 ∧ E = gx_n cd) ∧ (va_P D cl (w u') t.heap ∧ va_D A (w u')) ∧ va_F A st t
def gx_Ct {S : Type} (l : Launch) (D : va_G) (cl : List vw_C) (tys : List (ClassId × FieldType)) (w : S → va_W) (y : MethodName) (ws : List Cond) (rm : Room) (av : List Value) (u : S) (cd : Nat) (o : Option Value) (u' : S) : Prop :=
  ∀ sz : Nat, vx_Met l y ws rm (gx_P D cl tys w u sz av) (gx_Q D cl w (va_A (w u) sz) cd u' o) (gx_X D cl w (va_A (w u) sz) cd u') 1 6 (va_A (w u) sz)
def gx_C (p : Program) (l : Launch) (s : State) (m : MethodId) (args : Array Value) (meth : Method) (c : Code) (own : String) (cc : ByteArray) (maxL : Nat) (ret : Option FieldType) (D : va_G) (cl : List vw_C) (tys : List (ClassId × FieldType)) (A : Nat → Prop) : Prop :=
  gw_C p s m args meth c own cc maxL ret gG D cl tys A ∧ l.stackTraces = false ∧ gx_E A s s.heap ∧ (∀ x ∈ c.exceptionTable.toList, False)
theorem gx_blind {S : Type} {D : va_G} {cl : List vw_C} {tys : List (ClassId × FieldType)} {w : S → va_W} {u : S} {sz : Nat} {av : List Value} : FrameBlind (gx_P D cl tys w u sz av) := fun a U g mk q => by
  obtain ⟨q0, q1, qP, qK, qD, qE⟩ := q
  exact ⟨q0, q1, qP, va_K.moved (u := U) (U := U.calling g mk a) (Vm.Alike.refl U.vm) qK, qD, gx_E.same (u := U) (U := U.calling g mk a) rfl qE⟩
theorem gx_enter {S : Type} {l : Launch} {D : va_G} {cl : List vw_C} {tys : List (ClassId × FieldType)} {w : S → va_W} {y : MethodName} {cc : ByteArray} {maxL : Nat} {ret : Option FieldType} {rm : Room} {av : List Value} {u u' : S} {cd : Nat} {o : Option Value}
    (hl : l.stackTraces = false) (hy : plainName y.cls = true) (hn : (lg_sl av).length ≤ maxL)
    (body : ∀ (p : Program) (e : Env) (s : State) (m : MethodId) (below : List Frame) (meth : Method) (c : Code) (A : Nat → Prop), gx_C p l s m av.toArray meth c y.cls cc maxL ret D cl tys A → va_P D cl (w u) s.heap → va_D A (w u) → va_S A s.heap s.heap [] → ∀ ls : Array Slot, lv_has ls maxL (lv_args 0 av) →
      W p l e rm s m av.toArray below meth c s.heap [] 0 0 (vx_MQ below (gx_Q D cl w A cd u' o) (gx_X D cl w A cd u') av.toArray s 1 6 A) (F0 m 0 ls [])) :
    gx_Ct l D cl tys w y (Cond.code y cc maxL ret :: gG) rm av u cd o u' := by
  intro sz
  refine vx_ofW (cc := cc) (maxL := maxL) (ret := ret) hy rfl ?_
  intro p e s m args below meth c s₁ B hml ht hv
  obtain ⟨rfl, hsz, hP, hK, hD0, hE⟩ := hv
  have hts := atoms_spec (ws := Cond.code y cc maxL ret :: gG) B.pre
  subst hsz
  rw [lg_entry_eq]
  exact body p e s m below meth c (va_A (w u) s.heap.size) ⟨⟨B.exec, B.bytes, B.returns, hml, fun w h => hts w (List.mem_cons_of_mem _ h), findClass_of_methodNamed B.named, B.notSynchronized, hK, fun q h => Or.inr h⟩, hl, hE, ht⟩ hP (hD0.self) va_S.rf _ (lv_entry av hn)
theorem gx_a1 : ∀ w ∈ (vx_atS "AidRows" 86 "java/lang/IllegalArgumentException" gx_up).filter goodWord, w ∈ gG := fun w h => List.mem_filter.mpr ⟨(show ∀ w ∈ (vx_atS "AidRows" 86 "java/lang/IllegalArgumentException" gx_up).filter goodWord, w ∈ lw_tbl by decide +kernel) w h, (List.mem_filter.mp h).2⟩
theorem gx_b1 : ∀ w ∈ (vx_atS "AidRows" 86 "java/lang/IllegalArgumentException" gx_up).filter (fun w => !goodWord w), w ∈ gx_B := by decide +kernel
theorem gx_g1 : ∀ w ∈ Cond.classLink "AidRows" 82 "java/lang/IllegalArgumentException" :: Cond.initialized "java/lang/IllegalArgumentException" :: vx_atS "AidRows" 86 "java/lang/IllegalArgumentException" gx_up, vx_ot w = true := by decide +kernel
theorem gx_a2 : ∀ w ∈ (vx_atS "AidRows" 62 "java/lang/IndexOutOfBoundsException" gx_up).filter goodWord, w ∈ gG := fun w h => List.mem_filter.mpr ⟨(show ∀ w ∈ (vx_atS "AidRows" 62 "java/lang/IndexOutOfBoundsException" gx_up).filter goodWord, w ∈ lw_tbl by decide +kernel) w h, (List.mem_filter.mp h).2⟩
theorem gx_b2 : ∀ w ∈ (vx_atS "AidRows" 62 "java/lang/IndexOutOfBoundsException" gx_up).filter (fun w => !goodWord w), w ∈ gx_B := by decide +kernel
theorem gx_g2 : ∀ w ∈ Cond.classLink "AidRows" 58 "java/lang/IndexOutOfBoundsException" :: Cond.initialized "java/lang/IndexOutOfBoundsException" :: vx_atS "AidRows" 62 "java/lang/IndexOutOfBoundsException" gx_up, vx_ot w = true := by decide +kernel
theorem gx_a3 : ∀ w ∈ (vx_atS "AidRows" 104 "java/lang/IllegalStateException" gx_up).filter goodWord, w ∈ gG := fun w h => List.mem_filter.mpr ⟨(show ∀ w ∈ (vx_atS "AidRows" 104 "java/lang/IllegalStateException" gx_up).filter goodWord, w ∈ lw_tbl by decide +kernel) w h, (List.mem_filter.mp h).2⟩
theorem gx_b3 : ∀ w ∈ (vx_atS "AidRows" 104 "java/lang/IllegalStateException" gx_up).filter (fun w => !goodWord w), w ∈ gx_B := by decide +kernel
theorem gx_g3 : ∀ w ∈ Cond.classLink "AidRows" 100 "java/lang/IllegalStateException" :: Cond.initialized "java/lang/IllegalStateException" :: vx_atS "AidRows" 104 "java/lang/IllegalStateException" gx_up, vx_ot w = true := by decide +kernel
theorem gx_a4 : ∀ w ∈ (vx_atS "AidRows" 73 "java/lang/UnsupportedOperationException" gx_up).filter goodWord, w ∈ gG := fun w h => List.mem_filter.mpr ⟨(show ∀ w ∈ (vx_atS "AidRows" 73 "java/lang/UnsupportedOperationException" gx_up).filter goodWord, w ∈ lw_tbl by decide +kernel) w h, (List.mem_filter.mp h).2⟩
theorem gx_b4 : ∀ w ∈ (vx_atS "AidRows" 73 "java/lang/UnsupportedOperationException" gx_up).filter (fun w => !goodWord w), w ∈ gx_B := by decide +kernel
theorem gx_g4 : ∀ w ∈ Cond.classLink "AidRows" 69 "java/lang/UnsupportedOperationException" :: Cond.initialized "java/lang/UnsupportedOperationException" :: vx_atS "AidRows" 73 "java/lang/UnsupportedOperationException" gx_up, vx_ot w = true := by decide +kernel
section GX
variable {p : Program} {l : Launch} {e : Env} {R : Room} {s : State} {m : MethodId} {args : Array Value} {below : List Frame} {meth : Method} {c : Code} {H : Heap} {locs : List Loc} {cells slots : Nat} {Q : State → Prop}
variable {maxL : Nat} {ret : Option FieldType} {S : Type} {D : va_G} {cl : List vw_C} {tys : List (ClassId × FieldType)} {w : S → va_W} {A : Nat → Prop} {pc : Nat} {ls : Array Slot} {u' : S} {o : Option Value} {cd : Nat}
theorem gx_iret {cc : ByteArray} {v : Int32} (hexec : p.tables.exec = Jvm.exec) (hb : c.code = cc) (hr : meth.sig.returnType = some .int) (hlocks : meth.locks = false) (hP : va_P D cl (w u') H) (hD : va_D A (w u')) (hS : va_S A s.heap H locs) (hdg : decode cc pc = .ok (.ireturn, 1)) :
    W p l e R s m args below meth c H locs 0 0 (vx_MQ below (gx_Q D cl w A 0 u' (some (.int v))) (gx_X D cl w A 0 u') args s 1 6 A) (F0 m pc ls [.int v]) :=
  W.widen (k := 1) (n := 6) (Nat.zero_le _) (Nat.zero_le _) (vx_ret (W.iret hexec hb hr (fun t ht hW => ⟨rfl, ⟨rfl, by rw [ht]; exact hP, hD⟩, hS.F ht⟩) hS.2.2 hdg))
theorem gx_vret {cc : ByteArray} (hexec : p.tables.exec = Jvm.exec) (hb : c.code = cc) (hr : meth.sig.returnType = none) (hlocks : meth.locks = false) (hP : va_P D cl (w u') H) (hD : va_D A (w u')) (hS : va_S A s.heap H locs) (hdg : decode cc pc = .ok (.return_, 1)) :
    W p l e R s m args below meth c H locs 0 0 (vx_MQ below (gx_Q D cl w A 0 u' none) (gx_X D cl w A 0 u') args s 1 6 A) (F0 m pc ls []) :=
  W.widen (k := 1) (n := 6) (Nat.zero_le _) (Nat.zero_le _) (vx_ret (W.vret hexec hb hr (fun t ht hW => ⟨rfl, ⟨rfl, by rw [ht]; exact hP, hD⟩, hS.F ht⟩) hS.2.2 hdg))
theorem gx_thr {cc : ByteArray} {own cls : String} {ik is ic : Nat} {text : String} (hC : gx_C p l s m args meth c own cc maxL ret D cl tys A) (hown : own = "AidRows") (hcd : cd ≠ 0) (hcls : cls = gx_n cd) (hfit : Bundle.fit cls = true) (hup : ∀ n ∈ gx_up, Bundle.fit n = true)
    (m1 : Cond.classLink "AidRows" ik cls ∈ gG) (m2 : Cond.initialized cls ∈ gG) (ms : (is, text) ∈ gx_strs)
    (ha : ∀ w ∈ (vx_atS "AidRows" ic cls gx_up).filter goodWord, w ∈ gG) (hbb : ∀ w ∈ (vx_atS "AidRows" ic cls gx_up).filter (fun w => !goodWord w), w ∈ gx_B) (hgd : ∀ w ∈ Cond.classLink "AidRows" ik cls :: Cond.initialized cls :: vx_atS "AidRows" ic cls gx_up, vx_ot w = true)
    (hP : va_P D cl (w u') H) (hD : va_D A (w u')) (hS : va_S A s.heap H locs) (hsize : ls.size = maxL)
    (d0 : decode cc pc = .ok (.new ik, 3)) (d3 : decode cc (pc + 3) = .ok (.dup, 1)) (d4 : decode cc (pc + 4) = .ok (.ldc is, 2)) (d6 : decode cc (pc + 6) = .ok (.invokespecial ic, 3)) (d9 : decode cc (pc + 9) = .ok (.athrow, 1))
    (hRf : 5 < R.frames) (hRl : 82 ≤ R.locals) (hRc : 1 ≤ R.cells) (hRs : 6 ≤ R.slots) :
    W p l e R s m args below meth c H locs 0 0 (vx_MQ below (gx_Q D cl w A cd u' o) (gx_X D cl w A cd u') args s 1 6 A) (F0 m pc ls []) := by
  subst hown
  obtain ⟨⟨hx, hb, hr, hml, hG, hown, hlocks, hK, hA⟩, hl, hE, ht⟩ := hC
  obtain ⟨a, hstr⟩ := hE.2.2.1 _ ms
  refine vx_throwS (sa := a) (text := text) (names := gx_up) hx hb hl hown hfit hup (hG _ m1) (hG _ m2) hstr (vx_hat (fun w h => hG w (ha w h)) hbb (fun w h => va_tabs (gx_Bt w h).1 rfl (hE.2.2.2.1 w h))) hgd hE.1 hE.2.1 hS (by rw [hsize, hml]) d0 d3 d4 d6 d9 (fun x h => (ht x h).elim) hRf (by show 0 + 82 ≤ _; omega) (by omega) (by omega) hlocks ?_ hS.2.2 (by omega) (by omega)
  intro t hv hz hq
  refine ⟨⟨hcd, hcls⟩, ⟨hP.kept (fun k q hk => hq q.1 ((hP k q hk).lt)), hD⟩, Nat.le_trans hS.1 hz, fun q h1 h2 => ?_⟩
  rw [hq q (Nat.lt_of_lt_of_le h1 hS.1)]
  exact hS.2.1 q h1 h2
end GX
