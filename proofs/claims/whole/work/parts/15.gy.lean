/-! calls from a larger world -/
theorem gy_in {X Y : va_W} {k : Nat} {q : Nat × va_E} (h : Y[k]? = some q) : (X ++ Y)[X.length + k]? = some q := by
  rw [List.getElem?_append_right (by omega), Nat.add_sub_cancel_left]
  exact h
theorem gy_inL {X Y : va_W} {k : Nat} {q : Nat × va_E} (h : X[k]? = some q) : (X ++ Y)[k]? = some q := by
  rw [List.getElem?_append_left (List.getElem?_eq_some_iff.mp h).1]
  exact h
theorem gy_free {A : Nat → Prop} {X : va_W} {H0 H : Heap} {locs : List Loc} (hX : ∀ (k : Nat) (q : Nat × va_E), X[k]? = some q → A q.1) (hS : va_S A H0 H locs) (hA : ∀ q, H0.size ≤ q → A q) : ∀ q, va_A X H.size q → A q := fun q h => by
  rcases h with ⟨k, e, h⟩ | h
  · exact hX k _ h
  · exact hA q (Nat.le_trans hS.1 h)
theorem gy_joinL {A : Nat → Prop} {D : va_G} {cl : List vw_C} {X X1 Y : va_W} {H H1 : Heap} (hP : va_P D cl (X ++ Y) H) (hD : va_D A (X ++ Y)) (hk : ∀ q : Nat, q < H.size → ¬ va_A X H.size q → H1[q]? = H[q]?) (hF : ∀ q, va_A X H.size q → A q) (hP1 : va_P D cl X1 H1) (hD1 : va_D (va_A X H.size) X1) : va_P D cl (X1 ++ Y) H1 ∧ va_D A (X1 ++ Y) := by
  have apart : ∀ (k : Nat) (q : Nat × va_E), Y[k]? = some q → q.1 < H.size ∧ ¬ va_A X H.size q.1 := by
    intro k q hq
    have hl := (hP _ q (gy_in (X := X) hq)).lt
    refine ⟨hl, fun h => ?_⟩
    rcases h with ⟨j, e, h⟩ | h
    · have hj := (List.getElem?_eq_some_iff.mp h).1
      have := hD.1 (X.length + k) j q (q.1, e) (gy_in hq) (gy_inL h) rfl
      omega
    · omega
  refine ⟨va_P.app hP1 (fun k q hq => (hP _ q (gy_in (X := X) hq)).kept (hk q.1 (apart k q hq).1 (apart k q hq).2)), va_D.app (hD1.weaken (fun k q _ h => hF q.1 h)) ⟨fun i j x y hi hj hxy => ?_, fun k q hq => hD.2 _ q (gy_in hq)⟩ (fun i j x y hx hy hxy => ?_)⟩
  · have := hD.1 (X.length + i) (X.length + j) x y (gy_in hi) (gy_in hj) hxy
    omega
  · exact (apart j y hy).2 (by rw [← hxy]; exact hD1.2 i x hx)
theorem gy_joinR {A : Nat → Prop} {D : va_G} {cl : List vw_C} {X X1 Y : va_W} {H H1 : Heap} (hP : va_P D cl (Y ++ X) H) (hD : va_D A (Y ++ X)) (hk : ∀ q : Nat, q < H.size → ¬ va_A X H.size q → H1[q]? = H[q]?) (hF : ∀ q, va_A X H.size q → A q) (hP1 : va_P D cl X1 H1) (hD1 : va_D (va_A X H.size) X1) : va_P D cl (Y ++ X1) H1 ∧ va_D A (Y ++ X1) := by
  have apart : ∀ (k : Nat) (q : Nat × va_E), Y[k]? = some q → q.1 < H.size ∧ ¬ va_A X H.size q.1 := by
    intro k q hq
    have hl := (hP _ q (gy_inL (Y := X) hq)).lt
    refine ⟨hl, fun h => ?_⟩
    rcases h with ⟨j, e, h⟩ | h
    · have hj := (List.getElem?_eq_some_iff.mp hq).1
      have := hD.1 k (Y.length + j) q (q.1, e) (gy_inL hq) (gy_in h) rfl
      omega
    · omega
  refine ⟨va_P.app (fun k q hq => (hP _ q (gy_inL (Y := X) hq)).kept (hk q.1 (apart k q hq).1 (apart k q hq).2)) hP1, va_D.app ⟨fun i j x y hi hj hxy => ?_, fun k q hq => hD.2 _ q (gy_inL hq)⟩ (hD1.weaken (fun k q _ h => hF q.1 h)) (fun i j x y hx hy hxy => ?_)⟩
  · exact hD.1 i j x y (gy_inL hi) (gy_inL hj) hxy
  · exact (apart i x hx).2 (by rw [hxy]; exact hD1.2 j y hy)
theorem gy_P {D : va_G} {cl : List vw_C} {X Y : va_W} {H : Heap} (hP : va_P D cl (X ++ Y) H) : va_P D cl X H := fun k q h => hP k q (gy_inL h)
theorem gy_PR {D : va_G} {cl : List vw_C} {X Y : va_W} {H : Heap} (hP : va_P D cl (Y ++ X) H) : va_P D cl X H := fun k q h => hP _ q (gy_in h)
theorem gy_D {A : Nat → Prop} {X Y : va_W} (hD : va_D A (X ++ Y)) : va_D A X := ⟨fun i j x y hi hj h => hD.1 i j x y (gy_inL hi) (gy_inL hj) h, fun k q h => hD.2 k q (gy_inL h)⟩
theorem gy_DR {A : Nat → Prop} {X Y : va_W} (hD : va_D A (Y ++ X)) : va_D A X := ⟨fun i j x y hi hj h => by have := hD.1 _ _ x y (gy_in (X := Y) hi) (gy_in (X := Y) hj) h; omega, fun k q h => hD.2 _ q (gy_in h)⟩
def gy_Ct {S : Type} (l : Launch) (D : va_G) (cl : List vw_C) (tys : List (ClassId × FieldType)) (w : S → va_W) (y : MethodName) (ws : List Cond) (rm : Room) (av : List Value) (u : S) (o : Option Value) (u' : S) : Prop :=
  ∀ sz : Nat, Met l y ws rm (gx_P D cl tys w u sz av) (gw_Q D cl w (va_A (w u) sz) u' o) 1 6 (va_A (w u) sz)
section GYC
variable {p : Program} {l : Launch} {e : Env} {R : Room} {s : State} {m : MethodId} {args : Array Value} {below : List Frame} {meth : Method} {c : Code} {H : Heap} {locs : List Loc} {cells slots : Nat} {Q : State → Prop}
variable {S : Type} {D : va_G} {cl : List vw_C} {tys : List (ClassId × FieldType)} {w : S → va_W} {A : Nat → Prop} {H0 : Heap} {pc : Nat} {ls : Array Slot} {rest st0 : List Value} {a : Array Value} {u u' : S} {o : Option Value} {cd mc ms : Nat} {Y : va_W}
theorem gy_S {st₀ t T' : State} {L : List Loc} {X : va_W} (h0 : st₀.heap = H) (e1 : T'.heap = t.heap) (hS : va_S A H0 H locs) (hF : ∀ q, va_A X H.size q → A q) (hL : ∀ q ∈ L, va_A X H.size q.base) (hz : va_F (va_A X H.size) st₀ t) : (∀ q : Nat, q < H.size → ¬ va_A X H.size q → T'.heap[q]? = H[q]?) ∧ va_S A H0 T'.heap (locs ++ L) := by
  obtain ⟨hz, hk⟩ := hz
  rw [h0] at hz hk
  refine ⟨fun q h1 h2 => by rw [e1]; exact hk q h1 h2, Nat.le_trans hS.1 (by rw [e1]; exact hz), fun q h1 h2 => by rw [e1, hk q (Nat.lt_of_lt_of_le h1 hS.1) (fun z => h2 (hF q z))]; exact hS.2.1 q h1 h2, fun q hq => ?_⟩
  rcases List.mem_append.mp hq with h | h
  · exact hS.2.2 q h
  · exact hF _ (hL q h)
theorem gy_afterL (hr : va_Run p l e R s m args below meth c H locs cells slots mc ms (F0 m pc ls st0) rest (gw_Q D cl w (va_A (w u) H.size) u' o a) (va_A (w u) H.size))
    (hP : va_P D cl (w u ++ Y) H) (hD : va_D A (w u ++ Y)) (hS : va_S A H0 H locs) (hA : ∀ q, H0.size ≤ q → A q)
    (kk : ∀ (H1 : Heap) (locs1 : List Loc), va_P D cl (w u' ++ Y) H1 → va_D A (w u' ++ Y) → va_S A H0 H1 locs1 → W p l e R s m args below meth c H1 locs1 (cells + mc) (slots + ms) Q (F0 m (pc + 3) ls (o.toList ++ rest))) :
    W p l e R s m args below meth c H locs cells slots Q (F0 m pc ls st0) := by
  have hF : ∀ q, va_A (w u) H.size q → A q := gy_free (fun k q h => hD.2 k q (gy_inL h)) hS hA
  intro T hT X
  obtain ⟨v, st₀, t, T', L, h0, X', hL, e1, e2, ⟨⟨hv, hp, hd⟩, hz⟩, st⟩ := hr T hT X
  cases hv
  obtain ⟨hk, hS1⟩ := gy_S h0 e1 hS hF hL hz
  obtain ⟨hP1, hD1⟩ := gy_joinL hP hD hk hF (by rw [e1]; exact hp) hd
  obtain ⟨t2, a1, b1⟩ := kk T'.heap (locs ++ L) hP1 hD1 hS1 T' rfl X'
  exact ⟨t2, st t2 a1, b1⟩
theorem gy_afterR (hr : va_Run p l e R s m args below meth c H locs cells slots mc ms (F0 m pc ls st0) rest (gw_Q D cl w (va_A (w u) H.size) u' o a) (va_A (w u) H.size))
    (hP : va_P D cl (Y ++ w u) H) (hD : va_D A (Y ++ w u)) (hS : va_S A H0 H locs) (hA : ∀ q, H0.size ≤ q → A q)
    (kk : ∀ (H1 : Heap) (locs1 : List Loc), va_P D cl (Y ++ w u') H1 → va_D A (Y ++ w u') → va_S A H0 H1 locs1 → W p l e R s m args below meth c H1 locs1 (cells + mc) (slots + ms) Q (F0 m (pc + 3) ls (o.toList ++ rest))) :
    W p l e R s m args below meth c H locs cells slots Q (F0 m pc ls st0) := by
  have hF : ∀ q, va_A (w u) H.size q → A q := gy_free (fun k q h => hD.2 _ q (gy_in h)) hS hA
  intro T hT X
  obtain ⟨v, st₀, t, T', L, h0, X', hL, e1, e2, ⟨⟨hv, hp, hd⟩, hz⟩, st⟩ := hr T hT X
  cases hv
  obtain ⟨hk, hS1⟩ := gy_S h0 e1 hS hF hL hz
  obtain ⟨hP1, hD1⟩ := gy_joinR hP hD hk hF (by rw [e1]; exact hp) hd
  obtain ⟨t2, a1, b1⟩ := kk T'.heap (locs ++ L) hP1 hD1 hS1 T' rfl X'
  exact ⟨t2, st t2 a1, b1⟩
theorem gx_pre {av : List Value} (hK : va_K D cl tys s) (hP : va_P D cl (w u) H) (hD : va_D A (w u)) (hE : gx_E (va_A (w u) H.size) s H) : ∀ U : State, U.heap = H → s.WarmedH U.vm → gx_P D cl tys w u H.size av av.toArray U := fun U hU hW => ⟨rfl, by rw [hU], by rw [hU]; exact hP, va_K.moved hW.alike hK, hD.weaken (fun _ _ _ _ => trivial), by rw [hU]; exact hE.warm hW⟩
theorem gy_E {X : va_W} (hE : gx_E A s H0) (hS : va_S A H0 H locs) (hF : ∀ q, va_A X H.size q → A q) : gx_E (va_A X H.size) s H := (hE.kept (fun a h1 h2 => hS.2.1 a h1 h2)).narrow hF
/-- a call of a method that may throw, from a larger world -/
theorem gy_call {cc : ByteArray} {own C : String} {index maxL n nL : Nat} {y : MethodName} {bytes : ByteArray} {ret : Option FieldType} {rm : Room} {As : List Value} {b : Addr}
    (hx : p.tables.exec = Jvm.exec) (hb : c.code = cc) (hml : c.maxLocals = nL) (hown : s.vm.findClass own = some m.cls) (hG : ∀ w ∈ gG, w.before args s = true)
    (hM : gx_Ct l D cl tys w y (Cond.code y bytes maxL ret :: gG) rm (.ref b :: As) u cd o u') (lk : gw_LV own C index y bytes maxL ret n)
    (hrc : rm.cells = 1) (hrs : rm.slots = 6) (hR : rm.frames + 1 ≤ R.frames ∧ 8 + (maxL + 11) + rm.locals ≤ R.locals)
    (hrecv : ∃ cellB : Cell, H[b]? = some cellB ∧ cellB.vm.isStatics = false ∧ s.vm.findClass C = some cellB.cls)
    (hK : va_K D cl tys s) (hE : gx_E A s H0) (hP : va_P D cl (w u ++ Y) H) (hD : va_D A (w u ++ Y)) (hS : va_S A H0 H locs) (hA : ∀ q, H0.size ≤ q → A q)
    (hn : As.length = n) (hsize : ls.size = nL) (hst : st0 = As.reverse ++ .ref b :: rest) (hroom : (rest.map fun v => v.category).sum ≤ 8) (hdg : decode cc pc = .ok (.invokevirtual index, 3)) (hf : cells + 1 ≤ R.cells ∧ slots + 6 ≤ R.slots)
    (kk : cd = 0 → ∀ (H1 : Heap) (locs1 : List Loc), va_P D cl (w u' ++ Y) H1 → va_D A (w u' ++ Y) → va_S A H0 H1 locs1 → W p l e R s m args below meth c H1 locs1 (cells + 1) (slots + 6) Q (F0 m (pc + 3) ls (o.toList ++ rest)))
    (kx : cd ≠ 0 → ∀ (H1 : Heap) (locs1 : List Loc) (q : Addr) (ce : Cell), va_P D cl (w u' ++ Y) H1 → va_D A (w u' ++ Y) → va_S A H0 H1 locs1 → H1[q]? = some ce → ce.vm = .none → s.vm.findClass (gx_n cd) = some ce.cls → vx_W p l e R s m args below meth c H1 locs1 (cells + 1) (slots + 6) Q (F0 m pc ls rest) q) :
    W p l e R s m args below meth c H locs cells slots Q (F0 m pc ls st0) := by
  obtain ⟨m1, m2, m3, m4, m5, hd⟩ := lk
  have hF : ∀ q, va_A (w u) H.size q → A q := gy_free (fun k q h => hD.2 k q (gy_inL h)) hS hA
  have hr := vx_runV (e := e) (below := below) (meth := meth) (locs := locs) (cells := cells) (slots := slots) (As := As) (rest := rest) (g := F0 m pc ls st0) ⟨hx, hb, hml, hown, hG⟩ (hM H.size) ⟨callB_of n hG (gG_in (gG_c m5)) rfl hrc hrs (hG _ m4) (hG _ m1) hd hR, hG _ m2, hG _ m3⟩ ⟨gx_blind, hrecv, gx_pre hK (gy_P hP) (gy_D hD) (gy_E hE hS hF)⟩ rfl hn hsize hst (lv_room hroom) hdg hf
  intro T hT X
  rcases hr T hT X with ⟨v, st₀, t, T', L, h0, X', hL, e1, e2, ⟨hc0, ⟨hv, hp, hd⟩, hz⟩, st⟩ | ⟨q, st₀, t, T', L, E, ce, h0, X', hL, e1, e2, ⟨⟨hc0, hEn⟩, ⟨hp, hd⟩, hz⟩, hce, hcv, hcl, st⟩
  · cases hv
    obtain ⟨hk, hS1⟩ := gy_S h0 e1 hS hF hL hz
    obtain ⟨hP1, hD1⟩ := gy_joinL hP hD hk hF (by rw [e1]; exact hp) hd
    obtain ⟨t2, a1, b1⟩ := kk hc0 T'.heap (locs ++ L) hP1 hD1 hS1 T' rfl X'
    exact ⟨t2, st t2 a1, b1⟩
  · obtain ⟨hk, hS1⟩ := gy_S h0 e1 hS hF hL hz
    obtain ⟨hP1, hD1⟩ := gy_joinL hP hD hk hF (by rw [e1]; exact hp) hd
    obtain ⟨t2, a1, b1⟩ := kx hc0 T'.heap (locs ++ L) q ce hP1 hD1 hS1 (by rw [e1]; exact hce) hcv (by rw [← hEn]; exact hcl) T' rfl X'
    exact ⟨t2, st.trans a1, b1⟩
/-- caught by the k-th row of the table -/
theorem gy_catch {own : String} {ce : Cell} {q : Addr} {hh : List (Nat × Nat × Nat × Nat)} (hown : s.vm.findClass own = some m.cls) (hG : ∀ w ∈ gG, w.before args s = true) (hE : gx_E A s H0) (ht : c.exceptionTable.toList = Jvm.tableOf hh)
    (pre : List ExceptionTableEntry) (x : ExceptionTableEntry) (suf : List ExceptionTableEntry) (hsplit : Jvm.tableOf hh = pre ++ x :: suf)
    (hpass : ∀ z ∈ pre, z.catchType ≠ 0 ∧ ∃ nm : String, Cond.classLink own z.catchType nm ∈ gG ∧ (gx_n cd, nm) ∈ gx_nc) (hx : covers x pc = true) (h0 : x.catchType ≠ 0)
    (hlink : Cond.classLink own x.catchType (gx_n cd) ∈ gG) (hcast : Cond.castable (gx_n cd) (gx_n cd) ∈ gx_B) (hcell : H[q]? = some ce) (hv : ce.vm = .none) (hcl : s.vm.findClass (gx_n cd) = some ce.cls)
    (kk : W p l e R s m args below meth c H locs cells slots Q (F0 m x.handlerPc ls [.ref q])) : vx_W p l e R s m args below meth c H locs cells slots Q (F0 m pc ls rest) q :=
  vx_catch hown pre x suf (ht.trans hsplit) (fun z hz => by
    obtain ⟨h1, nm, h2, h3⟩ := hpass z hz
    exact Or.inr ⟨h1, nm, hG _ h2, hE.2.2.2.2 _ h3⟩) hx h0 (hG _ hlink) (va_tabs (gx_Bt _ hcast).1 rfl (hE.2.2.2.1 _ hcast)) hcell hv hcl kk
end GYC
