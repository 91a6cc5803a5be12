section
-- ===== PART A: goes FIRST, ahead of the names: the tables' words, and 'selects' of the private methods out of them =====
/-- a private method of a class that the tables say can be made, by its rows of tables_1 -/
def lw_okq (q : MethodName × Nat) : Prop := (q.1.cls ≠ "java/lang/invoke/MethodHandle" ∧ q.1.cls ≠ "java/lang/invoke/VarHandle") ∧ Cond.instantiable q.1.cls q.2 ∈ tables_1 ∧ Cond.privateMethod q.1 ∈ tables_1 ∧ Cond.instanceMethod q.1 ∈ tables_1
theorem lw_p0 : lw_okq (⟨"java/lang/Throwable", "fillInStackTrace", "(I)Ljava/lang/Throwable;"⟩, 6) := ⟨⟨by decide +kernel, by decide +kernel⟩, List.mem_of_getElem? (i := 266) (by decide +kernel), List.mem_of_getElem? (i := 264) (by decide +kernel), List.mem_of_getElem? (i := 265) (by decide +kernel)⟩
theorem lw_p1 : lw_okq (⟨"AidRows", "sendOn", "(I)V"⟩, 9) := ⟨⟨by decide +kernel, by decide +kernel⟩, List.mem_of_getElem? (i := 19) (by decide +kernel), List.mem_of_getElem? (i := 404) (by decide +kernel), List.mem_of_getElem? (i := 405) (by decide +kernel)⟩
theorem lw_p2 : lw_okq (⟨"AidRows", "nextHouse", "(I)I"⟩, 9) := ⟨⟨by decide +kernel, by decide +kernel⟩, List.mem_of_getElem? (i := 19) (by decide +kernel), List.mem_of_getElem? (i := 408) (by decide +kernel), List.mem_of_getElem? (i := 409) (by decide +kernel)⟩
theorem lw_p3 : lw_okq (⟨"AidRows$Agreements", "holdsAt", "(II)Z"⟩, 7) := ⟨⟨by decide +kernel, by decide +kernel⟩, List.mem_of_getElem? (i := 52) (by decide +kernel), List.mem_of_getElem? (i := 420) (by decide +kernel), List.mem_of_getElem? (i := 421) (by decide +kernel)⟩
theorem lw_p4 : lw_okq (⟨"AidRows", "judge", "(III)I"⟩, 9) := ⟨⟨by decide +kernel, by decide +kernel⟩, List.mem_of_getElem? (i := 19) (by decide +kernel), List.mem_of_getElem? (i := 458) (by decide +kernel), List.mem_of_getElem? (i := 459) (by decide +kernel)⟩
theorem lw_p5 : lw_okq (⟨"AidRows", "mostToTake", "(II)I"⟩, 9) := ⟨⟨by decide +kernel, by decide +kernel⟩, List.mem_of_getElem? (i := 19) (by decide +kernel), List.mem_of_getElem? (i := 470) (by decide +kernel), List.mem_of_getElem? (i := 471) (by decide +kernel)⟩
theorem lw_p6 : lw_okq (⟨"AidRows", "take", "(IIII)V"⟩, 9) := ⟨⟨by decide +kernel, by decide +kernel⟩, List.mem_of_getElem? (i := 19) (by decide +kernel), List.mem_of_getElem? (i := 494) (by decide +kernel), List.mem_of_getElem? (i := 495) (by decide +kernel)⟩
theorem lw_p7 : lw_okq (⟨"AidRows", "lend", "(IIII)V"⟩, 9) := ⟨⟨by decide +kernel, by decide +kernel⟩, List.mem_of_getElem? (i := 19) (by decide +kernel), List.mem_of_getElem? (i := 498) (by decide +kernel), List.mem_of_getElem? (i := 499) (by decide +kernel)⟩
theorem lw_p8 : lw_okq (⟨"AidRows$Loans", "freeName", "(I)I"⟩, 7) := ⟨⟨by decide +kernel, by decide +kernel⟩, List.mem_of_getElem? (i := 126) (by decide +kernel), List.mem_of_getElem? (i := 506) (by decide +kernel), List.mem_of_getElem? (i := 507) (by decide +kernel)⟩
theorem lw_p9 : lw_okq (⟨"AidRows", "nextEvent", "(I)I"⟩, 9) := ⟨⟨by decide +kernel, by decide +kernel⟩, List.mem_of_getElem? (i := 19) (by decide +kernel), List.mem_of_getElem? (i := 528) (by decide +kernel), List.mem_of_getElem? (i := 529) (by decide +kernel)⟩
theorem lw_p10 : lw_okq (⟨"AidRows", "endLoansWithAgreements", "()V"⟩, 9) := ⟨⟨by decide +kernel, by decide +kernel⟩, List.mem_of_getElem? (i := 19) (by decide +kernel), List.mem_of_getElem? (i := 538) (by decide +kernel), List.mem_of_getElem? (i := 539) (by decide +kernel)⟩
theorem lw_p11 : lw_okq (⟨"AidRows", "sendOnImpatientAsks", "()I"⟩, 9) := ⟨⟨by decide +kernel, by decide +kernel⟩, List.mem_of_getElem? (i := 19) (by decide +kernel), List.mem_of_getElem? (i := 542) (by decide +kernel), List.mem_of_getElem? (i := 543) (by decide +kernel)⟩
theorem lw_p12 : lw_okq (⟨"AidRows", "costOfLoan", "(I)I"⟩, 9) := ⟨⟨by decide +kernel, by decide +kernel⟩, List.mem_of_getElem? (i := 19) (by decide +kernel), List.mem_of_getElem? (i := 593) (by decide +kernel), List.mem_of_getElem? (i := 594) (by decide +kernel)⟩
theorem lw_p13 : lw_okq (⟨"AidRowsModel", "goes", "(IZZZZ)Z"⟩, 36) := ⟨⟨by decide +kernel, by decide +kernel⟩, List.mem_of_getElem? (i := 640) (by decide +kernel), List.mem_of_getElem? (i := 766) (by decide +kernel), List.mem_of_getElem? (i := 767) (by decide +kernel)⟩
theorem lw_p14 : lw_okq (⟨"AidRowsModel", "isHouse", "(I)Z"⟩, 36) := ⟨⟨by decide +kernel, by decide +kernel⟩, List.mem_of_getElem? (i := 640) (by decide +kernel), List.mem_of_getElem? (i := 774) (by decide +kernel), List.mem_of_getElem? (i := 775) (by decide +kernel)⟩
theorem lw_p15 : lw_okq (⟨"AidRowsModel", "on", "(I)V"⟩, 36) := ⟨⟨by decide +kernel, by decide +kernel⟩, List.mem_of_getElem? (i := 640) (by decide +kernel), List.mem_of_getElem? (i := 783) (by decide +kernel), List.mem_of_getElem? (i := 784) (by decide +kernel)⟩
def lw_privs_1 : List (MethodName × Nat) := [(⟨"java/lang/Throwable", "fillInStackTrace", "(I)Ljava/lang/Throwable;"⟩, 6), (⟨"AidRows", "sendOn", "(I)V"⟩, 9), (⟨"AidRows", "nextHouse", "(I)I"⟩, 9), (⟨"AidRows$Agreements", "holdsAt", "(II)Z"⟩, 7), (⟨"AidRows", "judge", "(III)I"⟩, 9), (⟨"AidRows", "mostToTake", "(II)I"⟩, 9), (⟨"AidRows", "take", "(IIII)V"⟩, 9), (⟨"AidRows", "lend", "(IIII)V"⟩, 9), (⟨"AidRows$Loans", "freeName", "(I)I"⟩, 7), (⟨"AidRows", "nextEvent", "(I)I"⟩, 9), (⟨"AidRows", "endLoansWithAgreements", "()V"⟩, 9), (⟨"AidRows", "sendOnImpatientAsks", "()I"⟩, 9), (⟨"AidRows", "costOfLoan", "(I)I"⟩, 9), (⟨"AidRowsModel", "goes", "(IZZZZ)Z"⟩, 36), (⟨"AidRowsModel", "isHouse", "(I)Z"⟩, 36), (⟨"AidRowsModel", "on", "(I)V"⟩, 36)]
theorem lw_r1 : ∀ q ∈ lw_privs_1, lw_okq q := List.forall_mem_cons.mpr ⟨lw_p0, List.forall_mem_cons.mpr ⟨lw_p1, List.forall_mem_cons.mpr ⟨lw_p2, List.forall_mem_cons.mpr ⟨lw_p3, List.forall_mem_cons.mpr ⟨lw_p4, List.forall_mem_cons.mpr ⟨lw_p5, List.forall_mem_cons.mpr ⟨lw_p6, List.forall_mem_cons.mpr ⟨lw_p7, List.forall_mem_cons.mpr ⟨lw_p8, List.forall_mem_cons.mpr ⟨lw_p9, List.forall_mem_cons.mpr ⟨lw_p10, List.forall_mem_cons.mpr ⟨lw_p11, List.forall_mem_cons.mpr ⟨lw_p12, List.forall_mem_cons.mpr ⟨lw_p13, List.forall_mem_cons.mpr ⟨lw_p14, List.forall_mem_cons.mpr ⟨lw_p15, fun _ h => absurd h List.not_mem_nil⟩⟩⟩⟩⟩⟩⟩⟩⟩⟩⟩⟩⟩⟩⟩⟩
theorem lw_p16 : lw_okq (⟨"AidRowsModel", "holding", "(II)I"⟩, 36) := ⟨⟨by decide +kernel, by decide +kernel⟩, List.mem_of_getElem? (i := 640) (by decide +kernel), List.mem_of_getElem? (i := 787) (by decide +kernel), List.mem_of_getElem? (i := 788) (by decide +kernel)⟩
theorem lw_p17 : lw_okq (⟨"AidRowsModel", "holds", "(I)Z"⟩, 36) := ⟨⟨by decide +kernel, by decide +kernel⟩, List.mem_of_getElem? (i := 640) (by decide +kernel), List.mem_of_getElem? (i := 791) (by decide +kernel), List.mem_of_getElem? (i := 792) (by decide +kernel)⟩
theorem lw_p18 : lw_okq (⟨"AidRowsModel", "what", "(III)I"⟩, 36) := ⟨⟨by decide +kernel, by decide +kernel⟩, List.mem_of_getElem? (i := 640) (by decide +kernel), List.mem_of_getElem? (i := 799) (by decide +kernel), List.mem_of_getElem? (i := 800) (by decide +kernel)⟩
theorem lw_p19 : lw_okq (⟨"AidRowsModel", "lent", "(I)I"⟩, 36) := ⟨⟨by decide +kernel, by decide +kernel⟩, List.mem_of_getElem? (i := 640) (by decide +kernel), List.mem_of_getElem? (i := 803) (by decide +kernel), List.mem_of_getElem? (i := 804) (by decide +kernel)⟩
theorem lw_p20 : lw_okq (⟨"AidRowsModel", "lend", "(IIII)V"⟩, 36) := ⟨⟨by decide +kernel, by decide +kernel⟩, List.mem_of_getElem? (i := 640) (by decide +kernel), List.mem_of_getElem? (i := 807) (by decide +kernel), List.mem_of_getElem? (i := 808) (by decide +kernel)⟩
theorem lw_p21 : lw_okq (⟨"AidRowsModel", "freeName", "(I)I"⟩, 36) := ⟨⟨by decide +kernel, by decide +kernel⟩, List.mem_of_getElem? (i := 640) (by decide +kernel), List.mem_of_getElem? (i := 811) (by decide +kernel), List.mem_of_getElem? (i := 812) (by decide +kernel)⟩
theorem lw_p22 : lw_okq (⟨"AidRowsModel", "isLoan", "(I)Z"⟩, 36) := ⟨⟨by decide +kernel, by decide +kernel⟩, List.mem_of_getElem? (i := 640) (by decide +kernel), List.mem_of_getElem? (i := 831) (by decide +kernel), List.mem_of_getElem? (i := 832) (by decide +kernel)⟩
theorem lw_p23 : lw_okq (⟨"AidRowsModel", "costOf", "(I)I"⟩, 36) := ⟨⟨by decide +kernel, by decide +kernel⟩, List.mem_of_getElem? (i := 640) (by decide +kernel), List.mem_of_getElem? (i := 843) (by decide +kernel), List.mem_of_getElem? (i := 844) (by decide +kernel)⟩
def lw_privs_2 : List (MethodName × Nat) := [(⟨"AidRowsModel", "holding", "(II)I"⟩, 36), (⟨"AidRowsModel", "holds", "(I)Z"⟩, 36), (⟨"AidRowsModel", "what", "(III)I"⟩, 36), (⟨"AidRowsModel", "lent", "(I)I"⟩, 36), (⟨"AidRowsModel", "lend", "(IIII)V"⟩, 36), (⟨"AidRowsModel", "freeName", "(I)I"⟩, 36), (⟨"AidRowsModel", "isLoan", "(I)Z"⟩, 36), (⟨"AidRowsModel", "costOf", "(I)I"⟩, 36)]
theorem lw_r2 : ∀ q ∈ lw_privs_2, lw_okq q := List.forall_mem_cons.mpr ⟨lw_p16, List.forall_mem_cons.mpr ⟨lw_p17, List.forall_mem_cons.mpr ⟨lw_p18, List.forall_mem_cons.mpr ⟨lw_p19, List.forall_mem_cons.mpr ⟨lw_p20, List.forall_mem_cons.mpr ⟨lw_p21, List.forall_mem_cons.mpr ⟨lw_p22, List.forall_mem_cons.mpr ⟨lw_p23, fun _ h => absurd h List.not_mem_nil⟩⟩⟩⟩⟩⟩⟩⟩
def lw_privs : List (MethodName × Nat) := lw_privs_1 ++ (lw_privs_2)
def lw_tbl : List Cond := k2_sels lw_privs ++ tables_1
theorem lw_privs_ok : ∀ q ∈ lw_privs, lw_okq q := by
  show ∀ q ∈ lw_privs_1 ++ (lw_privs_2), lw_okq q
  exact List.forall_mem_append.mpr ⟨lw_r1, lw_r2⟩
end
section
/-! ===== BEGIN words of one list among another's, by their places ===== -/
theorem goodIn_r {big : List Cond} (ws : List Cond) (ps : List Nat) (hp : ws = ps.filterMap (fun i => big[i]?)) (h : ws.all goodWord = true) : GoodIn big ws := by
  intro w hw
  have h1 := List.all_eq_true.mp h w hw
  rw [hp] at hw
  obtain ⟨i, -, hi⟩ := List.mem_filterMap.mp hw
  have hm : w ∈ big := by first | exact List.mem_of_getElem? hi | exact List.getElem?_mem hi
  exact ⟨hm, good_of_word h1⟩
theorem goodIn_app {big a b : List Cond} (ha : GoodIn big a) (hb : GoodIn big b) : GoodIn big (a ++ b) := fun w h => (List.mem_append.mp h).elim (ha w) (hb w)
theorem goodIn_ca {big a b : List Cond} {c : Cond} (ha : GoodIn big (c :: a)) (hb : GoodIn big b) : GoodIn big (c :: (a ++ b)) := fun w h => (List.mem_cons.mp h).elim (fun e => ha w (List.mem_cons.mpr (Or.inl e))) (fun h => (List.mem_append.mp h).elim (fun h => ha w (List.mem_cons.mpr (Or.inr h))) (hb w))
theorem goodIn_sub {big ws : List Cond} (hm : ∀ w ∈ ws, w ∈ big) (h : ws.all goodWord = true) : GoodIn big ws := fun w hw => ⟨hm w hw, good_of_word (List.all_eq_true.mp h w hw)⟩
/-! ===== END ===== -/

/-! ===== BEGIN exceptions that leave a method, and their catching by the caller (launches without stack traces) ===== -/
section VXA
/-! The laws vx_back, vx_callV, vx_callS, vx_callSW, vx_throw0, vx_throwS follow proofs of the library, with one case more: JvmDerived/Free/Laws.lean (Back.of_free), Shelf42/LK1.lean (callV, callS), Shelf/KitTraced.lean (throwNew0V, throwNewS). -/
/-- where a method has thrown q: the class by its name, the cell, what was written, the world -/
def vx_T (XC : String → State → State → Prop) (st : State) (q : Addr) (t : State) (mc ms : Nat) (free : Addr → Prop) : Prop :=
  ∃ (E : String) (ce : Cell) (L : List Loc), XC E st t ∧ t.heap[q]? = some ce ∧ ce.vm = .none ∧ st.vm.findClass E = some ce.cls ∧ st.WarmedH t.vm ∧ st.sameButNew ({ t with vm := st.vm } : State) L mc ms ∧ ∀ z ∈ L, free z.base
def vx_Q (Qc : Array Value → State → Outcome → State → Prop) (XC : String → State → State → Prop) (mc ms : Nat) (free : Addr → Prop) : Array Value → State → Outcome → State → Prop := fun a st o t =>
  (Qc a st o t ∧ ∃ L, FrameEnd st o t L mc ms ∧ ∀ q ∈ L, free q.base) ∨ ∃ q, o = .threw q ∧ vx_T XC st q t mc ms free
/-- a callee that returns or throws -/
def vx_Met (l : Launch) (y : MethodName) (ws : List Cond) (rm : Room) (Pc : Array Value → State → Prop) (Qc : Array Value → State → Outcome → State → Prop) (XC : String → State → State → Prop) (mc ms : Nat) (free : Addr → Prop) : Prop :=
  MetFree l y (headSpec ws rm) Pc (fun _ _ _ _ _ => True) (vx_Q Qc XC mc ms free)
def vx_Post (XC : String → State → State → Prop) (mc ms : Nat) (free : Addr → Prop) : Pt → Array Value → Addr → Pt → Prop := fun A a q B =>
  ∃ (g : JFrame) (mk : MethodId) (t : State) (L : List Loc) (E : String) (ce : Cell), B.U.heap = t.heap ∧ B.U.vm = t.vm ∧ XC E (A.U.calling g mk a) t ∧ t.heap[q]? = some ce ∧ ce.vm = .none ∧ A.U.vm.findClass E = some ce.cls ∧ B.locs = A.locs ++ L ∧ (∀ z ∈ L, free z.base) ∧ B.cells = A.cells + mc ∧ B.slots = A.slots + ms
def vx_Back (l : Launch) (R : Room) (p : Program) (e : Env) (below : List Frame) (s : State) (sargs : Array Value) (y : MethodName) (len W9 : Nat)
    (Pre : Pt → Array Value → Prop) (Post : Pt → Array Value → Option Value → Pt → Prop) (PostX : Pt → Array Value → Addr → Pt → Prop) : Prop :=
  ∀ (m : MethodId) (meth : Method) (c : Code) (A : Pt) (g : JFrame) (ig : Instr) (mk : MethodId) (a : Array Value),
    Stand p l e R s m sargs below meth c A.U A.locs A.cells A.slots → g.method = m → g.locals.size = c.maxLocals → decode c.code g.pc = .ok (ig, len) →
    2 * g.monitorRoom + (g.stack.map fun v => v.category).sum ≤ W9 → A.U.methodNamed? y = some mk → Pre A a →
    (∃ (v : Option Value) (B : Pt), Stand p l e R s m sargs below meth c B.U B.locs B.cells B.slots ∧ Post A a v B ∧
      Steps p.tables e below (doInvoke e (A.U.setTop g) [] mk a).1 (B.U.setTop { g with pc := g.pc + len, stack := v.toList ++ g.stack })) ∨
    (∃ (q : Addr) (B : Pt), Stand p l e R s m sargs below meth c B.U B.locs B.cells B.slots ∧ PostX A a q B ∧
      Steps p.tables e below (doInvoke e (A.U.setTop g) [] mk a).1 ((B.U.setTop g).pushFrame (.throwing q)))
section Payer
variable {l : Launch} {R : Room} {p : Program} {e : Env} {below : List Frame} {s : State} {sargs : Array Value} {y : MethodName} {len W9 : Nat}
theorem vx_back {ws : List Cond} {rm : Room} {Pc : Array Value → State → Prop} {Qc : Array Value → State → Outcome → State → Prop} {XC : String → State → State → Prop} {mc ms : Nat} {free : Addr → Prop} {bytes : ByteArray} {maxL : Nat} {ret : Option FieldType}
    (hM : vx_Met l y ws rm Pc Qc XC mc ms free) (hblind : FrameBlind Pc) (hrc : rm.cells = mc) (hrs : rm.slots = ms)
    (hframes : rm.frames + 1 ≤ R.frames) (hlocals : W9 + (maxL + 11) + rm.locals ≤ R.locals)
    (hws : ∀ w ∈ ws, ∀ a' U, s.WarmedH U.vm → w.before a' U = true) (hcode : Cond.code y bytes maxL ret ∈ ws) (hinit : ∀ a' U, s.WarmedH U.vm → (Cond.initialized y.cls).before a' U = true) :
    vx_Back l R p e below s sargs y len W9 (PreOf R mc ms Pc) (PostOf Qc mc ms free) (vx_Post XC mc ms free) := by
  intro m meth c A g ig mk a X hg hsize hdg hW hn hp
  have h1 : (headSpec ws rm).pre.before a A.U = true := atoms_intro fun w hw => hws w hw _ _ X.warmed
  have h2 : (Cond.code y bytes maxL ret).before a A.U = true := hws _ hcode _ _ X.warmed
  have h3 : (Cond.initialized y.cls).before a A.U = true := hinit _ _ X.warmed
  have h4 : A.cells + (headSpec ws rm).room.cells ≤ R.cells := by rw [show (headSpec ws rm).room.cells = mc from hrc]; exact hp.1
  have h5 : A.slots + (headSpec ws rm).room.slots ≤ R.slots := by rw [show (headSpec ws rm).room.slots = ms from hrs]; exact hp.2.1
  have hPc : Pc a (A.U.calling g mk a) := hblind _ _ _ _ hp.2.2
  obtain ⟨U, Ls, c0, s0⟩ := A
  dsimp only [Pt.U, Pt.locs, Pt.cells, Pt.slots] at h1 h2 h3 h4 h5 X hn hPc ⊢
  obtain ⟨methY, cY, hmY, hcY, -, hlY, -, -, -, -⟩ := Cond.code_spec hn h2
  obtain ⟨kY, hkY, -⟩ := className_of_methodNamed hn
  have hinitY : kY.init = .initialized := Cond.initialized_spec (findClass_of_methodNamed hn) hkY h3
  have h : At U g.method c below := by rw [hg]; exact X.here
  have hlocals9 : W9 + (maxL + 11) + (headSpec ws rm).room.locals ≤ R.locals := hlocals
  have happ : (headSpec ws rm).appliesLoose y e.platform (U.calling g mk a) = true :=
    Spec.appliesLoose_calling (g := g) h hdg hn hkY hinitY
      (X.room_calling (g := g) (R' := (headSpec ws rm).room) hsize hmY hcY hframes (by rw [hlY]; omega) h4 h5) h1
  obtain ⟨mid, hmid⟩ := h.above
  have hfr : (U.setTop g).frames = (.java g :: mid) ++ below := by rw [State.frames_setTop' g h.top, hmid]; rfl
  obtain ⟨o, s₂, hsteps, -, hend, hq⟩ := Steps.callFree hM p X.admits X.cas X.clock (acts := []) hfr happ hPc trivial
  have hq' : vx_Q Qc XC mc ms free a (U.calling g mk a) o s₂ := hq
  rw [State.frames_setTop' g h.top] at hend
  obtain ⟨g₀, hg0⟩ := Option.isSome_iff_exists.mp h.top
  obtain ⟨r, hr⟩ := State.topJava?_eq_some.mp hg0
  have hr' : (({ U with heap := s₂.heap, slotsUsed := s₂.slotsUsed } : State).setVm s₂.vm).frames = .java g₀ :: r := hr
  rcases hq' with ⟨hqc, L, hfe, hL⟩ | ⟨q, rfl, E, ce, L, hx, hce, hcv, hcl, hW₂, hsm, hL⟩
  · obtain ⟨⟨v, rfl⟩, hW₂, e2, q2, q3, q4, q5, q6⟩ := id hfe
    have e3 : s₂ = ({ (U.calling g mk a).setFrames s₂.frames with heap := s₂.heap, slotsUsed := s₂.slotsUsed } : State).setVm s₂.vm := by
      have : s₂ = ({ s₂ with vm := (U.calling g mk a).vm } : State).setVm s₂.vm := rfl
      rw [e2] at this
      exact this
    obtain ⟨c₂, i₂, len₂, hc₂, hd₂, hf₂⟩ := hend
    have hW' : U.WarmedH s₂.vm := hW₂
    have hcc : c₂ = c := by
      have h1 : s₂.code? g.method = U.code? g.method := by
        rw [State.code?_eq, State.code?_eq, hW'.alike.method?]
      exact Option.some.inj (hc₂.symm.trans (h1.trans h.code))
    subst hcc
    have hlen : len₂ = len := by rw [hdg] at hd₂; cases hd₂; rfl
    subst hlen
    have hs₂ : s₂ = (({ U with heap := s₂.heap, slotsUsed := s₂.slotsUsed } : State).setVm s₂.vm).setTop { g with pc := g.pc + len₂, stack := v.toList ++ g.stack } := by
      refine e3.trans ?_
      rw [hf₂, State.calling_eq h.top, State.setFrames_setFrames, State.setTop_of_frames _ hr', hr]
      rfl
    have hsame : U.sameButNew ({ U with heap := s₂.heap, slotsUsed := s₂.slotsUsed } : State) L mc ms := by
      refine ⟨?_, q2, q3, q4, q5, q6⟩
      obtain ⟨t, ht, -⟩ := State.frames_cons hr
      show ({ U with heap := s₂.heap, slotsUsed := s₂.slotsUsed } : State) = { U.setFrames U.frames with heap := s₂.heap, slotsUsed := s₂.slotsUsed }
      rw [State.setFrames_self ht]
    subst hg
    refine Or.inl ⟨v, ⟨(({ U with heap := s₂.heap, slotsUsed := s₂.slotsUsed } : State).setVm s₂.vm), Ls ++ L, c0 + mc, s0 + ms⟩,
      ⟨X.admits, X.cas, X.clock, X.frames, X.room, X.hears, X.method, X.code, (X.here.setHeapUsed s₂.heap s₂.slotsUsed).setVm hW'.alike, X.tail, State.WarmedH.trans X.warmed hW', X.limits, X.bytes, X.same.trans (hsame.setVm s.vm)⟩,
      ⟨g, mk, s₂, L, rfl, rfl, hqc, rfl, hL, rfl, rfl⟩, ?_⟩
    show Steps p.tables e below _ ((({ U with heap := s₂.heap, slotsUsed := s₂.slotsUsed } : State).setVm s₂.vm).setTop { g with pc := g.pc + len₂, stack := v.toList ++ g.stack })
    rw [← hs₂]
    exact hsteps
  · obtain ⟨e2, q2, q3, q4, q5, q6⟩ := id hsm
    have e3 : s₂ = ({ (U.calling g mk a).setFrames s₂.frames with heap := s₂.heap, slotsUsed := s₂.slotsUsed } : State).setVm s₂.vm := by
      have : s₂ = ({ s₂ with vm := (U.calling g mk a).vm } : State).setVm s₂.vm := rfl
      rw [e2] at this
      exact this
    have hf₂ : s₂.frames = .throwing q :: .java g :: U.frames.tail := hend
    have hW' : U.WarmedH s₂.vm := hW₂
    have hs₂ : s₂ = ((({ U with heap := s₂.heap, slotsUsed := s₂.slotsUsed } : State).setVm s₂.vm).setTop g).pushFrame (.throwing q) := by
      refine e3.trans ?_
      rw [hf₂, State.calling_eq h.top, State.setFrames_setFrames, State.pushFrame, State.frames_setTop _ hr', State.setTop_of_frames _ hr', State.setFrames_setFrames, hr]
      rfl
    have hsame : U.sameButNew ({ U with heap := s₂.heap, slotsUsed := s₂.slotsUsed } : State) L mc ms := by
      refine ⟨?_, q2, q3, q4, q5, q6⟩
      obtain ⟨t, ht, -⟩ := State.frames_cons hr
      show ({ U with heap := s₂.heap, slotsUsed := s₂.slotsUsed } : State) = { U.setFrames U.frames with heap := s₂.heap, slotsUsed := s₂.slotsUsed }
      rw [State.setFrames_self ht]
    subst hg
    refine Or.inr ⟨q, ⟨(({ U with heap := s₂.heap, slotsUsed := s₂.slotsUsed } : State).setVm s₂.vm), Ls ++ L, c0 + mc, s0 + ms⟩,
      ⟨X.admits, X.cas, X.clock, X.frames, X.room, X.hears, X.method, X.code, (X.here.setHeapUsed s₂.heap s₂.slotsUsed).setVm hW'.alike, X.tail, State.WarmedH.trans X.warmed hW', X.limits, X.bytes, X.same.trans (hsame.setVm s.vm)⟩,
      ⟨g, mk, s₂, L, E, ce, rfl, rfl, hx, hce, hcv, hcl, rfl, hL, rfl, rfl⟩, ?_⟩
    show Steps p.tables e below _ (((({ U with heap := s₂.heap, slotsUsed := s₂.slotsUsed } : State).setVm s₂.vm).setTop g).pushFrame (.throwing q))
    rw [← hs₂]
    exact hsteps
end Payer
section Calls
variable {p : Program} {l : Launch} {e : Env} {R : Room} {s : State} {m : MethodId} {args : Array Value} {below : List Frame} {meth : Method} {c : Code} {T : State} {locs : List Loc} {cells slots : Nat}
theorem vx_callV (X : Stand p l e R s m args below meth c T locs cells slots) (hexec : p.tables.exec = Jvm.exec) {own C : String} {index : Nat} {y : MethodName} {bytes : ByteArray} {maxL : Nat} {ret : Option FieldType}
    (hown : s.vm.findClass own = some m.cls) (hlink : (Cond.methodLink own index y).before args s = true) (hinst : (Cond.instanceMethod y).before args s = true) (hsel : (Cond.selects C y y).before args s = true)
    (hcode : (Cond.code y bytes maxL ret).before args s = true) (hy : y.cls ≠ "java/lang/invoke/MethodHandle" ∧ y.cls ≠ "java/lang/invoke/VarHandle")
    {W9 : Nat} {Pre : Pt → Array Value → Prop} {Post : Pt → Array Value → Option Value → Pt → Prop} {PostX : Pt → Array Value → Addr → Pt → Prop} (hK : vx_Back l R p e below s args y 3 W9 Pre Post PostX)
    {b : Addr} {cellB : Cell} (hcell : T.heap[b]? = some cellB) (hobj : cellB.vm.isStatics = false) (hcls : s.vm.findClass C = some cellB.cls)
    {g : JFrame} (hg : g.method = m) (hsize : g.locals.size = c.maxLocals) {argsL rest : List Value} (hlen : ∀ sig, parseMethodDescriptor y.desc = some sig → argsL.length = sig.parameters.length)
    (hstack : g.stack = argsL.reverse ++ .ref b :: rest) (hW : 2 * g.monitorRoom + (rest.map fun v => v.category).sum ≤ W9) (hdg : decode c.code g.pc = .ok (.invokevirtual index, 3))
    (hpre : ∀ vm₁, s.WarmedH vm₁ → Pre ⟨T.setVm vm₁, locs, cells, slots⟩ (Value.ref b :: argsL).toArray) :
    (∃ (v : Option Value) (vm₁ : Vm) (B : Pt), s.WarmedH vm₁ ∧ Stand p l e R s m args below meth c B.U B.locs B.cells B.slots ∧ Post ⟨T.setVm vm₁, locs, cells, slots⟩ (Value.ref b :: argsL).toArray v B ∧
      ∀ target, Steps p.tables e below (B.U.setTop { g with pc := g.pc + 3, stack := v.toList ++ rest }) target → Steps p.tables e below (T.setTop g) target) ∨
    (∃ (q : Addr) (vm₁ : Vm) (B : Pt), s.WarmedH vm₁ ∧ Stand p l e R s m args below meth c B.U B.locs B.cells B.slots ∧ PostX ⟨T.setVm vm₁, locs, cells, slots⟩ (Value.ref b :: argsL).toArray q B ∧
      Steps p.tables e below (T.setTop g) ((B.U.setTop { g with stack := rest }).pushFrame (.throwing q))) := by
  obtain ⟨mk, methM, hnamed, hmethM, hstM, habM⟩ := Cond.instanceMethod_spec hinst
  obtain ⟨methM', cM, hmethM', -, -, -, -, -, -, hsigM⟩ := Cond.code_spec hnamed hcode
  cases hmethM.symm.trans hmethM'
  obtain ⟨c2, r2, m2, q1, q2, q3, q4, kP, hkP, hkPi⟩ := Cond.selects_spec hsel
  cases hcls.symm.trans q1
  cases (State.methodFound?_of_named hnamed hy).symm.trans q2
  cases hnamed.symm.trans q3
  have hselP : selectMethod e.platform s.vm cellB.cls mk = .method mk := by rw [Launch.admits_selectMethod X.admits]; exact q4
  obtain ⟨vm₁, X₁, hstep₁⟩ := X.invokevirtual hexec hown hlink hnamed hmethM hstM hkP hkPi hy (a := b) (cell := cellB) hcell
    (fun z h => by rw [h] at hobj; cases hobj) hselP hmethM habM hkP hkPi (g := g) hg (argsL := argsL) (rest := rest) (hlen _ hsigM) hstack hdg
  rcases hK m meth c ⟨T.setVm vm₁, locs, cells, slots⟩ { g with stack := rest } (.invokevirtual index) mk (Value.ref b :: argsL).toArray X₁ hg hsize hdg hW (X₁.named hnamed) (hpre vm₁ X₁.warmed) with ⟨v, B, X', hpost, hsteps⟩ | ⟨q, B, X', hpost, hsteps⟩
  · exact Or.inl ⟨v, vm₁, B, X₁.warmed, X', hpost, fun target h => hstep₁ _ fun acts => by rw [doInvoke_state]; exact hsteps.trans h⟩
  · exact Or.inr ⟨q, vm₁, B, X₁.warmed, X', hpost, hstep₁ _ fun acts => by rw [doInvoke_state]; exact hsteps⟩
theorem vx_callS (X : Stand p l e R s m args below meth c T locs cells slots) (hexec : p.tables.exec = Jvm.exec) {own : String} {index : Nat} {y : MethodName} {bytes : ByteArray} {maxL : Nat} {ret : Option FieldType}
    (hown : s.vm.findClass own = some m.cls) (hlink : (Cond.methodLink own index y).before args s = true) (hstat : (Cond.static y).before args s = true) (hinit : (Cond.initialized y.cls).before args s = true)
    (hcode : (Cond.code y bytes maxL ret).before args s = true) (hy : y.cls ≠ "java/lang/invoke/MethodHandle" ∧ y.cls ≠ "java/lang/invoke/VarHandle")
    {W9 : Nat} {Pre : Pt → Array Value → Prop} {Post : Pt → Array Value → Option Value → Pt → Prop} {PostX : Pt → Array Value → Addr → Pt → Prop} (hK : vx_Back l R p e below s args y 3 W9 Pre Post PostX)
    {g : JFrame} (hg : g.method = m) (hsize : g.locals.size = c.maxLocals) {argsL rest : List Value} (hlen : ∀ sig, parseMethodDescriptor y.desc = some sig → argsL.length = sig.parameters.length)
    (hstack : g.stack = argsL.reverse ++ rest) (hW : 2 * g.monitorRoom + (rest.map fun v => v.category).sum ≤ W9) (hdg : decode c.code g.pc = .ok (.invokestatic index, 3))
    (hpre : ∀ vm₁, s.WarmedH vm₁ → Pre ⟨T.setVm vm₁, locs, cells, slots⟩ argsL.toArray) :
    (∃ (v : Option Value) (vm₁ : Vm) (B : Pt), s.WarmedH vm₁ ∧ Stand p l e R s m args below meth c B.U B.locs B.cells B.slots ∧ Post ⟨T.setVm vm₁, locs, cells, slots⟩ argsL.toArray v B ∧
      ∀ target, Steps p.tables e below (B.U.setTop { g with pc := g.pc + 3, stack := v.toList ++ rest }) target → Steps p.tables e below (T.setTop g) target) ∨
    (∃ (q : Addr) (vm₁ : Vm) (B : Pt), s.WarmedH vm₁ ∧ Stand p l e R s m args below meth c B.U B.locs B.cells B.slots ∧ PostX ⟨T.setVm vm₁, locs, cells, slots⟩ argsL.toArray q B ∧
      Steps p.tables e below (T.setTop g) ((B.U.setTop { g with stack := rest }).pushFrame (.throwing q))) := by
  obtain ⟨mk, hnamed⟩ := Cond.code_named hcode
  obtain ⟨methM, cM, hmethM, -, -, -, -, -, -, hsigM⟩ := Cond.code_spec hnamed hcode
  have hstatic : methM.isStatic = true := Cond.static_spec hnamed hmethM hstat
  obtain ⟨kP, hkP, -⟩ := className_of_methodNamed hnamed
  have hinitP : kP.init = .initialized := Cond.initialized_spec (findClass_of_methodNamed hnamed) hkP hinit
  obtain ⟨vm₁, X₁, hstep₁⟩ := X.invokestatic hexec hown hlink hnamed hmethM hstatic hkP hinitP hy (g := g) hg (argsL := argsL) (rest := rest) (hlen _ hsigM) hstack hdg
  rcases hK m meth c ⟨T.setVm vm₁, locs, cells, slots⟩ { g with stack := rest } (.invokestatic index) mk argsL.toArray X₁ hg hsize hdg hW (X₁.named hnamed) (hpre vm₁ X₁.warmed) with ⟨v, B, X', hpost, hsteps⟩ | ⟨q, B, X', hpost, hsteps⟩
  · exact Or.inl ⟨v, vm₁, B, X₁.warmed, X', hpost, fun target h => hstep₁ _ fun acts => by rw [doInvoke_state]; exact hsteps.trans h⟩
  · exact Or.inr ⟨q, vm₁, B, X₁.warmed, X', hpost, hstep₁ _ fun acts => by rw [doInvoke_state]; exact hsteps⟩
end Calls
theorem vx_cls {s : State} {T : State} {vm₁ : Vm} {E : String} {k : ClassId} (hW : s.WarmedH vm₁) (h : (T.setVm vm₁).vm.findClass E = some k) : s.vm.findClass E = some k := by
  have h1 : vm₁.findClass E = some k := h
  rw [hW.alike.findClass] at h1
  exact h1
/-- the method's frame g, with q thrown over it -/
def vx_W (p : Program) (l : Launch) (e : Env) (R : Room) (s : State) (m : MethodId) (args : Array Value) (below : List Frame) (meth : Method) (c : Code) (H : Heap) (locs : List Loc) (cells slots : Nat) (Q : State → Prop) (g : JFrame) (q : Addr) : Prop :=
  ∀ T : State, T.heap = H → Stand p l e R s m args below meth c T locs cells slots → ∃ t, Steps p.tables e below ((T.setTop g).pushFrame (.throwing q)) t ∧ Q t
def vx_Run (p : Program) (l : Launch) (e : Env) (R : Room) (s : State) (m : MethodId) (args : Array Value) (below : List Frame) (meth : Method) (c : Code) (H : Heap) (locs : List Loc) (cells slots mc ms : Nat) (g : JFrame) (rest : List Value) (Qa : State → Outcome → State → Prop) (XC : String → State → State → Prop) (free : Addr → Prop) : Prop :=
  ∀ T : State, T.heap = H → Stand p l e R s m args below meth c T locs cells slots →
    (∃ (v : Option Value) (st₀ t T' : State) (L : List Loc), st₀.heap = H ∧ Stand p l e R s m args below meth c T' (locs ++ L) (cells + mc) (slots + ms) ∧ (∀ q ∈ L, free q.base) ∧ T'.heap = t.heap ∧ T'.vm = t.vm ∧ Qa st₀ (.returned v) t ∧
      Goes p e below T g T' { g with pc := g.pc + 3, stack := v.toList ++ rest }) ∨
    (∃ (q : Addr) (st₀ t T' : State) (L : List Loc) (E : String) (ce : Cell), st₀.heap = H ∧ Stand p l e R s m args below meth c T' (locs ++ L) (cells + mc) (slots + ms) ∧ (∀ z ∈ L, free z.base) ∧ T'.heap = t.heap ∧ T'.vm = t.vm ∧ XC E st₀ t ∧ t.heap[q]? = some ce ∧ ce.vm = .none ∧ s.vm.findClass E = some ce.cls ∧
      Steps p.tables e below (T.setTop g) ((T'.setTop { g with stack := rest }).pushFrame (.throwing q)))
def vx_X {S : Type} (px : S → Prop) (B : String → S → State → Prop) (A : Nat → Prop) : String → State → State → Prop := fun E st t => ∃ u : S, px u ∧ B E u t ∧ va_F A st t
section Runs
variable {p : Program} {l : Launch} {e : Env} {R : Room} {s : State} {m : MethodId} {args : Array Value} {below : List Frame} {meth : Method} {c : Code} {H : Heap} {locs : List Loc} {cells slots : Nat}
variable {y : MethodName} {bytes cc : ByteArray} {maxL nL mc ms n index : Nat} {ret : Option FieldType} {ws : List Cond} {rm : Room} {Pc : Array Value → State → Prop} {Qc : Array Value → State → Outcome → State → Prop} {XC : String → State → State → Prop} {free : Addr → Prop} {Ts : List Cond} {own C : String} {b : Addr} {As rest : List Value} {g : JFrame}
theorem vx_callBack (cb : CallB R s args own index y bytes maxL ret ws rm mc ms n) (hM : vx_Met l y ws rm Pc Qc XC mc ms free) (hbl : FrameBlind Pc) : vx_Back l R p e below s args y 3 8 (PreOf R mc ms Pc) (PostOf Qc mc ms free) (vx_Post XC mc ms free) := by
  obtain ⟨hrc, hrs, hfr, hlo, hws, hcw, -, hini, -⟩ := cb
  exact vx_back (bytes := bytes) (maxL := maxL) (ret := ret) hM hbl hrc hrs hfr hlo hws hcw (fun a' U hW => word_at hW (Or.inl (by first | rfl | simp [Cond.onTables, Cond.keeps, Cond.steady])) hini)
theorem vx_runV (S : CallFix p m c cc nL s args Ts own) (hM : vx_Met l y ws rm Pc Qc XC mc ms free) (cw : CallW R s args own C index y bytes maxL ret ws rm mc ms n) (hp : PreV s H C b Pc As)
    (hg : g.method = m) (hn : As.length = n) (hsize : g.locals.size = nL) (hstack : g.stack = As.reverse ++ .ref b :: rest) (hW : 2 * g.monitorRoom + (rest.map fun v => v.category).sum ≤ 8) (hdg : decode cc g.pc = .ok (.invokevirtual index, 3)) (hf : cells + mc ≤ R.cells ∧ slots + ms ≤ R.slots) :
    vx_Run p l e R s m args below meth c H locs cells slots mc ms g rest (Qc (Value.ref b :: As).toArray) XC free := by
  have hK : vx_Back l R p e below s args y 3 8 (PreOf R mc ms Pc) (PostOf Qc mc ms free) (vx_Post XC mc ms free) := vx_callBack cw.1 hM hp.1
  obtain ⟨⟨-, -, -, -, -, -, hcode, -, hy, hlen, hl⟩, hin, hse⟩ := cw
  obtain ⟨hx, hb, hml, ho, -⟩ := S
  obtain ⟨-, ⟨cellB, hcB, hoB, hclB⟩, hPc⟩ := hp
  intro T hT X
  rcases vx_callV X hx (C := C) (bytes := bytes) (maxL := maxL) (ret := ret) ho hl hin hse hcode hy hK (by rw [hT]; exact hcB) hoB hclB hg (hsize.trans hml.symm) (argsL := As) (rest := rest) (fun sig h => hn.trans (hlen sig h)) hstack hW (by rw [hb]; exact hdg)
    (fun vm₁ hW₁ => ⟨hf.1, hf.2, hPc (T.setVm vm₁) hT hW₁⟩) with ⟨v, vm₁, ⟨U', l2, c2, s2⟩, hW₁, X', ⟨g', mk, t, L, e1, e2, hq, h1, hL, h2, h3⟩, st⟩ | ⟨q, vm₁, ⟨U', l2, c2, s2⟩, hW₁, X', ⟨g', mk, t, L, E, ce, e1, e2, hq, hce, hcv, hcl, h1, hL, h2, h3⟩, st⟩
  · dsimp only [Pt.U, Pt.locs, Pt.cells, Pt.slots] at X' e1 e2 h1 h2 h3 st
    subst h1; subst h2; subst h3
    exact Or.inl ⟨v, (T.setVm vm₁).calling g' mk (Value.ref b :: As).toArray, t, U', L, hT, X', hL, e1, e2, hq, st⟩
  · dsimp only [Pt.U, Pt.locs, Pt.cells, Pt.slots] at X' e1 e2 h1 h2 h3 st hcl
    subst h1; subst h2; subst h3
    exact Or.inr ⟨q, (T.setVm vm₁).calling g' mk (Value.ref b :: As).toArray, t, U', L, E, ce, hT, X', hL, e1, e2, hq, hce, hcv, vx_cls hW₁ hcl, st⟩
theorem vx_runS (S : CallFix p m c cc nL s args Ts own) (hM : vx_Met l y ws rm Pc Qc XC mc ms free) (cw : CallB R s args own index y bytes maxL ret ws rm mc ms n ∧ (Cond.static y).before args s = true) (hp : PreS s H Pc As)
    (hg : g.method = m) (hn : As.length = n) (hsize : g.locals.size = nL) (hstack : g.stack = As.reverse ++ rest) (hW : 2 * g.monitorRoom + (rest.map fun v => v.category).sum ≤ 8) (hdg : decode cc g.pc = .ok (.invokestatic index, 3)) (hf : cells + mc ≤ R.cells ∧ slots + ms ≤ R.slots) :
    vx_Run p l e R s m args below meth c H locs cells slots mc ms g rest (Qc As.toArray) XC free := by
  have hK : vx_Back l R p e below s args y 3 8 (PreOf R mc ms Pc) (PostOf Qc mc ms free) (vx_Post XC mc ms free) := vx_callBack cw.1 hM hp.1
  obtain ⟨⟨-, -, -, -, -, -, hcode, hini, hy, hlen, hl⟩, hstt⟩ := cw
  obtain ⟨hx, hb, hml, ho, -⟩ := S
  intro T hT X
  rcases vx_callS X hx (bytes := bytes) (maxL := maxL) (ret := ret) ho hl hstt hini hcode hy hK hg (hsize.trans hml.symm) (argsL := As) (rest := rest) (fun sig h => hn.trans (hlen sig h)) hstack hW (by rw [hb]; exact hdg)
    (fun vm₁ hW₁ => ⟨hf.1, hf.2, hp.2 (T.setVm vm₁) hT hW₁⟩) with ⟨v, vm₁, ⟨U', l2, c2, s2⟩, hW₁, X', ⟨g', mk, t, L, e1, e2, hq, h1, hL, h2, h3⟩, st⟩ | ⟨q, vm₁, ⟨U', l2, c2, s2⟩, hW₁, X', ⟨g', mk, t, L, E, ce, e1, e2, hq, hce, hcv, hcl, h1, hL, h2, h3⟩, st⟩
  · dsimp only [Pt.U, Pt.locs, Pt.cells, Pt.slots] at X' e1 e2 h1 h2 h3 st
    subst h1; subst h2; subst h3
    exact Or.inl ⟨v, (T.setVm vm₁).calling g' mk As.toArray, t, U', L, hT, X', hL, e1, e2, hq, st⟩
  · dsimp only [Pt.U, Pt.locs, Pt.cells, Pt.slots] at X' e1 e2 h1 h2 h3 st hcl
    subst h1; subst h2; subst h3
    exact Or.inr ⟨q, (T.setVm vm₁).calling g' mk As.toArray, t, U', L, E, ce, hT, X', hL, e1, e2, hq, hce, hcv, vx_cls hW₁ hcl, st⟩
end Runs
section Rows
variable {p : Program} {l : Launch} {e : Env} {R : Room} {s : State} {m : MethodId} {args : Array Value} {below : List Frame} {meth : Method} {c : Code} {H : Heap} {locs : List Loc} {cells slots : Nat} {Q : State → Prop}
variable {mc ms : Nat} {free : Addr → Prop} {A0 A1 : Nat → Prop} {H0 : Heap} {a : Array Value} {pc : Nat} {ls : Array Slot} {st0 rest : List Value}
theorem vx_keep {st₀ t T' : State} {L : List Loc} (h0 : st₀.heap = H) (e1 : T'.heap = t.heap) (hS : va_S A0 H0 H locs) (hA : ∀ q, q < H.size → A1 q → A0 q) (hf : ∀ q, free q → A0 q) (hL : ∀ q ∈ L, free q.base) (hF : va_F A1 st₀ t) :
    H.size ≤ T'.heap.size ∧ (∀ q : Nat, q < H.size → ¬ A1 q → T'.heap[q]? = H[q]?) ∧ va_S A0 H0 T'.heap (locs ++ L) := by
  obtain ⟨hz, hk⟩ := hF
  rw [h0] at hz hk
  exact ⟨by rw [e1]; exact hz, fun q h1 h2 => by rw [e1]; exact hk q h1 h2,
    ⟨Nat.le_trans hS.1 (by rw [e1]; exact hz), fun q h1 h2 => by rw [e1, hk q (Nat.lt_of_lt_of_le h1 hS.1) (fun z => h2 (hA q (Nat.lt_of_lt_of_le h1 hS.1) z))]; exact hS.2.1 q h1 h2, fun q hq => by
      rcases List.mem_append.mp hq with h | h
      · exact hS.2.2 q h
      · exact hf _ (hL q h)⟩⟩
theorem vx_calli {S SX : Type} {post : Int32 → S → Prop} {px : SX → Prop} {B : S → State → Prop} {BX : String → SX → State → Prop} {AX : Nat → Prop} (hr : vx_Run p l e R s m args below meth c H locs cells slots mc ms (F0 m pc ls st0) rest (va_Qi post B A1 a) (vx_X px BX AX) free) (hS : va_S A0 H0 H locs) (hA : ∀ q, q < H.size → A1 q → A0 q) (hf : ∀ q, free q → A0 q) (hAX : ∀ q, q < H.size → AX q → A0 q)
    (kx : ∀ (E : String) (ce : Cell) (q9 : Addr) (u : SX) (t : State) (H1 : Heap) (locs1 : List Loc), t.heap = H1 → s.vm.Alike t.vm → px u → BX E u t → H.size ≤ H1.size → (∀ q : Nat, q < H.size → ¬ AX q → H1[q]? = H[q]?) → va_S A0 H0 H1 locs1 → H1[q9]? = some ce → ce.vm = .none → s.vm.findClass E = some ce.cls → vx_W p l e R s m args below meth c H1 locs1 (cells + mc) (slots + ms) Q (F0 m pc ls rest) q9)
    (kk : ∀ (r : Int32) (u : S) (t : State) (H1 : Heap) (locs1 : List Loc), t.heap = H1 → s.vm.Alike t.vm → post r u → B u t → H.size ≤ H1.size → (∀ q : Nat, q < H.size → ¬ A1 q → H1[q]? = H[q]?) → va_S A0 H0 H1 locs1 → W p l e R s m args below meth c H1 locs1 (cells + mc) (slots + ms) Q (F0 m (pc + 3) ls (.int r :: rest))) : W p l e R s m args below meth c H locs cells slots Q (F0 m pc ls st0) := by
  intro T hT X
  rcases hr T hT X with ⟨v, st₀, t, T', L, h0, X', hL, e1, e2, ⟨⟨r, u, hv, hp, hb⟩, hF⟩, st⟩ | ⟨q, st₀, t, T', L, E, ce, h0, X', hL, e1, e2, ⟨u, hp, hb, hF⟩, hce, hcv, hcl, st⟩
  · cases hv
    obtain ⟨k1, k2, k3⟩ := vx_keep h0 e1 hS hA hf hL hF
    obtain ⟨t2, a1, b1⟩ := kk r u t T'.heap (locs ++ L) e1.symm (by rw [← e2]; exact X'.warmed.alike) hp hb k1 k2 k3 T' rfl X'
    exact ⟨t2, st t2 a1, b1⟩
  · obtain ⟨k1, k2, k3⟩ := vx_keep h0 e1 hS hAX hf hL hF
    obtain ⟨t2, a1, b1⟩ := kx E ce q u t T'.heap (locs ++ L) e1.symm (by rw [← e2]; exact X'.warmed.alike) hp hb k1 k2 k3 (by rw [e1]; exact hce) hcv hcl T' rfl X'
    exact ⟨t2, st.trans a1, b1⟩
theorem vx_calll {S SX : Type} {post : Int64 → S → Prop} {px : SX → Prop} {B : S → State → Prop} {BX : String → SX → State → Prop} {AX : Nat → Prop} (hr : vx_Run p l e R s m args below meth c H locs cells slots mc ms (F0 m pc ls st0) rest (va_Ql post B A1 a) (vx_X px BX AX) free) (hS : va_S A0 H0 H locs) (hA : ∀ q, q < H.size → A1 q → A0 q) (hf : ∀ q, free q → A0 q) (hAX : ∀ q, q < H.size → AX q → A0 q)
    (kx : ∀ (E : String) (ce : Cell) (q9 : Addr) (u : SX) (t : State) (H1 : Heap) (locs1 : List Loc), t.heap = H1 → s.vm.Alike t.vm → px u → BX E u t → H.size ≤ H1.size → (∀ q : Nat, q < H.size → ¬ AX q → H1[q]? = H[q]?) → va_S A0 H0 H1 locs1 → H1[q9]? = some ce → ce.vm = .none → s.vm.findClass E = some ce.cls → vx_W p l e R s m args below meth c H1 locs1 (cells + mc) (slots + ms) Q (F0 m pc ls rest) q9)
    (kk : ∀ (r : Int64) (u : S) (t : State) (H1 : Heap) (locs1 : List Loc), t.heap = H1 → s.vm.Alike t.vm → post r u → B u t → H.size ≤ H1.size → (∀ q : Nat, q < H.size → ¬ A1 q → H1[q]? = H[q]?) → va_S A0 H0 H1 locs1 → W p l e R s m args below meth c H1 locs1 (cells + mc) (slots + ms) Q (F0 m (pc + 3) ls (.long r :: rest))) : W p l e R s m args below meth c H locs cells slots Q (F0 m pc ls st0) := by
  intro T hT X
  rcases hr T hT X with ⟨v, st₀, t, T', L, h0, X', hL, e1, e2, ⟨⟨r, u, hv, hp, hb⟩, hF⟩, st⟩ | ⟨q, st₀, t, T', L, E, ce, h0, X', hL, e1, e2, ⟨u, hp, hb, hF⟩, hce, hcv, hcl, st⟩
  · cases hv
    obtain ⟨k1, k2, k3⟩ := vx_keep h0 e1 hS hA hf hL hF
    obtain ⟨t2, a1, b1⟩ := kk r u t T'.heap (locs ++ L) e1.symm (by rw [← e2]; exact X'.warmed.alike) hp hb k1 k2 k3 T' rfl X'
    exact ⟨t2, st t2 a1, b1⟩
  · obtain ⟨k1, k2, k3⟩ := vx_keep h0 e1 hS hAX hf hL hF
    obtain ⟨t2, a1, b1⟩ := kx E ce q u t T'.heap (locs ++ L) e1.symm (by rw [← e2]; exact X'.warmed.alike) hp hb k1 k2 k3 (by rw [e1]; exact hce) hcv hcl T' rfl X'
    exact ⟨t2, st.trans a1, b1⟩
theorem vx_callf {S SX : Type} {post : UInt32 → S → Prop} {px : SX → Prop} {B : S → State → Prop} {BX : String → SX → State → Prop} {AX : Nat → Prop} (hr : vx_Run p l e R s m args below meth c H locs cells slots mc ms (F0 m pc ls st0) rest (va_Qf post B A1 a) (vx_X px BX AX) free) (hS : va_S A0 H0 H locs) (hA : ∀ q, q < H.size → A1 q → A0 q) (hf : ∀ q, free q → A0 q) (hAX : ∀ q, q < H.size → AX q → A0 q)
    (kx : ∀ (E : String) (ce : Cell) (q9 : Addr) (u : SX) (t : State) (H1 : Heap) (locs1 : List Loc), t.heap = H1 → s.vm.Alike t.vm → px u → BX E u t → H.size ≤ H1.size → (∀ q : Nat, q < H.size → ¬ AX q → H1[q]? = H[q]?) → va_S A0 H0 H1 locs1 → H1[q9]? = some ce → ce.vm = .none → s.vm.findClass E = some ce.cls → vx_W p l e R s m args below meth c H1 locs1 (cells + mc) (slots + ms) Q (F0 m pc ls rest) q9)
    (kk : ∀ (r : UInt32) (u : S) (t : State) (H1 : Heap) (locs1 : List Loc), t.heap = H1 → s.vm.Alike t.vm → post r u → B u t → H.size ≤ H1.size → (∀ q : Nat, q < H.size → ¬ A1 q → H1[q]? = H[q]?) → va_S A0 H0 H1 locs1 → W p l e R s m args below meth c H1 locs1 (cells + mc) (slots + ms) Q (F0 m (pc + 3) ls (.float r :: rest))) : W p l e R s m args below meth c H locs cells slots Q (F0 m pc ls st0) := by
  intro T hT X
  rcases hr T hT X with ⟨v, st₀, t, T', L, h0, X', hL, e1, e2, ⟨⟨r, u, hv, hp, hb⟩, hF⟩, st⟩ | ⟨q, st₀, t, T', L, E, ce, h0, X', hL, e1, e2, ⟨u, hp, hb, hF⟩, hce, hcv, hcl, st⟩
  · cases hv
    obtain ⟨k1, k2, k3⟩ := vx_keep h0 e1 hS hA hf hL hF
    obtain ⟨t2, a1, b1⟩ := kk r u t T'.heap (locs ++ L) e1.symm (by rw [← e2]; exact X'.warmed.alike) hp hb k1 k2 k3 T' rfl X'
    exact ⟨t2, st t2 a1, b1⟩
  · obtain ⟨k1, k2, k3⟩ := vx_keep h0 e1 hS hAX hf hL hF
    obtain ⟨t2, a1, b1⟩ := kx E ce q u t T'.heap (locs ++ L) e1.symm (by rw [← e2]; exact X'.warmed.alike) hp hb k1 k2 k3 (by rw [e1]; exact hce) hcv hcl T' rfl X'
    exact ⟨t2, st.trans a1, b1⟩
theorem vx_calld {S SX : Type} {post : UInt64 → S → Prop} {px : SX → Prop} {B : S → State → Prop} {BX : String → SX → State → Prop} {AX : Nat → Prop} (hr : vx_Run p l e R s m args below meth c H locs cells slots mc ms (F0 m pc ls st0) rest (va_Qd post B A1 a) (vx_X px BX AX) free) (hS : va_S A0 H0 H locs) (hA : ∀ q, q < H.size → A1 q → A0 q) (hf : ∀ q, free q → A0 q) (hAX : ∀ q, q < H.size → AX q → A0 q)
    (kx : ∀ (E : String) (ce : Cell) (q9 : Addr) (u : SX) (t : State) (H1 : Heap) (locs1 : List Loc), t.heap = H1 → s.vm.Alike t.vm → px u → BX E u t → H.size ≤ H1.size → (∀ q : Nat, q < H.size → ¬ AX q → H1[q]? = H[q]?) → va_S A0 H0 H1 locs1 → H1[q9]? = some ce → ce.vm = .none → s.vm.findClass E = some ce.cls → vx_W p l e R s m args below meth c H1 locs1 (cells + mc) (slots + ms) Q (F0 m pc ls rest) q9)
    (kk : ∀ (r : UInt64) (u : S) (t : State) (H1 : Heap) (locs1 : List Loc), t.heap = H1 → s.vm.Alike t.vm → post r u → B u t → H.size ≤ H1.size → (∀ q : Nat, q < H.size → ¬ A1 q → H1[q]? = H[q]?) → va_S A0 H0 H1 locs1 → W p l e R s m args below meth c H1 locs1 (cells + mc) (slots + ms) Q (F0 m (pc + 3) ls (.double r :: rest))) : W p l e R s m args below meth c H locs cells slots Q (F0 m pc ls st0) := by
  intro T hT X
  rcases hr T hT X with ⟨v, st₀, t, T', L, h0, X', hL, e1, e2, ⟨⟨r, u, hv, hp, hb⟩, hF⟩, st⟩ | ⟨q, st₀, t, T', L, E, ce, h0, X', hL, e1, e2, ⟨u, hp, hb, hF⟩, hce, hcv, hcl, st⟩
  · cases hv
    obtain ⟨k1, k2, k3⟩ := vx_keep h0 e1 hS hA hf hL hF
    obtain ⟨t2, a1, b1⟩ := kk r u t T'.heap (locs ++ L) e1.symm (by rw [← e2]; exact X'.warmed.alike) hp hb k1 k2 k3 T' rfl X'
    exact ⟨t2, st t2 a1, b1⟩
  · obtain ⟨k1, k2, k3⟩ := vx_keep h0 e1 hS hAX hf hL hF
    obtain ⟨t2, a1, b1⟩ := kx E ce q u t T'.heap (locs ++ L) e1.symm (by rw [← e2]; exact X'.warmed.alike) hp hb k1 k2 k3 (by rw [e1]; exact hce) hcv hcl T' rfl X'
    exact ⟨t2, st.trans a1, b1⟩
theorem vx_callv {S SX : Type} {post : S → Prop} {px : SX → Prop} {B : S → State → Prop} {BX : String → SX → State → Prop} {AX : Nat → Prop} (hr : vx_Run p l e R s m args below meth c H locs cells slots mc ms (F0 m pc ls st0) rest (va_Qv post B A1 a) (vx_X px BX AX) free) (hS : va_S A0 H0 H locs) (hA : ∀ q, q < H.size → A1 q → A0 q) (hf : ∀ q, free q → A0 q) (hAX : ∀ q, q < H.size → AX q → A0 q)
    (kx : ∀ (E : String) (ce : Cell) (q9 : Addr) (u : SX) (t : State) (H1 : Heap) (locs1 : List Loc), t.heap = H1 → s.vm.Alike t.vm → px u → BX E u t → H.size ≤ H1.size → (∀ q : Nat, q < H.size → ¬ AX q → H1[q]? = H[q]?) → va_S A0 H0 H1 locs1 → H1[q9]? = some ce → ce.vm = .none → s.vm.findClass E = some ce.cls → vx_W p l e R s m args below meth c H1 locs1 (cells + mc) (slots + ms) Q (F0 m pc ls rest) q9)
    (kk : ∀ (u : S) (t : State) (H1 : Heap) (locs1 : List Loc), t.heap = H1 → s.vm.Alike t.vm → post u → B u t → H.size ≤ H1.size → (∀ q : Nat, q < H.size → ¬ A1 q → H1[q]? = H[q]?) → va_S A0 H0 H1 locs1 → W p l e R s m args below meth c H1 locs1 (cells + mc) (slots + ms) Q (F0 m (pc + 3) ls (rest))) : W p l e R s m args below meth c H locs cells slots Q (F0 m pc ls st0) := by
  intro T hT X
  rcases hr T hT X with ⟨v, st₀, t, T', L, h0, X', hL, e1, e2, ⟨⟨u, hv, hp, hb⟩, hF⟩, st⟩ | ⟨q, st₀, t, T', L, E, ce, h0, X', hL, e1, e2, ⟨u, hp, hb, hF⟩, hce, hcv, hcl, st⟩
  · cases hv
    obtain ⟨k1, k2, k3⟩ := vx_keep h0 e1 hS hA hf hL hF
    obtain ⟨t2, a1, b1⟩ := kk u t T'.heap (locs ++ L) e1.symm (by rw [← e2]; exact X'.warmed.alike) hp hb k1 k2 k3 T' rfl X'
    exact ⟨t2, st t2 a1, b1⟩
  · obtain ⟨k1, k2, k3⟩ := vx_keep h0 e1 hS hAX hf hL hF
    obtain ⟨t2, a1, b1⟩ := kx E ce q u t T'.heap (locs ++ L) e1.symm (by rw [← e2]; exact X'.warmed.alike) hp hb k1 k2 k3 (by rw [e1]; exact hce) hcv hcl T' rfl X'
    exact ⟨t2, st.trans a1, b1⟩
/-- caught by the row x of this method's table; the rows ahead don't take it -/
theorem vx_catch {own name : String} {E : String} {ce : Cell} {q : Addr} (hown : s.vm.findClass own = some m.cls) (pre : List ExceptionTableEntry) (x : ExceptionTableEntry) (suf : List ExceptionTableEntry) (hsplit : c.exceptionTable.toList = pre ++ x :: suf)
    (hpass : ∀ z ∈ pre, covers z pc = false ∨ (z.catchType ≠ 0 ∧ ∃ nm : String, (Cond.classLink own z.catchType nm).before args s = true ∧ va_Nc E nm s)) (hx : covers x pc = true) (h0 : x.catchType ≠ 0)
    (hlink : (Cond.classLink own x.catchType name).before args s = true) (hcast : (Cond.castable E name).before args s = true) (hcell : H[q]? = some ce) (hv : ce.vm = .none) (hcl : s.vm.findClass E = some ce.cls)
    (kk : W p l e R s m args below meth c H locs cells slots Q (F0 m x.handlerPc ls [.ref q])) : vx_W p l e R s m args below meth c H locs cells slots Q (F0 m pc ls rest) q := by
  intro T hT X
  have hpl : e.platform.magicAccessors = ({} : Platform).magicAccessors := by rw [X.admits.platform]
  obtain ⟨c3, c4, hc3, hc4, hasg⟩ := Cond.castable_spec hcast
  cases Option.some.inj (hc3.symm.trans hcl)
  obtain ⟨c5, hc5, hcl5⟩ := Cond.classLink_spec hown hlink e.platform hpl
  cases Option.some.inj (hc4.symm.trans hc5)
  obtain ⟨vm', X', st⟩ := X.thenCaughtThrough q (g := F0 m pc ls rest) rfl (Steps.refl _) (by rw [hT]; exact hcell) (by rw [hv]; rfl) (by obtain ⟨k9, h9, -⟩ := Vm.findClass_spec hcl; exact ⟨k9, h9⟩) pre x suf hsplit
    (fun z hz => by
      rcases hpass z hz with h | ⟨hz0, nm, hl1, hn1⟩
      · exact Or.inl h
      · obtain ⟨c6, hc6, hcl6⟩ := Cond.classLink_spec hown hl1 e.platform hpl
        obtain ⟨a8, b8, h1, h2, h3⟩ := hn1
        cases Option.some.inj (h1.symm.trans hcl)
        cases Option.some.inj (h2.symm.trans hc6)
        exact Or.inr ⟨hz0, _, hcl6, h3⟩) hx (Or.inr ⟨h0, c4, hcl5, hasg⟩)
  obtain ⟨t, a1, b1⟩ := kk (T.setVm vm') hT X'
  exact ⟨t, st.trans a1, b1⟩
end Rows
section Ends
variable {p : Program} {l : Launch} {e : Env} {R : Room} {s : State} {m : MethodId} {args : Array Value} {below : List Frame} {meth : Method} {c : Code} {H : Heap} {locs : List Loc} {cells slots : Nat} {Q : State → Prop}
variable {mc ms : Nat} {free : Addr → Prop} {A0 A1 : Nat → Prop} {H0 : Heap} {a : Array Value} {ls : Array Slot} {st0 rest : List Value}
variable {Qc : Array Value → State → Outcome → State → Prop} {XC : String → State → State → Prop}
/-- what a body that may throw owes at its end -/
def vx_MQ (below : List Frame) (Qc : Array Value → State → Outcome → State → Prop) (XC : String → State → State → Prop) (a : Array Value) (s : State) (mc ms : Nat) (free : Addr → Prop) : State → Prop := fun t =>
  ∃ o, t.status = .running ∧ Ended t below o ∧ vx_Q Qc XC mc ms free a s o t
theorem vx_ret {g : JFrame} {mc ms : Nat} (k : W p l e R s m args below meth c H locs cells slots (MQ below Qc args s mc ms free) g) : W p l e R s m args below meth c H locs cells slots (vx_MQ below Qc XC args s mc ms free) g := by
  intro T hT X
  obtain ⟨t, a1, o, b1, b2, b3, b4⟩ := k T hT X
  exact ⟨t, a1, o, b1, b2, Or.inl ⟨b3, b4⟩⟩
/-- not caught here: it goes on to the caller -/
theorem vx_widen {g : JFrame} {q : Addr} {k n : Nat} (h1 : cells ≤ k) (h2 : slots ≤ n) (kk : vx_W p l e R s m args below meth c H locs k n Q g q) : vx_W p l e R s m args below meth c H locs cells slots Q g q := fun T hT X => kk T hT (stand_widen X h1 h2)
theorem vx_out {pc : Nat} {E : String} {ce : Cell} {q : Addr} {mc ms : Nat} (hout : ∀ x ∈ c.exceptionTable.toList, covers x pc = false) (hlocks : meth.locks = false) (hcell : H[q]? = some ce) (hv : ce.vm = .none) (hcl : s.vm.findClass E = some ce.cls)
    (hx : ∀ t : State, t.heap = H → s.vm.Alike t.vm → XC E s t) (hf : ∀ z ∈ locs, free z.base) (hc : cells ≤ mc) (hs : slots ≤ ms) :
    vx_W p l e R s m args below meth c H locs cells slots (vx_MQ below Qc XC args s mc ms free) (F0 m pc ls rest) q := by
  intro T hT X
  obtain ⟨st1, hrun, hend, hW, hsm⟩ := X.leaveThrown q (g := F0 m pc ls rest) rfl rfl rfl hout hlocks
  have hcell9 : (T.setFrames (.throwing q :: below)).heap[q]? = some ce := by
    show T.heap[q]? = some ce
    rw [hT]; exact hcell
  exact ⟨_, st1, .threw q, hrun, hend, Or.inr ⟨q, rfl, E, ce, locs, hx _ hT hW.alike, hcell9, hv, hcl, hW, hsm.mono hc hs, hf⟩⟩
theorem vx_frame {U : State} {k n : Nat} (h : s.sameButNew ({ U with vm := s.vm } : State) locs k n) : s.heap.size ≤ U.heap.size ∧ ∀ q : Nat, q < s.heap.size → (∀ z ∈ locs, z.base ≠ q) → U.heap[q]? = s.heap[q]? := by
  obtain ⟨-, h2, -, -, -, h6⟩ := h
  refine ⟨h2, fun q hq hz => ?_⟩
  obtain ⟨c9, e1, e2, e3, e4⟩ := h6 q _ (Array.getElem?_eq_getElem hq)
  have hs : c9.slots = (s.heap[q]).slots := Array.ext_getElem? fun i => e4 i fun hm => hz _ hm rfl
  have h9 : c9 = s.heap[q] := by
    rw [hs] at e2
    exact e2
  have e5 : U.heap[q]? = some c9 := e1
  rw [e5, h9, Array.getElem?_eq_getElem hq]
/-- the words of a throw but the four that speak of the heap -/
def vx_no (w : Cond) : Bool := decide (w ≠ .isRef (.static Bundle.tN "UNASSIGNED_STACK" Bundle.steD)) && decide (w ≠ .isRef (.static Bundle.tN "SUPPRESSED_SENTINEL" Bundle.listD)) && decide (w ≠ .laysStatic Bundle.tN "UNASSIGNED_STACK" Bundle.steD) && decide (w ≠ .laysStatic Bundle.tN "SUPPRESSED_SENTINEL" Bundle.listD)
def vx_at0 (own : String) (ic : Nat) (X : String) (names : List String) : List Cond := (Bundle.ownAtoms0 own ic X names).filter vx_no
def vx_atS (own : String) (ic : Nat) (X : String) (names : List String) : List Cond := (Bundle.ownAtoms own ic X names).filter vx_no
/-- a word that the tables alone decide, or a good one -/
def vx_ot (w : Cond) : Bool := w.onTables || goodWord w
theorem vx_ot_at {args a' : Array Value} {s U : State} {w : Cond} (hW : s.WarmedH U.vm) (hvm : s.vm = U.vm) (hg : vx_ot w = true) (h : w.before args s = true) : w.before a' U = true := by
  simp only [vx_ot, Bool.or_eq_true] at hg
  rcases hg with hg | hg
  · exact va_tabs hg hvm h
  · exact word_at hW (good_of_word hg) h
/-- a list's words: the good ones out of the method's own list, the others by premises of their own -/
theorem vx_hat {args : Array Value} {s : State} {L B : List Cond} (h1 : ∀ w ∈ L.filter goodWord, w.before args s = true) (h2 : ∀ w ∈ L.filter (fun w => !goodWord w), w ∈ B) (h3 : ∀ w ∈ B, w.before args s = true) : ∀ w ∈ L, w.before args s = true := by
  intro w hw
  by_cases g : goodWord w = true
  · exact h1 w (List.mem_filter.mpr ⟨hw, g⟩)
  · refine h3 w (h2 w (List.mem_filter.mpr ⟨hw, ?_⟩))
    show (!goodWord w) = true
    cases hgw : goodWord w
    · rfl
    · exact absurd hgw g
theorem vx_c {args : Array Value} {s : State} {w : Cond} {B : List Cond} (h : w.before args s = true) (t : ∀ w ∈ B, w.before args s = true) : ∀ w' ∈ w :: B, w'.before args s = true := fun w' h' => (List.mem_cons.mp h').elim (fun e => by rw [e]; exact h) (t w')
theorem vx_n {args : Array Value} {s : State} : ∀ w ∈ ([] : List Cond), w.before args s = true := fun _ h => nomatch h
theorem vx_own {args : Array Value} {s : State} {L : List Cond} (h1 : ∀ w ∈ L.filter vx_no, w.before args s = true)
    (hU : (Cond.isRef (.static Bundle.tN "UNASSIGNED_STACK" Bundle.steD)).before args s = true) (hN : (Cond.isRef (.static Bundle.tN "SUPPRESSED_SENTINEL" Bundle.listD)).before args s = true)
    (lU : (Cond.laysStatic Bundle.tN "UNASSIGNED_STACK" Bundle.steD).before args s = true) (lN : (Cond.laysStatic Bundle.tN "SUPPRESSED_SENTINEL" Bundle.listD).before args s = true) : ∀ w ∈ L, w.before args s = true := by
  intro w hw
  by_cases e1 : w = .isRef (.static Bundle.tN "UNASSIGNED_STACK" Bundle.steD)
  · rw [e1]; exact hU
  · by_cases e2 : w = .isRef (.static Bundle.tN "SUPPRESSED_SENTINEL" Bundle.listD)
    · rw [e2]; exact hN
    · by_cases e3 : w = .laysStatic Bundle.tN "UNASSIGNED_STACK" Bundle.steD
      · rw [e3]; exact lU
      · by_cases e4 : w = .laysStatic Bundle.tN "SUPPRESSED_SENTINEL" Bundle.listD
        · rw [e4]; exact lN
        · exact h1 w (List.mem_filter.mpr ⟨hw, by unfold vx_no; rw [decide_eq_true e1, decide_eq_true e2, decide_eq_true e3, decide_eq_true e4]; rfl⟩)
/-- where a static field lies, its class's statics cell in H -/
def vx_L (C n d : String) (A : Nat → Prop) (U : State) (H : Heap) : Prop := ∃ (c : ClassId) (k : Class) (i : Nat) (f : Field) (a : Nat) (cell : Cell), U.vm.findClass C = some c ∧ U.fieldFound? C n d = some (c, k, i, f) ∧ f.isStatic = true ∧ k.statics = some a ∧ H[a]? = some cell ∧ cell.vm.isStatics = true ∧ cell.cls = c ∧ f.slot < cell.slots.size ∧ k.staticTypes[f.slot]? = some f.type ∧ ¬ A a
theorem vx_L.moved {C n d : String} {A : Nat → Prop} {u U : State} {H : Heap} (hvm : u.vm.Alike U.vm) (h : vx_L C n d A u H) : vx_L C n d A U H := by
  obtain ⟨c, k, i, f, a, cell, h1, h2, h3, h4, h5, h6, h7, h8, h9, h10⟩ := h
  obtain ⟨k', hi', he⟩ := State.fieldFound?_setVm hvm h2
  exact ⟨c, k', i, f, a, cell, by rw [hvm.findClass]; exact h1, hi', h3, by rw [he]; exact h4, h5, h6, h7, h8, by rw [he]; exact h9, h10⟩
theorem vx_L.kept {C n d : String} {A : Nat → Prop} {U : State} {H H1 : Heap} (h : vx_L C n d A U H) (hq : ∀ a : Nat, a < H.size → ¬ A a → H1[a]? = H[a]?) : vx_L C n d A U H1 := by
  obtain ⟨c, k, i, f, a, cell, h1, h2, h3, h4, h5, h6, h7, h8, h9, h10⟩ := h
  exact ⟨c, k, i, f, a, cell, h1, h2, h3, h4, by rw [hq a (Array.getElem?_eq_some_iff.mp h5).1 h10]; exact h5, h6, h7, h8, h9, h10⟩
theorem vx_L.narrow {C n d : String} {A B : Nat → Prop} {U : State} {H : Heap} (h : vx_L C n d A U H) (hAB : ∀ q, B q → A q) : vx_L C n d B U H := by
  obtain ⟨c, k, i, f, a, cell, h1, h2, h3, h4, h5, h6, h7, h8, h9, h10⟩ := h
  exact ⟨c, k, i, f, a, cell, h1, h2, h3, h4, h5, h6, h7, h8, h9, fun z => h10 (hAB _ z)⟩
theorem vx_L.word {C n d : String} {A : Nat → Prop} {s : State} {args : Array Value} (h : vx_L C n d A s s.heap) : (Cond.laysStatic C n d).before args s = true := by
  obtain ⟨c, k, i, f, a, cell, h1, h2, h3, h4, h5, h6, h7, h8, h9, -⟩ := h
  show (Cond.laysStatic C n d).holds args s none s [] = true
  exact Cond.laysStatic_of h1 h2 h3 h4 h5 h6 h7 h8 h9
/-- .. and what it holds: null or some reference -/
def vx_Zq (C n d : String) (A : Nat → Prop) (U : State) (H : Heap) : Prop := va_Zq C n d A U H ∧ vx_L C n d A U H
theorem vx_Zq.moved {C n d : String} {A : Nat → Prop} {u U : State} {H : Heap} (hvm : u.vm.Alike U.vm) (h : vx_Zq C n d A u H) : vx_Zq C n d A U H := ⟨va_Zq.moved hvm h.1, vx_L.moved hvm h.2⟩
theorem vx_Zq.kept {C n d : String} {A : Nat → Prop} {U : State} {H H1 : Heap} (h : vx_Zq C n d A U H) (hq : ∀ a : Nat, a < H.size → ¬ A a → H1[a]? = H[a]?) : vx_Zq C n d A U H1 := ⟨va_Zq.kept h.1 hq, vx_L.kept h.2 hq⟩
theorem vx_Zq.narrow {C n d : String} {A B : Nat → Prop} {U : State} {H : Heap} (h : vx_Zq C n d A U H) (hAB : ∀ q, B q → A q) : vx_Zq C n d B U H := ⟨va_Zq.narrow h.1 hAB, vx_L.narrow h.2 hAB⟩
theorem vx_Zqof {args : Array Value} {s : State} {C n d : String} {A : Nat → Prop} (hl : (Cond.laysStatic C n d).before args s = true) (hini : (Cond.initialized C).before args s = true) (h : (Cond.isRef (.static C n d)).before args s = true) (hA : ∀ a : Nat, a < s.heap.size → ¬ A a) : vx_Zq C n d A s s.heap := by
  refine ⟨va_Zqof hl hini h hA, ?_⟩
  obtain ⟨c, k, i, f, a, cell, h1, h2, h3, h4, h5, h6, h7, h8, h9⟩ := Cond.laysStatic_spec hl
  exact ⟨c, k, i, f, a, cell, h1, h2, h3, h4, h5, h6, h7, h8, h9, hA a (Array.getElem?_eq_some_iff.mp h5).1⟩
theorem vx_isRef {C n d : String} {v : Value} {A : Nat → Prop} {s : State} {args : Array Value} (h : va_Z C n d v A s s.heap) (hv : v.isRef = true) : (Cond.isRef (.static C n d)).before args s = true := by
  obtain ⟨cf, kf, fi, f, a, cell, h1, h2, h3, h4, h5, h6, h7, -⟩ := h
  have he : (Term.static C n d).eval args s none [] s = some v := by
    simp [Term.eval, State.fieldNamed?, h1, h2, h4, h5, h6, h7]
  simp only [Cond.before, Cond.holds, Cond.value, he]
  cases v <;> simp_all [Value.isRef]
theorem vx_isRefq {C n d : String} {A : Nat → Prop} {s : State} {args : Array Value} (h : va_Zq C n d A s s.heap) : (Cond.isRef (.static C n d)).before args s = true := by
  rcases h with h | ⟨t, h⟩
  · exact vx_isRef h rfl
  · exact vx_isRef h rfl
/-- the same frame, seen from here: as if the method were called anew in this heap -/
theorem vx_rebase {T : State} (X : Stand p l e R s m args below meth c T locs cells slots) {R' : Room} (hf : R'.frames ≤ R.frames) (hl : R'.locals ≤ R.locals) (hc : cells + R'.cells ≤ R.cells) (hs : slots + R'.slots ≤ R.slots) :
    Stand p l e R' ((T.setVm s.vm).setFrames (.invoking m args :: below)) m args below meth c T [] 0 0 := by
  have htop : (T.setVm s.vm).topJava?.isSome := X.here.top
  have hF : ((T.setVm s.vm).setFrames (.invoking m args :: below)).frames = .invoking m args :: below := State.frames_setFrames _ (State.cur_lt_of_top htop)
  obtain ⟨g₀, hg0⟩ := Option.isSome_iff_exists.mp htop
  obtain ⟨r, hr⟩ := State.topJava?_eq_some.mp hg0
  have hl9 : e.platform.stackLimits (T.setVm s.vm).me = e.platform.stackLimits s.me := X.limits
  have hb9 : (T.setVm s.vm).me.stackBytes = s.me.stackBytes := X.bytes
  refine ⟨X.admits, X.cas, X.clock, hF, ?_, X.hears, X.method, X.code, X.here, X.tail, X.warmed, ?_, ?_, ?_⟩
  · have h := X.room
    have hU : ((T.setVm s.vm).setFrames (.invoking m args :: below)).localsInUse = s.localsInUse := by
      rw [State.localsInUse_invoking hF (meth := meth) (c := c) X.method X.code, State.localsInUse_invoking X.frames X.method X.code]
    simp only [State.hasRoom, Bool.and_eq_true, decide_eq_true_eq] at h ⊢
    obtain ⟨⟨⟨⟨h1, h2, h3, h4, h5, h6⟩, h7⟩, h8⟩, h9⟩ := h
    rw [X.frames, List.length_cons] at h2 h3
    have q1 := X.heapSize
    have q2 := X.used
    simp only [hF, hU, List.length_cons, State.stackLimits_setFrames, State.stackBytes_setFrames, hl9, hb9]
    refine ⟨⟨⟨⟨by omega, by omega, by omega, by omega, by omega, h6⟩, ?_⟩, ?_⟩, X.book⟩
    · show T.heap.size + R'.cells ≤ e.platform.maxCells
      omega
    · show T.slotsUsed + R'.slots ≤ e.platform.maxSlots
      omega
  · rw [State.stackLimits_setFrames]; rfl
  · rw [State.stackBytes_setFrames]; rfl
  · refine ⟨?_, Nat.le_refl _, Nat.le_refl _, ?_, ?_, fun a c9 h9 => ⟨c9, h9, rfl, rfl, fun _ _ => rfl⟩⟩
    · obtain ⟨t, ht, -⟩ := State.frames_cons hr
      show T.setVm s.vm = { ((T.setVm s.vm).setFrames (.invoking m args :: below)).setFrames (T.setVm s.vm).frames with heap := T.heap, slotsUsed := T.slotsUsed }
      rw [State.setFrames_setFrames, State.setFrames_self ht]
      rfl
    · show T.slotsUsed = T.slotsUsed + ((T.heap.toList.drop T.heap.size).map (·.slots.size)).sum
      rw [List.drop_eq_nil_of_le (Nat.le_of_eq Array.length_toList)]
      rfl
    · show ((T.heap.toList.drop T.heap.size).map (·.slots.size)).sum ≤ 0
      rw [List.drop_eq_nil_of_le (Nat.le_of_eq Array.length_toList)]
      exact Nat.le_refl _
/-- 'throw new E()': new; dup; invokespecial; athrow -/
theorem vx_throw0 {cc : ByteArray} {pc : Nat} (hexec : p.tables.exec = Jvm.exec) (hb : c.code = cc) (hl : l.stackTraces = false) {own cls : String} {names : List String} {ik ic mc ms : Nat} {A : Nat → Prop}
    (hown : s.vm.findClass own = some m.cls) (hcls : Bundle.fit cls = true) (hnames : ∀ n ∈ names, Bundle.fit n = true)
    (hk : (Cond.classLink own ik cls).before args s = true) (hini : (Cond.initialized cls).before args s = true) (hat : ∀ w ∈ vx_at0 own ic cls names, w.before args s = true)
    (hgood : ∀ w ∈ Cond.classLink own ik cls :: Cond.initialized cls :: vx_at0 own ic cls names, vx_ot w = true)
    (hU : vx_Zq Bundle.tN "UNASSIGNED_STACK" Bundle.steD A s s.heap) (hN : vx_Zq Bundle.tN "SUPPRESSED_SENTINEL" Bundle.listD A s s.heap) (hS : va_S A s.heap H locs) (hsize : ls.size = c.maxLocals)
    (d0 : decode cc pc = .ok (.new ik, 3)) (d3 : decode cc (pc + 3) = .ok (.dup, 1)) (d4 : decode cc (pc + 4) = .ok (.invokespecial ic, 3)) (d7 : decode cc (pc + 7) = .ok (.athrow, 1))
    (hout : ∀ x ∈ c.exceptionTable.toList, covers x (pc + 7) = false)
    (hRframes : names.length + 3 < R.frames) (hRlocals : (rest.map fun v => v.category).sum + (13 * (names.length + 1) + 42) ≤ R.locals) (hRcells : cells + 1 ≤ R.cells) (hRslots : slots + 6 ≤ R.slots) (hlocks : meth.locks = false)
    (hx : ∀ t : State, s.vm.Alike t.vm → H.size ≤ t.heap.size → (∀ q : Nat, q < H.size → t.heap[q]? = H[q]?) → XC cls s t)
    (hf : ∀ z ∈ locs, free z.base) (hc : cells + 1 ≤ mc) (hs : slots + 6 ≤ ms) :
    W p l e R s m args below meth c H locs cells slots (vx_MQ below Qc XC args s mc ms free) (F0 m pc ls rest) := by
  intro T hT X
  have htr : e.platform.stackTraces = false := (show e.platform.stackTraces = l.stackTraces by rw [X.admits.platform]).trans hl
  have Y := vx_rebase X (R' := { frames := R.frames, locals := R.locals, cells := 1, slots := 6 }) (Nat.le_refl _) (Nat.le_refl _) hRcells hRslots
  obtain ⟨s', hA⟩ : ∃ z, z = (T.setVm s.vm).setFrames (.invoking m args :: below) := ⟨_, rfl⟩
  rw [← hA] at Y
  have hvm : s'.vm = s.vm := by rw [hA]; rfl
  have hhp : s'.heap = H := by rw [hA]; exact hT
  have hW0 : s.WarmedH s'.vm := by rw [hvm]; exact State.WarmedH.refl s
  have hat' : ∀ w ∈ vx_at0 own ic cls names, w.before args s' = true := fun w hw => vx_ot_at hW0 hvm.symm (hgood w (List.mem_cons_of_mem _ (List.mem_cons_of_mem _ hw))) (hat w hw)
  have hk' : (Cond.classLink own ik cls).before args s' = true := vx_ot_at hW0 hvm.symm (hgood _ List.mem_cons_self) hk
  have hini' : (Cond.initialized cls).before args s' = true := vx_ot_at hW0 hvm.symm (hgood _ (List.mem_cons_of_mem _ List.mem_cons_self)) hini
  have hU' : vx_Zq Bundle.tN "UNASSIGNED_STACK" Bundle.steD A s' s'.heap := by rw [hhp]; exact vx_Zq.moved hW0.alike (hU.kept hS.2.1)
  have hN' : vx_Zq Bundle.tN "SUPPRESSED_SENTINEL" Bundle.listD A s' s'.heap := by rw [hhp]; exact vx_Zq.moved hW0.alike (hN.kept hS.2.1)
  have h : ∀ w ∈ Bundle.ownAtoms0 own ic cls names, w.before args s' = true := vx_own hat' (vx_isRefq hU'.1) (vx_isRefq hN'.1) hU'.2.word hN'.2.word
  have hown' : s'.vm.findClass own = some m.cls := by rw [hvm]; exact hown
  have hins : (Cond.instantiable cls 6).before args s' = true := h _ (by simp [Bundle.ownAtoms0])
  obtain ⟨vm₁, cX, kX, hfX, hkX, -, -, X₁, st1⟩ := Y.newCold hexec (own := own) (C := cls) (index := ik) (n := 6) hown' hk' hins hini'
    (g := F0 m pc ls rest) rfl (by rw [hb]; exact d0) (Nat.le_refl _) (Nat.le_refl _)
  generalize hT1 : (T.setVm vm₁).pushCell { cls := cX, slots := kX.instanceTypes.map defaultValue, vm := .none } = T1 at X₁ st1
  have hcat : (Value.ref T.heap.size).category = 1 := rfl
  have hcellA : T1.heap[T.heap.size]? = some (freshCell cX kX) := by rw [← hT1]; exact State.heap_pushCell_size _ _
  have d3' : decode c.code (pc + 3) = .ok (.dup, 1) := by rw [hb]; exact d3
  obtain ⟨U, hsteps, hrun, hend, hW, hsame, ce, hce, hO⟩ := X₁.ctorThrow0 hexec htr (own := own) (cls := cls) (names := names) (ic := ic) hown' hcls hnames h (fun x hx => nomatch hx) hfX hkX hcellA (by rw [hhp, hT]; exact Nat.le_refl _)
    (g := { method := m, pc := pc + 4, locals := ls, stack := .ref T.heap.size :: .ref T.heap.size :: rest, locked := none }) rfl hsize rfl rfl (rest := rest) rfl
    (by rw [hb]; exact d4) (by rw [hb]; exact d7) hout hRframes (by simp only [List.map_cons, List.sum_cons, hcat]; omega) hlocks
  obtain ⟨f1, f2⟩ := vx_frame hsame
  rw [hhp] at f1 f2
  have hWs : s.WarmedH U.vm := State.WarmedH.trans hW0 hW
  have hcl : s.vm.findClass cls = some ce.cls := by
    have h9 := hO.cls
    rw [hvm] at h9
    exact h9
  have hall : s.sameButNew ({ U with vm := s.vm } : State) locs mc ms := by
    subst hA
    obtain ⟨e1, e2⟩ := hsame
    rw [State.setFrames_setFrames] at e1
    have h2 : (T.setVm s.vm).sameButNew ({ U with vm := s.vm } : State) [] (0 + 1) (0 + 6) := ⟨e1, e2⟩
    have h3 := X.same.trans h2
    rw [List.append_nil] at h3
    exact h3.mono hc hs
  refine ⟨U, ?_, .threw T.heap.size, hrun, hend, Or.inr ⟨T.heap.size, rfl, cls, ce, locs, hx U hWs.alike f1 (fun q hq => f2 q hq (fun z hz => nomatch hz)), hce, hO.vm, hcl, hWs, hall, hf⟩⟩
  refine st1 _ ?_
  show Steps p.tables e below (T1.setTop { method := m, pc := pc + 3, locals := ls, stack := .ref T.heap.size :: rest, locked := none }) _
  jvm_step X₁.here [X₁.here.top, hexec, d3', Value.category]
  exact hsteps
/-- 'throw new E("text")': new; dup; ldc; invokespecial; athrow -/
theorem vx_throwS {cc : ByteArray} {pc : Nat} (hexec : p.tables.exec = Jvm.exec) (hb : c.code = cc) (hl : l.stackTraces = false) {own cls text : String} {names : List String} {ik is ic mc ms sa : Nat} {A : Nat → Prop}
    (hown : s.vm.findClass own = some m.cls) (hcls : Bundle.fit cls = true) (hnames : ∀ n ∈ names, Bundle.fit n = true)
    (hk : (Cond.classLink own ik cls).before args s = true) (hini : (Cond.initialized cls).before args s = true) (hstr : vk_R own is text sa s) (hat : ∀ w ∈ vx_atS own ic cls names, w.before args s = true)
    (hgood : ∀ w ∈ Cond.classLink own ik cls :: Cond.initialized cls :: vx_atS own ic cls names, vx_ot w = true)
    (hU : vx_Zq Bundle.tN "UNASSIGNED_STACK" Bundle.steD A s s.heap) (hN : vx_Zq Bundle.tN "SUPPRESSED_SENTINEL" Bundle.listD A s s.heap) (hS : va_S A s.heap H locs) (hsize : ls.size = c.maxLocals)
    (d0 : decode cc pc = .ok (.new ik, 3)) (d3 : decode cc (pc + 3) = .ok (.dup, 1)) (d4 : decode cc (pc + 4) = .ok (.ldc is, 2)) (d6 : decode cc (pc + 6) = .ok (.invokespecial ic, 3)) (d9 : decode cc (pc + 9) = .ok (.athrow, 1))
    (hout : ∀ x ∈ c.exceptionTable.toList, covers x (pc + 9) = false)
    (hRframes : names.length + 3 < R.frames) (hRlocals : (rest.map fun v => v.category).sum + (13 * (names.length + 1) + 43) ≤ R.locals) (hRcells : cells + 1 ≤ R.cells) (hRslots : slots + 6 ≤ R.slots) (hlocks : meth.locks = false)
    (hx : ∀ t : State, s.vm.Alike t.vm → H.size ≤ t.heap.size → (∀ q : Nat, q < H.size → t.heap[q]? = H[q]?) → XC cls s t)
    (hf : ∀ z ∈ locs, free z.base) (hc : cells + 1 ≤ mc) (hs : slots + 6 ≤ ms) :
    W p l e R s m args below meth c H locs cells slots (vx_MQ below Qc XC args s mc ms free) (F0 m pc ls rest) := by
  intro T hT X
  have htr : e.platform.stackTraces = false := (show e.platform.stackTraces = l.stackTraces by rw [X.admits.platform]).trans hl
  have Y := vx_rebase X (R' := { frames := R.frames, locals := R.locals, cells := 1, slots := 6 }) (Nat.le_refl _) (Nat.le_refl _) hRcells hRslots
  obtain ⟨s', hA⟩ : ∃ z, z = (T.setVm s.vm).setFrames (.invoking m args :: below) := ⟨_, rfl⟩
  rw [← hA] at Y
  have hvm : s'.vm = s.vm := by rw [hA]; rfl
  have hhp : s'.heap = H := by rw [hA]; exact hT
  have hW0 : s.WarmedH s'.vm := by rw [hvm]; exact State.WarmedH.refl s
  have hat' : ∀ w ∈ vx_atS own ic cls names, w.before args s' = true := fun w hw => vx_ot_at hW0 hvm.symm (hgood w (List.mem_cons_of_mem _ (List.mem_cons_of_mem _ hw))) (hat w hw)
  have hk' : (Cond.classLink own ik cls).before args s' = true := vx_ot_at hW0 hvm.symm (hgood _ List.mem_cons_self) hk
  have hini' : (Cond.initialized cls).before args s' = true := vx_ot_at hW0 hvm.symm (hgood _ (List.mem_cons_of_mem _ List.mem_cons_self)) hini
  have hU' : vx_Zq Bundle.tN "UNASSIGNED_STACK" Bundle.steD A s' s'.heap := by rw [hhp]; exact vx_Zq.moved hW0.alike (hU.kept hS.2.1)
  have hN' : vx_Zq Bundle.tN "SUPPRESSED_SENTINEL" Bundle.listD A s' s'.heap := by rw [hhp]; exact vx_Zq.moved hW0.alike (hN.kept hS.2.1)
  have h : ∀ w ∈ Bundle.ownAtoms own ic cls names, w.before args s' = true := vx_own hat' (vx_isRefq hU'.1) (vx_isRefq hN'.1) hU'.2.word hN'.2.word
  have hown' : s'.vm.findClass own = some m.cls := by rw [hvm]; exact hown
  have hins : (Cond.instantiable cls 6).before args s' = true := h _ (by simp [Bundle.ownAtoms])
  obtain ⟨vm₁, cX, kX, hfX, hkX, -, -, X₁, st1⟩ := Y.newCold hexec (own := own) (C := cls) (index := ik) (n := 6) hown' hk' hins hini'
    (g := F0 m pc ls rest) rfl (by rw [hb]; exact d0) (Nat.le_refl _) (Nat.le_refl _)
  generalize hT1 : (T.setVm vm₁).pushCell { cls := cX, slots := kX.instanceTypes.map defaultValue, vm := .none } = T1 at X₁ st1
  have hcat : (Value.ref T.heap.size).category = 1 := rfl
  have hcellA : T1.heap[T.heap.size]? = some (freshCell cX kX) := by rw [← hT1]; exact State.heap_pushCell_size _ _
  have d3' : decode c.code (pc + 3) = .ok (.dup, 1) := by rw [hb]; exact d3
  have d4' : decode c.code (pc + 4) = .ok (.ldc is, 2) := by rw [hb]; exact d4
  have hstr' : vk_R own is text sa s' := vk_R.warm hW0 hstr
  obtain ⟨U, hsteps, hrun, hend, hW, hsame, ce, hce, hO⟩ := X₁.ctorThrowS hexec htr (own := own) (cls := cls) (names := names) (ic := ic) hown' hcls hnames h (fun x hx => nomatch hx) hfX hkX hcellA (by rw [hhp, hT]; exact Nat.le_refl _) (msg := .ref sa) rfl
    (g := { method := m, pc := pc + 6, locals := ls, stack := .ref sa :: .ref T.heap.size :: .ref T.heap.size :: rest, locked := none }) rfl hsize rfl rfl (rest := rest) rfl
    (by rw [hb]; exact d6) (by rw [hb]; exact d9) hout hRframes (by simp only [List.map_cons, List.sum_cons, hcat]; omega) hlocks
  obtain ⟨f1, f2⟩ := vx_frame hsame
  rw [hhp] at f1 f2
  have hWs : s.WarmedH U.vm := State.WarmedH.trans hW0 hW
  have hcl : s.vm.findClass cls = some ce.cls := by
    have h9 := hO.cls
    rw [hvm] at h9
    exact h9
  have hall : s.sameButNew ({ U with vm := s.vm } : State) locs mc ms := by
    subst hA
    obtain ⟨e1, e2⟩ := hsame
    rw [State.setFrames_setFrames] at e1
    have h2 : (T.setVm s.vm).sameButNew ({ U with vm := s.vm } : State) [] (0 + 1) (0 + 6) := ⟨e1, e2⟩
    have h3 := X.same.trans h2
    rw [List.append_nil] at h3
    exact h3.mono hc hs
  refine ⟨U, ?_, .threw T.heap.size, hrun, hend, Or.inr ⟨T.heap.size, rfl, cls, ce, locs, hx U hWs.alike f1 (fun q hq => f2 q hq (fun z hz => nomatch hz)), hce, hO.vm, hcl, hWs, hall, hf⟩⟩
  refine st1 _ ?_
  show Steps p.tables e below (T1.setTop { method := m, pc := pc + 3, locals := ls, stack := .ref T.heap.size :: rest, locked := none }) _
  jvm_step X₁.here [X₁.here.top, hexec, d3', Value.category]
  exact X₁.ldcString hexec (own := own) (text := text) (index := is) (a := sa) hown' hstr'.1 hstr'.2
    (g := { method := m, pc := pc + 4, locals := ls, stack := .ref T.heap.size :: .ref T.heap.size :: rest, locked := none }) rfl d4' _ hsteps
/-- 'throw new E("text")', the text by a wide index -/
theorem vx_throwSW {cc : ByteArray} {pc : Nat} (hexec : p.tables.exec = Jvm.exec) (hb : c.code = cc) (hl : l.stackTraces = false) {own cls text : String} {names : List String} {ik is ic mc ms sa : Nat} {A : Nat → Prop}
    (hown : s.vm.findClass own = some m.cls) (hcls : Bundle.fit cls = true) (hnames : ∀ n ∈ names, Bundle.fit n = true)
    (hk : (Cond.classLink own ik cls).before args s = true) (hini : (Cond.initialized cls).before args s = true) (hstr : vk_R own is text sa s) (hat : ∀ w ∈ vx_atS own ic cls names, w.before args s = true)
    (hgood : ∀ w ∈ Cond.classLink own ik cls :: Cond.initialized cls :: vx_atS own ic cls names, vx_ot w = true)
    (hU : vx_Zq Bundle.tN "UNASSIGNED_STACK" Bundle.steD A s s.heap) (hN : vx_Zq Bundle.tN "SUPPRESSED_SENTINEL" Bundle.listD A s s.heap) (hS : va_S A s.heap H locs) (hsize : ls.size = c.maxLocals)
    (d0 : decode cc pc = .ok (.new ik, 3)) (d3 : decode cc (pc + 3) = .ok (.dup, 1)) (d4 : decode cc (pc + 4) = .ok (.ldc_w is, 3)) (d7 : decode cc (pc + 7) = .ok (.invokespecial ic, 3)) (d10 : decode cc (pc + 10) = .ok (.athrow, 1))
    (hout : ∀ x ∈ c.exceptionTable.toList, covers x (pc + 10) = false)
    (hRframes : names.length + 3 < R.frames) (hRlocals : (rest.map fun v => v.category).sum + (13 * (names.length + 1) + 43) ≤ R.locals) (hRcells : cells + 1 ≤ R.cells) (hRslots : slots + 6 ≤ R.slots) (hlocks : meth.locks = false)
    (hx : ∀ t : State, s.vm.Alike t.vm → H.size ≤ t.heap.size → (∀ q : Nat, q < H.size → t.heap[q]? = H[q]?) → XC cls s t)
    (hf : ∀ z ∈ locs, free z.base) (hc : cells + 1 ≤ mc) (hs : slots + 6 ≤ ms) :
    W p l e R s m args below meth c H locs cells slots (vx_MQ below Qc XC args s mc ms free) (F0 m pc ls rest) := by
  intro T hT X
  have htr : e.platform.stackTraces = false := (show e.platform.stackTraces = l.stackTraces by rw [X.admits.platform]).trans hl
  have Y := vx_rebase X (R' := { frames := R.frames, locals := R.locals, cells := 1, slots := 6 }) (Nat.le_refl _) (Nat.le_refl _) hRcells hRslots
  obtain ⟨s', hA⟩ : ∃ z, z = (T.setVm s.vm).setFrames (.invoking m args :: below) := ⟨_, rfl⟩
  rw [← hA] at Y
  have hvm : s'.vm = s.vm := by rw [hA]; rfl
  have hhp : s'.heap = H := by rw [hA]; exact hT
  have hW0 : s.WarmedH s'.vm := by rw [hvm]; exact State.WarmedH.refl s
  have hat' : ∀ w ∈ vx_atS own ic cls names, w.before args s' = true := fun w hw => vx_ot_at hW0 hvm.symm (hgood w (List.mem_cons_of_mem _ (List.mem_cons_of_mem _ hw))) (hat w hw)
  have hk' : (Cond.classLink own ik cls).before args s' = true := vx_ot_at hW0 hvm.symm (hgood _ List.mem_cons_self) hk
  have hini' : (Cond.initialized cls).before args s' = true := vx_ot_at hW0 hvm.symm (hgood _ (List.mem_cons_of_mem _ List.mem_cons_self)) hini
  have hU' : vx_Zq Bundle.tN "UNASSIGNED_STACK" Bundle.steD A s' s'.heap := by rw [hhp]; exact vx_Zq.moved hW0.alike (hU.kept hS.2.1)
  have hN' : vx_Zq Bundle.tN "SUPPRESSED_SENTINEL" Bundle.listD A s' s'.heap := by rw [hhp]; exact vx_Zq.moved hW0.alike (hN.kept hS.2.1)
  have h : ∀ w ∈ Bundle.ownAtoms own ic cls names, w.before args s' = true := vx_own hat' (vx_isRefq hU'.1) (vx_isRefq hN'.1) hU'.2.word hN'.2.word
  have hown' : s'.vm.findClass own = some m.cls := by rw [hvm]; exact hown
  have hins : (Cond.instantiable cls 6).before args s' = true := h _ (by simp [Bundle.ownAtoms])
  obtain ⟨vm₁, cX, kX, hfX, hkX, -, -, X₁, st1⟩ := Y.newCold hexec (own := own) (C := cls) (index := ik) (n := 6) hown' hk' hins hini'
    (g := F0 m pc ls rest) rfl (by rw [hb]; exact d0) (Nat.le_refl _) (Nat.le_refl _)
  generalize hT1 : (T.setVm vm₁).pushCell { cls := cX, slots := kX.instanceTypes.map defaultValue, vm := .none } = T1 at X₁ st1
  have hcat : (Value.ref T.heap.size).category = 1 := rfl
  have hcellA : T1.heap[T.heap.size]? = some (freshCell cX kX) := by rw [← hT1]; exact State.heap_pushCell_size _ _
  have d3' : decode c.code (pc + 3) = .ok (.dup, 1) := by rw [hb]; exact d3
  have d4' : decode c.code (pc + 4) = .ok (.ldc_w is, 3) := by rw [hb]; exact d4
  have hstr' : vk_R own is text sa s' := vk_R.warm hW0 hstr
  obtain ⟨U, hsteps, hrun, hend, hW, hsame, ce, hce, hO⟩ := X₁.ctorThrowS hexec htr (own := own) (cls := cls) (names := names) (ic := ic) hown' hcls hnames h (fun x hx => nomatch hx) hfX hkX hcellA (by rw [hhp, hT]; exact Nat.le_refl _) (msg := .ref sa) rfl
    (g := { method := m, pc := pc + 7, locals := ls, stack := .ref sa :: .ref T.heap.size :: .ref T.heap.size :: rest, locked := none }) rfl hsize rfl rfl (rest := rest) rfl
    (by rw [hb]; exact d7) (by rw [hb]; exact d10) hout hRframes (by simp only [List.map_cons, List.sum_cons, hcat]; omega) hlocks
  obtain ⟨f1, f2⟩ := vx_frame hsame
  rw [hhp] at f1 f2
  have hWs : s.WarmedH U.vm := State.WarmedH.trans hW0 hW
  have hcl : s.vm.findClass cls = some ce.cls := by
    have h9 := hO.cls
    rw [hvm] at h9
    exact h9
  have hall : s.sameButNew ({ U with vm := s.vm } : State) locs mc ms := by
    subst hA
    obtain ⟨e1, e2⟩ := hsame
    rw [State.setFrames_setFrames] at e1
    have h2 : (T.setVm s.vm).sameButNew ({ U with vm := s.vm } : State) [] (0 + 1) (0 + 6) := ⟨e1, e2⟩
    have h3 := X.same.trans h2
    rw [List.append_nil] at h3
    exact h3.mono hc hs
  refine ⟨U, ?_, .threw T.heap.size, hrun, hend, Or.inr ⟨T.heap.size, rfl, cls, ce, locs, hx U hWs.alike f1 (fun q hq => f2 q hq (fun z hz => nomatch hz)), hce, hO.vm, hcl, hWs, hall, hf⟩⟩
  refine st1 _ ?_
  show Steps p.tables e below (T1.setTop { method := m, pc := pc + 3, locals := ls, stack := .ref T.heap.size :: rest, locked := none }) _
  jvm_step X₁.here [X₁.here.top, hexec, d3', Value.category]
  exact X₁.ldcStringW hexec (own := own) (text := text) (index := is) (a := sa) hown' hstr'.1 hstr'.2
    (g := { method := m, pc := pc + 4, locals := ls, stack := .ref T.heap.size :: .ref T.heap.size :: rest, locked := none }) rfl d4' _ hsteps
end Ends
section Bodies
variable {l : Launch}
theorem vx_ofW {y : MethodName} {ws ws' : List Cond} {rm : Room} {Pc : Array Value → State → Prop} {Qc : Array Value → State → Outcome → State → Prop} {XC : String → State → State → Prop} {mc ms : Nat} {free : Addr → Prop} {cc : ByteArray} {maxL : Nat} {ret : Option FieldType}
    (hy : plainName y.cls = true) (hw : ws = Cond.code y cc maxL ret :: ws')
    (body : ∀ p e s m args below meth c s₁, BodyLoose p l y (headSpec ws rm) cc maxL ret e s m args below meth c s₁ → c.maxLocals = maxL → (∀ x ∈ c.exceptionTable.toList, False) → Pc args s →
      W p l e (headSpec ws rm).room s m args below meth c s.heap [] 0 0 (vx_MQ below Qc XC args s mc ms free) (entryFrame m args maxL)) : vx_Met l y ws rm Pc Qc XC mc ms free := by
  refine MetFree.of_bodyS (code := cc) (maxLocals := maxL) (ret := ret) hy ?_ ?_
  · intro args s m h hn
    obtain ⟨meth, c, h1, h2, h3, h4, h5, h6, -, -⟩ := Cond.code_spec hn (atoms_spec (ws := ws) h _ (by rw [hw]; exact List.mem_cons_self))
    exact ⟨meth, c, h1, h2, h3, h4, h5, h6⟩
  · intro p e s m args below meth c s₁ B hml hP _
    have hh0 : s₁.heap = s.heap := by rw [B.state]; rfl
    have ht : ∀ x ∈ c.exceptionTable.toList, False := by
      obtain ⟨meth9, c9, h1, h2, -, -, -, -, h7, -⟩ := Cond.code_spec B.named (atoms_spec (ws := ws) B.pre _ (by rw [hw]; exact List.mem_cons_self))
      cases Option.some.inj (h1.symm.trans B.method)
      cases Option.some.inj (h2.symm.trans (Stand.of_body B).code)
      intro x hx
      rw [Array.isEmpty_iff.mp h7] at hx
      cases hx
    obtain ⟨t, a1, o, b1, b2, b3⟩ := body p e s m args below meth c s₁ B hml ht hP s₁ hh0 (Stand.of_body B)
    exact ⟨t, o, a1, b1, b2, b3⟩
/-- the table of a body with handlers -/
theorem vx_table {p : Program} {x y : MethodName} {S : Spec} {cc bytes : ByteArray} {maxL maxL' : Nat} {ret ret' : Option FieldType} {e : Env} {s s₁ : State} {m : MethodId} {args : Array Value} {below : List Frame} {meth : Method} {c : Code} {hh : List (Nat × Nat × Nat × Nat)}
    (B : BodyLoose p l y S cc maxL ret e s m args below meth c s₁) (h : (Cond.codeWith y bytes maxL' ret' hh).before args s = true) : c.exceptionTable.toList = tableOf hh := by
  obtain ⟨m9, meth9, c9, hn9, h1, h2, -, -, h6, -⟩ := Cond.codeWith_spec h
  cases Option.some.inj (hn9.symm.trans B.named)
  cases Option.some.inj (h1.symm.trans B.method)
  cases Option.some.inj (h2.symm.trans (Stand.of_body B).code)
  rw [← h6, table_eq]
end Bodies
end VXA
/-! ===== END ===== -/
/-! ===== BEGIN a static call of a method with an exception table ===== -/
section VXS
variable {p : Program} {l : Launch} {e : Env} {R : Room} {s : State} {m : MethodId} {args : Array Value} {below : List Frame} {meth : Method} {c : Code} {T : State} {H : Heap} {locs : List Loc} {cells slots : Nat}
abbrev vx_CSW (R : Room) (s : State) (args : Array Value) (own : String) (index : Nat) (y : MethodName) (bytes : ByteArray) (maxL : Nat) (ret : Option FieldType) (hh : List (Nat × Nat × Nat × Nat)) (ws : List Cond) (rm : Room) (mc ms n : Nat) : Prop :=
  (rm.cells = mc ∧ rm.slots = ms ∧ rm.frames + 1 ≤ R.frames ∧ 8 + (maxL + 11) + rm.locals ≤ R.locals ∧ (∀ w ∈ ws, ∀ (a' : Array Value) (U : State), s.WarmedH U.vm → w.before a' U = true) ∧ Cond.codeWith y bytes maxL ret hh ∈ ws) ∧
  (Cond.codeWith y bytes maxL ret hh).before args s = true ∧ (Cond.initialized y.cls).before args s = true ∧ (y.cls ≠ "java/lang/invoke/MethodHandle" ∧ y.cls ≠ "java/lang/invoke/VarHandle") ∧
  (∀ sig, parseMethodDescriptor y.desc = some sig → n = sig.parameters.length) ∧ (Cond.methodLink own index y).before args s = true ∧ (Cond.static y).before args s = true
theorem vx_cwSW {own : String} {index maxL mc ms : Nat} {y : MethodName} {bytes : ByteArray} {ret : Option FieldType} {hh : List (Nat × Nat × Nat × Nat)} {Ts ws ws' : List Cond} {rm : Room} (n : Nat) (ht : ∀ w ∈ Ts, w.before args s = true) (hT : GoodIn Ts (va_wsS own index y ws)) (hw : ws = Cond.codeWith y bytes maxL ret hh :: ws') (hrc : rm.cells = mc) (hrs : rm.slots = ms)
    (hd : y.cls ≠ "java/lang/invoke/MethodHandle" ∧ y.cls ≠ "java/lang/invoke/VarHandle" ∧ (parseMethodDescriptor y.desc).map (fun d => d.parameters.length) = some n) (hR : rm.frames + 1 ≤ R.frames ∧ 8 + (maxL + 11) + rm.locals ≤ R.locals) :
    vx_CSW R s args own index y bytes maxL ret hh ws rm mc ms n := by
  have ok : ∀ w ∈ va_wsS own index y ws, w.before args s = true := fun w h => ht w (hT w h).1
  have hG : GoodIn Ts ws := fun w h => hT w (by unfold va_wsS; exact List.mem_append_right _ h)
  have hc : Cond.codeWith y bytes maxL ret hh ∈ ws := by rw [hw]; exact List.mem_cons_self
  refine ⟨⟨hrc, hrs, hR.1, hR.2, pay_in ht hG, hc⟩, ht _ (hG _ hc).1, ok _ (by simp [va_wsS]), ⟨hd.1, hd.2.1⟩, fun sig h => ?_, ok _ (by simp [va_wsS]), ok _ (by simp [va_wsS])⟩
  have h2 := hd.2.2
  rw [h] at h2
  exact (Option.some.inj h2).symm
theorem vx_callSW (X : Stand p l e R s m args below meth c T locs cells slots) (hexec : p.tables.exec = Jvm.exec) {own : String} {index : Nat} {y : MethodName} {bytes : ByteArray} {maxL : Nat} {ret : Option FieldType} {hh : List (Nat × Nat × Nat × Nat)}
    (hown : s.vm.findClass own = some m.cls) (hlink : (Cond.methodLink own index y).before args s = true) (hstat : (Cond.static y).before args s = true) (hinit : (Cond.initialized y.cls).before args s = true)
    (hcode : (Cond.codeWith y bytes maxL ret hh).before args s = true) (hy : y.cls ≠ "java/lang/invoke/MethodHandle" ∧ y.cls ≠ "java/lang/invoke/VarHandle")
    {W9 : Nat} {Pre : Pt → Array Value → Prop} {Post : Pt → Array Value → Option Value → Pt → Prop} (hK : Back l R p e below s args y 3 W9 Pre Post)
    {g : JFrame} (hg : g.method = m) (hsize : g.locals.size = c.maxLocals) {argsL rest : List Value} (hlen : ∀ sig, parseMethodDescriptor y.desc = some sig → argsL.length = sig.parameters.length)
    (hstack : g.stack = argsL.reverse ++ rest) (hW : 2 * g.monitorRoom + (rest.map fun v => v.category).sum ≤ W9) (hdg : decode c.code g.pc = .ok (.invokestatic index, 3))
    (hpre : ∀ vm₁, s.WarmedH vm₁ → Pre ⟨T.setVm vm₁, locs, cells, slots⟩ argsL.toArray) :
    ∃ (v : Option Value) (vm₁ : Vm) (B : Pt), s.WarmedH vm₁ ∧ Stand p l e R s m args below meth c B.U B.locs B.cells B.slots ∧ Post ⟨T.setVm vm₁, locs, cells, slots⟩ argsL.toArray v B ∧
      ∀ target, Steps p.tables e below (B.U.setTop { g with pc := g.pc + 3, stack := v.toList ++ rest }) target → Steps p.tables e below (T.setTop g) target := by
  obtain ⟨mk, methM, cM, hnamed, hmethM, -, -, -, -, -, -, hsigM⟩ := Cond.codeWith_spec hcode
  have hstatic : methM.isStatic = true := Cond.static_spec hnamed hmethM hstat
  obtain ⟨kP, hkP, -⟩ := className_of_methodNamed hnamed
  have hinitP : kP.init = .initialized := Cond.initialized_spec (findClass_of_methodNamed hnamed) hkP hinit
  obtain ⟨vm₁, X₁, hstep₁⟩ := X.invokestatic hexec hown hlink hnamed hmethM hstatic hkP hinitP hy (g := g) hg (argsL := argsL) (rest := rest) (hlen _ hsigM) hstack hdg
  obtain ⟨v, B, X', hpost, hsteps⟩ := hK m meth c ⟨T.setVm vm₁, locs, cells, slots⟩ { g with stack := rest } (.invokestatic index) mk argsL.toArray X₁ hg hsize hdg hW (X₁.named hnamed) (hpre vm₁ X₁.warmed)
  exact ⟨v, vm₁, B, X₁.warmed, X', hpost, fun target h => hstep₁ _ fun acts => by rw [doInvoke_state]; exact hsteps.trans h⟩
theorem vx_runSW {y : MethodName} {bytes cc : ByteArray} {maxL nL mc ms n index : Nat} {ret : Option FieldType} {hh : List (Nat × Nat × Nat × Nat)} {ws : List Cond} {rm : Room} {Pc : Array Value → State → Prop} {Qc : Array Value → State → Outcome → State → Prop} {free : Addr → Prop} {Ts : List Cond} {own : String} {As rest : List Value} {g : JFrame}
    (S : CallFix p m c cc nL s args Ts own) (hM : Met l y ws rm Pc Qc mc ms free) (cw : vx_CSW R s args own index y bytes maxL ret hh ws rm mc ms n) (hp : PreS s H Pc As)
    (hg : g.method = m) (hn : As.length = n) (hsize : g.locals.size = nL) (hstack : g.stack = As.reverse ++ rest) (hW : 2 * g.monitorRoom + (rest.map fun v => v.category).sum ≤ 8) (hdg : decode cc g.pc = .ok (.invokestatic index, 3)) (hf : cells + mc ≤ R.cells ∧ slots + ms ≤ R.slots) :
    va_Run p l e R s m args below meth c H locs cells slots mc ms g rest (Qc As.toArray) (free) := by
  obtain ⟨⟨hrc, hrs, hfr, hlo, hws, hcw⟩, hcode, hini, hy, hlen, hl, hstt⟩ := cw
  have hK : Back l R p e below s args y 3 8 (PreOf R mc ms Pc) (PostOf Qc mc ms free) := va_backW (hh := hh) (bytes := bytes) (maxL := maxL) (ret := ret) hM hp.1 hrc hrs hfr hlo hws hcw (fun a' U hW => word_at hW (Or.inl (by first | rfl | simp [Cond.onTables, Cond.keeps, Cond.steady])) hini)
  obtain ⟨hx, hb, hml, ho, -⟩ := S
  intro T hT X
  obtain ⟨v, vm₁, ⟨U', l2, c2, s2⟩, hW₁, X', ⟨g', mk, t, L, e1, e2, hq, h1, hL, h2, h3⟩, st⟩ := vx_callSW X hx (hh := hh) (bytes := bytes) (maxL := maxL) (ret := ret) ho hl hstt hini hcode hy hK hg (hsize.trans hml.symm) (argsL := As) (rest := rest) (fun sig h => hn.trans (hlen sig h)) hstack hW (by rw [hb]; exact hdg)
    (fun vm₁ hW₁ => ⟨hf.1, hf.2, hp.2 (T.setVm vm₁) hT hW₁⟩)
  dsimp only [Pt.U, Pt.locs, Pt.cells, Pt.slots] at X' e1 e2 h1 h2 h3 st
  subst h1; subst h2; subst h3
  exact ⟨v, (T.setVm vm₁).calling g' mk As.toArray, t, U', L, hT, X', hL, e1, e2, hq, st⟩
/-- not caught here, past rows that name other classes: it goes on to the caller -/
theorem vx_outP {p : Program} {l : Launch} {e : Env} {R : Room} {s : State} {m : MethodId} {args : Array Value} {below : List Frame} {meth : Method} {c : Code} {H : Heap} {locs : List Loc} {cells slots : Nat} {free : Addr → Prop} {ls : Array Slot} {rest : List Value} {Qc : Array Value → State → Outcome → State → Prop} {XC : String → State → State → Prop}
    {pc : Nat} {own E : String} {ce : Cell} {q : Addr} {mc ms : Nat} (hown : s.vm.findClass own = some m.cls) (hlocks : meth.locks = false)
    (hpass : ∀ z ∈ c.exceptionTable.toList, covers z pc = false ∨ (z.catchType ≠ 0 ∧ ∃ nm : String, (Cond.classLink own z.catchType nm).before args s = true ∧ va_Nc E nm s)) (hcell : H[q]? = some ce) (hv : ce.vm = .none) (hcl : s.vm.findClass E = some ce.cls)
    (hx : ∀ t : State, t.heap = H → s.vm.Alike t.vm → XC E s t) (hf : ∀ z ∈ locs, free z.base) (hc : cells ≤ mc) (hs : slots ≤ ms) :
    vx_W p l e R s m args below meth c H locs cells slots (vx_MQ below Qc XC args s mc ms free) (F0 m pc ls rest) q := by
  intro T hT X
  have hpl : e.platform.magicAccessors = ({} : Platform).magicAccessors := by rw [X.admits.platform]
  obtain ⟨vm', hW', X', st⟩ := X.outThrough hlocks q (g := F0 m pc ls rest) rfl rfl rfl (cell := ce) (by rw [hT]; exact hcell) (by rw [hv]; rfl)
    (by obtain ⟨k9, h9, -⟩ := Vm.findClass_spec hcl; exact ⟨k9, h9⟩) (fun z hz => by
      rcases hpass z hz with h | ⟨hz0, nm, hl1, hn1⟩
      · exact Or.inl h
      · obtain ⟨c6, hc6, hcl6⟩ := Cond.classLink_spec hown hl1 e.platform hpl
        obtain ⟨a8, b8, h1, h2, h3⟩ := hn1
        cases Option.some.inj (h1.symm.trans hcl)
        cases Option.some.inj (h2.symm.trans hc6)
        exact Or.inr ⟨hz0, _, hcl6, h3⟩)
  obtain ⟨g₀, hfr⟩ := X'.frames_eq
  have hcell9 : ((T.setVm vm').setFrames (.throwing q :: below)).heap[q]? = some ce := by
    show T.heap[q]? = some ce
    rw [hT]; exact hcell
  have hend : Ended ((T.setVm vm').setFrames (.throwing q :: below)) below (.threw q) := State.frames_setFrames _ (State.cur_lt_of_frames hfr)
  refine ⟨(T.setVm vm').setFrames (.throwing q :: below), ?_, .threw q, X'.here.running, hend, Or.inr ⟨q, rfl, E, ce, locs, hx _ hT (X'.ends _).1.alike, hcell9, hv, hcl, (X'.ends _).1, (X'.ends _).2.mono hc hs, hf⟩⟩
  rw [X.pushThrowing_eq]
  exact st
/-- a thing of a world lies in the heap -/
theorem vx_lt {D : va_G} {cl : List vw_C} {ws : va_W} {H1 : Heap} (h : va_P D cl ws H1) {k : Nat} {q : Nat × va_E} (hk : ws[k]? = some q) : q.1 < H1.size := (h k q hk).lt
end VXS
/-! ===== END ===== -/
/-! ===== BEGIN methods with a table of their own: called by a name, returning or throwing ===== -/
section VXH
/-! vx_backW, vx_callVX, vx_callSX, vx_callVW, vx_runVW, vx_runVX, vx_runSX, vx_ofWH follow the same proofs as their sisters above (Free/Laws.lean, Shelf42/LK1.lean); vx_outP calls Shelf42/NT130.lean (outThrough). -/
section
variable {l : Launch} {R : Room} {p : Program} {e : Env} {below : List Frame} {s : State} {sargs : Array Value} {y : MethodName} {len W9 : Nat}
theorem vx_backW {ws : List Cond} {rm : Room} {Pc : Array Value → State → Prop} {Qc : Array Value → State → Outcome → State → Prop} {XC : String → State → State → Prop} {mc ms : Nat} {free : Addr → Prop} {bytes : ByteArray} {maxL : Nat} {ret : Option FieldType} {hh : List (Nat × Nat × Nat × Nat)}
    (hM : vx_Met l y ws rm Pc Qc XC mc ms free) (hblind : FrameBlind Pc) (hrc : rm.cells = mc) (hrs : rm.slots = ms)
    (hframes : rm.frames + 1 ≤ R.frames) (hlocals : W9 + (maxL + 11) + rm.locals ≤ R.locals)
    (hws : ∀ w ∈ ws, ∀ a' U, s.WarmedH U.vm → w.before a' U = true) (hcode : Cond.codeWith y bytes maxL ret hh ∈ ws) (hinit : ∀ a' U, s.WarmedH U.vm → (Cond.initialized y.cls).before a' U = true) :
    vx_Back l R p e below s sargs y len W9 (PreOf R mc ms Pc) (PostOf Qc mc ms free) (vx_Post XC mc ms free) := by
  intro m meth c A g ig mk a X hg hsize hdg hW hn hp
  have h1 : (headSpec ws rm).pre.before a A.U = true := atoms_intro fun w hw => hws w hw _ _ X.warmed
  have h2 : (Cond.codeWith y bytes maxL ret hh).before a A.U = true := hws _ hcode _ _ X.warmed
  have h3 : (Cond.initialized y.cls).before a A.U = true := hinit _ _ X.warmed
  have h4 : A.cells + (headSpec ws rm).room.cells ≤ R.cells := by rw [show (headSpec ws rm).room.cells = mc from hrc]; exact hp.1
  have h5 : A.slots + (headSpec ws rm).room.slots ≤ R.slots := by rw [show (headSpec ws rm).room.slots = ms from hrs]; exact hp.2.1
  have hPc : Pc a (A.U.calling g mk a) := hblind _ _ _ _ hp.2.2
  obtain ⟨U, Ls, c0, s0⟩ := A
  dsimp only [Pt.U, Pt.locs, Pt.cells, Pt.slots] at h1 h2 h3 h4 h5 X hn hPc ⊢
  obtain ⟨m9, methY, cY, hn9, hmY, hcY, -, hlY, -⟩ := Cond.codeWith_spec h2
  cases Option.some.inj (hn9.symm.trans hn)
  obtain ⟨kY, hkY, -⟩ := className_of_methodNamed hn
  have hinitY : kY.init = .initialized := Cond.initialized_spec (findClass_of_methodNamed hn) hkY h3
  have h : At U g.method c below := by rw [hg]; exact X.here
  have hlocals9 : W9 + (maxL + 11) + (headSpec ws rm).room.locals ≤ R.locals := hlocals
  have happ : (headSpec ws rm).appliesLoose y e.platform (U.calling g mk a) = true :=
    Spec.appliesLoose_calling (g := g) h hdg hn hkY hinitY
      (X.room_calling (g := g) (R' := (headSpec ws rm).room) hsize hmY hcY hframes (by rw [hlY]; omega) h4 h5) h1
  obtain ⟨mid, hmid⟩ := h.above
  have hfr : (U.setTop g).frames = (.java g :: mid) ++ below := by rw [State.frames_setTop' g h.top, hmid]; rfl
  obtain ⟨o, s₂, hsteps, -, hend, hq⟩ := Steps.callFree hM p X.admits X.cas X.clock (acts := []) hfr happ hPc trivial
  have hq' : vx_Q Qc XC mc ms free a (U.calling g mk a) o s₂ := hq
  rw [State.frames_setTop' g h.top] at hend
  obtain ⟨g₀, hg0⟩ := Option.isSome_iff_exists.mp h.top
  obtain ⟨r, hr⟩ := State.topJava?_eq_some.mp hg0
  have hr' : (({ U with heap := s₂.heap, slotsUsed := s₂.slotsUsed } : State).setVm s₂.vm).frames = .java g₀ :: r := hr
  rcases hq' with ⟨hqc, L, hfe, hL⟩ | ⟨q, rfl, E, ce, L, hx, hce, hcv, hcl, hW₂, hsm, hL⟩
  · obtain ⟨⟨v, rfl⟩, hW₂, e2, q2, q3, q4, q5, q6⟩ := id hfe
    have e3 : s₂ = ({ (U.calling g mk a).setFrames s₂.frames with heap := s₂.heap, slotsUsed := s₂.slotsUsed } : State).setVm s₂.vm := by
      have : s₂ = ({ s₂ with vm := (U.calling g mk a).vm } : State).setVm s₂.vm := rfl
      rw [e2] at this
      exact this
    obtain ⟨c₂, i₂, len₂, hc₂, hd₂, hf₂⟩ := hend
    have hW' : U.WarmedH s₂.vm := hW₂
    have hcc : c₂ = c := by
      have h1 : s₂.code? g.method = U.code? g.method := by
        rw [State.code?_eq, State.code?_eq, hW'.alike.method?]
      exact Option.some.inj (hc₂.symm.trans (h1.trans h.code))
    subst hcc
    have hlen : len₂ = len := by rw [hdg] at hd₂; cases hd₂; rfl
    subst hlen
    have hs₂ : s₂ = (({ U with heap := s₂.heap, slotsUsed := s₂.slotsUsed } : State).setVm s₂.vm).setTop { g with pc := g.pc + len₂, stack := v.toList ++ g.stack } := by
      refine e3.trans ?_
      rw [hf₂, State.calling_eq h.top, State.setFrames_setFrames, State.setTop_of_frames _ hr', hr]
      rfl
    have hsame : U.sameButNew ({ U with heap := s₂.heap, slotsUsed := s₂.slotsUsed } : State) L mc ms := by
      refine ⟨?_, q2, q3, q4, q5, q6⟩
      obtain ⟨t, ht, -⟩ := State.frames_cons hr
      show ({ U with heap := s₂.heap, slotsUsed := s₂.slotsUsed } : State) = { U.setFrames U.frames with heap := s₂.heap, slotsUsed := s₂.slotsUsed }
      rw [State.setFrames_self ht]
    subst hg
    refine Or.inl ⟨v, ⟨(({ U with heap := s₂.heap, slotsUsed := s₂.slotsUsed } : State).setVm s₂.vm), Ls ++ L, c0 + mc, s0 + ms⟩,
      ⟨X.admits, X.cas, X.clock, X.frames, X.room, X.hears, X.method, X.code, (X.here.setHeapUsed s₂.heap s₂.slotsUsed).setVm hW'.alike, X.tail, State.WarmedH.trans X.warmed hW', X.limits, X.bytes, X.same.trans (hsame.setVm s.vm)⟩,
      ⟨g, mk, s₂, L, rfl, rfl, hqc, rfl, hL, rfl, rfl⟩, ?_⟩
    show Steps p.tables e below _ ((({ U with heap := s₂.heap, slotsUsed := s₂.slotsUsed } : State).setVm s₂.vm).setTop { g with pc := g.pc + len₂, stack := v.toList ++ g.stack })
    rw [← hs₂]
    exact hsteps
  · obtain ⟨e2, q2, q3, q4, q5, q6⟩ := id hsm
    have e3 : s₂ = ({ (U.calling g mk a).setFrames s₂.frames with heap := s₂.heap, slotsUsed := s₂.slotsUsed } : State).setVm s₂.vm := by
      have : s₂ = ({ s₂ with vm := (U.calling g mk a).vm } : State).setVm s₂.vm := rfl
      rw [e2] at this
      exact this
    have hf₂ : s₂.frames = .throwing q :: .java g :: U.frames.tail := hend
    have hW' : U.WarmedH s₂.vm := hW₂
    have hs₂ : s₂ = ((({ U with heap := s₂.heap, slotsUsed := s₂.slotsUsed } : State).setVm s₂.vm).setTop g).pushFrame (.throwing q) := by
      refine e3.trans ?_
      rw [hf₂, State.calling_eq h.top, State.setFrames_setFrames, State.pushFrame, State.frames_setTop _ hr', State.setTop_of_frames _ hr', State.setFrames_setFrames, hr]
      rfl
    have hsame : U.sameButNew ({ U with heap := s₂.heap, slotsUsed := s₂.slotsUsed } : State) L mc ms := by
      refine ⟨?_, q2, q3, q4, q5, q6⟩
      obtain ⟨t, ht, -⟩ := State.frames_cons hr
      show ({ U with heap := s₂.heap, slotsUsed := s₂.slotsUsed } : State) = { U.setFrames U.frames with heap := s₂.heap, slotsUsed := s₂.slotsUsed }
      rw [State.setFrames_self ht]
    subst hg
    refine Or.inr ⟨q, ⟨(({ U with heap := s₂.heap, slotsUsed := s₂.slotsUsed } : State).setVm s₂.vm), Ls ++ L, c0 + mc, s0 + ms⟩,
      ⟨X.admits, X.cas, X.clock, X.frames, X.room, X.hears, X.method, X.code, (X.here.setHeapUsed s₂.heap s₂.slotsUsed).setVm hW'.alike, X.tail, State.WarmedH.trans X.warmed hW', X.limits, X.bytes, X.same.trans (hsame.setVm s.vm)⟩,
      ⟨g, mk, s₂, L, E, ce, rfl, rfl, hx, hce, hcv, hcl, rfl, hL, rfl, rfl⟩, ?_⟩
    show Steps p.tables e below _ (((({ U with heap := s₂.heap, slotsUsed := s₂.slotsUsed } : State).setVm s₂.vm).setTop g).pushFrame (.throwing q))
    rw [← hs₂]
    exact hsteps
end
variable {p : Program} {l : Launch} {e : Env} {R : Room} {s : State} {m : MethodId} {args : Array Value} {below : List Frame} {meth : Method} {c : Code} {T : State} {H : Heap} {locs : List Loc} {cells slots : Nat}
theorem vx_callVX (X : Stand p l e R s m args below meth c T locs cells slots) (hexec : p.tables.exec = Jvm.exec) {own C : String} {index : Nat} {y : MethodName} {bytes : ByteArray} {maxL : Nat} {ret : Option FieldType} {hh : List (Nat × Nat × Nat × Nat)}
    (hown : s.vm.findClass own = some m.cls) (hlink : (Cond.methodLink own index y).before args s = true) (hinst : (Cond.instanceMethod y).before args s = true) (hsel : (Cond.selects C y y).before args s = true)
    (hcode : (Cond.codeWith y bytes maxL ret hh).before args s = true) (hy : y.cls ≠ "java/lang/invoke/MethodHandle" ∧ y.cls ≠ "java/lang/invoke/VarHandle")
    {W9 : Nat} {Pre : Pt → Array Value → Prop} {Post : Pt → Array Value → Option Value → Pt → Prop} {PostX : Pt → Array Value → Addr → Pt → Prop} (hK : vx_Back l R p e below s args y 3 W9 Pre Post PostX)
    {b : Addr} {cellB : Cell} (hcell : T.heap[b]? = some cellB) (hobj : cellB.vm.isStatics = false) (hcls : s.vm.findClass C = some cellB.cls)
    {g : JFrame} (hg : g.method = m) (hsize : g.locals.size = c.maxLocals) {argsL rest : List Value} (hlen : ∀ sig, parseMethodDescriptor y.desc = some sig → argsL.length = sig.parameters.length)
    (hstack : g.stack = argsL.reverse ++ .ref b :: rest) (hW : 2 * g.monitorRoom + (rest.map fun v => v.category).sum ≤ W9) (hdg : decode c.code g.pc = .ok (.invokevirtual index, 3))
    (hpre : ∀ vm₁, s.WarmedH vm₁ → Pre ⟨T.setVm vm₁, locs, cells, slots⟩ (Value.ref b :: argsL).toArray) :
    (∃ (v : Option Value) (vm₁ : Vm) (B : Pt), s.WarmedH vm₁ ∧ Stand p l e R s m args below meth c B.U B.locs B.cells B.slots ∧ Post ⟨T.setVm vm₁, locs, cells, slots⟩ (Value.ref b :: argsL).toArray v B ∧
      ∀ target, Steps p.tables e below (B.U.setTop { g with pc := g.pc + 3, stack := v.toList ++ rest }) target → Steps p.tables e below (T.setTop g) target) ∨
    (∃ (q : Addr) (vm₁ : Vm) (B : Pt), s.WarmedH vm₁ ∧ Stand p l e R s m args below meth c B.U B.locs B.cells B.slots ∧ PostX ⟨T.setVm vm₁, locs, cells, slots⟩ (Value.ref b :: argsL).toArray q B ∧
      Steps p.tables e below (T.setTop g) ((B.U.setTop { g with stack := rest }).pushFrame (.throwing q))) := by
  obtain ⟨mk, methM, hnamed, hmethM, hstM, habM⟩ := Cond.instanceMethod_spec hinst
  obtain ⟨m8, methM', cM, hn8, hmethM', -, -, -, -, -, -, hsigM⟩ := Cond.codeWith_spec hcode
  cases Option.some.inj (hn8.symm.trans hnamed)
  cases hmethM.symm.trans hmethM'
  obtain ⟨c2, r2, m2, q1, q2, q3, q4, kP, hkP, hkPi⟩ := Cond.selects_spec hsel
  cases hcls.symm.trans q1
  cases (State.methodFound?_of_named hnamed hy).symm.trans q2
  cases hnamed.symm.trans q3
  have hselP : selectMethod e.platform s.vm cellB.cls mk = .method mk := by rw [Launch.admits_selectMethod X.admits]; exact q4
  obtain ⟨vm₁, X₁, hstep₁⟩ := X.invokevirtual hexec hown hlink hnamed hmethM hstM hkP hkPi hy (a := b) (cell := cellB) hcell
    (fun z h => by rw [h] at hobj; cases hobj) hselP hmethM habM hkP hkPi (g := g) hg (argsL := argsL) (rest := rest) (hlen _ hsigM) hstack hdg
  rcases hK m meth c ⟨T.setVm vm₁, locs, cells, slots⟩ { g with stack := rest } (.invokevirtual index) mk (Value.ref b :: argsL).toArray X₁ hg hsize hdg hW (X₁.named hnamed) (hpre vm₁ X₁.warmed) with ⟨v, B, X', hpost, hsteps⟩ | ⟨q, B, X', hpost, hsteps⟩
  · exact Or.inl ⟨v, vm₁, B, X₁.warmed, X', hpost, fun target h => hstep₁ _ fun acts => by rw [doInvoke_state]; exact hsteps.trans h⟩
  · exact Or.inr ⟨q, vm₁, B, X₁.warmed, X', hpost, hstep₁ _ fun acts => by rw [doInvoke_state]; exact hsteps⟩
theorem vx_callSX (X : Stand p l e R s m args below meth c T locs cells slots) (hexec : p.tables.exec = Jvm.exec) {own : String} {index : Nat} {y : MethodName} {bytes : ByteArray} {maxL : Nat} {ret : Option FieldType} {hh : List (Nat × Nat × Nat × Nat)}
    (hown : s.vm.findClass own = some m.cls) (hlink : (Cond.methodLink own index y).before args s = true) (hstat : (Cond.static y).before args s = true) (hinit : (Cond.initialized y.cls).before args s = true)
    (hcode : (Cond.codeWith y bytes maxL ret hh).before args s = true) (hy : y.cls ≠ "java/lang/invoke/MethodHandle" ∧ y.cls ≠ "java/lang/invoke/VarHandle")
    {W9 : Nat} {Pre : Pt → Array Value → Prop} {Post : Pt → Array Value → Option Value → Pt → Prop} {PostX : Pt → Array Value → Addr → Pt → Prop} (hK : vx_Back l R p e below s args y 3 W9 Pre Post PostX)
    {g : JFrame} (hg : g.method = m) (hsize : g.locals.size = c.maxLocals) {argsL rest : List Value} (hlen : ∀ sig, parseMethodDescriptor y.desc = some sig → argsL.length = sig.parameters.length)
    (hstack : g.stack = argsL.reverse ++ rest) (hW : 2 * g.monitorRoom + (rest.map fun v => v.category).sum ≤ W9) (hdg : decode c.code g.pc = .ok (.invokestatic index, 3))
    (hpre : ∀ vm₁, s.WarmedH vm₁ → Pre ⟨T.setVm vm₁, locs, cells, slots⟩ argsL.toArray) :
    (∃ (v : Option Value) (vm₁ : Vm) (B : Pt), s.WarmedH vm₁ ∧ Stand p l e R s m args below meth c B.U B.locs B.cells B.slots ∧ Post ⟨T.setVm vm₁, locs, cells, slots⟩ argsL.toArray v B ∧
      ∀ target, Steps p.tables e below (B.U.setTop { g with pc := g.pc + 3, stack := v.toList ++ rest }) target → Steps p.tables e below (T.setTop g) target) ∨
    (∃ (q : Addr) (vm₁ : Vm) (B : Pt), s.WarmedH vm₁ ∧ Stand p l e R s m args below meth c B.U B.locs B.cells B.slots ∧ PostX ⟨T.setVm vm₁, locs, cells, slots⟩ argsL.toArray q B ∧
      Steps p.tables e below (T.setTop g) ((B.U.setTop { g with stack := rest }).pushFrame (.throwing q))) := by
  obtain ⟨mk, methM, cM, hnamed, hmethM, -, -, -, -, -, -, hsigM⟩ := Cond.codeWith_spec hcode
  have hstatic : methM.isStatic = true := Cond.static_spec hnamed hmethM hstat
  obtain ⟨kP, hkP, -⟩ := className_of_methodNamed hnamed
  have hinitP : kP.init = .initialized := Cond.initialized_spec (findClass_of_methodNamed hnamed) hkP hinit
  obtain ⟨vm₁, X₁, hstep₁⟩ := X.invokestatic hexec hown hlink hnamed hmethM hstatic hkP hinitP hy (g := g) hg (argsL := argsL) (rest := rest) (hlen _ hsigM) hstack hdg
  rcases hK m meth c ⟨T.setVm vm₁, locs, cells, slots⟩ { g with stack := rest } (.invokestatic index) mk argsL.toArray X₁ hg hsize hdg hW (X₁.named hnamed) (hpre vm₁ X₁.warmed) with ⟨v, B, X', hpost, hsteps⟩ | ⟨q, B, X', hpost, hsteps⟩
  · exact Or.inl ⟨v, vm₁, B, X₁.warmed, X', hpost, fun target h => hstep₁ _ fun acts => by rw [doInvoke_state]; exact hsteps.trans h⟩
  · exact Or.inr ⟨q, vm₁, B, X₁.warmed, X', hpost, hstep₁ _ fun acts => by rw [doInvoke_state]; exact hsteps⟩
theorem vx_callVW (X : Stand p l e R s m args below meth c T locs cells slots) (hexec : p.tables.exec = Jvm.exec) {own C : String} {index : Nat} {y : MethodName} {bytes : ByteArray} {maxL : Nat} {ret : Option FieldType} {hh : List (Nat × Nat × Nat × Nat)}
    (hown : s.vm.findClass own = some m.cls) (hlink : (Cond.methodLink own index y).before args s = true) (hinst : (Cond.instanceMethod y).before args s = true) (hsel : (Cond.selects C y y).before args s = true)
    (hcode : (Cond.codeWith y bytes maxL ret hh).before args s = true) (hy : y.cls ≠ "java/lang/invoke/MethodHandle" ∧ y.cls ≠ "java/lang/invoke/VarHandle")
    {W9 : Nat} {Pre : Pt → Array Value → Prop} {Post : Pt → Array Value → Option Value → Pt → Prop} (hK : Back l R p e below s args y 3 W9 Pre Post)
    {b : Addr} {cellB : Cell} (hcell : T.heap[b]? = some cellB) (hobj : cellB.vm.isStatics = false) (hcls : s.vm.findClass C = some cellB.cls)
    {g : JFrame} (hg : g.method = m) (hsize : g.locals.size = c.maxLocals) {argsL rest : List Value} (hlen : ∀ sig, parseMethodDescriptor y.desc = some sig → argsL.length = sig.parameters.length)
    (hstack : g.stack = argsL.reverse ++ .ref b :: rest) (hW : 2 * g.monitorRoom + (rest.map fun v => v.category).sum ≤ W9) (hdg : decode c.code g.pc = .ok (.invokevirtual index, 3))
    (hpre : ∀ vm₁, s.WarmedH vm₁ → Pre ⟨T.setVm vm₁, locs, cells, slots⟩ (Value.ref b :: argsL).toArray) :
    ∃ (v : Option Value) (vm₁ : Vm) (B : Pt), s.WarmedH vm₁ ∧ Stand p l e R s m args below meth c B.U B.locs B.cells B.slots ∧ Post ⟨T.setVm vm₁, locs, cells, slots⟩ (Value.ref b :: argsL).toArray v B ∧
      ∀ target, Steps p.tables e below (B.U.setTop { g with pc := g.pc + 3, stack := v.toList ++ rest }) target → Steps p.tables e below (T.setTop g) target := by
  obtain ⟨mk, methM, hnamed, hmethM, hstM, habM⟩ := Cond.instanceMethod_spec hinst
  obtain ⟨m8, methM', cM, hn8, hmethM', -, -, -, -, -, -, hsigM⟩ := Cond.codeWith_spec hcode
  cases Option.some.inj (hn8.symm.trans hnamed)
  cases hmethM.symm.trans hmethM'
  obtain ⟨c2, r2, m2, q1, q2, q3, q4, kP, hkP, hkPi⟩ := Cond.selects_spec hsel
  cases hcls.symm.trans q1
  cases (State.methodFound?_of_named hnamed hy).symm.trans q2
  cases hnamed.symm.trans q3
  have hselP : selectMethod e.platform s.vm cellB.cls mk = .method mk := by rw [Launch.admits_selectMethod X.admits]; exact q4
  obtain ⟨vm₁, X₁, hstep₁⟩ := X.invokevirtual hexec hown hlink hnamed hmethM hstM hkP hkPi hy (a := b) (cell := cellB) hcell
    (fun z h => by rw [h] at hobj; cases hobj) hselP hmethM habM hkP hkPi (g := g) hg (argsL := argsL) (rest := rest) (hlen _ hsigM) hstack hdg
  obtain ⟨v, B, X', hpost, hsteps⟩ := hK m meth c ⟨T.setVm vm₁, locs, cells, slots⟩ { g with stack := rest } (.invokevirtual index) mk (Value.ref b :: argsL).toArray X₁ hg hsize hdg hW (X₁.named hnamed) (hpre vm₁ X₁.warmed)
  exact ⟨v, vm₁, B, X₁.warmed, X', hpost, fun target h => hstep₁ _ fun acts => by rw [doInvoke_state]; exact hsteps.trans h⟩
abbrev vx_CVW (R : Room) (s : State) (args : Array Value) (own C : String) (index : Nat) (y : MethodName) (bytes : ByteArray) (maxL : Nat) (ret : Option FieldType) (hh : List (Nat × Nat × Nat × Nat)) (ws : List Cond) (rm : Room) (mc ms n : Nat) : Prop :=
  (rm.cells = mc ∧ rm.slots = ms ∧ rm.frames + 1 ≤ R.frames ∧ 8 + (maxL + 11) + rm.locals ≤ R.locals ∧ (∀ w ∈ ws, ∀ (a' : Array Value) (U : State), s.WarmedH U.vm → w.before a' U = true) ∧ Cond.codeWith y bytes maxL ret hh ∈ ws) ∧
  (Cond.codeWith y bytes maxL ret hh).before args s = true ∧ (Cond.initialized y.cls).before args s = true ∧ (y.cls ≠ "java/lang/invoke/MethodHandle" ∧ y.cls ≠ "java/lang/invoke/VarHandle") ∧
  (∀ sig, parseMethodDescriptor y.desc = some sig → n = sig.parameters.length) ∧ (Cond.methodLink own index y).before args s = true ∧ (Cond.instanceMethod y).before args s = true ∧ (Cond.selects C y y).before args s = true
theorem vx_cwVW {own C : String} {index maxL mc ms : Nat} {y : MethodName} {bytes : ByteArray} {ret : Option FieldType} {hh : List (Nat × Nat × Nat × Nat)} {Ts ws ws' : List Cond} {rm : Room} (n : Nat) (ht : ∀ w ∈ Ts, w.before args s = true) (hT : GoodIn Ts (wsV own index C y ws)) (hw : ws = Cond.codeWith y bytes maxL ret hh :: ws') (hrc : rm.cells = mc) (hrs : rm.slots = ms)
    (hd : y.cls = C ∧ y.cls ≠ "java/lang/invoke/MethodHandle" ∧ y.cls ≠ "java/lang/invoke/VarHandle" ∧ (parseMethodDescriptor y.desc).map (fun d => d.parameters.length) = some n) (hR : rm.frames + 1 ≤ R.frames ∧ 8 + (maxL + 11) + rm.locals ≤ R.locals) :
    vx_CVW R s args own C index y bytes maxL ret hh ws rm mc ms n := by
  obtain ⟨hC, hd⟩ := hd
  subst hC
  have ok : ∀ w ∈ wsV own index y.cls y ws, w.before args s = true := fun w h => ht w (hT w h).1
  have hG : GoodIn Ts ws := fun w h => hT w (by unfold wsV; exact List.mem_append_right _ h)
  have hc : Cond.codeWith y bytes maxL ret hh ∈ ws := by rw [hw]; exact List.mem_cons_self
  refine ⟨⟨hrc, hrs, hR.1, hR.2, pay_in ht hG, hc⟩, ht _ (hG _ hc).1, ok _ (by simp [wsV]), ⟨hd.1, hd.2.1⟩, fun sig h => ?_, ok _ (by simp [wsV]), ok _ (by simp [wsV]), ok _ (by simp [wsV])⟩
  have h2 := hd.2.2
  rw [h] at h2
  exact (Option.some.inj h2).symm
theorem vx_runVW {y : MethodName} {bytes cc : ByteArray} {maxL nL mc ms n index : Nat} {ret : Option FieldType} {hh : List (Nat × Nat × Nat × Nat)} {ws : List Cond} {rm : Room} {Pc : Array Value → State → Prop} {Qc : Array Value → State → Outcome → State → Prop} {free : Addr → Prop} {Ts : List Cond} {own C : String} {b : Addr} {As rest : List Value} {g : JFrame}
    (S : CallFix p m c cc nL s args Ts own) (hM : Met l y ws rm Pc Qc mc ms free) (cw : vx_CVW R s args own C index y bytes maxL ret hh ws rm mc ms n) (hp : PreV s H C b Pc As)
    (hg : g.method = m) (hn : As.length = n) (hsize : g.locals.size = nL) (hstack : g.stack = As.reverse ++ .ref b :: rest) (hW : 2 * g.monitorRoom + (rest.map fun v => v.category).sum ≤ 8) (hdg : decode cc g.pc = .ok (.invokevirtual index, 3)) (hf : cells + mc ≤ R.cells ∧ slots + ms ≤ R.slots) :
    va_Run p l e R s m args below meth c H locs cells slots mc ms g rest (Qc (Value.ref b :: As).toArray) free := by
  obtain ⟨⟨hrc, hrs, hfr, hlo, hws, hcw⟩, hcode, hini, hy, hlen, hl, hin, hse⟩ := cw
  have hK : Back l R p e below s args y 3 8 (PreOf R mc ms Pc) (PostOf Qc mc ms free) := va_backW (hh := hh) (bytes := bytes) (maxL := maxL) (ret := ret) hM hp.1 hrc hrs hfr hlo hws hcw (fun a' U hW => word_at hW (Or.inl (by first | rfl | simp [Cond.onTables, Cond.keeps, Cond.steady])) hini)
  obtain ⟨hx, hb, hml, ho, -⟩ := S
  obtain ⟨-, ⟨cellB, hcB, hoB, hclB⟩, hPc⟩ := hp
  intro T hT X
  obtain ⟨v, vm₁, ⟨U', l2, c2, s2⟩, hW₁, X', ⟨g', mk, t, L, e1, e2, hq, h1, hL, h2, h3⟩, st⟩ := vx_callVW X hx (C := C) (hh := hh) (bytes := bytes) (maxL := maxL) (ret := ret) ho hl hin hse hcode hy hK (by rw [hT]; exact hcB) hoB hclB hg (hsize.trans hml.symm) (argsL := As) (rest := rest) (fun sig h => hn.trans (hlen sig h)) hstack hW (by rw [hb]; exact hdg)
    (fun vm₁ hW₁ => ⟨hf.1, hf.2, hPc (T.setVm vm₁) hT hW₁⟩)
  dsimp only [Pt.U, Pt.locs, Pt.cells, Pt.slots] at X' e1 e2 h1 h2 h3 st
  subst h1; subst h2; subst h3
  exact ⟨v, (T.setVm vm₁).calling g' mk (Value.ref b :: As).toArray, t, U', L, hT, X', hL, e1, e2, hq, st⟩
section
variable {y : MethodName} {bytes cc : ByteArray} {maxL nL mc ms n index : Nat} {ret : Option FieldType} {ws : List Cond} {rm : Room} {Pc : Array Value → State → Prop} {Qc : Array Value → State → Outcome → State → Prop} {XC : String → State → State → Prop} {free : Addr → Prop} {Ts : List Cond} {own C : String} {b : Addr} {As rest : List Value} {g : JFrame}
theorem vx_runVX {hh : List (Nat × Nat × Nat × Nat)} (S : CallFix p m c cc nL s args Ts own) (hM : vx_Met l y ws rm Pc Qc XC mc ms free) (cw : vx_CVW R s args own C index y bytes maxL ret hh ws rm mc ms n) (hp : PreV s H C b Pc As)
    (hg : g.method = m) (hn : As.length = n) (hsize : g.locals.size = nL) (hstack : g.stack = As.reverse ++ .ref b :: rest) (hW : 2 * g.monitorRoom + (rest.map fun v => v.category).sum ≤ 8) (hdg : decode cc g.pc = .ok (.invokevirtual index, 3)) (hf : cells + mc ≤ R.cells ∧ slots + ms ≤ R.slots) :
    vx_Run p l e R s m args below meth c H locs cells slots mc ms g rest (Qc (Value.ref b :: As).toArray) XC free := by
  obtain ⟨⟨hrc, hrs, hfr, hlo, hws, hcw⟩, hcode, hini, hy, hlen, hl, hin, hse⟩ := cw
  have hK : vx_Back l R p e below s args y 3 8 (PreOf R mc ms Pc) (PostOf Qc mc ms free) (vx_Post XC mc ms free) := vx_backW (hh := hh) (bytes := bytes) (maxL := maxL) (ret := ret) hM hp.1 hrc hrs hfr hlo hws hcw (fun a' U hW => word_at hW (Or.inl (by first | rfl | simp [Cond.onTables, Cond.keeps, Cond.steady])) hini)
  obtain ⟨hx, hb, hml, ho, -⟩ := S
  obtain ⟨-, ⟨cellB, hcB, hoB, hclB⟩, hPc⟩ := hp
  intro T hT X
  rcases vx_callVX X hx (C := C) (hh := hh) (bytes := bytes) (maxL := maxL) (ret := ret) ho hl hin hse hcode hy hK (by rw [hT]; exact hcB) hoB hclB hg (hsize.trans hml.symm) (argsL := As) (rest := rest) (fun sig h => hn.trans (hlen sig h)) hstack hW (by rw [hb]; exact hdg)
    (fun vm₁ hW₁ => ⟨hf.1, hf.2, hPc (T.setVm vm₁) hT hW₁⟩) with ⟨v, vm₁, ⟨U', l2, c2, s2⟩, hW₁, X', ⟨g', mk, t, L, e1, e2, hq, h1, hL, h2, h3⟩, st⟩ | ⟨q, vm₁, ⟨U', l2, c2, s2⟩, hW₁, X', ⟨g', mk, t, L, E, ce, e1, e2, hq, hce, hcv, hcl, h1, hL, h2, h3⟩, st⟩
  · dsimp only [Pt.U, Pt.locs, Pt.cells, Pt.slots] at X' e1 e2 h1 h2 h3 st
    subst h1; subst h2; subst h3
    exact Or.inl ⟨v, (T.setVm vm₁).calling g' mk (Value.ref b :: As).toArray, t, U', L, hT, X', hL, e1, e2, hq, st⟩
  · dsimp only [Pt.U, Pt.locs, Pt.cells, Pt.slots] at X' e1 e2 h1 h2 h3 st hcl
    subst h1; subst h2; subst h3
    exact Or.inr ⟨q, (T.setVm vm₁).calling g' mk (Value.ref b :: As).toArray, t, U', L, E, ce, hT, X', hL, e1, e2, hq, hce, hcv, vx_cls hW₁ hcl, st⟩
theorem vx_runSX {hh : List (Nat × Nat × Nat × Nat)} (S : CallFix p m c cc nL s args Ts own) (hM : vx_Met l y ws rm Pc Qc XC mc ms free) (cw : vx_CSW R s args own index y bytes maxL ret hh ws rm mc ms n) (hp : PreS s H Pc As)
    (hg : g.method = m) (hn : As.length = n) (hsize : g.locals.size = nL) (hstack : g.stack = As.reverse ++ rest) (hW : 2 * g.monitorRoom + (rest.map fun v => v.category).sum ≤ 8) (hdg : decode cc g.pc = .ok (.invokestatic index, 3)) (hf : cells + mc ≤ R.cells ∧ slots + ms ≤ R.slots) :
    vx_Run p l e R s m args below meth c H locs cells slots mc ms g rest (Qc As.toArray) XC free := by
  obtain ⟨⟨hrc, hrs, hfr, hlo, hws, hcw⟩, hcode, hini, hy, hlen, hl, hstt⟩ := cw
  have hK : vx_Back l R p e below s args y 3 8 (PreOf R mc ms Pc) (PostOf Qc mc ms free) (vx_Post XC mc ms free) := vx_backW (hh := hh) (bytes := bytes) (maxL := maxL) (ret := ret) hM hp.1 hrc hrs hfr hlo hws hcw (fun a' U hW => word_at hW (Or.inl (by first | rfl | simp [Cond.onTables, Cond.keeps, Cond.steady])) hini)
  obtain ⟨hx, hb, hml, ho, -⟩ := S
  intro T hT X
  rcases vx_callSX X hx (hh := hh) (bytes := bytes) (maxL := maxL) (ret := ret) ho hl hstt hini hcode hy hK hg (hsize.trans hml.symm) (argsL := As) (rest := rest) (fun sig h => hn.trans (hlen sig h)) hstack hW (by rw [hb]; exact hdg)
    (fun vm₁ hW₁ => ⟨hf.1, hf.2, hp.2 (T.setVm vm₁) hT hW₁⟩) with ⟨v, vm₁, ⟨U', l2, c2, s2⟩, hW₁, X', ⟨g', mk, t, L, e1, e2, hq, h1, hL, h2, h3⟩, st⟩ | ⟨q, vm₁, ⟨U', l2, c2, s2⟩, hW₁, X', ⟨g', mk, t, L, E, ce, e1, e2, hq, hce, hcv, hcl, h1, hL, h2, h3⟩, st⟩
  · dsimp only [Pt.U, Pt.locs, Pt.cells, Pt.slots] at X' e1 e2 h1 h2 h3 st
    subst h1; subst h2; subst h3
    exact Or.inl ⟨v, (T.setVm vm₁).calling g' mk As.toArray, t, U', L, hT, X', hL, e1, e2, hq, st⟩
  · dsimp only [Pt.U, Pt.locs, Pt.cells, Pt.slots] at X' e1 e2 h1 h2 h3 st hcl
    subst h1; subst h2; subst h3
    exact Or.inr ⟨q, (T.setVm vm₁).calling g' mk As.toArray, t, U', L, E, ce, hT, X', hL, e1, e2, hq, hce, hcv, vx_cls hW₁ hcl, st⟩
end
end VXH
theorem vx_ofWH {l : Launch} {y : MethodName} {ws ws' : List Cond} {rm : Room} {Pc : Array Value → State → Prop} {Qc : Array Value → State → Outcome → State → Prop} {XC : String → State → State → Prop} {mc ms : Nat} {free : Addr → Prop} {cc : ByteArray} {maxL : Nat} {ret : Option FieldType} {hh : List (Nat × Nat × Nat × Nat)}
    (hy : plainName y.cls = true) (hw : ws = Cond.codeWith y cc maxL ret hh :: ws')
    (body : ∀ p e s m args below meth c s₁, BodyLoose p l y (headSpec ws rm) cc maxL ret e s m args below meth c s₁ → c.maxLocals = maxL → Pc args s →
      W p l e (headSpec ws rm).room s m args below meth c s.heap [] 0 0 (vx_MQ below Qc XC args s mc ms free) (entryFrame m args maxL)) : vx_Met l y ws rm Pc Qc XC mc ms free := by
  refine MetFree.of_bodyS (code := cc) (maxLocals := maxL) (ret := ret) hy ?_ ?_
  · intro args s m h hn
    obtain ⟨m9, meth, c, hn9, h1, h2, h3, h4, -, h5, h6, -⟩ := Cond.codeWith_spec (atoms_spec (ws := ws) h _ (by rw [hw]; exact List.mem_cons_self))
    cases hn.symm.trans hn9
    exact ⟨meth, c, h1, h2, h3, h4, h5, h6⟩
  · intro p e s m args below meth c s₁ B hml hP _
    have hh0 : s₁.heap = s.heap := by rw [B.state]; rfl
    obtain ⟨t, a1, o, b1, b2, b3⟩ := body p e s m args below meth c s₁ B hml hP s₁ hh0 (Stand.of_body B)
    exact ⟨t, o, a1, b1, b2, b3⟩
/-! ===== END ===== -/
end
section
def RA : String := "AidRows"
def TA : u_T := fun k => match k with
  | 0 => ("AidRows", "houses", "LAidRows$Houses;", true)
  | 1 => ("AidRows", "agreements", "LAidRows$Agreements;", true)
  | 2 => ("AidRows", "asks", "LAidRows$Asks;", true)
  | 3 => ("AidRows", "loans", "LAidRows$Loans;", true)
  | 4 => ("AidRows", "numbers", "LAidRows$Numbers;", true)
  | 5 => ("AidRows", "houseOfCall", "[I", true)
  | 6 => ("AidRows", "clock", "I", false)
  | 7 => ("AidRows", "messagesNotHeard", "I", false)
  | _ => ("AidRows", "messagesRepeated", "I", false)
def tyA : Nat → FieldType := fun k => match k with
  | 0 => .object "AidRows$Houses"
  | 1 => .object "AidRows$Agreements"
  | 2 => .object "AidRows$Asks"
  | 3 => .object "AidRows$Loans"
  | 4 => .object "AidRows$Numbers"
  | 5 => .array .int
  | 6 => .int
  | 7 => .int
  | _ => .int
theorem nmA : ∀ a, a < 9 → ∀ b, b < 9 → a ≠ b → (TA a).2.1 ≠ (TA b).2.1 := by decide +kernel
theorem tyA_ok : ∀ k, k < 9 → parseFieldDescriptor (TA k).2.2.1 = some (tyA k) := by decide +kernel
def RHo : String := "AidRows$Houses"
def THo : u_T := fun k => match k with
  | 0 => ("AidRows$Houses", "ranks", "[I", true)
  | 1 => ("AidRows$Houses", "prices", "[I", true)
  | 2 => ("AidRows$Houses", "lineCut", "[Z", true)
  | _ => ("AidRows$Houses", "made", "I", false)
def tyHo : Nat → FieldType := fun k => match k with
  | 0 => .array .int
  | 1 => .array .int
  | 2 => .array .boolean
  | _ => .int
theorem nmHo : ∀ a, a < 4 → ∀ b, b < 4 → a ≠ b → (THo a).2.1 ≠ (THo b).2.1 := by decide +kernel
theorem tyHo_ok : ∀ k, k < 4 → parseFieldDescriptor (THo k).2.2.1 = some (tyHo k) := by decide +kernel
def RAg : String := "AidRows$Agreements"
def TAg : u_T := fun k => match k with
  | 0 => ("AidRows$Agreements", "houses", "[I", true)
  | 1 => ("AidRows$Agreements", "kinds", "[I", true)
  | 2 => ("AidRows$Agreements", "from", "[I", true)
  | 3 => ("AidRows$Agreements", "to", "[I", true)
  | 4 => ("AidRows$Agreements", "hours", "[I", true)
  | 5 => ("AidRows$Agreements", "units", "[I", true)
  | _ => ("AidRows$Agreements", "made", "I", false)
def tyAg : Nat → FieldType := fun k => match k with
  | 0 => .array .int
  | 1 => .array .int
  | 2 => .array .int
  | 3 => .array .int
  | 4 => .array .int
  | 5 => .array .int
  | _ => .int
theorem nmAg : ∀ a, a < 7 → ∀ b, b < 7 → a ≠ b → (TAg a).2.1 ≠ (TAg b).2.1 := by decide +kernel
theorem tyAg_ok : ∀ k, k < 7 → parseFieldDescriptor (TAg k).2.2.1 = some (tyAg k) := by decide +kernel
def RAs : String := "AidRows$Asks"
def TAs : u_T := fun k => match k with
  | 0 => ("AidRows$Asks", "kinds", "[I", true)
  | 1 => ("AidRows$Asks", "units", "[I", true)
  | 2 => ("AidRows$Asks", "patiences", "[I", true)
  | 3 => ("AidRows$Asks", "states", "[I", true)
  | 4 => ("AidRows$Asks", "places", "[I", true)
  | 5 => ("AidRows$Asks", "since", "[I", true)
  | 6 => ("AidRows$Asks", "told", "[I", true)
  | 7 => ("AidRows$Asks", "visited", "[I", true)
  | 8 => ("AidRows$Asks", "lost", "[Z", true)
  | _ => ("AidRows$Asks", "made", "I", false)
def tyAs : Nat → FieldType := fun k => match k with
  | 0 => .array .int
  | 1 => .array .int
  | 2 => .array .int
  | 3 => .array .int
  | 4 => .array .int
  | 5 => .array .int
  | 6 => .array .int
  | 7 => .array .int
  | 8 => .array .boolean
  | _ => .int
theorem nmAs : ∀ a, a < 10 → ∀ b, b < 10 → a ≠ b → (TAs a).2.1 ≠ (TAs b).2.1 := by decide +kernel
theorem tyAs_ok : ∀ k, k < 10 → parseFieldDescriptor (TAs k).2.2.1 = some (tyAs k) := by decide +kernel
def RLo : String := "AidRows$Loans"
def TLo : u_T := fun k => match k with
  | 0 => ("AidRows$Loans", "houses", "[I", true)
  | 1 => ("AidRows$Loans", "names", "[I", true)
  | 2 => ("AidRows$Loans", "asks", "[I", true)
  | 3 => ("AidRows$Loans", "agreements", "[I", true)
  | 4 => ("AidRows$Loans", "begins", "[I", true)
  | 5 => ("AidRows$Loans", "ends", "[I", true)
  | _ => ("AidRows$Loans", "made", "I", false)
def tyLo : Nat → FieldType := fun k => match k with
  | 0 => .array .int
  | 1 => .array .int
  | 2 => .array .int
  | 3 => .array .int
  | 4 => .array .int
  | 5 => .array .int
  | _ => .int
theorem nmLo : ∀ a, a < 7 → ∀ b, b < 7 → a ≠ b → (TLo a).2.1 ≠ (TLo b).2.1 := by decide +kernel
theorem tyLo_ok : ∀ k, k < 7 → parseFieldDescriptor (TLo k).2.2.1 = some (tyLo k) := by decide +kernel
def RNu : String := "AidRows$Numbers"
def TNu : u_T := fun k => match k with
  | _ => ("AidRows$Numbers", "packed", "[J", true)
def tyNu : Nat → FieldType := fun k => match k with
  | _ => .array .long
theorem nmNu : ∀ a, a < 1 → ∀ b, b < 1 → a ≠ b → (TNu a).2.1 ≠ (TNu b).2.1 := by decide +kernel
theorem tyNu_ok : ∀ k, k < 1 → parseFieldDescriptor (TNu k).2.2.1 = some (tyNu k) := by decide +kernel
def RB : String := "AidRowsModel"
def TB : u_T := fun k => match k with
  | 0 => ("AidRowsModel", "thrown", "I", false)
  | 1 => ("AidRowsModel", "clock", "I", false)
  | 2 => ("AidRowsModel", "houses", "I", false)
  | 3 => ("AidRowsModel", "rank", "[I", true)
  | 4 => ("AidRowsModel", "price", "[I", true)
  | 5 => ("AidRowsModel", "isCut", "[Z", true)
  | 6 => ("AidRowsModel", "agreements", "I", false)
  | 7 => ("AidRowsModel", "house", "[I", true)
  | 8 => ("AidRowsModel", "kind", "[I", true)
  | 9 => ("AidRowsModel", "from", "[I", true)
  | 10 => ("AidRowsModel", "to", "[I", true)
  | 11 => ("AidRowsModel", "first", "[I", true)
  | 12 => ("AidRowsModel", "last", "[I", true)
  | 13 => ("AidRowsModel", "most", "[I", true)
  | 14 => ("AidRowsModel", "asks", "I", false)
  | 15 => ("AidRowsModel", "askKind", "[I", true)
  | 16 => ("AidRowsModel", "units", "[I", true)
  | 17 => ("AidRowsModel", "patience", "[I", true)
  | 18 => ("AidRowsModel", "state", "[I", true)
  | 19 => ("AidRowsModel", "place", "[I", true)
  | 20 => ("AidRowsModel", "since", "[I", true)
  | 21 => ("AidRowsModel", "got", "[I", true)
  | 22 => ("AidRowsModel", "times", "[I", true)
  | 23 => ("AidRowsModel", "lost", "[Z", true)
  | 24 => ("AidRowsModel", "wasAt", "[Z", true)
  | 25 => ("AidRowsModel", "loans", "I", false)
  | 26 => ("AidRowsModel", "lender", "[I", true)
  | 27 => ("AidRowsModel", "name", "[I", true)
  | 28 => ("AidRowsModel", "loanAsk", "[I", true)
  | 29 => ("AidRowsModel", "under", "[I", true)
  | 30 => ("AidRowsModel", "begins", "[I", true)
  | 31 => ("AidRowsModel", "ended", "[I", true)
  | 32 => ("AidRowsModel", "seen", "[I", true)
  | 33 => ("AidRowsModel", "handed", "[I", true)
  | 34 => ("AidRowsModel", "unheard", "I", false)
  | _ => ("AidRowsModel", "repeated", "I", false)
def tyB : Nat → FieldType := fun k => match k with
  | 0 => .int
  | 1 => .int
  | 2 => .int
  | 3 => .array .int
  | 4 => .array .int
  | 5 => .array .boolean
  | 6 => .int
  | 7 => .array .int
  | 8 => .array .int
  | 9 => .array .int
  | 10 => .array .int
  | 11 => .array .int
  | 12 => .array .int
  | 13 => .array .int
  | 14 => .int
  | 15 => .array .int
  | 16 => .array .int
  | 17 => .array .int
  | 18 => .array .int
  | 19 => .array .int
  | 20 => .array .int
  | 21 => .array .int
  | 22 => .array .int
  | 23 => .array .boolean
  | 24 => .array .boolean
  | 25 => .int
  | 26 => .array .int
  | 27 => .array .int
  | 28 => .array .int
  | 29 => .array .int
  | 30 => .array .int
  | 31 => .array .int
  | 32 => .array .int
  | 33 => .array .int
  | 34 => .int
  | _ => .int
theorem nmB : ∀ a, a < 36 → ∀ b, b < 36 → a ≠ b → (TB a).2.1 ≠ (TB b).2.1 := by decide +kernel
theorem tyB_ok : ∀ k, k < 36 → parseFieldDescriptor (TB k).2.2.1 = some (tyB k) := by decide +kernel
def RL : String := "AidRowsLaw"
abbrev vwCl : List vw_C := [(RA, TA, 9), (RHo, THo, 4), (RAg, TAg, 7), (RAs, TAs, 10), (RLo, TLo, 7), (RNu, TNu, 1), (RB, TB, 36)]
def gG : List Cond := lw_tbl.filter goodWord
theorem gG_all : gG.all goodWord = true := List.all_eq_true.mpr fun w h => (List.mem_filter.mp h).2
theorem gG_t {k : Nat} {w : Cond} (h : tables_1[k]? = some w) (g : goodWord w = true) : w ∈ gG := List.mem_filter.mpr ⟨List.mem_append_right _ (List.mem_of_getElem? h), g⟩
theorem gG_s {k : Nat} {w : Cond} (h : (k2_sels lw_privs)[k]? = some w) (g : goodWord w = true) : w ∈ gG := List.mem_filter.mpr ⟨List.mem_append_left _ (List.mem_of_getElem? h), g⟩
theorem inA : ∀ w ∈ u_ws RA TA 9, w ∈ gG := fun w h => List.mem_filter.mpr ⟨(show ∀ w ∈ u_ws RA TA 9, w ∈ lw_tbl by decide +kernel) w h, (show ∀ w ∈ u_ws RA TA 9, goodWord w = true by decide +kernel) w h⟩
theorem inHo : ∀ w ∈ u_ws RHo THo 4, w ∈ gG := fun w h => List.mem_filter.mpr ⟨(show ∀ w ∈ u_ws RHo THo 4, w ∈ lw_tbl by decide +kernel) w h, (show ∀ w ∈ u_ws RHo THo 4, goodWord w = true by decide +kernel) w h⟩
theorem inAg : ∀ w ∈ u_ws RAg TAg 7, w ∈ gG := fun w h => List.mem_filter.mpr ⟨(show ∀ w ∈ u_ws RAg TAg 7, w ∈ lw_tbl by decide +kernel) w h, (show ∀ w ∈ u_ws RAg TAg 7, goodWord w = true by decide +kernel) w h⟩
theorem inAs : ∀ w ∈ u_ws RAs TAs 10, w ∈ gG := fun w h => List.mem_filter.mpr ⟨(show ∀ w ∈ u_ws RAs TAs 10, w ∈ lw_tbl by decide +kernel) w h, (show ∀ w ∈ u_ws RAs TAs 10, goodWord w = true by decide +kernel) w h⟩
theorem inLo : ∀ w ∈ u_ws RLo TLo 7, w ∈ gG := fun w h => List.mem_filter.mpr ⟨(show ∀ w ∈ u_ws RLo TLo 7, w ∈ lw_tbl by decide +kernel) w h, (show ∀ w ∈ u_ws RLo TLo 7, goodWord w = true by decide +kernel) w h⟩
theorem inNu : ∀ w ∈ u_ws RNu TNu 1, w ∈ gG := fun w h => List.mem_filter.mpr ⟨(show ∀ w ∈ u_ws RNu TNu 1, w ∈ lw_tbl by decide +kernel) w h, (show ∀ w ∈ u_ws RNu TNu 1, goodWord w = true by decide +kernel) w h⟩
theorem inB : ∀ w ∈ u_ws RB TB 36, w ∈ gG := fun w h => List.mem_filter.mpr ⟨(show ∀ w ∈ u_ws RB TB 36, w ∈ lw_tbl by decide +kernel) w h, (show ∀ w ∈ u_ws RB TB 36, goodWord w = true by decide +kernel) w h⟩
abbrev cA_init : ByteArray := prog_1_method_1_code
def yA_init : MethodName := ⟨"AidRows", "<init>", "()V"⟩
abbrev cA_house : ByteArray := prog_1_method_2_code
def yA_house : MethodName := ⟨"AidRows", "house", "(II)I"⟩
abbrev cA_agree : ByteArray := prog_1_method_3_code
def yA_agree : MethodName := ⟨"AidRows", "agree", "(IIIIII)I"⟩
abbrev cA_ask : ByteArray := prog_1_method_4_code
def yA_ask : MethodName := ⟨"AidRows", "ask", "(III)I"⟩
abbrev cA_message : ByteArray := prog_1_method_5_code
def yA_message : MethodName := ⟨"AidRows", "message", "(IIIII)I"⟩
abbrev cA_seen : ByteArray := prog_1_method_6_code
def yA_seen : MethodName := ⟨"AidRows", "seen", "(II)I"⟩
abbrev cA_tick : ByteArray := prog_1_method_7_code
def yA_tick : MethodName := ⟨"AidRows", "tick", "(I)I"⟩
abbrev cA_cut : ByteArray := prog_1_method_8_code
def yA_cut : MethodName := ⟨"AidRows", "cut", "(IZ)V"⟩
abbrev cA_end : ByteArray := prog_1_method_9_code
def yA_end : MethodName := ⟨"AidRows", "end", "(I)V"⟩
abbrev cA_askAt : ByteArray := prog_1_method_10_code
def yA_askAt : MethodName := ⟨"AidRows", "askAt", "(II)I"⟩
abbrev cA_loanAt : ByteArray := prog_1_method_11_code
def yA_loanAt : MethodName := ⟨"AidRows", "loanAt", "(II)I"⟩
abbrev cA_cost : ByteArray := prog_1_method_12_code
def yA_cost : MethodName := ⟨"AidRows", "cost", "(I)I"⟩
abbrev cA_named : ByteArray := prog_1_method_13_code
def yA_named : MethodName := ⟨"AidRows", "named", "(I)I"⟩
abbrev cA_hand : ByteArray := prog_1_method_14_code
def yA_hand : MethodName := ⟨"AidRows", "hand", "(II)V"⟩
abbrev cA_handed : ByteArray := prog_1_method_15_code
def yA_handed : MethodName := ⟨"AidRows", "handed", "(I)I"⟩
abbrev cA_count : ByteArray := prog_1_method_16_code
def yA_count : MethodName := ⟨"AidRows", "count", "(I)I"⟩
abbrev cA_isWithin : ByteArray := prog_1_method_17_code
def yA_isWithin : MethodName := ⟨"AidRows", "isWithin", "(III)Z"⟩
abbrev cA_isSpan : ByteArray := prog_1_method_18_code
def yA_isSpan : MethodName := ⟨"AidRows", "isSpan", "(II)Z"⟩
abbrev cA_isHours : ByteArray := prog_1_method_19_code
def yA_isHours : MethodName := ⟨"AidRows", "isHours", "(I)Z"⟩
abbrev cA_isNumber : ByteArray := prog_1_method_20_code
def yA_isNumber : MethodName := ⟨"AidRows", "isNumber", "(I)Z"⟩
abbrev cA_isCall : ByteArray := prog_1_method_21_code
def yA_isCall : MethodName := ⟨"AidRows", "isCall", "(I)Z"⟩
abbrev cA_sendOn : ByteArray := prog_1_method_22_code
def yA_sendOn : MethodName := ⟨"AidRows", "sendOn", "(I)V"⟩
abbrev cA_nextHouse : ByteArray := prog_1_method_23_code
def yA_nextHouse : MethodName := ⟨"AidRows", "nextHouse", "(I)I"⟩
abbrev cA_judge : ByteArray := prog_1_method_24_code
def yA_judge : MethodName := ⟨"AidRows", "judge", "(III)I"⟩
abbrev cA_mostToTake : ByteArray := prog_1_method_25_code
def yA_mostToTake : MethodName := ⟨"AidRows", "mostToTake", "(II)I"⟩
abbrev cA_take : ByteArray := prog_1_method_26_code
def yA_take : MethodName := ⟨"AidRows", "take", "(IIII)V"⟩
abbrev cA_lend : ByteArray := prog_1_method_27_code
def yA_lend : MethodName := ⟨"AidRows", "lend", "(IIII)V"⟩
abbrev cA_nextEvent : ByteArray := prog_1_method_28_code
def yA_nextEvent : MethodName := ⟨"AidRows", "nextEvent", "(I)I"⟩
abbrev cA_endLoansWithAgreements : ByteArray := prog_1_method_29_code
def yA_endLoansWithAgreements : MethodName := ⟨"AidRows", "endLoansWithAgreements", "()V"⟩
abbrev cA_sendOnImpatientAsks : ByteArray := prog_1_method_30_code
def yA_sendOnImpatientAsks : MethodName := ⟨"AidRows", "sendOnImpatientAsks", "()I"⟩
abbrev cA_costOfLoan : ByteArray := prog_1_method_31_code
def yA_costOfLoan : MethodName := ⟨"AidRows", "costOfLoan", "(I)I"⟩
abbrev cHo_init : ByteArray := prog_4_method_1_code
def yHo_init : MethodName := ⟨"AidRows$Houses", "<init>", "()V"⟩
abbrev cHo_has : ByteArray := prog_4_method_2_code
def yHo_has : MethodName := ⟨"AidRows$Houses", "has", "(I)Z"⟩
abbrev cHo_isFull : ByteArray := prog_4_method_3_code
def yHo_isFull : MethodName := ⟨"AidRows$Houses", "isFull", "()Z"⟩
abbrev cHo_add : ByteArray := prog_4_method_4_code
def yHo_add : MethodName := ⟨"AidRows$Houses", "add", "(II)I"⟩
abbrev cAg_init : ByteArray := prog_2_method_1_code
def yAg_init : MethodName := ⟨"AidRows$Agreements", "<init>", "()V"⟩
abbrev cAg_isFull : ByteArray := prog_2_method_2_code
def yAg_isFull : MethodName := ⟨"AidRows$Agreements", "isFull", "()Z"⟩
abbrev cAg_add : ByteArray := prog_2_method_3_code
def yAg_add : MethodName := ⟨"AidRows$Agreements", "add", "(IIIIII)I"⟩
abbrev cAg_meetAny : ByteArray := prog_2_method_4_code
def yAg_meetAny : MethodName := ⟨"AidRows$Agreements", "meetAny", "(IIII)Z"⟩
abbrev cAg_holding : ByteArray := prog_2_method_5_code
def yAg_holding : MethodName := ⟨"AidRows$Agreements", "holding", "(III)I"⟩
abbrev cAg_holdsAt : ByteArray := prog_2_method_6_code
def yAg_holdsAt : MethodName := ⟨"AidRows$Agreements", "holdsAt", "(II)Z"⟩
abbrev cAs_init : ByteArray := prog_3_method_1_code
def yAs_init : MethodName := ⟨"AidRows$Asks", "<init>", "()V"⟩
abbrev cAs_has : ByteArray := prog_3_method_2_code
def yAs_has : MethodName := ⟨"AidRows$Asks", "has", "(I)Z"⟩
abbrev cAs_isFull : ByteArray := prog_3_method_3_code
def yAs_isFull : MethodName := ⟨"AidRows$Asks", "isFull", "()Z"⟩
abbrev cAs_add : ByteArray := prog_3_method_4_code
def yAs_add : MethodName := ⟨"AidRows$Asks", "add", "(III)I"⟩
abbrev cAs_move : ByteArray := prog_3_method_5_code
def yAs_move : MethodName := ⟨"AidRows$Asks", "move", "(IIIZ)V"⟩
abbrev cAs_close : ByteArray := prog_3_method_6_code
def yAs_close : MethodName := ⟨"AidRows$Asks", "close", "(II)V"⟩
abbrev cAs_isOpen : ByteArray := prog_3_method_7_code
def yAs_isOpen : MethodName := ⟨"AidRows$Asks", "isOpen", "(I)Z"⟩
abbrev cAs_isOpenAt : ByteArray := prog_3_method_8_code
def yAs_isOpenAt : MethodName := ⟨"AidRows$Asks", "isOpenAt", "(II)Z"⟩
abbrev cAs_wasAt : ByteArray := prog_3_method_9_code
def yAs_wasAt : MethodName := ⟨"AidRows$Asks", "wasAt", "(II)Z"⟩
abbrev cAs_visits : ByteArray := prog_3_method_10_code
def yAs_visits : MethodName := ⟨"AidRows$Asks", "visits", "(I)I"⟩
abbrev cAs_wanting : ByteArray := prog_3_method_11_code
def yAs_wanting : MethodName := ⟨"AidRows$Asks", "wanting", "(I)I"⟩
abbrev cAs_patienceEnd : ByteArray := prog_3_method_12_code
def yAs_patienceEnd : MethodName := ⟨"AidRows$Asks", "patienceEnd", "(I)I"⟩
abbrev cAs_open : ByteArray := prog_3_method_13_code
def yAs_open : MethodName := ⟨"AidRows$Asks", "open", "()I"⟩
abbrev cLo_init : ByteArray := prog_5_method_1_code
def yLo_init : MethodName := ⟨"AidRows$Loans", "<init>", "()V"⟩
abbrev cLo_has : ByteArray := prog_5_method_2_code
def yLo_has : MethodName := ⟨"AidRows$Loans", "has", "(I)Z"⟩
abbrev cLo_room : ByteArray := prog_5_method_3_code
def yLo_room : MethodName := ⟨"AidRows$Loans", "room", "()I"⟩
abbrev cLo_add : ByteArray := prog_5_method_4_code
def yLo_add : MethodName := ⟨"AidRows$Loans", "add", "(IIII)V"⟩
abbrev cLo_freeName : ByteArray := prog_5_method_5_code
def yLo_freeName : MethodName := ⟨"AidRows$Loans", "freeName", "(I)I"⟩
abbrev cLo_bearerOf : ByteArray := prog_5_method_6_code
def yLo_bearerOf : MethodName := ⟨"AidRows$Loans", "bearerOf", "(I)I"⟩
abbrev cLo_isLent : ByteArray := prog_5_method_7_code
def yLo_isLent : MethodName := ⟨"AidRows$Loans", "isLent", "(I)Z"⟩
abbrev cLo_lent : ByteArray := prog_5_method_8_code
def yLo_lent : MethodName := ⟨"AidRows$Loans", "lent", "()I"⟩
abbrev cLo_lentUnder : ByteArray := prog_5_method_9_code
def yLo_lentUnder : MethodName := ⟨"AidRows$Loans", "lentUnder", "(I)I"⟩
abbrev cNu_init : ByteArray := prog_6_method_1_code
def yNu_init : MethodName := ⟨"AidRows$Numbers", "<init>", "()V"⟩
abbrev cNu_stateOf : ByteArray := prog_6_method_2_code
def yNu_stateOf : MethodName := ⟨"AidRows$Numbers", "stateOf", "(II)I"⟩
abbrev cNu_keep : ByteArray := prog_6_method_3_code
def yNu_keep : MethodName := ⟨"AidRows$Numbers", "keep", "(III)V"⟩
abbrev cNu_placeOf : ByteArray := prog_6_method_4_code
def yNu_placeOf : MethodName := ⟨"AidRows$Numbers", "placeOf", "(II)I"⟩
abbrev cNu_shiftOf : ByteArray := prog_6_method_5_code
def yNu_shiftOf : MethodName := ⟨"AidRows$Numbers", "shiftOf", "(I)I"⟩
abbrev cB_init : ByteArray := prog_8_method_1_code
def yB_init : MethodName := ⟨"AidRowsModel", "<init>", "()V"⟩
abbrev cB_thrown : ByteArray := prog_8_method_2_code
def yB_thrown : MethodName := ⟨"AidRowsModel", "thrown", "()I"⟩
abbrev cB_in : ByteArray := prog_8_method_3_code
def yB_in : MethodName := ⟨"AidRowsModel", "in", "(III)Z"⟩
abbrev cB_goes : ByteArray := prog_8_method_4_code
def yB_goes : MethodName := ⟨"AidRowsModel", "goes", "(IZZZZ)Z"⟩
abbrev cB_isHouse : ByteArray := prog_8_method_5_code
def yB_isHouse : MethodName := ⟨"AidRowsModel", "isHouse", "(I)Z"⟩
abbrev cB_house : ByteArray := prog_8_method_6_code
def yB_house : MethodName := ⟨"AidRowsModel", "house", "(II)I"⟩
abbrev cB_agree : ByteArray := prog_8_method_7_code
def yB_agree : MethodName := ⟨"AidRowsModel", "agree", "(IIIIII)I"⟩
abbrev cB_holds : ByteArray := prog_8_method_8_code
def yB_holds : MethodName := ⟨"AidRowsModel", "holds", "(I)Z"⟩
abbrev cB_holding : ByteArray := prog_8_method_9_code
def yB_holding : MethodName := ⟨"AidRowsModel", "holding", "(II)I"⟩
abbrev cB_on : ByteArray := prog_8_method_10_code
def yB_on : MethodName := ⟨"AidRowsModel", "on", "(I)V"⟩
abbrev cB_ask : ByteArray := prog_8_method_11_code
def yB_ask : MethodName := ⟨"AidRowsModel", "ask", "(III)I"⟩
abbrev cB_lent : ByteArray := prog_8_method_12_code
def yB_lent : MethodName := ⟨"AidRowsModel", "lent", "(I)I"⟩
abbrev cB_freeName : ByteArray := prog_8_method_13_code
def yB_freeName : MethodName := ⟨"AidRowsModel", "freeName", "(I)I"⟩
abbrev cB_lend : ByteArray := prog_8_method_14_code
def yB_lend : MethodName := ⟨"AidRowsModel", "lend", "(IIII)V"⟩
abbrev cB_what : ByteArray := prog_8_method_15_code
def yB_what : MethodName := ⟨"AidRowsModel", "what", "(III)I"⟩
abbrev cB_message : ByteArray := prog_8_method_16_code
def yB_message : MethodName := ⟨"AidRowsModel", "message", "(IIIII)I"⟩
abbrev cB_seen : ByteArray := prog_8_method_17_code
def yB_seen : MethodName := ⟨"AidRowsModel", "seen", "(II)I"⟩
abbrev cB_tick : ByteArray := prog_8_method_18_code
def yB_tick : MethodName := ⟨"AidRowsModel", "tick", "(I)I"⟩
abbrev cB_cut : ByteArray := prog_8_method_19_code
def yB_cut : MethodName := ⟨"AidRowsModel", "cut", "(IZ)V"⟩
abbrev cB_isLoan : ByteArray := prog_8_method_20_code
def yB_isLoan : MethodName := ⟨"AidRowsModel", "isLoan", "(I)Z"⟩
abbrev cB_end : ByteArray := prog_8_method_21_code
def yB_end : MethodName := ⟨"AidRowsModel", "end", "(I)V"⟩
abbrev cB_askAt : ByteArray := prog_8_method_22_code
def yB_askAt : MethodName := ⟨"AidRowsModel", "askAt", "(II)I"⟩
abbrev cB_costOf : ByteArray := prog_8_method_23_code
def yB_costOf : MethodName := ⟨"AidRowsModel", "costOf", "(I)I"⟩
abbrev cB_loanAt : ByteArray := prog_8_method_24_code
def yB_loanAt : MethodName := ⟨"AidRowsModel", "loanAt", "(II)I"⟩
abbrev cB_cost : ByteArray := prog_8_method_25_code
def yB_cost : MethodName := ⟨"AidRowsModel", "cost", "(I)I"⟩
abbrev cB_named : ByteArray := prog_8_method_26_code
def yB_named : MethodName := ⟨"AidRowsModel", "named", "(I)I"⟩
abbrev cB_hand : ByteArray := prog_8_method_27_code
def yB_hand : MethodName := ⟨"AidRowsModel", "hand", "(II)V"⟩
abbrev cB_handed : ByteArray := prog_8_method_28_code
def yB_handed : MethodName := ⟨"AidRowsModel", "handed", "(I)I"⟩
abbrev cB_count : ByteArray := prog_8_method_29_code
def yB_count : MethodName := ⟨"AidRowsModel", "count", "(I)I"⟩
abbrev cL_house : ByteArray := method_3_code
def yL_house : MethodName := ⟨"AidRowsLaw", "house", "(LAidRows;II[J)I"⟩
abbrev cL_agree : ByteArray := method_4_code
def yL_agree : MethodName := ⟨"AidRowsLaw", "agree", "(LAidRows;IIIIII[J)I"⟩
abbrev cL_ask : ByteArray := method_5_code
def yL_ask : MethodName := ⟨"AidRowsLaw", "ask", "(LAidRows;III[J)I"⟩
abbrev cL_message : ByteArray := method_6_code
def yL_message : MethodName := ⟨"AidRowsLaw", "message", "(LAidRows;IIIII[J)I"⟩
abbrev cL_seen : ByteArray := method_7_code
def yL_seen : MethodName := ⟨"AidRowsLaw", "seen", "(LAidRows;II[J)I"⟩
abbrev cL_tick : ByteArray := method_8_code
def yL_tick : MethodName := ⟨"AidRowsLaw", "tick", "(LAidRows;I[J)I"⟩
abbrev cL_cut : ByteArray := method_9_code
def yL_cut : MethodName := ⟨"AidRowsLaw", "cut", "(LAidRows;IZ)I"⟩
abbrev cL_end : ByteArray := method_10_code
def yL_end : MethodName := ⟨"AidRowsLaw", "end", "(LAidRows;I)I"⟩
abbrev cL_askAt : ByteArray := method_11_code
def yL_askAt : MethodName := ⟨"AidRowsLaw", "askAt", "(LAidRows;II[J)I"⟩
abbrev cL_loanAt : ByteArray := method_12_code
def yL_loanAt : MethodName := ⟨"AidRowsLaw", "loanAt", "(LAidRows;II[J)I"⟩
abbrev cL_cost : ByteArray := method_13_code
def yL_cost : MethodName := ⟨"AidRowsLaw", "cost", "(LAidRows;I[J)I"⟩
abbrev cL_hand : ByteArray := method_14_code
def yL_hand : MethodName := ⟨"AidRowsLaw", "hand", "(LAidRows;II)I"⟩
abbrev cL_handed : ByteArray := method_15_code
def yL_handed : MethodName := ⟨"AidRowsLaw", "handed", "(LAidRows;I[J)I"⟩
abbrev cL_count : ByteArray := method_16_code
def yL_count : MethodName := ⟨"AidRowsLaw", "count", "(LAidRows;I[J)I"⟩
abbrev cL_law : ByteArray := code
def yL_law : MethodName := ⟨"AidRowsLaw", "law", "([I)Z"⟩
end
section
theorem mw_0 : (Cond.initialized "AidRowsLaw") ∈ gG := gG_t (k := 0) (by decide +kernel) (by decide +kernel)
theorem mw_1 : (Cond.initialized "AidRows") ∈ gG := gG_t (k := 1) (by decide +kernel) (by decide +kernel)
theorem mw_2 : (Cond.initialized "AidRows$Houses") ∈ gG := gG_t (k := 2) (by decide +kernel) (by decide +kernel)
theorem mw_3 : (Cond.initialized "AidRows$Agreements") ∈ gG := gG_t (k := 3) (by decide +kernel) (by decide +kernel)
theorem mw_4 : (Cond.initialized "AidRows$Asks") ∈ gG := gG_t (k := 4) (by decide +kernel) (by decide +kernel)
theorem mw_5 : (Cond.initialized "AidRows$Loans") ∈ gG := gG_t (k := 5) (by decide +kernel) (by decide +kernel)
theorem mw_6 : (Cond.initialized "AidRows$Numbers") ∈ gG := gG_t (k := 6) (by decide +kernel) (by decide +kernel)
theorem mw_7 : (Cond.initialized "java/util/Arrays") ∈ gG := gG_t (k := 7) (by decide +kernel) (by decide +kernel)
theorem mw_8 : (Cond.initialized "AidRowsModel") ∈ gG := gG_t (k := 8) (by decide +kernel) (by decide +kernel)
theorem mw_9 : (Cond.initialized "java/lang/Throwable") ∈ gG := gG_t (k := 9) (by decide +kernel) (by decide +kernel)
theorem mw_10 : (Cond.initialized "java/lang/Exception") ∈ gG := gG_t (k := 10) (by decide +kernel) (by decide +kernel)
theorem mw_11 : (Cond.initialized "java/lang/RuntimeException") ∈ gG := gG_t (k := 11) (by decide +kernel) (by decide +kernel)
theorem mw_12 : (Cond.initialized "java/lang/IndexOutOfBoundsException") ∈ gG := gG_t (k := 12) (by decide +kernel) (by decide +kernel)
theorem mw_13 : (Cond.initialized "java/lang/UnsupportedOperationException") ∈ gG := gG_t (k := 13) (by decide +kernel) (by decide +kernel)
theorem mw_14 : (Cond.initialized "java/lang/IllegalArgumentException") ∈ gG := gG_t (k := 14) (by decide +kernel) (by decide +kernel)
theorem mw_15 : (Cond.initialized "java/lang/IllegalStateException") ∈ gG := gG_t (k := 15) (by decide +kernel) (by decide +kernel)
theorem mw_16 : (Cond.initialized "java/lang/Math") ∈ gG := gG_t (k := 16) (by decide +kernel) (by decide +kernel)
theorem mw_17 : (Cond.initialized "java/lang/Integer") ∈ gG := gG_t (k := 17) (by decide +kernel) (by decide +kernel)
theorem mw_18 : (Cond.classLink "AidRowsLaw" (8 : Nat) "AidRows") ∈ gG := gG_t (k := 18) (by decide +kernel) (by decide +kernel)
theorem mw_19 : (Cond.instantiable "AidRows" (9 : Nat)) ∈ gG := gG_t (k := 19) (by decide +kernel) (by decide +kernel)
theorem mw_20 : (Cond.methodLink "AidRowsLaw" (67 : Nat) ({ cls := "AidRows", name := "<init>", desc := "()V" } : MethodName)) ∈ gG := gG_t (k := 20) (by decide +kernel) (by decide +kernel)
theorem mw_21 : (Cond.instanceMethod ({ cls := "AidRows", name := "<init>", desc := "()V" } : MethodName)) ∈ gG := gG_t (k := 21) (by decide +kernel) (by decide +kernel)
theorem mw_22 : (Cond.code ({ cls := "AidRows", name := "<init>", desc := "()V" } : MethodName) prog_1_method_1_code (1 : Nat) (Option.none : Option FieldType)) ∈ gG := gG_t (k := 22) (by decide +kernel) (by decide +kernel)
theorem mw_23 : (Cond.methodLink "AidRows" (1 : Nat) ({ cls := "java/lang/Object", name := "<init>", desc := "()V" } : MethodName)) ∈ gG := gG_t (k := 23) (by decide +kernel) (by decide +kernel)
theorem mw_24 : (Cond.instanceMethod ({ cls := "java/lang/Object", name := "<init>", desc := "()V" } : MethodName)) ∈ gG := gG_t (k := 24) (by decide +kernel) (by decide +kernel)
theorem mw_25 : (Cond.code ({ cls := "java/lang/Object", name := "<init>", desc := "()V" } : MethodName) object_method_1_code (1 : Nat) (Option.none : Option FieldType)) ∈ gG := gG_t (k := 25) (by decide +kernel) (by decide +kernel)
theorem mw_26 : (Cond.classLink "AidRows" (7 : Nat) "AidRows$Houses") ∈ gG := gG_t (k := 26) (by decide +kernel) (by decide +kernel)
theorem mw_27 : (Cond.instantiable "AidRows$Houses" (4 : Nat)) ∈ gG := gG_t (k := 27) (by decide +kernel) (by decide +kernel)
theorem mw_29 : (Cond.instanceMethod ({ cls := "AidRows$Houses", name := "<init>", desc := "()V" } : MethodName)) ∈ gG := gG_t (k := 29) (by decide +kernel) (by decide +kernel)
theorem mw_30 : (Cond.code ({ cls := "AidRows$Houses", name := "<init>", desc := "()V" } : MethodName) prog_4_method_1_code (1 : Nat) (Option.none : Option FieldType)) ∈ gG := gG_t (k := 30) (by decide +kernel) (by decide +kernel)
theorem mw_31 : (Cond.methodLink "AidRows$Houses" (3 : Nat) ({ cls := "java/lang/Object", name := "<init>", desc := "()V" } : MethodName)) ∈ gG := gG_t (k := 31) (by decide +kernel) (by decide +kernel)
theorem mw_32 : (Cond.fieldLink "AidRows$Houses" (9 : Nat) "AidRows$Houses" "ranks" "[I") ∈ gG := gG_t (k := 32) (by decide +kernel) (by decide +kernel)
theorem mw_33 : (Cond.fieldLink "AidRows" (278 : Nat) "AidRows$Houses" "ranks" "[I") ∈ gG := gG_t (k := 33) (by decide +kernel) (by decide +kernel)
theorem mw_34 : (Cond.fieldLink "AidRows$Houses" (15 : Nat) "AidRows$Houses" "prices" "[I") ∈ gG := gG_t (k := 34) (by decide +kernel) (by decide +kernel)
theorem mw_35 : (Cond.fieldLink "AidRows" (316 : Nat) "AidRows$Houses" "prices" "[I") ∈ gG := gG_t (k := 35) (by decide +kernel) (by decide +kernel)
theorem mw_36 : (Cond.fieldLink "AidRows$Houses" (18 : Nat) "AidRows$Houses" "lineCut" "[Z") ∈ gG := gG_t (k := 36) (by decide +kernel) (by decide +kernel)
theorem mw_37 : (Cond.fieldLink "AidRows" (133 : Nat) "AidRows$Houses" "lineCut" "[Z") ∈ gG := gG_t (k := 37) (by decide +kernel) (by decide +kernel)
theorem mw_38 : (Cond.fieldLink "AidRows$Houses" (22 : Nat) "AidRows$Houses" "made" "I") ∈ gG := gG_t (k := 38) (by decide +kernel) (by decide +kernel)
theorem mw_39 : (Cond.fieldLink "AidRows" (268 : Nat) "AidRows$Houses" "made" "I") ∈ gG := gG_t (k := 39) (by decide +kernel) (by decide +kernel)
theorem mw_49 : (Cond.arrayClass FieldType.int) ∈ gG := gG_t (k := 49) (by decide +kernel) (by decide +kernel)
theorem mw_50 : (Cond.arrayClass FieldType.boolean) ∈ gG := gG_t (k := 50) (by decide +kernel) (by decide +kernel)
theorem mw_51 : (Cond.classLink "AidRows" (16 : Nat) "AidRows$Agreements") ∈ gG := gG_t (k := 51) (by decide +kernel) (by decide +kernel)
theorem mw_52 : (Cond.instantiable "AidRows$Agreements" (7 : Nat)) ∈ gG := gG_t (k := 52) (by decide +kernel) (by decide +kernel)
theorem mw_54 : (Cond.instanceMethod ({ cls := "AidRows$Agreements", name := "<init>", desc := "()V" } : MethodName)) ∈ gG := gG_t (k := 54) (by decide +kernel) (by decide +kernel)
theorem mw_55 : (Cond.code ({ cls := "AidRows$Agreements", name := "<init>", desc := "()V" } : MethodName) prog_2_method_1_code (1 : Nat) (Option.none : Option FieldType)) ∈ gG := gG_t (k := 55) (by decide +kernel) (by decide +kernel)
theorem mw_56 : (Cond.methodLink "AidRows$Agreements" (3 : Nat) ({ cls := "java/lang/Object", name := "<init>", desc := "()V" } : MethodName)) ∈ gG := gG_t (k := 56) (by decide +kernel) (by decide +kernel)
theorem mw_57 : (Cond.fieldLink "AidRows$Agreements" (9 : Nat) "AidRows$Agreements" "houses" "[I") ∈ gG := gG_t (k := 57) (by decide +kernel) (by decide +kernel)
theorem mw_58 : (Cond.fieldLink "AidRows$Agreements" (15 : Nat) "AidRows$Agreements" "kinds" "[I") ∈ gG := gG_t (k := 58) (by decide +kernel) (by decide +kernel)
theorem mw_59 : (Cond.fieldLink "AidRows$Agreements" (18 : Nat) "AidRows$Agreements" "from" "[I") ∈ gG := gG_t (k := 59) (by decide +kernel) (by decide +kernel)
theorem mw_60 : (Cond.fieldLink "AidRows$Agreements" (21 : Nat) "AidRows$Agreements" "to" "[I") ∈ gG := gG_t (k := 60) (by decide +kernel) (by decide +kernel)
theorem mw_61 : (Cond.fieldLink "AidRows" (313 : Nat) "AidRows$Agreements" "to" "[I") ∈ gG := gG_t (k := 61) (by decide +kernel) (by decide +kernel)
theorem mw_62 : (Cond.fieldLink "AidRows$Agreements" (24 : Nat) "AidRows$Agreements" "hours" "[I") ∈ gG := gG_t (k := 62) (by decide +kernel) (by decide +kernel)
theorem mw_63 : (Cond.fieldLink "AidRows$Agreements" (27 : Nat) "AidRows$Agreements" "units" "[I") ∈ gG := gG_t (k := 63) (by decide +kernel) (by decide +kernel)
theorem mw_64 : (Cond.fieldLink "AidRows" (290 : Nat) "AidRows$Agreements" "units" "[I") ∈ gG := gG_t (k := 64) (by decide +kernel) (by decide +kernel)
theorem mw_65 : (Cond.fieldLink "AidRows$Agreements" (30 : Nat) "AidRows$Agreements" "made" "I") ∈ gG := gG_t (k := 65) (by decide +kernel) (by decide +kernel)
theorem mw_81 : (Cond.classLink "AidRows" (23 : Nat) "AidRows$Asks") ∈ gG := gG_t (k := 81) (by decide +kernel) (by decide +kernel)
theorem mw_82 : (Cond.instantiable "AidRows$Asks" (10 : Nat)) ∈ gG := gG_t (k := 82) (by decide +kernel) (by decide +kernel)
theorem mw_84 : (Cond.instanceMethod ({ cls := "AidRows$Asks", name := "<init>", desc := "()V" } : MethodName)) ∈ gG := gG_t (k := 84) (by decide +kernel) (by decide +kernel)
theorem mw_85 : (Cond.code ({ cls := "AidRows$Asks", name := "<init>", desc := "()V" } : MethodName) prog_3_method_1_code (1 : Nat) (Option.none : Option FieldType)) ∈ gG := gG_t (k := 85) (by decide +kernel) (by decide +kernel)
theorem mw_86 : (Cond.methodLink "AidRows$Asks" (3 : Nat) ({ cls := "java/lang/Object", name := "<init>", desc := "()V" } : MethodName)) ∈ gG := gG_t (k := 86) (by decide +kernel) (by decide +kernel)
theorem mw_87 : (Cond.fieldLink "AidRows$Asks" (9 : Nat) "AidRows$Asks" "kinds" "[I") ∈ gG := gG_t (k := 87) (by decide +kernel) (by decide +kernel)
theorem mw_88 : (Cond.fieldLink "AidRows" (272 : Nat) "AidRows$Asks" "kinds" "[I") ∈ gG := gG_t (k := 88) (by decide +kernel) (by decide +kernel)
theorem mw_89 : (Cond.fieldLink "AidRows$Asks" (15 : Nat) "AidRows$Asks" "units" "[I") ∈ gG := gG_t (k := 89) (by decide +kernel) (by decide +kernel)
theorem mw_90 : (Cond.fieldLink "AidRows$Asks" (18 : Nat) "AidRows$Asks" "patiences" "[I") ∈ gG := gG_t (k := 90) (by decide +kernel) (by decide +kernel)
theorem mw_91 : (Cond.fieldLink "AidRows$Asks" (21 : Nat) "AidRows$Asks" "states" "[I") ∈ gG := gG_t (k := 91) (by decide +kernel) (by decide +kernel)
theorem mw_92 : (Cond.fieldLink "AidRows" (199 : Nat) "AidRows$Asks" "states" "[I") ∈ gG := gG_t (k := 92) (by decide +kernel) (by decide +kernel)
theorem mw_93 : (Cond.fieldLink "AidRows$Asks" (24 : Nat) "AidRows$Asks" "places" "[I") ∈ gG := gG_t (k := 93) (by decide +kernel) (by decide +kernel)
theorem mw_94 : (Cond.fieldLink "AidRows" (202 : Nat) "AidRows$Asks" "places" "[I") ∈ gG := gG_t (k := 94) (by decide +kernel) (by decide +kernel)
theorem mw_95 : (Cond.fieldLink "AidRows$Asks" (27 : Nat) "AidRows$Asks" "since" "[I") ∈ gG := gG_t (k := 95) (by decide +kernel) (by decide +kernel)
theorem mw_96 : (Cond.fieldLink "AidRows" (205 : Nat) "AidRows$Asks" "since" "[I") ∈ gG := gG_t (k := 96) (by decide +kernel) (by decide +kernel)
theorem mw_97 : (Cond.fieldLink "AidRows$Asks" (30 : Nat) "AidRows$Asks" "told" "[I") ∈ gG := gG_t (k := 97) (by decide +kernel) (by decide +kernel)
theorem mw_98 : (Cond.fieldLink "AidRows" (208 : Nat) "AidRows$Asks" "told" "[I") ∈ gG := gG_t (k := 98) (by decide +kernel) (by decide +kernel)
theorem mw_99 : (Cond.fieldLink "AidRows$Asks" (33 : Nat) "AidRows$Asks" "visited" "[I") ∈ gG := gG_t (k := 99) (by decide +kernel) (by decide +kernel)
theorem mw_100 : (Cond.fieldLink "AidRows$Asks" (36 : Nat) "AidRows$Asks" "lost" "[Z") ∈ gG := gG_t (k := 100) (by decide +kernel) (by decide +kernel)
theorem mw_101 : (Cond.fieldLink "AidRows" (214 : Nat) "AidRows$Asks" "lost" "[Z") ∈ gG := gG_t (k := 101) (by decide +kernel) (by decide +kernel)
theorem mw_102 : (Cond.fieldLink "AidRows$Asks" (40 : Nat) "AidRows$Asks" "made" "I") ∈ gG := gG_t (k := 102) (by decide +kernel) (by decide +kernel)
theorem mw_103 : (Cond.fieldLink "AidRows" (306 : Nat) "AidRows$Asks" "made" "I") ∈ gG := gG_t (k := 103) (by decide +kernel) (by decide +kernel)
theorem mw_125 : (Cond.classLink "AidRows" (30 : Nat) "AidRows$Loans") ∈ gG := gG_t (k := 125) (by decide +kernel) (by decide +kernel)
theorem mw_126 : (Cond.instantiable "AidRows$Loans" (7 : Nat)) ∈ gG := gG_t (k := 126) (by decide +kernel) (by decide +kernel)
theorem mw_128 : (Cond.instanceMethod ({ cls := "AidRows$Loans", name := "<init>", desc := "()V" } : MethodName)) ∈ gG := gG_t (k := 128) (by decide +kernel) (by decide +kernel)
theorem mw_129 : (Cond.code ({ cls := "AidRows$Loans", name := "<init>", desc := "()V" } : MethodName) prog_5_method_1_code (1 : Nat) (Option.none : Option FieldType)) ∈ gG := gG_t (k := 129) (by decide +kernel) (by decide +kernel)
theorem mw_130 : (Cond.methodLink "AidRows$Loans" (3 : Nat) ({ cls := "java/lang/Object", name := "<init>", desc := "()V" } : MethodName)) ∈ gG := gG_t (k := 130) (by decide +kernel) (by decide +kernel)
theorem mw_131 : (Cond.fieldLink "AidRows$Loans" (9 : Nat) "AidRows$Loans" "houses" "[I") ∈ gG := gG_t (k := 131) (by decide +kernel) (by decide +kernel)
theorem mw_132 : (Cond.fieldLink "AidRows" (219 : Nat) "AidRows$Loans" "houses" "[I") ∈ gG := gG_t (k := 132) (by decide +kernel) (by decide +kernel)
theorem mw_133 : (Cond.fieldLink "AidRows$Loans" (15 : Nat) "AidRows$Loans" "names" "[I") ∈ gG := gG_t (k := 133) (by decide +kernel) (by decide +kernel)
theorem mw_134 : (Cond.fieldLink "AidRows" (221 : Nat) "AidRows$Loans" "names" "[I") ∈ gG := gG_t (k := 134) (by decide +kernel) (by decide +kernel)
theorem mw_135 : (Cond.fieldLink "AidRows$Loans" (18 : Nat) "AidRows$Loans" "asks" "[I") ∈ gG := gG_t (k := 135) (by decide +kernel) (by decide +kernel)
theorem mw_136 : (Cond.fieldLink "AidRows" (224 : Nat) "AidRows$Loans" "asks" "[I") ∈ gG := gG_t (k := 136) (by decide +kernel) (by decide +kernel)
theorem mw_137 : (Cond.fieldLink "AidRows$Loans" (21 : Nat) "AidRows$Loans" "agreements" "[I") ∈ gG := gG_t (k := 137) (by decide +kernel) (by decide +kernel)
theorem mw_138 : (Cond.fieldLink "AidRows" (226 : Nat) "AidRows$Loans" "agreements" "[I") ∈ gG := gG_t (k := 138) (by decide +kernel) (by decide +kernel)
theorem mw_139 : (Cond.fieldLink "AidRows$Loans" (24 : Nat) "AidRows$Loans" "begins" "[I") ∈ gG := gG_t (k := 139) (by decide +kernel) (by decide +kernel)
theorem mw_140 : (Cond.fieldLink "AidRows" (228 : Nat) "AidRows$Loans" "begins" "[I") ∈ gG := gG_t (k := 140) (by decide +kernel) (by decide +kernel)
theorem mw_141 : (Cond.fieldLink "AidRows$Loans" (27 : Nat) "AidRows$Loans" "ends" "[I") ∈ gG := gG_t (k := 141) (by decide +kernel) (by decide +kernel)
theorem mw_142 : (Cond.fieldLink "AidRows" (194 : Nat) "AidRows$Loans" "ends" "[I") ∈ gG := gG_t (k := 142) (by decide +kernel) (by decide +kernel)
theorem mw_143 : (Cond.fieldLink "AidRows$Loans" (30 : Nat) "AidRows$Loans" "made" "I") ∈ gG := gG_t (k := 143) (by decide +kernel) (by decide +kernel)
theorem mw_144 : (Cond.fieldLink "AidRows" (234 : Nat) "AidRows$Loans" "made" "I") ∈ gG := gG_t (k := 144) (by decide +kernel) (by decide +kernel)
theorem mw_160 : (Cond.classLink "AidRows" (37 : Nat) "AidRows$Numbers") ∈ gG := gG_t (k := 160) (by decide +kernel) (by decide +kernel)
theorem mw_161 : (Cond.instantiable "AidRows$Numbers" (1 : Nat)) ∈ gG := gG_t (k := 161) (by decide +kernel) (by decide +kernel)
theorem mw_163 : (Cond.instanceMethod ({ cls := "AidRows$Numbers", name := "<init>", desc := "()V" } : MethodName)) ∈ gG := gG_t (k := 163) (by decide +kernel) (by decide +kernel)
theorem mw_164 : (Cond.code ({ cls := "AidRows$Numbers", name := "<init>", desc := "()V" } : MethodName) prog_6_method_1_code (1 : Nat) (Option.none : Option FieldType)) ∈ gG := gG_t (k := 164) (by decide +kernel) (by decide +kernel)
theorem mw_165 : (Cond.methodLink "AidRows$Numbers" (3 : Nat) ({ cls := "java/lang/Object", name := "<init>", desc := "()V" } : MethodName)) ∈ gG := gG_t (k := 165) (by decide +kernel) (by decide +kernel)
theorem mw_166 : (Cond.fieldLink "AidRows$Numbers" (11 : Nat) "AidRows$Numbers" "packed" "[J") ∈ gG := gG_t (k := 166) (by decide +kernel) (by decide +kernel)
theorem mw_170 : (Cond.arrayClass FieldType.long) ∈ gG := gG_t (k := 170) (by decide +kernel) (by decide +kernel)
theorem mw_171 : (Cond.methodLink "AidRows" (48 : Nat) ({ cls := "java/util/Arrays", name := "fill", desc := "([II)V" } : MethodName)) ∈ gG := gG_t (k := 171) (by decide +kernel) (by decide +kernel)
theorem mw_172 : (Cond.static ({ cls := "java/util/Arrays", name := "fill", desc := "([II)V" } : MethodName)) ∈ gG := gG_t (k := 172) (by decide +kernel) (by decide +kernel)
theorem mw_173 : (Cond.code ({ cls := "java/util/Arrays", name := "fill", desc := "([II)V" } : MethodName) prog_19_method_103_code (4 : Nat) (Option.none : Option FieldType)) ∈ gG := gG_t (k := 173) (by decide +kernel) (by decide +kernel)
theorem mw_174 : (Cond.fieldLink "AidRows" (10 : Nat) "AidRows" "houses" "LAidRows$Houses;") ∈ gG := gG_t (k := 174) (by decide +kernel) (by decide +kernel)
theorem mw_175 : (Cond.fieldLink "AidRows" (19 : Nat) "AidRows" "agreements" "LAidRows$Agreements;") ∈ gG := gG_t (k := 175) (by decide +kernel) (by decide +kernel)
theorem mw_176 : (Cond.fieldLink "AidRows" (26 : Nat) "AidRows" "asks" "LAidRows$Asks;") ∈ gG := gG_t (k := 176) (by decide +kernel) (by decide +kernel)
theorem mw_177 : (Cond.fieldLink "AidRows" (33 : Nat) "AidRows" "loans" "LAidRows$Loans;") ∈ gG := gG_t (k := 177) (by decide +kernel) (by decide +kernel)
theorem mw_178 : (Cond.fieldLink "AidRows" (40 : Nat) "AidRows" "numbers" "LAidRows$Numbers;") ∈ gG := gG_t (k := 178) (by decide +kernel) (by decide +kernel)
theorem mw_179 : (Cond.fieldLink "AidRows" (44 : Nat) "AidRows" "houseOfCall" "[I") ∈ gG := gG_t (k := 179) (by decide +kernel) (by decide +kernel)
theorem mw_180 : (Cond.fieldLink "AidRows" (168 : Nat) "AidRows" "clock" "I") ∈ gG := gG_t (k := 180) (by decide +kernel) (by decide +kernel)
theorem mw_181 : (Cond.fieldLink "AidRows" (137 : Nat) "AidRows" "messagesNotHeard" "I") ∈ gG := gG_t (k := 181) (by decide +kernel) (by decide +kernel)
theorem mw_182 : (Cond.fieldLink "AidRows" (144 : Nat) "AidRows" "messagesRepeated" "I") ∈ gG := gG_t (k := 182) (by decide +kernel) (by decide +kernel)
theorem mw_202 : (Cond.methodLink "AidRowsLaw" (117 : Nat) ({ cls := "AidRows", name := "named", desc := "(I)I" } : MethodName)) ∈ gG := gG_t (k := 202) (by decide +kernel) (by decide +kernel)
theorem mw_203 : (Cond.instanceMethod ({ cls := "AidRows", name := "named", desc := "(I)I" } : MethodName)) ∈ gG := gG_t (k := 203) (by decide +kernel) (by decide +kernel)
theorem mw_204 : (Cond.selects "AidRows" ({ cls := "AidRows", name := "named", desc := "(I)I" } : MethodName) ({ cls := "AidRows", name := "named", desc := "(I)I" } : MethodName)) ∈ gG := gG_t (k := 204) (by decide +kernel) (by decide +kernel)
theorem mw_205 : (Cond.code ({ cls := "AidRows", name := "named", desc := "(I)I" } : MethodName) prog_1_method_13_code (2 : Nat) (Option.some FieldType.int)) ∈ gG := gG_t (k := 205) (by decide +kernel) (by decide +kernel)
theorem mw_206 : (Cond.methodLink "AidRows" (237 : Nat) ({ cls := "AidRows$Loans", name := "bearerOf", desc := "(I)I" } : MethodName)) ∈ gG := gG_t (k := 206) (by decide +kernel) (by decide +kernel)
theorem mw_207 : (Cond.instanceMethod ({ cls := "AidRows$Loans", name := "bearerOf", desc := "(I)I" } : MethodName)) ∈ gG := gG_t (k := 207) (by decide +kernel) (by decide +kernel)
theorem mw_208 : (Cond.selects "AidRows$Loans" ({ cls := "AidRows$Loans", name := "bearerOf", desc := "(I)I" } : MethodName) ({ cls := "AidRows$Loans", name := "bearerOf", desc := "(I)I" } : MethodName)) ∈ gG := gG_t (k := 208) (by decide +kernel) (by decide +kernel)
theorem mw_209 : (Cond.code ({ cls := "AidRows$Loans", name := "bearerOf", desc := "(I)I" } : MethodName) prog_5_method_6_code (3 : Nat) (Option.some FieldType.int)) ∈ gG := gG_t (k := 209) (by decide +kernel) (by decide +kernel)
theorem mw_210 : (Cond.methodLink "AidRows$Loans" (41 : Nat) ({ cls := "AidRows$Loans", name := "isLent", desc := "(I)Z" } : MethodName)) ∈ gG := gG_t (k := 210) (by decide +kernel) (by decide +kernel)
theorem mw_211 : (Cond.instanceMethod ({ cls := "AidRows$Loans", name := "isLent", desc := "(I)Z" } : MethodName)) ∈ gG := gG_t (k := 211) (by decide +kernel) (by decide +kernel)
theorem mw_212 : (Cond.selects "AidRows$Loans" ({ cls := "AidRows$Loans", name := "isLent", desc := "(I)Z" } : MethodName) ({ cls := "AidRows$Loans", name := "isLent", desc := "(I)Z" } : MethodName)) ∈ gG := gG_t (k := 212) (by decide +kernel) (by decide +kernel)
theorem mw_213 : (Cond.code ({ cls := "AidRows$Loans", name := "isLent", desc := "(I)Z" } : MethodName) prog_5_method_7_code (2 : Nat) (Option.some FieldType.boolean)) ∈ gG := gG_t (k := 213) (by decide +kernel) (by decide +kernel)
theorem mw_214 : (Cond.methodLink "AidRowsLaw" (71 : Nat) ({ cls := "AidRowsLaw", name := "house", desc := "(LAidRows;II[J)I" } : MethodName)) ∈ gG := gG_t (k := 214) (by decide +kernel) (by decide +kernel)
theorem mw_215 : (Cond.static ({ cls := "AidRowsLaw", name := "house", desc := "(LAidRows;II[J)I" } : MethodName)) ∈ gG := gG_t (k := 215) (by decide +kernel) (by decide +kernel)
theorem mw_216 : (Cond.codeWith ({ cls := "AidRowsLaw", name := "house", desc := "(LAidRows;II[J)I" } : MethodName) method_3_code (5 : Nat) (Option.some FieldType.int) [((0 : Nat), (10 : Nat), (13 : Nat), (13 : Nat)), ((0 : Nat), (10 : Nat), (17 : Nat), (15 : Nat))]) ∈ gG := gG_t (k := 216) (by decide +kernel) (by decide +kernel)
theorem mw_217 : (Cond.classLink "AidRowsLaw" (13 : Nat) "java/lang/IndexOutOfBoundsException") ∈ gG := gG_t (k := 217) (by decide +kernel) (by decide +kernel)
theorem mw_218 : (Cond.classLink "AidRowsLaw" (15 : Nat) "java/lang/UnsupportedOperationException") ∈ gG := gG_t (k := 218) (by decide +kernel) (by decide +kernel)
theorem mw_219 : (Cond.methodLink "AidRowsLaw" (7 : Nat) ({ cls := "AidRows", name := "house", desc := "(II)I" } : MethodName)) ∈ gG := gG_t (k := 219) (by decide +kernel) (by decide +kernel)
theorem mw_220 : (Cond.instanceMethod ({ cls := "AidRows", name := "house", desc := "(II)I" } : MethodName)) ∈ gG := gG_t (k := 220) (by decide +kernel) (by decide +kernel)
theorem mw_221 : (Cond.selects "AidRows" ({ cls := "AidRows", name := "house", desc := "(II)I" } : MethodName) ({ cls := "AidRows", name := "house", desc := "(II)I" } : MethodName)) ∈ gG := gG_t (k := 221) (by decide +kernel) (by decide +kernel)
theorem mw_222 : (Cond.code ({ cls := "AidRows", name := "house", desc := "(II)I" } : MethodName) prog_1_method_2_code (3 : Nat) (Option.some FieldType.int)) ∈ gG := gG_t (k := 222) (by decide +kernel) (by decide +kernel)
theorem mw_223 : (Cond.methodLink "AidRows" (54 : Nat) ({ cls := "AidRows", name := "isWithin", desc := "(III)Z" } : MethodName)) ∈ gG := gG_t (k := 223) (by decide +kernel) (by decide +kernel)
theorem mw_224 : (Cond.static ({ cls := "AidRows", name := "isWithin", desc := "(III)Z" } : MethodName)) ∈ gG := gG_t (k := 224) (by decide +kernel) (by decide +kernel)
theorem mw_225 : (Cond.code ({ cls := "AidRows", name := "isWithin", desc := "(III)Z" } : MethodName) prog_1_method_17_code (3 : Nat) (Option.some FieldType.boolean)) ∈ gG := gG_t (k := 225) (by decide +kernel) (by decide +kernel)
theorem mw_226 : (Cond.classLink "AidRows" (58 : Nat) "java/lang/IndexOutOfBoundsException") ∈ gG := gG_t (k := 226) (by decide +kernel) (by decide +kernel)
theorem mw_227 : (Cond.instantiable "java/lang/IndexOutOfBoundsException" (6 : Nat)) ∈ gG := gG_t (k := 227) (by decide +kernel) (by decide +kernel)
theorem mw_235 : (Cond.selects "java/lang/IndexOutOfBoundsException" ({ cls := "java/lang/Throwable", name := "fillInStackTrace", desc := "(I)Ljava/lang/Throwable;" } : MethodName) ({ cls := "java/lang/Throwable", name := "fillInStackTrace", desc := "(I)Ljava/lang/Throwable;" } : MethodName)) ∈ gG := gG_t (k := 235) (by decide +kernel) (by decide +kernel)
theorem mw_236 : (Cond.selects "java/lang/IndexOutOfBoundsException" ({ cls := "java/lang/Throwable", name := "fillInStackTrace", desc := "()Ljava/lang/Throwable;" } : MethodName) ({ cls := "java/lang/Throwable", name := "fillInStackTrace", desc := "()Ljava/lang/Throwable;" } : MethodName)) ∈ gG := gG_t (k := 236) (by decide +kernel) (by decide +kernel)
theorem mw_247 : (Cond.fieldLink "java/lang/Throwable" (198 : Nat) "java/lang/Throwable" "backtrace" "Ljava/lang/Object;") ∈ gG := gG_t (k := 247) (by decide +kernel) (by decide +kernel)
theorem mw_249 : (Cond.instanceMethod ({ cls := "java/lang/Throwable", name := "<init>", desc := "()V" } : MethodName)) ∈ gG := gG_t (k := 249) (by decide +kernel) (by decide +kernel)
theorem mw_250 : (Cond.code ({ cls := "java/lang/Throwable", name := "<init>", desc := "()V" } : MethodName) prog_17_method_1_code (1 : Nat) (Option.none : Option FieldType)) ∈ gG := gG_t (k := 250) (by decide +kernel) (by decide +kernel)
theorem mw_251 : (Cond.methodLink "java/lang/Throwable" (1 : Nat) ({ cls := "java/lang/Object", name := "<init>", desc := "()V" } : MethodName)) ∈ gG := gG_t (k := 251) (by decide +kernel) (by decide +kernel)
theorem mw_252 : (Cond.fieldLink "java/lang/Throwable" (13 : Nat) "java/lang/Throwable" "UNASSIGNED_STACK" "[Ljava/lang/StackTraceElement;") ∈ gG := gG_t (k := 252) (by decide +kernel) (by decide +kernel)
theorem mw_254 : (Cond.fieldLink "java/lang/Throwable" (20 : Nat) "java/lang/Throwable" "SUPPRESSED_SENTINEL" "Ljava/util/List;") ∈ gG := gG_t (k := 254) (by decide +kernel) (by decide +kernel)
theorem mw_256 : (Cond.methodLink "java/lang/Throwable" (27 : Nat) ({ cls := "java/lang/Throwable", name := "fillInStackTrace", desc := "()Ljava/lang/Throwable;" } : MethodName)) ∈ gG := gG_t (k := 256) (by decide +kernel) (by decide +kernel)
theorem mw_257 : (Cond.instanceMethod ({ cls := "java/lang/Throwable", name := "fillInStackTrace", desc := "()Ljava/lang/Throwable;" } : MethodName)) ∈ gG := gG_t (k := 257) (by decide +kernel) (by decide +kernel)
theorem mw_259 : (Cond.selects "java/lang/IllegalArgumentException" ({ cls := "java/lang/Throwable", name := "fillInStackTrace", desc := "()Ljava/lang/Throwable;" } : MethodName) ({ cls := "java/lang/Throwable", name := "fillInStackTrace", desc := "()Ljava/lang/Throwable;" } : MethodName)) ∈ gG := gG_t (k := 259) (by decide +kernel) (by decide +kernel)
theorem mw_260 : (Cond.selects "java/lang/IllegalStateException" ({ cls := "java/lang/Throwable", name := "fillInStackTrace", desc := "()Ljava/lang/Throwable;" } : MethodName) ({ cls := "java/lang/Throwable", name := "fillInStackTrace", desc := "()Ljava/lang/Throwable;" } : MethodName)) ∈ gG := gG_t (k := 260) (by decide +kernel) (by decide +kernel)
theorem mw_261 : (Cond.selects "java/lang/UnsupportedOperationException" ({ cls := "java/lang/Throwable", name := "fillInStackTrace", desc := "()Ljava/lang/Throwable;" } : MethodName) ({ cls := "java/lang/Throwable", name := "fillInStackTrace", desc := "()Ljava/lang/Throwable;" } : MethodName)) ∈ gG := gG_t (k := 261) (by decide +kernel) (by decide +kernel)
theorem mw_263 : (Cond.methodLink "java/lang/Throwable" (202 : Nat) ({ cls := "java/lang/Throwable", name := "fillInStackTrace", desc := "(I)Ljava/lang/Throwable;" } : MethodName)) ∈ gG := gG_t (k := 263) (by decide +kernel) (by decide +kernel)
theorem mw_265 : (Cond.instanceMethod ({ cls := "java/lang/Throwable", name := "fillInStackTrace", desc := "(I)Ljava/lang/Throwable;" } : MethodName)) ∈ gG := gG_t (k := 265) (by decide +kernel) (by decide +kernel)
theorem mw_266 : (Cond.instantiable "java/lang/Throwable" (6 : Nat)) ∈ gG := gG_t (k := 266) (by decide +kernel) (by decide +kernel)
end
section
theorem mw_269 : (Cond.methodLink "AidRows" (62 : Nat) ({ cls := "java/lang/IndexOutOfBoundsException", name := "<init>", desc := "(Ljava/lang/String;)V" } : MethodName)) ∈ gG := gG_t (k := 269) (by decide +kernel) (by decide +kernel)
theorem mw_270 : (Cond.instanceMethod ({ cls := "java/lang/IndexOutOfBoundsException", name := "<init>", desc := "(Ljava/lang/String;)V" } : MethodName)) ∈ gG := gG_t (k := 270) (by decide +kernel) (by decide +kernel)
theorem mw_271 : (Cond.code ({ cls := "java/lang/IndexOutOfBoundsException", name := "<init>", desc := "(Ljava/lang/String;)V" } : MethodName) prog_12_method_2_code (2 : Nat) (Option.none : Option FieldType)) ∈ gG := gG_t (k := 271) (by decide +kernel) (by decide +kernel)
theorem mw_272 : (Cond.methodLink "java/lang/IndexOutOfBoundsException" (7 : Nat) ({ cls := "java/lang/RuntimeException", name := "<init>", desc := "(Ljava/lang/String;)V" } : MethodName)) ∈ gG := gG_t (k := 272) (by decide +kernel) (by decide +kernel)
theorem mw_273 : (Cond.instanceMethod ({ cls := "java/lang/RuntimeException", name := "<init>", desc := "(Ljava/lang/String;)V" } : MethodName)) ∈ gG := gG_t (k := 273) (by decide +kernel) (by decide +kernel)
theorem mw_274 : (Cond.code ({ cls := "java/lang/RuntimeException", name := "<init>", desc := "(Ljava/lang/String;)V" } : MethodName) prog_15_method_2_code (2 : Nat) (Option.none : Option FieldType)) ∈ gG := gG_t (k := 274) (by decide +kernel) (by decide +kernel)
theorem mw_275 : (Cond.methodLink "java/lang/RuntimeException" (7 : Nat) ({ cls := "java/lang/Exception", name := "<init>", desc := "(Ljava/lang/String;)V" } : MethodName)) ∈ gG := gG_t (k := 275) (by decide +kernel) (by decide +kernel)
theorem mw_276 : (Cond.instanceMethod ({ cls := "java/lang/Exception", name := "<init>", desc := "(Ljava/lang/String;)V" } : MethodName)) ∈ gG := gG_t (k := 276) (by decide +kernel) (by decide +kernel)
theorem mw_277 : (Cond.code ({ cls := "java/lang/Exception", name := "<init>", desc := "(Ljava/lang/String;)V" } : MethodName) prog_9_method_2_code (2 : Nat) (Option.none : Option FieldType)) ∈ gG := gG_t (k := 277) (by decide +kernel) (by decide +kernel)
theorem mw_278 : (Cond.methodLink "java/lang/Exception" (7 : Nat) ({ cls := "java/lang/Throwable", name := "<init>", desc := "(Ljava/lang/String;)V" } : MethodName)) ∈ gG := gG_t (k := 278) (by decide +kernel) (by decide +kernel)
theorem mw_279 : (Cond.instanceMethod ({ cls := "java/lang/Throwable", name := "<init>", desc := "(Ljava/lang/String;)V" } : MethodName)) ∈ gG := gG_t (k := 279) (by decide +kernel) (by decide +kernel)
theorem mw_280 : (Cond.code ({ cls := "java/lang/Throwable", name := "<init>", desc := "(Ljava/lang/String;)V" } : MethodName) prog_17_method_2_code (2 : Nat) (Option.none : Option FieldType)) ∈ gG := gG_t (k := 280) (by decide +kernel) (by decide +kernel)
theorem mw_281 : (Cond.fieldLink "java/lang/Throwable" (198 : Nat) "java/lang/Throwable" "backtrace" "Ljava/lang/Object;") ∈ gG := gG_t (k := 281) (by decide +kernel) (by decide +kernel)
theorem mw_282 : (Cond.fieldLink "java/lang/Throwable" (31 : Nat) "java/lang/Throwable" "detailMessage" "Ljava/lang/String;") ∈ gG := gG_t (k := 282) (by decide +kernel) (by decide +kernel)
theorem mw_283 : (Cond.fieldLink "java/lang/Throwable" (7 : Nat) "java/lang/Throwable" "cause" "Ljava/lang/Throwable;") ∈ gG := gG_t (k := 283) (by decide +kernel) (by decide +kernel)
theorem mw_284 : (Cond.fieldLink "java/lang/Throwable" (17 : Nat) "java/lang/Throwable" "stackTrace" "[Ljava/lang/StackTraceElement;") ∈ gG := gG_t (k := 284) (by decide +kernel) (by decide +kernel)
theorem mw_285 : (Cond.fieldLink "java/lang/Throwable" (24 : Nat) "java/lang/Throwable" "suppressedExceptions" "Ljava/util/List;") ∈ gG := gG_t (k := 285) (by decide +kernel) (by decide +kernel)
theorem mw_294 : (Cond.arrayClass FieldType.byte) ∈ gG := gG_t (k := 294) (by decide +kernel) (by decide +kernel)
theorem mw_295 : (Cond.methodLink "AidRows" (65 : Nat) ({ cls := "AidRows$Houses", name := "isFull", desc := "()Z" } : MethodName)) ∈ gG := gG_t (k := 295) (by decide +kernel) (by decide +kernel)
theorem mw_296 : (Cond.instanceMethod ({ cls := "AidRows$Houses", name := "isFull", desc := "()Z" } : MethodName)) ∈ gG := gG_t (k := 296) (by decide +kernel) (by decide +kernel)
theorem mw_297 : (Cond.selects "AidRows$Houses" ({ cls := "AidRows$Houses", name := "isFull", desc := "()Z" } : MethodName) ({ cls := "AidRows$Houses", name := "isFull", desc := "()Z" } : MethodName)) ∈ gG := gG_t (k := 297) (by decide +kernel) (by decide +kernel)
theorem mw_298 : (Cond.code ({ cls := "AidRows$Houses", name := "isFull", desc := "()Z" } : MethodName) prog_4_method_3_code (1 : Nat) (Option.some FieldType.boolean)) ∈ gG := gG_t (k := 298) (by decide +kernel) (by decide +kernel)
theorem mw_299 : (Cond.classLink "AidRows" (69 : Nat) "java/lang/UnsupportedOperationException") ∈ gG := gG_t (k := 299) (by decide +kernel) (by decide +kernel)
theorem mw_300 : (Cond.instantiable "java/lang/UnsupportedOperationException" (6 : Nat)) ∈ gG := gG_t (k := 300) (by decide +kernel) (by decide +kernel)
theorem mw_302 : (Cond.selects "java/lang/UnsupportedOperationException" ({ cls := "java/lang/Throwable", name := "fillInStackTrace", desc := "(I)Ljava/lang/Throwable;" } : MethodName) ({ cls := "java/lang/Throwable", name := "fillInStackTrace", desc := "(I)Ljava/lang/Throwable;" } : MethodName)) ∈ gG := gG_t (k := 302) (by decide +kernel) (by decide +kernel)
theorem mw_309 : (Cond.methodLink "AidRows" (73 : Nat) ({ cls := "java/lang/UnsupportedOperationException", name := "<init>", desc := "(Ljava/lang/String;)V" } : MethodName)) ∈ gG := gG_t (k := 309) (by decide +kernel) (by decide +kernel)
theorem mw_310 : (Cond.instanceMethod ({ cls := "java/lang/UnsupportedOperationException", name := "<init>", desc := "(Ljava/lang/String;)V" } : MethodName)) ∈ gG := gG_t (k := 310) (by decide +kernel) (by decide +kernel)
theorem mw_311 : (Cond.code ({ cls := "java/lang/UnsupportedOperationException", name := "<init>", desc := "(Ljava/lang/String;)V" } : MethodName) prog_18_method_2_code (2 : Nat) (Option.none : Option FieldType)) ∈ gG := gG_t (k := 311) (by decide +kernel) (by decide +kernel)
theorem mw_312 : (Cond.methodLink "java/lang/UnsupportedOperationException" (7 : Nat) ({ cls := "java/lang/RuntimeException", name := "<init>", desc := "(Ljava/lang/String;)V" } : MethodName)) ∈ gG := gG_t (k := 312) (by decide +kernel) (by decide +kernel)
theorem mw_315 : (Cond.methodLink "AidRows" (74 : Nat) ({ cls := "AidRows$Houses", name := "add", desc := "(II)I" } : MethodName)) ∈ gG := gG_t (k := 315) (by decide +kernel) (by decide +kernel)
theorem mw_316 : (Cond.instanceMethod ({ cls := "AidRows$Houses", name := "add", desc := "(II)I" } : MethodName)) ∈ gG := gG_t (k := 316) (by decide +kernel) (by decide +kernel)
theorem mw_317 : (Cond.selects "AidRows$Houses" ({ cls := "AidRows$Houses", name := "add", desc := "(II)I" } : MethodName) ({ cls := "AidRows$Houses", name := "add", desc := "(II)I" } : MethodName)) ∈ gG := gG_t (k := 317) (by decide +kernel) (by decide +kernel)
theorem mw_318 : (Cond.code ({ cls := "AidRows$Houses", name := "add", desc := "(II)I" } : MethodName) prog_4_method_4_code (3 : Nat) (Option.some FieldType.int)) ∈ gG := gG_t (k := 318) (by decide +kernel) (by decide +kernel)
theorem mw_319 : (Cond.methodLink "AidRowsLaw" (81 : Nat) ({ cls := "AidRowsLaw", name := "agree", desc := "(LAidRows;IIIIII[J)I" } : MethodName)) ∈ gG := gG_t (k := 319) (by decide +kernel) (by decide +kernel)
theorem mw_320 : (Cond.static ({ cls := "AidRowsLaw", name := "agree", desc := "(LAidRows;IIIIII[J)I" } : MethodName)) ∈ gG := gG_t (k := 320) (by decide +kernel) (by decide +kernel)
theorem mw_321 : (Cond.codeWith ({ cls := "AidRowsLaw", name := "agree", desc := "(LAidRows;IIIIII[J)I" } : MethodName) method_4_code (9 : Nat) (Option.some FieldType.int) [((0 : Nat), (18 : Nat), (21 : Nat), (21 : Nat)), ((0 : Nat), (18 : Nat), (25 : Nat), (13 : Nat)), ((0 : Nat), (18 : Nat), (29 : Nat), (23 : Nat)), ((0 : Nat), (18 : Nat), (33 : Nat), (15 : Nat))]) ∈ gG := gG_t (k := 321) (by decide +kernel) (by decide +kernel)
theorem mw_322 : (Cond.classLink "AidRowsLaw" (21 : Nat) "java/lang/IllegalArgumentException") ∈ gG := gG_t (k := 322) (by decide +kernel) (by decide +kernel)
theorem mw_323 : (Cond.classLink "AidRowsLaw" (23 : Nat) "java/lang/IllegalStateException") ∈ gG := gG_t (k := 323) (by decide +kernel) (by decide +kernel)
theorem mw_324 : (Cond.methodLink "AidRowsLaw" (17 : Nat) ({ cls := "AidRows", name := "agree", desc := "(IIIIII)I" } : MethodName)) ∈ gG := gG_t (k := 324) (by decide +kernel) (by decide +kernel)
theorem mw_325 : (Cond.instanceMethod ({ cls := "AidRows", name := "agree", desc := "(IIIIII)I" } : MethodName)) ∈ gG := gG_t (k := 325) (by decide +kernel) (by decide +kernel)
theorem mw_326 : (Cond.selects "AidRows" ({ cls := "AidRows", name := "agree", desc := "(IIIIII)I" } : MethodName) ({ cls := "AidRows", name := "agree", desc := "(IIIIII)I" } : MethodName)) ∈ gG := gG_t (k := 326) (by decide +kernel) (by decide +kernel)
theorem mw_327 : (Cond.code ({ cls := "AidRows", name := "agree", desc := "(IIIIII)I" } : MethodName) prog_1_method_3_code (7 : Nat) (Option.some FieldType.int)) ∈ gG := gG_t (k := 327) (by decide +kernel) (by decide +kernel)
theorem mw_328 : (Cond.methodLink "AidRows" (78 : Nat) ({ cls := "AidRows$Houses", name := "has", desc := "(I)Z" } : MethodName)) ∈ gG := gG_t (k := 328) (by decide +kernel) (by decide +kernel)
theorem mw_329 : (Cond.instanceMethod ({ cls := "AidRows$Houses", name := "has", desc := "(I)Z" } : MethodName)) ∈ gG := gG_t (k := 329) (by decide +kernel) (by decide +kernel)
theorem mw_330 : (Cond.selects "AidRows$Houses" ({ cls := "AidRows$Houses", name := "has", desc := "(I)Z" } : MethodName) ({ cls := "AidRows$Houses", name := "has", desc := "(I)Z" } : MethodName)) ∈ gG := gG_t (k := 330) (by decide +kernel) (by decide +kernel)
theorem mw_331 : (Cond.code ({ cls := "AidRows$Houses", name := "has", desc := "(I)Z" } : MethodName) prog_4_method_2_code (2 : Nat) (Option.some FieldType.boolean)) ∈ gG := gG_t (k := 331) (by decide +kernel) (by decide +kernel)
theorem mw_332 : (Cond.classLink "AidRows" (82 : Nat) "java/lang/IllegalArgumentException") ∈ gG := gG_t (k := 332) (by decide +kernel) (by decide +kernel)
theorem mw_333 : (Cond.instantiable "java/lang/IllegalArgumentException" (6 : Nat)) ∈ gG := gG_t (k := 333) (by decide +kernel) (by decide +kernel)
theorem mw_335 : (Cond.selects "java/lang/IllegalArgumentException" ({ cls := "java/lang/Throwable", name := "fillInStackTrace", desc := "(I)Ljava/lang/Throwable;" } : MethodName) ({ cls := "java/lang/Throwable", name := "fillInStackTrace", desc := "(I)Ljava/lang/Throwable;" } : MethodName)) ∈ gG := gG_t (k := 335) (by decide +kernel) (by decide +kernel)
theorem mw_342 : (Cond.methodLink "AidRows" (86 : Nat) ({ cls := "java/lang/IllegalArgumentException", name := "<init>", desc := "(Ljava/lang/String;)V" } : MethodName)) ∈ gG := gG_t (k := 342) (by decide +kernel) (by decide +kernel)
theorem mw_343 : (Cond.instanceMethod ({ cls := "java/lang/IllegalArgumentException", name := "<init>", desc := "(Ljava/lang/String;)V" } : MethodName)) ∈ gG := gG_t (k := 343) (by decide +kernel) (by decide +kernel)
theorem mw_344 : (Cond.code ({ cls := "java/lang/IllegalArgumentException", name := "<init>", desc := "(Ljava/lang/String;)V" } : MethodName) prog_10_method_2_code (2 : Nat) (Option.none : Option FieldType)) ∈ gG := gG_t (k := 344) (by decide +kernel) (by decide +kernel)
theorem mw_345 : (Cond.methodLink "java/lang/IllegalArgumentException" (7 : Nat) ({ cls := "java/lang/RuntimeException", name := "<init>", desc := "(Ljava/lang/String;)V" } : MethodName)) ∈ gG := gG_t (k := 345) (by decide +kernel) (by decide +kernel)
theorem mw_348 : (Cond.methodLink "AidRows" (87 : Nat) ({ cls := "AidRows", name := "isSpan", desc := "(II)Z" } : MethodName)) ∈ gG := gG_t (k := 348) (by decide +kernel) (by decide +kernel)
theorem mw_349 : (Cond.static ({ cls := "AidRows", name := "isSpan", desc := "(II)Z" } : MethodName)) ∈ gG := gG_t (k := 349) (by decide +kernel) (by decide +kernel)
theorem mw_350 : (Cond.code ({ cls := "AidRows", name := "isSpan", desc := "(II)Z" } : MethodName) prog_1_method_18_code (2 : Nat) (Option.some FieldType.boolean)) ∈ gG := gG_t (k := 350) (by decide +kernel) (by decide +kernel)
theorem mw_351 : (Cond.constant "AidRows" (171 : Nat) (99999 : Int32)) ∈ gG := gG_t (k := 351) (by decide +kernel) (by decide +kernel)
theorem mw_352 : (Cond.methodLink "AidRows" (91 : Nat) ({ cls := "AidRows", name := "isHours", desc := "(I)Z" } : MethodName)) ∈ gG := gG_t (k := 352) (by decide +kernel) (by decide +kernel)
theorem mw_353 : (Cond.static ({ cls := "AidRows", name := "isHours", desc := "(I)Z" } : MethodName)) ∈ gG := gG_t (k := 353) (by decide +kernel) (by decide +kernel)
theorem mw_354 : (Cond.code ({ cls := "AidRows", name := "isHours", desc := "(I)Z" } : MethodName) prog_1_method_19_code (1 : Nat) (Option.some FieldType.boolean)) ∈ gG := gG_t (k := 354) (by decide +kernel) (by decide +kernel)
theorem mw_356 : (Cond.methodLink "AidRows" (96 : Nat) ({ cls := "AidRows$Agreements", name := "meetAny", desc := "(IIII)Z" } : MethodName)) ∈ gG := gG_t (k := 356) (by decide +kernel) (by decide +kernel)
theorem mw_357 : (Cond.instanceMethod ({ cls := "AidRows$Agreements", name := "meetAny", desc := "(IIII)Z" } : MethodName)) ∈ gG := gG_t (k := 357) (by decide +kernel) (by decide +kernel)
theorem mw_358 : (Cond.selects "AidRows$Agreements" ({ cls := "AidRows$Agreements", name := "meetAny", desc := "(IIII)Z" } : MethodName) ({ cls := "AidRows$Agreements", name := "meetAny", desc := "(IIII)Z" } : MethodName)) ∈ gG := gG_t (k := 358) (by decide +kernel) (by decide +kernel)
theorem mw_359 : (Cond.code ({ cls := "AidRows$Agreements", name := "meetAny", desc := "(IIII)Z" } : MethodName) prog_2_method_4_code (6 : Nat) (Option.some FieldType.boolean)) ∈ gG := gG_t (k := 359) (by decide +kernel) (by decide +kernel)
theorem mw_360 : (Cond.classLink "AidRows" (100 : Nat) "java/lang/IllegalStateException") ∈ gG := gG_t (k := 360) (by decide +kernel) (by decide +kernel)
theorem mw_361 : (Cond.instantiable "java/lang/IllegalStateException" (6 : Nat)) ∈ gG := gG_t (k := 361) (by decide +kernel) (by decide +kernel)
theorem mw_363 : (Cond.selects "java/lang/IllegalStateException" ({ cls := "java/lang/Throwable", name := "fillInStackTrace", desc := "(I)Ljava/lang/Throwable;" } : MethodName) ({ cls := "java/lang/Throwable", name := "fillInStackTrace", desc := "(I)Ljava/lang/Throwable;" } : MethodName)) ∈ gG := gG_t (k := 363) (by decide +kernel) (by decide +kernel)
theorem mw_370 : (Cond.methodLink "AidRows" (104 : Nat) ({ cls := "java/lang/IllegalStateException", name := "<init>", desc := "(Ljava/lang/String;)V" } : MethodName)) ∈ gG := gG_t (k := 370) (by decide +kernel) (by decide +kernel)
theorem mw_371 : (Cond.instanceMethod ({ cls := "java/lang/IllegalStateException", name := "<init>", desc := "(Ljava/lang/String;)V" } : MethodName)) ∈ gG := gG_t (k := 371) (by decide +kernel) (by decide +kernel)
theorem mw_372 : (Cond.code ({ cls := "java/lang/IllegalStateException", name := "<init>", desc := "(Ljava/lang/String;)V" } : MethodName) prog_11_method_2_code (2 : Nat) (Option.none : Option FieldType)) ∈ gG := gG_t (k := 372) (by decide +kernel) (by decide +kernel)
theorem mw_373 : (Cond.methodLink "java/lang/IllegalStateException" (7 : Nat) ({ cls := "java/lang/RuntimeException", name := "<init>", desc := "(Ljava/lang/String;)V" } : MethodName)) ∈ gG := gG_t (k := 373) (by decide +kernel) (by decide +kernel)
theorem mw_376 : (Cond.methodLink "AidRows" (105 : Nat) ({ cls := "AidRows$Agreements", name := "isFull", desc := "()Z" } : MethodName)) ∈ gG := gG_t (k := 376) (by decide +kernel) (by decide +kernel)
theorem mw_377 : (Cond.instanceMethod ({ cls := "AidRows$Agreements", name := "isFull", desc := "()Z" } : MethodName)) ∈ gG := gG_t (k := 377) (by decide +kernel) (by decide +kernel)
theorem mw_378 : (Cond.selects "AidRows$Agreements" ({ cls := "AidRows$Agreements", name := "isFull", desc := "()Z" } : MethodName) ({ cls := "AidRows$Agreements", name := "isFull", desc := "()Z" } : MethodName)) ∈ gG := gG_t (k := 378) (by decide +kernel) (by decide +kernel)
theorem mw_379 : (Cond.code ({ cls := "AidRows$Agreements", name := "isFull", desc := "()Z" } : MethodName) prog_2_method_2_code (1 : Nat) (Option.some FieldType.boolean)) ∈ gG := gG_t (k := 379) (by decide +kernel) (by decide +kernel)
theorem mw_381 : (Cond.methodLink "AidRows" (108 : Nat) ({ cls := "AidRows$Agreements", name := "add", desc := "(IIIIII)I" } : MethodName)) ∈ gG := gG_t (k := 381) (by decide +kernel) (by decide +kernel)
theorem mw_382 : (Cond.instanceMethod ({ cls := "AidRows$Agreements", name := "add", desc := "(IIIIII)I" } : MethodName)) ∈ gG := gG_t (k := 382) (by decide +kernel) (by decide +kernel)
theorem mw_383 : (Cond.selects "AidRows$Agreements" ({ cls := "AidRows$Agreements", name := "add", desc := "(IIIIII)I" } : MethodName) ({ cls := "AidRows$Agreements", name := "add", desc := "(IIIIII)I" } : MethodName)) ∈ gG := gG_t (k := 383) (by decide +kernel) (by decide +kernel)
theorem mw_384 : (Cond.code ({ cls := "AidRows$Agreements", name := "add", desc := "(IIIIII)I" } : MethodName) prog_2_method_3_code (7 : Nat) (Option.some FieldType.int)) ∈ gG := gG_t (k := 384) (by decide +kernel) (by decide +kernel)
theorem mw_385 : (Cond.methodLink "AidRowsLaw" (85 : Nat) ({ cls := "AidRowsLaw", name := "ask", desc := "(LAidRows;III[J)I" } : MethodName)) ∈ gG := gG_t (k := 385) (by decide +kernel) (by decide +kernel)
theorem mw_386 : (Cond.static ({ cls := "AidRowsLaw", name := "ask", desc := "(LAidRows;III[J)I" } : MethodName)) ∈ gG := gG_t (k := 386) (by decide +kernel) (by decide +kernel)
theorem mw_387 : (Cond.codeWith ({ cls := "AidRowsLaw", name := "ask", desc := "(LAidRows;III[J)I" } : MethodName) method_5_code (6 : Nat) (Option.some FieldType.int) [((0 : Nat), (12 : Nat), (15 : Nat), (21 : Nat)), ((0 : Nat), (12 : Nat), (19 : Nat), (13 : Nat)), ((0 : Nat), (12 : Nat), (23 : Nat), (15 : Nat))]) ∈ gG := gG_t (k := 387) (by decide +kernel) (by decide +kernel)
theorem mw_388 : (Cond.methodLink "AidRowsLaw" (25 : Nat) ({ cls := "AidRows", name := "ask", desc := "(III)I" } : MethodName)) ∈ gG := gG_t (k := 388) (by decide +kernel) (by decide +kernel)
theorem mw_389 : (Cond.instanceMethod ({ cls := "AidRows", name := "ask", desc := "(III)I" } : MethodName)) ∈ gG := gG_t (k := 389) (by decide +kernel) (by decide +kernel)
theorem mw_390 : (Cond.selects "AidRows" ({ cls := "AidRows", name := "ask", desc := "(III)I" } : MethodName) ({ cls := "AidRows", name := "ask", desc := "(III)I" } : MethodName)) ∈ gG := gG_t (k := 390) (by decide +kernel) (by decide +kernel)
theorem mw_391 : (Cond.code ({ cls := "AidRows", name := "ask", desc := "(III)I" } : MethodName) prog_1_method_4_code (5 : Nat) (Option.some FieldType.int)) ∈ gG := gG_t (k := 391) (by decide +kernel) (by decide +kernel)
theorem mw_394 : (Cond.methodLink "AidRows" (115 : Nat) ({ cls := "AidRows$Asks", name := "isFull", desc := "()Z" } : MethodName)) ∈ gG := gG_t (k := 394) (by decide +kernel) (by decide +kernel)
theorem mw_395 : (Cond.instanceMethod ({ cls := "AidRows$Asks", name := "isFull", desc := "()Z" } : MethodName)) ∈ gG := gG_t (k := 395) (by decide +kernel) (by decide +kernel)
theorem mw_396 : (Cond.selects "AidRows$Asks" ({ cls := "AidRows$Asks", name := "isFull", desc := "()Z" } : MethodName) ({ cls := "AidRows$Asks", name := "isFull", desc := "()Z" } : MethodName)) ∈ gG := gG_t (k := 396) (by decide +kernel) (by decide +kernel)
theorem mw_397 : (Cond.code ({ cls := "AidRows$Asks", name := "isFull", desc := "()Z" } : MethodName) prog_3_method_3_code (1 : Nat) (Option.some FieldType.boolean)) ∈ gG := gG_t (k := 397) (by decide +kernel) (by decide +kernel)
theorem mw_399 : (Cond.methodLink "AidRows" (118 : Nat) ({ cls := "AidRows$Asks", name := "add", desc := "(III)I" } : MethodName)) ∈ gG := gG_t (k := 399) (by decide +kernel) (by decide +kernel)
theorem mw_400 : (Cond.instanceMethod ({ cls := "AidRows$Asks", name := "add", desc := "(III)I" } : MethodName)) ∈ gG := gG_t (k := 400) (by decide +kernel) (by decide +kernel)
theorem mw_401 : (Cond.selects "AidRows$Asks" ({ cls := "AidRows$Asks", name := "add", desc := "(III)I" } : MethodName) ({ cls := "AidRows$Asks", name := "add", desc := "(III)I" } : MethodName)) ∈ gG := gG_t (k := 401) (by decide +kernel) (by decide +kernel)
theorem mw_402 : (Cond.code ({ cls := "AidRows$Asks", name := "add", desc := "(III)I" } : MethodName) prog_3_method_4_code (4 : Nat) (Option.some FieldType.int)) ∈ gG := gG_t (k := 402) (by decide +kernel) (by decide +kernel)
theorem mw_403 : (Cond.methodLink "AidRows" (121 : Nat) ({ cls := "AidRows", name := "sendOn", desc := "(I)V" } : MethodName)) ∈ gG := gG_t (k := 403) (by decide +kernel) (by decide +kernel)
theorem mw_405 : (Cond.instanceMethod ({ cls := "AidRows", name := "sendOn", desc := "(I)V" } : MethodName)) ∈ gG := gG_t (k := 405) (by decide +kernel) (by decide +kernel)
theorem mw_406 : (Cond.code ({ cls := "AidRows", name := "sendOn", desc := "(I)V" } : MethodName) prog_1_method_22_code (3 : Nat) (Option.none : Option FieldType)) ∈ gG := gG_t (k := 406) (by decide +kernel) (by decide +kernel)
theorem mw_407 : (Cond.methodLink "AidRows" (257 : Nat) ({ cls := "AidRows", name := "nextHouse", desc := "(I)I" } : MethodName)) ∈ gG := gG_t (k := 407) (by decide +kernel) (by decide +kernel)
theorem mw_409 : (Cond.instanceMethod ({ cls := "AidRows", name := "nextHouse", desc := "(I)I" } : MethodName)) ∈ gG := gG_t (k := 409) (by decide +kernel) (by decide +kernel)
theorem mw_410 : (Cond.code ({ cls := "AidRows", name := "nextHouse", desc := "(I)I" } : MethodName) prog_1_method_23_code (5 : Nat) (Option.some FieldType.int)) ∈ gG := gG_t (k := 410) (by decide +kernel) (by decide +kernel)
theorem mw_411 : (Cond.methodLink "AidRows" (269 : Nat) ({ cls := "AidRows$Asks", name := "wasAt", desc := "(II)Z" } : MethodName)) ∈ gG := gG_t (k := 411) (by decide +kernel) (by decide +kernel)
theorem mw_412 : (Cond.instanceMethod ({ cls := "AidRows$Asks", name := "wasAt", desc := "(II)Z" } : MethodName)) ∈ gG := gG_t (k := 412) (by decide +kernel) (by decide +kernel)
theorem mw_413 : (Cond.selects "AidRows$Asks" ({ cls := "AidRows$Asks", name := "wasAt", desc := "(II)Z" } : MethodName) ({ cls := "AidRows$Asks", name := "wasAt", desc := "(II)Z" } : MethodName)) ∈ gG := gG_t (k := 413) (by decide +kernel) (by decide +kernel)
theorem mw_414 : (Cond.code ({ cls := "AidRows$Asks", name := "wasAt", desc := "(II)Z" } : MethodName) prog_3_method_9_code (3 : Nat) (Option.some FieldType.boolean)) ∈ gG := gG_t (k := 414) (by decide +kernel) (by decide +kernel)
theorem mw_415 : (Cond.methodLink "AidRows" (275 : Nat) ({ cls := "AidRows$Agreements", name := "holding", desc := "(III)I" } : MethodName)) ∈ gG := gG_t (k := 415) (by decide +kernel) (by decide +kernel)
theorem mw_416 : (Cond.instanceMethod ({ cls := "AidRows$Agreements", name := "holding", desc := "(III)I" } : MethodName)) ∈ gG := gG_t (k := 416) (by decide +kernel) (by decide +kernel)
theorem mw_417 : (Cond.selects "AidRows$Agreements" ({ cls := "AidRows$Agreements", name := "holding", desc := "(III)I" } : MethodName) ({ cls := "AidRows$Agreements", name := "holding", desc := "(III)I" } : MethodName)) ∈ gG := gG_t (k := 417) (by decide +kernel) (by decide +kernel)
theorem mw_418 : (Cond.code ({ cls := "AidRows$Agreements", name := "holding", desc := "(III)I" } : MethodName) prog_2_method_5_code (5 : Nat) (Option.some FieldType.int)) ∈ gG := gG_t (k := 418) (by decide +kernel) (by decide +kernel)
theorem mw_419 : (Cond.methodLink "AidRows$Agreements" (34 : Nat) ({ cls := "AidRows$Agreements", name := "holdsAt", desc := "(II)Z" } : MethodName)) ∈ gG := gG_t (k := 419) (by decide +kernel) (by decide +kernel)
theorem mw_421 : (Cond.instanceMethod ({ cls := "AidRows$Agreements", name := "holdsAt", desc := "(II)Z" } : MethodName)) ∈ gG := gG_t (k := 421) (by decide +kernel) (by decide +kernel)
theorem mw_422 : (Cond.code ({ cls := "AidRows$Agreements", name := "holdsAt", desc := "(II)Z" } : MethodName) prog_2_method_6_code (7 : Nat) (Option.some FieldType.boolean)) ∈ gG := gG_t (k := 422) (by decide +kernel) (by decide +kernel)
theorem mw_423 : (Cond.methodLink "AidRows" (260 : Nat) ({ cls := "AidRows$Asks", name := "close", desc := "(II)V" } : MethodName)) ∈ gG := gG_t (k := 423) (by decide +kernel) (by decide +kernel)
theorem mw_424 : (Cond.instanceMethod ({ cls := "AidRows$Asks", name := "close", desc := "(II)V" } : MethodName)) ∈ gG := gG_t (k := 424) (by decide +kernel) (by decide +kernel)
theorem mw_425 : (Cond.selects "AidRows$Asks" ({ cls := "AidRows$Asks", name := "close", desc := "(II)V" } : MethodName) ({ cls := "AidRows$Asks", name := "close", desc := "(II)V" } : MethodName)) ∈ gG := gG_t (k := 425) (by decide +kernel) (by decide +kernel)
theorem mw_426 : (Cond.code ({ cls := "AidRows$Asks", name := "close", desc := "(II)V" } : MethodName) prog_3_method_6_code (3 : Nat) (Option.none : Option FieldType)) ∈ gG := gG_t (k := 426) (by decide +kernel) (by decide +kernel)
theorem mw_427 : (Cond.methodLink "AidRows" (264 : Nat) ({ cls := "AidRows$Asks", name := "move", desc := "(IIIZ)V" } : MethodName)) ∈ gG := gG_t (k := 427) (by decide +kernel) (by decide +kernel)
theorem mw_428 : (Cond.instanceMethod ({ cls := "AidRows$Asks", name := "move", desc := "(IIIZ)V" } : MethodName)) ∈ gG := gG_t (k := 428) (by decide +kernel) (by decide +kernel)
theorem mw_429 : (Cond.selects "AidRows$Asks" ({ cls := "AidRows$Asks", name := "move", desc := "(IIIZ)V" } : MethodName) ({ cls := "AidRows$Asks", name := "move", desc := "(IIIZ)V" } : MethodName)) ∈ gG := gG_t (k := 429) (by decide +kernel) (by decide +kernel)
theorem mw_430 : (Cond.code ({ cls := "AidRows$Asks", name := "move", desc := "(IIIZ)V" } : MethodName) prog_3_method_5_code (5 : Nat) (Option.none : Option FieldType)) ∈ gG := gG_t (k := 430) (by decide +kernel) (by decide +kernel)
theorem mw_431 : (Cond.methodLink "AidRowsLaw" (89 : Nat) ({ cls := "AidRowsLaw", name := "message", desc := "(LAidRows;IIIII[J)I" } : MethodName)) ∈ gG := gG_t (k := 431) (by decide +kernel) (by decide +kernel)
theorem mw_432 : (Cond.static ({ cls := "AidRowsLaw", name := "message", desc := "(LAidRows;IIIII[J)I" } : MethodName)) ∈ gG := gG_t (k := 432) (by decide +kernel) (by decide +kernel)
theorem mw_433 : (Cond.codeWith ({ cls := "AidRowsLaw", name := "message", desc := "(LAidRows;IIIII[J)I" } : MethodName) method_6_code (8 : Nat) (Option.some FieldType.int) [((0 : Nat), (16 : Nat), (19 : Nat), (21 : Nat)), ((0 : Nat), (16 : Nat), (23 : Nat), (13 : Nat)), ((0 : Nat), (16 : Nat), (27 : Nat), (15 : Nat))]) ∈ gG := gG_t (k := 433) (by decide +kernel) (by decide +kernel)
theorem mw_434 : (Cond.methodLink "AidRowsLaw" (29 : Nat) ({ cls := "AidRows", name := "message", desc := "(IIIII)I" } : MethodName)) ∈ gG := gG_t (k := 434) (by decide +kernel) (by decide +kernel)
theorem mw_435 : (Cond.instanceMethod ({ cls := "AidRows", name := "message", desc := "(IIIII)I" } : MethodName)) ∈ gG := gG_t (k := 435) (by decide +kernel) (by decide +kernel)
theorem mw_436 : (Cond.selects "AidRows" ({ cls := "AidRows", name := "message", desc := "(IIIII)I" } : MethodName) ({ cls := "AidRows", name := "message", desc := "(IIIII)I" } : MethodName)) ∈ gG := gG_t (k := 436) (by decide +kernel) (by decide +kernel)
theorem mw_437 : (Cond.code ({ cls := "AidRows", name := "message", desc := "(IIIII)I" } : MethodName) prog_1_method_5_code (7 : Nat) (Option.some FieldType.int)) ∈ gG := gG_t (k := 437) (by decide +kernel) (by decide +kernel)
theorem mw_438 : (Cond.methodLink "AidRows" (125 : Nat) ({ cls := "AidRows$Asks", name := "has", desc := "(I)Z" } : MethodName)) ∈ gG := gG_t (k := 438) (by decide +kernel) (by decide +kernel)
theorem mw_439 : (Cond.instanceMethod ({ cls := "AidRows$Asks", name := "has", desc := "(I)Z" } : MethodName)) ∈ gG := gG_t (k := 439) (by decide +kernel) (by decide +kernel)
theorem mw_440 : (Cond.selects "AidRows$Asks" ({ cls := "AidRows$Asks", name := "has", desc := "(I)Z" } : MethodName) ({ cls := "AidRows$Asks", name := "has", desc := "(I)Z" } : MethodName)) ∈ gG := gG_t (k := 440) (by decide +kernel) (by decide +kernel)
theorem mw_441 : (Cond.code ({ cls := "AidRows$Asks", name := "has", desc := "(I)Z" } : MethodName) prog_3_method_2_code (2 : Nat) (Option.some FieldType.boolean)) ∈ gG := gG_t (k := 441) (by decide +kernel) (by decide +kernel)
theorem mw_443 : (Cond.methodLink "AidRows" (128 : Nat) ({ cls := "AidRows", name := "isNumber", desc := "(I)Z" } : MethodName)) ∈ gG := gG_t (k := 443) (by decide +kernel) (by decide +kernel)
theorem mw_444 : (Cond.static ({ cls := "AidRows", name := "isNumber", desc := "(I)Z" } : MethodName)) ∈ gG := gG_t (k := 444) (by decide +kernel) (by decide +kernel)
theorem mw_445 : (Cond.code ({ cls := "AidRows", name := "isNumber", desc := "(I)Z" } : MethodName) prog_1_method_20_code (1 : Nat) (Option.some FieldType.boolean)) ∈ gG := gG_t (k := 445) (by decide +kernel) (by decide +kernel)
theorem mw_447 : (Cond.methodLink "AidRows" (141 : Nat) ({ cls := "AidRows$Numbers", name := "stateOf", desc := "(II)I" } : MethodName)) ∈ gG := gG_t (k := 447) (by decide +kernel) (by decide +kernel)
theorem mw_448 : (Cond.instanceMethod ({ cls := "AidRows$Numbers", name := "stateOf", desc := "(II)I" } : MethodName)) ∈ gG := gG_t (k := 448) (by decide +kernel) (by decide +kernel)
theorem mw_449 : (Cond.selects "AidRows$Numbers" ({ cls := "AidRows$Numbers", name := "stateOf", desc := "(II)I" } : MethodName) ({ cls := "AidRows$Numbers", name := "stateOf", desc := "(II)I" } : MethodName)) ∈ gG := gG_t (k := 449) (by decide +kernel) (by decide +kernel)
theorem mw_450 : (Cond.code ({ cls := "AidRows$Numbers", name := "stateOf", desc := "(II)I" } : MethodName) prog_6_method_2_code (4 : Nat) (Option.some FieldType.int)) ∈ gG := gG_t (k := 450) (by decide +kernel) (by decide +kernel)
theorem mw_451 : (Cond.methodLink "AidRows$Numbers" (15 : Nat) ({ cls := "AidRows$Numbers", name := "placeOf", desc := "(II)I" } : MethodName)) ∈ gG := gG_t (k := 451) (by decide +kernel) (by decide +kernel)
theorem mw_452 : (Cond.static ({ cls := "AidRows$Numbers", name := "placeOf", desc := "(II)I" } : MethodName)) ∈ gG := gG_t (k := 452) (by decide +kernel) (by decide +kernel)
theorem mw_453 : (Cond.code ({ cls := "AidRows$Numbers", name := "placeOf", desc := "(II)I" } : MethodName) prog_6_method_4_code (2 : Nat) (Option.some FieldType.int)) ∈ gG := gG_t (k := 453) (by decide +kernel) (by decide +kernel)
theorem mw_454 : (Cond.methodLink "AidRows$Numbers" (19 : Nat) ({ cls := "AidRows$Numbers", name := "shiftOf", desc := "(I)I" } : MethodName)) ∈ gG := gG_t (k := 454) (by decide +kernel) (by decide +kernel)
theorem mw_455 : (Cond.static ({ cls := "AidRows$Numbers", name := "shiftOf", desc := "(I)I" } : MethodName)) ∈ gG := gG_t (k := 455) (by decide +kernel) (by decide +kernel)
theorem mw_456 : (Cond.code ({ cls := "AidRows$Numbers", name := "shiftOf", desc := "(I)I" } : MethodName) prog_6_method_5_code (1 : Nat) (Option.some FieldType.int)) ∈ gG := gG_t (k := 456) (by decide +kernel) (by decide +kernel)
theorem mw_457 : (Cond.methodLink "AidRows" (147 : Nat) ({ cls := "AidRows", name := "judge", desc := "(III)I" } : MethodName)) ∈ gG := gG_t (k := 457) (by decide +kernel) (by decide +kernel)
theorem mw_459 : (Cond.instanceMethod ({ cls := "AidRows", name := "judge", desc := "(III)I" } : MethodName)) ∈ gG := gG_t (k := 459) (by decide +kernel) (by decide +kernel)
theorem mw_460 : (Cond.code ({ cls := "AidRows", name := "judge", desc := "(III)I" } : MethodName) prog_1_method_24_code (5 : Nat) (Option.some FieldType.int)) ∈ gG := gG_t (k := 460) (by decide +kernel) (by decide +kernel)
theorem mw_461 : (Cond.methodLink "AidRows" (281 : Nat) ({ cls := "AidRows$Asks", name := "isOpenAt", desc := "(II)Z" } : MethodName)) ∈ gG := gG_t (k := 461) (by decide +kernel) (by decide +kernel)
theorem mw_462 : (Cond.instanceMethod ({ cls := "AidRows$Asks", name := "isOpenAt", desc := "(II)Z" } : MethodName)) ∈ gG := gG_t (k := 462) (by decide +kernel) (by decide +kernel)
theorem mw_463 : (Cond.selects "AidRows$Asks" ({ cls := "AidRows$Asks", name := "isOpenAt", desc := "(II)Z" } : MethodName) ({ cls := "AidRows$Asks", name := "isOpenAt", desc := "(II)Z" } : MethodName)) ∈ gG := gG_t (k := 463) (by decide +kernel) (by decide +kernel)
theorem mw_464 : (Cond.code ({ cls := "AidRows$Asks", name := "isOpenAt", desc := "(II)Z" } : MethodName) prog_3_method_8_code (3 : Nat) (Option.some FieldType.boolean)) ∈ gG := gG_t (k := 464) (by decide +kernel) (by decide +kernel)
theorem mw_465 : (Cond.methodLink "AidRows$Asks" (44 : Nat) ({ cls := "AidRows$Asks", name := "isOpen", desc := "(I)Z" } : MethodName)) ∈ gG := gG_t (k := 465) (by decide +kernel) (by decide +kernel)
theorem mw_466 : (Cond.instanceMethod ({ cls := "AidRows$Asks", name := "isOpen", desc := "(I)Z" } : MethodName)) ∈ gG := gG_t (k := 466) (by decide +kernel) (by decide +kernel)
theorem mw_467 : (Cond.selects "AidRows$Asks" ({ cls := "AidRows$Asks", name := "isOpen", desc := "(I)Z" } : MethodName) ({ cls := "AidRows$Asks", name := "isOpen", desc := "(I)Z" } : MethodName)) ∈ gG := gG_t (k := 467) (by decide +kernel) (by decide +kernel)
theorem mw_468 : (Cond.code ({ cls := "AidRows$Asks", name := "isOpen", desc := "(I)Z" } : MethodName) prog_3_method_7_code (2 : Nat) (Option.some FieldType.boolean)) ∈ gG := gG_t (k := 468) (by decide +kernel) (by decide +kernel)
theorem mw_469 : (Cond.methodLink "AidRows" (284 : Nat) ({ cls := "AidRows", name := "mostToTake", desc := "(II)I" } : MethodName)) ∈ gG := gG_t (k := 469) (by decide +kernel) (by decide +kernel)
theorem mw_471 : (Cond.instanceMethod ({ cls := "AidRows", name := "mostToTake", desc := "(II)I" } : MethodName)) ∈ gG := gG_t (k := 471) (by decide +kernel) (by decide +kernel)
theorem mw_472 : (Cond.code ({ cls := "AidRows", name := "mostToTake", desc := "(II)I" } : MethodName) prog_1_method_25_code (4 : Nat) (Option.some FieldType.int)) ∈ gG := gG_t (k := 472) (by decide +kernel) (by decide +kernel)
end
section
theorem mw_473 : (Cond.methodLink "AidRows" (287 : Nat) ({ cls := "AidRows$Asks", name := "wanting", desc := "(I)I" } : MethodName)) ∈ gG := gG_t (k := 473) (by decide +kernel) (by decide +kernel)
theorem mw_474 : (Cond.instanceMethod ({ cls := "AidRows$Asks", name := "wanting", desc := "(I)I" } : MethodName)) ∈ gG := gG_t (k := 474) (by decide +kernel) (by decide +kernel)
theorem mw_475 : (Cond.selects "AidRows$Asks" ({ cls := "AidRows$Asks", name := "wanting", desc := "(I)I" } : MethodName) ({ cls := "AidRows$Asks", name := "wanting", desc := "(I)I" } : MethodName)) ∈ gG := gG_t (k := 475) (by decide +kernel) (by decide +kernel)
theorem mw_476 : (Cond.code ({ cls := "AidRows$Asks", name := "wanting", desc := "(I)I" } : MethodName) prog_3_method_11_code (2 : Nat) (Option.some FieldType.int)) ∈ gG := gG_t (k := 476) (by decide +kernel) (by decide +kernel)
theorem mw_477 : (Cond.methodLink "AidRows" (293 : Nat) ({ cls := "AidRows$Loans", name := "lentUnder", desc := "(I)I" } : MethodName)) ∈ gG := gG_t (k := 477) (by decide +kernel) (by decide +kernel)
theorem mw_478 : (Cond.instanceMethod ({ cls := "AidRows$Loans", name := "lentUnder", desc := "(I)I" } : MethodName)) ∈ gG := gG_t (k := 478) (by decide +kernel) (by decide +kernel)
theorem mw_479 : (Cond.selects "AidRows$Loans" ({ cls := "AidRows$Loans", name := "lentUnder", desc := "(I)I" } : MethodName) ({ cls := "AidRows$Loans", name := "lentUnder", desc := "(I)I" } : MethodName)) ∈ gG := gG_t (k := 479) (by decide +kernel) (by decide +kernel)
theorem mw_480 : (Cond.code ({ cls := "AidRows$Loans", name := "lentUnder", desc := "(I)I" } : MethodName) prog_5_method_9_code (4 : Nat) (Option.some FieldType.int)) ∈ gG := gG_t (k := 480) (by decide +kernel) (by decide +kernel)
theorem mw_481 : (Cond.methodLink "AidRows" (296 : Nat) ({ cls := "java/lang/Math", name := "min", desc := "(II)I" } : MethodName)) ∈ gG := gG_t (k := 481) (by decide +kernel) (by decide +kernel)
theorem mw_482 : (Cond.static ({ cls := "java/lang/Math", name := "min", desc := "(II)I" } : MethodName)) ∈ gG := gG_t (k := 482) (by decide +kernel) (by decide +kernel)
theorem mw_483 : (Cond.code ({ cls := "java/lang/Math", name := "min", desc := "(II)I" } : MethodName) prog_14_method_69_code (2 : Nat) (Option.some FieldType.int)) ∈ gG := gG_t (k := 483) (by decide +kernel) (by decide +kernel)
theorem mw_484 : (Cond.methodLink "AidRows" (150 : Nat) ({ cls := "AidRows$Loans", name := "room", desc := "()I" } : MethodName)) ∈ gG := gG_t (k := 484) (by decide +kernel) (by decide +kernel)
theorem mw_485 : (Cond.instanceMethod ({ cls := "AidRows$Loans", name := "room", desc := "()I" } : MethodName)) ∈ gG := gG_t (k := 485) (by decide +kernel) (by decide +kernel)
theorem mw_486 : (Cond.selects "AidRows$Loans" ({ cls := "AidRows$Loans", name := "room", desc := "()I" } : MethodName) ({ cls := "AidRows$Loans", name := "room", desc := "()I" } : MethodName)) ∈ gG := gG_t (k := 486) (by decide +kernel) (by decide +kernel)
theorem mw_487 : (Cond.code ({ cls := "AidRows$Loans", name := "room", desc := "()I" } : MethodName) prog_5_method_3_code (1 : Nat) (Option.some FieldType.int)) ∈ gG := gG_t (k := 487) (by decide +kernel) (by decide +kernel)
theorem mw_489 : (Cond.methodLink "AidRows" (156 : Nat) ({ cls := "AidRows$Numbers", name := "keep", desc := "(III)V" } : MethodName)) ∈ gG := gG_t (k := 489) (by decide +kernel) (by decide +kernel)
theorem mw_490 : (Cond.instanceMethod ({ cls := "AidRows$Numbers", name := "keep", desc := "(III)V" } : MethodName)) ∈ gG := gG_t (k := 490) (by decide +kernel) (by decide +kernel)
theorem mw_491 : (Cond.selects "AidRows$Numbers" ({ cls := "AidRows$Numbers", name := "keep", desc := "(III)V" } : MethodName) ({ cls := "AidRows$Numbers", name := "keep", desc := "(III)V" } : MethodName)) ∈ gG := gG_t (k := 491) (by decide +kernel) (by decide +kernel)
theorem mw_492 : (Cond.code ({ cls := "AidRows$Numbers", name := "keep", desc := "(III)V" } : MethodName) prog_6_method_3_code (5 : Nat) (Option.none : Option FieldType)) ∈ gG := gG_t (k := 492) (by decide +kernel) (by decide +kernel)
theorem mw_493 : (Cond.methodLink "AidRows" (160 : Nat) ({ cls := "AidRows", name := "take", desc := "(IIII)V" } : MethodName)) ∈ gG := gG_t (k := 493) (by decide +kernel) (by decide +kernel)
theorem mw_495 : (Cond.instanceMethod ({ cls := "AidRows", name := "take", desc := "(IIII)V" } : MethodName)) ∈ gG := gG_t (k := 495) (by decide +kernel) (by decide +kernel)
theorem mw_496 : (Cond.code ({ cls := "AidRows", name := "take", desc := "(IIII)V" } : MethodName) prog_1_method_26_code (5 : Nat) (Option.none : Option FieldType)) ∈ gG := gG_t (k := 496) (by decide +kernel) (by decide +kernel)
theorem mw_497 : (Cond.methodLink "AidRows" (301 : Nat) ({ cls := "AidRows", name := "lend", desc := "(IIII)V" } : MethodName)) ∈ gG := gG_t (k := 497) (by decide +kernel) (by decide +kernel)
theorem mw_499 : (Cond.instanceMethod ({ cls := "AidRows", name := "lend", desc := "(IIII)V" } : MethodName)) ∈ gG := gG_t (k := 499) (by decide +kernel) (by decide +kernel)
theorem mw_500 : (Cond.code ({ cls := "AidRows", name := "lend", desc := "(IIII)V" } : MethodName) prog_1_method_27_code (7 : Nat) (Option.none : Option FieldType)) ∈ gG := gG_t (k := 500) (by decide +kernel) (by decide +kernel)
theorem mw_501 : (Cond.methodLink "AidRows" (304 : Nat) ({ cls := "AidRows$Loans", name := "add", desc := "(IIII)V" } : MethodName)) ∈ gG := gG_t (k := 501) (by decide +kernel) (by decide +kernel)
theorem mw_502 : (Cond.instanceMethod ({ cls := "AidRows$Loans", name := "add", desc := "(IIII)V" } : MethodName)) ∈ gG := gG_t (k := 502) (by decide +kernel) (by decide +kernel)
theorem mw_503 : (Cond.selects "AidRows$Loans" ({ cls := "AidRows$Loans", name := "add", desc := "(IIII)V" } : MethodName) ({ cls := "AidRows$Loans", name := "add", desc := "(IIII)V" } : MethodName)) ∈ gG := gG_t (k := 503) (by decide +kernel) (by decide +kernel)
theorem mw_504 : (Cond.code ({ cls := "AidRows$Loans", name := "add", desc := "(IIII)V" } : MethodName) prog_5_method_4_code (5 : Nat) (Option.none : Option FieldType)) ∈ gG := gG_t (k := 504) (by decide +kernel) (by decide +kernel)
theorem mw_505 : (Cond.methodLink "AidRows$Loans" (34 : Nat) ({ cls := "AidRows$Loans", name := "freeName", desc := "(I)I" } : MethodName)) ∈ gG := gG_t (k := 505) (by decide +kernel) (by decide +kernel)
theorem mw_507 : (Cond.instanceMethod ({ cls := "AidRows$Loans", name := "freeName", desc := "(I)I" } : MethodName)) ∈ gG := gG_t (k := 507) (by decide +kernel) (by decide +kernel)
theorem mw_508 : (Cond.code ({ cls := "AidRows$Loans", name := "freeName", desc := "(I)I" } : MethodName) prog_5_method_5_code (4 : Nat) (Option.some FieldType.int)) ∈ gG := gG_t (k := 508) (by decide +kernel) (by decide +kernel)
theorem mw_509 : (Cond.methodLink "AidRows$Loans" (38 : Nat) ({ cls := "AidRows$Loans", name := "bearerOf", desc := "(I)I" } : MethodName)) ∈ gG := gG_t (k := 509) (by decide +kernel) (by decide +kernel)
theorem mw_510 : (Cond.methodLink "AidRowsLaw" (93 : Nat) ({ cls := "AidRowsLaw", name := "seen", desc := "(LAidRows;II[J)I" } : MethodName)) ∈ gG := gG_t (k := 510) (by decide +kernel) (by decide +kernel)
theorem mw_511 : (Cond.static ({ cls := "AidRowsLaw", name := "seen", desc := "(LAidRows;II[J)I" } : MethodName)) ∈ gG := gG_t (k := 511) (by decide +kernel) (by decide +kernel)
theorem mw_512 : (Cond.codeWith ({ cls := "AidRowsLaw", name := "seen", desc := "(LAidRows;II[J)I" } : MethodName) method_7_code (5 : Nat) (Option.some FieldType.int) [((0 : Nat), (10 : Nat), (13 : Nat), (21 : Nat)), ((0 : Nat), (10 : Nat), (17 : Nat), (13 : Nat))]) ∈ gG := gG_t (k := 512) (by decide +kernel) (by decide +kernel)
theorem mw_513 : (Cond.methodLink "AidRowsLaw" (33 : Nat) ({ cls := "AidRows", name := "seen", desc := "(II)I" } : MethodName)) ∈ gG := gG_t (k := 513) (by decide +kernel) (by decide +kernel)
theorem mw_514 : (Cond.instanceMethod ({ cls := "AidRows", name := "seen", desc := "(II)I" } : MethodName)) ∈ gG := gG_t (k := 514) (by decide +kernel) (by decide +kernel)
theorem mw_515 : (Cond.selects "AidRows" ({ cls := "AidRows", name := "seen", desc := "(II)I" } : MethodName) ({ cls := "AidRows", name := "seen", desc := "(II)I" } : MethodName)) ∈ gG := gG_t (k := 515) (by decide +kernel) (by decide +kernel)
theorem mw_516 : (Cond.code ({ cls := "AidRows", name := "seen", desc := "(II)I" } : MethodName) prog_1_method_6_code (3 : Nat) (Option.some FieldType.int)) ∈ gG := gG_t (k := 516) (by decide +kernel) (by decide +kernel)
theorem mw_519 : (Cond.methodLink "AidRowsLaw" (96 : Nat) ({ cls := "AidRowsLaw", name := "tick", desc := "(LAidRows;I[J)I" } : MethodName)) ∈ gG := gG_t (k := 519) (by decide +kernel) (by decide +kernel)
theorem mw_520 : (Cond.static ({ cls := "AidRowsLaw", name := "tick", desc := "(LAidRows;I[J)I" } : MethodName)) ∈ gG := gG_t (k := 520) (by decide +kernel) (by decide +kernel)
theorem mw_521 : (Cond.codeWith ({ cls := "AidRowsLaw", name := "tick", desc := "(LAidRows;I[J)I" } : MethodName) method_8_code (4 : Nat) (Option.some FieldType.int) [((0 : Nat), (9 : Nat), (12 : Nat), (13 : Nat))]) ∈ gG := gG_t (k := 521) (by decide +kernel) (by decide +kernel)
theorem mw_522 : (Cond.methodLink "AidRowsLaw" (36 : Nat) ({ cls := "AidRows", name := "tick", desc := "(I)I" } : MethodName)) ∈ gG := gG_t (k := 522) (by decide +kernel) (by decide +kernel)
theorem mw_523 : (Cond.instanceMethod ({ cls := "AidRows", name := "tick", desc := "(I)I" } : MethodName)) ∈ gG := gG_t (k := 523) (by decide +kernel) (by decide +kernel)
theorem mw_524 : (Cond.selects "AidRows" ({ cls := "AidRows", name := "tick", desc := "(I)I" } : MethodName) ({ cls := "AidRows", name := "tick", desc := "(I)I" } : MethodName)) ∈ gG := gG_t (k := 524) (by decide +kernel) (by decide +kernel)
theorem mw_525 : (Cond.code ({ cls := "AidRows", name := "tick", desc := "(I)I" } : MethodName) prog_1_method_7_code (5 : Nat) (Option.some FieldType.int)) ∈ gG := gG_t (k := 525) (by decide +kernel) (by decide +kernel)
theorem mw_527 : (Cond.methodLink "AidRows" (174 : Nat) ({ cls := "AidRows", name := "nextEvent", desc := "(I)I" } : MethodName)) ∈ gG := gG_t (k := 527) (by decide +kernel) (by decide +kernel)
theorem mw_529 : (Cond.instanceMethod ({ cls := "AidRows", name := "nextEvent", desc := "(I)I" } : MethodName)) ∈ gG := gG_t (k := 529) (by decide +kernel) (by decide +kernel)
theorem mw_530 : (Cond.code ({ cls := "AidRows", name := "nextEvent", desc := "(I)I" } : MethodName) prog_1_method_28_code (4 : Nat) (Option.some FieldType.int)) ∈ gG := gG_t (k := 530) (by decide +kernel) (by decide +kernel)
theorem mw_531 : (Cond.methodLink "AidRows" (307 : Nat) ({ cls := "AidRows$Asks", name := "isOpen", desc := "(I)Z" } : MethodName)) ∈ gG := gG_t (k := 531) (by decide +kernel) (by decide +kernel)
theorem mw_532 : (Cond.methodLink "AidRows" (310 : Nat) ({ cls := "AidRows$Asks", name := "patienceEnd", desc := "(I)I" } : MethodName)) ∈ gG := gG_t (k := 532) (by decide +kernel) (by decide +kernel)
theorem mw_533 : (Cond.instanceMethod ({ cls := "AidRows$Asks", name := "patienceEnd", desc := "(I)I" } : MethodName)) ∈ gG := gG_t (k := 533) (by decide +kernel) (by decide +kernel)
theorem mw_534 : (Cond.selects "AidRows$Asks" ({ cls := "AidRows$Asks", name := "patienceEnd", desc := "(I)I" } : MethodName) ({ cls := "AidRows$Asks", name := "patienceEnd", desc := "(I)I" } : MethodName)) ∈ gG := gG_t (k := 534) (by decide +kernel) (by decide +kernel)
theorem mw_535 : (Cond.code ({ cls := "AidRows$Asks", name := "patienceEnd", desc := "(I)I" } : MethodName) prog_3_method_12_code (2 : Nat) (Option.some FieldType.int)) ∈ gG := gG_t (k := 535) (by decide +kernel) (by decide +kernel)
theorem mw_536 : (Cond.methodLink "AidRows" (189 : Nat) ({ cls := "AidRows$Loans", name := "isLent", desc := "(I)Z" } : MethodName)) ∈ gG := gG_t (k := 536) (by decide +kernel) (by decide +kernel)
theorem mw_537 : (Cond.methodLink "AidRows" (178 : Nat) ({ cls := "AidRows", name := "endLoansWithAgreements", desc := "()V" } : MethodName)) ∈ gG := gG_t (k := 537) (by decide +kernel) (by decide +kernel)
theorem mw_539 : (Cond.instanceMethod ({ cls := "AidRows", name := "endLoansWithAgreements", desc := "()V" } : MethodName)) ∈ gG := gG_t (k := 539) (by decide +kernel) (by decide +kernel)
theorem mw_540 : (Cond.code ({ cls := "AidRows", name := "endLoansWithAgreements", desc := "()V" } : MethodName) prog_1_method_29_code (2 : Nat) (Option.none : Option FieldType)) ∈ gG := gG_t (k := 540) (by decide +kernel) (by decide +kernel)
theorem mw_541 : (Cond.methodLink "AidRows" (181 : Nat) ({ cls := "AidRows", name := "sendOnImpatientAsks", desc := "()I" } : MethodName)) ∈ gG := gG_t (k := 541) (by decide +kernel) (by decide +kernel)
theorem mw_543 : (Cond.instanceMethod ({ cls := "AidRows", name := "sendOnImpatientAsks", desc := "()I" } : MethodName)) ∈ gG := gG_t (k := 543) (by decide +kernel) (by decide +kernel)
theorem mw_544 : (Cond.code ({ cls := "AidRows", name := "sendOnImpatientAsks", desc := "()I" } : MethodName) prog_1_method_30_code (3 : Nat) (Option.some FieldType.int)) ∈ gG := gG_t (k := 544) (by decide +kernel) (by decide +kernel)
theorem mw_545 : (Cond.methodLink "AidRowsLaw" (100 : Nat) ({ cls := "AidRowsLaw", name := "cut", desc := "(LAidRows;IZ)I" } : MethodName)) ∈ gG := gG_t (k := 545) (by decide +kernel) (by decide +kernel)
theorem mw_546 : (Cond.static ({ cls := "AidRowsLaw", name := "cut", desc := "(LAidRows;IZ)I" } : MethodName)) ∈ gG := gG_t (k := 546) (by decide +kernel) (by decide +kernel)
theorem mw_547 : (Cond.codeWith ({ cls := "AidRowsLaw", name := "cut", desc := "(LAidRows;IZ)I" } : MethodName) method_9_code (4 : Nat) (Option.some FieldType.int) [((0 : Nat), (6 : Nat), (9 : Nat), (21 : Nat)), ((0 : Nat), (6 : Nat), (12 : Nat), (23 : Nat))]) ∈ gG := gG_t (k := 547) (by decide +kernel) (by decide +kernel)
theorem mw_548 : (Cond.methodLink "AidRowsLaw" (40 : Nat) ({ cls := "AidRows", name := "cut", desc := "(IZ)V" } : MethodName)) ∈ gG := gG_t (k := 548) (by decide +kernel) (by decide +kernel)
theorem mw_549 : (Cond.instanceMethod ({ cls := "AidRows", name := "cut", desc := "(IZ)V" } : MethodName)) ∈ gG := gG_t (k := 549) (by decide +kernel) (by decide +kernel)
theorem mw_550 : (Cond.selects "AidRows" ({ cls := "AidRows", name := "cut", desc := "(IZ)V" } : MethodName) ({ cls := "AidRows", name := "cut", desc := "(IZ)V" } : MethodName)) ∈ gG := gG_t (k := 550) (by decide +kernel) (by decide +kernel)
theorem mw_551 : (Cond.code ({ cls := "AidRows", name := "cut", desc := "(IZ)V" } : MethodName) prog_1_method_8_code (3 : Nat) (Option.none : Option FieldType)) ∈ gG := gG_t (k := 551) (by decide +kernel) (by decide +kernel)
theorem mw_553 : (Cond.methodLink "AidRowsLaw" (104 : Nat) ({ cls := "AidRowsLaw", name := "end", desc := "(LAidRows;I)I" } : MethodName)) ∈ gG := gG_t (k := 553) (by decide +kernel) (by decide +kernel)
theorem mw_554 : (Cond.static ({ cls := "AidRowsLaw", name := "end", desc := "(LAidRows;I)I" } : MethodName)) ∈ gG := gG_t (k := 554) (by decide +kernel) (by decide +kernel)
theorem mw_555 : (Cond.codeWith ({ cls := "AidRowsLaw", name := "end", desc := "(LAidRows;I)I" } : MethodName) method_10_code (3 : Nat) (Option.some FieldType.int) [((0 : Nat), (5 : Nat), (8 : Nat), (21 : Nat)), ((0 : Nat), (5 : Nat), (11 : Nat), (23 : Nat))]) ∈ gG := gG_t (k := 555) (by decide +kernel) (by decide +kernel)
theorem mw_556 : (Cond.methodLink "AidRowsLaw" (44 : Nat) ({ cls := "AidRows", name := "end", desc := "(I)V" } : MethodName)) ∈ gG := gG_t (k := 556) (by decide +kernel) (by decide +kernel)
theorem mw_557 : (Cond.instanceMethod ({ cls := "AidRows", name := "end", desc := "(I)V" } : MethodName)) ∈ gG := gG_t (k := 557) (by decide +kernel) (by decide +kernel)
theorem mw_558 : (Cond.selects "AidRows" ({ cls := "AidRows", name := "end", desc := "(I)V" } : MethodName) ({ cls := "AidRows", name := "end", desc := "(I)V" } : MethodName)) ∈ gG := gG_t (k := 558) (by decide +kernel) (by decide +kernel)
theorem mw_559 : (Cond.code ({ cls := "AidRows", name := "end", desc := "(I)V" } : MethodName) prog_1_method_9_code (2 : Nat) (Option.none : Option FieldType)) ∈ gG := gG_t (k := 559) (by decide +kernel) (by decide +kernel)
theorem mw_560 : (Cond.methodLink "AidRows" (186 : Nat) ({ cls := "AidRows$Loans", name := "has", desc := "(I)Z" } : MethodName)) ∈ gG := gG_t (k := 560) (by decide +kernel) (by decide +kernel)
theorem mw_561 : (Cond.instanceMethod ({ cls := "AidRows$Loans", name := "has", desc := "(I)Z" } : MethodName)) ∈ gG := gG_t (k := 561) (by decide +kernel) (by decide +kernel)
theorem mw_562 : (Cond.selects "AidRows$Loans" ({ cls := "AidRows$Loans", name := "has", desc := "(I)Z" } : MethodName) ({ cls := "AidRows$Loans", name := "has", desc := "(I)Z" } : MethodName)) ∈ gG := gG_t (k := 562) (by decide +kernel) (by decide +kernel)
theorem mw_563 : (Cond.code ({ cls := "AidRows$Loans", name := "has", desc := "(I)Z" } : MethodName) prog_5_method_2_code (2 : Nat) (Option.some FieldType.boolean)) ∈ gG := gG_t (k := 563) (by decide +kernel) (by decide +kernel)
theorem mw_566 : (Cond.methodLink "AidRowsLaw" (108 : Nat) ({ cls := "AidRowsLaw", name := "askAt", desc := "(LAidRows;II[J)I" } : MethodName)) ∈ gG := gG_t (k := 566) (by decide +kernel) (by decide +kernel)
theorem mw_567 : (Cond.static ({ cls := "AidRowsLaw", name := "askAt", desc := "(LAidRows;II[J)I" } : MethodName)) ∈ gG := gG_t (k := 567) (by decide +kernel) (by decide +kernel)
theorem mw_568 : (Cond.codeWith ({ cls := "AidRowsLaw", name := "askAt", desc := "(LAidRows;II[J)I" } : MethodName) method_11_code (5 : Nat) (Option.some FieldType.int) [((0 : Nat), (10 : Nat), (13 : Nat), (21 : Nat))]) ∈ gG := gG_t (k := 568) (by decide +kernel) (by decide +kernel)
theorem mw_569 : (Cond.methodLink "AidRowsLaw" (48 : Nat) ({ cls := "AidRows", name := "askAt", desc := "(II)I" } : MethodName)) ∈ gG := gG_t (k := 569) (by decide +kernel) (by decide +kernel)
theorem mw_570 : (Cond.instanceMethod ({ cls := "AidRows", name := "askAt", desc := "(II)I" } : MethodName)) ∈ gG := gG_t (k := 570) (by decide +kernel) (by decide +kernel)
theorem mw_571 : (Cond.selects "AidRows" ({ cls := "AidRows", name := "askAt", desc := "(II)I" } : MethodName) ({ cls := "AidRows", name := "askAt", desc := "(II)I" } : MethodName)) ∈ gG := gG_t (k := 571) (by decide +kernel) (by decide +kernel)
theorem mw_572 : (Cond.code ({ cls := "AidRows", name := "askAt", desc := "(II)I" } : MethodName) prog_1_method_10_code (3 : Nat) (Option.some FieldType.int)) ∈ gG := gG_t (k := 572) (by decide +kernel) (by decide +kernel)
theorem mw_574 : (Cond.methodLink "AidRows" (211 : Nat) ({ cls := "AidRows$Asks", name := "visits", desc := "(I)I" } : MethodName)) ∈ gG := gG_t (k := 574) (by decide +kernel) (by decide +kernel)
theorem mw_575 : (Cond.instanceMethod ({ cls := "AidRows$Asks", name := "visits", desc := "(I)I" } : MethodName)) ∈ gG := gG_t (k := 575) (by decide +kernel) (by decide +kernel)
theorem mw_576 : (Cond.selects "AidRows$Asks" ({ cls := "AidRows$Asks", name := "visits", desc := "(I)I" } : MethodName) ({ cls := "AidRows$Asks", name := "visits", desc := "(I)I" } : MethodName)) ∈ gG := gG_t (k := 576) (by decide +kernel) (by decide +kernel)
theorem mw_577 : (Cond.code ({ cls := "AidRows$Asks", name := "visits", desc := "(I)I" } : MethodName) prog_3_method_10_code (2 : Nat) (Option.some FieldType.int)) ∈ gG := gG_t (k := 577) (by decide +kernel) (by decide +kernel)
theorem mw_578 : (Cond.methodLink "AidRows$Asks" (48 : Nat) ({ cls := "java/lang/Integer", name := "bitCount", desc := "(I)I" } : MethodName)) ∈ gG := gG_t (k := 578) (by decide +kernel) (by decide +kernel)
theorem mw_579 : (Cond.static ({ cls := "java/lang/Integer", name := "bitCount", desc := "(I)I" } : MethodName)) ∈ gG := gG_t (k := 579) (by decide +kernel) (by decide +kernel)
theorem mw_580 : (Cond.code ({ cls := "java/lang/Integer", name := "bitCount", desc := "(I)I" } : MethodName) prog_13_method_49_code (1 : Nat) (Option.some FieldType.int)) ∈ gG := gG_t (k := 580) (by decide +kernel) (by decide +kernel)
theorem mw_581 : (Cond.constant "java/lang/Integer" (265 : Nat) (1431655765 : Int32)) ∈ gG := gG_t (k := 581) (by decide +kernel) (by decide +kernel)
theorem mw_582 : (Cond.constant "java/lang/Integer" (266 : Nat) (858993459 : Int32)) ∈ gG := gG_t (k := 582) (by decide +kernel) (by decide +kernel)
theorem mw_583 : (Cond.constant "java/lang/Integer" (267 : Nat) (252645135 : Int32)) ∈ gG := gG_t (k := 583) (by decide +kernel) (by decide +kernel)
theorem mw_584 : (Cond.methodLink "AidRowsLaw" (111 : Nat) ({ cls := "AidRowsLaw", name := "loanAt", desc := "(LAidRows;II[J)I" } : MethodName)) ∈ gG := gG_t (k := 584) (by decide +kernel) (by decide +kernel)
theorem mw_585 : (Cond.static ({ cls := "AidRowsLaw", name := "loanAt", desc := "(LAidRows;II[J)I" } : MethodName)) ∈ gG := gG_t (k := 585) (by decide +kernel) (by decide +kernel)
theorem mw_586 : (Cond.codeWith ({ cls := "AidRowsLaw", name := "loanAt", desc := "(LAidRows;II[J)I" } : MethodName) method_12_code (5 : Nat) (Option.some FieldType.int) [((0 : Nat), (10 : Nat), (13 : Nat), (21 : Nat))]) ∈ gG := gG_t (k := 586) (by decide +kernel) (by decide +kernel)
theorem mw_587 : (Cond.methodLink "AidRowsLaw" (51 : Nat) ({ cls := "AidRows", name := "loanAt", desc := "(II)I" } : MethodName)) ∈ gG := gG_t (k := 587) (by decide +kernel) (by decide +kernel)
theorem mw_588 : (Cond.instanceMethod ({ cls := "AidRows", name := "loanAt", desc := "(II)I" } : MethodName)) ∈ gG := gG_t (k := 588) (by decide +kernel) (by decide +kernel)
theorem mw_589 : (Cond.selects "AidRows" ({ cls := "AidRows", name := "loanAt", desc := "(II)I" } : MethodName) ({ cls := "AidRows", name := "loanAt", desc := "(II)I" } : MethodName)) ∈ gG := gG_t (k := 589) (by decide +kernel) (by decide +kernel)
theorem mw_590 : (Cond.code ({ cls := "AidRows", name := "loanAt", desc := "(II)I" } : MethodName) prog_1_method_11_code (3 : Nat) (Option.some FieldType.int)) ∈ gG := gG_t (k := 590) (by decide +kernel) (by decide +kernel)
theorem mw_592 : (Cond.methodLink "AidRows" (231 : Nat) ({ cls := "AidRows", name := "costOfLoan", desc := "(I)I" } : MethodName)) ∈ gG := gG_t (k := 592) (by decide +kernel) (by decide +kernel)
theorem mw_594 : (Cond.instanceMethod ({ cls := "AidRows", name := "costOfLoan", desc := "(I)I" } : MethodName)) ∈ gG := gG_t (k := 594) (by decide +kernel) (by decide +kernel)
theorem mw_595 : (Cond.code ({ cls := "AidRows", name := "costOfLoan", desc := "(I)I" } : MethodName) prog_1_method_31_code (5 : Nat) (Option.some FieldType.int)) ∈ gG := gG_t (k := 595) (by decide +kernel) (by decide +kernel)
theorem mw_596 : (Cond.methodLink "AidRowsLaw" (114 : Nat) ({ cls := "AidRowsLaw", name := "cost", desc := "(LAidRows;I[J)I" } : MethodName)) ∈ gG := gG_t (k := 596) (by decide +kernel) (by decide +kernel)
theorem mw_597 : (Cond.static ({ cls := "AidRowsLaw", name := "cost", desc := "(LAidRows;I[J)I" } : MethodName)) ∈ gG := gG_t (k := 597) (by decide +kernel) (by decide +kernel)
theorem mw_598 : (Cond.codeWith ({ cls := "AidRowsLaw", name := "cost", desc := "(LAidRows;I[J)I" } : MethodName) method_13_code (4 : Nat) (Option.some FieldType.int) [((0 : Nat), (9 : Nat), (12 : Nat), (21 : Nat))]) ∈ gG := gG_t (k := 598) (by decide +kernel) (by decide +kernel)
theorem mw_599 : (Cond.methodLink "AidRowsLaw" (54 : Nat) ({ cls := "AidRows", name := "cost", desc := "(I)I" } : MethodName)) ∈ gG := gG_t (k := 599) (by decide +kernel) (by decide +kernel)
theorem mw_600 : (Cond.instanceMethod ({ cls := "AidRows", name := "cost", desc := "(I)I" } : MethodName)) ∈ gG := gG_t (k := 600) (by decide +kernel) (by decide +kernel)
theorem mw_601 : (Cond.selects "AidRows" ({ cls := "AidRows", name := "cost", desc := "(I)I" } : MethodName) ({ cls := "AidRows", name := "cost", desc := "(I)I" } : MethodName)) ∈ gG := gG_t (k := 601) (by decide +kernel) (by decide +kernel)
theorem mw_602 : (Cond.code ({ cls := "AidRows", name := "cost", desc := "(I)I" } : MethodName) prog_1_method_12_code (4 : Nat) (Option.some FieldType.int)) ∈ gG := gG_t (k := 602) (by decide +kernel) (by decide +kernel)
theorem mw_603 : (Cond.methodLink "AidRowsLaw" (121 : Nat) ({ cls := "AidRowsLaw", name := "hand", desc := "(LAidRows;II)I" } : MethodName)) ∈ gG := gG_t (k := 603) (by decide +kernel) (by decide +kernel)
theorem mw_604 : (Cond.static ({ cls := "AidRowsLaw", name := "hand", desc := "(LAidRows;II)I" } : MethodName)) ∈ gG := gG_t (k := 604) (by decide +kernel) (by decide +kernel)
theorem mw_605 : (Cond.codeWith ({ cls := "AidRowsLaw", name := "hand", desc := "(LAidRows;II)I" } : MethodName) method_14_code (4 : Nat) (Option.some FieldType.int) [((0 : Nat), (6 : Nat), (9 : Nat), (21 : Nat)), ((0 : Nat), (6 : Nat), (12 : Nat), (23 : Nat))]) ∈ gG := gG_t (k := 605) (by decide +kernel) (by decide +kernel)
theorem mw_606 : (Cond.methodLink "AidRowsLaw" (57 : Nat) ({ cls := "AidRows", name := "hand", desc := "(II)V" } : MethodName)) ∈ gG := gG_t (k := 606) (by decide +kernel) (by decide +kernel)
theorem mw_607 : (Cond.instanceMethod ({ cls := "AidRows", name := "hand", desc := "(II)V" } : MethodName)) ∈ gG := gG_t (k := 607) (by decide +kernel) (by decide +kernel)
theorem mw_608 : (Cond.selects "AidRows" ({ cls := "AidRows", name := "hand", desc := "(II)V" } : MethodName) ({ cls := "AidRows", name := "hand", desc := "(II)V" } : MethodName)) ∈ gG := gG_t (k := 608) (by decide +kernel) (by decide +kernel)
theorem mw_609 : (Cond.code ({ cls := "AidRows", name := "hand", desc := "(II)V" } : MethodName) prog_1_method_14_code (3 : Nat) (Option.none : Option FieldType)) ∈ gG := gG_t (k := 609) (by decide +kernel) (by decide +kernel)
theorem mw_610 : (Cond.methodLink "AidRows" (240 : Nat) ({ cls := "AidRows", name := "isCall", desc := "(I)Z" } : MethodName)) ∈ gG := gG_t (k := 610) (by decide +kernel) (by decide +kernel)
theorem mw_611 : (Cond.static ({ cls := "AidRows", name := "isCall", desc := "(I)Z" } : MethodName)) ∈ gG := gG_t (k := 611) (by decide +kernel) (by decide +kernel)
theorem mw_612 : (Cond.code ({ cls := "AidRows", name := "isCall", desc := "(I)Z" } : MethodName) prog_1_method_21_code (1 : Nat) (Option.some FieldType.boolean)) ∈ gG := gG_t (k := 612) (by decide +kernel) (by decide +kernel)
theorem mw_615 : (Cond.methodLink "AidRowsLaw" (125 : Nat) ({ cls := "AidRowsLaw", name := "handed", desc := "(LAidRows;I[J)I" } : MethodName)) ∈ gG := gG_t (k := 615) (by decide +kernel) (by decide +kernel)
theorem mw_616 : (Cond.static ({ cls := "AidRowsLaw", name := "handed", desc := "(LAidRows;I[J)I" } : MethodName)) ∈ gG := gG_t (k := 616) (by decide +kernel) (by decide +kernel)
theorem mw_617 : (Cond.codeWith ({ cls := "AidRowsLaw", name := "handed", desc := "(LAidRows;I[J)I" } : MethodName) method_15_code (4 : Nat) (Option.some FieldType.int) [((0 : Nat), (9 : Nat), (12 : Nat), (21 : Nat))]) ∈ gG := gG_t (k := 617) (by decide +kernel) (by decide +kernel)
theorem mw_618 : (Cond.methodLink "AidRowsLaw" (61 : Nat) ({ cls := "AidRows", name := "handed", desc := "(I)I" } : MethodName)) ∈ gG := gG_t (k := 618) (by decide +kernel) (by decide +kernel)
theorem mw_619 : (Cond.instanceMethod ({ cls := "AidRows", name := "handed", desc := "(I)I" } : MethodName)) ∈ gG := gG_t (k := 619) (by decide +kernel) (by decide +kernel)
theorem mw_620 : (Cond.selects "AidRows" ({ cls := "AidRows", name := "handed", desc := "(I)I" } : MethodName) ({ cls := "AidRows", name := "handed", desc := "(I)I" } : MethodName)) ∈ gG := gG_t (k := 620) (by decide +kernel) (by decide +kernel)
theorem mw_621 : (Cond.code ({ cls := "AidRows", name := "handed", desc := "(I)I" } : MethodName) prog_1_method_15_code (2 : Nat) (Option.some FieldType.int)) ∈ gG := gG_t (k := 621) (by decide +kernel) (by decide +kernel)
theorem mw_623 : (Cond.methodLink "AidRowsLaw" (128 : Nat) ({ cls := "AidRowsLaw", name := "count", desc := "(LAidRows;I[J)I" } : MethodName)) ∈ gG := gG_t (k := 623) (by decide +kernel) (by decide +kernel)
theorem mw_624 : (Cond.static ({ cls := "AidRowsLaw", name := "count", desc := "(LAidRows;I[J)I" } : MethodName)) ∈ gG := gG_t (k := 624) (by decide +kernel) (by decide +kernel)
theorem mw_625 : (Cond.codeWith ({ cls := "AidRowsLaw", name := "count", desc := "(LAidRows;I[J)I" } : MethodName) method_16_code (4 : Nat) (Option.some FieldType.int) [((0 : Nat), (9 : Nat), (12 : Nat), (21 : Nat))]) ∈ gG := gG_t (k := 625) (by decide +kernel) (by decide +kernel)
theorem mw_626 : (Cond.methodLink "AidRowsLaw" (64 : Nat) ({ cls := "AidRows", name := "count", desc := "(I)I" } : MethodName)) ∈ gG := gG_t (k := 626) (by decide +kernel) (by decide +kernel)
theorem mw_627 : (Cond.instanceMethod ({ cls := "AidRows", name := "count", desc := "(I)I" } : MethodName)) ∈ gG := gG_t (k := 627) (by decide +kernel) (by decide +kernel)
theorem mw_628 : (Cond.selects "AidRows" ({ cls := "AidRows", name := "count", desc := "(I)I" } : MethodName) ({ cls := "AidRows", name := "count", desc := "(I)I" } : MethodName)) ∈ gG := gG_t (k := 628) (by decide +kernel) (by decide +kernel)
theorem mw_629 : (Cond.code ({ cls := "AidRows", name := "count", desc := "(I)I" } : MethodName) prog_1_method_16_code (2 : Nat) (Option.some FieldType.int)) ∈ gG := gG_t (k := 629) (by decide +kernel) (by decide +kernel)
theorem mw_630 : (Cond.methodLink "AidRows" (249 : Nat) ({ cls := "AidRows$Loans", name := "lent", desc := "()I" } : MethodName)) ∈ gG := gG_t (k := 630) (by decide +kernel) (by decide +kernel)
theorem mw_631 : (Cond.instanceMethod ({ cls := "AidRows$Loans", name := "lent", desc := "()I" } : MethodName)) ∈ gG := gG_t (k := 631) (by decide +kernel) (by decide +kernel)
theorem mw_632 : (Cond.selects "AidRows$Loans" ({ cls := "AidRows$Loans", name := "lent", desc := "()I" } : MethodName) ({ cls := "AidRows$Loans", name := "lent", desc := "()I" } : MethodName)) ∈ gG := gG_t (k := 632) (by decide +kernel) (by decide +kernel)
theorem mw_633 : (Cond.code ({ cls := "AidRows$Loans", name := "lent", desc := "()I" } : MethodName) prog_5_method_8_code (3 : Nat) (Option.some FieldType.int)) ∈ gG := gG_t (k := 633) (by decide +kernel) (by decide +kernel)
theorem mw_634 : (Cond.methodLink "AidRows" (252 : Nat) ({ cls := "AidRows$Asks", name := "open", desc := "()I" } : MethodName)) ∈ gG := gG_t (k := 634) (by decide +kernel) (by decide +kernel)
theorem mw_635 : (Cond.instanceMethod ({ cls := "AidRows$Asks", name := "open", desc := "()I" } : MethodName)) ∈ gG := gG_t (k := 635) (by decide +kernel) (by decide +kernel)
theorem mw_636 : (Cond.selects "AidRows$Asks" ({ cls := "AidRows$Asks", name := "open", desc := "()I" } : MethodName) ({ cls := "AidRows$Asks", name := "open", desc := "()I" } : MethodName)) ∈ gG := gG_t (k := 636) (by decide +kernel) (by decide +kernel)
theorem mw_637 : (Cond.code ({ cls := "AidRows$Asks", name := "open", desc := "()I" } : MethodName) prog_3_method_13_code (3 : Nat) (Option.some FieldType.int)) ∈ gG := gG_t (k := 637) (by decide +kernel) (by decide +kernel)
theorem mw_639 : (Cond.classLink "AidRowsLaw" (68 : Nat) "AidRowsModel") ∈ gG := gG_t (k := 639) (by decide +kernel) (by decide +kernel)
theorem mw_640 : (Cond.instantiable "AidRowsModel" (36 : Nat)) ∈ gG := gG_t (k := 640) (by decide +kernel) (by decide +kernel)
theorem mw_641 : (Cond.methodLink "AidRowsLaw" (70 : Nat) ({ cls := "AidRowsModel", name := "<init>", desc := "()V" } : MethodName)) ∈ gG := gG_t (k := 641) (by decide +kernel) (by decide +kernel)
theorem mw_642 : (Cond.instanceMethod ({ cls := "AidRowsModel", name := "<init>", desc := "()V" } : MethodName)) ∈ gG := gG_t (k := 642) (by decide +kernel) (by decide +kernel)
theorem mw_643 : (Cond.code ({ cls := "AidRowsModel", name := "<init>", desc := "()V" } : MethodName) prog_8_method_1_code (2 : Nat) (Option.none : Option FieldType)) ∈ gG := gG_t (k := 643) (by decide +kernel) (by decide +kernel)
theorem mw_644 : (Cond.methodLink "AidRowsModel" (1 : Nat) ({ cls := "java/lang/Object", name := "<init>", desc := "()V" } : MethodName)) ∈ gG := gG_t (k := 644) (by decide +kernel) (by decide +kernel)
theorem mw_645 : (Cond.fieldLink "AidRowsModel" (95 : Nat) "AidRowsModel" "thrown" "I") ∈ gG := gG_t (k := 645) (by decide +kernel) (by decide +kernel)
theorem mw_646 : (Cond.fieldLink "AidRowsModel" (118 : Nat) "AidRowsModel" "clock" "I") ∈ gG := gG_t (k := 646) (by decide +kernel) (by decide +kernel)
theorem mw_647 : (Cond.fieldLink "AidRowsModel" (99 : Nat) "AidRowsModel" "houses" "I") ∈ gG := gG_t (k := 647) (by decide +kernel) (by decide +kernel)
theorem mw_648 : (Cond.fieldLink "AidRowsModel" (7 : Nat) "AidRowsModel" "rank" "[I") ∈ gG := gG_t (k := 648) (by decide +kernel) (by decide +kernel)
theorem mw_649 : (Cond.fieldLink "AidRowsModel" (13 : Nat) "AidRowsModel" "price" "[I") ∈ gG := gG_t (k := 649) (by decide +kernel) (by decide +kernel)
end
section
theorem mw_650 : (Cond.fieldLink "AidRowsModel" (16 : Nat) "AidRowsModel" "isCut" "[Z") ∈ gG := gG_t (k := 650) (by decide +kernel) (by decide +kernel)
theorem mw_651 : (Cond.fieldLink "AidRowsModel" (115 : Nat) "AidRowsModel" "agreements" "I") ∈ gG := gG_t (k := 651) (by decide +kernel) (by decide +kernel)
theorem mw_652 : (Cond.fieldLink "AidRowsModel" (20 : Nat) "AidRowsModel" "house" "[I") ∈ gG := gG_t (k := 652) (by decide +kernel) (by decide +kernel)
theorem mw_653 : (Cond.fieldLink "AidRowsModel" (23 : Nat) "AidRowsModel" "kind" "[I") ∈ gG := gG_t (k := 653) (by decide +kernel) (by decide +kernel)
theorem mw_654 : (Cond.fieldLink "AidRowsModel" (26 : Nat) "AidRowsModel" "from" "[I") ∈ gG := gG_t (k := 654) (by decide +kernel) (by decide +kernel)
theorem mw_655 : (Cond.fieldLink "AidRowsModel" (29 : Nat) "AidRowsModel" "to" "[I") ∈ gG := gG_t (k := 655) (by decide +kernel) (by decide +kernel)
theorem mw_656 : (Cond.fieldLink "AidRowsModel" (32 : Nat) "AidRowsModel" "first" "[I") ∈ gG := gG_t (k := 656) (by decide +kernel) (by decide +kernel)
theorem mw_657 : (Cond.fieldLink "AidRowsModel" (35 : Nat) "AidRowsModel" "last" "[I") ∈ gG := gG_t (k := 657) (by decide +kernel) (by decide +kernel)
theorem mw_658 : (Cond.fieldLink "AidRowsModel" (38 : Nat) "AidRowsModel" "most" "[I") ∈ gG := gG_t (k := 658) (by decide +kernel) (by decide +kernel)
theorem mw_659 : (Cond.fieldLink "AidRowsModel" (128 : Nat) "AidRowsModel" "asks" "I") ∈ gG := gG_t (k := 659) (by decide +kernel) (by decide +kernel)
theorem mw_660 : (Cond.fieldLink "AidRowsModel" (41 : Nat) "AidRowsModel" "askKind" "[I") ∈ gG := gG_t (k := 660) (by decide +kernel) (by decide +kernel)
theorem mw_661 : (Cond.fieldLink "AidRowsModel" (44 : Nat) "AidRowsModel" "units" "[I") ∈ gG := gG_t (k := 661) (by decide +kernel) (by decide +kernel)
theorem mw_662 : (Cond.fieldLink "AidRowsModel" (47 : Nat) "AidRowsModel" "patience" "[I") ∈ gG := gG_t (k := 662) (by decide +kernel) (by decide +kernel)
theorem mw_663 : (Cond.fieldLink "AidRowsModel" (50 : Nat) "AidRowsModel" "state" "[I") ∈ gG := gG_t (k := 663) (by decide +kernel) (by decide +kernel)
theorem mw_664 : (Cond.fieldLink "AidRowsModel" (53 : Nat) "AidRowsModel" "place" "[I") ∈ gG := gG_t (k := 664) (by decide +kernel) (by decide +kernel)
theorem mw_665 : (Cond.fieldLink "AidRowsModel" (56 : Nat) "AidRowsModel" "since" "[I") ∈ gG := gG_t (k := 665) (by decide +kernel) (by decide +kernel)
theorem mw_666 : (Cond.fieldLink "AidRowsModel" (59 : Nat) "AidRowsModel" "got" "[I") ∈ gG := gG_t (k := 666) (by decide +kernel) (by decide +kernel)
theorem mw_667 : (Cond.fieldLink "AidRowsModel" (62 : Nat) "AidRowsModel" "times" "[I") ∈ gG := gG_t (k := 667) (by decide +kernel) (by decide +kernel)
theorem mw_668 : (Cond.fieldLink "AidRowsModel" (65 : Nat) "AidRowsModel" "lost" "[Z") ∈ gG := gG_t (k := 668) (by decide +kernel) (by decide +kernel)
theorem mw_669 : (Cond.fieldLink "AidRowsModel" (68 : Nat) "AidRowsModel" "wasAt" "[Z") ∈ gG := gG_t (k := 669) (by decide +kernel) (by decide +kernel)
theorem mw_670 : (Cond.fieldLink "AidRowsModel" (135 : Nat) "AidRowsModel" "loans" "I") ∈ gG := gG_t (k := 670) (by decide +kernel) (by decide +kernel)
theorem mw_671 : (Cond.fieldLink "AidRowsModel" (71 : Nat) "AidRowsModel" "lender" "[I") ∈ gG := gG_t (k := 671) (by decide +kernel) (by decide +kernel)
theorem mw_672 : (Cond.fieldLink "AidRowsModel" (74 : Nat) "AidRowsModel" "name" "[I") ∈ gG := gG_t (k := 672) (by decide +kernel) (by decide +kernel)
theorem mw_673 : (Cond.fieldLink "AidRowsModel" (77 : Nat) "AidRowsModel" "loanAsk" "[I") ∈ gG := gG_t (k := 673) (by decide +kernel) (by decide +kernel)
theorem mw_674 : (Cond.fieldLink "AidRowsModel" (80 : Nat) "AidRowsModel" "under" "[I") ∈ gG := gG_t (k := 674) (by decide +kernel) (by decide +kernel)
theorem mw_675 : (Cond.fieldLink "AidRowsModel" (83 : Nat) "AidRowsModel" "begins" "[I") ∈ gG := gG_t (k := 675) (by decide +kernel) (by decide +kernel)
theorem mw_676 : (Cond.fieldLink "AidRowsModel" (86 : Nat) "AidRowsModel" "ended" "[I") ∈ gG := gG_t (k := 676) (by decide +kernel) (by decide +kernel)
theorem mw_677 : (Cond.fieldLink "AidRowsModel" (89 : Nat) "AidRowsModel" "seen" "[I") ∈ gG := gG_t (k := 677) (by decide +kernel) (by decide +kernel)
theorem mw_678 : (Cond.fieldLink "AidRowsModel" (92 : Nat) "AidRowsModel" "handed" "[I") ∈ gG := gG_t (k := 678) (by decide +kernel) (by decide +kernel)
theorem mw_679 : (Cond.fieldLink "AidRowsModel" (149 : Nat) "AidRowsModel" "unheard" "I") ∈ gG := gG_t (k := 679) (by decide +kernel) (by decide +kernel)
theorem mw_680 : (Cond.fieldLink "AidRowsModel" (152 : Nat) "AidRowsModel" "repeated" "I") ∈ gG := gG_t (k := 680) (by decide +kernel) (by decide +kernel)
theorem mw_754 : (Cond.methodLink "AidRowsLaw" (77 : Nat) ({ cls := "AidRowsModel", name := "thrown", desc := "()I" } : MethodName)) ∈ gG := gG_t (k := 754) (by decide +kernel) (by decide +kernel)
theorem mw_755 : (Cond.instanceMethod ({ cls := "AidRowsModel", name := "thrown", desc := "()I" } : MethodName)) ∈ gG := gG_t (k := 755) (by decide +kernel) (by decide +kernel)
theorem mw_756 : (Cond.selects "AidRowsModel" ({ cls := "AidRowsModel", name := "thrown", desc := "()I" } : MethodName) ({ cls := "AidRowsModel", name := "thrown", desc := "()I" } : MethodName)) ∈ gG := gG_t (k := 756) (by decide +kernel) (by decide +kernel)
theorem mw_757 : (Cond.code ({ cls := "AidRowsModel", name := "thrown", desc := "()I" } : MethodName) prog_8_method_2_code (1 : Nat) (Option.some FieldType.int)) ∈ gG := gG_t (k := 757) (by decide +kernel) (by decide +kernel)
theorem mw_758 : (Cond.methodLink "AidRowsLaw" (76 : Nat) ({ cls := "AidRowsModel", name := "house", desc := "(II)I" } : MethodName)) ∈ gG := gG_t (k := 758) (by decide +kernel) (by decide +kernel)
theorem mw_759 : (Cond.instanceMethod ({ cls := "AidRowsModel", name := "house", desc := "(II)I" } : MethodName)) ∈ gG := gG_t (k := 759) (by decide +kernel) (by decide +kernel)
theorem mw_760 : (Cond.selects "AidRowsModel" ({ cls := "AidRowsModel", name := "house", desc := "(II)I" } : MethodName) ({ cls := "AidRowsModel", name := "house", desc := "(II)I" } : MethodName)) ∈ gG := gG_t (k := 760) (by decide +kernel) (by decide +kernel)
theorem mw_761 : (Cond.code ({ cls := "AidRowsModel", name := "house", desc := "(II)I" } : MethodName) prog_8_method_6_code (3 : Nat) (Option.some FieldType.int)) ∈ gG := gG_t (k := 761) (by decide +kernel) (by decide +kernel)
theorem mw_762 : (Cond.methodLink "AidRowsModel" (102 : Nat) ({ cls := "AidRowsModel", name := "in", desc := "(III)Z" } : MethodName)) ∈ gG := gG_t (k := 762) (by decide +kernel) (by decide +kernel)
theorem mw_763 : (Cond.static ({ cls := "AidRowsModel", name := "in", desc := "(III)Z" } : MethodName)) ∈ gG := gG_t (k := 763) (by decide +kernel) (by decide +kernel)
theorem mw_764 : (Cond.code ({ cls := "AidRowsModel", name := "in", desc := "(III)Z" } : MethodName) prog_8_method_3_code (3 : Nat) (Option.some FieldType.boolean)) ∈ gG := gG_t (k := 764) (by decide +kernel) (by decide +kernel)
theorem mw_765 : (Cond.methodLink "AidRowsModel" (106 : Nat) ({ cls := "AidRowsModel", name := "goes", desc := "(IZZZZ)Z" } : MethodName)) ∈ gG := gG_t (k := 765) (by decide +kernel) (by decide +kernel)
theorem mw_767 : (Cond.instanceMethod ({ cls := "AidRowsModel", name := "goes", desc := "(IZZZZ)Z" } : MethodName)) ∈ gG := gG_t (k := 767) (by decide +kernel) (by decide +kernel)
theorem mw_768 : (Cond.code ({ cls := "AidRowsModel", name := "goes", desc := "(IZZZZ)Z" } : MethodName) prog_8_method_4_code (8 : Nat) (Option.some FieldType.boolean)) ∈ gG := gG_t (k := 768) (by decide +kernel) (by decide +kernel)
theorem mw_769 : (Cond.methodLink "AidRowsLaw" (84 : Nat) ({ cls := "AidRowsModel", name := "agree", desc := "(IIIIII)I" } : MethodName)) ∈ gG := gG_t (k := 769) (by decide +kernel) (by decide +kernel)
theorem mw_770 : (Cond.instanceMethod ({ cls := "AidRowsModel", name := "agree", desc := "(IIIIII)I" } : MethodName)) ∈ gG := gG_t (k := 770) (by decide +kernel) (by decide +kernel)
theorem mw_771 : (Cond.selects "AidRowsModel" ({ cls := "AidRowsModel", name := "agree", desc := "(IIIIII)I" } : MethodName) ({ cls := "AidRowsModel", name := "agree", desc := "(IIIIII)I" } : MethodName)) ∈ gG := gG_t (k := 771) (by decide +kernel) (by decide +kernel)
theorem mw_772 : (Cond.code ({ cls := "AidRowsModel", name := "agree", desc := "(IIIIII)I" } : MethodName) prog_8_method_7_code (11 : Nat) (Option.some FieldType.int)) ∈ gG := gG_t (k := 772) (by decide +kernel) (by decide +kernel)
theorem mw_773 : (Cond.methodLink "AidRowsModel" (110 : Nat) ({ cls := "AidRowsModel", name := "isHouse", desc := "(I)Z" } : MethodName)) ∈ gG := gG_t (k := 773) (by decide +kernel) (by decide +kernel)
theorem mw_775 : (Cond.instanceMethod ({ cls := "AidRowsModel", name := "isHouse", desc := "(I)Z" } : MethodName)) ∈ gG := gG_t (k := 775) (by decide +kernel) (by decide +kernel)
theorem mw_776 : (Cond.code ({ cls := "AidRowsModel", name := "isHouse", desc := "(I)Z" } : MethodName) prog_8_method_5_code (2 : Nat) (Option.some FieldType.boolean)) ∈ gG := gG_t (k := 776) (by decide +kernel) (by decide +kernel)
theorem mw_777 : (Cond.constant "AidRowsModel" (114 : Nat) (99999 : Int32)) ∈ gG := gG_t (k := 777) (by decide +kernel) (by decide +kernel)
theorem mw_778 : (Cond.methodLink "AidRowsLaw" (88 : Nat) ({ cls := "AidRowsModel", name := "ask", desc := "(III)I" } : MethodName)) ∈ gG := gG_t (k := 778) (by decide +kernel) (by decide +kernel)
theorem mw_779 : (Cond.instanceMethod ({ cls := "AidRowsModel", name := "ask", desc := "(III)I" } : MethodName)) ∈ gG := gG_t (k := 779) (by decide +kernel) (by decide +kernel)
theorem mw_780 : (Cond.selects "AidRowsModel" ({ cls := "AidRowsModel", name := "ask", desc := "(III)I" } : MethodName) ({ cls := "AidRowsModel", name := "ask", desc := "(III)I" } : MethodName)) ∈ gG := gG_t (k := 780) (by decide +kernel) (by decide +kernel)
theorem mw_781 : (Cond.code ({ cls := "AidRowsModel", name := "ask", desc := "(III)I" } : MethodName) prog_8_method_11_code (4 : Nat) (Option.some FieldType.int)) ∈ gG := gG_t (k := 781) (by decide +kernel) (by decide +kernel)
theorem mw_782 : (Cond.methodLink "AidRowsModel" (131 : Nat) ({ cls := "AidRowsModel", name := "on", desc := "(I)V" } : MethodName)) ∈ gG := gG_t (k := 782) (by decide +kernel) (by decide +kernel)
theorem mw_784 : (Cond.instanceMethod ({ cls := "AidRowsModel", name := "on", desc := "(I)V" } : MethodName)) ∈ gG := gG_t (k := 784) (by decide +kernel) (by decide +kernel)
theorem mw_785 : (Cond.code ({ cls := "AidRowsModel", name := "on", desc := "(I)V" } : MethodName) prog_8_method_10_code (4 : Nat) (Option.none : Option FieldType)) ∈ gG := gG_t (k := 785) (by decide +kernel) (by decide +kernel)
theorem mw_786 : (Cond.methodLink "AidRowsModel" (124 : Nat) ({ cls := "AidRowsModel", name := "holding", desc := "(II)I" } : MethodName)) ∈ gG := gG_t (k := 786) (by decide +kernel) (by decide +kernel)
theorem mw_788 : (Cond.instanceMethod ({ cls := "AidRowsModel", name := "holding", desc := "(II)I" } : MethodName)) ∈ gG := gG_t (k := 788) (by decide +kernel) (by decide +kernel)
theorem mw_789 : (Cond.code ({ cls := "AidRowsModel", name := "holding", desc := "(II)I" } : MethodName) prog_8_method_9_code (4 : Nat) (Option.some FieldType.int)) ∈ gG := gG_t (k := 789) (by decide +kernel) (by decide +kernel)
theorem mw_790 : (Cond.methodLink "AidRowsModel" (121 : Nat) ({ cls := "AidRowsModel", name := "holds", desc := "(I)Z" } : MethodName)) ∈ gG := gG_t (k := 790) (by decide +kernel) (by decide +kernel)
theorem mw_792 : (Cond.instanceMethod ({ cls := "AidRowsModel", name := "holds", desc := "(I)Z" } : MethodName)) ∈ gG := gG_t (k := 792) (by decide +kernel) (by decide +kernel)
theorem mw_793 : (Cond.code ({ cls := "AidRowsModel", name := "holds", desc := "(I)Z" } : MethodName) prog_8_method_8_code (4 : Nat) (Option.some FieldType.boolean)) ∈ gG := gG_t (k := 793) (by decide +kernel) (by decide +kernel)
theorem mw_794 : (Cond.methodLink "AidRowsLaw" (92 : Nat) ({ cls := "AidRowsModel", name := "message", desc := "(IIIII)I" } : MethodName)) ∈ gG := gG_t (k := 794) (by decide +kernel) (by decide +kernel)
theorem mw_795 : (Cond.instanceMethod ({ cls := "AidRowsModel", name := "message", desc := "(IIIII)I" } : MethodName)) ∈ gG := gG_t (k := 795) (by decide +kernel) (by decide +kernel)
theorem mw_796 : (Cond.selects "AidRowsModel" ({ cls := "AidRowsModel", name := "message", desc := "(IIIII)I" } : MethodName) ({ cls := "AidRowsModel", name := "message", desc := "(IIIII)I" } : MethodName)) ∈ gG := gG_t (k := 796) (by decide +kernel) (by decide +kernel)
theorem mw_797 : (Cond.code ({ cls := "AidRowsModel", name := "message", desc := "(IIIII)I" } : MethodName) prog_8_method_16_code (11 : Nat) (Option.some FieldType.int)) ∈ gG := gG_t (k := 797) (by decide +kernel) (by decide +kernel)
theorem mw_798 : (Cond.methodLink "AidRowsModel" (145 : Nat) ({ cls := "AidRowsModel", name := "what", desc := "(III)I" } : MethodName)) ∈ gG := gG_t (k := 798) (by decide +kernel) (by decide +kernel)
theorem mw_800 : (Cond.instanceMethod ({ cls := "AidRowsModel", name := "what", desc := "(III)I" } : MethodName)) ∈ gG := gG_t (k := 800) (by decide +kernel) (by decide +kernel)
theorem mw_801 : (Cond.code ({ cls := "AidRowsModel", name := "what", desc := "(III)I" } : MethodName) prog_8_method_15_code (5 : Nat) (Option.some FieldType.int)) ∈ gG := gG_t (k := 801) (by decide +kernel) (by decide +kernel)
theorem mw_802 : (Cond.methodLink "AidRowsModel" (142 : Nat) ({ cls := "AidRowsModel", name := "lent", desc := "(I)I" } : MethodName)) ∈ gG := gG_t (k := 802) (by decide +kernel) (by decide +kernel)
theorem mw_804 : (Cond.instanceMethod ({ cls := "AidRowsModel", name := "lent", desc := "(I)I" } : MethodName)) ∈ gG := gG_t (k := 804) (by decide +kernel) (by decide +kernel)
theorem mw_805 : (Cond.code ({ cls := "AidRowsModel", name := "lent", desc := "(I)I" } : MethodName) prog_8_method_12_code (4 : Nat) (Option.some FieldType.int)) ∈ gG := gG_t (k := 805) (by decide +kernel) (by decide +kernel)
theorem mw_806 : (Cond.methodLink "AidRowsModel" (155 : Nat) ({ cls := "AidRowsModel", name := "lend", desc := "(IIII)V" } : MethodName)) ∈ gG := gG_t (k := 806) (by decide +kernel) (by decide +kernel)
theorem mw_808 : (Cond.instanceMethod ({ cls := "AidRowsModel", name := "lend", desc := "(IIII)V" } : MethodName)) ∈ gG := gG_t (k := 808) (by decide +kernel) (by decide +kernel)
theorem mw_809 : (Cond.code ({ cls := "AidRowsModel", name := "lend", desc := "(IIII)V" } : MethodName) prog_8_method_14_code (7 : Nat) (Option.none : Option FieldType)) ∈ gG := gG_t (k := 809) (by decide +kernel) (by decide +kernel)
theorem mw_810 : (Cond.methodLink "AidRowsModel" (138 : Nat) ({ cls := "AidRowsModel", name := "freeName", desc := "(I)I" } : MethodName)) ∈ gG := gG_t (k := 810) (by decide +kernel) (by decide +kernel)
theorem mw_812 : (Cond.instanceMethod ({ cls := "AidRowsModel", name := "freeName", desc := "(I)I" } : MethodName)) ∈ gG := gG_t (k := 812) (by decide +kernel) (by decide +kernel)
theorem mw_813 : (Cond.code ({ cls := "AidRowsModel", name := "freeName", desc := "(I)I" } : MethodName) prog_8_method_13_code (5 : Nat) (Option.some FieldType.int)) ∈ gG := gG_t (k := 813) (by decide +kernel) (by decide +kernel)
theorem mw_814 : (Cond.methodLink "AidRowsLaw" (95 : Nat) ({ cls := "AidRowsModel", name := "seen", desc := "(II)I" } : MethodName)) ∈ gG := gG_t (k := 814) (by decide +kernel) (by decide +kernel)
theorem mw_815 : (Cond.instanceMethod ({ cls := "AidRowsModel", name := "seen", desc := "(II)I" } : MethodName)) ∈ gG := gG_t (k := 815) (by decide +kernel) (by decide +kernel)
theorem mw_816 : (Cond.selects "AidRowsModel" ({ cls := "AidRowsModel", name := "seen", desc := "(II)I" } : MethodName) ({ cls := "AidRowsModel", name := "seen", desc := "(II)I" } : MethodName)) ∈ gG := gG_t (k := 816) (by decide +kernel) (by decide +kernel)
theorem mw_817 : (Cond.code ({ cls := "AidRowsModel", name := "seen", desc := "(II)I" } : MethodName) prog_8_method_17_code (3 : Nat) (Option.some FieldType.int)) ∈ gG := gG_t (k := 817) (by decide +kernel) (by decide +kernel)
theorem mw_818 : (Cond.methodLink "AidRowsLaw" (99 : Nat) ({ cls := "AidRowsModel", name := "tick", desc := "(I)I" } : MethodName)) ∈ gG := gG_t (k := 818) (by decide +kernel) (by decide +kernel)
theorem mw_819 : (Cond.instanceMethod ({ cls := "AidRowsModel", name := "tick", desc := "(I)I" } : MethodName)) ∈ gG := gG_t (k := 819) (by decide +kernel) (by decide +kernel)
theorem mw_820 : (Cond.selects "AidRowsModel" ({ cls := "AidRowsModel", name := "tick", desc := "(I)I" } : MethodName) ({ cls := "AidRowsModel", name := "tick", desc := "(I)I" } : MethodName)) ∈ gG := gG_t (k := 820) (by decide +kernel) (by decide +kernel)
theorem mw_821 : (Cond.code ({ cls := "AidRowsModel", name := "tick", desc := "(I)I" } : MethodName) prog_8_method_18_code (5 : Nat) (Option.some FieldType.int)) ∈ gG := gG_t (k := 821) (by decide +kernel) (by decide +kernel)
theorem mw_822 : (Cond.methodLink "AidRowsLaw" (103 : Nat) ({ cls := "AidRowsModel", name := "cut", desc := "(IZ)V" } : MethodName)) ∈ gG := gG_t (k := 822) (by decide +kernel) (by decide +kernel)
theorem mw_823 : (Cond.instanceMethod ({ cls := "AidRowsModel", name := "cut", desc := "(IZ)V" } : MethodName)) ∈ gG := gG_t (k := 823) (by decide +kernel) (by decide +kernel)
theorem mw_824 : (Cond.selects "AidRowsModel" ({ cls := "AidRowsModel", name := "cut", desc := "(IZ)V" } : MethodName) ({ cls := "AidRowsModel", name := "cut", desc := "(IZ)V" } : MethodName)) ∈ gG := gG_t (k := 824) (by decide +kernel) (by decide +kernel)
theorem mw_825 : (Cond.code ({ cls := "AidRowsModel", name := "cut", desc := "(IZ)V" } : MethodName) prog_8_method_19_code (3 : Nat) (Option.none : Option FieldType)) ∈ gG := gG_t (k := 825) (by decide +kernel) (by decide +kernel)
theorem mw_826 : (Cond.methodLink "AidRowsLaw" (107 : Nat) ({ cls := "AidRowsModel", name := "end", desc := "(I)V" } : MethodName)) ∈ gG := gG_t (k := 826) (by decide +kernel) (by decide +kernel)
theorem mw_827 : (Cond.instanceMethod ({ cls := "AidRowsModel", name := "end", desc := "(I)V" } : MethodName)) ∈ gG := gG_t (k := 827) (by decide +kernel) (by decide +kernel)
theorem mw_828 : (Cond.selects "AidRowsModel" ({ cls := "AidRowsModel", name := "end", desc := "(I)V" } : MethodName) ({ cls := "AidRowsModel", name := "end", desc := "(I)V" } : MethodName)) ∈ gG := gG_t (k := 828) (by decide +kernel) (by decide +kernel)
theorem mw_829 : (Cond.code ({ cls := "AidRowsModel", name := "end", desc := "(I)V" } : MethodName) prog_8_method_21_code (2 : Nat) (Option.none : Option FieldType)) ∈ gG := gG_t (k := 829) (by decide +kernel) (by decide +kernel)
theorem mw_830 : (Cond.methodLink "AidRowsModel" (159 : Nat) ({ cls := "AidRowsModel", name := "isLoan", desc := "(I)Z" } : MethodName)) ∈ gG := gG_t (k := 830) (by decide +kernel) (by decide +kernel)
theorem mw_832 : (Cond.instanceMethod ({ cls := "AidRowsModel", name := "isLoan", desc := "(I)Z" } : MethodName)) ∈ gG := gG_t (k := 832) (by decide +kernel) (by decide +kernel)
theorem mw_833 : (Cond.code ({ cls := "AidRowsModel", name := "isLoan", desc := "(I)Z" } : MethodName) prog_8_method_20_code (2 : Nat) (Option.some FieldType.boolean)) ∈ gG := gG_t (k := 833) (by decide +kernel) (by decide +kernel)
theorem mw_834 : (Cond.methodLink "AidRowsLaw" (110 : Nat) ({ cls := "AidRowsModel", name := "askAt", desc := "(II)I" } : MethodName)) ∈ gG := gG_t (k := 834) (by decide +kernel) (by decide +kernel)
theorem mw_835 : (Cond.instanceMethod ({ cls := "AidRowsModel", name := "askAt", desc := "(II)I" } : MethodName)) ∈ gG := gG_t (k := 835) (by decide +kernel) (by decide +kernel)
theorem mw_836 : (Cond.selects "AidRowsModel" ({ cls := "AidRowsModel", name := "askAt", desc := "(II)I" } : MethodName) ({ cls := "AidRowsModel", name := "askAt", desc := "(II)I" } : MethodName)) ∈ gG := gG_t (k := 836) (by decide +kernel) (by decide +kernel)
theorem mw_837 : (Cond.code ({ cls := "AidRowsModel", name := "askAt", desc := "(II)I" } : MethodName) prog_8_method_22_code (3 : Nat) (Option.some FieldType.int)) ∈ gG := gG_t (k := 837) (by decide +kernel) (by decide +kernel)
theorem mw_838 : (Cond.methodLink "AidRowsLaw" (113 : Nat) ({ cls := "AidRowsModel", name := "loanAt", desc := "(II)I" } : MethodName)) ∈ gG := gG_t (k := 838) (by decide +kernel) (by decide +kernel)
theorem mw_839 : (Cond.instanceMethod ({ cls := "AidRowsModel", name := "loanAt", desc := "(II)I" } : MethodName)) ∈ gG := gG_t (k := 839) (by decide +kernel) (by decide +kernel)
theorem mw_840 : (Cond.selects "AidRowsModel" ({ cls := "AidRowsModel", name := "loanAt", desc := "(II)I" } : MethodName) ({ cls := "AidRowsModel", name := "loanAt", desc := "(II)I" } : MethodName)) ∈ gG := gG_t (k := 840) (by decide +kernel) (by decide +kernel)
theorem mw_841 : (Cond.code ({ cls := "AidRowsModel", name := "loanAt", desc := "(II)I" } : MethodName) prog_8_method_24_code (3 : Nat) (Option.some FieldType.int)) ∈ gG := gG_t (k := 841) (by decide +kernel) (by decide +kernel)
theorem mw_842 : (Cond.methodLink "AidRowsModel" (162 : Nat) ({ cls := "AidRowsModel", name := "costOf", desc := "(I)I" } : MethodName)) ∈ gG := gG_t (k := 842) (by decide +kernel) (by decide +kernel)
theorem mw_844 : (Cond.instanceMethod ({ cls := "AidRowsModel", name := "costOf", desc := "(I)I" } : MethodName)) ∈ gG := gG_t (k := 844) (by decide +kernel) (by decide +kernel)
theorem mw_845 : (Cond.code ({ cls := "AidRowsModel", name := "costOf", desc := "(I)I" } : MethodName) prog_8_method_23_code (4 : Nat) (Option.some FieldType.int)) ∈ gG := gG_t (k := 845) (by decide +kernel) (by decide +kernel)
theorem mw_846 : (Cond.methodLink "AidRowsLaw" (116 : Nat) ({ cls := "AidRowsModel", name := "cost", desc := "(I)I" } : MethodName)) ∈ gG := gG_t (k := 846) (by decide +kernel) (by decide +kernel)
theorem mw_847 : (Cond.instanceMethod ({ cls := "AidRowsModel", name := "cost", desc := "(I)I" } : MethodName)) ∈ gG := gG_t (k := 847) (by decide +kernel) (by decide +kernel)
theorem mw_848 : (Cond.selects "AidRowsModel" ({ cls := "AidRowsModel", name := "cost", desc := "(I)I" } : MethodName) ({ cls := "AidRowsModel", name := "cost", desc := "(I)I" } : MethodName)) ∈ gG := gG_t (k := 848) (by decide +kernel) (by decide +kernel)
theorem mw_849 : (Cond.code ({ cls := "AidRowsModel", name := "cost", desc := "(I)I" } : MethodName) prog_8_method_25_code (4 : Nat) (Option.some FieldType.int)) ∈ gG := gG_t (k := 849) (by decide +kernel) (by decide +kernel)
theorem mw_850 : (Cond.methodLink "AidRowsLaw" (120 : Nat) ({ cls := "AidRowsModel", name := "named", desc := "(I)I" } : MethodName)) ∈ gG := gG_t (k := 850) (by decide +kernel) (by decide +kernel)
theorem mw_851 : (Cond.instanceMethod ({ cls := "AidRowsModel", name := "named", desc := "(I)I" } : MethodName)) ∈ gG := gG_t (k := 851) (by decide +kernel) (by decide +kernel)
theorem mw_852 : (Cond.selects "AidRowsModel" ({ cls := "AidRowsModel", name := "named", desc := "(I)I" } : MethodName) ({ cls := "AidRowsModel", name := "named", desc := "(I)I" } : MethodName)) ∈ gG := gG_t (k := 852) (by decide +kernel) (by decide +kernel)
theorem mw_853 : (Cond.code ({ cls := "AidRowsModel", name := "named", desc := "(I)I" } : MethodName) prog_8_method_26_code (3 : Nat) (Option.some FieldType.int)) ∈ gG := gG_t (k := 853) (by decide +kernel) (by decide +kernel)
theorem mw_854 : (Cond.methodLink "AidRowsLaw" (124 : Nat) ({ cls := "AidRowsModel", name := "hand", desc := "(II)V" } : MethodName)) ∈ gG := gG_t (k := 854) (by decide +kernel) (by decide +kernel)
theorem mw_855 : (Cond.instanceMethod ({ cls := "AidRowsModel", name := "hand", desc := "(II)V" } : MethodName)) ∈ gG := gG_t (k := 855) (by decide +kernel) (by decide +kernel)
theorem mw_856 : (Cond.selects "AidRowsModel" ({ cls := "AidRowsModel", name := "hand", desc := "(II)V" } : MethodName) ({ cls := "AidRowsModel", name := "hand", desc := "(II)V" } : MethodName)) ∈ gG := gG_t (k := 856) (by decide +kernel) (by decide +kernel)
theorem mw_857 : (Cond.code ({ cls := "AidRowsModel", name := "hand", desc := "(II)V" } : MethodName) prog_8_method_27_code (4 : Nat) (Option.none : Option FieldType)) ∈ gG := gG_t (k := 857) (by decide +kernel) (by decide +kernel)
theorem mw_858 : (Cond.methodLink "AidRowsLaw" (127 : Nat) ({ cls := "AidRowsModel", name := "handed", desc := "(I)I" } : MethodName)) ∈ gG := gG_t (k := 858) (by decide +kernel) (by decide +kernel)
theorem mw_859 : (Cond.instanceMethod ({ cls := "AidRowsModel", name := "handed", desc := "(I)I" } : MethodName)) ∈ gG := gG_t (k := 859) (by decide +kernel) (by decide +kernel)
theorem mw_860 : (Cond.selects "AidRowsModel" ({ cls := "AidRowsModel", name := "handed", desc := "(I)I" } : MethodName) ({ cls := "AidRowsModel", name := "handed", desc := "(I)I" } : MethodName)) ∈ gG := gG_t (k := 860) (by decide +kernel) (by decide +kernel)
theorem mw_861 : (Cond.code ({ cls := "AidRowsModel", name := "handed", desc := "(I)I" } : MethodName) prog_8_method_28_code (2 : Nat) (Option.some FieldType.int)) ∈ gG := gG_t (k := 861) (by decide +kernel) (by decide +kernel)
theorem mw_862 : (Cond.methodLink "AidRowsLaw" (130 : Nat) ({ cls := "AidRowsModel", name := "count", desc := "(I)I" } : MethodName)) ∈ gG := gG_t (k := 862) (by decide +kernel) (by decide +kernel)
theorem mw_863 : (Cond.instanceMethod ({ cls := "AidRowsModel", name := "count", desc := "(I)I" } : MethodName)) ∈ gG := gG_t (k := 863) (by decide +kernel) (by decide +kernel)
theorem mw_864 : (Cond.selects "AidRowsModel" ({ cls := "AidRowsModel", name := "count", desc := "(I)I" } : MethodName) ({ cls := "AidRowsModel", name := "count", desc := "(I)I" } : MethodName)) ∈ gG := gG_t (k := 864) (by decide +kernel) (by decide +kernel)
theorem mw_865 : (Cond.code ({ cls := "AidRowsModel", name := "count", desc := "(I)I" } : MethodName) prog_8_method_29_code (4 : Nat) (Option.some FieldType.int)) ∈ gG := gG_t (k := 865) (by decide +kernel) (by decide +kernel)
theorem ms_0 : Cond.selects "java/lang/Throwable" ⟨"java/lang/Throwable", "fillInStackTrace", "(I)Ljava/lang/Throwable;"⟩ ⟨"java/lang/Throwable", "fillInStackTrace", "(I)Ljava/lang/Throwable;"⟩ ∈ gG := gG_s (k := 0) (by decide +kernel) (by decide +kernel)
theorem ms_1 : Cond.selects "AidRows" ⟨"AidRows", "sendOn", "(I)V"⟩ ⟨"AidRows", "sendOn", "(I)V"⟩ ∈ gG := gG_s (k := 1) (by decide +kernel) (by decide +kernel)
theorem ms_2 : Cond.selects "AidRows" ⟨"AidRows", "nextHouse", "(I)I"⟩ ⟨"AidRows", "nextHouse", "(I)I"⟩ ∈ gG := gG_s (k := 2) (by decide +kernel) (by decide +kernel)
theorem ms_3 : Cond.selects "AidRows$Agreements" ⟨"AidRows$Agreements", "holdsAt", "(II)Z"⟩ ⟨"AidRows$Agreements", "holdsAt", "(II)Z"⟩ ∈ gG := gG_s (k := 3) (by decide +kernel) (by decide +kernel)
theorem ms_4 : Cond.selects "AidRows" ⟨"AidRows", "judge", "(III)I"⟩ ⟨"AidRows", "judge", "(III)I"⟩ ∈ gG := gG_s (k := 4) (by decide +kernel) (by decide +kernel)
theorem ms_5 : Cond.selects "AidRows" ⟨"AidRows", "mostToTake", "(II)I"⟩ ⟨"AidRows", "mostToTake", "(II)I"⟩ ∈ gG := gG_s (k := 5) (by decide +kernel) (by decide +kernel)
theorem ms_6 : Cond.selects "AidRows" ⟨"AidRows", "take", "(IIII)V"⟩ ⟨"AidRows", "take", "(IIII)V"⟩ ∈ gG := gG_s (k := 6) (by decide +kernel) (by decide +kernel)
theorem ms_7 : Cond.selects "AidRows" ⟨"AidRows", "lend", "(IIII)V"⟩ ⟨"AidRows", "lend", "(IIII)V"⟩ ∈ gG := gG_s (k := 7) (by decide +kernel) (by decide +kernel)
theorem ms_8 : Cond.selects "AidRows$Loans" ⟨"AidRows$Loans", "freeName", "(I)I"⟩ ⟨"AidRows$Loans", "freeName", "(I)I"⟩ ∈ gG := gG_s (k := 8) (by decide +kernel) (by decide +kernel)
theorem ms_9 : Cond.selects "AidRows" ⟨"AidRows", "nextEvent", "(I)I"⟩ ⟨"AidRows", "nextEvent", "(I)I"⟩ ∈ gG := gG_s (k := 9) (by decide +kernel) (by decide +kernel)
theorem ms_10 : Cond.selects "AidRows" ⟨"AidRows", "endLoansWithAgreements", "()V"⟩ ⟨"AidRows", "endLoansWithAgreements", "()V"⟩ ∈ gG := gG_s (k := 10) (by decide +kernel) (by decide +kernel)
theorem ms_11 : Cond.selects "AidRows" ⟨"AidRows", "sendOnImpatientAsks", "()I"⟩ ⟨"AidRows", "sendOnImpatientAsks", "()I"⟩ ∈ gG := gG_s (k := 11) (by decide +kernel) (by decide +kernel)
theorem ms_12 : Cond.selects "AidRows" ⟨"AidRows", "costOfLoan", "(I)I"⟩ ⟨"AidRows", "costOfLoan", "(I)I"⟩ ∈ gG := gG_s (k := 12) (by decide +kernel) (by decide +kernel)
theorem ms_13 : Cond.selects "AidRowsModel" ⟨"AidRowsModel", "goes", "(IZZZZ)Z"⟩ ⟨"AidRowsModel", "goes", "(IZZZZ)Z"⟩ ∈ gG := gG_s (k := 13) (by decide +kernel) (by decide +kernel)
theorem ms_14 : Cond.selects "AidRowsModel" ⟨"AidRowsModel", "isHouse", "(I)Z"⟩ ⟨"AidRowsModel", "isHouse", "(I)Z"⟩ ∈ gG := gG_s (k := 14) (by decide +kernel) (by decide +kernel)
theorem ms_15 : Cond.selects "AidRowsModel" ⟨"AidRowsModel", "on", "(I)V"⟩ ⟨"AidRowsModel", "on", "(I)V"⟩ ∈ gG := gG_s (k := 15) (by decide +kernel) (by decide +kernel)
theorem ms_16 : Cond.selects "AidRowsModel" ⟨"AidRowsModel", "holding", "(II)I"⟩ ⟨"AidRowsModel", "holding", "(II)I"⟩ ∈ gG := gG_s (k := 16) (by decide +kernel) (by decide +kernel)
theorem ms_17 : Cond.selects "AidRowsModel" ⟨"AidRowsModel", "holds", "(I)Z"⟩ ⟨"AidRowsModel", "holds", "(I)Z"⟩ ∈ gG := gG_s (k := 17) (by decide +kernel) (by decide +kernel)
theorem ms_18 : Cond.selects "AidRowsModel" ⟨"AidRowsModel", "what", "(III)I"⟩ ⟨"AidRowsModel", "what", "(III)I"⟩ ∈ gG := gG_s (k := 18) (by decide +kernel) (by decide +kernel)
theorem ms_19 : Cond.selects "AidRowsModel" ⟨"AidRowsModel", "lent", "(I)I"⟩ ⟨"AidRowsModel", "lent", "(I)I"⟩ ∈ gG := gG_s (k := 19) (by decide +kernel) (by decide +kernel)
theorem ms_20 : Cond.selects "AidRowsModel" ⟨"AidRowsModel", "lend", "(IIII)V"⟩ ⟨"AidRowsModel", "lend", "(IIII)V"⟩ ∈ gG := gG_s (k := 20) (by decide +kernel) (by decide +kernel)
theorem ms_21 : Cond.selects "AidRowsModel" ⟨"AidRowsModel", "freeName", "(I)I"⟩ ⟨"AidRowsModel", "freeName", "(I)I"⟩ ∈ gG := gG_s (k := 21) (by decide +kernel) (by decide +kernel)
theorem ms_22 : Cond.selects "AidRowsModel" ⟨"AidRowsModel", "isLoan", "(I)Z"⟩ ⟨"AidRowsModel", "isLoan", "(I)Z"⟩ ∈ gG := gG_s (k := 22) (by decide +kernel) (by decide +kernel)
theorem ms_23 : Cond.selects "AidRowsModel" ⟨"AidRowsModel", "costOf", "(I)I"⟩ ⟨"AidRowsModel", "costOf", "(I)I"⟩ ∈ gG := gG_s (k := 23) (by decide +kernel) (by decide +kernel)
end
section
theorem dA_init_0 : decode cA_init 0 = .ok (.aload_n 0, 1) := by decide +kernel
theorem dA_init_1 : decode cA_init 1 = .ok (.invokespecial 1, 3) := by decide +kernel
theorem dA_init_4 : decode cA_init 4 = .ok (.aload_n 0, 1) := by decide +kernel
theorem dA_init_5 : decode cA_init 5 = .ok (.new 7, 3) := by decide +kernel
theorem dA_init_8 : decode cA_init 8 = .ok (.dup, 1) := by decide +kernel
theorem dA_init_9 : decode cA_init 9 = .ok (.invokespecial 9, 3) := by decide +kernel
theorem dA_init_12 : decode cA_init 12 = .ok (.putfield 10, 3) := by decide +kernel
theorem dA_init_15 : decode cA_init 15 = .ok (.aload_n 0, 1) := by decide +kernel
theorem dA_init_16 : decode cA_init 16 = .ok (.new 16, 3) := by decide +kernel
theorem dA_init_19 : decode cA_init 19 = .ok (.dup, 1) := by decide +kernel
theorem dA_init_20 : decode cA_init 20 = .ok (.invokespecial 18, 3) := by decide +kernel
theorem dA_init_23 : decode cA_init 23 = .ok (.putfield 19, 3) := by decide +kernel
theorem dA_init_26 : decode cA_init 26 = .ok (.aload_n 0, 1) := by decide +kernel
theorem dA_init_27 : decode cA_init 27 = .ok (.new 23, 3) := by decide +kernel
theorem dA_init_30 : decode cA_init 30 = .ok (.dup, 1) := by decide +kernel
theorem dA_init_31 : decode cA_init 31 = .ok (.invokespecial 25, 3) := by decide +kernel
theorem dA_init_34 : decode cA_init 34 = .ok (.putfield 26, 3) := by decide +kernel
theorem dA_init_37 : decode cA_init 37 = .ok (.aload_n 0, 1) := by decide +kernel
theorem dA_init_38 : decode cA_init 38 = .ok (.new 30, 3) := by decide +kernel
theorem dA_init_41 : decode cA_init 41 = .ok (.dup, 1) := by decide +kernel
theorem dA_init_42 : decode cA_init 42 = .ok (.invokespecial 32, 3) := by decide +kernel
theorem dA_init_45 : decode cA_init 45 = .ok (.putfield 33, 3) := by decide +kernel
theorem dA_init_48 : decode cA_init 48 = .ok (.aload_n 0, 1) := by decide +kernel
theorem dA_init_49 : decode cA_init 49 = .ok (.new 37, 3) := by decide +kernel
theorem dA_init_52 : decode cA_init 52 = .ok (.dup, 1) := by decide +kernel
theorem dA_init_53 : decode cA_init 53 = .ok (.invokespecial 39, 3) := by decide +kernel
theorem dA_init_56 : decode cA_init 56 = .ok (.putfield 40, 3) := by decide +kernel
theorem dA_init_59 : decode cA_init 59 = .ok (.aload_n 0, 1) := by decide +kernel
theorem dA_init_60 : decode cA_init 60 = .ok (.bipush 100, 2) := by decide +kernel
theorem dA_init_62 : decode cA_init 62 = .ok (.newarray .int, 2) := by decide +kernel
theorem dA_init_64 : decode cA_init 64 = .ok (.putfield 44, 3) := by decide +kernel
theorem dA_init_67 : decode cA_init 67 = .ok (.aload_n 0, 1) := by decide +kernel
theorem dA_init_68 : decode cA_init 68 = .ok (.getfield 44, 3) := by decide +kernel
theorem dA_init_71 : decode cA_init 71 = .ok (.iconst (-1), 1) := by decide +kernel
theorem dA_init_72 : decode cA_init 72 = .ok (.invokestatic 48, 3) := by decide +kernel
theorem dA_init_75 : decode cA_init 75 = .ok (.return_, 1) := by decide +kernel
theorem dA_house_0 : decode cA_house 0 = .ok (.iload_n 1, 1) := by decide +kernel
theorem dA_house_1 : decode cA_house 1 = .ok (.iconst 0, 1) := by decide +kernel
theorem dA_house_2 : decode cA_house 2 = .ok (.bipush 9, 2) := by decide +kernel
theorem dA_house_4 : decode cA_house 4 = .ok (.invokestatic 54, 3) := by decide +kernel
theorem dA_house_7 : decode cA_house 7 = .ok (.ifCond .eq 14, 3) := by decide +kernel
theorem dA_house_10 : decode cA_house 10 = .ok (.iload_n 2, 1) := by decide +kernel
theorem dA_house_11 : decode cA_house 11 = .ok (.iconst 0, 1) := by decide +kernel
theorem dA_house_12 : decode cA_house 12 = .ok (.sipush 1000, 3) := by decide +kernel
theorem dA_house_15 : decode cA_house 15 = .ok (.invokestatic 54, 3) := by decide +kernel
theorem dA_house_18 : decode cA_house 18 = .ok (.ifCond .ne 13, 3) := by decide +kernel
theorem dA_house_21 : decode cA_house 21 = .ok (.new 58, 3) := by decide +kernel
theorem dA_house_24 : decode cA_house 24 = .ok (.dup, 1) := by decide +kernel
theorem dA_house_25 : decode cA_house 25 = .ok (.ldc 60, 2) := by decide +kernel
theorem dA_house_27 : decode cA_house 27 = .ok (.invokespecial 62, 3) := by decide +kernel
theorem dA_house_30 : decode cA_house 30 = .ok (.athrow, 1) := by decide +kernel
theorem dA_house_31 : decode cA_house 31 = .ok (.aload_n 0, 1) := by decide +kernel
theorem dA_house_32 : decode cA_house 32 = .ok (.getfield 10, 3) := by decide +kernel
theorem dA_house_35 : decode cA_house 35 = .ok (.invokevirtual 65, 3) := by decide +kernel
theorem dA_house_38 : decode cA_house 38 = .ok (.ifCond .eq 13, 3) := by decide +kernel
theorem dA_house_41 : decode cA_house 41 = .ok (.new 69, 3) := by decide +kernel
theorem dA_house_44 : decode cA_house 44 = .ok (.dup, 1) := by decide +kernel
theorem dA_house_45 : decode cA_house 45 = .ok (.ldc 71, 2) := by decide +kernel
theorem dA_house_47 : decode cA_house 47 = .ok (.invokespecial 73, 3) := by decide +kernel
theorem dA_house_50 : decode cA_house 50 = .ok (.athrow, 1) := by decide +kernel
theorem dA_house_51 : decode cA_house 51 = .ok (.aload_n 0, 1) := by decide +kernel
theorem dA_house_52 : decode cA_house 52 = .ok (.getfield 10, 3) := by decide +kernel
theorem dA_house_55 : decode cA_house 55 = .ok (.iload_n 1, 1) := by decide +kernel
theorem dA_house_56 : decode cA_house 56 = .ok (.iload_n 2, 1) := by decide +kernel
theorem dA_house_57 : decode cA_house 57 = .ok (.invokevirtual 74, 3) := by decide +kernel
theorem dA_house_60 : decode cA_house 60 = .ok (.ireturn, 1) := by decide +kernel
theorem dA_agree_0 : decode cA_agree 0 = .ok (.aload_n 0, 1) := by decide +kernel
theorem dA_agree_1 : decode cA_agree 1 = .ok (.getfield 10, 3) := by decide +kernel
theorem dA_agree_4 : decode cA_agree 4 = .ok (.iload_n 1, 1) := by decide +kernel
theorem dA_agree_5 : decode cA_agree 5 = .ok (.invokevirtual 78, 3) := by decide +kernel
theorem dA_agree_8 : decode cA_agree 8 = .ok (.ifCond .eq 13, 3) := by decide +kernel
theorem dA_agree_11 : decode cA_agree 11 = .ok (.iload_n 2, 1) := by decide +kernel
theorem dA_agree_12 : decode cA_agree 12 = .ok (.iconst 0, 1) := by decide +kernel
theorem dA_agree_13 : decode cA_agree 13 = .ok (.bipush 9, 2) := by decide +kernel
theorem dA_agree_15 : decode cA_agree 15 = .ok (.invokestatic 54, 3) := by decide +kernel
theorem dA_agree_18 : decode cA_agree 18 = .ok (.ifCond .ne 13, 3) := by decide +kernel
theorem dA_agree_21 : decode cA_agree 21 = .ok (.new 82, 3) := by decide +kernel
theorem dA_agree_24 : decode cA_agree 24 = .ok (.dup, 1) := by decide +kernel
theorem dA_agree_25 : decode cA_agree 25 = .ok (.ldc 84, 2) := by decide +kernel
theorem dA_agree_27 : decode cA_agree 27 = .ok (.invokespecial 86, 3) := by decide +kernel
theorem dA_agree_30 : decode cA_agree 30 = .ok (.athrow, 1) := by decide +kernel
theorem dA_agree_31 : decode cA_agree 31 = .ok (.iload_n 3, 1) := by decide +kernel
theorem dA_agree_32 : decode cA_agree 32 = .ok (.iload 4, 2) := by decide +kernel
theorem dA_agree_34 : decode cA_agree 34 = .ok (.invokestatic 87, 3) := by decide +kernel
theorem dA_agree_37 : decode cA_agree 37 = .ok (.ifCond .eq 22, 3) := by decide +kernel
theorem dA_agree_40 : decode cA_agree 40 = .ok (.iload 5, 2) := by decide +kernel
theorem dA_agree_42 : decode cA_agree 42 = .ok (.invokestatic 91, 3) := by decide +kernel
theorem dA_agree_45 : decode cA_agree 45 = .ok (.ifCond .eq 14, 3) := by decide +kernel
theorem dA_agree_48 : decode cA_agree 48 = .ok (.iload 6, 2) := by decide +kernel
theorem dA_agree_50 : decode cA_agree 50 = .ok (.iconst 1, 1) := by decide +kernel
theorem dA_agree_51 : decode cA_agree 51 = .ok (.bipush 20, 2) := by decide +kernel
theorem dA_agree_53 : decode cA_agree 53 = .ok (.invokestatic 54, 3) := by decide +kernel
theorem dA_agree_56 : decode cA_agree 56 = .ok (.ifCond .ne 13, 3) := by decide +kernel
theorem dA_agree_59 : decode cA_agree 59 = .ok (.new 58, 3) := by decide +kernel
theorem dA_agree_62 : decode cA_agree 62 = .ok (.dup, 1) := by decide +kernel
theorem dA_agree_63 : decode cA_agree 63 = .ok (.ldc 94, 2) := by decide +kernel
theorem dA_agree_65 : decode cA_agree 65 = .ok (.invokespecial 62, 3) := by decide +kernel
theorem dA_agree_68 : decode cA_agree 68 = .ok (.athrow, 1) := by decide +kernel
theorem dA_agree_69 : decode cA_agree 69 = .ok (.aload_n 0, 1) := by decide +kernel
theorem dA_agree_70 : decode cA_agree 70 = .ok (.getfield 19, 3) := by decide +kernel
theorem dA_agree_73 : decode cA_agree 73 = .ok (.iload_n 1, 1) := by decide +kernel
theorem dA_agree_74 : decode cA_agree 74 = .ok (.iload_n 2, 1) := by decide +kernel
theorem dA_agree_75 : decode cA_agree 75 = .ok (.iload_n 3, 1) := by decide +kernel
theorem dA_agree_76 : decode cA_agree 76 = .ok (.iload 4, 2) := by decide +kernel
theorem dA_agree_78 : decode cA_agree 78 = .ok (.invokevirtual 96, 3) := by decide +kernel
theorem dA_agree_81 : decode cA_agree 81 = .ok (.ifCond .eq 13, 3) := by decide +kernel
theorem dA_agree_84 : decode cA_agree 84 = .ok (.new 100, 3) := by decide +kernel
theorem dA_agree_87 : decode cA_agree 87 = .ok (.dup, 1) := by decide +kernel
theorem dA_agree_88 : decode cA_agree 88 = .ok (.ldc 102, 2) := by decide +kernel
theorem dA_agree_90 : decode cA_agree 90 = .ok (.invokespecial 104, 3) := by decide +kernel
theorem dA_agree_93 : decode cA_agree 93 = .ok (.athrow, 1) := by decide +kernel
theorem dA_agree_94 : decode cA_agree 94 = .ok (.aload_n 0, 1) := by decide +kernel
theorem dA_agree_95 : decode cA_agree 95 = .ok (.getfield 19, 3) := by decide +kernel
theorem dA_agree_98 : decode cA_agree 98 = .ok (.invokevirtual 105, 3) := by decide +kernel
theorem dA_agree_101 : decode cA_agree 101 = .ok (.ifCond .eq 13, 3) := by decide +kernel
theorem dA_agree_104 : decode cA_agree 104 = .ok (.new 69, 3) := by decide +kernel
theorem dA_agree_107 : decode cA_agree 107 = .ok (.dup, 1) := by decide +kernel
theorem dA_agree_108 : decode cA_agree 108 = .ok (.ldc 106, 2) := by decide +kernel
theorem dA_agree_110 : decode cA_agree 110 = .ok (.invokespecial 73, 3) := by decide +kernel
theorem dA_agree_113 : decode cA_agree 113 = .ok (.athrow, 1) := by decide +kernel
theorem dA_agree_114 : decode cA_agree 114 = .ok (.aload_n 0, 1) := by decide +kernel
theorem dA_agree_115 : decode cA_agree 115 = .ok (.getfield 19, 3) := by decide +kernel
theorem dA_agree_118 : decode cA_agree 118 = .ok (.iload_n 1, 1) := by decide +kernel
theorem dA_agree_119 : decode cA_agree 119 = .ok (.iload_n 2, 1) := by decide +kernel
theorem dA_agree_120 : decode cA_agree 120 = .ok (.iload_n 3, 1) := by decide +kernel
theorem dA_agree_121 : decode cA_agree 121 = .ok (.iload 4, 2) := by decide +kernel
theorem dA_agree_123 : decode cA_agree 123 = .ok (.iload 5, 2) := by decide +kernel
theorem dA_agree_125 : decode cA_agree 125 = .ok (.iload 6, 2) := by decide +kernel
theorem dA_agree_127 : decode cA_agree 127 = .ok (.invokevirtual 108, 3) := by decide +kernel
theorem dA_agree_130 : decode cA_agree 130 = .ok (.ireturn, 1) := by decide +kernel
theorem dA_ask_0 : decode cA_ask 0 = .ok (.iload_n 1, 1) := by decide +kernel
theorem dA_ask_1 : decode cA_ask 1 = .ok (.iconst 0, 1) := by decide +kernel
theorem dA_ask_2 : decode cA_ask 2 = .ok (.bipush 9, 2) := by decide +kernel
theorem dA_ask_4 : decode cA_ask 4 = .ok (.invokestatic 54, 3) := by decide +kernel
theorem dA_ask_7 : decode cA_ask 7 = .ok (.ifCond .ne 13, 3) := by decide +kernel
theorem dA_ask_10 : decode cA_ask 10 = .ok (.new 82, 3) := by decide +kernel
theorem dA_ask_13 : decode cA_ask 13 = .ok (.dup, 1) := by decide +kernel
theorem dA_ask_14 : decode cA_ask 14 = .ok (.ldc 111, 2) := by decide +kernel
theorem dA_ask_16 : decode cA_ask 16 = .ok (.invokespecial 86, 3) := by decide +kernel
theorem dA_ask_19 : decode cA_ask 19 = .ok (.athrow, 1) := by decide +kernel
theorem dA_ask_20 : decode cA_ask 20 = .ok (.iload_n 2, 1) := by decide +kernel
theorem dA_ask_21 : decode cA_ask 21 = .ok (.iconst 1, 1) := by decide +kernel
theorem dA_ask_22 : decode cA_ask 22 = .ok (.bipush 20, 2) := by decide +kernel
theorem dA_ask_24 : decode cA_ask 24 = .ok (.invokestatic 54, 3) := by decide +kernel
theorem dA_ask_27 : decode cA_ask 27 = .ok (.ifCond .eq 14, 3) := by decide +kernel
theorem dA_ask_30 : decode cA_ask 30 = .ok (.iload_n 3, 1) := by decide +kernel
theorem dA_ask_31 : decode cA_ask 31 = .ok (.iconst 1, 1) := by decide +kernel
theorem dA_ask_32 : decode cA_ask 32 = .ok (.sipush 500, 3) := by decide +kernel
theorem dA_ask_35 : decode cA_ask 35 = .ok (.invokestatic 54, 3) := by decide +kernel
theorem dA_ask_38 : decode cA_ask 38 = .ok (.ifCond .ne 13, 3) := by decide +kernel
theorem dA_ask_41 : decode cA_ask 41 = .ok (.new 58, 3) := by decide +kernel
theorem dA_ask_44 : decode cA_ask 44 = .ok (.dup, 1) := by decide +kernel
theorem dA_ask_45 : decode cA_ask 45 = .ok (.ldc 113, 2) := by decide +kernel
theorem dA_ask_47 : decode cA_ask 47 = .ok (.invokespecial 62, 3) := by decide +kernel
theorem dA_ask_50 : decode cA_ask 50 = .ok (.athrow, 1) := by decide +kernel
theorem dA_ask_51 : decode cA_ask 51 = .ok (.aload_n 0, 1) := by decide +kernel
theorem dA_ask_52 : decode cA_ask 52 = .ok (.getfield 26, 3) := by decide +kernel
theorem dA_ask_55 : decode cA_ask 55 = .ok (.invokevirtual 115, 3) := by decide +kernel
theorem dA_ask_58 : decode cA_ask 58 = .ok (.ifCond .eq 13, 3) := by decide +kernel
theorem dA_ask_61 : decode cA_ask 61 = .ok (.new 69, 3) := by decide +kernel
theorem dA_ask_64 : decode cA_ask 64 = .ok (.dup, 1) := by decide +kernel
theorem dA_ask_65 : decode cA_ask 65 = .ok (.ldc 116, 2) := by decide +kernel
theorem dA_ask_67 : decode cA_ask 67 = .ok (.invokespecial 73, 3) := by decide +kernel
theorem dA_ask_70 : decode cA_ask 70 = .ok (.athrow, 1) := by decide +kernel
theorem dA_ask_71 : decode cA_ask 71 = .ok (.aload_n 0, 1) := by decide +kernel
theorem dA_ask_72 : decode cA_ask 72 = .ok (.getfield 26, 3) := by decide +kernel
theorem dA_ask_75 : decode cA_ask 75 = .ok (.iload_n 1, 1) := by decide +kernel
theorem dA_ask_76 : decode cA_ask 76 = .ok (.iload_n 2, 1) := by decide +kernel
theorem dA_ask_77 : decode cA_ask 77 = .ok (.iload_n 3, 1) := by decide +kernel
theorem dA_ask_78 : decode cA_ask 78 = .ok (.invokevirtual 118, 3) := by decide +kernel
theorem dA_ask_81 : decode cA_ask 81 = .ok (.istore 4, 2) := by decide +kernel
theorem dA_ask_83 : decode cA_ask 83 = .ok (.aload_n 0, 1) := by decide +kernel
theorem dA_ask_84 : decode cA_ask 84 = .ok (.iload 4, 2) := by decide +kernel
theorem dA_ask_86 : decode cA_ask 86 = .ok (.invokevirtual 121, 3) := by decide +kernel
theorem dA_ask_89 : decode cA_ask 89 = .ok (.iload 4, 2) := by decide +kernel
theorem dA_ask_91 : decode cA_ask 91 = .ok (.ireturn, 1) := by decide +kernel
theorem dA_message_0 : decode cA_message 0 = .ok (.aload_n 0, 1) := by decide +kernel
theorem dA_message_1 : decode cA_message 1 = .ok (.getfield 26, 3) := by decide +kernel
theorem dA_message_4 : decode cA_message 4 = .ok (.iload_n 1, 1) := by decide +kernel
theorem dA_message_5 : decode cA_message 5 = .ok (.invokevirtual 125, 3) := by decide +kernel
theorem dA_message_8 : decode cA_message 8 = .ok (.ifCond .eq 14, 3) := by decide +kernel
theorem dA_message_11 : decode cA_message 11 = .ok (.aload_n 0, 1) := by decide +kernel
theorem dA_message_12 : decode cA_message 12 = .ok (.getfield 10, 3) := by decide +kernel
theorem dA_message_15 : decode cA_message 15 = .ok (.iload_n 2, 1) := by decide +kernel
theorem dA_message_16 : decode cA_message 16 = .ok (.invokevirtual 78, 3) := by decide +kernel
theorem dA_message_19 : decode cA_message 19 = .ok (.ifCond .ne 13, 3) := by decide +kernel
theorem dA_message_22 : decode cA_message 22 = .ok (.new 82, 3) := by decide +kernel
theorem dA_message_25 : decode cA_message 25 = .ok (.dup, 1) := by decide +kernel
theorem dA_message_26 : decode cA_message 26 = .ok (.ldc 126, 2) := by decide +kernel
theorem dA_message_28 : decode cA_message 28 = .ok (.invokespecial 86, 3) := by decide +kernel
theorem dA_message_31 : decode cA_message 31 = .ok (.athrow, 1) := by decide +kernel
theorem dA_message_32 : decode cA_message 32 = .ok (.iload_n 3, 1) := by decide +kernel
theorem dA_message_33 : decode cA_message 33 = .ok (.invokestatic 128, 3) := by decide +kernel
theorem dA_message_36 : decode cA_message 36 = .ok (.ifCond .eq 31, 3) := by decide +kernel
theorem dA_message_39 : decode cA_message 39 = .ok (.iload 4, 2) := by decide +kernel
theorem dA_message_41 : decode cA_message 41 = .ok (.iconst 0, 1) := by decide +kernel
theorem dA_message_42 : decode cA_message 42 = .ok (.bipush 20, 2) := by decide +kernel
theorem dA_message_44 : decode cA_message 44 = .ok (.invokestatic 54, 3) := by decide +kernel
theorem dA_message_47 : decode cA_message 47 = .ok (.ifCond .eq 20, 3) := by decide +kernel
theorem dA_message_50 : decode cA_message 50 = .ok (.iload 4, 2) := by decide +kernel
theorem dA_message_52 : decode cA_message 52 = .ok (.ifCond .le 25, 3) := by decide +kernel
theorem dA_message_55 : decode cA_message 55 = .ok (.iload 5, 2) := by decide +kernel
theorem dA_message_57 : decode cA_message 57 = .ok (.iconst 0, 1) := by decide +kernel
theorem dA_message_58 : decode cA_message 58 = .ok (.sipush 999, 3) := by decide +kernel
theorem dA_message_61 : decode cA_message 61 = .ok (.invokestatic 54, 3) := by decide +kernel
theorem dA_message_64 : decode cA_message 64 = .ok (.ifCond .ne 13, 3) := by decide +kernel
theorem dA_message_67 : decode cA_message 67 = .ok (.new 58, 3) := by decide +kernel
theorem dA_message_70 : decode cA_message 70 = .ok (.dup, 1) := by decide +kernel
theorem dA_message_71 : decode cA_message 71 = .ok (.ldc 131, 2) := by decide +kernel
theorem dA_message_73 : decode cA_message 73 = .ok (.invokespecial 62, 3) := by decide +kernel
theorem dA_message_76 : decode cA_message 76 = .ok (.athrow, 1) := by decide +kernel
theorem dA_message_77 : decode cA_message 77 = .ok (.aload_n 0, 1) := by decide +kernel
theorem dA_message_78 : decode cA_message 78 = .ok (.getfield 10, 3) := by decide +kernel
theorem dA_message_81 : decode cA_message 81 = .ok (.getfield 133, 3) := by decide +kernel
theorem dA_message_84 : decode cA_message 84 = .ok (.iload_n 2, 1) := by decide +kernel
theorem dA_message_85 : decode cA_message 85 = .ok (.baload, 1) := by decide +kernel
theorem dA_message_86 : decode cA_message 86 = .ok (.ifCond .eq 15, 3) := by decide +kernel
theorem dA_message_89 : decode cA_message 89 = .ok (.aload_n 0, 1) := by decide +kernel
theorem dA_message_90 : decode cA_message 90 = .ok (.dup, 1) := by decide +kernel
theorem dA_message_91 : decode cA_message 91 = .ok (.getfield 137, 3) := by decide +kernel
theorem dA_message_94 : decode cA_message 94 = .ok (.iconst 1, 1) := by decide +kernel
theorem dA_message_95 : decode cA_message 95 = .ok (.iadd, 1) := by decide +kernel
theorem dA_message_96 : decode cA_message 96 = .ok (.putfield 137, 3) := by decide +kernel
theorem dA_message_99 : decode cA_message 99 = .ok (.iconst 5, 1) := by decide +kernel
theorem dA_message_100 : decode cA_message 100 = .ok (.ireturn, 1) := by decide +kernel
theorem dA_message_101 : decode cA_message 101 = .ok (.aload_n 0, 1) := by decide +kernel
theorem dA_message_102 : decode cA_message 102 = .ok (.getfield 40, 3) := by decide +kernel
theorem dA_message_105 : decode cA_message 105 = .ok (.iload_n 2, 1) := by decide +kernel
theorem dA_message_106 : decode cA_message 106 = .ok (.iload_n 3, 1) := by decide +kernel
theorem dA_message_107 : decode cA_message 107 = .ok (.invokevirtual 141, 3) := by decide +kernel
theorem dA_message_110 : decode cA_message 110 = .ok (.ifCond .eq 15, 3) := by decide +kernel
theorem dA_message_113 : decode cA_message 113 = .ok (.aload_n 0, 1) := by decide +kernel
theorem dA_message_114 : decode cA_message 114 = .ok (.dup, 1) := by decide +kernel
theorem dA_message_115 : decode cA_message 115 = .ok (.getfield 144, 3) := by decide +kernel
theorem dA_message_118 : decode cA_message 118 = .ok (.iconst 1, 1) := by decide +kernel
theorem dA_message_119 : decode cA_message 119 = .ok (.iadd, 1) := by decide +kernel
theorem dA_message_120 : decode cA_message 120 = .ok (.putfield 144, 3) := by decide +kernel
theorem dA_message_123 : decode cA_message 123 = .ok (.iconst 2, 1) := by decide +kernel
theorem dA_message_124 : decode cA_message 124 = .ok (.ireturn, 1) := by decide +kernel
theorem dA_message_125 : decode cA_message 125 = .ok (.aload_n 0, 1) := by decide +kernel
theorem dA_message_126 : decode cA_message 126 = .ok (.iload_n 1, 1) := by decide +kernel
theorem dA_message_127 : decode cA_message 127 = .ok (.iload_n 2, 1) := by decide +kernel
theorem dA_message_128 : decode cA_message 128 = .ok (.iload 4, 2) := by decide +kernel
theorem dA_message_130 : decode cA_message 130 = .ok (.invokevirtual 147, 3) := by decide +kernel
theorem dA_message_133 : decode cA_message 133 = .ok (.istore 6, 2) := by decide +kernel
theorem dA_message_135 : decode cA_message 135 = .ok (.iload 6, 2) := by decide +kernel
theorem dA_message_137 : decode cA_message 137 = .ok (.iconst 1, 1) := by decide +kernel
theorem dA_message_138 : decode cA_message 138 = .ok (.if_icmp .ne 25, 3) := by decide +kernel
theorem dA_message_141 : decode cA_message 141 = .ok (.iload 4, 2) := by decide +kernel
theorem dA_message_143 : decode cA_message 143 = .ok (.aload_n 0, 1) := by decide +kernel
theorem dA_message_144 : decode cA_message 144 = .ok (.getfield 33, 3) := by decide +kernel
theorem dA_message_147 : decode cA_message 147 = .ok (.invokevirtual 150, 3) := by decide +kernel
theorem dA_message_150 : decode cA_message 150 = .ok (.if_icmp .le 13, 3) := by decide +kernel
theorem dA_message_153 : decode cA_message 153 = .ok (.new 69, 3) := by decide +kernel
theorem dA_message_156 : decode cA_message 156 = .ok (.dup, 1) := by decide +kernel
theorem dA_message_157 : decode cA_message 157 = .ok (.ldc 154, 2) := by decide +kernel
theorem dA_message_159 : decode cA_message 159 = .ok (.invokespecial 73, 3) := by decide +kernel
theorem dA_message_162 : decode cA_message 162 = .ok (.athrow, 1) := by decide +kernel
theorem dA_message_163 : decode cA_message 163 = .ok (.aload_n 0, 1) := by decide +kernel
theorem dA_message_164 : decode cA_message 164 = .ok (.getfield 40, 3) := by decide +kernel
theorem dA_message_167 : decode cA_message 167 = .ok (.iload_n 2, 1) := by decide +kernel
theorem dA_message_168 : decode cA_message 168 = .ok (.iload_n 3, 1) := by decide +kernel
theorem dA_message_169 : decode cA_message 169 = .ok (.iload 6, 2) := by decide +kernel
theorem dA_message_171 : decode cA_message 171 = .ok (.invokevirtual 156, 3) := by decide +kernel
theorem dA_message_174 : decode cA_message 174 = .ok (.iload 6, 2) := by decide +kernel
theorem dA_message_176 : decode cA_message 176 = .ok (.iconst 1, 1) := by decide +kernel
theorem dA_message_177 : decode cA_message 177 = .ok (.if_icmp .ne 13, 3) := by decide +kernel
theorem dA_message_180 : decode cA_message 180 = .ok (.aload_n 0, 1) := by decide +kernel
theorem dA_message_181 : decode cA_message 181 = .ok (.iload_n 1, 1) := by decide +kernel
theorem dA_message_182 : decode cA_message 182 = .ok (.iload_n 2, 1) := by decide +kernel
theorem dA_message_183 : decode cA_message 183 = .ok (.iload 4, 2) := by decide +kernel
theorem dA_message_185 : decode cA_message 185 = .ok (.iload 5, 2) := by decide +kernel
theorem dA_message_187 : decode cA_message 187 = .ok (.invokevirtual 160, 3) := by decide +kernel
theorem dA_message_190 : decode cA_message 190 = .ok (.iload 6, 2) := by decide +kernel
theorem dA_message_192 : decode cA_message 192 = .ok (.ireturn, 1) := by decide +kernel
theorem dA_seen_0 : decode cA_seen 0 = .ok (.aload_n 0, 1) := by decide +kernel
theorem dA_seen_1 : decode cA_seen 1 = .ok (.getfield 10, 3) := by decide +kernel
theorem dA_seen_4 : decode cA_seen 4 = .ok (.iload_n 1, 1) := by decide +kernel
theorem dA_seen_5 : decode cA_seen 5 = .ok (.invokevirtual 78, 3) := by decide +kernel
theorem dA_seen_8 : decode cA_seen 8 = .ok (.ifCond .ne 13, 3) := by decide +kernel
theorem dA_seen_11 : decode cA_seen 11 = .ok (.new 82, 3) := by decide +kernel
theorem dA_seen_14 : decode cA_seen 14 = .ok (.dup, 1) := by decide +kernel
theorem dA_seen_15 : decode cA_seen 15 = .ok (.ldc 164, 2) := by decide +kernel
theorem dA_seen_17 : decode cA_seen 17 = .ok (.invokespecial 86, 3) := by decide +kernel
theorem dA_seen_20 : decode cA_seen 20 = .ok (.athrow, 1) := by decide +kernel
theorem dA_seen_21 : decode cA_seen 21 = .ok (.iload_n 2, 1) := by decide +kernel
theorem dA_seen_22 : decode cA_seen 22 = .ok (.invokestatic 128, 3) := by decide +kernel
theorem dA_seen_25 : decode cA_seen 25 = .ok (.ifCond .ne 13, 3) := by decide +kernel
theorem dA_seen_28 : decode cA_seen 28 = .ok (.new 58, 3) := by decide +kernel
theorem dA_seen_31 : decode cA_seen 31 = .ok (.dup, 1) := by decide +kernel
theorem dA_seen_32 : decode cA_seen 32 = .ok (.ldc 166, 2) := by decide +kernel
theorem dA_seen_34 : decode cA_seen 34 = .ok (.invokespecial 62, 3) := by decide +kernel
theorem dA_seen_37 : decode cA_seen 37 = .ok (.athrow, 1) := by decide +kernel
theorem dA_seen_38 : decode cA_seen 38 = .ok (.aload_n 0, 1) := by decide +kernel
theorem dA_seen_39 : decode cA_seen 39 = .ok (.getfield 40, 3) := by decide +kernel
theorem dA_seen_42 : decode cA_seen 42 = .ok (.iload_n 1, 1) := by decide +kernel
theorem dA_seen_43 : decode cA_seen 43 = .ok (.iload_n 2, 1) := by decide +kernel
theorem dA_seen_44 : decode cA_seen 44 = .ok (.invokevirtual 141, 3) := by decide +kernel
theorem dA_seen_47 : decode cA_seen 47 = .ok (.ireturn, 1) := by decide +kernel
theorem dA_tick_0 : decode cA_tick 0 = .ok (.iload_n 1, 1) := by decide +kernel
theorem dA_tick_1 : decode cA_tick 1 = .ok (.iconst 1, 1) := by decide +kernel
theorem dA_tick_2 : decode cA_tick 2 = .ok (.sipush 2000, 3) := by decide +kernel
theorem dA_tick_5 : decode cA_tick 5 = .ok (.invokestatic 54, 3) := by decide +kernel
theorem dA_tick_8 : decode cA_tick 8 = .ok (.ifCond .eq 14, 3) := by decide +kernel
theorem dA_tick_11 : decode cA_tick 11 = .ok (.aload_n 0, 1) := by decide +kernel
theorem dA_tick_12 : decode cA_tick 12 = .ok (.getfield 168, 3) := by decide +kernel
theorem dA_tick_15 : decode cA_tick 15 = .ok (.iload_n 1, 1) := by decide +kernel
theorem dA_tick_16 : decode cA_tick 16 = .ok (.iadd, 1) := by decide +kernel
theorem dA_tick_17 : decode cA_tick 17 = .ok (.ldc 171, 2) := by decide +kernel
theorem dA_tick_19 : decode cA_tick 19 = .ok (.if_icmp .le 13, 3) := by decide +kernel
theorem dA_tick_22 : decode cA_tick 22 = .ok (.new 58, 3) := by decide +kernel
theorem dA_tick_25 : decode cA_tick 25 = .ok (.dup, 1) := by decide +kernel
theorem dA_tick_26 : decode cA_tick 26 = .ok (.ldc 172, 2) := by decide +kernel
theorem dA_tick_28 : decode cA_tick 28 = .ok (.invokespecial 62, 3) := by decide +kernel
theorem dA_tick_31 : decode cA_tick 31 = .ok (.athrow, 1) := by decide +kernel
theorem dA_tick_32 : decode cA_tick 32 = .ok (.aload_n 0, 1) := by decide +kernel
theorem dA_tick_33 : decode cA_tick 33 = .ok (.getfield 168, 3) := by decide +kernel
theorem dA_tick_36 : decode cA_tick 36 = .ok (.iload_n 1, 1) := by decide +kernel
theorem dA_tick_37 : decode cA_tick 37 = .ok (.iadd, 1) := by decide +kernel
theorem dA_tick_38 : decode cA_tick 38 = .ok (.istore_n 2, 1) := by decide +kernel
theorem dA_tick_39 : decode cA_tick 39 = .ok (.iconst 0, 1) := by decide +kernel
theorem dA_tick_40 : decode cA_tick 40 = .ok (.istore_n 3, 1) := by decide +kernel
theorem dA_tick_41 : decode cA_tick 41 = .ok (.iconst 0, 1) := by decide +kernel
theorem dA_tick_42 : decode cA_tick 42 = .ok (.istore 4, 2) := by decide +kernel
theorem dA_tick_44 : decode cA_tick 44 = .ok (.iload 4, 2) := by decide +kernel
theorem dA_tick_46 : decode cA_tick 46 = .ok (.iload_n 1, 1) := by decide +kernel
theorem dA_tick_47 : decode cA_tick 47 = .ok (.if_icmp .ge 37, 3) := by decide +kernel
theorem dA_tick_50 : decode cA_tick 50 = .ok (.aload_n 0, 1) := by decide +kernel
theorem dA_tick_51 : decode cA_tick 51 = .ok (.getfield 168, 3) := by decide +kernel
theorem dA_tick_54 : decode cA_tick 54 = .ok (.iload_n 2, 1) := by decide +kernel
theorem dA_tick_55 : decode cA_tick 55 = .ok (.if_icmp .ge 29, 3) := by decide +kernel
theorem dA_tick_58 : decode cA_tick 58 = .ok (.aload_n 0, 1) := by decide +kernel
theorem dA_tick_59 : decode cA_tick 59 = .ok (.aload_n 0, 1) := by decide +kernel
theorem dA_tick_60 : decode cA_tick 60 = .ok (.iload_n 2, 1) := by decide +kernel
theorem dA_tick_61 : decode cA_tick 61 = .ok (.invokevirtual 174, 3) := by decide +kernel
theorem dA_tick_64 : decode cA_tick 64 = .ok (.putfield 168, 3) := by decide +kernel
theorem dA_tick_67 : decode cA_tick 67 = .ok (.aload_n 0, 1) := by decide +kernel
theorem dA_tick_68 : decode cA_tick 68 = .ok (.invokevirtual 178, 3) := by decide +kernel
theorem dA_tick_71 : decode cA_tick 71 = .ok (.iload_n 3, 1) := by decide +kernel
theorem dA_tick_72 : decode cA_tick 72 = .ok (.aload_n 0, 1) := by decide +kernel
theorem dA_tick_73 : decode cA_tick 73 = .ok (.invokevirtual 181, 3) := by decide +kernel
theorem dA_tick_76 : decode cA_tick 76 = .ok (.iadd, 1) := by decide +kernel
theorem dA_tick_77 : decode cA_tick 77 = .ok (.istore_n 3, 1) := by decide +kernel
theorem dA_tick_78 : decode cA_tick 78 = .ok (.iinc 4 1, 3) := by decide +kernel
theorem dA_tick_81 : decode cA_tick 81 = .ok (.goto (-37), 3) := by decide +kernel
theorem dA_tick_84 : decode cA_tick 84 = .ok (.iload_n 3, 1) := by decide +kernel
theorem dA_tick_85 : decode cA_tick 85 = .ok (.ireturn, 1) := by decide +kernel
theorem dA_cut_0 : decode cA_cut 0 = .ok (.aload_n 0, 1) := by decide +kernel
theorem dA_cut_1 : decode cA_cut 1 = .ok (.getfield 10, 3) := by decide +kernel
theorem dA_cut_4 : decode cA_cut 4 = .ok (.iload_n 1, 1) := by decide +kernel
theorem dA_cut_5 : decode cA_cut 5 = .ok (.invokevirtual 78, 3) := by decide +kernel
theorem dA_cut_8 : decode cA_cut 8 = .ok (.ifCond .ne 13, 3) := by decide +kernel
theorem dA_cut_11 : decode cA_cut 11 = .ok (.new 82, 3) := by decide +kernel
theorem dA_cut_14 : decode cA_cut 14 = .ok (.dup, 1) := by decide +kernel
theorem dA_cut_15 : decode cA_cut 15 = .ok (.ldc 164, 2) := by decide +kernel
theorem dA_cut_17 : decode cA_cut 17 = .ok (.invokespecial 86, 3) := by decide +kernel
theorem dA_cut_20 : decode cA_cut 20 = .ok (.athrow, 1) := by decide +kernel
theorem dA_cut_21 : decode cA_cut 21 = .ok (.aload_n 0, 1) := by decide +kernel
theorem dA_cut_22 : decode cA_cut 22 = .ok (.getfield 10, 3) := by decide +kernel
theorem dA_cut_25 : decode cA_cut 25 = .ok (.getfield 133, 3) := by decide +kernel
theorem dA_cut_28 : decode cA_cut 28 = .ok (.iload_n 1, 1) := by decide +kernel
theorem dA_cut_29 : decode cA_cut 29 = .ok (.baload, 1) := by decide +kernel
theorem dA_cut_30 : decode cA_cut 30 = .ok (.iload_n 2, 1) := by decide +kernel
theorem dA_cut_31 : decode cA_cut 31 = .ok (.if_icmp .ne 13, 3) := by decide +kernel
theorem dA_cut_34 : decode cA_cut 34 = .ok (.new 100, 3) := by decide +kernel
theorem dA_cut_37 : decode cA_cut 37 = .ok (.dup, 1) := by decide +kernel
theorem dA_cut_38 : decode cA_cut 38 = .ok (.ldc 184, 2) := by decide +kernel
theorem dA_cut_40 : decode cA_cut 40 = .ok (.invokespecial 104, 3) := by decide +kernel
theorem dA_cut_43 : decode cA_cut 43 = .ok (.athrow, 1) := by decide +kernel
theorem dA_cut_44 : decode cA_cut 44 = .ok (.aload_n 0, 1) := by decide +kernel
theorem dA_cut_45 : decode cA_cut 45 = .ok (.getfield 10, 3) := by decide +kernel
theorem dA_cut_48 : decode cA_cut 48 = .ok (.getfield 133, 3) := by decide +kernel
theorem dA_cut_51 : decode cA_cut 51 = .ok (.iload_n 1, 1) := by decide +kernel
theorem dA_cut_52 : decode cA_cut 52 = .ok (.iload_n 2, 1) := by decide +kernel
theorem dA_cut_53 : decode cA_cut 53 = .ok (.bastore, 1) := by decide +kernel
theorem dA_cut_54 : decode cA_cut 54 = .ok (.return_, 1) := by decide +kernel
theorem dA_end_0 : decode cA_end 0 = .ok (.aload_n 0, 1) := by decide +kernel
theorem dA_end_1 : decode cA_end 1 = .ok (.getfield 33, 3) := by decide +kernel
theorem dA_end_4 : decode cA_end 4 = .ok (.iload_n 1, 1) := by decide +kernel
theorem dA_end_5 : decode cA_end 5 = .ok (.invokevirtual 186, 3) := by decide +kernel
theorem dA_end_8 : decode cA_end 8 = .ok (.ifCond .ne 13, 3) := by decide +kernel
theorem dA_end_11 : decode cA_end 11 = .ok (.new 82, 3) := by decide +kernel
theorem dA_end_14 : decode cA_end 14 = .ok (.dup, 1) := by decide +kernel
theorem dA_end_15 : decode cA_end 15 = .ok (.ldc 187, 2) := by decide +kernel
theorem dA_end_17 : decode cA_end 17 = .ok (.invokespecial 86, 3) := by decide +kernel
theorem dA_end_20 : decode cA_end 20 = .ok (.athrow, 1) := by decide +kernel
theorem dA_end_21 : decode cA_end 21 = .ok (.aload_n 0, 1) := by decide +kernel
theorem dA_end_22 : decode cA_end 22 = .ok (.getfield 33, 3) := by decide +kernel
theorem dA_end_25 : decode cA_end 25 = .ok (.iload_n 1, 1) := by decide +kernel
theorem dA_end_26 : decode cA_end 26 = .ok (.invokevirtual 189, 3) := by decide +kernel
theorem dA_end_29 : decode cA_end 29 = .ok (.ifCond .ne 13, 3) := by decide +kernel
theorem dA_end_32 : decode cA_end 32 = .ok (.new 100, 3) := by decide +kernel
theorem dA_end_35 : decode cA_end 35 = .ok (.dup, 1) := by decide +kernel
theorem dA_end_36 : decode cA_end 36 = .ok (.ldc 192, 2) := by decide +kernel
theorem dA_end_38 : decode cA_end 38 = .ok (.invokespecial 104, 3) := by decide +kernel
theorem dA_end_41 : decode cA_end 41 = .ok (.athrow, 1) := by decide +kernel
theorem dA_end_42 : decode cA_end 42 = .ok (.aload_n 0, 1) := by decide +kernel
theorem dA_end_43 : decode cA_end 43 = .ok (.getfield 33, 3) := by decide +kernel
theorem dA_end_46 : decode cA_end 46 = .ok (.getfield 194, 3) := by decide +kernel
theorem dA_end_49 : decode cA_end 49 = .ok (.iload_n 1, 1) := by decide +kernel
theorem dA_end_50 : decode cA_end 50 = .ok (.aload_n 0, 1) := by decide +kernel
theorem dA_end_51 : decode cA_end 51 = .ok (.getfield 168, 3) := by decide +kernel
theorem dA_end_54 : decode cA_end 54 = .ok (.iastore, 1) := by decide +kernel
theorem dA_end_55 : decode cA_end 55 = .ok (.return_, 1) := by decide +kernel
theorem dA_askAt_0 : decode cA_askAt 0 = .ok (.aload_n 0, 1) := by decide +kernel
theorem dA_askAt_1 : decode cA_askAt 1 = .ok (.getfield 26, 3) := by decide +kernel
theorem dA_askAt_4 : decode cA_askAt 4 = .ok (.iload_n 1, 1) := by decide +kernel
theorem dA_askAt_5 : decode cA_askAt 5 = .ok (.invokevirtual 125, 3) := by decide +kernel
theorem dA_askAt_8 : decode cA_askAt 8 = .ok (.ifCond .eq 12, 3) := by decide +kernel
theorem dA_askAt_11 : decode cA_askAt 11 = .ok (.iload_n 2, 1) := by decide +kernel
theorem dA_askAt_12 : decode cA_askAt 12 = .ok (.iconst 0, 1) := by decide +kernel
theorem dA_askAt_13 : decode cA_askAt 13 = .ok (.iconst 5, 1) := by decide +kernel
theorem dA_askAt_14 : decode cA_askAt 14 = .ok (.invokestatic 54, 3) := by decide +kernel
theorem dA_askAt_17 : decode cA_askAt 17 = .ok (.ifCond .ne 13, 3) := by decide +kernel
theorem dA_askAt_20 : decode cA_askAt 20 = .ok (.new 82, 3) := by decide +kernel
theorem dA_askAt_23 : decode cA_askAt 23 = .ok (.dup, 1) := by decide +kernel
theorem dA_askAt_24 : decode cA_askAt 24 = .ok (.ldc 197, 2) := by decide +kernel
theorem dA_askAt_26 : decode cA_askAt 26 = .ok (.invokespecial 86, 3) := by decide +kernel
theorem dA_askAt_29 : decode cA_askAt 29 = .ok (.athrow, 1) := by decide +kernel
theorem dA_askAt_30 : decode cA_askAt 30 = .ok (.iload_n 2, 1) := by decide +kernel
theorem dA_askAt_31 : decode cA_askAt 31 = .ok (.tableswitch 82 0 4 #[33, 43, 53, 63, 73], 33) := by decide +kernel
theorem dA_askAt_64 : decode cA_askAt 64 = .ok (.aload_n 0, 1) := by decide +kernel
theorem dA_askAt_65 : decode cA_askAt 65 = .ok (.getfield 26, 3) := by decide +kernel
theorem dA_askAt_68 : decode cA_askAt 68 = .ok (.getfield 199, 3) := by decide +kernel
theorem dA_askAt_71 : decode cA_askAt 71 = .ok (.iload_n 1, 1) := by decide +kernel
theorem dA_askAt_72 : decode cA_askAt 72 = .ok (.iaload, 1) := by decide +kernel
theorem dA_askAt_73 : decode cA_askAt 73 = .ok (.ireturn, 1) := by decide +kernel
theorem dA_askAt_74 : decode cA_askAt 74 = .ok (.aload_n 0, 1) := by decide +kernel
theorem dA_askAt_75 : decode cA_askAt 75 = .ok (.getfield 26, 3) := by decide +kernel
theorem dA_askAt_78 : decode cA_askAt 78 = .ok (.getfield 202, 3) := by decide +kernel
theorem dA_askAt_81 : decode cA_askAt 81 = .ok (.iload_n 1, 1) := by decide +kernel
theorem dA_askAt_82 : decode cA_askAt 82 = .ok (.iaload, 1) := by decide +kernel
theorem dA_askAt_83 : decode cA_askAt 83 = .ok (.ireturn, 1) := by decide +kernel
theorem dA_askAt_84 : decode cA_askAt 84 = .ok (.aload_n 0, 1) := by decide +kernel
theorem dA_askAt_85 : decode cA_askAt 85 = .ok (.getfield 26, 3) := by decide +kernel
theorem dA_askAt_88 : decode cA_askAt 88 = .ok (.getfield 205, 3) := by decide +kernel
theorem dA_askAt_91 : decode cA_askAt 91 = .ok (.iload_n 1, 1) := by decide +kernel
theorem dA_askAt_92 : decode cA_askAt 92 = .ok (.iaload, 1) := by decide +kernel
theorem dA_askAt_93 : decode cA_askAt 93 = .ok (.ireturn, 1) := by decide +kernel
theorem dA_askAt_94 : decode cA_askAt 94 = .ok (.aload_n 0, 1) := by decide +kernel
theorem dA_askAt_95 : decode cA_askAt 95 = .ok (.getfield 26, 3) := by decide +kernel
theorem dA_askAt_98 : decode cA_askAt 98 = .ok (.getfield 208, 3) := by decide +kernel
theorem dA_askAt_101 : decode cA_askAt 101 = .ok (.iload_n 1, 1) := by decide +kernel
theorem dA_askAt_102 : decode cA_askAt 102 = .ok (.iaload, 1) := by decide +kernel
theorem dA_askAt_103 : decode cA_askAt 103 = .ok (.ireturn, 1) := by decide +kernel
theorem dA_askAt_104 : decode cA_askAt 104 = .ok (.aload_n 0, 1) := by decide +kernel
theorem dA_askAt_105 : decode cA_askAt 105 = .ok (.getfield 26, 3) := by decide +kernel
theorem dA_askAt_108 : decode cA_askAt 108 = .ok (.iload_n 1, 1) := by decide +kernel
theorem dA_askAt_109 : decode cA_askAt 109 = .ok (.invokevirtual 211, 3) := by decide +kernel
theorem dA_askAt_112 : decode cA_askAt 112 = .ok (.ireturn, 1) := by decide +kernel
theorem dA_askAt_113 : decode cA_askAt 113 = .ok (.aload_n 0, 1) := by decide +kernel
theorem dA_askAt_114 : decode cA_askAt 114 = .ok (.getfield 26, 3) := by decide +kernel
theorem dA_askAt_117 : decode cA_askAt 117 = .ok (.getfield 214, 3) := by decide +kernel
theorem dA_askAt_120 : decode cA_askAt 120 = .ok (.iload_n 1, 1) := by decide +kernel
theorem dA_askAt_121 : decode cA_askAt 121 = .ok (.baload, 1) := by decide +kernel
theorem dA_askAt_122 : decode cA_askAt 122 = .ok (.ifCond .eq 7, 3) := by decide +kernel
theorem dA_askAt_125 : decode cA_askAt 125 = .ok (.iconst 1, 1) := by decide +kernel
theorem dA_askAt_126 : decode cA_askAt 126 = .ok (.goto 4, 3) := by decide +kernel
theorem dA_askAt_129 : decode cA_askAt 129 = .ok (.iconst 0, 1) := by decide +kernel
theorem dA_askAt_130 : decode cA_askAt 130 = .ok (.ireturn, 1) := by decide +kernel
theorem dA_loanAt_0 : decode cA_loanAt 0 = .ok (.aload_n 0, 1) := by decide +kernel
theorem dA_loanAt_1 : decode cA_loanAt 1 = .ok (.getfield 33, 3) := by decide +kernel
theorem dA_loanAt_4 : decode cA_loanAt 4 = .ok (.iload_n 1, 1) := by decide +kernel
theorem dA_loanAt_5 : decode cA_loanAt 5 = .ok (.invokevirtual 186, 3) := by decide +kernel
theorem dA_loanAt_8 : decode cA_loanAt 8 = .ok (.ifCond .eq 13, 3) := by decide +kernel
theorem dA_loanAt_11 : decode cA_loanAt 11 = .ok (.iload_n 2, 1) := by decide +kernel
theorem dA_loanAt_12 : decode cA_loanAt 12 = .ok (.iconst 0, 1) := by decide +kernel
theorem dA_loanAt_13 : decode cA_loanAt 13 = .ok (.bipush 6, 2) := by decide +kernel
theorem dA_loanAt_15 : decode cA_loanAt 15 = .ok (.invokestatic 54, 3) := by decide +kernel
theorem dA_loanAt_18 : decode cA_loanAt 18 = .ok (.ifCond .ne 13, 3) := by decide +kernel
theorem dA_loanAt_21 : decode cA_loanAt 21 = .ok (.new 82, 3) := by decide +kernel
theorem dA_loanAt_24 : decode cA_loanAt 24 = .ok (.dup, 1) := by decide +kernel
theorem dA_loanAt_25 : decode cA_loanAt 25 = .ok (.ldc 217, 2) := by decide +kernel
theorem dA_loanAt_27 : decode cA_loanAt 27 = .ok (.invokespecial 86, 3) := by decide +kernel
theorem dA_loanAt_30 : decode cA_loanAt 30 = .ok (.athrow, 1) := by decide +kernel
theorem dA_loanAt_31 : decode cA_loanAt 31 = .ok (.iload_n 2, 1) := by decide +kernel
theorem dA_loanAt_32 : decode cA_loanAt 32 = .ok (.tableswitch 100 0 5 #[40, 50, 60, 70, 80, 90], 40) := by decide +kernel
theorem dA_loanAt_72 : decode cA_loanAt 72 = .ok (.aload_n 0, 1) := by decide +kernel
theorem dA_loanAt_73 : decode cA_loanAt 73 = .ok (.getfield 33, 3) := by decide +kernel
theorem dA_loanAt_76 : decode cA_loanAt 76 = .ok (.getfield 219, 3) := by decide +kernel
theorem dA_loanAt_79 : decode cA_loanAt 79 = .ok (.iload_n 1, 1) := by decide +kernel
theorem dA_loanAt_80 : decode cA_loanAt 80 = .ok (.iaload, 1) := by decide +kernel
theorem dA_loanAt_81 : decode cA_loanAt 81 = .ok (.ireturn, 1) := by decide +kernel
theorem dA_loanAt_82 : decode cA_loanAt 82 = .ok (.aload_n 0, 1) := by decide +kernel
theorem dA_loanAt_83 : decode cA_loanAt 83 = .ok (.getfield 33, 3) := by decide +kernel
theorem dA_loanAt_86 : decode cA_loanAt 86 = .ok (.getfield 221, 3) := by decide +kernel
theorem dA_loanAt_89 : decode cA_loanAt 89 = .ok (.iload_n 1, 1) := by decide +kernel
theorem dA_loanAt_90 : decode cA_loanAt 90 = .ok (.iaload, 1) := by decide +kernel
theorem dA_loanAt_91 : decode cA_loanAt 91 = .ok (.ireturn, 1) := by decide +kernel
theorem dA_loanAt_92 : decode cA_loanAt 92 = .ok (.aload_n 0, 1) := by decide +kernel
theorem dA_loanAt_93 : decode cA_loanAt 93 = .ok (.getfield 33, 3) := by decide +kernel
theorem dA_loanAt_96 : decode cA_loanAt 96 = .ok (.getfield 224, 3) := by decide +kernel
theorem dA_loanAt_99 : decode cA_loanAt 99 = .ok (.iload_n 1, 1) := by decide +kernel
theorem dA_loanAt_100 : decode cA_loanAt 100 = .ok (.iaload, 1) := by decide +kernel
theorem dA_loanAt_101 : decode cA_loanAt 101 = .ok (.ireturn, 1) := by decide +kernel
theorem dA_loanAt_102 : decode cA_loanAt 102 = .ok (.aload_n 0, 1) := by decide +kernel
theorem dA_loanAt_103 : decode cA_loanAt 103 = .ok (.getfield 33, 3) := by decide +kernel
theorem dA_loanAt_106 : decode cA_loanAt 106 = .ok (.getfield 226, 3) := by decide +kernel
theorem dA_loanAt_109 : decode cA_loanAt 109 = .ok (.iload_n 1, 1) := by decide +kernel
theorem dA_loanAt_110 : decode cA_loanAt 110 = .ok (.iaload, 1) := by decide +kernel
theorem dA_loanAt_111 : decode cA_loanAt 111 = .ok (.ireturn, 1) := by decide +kernel
theorem dA_loanAt_112 : decode cA_loanAt 112 = .ok (.aload_n 0, 1) := by decide +kernel
theorem dA_loanAt_113 : decode cA_loanAt 113 = .ok (.getfield 33, 3) := by decide +kernel
theorem dA_loanAt_116 : decode cA_loanAt 116 = .ok (.getfield 228, 3) := by decide +kernel
theorem dA_loanAt_119 : decode cA_loanAt 119 = .ok (.iload_n 1, 1) := by decide +kernel
theorem dA_loanAt_120 : decode cA_loanAt 120 = .ok (.iaload, 1) := by decide +kernel
theorem dA_loanAt_121 : decode cA_loanAt 121 = .ok (.ireturn, 1) := by decide +kernel
theorem dA_loanAt_122 : decode cA_loanAt 122 = .ok (.aload_n 0, 1) := by decide +kernel
theorem dA_loanAt_123 : decode cA_loanAt 123 = .ok (.getfield 33, 3) := by decide +kernel
theorem dA_loanAt_126 : decode cA_loanAt 126 = .ok (.getfield 194, 3) := by decide +kernel
theorem dA_loanAt_129 : decode cA_loanAt 129 = .ok (.iload_n 1, 1) := by decide +kernel
theorem dA_loanAt_130 : decode cA_loanAt 130 = .ok (.iaload, 1) := by decide +kernel
theorem dA_loanAt_131 : decode cA_loanAt 131 = .ok (.ireturn, 1) := by decide +kernel
theorem dA_loanAt_132 : decode cA_loanAt 132 = .ok (.aload_n 0, 1) := by decide +kernel
theorem dA_loanAt_133 : decode cA_loanAt 133 = .ok (.iload_n 1, 1) := by decide +kernel
theorem dA_loanAt_134 : decode cA_loanAt 134 = .ok (.invokevirtual 231, 3) := by decide +kernel
theorem dA_loanAt_137 : decode cA_loanAt 137 = .ok (.ireturn, 1) := by decide +kernel
theorem dA_cost_0 : decode cA_cost 0 = .ok (.aload_n 0, 1) := by decide +kernel
theorem dA_cost_1 : decode cA_cost 1 = .ok (.getfield 10, 3) := by decide +kernel
theorem dA_cost_4 : decode cA_cost 4 = .ok (.iload_n 1, 1) := by decide +kernel
theorem dA_cost_5 : decode cA_cost 5 = .ok (.invokevirtual 78, 3) := by decide +kernel
theorem dA_cost_8 : decode cA_cost 8 = .ok (.ifCond .ne 13, 3) := by decide +kernel
theorem dA_cost_11 : decode cA_cost 11 = .ok (.new 82, 3) := by decide +kernel
theorem dA_cost_14 : decode cA_cost 14 = .ok (.dup, 1) := by decide +kernel
theorem dA_cost_15 : decode cA_cost 15 = .ok (.ldc 164, 2) := by decide +kernel
theorem dA_cost_17 : decode cA_cost 17 = .ok (.invokespecial 86, 3) := by decide +kernel
theorem dA_cost_20 : decode cA_cost 20 = .ok (.athrow, 1) := by decide +kernel
theorem dA_cost_21 : decode cA_cost 21 = .ok (.iconst 0, 1) := by decide +kernel
theorem dA_cost_22 : decode cA_cost 22 = .ok (.istore_n 2, 1) := by decide +kernel
theorem dA_cost_23 : decode cA_cost 23 = .ok (.iconst 0, 1) := by decide +kernel
theorem dA_cost_24 : decode cA_cost 24 = .ok (.istore_n 3, 1) := by decide +kernel
end
section
theorem dA_cost_25 : decode cA_cost 25 = .ok (.iload_n 3, 1) := by decide +kernel
theorem dA_cost_26 : decode cA_cost 26 = .ok (.aload_n 0, 1) := by decide +kernel
theorem dA_cost_27 : decode cA_cost 27 = .ok (.getfield 33, 3) := by decide +kernel
theorem dA_cost_30 : decode cA_cost 30 = .ok (.getfield 234, 3) := by decide +kernel
theorem dA_cost_33 : decode cA_cost 33 = .ok (.if_icmp .ge 30, 3) := by decide +kernel
theorem dA_cost_36 : decode cA_cost 36 = .ok (.aload_n 0, 1) := by decide +kernel
theorem dA_cost_37 : decode cA_cost 37 = .ok (.getfield 33, 3) := by decide +kernel
theorem dA_cost_40 : decode cA_cost 40 = .ok (.getfield 219, 3) := by decide +kernel
theorem dA_cost_43 : decode cA_cost 43 = .ok (.iload_n 3, 1) := by decide +kernel
theorem dA_cost_44 : decode cA_cost 44 = .ok (.iaload, 1) := by decide +kernel
theorem dA_cost_45 : decode cA_cost 45 = .ok (.iload_n 1, 1) := by decide +kernel
theorem dA_cost_46 : decode cA_cost 46 = .ok (.if_icmp .ne 11, 3) := by decide +kernel
theorem dA_cost_49 : decode cA_cost 49 = .ok (.iload_n 2, 1) := by decide +kernel
theorem dA_cost_50 : decode cA_cost 50 = .ok (.aload_n 0, 1) := by decide +kernel
theorem dA_cost_51 : decode cA_cost 51 = .ok (.iload_n 3, 1) := by decide +kernel
theorem dA_cost_52 : decode cA_cost 52 = .ok (.invokevirtual 231, 3) := by decide +kernel
theorem dA_cost_55 : decode cA_cost 55 = .ok (.iadd, 1) := by decide +kernel
theorem dA_cost_56 : decode cA_cost 56 = .ok (.istore_n 2, 1) := by decide +kernel
theorem dA_cost_57 : decode cA_cost 57 = .ok (.iinc 3 1, 3) := by decide +kernel
theorem dA_cost_60 : decode cA_cost 60 = .ok (.goto (-35), 3) := by decide +kernel
theorem dA_cost_63 : decode cA_cost 63 = .ok (.iload_n 2, 1) := by decide +kernel
theorem dA_cost_64 : decode cA_cost 64 = .ok (.ireturn, 1) := by decide +kernel
theorem dA_named_0 : decode cA_named 0 = .ok (.aload_n 0, 1) := by decide +kernel
theorem dA_named_1 : decode cA_named 1 = .ok (.getfield 33, 3) := by decide +kernel
theorem dA_named_4 : decode cA_named 4 = .ok (.iload_n 1, 1) := by decide +kernel
theorem dA_named_5 : decode cA_named 5 = .ok (.invokevirtual 237, 3) := by decide +kernel
theorem dA_named_8 : decode cA_named 8 = .ok (.ireturn, 1) := by decide +kernel
theorem dA_hand_0 : decode cA_hand 0 = .ok (.iload_n 1, 1) := by decide +kernel
theorem dA_hand_1 : decode cA_hand 1 = .ok (.invokestatic 240, 3) := by decide +kernel
theorem dA_hand_4 : decode cA_hand 4 = .ok (.ifCond .eq 14, 3) := by decide +kernel
theorem dA_hand_7 : decode cA_hand 7 = .ok (.aload_n 0, 1) := by decide +kernel
theorem dA_hand_8 : decode cA_hand 8 = .ok (.getfield 10, 3) := by decide +kernel
theorem dA_hand_11 : decode cA_hand 11 = .ok (.iload_n 2, 1) := by decide +kernel
theorem dA_hand_12 : decode cA_hand 12 = .ok (.invokevirtual 78, 3) := by decide +kernel
theorem dA_hand_15 : decode cA_hand 15 = .ok (.ifCond .ne 13, 3) := by decide +kernel
theorem dA_hand_18 : decode cA_hand 18 = .ok (.new 82, 3) := by decide +kernel
theorem dA_hand_21 : decode cA_hand 21 = .ok (.dup, 1) := by decide +kernel
theorem dA_hand_22 : decode cA_hand 22 = .ok (.ldc 243, 2) := by decide +kernel
theorem dA_hand_24 : decode cA_hand 24 = .ok (.invokespecial 86, 3) := by decide +kernel
theorem dA_hand_27 : decode cA_hand 27 = .ok (.athrow, 1) := by decide +kernel
theorem dA_hand_28 : decode cA_hand 28 = .ok (.aload_n 0, 1) := by decide +kernel
theorem dA_hand_29 : decode cA_hand 29 = .ok (.getfield 44, 3) := by decide +kernel
theorem dA_hand_32 : decode cA_hand 32 = .ok (.iload_n 1, 1) := by decide +kernel
theorem dA_hand_33 : decode cA_hand 33 = .ok (.iaload, 1) := by decide +kernel
theorem dA_hand_34 : decode cA_hand 34 = .ok (.iconst (-1), 1) := by decide +kernel
theorem dA_hand_35 : decode cA_hand 35 = .ok (.if_icmp .ne 15, 3) := by decide +kernel
theorem dA_hand_38 : decode cA_hand 38 = .ok (.aload_n 0, 1) := by decide +kernel
theorem dA_hand_39 : decode cA_hand 39 = .ok (.getfield 10, 3) := by decide +kernel
theorem dA_hand_42 : decode cA_hand 42 = .ok (.getfield 133, 3) := by decide +kernel
theorem dA_hand_45 : decode cA_hand 45 = .ok (.iload_n 2, 1) := by decide +kernel
theorem dA_hand_46 : decode cA_hand 46 = .ok (.baload, 1) := by decide +kernel
theorem dA_hand_47 : decode cA_hand 47 = .ok (.ifCond .eq 13, 3) := by decide +kernel
theorem dA_hand_50 : decode cA_hand 50 = .ok (.new 100, 3) := by decide +kernel
theorem dA_hand_53 : decode cA_hand 53 = .ok (.dup, 1) := by decide +kernel
theorem dA_hand_54 : decode cA_hand 54 = .ok (.ldc 245, 2) := by decide +kernel
theorem dA_hand_56 : decode cA_hand 56 = .ok (.invokespecial 104, 3) := by decide +kernel
theorem dA_hand_59 : decode cA_hand 59 = .ok (.athrow, 1) := by decide +kernel
theorem dA_hand_60 : decode cA_hand 60 = .ok (.aload_n 0, 1) := by decide +kernel
theorem dA_hand_61 : decode cA_hand 61 = .ok (.getfield 44, 3) := by decide +kernel
theorem dA_hand_64 : decode cA_hand 64 = .ok (.iload_n 1, 1) := by decide +kernel
theorem dA_hand_65 : decode cA_hand 65 = .ok (.iload_n 2, 1) := by decide +kernel
theorem dA_hand_66 : decode cA_hand 66 = .ok (.iastore, 1) := by decide +kernel
theorem dA_hand_67 : decode cA_hand 67 = .ok (.return_, 1) := by decide +kernel
theorem dA_handed_0 : decode cA_handed 0 = .ok (.iload_n 1, 1) := by decide +kernel
theorem dA_handed_1 : decode cA_handed 1 = .ok (.invokestatic 240, 3) := by decide +kernel
theorem dA_handed_4 : decode cA_handed 4 = .ok (.ifCond .ne 13, 3) := by decide +kernel
theorem dA_handed_7 : decode cA_handed 7 = .ok (.new 82, 3) := by decide +kernel
theorem dA_handed_10 : decode cA_handed 10 = .ok (.dup, 1) := by decide +kernel
theorem dA_handed_11 : decode cA_handed 11 = .ok (.ldc 247, 2) := by decide +kernel
theorem dA_handed_13 : decode cA_handed 13 = .ok (.invokespecial 86, 3) := by decide +kernel
theorem dA_handed_16 : decode cA_handed 16 = .ok (.athrow, 1) := by decide +kernel
theorem dA_handed_17 : decode cA_handed 17 = .ok (.aload_n 0, 1) := by decide +kernel
theorem dA_handed_18 : decode cA_handed 18 = .ok (.getfield 44, 3) := by decide +kernel
theorem dA_handed_21 : decode cA_handed 21 = .ok (.iload_n 1, 1) := by decide +kernel
theorem dA_handed_22 : decode cA_handed 22 = .ok (.iaload, 1) := by decide +kernel
theorem dA_handed_23 : decode cA_handed 23 = .ok (.ireturn, 1) := by decide +kernel
theorem dA_count_0 : decode cA_count 0 = .ok (.iload_n 1, 1) := by decide +kernel
theorem dA_count_1 : decode cA_count 1 = .ok (.tableswitch 66 0 4 #[35, 40, 48, 56, 61], 35) := by decide +kernel
theorem dA_count_36 : decode cA_count 36 = .ok (.aload_n 0, 1) := by decide +kernel
theorem dA_count_37 : decode cA_count 37 = .ok (.getfield 168, 3) := by decide +kernel
theorem dA_count_40 : decode cA_count 40 = .ok (.ireturn, 1) := by decide +kernel
theorem dA_count_41 : decode cA_count 41 = .ok (.aload_n 0, 1) := by decide +kernel
theorem dA_count_42 : decode cA_count 42 = .ok (.getfield 33, 3) := by decide +kernel
theorem dA_count_45 : decode cA_count 45 = .ok (.invokevirtual 249, 3) := by decide +kernel
theorem dA_count_48 : decode cA_count 48 = .ok (.ireturn, 1) := by decide +kernel
theorem dA_count_49 : decode cA_count 49 = .ok (.aload_n 0, 1) := by decide +kernel
theorem dA_count_50 : decode cA_count 50 = .ok (.getfield 26, 3) := by decide +kernel
theorem dA_count_53 : decode cA_count 53 = .ok (.invokevirtual 252, 3) := by decide +kernel
theorem dA_count_56 : decode cA_count 56 = .ok (.ireturn, 1) := by decide +kernel
theorem dA_count_57 : decode cA_count 57 = .ok (.aload_n 0, 1) := by decide +kernel
theorem dA_count_58 : decode cA_count 58 = .ok (.getfield 137, 3) := by decide +kernel
theorem dA_count_61 : decode cA_count 61 = .ok (.ireturn, 1) := by decide +kernel
theorem dA_count_62 : decode cA_count 62 = .ok (.aload_n 0, 1) := by decide +kernel
theorem dA_count_63 : decode cA_count 63 = .ok (.getfield 144, 3) := by decide +kernel
theorem dA_count_66 : decode cA_count 66 = .ok (.ireturn, 1) := by decide +kernel
theorem dA_count_67 : decode cA_count 67 = .ok (.new 82, 3) := by decide +kernel
theorem dA_count_70 : decode cA_count 70 = .ok (.dup, 1) := by decide +kernel
theorem dA_count_71 : decode cA_count 71 = .ok (.ldc 255, 2) := by decide +kernel
theorem dA_count_73 : decode cA_count 73 = .ok (.invokespecial 86, 3) := by decide +kernel
theorem dA_count_76 : decode cA_count 76 = .ok (.athrow, 1) := by decide +kernel
theorem dA_isWithin_0 : decode cA_isWithin 0 = .ok (.iload_n 0, 1) := by decide +kernel
theorem dA_isWithin_1 : decode cA_isWithin 1 = .ok (.iload_n 1, 1) := by decide +kernel
theorem dA_isWithin_2 : decode cA_isWithin 2 = .ok (.if_icmp .lt 12, 3) := by decide +kernel
theorem dA_isWithin_5 : decode cA_isWithin 5 = .ok (.iload_n 0, 1) := by decide +kernel
theorem dA_isWithin_6 : decode cA_isWithin 6 = .ok (.iload_n 2, 1) := by decide +kernel
theorem dA_isWithin_7 : decode cA_isWithin 7 = .ok (.if_icmp .gt 7, 3) := by decide +kernel
theorem dA_isWithin_10 : decode cA_isWithin 10 = .ok (.iconst 1, 1) := by decide +kernel
theorem dA_isWithin_11 : decode cA_isWithin 11 = .ok (.goto 4, 3) := by decide +kernel
theorem dA_isWithin_14 : decode cA_isWithin 14 = .ok (.iconst 0, 1) := by decide +kernel
theorem dA_isWithin_15 : decode cA_isWithin 15 = .ok (.ireturn, 1) := by decide +kernel
theorem dA_isSpan_0 : decode cA_isSpan 0 = .ok (.iload_n 0, 1) := by decide +kernel
theorem dA_isSpan_1 : decode cA_isSpan 1 = .ok (.ifCond .lt 18, 3) := by decide +kernel
theorem dA_isSpan_4 : decode cA_isSpan 4 = .ok (.iload_n 0, 1) := by decide +kernel
theorem dA_isSpan_5 : decode cA_isSpan 5 = .ok (.iload_n 1, 1) := by decide +kernel
theorem dA_isSpan_6 : decode cA_isSpan 6 = .ok (.if_icmp .ge 13, 3) := by decide +kernel
theorem dA_isSpan_9 : decode cA_isSpan 9 = .ok (.iload_n 1, 1) := by decide +kernel
theorem dA_isSpan_10 : decode cA_isSpan 10 = .ok (.ldc 171, 2) := by decide +kernel
theorem dA_isSpan_12 : decode cA_isSpan 12 = .ok (.if_icmp .gt 7, 3) := by decide +kernel
theorem dA_isSpan_15 : decode cA_isSpan 15 = .ok (.iconst 1, 1) := by decide +kernel
theorem dA_isSpan_16 : decode cA_isSpan 16 = .ok (.goto 4, 3) := by decide +kernel
theorem dA_isSpan_19 : decode cA_isSpan 19 = .ok (.iconst 0, 1) := by decide +kernel
theorem dA_isSpan_20 : decode cA_isSpan 20 = .ok (.ireturn, 1) := by decide +kernel
theorem dA_isHours_0 : decode cA_isHours 0 = .ok (.iload_n 0, 1) := by decide +kernel
theorem dA_isHours_1 : decode cA_isHours 1 = .ok (.ifCond .lt 25, 3) := by decide +kernel
theorem dA_isHours_4 : decode cA_isHours 4 = .ok (.iload_n 0, 1) := by decide +kernel
theorem dA_isHours_5 : decode cA_isHours 5 = .ok (.bipush 100, 2) := by decide +kernel
theorem dA_isHours_7 : decode cA_isHours 7 = .ok (.idiv, 1) := by decide +kernel
theorem dA_isHours_8 : decode cA_isHours 8 = .ok (.bipush 24, 2) := by decide +kernel
theorem dA_isHours_10 : decode cA_isHours 10 = .ok (.if_icmp .ge 16, 3) := by decide +kernel
theorem dA_isHours_13 : decode cA_isHours 13 = .ok (.iload_n 0, 1) := by decide +kernel
theorem dA_isHours_14 : decode cA_isHours 14 = .ok (.bipush 100, 2) := by decide +kernel
theorem dA_isHours_16 : decode cA_isHours 16 = .ok (.irem, 1) := by decide +kernel
theorem dA_isHours_17 : decode cA_isHours 17 = .ok (.bipush 24, 2) := by decide +kernel
theorem dA_isHours_19 : decode cA_isHours 19 = .ok (.if_icmp .ge 7, 3) := by decide +kernel
theorem dA_isHours_22 : decode cA_isHours 22 = .ok (.iconst 1, 1) := by decide +kernel
theorem dA_isHours_23 : decode cA_isHours 23 = .ok (.goto 4, 3) := by decide +kernel
theorem dA_isHours_26 : decode cA_isHours 26 = .ok (.iconst 0, 1) := by decide +kernel
theorem dA_isHours_27 : decode cA_isHours 27 = .ok (.ireturn, 1) := by decide +kernel
theorem dA_isNumber_0 : decode cA_isNumber 0 = .ok (.iload_n 0, 1) := by decide +kernel
theorem dA_isNumber_1 : decode cA_isNumber 1 = .ok (.iconst 0, 1) := by decide +kernel
theorem dA_isNumber_2 : decode cA_isNumber 2 = .ok (.sipush 999, 3) := by decide +kernel
theorem dA_isNumber_5 : decode cA_isNumber 5 = .ok (.invokestatic 54, 3) := by decide +kernel
theorem dA_isNumber_8 : decode cA_isNumber 8 = .ok (.ireturn, 1) := by decide +kernel
theorem dA_isCall_0 : decode cA_isCall 0 = .ok (.iload_n 0, 1) := by decide +kernel
theorem dA_isCall_1 : decode cA_isCall 1 = .ok (.iconst 0, 1) := by decide +kernel
theorem dA_isCall_2 : decode cA_isCall 2 = .ok (.bipush 99, 2) := by decide +kernel
theorem dA_isCall_4 : decode cA_isCall 4 = .ok (.invokestatic 54, 3) := by decide +kernel
theorem dA_isCall_7 : decode cA_isCall 7 = .ok (.ireturn, 1) := by decide +kernel
theorem dA_sendOn_0 : decode cA_sendOn 0 = .ok (.aload_n 0, 1) := by decide +kernel
theorem dA_sendOn_1 : decode cA_sendOn 1 = .ok (.iload_n 1, 1) := by decide +kernel
theorem dA_sendOn_2 : decode cA_sendOn 2 = .ok (.invokevirtual 257, 3) := by decide +kernel
theorem dA_sendOn_5 : decode cA_sendOn 5 = .ok (.istore_n 2, 1) := by decide +kernel
theorem dA_sendOn_6 : decode cA_sendOn 6 = .ok (.iload_n 2, 1) := by decide +kernel
theorem dA_sendOn_7 : decode cA_sendOn 7 = .ok (.iconst (-1), 1) := by decide +kernel
theorem dA_sendOn_8 : decode cA_sendOn 8 = .ok (.if_icmp .ne 15, 3) := by decide +kernel
theorem dA_sendOn_11 : decode cA_sendOn 11 = .ok (.aload_n 0, 1) := by decide +kernel
theorem dA_sendOn_12 : decode cA_sendOn 12 = .ok (.getfield 26, 3) := by decide +kernel
theorem dA_sendOn_15 : decode cA_sendOn 15 = .ok (.iload_n 1, 1) := by decide +kernel
theorem dA_sendOn_16 : decode cA_sendOn 16 = .ok (.iconst 2, 1) := by decide +kernel
theorem dA_sendOn_17 : decode cA_sendOn 17 = .ok (.invokevirtual 260, 3) := by decide +kernel
theorem dA_sendOn_20 : decode cA_sendOn 20 = .ok (.goto 25, 3) := by decide +kernel
theorem dA_sendOn_23 : decode cA_sendOn 23 = .ok (.aload_n 0, 1) := by decide +kernel
theorem dA_sendOn_24 : decode cA_sendOn 24 = .ok (.getfield 26, 3) := by decide +kernel
theorem dA_sendOn_27 : decode cA_sendOn 27 = .ok (.iload_n 1, 1) := by decide +kernel
theorem dA_sendOn_28 : decode cA_sendOn 28 = .ok (.iload_n 2, 1) := by decide +kernel
theorem dA_sendOn_29 : decode cA_sendOn 29 = .ok (.aload_n 0, 1) := by decide +kernel
theorem dA_sendOn_30 : decode cA_sendOn 30 = .ok (.getfield 168, 3) := by decide +kernel
theorem dA_sendOn_33 : decode cA_sendOn 33 = .ok (.aload_n 0, 1) := by decide +kernel
theorem dA_sendOn_34 : decode cA_sendOn 34 = .ok (.getfield 10, 3) := by decide +kernel
theorem dA_sendOn_37 : decode cA_sendOn 37 = .ok (.getfield 133, 3) := by decide +kernel
theorem dA_sendOn_40 : decode cA_sendOn 40 = .ok (.iload_n 2, 1) := by decide +kernel
theorem dA_sendOn_41 : decode cA_sendOn 41 = .ok (.baload, 1) := by decide +kernel
theorem dA_sendOn_42 : decode cA_sendOn 42 = .ok (.invokevirtual 264, 3) := by decide +kernel
theorem dA_sendOn_45 : decode cA_sendOn 45 = .ok (.return_, 1) := by decide +kernel
theorem dA_nextHouse_0 : decode cA_nextHouse 0 = .ok (.iconst (-1), 1) := by decide +kernel
theorem dA_nextHouse_1 : decode cA_nextHouse 1 = .ok (.istore_n 2, 1) := by decide +kernel
theorem dA_nextHouse_2 : decode cA_nextHouse 2 = .ok (.iconst 0, 1) := by decide +kernel
theorem dA_nextHouse_3 : decode cA_nextHouse 3 = .ok (.istore_n 3, 1) := by decide +kernel
theorem dA_nextHouse_4 : decode cA_nextHouse 4 = .ok (.iload_n 3, 1) := by decide +kernel
theorem dA_nextHouse_5 : decode cA_nextHouse 5 = .ok (.aload_n 0, 1) := by decide +kernel
theorem dA_nextHouse_6 : decode cA_nextHouse 6 = .ok (.getfield 10, 3) := by decide +kernel
theorem dA_nextHouse_9 : decode cA_nextHouse 9 = .ok (.getfield 268, 3) := by decide +kernel
theorem dA_nextHouse_12 : decode cA_nextHouse 12 = .ok (.if_icmp .ge 86, 3) := by decide +kernel
theorem dA_nextHouse_15 : decode cA_nextHouse 15 = .ok (.aload_n 0, 1) := by decide +kernel
theorem dA_nextHouse_16 : decode cA_nextHouse 16 = .ok (.getfield 26, 3) := by decide +kernel
theorem dA_nextHouse_19 : decode cA_nextHouse 19 = .ok (.iload_n 1, 1) := by decide +kernel
theorem dA_nextHouse_20 : decode cA_nextHouse 20 = .ok (.iload_n 3, 1) := by decide +kernel
theorem dA_nextHouse_21 : decode cA_nextHouse 21 = .ok (.invokevirtual 269, 3) := by decide +kernel
theorem dA_nextHouse_24 : decode cA_nextHouse 24 = .ok (.ifCond .ne 32, 3) := by decide +kernel
theorem dA_nextHouse_27 : decode cA_nextHouse 27 = .ok (.aload_n 0, 1) := by decide +kernel
theorem dA_nextHouse_28 : decode cA_nextHouse 28 = .ok (.getfield 19, 3) := by decide +kernel
theorem dA_nextHouse_31 : decode cA_nextHouse 31 = .ok (.iload_n 3, 1) := by decide +kernel
theorem dA_nextHouse_32 : decode cA_nextHouse 32 = .ok (.aload_n 0, 1) := by decide +kernel
theorem dA_nextHouse_33 : decode cA_nextHouse 33 = .ok (.getfield 26, 3) := by decide +kernel
theorem dA_nextHouse_36 : decode cA_nextHouse 36 = .ok (.getfield 272, 3) := by decide +kernel
theorem dA_nextHouse_39 : decode cA_nextHouse 39 = .ok (.iload_n 1, 1) := by decide +kernel
theorem dA_nextHouse_40 : decode cA_nextHouse 40 = .ok (.iaload, 1) := by decide +kernel
theorem dA_nextHouse_41 : decode cA_nextHouse 41 = .ok (.aload_n 0, 1) := by decide +kernel
theorem dA_nextHouse_42 : decode cA_nextHouse 42 = .ok (.getfield 168, 3) := by decide +kernel
theorem dA_nextHouse_45 : decode cA_nextHouse 45 = .ok (.invokevirtual 275, 3) := by decide +kernel
theorem dA_nextHouse_48 : decode cA_nextHouse 48 = .ok (.iconst (-1), 1) := by decide +kernel
theorem dA_nextHouse_49 : decode cA_nextHouse 49 = .ok (.if_icmp .eq 7, 3) := by decide +kernel
theorem dA_nextHouse_52 : decode cA_nextHouse 52 = .ok (.iconst 1, 1) := by decide +kernel
theorem dA_nextHouse_53 : decode cA_nextHouse 53 = .ok (.goto 4, 3) := by decide +kernel
theorem dA_nextHouse_56 : decode cA_nextHouse 56 = .ok (.iconst 0, 1) := by decide +kernel
theorem dA_nextHouse_57 : decode cA_nextHouse 57 = .ok (.istore 4, 2) := by decide +kernel
theorem dA_nextHouse_59 : decode cA_nextHouse 59 = .ok (.iload 4, 2) := by decide +kernel
theorem dA_nextHouse_61 : decode cA_nextHouse 61 = .ok (.ifCond .eq 31, 3) := by decide +kernel
theorem dA_nextHouse_64 : decode cA_nextHouse 64 = .ok (.iload_n 2, 1) := by decide +kernel
theorem dA_nextHouse_65 : decode cA_nextHouse 65 = .ok (.iconst (-1), 1) := by decide +kernel
theorem dA_nextHouse_66 : decode cA_nextHouse 66 = .ok (.if_icmp .eq 24, 3) := by decide +kernel
theorem dA_nextHouse_69 : decode cA_nextHouse 69 = .ok (.aload_n 0, 1) := by decide +kernel
theorem dA_nextHouse_70 : decode cA_nextHouse 70 = .ok (.getfield 10, 3) := by decide +kernel
theorem dA_nextHouse_73 : decode cA_nextHouse 73 = .ok (.getfield 278, 3) := by decide +kernel
theorem dA_nextHouse_76 : decode cA_nextHouse 76 = .ok (.iload_n 3, 1) := by decide +kernel
theorem dA_nextHouse_77 : decode cA_nextHouse 77 = .ok (.iaload, 1) := by decide +kernel
theorem dA_nextHouse_78 : decode cA_nextHouse 78 = .ok (.aload_n 0, 1) := by decide +kernel
theorem dA_nextHouse_79 : decode cA_nextHouse 79 = .ok (.getfield 10, 3) := by decide +kernel
theorem dA_nextHouse_82 : decode cA_nextHouse 82 = .ok (.getfield 278, 3) := by decide +kernel
theorem dA_nextHouse_85 : decode cA_nextHouse 85 = .ok (.iload_n 2, 1) := by decide +kernel
theorem dA_nextHouse_86 : decode cA_nextHouse 86 = .ok (.iaload, 1) := by decide +kernel
theorem dA_nextHouse_87 : decode cA_nextHouse 87 = .ok (.if_icmp .le 5, 3) := by decide +kernel
theorem dA_nextHouse_90 : decode cA_nextHouse 90 = .ok (.iload_n 3, 1) := by decide +kernel
theorem dA_nextHouse_91 : decode cA_nextHouse 91 = .ok (.istore_n 2, 1) := by decide +kernel
theorem dA_nextHouse_92 : decode cA_nextHouse 92 = .ok (.iinc 3 1, 3) := by decide +kernel
theorem dA_nextHouse_95 : decode cA_nextHouse 95 = .ok (.goto (-91), 3) := by decide +kernel
theorem dA_nextHouse_98 : decode cA_nextHouse 98 = .ok (.iload_n 2, 1) := by decide +kernel
theorem dA_nextHouse_99 : decode cA_nextHouse 99 = .ok (.ireturn, 1) := by decide +kernel
theorem dA_judge_0 : decode cA_judge 0 = .ok (.aload_n 0, 1) := by decide +kernel
theorem dA_judge_1 : decode cA_judge 1 = .ok (.getfield 26, 3) := by decide +kernel
theorem dA_judge_4 : decode cA_judge 4 = .ok (.iload_n 1, 1) := by decide +kernel
theorem dA_judge_5 : decode cA_judge 5 = .ok (.iload_n 2, 1) := by decide +kernel
theorem dA_judge_6 : decode cA_judge 6 = .ok (.invokevirtual 281, 3) := by decide +kernel
theorem dA_judge_9 : decode cA_judge 9 = .ok (.ifCond .ne 5, 3) := by decide +kernel
theorem dA_judge_12 : decode cA_judge 12 = .ok (.iconst 3, 1) := by decide +kernel
theorem dA_judge_13 : decode cA_judge 13 = .ok (.ireturn, 1) := by decide +kernel
theorem dA_judge_14 : decode cA_judge 14 = .ok (.iload_n 3, 1) := by decide +kernel
theorem dA_judge_15 : decode cA_judge 15 = .ok (.ifCond .le 7, 3) := by decide +kernel
theorem dA_judge_18 : decode cA_judge 18 = .ok (.iconst 1, 1) := by decide +kernel
theorem dA_judge_19 : decode cA_judge 19 = .ok (.goto 4, 3) := by decide +kernel
theorem dA_judge_22 : decode cA_judge 22 = .ok (.iconst 0, 1) := by decide +kernel
theorem dA_judge_23 : decode cA_judge 23 = .ok (.istore 4, 2) := by decide +kernel
theorem dA_judge_25 : decode cA_judge 25 = .ok (.iload 4, 2) := by decide +kernel
theorem dA_judge_27 : decode cA_judge 27 = .ok (.ifCond .eq 17, 3) := by decide +kernel
theorem dA_judge_30 : decode cA_judge 30 = .ok (.iload_n 3, 1) := by decide +kernel
theorem dA_judge_31 : decode cA_judge 31 = .ok (.aload_n 0, 1) := by decide +kernel
theorem dA_judge_32 : decode cA_judge 32 = .ok (.iload_n 1, 1) := by decide +kernel
theorem dA_judge_33 : decode cA_judge 33 = .ok (.iload_n 2, 1) := by decide +kernel
theorem dA_judge_34 : decode cA_judge 34 = .ok (.invokevirtual 284, 3) := by decide +kernel
theorem dA_judge_37 : decode cA_judge 37 = .ok (.if_icmp .le 7, 3) := by decide +kernel
theorem dA_judge_40 : decode cA_judge 40 = .ok (.iconst 4, 1) := by decide +kernel
theorem dA_judge_41 : decode cA_judge 41 = .ok (.goto 4, 3) := by decide +kernel
theorem dA_judge_44 : decode cA_judge 44 = .ok (.iconst 1, 1) := by decide +kernel
theorem dA_judge_45 : decode cA_judge 45 = .ok (.ireturn, 1) := by decide +kernel
theorem dA_mostToTake_0 : decode cA_mostToTake 0 = .ok (.aload_n 0, 1) := by decide +kernel
theorem dA_mostToTake_1 : decode cA_mostToTake 1 = .ok (.getfield 19, 3) := by decide +kernel
theorem dA_mostToTake_4 : decode cA_mostToTake 4 = .ok (.iload_n 2, 1) := by decide +kernel
theorem dA_mostToTake_5 : decode cA_mostToTake 5 = .ok (.aload_n 0, 1) := by decide +kernel
theorem dA_mostToTake_6 : decode cA_mostToTake 6 = .ok (.getfield 26, 3) := by decide +kernel
theorem dA_mostToTake_9 : decode cA_mostToTake 9 = .ok (.getfield 272, 3) := by decide +kernel
theorem dA_mostToTake_12 : decode cA_mostToTake 12 = .ok (.iload_n 1, 1) := by decide +kernel
theorem dA_mostToTake_13 : decode cA_mostToTake 13 = .ok (.iaload, 1) := by decide +kernel
theorem dA_mostToTake_14 : decode cA_mostToTake 14 = .ok (.aload_n 0, 1) := by decide +kernel
theorem dA_mostToTake_15 : decode cA_mostToTake 15 = .ok (.getfield 168, 3) := by decide +kernel
theorem dA_mostToTake_18 : decode cA_mostToTake 18 = .ok (.invokevirtual 275, 3) := by decide +kernel
theorem dA_mostToTake_21 : decode cA_mostToTake 21 = .ok (.istore_n 3, 1) := by decide +kernel
theorem dA_mostToTake_22 : decode cA_mostToTake 22 = .ok (.iload_n 3, 1) := by decide +kernel
theorem dA_mostToTake_23 : decode cA_mostToTake 23 = .ok (.iconst (-1), 1) := by decide +kernel
theorem dA_mostToTake_24 : decode cA_mostToTake 24 = .ok (.if_icmp .ne 5, 3) := by decide +kernel
theorem dA_mostToTake_27 : decode cA_mostToTake 27 = .ok (.iconst 0, 1) := by decide +kernel
theorem dA_mostToTake_28 : decode cA_mostToTake 28 = .ok (.ireturn, 1) := by decide +kernel
theorem dA_mostToTake_29 : decode cA_mostToTake 29 = .ok (.aload_n 0, 1) := by decide +kernel
theorem dA_mostToTake_30 : decode cA_mostToTake 30 = .ok (.getfield 26, 3) := by decide +kernel
theorem dA_mostToTake_33 : decode cA_mostToTake 33 = .ok (.iload_n 1, 1) := by decide +kernel
theorem dA_mostToTake_34 : decode cA_mostToTake 34 = .ok (.invokevirtual 287, 3) := by decide +kernel
theorem dA_mostToTake_37 : decode cA_mostToTake 37 = .ok (.aload_n 0, 1) := by decide +kernel
theorem dA_mostToTake_38 : decode cA_mostToTake 38 = .ok (.getfield 19, 3) := by decide +kernel
theorem dA_mostToTake_41 : decode cA_mostToTake 41 = .ok (.getfield 290, 3) := by decide +kernel
theorem dA_mostToTake_44 : decode cA_mostToTake 44 = .ok (.iload_n 3, 1) := by decide +kernel
theorem dA_mostToTake_45 : decode cA_mostToTake 45 = .ok (.iaload, 1) := by decide +kernel
theorem dA_mostToTake_46 : decode cA_mostToTake 46 = .ok (.aload_n 0, 1) := by decide +kernel
theorem dA_mostToTake_47 : decode cA_mostToTake 47 = .ok (.getfield 33, 3) := by decide +kernel
theorem dA_mostToTake_50 : decode cA_mostToTake 50 = .ok (.iload_n 3, 1) := by decide +kernel
theorem dA_mostToTake_51 : decode cA_mostToTake 51 = .ok (.invokevirtual 293, 3) := by decide +kernel
theorem dA_mostToTake_54 : decode cA_mostToTake 54 = .ok (.isub, 1) := by decide +kernel
theorem dA_mostToTake_55 : decode cA_mostToTake 55 = .ok (.invokestatic 296, 3) := by decide +kernel
theorem dA_mostToTake_58 : decode cA_mostToTake 58 = .ok (.ireturn, 1) := by decide +kernel
theorem dA_take_0 : decode cA_take 0 = .ok (.iload_n 3, 1) := by decide +kernel
theorem dA_take_1 : decode cA_take 1 = .ok (.ifCond .le 17, 3) := by decide +kernel
theorem dA_take_4 : decode cA_take 4 = .ok (.aload_n 0, 1) := by decide +kernel
theorem dA_take_5 : decode cA_take 5 = .ok (.iload_n 1, 1) := by decide +kernel
theorem dA_take_6 : decode cA_take 6 = .ok (.iload_n 2, 1) := by decide +kernel
theorem dA_take_7 : decode cA_take 7 = .ok (.iload_n 3, 1) := by decide +kernel
theorem dA_take_8 : decode cA_take 8 = .ok (.aload_n 0, 1) := by decide +kernel
theorem dA_take_9 : decode cA_take 9 = .ok (.getfield 168, 3) := by decide +kernel
theorem dA_take_12 : decode cA_take 12 = .ok (.iload 4, 2) := by decide +kernel
theorem dA_take_14 : decode cA_take 14 = .ok (.iadd, 1) := by decide +kernel
theorem dA_take_15 : decode cA_take 15 = .ok (.invokevirtual 301, 3) := by decide +kernel
theorem dA_take_18 : decode cA_take 18 = .ok (.aload_n 0, 1) := by decide +kernel
theorem dA_take_19 : decode cA_take 19 = .ok (.getfield 26, 3) := by decide +kernel
theorem dA_take_22 : decode cA_take 22 = .ok (.iload_n 1, 1) := by decide +kernel
theorem dA_take_23 : decode cA_take 23 = .ok (.invokevirtual 287, 3) := by decide +kernel
theorem dA_take_26 : decode cA_take 26 = .ok (.ifCond .ne 15, 3) := by decide +kernel
theorem dA_take_29 : decode cA_take 29 = .ok (.aload_n 0, 1) := by decide +kernel
theorem dA_take_30 : decode cA_take 30 = .ok (.getfield 26, 3) := by decide +kernel
theorem dA_take_33 : decode cA_take 33 = .ok (.iload_n 1, 1) := by decide +kernel
theorem dA_take_34 : decode cA_take 34 = .ok (.iconst 1, 1) := by decide +kernel
theorem dA_take_35 : decode cA_take 35 = .ok (.invokevirtual 260, 3) := by decide +kernel
theorem dA_take_38 : decode cA_take 38 = .ok (.goto 8, 3) := by decide +kernel
theorem dA_take_41 : decode cA_take 41 = .ok (.aload_n 0, 1) := by decide +kernel
theorem dA_take_42 : decode cA_take 42 = .ok (.iload_n 1, 1) := by decide +kernel
theorem dA_take_43 : decode cA_take 43 = .ok (.invokevirtual 121, 3) := by decide +kernel
theorem dA_take_46 : decode cA_take 46 = .ok (.return_, 1) := by decide +kernel
theorem dA_lend_0 : decode cA_lend 0 = .ok (.aload_n 0, 1) := by decide +kernel
theorem dA_lend_1 : decode cA_lend 1 = .ok (.getfield 19, 3) := by decide +kernel
theorem dA_lend_4 : decode cA_lend 4 = .ok (.iload_n 2, 1) := by decide +kernel
theorem dA_lend_5 : decode cA_lend 5 = .ok (.aload_n 0, 1) := by decide +kernel
theorem dA_lend_6 : decode cA_lend 6 = .ok (.getfield 26, 3) := by decide +kernel
theorem dA_lend_9 : decode cA_lend 9 = .ok (.getfield 272, 3) := by decide +kernel
theorem dA_lend_12 : decode cA_lend 12 = .ok (.iload_n 1, 1) := by decide +kernel
theorem dA_lend_13 : decode cA_lend 13 = .ok (.iaload, 1) := by decide +kernel
theorem dA_lend_14 : decode cA_lend 14 = .ok (.aload_n 0, 1) := by decide +kernel
theorem dA_lend_15 : decode cA_lend 15 = .ok (.getfield 168, 3) := by decide +kernel
theorem dA_lend_18 : decode cA_lend 18 = .ok (.invokevirtual 275, 3) := by decide +kernel
theorem dA_lend_21 : decode cA_lend 21 = .ok (.istore 5, 2) := by decide +kernel
theorem dA_lend_23 : decode cA_lend 23 = .ok (.iconst 0, 1) := by decide +kernel
theorem dA_lend_24 : decode cA_lend 24 = .ok (.istore 6, 2) := by decide +kernel
theorem dA_lend_26 : decode cA_lend 26 = .ok (.iload 6, 2) := by decide +kernel
theorem dA_lend_28 : decode cA_lend 28 = .ok (.iload_n 3, 1) := by decide +kernel
theorem dA_lend_29 : decode cA_lend 29 = .ok (.if_icmp .ge 22, 3) := by decide +kernel
theorem dA_lend_32 : decode cA_lend 32 = .ok (.aload_n 0, 1) := by decide +kernel
theorem dA_lend_33 : decode cA_lend 33 = .ok (.getfield 33, 3) := by decide +kernel
theorem dA_lend_36 : decode cA_lend 36 = .ok (.iload_n 2, 1) := by decide +kernel
theorem dA_lend_37 : decode cA_lend 37 = .ok (.iload_n 1, 1) := by decide +kernel
theorem dA_lend_38 : decode cA_lend 38 = .ok (.iload 5, 2) := by decide +kernel
theorem dA_lend_40 : decode cA_lend 40 = .ok (.iload 4, 2) := by decide +kernel
theorem dA_lend_42 : decode cA_lend 42 = .ok (.invokevirtual 304, 3) := by decide +kernel
theorem dA_lend_45 : decode cA_lend 45 = .ok (.iinc 6 1, 3) := by decide +kernel
theorem dA_lend_48 : decode cA_lend 48 = .ok (.goto (-22), 3) := by decide +kernel
theorem dA_lend_51 : decode cA_lend 51 = .ok (.aload_n 0, 1) := by decide +kernel
theorem dA_lend_52 : decode cA_lend 52 = .ok (.getfield 26, 3) := by decide +kernel
theorem dA_lend_55 : decode cA_lend 55 = .ok (.getfield 208, 3) := by decide +kernel
theorem dA_lend_58 : decode cA_lend 58 = .ok (.iload_n 1, 1) := by decide +kernel
theorem dA_lend_59 : decode cA_lend 59 = .ok (.dup2, 1) := by decide +kernel
theorem dA_lend_60 : decode cA_lend 60 = .ok (.iaload, 1) := by decide +kernel
theorem dA_lend_61 : decode cA_lend 61 = .ok (.iload_n 3, 1) := by decide +kernel
theorem dA_lend_62 : decode cA_lend 62 = .ok (.iadd, 1) := by decide +kernel
theorem dA_lend_63 : decode cA_lend 63 = .ok (.iastore, 1) := by decide +kernel
theorem dA_lend_64 : decode cA_lend 64 = .ok (.return_, 1) := by decide +kernel
theorem dA_nextEvent_0 : decode cA_nextEvent 0 = .ok (.iload_n 1, 1) := by decide +kernel
theorem dA_nextEvent_1 : decode cA_nextEvent 1 = .ok (.istore_n 2, 1) := by decide +kernel
theorem dA_nextEvent_2 : decode cA_nextEvent 2 = .ok (.iconst 0, 1) := by decide +kernel
theorem dA_nextEvent_3 : decode cA_nextEvent 3 = .ok (.istore_n 3, 1) := by decide +kernel
theorem dA_nextEvent_4 : decode cA_nextEvent 4 = .ok (.iload_n 3, 1) := by decide +kernel
theorem dA_nextEvent_5 : decode cA_nextEvent 5 = .ok (.aload_n 0, 1) := by decide +kernel
theorem dA_nextEvent_6 : decode cA_nextEvent 6 = .ok (.getfield 26, 3) := by decide +kernel
theorem dA_nextEvent_9 : decode cA_nextEvent 9 = .ok (.getfield 306, 3) := by decide +kernel
theorem dA_nextEvent_12 : decode cA_nextEvent 12 = .ok (.if_icmp .ge 33, 3) := by decide +kernel
theorem dA_nextEvent_15 : decode cA_nextEvent 15 = .ok (.aload_n 0, 1) := by decide +kernel
theorem dA_nextEvent_16 : decode cA_nextEvent 16 = .ok (.getfield 26, 3) := by decide +kernel
theorem dA_nextEvent_19 : decode cA_nextEvent 19 = .ok (.iload_n 3, 1) := by decide +kernel
theorem dA_nextEvent_20 : decode cA_nextEvent 20 = .ok (.invokevirtual 307, 3) := by decide +kernel
theorem dA_nextEvent_23 : decode cA_nextEvent 23 = .ok (.ifCond .eq 16, 3) := by decide +kernel
theorem dA_nextEvent_26 : decode cA_nextEvent 26 = .ok (.iload_n 2, 1) := by decide +kernel
theorem dA_nextEvent_27 : decode cA_nextEvent 27 = .ok (.aload_n 0, 1) := by decide +kernel
theorem dA_nextEvent_28 : decode cA_nextEvent 28 = .ok (.getfield 26, 3) := by decide +kernel
theorem dA_nextEvent_31 : decode cA_nextEvent 31 = .ok (.iload_n 3, 1) := by decide +kernel
theorem dA_nextEvent_32 : decode cA_nextEvent 32 = .ok (.invokevirtual 310, 3) := by decide +kernel
theorem dA_nextEvent_35 : decode cA_nextEvent 35 = .ok (.invokestatic 296, 3) := by decide +kernel
theorem dA_nextEvent_38 : decode cA_nextEvent 38 = .ok (.istore_n 2, 1) := by decide +kernel
theorem dA_nextEvent_39 : decode cA_nextEvent 39 = .ok (.iinc 3 1, 3) := by decide +kernel
theorem dA_nextEvent_42 : decode cA_nextEvent 42 = .ok (.goto (-38), 3) := by decide +kernel
theorem dA_nextEvent_45 : decode cA_nextEvent 45 = .ok (.iconst 0, 1) := by decide +kernel
theorem dA_nextEvent_46 : decode cA_nextEvent 46 = .ok (.istore_n 3, 1) := by decide +kernel
theorem dA_nextEvent_47 : decode cA_nextEvent 47 = .ok (.iload_n 3, 1) := by decide +kernel
theorem dA_nextEvent_48 : decode cA_nextEvent 48 = .ok (.aload_n 0, 1) := by decide +kernel
theorem dA_nextEvent_49 : decode cA_nextEvent 49 = .ok (.getfield 33, 3) := by decide +kernel
theorem dA_nextEvent_52 : decode cA_nextEvent 52 = .ok (.getfield 234, 3) := by decide +kernel
theorem dA_nextEvent_55 : decode cA_nextEvent 55 = .ok (.if_icmp .ge 42, 3) := by decide +kernel
theorem dA_nextEvent_58 : decode cA_nextEvent 58 = .ok (.aload_n 0, 1) := by decide +kernel
theorem dA_nextEvent_59 : decode cA_nextEvent 59 = .ok (.getfield 33, 3) := by decide +kernel
theorem dA_nextEvent_62 : decode cA_nextEvent 62 = .ok (.iload_n 3, 1) := by decide +kernel
theorem dA_nextEvent_63 : decode cA_nextEvent 63 = .ok (.invokevirtual 189, 3) := by decide +kernel
theorem dA_nextEvent_66 : decode cA_nextEvent 66 = .ok (.ifCond .eq 25, 3) := by decide +kernel
theorem dA_nextEvent_69 : decode cA_nextEvent 69 = .ok (.iload_n 2, 1) := by decide +kernel
theorem dA_nextEvent_70 : decode cA_nextEvent 70 = .ok (.aload_n 0, 1) := by decide +kernel
theorem dA_nextEvent_71 : decode cA_nextEvent 71 = .ok (.getfield 19, 3) := by decide +kernel
theorem dA_nextEvent_74 : decode cA_nextEvent 74 = .ok (.getfield 313, 3) := by decide +kernel
theorem dA_nextEvent_77 : decode cA_nextEvent 77 = .ok (.aload_n 0, 1) := by decide +kernel
theorem dA_nextEvent_78 : decode cA_nextEvent 78 = .ok (.getfield 33, 3) := by decide +kernel
theorem dA_nextEvent_81 : decode cA_nextEvent 81 = .ok (.getfield 226, 3) := by decide +kernel
theorem dA_nextEvent_84 : decode cA_nextEvent 84 = .ok (.iload_n 3, 1) := by decide +kernel
theorem dA_nextEvent_85 : decode cA_nextEvent 85 = .ok (.iaload, 1) := by decide +kernel
theorem dA_nextEvent_86 : decode cA_nextEvent 86 = .ok (.iaload, 1) := by decide +kernel
theorem dA_nextEvent_87 : decode cA_nextEvent 87 = .ok (.invokestatic 296, 3) := by decide +kernel
theorem dA_nextEvent_90 : decode cA_nextEvent 90 = .ok (.istore_n 2, 1) := by decide +kernel
theorem dA_nextEvent_91 : decode cA_nextEvent 91 = .ok (.iinc 3 1, 3) := by decide +kernel
theorem dA_nextEvent_94 : decode cA_nextEvent 94 = .ok (.goto (-47), 3) := by decide +kernel
theorem dA_nextEvent_97 : decode cA_nextEvent 97 = .ok (.iload_n 2, 1) := by decide +kernel
theorem dA_nextEvent_98 : decode cA_nextEvent 98 = .ok (.ireturn, 1) := by decide +kernel
theorem dA_endLoansWithAgreements_0 : decode cA_endLoansWithAgreements 0 = .ok (.iconst 0, 1) := by decide +kernel
theorem dA_endLoansWithAgreements_1 : decode cA_endLoansWithAgreements 1 = .ok (.istore_n 1, 1) := by decide +kernel
theorem dA_endLoansWithAgreements_2 : decode cA_endLoansWithAgreements 2 = .ok (.iload_n 1, 1) := by decide +kernel
theorem dA_endLoansWithAgreements_3 : decode cA_endLoansWithAgreements 3 = .ok (.aload_n 0, 1) := by decide +kernel
theorem dA_endLoansWithAgreements_4 : decode cA_endLoansWithAgreements 4 = .ok (.getfield 33, 3) := by decide +kernel
theorem dA_endLoansWithAgreements_7 : decode cA_endLoansWithAgreements 7 = .ok (.getfield 234, 3) := by decide +kernel
theorem dA_endLoansWithAgreements_10 : decode cA_endLoansWithAgreements 10 = .ok (.if_icmp .ge 57, 3) := by decide +kernel
theorem dA_endLoansWithAgreements_13 : decode cA_endLoansWithAgreements 13 = .ok (.aload_n 0, 1) := by decide +kernel
theorem dA_endLoansWithAgreements_14 : decode cA_endLoansWithAgreements 14 = .ok (.getfield 33, 3) := by decide +kernel
theorem dA_endLoansWithAgreements_17 : decode cA_endLoansWithAgreements 17 = .ok (.iload_n 1, 1) := by decide +kernel
theorem dA_endLoansWithAgreements_18 : decode cA_endLoansWithAgreements 18 = .ok (.invokevirtual 189, 3) := by decide +kernel
theorem dA_endLoansWithAgreements_21 : decode cA_endLoansWithAgreements 21 = .ok (.ifCond .eq 40, 3) := by decide +kernel
theorem dA_endLoansWithAgreements_24 : decode cA_endLoansWithAgreements 24 = .ok (.aload_n 0, 1) := by decide +kernel
theorem dA_endLoansWithAgreements_25 : decode cA_endLoansWithAgreements 25 = .ok (.getfield 19, 3) := by decide +kernel
theorem dA_endLoansWithAgreements_28 : decode cA_endLoansWithAgreements 28 = .ok (.getfield 313, 3) := by decide +kernel
theorem dA_endLoansWithAgreements_31 : decode cA_endLoansWithAgreements 31 = .ok (.aload_n 0, 1) := by decide +kernel
theorem dA_endLoansWithAgreements_32 : decode cA_endLoansWithAgreements 32 = .ok (.getfield 33, 3) := by decide +kernel
theorem dA_endLoansWithAgreements_35 : decode cA_endLoansWithAgreements 35 = .ok (.getfield 226, 3) := by decide +kernel
theorem dA_endLoansWithAgreements_38 : decode cA_endLoansWithAgreements 38 = .ok (.iload_n 1, 1) := by decide +kernel
theorem dA_endLoansWithAgreements_39 : decode cA_endLoansWithAgreements 39 = .ok (.iaload, 1) := by decide +kernel
theorem dA_endLoansWithAgreements_40 : decode cA_endLoansWithAgreements 40 = .ok (.iaload, 1) := by decide +kernel
theorem dA_endLoansWithAgreements_41 : decode cA_endLoansWithAgreements 41 = .ok (.aload_n 0, 1) := by decide +kernel
theorem dA_endLoansWithAgreements_42 : decode cA_endLoansWithAgreements 42 = .ok (.getfield 168, 3) := by decide +kernel
theorem dA_endLoansWithAgreements_45 : decode cA_endLoansWithAgreements 45 = .ok (.if_icmp .gt 16, 3) := by decide +kernel
theorem dA_endLoansWithAgreements_48 : decode cA_endLoansWithAgreements 48 = .ok (.aload_n 0, 1) := by decide +kernel
theorem dA_endLoansWithAgreements_49 : decode cA_endLoansWithAgreements 49 = .ok (.getfield 33, 3) := by decide +kernel
theorem dA_endLoansWithAgreements_52 : decode cA_endLoansWithAgreements 52 = .ok (.getfield 194, 3) := by decide +kernel
theorem dA_endLoansWithAgreements_55 : decode cA_endLoansWithAgreements 55 = .ok (.iload_n 1, 1) := by decide +kernel
theorem dA_endLoansWithAgreements_56 : decode cA_endLoansWithAgreements 56 = .ok (.aload_n 0, 1) := by decide +kernel
theorem dA_endLoansWithAgreements_57 : decode cA_endLoansWithAgreements 57 = .ok (.getfield 168, 3) := by decide +kernel
theorem dA_endLoansWithAgreements_60 : decode cA_endLoansWithAgreements 60 = .ok (.iastore, 1) := by decide +kernel
theorem dA_endLoansWithAgreements_61 : decode cA_endLoansWithAgreements 61 = .ok (.iinc 1 1, 3) := by decide +kernel
theorem dA_endLoansWithAgreements_64 : decode cA_endLoansWithAgreements 64 = .ok (.goto (-62), 3) := by decide +kernel
theorem dA_endLoansWithAgreements_67 : decode cA_endLoansWithAgreements 67 = .ok (.return_, 1) := by decide +kernel
theorem dA_sendOnImpatientAsks_0 : decode cA_sendOnImpatientAsks 0 = .ok (.iconst 0, 1) := by decide +kernel
theorem dA_sendOnImpatientAsks_1 : decode cA_sendOnImpatientAsks 1 = .ok (.istore_n 1, 1) := by decide +kernel
theorem dA_sendOnImpatientAsks_2 : decode cA_sendOnImpatientAsks 2 = .ok (.iconst 0, 1) := by decide +kernel
theorem dA_sendOnImpatientAsks_3 : decode cA_sendOnImpatientAsks 3 = .ok (.istore_n 2, 1) := by decide +kernel
theorem dA_sendOnImpatientAsks_4 : decode cA_sendOnImpatientAsks 4 = .ok (.iload_n 2, 1) := by decide +kernel
theorem dA_sendOnImpatientAsks_5 : decode cA_sendOnImpatientAsks 5 = .ok (.aload_n 0, 1) := by decide +kernel
theorem dA_sendOnImpatientAsks_6 : decode cA_sendOnImpatientAsks 6 = .ok (.getfield 26, 3) := by decide +kernel
theorem dA_sendOnImpatientAsks_9 : decode cA_sendOnImpatientAsks 9 = .ok (.getfield 306, 3) := by decide +kernel
theorem dA_sendOnImpatientAsks_12 : decode cA_sendOnImpatientAsks 12 = .ok (.if_icmp .ge 43, 3) := by decide +kernel
theorem dA_sendOnImpatientAsks_15 : decode cA_sendOnImpatientAsks 15 = .ok (.aload_n 0, 1) := by decide +kernel
theorem dA_sendOnImpatientAsks_16 : decode cA_sendOnImpatientAsks 16 = .ok (.getfield 26, 3) := by decide +kernel
theorem dA_sendOnImpatientAsks_19 : decode cA_sendOnImpatientAsks 19 = .ok (.iload_n 2, 1) := by decide +kernel
theorem dA_sendOnImpatientAsks_20 : decode cA_sendOnImpatientAsks 20 = .ok (.invokevirtual 307, 3) := by decide +kernel
theorem dA_sendOnImpatientAsks_23 : decode cA_sendOnImpatientAsks 23 = .ok (.ifCond .eq 26, 3) := by decide +kernel
theorem dA_sendOnImpatientAsks_26 : decode cA_sendOnImpatientAsks 26 = .ok (.aload_n 0, 1) := by decide +kernel
theorem dA_sendOnImpatientAsks_27 : decode cA_sendOnImpatientAsks 27 = .ok (.getfield 26, 3) := by decide +kernel
theorem dA_sendOnImpatientAsks_30 : decode cA_sendOnImpatientAsks 30 = .ok (.iload_n 2, 1) := by decide +kernel
theorem dA_sendOnImpatientAsks_31 : decode cA_sendOnImpatientAsks 31 = .ok (.invokevirtual 310, 3) := by decide +kernel
theorem dA_sendOnImpatientAsks_34 : decode cA_sendOnImpatientAsks 34 = .ok (.aload_n 0, 1) := by decide +kernel
theorem dA_sendOnImpatientAsks_35 : decode cA_sendOnImpatientAsks 35 = .ok (.getfield 168, 3) := by decide +kernel
theorem dA_sendOnImpatientAsks_38 : decode cA_sendOnImpatientAsks 38 = .ok (.if_icmp .gt 11, 3) := by decide +kernel
theorem dA_sendOnImpatientAsks_41 : decode cA_sendOnImpatientAsks 41 = .ok (.aload_n 0, 1) := by decide +kernel
theorem dA_sendOnImpatientAsks_42 : decode cA_sendOnImpatientAsks 42 = .ok (.iload_n 2, 1) := by decide +kernel
theorem dA_sendOnImpatientAsks_43 : decode cA_sendOnImpatientAsks 43 = .ok (.invokevirtual 121, 3) := by decide +kernel
theorem dA_sendOnImpatientAsks_46 : decode cA_sendOnImpatientAsks 46 = .ok (.iinc 1 1, 3) := by decide +kernel
theorem dA_sendOnImpatientAsks_49 : decode cA_sendOnImpatientAsks 49 = .ok (.iinc 2 1, 3) := by decide +kernel
theorem dA_sendOnImpatientAsks_52 : decode cA_sendOnImpatientAsks 52 = .ok (.goto (-48), 3) := by decide +kernel
theorem dA_sendOnImpatientAsks_55 : decode cA_sendOnImpatientAsks 55 = .ok (.iload_n 1, 1) := by decide +kernel
theorem dA_sendOnImpatientAsks_56 : decode cA_sendOnImpatientAsks 56 = .ok (.ireturn, 1) := by decide +kernel
theorem dA_costOfLoan_0 : decode cA_costOfLoan 0 = .ok (.aload_n 0, 1) := by decide +kernel
theorem dA_costOfLoan_1 : decode cA_costOfLoan 1 = .ok (.getfield 33, 3) := by decide +kernel
theorem dA_costOfLoan_4 : decode cA_costOfLoan 4 = .ok (.iload_n 1, 1) := by decide +kernel
theorem dA_costOfLoan_5 : decode cA_costOfLoan 5 = .ok (.invokevirtual 189, 3) := by decide +kernel
theorem dA_costOfLoan_8 : decode cA_costOfLoan 8 = .ok (.ifCond .eq 10, 3) := by decide +kernel
theorem dA_costOfLoan_11 : decode cA_costOfLoan 11 = .ok (.aload_n 0, 1) := by decide +kernel
theorem dA_costOfLoan_12 : decode cA_costOfLoan 12 = .ok (.getfield 168, 3) := by decide +kernel
theorem dA_costOfLoan_15 : decode cA_costOfLoan 15 = .ok (.goto 12, 3) := by decide +kernel
theorem dA_costOfLoan_18 : decode cA_costOfLoan 18 = .ok (.aload_n 0, 1) := by decide +kernel
theorem dA_costOfLoan_19 : decode cA_costOfLoan 19 = .ok (.getfield 33, 3) := by decide +kernel
theorem dA_costOfLoan_22 : decode cA_costOfLoan 22 = .ok (.getfield 194, 3) := by decide +kernel
theorem dA_costOfLoan_25 : decode cA_costOfLoan 25 = .ok (.iload_n 1, 1) := by decide +kernel
theorem dA_costOfLoan_26 : decode cA_costOfLoan 26 = .ok (.iaload, 1) := by decide +kernel
theorem dA_costOfLoan_27 : decode cA_costOfLoan 27 = .ok (.istore_n 2, 1) := by decide +kernel
theorem dA_costOfLoan_28 : decode cA_costOfLoan 28 = .ok (.iload_n 2, 1) := by decide +kernel
theorem dA_costOfLoan_29 : decode cA_costOfLoan 29 = .ok (.aload_n 0, 1) := by decide +kernel
theorem dA_costOfLoan_30 : decode cA_costOfLoan 30 = .ok (.getfield 33, 3) := by decide +kernel
theorem dA_costOfLoan_33 : decode cA_costOfLoan 33 = .ok (.getfield 228, 3) := by decide +kernel
theorem dA_costOfLoan_36 : decode cA_costOfLoan 36 = .ok (.iload_n 1, 1) := by decide +kernel
theorem dA_costOfLoan_37 : decode cA_costOfLoan 37 = .ok (.iaload, 1) := by decide +kernel
theorem dA_costOfLoan_38 : decode cA_costOfLoan 38 = .ok (.isub, 1) := by decide +kernel
theorem dA_costOfLoan_39 : decode cA_costOfLoan 39 = .ok (.istore_n 3, 1) := by decide +kernel
theorem dA_costOfLoan_40 : decode cA_costOfLoan 40 = .ok (.iload_n 3, 1) := by decide +kernel
theorem dA_costOfLoan_41 : decode cA_costOfLoan 41 = .ok (.ifCond .gt 5, 3) := by decide +kernel
theorem dA_costOfLoan_44 : decode cA_costOfLoan 44 = .ok (.iconst 0, 1) := by decide +kernel
theorem dA_costOfLoan_45 : decode cA_costOfLoan 45 = .ok (.ireturn, 1) := by decide +kernel
theorem dA_costOfLoan_46 : decode cA_costOfLoan 46 = .ok (.iload_n 3, 1) := by decide +kernel
theorem dA_costOfLoan_47 : decode cA_costOfLoan 47 = .ok (.bipush 60, 2) := by decide +kernel
theorem dA_costOfLoan_49 : decode cA_costOfLoan 49 = .ok (.iadd, 1) := by decide +kernel
theorem dA_costOfLoan_50 : decode cA_costOfLoan 50 = .ok (.iconst 1, 1) := by decide +kernel
theorem dA_costOfLoan_51 : decode cA_costOfLoan 51 = .ok (.isub, 1) := by decide +kernel
theorem dA_costOfLoan_52 : decode cA_costOfLoan 52 = .ok (.bipush 60, 2) := by decide +kernel
theorem dA_costOfLoan_54 : decode cA_costOfLoan 54 = .ok (.idiv, 1) := by decide +kernel
theorem dA_costOfLoan_55 : decode cA_costOfLoan 55 = .ok (.istore 4, 2) := by decide +kernel
theorem dA_costOfLoan_57 : decode cA_costOfLoan 57 = .ok (.iload 4, 2) := by decide +kernel
theorem dA_costOfLoan_59 : decode cA_costOfLoan 59 = .ok (.aload_n 0, 1) := by decide +kernel
theorem dA_costOfLoan_60 : decode cA_costOfLoan 60 = .ok (.getfield 10, 3) := by decide +kernel
theorem dA_costOfLoan_63 : decode cA_costOfLoan 63 = .ok (.getfield 316, 3) := by decide +kernel
theorem dA_costOfLoan_66 : decode cA_costOfLoan 66 = .ok (.aload_n 0, 1) := by decide +kernel
theorem dA_costOfLoan_67 : decode cA_costOfLoan 67 = .ok (.getfield 33, 3) := by decide +kernel
theorem dA_costOfLoan_70 : decode cA_costOfLoan 70 = .ok (.getfield 219, 3) := by decide +kernel
theorem dA_costOfLoan_73 : decode cA_costOfLoan 73 = .ok (.iload_n 1, 1) := by decide +kernel
theorem dA_costOfLoan_74 : decode cA_costOfLoan 74 = .ok (.iaload, 1) := by decide +kernel
theorem dA_costOfLoan_75 : decode cA_costOfLoan 75 = .ok (.iaload, 1) := by decide +kernel
theorem dA_costOfLoan_76 : decode cA_costOfLoan 76 = .ok (.imul, 1) := by decide +kernel
theorem dA_costOfLoan_77 : decode cA_costOfLoan 77 = .ok (.ireturn, 1) := by decide +kernel
theorem dHo_init_0 : decode cHo_init 0 = .ok (.aload_n 0, 1) := by decide +kernel
theorem dHo_init_1 : decode cHo_init 1 = .ok (.invokespecial 3, 3) := by decide +kernel
theorem dHo_init_4 : decode cHo_init 4 = .ok (.aload_n 0, 1) := by decide +kernel
theorem dHo_init_5 : decode cHo_init 5 = .ok (.bipush 8, 2) := by decide +kernel
theorem dHo_init_7 : decode cHo_init 7 = .ok (.newarray .int, 2) := by decide +kernel
theorem dHo_init_9 : decode cHo_init 9 = .ok (.putfield 9, 3) := by decide +kernel
theorem dHo_init_12 : decode cHo_init 12 = .ok (.aload_n 0, 1) := by decide +kernel
theorem dHo_init_13 : decode cHo_init 13 = .ok (.bipush 8, 2) := by decide +kernel
theorem dHo_init_15 : decode cHo_init 15 = .ok (.newarray .int, 2) := by decide +kernel
theorem dHo_init_17 : decode cHo_init 17 = .ok (.putfield 15, 3) := by decide +kernel
theorem dHo_init_20 : decode cHo_init 20 = .ok (.aload_n 0, 1) := by decide +kernel
theorem dHo_init_21 : decode cHo_init 21 = .ok (.bipush 8, 2) := by decide +kernel
theorem dHo_init_23 : decode cHo_init 23 = .ok (.newarray .boolean, 2) := by decide +kernel
theorem dHo_init_25 : decode cHo_init 25 = .ok (.putfield 18, 3) := by decide +kernel
theorem dHo_init_28 : decode cHo_init 28 = .ok (.return_, 1) := by decide +kernel
theorem dHo_has_0 : decode cHo_has 0 = .ok (.iload_n 1, 1) := by decide +kernel
theorem dHo_has_1 : decode cHo_has 1 = .ok (.ifCond .lt 15, 3) := by decide +kernel
theorem dHo_has_4 : decode cHo_has 4 = .ok (.iload_n 1, 1) := by decide +kernel
theorem dHo_has_5 : decode cHo_has 5 = .ok (.aload_n 0, 1) := by decide +kernel
theorem dHo_has_6 : decode cHo_has 6 = .ok (.getfield 22, 3) := by decide +kernel
theorem dHo_has_9 : decode cHo_has 9 = .ok (.if_icmp .ge 7, 3) := by decide +kernel
theorem dHo_has_12 : decode cHo_has 12 = .ok (.iconst 1, 1) := by decide +kernel
end
section
theorem dHo_has_13 : decode cHo_has 13 = .ok (.goto 4, 3) := by decide +kernel
theorem dHo_has_16 : decode cHo_has 16 = .ok (.iconst 0, 1) := by decide +kernel
theorem dHo_has_17 : decode cHo_has 17 = .ok (.ireturn, 1) := by decide +kernel
theorem dHo_isFull_0 : decode cHo_isFull 0 = .ok (.aload_n 0, 1) := by decide +kernel
theorem dHo_isFull_1 : decode cHo_isFull 1 = .ok (.getfield 22, 3) := by decide +kernel
theorem dHo_isFull_4 : decode cHo_isFull 4 = .ok (.bipush 8, 2) := by decide +kernel
theorem dHo_isFull_6 : decode cHo_isFull 6 = .ok (.if_icmp .lt 7, 3) := by decide +kernel
theorem dHo_isFull_9 : decode cHo_isFull 9 = .ok (.iconst 1, 1) := by decide +kernel
theorem dHo_isFull_10 : decode cHo_isFull 10 = .ok (.goto 4, 3) := by decide +kernel
theorem dHo_isFull_13 : decode cHo_isFull 13 = .ok (.iconst 0, 1) := by decide +kernel
theorem dHo_isFull_14 : decode cHo_isFull 14 = .ok (.ireturn, 1) := by decide +kernel
theorem dHo_add_0 : decode cHo_add 0 = .ok (.aload_n 0, 1) := by decide +kernel
theorem dHo_add_1 : decode cHo_add 1 = .ok (.getfield 9, 3) := by decide +kernel
theorem dHo_add_4 : decode cHo_add 4 = .ok (.aload_n 0, 1) := by decide +kernel
theorem dHo_add_5 : decode cHo_add 5 = .ok (.getfield 22, 3) := by decide +kernel
theorem dHo_add_8 : decode cHo_add 8 = .ok (.iload_n 1, 1) := by decide +kernel
theorem dHo_add_9 : decode cHo_add 9 = .ok (.iastore, 1) := by decide +kernel
theorem dHo_add_10 : decode cHo_add 10 = .ok (.aload_n 0, 1) := by decide +kernel
theorem dHo_add_11 : decode cHo_add 11 = .ok (.getfield 15, 3) := by decide +kernel
theorem dHo_add_14 : decode cHo_add 14 = .ok (.aload_n 0, 1) := by decide +kernel
theorem dHo_add_15 : decode cHo_add 15 = .ok (.getfield 22, 3) := by decide +kernel
theorem dHo_add_18 : decode cHo_add 18 = .ok (.iload_n 2, 1) := by decide +kernel
theorem dHo_add_19 : decode cHo_add 19 = .ok (.iastore, 1) := by decide +kernel
theorem dHo_add_20 : decode cHo_add 20 = .ok (.aload_n 0, 1) := by decide +kernel
theorem dHo_add_21 : decode cHo_add 21 = .ok (.dup, 1) := by decide +kernel
theorem dHo_add_22 : decode cHo_add 22 = .ok (.getfield 22, 3) := by decide +kernel
theorem dHo_add_25 : decode cHo_add 25 = .ok (.dup_x1, 1) := by decide +kernel
theorem dHo_add_26 : decode cHo_add 26 = .ok (.iconst 1, 1) := by decide +kernel
theorem dHo_add_27 : decode cHo_add 27 = .ok (.iadd, 1) := by decide +kernel
theorem dHo_add_28 : decode cHo_add 28 = .ok (.putfield 22, 3) := by decide +kernel
theorem dHo_add_31 : decode cHo_add 31 = .ok (.ireturn, 1) := by decide +kernel
theorem dAg_init_0 : decode cAg_init 0 = .ok (.aload_n 0, 1) := by decide +kernel
theorem dAg_init_1 : decode cAg_init 1 = .ok (.invokespecial 3, 3) := by decide +kernel
theorem dAg_init_4 : decode cAg_init 4 = .ok (.aload_n 0, 1) := by decide +kernel
theorem dAg_init_5 : decode cAg_init 5 = .ok (.bipush 30, 2) := by decide +kernel
theorem dAg_init_7 : decode cAg_init 7 = .ok (.newarray .int, 2) := by decide +kernel
theorem dAg_init_9 : decode cAg_init 9 = .ok (.putfield 9, 3) := by decide +kernel
theorem dAg_init_12 : decode cAg_init 12 = .ok (.aload_n 0, 1) := by decide +kernel
theorem dAg_init_13 : decode cAg_init 13 = .ok (.bipush 30, 2) := by decide +kernel
theorem dAg_init_15 : decode cAg_init 15 = .ok (.newarray .int, 2) := by decide +kernel
theorem dAg_init_17 : decode cAg_init 17 = .ok (.putfield 15, 3) := by decide +kernel
theorem dAg_init_20 : decode cAg_init 20 = .ok (.aload_n 0, 1) := by decide +kernel
theorem dAg_init_21 : decode cAg_init 21 = .ok (.bipush 30, 2) := by decide +kernel
theorem dAg_init_23 : decode cAg_init 23 = .ok (.newarray .int, 2) := by decide +kernel
theorem dAg_init_25 : decode cAg_init 25 = .ok (.putfield 18, 3) := by decide +kernel
theorem dAg_init_28 : decode cAg_init 28 = .ok (.aload_n 0, 1) := by decide +kernel
theorem dAg_init_29 : decode cAg_init 29 = .ok (.bipush 30, 2) := by decide +kernel
theorem dAg_init_31 : decode cAg_init 31 = .ok (.newarray .int, 2) := by decide +kernel
theorem dAg_init_33 : decode cAg_init 33 = .ok (.putfield 21, 3) := by decide +kernel
theorem dAg_init_36 : decode cAg_init 36 = .ok (.aload_n 0, 1) := by decide +kernel
theorem dAg_init_37 : decode cAg_init 37 = .ok (.bipush 30, 2) := by decide +kernel
theorem dAg_init_39 : decode cAg_init 39 = .ok (.newarray .int, 2) := by decide +kernel
theorem dAg_init_41 : decode cAg_init 41 = .ok (.putfield 24, 3) := by decide +kernel
theorem dAg_init_44 : decode cAg_init 44 = .ok (.aload_n 0, 1) := by decide +kernel
theorem dAg_init_45 : decode cAg_init 45 = .ok (.bipush 30, 2) := by decide +kernel
theorem dAg_init_47 : decode cAg_init 47 = .ok (.newarray .int, 2) := by decide +kernel
theorem dAg_init_49 : decode cAg_init 49 = .ok (.putfield 27, 3) := by decide +kernel
theorem dAg_init_52 : decode cAg_init 52 = .ok (.return_, 1) := by decide +kernel
theorem dAg_isFull_0 : decode cAg_isFull 0 = .ok (.aload_n 0, 1) := by decide +kernel
theorem dAg_isFull_1 : decode cAg_isFull 1 = .ok (.getfield 30, 3) := by decide +kernel
theorem dAg_isFull_4 : decode cAg_isFull 4 = .ok (.bipush 30, 2) := by decide +kernel
theorem dAg_isFull_6 : decode cAg_isFull 6 = .ok (.if_icmp .lt 7, 3) := by decide +kernel
theorem dAg_isFull_9 : decode cAg_isFull 9 = .ok (.iconst 1, 1) := by decide +kernel
theorem dAg_isFull_10 : decode cAg_isFull 10 = .ok (.goto 4, 3) := by decide +kernel
theorem dAg_isFull_13 : decode cAg_isFull 13 = .ok (.iconst 0, 1) := by decide +kernel
theorem dAg_isFull_14 : decode cAg_isFull 14 = .ok (.ireturn, 1) := by decide +kernel
theorem dAg_add_0 : decode cAg_add 0 = .ok (.aload_n 0, 1) := by decide +kernel
theorem dAg_add_1 : decode cAg_add 1 = .ok (.getfield 9, 3) := by decide +kernel
theorem dAg_add_4 : decode cAg_add 4 = .ok (.aload_n 0, 1) := by decide +kernel
theorem dAg_add_5 : decode cAg_add 5 = .ok (.getfield 30, 3) := by decide +kernel
theorem dAg_add_8 : decode cAg_add 8 = .ok (.iload_n 1, 1) := by decide +kernel
theorem dAg_add_9 : decode cAg_add 9 = .ok (.iastore, 1) := by decide +kernel
theorem dAg_add_10 : decode cAg_add 10 = .ok (.aload_n 0, 1) := by decide +kernel
theorem dAg_add_11 : decode cAg_add 11 = .ok (.getfield 15, 3) := by decide +kernel
theorem dAg_add_14 : decode cAg_add 14 = .ok (.aload_n 0, 1) := by decide +kernel
theorem dAg_add_15 : decode cAg_add 15 = .ok (.getfield 30, 3) := by decide +kernel
theorem dAg_add_18 : decode cAg_add 18 = .ok (.iload_n 2, 1) := by decide +kernel
theorem dAg_add_19 : decode cAg_add 19 = .ok (.iastore, 1) := by decide +kernel
theorem dAg_add_20 : decode cAg_add 20 = .ok (.aload_n 0, 1) := by decide +kernel
theorem dAg_add_21 : decode cAg_add 21 = .ok (.getfield 18, 3) := by decide +kernel
theorem dAg_add_24 : decode cAg_add 24 = .ok (.aload_n 0, 1) := by decide +kernel
theorem dAg_add_25 : decode cAg_add 25 = .ok (.getfield 30, 3) := by decide +kernel
theorem dAg_add_28 : decode cAg_add 28 = .ok (.iload_n 3, 1) := by decide +kernel
theorem dAg_add_29 : decode cAg_add 29 = .ok (.iastore, 1) := by decide +kernel
theorem dAg_add_30 : decode cAg_add 30 = .ok (.aload_n 0, 1) := by decide +kernel
theorem dAg_add_31 : decode cAg_add 31 = .ok (.getfield 21, 3) := by decide +kernel
theorem dAg_add_34 : decode cAg_add 34 = .ok (.aload_n 0, 1) := by decide +kernel
theorem dAg_add_35 : decode cAg_add 35 = .ok (.getfield 30, 3) := by decide +kernel
theorem dAg_add_38 : decode cAg_add 38 = .ok (.iload 4, 2) := by decide +kernel
theorem dAg_add_40 : decode cAg_add 40 = .ok (.iastore, 1) := by decide +kernel
theorem dAg_add_41 : decode cAg_add 41 = .ok (.aload_n 0, 1) := by decide +kernel
theorem dAg_add_42 : decode cAg_add 42 = .ok (.getfield 24, 3) := by decide +kernel
theorem dAg_add_45 : decode cAg_add 45 = .ok (.aload_n 0, 1) := by decide +kernel
theorem dAg_add_46 : decode cAg_add 46 = .ok (.getfield 30, 3) := by decide +kernel
theorem dAg_add_49 : decode cAg_add 49 = .ok (.iload 5, 2) := by decide +kernel
theorem dAg_add_51 : decode cAg_add 51 = .ok (.iastore, 1) := by decide +kernel
theorem dAg_add_52 : decode cAg_add 52 = .ok (.aload_n 0, 1) := by decide +kernel
theorem dAg_add_53 : decode cAg_add 53 = .ok (.getfield 27, 3) := by decide +kernel
theorem dAg_add_56 : decode cAg_add 56 = .ok (.aload_n 0, 1) := by decide +kernel
theorem dAg_add_57 : decode cAg_add 57 = .ok (.getfield 30, 3) := by decide +kernel
theorem dAg_add_60 : decode cAg_add 60 = .ok (.iload 6, 2) := by decide +kernel
theorem dAg_add_62 : decode cAg_add 62 = .ok (.iastore, 1) := by decide +kernel
theorem dAg_add_63 : decode cAg_add 63 = .ok (.aload_n 0, 1) := by decide +kernel
theorem dAg_add_64 : decode cAg_add 64 = .ok (.dup, 1) := by decide +kernel
theorem dAg_add_65 : decode cAg_add 65 = .ok (.getfield 30, 3) := by decide +kernel
theorem dAg_add_68 : decode cAg_add 68 = .ok (.dup_x1, 1) := by decide +kernel
theorem dAg_add_69 : decode cAg_add 69 = .ok (.iconst 1, 1) := by decide +kernel
theorem dAg_add_70 : decode cAg_add 70 = .ok (.iadd, 1) := by decide +kernel
theorem dAg_add_71 : decode cAg_add 71 = .ok (.putfield 30, 3) := by decide +kernel
theorem dAg_add_74 : decode cAg_add 74 = .ok (.ireturn, 1) := by decide +kernel
theorem dAg_meetAny_0 : decode cAg_meetAny 0 = .ok (.iconst 0, 1) := by decide +kernel
theorem dAg_meetAny_1 : decode cAg_meetAny 1 = .ok (.istore 5, 2) := by decide +kernel
theorem dAg_meetAny_3 : decode cAg_meetAny 3 = .ok (.iload 5, 2) := by decide +kernel
theorem dAg_meetAny_5 : decode cAg_meetAny 5 = .ok (.aload_n 0, 1) := by decide +kernel
theorem dAg_meetAny_6 : decode cAg_meetAny 6 = .ok (.getfield 30, 3) := by decide +kernel
theorem dAg_meetAny_9 : decode cAg_meetAny 9 = .ok (.if_icmp .ge 56, 3) := by decide +kernel
theorem dAg_meetAny_12 : decode cAg_meetAny 12 = .ok (.aload_n 0, 1) := by decide +kernel
theorem dAg_meetAny_13 : decode cAg_meetAny 13 = .ok (.getfield 9, 3) := by decide +kernel
theorem dAg_meetAny_16 : decode cAg_meetAny 16 = .ok (.iload 5, 2) := by decide +kernel
theorem dAg_meetAny_18 : decode cAg_meetAny 18 = .ok (.iaload, 1) := by decide +kernel
theorem dAg_meetAny_19 : decode cAg_meetAny 19 = .ok (.iload_n 1, 1) := by decide +kernel
theorem dAg_meetAny_20 : decode cAg_meetAny 20 = .ok (.if_icmp .ne 39, 3) := by decide +kernel
theorem dAg_meetAny_23 : decode cAg_meetAny 23 = .ok (.aload_n 0, 1) := by decide +kernel
theorem dAg_meetAny_24 : decode cAg_meetAny 24 = .ok (.getfield 15, 3) := by decide +kernel
theorem dAg_meetAny_27 : decode cAg_meetAny 27 = .ok (.iload 5, 2) := by decide +kernel
theorem dAg_meetAny_29 : decode cAg_meetAny 29 = .ok (.iaload, 1) := by decide +kernel
theorem dAg_meetAny_30 : decode cAg_meetAny 30 = .ok (.iload_n 2, 1) := by decide +kernel
theorem dAg_meetAny_31 : decode cAg_meetAny 31 = .ok (.if_icmp .ne 28, 3) := by decide +kernel
theorem dAg_meetAny_34 : decode cAg_meetAny 34 = .ok (.aload_n 0, 1) := by decide +kernel
theorem dAg_meetAny_35 : decode cAg_meetAny 35 = .ok (.getfield 18, 3) := by decide +kernel
theorem dAg_meetAny_38 : decode cAg_meetAny 38 = .ok (.iload 5, 2) := by decide +kernel
theorem dAg_meetAny_40 : decode cAg_meetAny 40 = .ok (.iaload, 1) := by decide +kernel
theorem dAg_meetAny_41 : decode cAg_meetAny 41 = .ok (.iload 4, 2) := by decide +kernel
theorem dAg_meetAny_43 : decode cAg_meetAny 43 = .ok (.if_icmp .ge 16, 3) := by decide +kernel
theorem dAg_meetAny_46 : decode cAg_meetAny 46 = .ok (.iload_n 3, 1) := by decide +kernel
theorem dAg_meetAny_47 : decode cAg_meetAny 47 = .ok (.aload_n 0, 1) := by decide +kernel
theorem dAg_meetAny_48 : decode cAg_meetAny 48 = .ok (.getfield 21, 3) := by decide +kernel
theorem dAg_meetAny_51 : decode cAg_meetAny 51 = .ok (.iload 5, 2) := by decide +kernel
theorem dAg_meetAny_53 : decode cAg_meetAny 53 = .ok (.iaload, 1) := by decide +kernel
theorem dAg_meetAny_54 : decode cAg_meetAny 54 = .ok (.if_icmp .ge 5, 3) := by decide +kernel
theorem dAg_meetAny_57 : decode cAg_meetAny 57 = .ok (.iconst 1, 1) := by decide +kernel
theorem dAg_meetAny_58 : decode cAg_meetAny 58 = .ok (.ireturn, 1) := by decide +kernel
theorem dAg_meetAny_59 : decode cAg_meetAny 59 = .ok (.iinc 5 1, 3) := by decide +kernel
theorem dAg_meetAny_62 : decode cAg_meetAny 62 = .ok (.goto (-59), 3) := by decide +kernel
theorem dAg_meetAny_65 : decode cAg_meetAny 65 = .ok (.iconst 0, 1) := by decide +kernel
theorem dAg_meetAny_66 : decode cAg_meetAny 66 = .ok (.ireturn, 1) := by decide +kernel
theorem dAg_holding_0 : decode cAg_holding 0 = .ok (.iconst 0, 1) := by decide +kernel
theorem dAg_holding_1 : decode cAg_holding 1 = .ok (.istore 4, 2) := by decide +kernel
theorem dAg_holding_3 : decode cAg_holding 3 = .ok (.iload 4, 2) := by decide +kernel
theorem dAg_holding_5 : decode cAg_holding 5 = .ok (.aload_n 0, 1) := by decide +kernel
theorem dAg_holding_6 : decode cAg_holding 6 = .ok (.getfield 30, 3) := by decide +kernel
theorem dAg_holding_9 : decode cAg_holding 9 = .ok (.if_icmp .ge 44, 3) := by decide +kernel
theorem dAg_holding_12 : decode cAg_holding 12 = .ok (.aload_n 0, 1) := by decide +kernel
theorem dAg_holding_13 : decode cAg_holding 13 = .ok (.getfield 9, 3) := by decide +kernel
theorem dAg_holding_16 : decode cAg_holding 16 = .ok (.iload 4, 2) := by decide +kernel
theorem dAg_holding_18 : decode cAg_holding 18 = .ok (.iaload, 1) := by decide +kernel
theorem dAg_holding_19 : decode cAg_holding 19 = .ok (.iload_n 1, 1) := by decide +kernel
theorem dAg_holding_20 : decode cAg_holding 20 = .ok (.if_icmp .ne 27, 3) := by decide +kernel
theorem dAg_holding_23 : decode cAg_holding 23 = .ok (.aload_n 0, 1) := by decide +kernel
theorem dAg_holding_24 : decode cAg_holding 24 = .ok (.getfield 15, 3) := by decide +kernel
theorem dAg_holding_27 : decode cAg_holding 27 = .ok (.iload 4, 2) := by decide +kernel
theorem dAg_holding_29 : decode cAg_holding 29 = .ok (.iaload, 1) := by decide +kernel
theorem dAg_holding_30 : decode cAg_holding 30 = .ok (.iload_n 2, 1) := by decide +kernel
theorem dAg_holding_31 : decode cAg_holding 31 = .ok (.if_icmp .ne 16, 3) := by decide +kernel
theorem dAg_holding_34 : decode cAg_holding 34 = .ok (.aload_n 0, 1) := by decide +kernel
theorem dAg_holding_35 : decode cAg_holding 35 = .ok (.iload 4, 2) := by decide +kernel
theorem dAg_holding_37 : decode cAg_holding 37 = .ok (.iload_n 3, 1) := by decide +kernel
theorem dAg_holding_38 : decode cAg_holding 38 = .ok (.invokevirtual 34, 3) := by decide +kernel
theorem dAg_holding_41 : decode cAg_holding 41 = .ok (.ifCond .eq 6, 3) := by decide +kernel
theorem dAg_holding_44 : decode cAg_holding 44 = .ok (.iload 4, 2) := by decide +kernel
theorem dAg_holding_46 : decode cAg_holding 46 = .ok (.ireturn, 1) := by decide +kernel
theorem dAg_holding_47 : decode cAg_holding 47 = .ok (.iinc 4 1, 3) := by decide +kernel
theorem dAg_holding_50 : decode cAg_holding 50 = .ok (.goto (-47), 3) := by decide +kernel
theorem dAg_holding_53 : decode cAg_holding 53 = .ok (.iconst (-1), 1) := by decide +kernel
theorem dAg_holding_54 : decode cAg_holding 54 = .ok (.ireturn, 1) := by decide +kernel
theorem dAg_holdsAt_0 : decode cAg_holdsAt 0 = .ok (.iload_n 2, 1) := by decide +kernel
theorem dAg_holdsAt_1 : decode cAg_holdsAt 1 = .ok (.aload_n 0, 1) := by decide +kernel
theorem dAg_holdsAt_2 : decode cAg_holdsAt 2 = .ok (.getfield 18, 3) := by decide +kernel
theorem dAg_holdsAt_5 : decode cAg_holdsAt 5 = .ok (.iload_n 1, 1) := by decide +kernel
theorem dAg_holdsAt_6 : decode cAg_holdsAt 6 = .ok (.iaload, 1) := by decide +kernel
theorem dAg_holdsAt_7 : decode cAg_holdsAt 7 = .ok (.if_icmp .lt 13, 3) := by decide +kernel
theorem dAg_holdsAt_10 : decode cAg_holdsAt 10 = .ok (.iload_n 2, 1) := by decide +kernel
theorem dAg_holdsAt_11 : decode cAg_holdsAt 11 = .ok (.aload_n 0, 1) := by decide +kernel
theorem dAg_holdsAt_12 : decode cAg_holdsAt 12 = .ok (.getfield 21, 3) := by decide +kernel
theorem dAg_holdsAt_15 : decode cAg_holdsAt 15 = .ok (.iload_n 1, 1) := by decide +kernel
theorem dAg_holdsAt_16 : decode cAg_holdsAt 16 = .ok (.iaload, 1) := by decide +kernel
theorem dAg_holdsAt_17 : decode cAg_holdsAt 17 = .ok (.if_icmp .lt 5, 3) := by decide +kernel
theorem dAg_holdsAt_20 : decode cAg_holdsAt 20 = .ok (.iconst 0, 1) := by decide +kernel
theorem dAg_holdsAt_21 : decode cAg_holdsAt 21 = .ok (.ireturn, 1) := by decide +kernel
theorem dAg_holdsAt_22 : decode cAg_holdsAt 22 = .ok (.iload_n 2, 1) := by decide +kernel
theorem dAg_holdsAt_23 : decode cAg_holdsAt 23 = .ok (.bipush 60, 2) := by decide +kernel
theorem dAg_holdsAt_25 : decode cAg_holdsAt 25 = .ok (.idiv, 1) := by decide +kernel
theorem dAg_holdsAt_26 : decode cAg_holdsAt 26 = .ok (.bipush 24, 2) := by decide +kernel
theorem dAg_holdsAt_28 : decode cAg_holdsAt 28 = .ok (.irem, 1) := by decide +kernel
theorem dAg_holdsAt_29 : decode cAg_holdsAt 29 = .ok (.istore_n 3, 1) := by decide +kernel
theorem dAg_holdsAt_30 : decode cAg_holdsAt 30 = .ok (.aload_n 0, 1) := by decide +kernel
theorem dAg_holdsAt_31 : decode cAg_holdsAt 31 = .ok (.getfield 24, 3) := by decide +kernel
theorem dAg_holdsAt_34 : decode cAg_holdsAt 34 = .ok (.iload_n 1, 1) := by decide +kernel
theorem dAg_holdsAt_35 : decode cAg_holdsAt 35 = .ok (.iaload, 1) := by decide +kernel
theorem dAg_holdsAt_36 : decode cAg_holdsAt 36 = .ok (.bipush 100, 2) := by decide +kernel
theorem dAg_holdsAt_38 : decode cAg_holdsAt 38 = .ok (.idiv, 1) := by decide +kernel
theorem dAg_holdsAt_39 : decode cAg_holdsAt 39 = .ok (.istore 4, 2) := by decide +kernel
theorem dAg_holdsAt_41 : decode cAg_holdsAt 41 = .ok (.aload_n 0, 1) := by decide +kernel
theorem dAg_holdsAt_42 : decode cAg_holdsAt 42 = .ok (.getfield 24, 3) := by decide +kernel
theorem dAg_holdsAt_45 : decode cAg_holdsAt 45 = .ok (.iload_n 1, 1) := by decide +kernel
theorem dAg_holdsAt_46 : decode cAg_holdsAt 46 = .ok (.iaload, 1) := by decide +kernel
theorem dAg_holdsAt_47 : decode cAg_holdsAt 47 = .ok (.bipush 100, 2) := by decide +kernel
theorem dAg_holdsAt_49 : decode cAg_holdsAt 49 = .ok (.irem, 1) := by decide +kernel
theorem dAg_holdsAt_50 : decode cAg_holdsAt 50 = .ok (.istore 5, 2) := by decide +kernel
theorem dAg_holdsAt_52 : decode cAg_holdsAt 52 = .ok (.iload 5, 2) := by decide +kernel
theorem dAg_holdsAt_54 : decode cAg_holdsAt 54 = .ok (.iload 4, 2) := by decide +kernel
theorem dAg_holdsAt_56 : decode cAg_holdsAt 56 = .ok (.if_icmp .ge 7, 3) := by decide +kernel
theorem dAg_holdsAt_59 : decode cAg_holdsAt 59 = .ok (.iconst 1, 1) := by decide +kernel
theorem dAg_holdsAt_60 : decode cAg_holdsAt 60 = .ok (.goto 4, 3) := by decide +kernel
theorem dAg_holdsAt_63 : decode cAg_holdsAt 63 = .ok (.iconst 0, 1) := by decide +kernel
theorem dAg_holdsAt_64 : decode cAg_holdsAt 64 = .ok (.istore 6, 2) := by decide +kernel
theorem dAg_holdsAt_66 : decode cAg_holdsAt 66 = .ok (.iload 6, 2) := by decide +kernel
theorem dAg_holdsAt_68 : decode cAg_holdsAt 68 = .ok (.ifCond .eq 23, 3) := by decide +kernel
theorem dAg_holdsAt_71 : decode cAg_holdsAt 71 = .ok (.iload_n 3, 1) := by decide +kernel
theorem dAg_holdsAt_72 : decode cAg_holdsAt 72 = .ok (.iload 4, 2) := by decide +kernel
theorem dAg_holdsAt_74 : decode cAg_holdsAt 74 = .ok (.if_icmp .ge 9, 3) := by decide +kernel
theorem dAg_holdsAt_77 : decode cAg_holdsAt 77 = .ok (.iload_n 3, 1) := by decide +kernel
theorem dAg_holdsAt_78 : decode cAg_holdsAt 78 = .ok (.iload 5, 2) := by decide +kernel
theorem dAg_holdsAt_80 : decode cAg_holdsAt 80 = .ok (.if_icmp .gt 7, 3) := by decide +kernel
theorem dAg_holdsAt_83 : decode cAg_holdsAt 83 = .ok (.iconst 1, 1) := by decide +kernel
theorem dAg_holdsAt_84 : decode cAg_holdsAt 84 = .ok (.goto 24, 3) := by decide +kernel
theorem dAg_holdsAt_87 : decode cAg_holdsAt 87 = .ok (.iconst 0, 1) := by decide +kernel
theorem dAg_holdsAt_88 : decode cAg_holdsAt 88 = .ok (.goto 20, 3) := by decide +kernel
theorem dAg_holdsAt_91 : decode cAg_holdsAt 91 = .ok (.iload_n 3, 1) := by decide +kernel
theorem dAg_holdsAt_92 : decode cAg_holdsAt 92 = .ok (.iload 4, 2) := by decide +kernel
theorem dAg_holdsAt_94 : decode cAg_holdsAt 94 = .ok (.if_icmp .lt 13, 3) := by decide +kernel
theorem dAg_holdsAt_97 : decode cAg_holdsAt 97 = .ok (.iload_n 3, 1) := by decide +kernel
theorem dAg_holdsAt_98 : decode cAg_holdsAt 98 = .ok (.iload 5, 2) := by decide +kernel
theorem dAg_holdsAt_100 : decode cAg_holdsAt 100 = .ok (.if_icmp .gt 7, 3) := by decide +kernel
theorem dAg_holdsAt_103 : decode cAg_holdsAt 103 = .ok (.iconst 1, 1) := by decide +kernel
theorem dAg_holdsAt_104 : decode cAg_holdsAt 104 = .ok (.goto 4, 3) := by decide +kernel
theorem dAg_holdsAt_107 : decode cAg_holdsAt 107 = .ok (.iconst 0, 1) := by decide +kernel
theorem dAg_holdsAt_108 : decode cAg_holdsAt 108 = .ok (.ireturn, 1) := by decide +kernel
theorem dAs_init_0 : decode cAs_init 0 = .ok (.aload_n 0, 1) := by decide +kernel
theorem dAs_init_1 : decode cAs_init 1 = .ok (.invokespecial 3, 3) := by decide +kernel
theorem dAs_init_4 : decode cAs_init 4 = .ok (.aload_n 0, 1) := by decide +kernel
theorem dAs_init_5 : decode cAs_init 5 = .ok (.bipush 30, 2) := by decide +kernel
theorem dAs_init_7 : decode cAs_init 7 = .ok (.newarray .int, 2) := by decide +kernel
theorem dAs_init_9 : decode cAs_init 9 = .ok (.putfield 9, 3) := by decide +kernel
theorem dAs_init_12 : decode cAs_init 12 = .ok (.aload_n 0, 1) := by decide +kernel
theorem dAs_init_13 : decode cAs_init 13 = .ok (.bipush 30, 2) := by decide +kernel
theorem dAs_init_15 : decode cAs_init 15 = .ok (.newarray .int, 2) := by decide +kernel
theorem dAs_init_17 : decode cAs_init 17 = .ok (.putfield 15, 3) := by decide +kernel
theorem dAs_init_20 : decode cAs_init 20 = .ok (.aload_n 0, 1) := by decide +kernel
theorem dAs_init_21 : decode cAs_init 21 = .ok (.bipush 30, 2) := by decide +kernel
theorem dAs_init_23 : decode cAs_init 23 = .ok (.newarray .int, 2) := by decide +kernel
theorem dAs_init_25 : decode cAs_init 25 = .ok (.putfield 18, 3) := by decide +kernel
theorem dAs_init_28 : decode cAs_init 28 = .ok (.aload_n 0, 1) := by decide +kernel
theorem dAs_init_29 : decode cAs_init 29 = .ok (.bipush 30, 2) := by decide +kernel
theorem dAs_init_31 : decode cAs_init 31 = .ok (.newarray .int, 2) := by decide +kernel
theorem dAs_init_33 : decode cAs_init 33 = .ok (.putfield 21, 3) := by decide +kernel
theorem dAs_init_36 : decode cAs_init 36 = .ok (.aload_n 0, 1) := by decide +kernel
theorem dAs_init_37 : decode cAs_init 37 = .ok (.bipush 30, 2) := by decide +kernel
theorem dAs_init_39 : decode cAs_init 39 = .ok (.newarray .int, 2) := by decide +kernel
theorem dAs_init_41 : decode cAs_init 41 = .ok (.putfield 24, 3) := by decide +kernel
theorem dAs_init_44 : decode cAs_init 44 = .ok (.aload_n 0, 1) := by decide +kernel
theorem dAs_init_45 : decode cAs_init 45 = .ok (.bipush 30, 2) := by decide +kernel
theorem dAs_init_47 : decode cAs_init 47 = .ok (.newarray .int, 2) := by decide +kernel
theorem dAs_init_49 : decode cAs_init 49 = .ok (.putfield 27, 3) := by decide +kernel
theorem dAs_init_52 : decode cAs_init 52 = .ok (.aload_n 0, 1) := by decide +kernel
theorem dAs_init_53 : decode cAs_init 53 = .ok (.bipush 30, 2) := by decide +kernel
theorem dAs_init_55 : decode cAs_init 55 = .ok (.newarray .int, 2) := by decide +kernel
theorem dAs_init_57 : decode cAs_init 57 = .ok (.putfield 30, 3) := by decide +kernel
theorem dAs_init_60 : decode cAs_init 60 = .ok (.aload_n 0, 1) := by decide +kernel
theorem dAs_init_61 : decode cAs_init 61 = .ok (.bipush 30, 2) := by decide +kernel
theorem dAs_init_63 : decode cAs_init 63 = .ok (.newarray .int, 2) := by decide +kernel
theorem dAs_init_65 : decode cAs_init 65 = .ok (.putfield 33, 3) := by decide +kernel
theorem dAs_init_68 : decode cAs_init 68 = .ok (.aload_n 0, 1) := by decide +kernel
theorem dAs_init_69 : decode cAs_init 69 = .ok (.bipush 30, 2) := by decide +kernel
theorem dAs_init_71 : decode cAs_init 71 = .ok (.newarray .boolean, 2) := by decide +kernel
theorem dAs_init_73 : decode cAs_init 73 = .ok (.putfield 36, 3) := by decide +kernel
theorem dAs_init_76 : decode cAs_init 76 = .ok (.return_, 1) := by decide +kernel
theorem dAs_has_0 : decode cAs_has 0 = .ok (.iload_n 1, 1) := by decide +kernel
theorem dAs_has_1 : decode cAs_has 1 = .ok (.ifCond .lt 15, 3) := by decide +kernel
theorem dAs_has_4 : decode cAs_has 4 = .ok (.iload_n 1, 1) := by decide +kernel
theorem dAs_has_5 : decode cAs_has 5 = .ok (.aload_n 0, 1) := by decide +kernel
theorem dAs_has_6 : decode cAs_has 6 = .ok (.getfield 40, 3) := by decide +kernel
theorem dAs_has_9 : decode cAs_has 9 = .ok (.if_icmp .ge 7, 3) := by decide +kernel
theorem dAs_has_12 : decode cAs_has 12 = .ok (.iconst 1, 1) := by decide +kernel
theorem dAs_has_13 : decode cAs_has 13 = .ok (.goto 4, 3) := by decide +kernel
theorem dAs_has_16 : decode cAs_has 16 = .ok (.iconst 0, 1) := by decide +kernel
theorem dAs_has_17 : decode cAs_has 17 = .ok (.ireturn, 1) := by decide +kernel
theorem dAs_isFull_0 : decode cAs_isFull 0 = .ok (.aload_n 0, 1) := by decide +kernel
theorem dAs_isFull_1 : decode cAs_isFull 1 = .ok (.getfield 40, 3) := by decide +kernel
theorem dAs_isFull_4 : decode cAs_isFull 4 = .ok (.bipush 30, 2) := by decide +kernel
theorem dAs_isFull_6 : decode cAs_isFull 6 = .ok (.if_icmp .lt 7, 3) := by decide +kernel
theorem dAs_isFull_9 : decode cAs_isFull 9 = .ok (.iconst 1, 1) := by decide +kernel
theorem dAs_isFull_10 : decode cAs_isFull 10 = .ok (.goto 4, 3) := by decide +kernel
theorem dAs_isFull_13 : decode cAs_isFull 13 = .ok (.iconst 0, 1) := by decide +kernel
theorem dAs_isFull_14 : decode cAs_isFull 14 = .ok (.ireturn, 1) := by decide +kernel
theorem dAs_add_0 : decode cAs_add 0 = .ok (.aload_n 0, 1) := by decide +kernel
theorem dAs_add_1 : decode cAs_add 1 = .ok (.getfield 9, 3) := by decide +kernel
theorem dAs_add_4 : decode cAs_add 4 = .ok (.aload_n 0, 1) := by decide +kernel
theorem dAs_add_5 : decode cAs_add 5 = .ok (.getfield 40, 3) := by decide +kernel
theorem dAs_add_8 : decode cAs_add 8 = .ok (.iload_n 1, 1) := by decide +kernel
theorem dAs_add_9 : decode cAs_add 9 = .ok (.iastore, 1) := by decide +kernel
theorem dAs_add_10 : decode cAs_add 10 = .ok (.aload_n 0, 1) := by decide +kernel
theorem dAs_add_11 : decode cAs_add 11 = .ok (.getfield 15, 3) := by decide +kernel
theorem dAs_add_14 : decode cAs_add 14 = .ok (.aload_n 0, 1) := by decide +kernel
theorem dAs_add_15 : decode cAs_add 15 = .ok (.getfield 40, 3) := by decide +kernel
theorem dAs_add_18 : decode cAs_add 18 = .ok (.iload_n 2, 1) := by decide +kernel
theorem dAs_add_19 : decode cAs_add 19 = .ok (.iastore, 1) := by decide +kernel
theorem dAs_add_20 : decode cAs_add 20 = .ok (.aload_n 0, 1) := by decide +kernel
theorem dAs_add_21 : decode cAs_add 21 = .ok (.getfield 18, 3) := by decide +kernel
theorem dAs_add_24 : decode cAs_add 24 = .ok (.aload_n 0, 1) := by decide +kernel
theorem dAs_add_25 : decode cAs_add 25 = .ok (.getfield 40, 3) := by decide +kernel
theorem dAs_add_28 : decode cAs_add 28 = .ok (.iload_n 3, 1) := by decide +kernel
theorem dAs_add_29 : decode cAs_add 29 = .ok (.iastore, 1) := by decide +kernel
theorem dAs_add_30 : decode cAs_add 30 = .ok (.aload_n 0, 1) := by decide +kernel
theorem dAs_add_31 : decode cAs_add 31 = .ok (.getfield 21, 3) := by decide +kernel
theorem dAs_add_34 : decode cAs_add 34 = .ok (.aload_n 0, 1) := by decide +kernel
theorem dAs_add_35 : decode cAs_add 35 = .ok (.getfield 40, 3) := by decide +kernel
theorem dAs_add_38 : decode cAs_add 38 = .ok (.iconst 0, 1) := by decide +kernel
theorem dAs_add_39 : decode cAs_add 39 = .ok (.iastore, 1) := by decide +kernel
theorem dAs_add_40 : decode cAs_add 40 = .ok (.aload_n 0, 1) := by decide +kernel
theorem dAs_add_41 : decode cAs_add 41 = .ok (.dup, 1) := by decide +kernel
theorem dAs_add_42 : decode cAs_add 42 = .ok (.getfield 40, 3) := by decide +kernel
theorem dAs_add_45 : decode cAs_add 45 = .ok (.dup_x1, 1) := by decide +kernel
theorem dAs_add_46 : decode cAs_add 46 = .ok (.iconst 1, 1) := by decide +kernel
theorem dAs_add_47 : decode cAs_add 47 = .ok (.iadd, 1) := by decide +kernel
theorem dAs_add_48 : decode cAs_add 48 = .ok (.putfield 40, 3) := by decide +kernel
theorem dAs_add_51 : decode cAs_add 51 = .ok (.ireturn, 1) := by decide +kernel
theorem dAs_move_0 : decode cAs_move 0 = .ok (.aload_n 0, 1) := by decide +kernel
theorem dAs_move_1 : decode cAs_move 1 = .ok (.getfield 24, 3) := by decide +kernel
theorem dAs_move_4 : decode cAs_move 4 = .ok (.iload_n 1, 1) := by decide +kernel
theorem dAs_move_5 : decode cAs_move 5 = .ok (.iload_n 2, 1) := by decide +kernel
theorem dAs_move_6 : decode cAs_move 6 = .ok (.iastore, 1) := by decide +kernel
theorem dAs_move_7 : decode cAs_move 7 = .ok (.aload_n 0, 1) := by decide +kernel
theorem dAs_move_8 : decode cAs_move 8 = .ok (.getfield 27, 3) := by decide +kernel
theorem dAs_move_11 : decode cAs_move 11 = .ok (.iload_n 1, 1) := by decide +kernel
theorem dAs_move_12 : decode cAs_move 12 = .ok (.iload_n 3, 1) := by decide +kernel
theorem dAs_move_13 : decode cAs_move 13 = .ok (.iastore, 1) := by decide +kernel
theorem dAs_move_14 : decode cAs_move 14 = .ok (.aload_n 0, 1) := by decide +kernel
theorem dAs_move_15 : decode cAs_move 15 = .ok (.getfield 33, 3) := by decide +kernel
theorem dAs_move_18 : decode cAs_move 18 = .ok (.iload_n 1, 1) := by decide +kernel
theorem dAs_move_19 : decode cAs_move 19 = .ok (.dup2, 1) := by decide +kernel
theorem dAs_move_20 : decode cAs_move 20 = .ok (.iaload, 1) := by decide +kernel
theorem dAs_move_21 : decode cAs_move 21 = .ok (.iconst 1, 1) := by decide +kernel
theorem dAs_move_22 : decode cAs_move 22 = .ok (.iload_n 2, 1) := by decide +kernel
theorem dAs_move_23 : decode cAs_move 23 = .ok (.ishl, 1) := by decide +kernel
theorem dAs_move_24 : decode cAs_move 24 = .ok (.ior, 1) := by decide +kernel
theorem dAs_move_25 : decode cAs_move 25 = .ok (.iastore, 1) := by decide +kernel
theorem dAs_move_26 : decode cAs_move 26 = .ok (.aload_n 0, 1) := by decide +kernel
theorem dAs_move_27 : decode cAs_move 27 = .ok (.getfield 36, 3) := by decide +kernel
theorem dAs_move_30 : decode cAs_move 30 = .ok (.iload_n 1, 1) := by decide +kernel
theorem dAs_move_31 : decode cAs_move 31 = .ok (.iload 4, 2) := by decide +kernel
theorem dAs_move_33 : decode cAs_move 33 = .ok (.bastore, 1) := by decide +kernel
theorem dAs_move_34 : decode cAs_move 34 = .ok (.return_, 1) := by decide +kernel
theorem dAs_close_0 : decode cAs_close 0 = .ok (.aload_n 0, 1) := by decide +kernel
theorem dAs_close_1 : decode cAs_close 1 = .ok (.getfield 21, 3) := by decide +kernel
theorem dAs_close_4 : decode cAs_close 4 = .ok (.iload_n 1, 1) := by decide +kernel
theorem dAs_close_5 : decode cAs_close 5 = .ok (.iload_n 2, 1) := by decide +kernel
theorem dAs_close_6 : decode cAs_close 6 = .ok (.iastore, 1) := by decide +kernel
theorem dAs_close_7 : decode cAs_close 7 = .ok (.aload_n 0, 1) := by decide +kernel
theorem dAs_close_8 : decode cAs_close 8 = .ok (.getfield 24, 3) := by decide +kernel
theorem dAs_close_11 : decode cAs_close 11 = .ok (.iload_n 1, 1) := by decide +kernel
theorem dAs_close_12 : decode cAs_close 12 = .ok (.iconst (-1), 1) := by decide +kernel
theorem dAs_close_13 : decode cAs_close 13 = .ok (.iastore, 1) := by decide +kernel
theorem dAs_close_14 : decode cAs_close 14 = .ok (.aload_n 0, 1) := by decide +kernel
theorem dAs_close_15 : decode cAs_close 15 = .ok (.getfield 27, 3) := by decide +kernel
theorem dAs_close_18 : decode cAs_close 18 = .ok (.iload_n 1, 1) := by decide +kernel
theorem dAs_close_19 : decode cAs_close 19 = .ok (.iconst 0, 1) := by decide +kernel
theorem dAs_close_20 : decode cAs_close 20 = .ok (.iastore, 1) := by decide +kernel
theorem dAs_close_21 : decode cAs_close 21 = .ok (.aload_n 0, 1) := by decide +kernel
theorem dAs_close_22 : decode cAs_close 22 = .ok (.getfield 36, 3) := by decide +kernel
theorem dAs_close_25 : decode cAs_close 25 = .ok (.iload_n 1, 1) := by decide +kernel
theorem dAs_close_26 : decode cAs_close 26 = .ok (.iconst 0, 1) := by decide +kernel
theorem dAs_close_27 : decode cAs_close 27 = .ok (.bastore, 1) := by decide +kernel
theorem dAs_close_28 : decode cAs_close 28 = .ok (.return_, 1) := by decide +kernel
theorem dAs_isOpen_0 : decode cAs_isOpen 0 = .ok (.aload_n 0, 1) := by decide +kernel
theorem dAs_isOpen_1 : decode cAs_isOpen 1 = .ok (.getfield 21, 3) := by decide +kernel
theorem dAs_isOpen_4 : decode cAs_isOpen 4 = .ok (.iload_n 1, 1) := by decide +kernel
theorem dAs_isOpen_5 : decode cAs_isOpen 5 = .ok (.iaload, 1) := by decide +kernel
theorem dAs_isOpen_6 : decode cAs_isOpen 6 = .ok (.ifCond .ne 7, 3) := by decide +kernel
theorem dAs_isOpen_9 : decode cAs_isOpen 9 = .ok (.iconst 1, 1) := by decide +kernel
theorem dAs_isOpen_10 : decode cAs_isOpen 10 = .ok (.goto 4, 3) := by decide +kernel
theorem dAs_isOpen_13 : decode cAs_isOpen 13 = .ok (.iconst 0, 1) := by decide +kernel
theorem dAs_isOpen_14 : decode cAs_isOpen 14 = .ok (.ireturn, 1) := by decide +kernel
theorem dAs_isOpenAt_0 : decode cAs_isOpenAt 0 = .ok (.aload_n 0, 1) := by decide +kernel
theorem dAs_isOpenAt_1 : decode cAs_isOpenAt 1 = .ok (.iload_n 1, 1) := by decide +kernel
theorem dAs_isOpenAt_2 : decode cAs_isOpenAt 2 = .ok (.invokevirtual 44, 3) := by decide +kernel
theorem dAs_isOpenAt_5 : decode cAs_isOpenAt 5 = .ok (.ifCond .eq 17, 3) := by decide +kernel
theorem dAs_isOpenAt_8 : decode cAs_isOpenAt 8 = .ok (.aload_n 0, 1) := by decide +kernel
theorem dAs_isOpenAt_9 : decode cAs_isOpenAt 9 = .ok (.getfield 24, 3) := by decide +kernel
theorem dAs_isOpenAt_12 : decode cAs_isOpenAt 12 = .ok (.iload_n 1, 1) := by decide +kernel
theorem dAs_isOpenAt_13 : decode cAs_isOpenAt 13 = .ok (.iaload, 1) := by decide +kernel
theorem dAs_isOpenAt_14 : decode cAs_isOpenAt 14 = .ok (.iload_n 2, 1) := by decide +kernel
theorem dAs_isOpenAt_15 : decode cAs_isOpenAt 15 = .ok (.if_icmp .ne 7, 3) := by decide +kernel
theorem dAs_isOpenAt_18 : decode cAs_isOpenAt 18 = .ok (.iconst 1, 1) := by decide +kernel
theorem dAs_isOpenAt_19 : decode cAs_isOpenAt 19 = .ok (.goto 4, 3) := by decide +kernel
theorem dAs_isOpenAt_22 : decode cAs_isOpenAt 22 = .ok (.iconst 0, 1) := by decide +kernel
theorem dAs_isOpenAt_23 : decode cAs_isOpenAt 23 = .ok (.ireturn, 1) := by decide +kernel
theorem dAs_wasAt_0 : decode cAs_wasAt 0 = .ok (.aload_n 0, 1) := by decide +kernel
theorem dAs_wasAt_1 : decode cAs_wasAt 1 = .ok (.getfield 33, 3) := by decide +kernel
theorem dAs_wasAt_4 : decode cAs_wasAt 4 = .ok (.iload_n 1, 1) := by decide +kernel
theorem dAs_wasAt_5 : decode cAs_wasAt 5 = .ok (.iaload, 1) := by decide +kernel
theorem dAs_wasAt_6 : decode cAs_wasAt 6 = .ok (.iload_n 2, 1) := by decide +kernel
theorem dAs_wasAt_7 : decode cAs_wasAt 7 = .ok (.ishr, 1) := by decide +kernel
theorem dAs_wasAt_8 : decode cAs_wasAt 8 = .ok (.iconst 1, 1) := by decide +kernel
theorem dAs_wasAt_9 : decode cAs_wasAt 9 = .ok (.iand, 1) := by decide +kernel
theorem dAs_wasAt_10 : decode cAs_wasAt 10 = .ok (.iconst 1, 1) := by decide +kernel
theorem dAs_wasAt_11 : decode cAs_wasAt 11 = .ok (.if_icmp .ne 7, 3) := by decide +kernel
theorem dAs_wasAt_14 : decode cAs_wasAt 14 = .ok (.iconst 1, 1) := by decide +kernel
theorem dAs_wasAt_15 : decode cAs_wasAt 15 = .ok (.goto 4, 3) := by decide +kernel
theorem dAs_wasAt_18 : decode cAs_wasAt 18 = .ok (.iconst 0, 1) := by decide +kernel
theorem dAs_wasAt_19 : decode cAs_wasAt 19 = .ok (.ireturn, 1) := by decide +kernel
theorem dAs_visits_0 : decode cAs_visits 0 = .ok (.aload_n 0, 1) := by decide +kernel
theorem dAs_visits_1 : decode cAs_visits 1 = .ok (.getfield 33, 3) := by decide +kernel
theorem dAs_visits_4 : decode cAs_visits 4 = .ok (.iload_n 1, 1) := by decide +kernel
theorem dAs_visits_5 : decode cAs_visits 5 = .ok (.iaload, 1) := by decide +kernel
theorem dAs_visits_6 : decode cAs_visits 6 = .ok (.invokestatic 48, 3) := by decide +kernel
theorem dAs_visits_9 : decode cAs_visits 9 = .ok (.ireturn, 1) := by decide +kernel
theorem dAs_wanting_0 : decode cAs_wanting 0 = .ok (.aload_n 0, 1) := by decide +kernel
theorem dAs_wanting_1 : decode cAs_wanting 1 = .ok (.getfield 15, 3) := by decide +kernel
theorem dAs_wanting_4 : decode cAs_wanting 4 = .ok (.iload_n 1, 1) := by decide +kernel
theorem dAs_wanting_5 : decode cAs_wanting 5 = .ok (.iaload, 1) := by decide +kernel
theorem dAs_wanting_6 : decode cAs_wanting 6 = .ok (.aload_n 0, 1) := by decide +kernel
theorem dAs_wanting_7 : decode cAs_wanting 7 = .ok (.getfield 30, 3) := by decide +kernel
theorem dAs_wanting_10 : decode cAs_wanting 10 = .ok (.iload_n 1, 1) := by decide +kernel
theorem dAs_wanting_11 : decode cAs_wanting 11 = .ok (.iaload, 1) := by decide +kernel
theorem dAs_wanting_12 : decode cAs_wanting 12 = .ok (.isub, 1) := by decide +kernel
theorem dAs_wanting_13 : decode cAs_wanting 13 = .ok (.ireturn, 1) := by decide +kernel
theorem dAs_patienceEnd_0 : decode cAs_patienceEnd 0 = .ok (.aload_n 0, 1) := by decide +kernel
theorem dAs_patienceEnd_1 : decode cAs_patienceEnd 1 = .ok (.getfield 27, 3) := by decide +kernel
theorem dAs_patienceEnd_4 : decode cAs_patienceEnd 4 = .ok (.iload_n 1, 1) := by decide +kernel
theorem dAs_patienceEnd_5 : decode cAs_patienceEnd 5 = .ok (.iaload, 1) := by decide +kernel
theorem dAs_patienceEnd_6 : decode cAs_patienceEnd 6 = .ok (.aload_n 0, 1) := by decide +kernel
theorem dAs_patienceEnd_7 : decode cAs_patienceEnd 7 = .ok (.getfield 18, 3) := by decide +kernel
theorem dAs_patienceEnd_10 : decode cAs_patienceEnd 10 = .ok (.iload_n 1, 1) := by decide +kernel
theorem dAs_patienceEnd_11 : decode cAs_patienceEnd 11 = .ok (.iaload, 1) := by decide +kernel
theorem dAs_patienceEnd_12 : decode cAs_patienceEnd 12 = .ok (.iadd, 1) := by decide +kernel
theorem dAs_patienceEnd_13 : decode cAs_patienceEnd 13 = .ok (.ireturn, 1) := by decide +kernel
theorem dAs_open_0 : decode cAs_open 0 = .ok (.iconst 0, 1) := by decide +kernel
theorem dAs_open_1 : decode cAs_open 1 = .ok (.istore_n 1, 1) := by decide +kernel
theorem dAs_open_2 : decode cAs_open 2 = .ok (.iconst 0, 1) := by decide +kernel
theorem dAs_open_3 : decode cAs_open 3 = .ok (.istore_n 2, 1) := by decide +kernel
theorem dAs_open_4 : decode cAs_open 4 = .ok (.iload_n 2, 1) := by decide +kernel
theorem dAs_open_5 : decode cAs_open 5 = .ok (.aload_n 0, 1) := by decide +kernel
theorem dAs_open_6 : decode cAs_open 6 = .ok (.getfield 40, 3) := by decide +kernel
theorem dAs_open_9 : decode cAs_open 9 = .ok (.if_icmp .ge 20, 3) := by decide +kernel
theorem dAs_open_12 : decode cAs_open 12 = .ok (.aload_n 0, 1) := by decide +kernel
theorem dAs_open_13 : decode cAs_open 13 = .ok (.iload_n 2, 1) := by decide +kernel
theorem dAs_open_14 : decode cAs_open 14 = .ok (.invokevirtual 44, 3) := by decide +kernel
theorem dAs_open_17 : decode cAs_open 17 = .ok (.ifCond .eq 6, 3) := by decide +kernel
theorem dAs_open_20 : decode cAs_open 20 = .ok (.iinc 1 1, 3) := by decide +kernel
theorem dAs_open_23 : decode cAs_open 23 = .ok (.iinc 2 1, 3) := by decide +kernel
theorem dAs_open_26 : decode cAs_open 26 = .ok (.goto (-22), 3) := by decide +kernel
theorem dAs_open_29 : decode cAs_open 29 = .ok (.iload_n 1, 1) := by decide +kernel
theorem dAs_open_30 : decode cAs_open 30 = .ok (.ireturn, 1) := by decide +kernel
theorem dLo_init_0 : decode cLo_init 0 = .ok (.aload_n 0, 1) := by decide +kernel
theorem dLo_init_1 : decode cLo_init 1 = .ok (.invokespecial 3, 3) := by decide +kernel
theorem dLo_init_4 : decode cLo_init 4 = .ok (.aload_n 0, 1) := by decide +kernel
theorem dLo_init_5 : decode cLo_init 5 = .ok (.bipush 100, 2) := by decide +kernel
theorem dLo_init_7 : decode cLo_init 7 = .ok (.newarray .int, 2) := by decide +kernel
theorem dLo_init_9 : decode cLo_init 9 = .ok (.putfield 9, 3) := by decide +kernel
theorem dLo_init_12 : decode cLo_init 12 = .ok (.aload_n 0, 1) := by decide +kernel
theorem dLo_init_13 : decode cLo_init 13 = .ok (.bipush 100, 2) := by decide +kernel
theorem dLo_init_15 : decode cLo_init 15 = .ok (.newarray .int, 2) := by decide +kernel
theorem dLo_init_17 : decode cLo_init 17 = .ok (.putfield 15, 3) := by decide +kernel
theorem dLo_init_20 : decode cLo_init 20 = .ok (.aload_n 0, 1) := by decide +kernel
theorem dLo_init_21 : decode cLo_init 21 = .ok (.bipush 100, 2) := by decide +kernel
theorem dLo_init_23 : decode cLo_init 23 = .ok (.newarray .int, 2) := by decide +kernel
theorem dLo_init_25 : decode cLo_init 25 = .ok (.putfield 18, 3) := by decide +kernel
theorem dLo_init_28 : decode cLo_init 28 = .ok (.aload_n 0, 1) := by decide +kernel
theorem dLo_init_29 : decode cLo_init 29 = .ok (.bipush 100, 2) := by decide +kernel
theorem dLo_init_31 : decode cLo_init 31 = .ok (.newarray .int, 2) := by decide +kernel
theorem dLo_init_33 : decode cLo_init 33 = .ok (.putfield 21, 3) := by decide +kernel
theorem dLo_init_36 : decode cLo_init 36 = .ok (.aload_n 0, 1) := by decide +kernel
theorem dLo_init_37 : decode cLo_init 37 = .ok (.bipush 100, 2) := by decide +kernel
theorem dLo_init_39 : decode cLo_init 39 = .ok (.newarray .int, 2) := by decide +kernel
theorem dLo_init_41 : decode cLo_init 41 = .ok (.putfield 24, 3) := by decide +kernel
theorem dLo_init_44 : decode cLo_init 44 = .ok (.aload_n 0, 1) := by decide +kernel
theorem dLo_init_45 : decode cLo_init 45 = .ok (.bipush 100, 2) := by decide +kernel
theorem dLo_init_47 : decode cLo_init 47 = .ok (.newarray .int, 2) := by decide +kernel
theorem dLo_init_49 : decode cLo_init 49 = .ok (.putfield 27, 3) := by decide +kernel
theorem dLo_init_52 : decode cLo_init 52 = .ok (.return_, 1) := by decide +kernel
theorem dLo_has_0 : decode cLo_has 0 = .ok (.iload_n 1, 1) := by decide +kernel
theorem dLo_has_1 : decode cLo_has 1 = .ok (.ifCond .lt 15, 3) := by decide +kernel
theorem dLo_has_4 : decode cLo_has 4 = .ok (.iload_n 1, 1) := by decide +kernel
theorem dLo_has_5 : decode cLo_has 5 = .ok (.aload_n 0, 1) := by decide +kernel
theorem dLo_has_6 : decode cLo_has 6 = .ok (.getfield 30, 3) := by decide +kernel
theorem dLo_has_9 : decode cLo_has 9 = .ok (.if_icmp .ge 7, 3) := by decide +kernel
theorem dLo_has_12 : decode cLo_has 12 = .ok (.iconst 1, 1) := by decide +kernel
theorem dLo_has_13 : decode cLo_has 13 = .ok (.goto 4, 3) := by decide +kernel
theorem dLo_has_16 : decode cLo_has 16 = .ok (.iconst 0, 1) := by decide +kernel
theorem dLo_has_17 : decode cLo_has 17 = .ok (.ireturn, 1) := by decide +kernel
theorem dLo_room_0 : decode cLo_room 0 = .ok (.bipush 100, 2) := by decide +kernel
theorem dLo_room_2 : decode cLo_room 2 = .ok (.aload_n 0, 1) := by decide +kernel
theorem dLo_room_3 : decode cLo_room 3 = .ok (.getfield 30, 3) := by decide +kernel
theorem dLo_room_6 : decode cLo_room 6 = .ok (.isub, 1) := by decide +kernel
theorem dLo_room_7 : decode cLo_room 7 = .ok (.ireturn, 1) := by decide +kernel
theorem dLo_add_0 : decode cLo_add 0 = .ok (.aload_n 0, 1) := by decide +kernel
theorem dLo_add_1 : decode cLo_add 1 = .ok (.getfield 15, 3) := by decide +kernel
theorem dLo_add_4 : decode cLo_add 4 = .ok (.aload_n 0, 1) := by decide +kernel
theorem dLo_add_5 : decode cLo_add 5 = .ok (.getfield 30, 3) := by decide +kernel
theorem dLo_add_8 : decode cLo_add 8 = .ok (.aload_n 0, 1) := by decide +kernel
theorem dLo_add_9 : decode cLo_add 9 = .ok (.iload_n 1, 1) := by decide +kernel
theorem dLo_add_10 : decode cLo_add 10 = .ok (.invokevirtual 34, 3) := by decide +kernel
theorem dLo_add_13 : decode cLo_add 13 = .ok (.iastore, 1) := by decide +kernel
theorem dLo_add_14 : decode cLo_add 14 = .ok (.aload_n 0, 1) := by decide +kernel
theorem dLo_add_15 : decode cLo_add 15 = .ok (.getfield 9, 3) := by decide +kernel
theorem dLo_add_18 : decode cLo_add 18 = .ok (.aload_n 0, 1) := by decide +kernel
theorem dLo_add_19 : decode cLo_add 19 = .ok (.getfield 30, 3) := by decide +kernel
theorem dLo_add_22 : decode cLo_add 22 = .ok (.iload_n 1, 1) := by decide +kernel
theorem dLo_add_23 : decode cLo_add 23 = .ok (.iastore, 1) := by decide +kernel
theorem dLo_add_24 : decode cLo_add 24 = .ok (.aload_n 0, 1) := by decide +kernel
theorem dLo_add_25 : decode cLo_add 25 = .ok (.getfield 18, 3) := by decide +kernel
theorem dLo_add_28 : decode cLo_add 28 = .ok (.aload_n 0, 1) := by decide +kernel
theorem dLo_add_29 : decode cLo_add 29 = .ok (.getfield 30, 3) := by decide +kernel
theorem dLo_add_32 : decode cLo_add 32 = .ok (.iload_n 2, 1) := by decide +kernel
theorem dLo_add_33 : decode cLo_add 33 = .ok (.iastore, 1) := by decide +kernel
theorem dLo_add_34 : decode cLo_add 34 = .ok (.aload_n 0, 1) := by decide +kernel
theorem dLo_add_35 : decode cLo_add 35 = .ok (.getfield 21, 3) := by decide +kernel
theorem dLo_add_38 : decode cLo_add 38 = .ok (.aload_n 0, 1) := by decide +kernel
theorem dLo_add_39 : decode cLo_add 39 = .ok (.getfield 30, 3) := by decide +kernel
theorem dLo_add_42 : decode cLo_add 42 = .ok (.iload_n 3, 1) := by decide +kernel
theorem dLo_add_43 : decode cLo_add 43 = .ok (.iastore, 1) := by decide +kernel
theorem dLo_add_44 : decode cLo_add 44 = .ok (.aload_n 0, 1) := by decide +kernel
theorem dLo_add_45 : decode cLo_add 45 = .ok (.getfield 24, 3) := by decide +kernel
theorem dLo_add_48 : decode cLo_add 48 = .ok (.aload_n 0, 1) := by decide +kernel
theorem dLo_add_49 : decode cLo_add 49 = .ok (.getfield 30, 3) := by decide +kernel
theorem dLo_add_52 : decode cLo_add 52 = .ok (.iload 4, 2) := by decide +kernel
theorem dLo_add_54 : decode cLo_add 54 = .ok (.iastore, 1) := by decide +kernel
theorem dLo_add_55 : decode cLo_add 55 = .ok (.aload_n 0, 1) := by decide +kernel
theorem dLo_add_56 : decode cLo_add 56 = .ok (.getfield 27, 3) := by decide +kernel
theorem dLo_add_59 : decode cLo_add 59 = .ok (.aload_n 0, 1) := by decide +kernel
end
section
theorem dLo_add_60 : decode cLo_add 60 = .ok (.getfield 30, 3) := by decide +kernel
theorem dLo_add_63 : decode cLo_add 63 = .ok (.iconst (-1), 1) := by decide +kernel
theorem dLo_add_64 : decode cLo_add 64 = .ok (.iastore, 1) := by decide +kernel
theorem dLo_add_65 : decode cLo_add 65 = .ok (.aload_n 0, 1) := by decide +kernel
theorem dLo_add_66 : decode cLo_add 66 = .ok (.dup, 1) := by decide +kernel
theorem dLo_add_67 : decode cLo_add 67 = .ok (.getfield 30, 3) := by decide +kernel
theorem dLo_add_70 : decode cLo_add 70 = .ok (.iconst 1, 1) := by decide +kernel
theorem dLo_add_71 : decode cLo_add 71 = .ok (.iadd, 1) := by decide +kernel
theorem dLo_add_72 : decode cLo_add 72 = .ok (.putfield 30, 3) := by decide +kernel
theorem dLo_add_75 : decode cLo_add 75 = .ok (.return_, 1) := by decide +kernel
theorem dLo_freeName_0 : decode cLo_freeName 0 = .ok (.iload_n 1, 1) := by decide +kernel
theorem dLo_freeName_1 : decode cLo_freeName 1 = .ok (.bipush 100, 2) := by decide +kernel
theorem dLo_freeName_3 : decode cLo_freeName 3 = .ok (.imul, 1) := by decide +kernel
theorem dLo_freeName_4 : decode cLo_freeName 4 = .ok (.istore_n 2, 1) := by decide +kernel
theorem dLo_freeName_5 : decode cLo_freeName 5 = .ok (.iconst 0, 1) := by decide +kernel
theorem dLo_freeName_6 : decode cLo_freeName 6 = .ok (.istore_n 3, 1) := by decide +kernel
theorem dLo_freeName_7 : decode cLo_freeName 7 = .ok (.iload_n 3, 1) := by decide +kernel
theorem dLo_freeName_8 : decode cLo_freeName 8 = .ok (.bipush 99, 2) := by decide +kernel
theorem dLo_freeName_10 : decode cLo_freeName 10 = .ok (.if_icmp .ge 21, 3) := by decide +kernel
theorem dLo_freeName_13 : decode cLo_freeName 13 = .ok (.aload_n 0, 1) := by decide +kernel
theorem dLo_freeName_14 : decode cLo_freeName 14 = .ok (.iload_n 2, 1) := by decide +kernel
theorem dLo_freeName_15 : decode cLo_freeName 15 = .ok (.invokevirtual 38, 3) := by decide +kernel
theorem dLo_freeName_18 : decode cLo_freeName 18 = .ok (.iconst (-1), 1) := by decide +kernel
theorem dLo_freeName_19 : decode cLo_freeName 19 = .ok (.if_icmp .eq 12, 3) := by decide +kernel
theorem dLo_freeName_22 : decode cLo_freeName 22 = .ok (.iinc 2 1, 3) := by decide +kernel
theorem dLo_freeName_25 : decode cLo_freeName 25 = .ok (.iinc 3 1, 3) := by decide +kernel
theorem dLo_freeName_28 : decode cLo_freeName 28 = .ok (.goto (-21), 3) := by decide +kernel
theorem dLo_freeName_31 : decode cLo_freeName 31 = .ok (.iload_n 2, 1) := by decide +kernel
theorem dLo_freeName_32 : decode cLo_freeName 32 = .ok (.ireturn, 1) := by decide +kernel
theorem dLo_bearerOf_0 : decode cLo_bearerOf 0 = .ok (.iconst 0, 1) := by decide +kernel
theorem dLo_bearerOf_1 : decode cLo_bearerOf 1 = .ok (.istore_n 2, 1) := by decide +kernel
theorem dLo_bearerOf_2 : decode cLo_bearerOf 2 = .ok (.iload_n 2, 1) := by decide +kernel
theorem dLo_bearerOf_3 : decode cLo_bearerOf 3 = .ok (.aload_n 0, 1) := by decide +kernel
theorem dLo_bearerOf_4 : decode cLo_bearerOf 4 = .ok (.getfield 30, 3) := by decide +kernel
theorem dLo_bearerOf_7 : decode cLo_bearerOf 7 = .ok (.if_icmp .ge 29, 3) := by decide +kernel
theorem dLo_bearerOf_10 : decode cLo_bearerOf 10 = .ok (.aload_n 0, 1) := by decide +kernel
theorem dLo_bearerOf_11 : decode cLo_bearerOf 11 = .ok (.getfield 15, 3) := by decide +kernel
theorem dLo_bearerOf_14 : decode cLo_bearerOf 14 = .ok (.iload_n 2, 1) := by decide +kernel
theorem dLo_bearerOf_15 : decode cLo_bearerOf 15 = .ok (.iaload, 1) := by decide +kernel
theorem dLo_bearerOf_16 : decode cLo_bearerOf 16 = .ok (.iload_n 1, 1) := by decide +kernel
theorem dLo_bearerOf_17 : decode cLo_bearerOf 17 = .ok (.if_icmp .ne 13, 3) := by decide +kernel
theorem dLo_bearerOf_20 : decode cLo_bearerOf 20 = .ok (.aload_n 0, 1) := by decide +kernel
theorem dLo_bearerOf_21 : decode cLo_bearerOf 21 = .ok (.iload_n 2, 1) := by decide +kernel
theorem dLo_bearerOf_22 : decode cLo_bearerOf 22 = .ok (.invokevirtual 41, 3) := by decide +kernel
theorem dLo_bearerOf_25 : decode cLo_bearerOf 25 = .ok (.ifCond .eq 5, 3) := by decide +kernel
theorem dLo_bearerOf_28 : decode cLo_bearerOf 28 = .ok (.iload_n 2, 1) := by decide +kernel
theorem dLo_bearerOf_29 : decode cLo_bearerOf 29 = .ok (.ireturn, 1) := by decide +kernel
theorem dLo_bearerOf_30 : decode cLo_bearerOf 30 = .ok (.iinc 2 1, 3) := by decide +kernel
theorem dLo_bearerOf_33 : decode cLo_bearerOf 33 = .ok (.goto (-31), 3) := by decide +kernel
theorem dLo_bearerOf_36 : decode cLo_bearerOf 36 = .ok (.iconst (-1), 1) := by decide +kernel
theorem dLo_bearerOf_37 : decode cLo_bearerOf 37 = .ok (.ireturn, 1) := by decide +kernel
theorem dLo_isLent_0 : decode cLo_isLent 0 = .ok (.aload_n 0, 1) := by decide +kernel
theorem dLo_isLent_1 : decode cLo_isLent 1 = .ok (.getfield 27, 3) := by decide +kernel
theorem dLo_isLent_4 : decode cLo_isLent 4 = .ok (.iload_n 1, 1) := by decide +kernel
theorem dLo_isLent_5 : decode cLo_isLent 5 = .ok (.iaload, 1) := by decide +kernel
theorem dLo_isLent_6 : decode cLo_isLent 6 = .ok (.iconst (-1), 1) := by decide +kernel
theorem dLo_isLent_7 : decode cLo_isLent 7 = .ok (.if_icmp .ne 7, 3) := by decide +kernel
theorem dLo_isLent_10 : decode cLo_isLent 10 = .ok (.iconst 1, 1) := by decide +kernel
theorem dLo_isLent_11 : decode cLo_isLent 11 = .ok (.goto 4, 3) := by decide +kernel
theorem dLo_isLent_14 : decode cLo_isLent 14 = .ok (.iconst 0, 1) := by decide +kernel
theorem dLo_isLent_15 : decode cLo_isLent 15 = .ok (.ireturn, 1) := by decide +kernel
theorem dLo_lent_0 : decode cLo_lent 0 = .ok (.iconst 0, 1) := by decide +kernel
theorem dLo_lent_1 : decode cLo_lent 1 = .ok (.istore_n 1, 1) := by decide +kernel
theorem dLo_lent_2 : decode cLo_lent 2 = .ok (.iconst 0, 1) := by decide +kernel
theorem dLo_lent_3 : decode cLo_lent 3 = .ok (.istore_n 2, 1) := by decide +kernel
theorem dLo_lent_4 : decode cLo_lent 4 = .ok (.iload_n 2, 1) := by decide +kernel
theorem dLo_lent_5 : decode cLo_lent 5 = .ok (.aload_n 0, 1) := by decide +kernel
theorem dLo_lent_6 : decode cLo_lent 6 = .ok (.getfield 30, 3) := by decide +kernel
theorem dLo_lent_9 : decode cLo_lent 9 = .ok (.if_icmp .ge 20, 3) := by decide +kernel
theorem dLo_lent_12 : decode cLo_lent 12 = .ok (.aload_n 0, 1) := by decide +kernel
theorem dLo_lent_13 : decode cLo_lent 13 = .ok (.iload_n 2, 1) := by decide +kernel
theorem dLo_lent_14 : decode cLo_lent 14 = .ok (.invokevirtual 41, 3) := by decide +kernel
theorem dLo_lent_17 : decode cLo_lent 17 = .ok (.ifCond .eq 6, 3) := by decide +kernel
theorem dLo_lent_20 : decode cLo_lent 20 = .ok (.iinc 1 1, 3) := by decide +kernel
theorem dLo_lent_23 : decode cLo_lent 23 = .ok (.iinc 2 1, 3) := by decide +kernel
theorem dLo_lent_26 : decode cLo_lent 26 = .ok (.goto (-22), 3) := by decide +kernel
theorem dLo_lent_29 : decode cLo_lent 29 = .ok (.iload_n 1, 1) := by decide +kernel
theorem dLo_lent_30 : decode cLo_lent 30 = .ok (.ireturn, 1) := by decide +kernel
theorem dLo_lentUnder_0 : decode cLo_lentUnder 0 = .ok (.iconst 0, 1) := by decide +kernel
theorem dLo_lentUnder_1 : decode cLo_lentUnder 1 = .ok (.istore_n 2, 1) := by decide +kernel
theorem dLo_lentUnder_2 : decode cLo_lentUnder 2 = .ok (.iconst 0, 1) := by decide +kernel
theorem dLo_lentUnder_3 : decode cLo_lentUnder 3 = .ok (.istore_n 3, 1) := by decide +kernel
theorem dLo_lentUnder_4 : decode cLo_lentUnder 4 = .ok (.iload_n 3, 1) := by decide +kernel
theorem dLo_lentUnder_5 : decode cLo_lentUnder 5 = .ok (.aload_n 0, 1) := by decide +kernel
theorem dLo_lentUnder_6 : decode cLo_lentUnder 6 = .ok (.getfield 30, 3) := by decide +kernel
theorem dLo_lentUnder_9 : decode cLo_lentUnder 9 = .ok (.if_icmp .ge 30, 3) := by decide +kernel
theorem dLo_lentUnder_12 : decode cLo_lentUnder 12 = .ok (.aload_n 0, 1) := by decide +kernel
theorem dLo_lentUnder_13 : decode cLo_lentUnder 13 = .ok (.getfield 21, 3) := by decide +kernel
theorem dLo_lentUnder_16 : decode cLo_lentUnder 16 = .ok (.iload_n 3, 1) := by decide +kernel
theorem dLo_lentUnder_17 : decode cLo_lentUnder 17 = .ok (.iaload, 1) := by decide +kernel
theorem dLo_lentUnder_18 : decode cLo_lentUnder 18 = .ok (.iload_n 1, 1) := by decide +kernel
theorem dLo_lentUnder_19 : decode cLo_lentUnder 19 = .ok (.if_icmp .ne 14, 3) := by decide +kernel
theorem dLo_lentUnder_22 : decode cLo_lentUnder 22 = .ok (.aload_n 0, 1) := by decide +kernel
theorem dLo_lentUnder_23 : decode cLo_lentUnder 23 = .ok (.iload_n 3, 1) := by decide +kernel
theorem dLo_lentUnder_24 : decode cLo_lentUnder 24 = .ok (.invokevirtual 41, 3) := by decide +kernel
theorem dLo_lentUnder_27 : decode cLo_lentUnder 27 = .ok (.ifCond .eq 6, 3) := by decide +kernel
theorem dLo_lentUnder_30 : decode cLo_lentUnder 30 = .ok (.iinc 2 1, 3) := by decide +kernel
theorem dLo_lentUnder_33 : decode cLo_lentUnder 33 = .ok (.iinc 3 1, 3) := by decide +kernel
theorem dLo_lentUnder_36 : decode cLo_lentUnder 36 = .ok (.goto (-32), 3) := by decide +kernel
theorem dLo_lentUnder_39 : decode cLo_lentUnder 39 = .ok (.iload_n 2, 1) := by decide +kernel
theorem dLo_lentUnder_40 : decode cLo_lentUnder 40 = .ok (.ireturn, 1) := by decide +kernel
theorem dNu_init_0 : decode cNu_init 0 = .ok (.aload_n 0, 1) := by decide +kernel
theorem dNu_init_1 : decode cNu_init 1 = .ok (.invokespecial 3, 3) := by decide +kernel
theorem dNu_init_4 : decode cNu_init 4 = .ok (.aload_n 0, 1) := by decide +kernel
theorem dNu_init_5 : decode cNu_init 5 = .ok (.sipush 500, 3) := by decide +kernel
theorem dNu_init_8 : decode cNu_init 8 = .ok (.newarray .long, 2) := by decide +kernel
theorem dNu_init_10 : decode cNu_init 10 = .ok (.putfield 11, 3) := by decide +kernel
theorem dNu_init_13 : decode cNu_init 13 = .ok (.return_, 1) := by decide +kernel
theorem dNu_stateOf_0 : decode cNu_stateOf 0 = .ok (.iload_n 1, 1) := by decide +kernel
theorem dNu_stateOf_1 : decode cNu_stateOf 1 = .ok (.iload_n 2, 1) := by decide +kernel
theorem dNu_stateOf_2 : decode cNu_stateOf 2 = .ok (.invokestatic 15, 3) := by decide +kernel
theorem dNu_stateOf_5 : decode cNu_stateOf 5 = .ok (.istore_n 3, 1) := by decide +kernel
theorem dNu_stateOf_6 : decode cNu_stateOf 6 = .ok (.aload_n 0, 1) := by decide +kernel
theorem dNu_stateOf_7 : decode cNu_stateOf 7 = .ok (.getfield 11, 3) := by decide +kernel
theorem dNu_stateOf_10 : decode cNu_stateOf 10 = .ok (.iload_n 3, 1) := by decide +kernel
theorem dNu_stateOf_11 : decode cNu_stateOf 11 = .ok (.bipush 16, 2) := by decide +kernel
theorem dNu_stateOf_13 : decode cNu_stateOf 13 = .ok (.idiv, 1) := by decide +kernel
theorem dNu_stateOf_14 : decode cNu_stateOf 14 = .ok (.laload, 1) := by decide +kernel
theorem dNu_stateOf_15 : decode cNu_stateOf 15 = .ok (.iload_n 3, 1) := by decide +kernel
theorem dNu_stateOf_16 : decode cNu_stateOf 16 = .ok (.invokestatic 19, 3) := by decide +kernel
theorem dNu_stateOf_19 : decode cNu_stateOf 19 = .ok (.lushr, 1) := by decide +kernel
theorem dNu_stateOf_20 : decode cNu_stateOf 20 = .ok (.l2i, 1) := by decide +kernel
theorem dNu_stateOf_21 : decode cNu_stateOf 21 = .ok (.bipush 15, 2) := by decide +kernel
theorem dNu_stateOf_23 : decode cNu_stateOf 23 = .ok (.iand, 1) := by decide +kernel
theorem dNu_stateOf_24 : decode cNu_stateOf 24 = .ok (.ireturn, 1) := by decide +kernel
theorem dNu_keep_0 : decode cNu_keep 0 = .ok (.iload_n 1, 1) := by decide +kernel
theorem dNu_keep_1 : decode cNu_keep 1 = .ok (.iload_n 2, 1) := by decide +kernel
theorem dNu_keep_2 : decode cNu_keep 2 = .ok (.invokestatic 15, 3) := by decide +kernel
theorem dNu_keep_5 : decode cNu_keep 5 = .ok (.istore 4, 2) := by decide +kernel
theorem dNu_keep_7 : decode cNu_keep 7 = .ok (.aload_n 0, 1) := by decide +kernel
theorem dNu_keep_8 : decode cNu_keep 8 = .ok (.getfield 11, 3) := by decide +kernel
theorem dNu_keep_11 : decode cNu_keep 11 = .ok (.iload 4, 2) := by decide +kernel
theorem dNu_keep_13 : decode cNu_keep 13 = .ok (.bipush 16, 2) := by decide +kernel
theorem dNu_keep_15 : decode cNu_keep 15 = .ok (.idiv, 1) := by decide +kernel
theorem dNu_keep_16 : decode cNu_keep 16 = .ok (.dup2, 1) := by decide +kernel
theorem dNu_keep_17 : decode cNu_keep 17 = .ok (.laload, 1) := by decide +kernel
theorem dNu_keep_18 : decode cNu_keep 18 = .ok (.iload_n 3, 1) := by decide +kernel
theorem dNu_keep_19 : decode cNu_keep 19 = .ok (.i2l, 1) := by decide +kernel
theorem dNu_keep_20 : decode cNu_keep 20 = .ok (.iload 4, 2) := by decide +kernel
theorem dNu_keep_22 : decode cNu_keep 22 = .ok (.invokestatic 19, 3) := by decide +kernel
theorem dNu_keep_25 : decode cNu_keep 25 = .ok (.lshl, 1) := by decide +kernel
theorem dNu_keep_26 : decode cNu_keep 26 = .ok (.lor, 1) := by decide +kernel
theorem dNu_keep_27 : decode cNu_keep 27 = .ok (.lastore, 1) := by decide +kernel
theorem dNu_keep_28 : decode cNu_keep 28 = .ok (.return_, 1) := by decide +kernel
theorem dNu_placeOf_0 : decode cNu_placeOf 0 = .ok (.iload_n 0, 1) := by decide +kernel
theorem dNu_placeOf_1 : decode cNu_placeOf 1 = .ok (.sipush 1000, 3) := by decide +kernel
theorem dNu_placeOf_4 : decode cNu_placeOf 4 = .ok (.imul, 1) := by decide +kernel
theorem dNu_placeOf_5 : decode cNu_placeOf 5 = .ok (.iload_n 1, 1) := by decide +kernel
theorem dNu_placeOf_6 : decode cNu_placeOf 6 = .ok (.iadd, 1) := by decide +kernel
theorem dNu_placeOf_7 : decode cNu_placeOf 7 = .ok (.ireturn, 1) := by decide +kernel
theorem dNu_shiftOf_0 : decode cNu_shiftOf 0 = .ok (.iload_n 0, 1) := by decide +kernel
theorem dNu_shiftOf_1 : decode cNu_shiftOf 1 = .ok (.bipush 16, 2) := by decide +kernel
theorem dNu_shiftOf_3 : decode cNu_shiftOf 3 = .ok (.irem, 1) := by decide +kernel
theorem dNu_shiftOf_4 : decode cNu_shiftOf 4 = .ok (.iconst 4, 1) := by decide +kernel
theorem dNu_shiftOf_5 : decode cNu_shiftOf 5 = .ok (.imul, 1) := by decide +kernel
theorem dNu_shiftOf_6 : decode cNu_shiftOf 6 = .ok (.ireturn, 1) := by decide +kernel
theorem dB_init_0 : decode cB_init 0 = .ok (.aload_n 0, 1) := by decide +kernel
theorem dB_init_1 : decode cB_init 1 = .ok (.invokespecial 1, 3) := by decide +kernel
theorem dB_init_4 : decode cB_init 4 = .ok (.aload_n 0, 1) := by decide +kernel
theorem dB_init_5 : decode cB_init 5 = .ok (.bipush 8, 2) := by decide +kernel
theorem dB_init_7 : decode cB_init 7 = .ok (.newarray .int, 2) := by decide +kernel
theorem dB_init_9 : decode cB_init 9 = .ok (.putfield 7, 3) := by decide +kernel
theorem dB_init_12 : decode cB_init 12 = .ok (.aload_n 0, 1) := by decide +kernel
theorem dB_init_13 : decode cB_init 13 = .ok (.bipush 8, 2) := by decide +kernel
theorem dB_init_15 : decode cB_init 15 = .ok (.newarray .int, 2) := by decide +kernel
theorem dB_init_17 : decode cB_init 17 = .ok (.putfield 13, 3) := by decide +kernel
theorem dB_init_20 : decode cB_init 20 = .ok (.aload_n 0, 1) := by decide +kernel
theorem dB_init_21 : decode cB_init 21 = .ok (.bipush 8, 2) := by decide +kernel
theorem dB_init_23 : decode cB_init 23 = .ok (.newarray .boolean, 2) := by decide +kernel
theorem dB_init_25 : decode cB_init 25 = .ok (.putfield 16, 3) := by decide +kernel
theorem dB_init_28 : decode cB_init 28 = .ok (.aload_n 0, 1) := by decide +kernel
theorem dB_init_29 : decode cB_init 29 = .ok (.bipush 30, 2) := by decide +kernel
theorem dB_init_31 : decode cB_init 31 = .ok (.newarray .int, 2) := by decide +kernel
theorem dB_init_33 : decode cB_init 33 = .ok (.putfield 20, 3) := by decide +kernel
theorem dB_init_36 : decode cB_init 36 = .ok (.aload_n 0, 1) := by decide +kernel
theorem dB_init_37 : decode cB_init 37 = .ok (.bipush 30, 2) := by decide +kernel
theorem dB_init_39 : decode cB_init 39 = .ok (.newarray .int, 2) := by decide +kernel
theorem dB_init_41 : decode cB_init 41 = .ok (.putfield 23, 3) := by decide +kernel
theorem dB_init_44 : decode cB_init 44 = .ok (.aload_n 0, 1) := by decide +kernel
theorem dB_init_45 : decode cB_init 45 = .ok (.bipush 30, 2) := by decide +kernel
theorem dB_init_47 : decode cB_init 47 = .ok (.newarray .int, 2) := by decide +kernel
theorem dB_init_49 : decode cB_init 49 = .ok (.putfield 26, 3) := by decide +kernel
theorem dB_init_52 : decode cB_init 52 = .ok (.aload_n 0, 1) := by decide +kernel
theorem dB_init_53 : decode cB_init 53 = .ok (.bipush 30, 2) := by decide +kernel
theorem dB_init_55 : decode cB_init 55 = .ok (.newarray .int, 2) := by decide +kernel
theorem dB_init_57 : decode cB_init 57 = .ok (.putfield 29, 3) := by decide +kernel
theorem dB_init_60 : decode cB_init 60 = .ok (.aload_n 0, 1) := by decide +kernel
theorem dB_init_61 : decode cB_init 61 = .ok (.bipush 30, 2) := by decide +kernel
theorem dB_init_63 : decode cB_init 63 = .ok (.newarray .int, 2) := by decide +kernel
theorem dB_init_65 : decode cB_init 65 = .ok (.putfield 32, 3) := by decide +kernel
theorem dB_init_68 : decode cB_init 68 = .ok (.aload_n 0, 1) := by decide +kernel
theorem dB_init_69 : decode cB_init 69 = .ok (.bipush 30, 2) := by decide +kernel
theorem dB_init_71 : decode cB_init 71 = .ok (.newarray .int, 2) := by decide +kernel
theorem dB_init_73 : decode cB_init 73 = .ok (.putfield 35, 3) := by decide +kernel
theorem dB_init_76 : decode cB_init 76 = .ok (.aload_n 0, 1) := by decide +kernel
theorem dB_init_77 : decode cB_init 77 = .ok (.bipush 30, 2) := by decide +kernel
theorem dB_init_79 : decode cB_init 79 = .ok (.newarray .int, 2) := by decide +kernel
theorem dB_init_81 : decode cB_init 81 = .ok (.putfield 38, 3) := by decide +kernel
theorem dB_init_84 : decode cB_init 84 = .ok (.aload_n 0, 1) := by decide +kernel
theorem dB_init_85 : decode cB_init 85 = .ok (.bipush 30, 2) := by decide +kernel
theorem dB_init_87 : decode cB_init 87 = .ok (.newarray .int, 2) := by decide +kernel
theorem dB_init_89 : decode cB_init 89 = .ok (.putfield 41, 3) := by decide +kernel
theorem dB_init_92 : decode cB_init 92 = .ok (.aload_n 0, 1) := by decide +kernel
theorem dB_init_93 : decode cB_init 93 = .ok (.bipush 30, 2) := by decide +kernel
theorem dB_init_95 : decode cB_init 95 = .ok (.newarray .int, 2) := by decide +kernel
theorem dB_init_97 : decode cB_init 97 = .ok (.putfield 44, 3) := by decide +kernel
theorem dB_init_100 : decode cB_init 100 = .ok (.aload_n 0, 1) := by decide +kernel
theorem dB_init_101 : decode cB_init 101 = .ok (.bipush 30, 2) := by decide +kernel
theorem dB_init_103 : decode cB_init 103 = .ok (.newarray .int, 2) := by decide +kernel
theorem dB_init_105 : decode cB_init 105 = .ok (.putfield 47, 3) := by decide +kernel
theorem dB_init_108 : decode cB_init 108 = .ok (.aload_n 0, 1) := by decide +kernel
theorem dB_init_109 : decode cB_init 109 = .ok (.bipush 30, 2) := by decide +kernel
theorem dB_init_111 : decode cB_init 111 = .ok (.newarray .int, 2) := by decide +kernel
theorem dB_init_113 : decode cB_init 113 = .ok (.putfield 50, 3) := by decide +kernel
theorem dB_init_116 : decode cB_init 116 = .ok (.aload_n 0, 1) := by decide +kernel
theorem dB_init_117 : decode cB_init 117 = .ok (.bipush 30, 2) := by decide +kernel
theorem dB_init_119 : decode cB_init 119 = .ok (.newarray .int, 2) := by decide +kernel
theorem dB_init_121 : decode cB_init 121 = .ok (.putfield 53, 3) := by decide +kernel
theorem dB_init_124 : decode cB_init 124 = .ok (.aload_n 0, 1) := by decide +kernel
theorem dB_init_125 : decode cB_init 125 = .ok (.bipush 30, 2) := by decide +kernel
theorem dB_init_127 : decode cB_init 127 = .ok (.newarray .int, 2) := by decide +kernel
theorem dB_init_129 : decode cB_init 129 = .ok (.putfield 56, 3) := by decide +kernel
theorem dB_init_132 : decode cB_init 132 = .ok (.aload_n 0, 1) := by decide +kernel
theorem dB_init_133 : decode cB_init 133 = .ok (.bipush 30, 2) := by decide +kernel
theorem dB_init_135 : decode cB_init 135 = .ok (.newarray .int, 2) := by decide +kernel
theorem dB_init_137 : decode cB_init 137 = .ok (.putfield 59, 3) := by decide +kernel
theorem dB_init_140 : decode cB_init 140 = .ok (.aload_n 0, 1) := by decide +kernel
theorem dB_init_141 : decode cB_init 141 = .ok (.bipush 30, 2) := by decide +kernel
theorem dB_init_143 : decode cB_init 143 = .ok (.newarray .int, 2) := by decide +kernel
theorem dB_init_145 : decode cB_init 145 = .ok (.putfield 62, 3) := by decide +kernel
theorem dB_init_148 : decode cB_init 148 = .ok (.aload_n 0, 1) := by decide +kernel
theorem dB_init_149 : decode cB_init 149 = .ok (.bipush 30, 2) := by decide +kernel
theorem dB_init_151 : decode cB_init 151 = .ok (.newarray .boolean, 2) := by decide +kernel
theorem dB_init_153 : decode cB_init 153 = .ok (.putfield 65, 3) := by decide +kernel
theorem dB_init_156 : decode cB_init 156 = .ok (.aload_n 0, 1) := by decide +kernel
theorem dB_init_157 : decode cB_init 157 = .ok (.sipush 240, 3) := by decide +kernel
theorem dB_init_160 : decode cB_init 160 = .ok (.newarray .boolean, 2) := by decide +kernel
theorem dB_init_162 : decode cB_init 162 = .ok (.putfield 68, 3) := by decide +kernel
theorem dB_init_165 : decode cB_init 165 = .ok (.aload_n 0, 1) := by decide +kernel
theorem dB_init_166 : decode cB_init 166 = .ok (.bipush 100, 2) := by decide +kernel
theorem dB_init_168 : decode cB_init 168 = .ok (.newarray .int, 2) := by decide +kernel
theorem dB_init_170 : decode cB_init 170 = .ok (.putfield 71, 3) := by decide +kernel
theorem dB_init_173 : decode cB_init 173 = .ok (.aload_n 0, 1) := by decide +kernel
theorem dB_init_174 : decode cB_init 174 = .ok (.bipush 100, 2) := by decide +kernel
theorem dB_init_176 : decode cB_init 176 = .ok (.newarray .int, 2) := by decide +kernel
theorem dB_init_178 : decode cB_init 178 = .ok (.putfield 74, 3) := by decide +kernel
theorem dB_init_181 : decode cB_init 181 = .ok (.aload_n 0, 1) := by decide +kernel
theorem dB_init_182 : decode cB_init 182 = .ok (.bipush 100, 2) := by decide +kernel
theorem dB_init_184 : decode cB_init 184 = .ok (.newarray .int, 2) := by decide +kernel
theorem dB_init_186 : decode cB_init 186 = .ok (.putfield 77, 3) := by decide +kernel
theorem dB_init_189 : decode cB_init 189 = .ok (.aload_n 0, 1) := by decide +kernel
theorem dB_init_190 : decode cB_init 190 = .ok (.bipush 100, 2) := by decide +kernel
theorem dB_init_192 : decode cB_init 192 = .ok (.newarray .int, 2) := by decide +kernel
theorem dB_init_194 : decode cB_init 194 = .ok (.putfield 80, 3) := by decide +kernel
theorem dB_init_197 : decode cB_init 197 = .ok (.aload_n 0, 1) := by decide +kernel
theorem dB_init_198 : decode cB_init 198 = .ok (.bipush 100, 2) := by decide +kernel
theorem dB_init_200 : decode cB_init 200 = .ok (.newarray .int, 2) := by decide +kernel
theorem dB_init_202 : decode cB_init 202 = .ok (.putfield 83, 3) := by decide +kernel
theorem dB_init_205 : decode cB_init 205 = .ok (.aload_n 0, 1) := by decide +kernel
theorem dB_init_206 : decode cB_init 206 = .ok (.bipush 100, 2) := by decide +kernel
theorem dB_init_208 : decode cB_init 208 = .ok (.newarray .int, 2) := by decide +kernel
theorem dB_init_210 : decode cB_init 210 = .ok (.putfield 86, 3) := by decide +kernel
theorem dB_init_213 : decode cB_init 213 = .ok (.aload_n 0, 1) := by decide +kernel
theorem dB_init_214 : decode cB_init 214 = .ok (.sipush 8000, 3) := by decide +kernel
theorem dB_init_217 : decode cB_init 217 = .ok (.newarray .int, 2) := by decide +kernel
theorem dB_init_219 : decode cB_init 219 = .ok (.putfield 89, 3) := by decide +kernel
theorem dB_init_222 : decode cB_init 222 = .ok (.aload_n 0, 1) := by decide +kernel
theorem dB_init_223 : decode cB_init 223 = .ok (.bipush 100, 2) := by decide +kernel
theorem dB_init_225 : decode cB_init 225 = .ok (.newarray .int, 2) := by decide +kernel
theorem dB_init_227 : decode cB_init 227 = .ok (.putfield 92, 3) := by decide +kernel
theorem dB_init_230 : decode cB_init 230 = .ok (.iconst 0, 1) := by decide +kernel
theorem dB_init_231 : decode cB_init 231 = .ok (.istore_n 1, 1) := by decide +kernel
theorem dB_init_232 : decode cB_init 232 = .ok (.iload_n 1, 1) := by decide +kernel
theorem dB_init_233 : decode cB_init 233 = .ok (.bipush 100, 2) := by decide +kernel
theorem dB_init_235 : decode cB_init 235 = .ok (.if_icmp .ge 16, 3) := by decide +kernel
theorem dB_init_238 : decode cB_init 238 = .ok (.aload_n 0, 1) := by decide +kernel
theorem dB_init_239 : decode cB_init 239 = .ok (.getfield 92, 3) := by decide +kernel
theorem dB_init_242 : decode cB_init 242 = .ok (.iload_n 1, 1) := by decide +kernel
theorem dB_init_243 : decode cB_init 243 = .ok (.iconst (-1), 1) := by decide +kernel
theorem dB_init_244 : decode cB_init 244 = .ok (.iastore, 1) := by decide +kernel
theorem dB_init_245 : decode cB_init 245 = .ok (.iinc 1 1, 3) := by decide +kernel
theorem dB_init_248 : decode cB_init 248 = .ok (.goto (-16), 3) := by decide +kernel
theorem dB_init_251 : decode cB_init 251 = .ok (.return_, 1) := by decide +kernel
theorem dB_thrown_0 : decode cB_thrown 0 = .ok (.aload_n 0, 1) := by decide +kernel
theorem dB_thrown_1 : decode cB_thrown 1 = .ok (.getfield 95, 3) := by decide +kernel
theorem dB_thrown_4 : decode cB_thrown 4 = .ok (.ireturn, 1) := by decide +kernel
theorem dB_in_0 : decode cB_in 0 = .ok (.iload_n 0, 1) := by decide +kernel
theorem dB_in_1 : decode cB_in 1 = .ok (.iload_n 1, 1) := by decide +kernel
theorem dB_in_2 : decode cB_in 2 = .ok (.if_icmp .lt 12, 3) := by decide +kernel
theorem dB_in_5 : decode cB_in 5 = .ok (.iload_n 0, 1) := by decide +kernel
theorem dB_in_6 : decode cB_in 6 = .ok (.iload_n 2, 1) := by decide +kernel
theorem dB_in_7 : decode cB_in 7 = .ok (.if_icmp .gt 7, 3) := by decide +kernel
theorem dB_in_10 : decode cB_in 10 = .ok (.iconst 1, 1) := by decide +kernel
theorem dB_in_11 : decode cB_in 11 = .ok (.goto 4, 3) := by decide +kernel
theorem dB_in_14 : decode cB_in 14 = .ok (.iconst 0, 1) := by decide +kernel
theorem dB_in_15 : decode cB_in 15 = .ok (.ireturn, 1) := by decide +kernel
theorem dB_goes_0 : decode cB_goes 0 = .ok (.iload_n 2, 1) := by decide +kernel
theorem dB_goes_1 : decode cB_goes 1 = .ok (.ifCond .ne 7, 3) := by decide +kernel
theorem dB_goes_4 : decode cB_goes 4 = .ok (.iconst 1, 1) := by decide +kernel
theorem dB_goes_5 : decode cB_goes 5 = .ok (.goto 31, 3) := by decide +kernel
theorem dB_goes_8 : decode cB_goes 8 = .ok (.iload_n 3, 1) := by decide +kernel
theorem dB_goes_9 : decode cB_goes 9 = .ok (.ifCond .ne 7, 3) := by decide +kernel
theorem dB_goes_12 : decode cB_goes 12 = .ok (.iconst 2, 1) := by decide +kernel
theorem dB_goes_13 : decode cB_goes 13 = .ok (.goto 23, 3) := by decide +kernel
theorem dB_goes_16 : decode cB_goes 16 = .ok (.iload 4, 2) := by decide +kernel
theorem dB_goes_18 : decode cB_goes 18 = .ok (.ifCond .ne 7, 3) := by decide +kernel
theorem dB_goes_21 : decode cB_goes 21 = .ok (.iconst 4, 1) := by decide +kernel
theorem dB_goes_22 : decode cB_goes 22 = .ok (.goto 14, 3) := by decide +kernel
theorem dB_goes_25 : decode cB_goes 25 = .ok (.iload 5, 2) := by decide +kernel
theorem dB_goes_27 : decode cB_goes 27 = .ok (.ifCond .ne 8, 3) := by decide +kernel
theorem dB_goes_30 : decode cB_goes 30 = .ok (.bipush 8, 2) := by decide +kernel
theorem dB_goes_32 : decode cB_goes 32 = .ok (.goto 4, 3) := by decide +kernel
theorem dB_goes_35 : decode cB_goes 35 = .ok (.iconst 0, 1) := by decide +kernel
theorem dB_goes_36 : decode cB_goes 36 = .ok (.istore 6, 2) := by decide +kernel
theorem dB_goes_38 : decode cB_goes 38 = .ok (.aload_n 0, 1) := by decide +kernel
theorem dB_goes_39 : decode cB_goes 39 = .ok (.iconst 0, 1) := by decide +kernel
theorem dB_goes_40 : decode cB_goes 40 = .ok (.putfield 95, 3) := by decide +kernel
theorem dB_goes_43 : decode cB_goes 43 = .ok (.iconst 1, 1) := by decide +kernel
theorem dB_goes_44 : decode cB_goes 44 = .ok (.istore 7, 2) := by decide +kernel
theorem dB_goes_46 : decode cB_goes 46 = .ok (.iload 7, 2) := by decide +kernel
theorem dB_goes_48 : decode cB_goes 48 = .ok (.iload 6, 2) := by decide +kernel
theorem dB_goes_50 : decode cB_goes 50 = .ok (.if_icmp .gt 29, 3) := by decide +kernel
theorem dB_goes_53 : decode cB_goes 53 = .ok (.iload_n 1, 1) := by decide +kernel
theorem dB_goes_54 : decode cB_goes 54 = .ok (.iload 7, 2) := by decide +kernel
theorem dB_goes_56 : decode cB_goes 56 = .ok (.iand, 1) := by decide +kernel
theorem dB_goes_57 : decode cB_goes 57 = .ok (.ifCond .le 13, 3) := by decide +kernel
theorem dB_goes_60 : decode cB_goes 60 = .ok (.aload_n 0, 1) := by decide +kernel
theorem dB_goes_61 : decode cB_goes 61 = .ok (.dup, 1) := by decide +kernel
theorem dB_goes_62 : decode cB_goes 62 = .ok (.getfield 95, 3) := by decide +kernel
theorem dB_goes_65 : decode cB_goes 65 = .ok (.iconst 1, 1) := by decide +kernel
theorem dB_goes_66 : decode cB_goes 66 = .ok (.iadd, 1) := by decide +kernel
theorem dB_goes_67 : decode cB_goes 67 = .ok (.putfield 95, 3) := by decide +kernel
theorem dB_goes_70 : decode cB_goes 70 = .ok (.iconst 2, 1) := by decide +kernel
theorem dB_goes_71 : decode cB_goes 71 = .ok (.iload 7, 2) := by decide +kernel
theorem dB_goes_73 : decode cB_goes 73 = .ok (.imul, 1) := by decide +kernel
theorem dB_goes_74 : decode cB_goes 74 = .ok (.istore 7, 2) := by decide +kernel
theorem dB_goes_76 : decode cB_goes 76 = .ok (.goto (-30), 3) := by decide +kernel
theorem dB_goes_79 : decode cB_goes 79 = .ok (.iload 6, 2) := by decide +kernel
theorem dB_goes_81 : decode cB_goes 81 = .ok (.ifCond .ne 7, 3) := by decide +kernel
theorem dB_goes_84 : decode cB_goes 84 = .ok (.iconst 1, 1) := by decide +kernel
theorem dB_goes_85 : decode cB_goes 85 = .ok (.goto 4, 3) := by decide +kernel
theorem dB_goes_88 : decode cB_goes 88 = .ok (.iconst 0, 1) := by decide +kernel
theorem dB_goes_89 : decode cB_goes 89 = .ok (.ireturn, 1) := by decide +kernel
theorem dB_isHouse_0 : decode cB_isHouse 0 = .ok (.iload_n 1, 1) := by decide +kernel
theorem dB_isHouse_1 : decode cB_isHouse 1 = .ok (.iconst 0, 1) := by decide +kernel
theorem dB_isHouse_2 : decode cB_isHouse 2 = .ok (.aload_n 0, 1) := by decide +kernel
theorem dB_isHouse_3 : decode cB_isHouse 3 = .ok (.getfield 99, 3) := by decide +kernel
theorem dB_isHouse_6 : decode cB_isHouse 6 = .ok (.iconst 1, 1) := by decide +kernel
theorem dB_isHouse_7 : decode cB_isHouse 7 = .ok (.isub, 1) := by decide +kernel
theorem dB_isHouse_8 : decode cB_isHouse 8 = .ok (.invokestatic 102, 3) := by decide +kernel
theorem dB_isHouse_11 : decode cB_isHouse 11 = .ok (.ireturn, 1) := by decide +kernel
theorem dB_house_0 : decode cB_house 0 = .ok (.aload_n 0, 1) := by decide +kernel
theorem dB_house_1 : decode cB_house 1 = .ok (.bipush 10, 2) := by decide +kernel
theorem dB_house_3 : decode cB_house 3 = .ok (.iconst 1, 1) := by decide +kernel
theorem dB_house_4 : decode cB_house 4 = .ok (.iload_n 1, 1) := by decide +kernel
theorem dB_house_5 : decode cB_house 5 = .ok (.iconst 0, 1) := by decide +kernel
theorem dB_house_6 : decode cB_house 6 = .ok (.bipush 9, 2) := by decide +kernel
theorem dB_house_8 : decode cB_house 8 = .ok (.invokestatic 102, 3) := by decide +kernel
theorem dB_house_11 : decode cB_house 11 = .ok (.ifCond .eq 18, 3) := by decide +kernel
theorem dB_house_14 : decode cB_house 14 = .ok (.iload_n 2, 1) := by decide +kernel
theorem dB_house_15 : decode cB_house 15 = .ok (.iconst 0, 1) := by decide +kernel
theorem dB_house_16 : decode cB_house 16 = .ok (.sipush 1000, 3) := by decide +kernel
theorem dB_house_19 : decode cB_house 19 = .ok (.invokestatic 102, 3) := by decide +kernel
theorem dB_house_22 : decode cB_house 22 = .ok (.ifCond .eq 7, 3) := by decide +kernel
theorem dB_house_25 : decode cB_house 25 = .ok (.iconst 1, 1) := by decide +kernel
theorem dB_house_26 : decode cB_house 26 = .ok (.goto 4, 3) := by decide +kernel
theorem dB_house_29 : decode cB_house 29 = .ok (.iconst 0, 1) := by decide +kernel
theorem dB_house_30 : decode cB_house 30 = .ok (.iconst 1, 1) := by decide +kernel
theorem dB_house_31 : decode cB_house 31 = .ok (.aload_n 0, 1) := by decide +kernel
theorem dB_house_32 : decode cB_house 32 = .ok (.getfield 99, 3) := by decide +kernel
theorem dB_house_35 : decode cB_house 35 = .ok (.bipush 8, 2) := by decide +kernel
theorem dB_house_37 : decode cB_house 37 = .ok (.if_icmp .ge 7, 3) := by decide +kernel
theorem dB_house_40 : decode cB_house 40 = .ok (.iconst 1, 1) := by decide +kernel
theorem dB_house_41 : decode cB_house 41 = .ok (.goto 4, 3) := by decide +kernel
theorem dB_house_44 : decode cB_house 44 = .ok (.iconst 0, 1) := by decide +kernel
theorem dB_house_45 : decode cB_house 45 = .ok (.invokevirtual 106, 3) := by decide +kernel
theorem dB_house_48 : decode cB_house 48 = .ok (.ifCond .ne 5, 3) := by decide +kernel
theorem dB_house_51 : decode cB_house 51 = .ok (.iconst 0, 1) := by decide +kernel
theorem dB_house_52 : decode cB_house 52 = .ok (.ireturn, 1) := by decide +kernel
theorem dB_house_53 : decode cB_house 53 = .ok (.aload_n 0, 1) := by decide +kernel
theorem dB_house_54 : decode cB_house 54 = .ok (.getfield 7, 3) := by decide +kernel
theorem dB_house_57 : decode cB_house 57 = .ok (.aload_n 0, 1) := by decide +kernel
theorem dB_house_58 : decode cB_house 58 = .ok (.getfield 99, 3) := by decide +kernel
theorem dB_house_61 : decode cB_house 61 = .ok (.iload_n 1, 1) := by decide +kernel
theorem dB_house_62 : decode cB_house 62 = .ok (.iastore, 1) := by decide +kernel
theorem dB_house_63 : decode cB_house 63 = .ok (.aload_n 0, 1) := by decide +kernel
theorem dB_house_64 : decode cB_house 64 = .ok (.getfield 13, 3) := by decide +kernel
theorem dB_house_67 : decode cB_house 67 = .ok (.aload_n 0, 1) := by decide +kernel
theorem dB_house_68 : decode cB_house 68 = .ok (.getfield 99, 3) := by decide +kernel
theorem dB_house_71 : decode cB_house 71 = .ok (.iload_n 2, 1) := by decide +kernel
theorem dB_house_72 : decode cB_house 72 = .ok (.iastore, 1) := by decide +kernel
theorem dB_house_73 : decode cB_house 73 = .ok (.aload_n 0, 1) := by decide +kernel
theorem dB_house_74 : decode cB_house 74 = .ok (.dup, 1) := by decide +kernel
theorem dB_house_75 : decode cB_house 75 = .ok (.getfield 99, 3) := by decide +kernel
theorem dB_house_78 : decode cB_house 78 = .ok (.iconst 1, 1) := by decide +kernel
theorem dB_house_79 : decode cB_house 79 = .ok (.iadd, 1) := by decide +kernel
theorem dB_house_80 : decode cB_house 80 = .ok (.putfield 99, 3) := by decide +kernel
theorem dB_house_83 : decode cB_house 83 = .ok (.aload_n 0, 1) := by decide +kernel
theorem dB_house_84 : decode cB_house 84 = .ok (.getfield 99, 3) := by decide +kernel
theorem dB_house_87 : decode cB_house 87 = .ok (.iconst 1, 1) := by decide +kernel
theorem dB_house_88 : decode cB_house 88 = .ok (.isub, 1) := by decide +kernel
theorem dB_house_89 : decode cB_house 89 = .ok (.ireturn, 1) := by decide +kernel
theorem dB_agree_0 : decode cB_agree 0 = .ok (.aload_n 0, 1) := by decide +kernel
theorem dB_agree_1 : decode cB_agree 1 = .ok (.iload_n 1, 1) := by decide +kernel
theorem dB_agree_2 : decode cB_agree 2 = .ok (.invokevirtual 110, 3) := by decide +kernel
theorem dB_agree_5 : decode cB_agree 5 = .ok (.ifCond .eq 17, 3) := by decide +kernel
theorem dB_agree_8 : decode cB_agree 8 = .ok (.iload_n 2, 1) := by decide +kernel
theorem dB_agree_9 : decode cB_agree 9 = .ok (.iconst 0, 1) := by decide +kernel
theorem dB_agree_10 : decode cB_agree 10 = .ok (.bipush 9, 2) := by decide +kernel
theorem dB_agree_12 : decode cB_agree 12 = .ok (.invokestatic 102, 3) := by decide +kernel
theorem dB_agree_15 : decode cB_agree 15 = .ok (.ifCond .eq 7, 3) := by decide +kernel
theorem dB_agree_18 : decode cB_agree 18 = .ok (.iconst 1, 1) := by decide +kernel
theorem dB_agree_19 : decode cB_agree 19 = .ok (.goto 4, 3) := by decide +kernel
theorem dB_agree_22 : decode cB_agree 22 = .ok (.iconst 0, 1) := by decide +kernel
theorem dB_agree_23 : decode cB_agree 23 = .ok (.istore 7, 2) := by decide +kernel
theorem dB_agree_25 : decode cB_agree 25 = .ok (.iload_n 3, 1) := by decide +kernel
theorem dB_agree_26 : decode cB_agree 26 = .ok (.iconst 0, 1) := by decide +kernel
theorem dB_agree_27 : decode cB_agree 27 = .ok (.ldc 114, 2) := by decide +kernel
theorem dB_agree_29 : decode cB_agree 29 = .ok (.invokestatic 102, 3) := by decide +kernel
theorem dB_agree_32 : decode cB_agree 32 = .ok (.ifCond .eq 68, 3) := by decide +kernel
theorem dB_agree_35 : decode cB_agree 35 = .ok (.iload 4, 2) := by decide +kernel
theorem dB_agree_37 : decode cB_agree 37 = .ok (.iconst 0, 1) := by decide +kernel
theorem dB_agree_38 : decode cB_agree 38 = .ok (.ldc 114, 2) := by decide +kernel
theorem dB_agree_40 : decode cB_agree 40 = .ok (.invokestatic 102, 3) := by decide +kernel
theorem dB_agree_43 : decode cB_agree 43 = .ok (.ifCond .eq 57, 3) := by decide +kernel
theorem dB_agree_46 : decode cB_agree 46 = .ok (.iload_n 3, 1) := by decide +kernel
theorem dB_agree_47 : decode cB_agree 47 = .ok (.iload 4, 2) := by decide +kernel
theorem dB_agree_49 : decode cB_agree 49 = .ok (.if_icmp .ge 51, 3) := by decide +kernel
theorem dB_agree_52 : decode cB_agree 52 = .ok (.iload 5, 2) := by decide +kernel
theorem dB_agree_54 : decode cB_agree 54 = .ok (.ifCond .lt 46, 3) := by decide +kernel
theorem dB_agree_57 : decode cB_agree 57 = .ok (.iload 5, 2) := by decide +kernel
theorem dB_agree_59 : decode cB_agree 59 = .ok (.bipush 100, 2) := by decide +kernel
theorem dB_agree_61 : decode cB_agree 61 = .ok (.idiv, 1) := by decide +kernel
theorem dB_agree_62 : decode cB_agree 62 = .ok (.iconst 0, 1) := by decide +kernel
theorem dB_agree_63 : decode cB_agree 63 = .ok (.bipush 23, 2) := by decide +kernel
theorem dB_agree_65 : decode cB_agree 65 = .ok (.invokestatic 102, 3) := by decide +kernel
theorem dB_agree_68 : decode cB_agree 68 = .ok (.ifCond .eq 32, 3) := by decide +kernel
theorem dB_agree_71 : decode cB_agree 71 = .ok (.iload 5, 2) := by decide +kernel
theorem dB_agree_73 : decode cB_agree 73 = .ok (.bipush 100, 2) := by decide +kernel
theorem dB_agree_75 : decode cB_agree 75 = .ok (.irem, 1) := by decide +kernel
theorem dB_agree_76 : decode cB_agree 76 = .ok (.iconst 0, 1) := by decide +kernel
theorem dB_agree_77 : decode cB_agree 77 = .ok (.bipush 23, 2) := by decide +kernel
theorem dB_agree_79 : decode cB_agree 79 = .ok (.invokestatic 102, 3) := by decide +kernel
theorem dB_agree_82 : decode cB_agree 82 = .ok (.ifCond .eq 18, 3) := by decide +kernel
theorem dB_agree_85 : decode cB_agree 85 = .ok (.iload 6, 2) := by decide +kernel
theorem dB_agree_87 : decode cB_agree 87 = .ok (.iconst 1, 1) := by decide +kernel
theorem dB_agree_88 : decode cB_agree 88 = .ok (.bipush 20, 2) := by decide +kernel
theorem dB_agree_90 : decode cB_agree 90 = .ok (.invokestatic 102, 3) := by decide +kernel
theorem dB_agree_93 : decode cB_agree 93 = .ok (.ifCond .eq 7, 3) := by decide +kernel
theorem dB_agree_96 : decode cB_agree 96 = .ok (.iconst 1, 1) := by decide +kernel
theorem dB_agree_97 : decode cB_agree 97 = .ok (.goto 4, 3) := by decide +kernel
theorem dB_agree_100 : decode cB_agree 100 = .ok (.iconst 0, 1) := by decide +kernel
theorem dB_agree_101 : decode cB_agree 101 = .ok (.istore 8, 2) := by decide +kernel
theorem dB_agree_103 : decode cB_agree 103 = .ok (.iconst 1, 1) := by decide +kernel
theorem dB_agree_104 : decode cB_agree 104 = .ok (.istore 9, 2) := by decide +kernel
theorem dB_agree_106 : decode cB_agree 106 = .ok (.iconst 0, 1) := by decide +kernel
theorem dB_agree_107 : decode cB_agree 107 = .ok (.istore 10, 2) := by decide +kernel
theorem dB_agree_109 : decode cB_agree 109 = .ok (.iload 10, 2) := by decide +kernel
theorem dB_agree_111 : decode cB_agree 111 = .ok (.aload_n 0, 1) := by decide +kernel
theorem dB_agree_112 : decode cB_agree 112 = .ok (.getfield 115, 3) := by decide +kernel
theorem dB_agree_115 : decode cB_agree 115 = .ok (.if_icmp .ge 57, 3) := by decide +kernel
theorem dB_agree_118 : decode cB_agree 118 = .ok (.aload_n 0, 1) := by decide +kernel
theorem dB_agree_119 : decode cB_agree 119 = .ok (.getfield 20, 3) := by decide +kernel
theorem dB_agree_122 : decode cB_agree 122 = .ok (.iload 10, 2) := by decide +kernel
theorem dB_agree_124 : decode cB_agree 124 = .ok (.iaload, 1) := by decide +kernel
theorem dB_agree_125 : decode cB_agree 125 = .ok (.iload_n 1, 1) := by decide +kernel
theorem dB_agree_126 : decode cB_agree 126 = .ok (.if_icmp .ne 40, 3) := by decide +kernel
theorem dB_agree_129 : decode cB_agree 129 = .ok (.aload_n 0, 1) := by decide +kernel
theorem dB_agree_130 : decode cB_agree 130 = .ok (.getfield 23, 3) := by decide +kernel
theorem dB_agree_133 : decode cB_agree 133 = .ok (.iload 10, 2) := by decide +kernel
theorem dB_agree_135 : decode cB_agree 135 = .ok (.iaload, 1) := by decide +kernel
theorem dB_agree_136 : decode cB_agree 136 = .ok (.iload_n 2, 1) := by decide +kernel
theorem dB_agree_137 : decode cB_agree 137 = .ok (.if_icmp .ne 29, 3) := by decide +kernel
theorem dB_agree_140 : decode cB_agree 140 = .ok (.iload_n 3, 1) := by decide +kernel
theorem dB_agree_141 : decode cB_agree 141 = .ok (.aload_n 0, 1) := by decide +kernel
theorem dB_agree_142 : decode cB_agree 142 = .ok (.getfield 29, 3) := by decide +kernel
theorem dB_agree_145 : decode cB_agree 145 = .ok (.iload 10, 2) := by decide +kernel
theorem dB_agree_147 : decode cB_agree 147 = .ok (.iaload, 1) := by decide +kernel
theorem dB_agree_148 : decode cB_agree 148 = .ok (.if_icmp .ge 18, 3) := by decide +kernel
theorem dB_agree_151 : decode cB_agree 151 = .ok (.aload_n 0, 1) := by decide +kernel
theorem dB_agree_152 : decode cB_agree 152 = .ok (.getfield 26, 3) := by decide +kernel
theorem dB_agree_155 : decode cB_agree 155 = .ok (.iload 10, 2) := by decide +kernel
theorem dB_agree_157 : decode cB_agree 157 = .ok (.iaload, 1) := by decide +kernel
theorem dB_agree_158 : decode cB_agree 158 = .ok (.iload 4, 2) := by decide +kernel
theorem dB_agree_160 : decode cB_agree 160 = .ok (.if_icmp .ge 6, 3) := by decide +kernel
theorem dB_agree_163 : decode cB_agree 163 = .ok (.iconst 0, 1) := by decide +kernel
theorem dB_agree_164 : decode cB_agree 164 = .ok (.istore 9, 2) := by decide +kernel
theorem dB_agree_166 : decode cB_agree 166 = .ok (.iinc 10 1, 3) := by decide +kernel
theorem dB_agree_169 : decode cB_agree 169 = .ok (.goto (-60), 3) := by decide +kernel
theorem dB_agree_172 : decode cB_agree 172 = .ok (.aload_n 0, 1) := by decide +kernel
theorem dB_agree_173 : decode cB_agree 173 = .ok (.bipush 15, 2) := by decide +kernel
theorem dB_agree_175 : decode cB_agree 175 = .ok (.iload 7, 2) := by decide +kernel
theorem dB_agree_177 : decode cB_agree 177 = .ok (.iload 8, 2) := by decide +kernel
theorem dB_agree_179 : decode cB_agree 179 = .ok (.iload 9, 2) := by decide +kernel
theorem dB_agree_181 : decode cB_agree 181 = .ok (.aload_n 0, 1) := by decide +kernel
theorem dB_agree_182 : decode cB_agree 182 = .ok (.getfield 115, 3) := by decide +kernel
theorem dB_agree_185 : decode cB_agree 185 = .ok (.bipush 30, 2) := by decide +kernel
theorem dB_agree_187 : decode cB_agree 187 = .ok (.if_icmp .ge 7, 3) := by decide +kernel
theorem dB_agree_190 : decode cB_agree 190 = .ok (.iconst 1, 1) := by decide +kernel
theorem dB_agree_191 : decode cB_agree 191 = .ok (.goto 4, 3) := by decide +kernel
theorem dB_agree_194 : decode cB_agree 194 = .ok (.iconst 0, 1) := by decide +kernel
theorem dB_agree_195 : decode cB_agree 195 = .ok (.invokevirtual 106, 3) := by decide +kernel
theorem dB_agree_198 : decode cB_agree 198 = .ok (.ifCond .ne 5, 3) := by decide +kernel
theorem dB_agree_201 : decode cB_agree 201 = .ok (.iconst 0, 1) := by decide +kernel
theorem dB_agree_202 : decode cB_agree 202 = .ok (.ireturn, 1) := by decide +kernel
theorem dB_agree_203 : decode cB_agree 203 = .ok (.aload_n 0, 1) := by decide +kernel
theorem dB_agree_204 : decode cB_agree 204 = .ok (.getfield 20, 3) := by decide +kernel
theorem dB_agree_207 : decode cB_agree 207 = .ok (.aload_n 0, 1) := by decide +kernel
theorem dB_agree_208 : decode cB_agree 208 = .ok (.getfield 115, 3) := by decide +kernel
theorem dB_agree_211 : decode cB_agree 211 = .ok (.iload_n 1, 1) := by decide +kernel
theorem dB_agree_212 : decode cB_agree 212 = .ok (.iastore, 1) := by decide +kernel
theorem dB_agree_213 : decode cB_agree 213 = .ok (.aload_n 0, 1) := by decide +kernel
theorem dB_agree_214 : decode cB_agree 214 = .ok (.getfield 23, 3) := by decide +kernel
theorem dB_agree_217 : decode cB_agree 217 = .ok (.aload_n 0, 1) := by decide +kernel
theorem dB_agree_218 : decode cB_agree 218 = .ok (.getfield 115, 3) := by decide +kernel
theorem dB_agree_221 : decode cB_agree 221 = .ok (.iload_n 2, 1) := by decide +kernel
theorem dB_agree_222 : decode cB_agree 222 = .ok (.iastore, 1) := by decide +kernel
theorem dB_agree_223 : decode cB_agree 223 = .ok (.aload_n 0, 1) := by decide +kernel
theorem dB_agree_224 : decode cB_agree 224 = .ok (.getfield 26, 3) := by decide +kernel
theorem dB_agree_227 : decode cB_agree 227 = .ok (.aload_n 0, 1) := by decide +kernel
theorem dB_agree_228 : decode cB_agree 228 = .ok (.getfield 115, 3) := by decide +kernel
theorem dB_agree_231 : decode cB_agree 231 = .ok (.iload_n 3, 1) := by decide +kernel
theorem dB_agree_232 : decode cB_agree 232 = .ok (.iastore, 1) := by decide +kernel
theorem dB_agree_233 : decode cB_agree 233 = .ok (.aload_n 0, 1) := by decide +kernel
theorem dB_agree_234 : decode cB_agree 234 = .ok (.getfield 29, 3) := by decide +kernel
theorem dB_agree_237 : decode cB_agree 237 = .ok (.aload_n 0, 1) := by decide +kernel
theorem dB_agree_238 : decode cB_agree 238 = .ok (.getfield 115, 3) := by decide +kernel
theorem dB_agree_241 : decode cB_agree 241 = .ok (.iload 4, 2) := by decide +kernel
theorem dB_agree_243 : decode cB_agree 243 = .ok (.iastore, 1) := by decide +kernel
theorem dB_agree_244 : decode cB_agree 244 = .ok (.aload_n 0, 1) := by decide +kernel
theorem dB_agree_245 : decode cB_agree 245 = .ok (.getfield 32, 3) := by decide +kernel
end
section
theorem dB_agree_248 : decode cB_agree 248 = .ok (.aload_n 0, 1) := by decide +kernel
theorem dB_agree_249 : decode cB_agree 249 = .ok (.getfield 115, 3) := by decide +kernel
theorem dB_agree_252 : decode cB_agree 252 = .ok (.iload 5, 2) := by decide +kernel
theorem dB_agree_254 : decode cB_agree 254 = .ok (.bipush 100, 2) := by decide +kernel
theorem dB_agree_256 : decode cB_agree 256 = .ok (.idiv, 1) := by decide +kernel
theorem dB_agree_257 : decode cB_agree 257 = .ok (.iastore, 1) := by decide +kernel
theorem dB_agree_258 : decode cB_agree 258 = .ok (.aload_n 0, 1) := by decide +kernel
theorem dB_agree_259 : decode cB_agree 259 = .ok (.getfield 35, 3) := by decide +kernel
theorem dB_agree_262 : decode cB_agree 262 = .ok (.aload_n 0, 1) := by decide +kernel
theorem dB_agree_263 : decode cB_agree 263 = .ok (.getfield 115, 3) := by decide +kernel
theorem dB_agree_266 : decode cB_agree 266 = .ok (.iload 5, 2) := by decide +kernel
theorem dB_agree_268 : decode cB_agree 268 = .ok (.bipush 100, 2) := by decide +kernel
theorem dB_agree_270 : decode cB_agree 270 = .ok (.irem, 1) := by decide +kernel
theorem dB_agree_271 : decode cB_agree 271 = .ok (.iastore, 1) := by decide +kernel
theorem dB_agree_272 : decode cB_agree 272 = .ok (.aload_n 0, 1) := by decide +kernel
theorem dB_agree_273 : decode cB_agree 273 = .ok (.getfield 38, 3) := by decide +kernel
theorem dB_agree_276 : decode cB_agree 276 = .ok (.aload_n 0, 1) := by decide +kernel
theorem dB_agree_277 : decode cB_agree 277 = .ok (.getfield 115, 3) := by decide +kernel
theorem dB_agree_280 : decode cB_agree 280 = .ok (.iload 6, 2) := by decide +kernel
theorem dB_agree_282 : decode cB_agree 282 = .ok (.iastore, 1) := by decide +kernel
theorem dB_agree_283 : decode cB_agree 283 = .ok (.aload_n 0, 1) := by decide +kernel
theorem dB_agree_284 : decode cB_agree 284 = .ok (.dup, 1) := by decide +kernel
theorem dB_agree_285 : decode cB_agree 285 = .ok (.getfield 115, 3) := by decide +kernel
theorem dB_agree_288 : decode cB_agree 288 = .ok (.iconst 1, 1) := by decide +kernel
theorem dB_agree_289 : decode cB_agree 289 = .ok (.iadd, 1) := by decide +kernel
theorem dB_agree_290 : decode cB_agree 290 = .ok (.putfield 115, 3) := by decide +kernel
theorem dB_agree_293 : decode cB_agree 293 = .ok (.aload_n 0, 1) := by decide +kernel
theorem dB_agree_294 : decode cB_agree 294 = .ok (.getfield 115, 3) := by decide +kernel
theorem dB_agree_297 : decode cB_agree 297 = .ok (.iconst 1, 1) := by decide +kernel
theorem dB_agree_298 : decode cB_agree 298 = .ok (.isub, 1) := by decide +kernel
theorem dB_agree_299 : decode cB_agree 299 = .ok (.ireturn, 1) := by decide +kernel
theorem dB_holds_0 : decode cB_holds 0 = .ok (.aload_n 0, 1) := by decide +kernel
theorem dB_holds_1 : decode cB_holds 1 = .ok (.getfield 118, 3) := by decide +kernel
theorem dB_holds_4 : decode cB_holds 4 = .ok (.bipush 60, 2) := by decide +kernel
theorem dB_holds_6 : decode cB_holds 6 = .ok (.idiv, 1) := by decide +kernel
theorem dB_holds_7 : decode cB_holds 7 = .ok (.bipush 24, 2) := by decide +kernel
theorem dB_holds_9 : decode cB_holds 9 = .ok (.irem, 1) := by decide +kernel
theorem dB_holds_10 : decode cB_holds 10 = .ok (.istore_n 2, 1) := by decide +kernel
theorem dB_holds_11 : decode cB_holds 11 = .ok (.aload_n 0, 1) := by decide +kernel
theorem dB_holds_12 : decode cB_holds 12 = .ok (.getfield 32, 3) := by decide +kernel
theorem dB_holds_15 : decode cB_holds 15 = .ok (.iload_n 1, 1) := by decide +kernel
theorem dB_holds_16 : decode cB_holds 16 = .ok (.iaload, 1) := by decide +kernel
theorem dB_holds_17 : decode cB_holds 17 = .ok (.aload_n 0, 1) := by decide +kernel
theorem dB_holds_18 : decode cB_holds 18 = .ok (.getfield 35, 3) := by decide +kernel
theorem dB_holds_21 : decode cB_holds 21 = .ok (.iload_n 1, 1) := by decide +kernel
theorem dB_holds_22 : decode cB_holds 22 = .ok (.iaload, 1) := by decide +kernel
theorem dB_holds_23 : decode cB_holds 23 = .ok (.if_icmp .gt 22, 3) := by decide +kernel
theorem dB_holds_26 : decode cB_holds 26 = .ok (.iload_n 2, 1) := by decide +kernel
theorem dB_holds_27 : decode cB_holds 27 = .ok (.aload_n 0, 1) := by decide +kernel
theorem dB_holds_28 : decode cB_holds 28 = .ok (.getfield 32, 3) := by decide +kernel
theorem dB_holds_31 : decode cB_holds 31 = .ok (.iload_n 1, 1) := by decide +kernel
theorem dB_holds_32 : decode cB_holds 32 = .ok (.iaload, 1) := by decide +kernel
theorem dB_holds_33 : decode cB_holds 33 = .ok (.aload_n 0, 1) := by decide +kernel
theorem dB_holds_34 : decode cB_holds 34 = .ok (.getfield 35, 3) := by decide +kernel
theorem dB_holds_37 : decode cB_holds 37 = .ok (.iload_n 1, 1) := by decide +kernel
theorem dB_holds_38 : decode cB_holds 38 = .ok (.iaload, 1) := by decide +kernel
theorem dB_holds_39 : decode cB_holds 39 = .ok (.invokestatic 102, 3) := by decide +kernel
theorem dB_holds_42 : decode cB_holds 42 = .ok (.goto 28, 3) := by decide +kernel
theorem dB_holds_45 : decode cB_holds 45 = .ok (.iload_n 2, 1) := by decide +kernel
theorem dB_holds_46 : decode cB_holds 46 = .ok (.aload_n 0, 1) := by decide +kernel
theorem dB_holds_47 : decode cB_holds 47 = .ok (.getfield 32, 3) := by decide +kernel
theorem dB_holds_50 : decode cB_holds 50 = .ok (.iload_n 1, 1) := by decide +kernel
theorem dB_holds_51 : decode cB_holds 51 = .ok (.iaload, 1) := by decide +kernel
theorem dB_holds_52 : decode cB_holds 52 = .ok (.if_icmp .ge 13, 3) := by decide +kernel
theorem dB_holds_55 : decode cB_holds 55 = .ok (.iload_n 2, 1) := by decide +kernel
theorem dB_holds_56 : decode cB_holds 56 = .ok (.aload_n 0, 1) := by decide +kernel
theorem dB_holds_57 : decode cB_holds 57 = .ok (.getfield 35, 3) := by decide +kernel
theorem dB_holds_60 : decode cB_holds 60 = .ok (.iload_n 1, 1) := by decide +kernel
theorem dB_holds_61 : decode cB_holds 61 = .ok (.iaload, 1) := by decide +kernel
theorem dB_holds_62 : decode cB_holds 62 = .ok (.if_icmp .gt 7, 3) := by decide +kernel
theorem dB_holds_65 : decode cB_holds 65 = .ok (.iconst 1, 1) := by decide +kernel
theorem dB_holds_66 : decode cB_holds 66 = .ok (.goto 4, 3) := by decide +kernel
theorem dB_holds_69 : decode cB_holds 69 = .ok (.iconst 0, 1) := by decide +kernel
theorem dB_holds_70 : decode cB_holds 70 = .ok (.istore_n 3, 1) := by decide +kernel
theorem dB_holds_71 : decode cB_holds 71 = .ok (.aload_n 0, 1) := by decide +kernel
theorem dB_holds_72 : decode cB_holds 72 = .ok (.getfield 118, 3) := by decide +kernel
theorem dB_holds_75 : decode cB_holds 75 = .ok (.aload_n 0, 1) := by decide +kernel
theorem dB_holds_76 : decode cB_holds 76 = .ok (.getfield 26, 3) := by decide +kernel
theorem dB_holds_79 : decode cB_holds 79 = .ok (.iload_n 1, 1) := by decide +kernel
theorem dB_holds_80 : decode cB_holds 80 = .ok (.iaload, 1) := by decide +kernel
theorem dB_holds_81 : decode cB_holds 81 = .ok (.if_icmp .lt 24, 3) := by decide +kernel
theorem dB_holds_84 : decode cB_holds 84 = .ok (.aload_n 0, 1) := by decide +kernel
theorem dB_holds_85 : decode cB_holds 85 = .ok (.getfield 118, 3) := by decide +kernel
theorem dB_holds_88 : decode cB_holds 88 = .ok (.aload_n 0, 1) := by decide +kernel
theorem dB_holds_89 : decode cB_holds 89 = .ok (.getfield 29, 3) := by decide +kernel
theorem dB_holds_92 : decode cB_holds 92 = .ok (.iload_n 1, 1) := by decide +kernel
theorem dB_holds_93 : decode cB_holds 93 = .ok (.iaload, 1) := by decide +kernel
theorem dB_holds_94 : decode cB_holds 94 = .ok (.if_icmp .ge 11, 3) := by decide +kernel
theorem dB_holds_97 : decode cB_holds 97 = .ok (.iload_n 3, 1) := by decide +kernel
theorem dB_holds_98 : decode cB_holds 98 = .ok (.ifCond .eq 7, 3) := by decide +kernel
theorem dB_holds_101 : decode cB_holds 101 = .ok (.iconst 1, 1) := by decide +kernel
theorem dB_holds_102 : decode cB_holds 102 = .ok (.goto 4, 3) := by decide +kernel
theorem dB_holds_105 : decode cB_holds 105 = .ok (.iconst 0, 1) := by decide +kernel
theorem dB_holds_106 : decode cB_holds 106 = .ok (.ireturn, 1) := by decide +kernel
theorem dB_holding_0 : decode cB_holding 0 = .ok (.iconst 0, 1) := by decide +kernel
theorem dB_holding_1 : decode cB_holding 1 = .ok (.istore_n 3, 1) := by decide +kernel
theorem dB_holding_2 : decode cB_holding 2 = .ok (.iload_n 3, 1) := by decide +kernel
theorem dB_holding_3 : decode cB_holding 3 = .ok (.aload_n 0, 1) := by decide +kernel
theorem dB_holding_4 : decode cB_holding 4 = .ok (.getfield 115, 3) := by decide +kernel
theorem dB_holding_7 : decode cB_holding 7 = .ok (.if_icmp .ge 39, 3) := by decide +kernel
theorem dB_holding_10 : decode cB_holding 10 = .ok (.aload_n 0, 1) := by decide +kernel
theorem dB_holding_11 : decode cB_holding 11 = .ok (.getfield 20, 3) := by decide +kernel
theorem dB_holding_14 : decode cB_holding 14 = .ok (.iload_n 3, 1) := by decide +kernel
theorem dB_holding_15 : decode cB_holding 15 = .ok (.iaload, 1) := by decide +kernel
theorem dB_holding_16 : decode cB_holding 16 = .ok (.iload_n 1, 1) := by decide +kernel
theorem dB_holding_17 : decode cB_holding 17 = .ok (.if_icmp .ne 23, 3) := by decide +kernel
theorem dB_holding_20 : decode cB_holding 20 = .ok (.aload_n 0, 1) := by decide +kernel
theorem dB_holding_21 : decode cB_holding 21 = .ok (.getfield 23, 3) := by decide +kernel
theorem dB_holding_24 : decode cB_holding 24 = .ok (.iload_n 3, 1) := by decide +kernel
theorem dB_holding_25 : decode cB_holding 25 = .ok (.iaload, 1) := by decide +kernel
theorem dB_holding_26 : decode cB_holding 26 = .ok (.iload_n 2, 1) := by decide +kernel
theorem dB_holding_27 : decode cB_holding 27 = .ok (.if_icmp .ne 13, 3) := by decide +kernel
theorem dB_holding_30 : decode cB_holding 30 = .ok (.aload_n 0, 1) := by decide +kernel
theorem dB_holding_31 : decode cB_holding 31 = .ok (.iload_n 3, 1) := by decide +kernel
theorem dB_holding_32 : decode cB_holding 32 = .ok (.invokevirtual 121, 3) := by decide +kernel
theorem dB_holding_35 : decode cB_holding 35 = .ok (.ifCond .eq 5, 3) := by decide +kernel
theorem dB_holding_38 : decode cB_holding 38 = .ok (.iload_n 3, 1) := by decide +kernel
theorem dB_holding_39 : decode cB_holding 39 = .ok (.ireturn, 1) := by decide +kernel
theorem dB_holding_40 : decode cB_holding 40 = .ok (.iinc 3 1, 3) := by decide +kernel
theorem dB_holding_43 : decode cB_holding 43 = .ok (.goto (-41), 3) := by decide +kernel
theorem dB_holding_46 : decode cB_holding 46 = .ok (.iconst (-1), 1) := by decide +kernel
theorem dB_holding_47 : decode cB_holding 47 = .ok (.ireturn, 1) := by decide +kernel
theorem dB_on_0 : decode cB_on 0 = .ok (.iconst (-1), 1) := by decide +kernel
theorem dB_on_1 : decode cB_on 1 = .ok (.istore_n 2, 1) := by decide +kernel
theorem dB_on_2 : decode cB_on 2 = .ok (.iconst 0, 1) := by decide +kernel
theorem dB_on_3 : decode cB_on 3 = .ok (.istore_n 3, 1) := by decide +kernel
theorem dB_on_4 : decode cB_on 4 = .ok (.iload_n 3, 1) := by decide +kernel
theorem dB_on_5 : decode cB_on 5 = .ok (.aload_n 0, 1) := by decide +kernel
theorem dB_on_6 : decode cB_on 6 = .ok (.getfield 99, 3) := by decide +kernel
theorem dB_on_9 : decode cB_on 9 = .ok (.if_icmp .ge 61, 3) := by decide +kernel
theorem dB_on_12 : decode cB_on 12 = .ok (.aload_n 0, 1) := by decide +kernel
theorem dB_on_13 : decode cB_on 13 = .ok (.getfield 68, 3) := by decide +kernel
theorem dB_on_16 : decode cB_on 16 = .ok (.iload_n 1, 1) := by decide +kernel
theorem dB_on_17 : decode cB_on 17 = .ok (.bipush 8, 2) := by decide +kernel
theorem dB_on_19 : decode cB_on 19 = .ok (.imul, 1) := by decide +kernel
theorem dB_on_20 : decode cB_on 20 = .ok (.iload_n 3, 1) := by decide +kernel
theorem dB_on_21 : decode cB_on 21 = .ok (.iadd, 1) := by decide +kernel
theorem dB_on_22 : decode cB_on 22 = .ok (.baload, 1) := by decide +kernel
theorem dB_on_23 : decode cB_on 23 = .ok (.ifCond .ne 41, 3) := by decide +kernel
theorem dB_on_26 : decode cB_on 26 = .ok (.aload_n 0, 1) := by decide +kernel
theorem dB_on_27 : decode cB_on 27 = .ok (.iload_n 3, 1) := by decide +kernel
theorem dB_on_28 : decode cB_on 28 = .ok (.aload_n 0, 1) := by decide +kernel
theorem dB_on_29 : decode cB_on 29 = .ok (.getfield 41, 3) := by decide +kernel
theorem dB_on_32 : decode cB_on 32 = .ok (.iload_n 1, 1) := by decide +kernel
theorem dB_on_33 : decode cB_on 33 = .ok (.iaload, 1) := by decide +kernel
theorem dB_on_34 : decode cB_on 34 = .ok (.invokevirtual 124, 3) := by decide +kernel
theorem dB_on_37 : decode cB_on 37 = .ok (.ifCond .ge 6, 3) := by decide +kernel
theorem dB_on_40 : decode cB_on 40 = .ok (.goto 24, 3) := by decide +kernel
theorem dB_on_43 : decode cB_on 43 = .ok (.iload_n 2, 1) := by decide +kernel
theorem dB_on_44 : decode cB_on 44 = .ok (.ifCond .lt 18, 3) := by decide +kernel
theorem dB_on_47 : decode cB_on 47 = .ok (.aload_n 0, 1) := by decide +kernel
theorem dB_on_48 : decode cB_on 48 = .ok (.getfield 7, 3) := by decide +kernel
theorem dB_on_51 : decode cB_on 51 = .ok (.iload_n 3, 1) := by decide +kernel
theorem dB_on_52 : decode cB_on 52 = .ok (.iaload, 1) := by decide +kernel
theorem dB_on_53 : decode cB_on 53 = .ok (.aload_n 0, 1) := by decide +kernel
theorem dB_on_54 : decode cB_on 54 = .ok (.getfield 7, 3) := by decide +kernel
theorem dB_on_57 : decode cB_on 57 = .ok (.iload_n 2, 1) := by decide +kernel
theorem dB_on_58 : decode cB_on 58 = .ok (.iaload, 1) := by decide +kernel
theorem dB_on_59 : decode cB_on 59 = .ok (.if_icmp .le 5, 3) := by decide +kernel
theorem dB_on_62 : decode cB_on 62 = .ok (.iload_n 3, 1) := by decide +kernel
theorem dB_on_63 : decode cB_on 63 = .ok (.istore_n 2, 1) := by decide +kernel
theorem dB_on_64 : decode cB_on 64 = .ok (.iinc 3 1, 3) := by decide +kernel
theorem dB_on_67 : decode cB_on 67 = .ok (.goto (-63), 3) := by decide +kernel
theorem dB_on_70 : decode cB_on 70 = .ok (.aload_n 0, 1) := by decide +kernel
theorem dB_on_71 : decode cB_on 71 = .ok (.getfield 53, 3) := by decide +kernel
theorem dB_on_74 : decode cB_on 74 = .ok (.iload_n 1, 1) := by decide +kernel
theorem dB_on_75 : decode cB_on 75 = .ok (.iload_n 2, 1) := by decide +kernel
theorem dB_on_76 : decode cB_on 76 = .ok (.iastore, 1) := by decide +kernel
theorem dB_on_77 : decode cB_on 77 = .ok (.aload_n 0, 1) := by decide +kernel
theorem dB_on_78 : decode cB_on 78 = .ok (.getfield 56, 3) := by decide +kernel
theorem dB_on_81 : decode cB_on 81 = .ok (.iload_n 1, 1) := by decide +kernel
theorem dB_on_82 : decode cB_on 82 = .ok (.iload_n 2, 1) := by decide +kernel
theorem dB_on_83 : decode cB_on 83 = .ok (.ifCond .ge 7, 3) := by decide +kernel
theorem dB_on_86 : decode cB_on 86 = .ok (.iconst 0, 1) := by decide +kernel
theorem dB_on_87 : decode cB_on 87 = .ok (.goto 7, 3) := by decide +kernel
theorem dB_on_90 : decode cB_on 90 = .ok (.aload_n 0, 1) := by decide +kernel
theorem dB_on_91 : decode cB_on 91 = .ok (.getfield 118, 3) := by decide +kernel
theorem dB_on_94 : decode cB_on 94 = .ok (.iastore, 1) := by decide +kernel
theorem dB_on_95 : decode cB_on 95 = .ok (.aload_n 0, 1) := by decide +kernel
theorem dB_on_96 : decode cB_on 96 = .ok (.getfield 65, 3) := by decide +kernel
theorem dB_on_99 : decode cB_on 99 = .ok (.iload_n 1, 1) := by decide +kernel
theorem dB_on_100 : decode cB_on 100 = .ok (.iload_n 2, 1) := by decide +kernel
theorem dB_on_101 : decode cB_on 101 = .ok (.ifCond .lt 16, 3) := by decide +kernel
theorem dB_on_104 : decode cB_on 104 = .ok (.aload_n 0, 1) := by decide +kernel
theorem dB_on_105 : decode cB_on 105 = .ok (.getfield 16, 3) := by decide +kernel
theorem dB_on_108 : decode cB_on 108 = .ok (.iload_n 2, 1) := by decide +kernel
theorem dB_on_109 : decode cB_on 109 = .ok (.baload, 1) := by decide +kernel
theorem dB_on_110 : decode cB_on 110 = .ok (.ifCond .eq 7, 3) := by decide +kernel
theorem dB_on_113 : decode cB_on 113 = .ok (.iconst 1, 1) := by decide +kernel
theorem dB_on_114 : decode cB_on 114 = .ok (.goto 4, 3) := by decide +kernel
theorem dB_on_117 : decode cB_on 117 = .ok (.iconst 0, 1) := by decide +kernel
theorem dB_on_118 : decode cB_on 118 = .ok (.bastore, 1) := by decide +kernel
theorem dB_on_119 : decode cB_on 119 = .ok (.iload_n 2, 1) := by decide +kernel
theorem dB_on_120 : decode cB_on 120 = .ok (.ifCond .ge 11, 3) := by decide +kernel
theorem dB_on_123 : decode cB_on 123 = .ok (.aload_n 0, 1) := by decide +kernel
theorem dB_on_124 : decode cB_on 124 = .ok (.getfield 50, 3) := by decide +kernel
theorem dB_on_127 : decode cB_on 127 = .ok (.iload_n 1, 1) := by decide +kernel
theorem dB_on_128 : decode cB_on 128 = .ok (.iconst 2, 1) := by decide +kernel
theorem dB_on_129 : decode cB_on 129 = .ok (.iastore, 1) := by decide +kernel
theorem dB_on_130 : decode cB_on 130 = .ok (.return_, 1) := by decide +kernel
theorem dB_on_131 : decode cB_on 131 = .ok (.aload_n 0, 1) := by decide +kernel
theorem dB_on_132 : decode cB_on 132 = .ok (.getfield 68, 3) := by decide +kernel
theorem dB_on_135 : decode cB_on 135 = .ok (.iload_n 1, 1) := by decide +kernel
theorem dB_on_136 : decode cB_on 136 = .ok (.bipush 8, 2) := by decide +kernel
theorem dB_on_138 : decode cB_on 138 = .ok (.imul, 1) := by decide +kernel
theorem dB_on_139 : decode cB_on 139 = .ok (.iload_n 2, 1) := by decide +kernel
theorem dB_on_140 : decode cB_on 140 = .ok (.iadd, 1) := by decide +kernel
theorem dB_on_141 : decode cB_on 141 = .ok (.iconst 1, 1) := by decide +kernel
theorem dB_on_142 : decode cB_on 142 = .ok (.bastore, 1) := by decide +kernel
theorem dB_on_143 : decode cB_on 143 = .ok (.aload_n 0, 1) := by decide +kernel
theorem dB_on_144 : decode cB_on 144 = .ok (.getfield 62, 3) := by decide +kernel
theorem dB_on_147 : decode cB_on 147 = .ok (.iload_n 1, 1) := by decide +kernel
theorem dB_on_148 : decode cB_on 148 = .ok (.dup2, 1) := by decide +kernel
theorem dB_on_149 : decode cB_on 149 = .ok (.iaload, 1) := by decide +kernel
theorem dB_on_150 : decode cB_on 150 = .ok (.iconst 1, 1) := by decide +kernel
theorem dB_on_151 : decode cB_on 151 = .ok (.iadd, 1) := by decide +kernel
theorem dB_on_152 : decode cB_on 152 = .ok (.iastore, 1) := by decide +kernel
theorem dB_on_153 : decode cB_on 153 = .ok (.return_, 1) := by decide +kernel
theorem dB_ask_0 : decode cB_ask 0 = .ok (.aload_n 0, 1) := by decide +kernel
theorem dB_ask_1 : decode cB_ask 1 = .ok (.bipush 11, 2) := by decide +kernel
theorem dB_ask_3 : decode cB_ask 3 = .ok (.iload_n 1, 1) := by decide +kernel
theorem dB_ask_4 : decode cB_ask 4 = .ok (.iconst 0, 1) := by decide +kernel
theorem dB_ask_5 : decode cB_ask 5 = .ok (.bipush 9, 2) := by decide +kernel
theorem dB_ask_7 : decode cB_ask 7 = .ok (.invokestatic 102, 3) := by decide +kernel
theorem dB_ask_10 : decode cB_ask 10 = .ok (.iload_n 2, 1) := by decide +kernel
theorem dB_ask_11 : decode cB_ask 11 = .ok (.iconst 1, 1) := by decide +kernel
theorem dB_ask_12 : decode cB_ask 12 = .ok (.bipush 20, 2) := by decide +kernel
theorem dB_ask_14 : decode cB_ask 14 = .ok (.invokestatic 102, 3) := by decide +kernel
theorem dB_ask_17 : decode cB_ask 17 = .ok (.ifCond .eq 18, 3) := by decide +kernel
theorem dB_ask_20 : decode cB_ask 20 = .ok (.iload_n 3, 1) := by decide +kernel
theorem dB_ask_21 : decode cB_ask 21 = .ok (.iconst 1, 1) := by decide +kernel
theorem dB_ask_22 : decode cB_ask 22 = .ok (.sipush 500, 3) := by decide +kernel
theorem dB_ask_25 : decode cB_ask 25 = .ok (.invokestatic 102, 3) := by decide +kernel
theorem dB_ask_28 : decode cB_ask 28 = .ok (.ifCond .eq 7, 3) := by decide +kernel
theorem dB_ask_31 : decode cB_ask 31 = .ok (.iconst 1, 1) := by decide +kernel
theorem dB_ask_32 : decode cB_ask 32 = .ok (.goto 4, 3) := by decide +kernel
theorem dB_ask_35 : decode cB_ask 35 = .ok (.iconst 0, 1) := by decide +kernel
theorem dB_ask_36 : decode cB_ask 36 = .ok (.iconst 1, 1) := by decide +kernel
theorem dB_ask_37 : decode cB_ask 37 = .ok (.aload_n 0, 1) := by decide +kernel
theorem dB_ask_38 : decode cB_ask 38 = .ok (.getfield 128, 3) := by decide +kernel
theorem dB_ask_41 : decode cB_ask 41 = .ok (.bipush 30, 2) := by decide +kernel
theorem dB_ask_43 : decode cB_ask 43 = .ok (.if_icmp .ge 7, 3) := by decide +kernel
theorem dB_ask_46 : decode cB_ask 46 = .ok (.iconst 1, 1) := by decide +kernel
theorem dB_ask_47 : decode cB_ask 47 = .ok (.goto 4, 3) := by decide +kernel
theorem dB_ask_50 : decode cB_ask 50 = .ok (.iconst 0, 1) := by decide +kernel
theorem dB_ask_51 : decode cB_ask 51 = .ok (.invokevirtual 106, 3) := by decide +kernel
theorem dB_ask_54 : decode cB_ask 54 = .ok (.ifCond .ne 5, 3) := by decide +kernel
theorem dB_ask_57 : decode cB_ask 57 = .ok (.iconst 0, 1) := by decide +kernel
theorem dB_ask_58 : decode cB_ask 58 = .ok (.ireturn, 1) := by decide +kernel
theorem dB_ask_59 : decode cB_ask 59 = .ok (.aload_n 0, 1) := by decide +kernel
theorem dB_ask_60 : decode cB_ask 60 = .ok (.getfield 41, 3) := by decide +kernel
theorem dB_ask_63 : decode cB_ask 63 = .ok (.aload_n 0, 1) := by decide +kernel
theorem dB_ask_64 : decode cB_ask 64 = .ok (.getfield 128, 3) := by decide +kernel
theorem dB_ask_67 : decode cB_ask 67 = .ok (.iload_n 1, 1) := by decide +kernel
theorem dB_ask_68 : decode cB_ask 68 = .ok (.iastore, 1) := by decide +kernel
theorem dB_ask_69 : decode cB_ask 69 = .ok (.aload_n 0, 1) := by decide +kernel
theorem dB_ask_70 : decode cB_ask 70 = .ok (.getfield 44, 3) := by decide +kernel
theorem dB_ask_73 : decode cB_ask 73 = .ok (.aload_n 0, 1) := by decide +kernel
theorem dB_ask_74 : decode cB_ask 74 = .ok (.getfield 128, 3) := by decide +kernel
theorem dB_ask_77 : decode cB_ask 77 = .ok (.iload_n 2, 1) := by decide +kernel
theorem dB_ask_78 : decode cB_ask 78 = .ok (.iastore, 1) := by decide +kernel
theorem dB_ask_79 : decode cB_ask 79 = .ok (.aload_n 0, 1) := by decide +kernel
theorem dB_ask_80 : decode cB_ask 80 = .ok (.getfield 47, 3) := by decide +kernel
theorem dB_ask_83 : decode cB_ask 83 = .ok (.aload_n 0, 1) := by decide +kernel
theorem dB_ask_84 : decode cB_ask 84 = .ok (.getfield 128, 3) := by decide +kernel
theorem dB_ask_87 : decode cB_ask 87 = .ok (.iload_n 3, 1) := by decide +kernel
theorem dB_ask_88 : decode cB_ask 88 = .ok (.iastore, 1) := by decide +kernel
theorem dB_ask_89 : decode cB_ask 89 = .ok (.aload_n 0, 1) := by decide +kernel
theorem dB_ask_90 : decode cB_ask 90 = .ok (.getfield 50, 3) := by decide +kernel
theorem dB_ask_93 : decode cB_ask 93 = .ok (.aload_n 0, 1) := by decide +kernel
theorem dB_ask_94 : decode cB_ask 94 = .ok (.getfield 128, 3) := by decide +kernel
theorem dB_ask_97 : decode cB_ask 97 = .ok (.iconst 0, 1) := by decide +kernel
theorem dB_ask_98 : decode cB_ask 98 = .ok (.iastore, 1) := by decide +kernel
theorem dB_ask_99 : decode cB_ask 99 = .ok (.aload_n 0, 1) := by decide +kernel
theorem dB_ask_100 : decode cB_ask 100 = .ok (.dup, 1) := by decide +kernel
theorem dB_ask_101 : decode cB_ask 101 = .ok (.getfield 128, 3) := by decide +kernel
theorem dB_ask_104 : decode cB_ask 104 = .ok (.iconst 1, 1) := by decide +kernel
theorem dB_ask_105 : decode cB_ask 105 = .ok (.iadd, 1) := by decide +kernel
theorem dB_ask_106 : decode cB_ask 106 = .ok (.putfield 128, 3) := by decide +kernel
theorem dB_ask_109 : decode cB_ask 109 = .ok (.aload_n 0, 1) := by decide +kernel
theorem dB_ask_110 : decode cB_ask 110 = .ok (.aload_n 0, 1) := by decide +kernel
theorem dB_ask_111 : decode cB_ask 111 = .ok (.getfield 128, 3) := by decide +kernel
theorem dB_ask_114 : decode cB_ask 114 = .ok (.iconst 1, 1) := by decide +kernel
theorem dB_ask_115 : decode cB_ask 115 = .ok (.isub, 1) := by decide +kernel
theorem dB_ask_116 : decode cB_ask 116 = .ok (.invokevirtual 131, 3) := by decide +kernel
theorem dB_ask_119 : decode cB_ask 119 = .ok (.aload_n 0, 1) := by decide +kernel
theorem dB_ask_120 : decode cB_ask 120 = .ok (.getfield 128, 3) := by decide +kernel
theorem dB_ask_123 : decode cB_ask 123 = .ok (.iconst 1, 1) := by decide +kernel
theorem dB_ask_124 : decode cB_ask 124 = .ok (.isub, 1) := by decide +kernel
theorem dB_ask_125 : decode cB_ask 125 = .ok (.ireturn, 1) := by decide +kernel
theorem dB_lent_0 : decode cB_lent 0 = .ok (.iconst 0, 1) := by decide +kernel
theorem dB_lent_1 : decode cB_lent 1 = .ok (.istore_n 2, 1) := by decide +kernel
theorem dB_lent_2 : decode cB_lent 2 = .ok (.iconst 0, 1) := by decide +kernel
theorem dB_lent_3 : decode cB_lent 3 = .ok (.istore_n 3, 1) := by decide +kernel
theorem dB_lent_4 : decode cB_lent 4 = .ok (.iload_n 3, 1) := by decide +kernel
theorem dB_lent_5 : decode cB_lent 5 = .ok (.aload_n 0, 1) := by decide +kernel
theorem dB_lent_6 : decode cB_lent 6 = .ok (.getfield 135, 3) := by decide +kernel
theorem dB_lent_9 : decode cB_lent 9 = .ok (.if_icmp .ge 31, 3) := by decide +kernel
theorem dB_lent_12 : decode cB_lent 12 = .ok (.aload_n 0, 1) := by decide +kernel
theorem dB_lent_13 : decode cB_lent 13 = .ok (.getfield 80, 3) := by decide +kernel
theorem dB_lent_16 : decode cB_lent 16 = .ok (.iload_n 3, 1) := by decide +kernel
theorem dB_lent_17 : decode cB_lent 17 = .ok (.iaload, 1) := by decide +kernel
theorem dB_lent_18 : decode cB_lent 18 = .ok (.iload_n 1, 1) := by decide +kernel
theorem dB_lent_19 : decode cB_lent 19 = .ok (.if_icmp .ne 15, 3) := by decide +kernel
theorem dB_lent_22 : decode cB_lent 22 = .ok (.aload_n 0, 1) := by decide +kernel
theorem dB_lent_23 : decode cB_lent 23 = .ok (.getfield 86, 3) := by decide +kernel
theorem dB_lent_26 : decode cB_lent 26 = .ok (.iload_n 3, 1) := by decide +kernel
theorem dB_lent_27 : decode cB_lent 27 = .ok (.iaload, 1) := by decide +kernel
theorem dB_lent_28 : decode cB_lent 28 = .ok (.ifCond .ge 6, 3) := by decide +kernel
theorem dB_lent_31 : decode cB_lent 31 = .ok (.iinc 2 1, 3) := by decide +kernel
theorem dB_lent_34 : decode cB_lent 34 = .ok (.iinc 3 1, 3) := by decide +kernel
theorem dB_lent_37 : decode cB_lent 37 = .ok (.goto (-33), 3) := by decide +kernel
theorem dB_lent_40 : decode cB_lent 40 = .ok (.iload_n 2, 1) := by decide +kernel
theorem dB_lent_41 : decode cB_lent 41 = .ok (.ireturn, 1) := by decide +kernel
theorem dB_freeName_0 : decode cB_freeName 0 = .ok (.iconst 0, 1) := by decide +kernel
theorem dB_freeName_1 : decode cB_freeName 1 = .ok (.istore_n 2, 1) := by decide +kernel
theorem dB_freeName_2 : decode cB_freeName 2 = .ok (.iconst 1, 1) := by decide +kernel
theorem dB_freeName_3 : decode cB_freeName 3 = .ok (.istore_n 3, 1) := by decide +kernel
theorem dB_freeName_4 : decode cB_freeName 4 = .ok (.iload_n 3, 1) := by decide +kernel
theorem dB_freeName_5 : decode cB_freeName 5 = .ok (.ifCond .eq 61, 3) := by decide +kernel
theorem dB_freeName_8 : decode cB_freeName 8 = .ok (.iconst 0, 1) := by decide +kernel
theorem dB_freeName_9 : decode cB_freeName 9 = .ok (.istore_n 3, 1) := by decide +kernel
theorem dB_freeName_10 : decode cB_freeName 10 = .ok (.iconst 0, 1) := by decide +kernel
theorem dB_freeName_11 : decode cB_freeName 11 = .ok (.istore 4, 2) := by decide +kernel
theorem dB_freeName_13 : decode cB_freeName 13 = .ok (.iload 4, 2) := by decide +kernel
theorem dB_freeName_15 : decode cB_freeName 15 = .ok (.aload_n 0, 1) := by decide +kernel
theorem dB_freeName_16 : decode cB_freeName 16 = .ok (.getfield 135, 3) := by decide +kernel
theorem dB_freeName_19 : decode cB_freeName 19 = .ok (.if_icmp .ge 37, 3) := by decide +kernel
theorem dB_freeName_22 : decode cB_freeName 22 = .ok (.aload_n 0, 1) := by decide +kernel
theorem dB_freeName_23 : decode cB_freeName 23 = .ok (.getfield 86, 3) := by decide +kernel
theorem dB_freeName_26 : decode cB_freeName 26 = .ok (.iload 4, 2) := by decide +kernel
theorem dB_freeName_28 : decode cB_freeName 28 = .ok (.iaload, 1) := by decide +kernel
theorem dB_freeName_29 : decode cB_freeName 29 = .ok (.ifCond .ge 21, 3) := by decide +kernel
theorem dB_freeName_32 : decode cB_freeName 32 = .ok (.aload_n 0, 1) := by decide +kernel
theorem dB_freeName_33 : decode cB_freeName 33 = .ok (.getfield 74, 3) := by decide +kernel
theorem dB_freeName_36 : decode cB_freeName 36 = .ok (.iload 4, 2) := by decide +kernel
theorem dB_freeName_38 : decode cB_freeName 38 = .ok (.iaload, 1) := by decide +kernel
theorem dB_freeName_39 : decode cB_freeName 39 = .ok (.bipush 100, 2) := by decide +kernel
theorem dB_freeName_41 : decode cB_freeName 41 = .ok (.iload_n 1, 1) := by decide +kernel
theorem dB_freeName_42 : decode cB_freeName 42 = .ok (.imul, 1) := by decide +kernel
theorem dB_freeName_43 : decode cB_freeName 43 = .ok (.iload_n 2, 1) := by decide +kernel
theorem dB_freeName_44 : decode cB_freeName 44 = .ok (.iadd, 1) := by decide +kernel
theorem dB_freeName_45 : decode cB_freeName 45 = .ok (.if_icmp .ne 5, 3) := by decide +kernel
theorem dB_freeName_48 : decode cB_freeName 48 = .ok (.iconst 1, 1) := by decide +kernel
theorem dB_freeName_49 : decode cB_freeName 49 = .ok (.istore_n 3, 1) := by decide +kernel
theorem dB_freeName_50 : decode cB_freeName 50 = .ok (.iinc 4 1, 3) := by decide +kernel
theorem dB_freeName_53 : decode cB_freeName 53 = .ok (.goto (-40), 3) := by decide +kernel
theorem dB_freeName_56 : decode cB_freeName 56 = .ok (.iload_n 3, 1) := by decide +kernel
theorem dB_freeName_57 : decode cB_freeName 57 = .ok (.ifCond .eq (-53), 3) := by decide +kernel
theorem dB_freeName_60 : decode cB_freeName 60 = .ok (.iinc 2 1, 3) := by decide +kernel
theorem dB_freeName_63 : decode cB_freeName 63 = .ok (.goto (-59), 3) := by decide +kernel
theorem dB_freeName_66 : decode cB_freeName 66 = .ok (.bipush 100, 2) := by decide +kernel
theorem dB_freeName_68 : decode cB_freeName 68 = .ok (.iload_n 1, 1) := by decide +kernel
theorem dB_freeName_69 : decode cB_freeName 69 = .ok (.imul, 1) := by decide +kernel
theorem dB_freeName_70 : decode cB_freeName 70 = .ok (.iload_n 2, 1) := by decide +kernel
theorem dB_freeName_71 : decode cB_freeName 71 = .ok (.iadd, 1) := by decide +kernel
theorem dB_freeName_72 : decode cB_freeName 72 = .ok (.ireturn, 1) := by decide +kernel
theorem dB_lend_0 : decode cB_lend 0 = .ok (.aload_n 0, 1) := by decide +kernel
theorem dB_lend_1 : decode cB_lend 1 = .ok (.iload_n 2, 1) := by decide +kernel
theorem dB_lend_2 : decode cB_lend 2 = .ok (.aload_n 0, 1) := by decide +kernel
theorem dB_lend_3 : decode cB_lend 3 = .ok (.getfield 41, 3) := by decide +kernel
theorem dB_lend_6 : decode cB_lend 6 = .ok (.iload_n 1, 1) := by decide +kernel
theorem dB_lend_7 : decode cB_lend 7 = .ok (.iaload, 1) := by decide +kernel
theorem dB_lend_8 : decode cB_lend 8 = .ok (.invokevirtual 124, 3) := by decide +kernel
theorem dB_lend_11 : decode cB_lend 11 = .ok (.istore 5, 2) := by decide +kernel
theorem dB_lend_13 : decode cB_lend 13 = .ok (.iconst 0, 1) := by decide +kernel
theorem dB_lend_14 : decode cB_lend 14 = .ok (.istore 6, 2) := by decide +kernel
theorem dB_lend_16 : decode cB_lend 16 = .ok (.iload 6, 2) := by decide +kernel
theorem dB_lend_18 : decode cB_lend 18 = .ok (.iload_n 3, 1) := by decide +kernel
theorem dB_lend_19 : decode cB_lend 19 = .ok (.if_icmp .ge 90, 3) := by decide +kernel
theorem dB_lend_22 : decode cB_lend 22 = .ok (.aload_n 0, 1) := by decide +kernel
theorem dB_lend_23 : decode cB_lend 23 = .ok (.getfield 71, 3) := by decide +kernel
theorem dB_lend_26 : decode cB_lend 26 = .ok (.aload_n 0, 1) := by decide +kernel
theorem dB_lend_27 : decode cB_lend 27 = .ok (.getfield 135, 3) := by decide +kernel
theorem dB_lend_30 : decode cB_lend 30 = .ok (.iload_n 2, 1) := by decide +kernel
theorem dB_lend_31 : decode cB_lend 31 = .ok (.iastore, 1) := by decide +kernel
theorem dB_lend_32 : decode cB_lend 32 = .ok (.aload_n 0, 1) := by decide +kernel
theorem dB_lend_33 : decode cB_lend 33 = .ok (.getfield 74, 3) := by decide +kernel
theorem dB_lend_36 : decode cB_lend 36 = .ok (.aload_n 0, 1) := by decide +kernel
theorem dB_lend_37 : decode cB_lend 37 = .ok (.getfield 135, 3) := by decide +kernel
theorem dB_lend_40 : decode cB_lend 40 = .ok (.aload_n 0, 1) := by decide +kernel
theorem dB_lend_41 : decode cB_lend 41 = .ok (.iload_n 2, 1) := by decide +kernel
theorem dB_lend_42 : decode cB_lend 42 = .ok (.invokevirtual 138, 3) := by decide +kernel
theorem dB_lend_45 : decode cB_lend 45 = .ok (.iastore, 1) := by decide +kernel
theorem dB_lend_46 : decode cB_lend 46 = .ok (.aload_n 0, 1) := by decide +kernel
theorem dB_lend_47 : decode cB_lend 47 = .ok (.getfield 77, 3) := by decide +kernel
theorem dB_lend_50 : decode cB_lend 50 = .ok (.aload_n 0, 1) := by decide +kernel
theorem dB_lend_51 : decode cB_lend 51 = .ok (.getfield 135, 3) := by decide +kernel
theorem dB_lend_54 : decode cB_lend 54 = .ok (.iload_n 1, 1) := by decide +kernel
theorem dB_lend_55 : decode cB_lend 55 = .ok (.iastore, 1) := by decide +kernel
theorem dB_lend_56 : decode cB_lend 56 = .ok (.aload_n 0, 1) := by decide +kernel
theorem dB_lend_57 : decode cB_lend 57 = .ok (.getfield 80, 3) := by decide +kernel
theorem dB_lend_60 : decode cB_lend 60 = .ok (.aload_n 0, 1) := by decide +kernel
theorem dB_lend_61 : decode cB_lend 61 = .ok (.getfield 135, 3) := by decide +kernel
theorem dB_lend_64 : decode cB_lend 64 = .ok (.iload 5, 2) := by decide +kernel
theorem dB_lend_66 : decode cB_lend 66 = .ok (.iastore, 1) := by decide +kernel
theorem dB_lend_67 : decode cB_lend 67 = .ok (.aload_n 0, 1) := by decide +kernel
theorem dB_lend_68 : decode cB_lend 68 = .ok (.getfield 83, 3) := by decide +kernel
theorem dB_lend_71 : decode cB_lend 71 = .ok (.aload_n 0, 1) := by decide +kernel
theorem dB_lend_72 : decode cB_lend 72 = .ok (.getfield 135, 3) := by decide +kernel
theorem dB_lend_75 : decode cB_lend 75 = .ok (.aload_n 0, 1) := by decide +kernel
theorem dB_lend_76 : decode cB_lend 76 = .ok (.getfield 118, 3) := by decide +kernel
theorem dB_lend_79 : decode cB_lend 79 = .ok (.iload 4, 2) := by decide +kernel
theorem dB_lend_81 : decode cB_lend 81 = .ok (.iadd, 1) := by decide +kernel
theorem dB_lend_82 : decode cB_lend 82 = .ok (.iastore, 1) := by decide +kernel
theorem dB_lend_83 : decode cB_lend 83 = .ok (.aload_n 0, 1) := by decide +kernel
theorem dB_lend_84 : decode cB_lend 84 = .ok (.getfield 86, 3) := by decide +kernel
theorem dB_lend_87 : decode cB_lend 87 = .ok (.aload_n 0, 1) := by decide +kernel
theorem dB_lend_88 : decode cB_lend 88 = .ok (.getfield 135, 3) := by decide +kernel
theorem dB_lend_91 : decode cB_lend 91 = .ok (.iconst (-1), 1) := by decide +kernel
theorem dB_lend_92 : decode cB_lend 92 = .ok (.iastore, 1) := by decide +kernel
theorem dB_lend_93 : decode cB_lend 93 = .ok (.aload_n 0, 1) := by decide +kernel
theorem dB_lend_94 : decode cB_lend 94 = .ok (.dup, 1) := by decide +kernel
theorem dB_lend_95 : decode cB_lend 95 = .ok (.getfield 135, 3) := by decide +kernel
theorem dB_lend_98 : decode cB_lend 98 = .ok (.iconst 1, 1) := by decide +kernel
theorem dB_lend_99 : decode cB_lend 99 = .ok (.iadd, 1) := by decide +kernel
theorem dB_lend_100 : decode cB_lend 100 = .ok (.putfield 135, 3) := by decide +kernel
theorem dB_lend_103 : decode cB_lend 103 = .ok (.iinc 6 1, 3) := by decide +kernel
theorem dB_lend_106 : decode cB_lend 106 = .ok (.goto (-90), 3) := by decide +kernel
theorem dB_lend_109 : decode cB_lend 109 = .ok (.aload_n 0, 1) := by decide +kernel
theorem dB_lend_110 : decode cB_lend 110 = .ok (.getfield 59, 3) := by decide +kernel
theorem dB_lend_113 : decode cB_lend 113 = .ok (.iload_n 1, 1) := by decide +kernel
theorem dB_lend_114 : decode cB_lend 114 = .ok (.aload_n 0, 1) := by decide +kernel
theorem dB_lend_115 : decode cB_lend 115 = .ok (.getfield 59, 3) := by decide +kernel
theorem dB_lend_118 : decode cB_lend 118 = .ok (.iload_n 1, 1) := by decide +kernel
theorem dB_lend_119 : decode cB_lend 119 = .ok (.iaload, 1) := by decide +kernel
theorem dB_lend_120 : decode cB_lend 120 = .ok (.iload_n 3, 1) := by decide +kernel
theorem dB_lend_121 : decode cB_lend 121 = .ok (.iadd, 1) := by decide +kernel
theorem dB_lend_122 : decode cB_lend 122 = .ok (.iastore, 1) := by decide +kernel
theorem dB_lend_123 : decode cB_lend 123 = .ok (.aload_n 0, 1) := by decide +kernel
theorem dB_lend_124 : decode cB_lend 124 = .ok (.getfield 59, 3) := by decide +kernel
theorem dB_lend_127 : decode cB_lend 127 = .ok (.iload_n 1, 1) := by decide +kernel
theorem dB_lend_128 : decode cB_lend 128 = .ok (.iaload, 1) := by decide +kernel
theorem dB_lend_129 : decode cB_lend 129 = .ok (.aload_n 0, 1) := by decide +kernel
theorem dB_lend_130 : decode cB_lend 130 = .ok (.getfield 44, 3) := by decide +kernel
theorem dB_lend_133 : decode cB_lend 133 = .ok (.iload_n 1, 1) := by decide +kernel
theorem dB_lend_134 : decode cB_lend 134 = .ok (.iaload, 1) := by decide +kernel
theorem dB_lend_135 : decode cB_lend 135 = .ok (.if_icmp .ge 9, 3) := by decide +kernel
theorem dB_lend_138 : decode cB_lend 138 = .ok (.aload_n 0, 1) := by decide +kernel
theorem dB_lend_139 : decode cB_lend 139 = .ok (.iload_n 1, 1) := by decide +kernel
theorem dB_lend_140 : decode cB_lend 140 = .ok (.invokevirtual 131, 3) := by decide +kernel
theorem dB_lend_143 : decode cB_lend 143 = .ok (.return_, 1) := by decide +kernel
theorem dB_lend_144 : decode cB_lend 144 = .ok (.aload_n 0, 1) := by decide +kernel
theorem dB_lend_145 : decode cB_lend 145 = .ok (.getfield 50, 3) := by decide +kernel
theorem dB_lend_148 : decode cB_lend 148 = .ok (.iload_n 1, 1) := by decide +kernel
theorem dB_lend_149 : decode cB_lend 149 = .ok (.iconst 1, 1) := by decide +kernel
theorem dB_lend_150 : decode cB_lend 150 = .ok (.iastore, 1) := by decide +kernel
theorem dB_lend_151 : decode cB_lend 151 = .ok (.aload_n 0, 1) := by decide +kernel
theorem dB_lend_152 : decode cB_lend 152 = .ok (.getfield 53, 3) := by decide +kernel
theorem dB_lend_155 : decode cB_lend 155 = .ok (.iload_n 1, 1) := by decide +kernel
theorem dB_lend_156 : decode cB_lend 156 = .ok (.iconst (-1), 1) := by decide +kernel
theorem dB_lend_157 : decode cB_lend 157 = .ok (.iastore, 1) := by decide +kernel
theorem dB_lend_158 : decode cB_lend 158 = .ok (.aload_n 0, 1) := by decide +kernel
theorem dB_lend_159 : decode cB_lend 159 = .ok (.getfield 56, 3) := by decide +kernel
theorem dB_lend_162 : decode cB_lend 162 = .ok (.iload_n 1, 1) := by decide +kernel
theorem dB_lend_163 : decode cB_lend 163 = .ok (.iconst 0, 1) := by decide +kernel
theorem dB_lend_164 : decode cB_lend 164 = .ok (.iastore, 1) := by decide +kernel
theorem dB_lend_165 : decode cB_lend 165 = .ok (.aload_n 0, 1) := by decide +kernel
theorem dB_lend_166 : decode cB_lend 166 = .ok (.getfield 65, 3) := by decide +kernel
theorem dB_lend_169 : decode cB_lend 169 = .ok (.iload_n 1, 1) := by decide +kernel
theorem dB_lend_170 : decode cB_lend 170 = .ok (.iconst 0, 1) := by decide +kernel
theorem dB_lend_171 : decode cB_lend 171 = .ok (.bastore, 1) := by decide +kernel
theorem dB_lend_172 : decode cB_lend 172 = .ok (.return_, 1) := by decide +kernel
theorem dB_what_0 : decode cB_what 0 = .ok (.aload_n 0, 1) := by decide +kernel
theorem dB_what_1 : decode cB_what 1 = .ok (.getfield 50, 3) := by decide +kernel
theorem dB_what_4 : decode cB_what 4 = .ok (.iload_n 1, 1) := by decide +kernel
theorem dB_what_5 : decode cB_what 5 = .ok (.iaload, 1) := by decide +kernel
theorem dB_what_6 : decode cB_what 6 = .ok (.ifCond .ne 13, 3) := by decide +kernel
theorem dB_what_9 : decode cB_what 9 = .ok (.aload_n 0, 1) := by decide +kernel
theorem dB_what_10 : decode cB_what 10 = .ok (.getfield 53, 3) := by decide +kernel
theorem dB_what_13 : decode cB_what 13 = .ok (.iload_n 1, 1) := by decide +kernel
theorem dB_what_14 : decode cB_what 14 = .ok (.iaload, 1) := by decide +kernel
theorem dB_what_15 : decode cB_what 15 = .ok (.iload_n 2, 1) := by decide +kernel
theorem dB_what_16 : decode cB_what 16 = .ok (.if_icmp .eq 5, 3) := by decide +kernel
theorem dB_what_19 : decode cB_what 19 = .ok (.iconst 3, 1) := by decide +kernel
theorem dB_what_20 : decode cB_what 20 = .ok (.ireturn, 1) := by decide +kernel
theorem dB_what_21 : decode cB_what 21 = .ok (.aload_n 0, 1) := by decide +kernel
theorem dB_what_22 : decode cB_what 22 = .ok (.iload_n 2, 1) := by decide +kernel
theorem dB_what_23 : decode cB_what 23 = .ok (.aload_n 0, 1) := by decide +kernel
theorem dB_what_24 : decode cB_what 24 = .ok (.getfield 41, 3) := by decide +kernel
theorem dB_what_27 : decode cB_what 27 = .ok (.iload_n 1, 1) := by decide +kernel
theorem dB_what_28 : decode cB_what 28 = .ok (.iaload, 1) := by decide +kernel
theorem dB_what_29 : decode cB_what 29 = .ok (.invokevirtual 124, 3) := by decide +kernel
theorem dB_what_32 : decode cB_what 32 = .ok (.istore 4, 2) := by decide +kernel
theorem dB_what_34 : decode cB_what 34 = .ok (.iload_n 3, 1) := by decide +kernel
theorem dB_what_35 : decode cB_what 35 = .ok (.ifCond .le 45, 3) := by decide +kernel
theorem dB_what_38 : decode cB_what 38 = .ok (.iload_n 3, 1) := by decide +kernel
theorem dB_what_39 : decode cB_what 39 = .ok (.aload_n 0, 1) := by decide +kernel
theorem dB_what_40 : decode cB_what 40 = .ok (.getfield 44, 3) := by decide +kernel
theorem dB_what_43 : decode cB_what 43 = .ok (.iload_n 1, 1) := by decide +kernel
theorem dB_what_44 : decode cB_what 44 = .ok (.iaload, 1) := by decide +kernel
theorem dB_what_45 : decode cB_what 45 = .ok (.aload_n 0, 1) := by decide +kernel
theorem dB_what_46 : decode cB_what 46 = .ok (.getfield 59, 3) := by decide +kernel
theorem dB_what_49 : decode cB_what 49 = .ok (.iload_n 1, 1) := by decide +kernel
theorem dB_what_50 : decode cB_what 50 = .ok (.iaload, 1) := by decide +kernel
theorem dB_what_51 : decode cB_what 51 = .ok (.isub, 1) := by decide +kernel
theorem dB_what_52 : decode cB_what 52 = .ok (.if_icmp .gt 26, 3) := by decide +kernel
theorem dB_what_55 : decode cB_what 55 = .ok (.iload 4, 2) := by decide +kernel
theorem dB_what_57 : decode cB_what 57 = .ok (.ifCond .lt 21, 3) := by decide +kernel
theorem dB_what_60 : decode cB_what 60 = .ok (.iload_n 3, 1) := by decide +kernel
theorem dB_what_61 : decode cB_what 61 = .ok (.aload_n 0, 1) := by decide +kernel
theorem dB_what_62 : decode cB_what 62 = .ok (.getfield 38, 3) := by decide +kernel
theorem dB_what_65 : decode cB_what 65 = .ok (.iload 4, 2) := by decide +kernel
theorem dB_what_67 : decode cB_what 67 = .ok (.iaload, 1) := by decide +kernel
theorem dB_what_68 : decode cB_what 68 = .ok (.aload_n 0, 1) := by decide +kernel
theorem dB_what_69 : decode cB_what 69 = .ok (.iload 4, 2) := by decide +kernel
theorem dB_what_71 : decode cB_what 71 = .ok (.invokevirtual 142, 3) := by decide +kernel
theorem dB_what_74 : decode cB_what 74 = .ok (.isub, 1) := by decide +kernel
theorem dB_what_75 : decode cB_what 75 = .ok (.if_icmp .le 5, 3) := by decide +kernel
theorem dB_what_78 : decode cB_what 78 = .ok (.iconst 4, 1) := by decide +kernel
theorem dB_what_79 : decode cB_what 79 = .ok (.ireturn, 1) := by decide +kernel
theorem dB_what_80 : decode cB_what 80 = .ok (.iconst 1, 1) := by decide +kernel
theorem dB_what_81 : decode cB_what 81 = .ok (.ireturn, 1) := by decide +kernel
theorem dB_message_0 : decode cB_message 0 = .ok (.iload_n 1, 1) := by decide +kernel
theorem dB_message_1 : decode cB_message 1 = .ok (.iconst 0, 1) := by decide +kernel
theorem dB_message_2 : decode cB_message 2 = .ok (.aload_n 0, 1) := by decide +kernel
theorem dB_message_3 : decode cB_message 3 = .ok (.getfield 128, 3) := by decide +kernel
theorem dB_message_6 : decode cB_message 6 = .ok (.iconst 1, 1) := by decide +kernel
theorem dB_message_7 : decode cB_message 7 = .ok (.isub, 1) := by decide +kernel
theorem dB_message_8 : decode cB_message 8 = .ok (.invokestatic 102, 3) := by decide +kernel
theorem dB_message_11 : decode cB_message 11 = .ok (.ifCond .eq 15, 3) := by decide +kernel
theorem dB_message_14 : decode cB_message 14 = .ok (.aload_n 0, 1) := by decide +kernel
theorem dB_message_15 : decode cB_message 15 = .ok (.iload_n 2, 1) := by decide +kernel
theorem dB_message_16 : decode cB_message 16 = .ok (.invokevirtual 110, 3) := by decide +kernel
theorem dB_message_19 : decode cB_message 19 = .ok (.ifCond .eq 7, 3) := by decide +kernel
theorem dB_message_22 : decode cB_message 22 = .ok (.iconst 1, 1) := by decide +kernel
theorem dB_message_23 : decode cB_message 23 = .ok (.goto 4, 3) := by decide +kernel
theorem dB_message_26 : decode cB_message 26 = .ok (.iconst 0, 1) := by decide +kernel
theorem dB_message_27 : decode cB_message 27 = .ok (.istore 6, 2) := by decide +kernel
theorem dB_message_29 : decode cB_message 29 = .ok (.iload_n 3, 1) := by decide +kernel
theorem dB_message_30 : decode cB_message 30 = .ok (.iconst 0, 1) := by decide +kernel
end
section
theorem dB_message_31 : decode cB_message 31 = .ok (.sipush 999, 3) := by decide +kernel
theorem dB_message_34 : decode cB_message 34 = .ok (.invokestatic 102, 3) := by decide +kernel
theorem dB_message_37 : decode cB_message 37 = .ok (.ifCond .eq 35, 3) := by decide +kernel
theorem dB_message_40 : decode cB_message 40 = .ok (.iload 4, 2) := by decide +kernel
theorem dB_message_42 : decode cB_message 42 = .ok (.iconst 0, 1) := by decide +kernel
theorem dB_message_43 : decode cB_message 43 = .ok (.bipush 20, 2) := by decide +kernel
theorem dB_message_45 : decode cB_message 45 = .ok (.invokestatic 102, 3) := by decide +kernel
theorem dB_message_48 : decode cB_message 48 = .ok (.ifCond .eq 24, 3) := by decide +kernel
theorem dB_message_51 : decode cB_message 51 = .ok (.iload 4, 2) := by decide +kernel
theorem dB_message_53 : decode cB_message 53 = .ok (.ifCond .eq 15, 3) := by decide +kernel
theorem dB_message_56 : decode cB_message 56 = .ok (.iload 5, 2) := by decide +kernel
theorem dB_message_58 : decode cB_message 58 = .ok (.iconst 0, 1) := by decide +kernel
theorem dB_message_59 : decode cB_message 59 = .ok (.sipush 999, 3) := by decide +kernel
theorem dB_message_62 : decode cB_message 62 = .ok (.invokestatic 102, 3) := by decide +kernel
theorem dB_message_65 : decode cB_message 65 = .ok (.ifCond .eq 7, 3) := by decide +kernel
theorem dB_message_68 : decode cB_message 68 = .ok (.iconst 1, 1) := by decide +kernel
theorem dB_message_69 : decode cB_message 69 = .ok (.goto 4, 3) := by decide +kernel
theorem dB_message_72 : decode cB_message 72 = .ok (.iconst 0, 1) := by decide +kernel
theorem dB_message_73 : decode cB_message 73 = .ok (.istore 7, 2) := by decide +kernel
theorem dB_message_75 : decode cB_message 75 = .ok (.iload 6, 2) := by decide +kernel
theorem dB_message_77 : decode cB_message 77 = .ok (.ifCond .eq 16, 3) := by decide +kernel
theorem dB_message_80 : decode cB_message 80 = .ok (.aload_n 0, 1) := by decide +kernel
theorem dB_message_81 : decode cB_message 81 = .ok (.getfield 16, 3) := by decide +kernel
theorem dB_message_84 : decode cB_message 84 = .ok (.iload_n 2, 1) := by decide +kernel
theorem dB_message_85 : decode cB_message 85 = .ok (.baload, 1) := by decide +kernel
theorem dB_message_86 : decode cB_message 86 = .ok (.ifCond .ne 7, 3) := by decide +kernel
theorem dB_message_89 : decode cB_message 89 = .ok (.iconst 1, 1) := by decide +kernel
theorem dB_message_90 : decode cB_message 90 = .ok (.goto 4, 3) := by decide +kernel
theorem dB_message_93 : decode cB_message 93 = .ok (.iconst 0, 1) := by decide +kernel
theorem dB_message_94 : decode cB_message 94 = .ok (.istore 8, 2) := by decide +kernel
theorem dB_message_96 : decode cB_message 96 = .ok (.iload 8, 2) := by decide +kernel
theorem dB_message_98 : decode cB_message 98 = .ok (.ifCond .eq 27, 3) := by decide +kernel
theorem dB_message_101 : decode cB_message 101 = .ok (.iload 7, 2) := by decide +kernel
theorem dB_message_103 : decode cB_message 103 = .ok (.ifCond .eq 22, 3) := by decide +kernel
theorem dB_message_106 : decode cB_message 106 = .ok (.aload_n 0, 1) := by decide +kernel
theorem dB_message_107 : decode cB_message 107 = .ok (.getfield 89, 3) := by decide +kernel
theorem dB_message_110 : decode cB_message 110 = .ok (.sipush 1000, 3) := by decide +kernel
theorem dB_message_113 : decode cB_message 113 = .ok (.iload_n 2, 1) := by decide +kernel
theorem dB_message_114 : decode cB_message 114 = .ok (.imul, 1) := by decide +kernel
theorem dB_message_115 : decode cB_message 115 = .ok (.iload_n 3, 1) := by decide +kernel
theorem dB_message_116 : decode cB_message 116 = .ok (.iadd, 1) := by decide +kernel
theorem dB_message_117 : decode cB_message 117 = .ok (.iaload, 1) := by decide +kernel
theorem dB_message_118 : decode cB_message 118 = .ok (.ifCond .ne 7, 3) := by decide +kernel
theorem dB_message_121 : decode cB_message 121 = .ok (.iconst 1, 1) := by decide +kernel
theorem dB_message_122 : decode cB_message 122 = .ok (.goto 4, 3) := by decide +kernel
theorem dB_message_125 : decode cB_message 125 = .ok (.iconst 0, 1) := by decide +kernel
theorem dB_message_126 : decode cB_message 126 = .ok (.istore 9, 2) := by decide +kernel
theorem dB_message_128 : decode cB_message 128 = .ok (.iload 9, 2) := by decide +kernel
theorem dB_message_130 : decode cB_message 130 = .ok (.ifCond .eq 14, 3) := by decide +kernel
theorem dB_message_133 : decode cB_message 133 = .ok (.aload_n 0, 1) := by decide +kernel
theorem dB_message_134 : decode cB_message 134 = .ok (.iload_n 1, 1) := by decide +kernel
theorem dB_message_135 : decode cB_message 135 = .ok (.iload_n 2, 1) := by decide +kernel
theorem dB_message_136 : decode cB_message 136 = .ok (.iload 4, 2) := by decide +kernel
theorem dB_message_138 : decode cB_message 138 = .ok (.invokevirtual 145, 3) := by decide +kernel
theorem dB_message_141 : decode cB_message 141 = .ok (.goto 13, 3) := by decide +kernel
theorem dB_message_144 : decode cB_message 144 = .ok (.iload 8, 2) := by decide +kernel
theorem dB_message_146 : decode cB_message 146 = .ok (.ifCond .eq 7, 3) := by decide +kernel
theorem dB_message_149 : decode cB_message 149 = .ok (.iconst 2, 1) := by decide +kernel
theorem dB_message_150 : decode cB_message 150 = .ok (.goto 4, 3) := by decide +kernel
theorem dB_message_153 : decode cB_message 153 = .ok (.iconst 5, 1) := by decide +kernel
theorem dB_message_154 : decode cB_message 154 = .ok (.istore 10, 2) := by decide +kernel
theorem dB_message_156 : decode cB_message 156 = .ok (.aload_n 0, 1) := by decide +kernel
theorem dB_message_157 : decode cB_message 157 = .ok (.bipush 11, 2) := by decide +kernel
theorem dB_message_159 : decode cB_message 159 = .ok (.iload 6, 2) := by decide +kernel
theorem dB_message_161 : decode cB_message 161 = .ok (.iload 7, 2) := by decide +kernel
theorem dB_message_163 : decode cB_message 163 = .ok (.iconst 1, 1) := by decide +kernel
theorem dB_message_164 : decode cB_message 164 = .ok (.iload 10, 2) := by decide +kernel
theorem dB_message_166 : decode cB_message 166 = .ok (.iconst 1, 1) := by decide +kernel
theorem dB_message_167 : decode cB_message 167 = .ok (.if_icmp .ne 15, 3) := by decide +kernel
theorem dB_message_170 : decode cB_message 170 = .ok (.aload_n 0, 1) := by decide +kernel
theorem dB_message_171 : decode cB_message 171 = .ok (.getfield 135, 3) := by decide +kernel
theorem dB_message_174 : decode cB_message 174 = .ok (.iload 4, 2) := by decide +kernel
theorem dB_message_176 : decode cB_message 176 = .ok (.iadd, 1) := by decide +kernel
theorem dB_message_177 : decode cB_message 177 = .ok (.bipush 100, 2) := by decide +kernel
theorem dB_message_179 : decode cB_message 179 = .ok (.if_icmp .gt 7, 3) := by decide +kernel
theorem dB_message_182 : decode cB_message 182 = .ok (.iconst 1, 1) := by decide +kernel
theorem dB_message_183 : decode cB_message 183 = .ok (.goto 4, 3) := by decide +kernel
theorem dB_message_186 : decode cB_message 186 = .ok (.iconst 0, 1) := by decide +kernel
theorem dB_message_187 : decode cB_message 187 = .ok (.invokevirtual 106, 3) := by decide +kernel
theorem dB_message_190 : decode cB_message 190 = .ok (.ifCond .ne 5, 3) := by decide +kernel
theorem dB_message_193 : decode cB_message 193 = .ok (.iconst 0, 1) := by decide +kernel
theorem dB_message_194 : decode cB_message 194 = .ok (.ireturn, 1) := by decide +kernel
theorem dB_message_195 : decode cB_message 195 = .ok (.iload 10, 2) := by decide +kernel
theorem dB_message_197 : decode cB_message 197 = .ok (.iconst 5, 1) := by decide +kernel
theorem dB_message_198 : decode cB_message 198 = .ok (.if_icmp .ne 13, 3) := by decide +kernel
theorem dB_message_201 : decode cB_message 201 = .ok (.aload_n 0, 1) := by decide +kernel
theorem dB_message_202 : decode cB_message 202 = .ok (.dup, 1) := by decide +kernel
theorem dB_message_203 : decode cB_message 203 = .ok (.getfield 149, 3) := by decide +kernel
theorem dB_message_206 : decode cB_message 206 = .ok (.iconst 1, 1) := by decide +kernel
theorem dB_message_207 : decode cB_message 207 = .ok (.iadd, 1) := by decide +kernel
theorem dB_message_208 : decode cB_message 208 = .ok (.putfield 149, 3) := by decide +kernel
theorem dB_message_211 : decode cB_message 211 = .ok (.iload 10, 2) := by decide +kernel
theorem dB_message_213 : decode cB_message 213 = .ok (.iconst 2, 1) := by decide +kernel
theorem dB_message_214 : decode cB_message 214 = .ok (.if_icmp .ne 13, 3) := by decide +kernel
theorem dB_message_217 : decode cB_message 217 = .ok (.aload_n 0, 1) := by decide +kernel
theorem dB_message_218 : decode cB_message 218 = .ok (.dup, 1) := by decide +kernel
theorem dB_message_219 : decode cB_message 219 = .ok (.getfield 152, 3) := by decide +kernel
theorem dB_message_222 : decode cB_message 222 = .ok (.iconst 1, 1) := by decide +kernel
theorem dB_message_223 : decode cB_message 223 = .ok (.iadd, 1) := by decide +kernel
theorem dB_message_224 : decode cB_message 224 = .ok (.putfield 152, 3) := by decide +kernel
theorem dB_message_227 : decode cB_message 227 = .ok (.iload 9, 2) := by decide +kernel
theorem dB_message_229 : decode cB_message 229 = .ok (.ifCond .eq 17, 3) := by decide +kernel
theorem dB_message_232 : decode cB_message 232 = .ok (.aload_n 0, 1) := by decide +kernel
theorem dB_message_233 : decode cB_message 233 = .ok (.getfield 89, 3) := by decide +kernel
theorem dB_message_236 : decode cB_message 236 = .ok (.sipush 1000, 3) := by decide +kernel
theorem dB_message_239 : decode cB_message 239 = .ok (.iload_n 2, 1) := by decide +kernel
theorem dB_message_240 : decode cB_message 240 = .ok (.imul, 1) := by decide +kernel
theorem dB_message_241 : decode cB_message 241 = .ok (.iload_n 3, 1) := by decide +kernel
theorem dB_message_242 : decode cB_message 242 = .ok (.iadd, 1) := by decide +kernel
theorem dB_message_243 : decode cB_message 243 = .ok (.iload 10, 2) := by decide +kernel
theorem dB_message_245 : decode cB_message 245 = .ok (.iastore, 1) := by decide +kernel
theorem dB_message_246 : decode cB_message 246 = .ok (.iload 10, 2) := by decide +kernel
theorem dB_message_248 : decode cB_message 248 = .ok (.iconst 1, 1) := by decide +kernel
theorem dB_message_249 : decode cB_message 249 = .ok (.if_icmp .eq 6, 3) := by decide +kernel
theorem dB_message_252 : decode cB_message 252 = .ok (.iload 10, 2) := by decide +kernel
theorem dB_message_254 : decode cB_message 254 = .ok (.ireturn, 1) := by decide +kernel
theorem dB_message_255 : decode cB_message 255 = .ok (.iload 4, 2) := by decide +kernel
theorem dB_message_257 : decode cB_message 257 = .ok (.ifCond .ne 11, 3) := by decide +kernel
theorem dB_message_260 : decode cB_message 260 = .ok (.aload_n 0, 1) := by decide +kernel
theorem dB_message_261 : decode cB_message 261 = .ok (.iload_n 1, 1) := by decide +kernel
theorem dB_message_262 : decode cB_message 262 = .ok (.invokevirtual 131, 3) := by decide +kernel
theorem dB_message_265 : decode cB_message 265 = .ok (.goto 13, 3) := by decide +kernel
theorem dB_message_268 : decode cB_message 268 = .ok (.aload_n 0, 1) := by decide +kernel
theorem dB_message_269 : decode cB_message 269 = .ok (.iload_n 1, 1) := by decide +kernel
theorem dB_message_270 : decode cB_message 270 = .ok (.iload_n 2, 1) := by decide +kernel
theorem dB_message_271 : decode cB_message 271 = .ok (.iload 4, 2) := by decide +kernel
theorem dB_message_273 : decode cB_message 273 = .ok (.iload 5, 2) := by decide +kernel
theorem dB_message_275 : decode cB_message 275 = .ok (.invokevirtual 155, 3) := by decide +kernel
theorem dB_message_278 : decode cB_message 278 = .ok (.iload 10, 2) := by decide +kernel
theorem dB_message_280 : decode cB_message 280 = .ok (.ireturn, 1) := by decide +kernel
theorem dB_seen_0 : decode cB_seen 0 = .ok (.aload_n 0, 1) := by decide +kernel
theorem dB_seen_1 : decode cB_seen 1 = .ok (.iconst 3, 1) := by decide +kernel
theorem dB_seen_2 : decode cB_seen 2 = .ok (.aload_n 0, 1) := by decide +kernel
theorem dB_seen_3 : decode cB_seen 3 = .ok (.iload_n 1, 1) := by decide +kernel
theorem dB_seen_4 : decode cB_seen 4 = .ok (.invokevirtual 110, 3) := by decide +kernel
theorem dB_seen_7 : decode cB_seen 7 = .ok (.iload_n 2, 1) := by decide +kernel
theorem dB_seen_8 : decode cB_seen 8 = .ok (.iconst 0, 1) := by decide +kernel
theorem dB_seen_9 : decode cB_seen 9 = .ok (.sipush 999, 3) := by decide +kernel
theorem dB_seen_12 : decode cB_seen 12 = .ok (.invokestatic 102, 3) := by decide +kernel
theorem dB_seen_15 : decode cB_seen 15 = .ok (.iconst 1, 1) := by decide +kernel
theorem dB_seen_16 : decode cB_seen 16 = .ok (.iconst 1, 1) := by decide +kernel
theorem dB_seen_17 : decode cB_seen 17 = .ok (.invokevirtual 106, 3) := by decide +kernel
theorem dB_seen_20 : decode cB_seen 20 = .ok (.ifCond .ne 5, 3) := by decide +kernel
theorem dB_seen_23 : decode cB_seen 23 = .ok (.iconst 0, 1) := by decide +kernel
theorem dB_seen_24 : decode cB_seen 24 = .ok (.ireturn, 1) := by decide +kernel
theorem dB_seen_25 : decode cB_seen 25 = .ok (.aload_n 0, 1) := by decide +kernel
theorem dB_seen_26 : decode cB_seen 26 = .ok (.getfield 89, 3) := by decide +kernel
theorem dB_seen_29 : decode cB_seen 29 = .ok (.sipush 1000, 3) := by decide +kernel
theorem dB_seen_32 : decode cB_seen 32 = .ok (.iload_n 1, 1) := by decide +kernel
theorem dB_seen_33 : decode cB_seen 33 = .ok (.imul, 1) := by decide +kernel
theorem dB_seen_34 : decode cB_seen 34 = .ok (.iload_n 2, 1) := by decide +kernel
theorem dB_seen_35 : decode cB_seen 35 = .ok (.iadd, 1) := by decide +kernel
theorem dB_seen_36 : decode cB_seen 36 = .ok (.iaload, 1) := by decide +kernel
theorem dB_seen_37 : decode cB_seen 37 = .ok (.ireturn, 1) := by decide +kernel
theorem dB_tick_0 : decode cB_tick 0 = .ok (.aload_n 0, 1) := by decide +kernel
theorem dB_tick_1 : decode cB_tick 1 = .ok (.iconst 2, 1) := by decide +kernel
theorem dB_tick_2 : decode cB_tick 2 = .ok (.iconst 1, 1) := by decide +kernel
theorem dB_tick_3 : decode cB_tick 3 = .ok (.iload_n 1, 1) := by decide +kernel
theorem dB_tick_4 : decode cB_tick 4 = .ok (.iconst 1, 1) := by decide +kernel
theorem dB_tick_5 : decode cB_tick 5 = .ok (.sipush 2000, 3) := by decide +kernel
theorem dB_tick_8 : decode cB_tick 8 = .ok (.invokestatic 102, 3) := by decide +kernel
theorem dB_tick_11 : decode cB_tick 11 = .ok (.ifCond .eq 18, 3) := by decide +kernel
theorem dB_tick_14 : decode cB_tick 14 = .ok (.iload_n 1, 1) := by decide +kernel
theorem dB_tick_15 : decode cB_tick 15 = .ok (.ldc 114, 2) := by decide +kernel
theorem dB_tick_17 : decode cB_tick 17 = .ok (.aload_n 0, 1) := by decide +kernel
theorem dB_tick_18 : decode cB_tick 18 = .ok (.getfield 118, 3) := by decide +kernel
theorem dB_tick_21 : decode cB_tick 21 = .ok (.isub, 1) := by decide +kernel
theorem dB_tick_22 : decode cB_tick 22 = .ok (.if_icmp .gt 7, 3) := by decide +kernel
theorem dB_tick_25 : decode cB_tick 25 = .ok (.iconst 1, 1) := by decide +kernel
theorem dB_tick_26 : decode cB_tick 26 = .ok (.goto 4, 3) := by decide +kernel
theorem dB_tick_29 : decode cB_tick 29 = .ok (.iconst 0, 1) := by decide +kernel
theorem dB_tick_30 : decode cB_tick 30 = .ok (.iconst 1, 1) := by decide +kernel
theorem dB_tick_31 : decode cB_tick 31 = .ok (.iconst 1, 1) := by decide +kernel
theorem dB_tick_32 : decode cB_tick 32 = .ok (.invokevirtual 106, 3) := by decide +kernel
theorem dB_tick_35 : decode cB_tick 35 = .ok (.ifCond .ne 5, 3) := by decide +kernel
theorem dB_tick_38 : decode cB_tick 38 = .ok (.iconst 0, 1) := by decide +kernel
theorem dB_tick_39 : decode cB_tick 39 = .ok (.ireturn, 1) := by decide +kernel
theorem dB_tick_40 : decode cB_tick 40 = .ok (.iconst 0, 1) := by decide +kernel
theorem dB_tick_41 : decode cB_tick 41 = .ok (.istore_n 2, 1) := by decide +kernel
theorem dB_tick_42 : decode cB_tick 42 = .ok (.iconst 0, 1) := by decide +kernel
theorem dB_tick_43 : decode cB_tick 43 = .ok (.istore_n 3, 1) := by decide +kernel
theorem dB_tick_44 : decode cB_tick 44 = .ok (.iload_n 3, 1) := by decide +kernel
theorem dB_tick_45 : decode cB_tick 45 = .ok (.iload_n 1, 1) := by decide +kernel
theorem dB_tick_46 : decode cB_tick 46 = .ok (.if_icmp .ge 139, 3) := by decide +kernel
theorem dB_tick_49 : decode cB_tick 49 = .ok (.aload_n 0, 1) := by decide +kernel
theorem dB_tick_50 : decode cB_tick 50 = .ok (.dup, 1) := by decide +kernel
theorem dB_tick_51 : decode cB_tick 51 = .ok (.getfield 118, 3) := by decide +kernel
theorem dB_tick_54 : decode cB_tick 54 = .ok (.iconst 1, 1) := by decide +kernel
theorem dB_tick_55 : decode cB_tick 55 = .ok (.iadd, 1) := by decide +kernel
theorem dB_tick_56 : decode cB_tick 56 = .ok (.putfield 118, 3) := by decide +kernel
theorem dB_tick_59 : decode cB_tick 59 = .ok (.iconst 0, 1) := by decide +kernel
theorem dB_tick_60 : decode cB_tick 60 = .ok (.istore 4, 2) := by decide +kernel
theorem dB_tick_62 : decode cB_tick 62 = .ok (.iload 4, 2) := by decide +kernel
theorem dB_tick_64 : decode cB_tick 64 = .ok (.aload_n 0, 1) := by decide +kernel
theorem dB_tick_65 : decode cB_tick 65 = .ok (.getfield 135, 3) := by decide +kernel
theorem dB_tick_68 : decode cB_tick 68 = .ok (.if_icmp .ge 49, 3) := by decide +kernel
theorem dB_tick_71 : decode cB_tick 71 = .ok (.aload_n 0, 1) := by decide +kernel
theorem dB_tick_72 : decode cB_tick 72 = .ok (.getfield 86, 3) := by decide +kernel
theorem dB_tick_75 : decode cB_tick 75 = .ok (.iload 4, 2) := by decide +kernel
theorem dB_tick_77 : decode cB_tick 77 = .ok (.iaload, 1) := by decide +kernel
theorem dB_tick_78 : decode cB_tick 78 = .ok (.ifCond .ge 33, 3) := by decide +kernel
theorem dB_tick_81 : decode cB_tick 81 = .ok (.aload_n 0, 1) := by decide +kernel
theorem dB_tick_82 : decode cB_tick 82 = .ok (.getfield 118, 3) := by decide +kernel
theorem dB_tick_85 : decode cB_tick 85 = .ok (.aload_n 0, 1) := by decide +kernel
theorem dB_tick_86 : decode cB_tick 86 = .ok (.getfield 29, 3) := by decide +kernel
theorem dB_tick_89 : decode cB_tick 89 = .ok (.aload_n 0, 1) := by decide +kernel
theorem dB_tick_90 : decode cB_tick 90 = .ok (.getfield 80, 3) := by decide +kernel
theorem dB_tick_93 : decode cB_tick 93 = .ok (.iload 4, 2) := by decide +kernel
theorem dB_tick_95 : decode cB_tick 95 = .ok (.iaload, 1) := by decide +kernel
theorem dB_tick_96 : decode cB_tick 96 = .ok (.iaload, 1) := by decide +kernel
theorem dB_tick_97 : decode cB_tick 97 = .ok (.if_icmp .lt 14, 3) := by decide +kernel
theorem dB_tick_100 : decode cB_tick 100 = .ok (.aload_n 0, 1) := by decide +kernel
theorem dB_tick_101 : decode cB_tick 101 = .ok (.getfield 86, 3) := by decide +kernel
theorem dB_tick_104 : decode cB_tick 104 = .ok (.iload 4, 2) := by decide +kernel
theorem dB_tick_106 : decode cB_tick 106 = .ok (.aload_n 0, 1) := by decide +kernel
theorem dB_tick_107 : decode cB_tick 107 = .ok (.getfield 118, 3) := by decide +kernel
theorem dB_tick_110 : decode cB_tick 110 = .ok (.iastore, 1) := by decide +kernel
theorem dB_tick_111 : decode cB_tick 111 = .ok (.iinc 4 1, 3) := by decide +kernel
theorem dB_tick_114 : decode cB_tick 114 = .ok (.goto (-52), 3) := by decide +kernel
theorem dB_tick_117 : decode cB_tick 117 = .ok (.iconst 0, 1) := by decide +kernel
theorem dB_tick_118 : decode cB_tick 118 = .ok (.istore 4, 2) := by decide +kernel
theorem dB_tick_120 : decode cB_tick 120 = .ok (.iload 4, 2) := by decide +kernel
theorem dB_tick_122 : decode cB_tick 122 = .ok (.aload_n 0, 1) := by decide +kernel
theorem dB_tick_123 : decode cB_tick 123 = .ok (.getfield 128, 3) := by decide +kernel
theorem dB_tick_126 : decode cB_tick 126 = .ok (.if_icmp .ge 53, 3) := by decide +kernel
theorem dB_tick_129 : decode cB_tick 129 = .ok (.aload_n 0, 1) := by decide +kernel
theorem dB_tick_130 : decode cB_tick 130 = .ok (.getfield 50, 3) := by decide +kernel
theorem dB_tick_133 : decode cB_tick 133 = .ok (.iload 4, 2) := by decide +kernel
theorem dB_tick_135 : decode cB_tick 135 = .ok (.iaload, 1) := by decide +kernel
theorem dB_tick_136 : decode cB_tick 136 = .ok (.ifCond .ne 37, 3) := by decide +kernel
theorem dB_tick_139 : decode cB_tick 139 = .ok (.aload_n 0, 1) := by decide +kernel
theorem dB_tick_140 : decode cB_tick 140 = .ok (.getfield 118, 3) := by decide +kernel
theorem dB_tick_143 : decode cB_tick 143 = .ok (.aload_n 0, 1) := by decide +kernel
theorem dB_tick_144 : decode cB_tick 144 = .ok (.getfield 56, 3) := by decide +kernel
theorem dB_tick_147 : decode cB_tick 147 = .ok (.iload 4, 2) := by decide +kernel
theorem dB_tick_149 : decode cB_tick 149 = .ok (.iaload, 1) := by decide +kernel
theorem dB_tick_150 : decode cB_tick 150 = .ok (.isub, 1) := by decide +kernel
theorem dB_tick_151 : decode cB_tick 151 = .ok (.aload_n 0, 1) := by decide +kernel
theorem dB_tick_152 : decode cB_tick 152 = .ok (.getfield 47, 3) := by decide +kernel
theorem dB_tick_155 : decode cB_tick 155 = .ok (.iload 4, 2) := by decide +kernel
theorem dB_tick_157 : decode cB_tick 157 = .ok (.iaload, 1) := by decide +kernel
theorem dB_tick_158 : decode cB_tick 158 = .ok (.if_icmp .ge 6, 3) := by decide +kernel
theorem dB_tick_161 : decode cB_tick 161 = .ok (.goto 12, 3) := by decide +kernel
theorem dB_tick_164 : decode cB_tick 164 = .ok (.aload_n 0, 1) := by decide +kernel
theorem dB_tick_165 : decode cB_tick 165 = .ok (.iload 4, 2) := by decide +kernel
theorem dB_tick_167 : decode cB_tick 167 = .ok (.invokevirtual 131, 3) := by decide +kernel
theorem dB_tick_170 : decode cB_tick 170 = .ok (.iinc 2 1, 3) := by decide +kernel
theorem dB_tick_173 : decode cB_tick 173 = .ok (.iinc 4 1, 3) := by decide +kernel
theorem dB_tick_176 : decode cB_tick 176 = .ok (.goto (-56), 3) := by decide +kernel
theorem dB_tick_179 : decode cB_tick 179 = .ok (.iinc 3 1, 3) := by decide +kernel
theorem dB_tick_182 : decode cB_tick 182 = .ok (.goto (-138), 3) := by decide +kernel
theorem dB_tick_185 : decode cB_tick 185 = .ok (.iload_n 2, 1) := by decide +kernel
theorem dB_tick_186 : decode cB_tick 186 = .ok (.ireturn, 1) := by decide +kernel
theorem dB_cut_0 : decode cB_cut 0 = .ok (.aload_n 0, 1) := by decide +kernel
theorem dB_cut_1 : decode cB_cut 1 = .ok (.iconst 5, 1) := by decide +kernel
theorem dB_cut_2 : decode cB_cut 2 = .ok (.aload_n 0, 1) := by decide +kernel
theorem dB_cut_3 : decode cB_cut 3 = .ok (.iload_n 1, 1) := by decide +kernel
theorem dB_cut_4 : decode cB_cut 4 = .ok (.invokevirtual 110, 3) := by decide +kernel
theorem dB_cut_7 : decode cB_cut 7 = .ok (.iconst 1, 1) := by decide +kernel
theorem dB_cut_8 : decode cB_cut 8 = .ok (.aload_n 0, 1) := by decide +kernel
theorem dB_cut_9 : decode cB_cut 9 = .ok (.iload_n 1, 1) := by decide +kernel
theorem dB_cut_10 : decode cB_cut 10 = .ok (.invokevirtual 110, 3) := by decide +kernel
theorem dB_cut_13 : decode cB_cut 13 = .ok (.ifCond .eq 17, 3) := by decide +kernel
theorem dB_cut_16 : decode cB_cut 16 = .ok (.aload_n 0, 1) := by decide +kernel
theorem dB_cut_17 : decode cB_cut 17 = .ok (.getfield 16, 3) := by decide +kernel
theorem dB_cut_20 : decode cB_cut 20 = .ok (.iload_n 1, 1) := by decide +kernel
theorem dB_cut_21 : decode cB_cut 21 = .ok (.baload, 1) := by decide +kernel
theorem dB_cut_22 : decode cB_cut 22 = .ok (.iload_n 2, 1) := by decide +kernel
theorem dB_cut_23 : decode cB_cut 23 = .ok (.if_icmp .eq 7, 3) := by decide +kernel
theorem dB_cut_26 : decode cB_cut 26 = .ok (.iconst 1, 1) := by decide +kernel
theorem dB_cut_27 : decode cB_cut 27 = .ok (.goto 4, 3) := by decide +kernel
theorem dB_cut_30 : decode cB_cut 30 = .ok (.iconst 0, 1) := by decide +kernel
theorem dB_cut_31 : decode cB_cut 31 = .ok (.iconst 1, 1) := by decide +kernel
theorem dB_cut_32 : decode cB_cut 32 = .ok (.invokevirtual 106, 3) := by decide +kernel
theorem dB_cut_35 : decode cB_cut 35 = .ok (.ifCond .eq 10, 3) := by decide +kernel
theorem dB_cut_38 : decode cB_cut 38 = .ok (.aload_n 0, 1) := by decide +kernel
theorem dB_cut_39 : decode cB_cut 39 = .ok (.getfield 16, 3) := by decide +kernel
theorem dB_cut_42 : decode cB_cut 42 = .ok (.iload_n 1, 1) := by decide +kernel
theorem dB_cut_43 : decode cB_cut 43 = .ok (.iload_n 2, 1) := by decide +kernel
theorem dB_cut_44 : decode cB_cut 44 = .ok (.bastore, 1) := by decide +kernel
theorem dB_cut_45 : decode cB_cut 45 = .ok (.return_, 1) := by decide +kernel
theorem dB_isLoan_0 : decode cB_isLoan 0 = .ok (.iload_n 1, 1) := by decide +kernel
theorem dB_isLoan_1 : decode cB_isLoan 1 = .ok (.iconst 0, 1) := by decide +kernel
theorem dB_isLoan_2 : decode cB_isLoan 2 = .ok (.aload_n 0, 1) := by decide +kernel
theorem dB_isLoan_3 : decode cB_isLoan 3 = .ok (.getfield 135, 3) := by decide +kernel
theorem dB_isLoan_6 : decode cB_isLoan 6 = .ok (.iconst 1, 1) := by decide +kernel
theorem dB_isLoan_7 : decode cB_isLoan 7 = .ok (.isub, 1) := by decide +kernel
theorem dB_isLoan_8 : decode cB_isLoan 8 = .ok (.invokestatic 102, 3) := by decide +kernel
theorem dB_isLoan_11 : decode cB_isLoan 11 = .ok (.ireturn, 1) := by decide +kernel
theorem dB_end_0 : decode cB_end 0 = .ok (.aload_n 0, 1) := by decide +kernel
theorem dB_end_1 : decode cB_end 1 = .ok (.iconst 5, 1) := by decide +kernel
theorem dB_end_2 : decode cB_end 2 = .ok (.aload_n 0, 1) := by decide +kernel
theorem dB_end_3 : decode cB_end 3 = .ok (.iload_n 1, 1) := by decide +kernel
theorem dB_end_4 : decode cB_end 4 = .ok (.invokevirtual 159, 3) := by decide +kernel
theorem dB_end_7 : decode cB_end 7 = .ok (.iconst 1, 1) := by decide +kernel
theorem dB_end_8 : decode cB_end 8 = .ok (.aload_n 0, 1) := by decide +kernel
theorem dB_end_9 : decode cB_end 9 = .ok (.iload_n 1, 1) := by decide +kernel
theorem dB_end_10 : decode cB_end 10 = .ok (.invokevirtual 159, 3) := by decide +kernel
theorem dB_end_13 : decode cB_end 13 = .ok (.ifCond .eq 16, 3) := by decide +kernel
theorem dB_end_16 : decode cB_end 16 = .ok (.aload_n 0, 1) := by decide +kernel
theorem dB_end_17 : decode cB_end 17 = .ok (.getfield 86, 3) := by decide +kernel
theorem dB_end_20 : decode cB_end 20 = .ok (.iload_n 1, 1) := by decide +kernel
theorem dB_end_21 : decode cB_end 21 = .ok (.iaload, 1) := by decide +kernel
theorem dB_end_22 : decode cB_end 22 = .ok (.ifCond .ge 7, 3) := by decide +kernel
theorem dB_end_25 : decode cB_end 25 = .ok (.iconst 1, 1) := by decide +kernel
theorem dB_end_26 : decode cB_end 26 = .ok (.goto 4, 3) := by decide +kernel
theorem dB_end_29 : decode cB_end 29 = .ok (.iconst 0, 1) := by decide +kernel
theorem dB_end_30 : decode cB_end 30 = .ok (.iconst 1, 1) := by decide +kernel
theorem dB_end_31 : decode cB_end 31 = .ok (.invokevirtual 106, 3) := by decide +kernel
theorem dB_end_34 : decode cB_end 34 = .ok (.ifCond .eq 13, 3) := by decide +kernel
theorem dB_end_37 : decode cB_end 37 = .ok (.aload_n 0, 1) := by decide +kernel
theorem dB_end_38 : decode cB_end 38 = .ok (.getfield 86, 3) := by decide +kernel
theorem dB_end_41 : decode cB_end 41 = .ok (.iload_n 1, 1) := by decide +kernel
theorem dB_end_42 : decode cB_end 42 = .ok (.aload_n 0, 1) := by decide +kernel
theorem dB_end_43 : decode cB_end 43 = .ok (.getfield 118, 3) := by decide +kernel
theorem dB_end_46 : decode cB_end 46 = .ok (.iastore, 1) := by decide +kernel
theorem dB_end_47 : decode cB_end 47 = .ok (.return_, 1) := by decide +kernel
theorem dB_askAt_0 : decode cB_askAt 0 = .ok (.aload_n 0, 1) := by decide +kernel
theorem dB_askAt_1 : decode cB_askAt 1 = .ok (.iconst 1, 1) := by decide +kernel
theorem dB_askAt_2 : decode cB_askAt 2 = .ok (.iload_n 1, 1) := by decide +kernel
theorem dB_askAt_3 : decode cB_askAt 3 = .ok (.iconst 0, 1) := by decide +kernel
theorem dB_askAt_4 : decode cB_askAt 4 = .ok (.aload_n 0, 1) := by decide +kernel
theorem dB_askAt_5 : decode cB_askAt 5 = .ok (.getfield 128, 3) := by decide +kernel
theorem dB_askAt_8 : decode cB_askAt 8 = .ok (.iconst 1, 1) := by decide +kernel
theorem dB_askAt_9 : decode cB_askAt 9 = .ok (.isub, 1) := by decide +kernel
theorem dB_askAt_10 : decode cB_askAt 10 = .ok (.invokestatic 102, 3) := by decide +kernel
theorem dB_askAt_13 : decode cB_askAt 13 = .ok (.ifCond .eq 16, 3) := by decide +kernel
theorem dB_askAt_16 : decode cB_askAt 16 = .ok (.iload_n 2, 1) := by decide +kernel
theorem dB_askAt_17 : decode cB_askAt 17 = .ok (.iconst 0, 1) := by decide +kernel
theorem dB_askAt_18 : decode cB_askAt 18 = .ok (.iconst 5, 1) := by decide +kernel
theorem dB_askAt_19 : decode cB_askAt 19 = .ok (.invokestatic 102, 3) := by decide +kernel
theorem dB_askAt_22 : decode cB_askAt 22 = .ok (.ifCond .eq 7, 3) := by decide +kernel
theorem dB_askAt_25 : decode cB_askAt 25 = .ok (.iconst 1, 1) := by decide +kernel
theorem dB_askAt_26 : decode cB_askAt 26 = .ok (.goto 4, 3) := by decide +kernel
theorem dB_askAt_29 : decode cB_askAt 29 = .ok (.iconst 0, 1) := by decide +kernel
theorem dB_askAt_30 : decode cB_askAt 30 = .ok (.iconst 1, 1) := by decide +kernel
theorem dB_askAt_31 : decode cB_askAt 31 = .ok (.iconst 1, 1) := by decide +kernel
theorem dB_askAt_32 : decode cB_askAt 32 = .ok (.iconst 1, 1) := by decide +kernel
theorem dB_askAt_33 : decode cB_askAt 33 = .ok (.invokevirtual 106, 3) := by decide +kernel
theorem dB_askAt_36 : decode cB_askAt 36 = .ok (.ifCond .ne 5, 3) := by decide +kernel
theorem dB_askAt_39 : decode cB_askAt 39 = .ok (.iconst 0, 1) := by decide +kernel
theorem dB_askAt_40 : decode cB_askAt 40 = .ok (.ireturn, 1) := by decide +kernel
theorem dB_askAt_41 : decode cB_askAt 41 = .ok (.iload_n 2, 1) := by decide +kernel
theorem dB_askAt_42 : decode cB_askAt 42 = .ok (.ifCond .ne 12, 3) := by decide +kernel
theorem dB_askAt_45 : decode cB_askAt 45 = .ok (.aload_n 0, 1) := by decide +kernel
theorem dB_askAt_46 : decode cB_askAt 46 = .ok (.getfield 50, 3) := by decide +kernel
theorem dB_askAt_49 : decode cB_askAt 49 = .ok (.iload_n 1, 1) := by decide +kernel
theorem dB_askAt_50 : decode cB_askAt 50 = .ok (.iaload, 1) := by decide +kernel
theorem dB_askAt_51 : decode cB_askAt 51 = .ok (.goto 73, 3) := by decide +kernel
theorem dB_askAt_54 : decode cB_askAt 54 = .ok (.iload_n 2, 1) := by decide +kernel
theorem dB_askAt_55 : decode cB_askAt 55 = .ok (.iconst 1, 1) := by decide +kernel
theorem dB_askAt_56 : decode cB_askAt 56 = .ok (.if_icmp .ne 12, 3) := by decide +kernel
theorem dB_askAt_59 : decode cB_askAt 59 = .ok (.aload_n 0, 1) := by decide +kernel
theorem dB_askAt_60 : decode cB_askAt 60 = .ok (.getfield 53, 3) := by decide +kernel
theorem dB_askAt_63 : decode cB_askAt 63 = .ok (.iload_n 1, 1) := by decide +kernel
theorem dB_askAt_64 : decode cB_askAt 64 = .ok (.iaload, 1) := by decide +kernel
theorem dB_askAt_65 : decode cB_askAt 65 = .ok (.goto 59, 3) := by decide +kernel
theorem dB_askAt_68 : decode cB_askAt 68 = .ok (.iload_n 2, 1) := by decide +kernel
theorem dB_askAt_69 : decode cB_askAt 69 = .ok (.iconst 2, 1) := by decide +kernel
theorem dB_askAt_70 : decode cB_askAt 70 = .ok (.if_icmp .ne 12, 3) := by decide +kernel
theorem dB_askAt_73 : decode cB_askAt 73 = .ok (.aload_n 0, 1) := by decide +kernel
theorem dB_askAt_74 : decode cB_askAt 74 = .ok (.getfield 56, 3) := by decide +kernel
theorem dB_askAt_77 : decode cB_askAt 77 = .ok (.iload_n 1, 1) := by decide +kernel
theorem dB_askAt_78 : decode cB_askAt 78 = .ok (.iaload, 1) := by decide +kernel
theorem dB_askAt_79 : decode cB_askAt 79 = .ok (.goto 45, 3) := by decide +kernel
theorem dB_askAt_82 : decode cB_askAt 82 = .ok (.iload_n 2, 1) := by decide +kernel
theorem dB_askAt_83 : decode cB_askAt 83 = .ok (.iconst 3, 1) := by decide +kernel
theorem dB_askAt_84 : decode cB_askAt 84 = .ok (.if_icmp .ne 12, 3) := by decide +kernel
theorem dB_askAt_87 : decode cB_askAt 87 = .ok (.aload_n 0, 1) := by decide +kernel
theorem dB_askAt_88 : decode cB_askAt 88 = .ok (.getfield 59, 3) := by decide +kernel
theorem dB_askAt_91 : decode cB_askAt 91 = .ok (.iload_n 1, 1) := by decide +kernel
theorem dB_askAt_92 : decode cB_askAt 92 = .ok (.iaload, 1) := by decide +kernel
theorem dB_askAt_93 : decode cB_askAt 93 = .ok (.goto 31, 3) := by decide +kernel
theorem dB_askAt_96 : decode cB_askAt 96 = .ok (.iload_n 2, 1) := by decide +kernel
theorem dB_askAt_97 : decode cB_askAt 97 = .ok (.iconst 4, 1) := by decide +kernel
theorem dB_askAt_98 : decode cB_askAt 98 = .ok (.if_icmp .ne 12, 3) := by decide +kernel
theorem dB_askAt_101 : decode cB_askAt 101 = .ok (.aload_n 0, 1) := by decide +kernel
theorem dB_askAt_102 : decode cB_askAt 102 = .ok (.getfield 62, 3) := by decide +kernel
theorem dB_askAt_105 : decode cB_askAt 105 = .ok (.iload_n 1, 1) := by decide +kernel
theorem dB_askAt_106 : decode cB_askAt 106 = .ok (.iaload, 1) := by decide +kernel
theorem dB_askAt_107 : decode cB_askAt 107 = .ok (.goto 17, 3) := by decide +kernel
theorem dB_askAt_110 : decode cB_askAt 110 = .ok (.aload_n 0, 1) := by decide +kernel
theorem dB_askAt_111 : decode cB_askAt 111 = .ok (.getfield 65, 3) := by decide +kernel
theorem dB_askAt_114 : decode cB_askAt 114 = .ok (.iload_n 1, 1) := by decide +kernel
theorem dB_askAt_115 : decode cB_askAt 115 = .ok (.baload, 1) := by decide +kernel
theorem dB_askAt_116 : decode cB_askAt 116 = .ok (.ifCond .eq 7, 3) := by decide +kernel
theorem dB_askAt_119 : decode cB_askAt 119 = .ok (.iconst 1, 1) := by decide +kernel
theorem dB_askAt_120 : decode cB_askAt 120 = .ok (.goto 4, 3) := by decide +kernel
theorem dB_askAt_123 : decode cB_askAt 123 = .ok (.iconst 0, 1) := by decide +kernel
theorem dB_askAt_124 : decode cB_askAt 124 = .ok (.ireturn, 1) := by decide +kernel
theorem dB_costOf_0 : decode cB_costOf 0 = .ok (.aload_n 0, 1) := by decide +kernel
theorem dB_costOf_1 : decode cB_costOf 1 = .ok (.getfield 86, 3) := by decide +kernel
theorem dB_costOf_4 : decode cB_costOf 4 = .ok (.iload_n 1, 1) := by decide +kernel
theorem dB_costOf_5 : decode cB_costOf 5 = .ok (.iaload, 1) := by decide +kernel
theorem dB_costOf_6 : decode cB_costOf 6 = .ok (.ifCond .ge 10, 3) := by decide +kernel
theorem dB_costOf_9 : decode cB_costOf 9 = .ok (.aload_n 0, 1) := by decide +kernel
theorem dB_costOf_10 : decode cB_costOf 10 = .ok (.getfield 118, 3) := by decide +kernel
theorem dB_costOf_13 : decode cB_costOf 13 = .ok (.goto 9, 3) := by decide +kernel
theorem dB_costOf_16 : decode cB_costOf 16 = .ok (.aload_n 0, 1) := by decide +kernel
theorem dB_costOf_17 : decode cB_costOf 17 = .ok (.getfield 86, 3) := by decide +kernel
theorem dB_costOf_20 : decode cB_costOf 20 = .ok (.iload_n 1, 1) := by decide +kernel
theorem dB_costOf_21 : decode cB_costOf 21 = .ok (.iaload, 1) := by decide +kernel
theorem dB_costOf_22 : decode cB_costOf 22 = .ok (.istore_n 2, 1) := by decide +kernel
theorem dB_costOf_23 : decode cB_costOf 23 = .ok (.iload_n 2, 1) := by decide +kernel
theorem dB_costOf_24 : decode cB_costOf 24 = .ok (.aload_n 0, 1) := by decide +kernel
theorem dB_costOf_25 : decode cB_costOf 25 = .ok (.getfield 83, 3) := by decide +kernel
theorem dB_costOf_28 : decode cB_costOf 28 = .ok (.iload_n 1, 1) := by decide +kernel
theorem dB_costOf_29 : decode cB_costOf 29 = .ok (.iaload, 1) := by decide +kernel
theorem dB_costOf_30 : decode cB_costOf 30 = .ok (.isub, 1) := by decide +kernel
theorem dB_costOf_31 : decode cB_costOf 31 = .ok (.istore_n 3, 1) := by decide +kernel
theorem dB_costOf_32 : decode cB_costOf 32 = .ok (.iload_n 3, 1) := by decide +kernel
theorem dB_costOf_33 : decode cB_costOf 33 = .ok (.ifCond .gt 7, 3) := by decide +kernel
theorem dB_costOf_36 : decode cB_costOf 36 = .ok (.iconst 0, 1) := by decide +kernel
theorem dB_costOf_37 : decode cB_costOf 37 = .ok (.goto 22, 3) := by decide +kernel
theorem dB_costOf_40 : decode cB_costOf 40 = .ok (.aload_n 0, 1) := by decide +kernel
theorem dB_costOf_41 : decode cB_costOf 41 = .ok (.getfield 13, 3) := by decide +kernel
theorem dB_costOf_44 : decode cB_costOf 44 = .ok (.aload_n 0, 1) := by decide +kernel
theorem dB_costOf_45 : decode cB_costOf 45 = .ok (.getfield 71, 3) := by decide +kernel
theorem dB_costOf_48 : decode cB_costOf 48 = .ok (.iload_n 1, 1) := by decide +kernel
theorem dB_costOf_49 : decode cB_costOf 49 = .ok (.iaload, 1) := by decide +kernel
theorem dB_costOf_50 : decode cB_costOf 50 = .ok (.iaload, 1) := by decide +kernel
theorem dB_costOf_51 : decode cB_costOf 51 = .ok (.iload_n 3, 1) := by decide +kernel
theorem dB_costOf_52 : decode cB_costOf 52 = .ok (.bipush 59, 2) := by decide +kernel
theorem dB_costOf_54 : decode cB_costOf 54 = .ok (.iadd, 1) := by decide +kernel
theorem dB_costOf_55 : decode cB_costOf 55 = .ok (.bipush 60, 2) := by decide +kernel
theorem dB_costOf_57 : decode cB_costOf 57 = .ok (.idiv, 1) := by decide +kernel
theorem dB_costOf_58 : decode cB_costOf 58 = .ok (.imul, 1) := by decide +kernel
theorem dB_costOf_59 : decode cB_costOf 59 = .ok (.ireturn, 1) := by decide +kernel
theorem dB_loanAt_0 : decode cB_loanAt 0 = .ok (.aload_n 0, 1) := by decide +kernel
theorem dB_loanAt_1 : decode cB_loanAt 1 = .ok (.iconst 1, 1) := by decide +kernel
theorem dB_loanAt_2 : decode cB_loanAt 2 = .ok (.aload_n 0, 1) := by decide +kernel
theorem dB_loanAt_3 : decode cB_loanAt 3 = .ok (.iload_n 1, 1) := by decide +kernel
theorem dB_loanAt_4 : decode cB_loanAt 4 = .ok (.invokevirtual 159, 3) := by decide +kernel
theorem dB_loanAt_7 : decode cB_loanAt 7 = .ok (.ifCond .eq 17, 3) := by decide +kernel
theorem dB_loanAt_10 : decode cB_loanAt 10 = .ok (.iload_n 2, 1) := by decide +kernel
theorem dB_loanAt_11 : decode cB_loanAt 11 = .ok (.iconst 0, 1) := by decide +kernel
theorem dB_loanAt_12 : decode cB_loanAt 12 = .ok (.bipush 6, 2) := by decide +kernel
theorem dB_loanAt_14 : decode cB_loanAt 14 = .ok (.invokestatic 102, 3) := by decide +kernel
theorem dB_loanAt_17 : decode cB_loanAt 17 = .ok (.ifCond .eq 7, 3) := by decide +kernel
theorem dB_loanAt_20 : decode cB_loanAt 20 = .ok (.iconst 1, 1) := by decide +kernel
theorem dB_loanAt_21 : decode cB_loanAt 21 = .ok (.goto 4, 3) := by decide +kernel
theorem dB_loanAt_24 : decode cB_loanAt 24 = .ok (.iconst 0, 1) := by decide +kernel
theorem dB_loanAt_25 : decode cB_loanAt 25 = .ok (.iconst 1, 1) := by decide +kernel
theorem dB_loanAt_26 : decode cB_loanAt 26 = .ok (.iconst 1, 1) := by decide +kernel
theorem dB_loanAt_27 : decode cB_loanAt 27 = .ok (.iconst 1, 1) := by decide +kernel
theorem dB_loanAt_28 : decode cB_loanAt 28 = .ok (.invokevirtual 106, 3) := by decide +kernel
theorem dB_loanAt_31 : decode cB_loanAt 31 = .ok (.ifCond .ne 5, 3) := by decide +kernel
theorem dB_loanAt_34 : decode cB_loanAt 34 = .ok (.iconst 0, 1) := by decide +kernel
theorem dB_loanAt_35 : decode cB_loanAt 35 = .ok (.ireturn, 1) := by decide +kernel
theorem dB_loanAt_36 : decode cB_loanAt 36 = .ok (.iload_n 2, 1) := by decide +kernel
theorem dB_loanAt_37 : decode cB_loanAt 37 = .ok (.ifCond .ne 12, 3) := by decide +kernel
theorem dB_loanAt_40 : decode cB_loanAt 40 = .ok (.aload_n 0, 1) := by decide +kernel
theorem dB_loanAt_41 : decode cB_loanAt 41 = .ok (.getfield 71, 3) := by decide +kernel
theorem dB_loanAt_44 : decode cB_loanAt 44 = .ok (.iload_n 1, 1) := by decide +kernel
theorem dB_loanAt_45 : decode cB_loanAt 45 = .ok (.iaload, 1) := by decide +kernel
theorem dB_loanAt_46 : decode cB_loanAt 46 = .ok (.goto 78, 3) := by decide +kernel
theorem dB_loanAt_49 : decode cB_loanAt 49 = .ok (.iload_n 2, 1) := by decide +kernel
theorem dB_loanAt_50 : decode cB_loanAt 50 = .ok (.iconst 1, 1) := by decide +kernel
theorem dB_loanAt_51 : decode cB_loanAt 51 = .ok (.if_icmp .ne 12, 3) := by decide +kernel
theorem dB_loanAt_54 : decode cB_loanAt 54 = .ok (.aload_n 0, 1) := by decide +kernel
theorem dB_loanAt_55 : decode cB_loanAt 55 = .ok (.getfield 74, 3) := by decide +kernel
theorem dB_loanAt_58 : decode cB_loanAt 58 = .ok (.iload_n 1, 1) := by decide +kernel
theorem dB_loanAt_59 : decode cB_loanAt 59 = .ok (.iaload, 1) := by decide +kernel
theorem dB_loanAt_60 : decode cB_loanAt 60 = .ok (.goto 64, 3) := by decide +kernel
theorem dB_loanAt_63 : decode cB_loanAt 63 = .ok (.iload_n 2, 1) := by decide +kernel
theorem dB_loanAt_64 : decode cB_loanAt 64 = .ok (.iconst 2, 1) := by decide +kernel
theorem dB_loanAt_65 : decode cB_loanAt 65 = .ok (.if_icmp .ne 12, 3) := by decide +kernel
theorem dB_loanAt_68 : decode cB_loanAt 68 = .ok (.aload_n 0, 1) := by decide +kernel
theorem dB_loanAt_69 : decode cB_loanAt 69 = .ok (.getfield 77, 3) := by decide +kernel
theorem dB_loanAt_72 : decode cB_loanAt 72 = .ok (.iload_n 1, 1) := by decide +kernel
theorem dB_loanAt_73 : decode cB_loanAt 73 = .ok (.iaload, 1) := by decide +kernel
theorem dB_loanAt_74 : decode cB_loanAt 74 = .ok (.goto 50, 3) := by decide +kernel
theorem dB_loanAt_77 : decode cB_loanAt 77 = .ok (.iload_n 2, 1) := by decide +kernel
theorem dB_loanAt_78 : decode cB_loanAt 78 = .ok (.iconst 3, 1) := by decide +kernel
theorem dB_loanAt_79 : decode cB_loanAt 79 = .ok (.if_icmp .ne 12, 3) := by decide +kernel
theorem dB_loanAt_82 : decode cB_loanAt 82 = .ok (.aload_n 0, 1) := by decide +kernel
theorem dB_loanAt_83 : decode cB_loanAt 83 = .ok (.getfield 80, 3) := by decide +kernel
theorem dB_loanAt_86 : decode cB_loanAt 86 = .ok (.iload_n 1, 1) := by decide +kernel
theorem dB_loanAt_87 : decode cB_loanAt 87 = .ok (.iaload, 1) := by decide +kernel
theorem dB_loanAt_88 : decode cB_loanAt 88 = .ok (.goto 36, 3) := by decide +kernel
theorem dB_loanAt_91 : decode cB_loanAt 91 = .ok (.iload_n 2, 1) := by decide +kernel
theorem dB_loanAt_92 : decode cB_loanAt 92 = .ok (.iconst 4, 1) := by decide +kernel
theorem dB_loanAt_93 : decode cB_loanAt 93 = .ok (.if_icmp .ne 12, 3) := by decide +kernel
theorem dB_loanAt_96 : decode cB_loanAt 96 = .ok (.aload_n 0, 1) := by decide +kernel
theorem dB_loanAt_97 : decode cB_loanAt 97 = .ok (.getfield 83, 3) := by decide +kernel
theorem dB_loanAt_100 : decode cB_loanAt 100 = .ok (.iload_n 1, 1) := by decide +kernel
theorem dB_loanAt_101 : decode cB_loanAt 101 = .ok (.iaload, 1) := by decide +kernel
theorem dB_loanAt_102 : decode cB_loanAt 102 = .ok (.goto 22, 3) := by decide +kernel
theorem dB_loanAt_105 : decode cB_loanAt 105 = .ok (.iload_n 2, 1) := by decide +kernel
theorem dB_loanAt_106 : decode cB_loanAt 106 = .ok (.iconst 5, 1) := by decide +kernel
theorem dB_loanAt_107 : decode cB_loanAt 107 = .ok (.if_icmp .ne 12, 3) := by decide +kernel
theorem dB_loanAt_110 : decode cB_loanAt 110 = .ok (.aload_n 0, 1) := by decide +kernel
theorem dB_loanAt_111 : decode cB_loanAt 111 = .ok (.getfield 86, 3) := by decide +kernel
theorem dB_loanAt_114 : decode cB_loanAt 114 = .ok (.iload_n 1, 1) := by decide +kernel
theorem dB_loanAt_115 : decode cB_loanAt 115 = .ok (.iaload, 1) := by decide +kernel
theorem dB_loanAt_116 : decode cB_loanAt 116 = .ok (.goto 8, 3) := by decide +kernel
theorem dB_loanAt_119 : decode cB_loanAt 119 = .ok (.aload_n 0, 1) := by decide +kernel
theorem dB_loanAt_120 : decode cB_loanAt 120 = .ok (.iload_n 1, 1) := by decide +kernel
theorem dB_loanAt_121 : decode cB_loanAt 121 = .ok (.invokevirtual 162, 3) := by decide +kernel
theorem dB_loanAt_124 : decode cB_loanAt 124 = .ok (.ireturn, 1) := by decide +kernel
theorem dB_cost_0 : decode cB_cost 0 = .ok (.aload_n 0, 1) := by decide +kernel
theorem dB_cost_1 : decode cB_cost 1 = .ok (.iconst 1, 1) := by decide +kernel
theorem dB_cost_2 : decode cB_cost 2 = .ok (.aload_n 0, 1) := by decide +kernel
theorem dB_cost_3 : decode cB_cost 3 = .ok (.iload_n 1, 1) := by decide +kernel
theorem dB_cost_4 : decode cB_cost 4 = .ok (.invokevirtual 110, 3) := by decide +kernel
theorem dB_cost_7 : decode cB_cost 7 = .ok (.iconst 1, 1) := by decide +kernel
theorem dB_cost_8 : decode cB_cost 8 = .ok (.iconst 1, 1) := by decide +kernel
theorem dB_cost_9 : decode cB_cost 9 = .ok (.iconst 1, 1) := by decide +kernel
theorem dB_cost_10 : decode cB_cost 10 = .ok (.invokevirtual 106, 3) := by decide +kernel
theorem dB_cost_13 : decode cB_cost 13 = .ok (.ifCond .ne 5, 3) := by decide +kernel
theorem dB_cost_16 : decode cB_cost 16 = .ok (.iconst 0, 1) := by decide +kernel
theorem dB_cost_17 : decode cB_cost 17 = .ok (.ireturn, 1) := by decide +kernel
theorem dB_cost_18 : decode cB_cost 18 = .ok (.iconst 0, 1) := by decide +kernel
theorem dB_cost_19 : decode cB_cost 19 = .ok (.istore_n 2, 1) := by decide +kernel
theorem dB_cost_20 : decode cB_cost 20 = .ok (.iconst 0, 1) := by decide +kernel
theorem dB_cost_21 : decode cB_cost 21 = .ok (.istore_n 3, 1) := by decide +kernel
theorem dB_cost_22 : decode cB_cost 22 = .ok (.iload_n 3, 1) := by decide +kernel
theorem dB_cost_23 : decode cB_cost 23 = .ok (.aload_n 0, 1) := by decide +kernel
theorem dB_cost_24 : decode cB_cost 24 = .ok (.getfield 135, 3) := by decide +kernel
theorem dB_cost_27 : decode cB_cost 27 = .ok (.if_icmp .ge 27, 3) := by decide +kernel
theorem dB_cost_30 : decode cB_cost 30 = .ok (.aload_n 0, 1) := by decide +kernel
theorem dB_cost_31 : decode cB_cost 31 = .ok (.getfield 71, 3) := by decide +kernel
theorem dB_cost_34 : decode cB_cost 34 = .ok (.iload_n 3, 1) := by decide +kernel
theorem dB_cost_35 : decode cB_cost 35 = .ok (.iaload, 1) := by decide +kernel
theorem dB_cost_36 : decode cB_cost 36 = .ok (.iload_n 1, 1) := by decide +kernel
theorem dB_cost_37 : decode cB_cost 37 = .ok (.if_icmp .ne 11, 3) := by decide +kernel
theorem dB_cost_40 : decode cB_cost 40 = .ok (.iload_n 2, 1) := by decide +kernel
theorem dB_cost_41 : decode cB_cost 41 = .ok (.aload_n 0, 1) := by decide +kernel
theorem dB_cost_42 : decode cB_cost 42 = .ok (.iload_n 3, 1) := by decide +kernel
theorem dB_cost_43 : decode cB_cost 43 = .ok (.invokevirtual 162, 3) := by decide +kernel
theorem dB_cost_46 : decode cB_cost 46 = .ok (.iadd, 1) := by decide +kernel
end
section
theorem dB_cost_47 : decode cB_cost 47 = .ok (.istore_n 2, 1) := by decide +kernel
theorem dB_cost_48 : decode cB_cost 48 = .ok (.iinc 3 1, 3) := by decide +kernel
theorem dB_cost_51 : decode cB_cost 51 = .ok (.goto (-29), 3) := by decide +kernel
theorem dB_cost_54 : decode cB_cost 54 = .ok (.iload_n 2, 1) := by decide +kernel
theorem dB_cost_55 : decode cB_cost 55 = .ok (.ireturn, 1) := by decide +kernel
theorem dB_named_0 : decode cB_named 0 = .ok (.aload_n 0, 1) := by decide +kernel
theorem dB_named_1 : decode cB_named 1 = .ok (.iconst 0, 1) := by decide +kernel
theorem dB_named_2 : decode cB_named 2 = .ok (.putfield 95, 3) := by decide +kernel
theorem dB_named_5 : decode cB_named 5 = .ok (.iconst 0, 1) := by decide +kernel
theorem dB_named_6 : decode cB_named 6 = .ok (.istore_n 2, 1) := by decide +kernel
theorem dB_named_7 : decode cB_named 7 = .ok (.iload_n 2, 1) := by decide +kernel
theorem dB_named_8 : decode cB_named 8 = .ok (.aload_n 0, 1) := by decide +kernel
theorem dB_named_9 : decode cB_named 9 = .ok (.getfield 135, 3) := by decide +kernel
theorem dB_named_12 : decode cB_named 12 = .ok (.if_icmp .ge 30, 3) := by decide +kernel
theorem dB_named_15 : decode cB_named 15 = .ok (.aload_n 0, 1) := by decide +kernel
theorem dB_named_16 : decode cB_named 16 = .ok (.getfield 86, 3) := by decide +kernel
theorem dB_named_19 : decode cB_named 19 = .ok (.iload_n 2, 1) := by decide +kernel
theorem dB_named_20 : decode cB_named 20 = .ok (.iaload, 1) := by decide +kernel
theorem dB_named_21 : decode cB_named 21 = .ok (.ifCond .ge 15, 3) := by decide +kernel
theorem dB_named_24 : decode cB_named 24 = .ok (.aload_n 0, 1) := by decide +kernel
theorem dB_named_25 : decode cB_named 25 = .ok (.getfield 74, 3) := by decide +kernel
theorem dB_named_28 : decode cB_named 28 = .ok (.iload_n 2, 1) := by decide +kernel
theorem dB_named_29 : decode cB_named 29 = .ok (.iaload, 1) := by decide +kernel
theorem dB_named_30 : decode cB_named 30 = .ok (.iload_n 1, 1) := by decide +kernel
theorem dB_named_31 : decode cB_named 31 = .ok (.if_icmp .ne 5, 3) := by decide +kernel
theorem dB_named_34 : decode cB_named 34 = .ok (.iload_n 2, 1) := by decide +kernel
theorem dB_named_35 : decode cB_named 35 = .ok (.ireturn, 1) := by decide +kernel
theorem dB_named_36 : decode cB_named 36 = .ok (.iinc 2 1, 3) := by decide +kernel
theorem dB_named_39 : decode cB_named 39 = .ok (.goto (-32), 3) := by decide +kernel
theorem dB_named_42 : decode cB_named 42 = .ok (.iconst (-1), 1) := by decide +kernel
theorem dB_named_43 : decode cB_named 43 = .ok (.ireturn, 1) := by decide +kernel
theorem dB_hand_0 : decode cB_hand 0 = .ok (.iload_n 1, 1) := by decide +kernel
theorem dB_hand_1 : decode cB_hand 1 = .ok (.iconst 0, 1) := by decide +kernel
theorem dB_hand_2 : decode cB_hand 2 = .ok (.bipush 99, 2) := by decide +kernel
theorem dB_hand_4 : decode cB_hand 4 = .ok (.invokestatic 102, 3) := by decide +kernel
theorem dB_hand_7 : decode cB_hand 7 = .ok (.ifCond .eq 15, 3) := by decide +kernel
theorem dB_hand_10 : decode cB_hand 10 = .ok (.aload_n 0, 1) := by decide +kernel
theorem dB_hand_11 : decode cB_hand 11 = .ok (.iload_n 2, 1) := by decide +kernel
theorem dB_hand_12 : decode cB_hand 12 = .ok (.invokevirtual 110, 3) := by decide +kernel
theorem dB_hand_15 : decode cB_hand 15 = .ok (.ifCond .eq 7, 3) := by decide +kernel
theorem dB_hand_18 : decode cB_hand 18 = .ok (.iconst 1, 1) := by decide +kernel
theorem dB_hand_19 : decode cB_hand 19 = .ok (.goto 4, 3) := by decide +kernel
theorem dB_hand_22 : decode cB_hand 22 = .ok (.iconst 0, 1) := by decide +kernel
theorem dB_hand_23 : decode cB_hand 23 = .ok (.istore_n 3, 1) := by decide +kernel
theorem dB_hand_24 : decode cB_hand 24 = .ok (.aload_n 0, 1) := by decide +kernel
theorem dB_hand_25 : decode cB_hand 25 = .ok (.iconst 5, 1) := by decide +kernel
theorem dB_hand_26 : decode cB_hand 26 = .ok (.iload_n 3, 1) := by decide +kernel
theorem dB_hand_27 : decode cB_hand 27 = .ok (.iconst 1, 1) := by decide +kernel
theorem dB_hand_28 : decode cB_hand 28 = .ok (.iload_n 3, 1) := by decide +kernel
theorem dB_hand_29 : decode cB_hand 29 = .ok (.ifCond .eq 25, 3) := by decide +kernel
theorem dB_hand_32 : decode cB_hand 32 = .ok (.aload_n 0, 1) := by decide +kernel
theorem dB_hand_33 : decode cB_hand 33 = .ok (.getfield 92, 3) := by decide +kernel
theorem dB_hand_36 : decode cB_hand 36 = .ok (.iload_n 1, 1) := by decide +kernel
theorem dB_hand_37 : decode cB_hand 37 = .ok (.iaload, 1) := by decide +kernel
theorem dB_hand_38 : decode cB_hand 38 = .ok (.ifCond .ge 16, 3) := by decide +kernel
theorem dB_hand_41 : decode cB_hand 41 = .ok (.aload_n 0, 1) := by decide +kernel
theorem dB_hand_42 : decode cB_hand 42 = .ok (.getfield 16, 3) := by decide +kernel
theorem dB_hand_45 : decode cB_hand 45 = .ok (.iload_n 2, 1) := by decide +kernel
theorem dB_hand_46 : decode cB_hand 46 = .ok (.baload, 1) := by decide +kernel
theorem dB_hand_47 : decode cB_hand 47 = .ok (.ifCond .ne 7, 3) := by decide +kernel
theorem dB_hand_50 : decode cB_hand 50 = .ok (.iconst 1, 1) := by decide +kernel
theorem dB_hand_51 : decode cB_hand 51 = .ok (.goto 4, 3) := by decide +kernel
theorem dB_hand_54 : decode cB_hand 54 = .ok (.iconst 0, 1) := by decide +kernel
theorem dB_hand_55 : decode cB_hand 55 = .ok (.iconst 1, 1) := by decide +kernel
theorem dB_hand_56 : decode cB_hand 56 = .ok (.invokevirtual 106, 3) := by decide +kernel
theorem dB_hand_59 : decode cB_hand 59 = .ok (.ifCond .eq 10, 3) := by decide +kernel
theorem dB_hand_62 : decode cB_hand 62 = .ok (.aload_n 0, 1) := by decide +kernel
theorem dB_hand_63 : decode cB_hand 63 = .ok (.getfield 92, 3) := by decide +kernel
theorem dB_hand_66 : decode cB_hand 66 = .ok (.iload_n 1, 1) := by decide +kernel
theorem dB_hand_67 : decode cB_hand 67 = .ok (.iload_n 2, 1) := by decide +kernel
theorem dB_hand_68 : decode cB_hand 68 = .ok (.iastore, 1) := by decide +kernel
theorem dB_hand_69 : decode cB_hand 69 = .ok (.return_, 1) := by decide +kernel
theorem dB_handed_0 : decode cB_handed 0 = .ok (.aload_n 0, 1) := by decide +kernel
theorem dB_handed_1 : decode cB_handed 1 = .ok (.iconst 1, 1) := by decide +kernel
theorem dB_handed_2 : decode cB_handed 2 = .ok (.iload_n 1, 1) := by decide +kernel
theorem dB_handed_3 : decode cB_handed 3 = .ok (.iconst 0, 1) := by decide +kernel
theorem dB_handed_4 : decode cB_handed 4 = .ok (.bipush 99, 2) := by decide +kernel
theorem dB_handed_6 : decode cB_handed 6 = .ok (.invokestatic 102, 3) := by decide +kernel
theorem dB_handed_9 : decode cB_handed 9 = .ok (.iconst 1, 1) := by decide +kernel
theorem dB_handed_10 : decode cB_handed 10 = .ok (.iconst 1, 1) := by decide +kernel
theorem dB_handed_11 : decode cB_handed 11 = .ok (.iconst 1, 1) := by decide +kernel
theorem dB_handed_12 : decode cB_handed 12 = .ok (.invokevirtual 106, 3) := by decide +kernel
theorem dB_handed_15 : decode cB_handed 15 = .ok (.ifCond .ne 5, 3) := by decide +kernel
theorem dB_handed_18 : decode cB_handed 18 = .ok (.iconst 0, 1) := by decide +kernel
theorem dB_handed_19 : decode cB_handed 19 = .ok (.ireturn, 1) := by decide +kernel
theorem dB_handed_20 : decode cB_handed 20 = .ok (.aload_n 0, 1) := by decide +kernel
theorem dB_handed_21 : decode cB_handed 21 = .ok (.getfield 92, 3) := by decide +kernel
theorem dB_handed_24 : decode cB_handed 24 = .ok (.iload_n 1, 1) := by decide +kernel
theorem dB_handed_25 : decode cB_handed 25 = .ok (.iaload, 1) := by decide +kernel
theorem dB_handed_26 : decode cB_handed 26 = .ok (.ireturn, 1) := by decide +kernel
theorem dB_count_0 : decode cB_count 0 = .ok (.aload_n 0, 1) := by decide +kernel
theorem dB_count_1 : decode cB_count 1 = .ok (.iconst 1, 1) := by decide +kernel
theorem dB_count_2 : decode cB_count 2 = .ok (.iload_n 1, 1) := by decide +kernel
theorem dB_count_3 : decode cB_count 3 = .ok (.iconst 0, 1) := by decide +kernel
theorem dB_count_4 : decode cB_count 4 = .ok (.iconst 4, 1) := by decide +kernel
theorem dB_count_5 : decode cB_count 5 = .ok (.invokestatic 102, 3) := by decide +kernel
theorem dB_count_8 : decode cB_count 8 = .ok (.iconst 1, 1) := by decide +kernel
theorem dB_count_9 : decode cB_count 9 = .ok (.iconst 1, 1) := by decide +kernel
theorem dB_count_10 : decode cB_count 10 = .ok (.iconst 1, 1) := by decide +kernel
theorem dB_count_11 : decode cB_count 11 = .ok (.invokevirtual 106, 3) := by decide +kernel
theorem dB_count_14 : decode cB_count 14 = .ok (.ifCond .ne 5, 3) := by decide +kernel
theorem dB_count_17 : decode cB_count 17 = .ok (.iconst 0, 1) := by decide +kernel
theorem dB_count_18 : decode cB_count 18 = .ok (.ireturn, 1) := by decide +kernel
theorem dB_count_19 : decode cB_count 19 = .ok (.iconst 0, 1) := by decide +kernel
theorem dB_count_20 : decode cB_count 20 = .ok (.istore_n 2, 1) := by decide +kernel
theorem dB_count_21 : decode cB_count 21 = .ok (.iconst 0, 1) := by decide +kernel
theorem dB_count_22 : decode cB_count 22 = .ok (.istore_n 3, 1) := by decide +kernel
theorem dB_count_23 : decode cB_count 23 = .ok (.iload_n 3, 1) := by decide +kernel
theorem dB_count_24 : decode cB_count 24 = .ok (.aload_n 0, 1) := by decide +kernel
theorem dB_count_25 : decode cB_count 25 = .ok (.getfield 135, 3) := by decide +kernel
theorem dB_count_28 : decode cB_count 28 = .ok (.if_icmp .ge 26, 3) := by decide +kernel
theorem dB_count_31 : decode cB_count 31 = .ok (.iload_n 1, 1) := by decide +kernel
theorem dB_count_32 : decode cB_count 32 = .ok (.iconst 1, 1) := by decide +kernel
theorem dB_count_33 : decode cB_count 33 = .ok (.if_icmp .ne 15, 3) := by decide +kernel
theorem dB_count_36 : decode cB_count 36 = .ok (.aload_n 0, 1) := by decide +kernel
theorem dB_count_37 : decode cB_count 37 = .ok (.getfield 86, 3) := by decide +kernel
theorem dB_count_40 : decode cB_count 40 = .ok (.iload_n 3, 1) := by decide +kernel
theorem dB_count_41 : decode cB_count 41 = .ok (.iaload, 1) := by decide +kernel
theorem dB_count_42 : decode cB_count 42 = .ok (.ifCond .ge 6, 3) := by decide +kernel
theorem dB_count_45 : decode cB_count 45 = .ok (.iinc 2 1, 3) := by decide +kernel
theorem dB_count_48 : decode cB_count 48 = .ok (.iinc 3 1, 3) := by decide +kernel
theorem dB_count_51 : decode cB_count 51 = .ok (.goto (-28), 3) := by decide +kernel
theorem dB_count_54 : decode cB_count 54 = .ok (.iconst 0, 1) := by decide +kernel
theorem dB_count_55 : decode cB_count 55 = .ok (.istore_n 3, 1) := by decide +kernel
theorem dB_count_56 : decode cB_count 56 = .ok (.iload_n 3, 1) := by decide +kernel
theorem dB_count_57 : decode cB_count 57 = .ok (.aload_n 0, 1) := by decide +kernel
theorem dB_count_58 : decode cB_count 58 = .ok (.getfield 128, 3) := by decide +kernel
theorem dB_count_61 : decode cB_count 61 = .ok (.if_icmp .ge 26, 3) := by decide +kernel
theorem dB_count_64 : decode cB_count 64 = .ok (.iload_n 1, 1) := by decide +kernel
theorem dB_count_65 : decode cB_count 65 = .ok (.iconst 2, 1) := by decide +kernel
theorem dB_count_66 : decode cB_count 66 = .ok (.if_icmp .ne 15, 3) := by decide +kernel
theorem dB_count_69 : decode cB_count 69 = .ok (.aload_n 0, 1) := by decide +kernel
theorem dB_count_70 : decode cB_count 70 = .ok (.getfield 50, 3) := by decide +kernel
theorem dB_count_73 : decode cB_count 73 = .ok (.iload_n 3, 1) := by decide +kernel
theorem dB_count_74 : decode cB_count 74 = .ok (.iaload, 1) := by decide +kernel
theorem dB_count_75 : decode cB_count 75 = .ok (.ifCond .ne 6, 3) := by decide +kernel
theorem dB_count_78 : decode cB_count 78 = .ok (.iinc 2 1, 3) := by decide +kernel
theorem dB_count_81 : decode cB_count 81 = .ok (.iinc 3 1, 3) := by decide +kernel
theorem dB_count_84 : decode cB_count 84 = .ok (.goto (-28), 3) := by decide +kernel
theorem dB_count_87 : decode cB_count 87 = .ok (.iload_n 1, 1) := by decide +kernel
theorem dB_count_88 : decode cB_count 88 = .ok (.ifCond .ne 10, 3) := by decide +kernel
theorem dB_count_91 : decode cB_count 91 = .ok (.aload_n 0, 1) := by decide +kernel
theorem dB_count_92 : decode cB_count 92 = .ok (.getfield 118, 3) := by decide +kernel
theorem dB_count_95 : decode cB_count 95 = .ok (.goto 28, 3) := by decide +kernel
theorem dB_count_98 : decode cB_count 98 = .ok (.iload_n 1, 1) := by decide +kernel
theorem dB_count_99 : decode cB_count 99 = .ok (.iconst 3, 1) := by decide +kernel
theorem dB_count_100 : decode cB_count 100 = .ok (.if_icmp .ne 10, 3) := by decide +kernel
theorem dB_count_103 : decode cB_count 103 = .ok (.aload_n 0, 1) := by decide +kernel
theorem dB_count_104 : decode cB_count 104 = .ok (.getfield 149, 3) := by decide +kernel
theorem dB_count_107 : decode cB_count 107 = .ok (.goto 16, 3) := by decide +kernel
theorem dB_count_110 : decode cB_count 110 = .ok (.iload_n 1, 1) := by decide +kernel
theorem dB_count_111 : decode cB_count 111 = .ok (.iconst 4, 1) := by decide +kernel
theorem dB_count_112 : decode cB_count 112 = .ok (.if_icmp .ne 10, 3) := by decide +kernel
theorem dB_count_115 : decode cB_count 115 = .ok (.aload_n 0, 1) := by decide +kernel
theorem dB_count_116 : decode cB_count 116 = .ok (.getfield 152, 3) := by decide +kernel
theorem dB_count_119 : decode cB_count 119 = .ok (.goto 4, 3) := by decide +kernel
theorem dB_count_122 : decode cB_count 122 = .ok (.iload_n 2, 1) := by decide +kernel
theorem dB_count_123 : decode cB_count 123 = .ok (.ireturn, 1) := by decide +kernel
theorem dL_house_0 : decode cL_house 0 = .ok (.aload_n 3, 1) := by decide +kernel
theorem dL_house_1 : decode cL_house 1 = .ok (.iconst 0, 1) := by decide +kernel
theorem dL_house_2 : decode cL_house 2 = .ok (.aload_n 0, 1) := by decide +kernel
theorem dL_house_3 : decode cL_house 3 = .ok (.iload_n 1, 1) := by decide +kernel
theorem dL_house_4 : decode cL_house 4 = .ok (.iload_n 2, 1) := by decide +kernel
theorem dL_house_5 : decode cL_house 5 = .ok (.invokevirtual 7, 3) := by decide +kernel
theorem dL_house_8 : decode cL_house 8 = .ok (.i2l, 1) := by decide +kernel
theorem dL_house_9 : decode cL_house 9 = .ok (.lastore, 1) := by decide +kernel
theorem dL_house_10 : decode cL_house 10 = .ok (.goto 11, 3) := by decide +kernel
theorem dL_house_13 : decode cL_house 13 = .ok (.astore 4, 2) := by decide +kernel
theorem dL_house_15 : decode cL_house 15 = .ok (.iconst 1, 1) := by decide +kernel
theorem dL_house_16 : decode cL_house 16 = .ok (.ireturn, 1) := by decide +kernel
theorem dL_house_17 : decode cL_house 17 = .ok (.astore 4, 2) := by decide +kernel
theorem dL_house_19 : decode cL_house 19 = .ok (.iconst 2, 1) := by decide +kernel
theorem dL_house_20 : decode cL_house 20 = .ok (.ireturn, 1) := by decide +kernel
theorem dL_house_21 : decode cL_house 21 = .ok (.iconst 0, 1) := by decide +kernel
theorem dL_house_22 : decode cL_house 22 = .ok (.ireturn, 1) := by decide +kernel
theorem dL_agree_0 : decode cL_agree 0 = .ok (.aload 7, 2) := by decide +kernel
theorem dL_agree_2 : decode cL_agree 2 = .ok (.iconst 0, 1) := by decide +kernel
theorem dL_agree_3 : decode cL_agree 3 = .ok (.aload_n 0, 1) := by decide +kernel
theorem dL_agree_4 : decode cL_agree 4 = .ok (.iload_n 1, 1) := by decide +kernel
theorem dL_agree_5 : decode cL_agree 5 = .ok (.iload_n 2, 1) := by decide +kernel
theorem dL_agree_6 : decode cL_agree 6 = .ok (.iload_n 3, 1) := by decide +kernel
theorem dL_agree_7 : decode cL_agree 7 = .ok (.iload 4, 2) := by decide +kernel
theorem dL_agree_9 : decode cL_agree 9 = .ok (.iload 5, 2) := by decide +kernel
theorem dL_agree_11 : decode cL_agree 11 = .ok (.iload 6, 2) := by decide +kernel
theorem dL_agree_13 : decode cL_agree 13 = .ok (.invokevirtual 17, 3) := by decide +kernel
theorem dL_agree_16 : decode cL_agree 16 = .ok (.i2l, 1) := by decide +kernel
theorem dL_agree_17 : decode cL_agree 17 = .ok (.lastore, 1) := by decide +kernel
theorem dL_agree_18 : decode cL_agree 18 = .ok (.goto 19, 3) := by decide +kernel
theorem dL_agree_21 : decode cL_agree 21 = .ok (.astore 8, 2) := by decide +kernel
theorem dL_agree_23 : decode cL_agree 23 = .ok (.iconst 1, 1) := by decide +kernel
theorem dL_agree_24 : decode cL_agree 24 = .ok (.ireturn, 1) := by decide +kernel
theorem dL_agree_25 : decode cL_agree 25 = .ok (.astore 8, 2) := by decide +kernel
theorem dL_agree_27 : decode cL_agree 27 = .ok (.iconst 2, 1) := by decide +kernel
theorem dL_agree_28 : decode cL_agree 28 = .ok (.ireturn, 1) := by decide +kernel
theorem dL_agree_29 : decode cL_agree 29 = .ok (.astore 8, 2) := by decide +kernel
theorem dL_agree_31 : decode cL_agree 31 = .ok (.iconst 3, 1) := by decide +kernel
theorem dL_agree_32 : decode cL_agree 32 = .ok (.ireturn, 1) := by decide +kernel
theorem dL_agree_33 : decode cL_agree 33 = .ok (.astore 8, 2) := by decide +kernel
theorem dL_agree_35 : decode cL_agree 35 = .ok (.iconst 4, 1) := by decide +kernel
theorem dL_agree_36 : decode cL_agree 36 = .ok (.ireturn, 1) := by decide +kernel
theorem dL_agree_37 : decode cL_agree 37 = .ok (.iconst 0, 1) := by decide +kernel
theorem dL_agree_38 : decode cL_agree 38 = .ok (.ireturn, 1) := by decide +kernel
theorem dL_ask_0 : decode cL_ask 0 = .ok (.aload 4, 2) := by decide +kernel
theorem dL_ask_2 : decode cL_ask 2 = .ok (.iconst 0, 1) := by decide +kernel
theorem dL_ask_3 : decode cL_ask 3 = .ok (.aload_n 0, 1) := by decide +kernel
theorem dL_ask_4 : decode cL_ask 4 = .ok (.iload_n 1, 1) := by decide +kernel
theorem dL_ask_5 : decode cL_ask 5 = .ok (.iload_n 2, 1) := by decide +kernel
theorem dL_ask_6 : decode cL_ask 6 = .ok (.iload_n 3, 1) := by decide +kernel
theorem dL_ask_7 : decode cL_ask 7 = .ok (.invokevirtual 25, 3) := by decide +kernel
theorem dL_ask_10 : decode cL_ask 10 = .ok (.i2l, 1) := by decide +kernel
theorem dL_ask_11 : decode cL_ask 11 = .ok (.lastore, 1) := by decide +kernel
theorem dL_ask_12 : decode cL_ask 12 = .ok (.goto 15, 3) := by decide +kernel
theorem dL_ask_15 : decode cL_ask 15 = .ok (.astore 5, 2) := by decide +kernel
theorem dL_ask_17 : decode cL_ask 17 = .ok (.iconst 1, 1) := by decide +kernel
theorem dL_ask_18 : decode cL_ask 18 = .ok (.ireturn, 1) := by decide +kernel
theorem dL_ask_19 : decode cL_ask 19 = .ok (.astore 5, 2) := by decide +kernel
theorem dL_ask_21 : decode cL_ask 21 = .ok (.iconst 2, 1) := by decide +kernel
theorem dL_ask_22 : decode cL_ask 22 = .ok (.ireturn, 1) := by decide +kernel
theorem dL_ask_23 : decode cL_ask 23 = .ok (.astore 5, 2) := by decide +kernel
theorem dL_ask_25 : decode cL_ask 25 = .ok (.iconst 3, 1) := by decide +kernel
theorem dL_ask_26 : decode cL_ask 26 = .ok (.ireturn, 1) := by decide +kernel
theorem dL_ask_27 : decode cL_ask 27 = .ok (.iconst 0, 1) := by decide +kernel
theorem dL_ask_28 : decode cL_ask 28 = .ok (.ireturn, 1) := by decide +kernel
theorem dL_message_0 : decode cL_message 0 = .ok (.aload 6, 2) := by decide +kernel
theorem dL_message_2 : decode cL_message 2 = .ok (.iconst 0, 1) := by decide +kernel
theorem dL_message_3 : decode cL_message 3 = .ok (.aload_n 0, 1) := by decide +kernel
theorem dL_message_4 : decode cL_message 4 = .ok (.iload_n 1, 1) := by decide +kernel
theorem dL_message_5 : decode cL_message 5 = .ok (.iload_n 2, 1) := by decide +kernel
theorem dL_message_6 : decode cL_message 6 = .ok (.iload_n 3, 1) := by decide +kernel
theorem dL_message_7 : decode cL_message 7 = .ok (.iload 4, 2) := by decide +kernel
theorem dL_message_9 : decode cL_message 9 = .ok (.iload 5, 2) := by decide +kernel
theorem dL_message_11 : decode cL_message 11 = .ok (.invokevirtual 29, 3) := by decide +kernel
theorem dL_message_14 : decode cL_message 14 = .ok (.i2l, 1) := by decide +kernel
theorem dL_message_15 : decode cL_message 15 = .ok (.lastore, 1) := by decide +kernel
theorem dL_message_16 : decode cL_message 16 = .ok (.goto 15, 3) := by decide +kernel
theorem dL_message_19 : decode cL_message 19 = .ok (.astore 7, 2) := by decide +kernel
theorem dL_message_21 : decode cL_message 21 = .ok (.iconst 1, 1) := by decide +kernel
theorem dL_message_22 : decode cL_message 22 = .ok (.ireturn, 1) := by decide +kernel
theorem dL_message_23 : decode cL_message 23 = .ok (.astore 7, 2) := by decide +kernel
theorem dL_message_25 : decode cL_message 25 = .ok (.iconst 2, 1) := by decide +kernel
theorem dL_message_26 : decode cL_message 26 = .ok (.ireturn, 1) := by decide +kernel
theorem dL_message_27 : decode cL_message 27 = .ok (.astore 7, 2) := by decide +kernel
theorem dL_message_29 : decode cL_message 29 = .ok (.iconst 3, 1) := by decide +kernel
theorem dL_message_30 : decode cL_message 30 = .ok (.ireturn, 1) := by decide +kernel
theorem dL_message_31 : decode cL_message 31 = .ok (.iconst 0, 1) := by decide +kernel
theorem dL_message_32 : decode cL_message 32 = .ok (.ireturn, 1) := by decide +kernel
theorem dL_seen_0 : decode cL_seen 0 = .ok (.aload_n 3, 1) := by decide +kernel
theorem dL_seen_1 : decode cL_seen 1 = .ok (.iconst 0, 1) := by decide +kernel
theorem dL_seen_2 : decode cL_seen 2 = .ok (.aload_n 0, 1) := by decide +kernel
theorem dL_seen_3 : decode cL_seen 3 = .ok (.iload_n 1, 1) := by decide +kernel
theorem dL_seen_4 : decode cL_seen 4 = .ok (.iload_n 2, 1) := by decide +kernel
theorem dL_seen_5 : decode cL_seen 5 = .ok (.invokevirtual 33, 3) := by decide +kernel
theorem dL_seen_8 : decode cL_seen 8 = .ok (.i2l, 1) := by decide +kernel
theorem dL_seen_9 : decode cL_seen 9 = .ok (.lastore, 1) := by decide +kernel
theorem dL_seen_10 : decode cL_seen 10 = .ok (.goto 11, 3) := by decide +kernel
theorem dL_seen_13 : decode cL_seen 13 = .ok (.astore 4, 2) := by decide +kernel
theorem dL_seen_15 : decode cL_seen 15 = .ok (.iconst 1, 1) := by decide +kernel
theorem dL_seen_16 : decode cL_seen 16 = .ok (.ireturn, 1) := by decide +kernel
theorem dL_seen_17 : decode cL_seen 17 = .ok (.astore 4, 2) := by decide +kernel
theorem dL_seen_19 : decode cL_seen 19 = .ok (.iconst 2, 1) := by decide +kernel
theorem dL_seen_20 : decode cL_seen 20 = .ok (.ireturn, 1) := by decide +kernel
theorem dL_seen_21 : decode cL_seen 21 = .ok (.iconst 0, 1) := by decide +kernel
theorem dL_seen_22 : decode cL_seen 22 = .ok (.ireturn, 1) := by decide +kernel
theorem dL_tick_0 : decode cL_tick 0 = .ok (.aload_n 2, 1) := by decide +kernel
theorem dL_tick_1 : decode cL_tick 1 = .ok (.iconst 0, 1) := by decide +kernel
theorem dL_tick_2 : decode cL_tick 2 = .ok (.aload_n 0, 1) := by decide +kernel
theorem dL_tick_3 : decode cL_tick 3 = .ok (.iload_n 1, 1) := by decide +kernel
theorem dL_tick_4 : decode cL_tick 4 = .ok (.invokevirtual 36, 3) := by decide +kernel
theorem dL_tick_7 : decode cL_tick 7 = .ok (.i2l, 1) := by decide +kernel
theorem dL_tick_8 : decode cL_tick 8 = .ok (.lastore, 1) := by decide +kernel
theorem dL_tick_9 : decode cL_tick 9 = .ok (.goto 6, 3) := by decide +kernel
theorem dL_tick_12 : decode cL_tick 12 = .ok (.astore_n 3, 1) := by decide +kernel
theorem dL_tick_13 : decode cL_tick 13 = .ok (.iconst 1, 1) := by decide +kernel
theorem dL_tick_14 : decode cL_tick 14 = .ok (.ireturn, 1) := by decide +kernel
theorem dL_tick_15 : decode cL_tick 15 = .ok (.iconst 0, 1) := by decide +kernel
theorem dL_tick_16 : decode cL_tick 16 = .ok (.ireturn, 1) := by decide +kernel
theorem dL_cut_0 : decode cL_cut 0 = .ok (.aload_n 0, 1) := by decide +kernel
theorem dL_cut_1 : decode cL_cut 1 = .ok (.iload_n 1, 1) := by decide +kernel
theorem dL_cut_2 : decode cL_cut 2 = .ok (.iload_n 2, 1) := by decide +kernel
theorem dL_cut_3 : decode cL_cut 3 = .ok (.invokevirtual 40, 3) := by decide +kernel
theorem dL_cut_6 : decode cL_cut 6 = .ok (.goto 9, 3) := by decide +kernel
theorem dL_cut_9 : decode cL_cut 9 = .ok (.astore_n 3, 1) := by decide +kernel
theorem dL_cut_10 : decode cL_cut 10 = .ok (.iconst 1, 1) := by decide +kernel
theorem dL_cut_11 : decode cL_cut 11 = .ok (.ireturn, 1) := by decide +kernel
theorem dL_cut_12 : decode cL_cut 12 = .ok (.astore_n 3, 1) := by decide +kernel
theorem dL_cut_13 : decode cL_cut 13 = .ok (.iconst 2, 1) := by decide +kernel
theorem dL_cut_14 : decode cL_cut 14 = .ok (.ireturn, 1) := by decide +kernel
theorem dL_cut_15 : decode cL_cut 15 = .ok (.iconst 0, 1) := by decide +kernel
theorem dL_cut_16 : decode cL_cut 16 = .ok (.ireturn, 1) := by decide +kernel
theorem dL_end_0 : decode cL_end 0 = .ok (.aload_n 0, 1) := by decide +kernel
theorem dL_end_1 : decode cL_end 1 = .ok (.iload_n 1, 1) := by decide +kernel
theorem dL_end_2 : decode cL_end 2 = .ok (.invokevirtual 44, 3) := by decide +kernel
theorem dL_end_5 : decode cL_end 5 = .ok (.goto 9, 3) := by decide +kernel
theorem dL_end_8 : decode cL_end 8 = .ok (.astore_n 2, 1) := by decide +kernel
theorem dL_end_9 : decode cL_end 9 = .ok (.iconst 1, 1) := by decide +kernel
theorem dL_end_10 : decode cL_end 10 = .ok (.ireturn, 1) := by decide +kernel
theorem dL_end_11 : decode cL_end 11 = .ok (.astore_n 2, 1) := by decide +kernel
theorem dL_end_12 : decode cL_end 12 = .ok (.iconst 2, 1) := by decide +kernel
theorem dL_end_13 : decode cL_end 13 = .ok (.ireturn, 1) := by decide +kernel
theorem dL_end_14 : decode cL_end 14 = .ok (.iconst 0, 1) := by decide +kernel
theorem dL_end_15 : decode cL_end 15 = .ok (.ireturn, 1) := by decide +kernel
theorem dL_askAt_0 : decode cL_askAt 0 = .ok (.aload_n 3, 1) := by decide +kernel
theorem dL_askAt_1 : decode cL_askAt 1 = .ok (.iconst 0, 1) := by decide +kernel
theorem dL_askAt_2 : decode cL_askAt 2 = .ok (.aload_n 0, 1) := by decide +kernel
theorem dL_askAt_3 : decode cL_askAt 3 = .ok (.iload_n 1, 1) := by decide +kernel
theorem dL_askAt_4 : decode cL_askAt 4 = .ok (.iload_n 2, 1) := by decide +kernel
theorem dL_askAt_5 : decode cL_askAt 5 = .ok (.invokevirtual 48, 3) := by decide +kernel
theorem dL_askAt_8 : decode cL_askAt 8 = .ok (.i2l, 1) := by decide +kernel
theorem dL_askAt_9 : decode cL_askAt 9 = .ok (.lastore, 1) := by decide +kernel
theorem dL_askAt_10 : decode cL_askAt 10 = .ok (.goto 7, 3) := by decide +kernel
theorem dL_askAt_13 : decode cL_askAt 13 = .ok (.astore 4, 2) := by decide +kernel
theorem dL_askAt_15 : decode cL_askAt 15 = .ok (.iconst 1, 1) := by decide +kernel
theorem dL_askAt_16 : decode cL_askAt 16 = .ok (.ireturn, 1) := by decide +kernel
theorem dL_askAt_17 : decode cL_askAt 17 = .ok (.iconst 0, 1) := by decide +kernel
theorem dL_askAt_18 : decode cL_askAt 18 = .ok (.ireturn, 1) := by decide +kernel
theorem dL_loanAt_0 : decode cL_loanAt 0 = .ok (.aload_n 3, 1) := by decide +kernel
theorem dL_loanAt_1 : decode cL_loanAt 1 = .ok (.iconst 0, 1) := by decide +kernel
theorem dL_loanAt_2 : decode cL_loanAt 2 = .ok (.aload_n 0, 1) := by decide +kernel
theorem dL_loanAt_3 : decode cL_loanAt 3 = .ok (.iload_n 1, 1) := by decide +kernel
theorem dL_loanAt_4 : decode cL_loanAt 4 = .ok (.iload_n 2, 1) := by decide +kernel
theorem dL_loanAt_5 : decode cL_loanAt 5 = .ok (.invokevirtual 51, 3) := by decide +kernel
theorem dL_loanAt_8 : decode cL_loanAt 8 = .ok (.i2l, 1) := by decide +kernel
theorem dL_loanAt_9 : decode cL_loanAt 9 = .ok (.lastore, 1) := by decide +kernel
theorem dL_loanAt_10 : decode cL_loanAt 10 = .ok (.goto 7, 3) := by decide +kernel
theorem dL_loanAt_13 : decode cL_loanAt 13 = .ok (.astore 4, 2) := by decide +kernel
theorem dL_loanAt_15 : decode cL_loanAt 15 = .ok (.iconst 1, 1) := by decide +kernel
theorem dL_loanAt_16 : decode cL_loanAt 16 = .ok (.ireturn, 1) := by decide +kernel
theorem dL_loanAt_17 : decode cL_loanAt 17 = .ok (.iconst 0, 1) := by decide +kernel
theorem dL_loanAt_18 : decode cL_loanAt 18 = .ok (.ireturn, 1) := by decide +kernel
theorem dL_cost_0 : decode cL_cost 0 = .ok (.aload_n 2, 1) := by decide +kernel
theorem dL_cost_1 : decode cL_cost 1 = .ok (.iconst 0, 1) := by decide +kernel
theorem dL_cost_2 : decode cL_cost 2 = .ok (.aload_n 0, 1) := by decide +kernel
theorem dL_cost_3 : decode cL_cost 3 = .ok (.iload_n 1, 1) := by decide +kernel
theorem dL_cost_4 : decode cL_cost 4 = .ok (.invokevirtual 54, 3) := by decide +kernel
theorem dL_cost_7 : decode cL_cost 7 = .ok (.i2l, 1) := by decide +kernel
theorem dL_cost_8 : decode cL_cost 8 = .ok (.lastore, 1) := by decide +kernel
theorem dL_cost_9 : decode cL_cost 9 = .ok (.goto 6, 3) := by decide +kernel
theorem dL_cost_12 : decode cL_cost 12 = .ok (.astore_n 3, 1) := by decide +kernel
theorem dL_cost_13 : decode cL_cost 13 = .ok (.iconst 1, 1) := by decide +kernel
theorem dL_cost_14 : decode cL_cost 14 = .ok (.ireturn, 1) := by decide +kernel
theorem dL_cost_15 : decode cL_cost 15 = .ok (.iconst 0, 1) := by decide +kernel
theorem dL_cost_16 : decode cL_cost 16 = .ok (.ireturn, 1) := by decide +kernel
theorem dL_hand_0 : decode cL_hand 0 = .ok (.aload_n 0, 1) := by decide +kernel
theorem dL_hand_1 : decode cL_hand 1 = .ok (.iload_n 1, 1) := by decide +kernel
theorem dL_hand_2 : decode cL_hand 2 = .ok (.iload_n 2, 1) := by decide +kernel
theorem dL_hand_3 : decode cL_hand 3 = .ok (.invokevirtual 57, 3) := by decide +kernel
theorem dL_hand_6 : decode cL_hand 6 = .ok (.goto 9, 3) := by decide +kernel
theorem dL_hand_9 : decode cL_hand 9 = .ok (.astore_n 3, 1) := by decide +kernel
theorem dL_hand_10 : decode cL_hand 10 = .ok (.iconst 1, 1) := by decide +kernel
theorem dL_hand_11 : decode cL_hand 11 = .ok (.ireturn, 1) := by decide +kernel
theorem dL_hand_12 : decode cL_hand 12 = .ok (.astore_n 3, 1) := by decide +kernel
theorem dL_hand_13 : decode cL_hand 13 = .ok (.iconst 2, 1) := by decide +kernel
theorem dL_hand_14 : decode cL_hand 14 = .ok (.ireturn, 1) := by decide +kernel
theorem dL_hand_15 : decode cL_hand 15 = .ok (.iconst 0, 1) := by decide +kernel
theorem dL_hand_16 : decode cL_hand 16 = .ok (.ireturn, 1) := by decide +kernel
theorem dL_handed_0 : decode cL_handed 0 = .ok (.aload_n 2, 1) := by decide +kernel
theorem dL_handed_1 : decode cL_handed 1 = .ok (.iconst 0, 1) := by decide +kernel
theorem dL_handed_2 : decode cL_handed 2 = .ok (.aload_n 0, 1) := by decide +kernel
theorem dL_handed_3 : decode cL_handed 3 = .ok (.iload_n 1, 1) := by decide +kernel
theorem dL_handed_4 : decode cL_handed 4 = .ok (.invokevirtual 61, 3) := by decide +kernel
theorem dL_handed_7 : decode cL_handed 7 = .ok (.i2l, 1) := by decide +kernel
theorem dL_handed_8 : decode cL_handed 8 = .ok (.lastore, 1) := by decide +kernel
theorem dL_handed_9 : decode cL_handed 9 = .ok (.goto 6, 3) := by decide +kernel
theorem dL_handed_12 : decode cL_handed 12 = .ok (.astore_n 3, 1) := by decide +kernel
theorem dL_handed_13 : decode cL_handed 13 = .ok (.iconst 1, 1) := by decide +kernel
theorem dL_handed_14 : decode cL_handed 14 = .ok (.ireturn, 1) := by decide +kernel
theorem dL_handed_15 : decode cL_handed 15 = .ok (.iconst 0, 1) := by decide +kernel
theorem dL_handed_16 : decode cL_handed 16 = .ok (.ireturn, 1) := by decide +kernel
theorem dL_count_0 : decode cL_count 0 = .ok (.aload_n 2, 1) := by decide +kernel
theorem dL_count_1 : decode cL_count 1 = .ok (.iconst 0, 1) := by decide +kernel
theorem dL_count_2 : decode cL_count 2 = .ok (.aload_n 0, 1) := by decide +kernel
theorem dL_count_3 : decode cL_count 3 = .ok (.iload_n 1, 1) := by decide +kernel
theorem dL_count_4 : decode cL_count 4 = .ok (.invokevirtual 64, 3) := by decide +kernel
theorem dL_count_7 : decode cL_count 7 = .ok (.i2l, 1) := by decide +kernel
theorem dL_count_8 : decode cL_count 8 = .ok (.lastore, 1) := by decide +kernel
theorem dL_count_9 : decode cL_count 9 = .ok (.goto 6, 3) := by decide +kernel
theorem dL_count_12 : decode cL_count 12 = .ok (.astore_n 3, 1) := by decide +kernel
theorem dL_count_13 : decode cL_count 13 = .ok (.iconst 1, 1) := by decide +kernel
theorem dL_count_14 : decode cL_count 14 = .ok (.ireturn, 1) := by decide +kernel
theorem dL_count_15 : decode cL_count 15 = .ok (.iconst 0, 1) := by decide +kernel
theorem dL_count_16 : decode cL_count 16 = .ok (.ireturn, 1) := by decide +kernel
theorem dL_law_0 : decode cL_law 0 = .ok (.new 8, 3) := by decide +kernel
theorem dL_law_3 : decode cL_law 3 = .ok (.dup, 1) := by decide +kernel
theorem dL_law_4 : decode cL_law 4 = .ok (.invokespecial 67, 3) := by decide +kernel
theorem dL_law_7 : decode cL_law 7 = .ok (.astore_n 1, 1) := by decide +kernel
theorem dL_law_8 : decode cL_law 8 = .ok (.new 68, 3) := by decide +kernel
theorem dL_law_11 : decode cL_law 11 = .ok (.dup, 1) := by decide +kernel
theorem dL_law_12 : decode cL_law 12 = .ok (.invokespecial 70, 3) := by decide +kernel
theorem dL_law_15 : decode cL_law 15 = .ok (.astore_n 2, 1) := by decide +kernel
theorem dL_law_16 : decode cL_law 16 = .ok (.iconst 1, 1) := by decide +kernel
theorem dL_law_17 : decode cL_law 17 = .ok (.newarray .long, 2) := by decide +kernel
theorem dL_law_19 : decode cL_law 19 = .ok (.astore_n 3, 1) := by decide +kernel
theorem dL_law_20 : decode cL_law 20 = .ok (.iconst 0, 1) := by decide +kernel
theorem dL_law_21 : decode cL_law 21 = .ok (.istore 4, 2) := by decide +kernel
theorem dL_law_23 : decode cL_law 23 = .ok (.iload 4, 2) := by decide +kernel
theorem dL_law_25 : decode cL_law 25 = .ok (.aload_n 0, 1) := by decide +kernel
theorem dL_law_26 : decode cL_law 26 = .ok (.arraylength, 1) := by decide +kernel
theorem dL_law_27 : decode cL_law 27 = .ok (.bipush 7, 2) := by decide +kernel
theorem dL_law_29 : decode cL_law 29 = .ok (.isub, 1) := by decide +kernel
theorem dL_law_30 : decode cL_law 30 = .ok (.if_icmp .gt 1063, 3) := by decide +kernel
theorem dL_law_33 : decode cL_law 33 = .ok (.aload_n 0, 1) := by decide +kernel
theorem dL_law_34 : decode cL_law 34 = .ok (.iload 4, 2) := by decide +kernel
theorem dL_law_36 : decode cL_law 36 = .ok (.iaload, 1) := by decide +kernel
theorem dL_law_37 : decode cL_law 37 = .ok (.bipush 15, 2) := by decide +kernel
theorem dL_law_39 : decode cL_law 39 = .ok (.iand, 1) := by decide +kernel
theorem dL_law_40 : decode cL_law 40 = .ok (.tableswitch 1047 0 14 #[76, 144, 262, 342, 446, 514, 570, 634, 670, 738, 806, 862, 887, 935, 991], 76) := by decide +kernel
theorem dL_law_116 : decode cL_law 116 = .ok (.aload_n 1, 1) := by decide +kernel
theorem dL_law_117 : decode cL_law 117 = .ok (.aload_n 0, 1) := by decide +kernel
theorem dL_law_118 : decode cL_law 118 = .ok (.iload 4, 2) := by decide +kernel
theorem dL_law_120 : decode cL_law 120 = .ok (.iconst 1, 1) := by decide +kernel
theorem dL_law_121 : decode cL_law 121 = .ok (.iadd, 1) := by decide +kernel
theorem dL_law_122 : decode cL_law 122 = .ok (.iaload, 1) := by decide +kernel
theorem dL_law_123 : decode cL_law 123 = .ok (.aload_n 0, 1) := by decide +kernel
theorem dL_law_124 : decode cL_law 124 = .ok (.iload 4, 2) := by decide +kernel
theorem dL_law_126 : decode cL_law 126 = .ok (.iconst 2, 1) := by decide +kernel
theorem dL_law_127 : decode cL_law 127 = .ok (.iadd, 1) := by decide +kernel
theorem dL_law_128 : decode cL_law 128 = .ok (.iaload, 1) := by decide +kernel
theorem dL_law_129 : decode cL_law 129 = .ok (.aload_n 3, 1) := by decide +kernel
theorem dL_law_130 : decode cL_law 130 = .ok (.invokestatic 71, 3) := by decide +kernel
theorem dL_law_133 : decode cL_law 133 = .ok (.istore 5, 2) := by decide +kernel
theorem dL_law_135 : decode cL_law 135 = .ok (.aload_n 2, 1) := by decide +kernel
theorem dL_law_136 : decode cL_law 136 = .ok (.aload_n 0, 1) := by decide +kernel
theorem dL_law_137 : decode cL_law 137 = .ok (.iload 4, 2) := by decide +kernel
theorem dL_law_139 : decode cL_law 139 = .ok (.iconst 1, 1) := by decide +kernel
theorem dL_law_140 : decode cL_law 140 = .ok (.iadd, 1) := by decide +kernel
theorem dL_law_141 : decode cL_law 141 = .ok (.iaload, 1) := by decide +kernel
theorem dL_law_142 : decode cL_law 142 = .ok (.aload_n 0, 1) := by decide +kernel
theorem dL_law_143 : decode cL_law 143 = .ok (.iload 4, 2) := by decide +kernel
theorem dL_law_145 : decode cL_law 145 = .ok (.iconst 2, 1) := by decide +kernel
theorem dL_law_146 : decode cL_law 146 = .ok (.iadd, 1) := by decide +kernel
theorem dL_law_147 : decode cL_law 147 = .ok (.iaload, 1) := by decide +kernel
theorem dL_law_148 : decode cL_law 148 = .ok (.invokevirtual 76, 3) := by decide +kernel
theorem dL_law_151 : decode cL_law 151 = .ok (.istore 6, 2) := by decide +kernel
theorem dL_law_153 : decode cL_law 153 = .ok (.aload_n 2, 1) := by decide +kernel
theorem dL_law_154 : decode cL_law 154 = .ok (.invokevirtual 77, 3) := by decide +kernel
theorem dL_law_157 : decode cL_law 157 = .ok (.iload 5, 2) := by decide +kernel
theorem dL_law_159 : decode cL_law 159 = .ok (.if_icmp .eq 5, 3) := by decide +kernel
theorem dL_law_162 : decode cL_law 162 = .ok (.iconst 0, 1) := by decide +kernel
theorem dL_law_163 : decode cL_law 163 = .ok (.ireturn, 1) := by decide +kernel
theorem dL_law_164 : decode cL_law 164 = .ok (.iload 5, 2) := by decide +kernel
theorem dL_law_166 : decode cL_law 166 = .ok (.ifCond .ne 15, 3) := by decide +kernel
theorem dL_law_169 : decode cL_law 169 = .ok (.aload_n 3, 1) := by decide +kernel
theorem dL_law_170 : decode cL_law 170 = .ok (.iconst 0, 1) := by decide +kernel
theorem dL_law_171 : decode cL_law 171 = .ok (.laload, 1) := by decide +kernel
theorem dL_law_172 : decode cL_law 172 = .ok (.iload 6, 2) := by decide +kernel
theorem dL_law_174 : decode cL_law 174 = .ok (.i2l, 1) := by decide +kernel
theorem dL_law_175 : decode cL_law 175 = .ok (.lcmp, 1) := by decide +kernel
theorem dL_law_176 : decode cL_law 176 = .ok (.ifCond .eq 5, 3) := by decide +kernel
theorem dL_law_179 : decode cL_law 179 = .ok (.iconst 0, 1) := by decide +kernel
theorem dL_law_180 : decode cL_law 180 = .ok (.ireturn, 1) := by decide +kernel
theorem dL_law_181 : decode cL_law 181 = .ok (.goto 906, 3) := by decide +kernel
theorem dL_law_184 : decode cL_law 184 = .ok (.aload_n 1, 1) := by decide +kernel
theorem dL_law_185 : decode cL_law 185 = .ok (.aload_n 0, 1) := by decide +kernel
theorem dL_law_186 : decode cL_law 186 = .ok (.iload 4, 2) := by decide +kernel
theorem dL_law_188 : decode cL_law 188 = .ok (.iconst 1, 1) := by decide +kernel
theorem dL_law_189 : decode cL_law 189 = .ok (.iadd, 1) := by decide +kernel
theorem dL_law_190 : decode cL_law 190 = .ok (.iaload, 1) := by decide +kernel
theorem dL_law_191 : decode cL_law 191 = .ok (.aload_n 0, 1) := by decide +kernel
theorem dL_law_192 : decode cL_law 192 = .ok (.iload 4, 2) := by decide +kernel
theorem dL_law_194 : decode cL_law 194 = .ok (.iconst 2, 1) := by decide +kernel
theorem dL_law_195 : decode cL_law 195 = .ok (.iadd, 1) := by decide +kernel
theorem dL_law_196 : decode cL_law 196 = .ok (.iaload, 1) := by decide +kernel
theorem dL_law_197 : decode cL_law 197 = .ok (.aload_n 0, 1) := by decide +kernel
theorem dL_law_198 : decode cL_law 198 = .ok (.iload 4, 2) := by decide +kernel
theorem dL_law_200 : decode cL_law 200 = .ok (.iconst 3, 1) := by decide +kernel
theorem dL_law_201 : decode cL_law 201 = .ok (.iadd, 1) := by decide +kernel
theorem dL_law_202 : decode cL_law 202 = .ok (.iaload, 1) := by decide +kernel
theorem dL_law_203 : decode cL_law 203 = .ok (.aload_n 0, 1) := by decide +kernel
theorem dL_law_204 : decode cL_law 204 = .ok (.iload 4, 2) := by decide +kernel
theorem dL_law_206 : decode cL_law 206 = .ok (.iconst 4, 1) := by decide +kernel
theorem dL_law_207 : decode cL_law 207 = .ok (.iadd, 1) := by decide +kernel
theorem dL_law_208 : decode cL_law 208 = .ok (.iaload, 1) := by decide +kernel
theorem dL_law_209 : decode cL_law 209 = .ok (.aload_n 0, 1) := by decide +kernel
theorem dL_law_210 : decode cL_law 210 = .ok (.iload 4, 2) := by decide +kernel
theorem dL_law_212 : decode cL_law 212 = .ok (.iconst 5, 1) := by decide +kernel
theorem dL_law_213 : decode cL_law 213 = .ok (.iadd, 1) := by decide +kernel
theorem dL_law_214 : decode cL_law 214 = .ok (.iaload, 1) := by decide +kernel
theorem dL_law_215 : decode cL_law 215 = .ok (.aload_n 0, 1) := by decide +kernel
theorem dL_law_216 : decode cL_law 216 = .ok (.iload 4, 2) := by decide +kernel
theorem dL_law_218 : decode cL_law 218 = .ok (.bipush 6, 2) := by decide +kernel
theorem dL_law_220 : decode cL_law 220 = .ok (.iadd, 1) := by decide +kernel
theorem dL_law_221 : decode cL_law 221 = .ok (.iaload, 1) := by decide +kernel
theorem dL_law_222 : decode cL_law 222 = .ok (.aload_n 3, 1) := by decide +kernel
theorem dL_law_223 : decode cL_law 223 = .ok (.invokestatic 81, 3) := by decide +kernel
theorem dL_law_226 : decode cL_law 226 = .ok (.istore 5, 2) := by decide +kernel
theorem dL_law_228 : decode cL_law 228 = .ok (.aload_n 2, 1) := by decide +kernel
theorem dL_law_229 : decode cL_law 229 = .ok (.aload_n 0, 1) := by decide +kernel
theorem dL_law_230 : decode cL_law 230 = .ok (.iload 4, 2) := by decide +kernel
theorem dL_law_232 : decode cL_law 232 = .ok (.iconst 1, 1) := by decide +kernel
theorem dL_law_233 : decode cL_law 233 = .ok (.iadd, 1) := by decide +kernel
theorem dL_law_234 : decode cL_law 234 = .ok (.iaload, 1) := by decide +kernel
theorem dL_law_235 : decode cL_law 235 = .ok (.aload_n 0, 1) := by decide +kernel
theorem dL_law_236 : decode cL_law 236 = .ok (.iload 4, 2) := by decide +kernel
theorem dL_law_238 : decode cL_law 238 = .ok (.iconst 2, 1) := by decide +kernel
theorem dL_law_239 : decode cL_law 239 = .ok (.iadd, 1) := by decide +kernel
theorem dL_law_240 : decode cL_law 240 = .ok (.iaload, 1) := by decide +kernel
theorem dL_law_241 : decode cL_law 241 = .ok (.aload_n 0, 1) := by decide +kernel
theorem dL_law_242 : decode cL_law 242 = .ok (.iload 4, 2) := by decide +kernel
theorem dL_law_244 : decode cL_law 244 = .ok (.iconst 3, 1) := by decide +kernel
theorem dL_law_245 : decode cL_law 245 = .ok (.iadd, 1) := by decide +kernel
theorem dL_law_246 : decode cL_law 246 = .ok (.iaload, 1) := by decide +kernel
theorem dL_law_247 : decode cL_law 247 = .ok (.aload_n 0, 1) := by decide +kernel
theorem dL_law_248 : decode cL_law 248 = .ok (.iload 4, 2) := by decide +kernel
theorem dL_law_250 : decode cL_law 250 = .ok (.iconst 4, 1) := by decide +kernel
theorem dL_law_251 : decode cL_law 251 = .ok (.iadd, 1) := by decide +kernel
theorem dL_law_252 : decode cL_law 252 = .ok (.iaload, 1) := by decide +kernel
theorem dL_law_253 : decode cL_law 253 = .ok (.aload_n 0, 1) := by decide +kernel
theorem dL_law_254 : decode cL_law 254 = .ok (.iload 4, 2) := by decide +kernel
theorem dL_law_256 : decode cL_law 256 = .ok (.iconst 5, 1) := by decide +kernel
theorem dL_law_257 : decode cL_law 257 = .ok (.iadd, 1) := by decide +kernel
theorem dL_law_258 : decode cL_law 258 = .ok (.iaload, 1) := by decide +kernel
theorem dL_law_259 : decode cL_law 259 = .ok (.aload_n 0, 1) := by decide +kernel
theorem dL_law_260 : decode cL_law 260 = .ok (.iload 4, 2) := by decide +kernel
theorem dL_law_262 : decode cL_law 262 = .ok (.bipush 6, 2) := by decide +kernel
theorem dL_law_264 : decode cL_law 264 = .ok (.iadd, 1) := by decide +kernel
theorem dL_law_265 : decode cL_law 265 = .ok (.iaload, 1) := by decide +kernel
theorem dL_law_266 : decode cL_law 266 = .ok (.invokevirtual 84, 3) := by decide +kernel
theorem dL_law_269 : decode cL_law 269 = .ok (.istore 6, 2) := by decide +kernel
theorem dL_law_271 : decode cL_law 271 = .ok (.aload_n 2, 1) := by decide +kernel
theorem dL_law_272 : decode cL_law 272 = .ok (.invokevirtual 77, 3) := by decide +kernel
theorem dL_law_275 : decode cL_law 275 = .ok (.iload 5, 2) := by decide +kernel
theorem dL_law_277 : decode cL_law 277 = .ok (.if_icmp .eq 5, 3) := by decide +kernel
theorem dL_law_280 : decode cL_law 280 = .ok (.iconst 0, 1) := by decide +kernel
theorem dL_law_281 : decode cL_law 281 = .ok (.ireturn, 1) := by decide +kernel
theorem dL_law_282 : decode cL_law 282 = .ok (.iload 5, 2) := by decide +kernel
theorem dL_law_284 : decode cL_law 284 = .ok (.ifCond .ne 15, 3) := by decide +kernel
theorem dL_law_287 : decode cL_law 287 = .ok (.aload_n 3, 1) := by decide +kernel
theorem dL_law_288 : decode cL_law 288 = .ok (.iconst 0, 1) := by decide +kernel
theorem dL_law_289 : decode cL_law 289 = .ok (.laload, 1) := by decide +kernel
theorem dL_law_290 : decode cL_law 290 = .ok (.iload 6, 2) := by decide +kernel
theorem dL_law_292 : decode cL_law 292 = .ok (.i2l, 1) := by decide +kernel
end
section
theorem dL_law_293 : decode cL_law 293 = .ok (.lcmp, 1) := by decide +kernel
theorem dL_law_294 : decode cL_law 294 = .ok (.ifCond .eq 5, 3) := by decide +kernel
theorem dL_law_297 : decode cL_law 297 = .ok (.iconst 0, 1) := by decide +kernel
theorem dL_law_298 : decode cL_law 298 = .ok (.ireturn, 1) := by decide +kernel
theorem dL_law_299 : decode cL_law 299 = .ok (.goto 788, 3) := by decide +kernel
theorem dL_law_302 : decode cL_law 302 = .ok (.aload_n 1, 1) := by decide +kernel
theorem dL_law_303 : decode cL_law 303 = .ok (.aload_n 0, 1) := by decide +kernel
theorem dL_law_304 : decode cL_law 304 = .ok (.iload 4, 2) := by decide +kernel
theorem dL_law_306 : decode cL_law 306 = .ok (.iconst 1, 1) := by decide +kernel
theorem dL_law_307 : decode cL_law 307 = .ok (.iadd, 1) := by decide +kernel
theorem dL_law_308 : decode cL_law 308 = .ok (.iaload, 1) := by decide +kernel
theorem dL_law_309 : decode cL_law 309 = .ok (.aload_n 0, 1) := by decide +kernel
theorem dL_law_310 : decode cL_law 310 = .ok (.iload 4, 2) := by decide +kernel
theorem dL_law_312 : decode cL_law 312 = .ok (.iconst 2, 1) := by decide +kernel
theorem dL_law_313 : decode cL_law 313 = .ok (.iadd, 1) := by decide +kernel
theorem dL_law_314 : decode cL_law 314 = .ok (.iaload, 1) := by decide +kernel
theorem dL_law_315 : decode cL_law 315 = .ok (.aload_n 0, 1) := by decide +kernel
theorem dL_law_316 : decode cL_law 316 = .ok (.iload 4, 2) := by decide +kernel
theorem dL_law_318 : decode cL_law 318 = .ok (.iconst 3, 1) := by decide +kernel
theorem dL_law_319 : decode cL_law 319 = .ok (.iadd, 1) := by decide +kernel
theorem dL_law_320 : decode cL_law 320 = .ok (.iaload, 1) := by decide +kernel
theorem dL_law_321 : decode cL_law 321 = .ok (.aload_n 3, 1) := by decide +kernel
theorem dL_law_322 : decode cL_law 322 = .ok (.invokestatic 85, 3) := by decide +kernel
theorem dL_law_325 : decode cL_law 325 = .ok (.istore 5, 2) := by decide +kernel
theorem dL_law_327 : decode cL_law 327 = .ok (.aload_n 2, 1) := by decide +kernel
theorem dL_law_328 : decode cL_law 328 = .ok (.aload_n 0, 1) := by decide +kernel
theorem dL_law_329 : decode cL_law 329 = .ok (.iload 4, 2) := by decide +kernel
theorem dL_law_331 : decode cL_law 331 = .ok (.iconst 1, 1) := by decide +kernel
theorem dL_law_332 : decode cL_law 332 = .ok (.iadd, 1) := by decide +kernel
theorem dL_law_333 : decode cL_law 333 = .ok (.iaload, 1) := by decide +kernel
theorem dL_law_334 : decode cL_law 334 = .ok (.aload_n 0, 1) := by decide +kernel
theorem dL_law_335 : decode cL_law 335 = .ok (.iload 4, 2) := by decide +kernel
theorem dL_law_337 : decode cL_law 337 = .ok (.iconst 2, 1) := by decide +kernel
theorem dL_law_338 : decode cL_law 338 = .ok (.iadd, 1) := by decide +kernel
theorem dL_law_339 : decode cL_law 339 = .ok (.iaload, 1) := by decide +kernel
theorem dL_law_340 : decode cL_law 340 = .ok (.aload_n 0, 1) := by decide +kernel
theorem dL_law_341 : decode cL_law 341 = .ok (.iload 4, 2) := by decide +kernel
theorem dL_law_343 : decode cL_law 343 = .ok (.iconst 3, 1) := by decide +kernel
theorem dL_law_344 : decode cL_law 344 = .ok (.iadd, 1) := by decide +kernel
theorem dL_law_345 : decode cL_law 345 = .ok (.iaload, 1) := by decide +kernel
theorem dL_law_346 : decode cL_law 346 = .ok (.invokevirtual 88, 3) := by decide +kernel
theorem dL_law_349 : decode cL_law 349 = .ok (.istore 6, 2) := by decide +kernel
theorem dL_law_351 : decode cL_law 351 = .ok (.aload_n 2, 1) := by decide +kernel
theorem dL_law_352 : decode cL_law 352 = .ok (.invokevirtual 77, 3) := by decide +kernel
theorem dL_law_355 : decode cL_law 355 = .ok (.iload 5, 2) := by decide +kernel
theorem dL_law_357 : decode cL_law 357 = .ok (.if_icmp .eq 5, 3) := by decide +kernel
theorem dL_law_360 : decode cL_law 360 = .ok (.iconst 0, 1) := by decide +kernel
theorem dL_law_361 : decode cL_law 361 = .ok (.ireturn, 1) := by decide +kernel
theorem dL_law_362 : decode cL_law 362 = .ok (.iload 5, 2) := by decide +kernel
theorem dL_law_364 : decode cL_law 364 = .ok (.ifCond .ne 15, 3) := by decide +kernel
theorem dL_law_367 : decode cL_law 367 = .ok (.aload_n 3, 1) := by decide +kernel
theorem dL_law_368 : decode cL_law 368 = .ok (.iconst 0, 1) := by decide +kernel
theorem dL_law_369 : decode cL_law 369 = .ok (.laload, 1) := by decide +kernel
theorem dL_law_370 : decode cL_law 370 = .ok (.iload 6, 2) := by decide +kernel
theorem dL_law_372 : decode cL_law 372 = .ok (.i2l, 1) := by decide +kernel
theorem dL_law_373 : decode cL_law 373 = .ok (.lcmp, 1) := by decide +kernel
theorem dL_law_374 : decode cL_law 374 = .ok (.ifCond .eq 5, 3) := by decide +kernel
theorem dL_law_377 : decode cL_law 377 = .ok (.iconst 0, 1) := by decide +kernel
theorem dL_law_378 : decode cL_law 378 = .ok (.ireturn, 1) := by decide +kernel
theorem dL_law_379 : decode cL_law 379 = .ok (.goto 708, 3) := by decide +kernel
theorem dL_law_382 : decode cL_law 382 = .ok (.aload_n 1, 1) := by decide +kernel
theorem dL_law_383 : decode cL_law 383 = .ok (.aload_n 0, 1) := by decide +kernel
theorem dL_law_384 : decode cL_law 384 = .ok (.iload 4, 2) := by decide +kernel
theorem dL_law_386 : decode cL_law 386 = .ok (.iconst 1, 1) := by decide +kernel
theorem dL_law_387 : decode cL_law 387 = .ok (.iadd, 1) := by decide +kernel
theorem dL_law_388 : decode cL_law 388 = .ok (.iaload, 1) := by decide +kernel
theorem dL_law_389 : decode cL_law 389 = .ok (.aload_n 0, 1) := by decide +kernel
theorem dL_law_390 : decode cL_law 390 = .ok (.iload 4, 2) := by decide +kernel
theorem dL_law_392 : decode cL_law 392 = .ok (.iconst 2, 1) := by decide +kernel
theorem dL_law_393 : decode cL_law 393 = .ok (.iadd, 1) := by decide +kernel
theorem dL_law_394 : decode cL_law 394 = .ok (.iaload, 1) := by decide +kernel
theorem dL_law_395 : decode cL_law 395 = .ok (.aload_n 0, 1) := by decide +kernel
theorem dL_law_396 : decode cL_law 396 = .ok (.iload 4, 2) := by decide +kernel
theorem dL_law_398 : decode cL_law 398 = .ok (.iconst 3, 1) := by decide +kernel
theorem dL_law_399 : decode cL_law 399 = .ok (.iadd, 1) := by decide +kernel
theorem dL_law_400 : decode cL_law 400 = .ok (.iaload, 1) := by decide +kernel
theorem dL_law_401 : decode cL_law 401 = .ok (.aload_n 0, 1) := by decide +kernel
theorem dL_law_402 : decode cL_law 402 = .ok (.iload 4, 2) := by decide +kernel
theorem dL_law_404 : decode cL_law 404 = .ok (.iconst 4, 1) := by decide +kernel
theorem dL_law_405 : decode cL_law 405 = .ok (.iadd, 1) := by decide +kernel
theorem dL_law_406 : decode cL_law 406 = .ok (.iaload, 1) := by decide +kernel
theorem dL_law_407 : decode cL_law 407 = .ok (.aload_n 0, 1) := by decide +kernel
theorem dL_law_408 : decode cL_law 408 = .ok (.iload 4, 2) := by decide +kernel
theorem dL_law_410 : decode cL_law 410 = .ok (.iconst 5, 1) := by decide +kernel
theorem dL_law_411 : decode cL_law 411 = .ok (.iadd, 1) := by decide +kernel
theorem dL_law_412 : decode cL_law 412 = .ok (.iaload, 1) := by decide +kernel
theorem dL_law_413 : decode cL_law 413 = .ok (.aload_n 3, 1) := by decide +kernel
theorem dL_law_414 : decode cL_law 414 = .ok (.invokestatic 89, 3) := by decide +kernel
theorem dL_law_417 : decode cL_law 417 = .ok (.istore 5, 2) := by decide +kernel
theorem dL_law_419 : decode cL_law 419 = .ok (.aload_n 2, 1) := by decide +kernel
theorem dL_law_420 : decode cL_law 420 = .ok (.aload_n 0, 1) := by decide +kernel
theorem dL_law_421 : decode cL_law 421 = .ok (.iload 4, 2) := by decide +kernel
theorem dL_law_423 : decode cL_law 423 = .ok (.iconst 1, 1) := by decide +kernel
theorem dL_law_424 : decode cL_law 424 = .ok (.iadd, 1) := by decide +kernel
theorem dL_law_425 : decode cL_law 425 = .ok (.iaload, 1) := by decide +kernel
theorem dL_law_426 : decode cL_law 426 = .ok (.aload_n 0, 1) := by decide +kernel
theorem dL_law_427 : decode cL_law 427 = .ok (.iload 4, 2) := by decide +kernel
theorem dL_law_429 : decode cL_law 429 = .ok (.iconst 2, 1) := by decide +kernel
theorem dL_law_430 : decode cL_law 430 = .ok (.iadd, 1) := by decide +kernel
theorem dL_law_431 : decode cL_law 431 = .ok (.iaload, 1) := by decide +kernel
theorem dL_law_432 : decode cL_law 432 = .ok (.aload_n 0, 1) := by decide +kernel
theorem dL_law_433 : decode cL_law 433 = .ok (.iload 4, 2) := by decide +kernel
theorem dL_law_435 : decode cL_law 435 = .ok (.iconst 3, 1) := by decide +kernel
theorem dL_law_436 : decode cL_law 436 = .ok (.iadd, 1) := by decide +kernel
theorem dL_law_437 : decode cL_law 437 = .ok (.iaload, 1) := by decide +kernel
theorem dL_law_438 : decode cL_law 438 = .ok (.aload_n 0, 1) := by decide +kernel
theorem dL_law_439 : decode cL_law 439 = .ok (.iload 4, 2) := by decide +kernel
theorem dL_law_441 : decode cL_law 441 = .ok (.iconst 4, 1) := by decide +kernel
theorem dL_law_442 : decode cL_law 442 = .ok (.iadd, 1) := by decide +kernel
theorem dL_law_443 : decode cL_law 443 = .ok (.iaload, 1) := by decide +kernel
theorem dL_law_444 : decode cL_law 444 = .ok (.aload_n 0, 1) := by decide +kernel
theorem dL_law_445 : decode cL_law 445 = .ok (.iload 4, 2) := by decide +kernel
theorem dL_law_447 : decode cL_law 447 = .ok (.iconst 5, 1) := by decide +kernel
theorem dL_law_448 : decode cL_law 448 = .ok (.iadd, 1) := by decide +kernel
theorem dL_law_449 : decode cL_law 449 = .ok (.iaload, 1) := by decide +kernel
theorem dL_law_450 : decode cL_law 450 = .ok (.invokevirtual 92, 3) := by decide +kernel
theorem dL_law_453 : decode cL_law 453 = .ok (.istore 6, 2) := by decide +kernel
theorem dL_law_455 : decode cL_law 455 = .ok (.aload_n 2, 1) := by decide +kernel
theorem dL_law_456 : decode cL_law 456 = .ok (.invokevirtual 77, 3) := by decide +kernel
theorem dL_law_459 : decode cL_law 459 = .ok (.iload 5, 2) := by decide +kernel
theorem dL_law_461 : decode cL_law 461 = .ok (.if_icmp .eq 5, 3) := by decide +kernel
theorem dL_law_464 : decode cL_law 464 = .ok (.iconst 0, 1) := by decide +kernel
theorem dL_law_465 : decode cL_law 465 = .ok (.ireturn, 1) := by decide +kernel
theorem dL_law_466 : decode cL_law 466 = .ok (.iload 5, 2) := by decide +kernel
theorem dL_law_468 : decode cL_law 468 = .ok (.ifCond .ne 15, 3) := by decide +kernel
theorem dL_law_471 : decode cL_law 471 = .ok (.aload_n 3, 1) := by decide +kernel
theorem dL_law_472 : decode cL_law 472 = .ok (.iconst 0, 1) := by decide +kernel
theorem dL_law_473 : decode cL_law 473 = .ok (.laload, 1) := by decide +kernel
theorem dL_law_474 : decode cL_law 474 = .ok (.iload 6, 2) := by decide +kernel
theorem dL_law_476 : decode cL_law 476 = .ok (.i2l, 1) := by decide +kernel
theorem dL_law_477 : decode cL_law 477 = .ok (.lcmp, 1) := by decide +kernel
theorem dL_law_478 : decode cL_law 478 = .ok (.ifCond .eq 5, 3) := by decide +kernel
theorem dL_law_481 : decode cL_law 481 = .ok (.iconst 0, 1) := by decide +kernel
theorem dL_law_482 : decode cL_law 482 = .ok (.ireturn, 1) := by decide +kernel
theorem dL_law_483 : decode cL_law 483 = .ok (.goto 604, 3) := by decide +kernel
theorem dL_law_486 : decode cL_law 486 = .ok (.aload_n 1, 1) := by decide +kernel
theorem dL_law_487 : decode cL_law 487 = .ok (.aload_n 0, 1) := by decide +kernel
theorem dL_law_488 : decode cL_law 488 = .ok (.iload 4, 2) := by decide +kernel
theorem dL_law_490 : decode cL_law 490 = .ok (.iconst 1, 1) := by decide +kernel
theorem dL_law_491 : decode cL_law 491 = .ok (.iadd, 1) := by decide +kernel
theorem dL_law_492 : decode cL_law 492 = .ok (.iaload, 1) := by decide +kernel
theorem dL_law_493 : decode cL_law 493 = .ok (.aload_n 0, 1) := by decide +kernel
theorem dL_law_494 : decode cL_law 494 = .ok (.iload 4, 2) := by decide +kernel
theorem dL_law_496 : decode cL_law 496 = .ok (.iconst 2, 1) := by decide +kernel
theorem dL_law_497 : decode cL_law 497 = .ok (.iadd, 1) := by decide +kernel
theorem dL_law_498 : decode cL_law 498 = .ok (.iaload, 1) := by decide +kernel
theorem dL_law_499 : decode cL_law 499 = .ok (.aload_n 3, 1) := by decide +kernel
theorem dL_law_500 : decode cL_law 500 = .ok (.invokestatic 93, 3) := by decide +kernel
theorem dL_law_503 : decode cL_law 503 = .ok (.istore 5, 2) := by decide +kernel
theorem dL_law_505 : decode cL_law 505 = .ok (.aload_n 2, 1) := by decide +kernel
theorem dL_law_506 : decode cL_law 506 = .ok (.aload_n 0, 1) := by decide +kernel
theorem dL_law_507 : decode cL_law 507 = .ok (.iload 4, 2) := by decide +kernel
theorem dL_law_509 : decode cL_law 509 = .ok (.iconst 1, 1) := by decide +kernel
theorem dL_law_510 : decode cL_law 510 = .ok (.iadd, 1) := by decide +kernel
theorem dL_law_511 : decode cL_law 511 = .ok (.iaload, 1) := by decide +kernel
theorem dL_law_512 : decode cL_law 512 = .ok (.aload_n 0, 1) := by decide +kernel
theorem dL_law_513 : decode cL_law 513 = .ok (.iload 4, 2) := by decide +kernel
theorem dL_law_515 : decode cL_law 515 = .ok (.iconst 2, 1) := by decide +kernel
theorem dL_law_516 : decode cL_law 516 = .ok (.iadd, 1) := by decide +kernel
theorem dL_law_517 : decode cL_law 517 = .ok (.iaload, 1) := by decide +kernel
theorem dL_law_518 : decode cL_law 518 = .ok (.invokevirtual 95, 3) := by decide +kernel
theorem dL_law_521 : decode cL_law 521 = .ok (.istore 6, 2) := by decide +kernel
theorem dL_law_523 : decode cL_law 523 = .ok (.aload_n 2, 1) := by decide +kernel
theorem dL_law_524 : decode cL_law 524 = .ok (.invokevirtual 77, 3) := by decide +kernel
theorem dL_law_527 : decode cL_law 527 = .ok (.iload 5, 2) := by decide +kernel
theorem dL_law_529 : decode cL_law 529 = .ok (.if_icmp .eq 5, 3) := by decide +kernel
theorem dL_law_532 : decode cL_law 532 = .ok (.iconst 0, 1) := by decide +kernel
theorem dL_law_533 : decode cL_law 533 = .ok (.ireturn, 1) := by decide +kernel
theorem dL_law_534 : decode cL_law 534 = .ok (.iload 5, 2) := by decide +kernel
theorem dL_law_536 : decode cL_law 536 = .ok (.ifCond .ne 15, 3) := by decide +kernel
theorem dL_law_539 : decode cL_law 539 = .ok (.aload_n 3, 1) := by decide +kernel
theorem dL_law_540 : decode cL_law 540 = .ok (.iconst 0, 1) := by decide +kernel
theorem dL_law_541 : decode cL_law 541 = .ok (.laload, 1) := by decide +kernel
theorem dL_law_542 : decode cL_law 542 = .ok (.iload 6, 2) := by decide +kernel
theorem dL_law_544 : decode cL_law 544 = .ok (.i2l, 1) := by decide +kernel
theorem dL_law_545 : decode cL_law 545 = .ok (.lcmp, 1) := by decide +kernel
theorem dL_law_546 : decode cL_law 546 = .ok (.ifCond .eq 5, 3) := by decide +kernel
theorem dL_law_549 : decode cL_law 549 = .ok (.iconst 0, 1) := by decide +kernel
theorem dL_law_550 : decode cL_law 550 = .ok (.ireturn, 1) := by decide +kernel
theorem dL_law_551 : decode cL_law 551 = .ok (.goto 536, 3) := by decide +kernel
theorem dL_law_554 : decode cL_law 554 = .ok (.aload_n 1, 1) := by decide +kernel
theorem dL_law_555 : decode cL_law 555 = .ok (.aload_n 0, 1) := by decide +kernel
theorem dL_law_556 : decode cL_law 556 = .ok (.iload 4, 2) := by decide +kernel
theorem dL_law_558 : decode cL_law 558 = .ok (.iconst 1, 1) := by decide +kernel
theorem dL_law_559 : decode cL_law 559 = .ok (.iadd, 1) := by decide +kernel
theorem dL_law_560 : decode cL_law 560 = .ok (.iaload, 1) := by decide +kernel
theorem dL_law_561 : decode cL_law 561 = .ok (.aload_n 3, 1) := by decide +kernel
theorem dL_law_562 : decode cL_law 562 = .ok (.invokestatic 96, 3) := by decide +kernel
theorem dL_law_565 : decode cL_law 565 = .ok (.istore 5, 2) := by decide +kernel
theorem dL_law_567 : decode cL_law 567 = .ok (.aload_n 2, 1) := by decide +kernel
theorem dL_law_568 : decode cL_law 568 = .ok (.aload_n 0, 1) := by decide +kernel
theorem dL_law_569 : decode cL_law 569 = .ok (.iload 4, 2) := by decide +kernel
theorem dL_law_571 : decode cL_law 571 = .ok (.iconst 1, 1) := by decide +kernel
theorem dL_law_572 : decode cL_law 572 = .ok (.iadd, 1) := by decide +kernel
theorem dL_law_573 : decode cL_law 573 = .ok (.iaload, 1) := by decide +kernel
theorem dL_law_574 : decode cL_law 574 = .ok (.invokevirtual 99, 3) := by decide +kernel
theorem dL_law_577 : decode cL_law 577 = .ok (.istore 6, 2) := by decide +kernel
theorem dL_law_579 : decode cL_law 579 = .ok (.aload_n 2, 1) := by decide +kernel
theorem dL_law_580 : decode cL_law 580 = .ok (.invokevirtual 77, 3) := by decide +kernel
theorem dL_law_583 : decode cL_law 583 = .ok (.iload 5, 2) := by decide +kernel
theorem dL_law_585 : decode cL_law 585 = .ok (.if_icmp .eq 5, 3) := by decide +kernel
theorem dL_law_588 : decode cL_law 588 = .ok (.iconst 0, 1) := by decide +kernel
theorem dL_law_589 : decode cL_law 589 = .ok (.ireturn, 1) := by decide +kernel
theorem dL_law_590 : decode cL_law 590 = .ok (.iload 5, 2) := by decide +kernel
theorem dL_law_592 : decode cL_law 592 = .ok (.ifCond .ne 15, 3) := by decide +kernel
theorem dL_law_595 : decode cL_law 595 = .ok (.aload_n 3, 1) := by decide +kernel
theorem dL_law_596 : decode cL_law 596 = .ok (.iconst 0, 1) := by decide +kernel
theorem dL_law_597 : decode cL_law 597 = .ok (.laload, 1) := by decide +kernel
theorem dL_law_598 : decode cL_law 598 = .ok (.iload 6, 2) := by decide +kernel
theorem dL_law_600 : decode cL_law 600 = .ok (.i2l, 1) := by decide +kernel
theorem dL_law_601 : decode cL_law 601 = .ok (.lcmp, 1) := by decide +kernel
theorem dL_law_602 : decode cL_law 602 = .ok (.ifCond .eq 5, 3) := by decide +kernel
theorem dL_law_605 : decode cL_law 605 = .ok (.iconst 0, 1) := by decide +kernel
theorem dL_law_606 : decode cL_law 606 = .ok (.ireturn, 1) := by decide +kernel
theorem dL_law_607 : decode cL_law 607 = .ok (.goto 480, 3) := by decide +kernel
theorem dL_law_610 : decode cL_law 610 = .ok (.aload_n 1, 1) := by decide +kernel
theorem dL_law_611 : decode cL_law 611 = .ok (.aload_n 0, 1) := by decide +kernel
theorem dL_law_612 : decode cL_law 612 = .ok (.iload 4, 2) := by decide +kernel
theorem dL_law_614 : decode cL_law 614 = .ok (.iconst 1, 1) := by decide +kernel
theorem dL_law_615 : decode cL_law 615 = .ok (.iadd, 1) := by decide +kernel
theorem dL_law_616 : decode cL_law 616 = .ok (.iaload, 1) := by decide +kernel
theorem dL_law_617 : decode cL_law 617 = .ok (.aload_n 0, 1) := by decide +kernel
theorem dL_law_618 : decode cL_law 618 = .ok (.iload 4, 2) := by decide +kernel
theorem dL_law_620 : decode cL_law 620 = .ok (.iconst 2, 1) := by decide +kernel
theorem dL_law_621 : decode cL_law 621 = .ok (.iadd, 1) := by decide +kernel
theorem dL_law_622 : decode cL_law 622 = .ok (.iaload, 1) := by decide +kernel
theorem dL_law_623 : decode cL_law 623 = .ok (.ifCond .eq 7, 3) := by decide +kernel
theorem dL_law_626 : decode cL_law 626 = .ok (.iconst 1, 1) := by decide +kernel
theorem dL_law_627 : decode cL_law 627 = .ok (.goto 4, 3) := by decide +kernel
theorem dL_law_630 : decode cL_law 630 = .ok (.iconst 0, 1) := by decide +kernel
theorem dL_law_631 : decode cL_law 631 = .ok (.invokestatic 100, 3) := by decide +kernel
theorem dL_law_634 : decode cL_law 634 = .ok (.istore 5, 2) := by decide +kernel
theorem dL_law_636 : decode cL_law 636 = .ok (.aload_n 2, 1) := by decide +kernel
theorem dL_law_637 : decode cL_law 637 = .ok (.aload_n 0, 1) := by decide +kernel
theorem dL_law_638 : decode cL_law 638 = .ok (.iload 4, 2) := by decide +kernel
theorem dL_law_640 : decode cL_law 640 = .ok (.iconst 1, 1) := by decide +kernel
theorem dL_law_641 : decode cL_law 641 = .ok (.iadd, 1) := by decide +kernel
theorem dL_law_642 : decode cL_law 642 = .ok (.iaload, 1) := by decide +kernel
theorem dL_law_643 : decode cL_law 643 = .ok (.aload_n 0, 1) := by decide +kernel
theorem dL_law_644 : decode cL_law 644 = .ok (.iload 4, 2) := by decide +kernel
theorem dL_law_646 : decode cL_law 646 = .ok (.iconst 2, 1) := by decide +kernel
theorem dL_law_647 : decode cL_law 647 = .ok (.iadd, 1) := by decide +kernel
theorem dL_law_648 : decode cL_law 648 = .ok (.iaload, 1) := by decide +kernel
theorem dL_law_649 : decode cL_law 649 = .ok (.ifCond .eq 7, 3) := by decide +kernel
theorem dL_law_652 : decode cL_law 652 = .ok (.iconst 1, 1) := by decide +kernel
theorem dL_law_653 : decode cL_law 653 = .ok (.goto 4, 3) := by decide +kernel
theorem dL_law_656 : decode cL_law 656 = .ok (.iconst 0, 1) := by decide +kernel
theorem dL_law_657 : decode cL_law 657 = .ok (.invokevirtual 103, 3) := by decide +kernel
theorem dL_law_660 : decode cL_law 660 = .ok (.aload_n 2, 1) := by decide +kernel
theorem dL_law_661 : decode cL_law 661 = .ok (.invokevirtual 77, 3) := by decide +kernel
theorem dL_law_664 : decode cL_law 664 = .ok (.iload 5, 2) := by decide +kernel
theorem dL_law_666 : decode cL_law 666 = .ok (.if_icmp .eq 5, 3) := by decide +kernel
theorem dL_law_669 : decode cL_law 669 = .ok (.iconst 0, 1) := by decide +kernel
theorem dL_law_670 : decode cL_law 670 = .ok (.ireturn, 1) := by decide +kernel
theorem dL_law_671 : decode cL_law 671 = .ok (.goto 416, 3) := by decide +kernel
theorem dL_law_674 : decode cL_law 674 = .ok (.aload_n 1, 1) := by decide +kernel
theorem dL_law_675 : decode cL_law 675 = .ok (.aload_n 0, 1) := by decide +kernel
theorem dL_law_676 : decode cL_law 676 = .ok (.iload 4, 2) := by decide +kernel
theorem dL_law_678 : decode cL_law 678 = .ok (.iconst 1, 1) := by decide +kernel
theorem dL_law_679 : decode cL_law 679 = .ok (.iadd, 1) := by decide +kernel
theorem dL_law_680 : decode cL_law 680 = .ok (.iaload, 1) := by decide +kernel
theorem dL_law_681 : decode cL_law 681 = .ok (.invokestatic 104, 3) := by decide +kernel
theorem dL_law_684 : decode cL_law 684 = .ok (.istore 5, 2) := by decide +kernel
theorem dL_law_686 : decode cL_law 686 = .ok (.aload_n 2, 1) := by decide +kernel
theorem dL_law_687 : decode cL_law 687 = .ok (.aload_n 0, 1) := by decide +kernel
theorem dL_law_688 : decode cL_law 688 = .ok (.iload 4, 2) := by decide +kernel
theorem dL_law_690 : decode cL_law 690 = .ok (.iconst 1, 1) := by decide +kernel
theorem dL_law_691 : decode cL_law 691 = .ok (.iadd, 1) := by decide +kernel
theorem dL_law_692 : decode cL_law 692 = .ok (.iaload, 1) := by decide +kernel
theorem dL_law_693 : decode cL_law 693 = .ok (.invokevirtual 107, 3) := by decide +kernel
theorem dL_law_696 : decode cL_law 696 = .ok (.aload_n 2, 1) := by decide +kernel
theorem dL_law_697 : decode cL_law 697 = .ok (.invokevirtual 77, 3) := by decide +kernel
theorem dL_law_700 : decode cL_law 700 = .ok (.iload 5, 2) := by decide +kernel
theorem dL_law_702 : decode cL_law 702 = .ok (.if_icmp .eq 5, 3) := by decide +kernel
theorem dL_law_705 : decode cL_law 705 = .ok (.iconst 0, 1) := by decide +kernel
theorem dL_law_706 : decode cL_law 706 = .ok (.ireturn, 1) := by decide +kernel
theorem dL_law_707 : decode cL_law 707 = .ok (.goto 380, 3) := by decide +kernel
theorem dL_law_710 : decode cL_law 710 = .ok (.aload_n 1, 1) := by decide +kernel
theorem dL_law_711 : decode cL_law 711 = .ok (.aload_n 0, 1) := by decide +kernel
theorem dL_law_712 : decode cL_law 712 = .ok (.iload 4, 2) := by decide +kernel
theorem dL_law_714 : decode cL_law 714 = .ok (.iconst 1, 1) := by decide +kernel
theorem dL_law_715 : decode cL_law 715 = .ok (.iadd, 1) := by decide +kernel
theorem dL_law_716 : decode cL_law 716 = .ok (.iaload, 1) := by decide +kernel
theorem dL_law_717 : decode cL_law 717 = .ok (.aload_n 0, 1) := by decide +kernel
theorem dL_law_718 : decode cL_law 718 = .ok (.iload 4, 2) := by decide +kernel
theorem dL_law_720 : decode cL_law 720 = .ok (.iconst 2, 1) := by decide +kernel
theorem dL_law_721 : decode cL_law 721 = .ok (.iadd, 1) := by decide +kernel
theorem dL_law_722 : decode cL_law 722 = .ok (.iaload, 1) := by decide +kernel
theorem dL_law_723 : decode cL_law 723 = .ok (.aload_n 3, 1) := by decide +kernel
theorem dL_law_724 : decode cL_law 724 = .ok (.invokestatic 108, 3) := by decide +kernel
theorem dL_law_727 : decode cL_law 727 = .ok (.istore 5, 2) := by decide +kernel
theorem dL_law_729 : decode cL_law 729 = .ok (.aload_n 2, 1) := by decide +kernel
theorem dL_law_730 : decode cL_law 730 = .ok (.aload_n 0, 1) := by decide +kernel
theorem dL_law_731 : decode cL_law 731 = .ok (.iload 4, 2) := by decide +kernel
theorem dL_law_733 : decode cL_law 733 = .ok (.iconst 1, 1) := by decide +kernel
theorem dL_law_734 : decode cL_law 734 = .ok (.iadd, 1) := by decide +kernel
theorem dL_law_735 : decode cL_law 735 = .ok (.iaload, 1) := by decide +kernel
theorem dL_law_736 : decode cL_law 736 = .ok (.aload_n 0, 1) := by decide +kernel
theorem dL_law_737 : decode cL_law 737 = .ok (.iload 4, 2) := by decide +kernel
theorem dL_law_739 : decode cL_law 739 = .ok (.iconst 2, 1) := by decide +kernel
theorem dL_law_740 : decode cL_law 740 = .ok (.iadd, 1) := by decide +kernel
theorem dL_law_741 : decode cL_law 741 = .ok (.iaload, 1) := by decide +kernel
theorem dL_law_742 : decode cL_law 742 = .ok (.invokevirtual 110, 3) := by decide +kernel
theorem dL_law_745 : decode cL_law 745 = .ok (.istore 6, 2) := by decide +kernel
theorem dL_law_747 : decode cL_law 747 = .ok (.aload_n 2, 1) := by decide +kernel
theorem dL_law_748 : decode cL_law 748 = .ok (.invokevirtual 77, 3) := by decide +kernel
theorem dL_law_751 : decode cL_law 751 = .ok (.iload 5, 2) := by decide +kernel
theorem dL_law_753 : decode cL_law 753 = .ok (.if_icmp .eq 5, 3) := by decide +kernel
theorem dL_law_756 : decode cL_law 756 = .ok (.iconst 0, 1) := by decide +kernel
theorem dL_law_757 : decode cL_law 757 = .ok (.ireturn, 1) := by decide +kernel
theorem dL_law_758 : decode cL_law 758 = .ok (.iload 5, 2) := by decide +kernel
theorem dL_law_760 : decode cL_law 760 = .ok (.ifCond .ne 15, 3) := by decide +kernel
theorem dL_law_763 : decode cL_law 763 = .ok (.aload_n 3, 1) := by decide +kernel
theorem dL_law_764 : decode cL_law 764 = .ok (.iconst 0, 1) := by decide +kernel
theorem dL_law_765 : decode cL_law 765 = .ok (.laload, 1) := by decide +kernel
theorem dL_law_766 : decode cL_law 766 = .ok (.iload 6, 2) := by decide +kernel
theorem dL_law_768 : decode cL_law 768 = .ok (.i2l, 1) := by decide +kernel
theorem dL_law_769 : decode cL_law 769 = .ok (.lcmp, 1) := by decide +kernel
theorem dL_law_770 : decode cL_law 770 = .ok (.ifCond .eq 5, 3) := by decide +kernel
theorem dL_law_773 : decode cL_law 773 = .ok (.iconst 0, 1) := by decide +kernel
theorem dL_law_774 : decode cL_law 774 = .ok (.ireturn, 1) := by decide +kernel
theorem dL_law_775 : decode cL_law 775 = .ok (.goto 312, 3) := by decide +kernel
theorem dL_law_778 : decode cL_law 778 = .ok (.aload_n 1, 1) := by decide +kernel
theorem dL_law_779 : decode cL_law 779 = .ok (.aload_n 0, 1) := by decide +kernel
theorem dL_law_780 : decode cL_law 780 = .ok (.iload 4, 2) := by decide +kernel
theorem dL_law_782 : decode cL_law 782 = .ok (.iconst 1, 1) := by decide +kernel
theorem dL_law_783 : decode cL_law 783 = .ok (.iadd, 1) := by decide +kernel
theorem dL_law_784 : decode cL_law 784 = .ok (.iaload, 1) := by decide +kernel
theorem dL_law_785 : decode cL_law 785 = .ok (.aload_n 0, 1) := by decide +kernel
theorem dL_law_786 : decode cL_law 786 = .ok (.iload 4, 2) := by decide +kernel
theorem dL_law_788 : decode cL_law 788 = .ok (.iconst 2, 1) := by decide +kernel
theorem dL_law_789 : decode cL_law 789 = .ok (.iadd, 1) := by decide +kernel
theorem dL_law_790 : decode cL_law 790 = .ok (.iaload, 1) := by decide +kernel
theorem dL_law_791 : decode cL_law 791 = .ok (.aload_n 3, 1) := by decide +kernel
theorem dL_law_792 : decode cL_law 792 = .ok (.invokestatic 111, 3) := by decide +kernel
theorem dL_law_795 : decode cL_law 795 = .ok (.istore 5, 2) := by decide +kernel
theorem dL_law_797 : decode cL_law 797 = .ok (.aload_n 2, 1) := by decide +kernel
theorem dL_law_798 : decode cL_law 798 = .ok (.aload_n 0, 1) := by decide +kernel
theorem dL_law_799 : decode cL_law 799 = .ok (.iload 4, 2) := by decide +kernel
theorem dL_law_801 : decode cL_law 801 = .ok (.iconst 1, 1) := by decide +kernel
theorem dL_law_802 : decode cL_law 802 = .ok (.iadd, 1) := by decide +kernel
theorem dL_law_803 : decode cL_law 803 = .ok (.iaload, 1) := by decide +kernel
theorem dL_law_804 : decode cL_law 804 = .ok (.aload_n 0, 1) := by decide +kernel
theorem dL_law_805 : decode cL_law 805 = .ok (.iload 4, 2) := by decide +kernel
theorem dL_law_807 : decode cL_law 807 = .ok (.iconst 2, 1) := by decide +kernel
theorem dL_law_808 : decode cL_law 808 = .ok (.iadd, 1) := by decide +kernel
theorem dL_law_809 : decode cL_law 809 = .ok (.iaload, 1) := by decide +kernel
theorem dL_law_810 : decode cL_law 810 = .ok (.invokevirtual 113, 3) := by decide +kernel
theorem dL_law_813 : decode cL_law 813 = .ok (.istore 6, 2) := by decide +kernel
theorem dL_law_815 : decode cL_law 815 = .ok (.aload_n 2, 1) := by decide +kernel
theorem dL_law_816 : decode cL_law 816 = .ok (.invokevirtual 77, 3) := by decide +kernel
theorem dL_law_819 : decode cL_law 819 = .ok (.iload 5, 2) := by decide +kernel
theorem dL_law_821 : decode cL_law 821 = .ok (.if_icmp .eq 5, 3) := by decide +kernel
theorem dL_law_824 : decode cL_law 824 = .ok (.iconst 0, 1) := by decide +kernel
theorem dL_law_825 : decode cL_law 825 = .ok (.ireturn, 1) := by decide +kernel
theorem dL_law_826 : decode cL_law 826 = .ok (.iload 5, 2) := by decide +kernel
theorem dL_law_828 : decode cL_law 828 = .ok (.ifCond .ne 15, 3) := by decide +kernel
theorem dL_law_831 : decode cL_law 831 = .ok (.aload_n 3, 1) := by decide +kernel
theorem dL_law_832 : decode cL_law 832 = .ok (.iconst 0, 1) := by decide +kernel
theorem dL_law_833 : decode cL_law 833 = .ok (.laload, 1) := by decide +kernel
theorem dL_law_834 : decode cL_law 834 = .ok (.iload 6, 2) := by decide +kernel
theorem dL_law_836 : decode cL_law 836 = .ok (.i2l, 1) := by decide +kernel
theorem dL_law_837 : decode cL_law 837 = .ok (.lcmp, 1) := by decide +kernel
theorem dL_law_838 : decode cL_law 838 = .ok (.ifCond .eq 5, 3) := by decide +kernel
theorem dL_law_841 : decode cL_law 841 = .ok (.iconst 0, 1) := by decide +kernel
theorem dL_law_842 : decode cL_law 842 = .ok (.ireturn, 1) := by decide +kernel
theorem dL_law_843 : decode cL_law 843 = .ok (.goto 244, 3) := by decide +kernel
theorem dL_law_846 : decode cL_law 846 = .ok (.aload_n 1, 1) := by decide +kernel
theorem dL_law_847 : decode cL_law 847 = .ok (.aload_n 0, 1) := by decide +kernel
theorem dL_law_848 : decode cL_law 848 = .ok (.iload 4, 2) := by decide +kernel
theorem dL_law_850 : decode cL_law 850 = .ok (.iconst 1, 1) := by decide +kernel
theorem dL_law_851 : decode cL_law 851 = .ok (.iadd, 1) := by decide +kernel
theorem dL_law_852 : decode cL_law 852 = .ok (.iaload, 1) := by decide +kernel
theorem dL_law_853 : decode cL_law 853 = .ok (.aload_n 3, 1) := by decide +kernel
theorem dL_law_854 : decode cL_law 854 = .ok (.invokestatic 114, 3) := by decide +kernel
theorem dL_law_857 : decode cL_law 857 = .ok (.istore 5, 2) := by decide +kernel
theorem dL_law_859 : decode cL_law 859 = .ok (.aload_n 2, 1) := by decide +kernel
theorem dL_law_860 : decode cL_law 860 = .ok (.aload_n 0, 1) := by decide +kernel
theorem dL_law_861 : decode cL_law 861 = .ok (.iload 4, 2) := by decide +kernel
theorem dL_law_863 : decode cL_law 863 = .ok (.iconst 1, 1) := by decide +kernel
theorem dL_law_864 : decode cL_law 864 = .ok (.iadd, 1) := by decide +kernel
theorem dL_law_865 : decode cL_law 865 = .ok (.iaload, 1) := by decide +kernel
theorem dL_law_866 : decode cL_law 866 = .ok (.invokevirtual 116, 3) := by decide +kernel
theorem dL_law_869 : decode cL_law 869 = .ok (.istore 6, 2) := by decide +kernel
theorem dL_law_871 : decode cL_law 871 = .ok (.aload_n 2, 1) := by decide +kernel
theorem dL_law_872 : decode cL_law 872 = .ok (.invokevirtual 77, 3) := by decide +kernel
theorem dL_law_875 : decode cL_law 875 = .ok (.iload 5, 2) := by decide +kernel
theorem dL_law_877 : decode cL_law 877 = .ok (.if_icmp .eq 5, 3) := by decide +kernel
theorem dL_law_880 : decode cL_law 880 = .ok (.iconst 0, 1) := by decide +kernel
theorem dL_law_881 : decode cL_law 881 = .ok (.ireturn, 1) := by decide +kernel
theorem dL_law_882 : decode cL_law 882 = .ok (.iload 5, 2) := by decide +kernel
theorem dL_law_884 : decode cL_law 884 = .ok (.ifCond .ne 15, 3) := by decide +kernel
theorem dL_law_887 : decode cL_law 887 = .ok (.aload_n 3, 1) := by decide +kernel
theorem dL_law_888 : decode cL_law 888 = .ok (.iconst 0, 1) := by decide +kernel
theorem dL_law_889 : decode cL_law 889 = .ok (.laload, 1) := by decide +kernel
theorem dL_law_890 : decode cL_law 890 = .ok (.iload 6, 2) := by decide +kernel
theorem dL_law_892 : decode cL_law 892 = .ok (.i2l, 1) := by decide +kernel
theorem dL_law_893 : decode cL_law 893 = .ok (.lcmp, 1) := by decide +kernel
theorem dL_law_894 : decode cL_law 894 = .ok (.ifCond .eq 5, 3) := by decide +kernel
theorem dL_law_897 : decode cL_law 897 = .ok (.iconst 0, 1) := by decide +kernel
theorem dL_law_898 : decode cL_law 898 = .ok (.ireturn, 1) := by decide +kernel
theorem dL_law_899 : decode cL_law 899 = .ok (.goto 188, 3) := by decide +kernel
theorem dL_law_902 : decode cL_law 902 = .ok (.aload_n 1, 1) := by decide +kernel
theorem dL_law_903 : decode cL_law 903 = .ok (.aload_n 0, 1) := by decide +kernel
theorem dL_law_904 : decode cL_law 904 = .ok (.iload 4, 2) := by decide +kernel
theorem dL_law_906 : decode cL_law 906 = .ok (.iconst 1, 1) := by decide +kernel
theorem dL_law_907 : decode cL_law 907 = .ok (.iadd, 1) := by decide +kernel
theorem dL_law_908 : decode cL_law 908 = .ok (.iaload, 1) := by decide +kernel
theorem dL_law_909 : decode cL_law 909 = .ok (.invokevirtual 117, 3) := by decide +kernel
theorem dL_law_912 : decode cL_law 912 = .ok (.aload_n 2, 1) := by decide +kernel
theorem dL_law_913 : decode cL_law 913 = .ok (.aload_n 0, 1) := by decide +kernel
theorem dL_law_914 : decode cL_law 914 = .ok (.iload 4, 2) := by decide +kernel
theorem dL_law_916 : decode cL_law 916 = .ok (.iconst 1, 1) := by decide +kernel
theorem dL_law_917 : decode cL_law 917 = .ok (.iadd, 1) := by decide +kernel
theorem dL_law_918 : decode cL_law 918 = .ok (.iaload, 1) := by decide +kernel
theorem dL_law_919 : decode cL_law 919 = .ok (.invokevirtual 120, 3) := by decide +kernel
theorem dL_law_922 : decode cL_law 922 = .ok (.if_icmp .eq 165, 3) := by decide +kernel
theorem dL_law_925 : decode cL_law 925 = .ok (.iconst 0, 1) := by decide +kernel
theorem dL_law_926 : decode cL_law 926 = .ok (.ireturn, 1) := by decide +kernel
theorem dL_law_927 : decode cL_law 927 = .ok (.aload_n 1, 1) := by decide +kernel
theorem dL_law_928 : decode cL_law 928 = .ok (.aload_n 0, 1) := by decide +kernel
theorem dL_law_929 : decode cL_law 929 = .ok (.iload 4, 2) := by decide +kernel
theorem dL_law_931 : decode cL_law 931 = .ok (.iconst 1, 1) := by decide +kernel
theorem dL_law_932 : decode cL_law 932 = .ok (.iadd, 1) := by decide +kernel
theorem dL_law_933 : decode cL_law 933 = .ok (.iaload, 1) := by decide +kernel
theorem dL_law_934 : decode cL_law 934 = .ok (.aload_n 0, 1) := by decide +kernel
theorem dL_law_935 : decode cL_law 935 = .ok (.iload 4, 2) := by decide +kernel
theorem dL_law_937 : decode cL_law 937 = .ok (.iconst 2, 1) := by decide +kernel
theorem dL_law_938 : decode cL_law 938 = .ok (.iadd, 1) := by decide +kernel
theorem dL_law_939 : decode cL_law 939 = .ok (.iaload, 1) := by decide +kernel
theorem dL_law_940 : decode cL_law 940 = .ok (.invokestatic 121, 3) := by decide +kernel
theorem dL_law_943 : decode cL_law 943 = .ok (.istore 5, 2) := by decide +kernel
theorem dL_law_945 : decode cL_law 945 = .ok (.aload_n 2, 1) := by decide +kernel
theorem dL_law_946 : decode cL_law 946 = .ok (.aload_n 0, 1) := by decide +kernel
theorem dL_law_947 : decode cL_law 947 = .ok (.iload 4, 2) := by decide +kernel
theorem dL_law_949 : decode cL_law 949 = .ok (.iconst 1, 1) := by decide +kernel
theorem dL_law_950 : decode cL_law 950 = .ok (.iadd, 1) := by decide +kernel
theorem dL_law_951 : decode cL_law 951 = .ok (.iaload, 1) := by decide +kernel
theorem dL_law_952 : decode cL_law 952 = .ok (.aload_n 0, 1) := by decide +kernel
theorem dL_law_953 : decode cL_law 953 = .ok (.iload 4, 2) := by decide +kernel
theorem dL_law_955 : decode cL_law 955 = .ok (.iconst 2, 1) := by decide +kernel
theorem dL_law_956 : decode cL_law 956 = .ok (.iadd, 1) := by decide +kernel
theorem dL_law_957 : decode cL_law 957 = .ok (.iaload, 1) := by decide +kernel
theorem dL_law_958 : decode cL_law 958 = .ok (.invokevirtual 124, 3) := by decide +kernel
theorem dL_law_961 : decode cL_law 961 = .ok (.aload_n 2, 1) := by decide +kernel
theorem dL_law_962 : decode cL_law 962 = .ok (.invokevirtual 77, 3) := by decide +kernel
theorem dL_law_965 : decode cL_law 965 = .ok (.iload 5, 2) := by decide +kernel
theorem dL_law_967 : decode cL_law 967 = .ok (.if_icmp .eq 5, 3) := by decide +kernel
theorem dL_law_970 : decode cL_law 970 = .ok (.iconst 0, 1) := by decide +kernel
theorem dL_law_971 : decode cL_law 971 = .ok (.ireturn, 1) := by decide +kernel
theorem dL_law_972 : decode cL_law 972 = .ok (.goto 115, 3) := by decide +kernel
theorem dL_law_975 : decode cL_law 975 = .ok (.aload_n 1, 1) := by decide +kernel
theorem dL_law_976 : decode cL_law 976 = .ok (.aload_n 0, 1) := by decide +kernel
theorem dL_law_977 : decode cL_law 977 = .ok (.iload 4, 2) := by decide +kernel
theorem dL_law_979 : decode cL_law 979 = .ok (.iconst 1, 1) := by decide +kernel
theorem dL_law_980 : decode cL_law 980 = .ok (.iadd, 1) := by decide +kernel
theorem dL_law_981 : decode cL_law 981 = .ok (.iaload, 1) := by decide +kernel
theorem dL_law_982 : decode cL_law 982 = .ok (.aload_n 3, 1) := by decide +kernel
theorem dL_law_983 : decode cL_law 983 = .ok (.invokestatic 125, 3) := by decide +kernel
theorem dL_law_986 : decode cL_law 986 = .ok (.istore 5, 2) := by decide +kernel
theorem dL_law_988 : decode cL_law 988 = .ok (.aload_n 2, 1) := by decide +kernel
theorem dL_law_989 : decode cL_law 989 = .ok (.aload_n 0, 1) := by decide +kernel
theorem dL_law_990 : decode cL_law 990 = .ok (.iload 4, 2) := by decide +kernel
theorem dL_law_992 : decode cL_law 992 = .ok (.iconst 1, 1) := by decide +kernel
theorem dL_law_993 : decode cL_law 993 = .ok (.iadd, 1) := by decide +kernel
theorem dL_law_994 : decode cL_law 994 = .ok (.iaload, 1) := by decide +kernel
theorem dL_law_995 : decode cL_law 995 = .ok (.invokevirtual 127, 3) := by decide +kernel
theorem dL_law_998 : decode cL_law 998 = .ok (.istore 6, 2) := by decide +kernel
theorem dL_law_1000 : decode cL_law 1000 = .ok (.aload_n 2, 1) := by decide +kernel
theorem dL_law_1001 : decode cL_law 1001 = .ok (.invokevirtual 77, 3) := by decide +kernel
theorem dL_law_1004 : decode cL_law 1004 = .ok (.iload 5, 2) := by decide +kernel
theorem dL_law_1006 : decode cL_law 1006 = .ok (.if_icmp .eq 5, 3) := by decide +kernel
theorem dL_law_1009 : decode cL_law 1009 = .ok (.iconst 0, 1) := by decide +kernel
theorem dL_law_1010 : decode cL_law 1010 = .ok (.ireturn, 1) := by decide +kernel
theorem dL_law_1011 : decode cL_law 1011 = .ok (.iload 5, 2) := by decide +kernel
theorem dL_law_1013 : decode cL_law 1013 = .ok (.ifCond .ne 15, 3) := by decide +kernel
theorem dL_law_1016 : decode cL_law 1016 = .ok (.aload_n 3, 1) := by decide +kernel
theorem dL_law_1017 : decode cL_law 1017 = .ok (.iconst 0, 1) := by decide +kernel
theorem dL_law_1018 : decode cL_law 1018 = .ok (.laload, 1) := by decide +kernel
theorem dL_law_1019 : decode cL_law 1019 = .ok (.iload 6, 2) := by decide +kernel
theorem dL_law_1021 : decode cL_law 1021 = .ok (.i2l, 1) := by decide +kernel
theorem dL_law_1022 : decode cL_law 1022 = .ok (.lcmp, 1) := by decide +kernel
theorem dL_law_1023 : decode cL_law 1023 = .ok (.ifCond .eq 5, 3) := by decide +kernel
theorem dL_law_1026 : decode cL_law 1026 = .ok (.iconst 0, 1) := by decide +kernel
theorem dL_law_1027 : decode cL_law 1027 = .ok (.ireturn, 1) := by decide +kernel
theorem dL_law_1028 : decode cL_law 1028 = .ok (.goto 59, 3) := by decide +kernel
theorem dL_law_1031 : decode cL_law 1031 = .ok (.aload_n 1, 1) := by decide +kernel
theorem dL_law_1032 : decode cL_law 1032 = .ok (.aload_n 0, 1) := by decide +kernel
theorem dL_law_1033 : decode cL_law 1033 = .ok (.iload 4, 2) := by decide +kernel
theorem dL_law_1035 : decode cL_law 1035 = .ok (.iconst 1, 1) := by decide +kernel
theorem dL_law_1036 : decode cL_law 1036 = .ok (.iadd, 1) := by decide +kernel
theorem dL_law_1037 : decode cL_law 1037 = .ok (.iaload, 1) := by decide +kernel
theorem dL_law_1038 : decode cL_law 1038 = .ok (.aload_n 3, 1) := by decide +kernel
theorem dL_law_1039 : decode cL_law 1039 = .ok (.invokestatic 128, 3) := by decide +kernel
theorem dL_law_1042 : decode cL_law 1042 = .ok (.istore 5, 2) := by decide +kernel
theorem dL_law_1044 : decode cL_law 1044 = .ok (.aload_n 2, 1) := by decide +kernel
theorem dL_law_1045 : decode cL_law 1045 = .ok (.aload_n 0, 1) := by decide +kernel
theorem dL_law_1046 : decode cL_law 1046 = .ok (.iload 4, 2) := by decide +kernel
theorem dL_law_1048 : decode cL_law 1048 = .ok (.iconst 1, 1) := by decide +kernel
theorem dL_law_1049 : decode cL_law 1049 = .ok (.iadd, 1) := by decide +kernel
theorem dL_law_1050 : decode cL_law 1050 = .ok (.iaload, 1) := by decide +kernel
theorem dL_law_1051 : decode cL_law 1051 = .ok (.invokevirtual 130, 3) := by decide +kernel
theorem dL_law_1054 : decode cL_law 1054 = .ok (.istore 6, 2) := by decide +kernel
theorem dL_law_1056 : decode cL_law 1056 = .ok (.aload_n 2, 1) := by decide +kernel
theorem dL_law_1057 : decode cL_law 1057 = .ok (.invokevirtual 77, 3) := by decide +kernel
theorem dL_law_1060 : decode cL_law 1060 = .ok (.iload 5, 2) := by decide +kernel
theorem dL_law_1062 : decode cL_law 1062 = .ok (.if_icmp .eq 5, 3) := by decide +kernel
theorem dL_law_1065 : decode cL_law 1065 = .ok (.iconst 0, 1) := by decide +kernel
theorem dL_law_1066 : decode cL_law 1066 = .ok (.ireturn, 1) := by decide +kernel
theorem dL_law_1067 : decode cL_law 1067 = .ok (.iload 5, 2) := by decide +kernel
theorem dL_law_1069 : decode cL_law 1069 = .ok (.ifCond .ne 15, 3) := by decide +kernel
theorem dL_law_1072 : decode cL_law 1072 = .ok (.aload_n 3, 1) := by decide +kernel
theorem dL_law_1073 : decode cL_law 1073 = .ok (.iconst 0, 1) := by decide +kernel
theorem dL_law_1074 : decode cL_law 1074 = .ok (.laload, 1) := by decide +kernel
theorem dL_law_1075 : decode cL_law 1075 = .ok (.iload 6, 2) := by decide +kernel
theorem dL_law_1077 : decode cL_law 1077 = .ok (.i2l, 1) := by decide +kernel
theorem dL_law_1078 : decode cL_law 1078 = .ok (.lcmp, 1) := by decide +kernel
theorem dL_law_1079 : decode cL_law 1079 = .ok (.ifCond .eq 5, 3) := by decide +kernel
theorem dL_law_1082 : decode cL_law 1082 = .ok (.iconst 0, 1) := by decide +kernel
theorem dL_law_1083 : decode cL_law 1083 = .ok (.ireturn, 1) := by decide +kernel
theorem dL_law_1084 : decode cL_law 1084 = .ok (.goto 3, 3) := by decide +kernel
theorem dL_law_1087 : decode cL_law 1087 = .ok (.iinc 4 7, 3) := by decide +kernel
theorem dL_law_1090 : decode cL_law 1090 = .ok (.goto (-1067), 3) := by decide +kernel
theorem dL_law_1093 : decode cL_law 1093 = .ok (.iconst 1, 1) := by decide +kernel
theorem dL_law_1094 : decode cL_law 1094 = .ok (.ireturn, 1) := by decide +kernel
end
section
/-! a method over a world: from every state with the world w u it returns o, and the world is w u' -/
def gw_Q {S : Type} (D : va_G) (cl : List vw_C) (w : S → va_W) (A : Nat → Prop) (u' : S) (o : Option Value) : Array Value → State → Outcome → State → Prop := fun _ st oc t => (oc = .returned o ∧ va_P D cl (w u') t.heap ∧ va_D A (w u')) ∧ va_F A st t
def gw_P {S : Type} (D : va_G) (cl : List vw_C) (tys : List (ClassId × FieldType)) (w : S → va_W) (u : S) (sz : Nat) (av : List Value) : Array Value → State → Prop := va_Pc av (fun U => U.heap.size = sz ∧ va_P D cl (w u) U.heap ∧ va_K D cl tys U ∧ va_D (fun _ => True) (w u))
def gw_Ct {S : Type} (l : Launch) (D : va_G) (cl : List vw_C) (tys : List (ClassId × FieldType)) (w : S → va_W) (y : MethodName) (ws : List Cond) (rm : Room) (av : List Value) (u : S) (o : Option Value) (u' : S) : Prop :=
  ∀ sz : Nat, Met l y ws rm (gw_P D cl tys w u sz av) (gw_Q D cl w (va_A (w u) sz) u' o) 0 0 (va_A (w u) sz)
/-- what stands at every point of a walk -/
def gw_C (p : Program) (s : State) (m : MethodId) (args : Array Value) (meth : Method) (c : Code) (own : String) (cc : ByteArray) (maxL : Nat) (ret : Option FieldType) (G : List Cond) (D : va_G) (cl : List vw_C) (tys : List (ClassId × FieldType)) (A : Nat → Prop) : Prop :=
  p.tables.exec = Jvm.exec ∧ c.code = cc ∧ meth.sig.returnType = ret ∧ c.maxLocals = maxL ∧ (∀ w ∈ G, w.before args s = true) ∧ s.vm.findClass own = some m.cls ∧ meth.locks = false ∧ va_K D cl tys s ∧ (∀ q, s.heap.size ≤ q → A q)
theorem gw_blind {S : Type} {D : va_G} {cl : List vw_C} {tys : List (ClassId × FieldType)} {w : S → va_W} {u : S} {sz : Nat} {av : List Value} : FrameBlind (gw_P D cl tys w u sz av) := fun a U g mk q => by
  obtain ⟨q0, q1, qP, qK, qD⟩ := q
  exact ⟨q0, q1, qP, va_K.moved (u := U) (U := U.calling g mk a) (Vm.Alike.refl U.vm) qK, qD⟩
theorem gw_pre {S : Type} {D : va_G} {cl : List vw_C} {tys : List (ClassId × FieldType)} {w : S → va_W} {u : S} {av : List Value} {s : State} {H : Heap} {A : Nat → Prop} (hK : va_K D cl tys s) (hP : va_P D cl (w u) H) (hD : va_D A (w u)) : ∀ U : State, U.heap = H → s.WarmedH U.vm → gw_P D cl tys w u H.size av av.toArray U := fun U hU hW => ⟨rfl, by rw [hU], by rw [hU]; exact hP, va_K.moved hW.alike hK, hD.weaken (fun _ _ _ _ => trivial)⟩
section GWC
variable {p : Program} {l : Launch} {e : Env} {R : Room} {s : State} {m : MethodId} {args : Array Value} {below : List Frame} {meth : Method} {c : Code} {H : Heap} {locs : List Loc} {cells slots : Nat} {Q : State → Prop}
variable {S : Type} {D : va_G} {cl : List vw_C} {tys : List (ClassId × FieldType)} {w : S → va_W} {A : Nat → Prop} {H0 : Heap} {pc : Nat} {ls : Array Slot} {rest st0 : List Value} {a : Array Value} {u u' : S} {o : Option Value}
theorem gw_after (hr : va_Run p l e R s m args below meth c H locs cells slots 0 0 (F0 m pc ls st0) rest (gw_Q D cl w (va_A (w u) H.size) u' o a) (va_A (w u) H.size))
    (hD : va_D A (w u)) (hS : va_S A H0 H locs) (hA : ∀ q, H0.size ≤ q → A q)
    (kk : ∀ (H1 : Heap) (locs1 : List Loc), va_P D cl (w u') H1 → va_D A (w u') → va_S A H0 H1 locs1 → W p l e R s m args below meth c H1 locs1 cells slots Q (F0 m (pc + 3) ls (o.toList ++ rest))) :
    W p l e R s m args below meth c H locs cells slots Q (F0 m pc ls st0) := by
  have hF : ∀ q, va_A (w u) H.size q → A q := fun q h => by
    rcases h with ⟨k, e, h⟩ | h
    · exact hD.2 k _ h
    · exact hA q (Nat.le_trans hS.1 h)
  intro T hT X
  obtain ⟨v, st₀, t, T', L, h0, X', hL, e1, e2, ⟨⟨hv, hp, hd⟩, hz, hk⟩, st⟩ := hr T hT X
  cases hv
  rw [h0] at hz hk
  obtain ⟨t2, a1, b1⟩ := kk T'.heap (locs ++ L) (by rw [e1]; exact hp) (hd.weaken (fun _ q _ h => hF q.1 h))
    ⟨Nat.le_trans hS.1 (by rw [e1]; exact hz), fun q h1 h2 => by rw [e1, hk q (Nat.lt_of_lt_of_le h1 hS.1) (fun z => h2 (hF q z))]; exact hS.2.1 q h1 h2, fun q hq => by
      rcases List.mem_append.mp hq with h | h
      · exact hS.2.2 q h
      · exact hF _ (hL q h)⟩ T' rfl X'
  exact ⟨t2, st t2 a1, b1⟩
theorem gw_iret {cc : ByteArray} {v : Int32} (hexec : p.tables.exec = Jvm.exec) (hb : c.code = cc) (hr : meth.sig.returnType = some .int) (hlocks : meth.locks = false) (hP : va_P D cl (w u') H) (hD : va_D A (w u')) (hS : va_S A s.heap H locs) (hdg : decode cc pc = .ok (.ireturn, 1)) :
    W p l e R s m args below meth c H locs cells slots (MQ below (gw_Q D cl w A u' (some (.int v))) args s cells slots A) (F0 m pc ls [.int v]) :=
  W.iret hexec hb hr (fun t ht hW => ⟨⟨rfl, by rw [ht]; exact hP, hD⟩, hS.F ht⟩) hS.2.2 hdg
theorem gw_zret {cc : ByteArray} {v : Int32} {ty : FieldType} (hexec : p.tables.exec = Jvm.exec) (hb : c.code = cc) (hr : meth.sig.returnType = some ty) (hn : narrow ty (.int v) = .int v) (hlocks : meth.locks = false) (hP : va_P D cl (w u') H) (hD : va_D A (w u')) (hS : va_S A s.heap H locs) (hdg : decode cc pc = .ok (.ireturn, 1)) :
    W p l e R s m args below meth c H locs cells slots (MQ below (gw_Q D cl w A u' (some (.int v))) args s cells slots A) (F0 m pc ls [.int v]) :=
  W.zret hexec hb hr hn (fun t ht hW => ⟨⟨rfl, by rw [ht]; exact hP, hD⟩, hS.F ht⟩) hS.2.2 hdg
theorem gw_vret {cc : ByteArray} (hexec : p.tables.exec = Jvm.exec) (hb : c.code = cc) (hr : meth.sig.returnType = none) (hlocks : meth.locks = false) (hP : va_P D cl (w u') H) (hD : va_D A (w u')) (hS : va_S A s.heap H locs) (hdg : decode cc pc = .ok (.return_, 1)) :
    W p l e R s m args below meth c H locs cells slots (MQ below (gw_Q D cl w A u' none) args s cells slots A) (F0 m pc ls []) :=
  W.vret hexec hb hr (fun t ht hW => ⟨⟨rfl, by rw [ht]; exact hP, hD⟩, hS.F ht⟩) hS.2.2 hdg
/-- the words of a call, once for each place of the pool -/
def gw_LV (own C : String) (index : Nat) (y : MethodName) (bytes : ByteArray) (maxL : Nat) (ret : Option FieldType) (n : Nat) : Prop :=
  Cond.methodLink own index y ∈ gG ∧ Cond.instanceMethod y ∈ gG ∧ Cond.selects C y y ∈ gG ∧ Cond.initialized y.cls ∈ gG ∧ Cond.code y bytes maxL ret ∈ gG ∧
  (y.cls ≠ "java/lang/invoke/MethodHandle" ∧ y.cls ≠ "java/lang/invoke/VarHandle" ∧ (parseMethodDescriptor y.desc).map (fun d => d.parameters.length) = some n)
def gw_LS (own : String) (index : Nat) (y : MethodName) (bytes : ByteArray) (maxL : Nat) (ret : Option FieldType) (n : Nat) : Prop :=
  Cond.methodLink own index y ∈ gG ∧ Cond.static y ∈ gG ∧ Cond.initialized y.cls ∈ gG ∧ Cond.code y bytes maxL ret ∈ gG ∧
  (y.cls ≠ "java/lang/invoke/MethodHandle" ∧ y.cls ≠ "java/lang/invoke/VarHandle" ∧ (parseMethodDescriptor y.desc).map (fun d => d.parameters.length) = some n)
theorem gG_in {ws : List Cond} (h : ∀ w ∈ ws, w ∈ gG) : GoodIn gG ws := fun w hw => ⟨h w hw, good_of_word (List.mem_filter.mp (h w hw)).2⟩
theorem gG_c {w : Cond} (h : w ∈ gG) : ∀ v ∈ w :: gG, v ∈ gG := List.forall_mem_cons.mpr ⟨h, fun _ h => h⟩
theorem gw_callV {cc : ByteArray} {own C : String} {index maxL n nL : Nat} {y : MethodName} {bytes : ByteArray} {ret : Option FieldType} {rm : Room} {As : List Value} {b : Addr}
    (hx : p.tables.exec = Jvm.exec) (hb : c.code = cc) (hml : c.maxLocals = nL) (hown : s.vm.findClass own = some m.cls) (hG : ∀ w ∈ gG, w.before args s = true)
    (hM : gw_Ct l D cl tys w y (Cond.code y bytes maxL ret :: gG) rm (.ref b :: As) u o u') (lk : gw_LV own C index y bytes maxL ret n)
    (hrc : rm.cells = 0) (hrs : rm.slots = 0) (hR : rm.frames + 1 ≤ R.frames ∧ 8 + (maxL + 11) + rm.locals ≤ R.locals)
    (hrecv : ∃ cellB : Cell, H[b]? = some cellB ∧ cellB.vm.isStatics = false ∧ s.vm.findClass C = some cellB.cls)
    (hK : va_K D cl tys s) (hP : va_P D cl (w u) H) (hD : va_D A (w u)) (hS : va_S A H0 H locs) (hA : ∀ q, H0.size ≤ q → A q)
    (hn : As.length = n) (hsize : ls.size = nL) (hst : st0 = As.reverse ++ .ref b :: rest) (hroom : (rest.map fun v => v.category).sum ≤ 8) (hdg : decode cc pc = .ok (.invokevirtual index, 3)) (hf : cells ≤ R.cells ∧ slots ≤ R.slots)
    (kk : ∀ (H1 : Heap) (locs1 : List Loc), va_P D cl (w u') H1 → va_D A (w u') → va_S A H0 H1 locs1 → W p l e R s m args below meth c H1 locs1 cells slots Q (F0 m (pc + 3) ls (o.toList ++ rest))) :
    W p l e R s m args below meth c H locs cells slots Q (F0 m pc ls st0) := by
  obtain ⟨m1, m2, m3, m4, m5, hd⟩ := lk
  exact gw_after (a := (Value.ref b :: As).toArray) (va_runV (As := As) (rest := rest) ⟨hx, hb, hml, hown, hG⟩ (hM H.size) ⟨callB_of n hG (gG_in (gG_c m5)) rfl hrc hrs (hG _ m4) (hG _ m1) hd hR, hG _ m2, hG _ m3⟩ ⟨gw_blind, hrecv, gw_pre hK hP hD⟩ rfl hn hsize hst (lv_room hroom) hdg hf) hD hS hA kk
theorem gw_callS {cc : ByteArray} {own : String} {index maxL n nL : Nat} {y : MethodName} {bytes : ByteArray} {ret : Option FieldType} {rm : Room} {As : List Value}
    (hx : p.tables.exec = Jvm.exec) (hb : c.code = cc) (hml : c.maxLocals = nL) (hown : s.vm.findClass own = some m.cls) (hG : ∀ w ∈ gG, w.before args s = true)
    (hM : gw_Ct l D cl tys w y (Cond.code y bytes maxL ret :: gG) rm As u o u') (lk : gw_LS own index y bytes maxL ret n)
    (hrc : rm.cells = 0) (hrs : rm.slots = 0) (hR : rm.frames + 1 ≤ R.frames ∧ 8 + (maxL + 11) + rm.locals ≤ R.locals)
    (hK : va_K D cl tys s) (hP : va_P D cl (w u) H) (hD : va_D A (w u)) (hS : va_S A H0 H locs) (hA : ∀ q, H0.size ≤ q → A q)
    (hn : As.length = n) (hsize : ls.size = nL) (hst : st0 = As.reverse ++ rest) (hroom : (rest.map fun v => v.category).sum ≤ 8) (hdg : decode cc pc = .ok (.invokestatic index, 3)) (hf : cells ≤ R.cells ∧ slots ≤ R.slots)
    (kk : ∀ (H1 : Heap) (locs1 : List Loc), va_P D cl (w u') H1 → va_D A (w u') → va_S A H0 H1 locs1 → W p l e R s m args below meth c H1 locs1 cells slots Q (F0 m (pc + 3) ls (o.toList ++ rest))) :
    W p l e R s m args below meth c H locs cells slots Q (F0 m pc ls st0) := by
  obtain ⟨m1, m2, m4, m5, hd⟩ := lk
  exact gw_after (a := As.toArray) (va_runS (As := As) (rest := rest) ⟨hx, hb, hml, hown, hG⟩ (hM H.size) ⟨callB_of n hG (gG_in (gG_c m5)) rfl hrc hrs (hG _ m4) (hG _ m1) hd hR, hG _ m2⟩ ⟨gw_blind, gw_pre hK hP hD⟩ rfl hn hsize hst (lv_room hroom) hdg hf) hD hS hA kk
end GWC
/-- a contract out of a walk -/
theorem gw_enter {S : Type} {l : Launch} {D : va_G} {cl : List vw_C} {tys : List (ClassId × FieldType)} {w : S → va_W} {y : MethodName} {cc : ByteArray} {maxL : Nat} {ret : Option FieldType} {rm : Room} {av : List Value} {u u' : S} {o : Option Value}
    (hy : plainName y.cls = true) (hn : (lg_sl av).length ≤ maxL)
    (body : ∀ (p : Program) (e : Env) (s : State) (m : MethodId) (below : List Frame) (meth : Method) (c : Code) (A : Nat → Prop), gw_C p s m av.toArray meth c y.cls cc maxL ret gG D cl tys A → va_P D cl (w u) s.heap → va_D A (w u) → va_S A s.heap s.heap [] → ∀ ls : Array Slot, lv_has ls maxL (lv_args 0 av) →
      W p l e rm s m av.toArray below meth c s.heap [] 0 0 (MQ below (gw_Q D cl w A u' o) av.toArray s 0 0 A) (F0 m 0 ls [])) :
    gw_Ct l D cl tys w y (Cond.code y cc maxL ret :: gG) rm av u o u' := by
  intro sz
  refine Met.ofW (cc := cc) (maxL := maxL) (ret := ret) hy rfl ?_
  intro p e s m args below meth c s₁ B hml hv
  obtain ⟨rfl, hsz, hP, hK, hD0⟩ := hv
  have hts := atoms_spec (ws := Cond.code y cc maxL ret :: gG) B.pre
  subst hsz
  rw [lg_entry_eq]
  exact body p e s m below meth c (va_A (w u) s.heap.size) ⟨B.exec, B.bytes, B.returns, hml, fun w h => hts w (List.mem_cons_of_mem _ h), findClass_of_methodNamed B.named, B.notSynchronized, hK, fun q h => Or.inr h⟩ hP (hD0.self) va_S.rf _ (lv_entry av hn)
theorem gw_bind {α β : Type} {x : Option α} {f : α → Option β} {r : β} (h : x.bind f = some r) : ∃ a, x = some a ∧ f a = some r := by
  cases x with
  | none => cases h
  | some a => exact ⟨a, rfl, h⟩
def gI {α : Type} (i : Int32) (n : Nat) (k : Option α) : Option α := if i < 0 ∨ n ≤ i.toNatClampNeg then none else k
theorem gI_some {α : Type} {i : Int32} {n : Nat} {k : Option α} {r : α} (h : gI i n k = some r) : vp_in i n ∧ k = some r := by
  unfold gI at h
  split at h
  · cases h
  · exact ⟨by assumption, h⟩
end
section
abbrev cJI_bitCount : ByteArray := prog_13_method_49_code
def yJI_bitCount : MethodName := ⟨"java/lang/Integer", "bitCount", "(I)I"⟩
theorem dJI_bitCount_0 : decode cJI_bitCount 0 = .ok (.iload_n 0, 1) := by decide +kernel
theorem dJI_bitCount_1 : decode cJI_bitCount 1 = .ok (.iload_n 0, 1) := by decide +kernel
theorem dJI_bitCount_2 : decode cJI_bitCount 2 = .ok (.iconst 1, 1) := by decide +kernel
theorem dJI_bitCount_3 : decode cJI_bitCount 3 = .ok (.iushr, 1) := by decide +kernel
theorem dJI_bitCount_4 : decode cJI_bitCount 4 = .ok (.ldc_w 265, 3) := by decide +kernel
theorem dJI_bitCount_7 : decode cJI_bitCount 7 = .ok (.iand, 1) := by decide +kernel
theorem dJI_bitCount_8 : decode cJI_bitCount 8 = .ok (.isub, 1) := by decide +kernel
theorem dJI_bitCount_9 : decode cJI_bitCount 9 = .ok (.istore_n 0, 1) := by decide +kernel
theorem dJI_bitCount_10 : decode cJI_bitCount 10 = .ok (.iload_n 0, 1) := by decide +kernel
theorem dJI_bitCount_11 : decode cJI_bitCount 11 = .ok (.ldc_w 266, 3) := by decide +kernel
theorem dJI_bitCount_14 : decode cJI_bitCount 14 = .ok (.iand, 1) := by decide +kernel
theorem dJI_bitCount_15 : decode cJI_bitCount 15 = .ok (.iload_n 0, 1) := by decide +kernel
theorem dJI_bitCount_16 : decode cJI_bitCount 16 = .ok (.iconst 2, 1) := by decide +kernel
theorem dJI_bitCount_17 : decode cJI_bitCount 17 = .ok (.iushr, 1) := by decide +kernel
theorem dJI_bitCount_18 : decode cJI_bitCount 18 = .ok (.ldc_w 266, 3) := by decide +kernel
theorem dJI_bitCount_21 : decode cJI_bitCount 21 = .ok (.iand, 1) := by decide +kernel
theorem dJI_bitCount_22 : decode cJI_bitCount 22 = .ok (.iadd, 1) := by decide +kernel
theorem dJI_bitCount_23 : decode cJI_bitCount 23 = .ok (.istore_n 0, 1) := by decide +kernel
theorem dJI_bitCount_24 : decode cJI_bitCount 24 = .ok (.iload_n 0, 1) := by decide +kernel
theorem dJI_bitCount_25 : decode cJI_bitCount 25 = .ok (.iload_n 0, 1) := by decide +kernel
theorem dJI_bitCount_26 : decode cJI_bitCount 26 = .ok (.iconst 4, 1) := by decide +kernel
theorem dJI_bitCount_27 : decode cJI_bitCount 27 = .ok (.iushr, 1) := by decide +kernel
theorem dJI_bitCount_28 : decode cJI_bitCount 28 = .ok (.iadd, 1) := by decide +kernel
theorem dJI_bitCount_29 : decode cJI_bitCount 29 = .ok (.ldc_w 267, 3) := by decide +kernel
theorem dJI_bitCount_32 : decode cJI_bitCount 32 = .ok (.iand, 1) := by decide +kernel
theorem dJI_bitCount_33 : decode cJI_bitCount 33 = .ok (.istore_n 0, 1) := by decide +kernel
theorem dJI_bitCount_34 : decode cJI_bitCount 34 = .ok (.iload_n 0, 1) := by decide +kernel
theorem dJI_bitCount_35 : decode cJI_bitCount 35 = .ok (.iload_n 0, 1) := by decide +kernel
theorem dJI_bitCount_36 : decode cJI_bitCount 36 = .ok (.bipush 8, 2) := by decide +kernel
theorem dJI_bitCount_38 : decode cJI_bitCount 38 = .ok (.iushr, 1) := by decide +kernel
theorem dJI_bitCount_39 : decode cJI_bitCount 39 = .ok (.iadd, 1) := by decide +kernel
theorem dJI_bitCount_40 : decode cJI_bitCount 40 = .ok (.istore_n 0, 1) := by decide +kernel
theorem dJI_bitCount_41 : decode cJI_bitCount 41 = .ok (.iload_n 0, 1) := by decide +kernel
theorem dJI_bitCount_42 : decode cJI_bitCount 42 = .ok (.iload_n 0, 1) := by decide +kernel
theorem dJI_bitCount_43 : decode cJI_bitCount 43 = .ok (.bipush 16, 2) := by decide +kernel
theorem dJI_bitCount_45 : decode cJI_bitCount 45 = .ok (.iushr, 1) := by decide +kernel
theorem dJI_bitCount_46 : decode cJI_bitCount 46 = .ok (.iadd, 1) := by decide +kernel
theorem dJI_bitCount_47 : decode cJI_bitCount 47 = .ok (.istore_n 0, 1) := by decide +kernel
theorem dJI_bitCount_48 : decode cJI_bitCount 48 = .ok (.iload_n 0, 1) := by decide +kernel
theorem dJI_bitCount_49 : decode cJI_bitCount 49 = .ok (.bipush 63, 2) := by decide +kernel
theorem dJI_bitCount_51 : decode cJI_bitCount 51 = .ok (.iand, 1) := by decide +kernel
theorem dJI_bitCount_52 : decode cJI_bitCount 52 = .ok (.ireturn, 1) := by decide +kernel
abbrev cJM_min : ByteArray := prog_14_method_69_code
def yJM_min : MethodName := ⟨"java/lang/Math", "min", "(II)I"⟩
theorem dJM_min_0 : decode cJM_min 0 = .ok (.iload_n 0, 1) := by decide +kernel
theorem dJM_min_1 : decode cJM_min 1 = .ok (.iload_n 1, 1) := by decide +kernel
theorem dJM_min_2 : decode cJM_min 2 = .ok (.if_icmp .gt 7, 3) := by decide +kernel
theorem dJM_min_5 : decode cJM_min 5 = .ok (.iload_n 0, 1) := by decide +kernel
theorem dJM_min_6 : decode cJM_min 6 = .ok (.goto 4, 3) := by decide +kernel
theorem dJM_min_9 : decode cJM_min 9 = .ok (.iload_n 1, 1) := by decide +kernel
theorem dJM_min_10 : decode cJM_min 10 = .ok (.ireturn, 1) := by decide +kernel
abbrev StA : Type := (Nat → Int32) × (Nat → Nat → Int32) × (Nat → Int64)
def sF (u : StA) (k : Nat) (v : Int32) : StA := (fun j => if j = k then v else u.1 j, u.2.1, u.2.2)
def sA (u : StA) (k i : Nat) (v : Int32) : StA := (u.1, fun j => if j = k then upd (u.2.1 k) i v else u.2.1 j, u.2.2)
def sL (u : StA) (i : Nat) (v : Int64) : StA := (u.1, u.2.1, vp_updL u.2.2 i v)
abbrev tA (cI cZ cJ : ClassId) : List (ClassId × FieldType) := [(cI, .int), (cZ, .boolean), (cJ, .long)]
def wA (ad : Nat → Nat) (cI cZ cJ : ClassId) (u : StA) : va_W := [((ad 0), .inr (0, [.ref (ad 1), .ref (ad 2), .ref (ad 3), .ref (ad 4), .ref (ad 5), .ref (ad 6), .int (u.1 0), .int (u.1 1), .int (u.1 2)])), ((ad 1), .inr (1, [.ref (ad 7), .ref (ad 8), .ref (ad 9), .int (u.1 3)])), ((ad 2), .inr (2, [.ref (ad 10), .ref (ad 11), .ref (ad 12), .ref (ad 13), .ref (ad 14), .ref (ad 15), .int (u.1 4)])), ((ad 3), .inr (3, [.ref (ad 16), .ref (ad 17), .ref (ad 18), .ref (ad 19), .ref (ad 20), .ref (ad 21), .ref (ad 22), .ref (ad 23), .ref (ad 24), .int (u.1 5)])), ((ad 4), .inr (4, [.ref (ad 25), .ref (ad 26), .ref (ad 27), .ref (ad 28), .ref (ad 29), .ref (ad 30), .int (u.1 6)])), ((ad 5), .inr (5, [.ref (ad 31)])), ((ad 6), .inl (cI, 100, .inl (u.2.1 0))), ((ad 7), .inl (cI, 8, .inl (u.2.1 1))), ((ad 8), .inl (cI, 8, .inl (u.2.1 2))), ((ad 9), .inl (cZ, 8, .inl (u.2.1 3))), ((ad 10), .inl (cI, 30, .inl (u.2.1 4))), ((ad 11), .inl (cI, 30, .inl (u.2.1 5))), ((ad 12), .inl (cI, 30, .inl (u.2.1 6))), ((ad 13), .inl (cI, 30, .inl (u.2.1 7))), ((ad 14), .inl (cI, 30, .inl (u.2.1 8))), ((ad 15), .inl (cI, 30, .inl (u.2.1 9))), ((ad 16), .inl (cI, 30, .inl (u.2.1 10))), ((ad 17), .inl (cI, 30, .inl (u.2.1 11))), ((ad 18), .inl (cI, 30, .inl (u.2.1 12))), ((ad 19), .inl (cI, 30, .inl (u.2.1 13))), ((ad 20), .inl (cI, 30, .inl (u.2.1 14))), ((ad 21), .inl (cI, 30, .inl (u.2.1 15))), ((ad 22), .inl (cI, 30, .inl (u.2.1 16))), ((ad 23), .inl (cI, 30, .inl (u.2.1 17))), ((ad 24), .inl (cZ, 30, .inl (u.2.1 18))), ((ad 25), .inl (cI, 100, .inl (u.2.1 19))), ((ad 26), .inl (cI, 100, .inl (u.2.1 20))), ((ad 27), .inl (cI, 100, .inl (u.2.1 21))), ((ad 28), .inl (cI, 100, .inl (u.2.1 22))), ((ad 29), .inl (cI, 100, .inl (u.2.1 23))), ((ad 30), .inl (cI, 100, .inl (u.2.1 24))), ((ad 31), .inl (cJ, 500, .inr (.inl u.2.2)))]
def f_A_isWithin (a1 : Int32) (a2 : Int32) (a3 : Int32) : Int32 :=
  if a1 < a2 then (0 : Int32)
  else if a3 < a1 then (0 : Int32)
    else (1 : Int32)
def f_A_isSpan (a1 : Int32) (a2 : Int32) : Int32 :=
  if a1 < (0 : Int32) then (0 : Int32)
  else if a2 ≤ a1 then (0 : Int32)
    else if (99999 : Int32) < a2 then (0 : Int32)
      else (1 : Int32)
def f_A_isHours (a1 : Int32) : Int32 :=
  if a1 < (0 : Int32) then (0 : Int32)
  else if (24 : Int32) ≤ (a1 / (100 : Int32)) then (0 : Int32)
    else if (24 : Int32) ≤ (a1 - a1 / (100 : Int32) * (100 : Int32)) then (0 : Int32)
      else (1 : Int32)
def f_A_isNumber (a1 : Int32) : Int32 :=
  (f_A_isWithin a1 (0 : Int32) (999 : Int32))
def f_A_isCall (a1 : Int32) : Int32 :=
  (f_A_isWithin a1 (0 : Int32) (99 : Int32))
def f_Ho_has (u : StA) (a1 : Int32) : Int32 :=
  if a1 < (0 : Int32) then (0 : Int32)
  else if (u.1 3) ≤ a1 then (0 : Int32)
    else (1 : Int32)
def f_Ho_isFull (u : StA) : Int32 :=
  if (u.1 3) < (8 : Int32) then (0 : Int32)
  else (1 : Int32)
def f_Ho_add (u : StA) (a1 : Int32) (a2 : Int32) : Option (Int32 × StA) :=
  gI (u.1 3) 8 <|
  some ((u.1 3), (sF (sA (sA u 1 ((u.1 3)).toNatClampNeg a1) 2 ((u.1 3)).toNatClampNeg a2) 3 ((u.1 3) + (1 : Int32))))
def f_Ag_isFull (u : StA) : Int32 :=
  if (u.1 4) < (30 : Int32) then (0 : Int32)
  else (1 : Int32)
def f_Ag_add (u : StA) (a1 : Int32) (a2 : Int32) (a3 : Int32) (a4 : Int32) (a5 : Int32) (a6 : Int32) : Option (Int32 × StA) :=
  gI (u.1 4) 30 <|
  some ((u.1 4), (sF (sA (sA (sA (sA (sA (sA u 4 ((u.1 4)).toNatClampNeg a1) 5 ((u.1 4)).toNatClampNeg a2) 6 ((u.1 4)).toNatClampNeg a3) 7 ((u.1 4)).toNatClampNeg a4) 8 ((u.1 4)).toNatClampNeg a5) 9 ((u.1 4)).toNatClampNeg a6) 4 ((u.1 4) + (1 : Int32))))
def f_Ag_meetAny_3 (N : Nat) : Nat → StA → Int32 → Int32 → Int32 → Int32 → Int32 → Option Int32
  | 0, _, _, _, _, _, _ => none
  | n + 1, u, x1, x2, x3, x4, x5 =>
    if (u.1 4) ≤ x5 then some (0 : Int32)
    else gI x5 30 <|
      if (u.2.1 4 (x5).toNatClampNeg) = x1 then if (u.2.1 5 (x5).toNatClampNeg) = x2 then if x4 ≤ (u.2.1 6 (x5).toNatClampNeg) then f_Ag_meetAny_3 N n u x1 x2 x3 x4 (x5 + (1 : Int32))
          else if (u.2.1 7 (x5).toNatClampNeg) ≤ x3 then f_Ag_meetAny_3 N n u x1 x2 x3 x4 (x5 + (1 : Int32))
            else some (1 : Int32)
        else f_Ag_meetAny_3 N n u x1 x2 x3 x4 (x5 + (1 : Int32))
      else f_Ag_meetAny_3 N n u x1 x2 x3 x4 (x5 + (1 : Int32))
def f_Ag_meetAny (N : Nat) (u : StA) (a1 : Int32) (a2 : Int32) (a3 : Int32) (a4 : Int32) : Option Int32 :=
  f_Ag_meetAny_3 N N u a1 a2 a3 a4 (0 : Int32)
def f_Ag_holdsAt_64 (u : StA) (x1 : Int32) (x2 : Int32) (x3 : Int32) (x4 : Int32) (x5 : Int32) (y0 : Int32) : Option Int32 :=
  if y0 = (0 : Int32) then if x3 < x4 then some (0 : Int32)
    else if x5 < x3 then some (0 : Int32)
      else some (1 : Int32)
  else if x4 ≤ x3 then some (1 : Int32)
    else if x5 < x3 then some (0 : Int32)
      else some (1 : Int32)
def f_Ag_holdsAt (u : StA) (a1 : Int32) (a2 : Int32) : Option Int32 :=
  gI a1 30 <|
  if a2 < (u.2.1 6 (a1).toNatClampNeg) then some (0 : Int32)
  else if a2 < (u.2.1 7 (a1).toNatClampNeg) then if ((u.2.1 8 (a1).toNatClampNeg) / (100 : Int32)) ≤ ((u.2.1 8 (a1).toNatClampNeg) - (u.2.1 8 (a1).toNatClampNeg) / (100 : Int32) * (100 : Int32)) then f_Ag_holdsAt_64 u a1 a2 ((a2 / (60 : Int32)) - (a2 / (60 : Int32)) / (24 : Int32) * (24 : Int32)) ((u.2.1 8 (a1).toNatClampNeg) / (100 : Int32)) ((u.2.1 8 (a1).toNatClampNeg) - (u.2.1 8 (a1).toNatClampNeg) / (100 : Int32) * (100 : Int32)) (0 : Int32)
      else f_Ag_holdsAt_64 u a1 a2 ((a2 / (60 : Int32)) - (a2 / (60 : Int32)) / (24 : Int32) * (24 : Int32)) ((u.2.1 8 (a1).toNatClampNeg) / (100 : Int32)) ((u.2.1 8 (a1).toNatClampNeg) - (u.2.1 8 (a1).toNatClampNeg) / (100 : Int32) * (100 : Int32)) (1 : Int32)
    else some (0 : Int32)
def f_As_has (u : StA) (a1 : Int32) : Int32 :=
  if a1 < (0 : Int32) then (0 : Int32)
  else if (u.1 5) ≤ a1 then (0 : Int32)
    else (1 : Int32)
def f_As_isFull (u : StA) : Int32 :=
  if (u.1 5) < (30 : Int32) then (0 : Int32)
  else (1 : Int32)
def f_As_add (u : StA) (a1 : Int32) (a2 : Int32) (a3 : Int32) : Option (Int32 × StA) :=
  gI (u.1 5) 30 <|
  some ((u.1 5), (sF (sA (sA (sA (sA u 10 ((u.1 5)).toNatClampNeg a1) 11 ((u.1 5)).toNatClampNeg a2) 12 ((u.1 5)).toNatClampNeg a3) 13 ((u.1 5)).toNatClampNeg (0 : Int32)) 5 ((u.1 5) + (1 : Int32))))
def f_As_move (u : StA) (a1 : Int32) (a2 : Int32) (a3 : Int32) (a4 : Int32) : Option StA :=
  gI a1 30 <|
  some (sA (sA (sA (sA u 14 (a1).toNatClampNeg a2) 15 (a1).toNatClampNeg a3) 17 (a1).toNatClampNeg ((u.2.1 17 (a1).toNatClampNeg) ||| ((1 : Int32) <<< (a2 &&& 31)))) 18 (a1).toNatClampNeg (vp_nar .boolean a4))
def f_As_close (u : StA) (a1 : Int32) (a2 : Int32) : Option StA :=
  gI a1 30 <|
  some (sA (sA (sA (sA u 13 (a1).toNatClampNeg a2) 14 (a1).toNatClampNeg (-1 : Int32)) 15 (a1).toNatClampNeg (0 : Int32)) 18 (a1).toNatClampNeg (vp_nar .boolean (0 : Int32)))
def f_As_isOpen (u : StA) (a1 : Int32) : Option Int32 :=
  gI a1 30 <|
  if (u.2.1 13 (a1).toNatClampNeg) = (0 : Int32) then some (1 : Int32)
  else some (0 : Int32)
def f_As_isOpenAt (u : StA) (a1 : Int32) (a2 : Int32) : Option Int32 :=
  (f_As_isOpen u a1).bind fun q1 =>
  if q1 = (0 : Int32) then some (0 : Int32)
  else gI a1 30 <|
    if (u.2.1 14 (a1).toNatClampNeg) = a2 then some (1 : Int32)
    else some (0 : Int32)
def f_As_wasAt (u : StA) (a1 : Int32) (a2 : Int32) : Option Int32 :=
  gI a1 30 <|
  if (((u.2.1 17 (a1).toNatClampNeg) >>> (a2 &&& 31)) &&& (1 : Int32)) = (1 : Int32) then some (1 : Int32)
  else some (0 : Int32)
def f_As_wanting (u : StA) (a1 : Int32) : Option Int32 :=
  gI a1 30 <|
  some ((u.2.1 11 (a1).toNatClampNeg) - (u.2.1 16 (a1).toNatClampNeg))
def f_As_patienceEnd (u : StA) (a1 : Int32) : Option Int32 :=
  gI a1 30 <|
  some ((u.2.1 15 (a1).toNatClampNeg) + (u.2.1 12 (a1).toNatClampNeg))
def f_As_open_4 (N : Nat) : Nat → StA → Int32 → Int32 → Option Int32
  | 0, _, _, _ => none
  | n + 1, u, x1, x2 =>
    if (u.1 5) ≤ x2 then some x1
    else (f_As_isOpen u x2).bind fun q1 =>
      if q1 = (0 : Int32) then f_As_open_4 N n u x1 (x2 + (1 : Int32))
      else f_As_open_4 N n u (x1 + (1 : Int32)) (x2 + (1 : Int32))
def f_As_open (N : Nat) (u : StA) : Option Int32 :=
  f_As_open_4 N N u (0 : Int32) (0 : Int32)
def f_Lo_has (u : StA) (a1 : Int32) : Int32 :=
  if a1 < (0 : Int32) then (0 : Int32)
  else if (u.1 6) ≤ a1 then (0 : Int32)
    else (1 : Int32)
def f_Lo_room (u : StA) : Int32 :=
  ((100 : Int32) - (u.1 6))
def f_Lo_isLent (u : StA) (a1 : Int32) : Option Int32 :=
  gI a1 100 <|
  if (u.2.1 24 (a1).toNatClampNeg) = (-1 : Int32) then some (1 : Int32)
  else some (0 : Int32)
def f_Lo_lent_4 (N : Nat) : Nat → StA → Int32 → Int32 → Option Int32
  | 0, _, _, _ => none
  | n + 1, u, x1, x2 =>
    if (u.1 6) ≤ x2 then some x1
    else (f_Lo_isLent u x2).bind fun q1 =>
      if q1 = (0 : Int32) then f_Lo_lent_4 N n u x1 (x2 + (1 : Int32))
      else f_Lo_lent_4 N n u (x1 + (1 : Int32)) (x2 + (1 : Int32))
def f_Lo_lent (N : Nat) (u : StA) : Option Int32 :=
  f_Lo_lent_4 N N u (0 : Int32) (0 : Int32)
def f_Lo_lentUnder_4 (N : Nat) : Nat → StA → Int32 → Int32 → Int32 → Option Int32
  | 0, _, _, _, _ => none
  | n + 1, u, x1, x2, x3 =>
    if (u.1 6) ≤ x3 then some x2
    else gI x3 100 <|
      if (u.2.1 22 (x3).toNatClampNeg) = x1 then (f_Lo_isLent u x3).bind fun q2 =>
        if q2 = (0 : Int32) then f_Lo_lentUnder_4 N n u x1 x2 (x3 + (1 : Int32))
        else f_Lo_lentUnder_4 N n u x1 (x2 + (1 : Int32)) (x3 + (1 : Int32))
      else f_Lo_lentUnder_4 N n u x1 x2 (x3 + (1 : Int32))
def f_Lo_lentUnder (N : Nat) (u : StA) (a1 : Int32) : Option Int32 :=
  f_Lo_lentUnder_4 N N u a1 (0 : Int32) (0 : Int32)
def f_Nu_placeOf (a1 : Int32) (a2 : Int32) : Int32 :=
  ((a1 * (1000 : Int32)) + a2)
def f_Nu_shiftOf (a1 : Int32) : Int32 :=
  ((a1 - a1 / (16 : Int32) * (16 : Int32)) * (4 : Int32))
def jb1 (x : Int32) : Int32 := (x - ((((x).toUInt32 >>> (((1 : Int32)).toUInt32 &&& Int32.toUInt32 31)).toInt32) &&& (1431655765 : Int32)))
def jb2 (x : Int32) : Int32 := ((x &&& (858993459 : Int32)) + ((((x).toUInt32 >>> (((2 : Int32)).toUInt32 &&& Int32.toUInt32 31)).toInt32) &&& (858993459 : Int32)))
def jb3 (x : Int32) : Int32 := ((x + (((x).toUInt32 >>> (((4 : Int32)).toUInt32 &&& Int32.toUInt32 31)).toInt32)) &&& (252645135 : Int32))
def jb4 (x : Int32) : Int32 := (x + (((x).toUInt32 >>> (((8 : Int32)).toUInt32 &&& Int32.toUInt32 31)).toInt32))
def jb5 (x : Int32) : Int32 := (x + (((x).toUInt32 >>> (((16 : Int32)).toUInt32 &&& Int32.toUInt32 31)).toInt32))
def f_JI_bitCount (a1 : Int32) : Int32 :=
  ((jb5 (jb4 (jb3 (jb2 (jb1 a1))))) &&& (63 : Int32))
def f_JM_min (a1 : Int32) (a2 : Int32) : Int32 :=
  if a2 < a1 then a2
  else a1
def f_A_house (u : StA) (a1 : Int32) (a2 : Int32) : Option ((Nat × Int32) × StA) :=
  if (f_A_isWithin a1 (0 : Int32) (9 : Int32)) = (0 : Int32) then some ((2, 0), u)
  else if (f_A_isWithin a2 (0 : Int32) (1000 : Int32)) = (0 : Int32) then some ((2, 0), u)
    else if (f_Ho_isFull u) = (0 : Int32) then (f_Ho_add u a1 a2).bind fun q1 =>
        some ((0, q1.1), q1.2)
      else some ((4, 0), u)
def f_A_agree (N : Nat) (u : StA) (a1 : Int32) (a2 : Int32) (a3 : Int32) (a4 : Int32) (a5 : Int32) (a6 : Int32) : Option ((Nat × Int32) × StA) :=
  if (f_Ho_has u a1) = (0 : Int32) then some ((1, 0), u)
  else if (f_A_isWithin a2 (0 : Int32) (9 : Int32)) = (0 : Int32) then some ((1, 0), u)
    else if (f_A_isSpan a3 a4) = (0 : Int32) then some ((2, 0), u)
      else if (f_A_isHours a5) = (0 : Int32) then some ((2, 0), u)
        else if (f_A_isWithin a6 (1 : Int32) (20 : Int32)) = (0 : Int32) then some ((2, 0), u)
          else (f_Ag_meetAny N u a1 a2 a3 a4).bind fun q1 =>
            if q1 = (0 : Int32) then if (f_Ag_isFull u) = (0 : Int32) then (f_Ag_add u a1 a2 a3 a4 a5 a6).bind fun q2 =>
                some ((0, q2.1), q2.2)
              else some ((4, 0), u)
            else some ((3, 0), u)
def f_A_cut (u : StA) (a1 : Int32) (a2 : Int32) : Option ((Nat × Int32) × StA) :=
  if (f_Ho_has u a1) = (0 : Int32) then some ((1, 0), u)
  else gI a1 8 <|
    if (u.2.1 3 (a1).toNatClampNeg) = a2 then some ((3, 0), u)
    else some ((0, 0), (sA u 3 (a1).toNatClampNeg (vp_nar .boolean a2)))
def f_A_end (u : StA) (a1 : Int32) : Option ((Nat × Int32) × StA) :=
  if (f_Lo_has u a1) = (0 : Int32) then some ((1, 0), u)
  else (f_Lo_isLent u a1).bind fun q1 =>
    if q1 = (0 : Int32) then some ((3, 0), u)
    else gI a1 100 <|
      some ((0, 0), (sA u 24 (a1).toNatClampNeg (u.1 0)))
def f_A_hand (u : StA) (a1 : Int32) (a2 : Int32) : Option ((Nat × Int32) × StA) :=
  if (f_A_isCall a1) = (0 : Int32) then some ((1, 0), u)
  else if (f_Ho_has u a2) = (0 : Int32) then some ((1, 0), u)
    else gI a1 100 <|
      if (u.2.1 0 (a1).toNatClampNeg) = (-1 : Int32) then gI a2 8 <|
        if (u.2.1 3 (a2).toNatClampNeg) = (0 : Int32) then some ((0, 0), (sA u 0 (a1).toNatClampNeg a2))
        else some ((3, 0), u)
      else some ((3, 0), u)
def f_A_handed (u : StA) (a1 : Int32) : Option ((Nat × Int32) × StA) :=
  if (f_A_isCall a1) = (0 : Int32) then some ((1, 0), u)
  else gI a1 100 <|
    some ((0, (u.2.1 0 (a1).toNatClampNeg)), u)
def f_A_count (N : Nat) (u : StA) (a1 : Int32) : Option ((Nat × Int32) × StA) :=
  if a1 = (0 : Int32) then some ((0, (u.1 0)), u)
  else if a1 = (1 : Int32) then (f_Lo_lent N u).bind fun q1 =>
    some ((0, q1), u)
  else if a1 = (2 : Int32) then (f_As_open N u).bind fun q2 =>
    some ((0, q2), u)
  else if a1 = (3 : Int32) then some ((0, (u.1 1)), u)
  else if a1 = (4 : Int32) then some ((0, (u.1 2)), u)
  else some ((1, 0), u)
def f_A_nextEvent_47 (N : Nat) : Nat → StA → Int32 → Int32 → Int32 → Option Int32
  | 0, _, _, _, _ => none
  | n + 1, u, x1, x2, x3 =>
    if (u.1 6) ≤ x3 then some x2
    else (f_Lo_isLent u x3).bind fun q3 =>
      if q3 = (0 : Int32) then f_A_nextEvent_47 N n u x1 x2 (x3 + (1 : Int32))
      else gI x3 100 <|
        gI (u.2.1 22 (x3).toNatClampNeg) 30 <|
        f_A_nextEvent_47 N n u x1 (f_JM_min x2 (u.2.1 7 ((u.2.1 22 (x3).toNatClampNeg)).toNatClampNeg)) (x3 + (1 : Int32))
def f_A_nextEvent_4 (N : Nat) : Nat → StA → Int32 → Int32 → Int32 → Option Int32
  | 0, _, _, _, _ => none
  | n + 1, u, x1, x2, x3 =>
    if (u.1 5) ≤ x3 then f_A_nextEvent_47 N N u x1 x2 (0 : Int32)
    else (f_As_isOpen u x3).bind fun q1 =>
      if q1 = (0 : Int32) then f_A_nextEvent_4 N n u x1 x2 (x3 + (1 : Int32))
      else (f_As_patienceEnd u x3).bind fun q2 =>
        f_A_nextEvent_4 N n u x1 (f_JM_min x2 q2) (x3 + (1 : Int32))
def f_A_nextEvent (N : Nat) (u : StA) (a1 : Int32) : Option Int32 :=
  f_A_nextEvent_4 N N u a1 a1 (0 : Int32)
def f_A_endLoansWithAgreements_2 (N : Nat) : Nat → StA → Int32 → Option StA
  | 0, _, _ => none
  | n + 1, u, x1 =>
    if (u.1 6) ≤ x1 then some u
    else (f_Lo_isLent u x1).bind fun q1 =>
      if q1 = (0 : Int32) then f_A_endLoansWithAgreements_2 N n u (x1 + (1 : Int32))
      else gI x1 100 <|
        gI (u.2.1 22 (x1).toNatClampNeg) 30 <|
        if (u.1 0) < (u.2.1 7 ((u.2.1 22 (x1).toNatClampNeg)).toNatClampNeg) then f_A_endLoansWithAgreements_2 N n u (x1 + (1 : Int32))
        else f_A_endLoansWithAgreements_2 N n (sA u 24 (x1).toNatClampNeg (u.1 0)) (x1 + (1 : Int32))
def f_A_endLoansWithAgreements (N : Nat) (u : StA) : Option StA :=
  f_A_endLoansWithAgreements_2 N N u (0 : Int32)
def f_A_costOfLoan_27 (u : StA) (x1 : Int32) (y0 : Int32) : Option Int32 :=
  gI x1 100 <|
  if (0 : Int32) < (y0 - (u.2.1 23 (x1).toNatClampNeg)) then gI (u.2.1 19 (x1).toNatClampNeg) 8 <|
    some (((((y0 - (u.2.1 23 (x1).toNatClampNeg)) + (60 : Int32)) - (1 : Int32)) / (60 : Int32)) * (u.2.1 2 ((u.2.1 19 (x1).toNatClampNeg)).toNatClampNeg))
  else some (0 : Int32)
def f_A_costOfLoan (u : StA) (a1 : Int32) : Option Int32 :=
  (f_Lo_isLent u a1).bind fun q1 =>
  if q1 = (0 : Int32) then gI a1 100 <|
    f_A_costOfLoan_27 u a1 (u.2.1 24 (a1).toNatClampNeg)
  else f_A_costOfLoan_27 u a1 (u.1 0)
def f_Ag_holding_3 (N : Nat) : Nat → StA → Int32 → Int32 → Int32 → Int32 → Option Int32
  | 0, _, _, _, _, _ => none
  | n + 1, u, x1, x2, x3, x4 =>
    if (u.1 4) ≤ x4 then some (-1 : Int32)
    else gI x4 30 <|
      if (u.2.1 4 (x4).toNatClampNeg) = x1 then if (u.2.1 5 (x4).toNatClampNeg) = x2 then (f_Ag_holdsAt u x4 x3).bind fun q2 =>
          if q2 = (0 : Int32) then f_Ag_holding_3 N n u x1 x2 x3 (x4 + (1 : Int32))
          else some x4
        else f_Ag_holding_3 N n u x1 x2 x3 (x4 + (1 : Int32))
      else f_Ag_holding_3 N n u x1 x2 x3 (x4 + (1 : Int32))
def f_Ag_holding (N : Nat) (u : StA) (a1 : Int32) (a2 : Int32) (a3 : Int32) : Option Int32 :=
  f_Ag_holding_3 N N u a1 a2 a3 (0 : Int32)
def f_As_visits (u : StA) (a1 : Int32) : Option Int32 :=
  gI a1 30 <|
  some (f_JI_bitCount (u.2.1 17 (a1).toNatClampNeg))
def f_Lo_bearerOf_2 (N : Nat) : Nat → StA → Int32 → Int32 → Option Int32
  | 0, _, _, _ => none
  | n + 1, u, x1, x2 =>
    if (u.1 6) ≤ x2 then some (-1 : Int32)
    else gI x2 100 <|
      if (u.2.1 20 (x2).toNatClampNeg) = x1 then (f_Lo_isLent u x2).bind fun q2 =>
        if q2 = (0 : Int32) then f_Lo_bearerOf_2 N n u x1 (x2 + (1 : Int32))
        else some x2
      else f_Lo_bearerOf_2 N n u x1 (x2 + (1 : Int32))
def f_Lo_bearerOf (N : Nat) (u : StA) (a1 : Int32) : Option Int32 :=
  f_Lo_bearerOf_2 N N u a1 (0 : Int32)
def f_Nu_stateOf (u : StA) (a1 : Int32) (a2 : Int32) : Option Int32 :=
  gI ((f_Nu_placeOf a1 a2) / (16 : Int32)) 500 <|
  some ((((((u.2.2 (((f_Nu_placeOf a1 a2) / (16 : Int32))).toNatClampNeg)).toUInt64 >>> (((f_Nu_shiftOf (f_Nu_placeOf a1 a2))).toInt64.toUInt64 &&& Int64.toUInt64 63)).toInt64).toInt32) &&& (15 : Int32))
def f_Nu_keep (u : StA) (a1 : Int32) (a2 : Int32) (a3 : Int32) : Option StA :=
  gI ((f_Nu_placeOf a1 a2) / (16 : Int32)) 500 <|
  some (sL u (((f_Nu_placeOf a1 a2) / (16 : Int32))).toNatClampNeg ((u.2.2 (((f_Nu_placeOf a1 a2) / (16 : Int32))).toNatClampNeg) ||| (((a3).toInt64) <<< (((f_Nu_shiftOf (f_Nu_placeOf a1 a2))).toInt64 &&& 63))))
def f_A_seen (u : StA) (a1 : Int32) (a2 : Int32) : Option ((Nat × Int32) × StA) :=
  if (f_Ho_has u a1) = (0 : Int32) then some ((1, 0), u)
  else if (f_A_isNumber a2) = (0 : Int32) then some ((2, 0), u)
    else (f_Nu_stateOf u a1 a2).bind fun q1 =>
      some ((0, q1), u)
def f_A_askAt (u : StA) (a1 : Int32) (a2 : Int32) : Option ((Nat × Int32) × StA) :=
  if (f_As_has u a1) = (0 : Int32) then some ((1, 0), u)
  else if (f_A_isWithin a2 (0 : Int32) (5 : Int32)) = (0 : Int32) then some ((1, 0), u)
    else if a2 = (0 : Int32) then gI a1 30 <|
        some ((0, (u.2.1 13 (a1).toNatClampNeg)), u)
      else if a2 = (1 : Int32) then gI a1 30 <|
        some ((0, (u.2.1 14 (a1).toNatClampNeg)), u)
      else if a2 = (2 : Int32) then gI a1 30 <|
        some ((0, (u.2.1 15 (a1).toNatClampNeg)), u)
      else if a2 = (3 : Int32) then gI a1 30 <|
        some ((0, (u.2.1 16 (a1).toNatClampNeg)), u)
      else if a2 = (4 : Int32) then (f_As_visits u a1).bind fun q5 =>
        some ((0, q5), u)
      else gI a1 30 <|
        if (u.2.1 18 (a1).toNatClampNeg) = (0 : Int32) then some ((0, (0 : Int32)), u)
        else some ((0, (1 : Int32)), u)
def f_A_loanAt (u : StA) (a1 : Int32) (a2 : Int32) : Option ((Nat × Int32) × StA) :=
  if (f_Lo_has u a1) = (0 : Int32) then some ((1, 0), u)
  else if (f_A_isWithin a2 (0 : Int32) (6 : Int32)) = (0 : Int32) then some ((1, 0), u)
    else if a2 = (0 : Int32) then gI a1 100 <|
        some ((0, (u.2.1 19 (a1).toNatClampNeg)), u)
      else if a2 = (1 : Int32) then gI a1 100 <|
        some ((0, (u.2.1 20 (a1).toNatClampNeg)), u)
      else if a2 = (2 : Int32) then gI a1 100 <|
        some ((0, (u.2.1 21 (a1).toNatClampNeg)), u)
      else if a2 = (3 : Int32) then gI a1 100 <|
        some ((0, (u.2.1 22 (a1).toNatClampNeg)), u)
      else if a2 = (4 : Int32) then gI a1 100 <|
        some ((0, (u.2.1 23 (a1).toNatClampNeg)), u)
      else if a2 = (5 : Int32) then gI a1 100 <|
        some ((0, (u.2.1 24 (a1).toNatClampNeg)), u)
      else (f_A_costOfLoan u a1).bind fun q7 =>
        some ((0, q7), u)
def f_A_cost_25 (N : Nat) : Nat → StA → Int32 → Int32 → Int32 → Option ((Nat × Int32) × StA)
  | 0, _, _, _, _ => none
  | n + 1, u, x1, x2, x3 =>
    if (u.1 6) ≤ x3 then some ((0, x2), u)
    else gI x3 100 <|
      if (u.2.1 19 (x3).toNatClampNeg) = x1 then (f_A_costOfLoan u x3).bind fun q2 =>
        f_A_cost_25 N n u x1 (x2 + q2) (x3 + (1 : Int32))
      else f_A_cost_25 N n u x1 x2 (x3 + (1 : Int32))
def f_A_cost (N : Nat) (u : StA) (a1 : Int32) : Option ((Nat × Int32) × StA) :=
  if (f_Ho_has u a1) = (0 : Int32) then some ((1, 0), u)
  else f_A_cost_25 N N u a1 (0 : Int32) (0 : Int32)
def f_A_named (N : Nat) (u : StA) (a1 : Int32) : Option Int32 :=
  (f_Lo_bearerOf N u a1).bind fun q1 =>
  some q1
def f_A_nextHouse_4 (N : Nat) : Nat → StA → Int32 → Int32 → Int32 → Option Int32
  | 0, _, _, _, _ => none
  | n + 1, u, x1, x2, x3 =>
    if (u.1 3) ≤ x3 then some x2
    else (f_As_wasAt u x1 x3).bind fun q1 =>
      if q1 = (0 : Int32) then gI x1 30 <|
        (f_Ag_holding N u x3 (u.2.1 10 (x1).toNatClampNeg) (u.1 0)).bind fun q3 =>
        if q3 = (-1 : Int32) then f_A_nextHouse_4 N n u x1 x2 (x3 + (1 : Int32))
        else if x2 = (-1 : Int32) then f_A_nextHouse_4 N n u x1 x3 (x3 + (1 : Int32))
          else gI x3 8 <|
            gI x2 8 <|
            if (u.2.1 1 (x3).toNatClampNeg) ≤ (u.2.1 1 (x2).toNatClampNeg) then f_A_nextHouse_4 N n u x1 x2 (x3 + (1 : Int32))
            else f_A_nextHouse_4 N n u x1 x3 (x3 + (1 : Int32))
      else f_A_nextHouse_4 N n u x1 x2 (x3 + (1 : Int32))
def f_A_nextHouse (N : Nat) (u : StA) (a1 : Int32) : Option Int32 :=
  f_A_nextHouse_4 N N u a1 (-1 : Int32) (0 : Int32)
def f_A_mostToTake (N : Nat) (u : StA) (a1 : Int32) (a2 : Int32) : Option Int32 :=
  gI a1 30 <|
  (f_Ag_holding N u a2 (u.2.1 10 (a1).toNatClampNeg) (u.1 0)).bind fun q2 =>
  if q2 = (-1 : Int32) then some (0 : Int32)
  else (f_As_wanting u a1).bind fun q3 =>
    gI q2 30 <|
    (f_Lo_lentUnder N u q2).bind fun q5 =>
    some (f_JM_min q3 ((u.2.1 9 (q2).toNatClampNeg) - q5))
def f_Lo_freeName_7 (N : Nat) : Nat → StA → Int32 → Int32 → Int32 → Option Int32
  | 0, _, _, _, _ => none
  | n + 1, u, x1, x2, x3 =>
    if (99 : Int32) ≤ x3 then some x2
    else (f_Lo_bearerOf N u x2).bind fun q1 =>
      if q1 = (-1 : Int32) then some x2
      else f_Lo_freeName_7 N n u x1 (x2 + (1 : Int32)) (x3 + (1 : Int32))
def f_Lo_freeName (N : Nat) (u : StA) (a1 : Int32) : Option Int32 :=
  f_Lo_freeName_7 N N u a1 (a1 * (100 : Int32)) (0 : Int32)
def f_A_sendOn (N : Nat) (u : StA) (a1 : Int32) : Option StA :=
  (f_A_nextHouse N u a1).bind fun q1 =>
  if q1 = (-1 : Int32) then (f_As_close u a1 (2 : Int32)).bind fun q4 =>
    some q4
  else gI q1 8 <|
    (f_As_move u a1 q1 (u.1 0) (u.2.1 3 (q1).toNatClampNeg)).bind fun q3 =>
    some q3
def f_A_judge_23 (N : Nat) (u : StA) (x1 : Int32) (x2 : Int32) (x3 : Int32) (y0 : Int32) : Option Int32 :=
  if y0 = (0 : Int32) then some (1 : Int32)
  else (f_A_mostToTake N u x1 x2).bind fun q2 =>
    if x3 ≤ q2 then some (1 : Int32)
    else some (4 : Int32)
def f_A_judge (N : Nat) (u : StA) (a1 : Int32) (a2 : Int32) (a3 : Int32) : Option Int32 :=
  (f_As_isOpenAt u a1 a2).bind fun q1 =>
  if q1 = (0 : Int32) then some (3 : Int32)
  else if a3 ≤ (0 : Int32) then f_A_judge_23 N u a1 a2 a3 (0 : Int32)
    else f_A_judge_23 N u a1 a2 a3 (1 : Int32)
def f_A_sendOnImpatientAsks_4 (N : Nat) : Nat → StA → Int32 → Int32 → Option (Int32 × StA)
  | 0, _, _, _ => none
  | n + 1, u, x1, x2 =>
    if (u.1 5) ≤ x2 then some (x1, u)
    else (f_As_isOpen u x2).bind fun q1 =>
      if q1 = (0 : Int32) then f_A_sendOnImpatientAsks_4 N n u x1 (x2 + (1 : Int32))
      else (f_As_patienceEnd u x2).bind fun q2 =>
        if (u.1 0) < q2 then f_A_sendOnImpatientAsks_4 N n u x1 (x2 + (1 : Int32))
        else (f_A_sendOn N u x2).bind fun q3 =>
          f_A_sendOnImpatientAsks_4 N n q3 (x1 + (1 : Int32)) (x2 + (1 : Int32))
def f_A_sendOnImpatientAsks (N : Nat) (u : StA) : Option (Int32 × StA) :=
  f_A_sendOnImpatientAsks_4 N N u (0 : Int32) (0 : Int32)
def f_Lo_add (N : Nat) (u : StA) (a1 : Int32) (a2 : Int32) (a3 : Int32) (a4 : Int32) : Option StA :=
  (f_Lo_freeName N u a1).bind fun q1 =>
  gI (u.1 6) 100 <|
  some (sF (sA (sA (sA (sA (sA (sA u 20 ((u.1 6)).toNatClampNeg q1) 19 ((u.1 6)).toNatClampNeg a1) 21 ((u.1 6)).toNatClampNeg a2) 22 ((u.1 6)).toNatClampNeg a3) 23 ((u.1 6)).toNatClampNeg a4) 24 ((u.1 6)).toNatClampNeg (-1 : Int32)) 6 ((u.1 6) + (1 : Int32)))
def f_A_ask (N : Nat) (u : StA) (a1 : Int32) (a2 : Int32) (a3 : Int32) : Option ((Nat × Int32) × StA) :=
  if (f_A_isWithin a1 (0 : Int32) (9 : Int32)) = (0 : Int32) then some ((1, 0), u)
  else if (f_A_isWithin a2 (1 : Int32) (20 : Int32)) = (0 : Int32) then some ((2, 0), u)
    else if (f_A_isWithin a3 (1 : Int32) (500 : Int32)) = (0 : Int32) then some ((2, 0), u)
      else if (f_As_isFull u) = (0 : Int32) then (f_As_add u a1 a2 a3).bind fun q1 =>
          (f_A_sendOn N q1.2 q1.1).bind fun q2 =>
          some ((0, q1.1), q2)
        else some ((4, 0), u)
def f_A_tick_44 (N : Nat) : Nat → StA → Int32 → Int32 → Int32 → Int32 → Option ((Nat × Int32) × StA)
  | 0, _, _, _, _, _ => none
  | n + 1, u, x1, x2, x3, x4 =>
    if x1 ≤ x4 then some ((0, x3), u)
    else if x2 ≤ (u.1 0) then some ((0, x3), u)
      else (f_A_nextEvent N u x2).bind fun q1 =>
        (f_A_endLoansWithAgreements N (sF u 0 q1)).bind fun q2 =>
        (f_A_sendOnImpatientAsks N q2).bind fun q3 =>
        f_A_tick_44 N n q3.2 x1 x2 (x3 + q3.1) (x4 + (1 : Int32))
def f_A_tick (N : Nat) (u : StA) (a1 : Int32) : Option ((Nat × Int32) × StA) :=
  if (f_A_isWithin a1 (1 : Int32) (2000 : Int32)) = (0 : Int32) then some ((2, 0), u)
  else if ((u.1 0) + a1) ≤ (99999 : Int32) then f_A_tick_44 N N u a1 ((u.1 0) + a1) (0 : Int32) (0 : Int32)
    else some ((2, 0), u)
def f_A_lend_26 (N : Nat) : Nat → StA → Int32 → Int32 → Int32 → Int32 → Int32 → Int32 → Option StA
  | 0, _, _, _, _, _, _, _ => none
  | n + 1, u, x1, x2, x3, x4, x5, x6 =>
    if x3 ≤ x6 then gI x1 30 <|
      some (sA u 16 (x1).toNatClampNeg ((u.2.1 16 (x1).toNatClampNeg) + x3))
    else (f_Lo_add N u x2 x1 x5 x4).bind fun q4 =>
      f_A_lend_26 N n q4 x1 x2 x3 x4 x5 (x6 + (1 : Int32))
def f_A_lend (N : Nat) (u : StA) (a1 : Int32) (a2 : Int32) (a3 : Int32) (a4 : Int32) : Option StA :=
  gI a1 30 <|
  (f_Ag_holding N u a2 (u.2.1 10 (a1).toNatClampNeg) (u.1 0)).bind fun q2 =>
  f_A_lend_26 N N u a1 a2 a3 a4 q2 (0 : Int32)
def f_A_take_18 (N : Nat) (u : StA) (x1 : Int32) (x2 : Int32) (x3 : Int32) (x4 : Int32) : Option StA :=
  (f_As_wanting u x1).bind fun q2 =>
  if q2 = (0 : Int32) then (f_As_close u x1 (1 : Int32)).bind fun q4 =>
    some q4
  else (f_A_sendOn N u x1).bind fun q3 =>
    some q3
def f_A_take (N : Nat) (u : StA) (a1 : Int32) (a2 : Int32) (a3 : Int32) (a4 : Int32) : Option StA :=
  if a3 ≤ (0 : Int32) then f_A_take_18 N u a1 a2 a3 a4
  else (f_A_lend N u a1 a2 a3 ((u.1 0) + a4)).bind fun q1 =>
    f_A_take_18 N q1 a1 a2 a3 a4
def f_A_message_163 (N : Nat) (u : StA) (x1 : Int32) (x2 : Int32) (x3 : Int32) (x4 : Int32) (x5 : Int32) (x6 : Int32) : Option ((Nat × Int32) × StA) :=
  (f_Nu_keep u x2 x3 x6).bind fun q4 =>
  if x6 = (1 : Int32) then (f_A_take N q4 x1 x2 x4 x5).bind fun q5 =>
    some ((0, x6), q5)
  else some ((0, x6), q4)
def f_A_message_77 (N : Nat) (u : StA) (x1 : Int32) (x2 : Int32) (x3 : Int32) (x4 : Int32) (x5 : Int32) : Option ((Nat × Int32) × StA) :=
  gI x2 8 <|
  if (u.2.1 3 (x2).toNatClampNeg) = (0 : Int32) then (f_Nu_stateOf u x2 x3).bind fun q2 =>
    if q2 = (0 : Int32) then (f_A_judge N u x1 x2 x4).bind fun q3 =>
      if q3 = (1 : Int32) then if x4 ≤ (f_Lo_room u) then f_A_message_163 N u x1 x2 x3 x4 x5 q3
        else some ((4, 0), u)
      else f_A_message_163 N u x1 x2 x3 x4 x5 q3
    else some ((0, (2 : Int32)), (sF u 2 ((u.1 2) + (1 : Int32))))
  else some ((0, (5 : Int32)), (sF u 1 ((u.1 1) + (1 : Int32))))
def f_A_message (N : Nat) (u : StA) (a1 : Int32) (a2 : Int32) (a3 : Int32) (a4 : Int32) (a5 : Int32) : Option ((Nat × Int32) × StA) :=
  if (f_As_has u a1) = (0 : Int32) then some ((1, 0), u)
  else if (f_Ho_has u a2) = (0 : Int32) then some ((1, 0), u)
    else if (f_A_isNumber a3) = (0 : Int32) then some ((2, 0), u)
      else if (f_A_isWithin a4 (0 : Int32) (20 : Int32)) = (0 : Int32) then some ((2, 0), u)
        else if a4 ≤ (0 : Int32) then f_A_message_77 N u a1 a2 a3 a4 a5
          else if (f_A_isWithin a5 (0 : Int32) (999 : Int32)) = (0 : Int32) then some ((2, 0), u)
            else f_A_message_77 N u a1 a2 a3 a4 a5
end
section
theorem nb_A_isWithin (a b c : Int32) : narrow .boolean (.int (f_A_isWithin a b c)) = .int (f_A_isWithin a b c) := by
  unfold f_A_isWithin
  split
  · rfl
  · split <;> rfl
theorem lk_A_54 : gw_LS "AidRows" 54 yA_isWithin cA_isWithin 3 (some .boolean) 3 := ⟨mw_223, mw_224, mw_1, mw_225, ⟨by decide +kernel, by decide +kernel, by decide +kernel⟩⟩
theorem lk_As_44 : gw_LV "AidRows$Asks" "AidRows$Asks" 44 yAs_isOpen cAs_isOpen 2 (some .boolean) 1 := ⟨mw_465, mw_466, mw_467, mw_4, mw_468, ⟨by decide +kernel, by decide +kernel, by decide +kernel⟩⟩
theorem lk_Lo_41 : gw_LV "AidRows$Loans" "AidRows$Loans" 41 yLo_isLent cLo_isLent 2 (some .boolean) 1 := ⟨mw_210, mw_211, mw_212, mw_5, mw_213, ⟨by decide +kernel, by decide +kernel, by decide +kernel⟩⟩
theorem lk_A_189 : gw_LV "AidRows" "AidRows$Loans" 189 yLo_isLent cLo_isLent 2 (some .boolean) 1 := ⟨mw_536, mw_211, mw_212, mw_5, mw_213, ⟨by decide +kernel, by decide +kernel, by decide +kernel⟩⟩
theorem lk_A_307 : gw_LV "AidRows" "AidRows$Asks" 307 yAs_isOpen cAs_isOpen 2 (some .boolean) 1 := ⟨mw_531, mw_466, mw_467, mw_4, mw_468, ⟨by decide +kernel, by decide +kernel, by decide +kernel⟩⟩
theorem lk_A_310 : gw_LV "AidRows" "AidRows$Asks" 310 yAs_patienceEnd cAs_patienceEnd 2 (some .int) 1 := ⟨mw_532, mw_533, mw_534, mw_4, mw_535, ⟨by decide +kernel, by decide +kernel, by decide +kernel⟩⟩
theorem lk_Ag_34 : gw_LV "AidRows$Agreements" "AidRows$Agreements" 34 yAg_holdsAt cAg_holdsAt 7 (some .boolean) 2 := ⟨mw_419, mw_421, ms_3, mw_3, mw_422, ⟨by decide +kernel, by decide +kernel, by decide +kernel⟩⟩
theorem lk_As_48 : gw_LS "AidRows$Asks" 48 yJI_bitCount cJI_bitCount 1 (some .int) 1 := ⟨mw_578, mw_579, mw_17, mw_580, ⟨by decide +kernel, by decide +kernel, by decide +kernel⟩⟩
theorem lk_Nu_15 : gw_LS "AidRows$Numbers" 15 yNu_placeOf cNu_placeOf 2 (some .int) 2 := ⟨mw_451, mw_452, mw_6, mw_453, ⟨by decide +kernel, by decide +kernel, by decide +kernel⟩⟩
theorem lk_Nu_19 : gw_LS "AidRows$Numbers" 19 yNu_shiftOf cNu_shiftOf 1 (some .int) 1 := ⟨mw_454, mw_455, mw_6, mw_456, ⟨by decide +kernel, by decide +kernel, by decide +kernel⟩⟩
theorem lk_A_237 : gw_LV "AidRows" "AidRows$Loans" 237 yLo_bearerOf cLo_bearerOf 3 (some .int) 1 := ⟨mw_206, mw_207, mw_208, mw_5, mw_209, ⟨by decide +kernel, by decide +kernel, by decide +kernel⟩⟩
theorem lk_A_269 : gw_LV "AidRows" "AidRows$Asks" 269 yAs_wasAt cAs_wasAt 3 (some .boolean) 2 := ⟨mw_411, mw_412, mw_413, mw_4, mw_414, ⟨by decide +kernel, by decide +kernel, by decide +kernel⟩⟩
theorem lk_A_275 : gw_LV "AidRows" "AidRows$Agreements" 275 yAg_holding cAg_holding 5 (some .int) 3 := ⟨mw_415, mw_416, mw_417, mw_3, mw_418, ⟨by decide +kernel, by decide +kernel, by decide +kernel⟩⟩
theorem lk_A_287 : gw_LV "AidRows" "AidRows$Asks" 287 yAs_wanting cAs_wanting 2 (some .int) 1 := ⟨mw_473, mw_474, mw_475, mw_4, mw_476, ⟨by decide +kernel, by decide +kernel, by decide +kernel⟩⟩
theorem lk_A_293 : gw_LV "AidRows" "AidRows$Loans" 293 yLo_lentUnder cLo_lentUnder 4 (some .int) 1 := ⟨mw_477, mw_478, mw_479, mw_5, mw_480, ⟨by decide +kernel, by decide +kernel, by decide +kernel⟩⟩
theorem lk_Lo_38 : gw_LV "AidRows$Loans" "AidRows$Loans" 38 yLo_bearerOf cLo_bearerOf 3 (some .int) 1 := ⟨mw_509, mw_207, mw_208, mw_5, mw_209, ⟨by decide +kernel, by decide +kernel, by decide +kernel⟩⟩
theorem lk_A_257 : gw_LV "AidRows" "AidRows" 257 yA_nextHouse cA_nextHouse 5 (some .int) 1 := ⟨mw_407, mw_409, ms_2, mw_1, mw_410, ⟨by decide +kernel, by decide +kernel, by decide +kernel⟩⟩
theorem lk_A_264 : gw_LV "AidRows" "AidRows$Asks" 264 yAs_move cAs_move 5 (none) 4 := ⟨mw_427, mw_428, mw_429, mw_4, mw_430, ⟨by decide +kernel, by decide +kernel, by decide +kernel⟩⟩
theorem lk_A_260 : gw_LV "AidRows" "AidRows$Asks" 260 yAs_close cAs_close 3 (none) 2 := ⟨mw_423, mw_424, mw_425, mw_4, mw_426, ⟨by decide +kernel, by decide +kernel, by decide +kernel⟩⟩
theorem lk_A_284 : gw_LV "AidRows" "AidRows" 284 yA_mostToTake cA_mostToTake 4 (some .int) 2 := ⟨mw_469, mw_471, ms_5, mw_1, mw_472, ⟨by decide +kernel, by decide +kernel, by decide +kernel⟩⟩
theorem lk_A_281 : gw_LV "AidRows" "AidRows$Asks" 281 yAs_isOpenAt cAs_isOpenAt 3 (some .boolean) 2 := ⟨mw_461, mw_462, mw_463, mw_4, mw_464, ⟨by decide +kernel, by decide +kernel, by decide +kernel⟩⟩
theorem lk_A_121 : gw_LV "AidRows" "AidRows" 121 yA_sendOn cA_sendOn 3 (none) 1 := ⟨mw_403, mw_405, ms_1, mw_1, mw_406, ⟨by decide +kernel, by decide +kernel, by decide +kernel⟩⟩
theorem lk_Lo_34 : gw_LV "AidRows$Loans" "AidRows$Loans" 34 yLo_freeName cLo_freeName 4 (some .int) 1 := ⟨mw_505, mw_507, ms_8, mw_5, mw_508, ⟨by decide +kernel, by decide +kernel, by decide +kernel⟩⟩
theorem lk_A_304 : gw_LV "AidRows" "AidRows$Loans" 304 yLo_add cLo_add 5 (none) 4 := ⟨mw_501, mw_502, mw_503, mw_5, mw_504, ⟨by decide +kernel, by decide +kernel, by decide +kernel⟩⟩
theorem lk_A_301 : gw_LV "AidRows" "AidRows" 301 yA_lend cA_lend 7 (none) 4 := ⟨mw_497, mw_499, ms_7, mw_1, mw_500, ⟨by decide +kernel, by decide +kernel, by decide +kernel⟩⟩
end
section
set_option maxHeartbeats 4000000 in
set_option maxRecDepth 100000 in
theorem c_A_isWithin (l : Launch) (D : va_G) (ad : Nat → Nat) (cI cZ cJ : ClassId) (u : StA) (a1 : Int32) (a2 : Int32) (a3 : Int32) (r : Int32) (h : f_A_isWithin a1 a2 a3 = r) : gw_Ct l D vwCl (tA cI cZ cJ) (wA ad cI cZ cJ) yA_isWithin (Cond.code yA_isWithin cA_isWithin 3 (some .boolean) :: gG) ({ frames := 0, cells := 0, slots := 0, locals := 0 } : Room) [.int a1, .int a2, .int a3] u (some (.int r)) u := by
  refine gw_enter (by decide) (Nat.le_of_ble_eq_true rfl) ?_
  intro p e s m below meth c A hC hP hD hS ls hl
  obtain ⟨hx, hb, hr, hml, hG, hown, hlocks, hK, hA⟩ := id hC
  have hl : lv_has ls 3 [(0, .int a1), (1, .int a2), (2, .int a3)] := hl
  obtain ⟨H, hH⟩ : ∃ H, H = s.heap := ⟨_, rfl⟩
  obtain ⟨locs, hlocs⟩ : ∃ x : List Loc, x = [] := ⟨_, rfl⟩
  rw [← hlocs] at hS ⊢
  have hP : va_P D vwCl (wA ad cI cZ cJ u) H := by rw [hH]; exact hP
  have hS : va_S A s.heap H locs := by rw [hH]; exact hS
  suffices g : W p l e ({ frames := 0, cells := 0, slots := 0, locals := 0 } : Room) s m [.int a1, .int a2, .int a3].toArray below meth c H locs 0 0 (MQ below (gw_Q D vwCl (wA ad cI cZ cJ) A u (some (.int r))) [.int a1, .int a2, .int a3].toArray s 0 0 A) (F0 m 0 ls []) by rw [hH] at g; exact g
  unfold f_A_isWithin at h
  refine lv_iload_n hx hb dA_isWithin_0 rfl (lv_at hl 0 rfl) ?_
  refine lv_iload_n hx hb dA_isWithin_1 rfl (lv_at hl 1 rfl) ?_
  refine lv_icmp_lt (tgt := 14) hx hb dA_isWithin_2 (by decide) (fun hc => ?_) (fun hc => ?_)
  · rw [if_pos hc] at h
    refine lv_iconst (v := (0 : Int32)) hx hb dA_isWithin_14 (by decide) ?_
    subst h
    exact gw_zret hx hb hr (by first | rfl | exact nb_A_isWithin _ _ _) hlocks hP hD hS dA_isWithin_15
  · rw [if_neg hc] at h
    refine lv_iload_n hx hb dA_isWithin_5 rfl (lv_at hl 0 rfl) ?_
    refine lv_iload_n hx hb dA_isWithin_6 rfl (lv_at hl 2 rfl) ?_
    refine lv_icmp_gt (tgt := 14) hx hb dA_isWithin_7 (by decide) (fun hc => ?_) (fun hc => ?_)
    · rw [if_pos hc] at h
      refine lv_iconst (v := (0 : Int32)) hx hb dA_isWithin_14 (by decide) ?_
      subst h
      exact gw_zret hx hb hr (by first | rfl | exact nb_A_isWithin _ _ _) hlocks hP hD hS dA_isWithin_15
    · rw [if_neg hc] at h
      refine lv_iconst (v := (1 : Int32)) hx hb dA_isWithin_10 (by decide) ?_
      refine lv_goto (tgt := 15) hx hb dA_isWithin_11 (by decide) ?_
      subst h
      exact gw_zret hx hb hr (by first | rfl | exact nb_A_isWithin _ _ _) hlocks hP hD hS dA_isWithin_15
set_option maxHeartbeats 4000000 in
set_option maxRecDepth 100000 in
theorem c_A_isSpan (l : Launch) (D : va_G) (ad : Nat → Nat) (cI cZ cJ : ClassId) (u : StA) (a1 : Int32) (a2 : Int32) (r : Int32) (h : f_A_isSpan a1 a2 = r) : gw_Ct l D vwCl (tA cI cZ cJ) (wA ad cI cZ cJ) yA_isSpan (Cond.code yA_isSpan cA_isSpan 2 (some .boolean) :: gG) ({ frames := 0, cells := 0, slots := 0, locals := 0 } : Room) [.int a1, .int a2] u (some (.int r)) u := by
  refine gw_enter (by decide) (Nat.le_of_ble_eq_true rfl) ?_
  intro p e s m below meth c A hC hP hD hS ls hl
  obtain ⟨hx, hb, hr, hml, hG, hown, hlocks, hK, hA⟩ := id hC
  have hl : lv_has ls 2 [(0, .int a1), (1, .int a2)] := hl
  obtain ⟨H, hH⟩ : ∃ H, H = s.heap := ⟨_, rfl⟩
  obtain ⟨locs, hlocs⟩ : ∃ x : List Loc, x = [] := ⟨_, rfl⟩
  rw [← hlocs] at hS ⊢
  have hP : va_P D vwCl (wA ad cI cZ cJ u) H := by rw [hH]; exact hP
  have hS : va_S A s.heap H locs := by rw [hH]; exact hS
  suffices g : W p l e ({ frames := 0, cells := 0, slots := 0, locals := 0 } : Room) s m [.int a1, .int a2].toArray below meth c H locs 0 0 (MQ below (gw_Q D vwCl (wA ad cI cZ cJ) A u (some (.int r))) [.int a1, .int a2].toArray s 0 0 A) (F0 m 0 ls []) by rw [hH] at g; exact g
  unfold f_A_isSpan at h
  refine lv_iload_n hx hb dA_isSpan_0 rfl (lv_at hl 0 rfl) ?_
  refine lv_if_lt (tgt := 19) hx hb dA_isSpan_1 (by decide) (fun hc => ?_) (fun hc => ?_)
  · rw [if_pos hc] at h
    refine lv_iconst (v := (0 : Int32)) hx hb dA_isSpan_19 (by decide) ?_
    subst h
    exact gw_zret hx hb hr (by first | rfl | exact nb_A_isWithin _ _ _) hlocks hP hD hS dA_isSpan_20
  · rw [if_neg hc] at h
    refine lv_iload_n hx hb dA_isSpan_4 rfl (lv_at hl 0 rfl) ?_
    refine lv_iload_n hx hb dA_isSpan_5 rfl (lv_at hl 1 rfl) ?_
    refine lv_icmp_ge (tgt := 19) hx hb dA_isSpan_6 (by decide) (fun hc => ?_) (fun hc => ?_)
    · rw [if_pos hc] at h
      refine lv_iconst (v := (0 : Int32)) hx hb dA_isSpan_19 (by decide) ?_
      subst h
      exact gw_zret hx hb hr (by first | rfl | exact nb_A_isWithin _ _ _) hlocks hP hD hS dA_isSpan_20
    · rw [if_neg hc] at h
      refine lv_iload_n hx hb dA_isSpan_9 rfl (lv_at hl 1 rfl) ?_
      refine lv_ldc (v := (99999 : Int32)) hx hb hown (hG _ mw_351) dA_isSpan_10 ?_
      refine lv_icmp_gt (tgt := 19) hx hb dA_isSpan_12 (by decide) (fun hc => ?_) (fun hc => ?_)
      · rw [if_pos hc] at h
        refine lv_iconst (v := (0 : Int32)) hx hb dA_isSpan_19 (by decide) ?_
        subst h
        exact gw_zret hx hb hr (by first | rfl | exact nb_A_isWithin _ _ _) hlocks hP hD hS dA_isSpan_20
      · rw [if_neg hc] at h
        refine lv_iconst (v := (1 : Int32)) hx hb dA_isSpan_15 (by decide) ?_
        refine lv_goto (tgt := 20) hx hb dA_isSpan_16 (by decide) ?_
        subst h
        exact gw_zret hx hb hr (by first | rfl | exact nb_A_isWithin _ _ _) hlocks hP hD hS dA_isSpan_20
set_option maxHeartbeats 4000000 in
set_option maxRecDepth 100000 in
theorem c_A_isHours (l : Launch) (D : va_G) (ad : Nat → Nat) (cI cZ cJ : ClassId) (u : StA) (a1 : Int32) (r : Int32) (h : f_A_isHours a1 = r) : gw_Ct l D vwCl (tA cI cZ cJ) (wA ad cI cZ cJ) yA_isHours (Cond.code yA_isHours cA_isHours 1 (some .boolean) :: gG) ({ frames := 0, cells := 0, slots := 0, locals := 0 } : Room) [.int a1] u (some (.int r)) u := by
  refine gw_enter (by decide) (Nat.le_of_ble_eq_true rfl) ?_
  intro p e s m below meth c A hC hP hD hS ls hl
  obtain ⟨hx, hb, hr, hml, hG, hown, hlocks, hK, hA⟩ := id hC
  have hl : lv_has ls 1 [(0, .int a1)] := hl
  obtain ⟨H, hH⟩ : ∃ H, H = s.heap := ⟨_, rfl⟩
  obtain ⟨locs, hlocs⟩ : ∃ x : List Loc, x = [] := ⟨_, rfl⟩
  rw [← hlocs] at hS ⊢
  have hP : va_P D vwCl (wA ad cI cZ cJ u) H := by rw [hH]; exact hP
  have hS : va_S A s.heap H locs := by rw [hH]; exact hS
  suffices g : W p l e ({ frames := 0, cells := 0, slots := 0, locals := 0 } : Room) s m [.int a1].toArray below meth c H locs 0 0 (MQ below (gw_Q D vwCl (wA ad cI cZ cJ) A u (some (.int r))) [.int a1].toArray s 0 0 A) (F0 m 0 ls []) by rw [hH] at g; exact g
  unfold f_A_isHours at h
  refine lv_iload_n hx hb dA_isHours_0 rfl (lv_at hl 0 rfl) ?_
  refine lv_if_lt (tgt := 26) hx hb dA_isHours_1 (by decide) (fun hc => ?_) (fun hc => ?_)
  · rw [if_pos hc] at h
    refine lv_iconst (v := (0 : Int32)) hx hb dA_isHours_26 (by decide) ?_
    subst h
    exact gw_zret hx hb hr (by first | rfl | exact nb_A_isWithin _ _ _) hlocks hP hD hS dA_isHours_27
  · rw [if_neg hc] at h
    refine lv_iload_n hx hb dA_isHours_4 rfl (lv_at hl 0 rfl) ?_
    refine lv_bipush (v := (100 : Int32)) hx hb dA_isHours_5 (by decide) ?_
    refine lv_idiv hx hb dA_isHours_7 (by decide) ?_
    refine lv_bipush (v := (24 : Int32)) hx hb dA_isHours_8 (by decide) ?_
    refine lv_icmp_ge (tgt := 26) hx hb dA_isHours_10 (by decide) (fun hc => ?_) (fun hc => ?_)
    · rw [if_pos hc] at h
      refine lv_iconst (v := (0 : Int32)) hx hb dA_isHours_26 (by decide) ?_
      subst h
      exact gw_zret hx hb hr (by first | rfl | exact nb_A_isWithin _ _ _) hlocks hP hD hS dA_isHours_27
    · rw [if_neg hc] at h
      refine lv_iload_n hx hb dA_isHours_13 rfl (lv_at hl 0 rfl) ?_
      refine lv_bipush (v := (100 : Int32)) hx hb dA_isHours_14 (by decide) ?_
      refine lv_irem hx hb dA_isHours_16 (by decide) ?_
      refine lv_bipush (v := (24 : Int32)) hx hb dA_isHours_17 (by decide) ?_
      refine lv_icmp_ge (tgt := 26) hx hb dA_isHours_19 (by decide) (fun hc => ?_) (fun hc => ?_)
      · rw [if_pos hc] at h
        refine lv_iconst (v := (0 : Int32)) hx hb dA_isHours_26 (by decide) ?_
        subst h
        exact gw_zret hx hb hr (by first | rfl | exact nb_A_isWithin _ _ _) hlocks hP hD hS dA_isHours_27
      · rw [if_neg hc] at h
        refine lv_iconst (v := (1 : Int32)) hx hb dA_isHours_22 (by decide) ?_
        refine lv_goto (tgt := 27) hx hb dA_isHours_23 (by decide) ?_
        subst h
        exact gw_zret hx hb hr (by first | rfl | exact nb_A_isWithin _ _ _) hlocks hP hD hS dA_isHours_27
set_option maxHeartbeats 4000000 in
set_option maxRecDepth 100000 in
theorem c_A_isNumber (l : Launch) (D : va_G) (ad : Nat → Nat) (cI cZ cJ : ClassId) (u : StA) (a1 : Int32) (r : Int32) (h : f_A_isNumber a1 = r) : gw_Ct l D vwCl (tA cI cZ cJ) (wA ad cI cZ cJ) yA_isNumber (Cond.code yA_isNumber cA_isNumber 1 (some .boolean) :: gG) ({ frames := 1, cells := 0, slots := 0, locals := 22 } : Room) [.int a1] u (some (.int r)) u := by
  refine gw_enter (by decide) (Nat.le_of_ble_eq_true rfl) ?_
  intro p e s m below meth c A hC hP hD hS ls hl
  obtain ⟨hx, hb, hr, hml, hG, hown, hlocks, hK, hA⟩ := id hC
  have hl : lv_has ls 1 [(0, .int a1)] := hl
  obtain ⟨H, hH⟩ : ∃ H, H = s.heap := ⟨_, rfl⟩
  obtain ⟨locs, hlocs⟩ : ∃ x : List Loc, x = [] := ⟨_, rfl⟩
  rw [← hlocs] at hS ⊢
  have hP : va_P D vwCl (wA ad cI cZ cJ u) H := by rw [hH]; exact hP
  have hS : va_S A s.heap H locs := by rw [hH]; exact hS
  suffices g : W p l e ({ frames := 1, cells := 0, slots := 0, locals := 22 } : Room) s m [.int a1].toArray below meth c H locs 0 0 (MQ below (gw_Q D vwCl (wA ad cI cZ cJ) A u (some (.int r))) [.int a1].toArray s 0 0 A) (F0 m 0 ls []) by rw [hH] at g; exact g
  unfold f_A_isNumber at h
  refine lv_iload_n hx hb dA_isNumber_0 rfl (lv_at hl 0 rfl) ?_
  refine lv_iconst (v := (0 : Int32)) hx hb dA_isNumber_1 (by decide) ?_
  refine lv_sipush (v := (999 : Int32)) hx hb dA_isNumber_2 (by decide) ?_
  refine gw_callS (As := [.int a1, .int (0 : Int32), .int (999 : Int32)]) (rest := []) (u := u) (u' := u) hx hb hml hown hG (c_A_isWithin l D ad cI cZ cJ u a1 (0 : Int32) (999 : Int32) _ rfl) lk_A_54 rfl rfl ⟨Nat.le_of_ble_eq_true rfl, Nat.le_of_ble_eq_true rfl⟩ hK hP hD hS hA rfl hl.1 rfl (Nat.le_of_ble_eq_true rfl) dA_isNumber_5 ⟨Nat.le_of_ble_eq_true rfl, Nat.le_of_ble_eq_true rfl⟩ (fun H locs hP hD hS => ?_)
  subst h
  exact gw_zret hx hb hr (by first | rfl | exact nb_A_isWithin _ _ _) hlocks hP hD hS dA_isNumber_8
set_option maxHeartbeats 4000000 in
set_option maxRecDepth 100000 in
theorem c_A_isCall (l : Launch) (D : va_G) (ad : Nat → Nat) (cI cZ cJ : ClassId) (u : StA) (a1 : Int32) (r : Int32) (h : f_A_isCall a1 = r) : gw_Ct l D vwCl (tA cI cZ cJ) (wA ad cI cZ cJ) yA_isCall (Cond.code yA_isCall cA_isCall 1 (some .boolean) :: gG) ({ frames := 1, cells := 0, slots := 0, locals := 22 } : Room) [.int a1] u (some (.int r)) u := by
  refine gw_enter (by decide) (Nat.le_of_ble_eq_true rfl) ?_
  intro p e s m below meth c A hC hP hD hS ls hl
  obtain ⟨hx, hb, hr, hml, hG, hown, hlocks, hK, hA⟩ := id hC
  have hl : lv_has ls 1 [(0, .int a1)] := hl
  obtain ⟨H, hH⟩ : ∃ H, H = s.heap := ⟨_, rfl⟩
  obtain ⟨locs, hlocs⟩ : ∃ x : List Loc, x = [] := ⟨_, rfl⟩
  rw [← hlocs] at hS ⊢
  have hP : va_P D vwCl (wA ad cI cZ cJ u) H := by rw [hH]; exact hP
  have hS : va_S A s.heap H locs := by rw [hH]; exact hS
  suffices g : W p l e ({ frames := 1, cells := 0, slots := 0, locals := 22 } : Room) s m [.int a1].toArray below meth c H locs 0 0 (MQ below (gw_Q D vwCl (wA ad cI cZ cJ) A u (some (.int r))) [.int a1].toArray s 0 0 A) (F0 m 0 ls []) by rw [hH] at g; exact g
  unfold f_A_isCall at h
  refine lv_iload_n hx hb dA_isCall_0 rfl (lv_at hl 0 rfl) ?_
  refine lv_iconst (v := (0 : Int32)) hx hb dA_isCall_1 (by decide) ?_
  refine lv_bipush (v := (99 : Int32)) hx hb dA_isCall_2 (by decide) ?_
  refine gw_callS (As := [.int a1, .int (0 : Int32), .int (99 : Int32)]) (rest := []) (u := u) (u' := u) hx hb hml hown hG (c_A_isWithin l D ad cI cZ cJ u a1 (0 : Int32) (99 : Int32) _ rfl) lk_A_54 rfl rfl ⟨Nat.le_of_ble_eq_true rfl, Nat.le_of_ble_eq_true rfl⟩ hK hP hD hS hA rfl hl.1 rfl (Nat.le_of_ble_eq_true rfl) dA_isCall_4 ⟨Nat.le_of_ble_eq_true rfl, Nat.le_of_ble_eq_true rfl⟩ (fun H locs hP hD hS => ?_)
  subst h
  exact gw_zret hx hb hr (by first | rfl | exact nb_A_isWithin _ _ _) hlocks hP hD hS dA_isCall_7
set_option maxHeartbeats 4000000 in
set_option maxRecDepth 100000 in
theorem c_Ho_has (l : Launch) (D : va_G) (ad : Nat → Nat) (cI cZ cJ : ClassId) (u : StA) (a1 : Int32) (r : Int32) (h : f_Ho_has u a1 = r) : gw_Ct l D vwCl (tA cI cZ cJ) (wA ad cI cZ cJ) yHo_has (Cond.code yHo_has cHo_has 2 (some .boolean) :: gG) ({ frames := 0, cells := 0, slots := 0, locals := 0 } : Room) [.ref (ad 1), .int a1] u (some (.int r)) u := by
  refine gw_enter (by decide) (Nat.le_of_ble_eq_true rfl) ?_
  intro p e s m below meth c A hC hP hD hS ls hl
  obtain ⟨hx, hb, hr, hml, hG, hown, hlocks, hK, hA⟩ := id hC
  have hl : lv_has ls 2 [(0, .ref (ad 1)), (1, .int a1)] := hl
  obtain ⟨H, hH⟩ : ∃ H, H = s.heap := ⟨_, rfl⟩
  obtain ⟨locs, hlocs⟩ : ∃ x : List Loc, x = [] := ⟨_, rfl⟩
  rw [← hlocs] at hS ⊢
  have hP : va_P D vwCl (wA ad cI cZ cJ u) H := by rw [hH]; exact hP
  have hS : va_S A s.heap H locs := by rw [hH]; exact hS
  suffices g : W p l e ({ frames := 0, cells := 0, slots := 0, locals := 0 } : Room) s m [.ref (ad 1), .int a1].toArray below meth c H locs 0 0 (MQ below (gw_Q D vwCl (wA ad cI cZ cJ) A u (some (.int r))) [.ref (ad 1), .int a1].toArray s 0 0 A) (F0 m 0 ls []) by rw [hH] at g; exact g
  unfold f_Ho_has at h
  refine lv_iload_n hx hb dHo_has_0 rfl (lv_at hl 1 rfl) ?_
  refine lv_if_lt (tgt := 16) hx hb dHo_has_1 (by decide) (fun hc => ?_) (fun hc => ?_)
  · rw [if_pos hc] at h
    refine lv_iconst (v := (0 : Int32)) hx hb dHo_has_16 (by decide) ?_
    subst h
    exact gw_zret hx hb hr (by first | rfl | exact nb_A_isWithin _ _ _) hlocks hP hD hS dHo_has_17
  · rw [if_neg hc] at h
    refine lv_iload_n hx hb dHo_has_4 rfl (lv_at hl 1 rfl) ?_
    refine lv_aload_n hx hb dHo_has_5 rfl (lv_at hl 0 rfl) ?_
    refine va_get (D := D) (ci := 1) (v := .int (u.1 3)) (C := RHo) (T := THo) (N := 4) hx hb hG inHo hown hK hP 1 rfl rfl 3 (by decide) (hG _ mw_38) (fun _ h9 => h9) rfl dHo_has_6 ?_
    refine lv_icmp_ge (tgt := 16) hx hb dHo_has_9 (by decide) (fun hc => ?_) (fun hc => ?_)
    · rw [if_pos hc] at h
      refine lv_iconst (v := (0 : Int32)) hx hb dHo_has_16 (by decide) ?_
      subst h
      exact gw_zret hx hb hr (by first | rfl | exact nb_A_isWithin _ _ _) hlocks hP hD hS dHo_has_17
    · rw [if_neg hc] at h
      refine lv_iconst (v := (1 : Int32)) hx hb dHo_has_12 (by decide) ?_
      refine lv_goto (tgt := 17) hx hb dHo_has_13 (by decide) ?_
      subst h
      exact gw_zret hx hb hr (by first | rfl | exact nb_A_isWithin _ _ _) hlocks hP hD hS dHo_has_17
set_option maxHeartbeats 4000000 in
set_option maxRecDepth 100000 in
theorem c_Ho_isFull (l : Launch) (D : va_G) (ad : Nat → Nat) (cI cZ cJ : ClassId) (u : StA) (r : Int32) (h : f_Ho_isFull u = r) : gw_Ct l D vwCl (tA cI cZ cJ) (wA ad cI cZ cJ) yHo_isFull (Cond.code yHo_isFull cHo_isFull 1 (some .boolean) :: gG) ({ frames := 0, cells := 0, slots := 0, locals := 0 } : Room) [.ref (ad 1)] u (some (.int r)) u := by
  refine gw_enter (by decide) (Nat.le_of_ble_eq_true rfl) ?_
  intro p e s m below meth c A hC hP hD hS ls hl
  obtain ⟨hx, hb, hr, hml, hG, hown, hlocks, hK, hA⟩ := id hC
  have hl : lv_has ls 1 [(0, .ref (ad 1))] := hl
  obtain ⟨H, hH⟩ : ∃ H, H = s.heap := ⟨_, rfl⟩
  obtain ⟨locs, hlocs⟩ : ∃ x : List Loc, x = [] := ⟨_, rfl⟩
  rw [← hlocs] at hS ⊢
  have hP : va_P D vwCl (wA ad cI cZ cJ u) H := by rw [hH]; exact hP
  have hS : va_S A s.heap H locs := by rw [hH]; exact hS
  suffices g : W p l e ({ frames := 0, cells := 0, slots := 0, locals := 0 } : Room) s m [.ref (ad 1)].toArray below meth c H locs 0 0 (MQ below (gw_Q D vwCl (wA ad cI cZ cJ) A u (some (.int r))) [.ref (ad 1)].toArray s 0 0 A) (F0 m 0 ls []) by rw [hH] at g; exact g
  unfold f_Ho_isFull at h
  refine lv_aload_n hx hb dHo_isFull_0 rfl (lv_at hl 0 rfl) ?_
  refine va_get (D := D) (ci := 1) (v := .int (u.1 3)) (C := RHo) (T := THo) (N := 4) hx hb hG inHo hown hK hP 1 rfl rfl 3 (by decide) (hG _ mw_38) (fun _ h9 => h9) rfl dHo_isFull_1 ?_
  refine lv_bipush (v := (8 : Int32)) hx hb dHo_isFull_4 (by decide) ?_
  refine lv_icmp_lt (tgt := 13) hx hb dHo_isFull_6 (by decide) (fun hc => ?_) (fun hc => ?_)
  · rw [if_pos hc] at h
    refine lv_iconst (v := (0 : Int32)) hx hb dHo_isFull_13 (by decide) ?_
    subst h
    exact gw_zret hx hb hr (by first | rfl | exact nb_A_isWithin _ _ _) hlocks hP hD hS dHo_isFull_14
  · rw [if_neg hc] at h
    refine lv_iconst (v := (1 : Int32)) hx hb dHo_isFull_9 (by decide) ?_
    refine lv_goto (tgt := 14) hx hb dHo_isFull_10 (by decide) ?_
    subst h
    exact gw_zret hx hb hr (by first | rfl | exact nb_A_isWithin _ _ _) hlocks hP hD hS dHo_isFull_14
set_option maxHeartbeats 4000000 in
set_option maxRecDepth 100000 in
theorem c_Ho_add (l : Launch) (D : va_G) (ad : Nat → Nat) (cI cZ cJ : ClassId) (u : StA) (a1 : Int32) (a2 : Int32) (r : Int32) (w : StA) (h : f_Ho_add u a1 a2 = some (r, w)) : gw_Ct l D vwCl (tA cI cZ cJ) (wA ad cI cZ cJ) yHo_add (Cond.code yHo_add cHo_add 3 (some .int) :: gG) ({ frames := 0, cells := 0, slots := 0, locals := 0 } : Room) [.ref (ad 1), .int a1, .int a2] u (some (.int r)) w := by
  refine gw_enter (by decide) (Nat.le_of_ble_eq_true rfl) ?_
  intro p e s m below meth c A hC hP hD hS ls hl
  obtain ⟨hx, hb, hr, hml, hG, hown, hlocks, hK, hA⟩ := id hC
  have hl : lv_has ls 3 [(0, .ref (ad 1)), (1, .int a1), (2, .int a2)] := hl
  obtain ⟨H, hH⟩ : ∃ H, H = s.heap := ⟨_, rfl⟩
  obtain ⟨locs, hlocs⟩ : ∃ x : List Loc, x = [] := ⟨_, rfl⟩
  rw [← hlocs] at hS ⊢
  have hP : va_P D vwCl (wA ad cI cZ cJ u) H := by rw [hH]; exact hP
  have hS : va_S A s.heap H locs := by rw [hH]; exact hS
  suffices g : W p l e ({ frames := 0, cells := 0, slots := 0, locals := 0 } : Room) s m [.ref (ad 1), .int a1, .int a2].toArray below meth c H locs 0 0 (MQ below (gw_Q D vwCl (wA ad cI cZ cJ) A w (some (.int r))) [.ref (ad 1), .int a1, .int a2].toArray s 0 0 A) (F0 m 0 ls []) by rw [hH] at g; exact g
  unfold f_Ho_add at h
  refine lv_aload_n hx hb dHo_add_0 rfl (lv_at hl 0 rfl) ?_
  refine va_get (D := D) (ci := 1) (v := .ref (ad 7)) (C := RHo) (T := THo) (N := 4) hx hb hG inHo hown hK hP 1 rfl rfl 0 (by decide) (hG _ mw_32) (fun _ h9 => h9) rfl dHo_add_1 ?_
  refine lv_aload_n hx hb dHo_add_4 rfl (lv_at hl 0 rfl) ?_
  refine va_get (D := D) (ci := 1) (v := .int (u.1 3)) (C := RHo) (T := THo) (N := 4) hx hb hG inHo hown hK hP 1 rfl rfl 3 (by decide) (hG _ mw_38) (fun _ h9 => h9) rfl dHo_add_5 ?_
  refine lv_iload_n hx hb dHo_add_8 rfl (lv_at hl 1 rfl) ?_
  obtain ⟨hg1, h⟩ := gI_some h
  refine va_iast (f := (u.2.1 1)) hx hb hK hP hD hS 7 0 rfl rfl hg1 dHo_add_9 (fun H locs hP hD hS => ?_)
  have hP : va_P D vwCl (wA ad cI cZ cJ (sA u 1 ((u.1 3)).toNatClampNeg a1)) H := hP
  have hD : va_D A (wA ad cI cZ cJ (sA u 1 ((u.1 3)).toNatClampNeg a1)) := hD
  refine lv_aload_n hx hb dHo_add_10 rfl (lv_at hl 0 rfl) ?_
  refine va_get (D := D) (ci := 1) (v := .ref (ad 8)) (C := RHo) (T := THo) (N := 4) hx hb hG inHo hown hK hP 1 rfl rfl 1 (by decide) (hG _ mw_34) (fun _ h9 => h9) rfl dHo_add_11 ?_
  refine lv_aload_n hx hb dHo_add_14 rfl (lv_at hl 0 rfl) ?_
  refine va_get (D := D) (ci := 1) (v := .int (u.1 3)) (C := RHo) (T := THo) (N := 4) hx hb hG inHo hown hK hP 1 rfl rfl 3 (by decide) (hG _ mw_38) (fun _ h9 => h9) rfl dHo_add_15 ?_
  refine lv_iload_n hx hb dHo_add_18 rfl (lv_at hl 2 rfl) ?_
  refine va_iast (f := (u.2.1 2)) hx hb hK hP hD hS 8 0 rfl rfl hg1 dHo_add_19 (fun H locs hP hD hS => ?_)
  have hP : va_P D vwCl (wA ad cI cZ cJ (sA (sA u 1 ((u.1 3)).toNatClampNeg a1) 2 ((u.1 3)).toNatClampNeg a2)) H := hP
  have hD : va_D A (wA ad cI cZ cJ (sA (sA u 1 ((u.1 3)).toNatClampNeg a1) 2 ((u.1 3)).toNatClampNeg a2)) := hD
  refine lv_aload_n hx hb dHo_add_20 rfl (lv_at hl 0 rfl) ?_
  refine lv_dup hx hb dHo_add_21 rfl ?_
  refine va_get (D := D) (ci := 1) (v := .int (u.1 3)) (C := RHo) (T := THo) (N := 4) hx hb hG inHo hown hK hP 1 rfl rfl 3 (by decide) (hG _ mw_38) (fun _ h9 => h9) rfl dHo_add_22 ?_
  refine lv_dup_x1 hx hb dHo_add_25 rfl rfl ?_
  refine lv_iconst (v := (1 : Int32)) hx hb dHo_add_26 (by decide) ?_
  refine lv_iadd hx hb dHo_add_27 ?_
  refine va_put (D := D) (ci := 1) (v := .int ((u.1 3) + (1 : Int32))) (ty := .int) (C := RHo) (T := THo) (N := 4) hx hb hG inHo tyHo tyHo_ok nmHo hown hK hP hD hS 1 rfl rfl 3 (by decide) (hG _ mw_38) (fun _ h9 => h9) rfl (by decide +kernel) rfl rfl (Nat.le_of_ble_eq_true rfl) dHo_add_28 (fun H locs hP hD hS => ?_)
  have hP : va_P D vwCl (wA ad cI cZ cJ (sF (sA (sA u 1 ((u.1 3)).toNatClampNeg a1) 2 ((u.1 3)).toNatClampNeg a2) 3 ((u.1 3) + (1 : Int32)))) H := hP
  have hD : va_D A (wA ad cI cZ cJ (sF (sA (sA u 1 ((u.1 3)).toNatClampNeg a1) 2 ((u.1 3)).toNatClampNeg a2) 3 ((u.1 3) + (1 : Int32)))) := hD
  cases h
  exact gw_iret hx hb hr hlocks hP hD hS dHo_add_31
set_option maxHeartbeats 4000000 in
set_option maxRecDepth 100000 in
theorem c_Ag_isFull (l : Launch) (D : va_G) (ad : Nat → Nat) (cI cZ cJ : ClassId) (u : StA) (r : Int32) (h : f_Ag_isFull u = r) : gw_Ct l D vwCl (tA cI cZ cJ) (wA ad cI cZ cJ) yAg_isFull (Cond.code yAg_isFull cAg_isFull 1 (some .boolean) :: gG) ({ frames := 0, cells := 0, slots := 0, locals := 0 } : Room) [.ref (ad 2)] u (some (.int r)) u := by
  refine gw_enter (by decide) (Nat.le_of_ble_eq_true rfl) ?_
  intro p e s m below meth c A hC hP hD hS ls hl
  obtain ⟨hx, hb, hr, hml, hG, hown, hlocks, hK, hA⟩ := id hC
  have hl : lv_has ls 1 [(0, .ref (ad 2))] := hl
  obtain ⟨H, hH⟩ : ∃ H, H = s.heap := ⟨_, rfl⟩
  obtain ⟨locs, hlocs⟩ : ∃ x : List Loc, x = [] := ⟨_, rfl⟩
  rw [← hlocs] at hS ⊢
  have hP : va_P D vwCl (wA ad cI cZ cJ u) H := by rw [hH]; exact hP
  have hS : va_S A s.heap H locs := by rw [hH]; exact hS
  suffices g : W p l e ({ frames := 0, cells := 0, slots := 0, locals := 0 } : Room) s m [.ref (ad 2)].toArray below meth c H locs 0 0 (MQ below (gw_Q D vwCl (wA ad cI cZ cJ) A u (some (.int r))) [.ref (ad 2)].toArray s 0 0 A) (F0 m 0 ls []) by rw [hH] at g; exact g
  unfold f_Ag_isFull at h
  refine lv_aload_n hx hb dAg_isFull_0 rfl (lv_at hl 0 rfl) ?_
  refine va_get (D := D) (ci := 2) (v := .int (u.1 4)) (C := RAg) (T := TAg) (N := 7) hx hb hG inAg hown hK hP 2 rfl rfl 6 (by decide) (hG _ mw_65) (fun _ h9 => h9) rfl dAg_isFull_1 ?_
  refine lv_bipush (v := (30 : Int32)) hx hb dAg_isFull_4 (by decide) ?_
  refine lv_icmp_lt (tgt := 13) hx hb dAg_isFull_6 (by decide) (fun hc => ?_) (fun hc => ?_)
  · rw [if_pos hc] at h
    refine lv_iconst (v := (0 : Int32)) hx hb dAg_isFull_13 (by decide) ?_
    subst h
    exact gw_zret hx hb hr (by first | rfl | exact nb_A_isWithin _ _ _) hlocks hP hD hS dAg_isFull_14
  · rw [if_neg hc] at h
    refine lv_iconst (v := (1 : Int32)) hx hb dAg_isFull_9 (by decide) ?_
    refine lv_goto (tgt := 14) hx hb dAg_isFull_10 (by decide) ?_
    subst h
    exact gw_zret hx hb hr (by first | rfl | exact nb_A_isWithin _ _ _) hlocks hP hD hS dAg_isFull_14
set_option maxHeartbeats 4000000 in
set_option maxRecDepth 100000 in
theorem c_Ag_add (l : Launch) (D : va_G) (ad : Nat → Nat) (cI cZ cJ : ClassId) (u : StA) (a1 : Int32) (a2 : Int32) (a3 : Int32) (a4 : Int32) (a5 : Int32) (a6 : Int32) (r : Int32) (w : StA) (h : f_Ag_add u a1 a2 a3 a4 a5 a6 = some (r, w)) : gw_Ct l D vwCl (tA cI cZ cJ) (wA ad cI cZ cJ) yAg_add (Cond.code yAg_add cAg_add 7 (some .int) :: gG) ({ frames := 0, cells := 0, slots := 0, locals := 0 } : Room) [.ref (ad 2), .int a1, .int a2, .int a3, .int a4, .int a5, .int a6] u (some (.int r)) w := by
  refine gw_enter (by decide) (Nat.le_of_ble_eq_true rfl) ?_
  intro p e s m below meth c A hC hP hD hS ls hl
  obtain ⟨hx, hb, hr, hml, hG, hown, hlocks, hK, hA⟩ := id hC
  have hl : lv_has ls 7 [(0, .ref (ad 2)), (1, .int a1), (2, .int a2), (3, .int a3), (4, .int a4), (5, .int a5), (6, .int a6)] := hl
  obtain ⟨H, hH⟩ : ∃ H, H = s.heap := ⟨_, rfl⟩
  obtain ⟨locs, hlocs⟩ : ∃ x : List Loc, x = [] := ⟨_, rfl⟩
  rw [← hlocs] at hS ⊢
  have hP : va_P D vwCl (wA ad cI cZ cJ u) H := by rw [hH]; exact hP
  have hS : va_S A s.heap H locs := by rw [hH]; exact hS
  suffices g : W p l e ({ frames := 0, cells := 0, slots := 0, locals := 0 } : Room) s m [.ref (ad 2), .int a1, .int a2, .int a3, .int a4, .int a5, .int a6].toArray below meth c H locs 0 0 (MQ below (gw_Q D vwCl (wA ad cI cZ cJ) A w (some (.int r))) [.ref (ad 2), .int a1, .int a2, .int a3, .int a4, .int a5, .int a6].toArray s 0 0 A) (F0 m 0 ls []) by rw [hH] at g; exact g
  unfold f_Ag_add at h
  refine lv_aload_n hx hb dAg_add_0 rfl (lv_at hl 0 rfl) ?_
  refine va_get (D := D) (ci := 2) (v := .ref (ad 10)) (C := RAg) (T := TAg) (N := 7) hx hb hG inAg hown hK hP 2 rfl rfl 0 (by decide) (hG _ mw_57) (fun _ h9 => h9) rfl dAg_add_1 ?_
  refine lv_aload_n hx hb dAg_add_4 rfl (lv_at hl 0 rfl) ?_
  refine va_get (D := D) (ci := 2) (v := .int (u.1 4)) (C := RAg) (T := TAg) (N := 7) hx hb hG inAg hown hK hP 2 rfl rfl 6 (by decide) (hG _ mw_65) (fun _ h9 => h9) rfl dAg_add_5 ?_
  refine lv_iload_n hx hb dAg_add_8 rfl (lv_at hl 1 rfl) ?_
  obtain ⟨hg1, h⟩ := gI_some h
  refine va_iast (f := (u.2.1 4)) hx hb hK hP hD hS 10 0 rfl rfl hg1 dAg_add_9 (fun H locs hP hD hS => ?_)
  have hP : va_P D vwCl (wA ad cI cZ cJ (sA u 4 ((u.1 4)).toNatClampNeg a1)) H := hP
  have hD : va_D A (wA ad cI cZ cJ (sA u 4 ((u.1 4)).toNatClampNeg a1)) := hD
  refine lv_aload_n hx hb dAg_add_10 rfl (lv_at hl 0 rfl) ?_
  refine va_get (D := D) (ci := 2) (v := .ref (ad 11)) (C := RAg) (T := TAg) (N := 7) hx hb hG inAg hown hK hP 2 rfl rfl 1 (by decide) (hG _ mw_58) (fun _ h9 => h9) rfl dAg_add_11 ?_
  refine lv_aload_n hx hb dAg_add_14 rfl (lv_at hl 0 rfl) ?_
  refine va_get (D := D) (ci := 2) (v := .int (u.1 4)) (C := RAg) (T := TAg) (N := 7) hx hb hG inAg hown hK hP 2 rfl rfl 6 (by decide) (hG _ mw_65) (fun _ h9 => h9) rfl dAg_add_15 ?_
  refine lv_iload_n hx hb dAg_add_18 rfl (lv_at hl 2 rfl) ?_
  refine va_iast (f := (u.2.1 5)) hx hb hK hP hD hS 11 0 rfl rfl hg1 dAg_add_19 (fun H locs hP hD hS => ?_)
  have hP : va_P D vwCl (wA ad cI cZ cJ (sA (sA u 4 ((u.1 4)).toNatClampNeg a1) 5 ((u.1 4)).toNatClampNeg a2)) H := hP
  have hD : va_D A (wA ad cI cZ cJ (sA (sA u 4 ((u.1 4)).toNatClampNeg a1) 5 ((u.1 4)).toNatClampNeg a2)) := hD
  refine lv_aload_n hx hb dAg_add_20 rfl (lv_at hl 0 rfl) ?_
  refine va_get (D := D) (ci := 2) (v := .ref (ad 12)) (C := RAg) (T := TAg) (N := 7) hx hb hG inAg hown hK hP 2 rfl rfl 2 (by decide) (hG _ mw_59) (fun _ h9 => h9) rfl dAg_add_21 ?_
  refine lv_aload_n hx hb dAg_add_24 rfl (lv_at hl 0 rfl) ?_
  refine va_get (D := D) (ci := 2) (v := .int (u.1 4)) (C := RAg) (T := TAg) (N := 7) hx hb hG inAg hown hK hP 2 rfl rfl 6 (by decide) (hG _ mw_65) (fun _ h9 => h9) rfl dAg_add_25 ?_
  refine lv_iload_n hx hb dAg_add_28 rfl (lv_at hl 3 rfl) ?_
  refine va_iast (f := (u.2.1 6)) hx hb hK hP hD hS 12 0 rfl rfl hg1 dAg_add_29 (fun H locs hP hD hS => ?_)
  have hP : va_P D vwCl (wA ad cI cZ cJ (sA (sA (sA u 4 ((u.1 4)).toNatClampNeg a1) 5 ((u.1 4)).toNatClampNeg a2) 6 ((u.1 4)).toNatClampNeg a3)) H := hP
  have hD : va_D A (wA ad cI cZ cJ (sA (sA (sA u 4 ((u.1 4)).toNatClampNeg a1) 5 ((u.1 4)).toNatClampNeg a2) 6 ((u.1 4)).toNatClampNeg a3)) := hD
  refine lv_aload_n hx hb dAg_add_30 rfl (lv_at hl 0 rfl) ?_
  refine va_get (D := D) (ci := 2) (v := .ref (ad 13)) (C := RAg) (T := TAg) (N := 7) hx hb hG inAg hown hK hP 2 rfl rfl 3 (by decide) (hG _ mw_60) (fun _ h9 => h9) rfl dAg_add_31 ?_
  refine lv_aload_n hx hb dAg_add_34 rfl (lv_at hl 0 rfl) ?_
  refine va_get (D := D) (ci := 2) (v := .int (u.1 4)) (C := RAg) (T := TAg) (N := 7) hx hb hG inAg hown hK hP 2 rfl rfl 6 (by decide) (hG _ mw_65) (fun _ h9 => h9) rfl dAg_add_35 ?_
  refine lv_iload hx hb dAg_add_38 (lv_at hl 4 rfl) ?_
  refine va_iast (f := (u.2.1 7)) hx hb hK hP hD hS 13 0 rfl rfl hg1 dAg_add_40 (fun H locs hP hD hS => ?_)
  have hP : va_P D vwCl (wA ad cI cZ cJ (sA (sA (sA (sA u 4 ((u.1 4)).toNatClampNeg a1) 5 ((u.1 4)).toNatClampNeg a2) 6 ((u.1 4)).toNatClampNeg a3) 7 ((u.1 4)).toNatClampNeg a4)) H := hP
  have hD : va_D A (wA ad cI cZ cJ (sA (sA (sA (sA u 4 ((u.1 4)).toNatClampNeg a1) 5 ((u.1 4)).toNatClampNeg a2) 6 ((u.1 4)).toNatClampNeg a3) 7 ((u.1 4)).toNatClampNeg a4)) := hD
  refine lv_aload_n hx hb dAg_add_41 rfl (lv_at hl 0 rfl) ?_
  refine va_get (D := D) (ci := 2) (v := .ref (ad 14)) (C := RAg) (T := TAg) (N := 7) hx hb hG inAg hown hK hP 2 rfl rfl 4 (by decide) (hG _ mw_62) (fun _ h9 => h9) rfl dAg_add_42 ?_
  refine lv_aload_n hx hb dAg_add_45 rfl (lv_at hl 0 rfl) ?_
  refine va_get (D := D) (ci := 2) (v := .int (u.1 4)) (C := RAg) (T := TAg) (N := 7) hx hb hG inAg hown hK hP 2 rfl rfl 6 (by decide) (hG _ mw_65) (fun _ h9 => h9) rfl dAg_add_46 ?_
  refine lv_iload hx hb dAg_add_49 (lv_at hl 5 rfl) ?_
  refine va_iast (f := (u.2.1 8)) hx hb hK hP hD hS 14 0 rfl rfl hg1 dAg_add_51 (fun H locs hP hD hS => ?_)
  have hP : va_P D vwCl (wA ad cI cZ cJ (sA (sA (sA (sA (sA u 4 ((u.1 4)).toNatClampNeg a1) 5 ((u.1 4)).toNatClampNeg a2) 6 ((u.1 4)).toNatClampNeg a3) 7 ((u.1 4)).toNatClampNeg a4) 8 ((u.1 4)).toNatClampNeg a5)) H := hP
  have hD : va_D A (wA ad cI cZ cJ (sA (sA (sA (sA (sA u 4 ((u.1 4)).toNatClampNeg a1) 5 ((u.1 4)).toNatClampNeg a2) 6 ((u.1 4)).toNatClampNeg a3) 7 ((u.1 4)).toNatClampNeg a4) 8 ((u.1 4)).toNatClampNeg a5)) := hD
  refine lv_aload_n hx hb dAg_add_52 rfl (lv_at hl 0 rfl) ?_
  refine va_get (D := D) (ci := 2) (v := .ref (ad 15)) (C := RAg) (T := TAg) (N := 7) hx hb hG inAg hown hK hP 2 rfl rfl 5 (by decide) (hG _ mw_63) (fun _ h9 => h9) rfl dAg_add_53 ?_
  refine lv_aload_n hx hb dAg_add_56 rfl (lv_at hl 0 rfl) ?_
  refine va_get (D := D) (ci := 2) (v := .int (u.1 4)) (C := RAg) (T := TAg) (N := 7) hx hb hG inAg hown hK hP 2 rfl rfl 6 (by decide) (hG _ mw_65) (fun _ h9 => h9) rfl dAg_add_57 ?_
  refine lv_iload hx hb dAg_add_60 (lv_at hl 6 rfl) ?_
  refine va_iast (f := (u.2.1 9)) hx hb hK hP hD hS 15 0 rfl rfl hg1 dAg_add_62 (fun H locs hP hD hS => ?_)
  have hP : va_P D vwCl (wA ad cI cZ cJ (sA (sA (sA (sA (sA (sA u 4 ((u.1 4)).toNatClampNeg a1) 5 ((u.1 4)).toNatClampNeg a2) 6 ((u.1 4)).toNatClampNeg a3) 7 ((u.1 4)).toNatClampNeg a4) 8 ((u.1 4)).toNatClampNeg a5) 9 ((u.1 4)).toNatClampNeg a6)) H := hP
  have hD : va_D A (wA ad cI cZ cJ (sA (sA (sA (sA (sA (sA u 4 ((u.1 4)).toNatClampNeg a1) 5 ((u.1 4)).toNatClampNeg a2) 6 ((u.1 4)).toNatClampNeg a3) 7 ((u.1 4)).toNatClampNeg a4) 8 ((u.1 4)).toNatClampNeg a5) 9 ((u.1 4)).toNatClampNeg a6)) := hD
  refine lv_aload_n hx hb dAg_add_63 rfl (lv_at hl 0 rfl) ?_
  refine lv_dup hx hb dAg_add_64 rfl ?_
  refine va_get (D := D) (ci := 2) (v := .int (u.1 4)) (C := RAg) (T := TAg) (N := 7) hx hb hG inAg hown hK hP 2 rfl rfl 6 (by decide) (hG _ mw_65) (fun _ h9 => h9) rfl dAg_add_65 ?_
  refine lv_dup_x1 hx hb dAg_add_68 rfl rfl ?_
  refine lv_iconst (v := (1 : Int32)) hx hb dAg_add_69 (by decide) ?_
  refine lv_iadd hx hb dAg_add_70 ?_
  refine va_put (D := D) (ci := 2) (v := .int ((u.1 4) + (1 : Int32))) (ty := .int) (C := RAg) (T := TAg) (N := 7) hx hb hG inAg tyAg tyAg_ok nmAg hown hK hP hD hS 2 rfl rfl 6 (by decide) (hG _ mw_65) (fun _ h9 => h9) rfl (by decide +kernel) rfl rfl (Nat.le_of_ble_eq_true rfl) dAg_add_71 (fun H locs hP hD hS => ?_)
  have hP : va_P D vwCl (wA ad cI cZ cJ (sF (sA (sA (sA (sA (sA (sA u 4 ((u.1 4)).toNatClampNeg a1) 5 ((u.1 4)).toNatClampNeg a2) 6 ((u.1 4)).toNatClampNeg a3) 7 ((u.1 4)).toNatClampNeg a4) 8 ((u.1 4)).toNatClampNeg a5) 9 ((u.1 4)).toNatClampNeg a6) 4 ((u.1 4) + (1 : Int32)))) H := hP
  have hD : va_D A (wA ad cI cZ cJ (sF (sA (sA (sA (sA (sA (sA u 4 ((u.1 4)).toNatClampNeg a1) 5 ((u.1 4)).toNatClampNeg a2) 6 ((u.1 4)).toNatClampNeg a3) 7 ((u.1 4)).toNatClampNeg a4) 8 ((u.1 4)).toNatClampNeg a5) 9 ((u.1 4)).toNatClampNeg a6) 4 ((u.1 4) + (1 : Int32)))) := hD
  cases h
  exact gw_iret hx hb hr hlocks hP hD hS dAg_add_74
set_option maxHeartbeats 4000000 in
set_option maxRecDepth 100000 in
theorem lp_Ag_meetAny_3 {p : Program} {l : Launch} {e : Env} {s : State} {m : MethodId} {args : Array Value} {below : List Frame} {meth : Method} {c : Code} {A : Nat → Prop} {D : va_G} {ad : Nat → Nat} {cI cZ cJ : ClassId} (hC : gw_C p s m args meth c "AidRows$Agreements" cAg_meetAny 6 (some .boolean) gG D vwCl (tA cI cZ cJ) A) (N : Nat) : ∀ (n : Nat) (u : StA) (x1 : Int32) (x2 : Int32) (x3 : Int32) (x4 : Int32) (x5 : Int32) (r : Int32), f_Ag_meetAny_3 N n u x1 x2 x3 x4 x5 = some r → ∀ (H : Heap) (locs : List Loc) (ls : Array Slot), va_P D vwCl (wA ad cI cZ cJ u) H → va_D A (wA ad cI cZ cJ u) → va_S A s.heap H locs → lv_has ls 6 [(0, .ref (ad 2)), (1, .int x1), (2, .int x2), (3, .int x3), (4, .int x4), (5, .int x5)] → W p l e ({ frames := 0, cells := 0, slots := 0, locals := 0 } : Room) s m args below meth c H locs 0 0 (MQ below (gw_Q D vwCl (wA ad cI cZ cJ) A u (some (.int r))) args s 0 0 A) (F0 m 3 ls []) := by
  obtain ⟨hx, hb, hr, hml, hG, hown, hlocks, hK, hA⟩ := id hC
  intro n
  induction n with
  | zero => intro u x1 x2 x3 x4 x5 r h; cases h
  | succ n ih =>
    intro u x1 x2 x3 x4 x5 r h H locs ls hP hD hS hl
    rw [f_Ag_meetAny_3] at h
    refine lv_iload hx hb dAg_meetAny_3 (lv_at hl 5 rfl) ?_
    refine lv_aload_n hx hb dAg_meetAny_5 rfl (lv_at hl 0 rfl) ?_
    refine va_get (D := D) (ci := 2) (v := .int (u.1 4)) (C := RAg) (T := TAg) (N := 7) hx hb hG inAg hown hK hP 2 rfl rfl 6 (by decide) (hG _ mw_65) (fun _ h9 => h9) rfl dAg_meetAny_6 ?_
    refine lv_icmp_ge (tgt := 65) hx hb dAg_meetAny_9 (by decide) (fun hc => ?_) (fun hc => ?_)
    · rw [if_pos hc] at h
      refine lv_iconst (v := (0 : Int32)) hx hb dAg_meetAny_65 (by decide) ?_
      cases h
      exact gw_zret hx hb hr (by first | rfl | exact nb_A_isWithin _ _ _) hlocks hP hD hS dAg_meetAny_66
    · rw [if_neg hc] at h
      refine lv_aload_n hx hb dAg_meetAny_12 rfl (lv_at hl 0 rfl) ?_
      refine va_get (D := D) (ci := 2) (v := .ref (ad 10)) (C := RAg) (T := TAg) (N := 7) hx hb hG inAg hown hK hP 2 rfl rfl 0 (by decide) (hG _ mw_57) (fun _ h9 => h9) rfl dAg_meetAny_13 ?_
      refine lv_iload hx hb dAg_meetAny_16 (lv_at hl 5 rfl) ?_
      obtain ⟨hg1, h⟩ := gI_some h
      refine va_iald (f := (u.2.1 4)) hx hb hK hP 10 0 rfl rfl hg1 dAg_meetAny_18 ?_
      refine lv_iload_n hx hb dAg_meetAny_19 rfl (lv_at hl 1 rfl) ?_
      refine lv_icmp_ne (tgt := 59) hx hb dAg_meetAny_20 (by decide) (fun hc => ?_) (fun hc => ?_)
      · rw [if_neg hc] at h
        refine lv_iinc (v := (x5 + (1 : Int32))) (lv' := [(5, .int (x5 + (1 : Int32))), (0, .ref (ad 2)), (1, .int x1), (2, .int x2), (3, .int x3), (4, .int x4)]) hx hb dAg_meetAny_59 hl (k := 5) rfl rfl (by decide) rfl (fun ls hl => ?_)
        refine lv_goto (tgt := 3) hx hb dAg_meetAny_62 (by decide) ?_
        exact ih u x1 x2 x3 x4 (x5 + (1 : Int32)) _ h H locs ls hP hD hS (lv_sub hl [1, 2, 3, 4, 5, 0] rfl)
      · rw [if_pos hc] at h
        refine lv_aload_n hx hb dAg_meetAny_23 rfl (lv_at hl 0 rfl) ?_
        refine va_get (D := D) (ci := 2) (v := .ref (ad 11)) (C := RAg) (T := TAg) (N := 7) hx hb hG inAg hown hK hP 2 rfl rfl 1 (by decide) (hG _ mw_58) (fun _ h9 => h9) rfl dAg_meetAny_24 ?_
        refine lv_iload hx hb dAg_meetAny_27 (lv_at hl 5 rfl) ?_
        refine va_iald (f := (u.2.1 5)) hx hb hK hP 11 0 rfl rfl hg1 dAg_meetAny_29 ?_
        refine lv_iload_n hx hb dAg_meetAny_30 rfl (lv_at hl 2 rfl) ?_
        refine lv_icmp_ne (tgt := 59) hx hb dAg_meetAny_31 (by decide) (fun hc => ?_) (fun hc => ?_)
        · rw [if_neg hc] at h
          refine lv_iinc (v := (x5 + (1 : Int32))) (lv' := [(5, .int (x5 + (1 : Int32))), (0, .ref (ad 2)), (1, .int x1), (2, .int x2), (3, .int x3), (4, .int x4)]) hx hb dAg_meetAny_59 hl (k := 5) rfl rfl (by decide) rfl (fun ls hl => ?_)
          refine lv_goto (tgt := 3) hx hb dAg_meetAny_62 (by decide) ?_
          exact ih u x1 x2 x3 x4 (x5 + (1 : Int32)) _ h H locs ls hP hD hS (lv_sub hl [1, 2, 3, 4, 5, 0] rfl)
        · rw [if_pos hc] at h
          refine lv_aload_n hx hb dAg_meetAny_34 rfl (lv_at hl 0 rfl) ?_
          refine va_get (D := D) (ci := 2) (v := .ref (ad 12)) (C := RAg) (T := TAg) (N := 7) hx hb hG inAg hown hK hP 2 rfl rfl 2 (by decide) (hG _ mw_59) (fun _ h9 => h9) rfl dAg_meetAny_35 ?_
          refine lv_iload hx hb dAg_meetAny_38 (lv_at hl 5 rfl) ?_
          refine va_iald (f := (u.2.1 6)) hx hb hK hP 12 0 rfl rfl hg1 dAg_meetAny_40 ?_
          refine lv_iload hx hb dAg_meetAny_41 (lv_at hl 4 rfl) ?_
          refine lv_icmp_ge (tgt := 59) hx hb dAg_meetAny_43 (by decide) (fun hc => ?_) (fun hc => ?_)
          · rw [if_pos hc] at h
            refine lv_iinc (v := (x5 + (1 : Int32))) (lv' := [(5, .int (x5 + (1 : Int32))), (0, .ref (ad 2)), (1, .int x1), (2, .int x2), (3, .int x3), (4, .int x4)]) hx hb dAg_meetAny_59 hl (k := 5) rfl rfl (by decide) rfl (fun ls hl => ?_)
            refine lv_goto (tgt := 3) hx hb dAg_meetAny_62 (by decide) ?_
            exact ih u x1 x2 x3 x4 (x5 + (1 : Int32)) _ h H locs ls hP hD hS (lv_sub hl [1, 2, 3, 4, 5, 0] rfl)
          · rw [if_neg hc] at h
            refine lv_iload_n hx hb dAg_meetAny_46 rfl (lv_at hl 3 rfl) ?_
            refine lv_aload_n hx hb dAg_meetAny_47 rfl (lv_at hl 0 rfl) ?_
            refine va_get (D := D) (ci := 2) (v := .ref (ad 13)) (C := RAg) (T := TAg) (N := 7) hx hb hG inAg hown hK hP 2 rfl rfl 3 (by decide) (hG _ mw_60) (fun _ h9 => h9) rfl dAg_meetAny_48 ?_
            refine lv_iload hx hb dAg_meetAny_51 (lv_at hl 5 rfl) ?_
            refine va_iald (f := (u.2.1 7)) hx hb hK hP 13 0 rfl rfl hg1 dAg_meetAny_53 ?_
            refine lv_icmp_ge (tgt := 59) hx hb dAg_meetAny_54 (by decide) (fun hc => ?_) (fun hc => ?_)
            · rw [if_pos hc] at h
              refine lv_iinc (v := (x5 + (1 : Int32))) (lv' := [(5, .int (x5 + (1 : Int32))), (0, .ref (ad 2)), (1, .int x1), (2, .int x2), (3, .int x3), (4, .int x4)]) hx hb dAg_meetAny_59 hl (k := 5) rfl rfl (by decide) rfl (fun ls hl => ?_)
              refine lv_goto (tgt := 3) hx hb dAg_meetAny_62 (by decide) ?_
              exact ih u x1 x2 x3 x4 (x5 + (1 : Int32)) _ h H locs ls hP hD hS (lv_sub hl [1, 2, 3, 4, 5, 0] rfl)
            · rw [if_neg hc] at h
              refine lv_iconst (v := (1 : Int32)) hx hb dAg_meetAny_57 (by decide) ?_
              cases h
              exact gw_zret hx hb hr (by first | rfl | exact nb_A_isWithin _ _ _) hlocks hP hD hS dAg_meetAny_58
set_option maxHeartbeats 4000000 in
set_option maxRecDepth 100000 in
theorem c_Ag_meetAny (l : Launch) (D : va_G) (ad : Nat → Nat) (cI cZ cJ : ClassId) (N : Nat) (u : StA) (a1 : Int32) (a2 : Int32) (a3 : Int32) (a4 : Int32) (r : Int32) (h : f_Ag_meetAny N u a1 a2 a3 a4 = some r) : gw_Ct l D vwCl (tA cI cZ cJ) (wA ad cI cZ cJ) yAg_meetAny (Cond.code yAg_meetAny cAg_meetAny 6 (some .boolean) :: gG) ({ frames := 0, cells := 0, slots := 0, locals := 0 } : Room) [.ref (ad 2), .int a1, .int a2, .int a3, .int a4] u (some (.int r)) u := by
  refine gw_enter (by decide) (Nat.le_of_ble_eq_true rfl) ?_
  intro p e s m below meth c A hC hP hD hS ls hl
  obtain ⟨hx, hb, hr, hml, hG, hown, hlocks, hK, hA⟩ := id hC
  have hl : lv_has ls 6 [(0, .ref (ad 2)), (1, .int a1), (2, .int a2), (3, .int a3), (4, .int a4)] := hl
  obtain ⟨H, hH⟩ : ∃ H, H = s.heap := ⟨_, rfl⟩
  obtain ⟨locs, hlocs⟩ : ∃ x : List Loc, x = [] := ⟨_, rfl⟩
  rw [← hlocs] at hS ⊢
  have hP : va_P D vwCl (wA ad cI cZ cJ u) H := by rw [hH]; exact hP
  have hS : va_S A s.heap H locs := by rw [hH]; exact hS
  suffices g : W p l e ({ frames := 0, cells := 0, slots := 0, locals := 0 } : Room) s m [.ref (ad 2), .int a1, .int a2, .int a3, .int a4].toArray below meth c H locs 0 0 (MQ below (gw_Q D vwCl (wA ad cI cZ cJ) A u (some (.int r))) [.ref (ad 2), .int a1, .int a2, .int a3, .int a4].toArray s 0 0 A) (F0 m 0 ls []) by rw [hH] at g; exact g
  unfold f_Ag_meetAny at h
  refine lv_iconst (v := (0 : Int32)) hx hb dAg_meetAny_0 (by decide) ?_
  refine lv_istore (lv' := [(5, .int (0 : Int32)), (0, .ref (ad 2)), (1, .int a1), (2, .int a2), (3, .int a3), (4, .int a4)]) hx hb dAg_meetAny_1 hl (by decide) rfl (fun ls hl => ?_)
  exact lp_Ag_meetAny_3 hC N N u a1 a2 a3 a4 (0 : Int32) _ h H locs ls hP hD hS (lv_sub hl [1, 2, 3, 4, 5, 0] rfl)
set_option maxHeartbeats 4000000 in
set_option maxRecDepth 100000 in
theorem lp_Ag_holdsAt_64 {p : Program} {l : Launch} {e : Env} {s : State} {m : MethodId} {args : Array Value} {below : List Frame} {meth : Method} {c : Code} {A : Nat → Prop} {D : va_G} {ad : Nat → Nat} {cI cZ cJ : ClassId} (hC : gw_C p s m args meth c "AidRows$Agreements" cAg_holdsAt 7 (some .boolean) gG D vwCl (tA cI cZ cJ) A) : ∀ (u : StA) (x1 : Int32) (x2 : Int32) (x3 : Int32) (x4 : Int32) (x5 : Int32) (y0 : Int32) (r : Int32), f_Ag_holdsAt_64 u x1 x2 x3 x4 x5 y0 = some r → ∀ (H : Heap) (locs : List Loc) (ls : Array Slot), va_P D vwCl (wA ad cI cZ cJ u) H → va_D A (wA ad cI cZ cJ u) → va_S A s.heap H locs → lv_has ls 7 [(0, .ref (ad 2)), (1, .int x1), (2, .int x2), (3, .int x3), (4, .int x4), (5, .int x5)] → W p l e ({ frames := 0, cells := 0, slots := 0, locals := 0 } : Room) s m args below meth c H locs 0 0 (MQ below (gw_Q D vwCl (wA ad cI cZ cJ) A u (some (.int r))) args s 0 0 A) (F0 m 64 ls [.int y0]) := by
  obtain ⟨hx, hb, hr, hml, hG, hown, hlocks, hK, hA⟩ := id hC
  intro u x1 x2 x3 x4 x5 y0 r h H locs ls hP hD hS hl
  unfold f_Ag_holdsAt_64 at h
  refine lv_istore (lv' := [(6, .int y0), (0, .ref (ad 2)), (1, .int x1), (2, .int x2), (3, .int x3), (4, .int x4), (5, .int x5)]) hx hb dAg_holdsAt_64 hl (by decide) rfl (fun ls hl => ?_)
  refine lv_iload hx hb dAg_holdsAt_66 (lv_at hl 0 rfl) ?_
  refine lv_if_eq (tgt := 91) hx hb dAg_holdsAt_68 (by decide) (fun hc => ?_) (fun hc => ?_)
  · rw [if_pos hc] at h
    refine lv_iload_n hx hb dAg_holdsAt_91 rfl (lv_at hl 4 rfl) ?_
    refine lv_iload hx hb dAg_holdsAt_92 (lv_at hl 5 rfl) ?_
    refine lv_icmp_lt (tgt := 107) hx hb dAg_holdsAt_94 (by decide) (fun hc => ?_) (fun hc => ?_)
    · rw [if_pos hc] at h
      refine lv_iconst (v := (0 : Int32)) hx hb dAg_holdsAt_107 (by decide) ?_
      cases h
      exact gw_zret hx hb hr (by first | rfl | exact nb_A_isWithin _ _ _) hlocks hP hD hS dAg_holdsAt_108
    · rw [if_neg hc] at h
      refine lv_iload_n hx hb dAg_holdsAt_97 rfl (lv_at hl 4 rfl) ?_
      refine lv_iload hx hb dAg_holdsAt_98 (lv_at hl 6 rfl) ?_
      refine lv_icmp_gt (tgt := 107) hx hb dAg_holdsAt_100 (by decide) (fun hc => ?_) (fun hc => ?_)
      · rw [if_pos hc] at h
        refine lv_iconst (v := (0 : Int32)) hx hb dAg_holdsAt_107 (by decide) ?_
        cases h
        exact gw_zret hx hb hr (by first | rfl | exact nb_A_isWithin _ _ _) hlocks hP hD hS dAg_holdsAt_108
      · rw [if_neg hc] at h
        refine lv_iconst (v := (1 : Int32)) hx hb dAg_holdsAt_103 (by decide) ?_
        refine lv_goto (tgt := 108) hx hb dAg_holdsAt_104 (by decide) ?_
        cases h
        exact gw_zret hx hb hr (by first | rfl | exact nb_A_isWithin _ _ _) hlocks hP hD hS dAg_holdsAt_108
  · rw [if_neg hc] at h
    refine lv_iload_n hx hb dAg_holdsAt_71 rfl (lv_at hl 4 rfl) ?_
    refine lv_iload hx hb dAg_holdsAt_72 (lv_at hl 5 rfl) ?_
    refine lv_icmp_ge (tgt := 83) hx hb dAg_holdsAt_74 (by decide) (fun hc => ?_) (fun hc => ?_)
    · rw [if_pos hc] at h
      refine lv_iconst (v := (1 : Int32)) hx hb dAg_holdsAt_83 (by decide) ?_
      refine lv_goto (tgt := 108) hx hb dAg_holdsAt_84 (by decide) ?_
      cases h
      exact gw_zret hx hb hr (by first | rfl | exact nb_A_isWithin _ _ _) hlocks hP hD hS dAg_holdsAt_108
    · rw [if_neg hc] at h
      refine lv_iload_n hx hb dAg_holdsAt_77 rfl (lv_at hl 4 rfl) ?_
      refine lv_iload hx hb dAg_holdsAt_78 (lv_at hl 6 rfl) ?_
      refine lv_icmp_gt (tgt := 87) hx hb dAg_holdsAt_80 (by decide) (fun hc => ?_) (fun hc => ?_)
      · rw [if_pos hc] at h
        refine lv_iconst (v := (0 : Int32)) hx hb dAg_holdsAt_87 (by decide) ?_
        refine lv_goto (tgt := 108) hx hb dAg_holdsAt_88 (by decide) ?_
        cases h
        exact gw_zret hx hb hr (by first | rfl | exact nb_A_isWithin _ _ _) hlocks hP hD hS dAg_holdsAt_108
      · rw [if_neg hc] at h
        refine lv_iconst (v := (1 : Int32)) hx hb dAg_holdsAt_83 (by decide) ?_
        refine lv_goto (tgt := 108) hx hb dAg_holdsAt_84 (by decide) ?_
        cases h
        exact gw_zret hx hb hr (by first | rfl | exact nb_A_isWithin _ _ _) hlocks hP hD hS dAg_holdsAt_108
set_option maxHeartbeats 4000000 in
set_option maxRecDepth 100000 in
theorem c_Ag_holdsAt (l : Launch) (D : va_G) (ad : Nat → Nat) (cI cZ cJ : ClassId) (u : StA) (a1 : Int32) (a2 : Int32) (r : Int32) (h : f_Ag_holdsAt u a1 a2 = some r) : gw_Ct l D vwCl (tA cI cZ cJ) (wA ad cI cZ cJ) yAg_holdsAt (Cond.code yAg_holdsAt cAg_holdsAt 7 (some .boolean) :: gG) ({ frames := 0, cells := 0, slots := 0, locals := 0 } : Room) [.ref (ad 2), .int a1, .int a2] u (some (.int r)) u := by
  refine gw_enter (by decide) (Nat.le_of_ble_eq_true rfl) ?_
  intro p e s m below meth c A hC hP hD hS ls hl
  obtain ⟨hx, hb, hr, hml, hG, hown, hlocks, hK, hA⟩ := id hC
  have hl : lv_has ls 7 [(0, .ref (ad 2)), (1, .int a1), (2, .int a2)] := hl
  obtain ⟨H, hH⟩ : ∃ H, H = s.heap := ⟨_, rfl⟩
  obtain ⟨locs, hlocs⟩ : ∃ x : List Loc, x = [] := ⟨_, rfl⟩
  rw [← hlocs] at hS ⊢
  have hP : va_P D vwCl (wA ad cI cZ cJ u) H := by rw [hH]; exact hP
  have hS : va_S A s.heap H locs := by rw [hH]; exact hS
  suffices g : W p l e ({ frames := 0, cells := 0, slots := 0, locals := 0 } : Room) s m [.ref (ad 2), .int a1, .int a2].toArray below meth c H locs 0 0 (MQ below (gw_Q D vwCl (wA ad cI cZ cJ) A u (some (.int r))) [.ref (ad 2), .int a1, .int a2].toArray s 0 0 A) (F0 m 0 ls []) by rw [hH] at g; exact g
  unfold f_Ag_holdsAt at h
  refine lv_iload_n hx hb dAg_holdsAt_0 rfl (lv_at hl 2 rfl) ?_
  refine lv_aload_n hx hb dAg_holdsAt_1 rfl (lv_at hl 0 rfl) ?_
  refine va_get (D := D) (ci := 2) (v := .ref (ad 12)) (C := RAg) (T := TAg) (N := 7) hx hb hG inAg hown hK hP 2 rfl rfl 2 (by decide) (hG _ mw_59) (fun _ h9 => h9) rfl dAg_holdsAt_2 ?_
  refine lv_iload_n hx hb dAg_holdsAt_5 rfl (lv_at hl 1 rfl) ?_
  obtain ⟨hg1, h⟩ := gI_some h
  refine va_iald (f := (u.2.1 6)) hx hb hK hP 12 0 rfl rfl hg1 dAg_holdsAt_6 ?_
  refine lv_icmp_lt (tgt := 20) hx hb dAg_holdsAt_7 (by decide) (fun hc => ?_) (fun hc => ?_)
  · rw [if_pos hc] at h
    refine lv_iconst (v := (0 : Int32)) hx hb dAg_holdsAt_20 (by decide) ?_
    cases h
    exact gw_zret hx hb hr (by first | rfl | exact nb_A_isWithin _ _ _) hlocks hP hD hS dAg_holdsAt_21
  · rw [if_neg hc] at h
    refine lv_iload_n hx hb dAg_holdsAt_10 rfl (lv_at hl 2 rfl) ?_
    refine lv_aload_n hx hb dAg_holdsAt_11 rfl (lv_at hl 0 rfl) ?_
    refine va_get (D := D) (ci := 2) (v := .ref (ad 13)) (C := RAg) (T := TAg) (N := 7) hx hb hG inAg hown hK hP 2 rfl rfl 3 (by decide) (hG _ mw_60) (fun _ h9 => h9) rfl dAg_holdsAt_12 ?_
    refine lv_iload_n hx hb dAg_holdsAt_15 rfl (lv_at hl 1 rfl) ?_
    refine va_iald (f := (u.2.1 7)) hx hb hK hP 13 0 rfl rfl hg1 dAg_holdsAt_16 ?_
    refine lv_icmp_lt (tgt := 22) hx hb dAg_holdsAt_17 (by decide) (fun hc => ?_) (fun hc => ?_)
    · rw [if_pos hc] at h
      refine lv_iload_n hx hb dAg_holdsAt_22 rfl (lv_at hl 2 rfl) ?_
      refine lv_bipush (v := (60 : Int32)) hx hb dAg_holdsAt_23 (by decide) ?_
      refine lv_idiv hx hb dAg_holdsAt_25 (by decide) ?_
      refine lv_bipush (v := (24 : Int32)) hx hb dAg_holdsAt_26 (by decide) ?_
      refine lv_irem hx hb dAg_holdsAt_28 (by decide) ?_
      refine lv_istore_n (lv' := [(3, .int ((a2 / (60 : Int32)) - (a2 / (60 : Int32)) / (24 : Int32) * (24 : Int32))), (0, .ref (ad 2)), (1, .int a1), (2, .int a2)]) hx hb dAg_holdsAt_29 rfl hl (by decide) rfl (fun ls hl => ?_)
      refine lv_aload_n hx hb dAg_holdsAt_30 rfl (lv_at hl 1 rfl) ?_
      refine va_get (D := D) (ci := 2) (v := .ref (ad 14)) (C := RAg) (T := TAg) (N := 7) hx hb hG inAg hown hK hP 2 rfl rfl 4 (by decide) (hG _ mw_62) (fun _ h9 => h9) rfl dAg_holdsAt_31 ?_
      refine lv_iload_n hx hb dAg_holdsAt_34 rfl (lv_at hl 2 rfl) ?_
      refine va_iald (f := (u.2.1 8)) hx hb hK hP 14 0 rfl rfl hg1 dAg_holdsAt_35 ?_
      refine lv_bipush (v := (100 : Int32)) hx hb dAg_holdsAt_36 (by decide) ?_
      refine lv_idiv hx hb dAg_holdsAt_38 (by decide) ?_
      refine lv_istore (lv' := [(4, .int ((u.2.1 8 (a1).toNatClampNeg) / (100 : Int32))), (3, .int ((a2 / (60 : Int32)) - (a2 / (60 : Int32)) / (24 : Int32) * (24 : Int32))), (0, .ref (ad 2)), (1, .int a1), (2, .int a2)]) hx hb dAg_holdsAt_39 hl (by decide) rfl (fun ls hl => ?_)
      refine lv_aload_n hx hb dAg_holdsAt_41 rfl (lv_at hl 2 rfl) ?_
      refine va_get (D := D) (ci := 2) (v := .ref (ad 14)) (C := RAg) (T := TAg) (N := 7) hx hb hG inAg hown hK hP 2 rfl rfl 4 (by decide) (hG _ mw_62) (fun _ h9 => h9) rfl dAg_holdsAt_42 ?_
      refine lv_iload_n hx hb dAg_holdsAt_45 rfl (lv_at hl 3 rfl) ?_
      refine va_iald (f := (u.2.1 8)) hx hb hK hP 14 0 rfl rfl hg1 dAg_holdsAt_46 ?_
      refine lv_bipush (v := (100 : Int32)) hx hb dAg_holdsAt_47 (by decide) ?_
      refine lv_irem hx hb dAg_holdsAt_49 (by decide) ?_
      refine lv_istore (lv' := [(5, .int ((u.2.1 8 (a1).toNatClampNeg) - (u.2.1 8 (a1).toNatClampNeg) / (100 : Int32) * (100 : Int32))), (4, .int ((u.2.1 8 (a1).toNatClampNeg) / (100 : Int32))), (3, .int ((a2 / (60 : Int32)) - (a2 / (60 : Int32)) / (24 : Int32) * (24 : Int32))), (0, .ref (ad 2)), (1, .int a1), (2, .int a2)]) hx hb dAg_holdsAt_50 hl (by decide) rfl (fun ls hl => ?_)
      refine lv_iload hx hb dAg_holdsAt_52 (lv_at hl 0 rfl) ?_
      refine lv_iload hx hb dAg_holdsAt_54 (lv_at hl 1 rfl) ?_
      refine lv_icmp_ge (tgt := 63) hx hb dAg_holdsAt_56 (by decide) (fun hc => ?_) (fun hc => ?_)
      · rw [if_pos hc] at h
        refine lv_iconst (v := (0 : Int32)) hx hb dAg_holdsAt_63 (by decide) ?_
        exact lp_Ag_holdsAt_64 hC u a1 a2 ((a2 / (60 : Int32)) - (a2 / (60 : Int32)) / (24 : Int32) * (24 : Int32)) ((u.2.1 8 (a1).toNatClampNeg) / (100 : Int32)) ((u.2.1 8 (a1).toNatClampNeg) - (u.2.1 8 (a1).toNatClampNeg) / (100 : Int32) * (100 : Int32)) (0 : Int32) _ h H locs ls hP hD hS (lv_sub hl [3, 4, 5, 2, 1, 0] rfl)
      · rw [if_neg hc] at h
        refine lv_iconst (v := (1 : Int32)) hx hb dAg_holdsAt_59 (by decide) ?_
        refine lv_goto (tgt := 64) hx hb dAg_holdsAt_60 (by decide) ?_
        exact lp_Ag_holdsAt_64 hC u a1 a2 ((a2 / (60 : Int32)) - (a2 / (60 : Int32)) / (24 : Int32) * (24 : Int32)) ((u.2.1 8 (a1).toNatClampNeg) / (100 : Int32)) ((u.2.1 8 (a1).toNatClampNeg) - (u.2.1 8 (a1).toNatClampNeg) / (100 : Int32) * (100 : Int32)) (1 : Int32) _ h H locs ls hP hD hS (lv_sub hl [3, 4, 5, 2, 1, 0] rfl)
    · rw [if_neg hc] at h
      refine lv_iconst (v := (0 : Int32)) hx hb dAg_holdsAt_20 (by decide) ?_
      cases h
      exact gw_zret hx hb hr (by first | rfl | exact nb_A_isWithin _ _ _) hlocks hP hD hS dAg_holdsAt_21
end
section
set_option maxHeartbeats 4000000 in
set_option maxRecDepth 100000 in
theorem c_As_has (l : Launch) (D : va_G) (ad : Nat → Nat) (cI cZ cJ : ClassId) (u : StA) (a1 : Int32) (r : Int32) (h : f_As_has u a1 = r) : gw_Ct l D vwCl (tA cI cZ cJ) (wA ad cI cZ cJ) yAs_has (Cond.code yAs_has cAs_has 2 (some .boolean) :: gG) ({ frames := 0, cells := 0, slots := 0, locals := 0 } : Room) [.ref (ad 3), .int a1] u (some (.int r)) u := by
  refine gw_enter (by decide) (Nat.le_of_ble_eq_true rfl) ?_
  intro p e s m below meth c A hC hP hD hS ls hl
  obtain ⟨hx, hb, hr, hml, hG, hown, hlocks, hK, hA⟩ := id hC
  have hl : lv_has ls 2 [(0, .ref (ad 3)), (1, .int a1)] := hl
  obtain ⟨H, hH⟩ : ∃ H, H = s.heap := ⟨_, rfl⟩
  obtain ⟨locs, hlocs⟩ : ∃ x : List Loc, x = [] := ⟨_, rfl⟩
  rw [← hlocs] at hS ⊢
  have hP : va_P D vwCl (wA ad cI cZ cJ u) H := by rw [hH]; exact hP
  have hS : va_S A s.heap H locs := by rw [hH]; exact hS
  suffices g : W p l e ({ frames := 0, cells := 0, slots := 0, locals := 0 } : Room) s m [.ref (ad 3), .int a1].toArray below meth c H locs 0 0 (MQ below (gw_Q D vwCl (wA ad cI cZ cJ) A u (some (.int r))) [.ref (ad 3), .int a1].toArray s 0 0 A) (F0 m 0 ls []) by rw [hH] at g; exact g
  unfold f_As_has at h
  refine lv_iload_n hx hb dAs_has_0 rfl (lv_at hl 1 rfl) ?_
  refine lv_if_lt (tgt := 16) hx hb dAs_has_1 (by decide) (fun hc => ?_) (fun hc => ?_)
  · rw [if_pos hc] at h
    refine lv_iconst (v := (0 : Int32)) hx hb dAs_has_16 (by decide) ?_
    subst h
    exact gw_zret hx hb hr (by first | rfl | exact nb_A_isWithin _ _ _) hlocks hP hD hS dAs_has_17
  · rw [if_neg hc] at h
    refine lv_iload_n hx hb dAs_has_4 rfl (lv_at hl 1 rfl) ?_
    refine lv_aload_n hx hb dAs_has_5 rfl (lv_at hl 0 rfl) ?_
    refine va_get (D := D) (ci := 3) (v := .int (u.1 5)) (C := RAs) (T := TAs) (N := 10) hx hb hG inAs hown hK hP 3 rfl rfl 9 (by decide) (hG _ mw_102) (fun _ h9 => h9) rfl dAs_has_6 ?_
    refine lv_icmp_ge (tgt := 16) hx hb dAs_has_9 (by decide) (fun hc => ?_) (fun hc => ?_)
    · rw [if_pos hc] at h
      refine lv_iconst (v := (0 : Int32)) hx hb dAs_has_16 (by decide) ?_
      subst h
      exact gw_zret hx hb hr (by first | rfl | exact nb_A_isWithin _ _ _) hlocks hP hD hS dAs_has_17
    · rw [if_neg hc] at h
      refine lv_iconst (v := (1 : Int32)) hx hb dAs_has_12 (by decide) ?_
      refine lv_goto (tgt := 17) hx hb dAs_has_13 (by decide) ?_
      subst h
      exact gw_zret hx hb hr (by first | rfl | exact nb_A_isWithin _ _ _) hlocks hP hD hS dAs_has_17
set_option maxHeartbeats 4000000 in
set_option maxRecDepth 100000 in
theorem c_As_isFull (l : Launch) (D : va_G) (ad : Nat → Nat) (cI cZ cJ : ClassId) (u : StA) (r : Int32) (h : f_As_isFull u = r) : gw_Ct l D vwCl (tA cI cZ cJ) (wA ad cI cZ cJ) yAs_isFull (Cond.code yAs_isFull cAs_isFull 1 (some .boolean) :: gG) ({ frames := 0, cells := 0, slots := 0, locals := 0 } : Room) [.ref (ad 3)] u (some (.int r)) u := by
  refine gw_enter (by decide) (Nat.le_of_ble_eq_true rfl) ?_
  intro p e s m below meth c A hC hP hD hS ls hl
  obtain ⟨hx, hb, hr, hml, hG, hown, hlocks, hK, hA⟩ := id hC
  have hl : lv_has ls 1 [(0, .ref (ad 3))] := hl
  obtain ⟨H, hH⟩ : ∃ H, H = s.heap := ⟨_, rfl⟩
  obtain ⟨locs, hlocs⟩ : ∃ x : List Loc, x = [] := ⟨_, rfl⟩
  rw [← hlocs] at hS ⊢
  have hP : va_P D vwCl (wA ad cI cZ cJ u) H := by rw [hH]; exact hP
  have hS : va_S A s.heap H locs := by rw [hH]; exact hS
  suffices g : W p l e ({ frames := 0, cells := 0, slots := 0, locals := 0 } : Room) s m [.ref (ad 3)].toArray below meth c H locs 0 0 (MQ below (gw_Q D vwCl (wA ad cI cZ cJ) A u (some (.int r))) [.ref (ad 3)].toArray s 0 0 A) (F0 m 0 ls []) by rw [hH] at g; exact g
  unfold f_As_isFull at h
  refine lv_aload_n hx hb dAs_isFull_0 rfl (lv_at hl 0 rfl) ?_
  refine va_get (D := D) (ci := 3) (v := .int (u.1 5)) (C := RAs) (T := TAs) (N := 10) hx hb hG inAs hown hK hP 3 rfl rfl 9 (by decide) (hG _ mw_102) (fun _ h9 => h9) rfl dAs_isFull_1 ?_
  refine lv_bipush (v := (30 : Int32)) hx hb dAs_isFull_4 (by decide) ?_
  refine lv_icmp_lt (tgt := 13) hx hb dAs_isFull_6 (by decide) (fun hc => ?_) (fun hc => ?_)
  · rw [if_pos hc] at h
    refine lv_iconst (v := (0 : Int32)) hx hb dAs_isFull_13 (by decide) ?_
    subst h
    exact gw_zret hx hb hr (by first | rfl | exact nb_A_isWithin _ _ _) hlocks hP hD hS dAs_isFull_14
  · rw [if_neg hc] at h
    refine lv_iconst (v := (1 : Int32)) hx hb dAs_isFull_9 (by decide) ?_
    refine lv_goto (tgt := 14) hx hb dAs_isFull_10 (by decide) ?_
    subst h
    exact gw_zret hx hb hr (by first | rfl | exact nb_A_isWithin _ _ _) hlocks hP hD hS dAs_isFull_14
set_option maxHeartbeats 4000000 in
set_option maxRecDepth 100000 in
theorem c_As_add (l : Launch) (D : va_G) (ad : Nat → Nat) (cI cZ cJ : ClassId) (u : StA) (a1 : Int32) (a2 : Int32) (a3 : Int32) (r : Int32) (w : StA) (h : f_As_add u a1 a2 a3 = some (r, w)) : gw_Ct l D vwCl (tA cI cZ cJ) (wA ad cI cZ cJ) yAs_add (Cond.code yAs_add cAs_add 4 (some .int) :: gG) ({ frames := 0, cells := 0, slots := 0, locals := 0 } : Room) [.ref (ad 3), .int a1, .int a2, .int a3] u (some (.int r)) w := by
  refine gw_enter (by decide) (Nat.le_of_ble_eq_true rfl) ?_
  intro p e s m below meth c A hC hP hD hS ls hl
  obtain ⟨hx, hb, hr, hml, hG, hown, hlocks, hK, hA⟩ := id hC
  have hl : lv_has ls 4 [(0, .ref (ad 3)), (1, .int a1), (2, .int a2), (3, .int a3)] := hl
  obtain ⟨H, hH⟩ : ∃ H, H = s.heap := ⟨_, rfl⟩
  obtain ⟨locs, hlocs⟩ : ∃ x : List Loc, x = [] := ⟨_, rfl⟩
  rw [← hlocs] at hS ⊢
  have hP : va_P D vwCl (wA ad cI cZ cJ u) H := by rw [hH]; exact hP
  have hS : va_S A s.heap H locs := by rw [hH]; exact hS
  suffices g : W p l e ({ frames := 0, cells := 0, slots := 0, locals := 0 } : Room) s m [.ref (ad 3), .int a1, .int a2, .int a3].toArray below meth c H locs 0 0 (MQ below (gw_Q D vwCl (wA ad cI cZ cJ) A w (some (.int r))) [.ref (ad 3), .int a1, .int a2, .int a3].toArray s 0 0 A) (F0 m 0 ls []) by rw [hH] at g; exact g
  unfold f_As_add at h
  refine lv_aload_n hx hb dAs_add_0 rfl (lv_at hl 0 rfl) ?_
  refine va_get (D := D) (ci := 3) (v := .ref (ad 16)) (C := RAs) (T := TAs) (N := 10) hx hb hG inAs hown hK hP 3 rfl rfl 0 (by decide) (hG _ mw_87) (fun _ h9 => h9) rfl dAs_add_1 ?_
  refine lv_aload_n hx hb dAs_add_4 rfl (lv_at hl 0 rfl) ?_
  refine va_get (D := D) (ci := 3) (v := .int (u.1 5)) (C := RAs) (T := TAs) (N := 10) hx hb hG inAs hown hK hP 3 rfl rfl 9 (by decide) (hG _ mw_102) (fun _ h9 => h9) rfl dAs_add_5 ?_
  refine lv_iload_n hx hb dAs_add_8 rfl (lv_at hl 1 rfl) ?_
  obtain ⟨hg1, h⟩ := gI_some h
  refine va_iast (f := (u.2.1 10)) hx hb hK hP hD hS 16 0 rfl rfl hg1 dAs_add_9 (fun H locs hP hD hS => ?_)
  have hP : va_P D vwCl (wA ad cI cZ cJ (sA u 10 ((u.1 5)).toNatClampNeg a1)) H := hP
  have hD : va_D A (wA ad cI cZ cJ (sA u 10 ((u.1 5)).toNatClampNeg a1)) := hD
  refine lv_aload_n hx hb dAs_add_10 rfl (lv_at hl 0 rfl) ?_
  refine va_get (D := D) (ci := 3) (v := .ref (ad 17)) (C := RAs) (T := TAs) (N := 10) hx hb hG inAs hown hK hP 3 rfl rfl 1 (by decide) (hG _ mw_89) (fun _ h9 => h9) rfl dAs_add_11 ?_
  refine lv_aload_n hx hb dAs_add_14 rfl (lv_at hl 0 rfl) ?_
  refine va_get (D := D) (ci := 3) (v := .int (u.1 5)) (C := RAs) (T := TAs) (N := 10) hx hb hG inAs hown hK hP 3 rfl rfl 9 (by decide) (hG _ mw_102) (fun _ h9 => h9) rfl dAs_add_15 ?_
  refine lv_iload_n hx hb dAs_add_18 rfl (lv_at hl 2 rfl) ?_
  refine va_iast (f := (u.2.1 11)) hx hb hK hP hD hS 17 0 rfl rfl hg1 dAs_add_19 (fun H locs hP hD hS => ?_)
  have hP : va_P D vwCl (wA ad cI cZ cJ (sA (sA u 10 ((u.1 5)).toNatClampNeg a1) 11 ((u.1 5)).toNatClampNeg a2)) H := hP
  have hD : va_D A (wA ad cI cZ cJ (sA (sA u 10 ((u.1 5)).toNatClampNeg a1) 11 ((u.1 5)).toNatClampNeg a2)) := hD
  refine lv_aload_n hx hb dAs_add_20 rfl (lv_at hl 0 rfl) ?_
  refine va_get (D := D) (ci := 3) (v := .ref (ad 18)) (C := RAs) (T := TAs) (N := 10) hx hb hG inAs hown hK hP 3 rfl rfl 2 (by decide) (hG _ mw_90) (fun _ h9 => h9) rfl dAs_add_21 ?_
  refine lv_aload_n hx hb dAs_add_24 rfl (lv_at hl 0 rfl) ?_
  refine va_get (D := D) (ci := 3) (v := .int (u.1 5)) (C := RAs) (T := TAs) (N := 10) hx hb hG inAs hown hK hP 3 rfl rfl 9 (by decide) (hG _ mw_102) (fun _ h9 => h9) rfl dAs_add_25 ?_
  refine lv_iload_n hx hb dAs_add_28 rfl (lv_at hl 3 rfl) ?_
  refine va_iast (f := (u.2.1 12)) hx hb hK hP hD hS 18 0 rfl rfl hg1 dAs_add_29 (fun H locs hP hD hS => ?_)
  have hP : va_P D vwCl (wA ad cI cZ cJ (sA (sA (sA u 10 ((u.1 5)).toNatClampNeg a1) 11 ((u.1 5)).toNatClampNeg a2) 12 ((u.1 5)).toNatClampNeg a3)) H := hP
  have hD : va_D A (wA ad cI cZ cJ (sA (sA (sA u 10 ((u.1 5)).toNatClampNeg a1) 11 ((u.1 5)).toNatClampNeg a2) 12 ((u.1 5)).toNatClampNeg a3)) := hD
  refine lv_aload_n hx hb dAs_add_30 rfl (lv_at hl 0 rfl) ?_
  refine va_get (D := D) (ci := 3) (v := .ref (ad 19)) (C := RAs) (T := TAs) (N := 10) hx hb hG inAs hown hK hP 3 rfl rfl 3 (by decide) (hG _ mw_91) (fun _ h9 => h9) rfl dAs_add_31 ?_
  refine lv_aload_n hx hb dAs_add_34 rfl (lv_at hl 0 rfl) ?_
  refine va_get (D := D) (ci := 3) (v := .int (u.1 5)) (C := RAs) (T := TAs) (N := 10) hx hb hG inAs hown hK hP 3 rfl rfl 9 (by decide) (hG _ mw_102) (fun _ h9 => h9) rfl dAs_add_35 ?_
  refine lv_iconst (v := (0 : Int32)) hx hb dAs_add_38 (by decide) ?_
  refine va_iast (f := (u.2.1 13)) hx hb hK hP hD hS 19 0 rfl rfl hg1 dAs_add_39 (fun H locs hP hD hS => ?_)
  have hP : va_P D vwCl (wA ad cI cZ cJ (sA (sA (sA (sA u 10 ((u.1 5)).toNatClampNeg a1) 11 ((u.1 5)).toNatClampNeg a2) 12 ((u.1 5)).toNatClampNeg a3) 13 ((u.1 5)).toNatClampNeg (0 : Int32))) H := hP
  have hD : va_D A (wA ad cI cZ cJ (sA (sA (sA (sA u 10 ((u.1 5)).toNatClampNeg a1) 11 ((u.1 5)).toNatClampNeg a2) 12 ((u.1 5)).toNatClampNeg a3) 13 ((u.1 5)).toNatClampNeg (0 : Int32))) := hD
  refine lv_aload_n hx hb dAs_add_40 rfl (lv_at hl 0 rfl) ?_
  refine lv_dup hx hb dAs_add_41 rfl ?_
  refine va_get (D := D) (ci := 3) (v := .int (u.1 5)) (C := RAs) (T := TAs) (N := 10) hx hb hG inAs hown hK hP 3 rfl rfl 9 (by decide) (hG _ mw_102) (fun _ h9 => h9) rfl dAs_add_42 ?_
  refine lv_dup_x1 hx hb dAs_add_45 rfl rfl ?_
  refine lv_iconst (v := (1 : Int32)) hx hb dAs_add_46 (by decide) ?_
  refine lv_iadd hx hb dAs_add_47 ?_
  refine va_put (D := D) (ci := 3) (v := .int ((u.1 5) + (1 : Int32))) (ty := .int) (C := RAs) (T := TAs) (N := 10) hx hb hG inAs tyAs tyAs_ok nmAs hown hK hP hD hS 3 rfl rfl 9 (by decide) (hG _ mw_102) (fun _ h9 => h9) rfl (by decide +kernel) rfl rfl (Nat.le_of_ble_eq_true rfl) dAs_add_48 (fun H locs hP hD hS => ?_)
  have hP : va_P D vwCl (wA ad cI cZ cJ (sF (sA (sA (sA (sA u 10 ((u.1 5)).toNatClampNeg a1) 11 ((u.1 5)).toNatClampNeg a2) 12 ((u.1 5)).toNatClampNeg a3) 13 ((u.1 5)).toNatClampNeg (0 : Int32)) 5 ((u.1 5) + (1 : Int32)))) H := hP
  have hD : va_D A (wA ad cI cZ cJ (sF (sA (sA (sA (sA u 10 ((u.1 5)).toNatClampNeg a1) 11 ((u.1 5)).toNatClampNeg a2) 12 ((u.1 5)).toNatClampNeg a3) 13 ((u.1 5)).toNatClampNeg (0 : Int32)) 5 ((u.1 5) + (1 : Int32)))) := hD
  cases h
  exact gw_iret hx hb hr hlocks hP hD hS dAs_add_51
set_option maxHeartbeats 4000000 in
set_option maxRecDepth 100000 in
theorem c_As_move (l : Launch) (D : va_G) (ad : Nat → Nat) (cI cZ cJ : ClassId) (u : StA) (a1 : Int32) (a2 : Int32) (a3 : Int32) (a4 : Int32) (w : StA) (h : f_As_move u a1 a2 a3 a4 = some w) : gw_Ct l D vwCl (tA cI cZ cJ) (wA ad cI cZ cJ) yAs_move (Cond.code yAs_move cAs_move 5 none :: gG) ({ frames := 0, cells := 0, slots := 0, locals := 0 } : Room) [.ref (ad 3), .int a1, .int a2, .int a3, .int a4] u (none) w := by
  refine gw_enter (by decide) (Nat.le_of_ble_eq_true rfl) ?_
  intro p e s m below meth c A hC hP hD hS ls hl
  obtain ⟨hx, hb, hr, hml, hG, hown, hlocks, hK, hA⟩ := id hC
  have hl : lv_has ls 5 [(0, .ref (ad 3)), (1, .int a1), (2, .int a2), (3, .int a3), (4, .int a4)] := hl
  obtain ⟨H, hH⟩ : ∃ H, H = s.heap := ⟨_, rfl⟩
  obtain ⟨locs, hlocs⟩ : ∃ x : List Loc, x = [] := ⟨_, rfl⟩
  rw [← hlocs] at hS ⊢
  have hP : va_P D vwCl (wA ad cI cZ cJ u) H := by rw [hH]; exact hP
  have hS : va_S A s.heap H locs := by rw [hH]; exact hS
  suffices g : W p l e ({ frames := 0, cells := 0, slots := 0, locals := 0 } : Room) s m [.ref (ad 3), .int a1, .int a2, .int a3, .int a4].toArray below meth c H locs 0 0 (MQ below (gw_Q D vwCl (wA ad cI cZ cJ) A w (none)) [.ref (ad 3), .int a1, .int a2, .int a3, .int a4].toArray s 0 0 A) (F0 m 0 ls []) by rw [hH] at g; exact g
  unfold f_As_move at h
  refine lv_aload_n hx hb dAs_move_0 rfl (lv_at hl 0 rfl) ?_
  refine va_get (D := D) (ci := 3) (v := .ref (ad 20)) (C := RAs) (T := TAs) (N := 10) hx hb hG inAs hown hK hP 3 rfl rfl 4 (by decide) (hG _ mw_93) (fun _ h9 => h9) rfl dAs_move_1 ?_
  refine lv_iload_n hx hb dAs_move_4 rfl (lv_at hl 1 rfl) ?_
  refine lv_iload_n hx hb dAs_move_5 rfl (lv_at hl 2 rfl) ?_
  obtain ⟨hg1, h⟩ := gI_some h
  refine va_iast (f := (u.2.1 14)) hx hb hK hP hD hS 20 0 rfl rfl hg1 dAs_move_6 (fun H locs hP hD hS => ?_)
  have hP : va_P D vwCl (wA ad cI cZ cJ (sA u 14 (a1).toNatClampNeg a2)) H := hP
  have hD : va_D A (wA ad cI cZ cJ (sA u 14 (a1).toNatClampNeg a2)) := hD
  refine lv_aload_n hx hb dAs_move_7 rfl (lv_at hl 0 rfl) ?_
  refine va_get (D := D) (ci := 3) (v := .ref (ad 21)) (C := RAs) (T := TAs) (N := 10) hx hb hG inAs hown hK hP 3 rfl rfl 5 (by decide) (hG _ mw_95) (fun _ h9 => h9) rfl dAs_move_8 ?_
  refine lv_iload_n hx hb dAs_move_11 rfl (lv_at hl 1 rfl) ?_
  refine lv_iload_n hx hb dAs_move_12 rfl (lv_at hl 3 rfl) ?_
  refine va_iast (f := (u.2.1 15)) hx hb hK hP hD hS 21 0 rfl rfl hg1 dAs_move_13 (fun H locs hP hD hS => ?_)
  have hP : va_P D vwCl (wA ad cI cZ cJ (sA (sA u 14 (a1).toNatClampNeg a2) 15 (a1).toNatClampNeg a3)) H := hP
  have hD : va_D A (wA ad cI cZ cJ (sA (sA u 14 (a1).toNatClampNeg a2) 15 (a1).toNatClampNeg a3)) := hD
  refine lv_aload_n hx hb dAs_move_14 rfl (lv_at hl 0 rfl) ?_
  refine va_get (D := D) (ci := 3) (v := .ref (ad 23)) (C := RAs) (T := TAs) (N := 10) hx hb hG inAs hown hK hP 3 rfl rfl 7 (by decide) (hG _ mw_99) (fun _ h9 => h9) rfl dAs_move_15 ?_
  refine lv_iload_n hx hb dAs_move_18 rfl (lv_at hl 1 rfl) ?_
  refine lv_dup2_11 hx hb dAs_move_19 rfl rfl ?_
  refine va_iald (f := (u.2.1 17)) hx hb hK hP 23 0 rfl rfl hg1 dAs_move_20 ?_
  refine lv_iconst (v := (1 : Int32)) hx hb dAs_move_21 (by decide) ?_
  refine lv_iload_n hx hb dAs_move_22 rfl (lv_at hl 2 rfl) ?_
  refine lv_ishl hx hb dAs_move_23 ?_
  refine lv_ior hx hb dAs_move_24 ?_
  refine va_iast (f := (u.2.1 17)) hx hb hK hP hD hS 23 0 rfl rfl hg1 dAs_move_25 (fun H locs hP hD hS => ?_)
  have hP : va_P D vwCl (wA ad cI cZ cJ (sA (sA (sA u 14 (a1).toNatClampNeg a2) 15 (a1).toNatClampNeg a3) 17 (a1).toNatClampNeg ((u.2.1 17 (a1).toNatClampNeg) ||| ((1 : Int32) <<< (a2 &&& 31))))) H := hP
  have hD : va_D A (wA ad cI cZ cJ (sA (sA (sA u 14 (a1).toNatClampNeg a2) 15 (a1).toNatClampNeg a3) 17 (a1).toNatClampNeg ((u.2.1 17 (a1).toNatClampNeg) ||| ((1 : Int32) <<< (a2 &&& 31))))) := hD
  refine lv_aload_n hx hb dAs_move_26 rfl (lv_at hl 0 rfl) ?_
  refine va_get (D := D) (ci := 3) (v := .ref (ad 24)) (C := RAs) (T := TAs) (N := 10) hx hb hG inAs hown hK hP 3 rfl rfl 8 (by decide) (hG _ mw_100) (fun _ h9 => h9) rfl dAs_move_27 ?_
  refine lv_iload_n hx hb dAs_move_30 rfl (lv_at hl 1 rfl) ?_
  refine lv_iload hx hb dAs_move_31 (lv_at hl 4 rfl) ?_
  refine va_zast (f := (u.2.1 18)) hx hb hK hP hD hS 24 1 rfl rfl hg1 dAs_move_33 (fun H locs hP hD hS => ?_)
  have hP : va_P D vwCl (wA ad cI cZ cJ (sA (sA (sA (sA u 14 (a1).toNatClampNeg a2) 15 (a1).toNatClampNeg a3) 17 (a1).toNatClampNeg ((u.2.1 17 (a1).toNatClampNeg) ||| ((1 : Int32) <<< (a2 &&& 31)))) 18 (a1).toNatClampNeg (vp_nar .boolean a4))) H := hP
  have hD : va_D A (wA ad cI cZ cJ (sA (sA (sA (sA u 14 (a1).toNatClampNeg a2) 15 (a1).toNatClampNeg a3) 17 (a1).toNatClampNeg ((u.2.1 17 (a1).toNatClampNeg) ||| ((1 : Int32) <<< (a2 &&& 31)))) 18 (a1).toNatClampNeg (vp_nar .boolean a4))) := hD
  cases h
  exact gw_vret hx hb hr hlocks hP hD hS dAs_move_34
set_option maxHeartbeats 4000000 in
set_option maxRecDepth 100000 in
theorem c_As_close (l : Launch) (D : va_G) (ad : Nat → Nat) (cI cZ cJ : ClassId) (u : StA) (a1 : Int32) (a2 : Int32) (w : StA) (h : f_As_close u a1 a2 = some w) : gw_Ct l D vwCl (tA cI cZ cJ) (wA ad cI cZ cJ) yAs_close (Cond.code yAs_close cAs_close 3 none :: gG) ({ frames := 0, cells := 0, slots := 0, locals := 0 } : Room) [.ref (ad 3), .int a1, .int a2] u (none) w := by
  refine gw_enter (by decide) (Nat.le_of_ble_eq_true rfl) ?_
  intro p e s m below meth c A hC hP hD hS ls hl
  obtain ⟨hx, hb, hr, hml, hG, hown, hlocks, hK, hA⟩ := id hC
  have hl : lv_has ls 3 [(0, .ref (ad 3)), (1, .int a1), (2, .int a2)] := hl
  obtain ⟨H, hH⟩ : ∃ H, H = s.heap := ⟨_, rfl⟩
  obtain ⟨locs, hlocs⟩ : ∃ x : List Loc, x = [] := ⟨_, rfl⟩
  rw [← hlocs] at hS ⊢
  have hP : va_P D vwCl (wA ad cI cZ cJ u) H := by rw [hH]; exact hP
  have hS : va_S A s.heap H locs := by rw [hH]; exact hS
  suffices g : W p l e ({ frames := 0, cells := 0, slots := 0, locals := 0 } : Room) s m [.ref (ad 3), .int a1, .int a2].toArray below meth c H locs 0 0 (MQ below (gw_Q D vwCl (wA ad cI cZ cJ) A w (none)) [.ref (ad 3), .int a1, .int a2].toArray s 0 0 A) (F0 m 0 ls []) by rw [hH] at g; exact g
  unfold f_As_close at h
  refine lv_aload_n hx hb dAs_close_0 rfl (lv_at hl 0 rfl) ?_
  refine va_get (D := D) (ci := 3) (v := .ref (ad 19)) (C := RAs) (T := TAs) (N := 10) hx hb hG inAs hown hK hP 3 rfl rfl 3 (by decide) (hG _ mw_91) (fun _ h9 => h9) rfl dAs_close_1 ?_
  refine lv_iload_n hx hb dAs_close_4 rfl (lv_at hl 1 rfl) ?_
  refine lv_iload_n hx hb dAs_close_5 rfl (lv_at hl 2 rfl) ?_
  obtain ⟨hg1, h⟩ := gI_some h
  refine va_iast (f := (u.2.1 13)) hx hb hK hP hD hS 19 0 rfl rfl hg1 dAs_close_6 (fun H locs hP hD hS => ?_)
  have hP : va_P D vwCl (wA ad cI cZ cJ (sA u 13 (a1).toNatClampNeg a2)) H := hP
  have hD : va_D A (wA ad cI cZ cJ (sA u 13 (a1).toNatClampNeg a2)) := hD
  refine lv_aload_n hx hb dAs_close_7 rfl (lv_at hl 0 rfl) ?_
  refine va_get (D := D) (ci := 3) (v := .ref (ad 20)) (C := RAs) (T := TAs) (N := 10) hx hb hG inAs hown hK hP 3 rfl rfl 4 (by decide) (hG _ mw_93) (fun _ h9 => h9) rfl dAs_close_8 ?_
  refine lv_iload_n hx hb dAs_close_11 rfl (lv_at hl 1 rfl) ?_
  refine lv_iconst (v := (-1 : Int32)) hx hb dAs_close_12 (by decide) ?_
  refine va_iast (f := (u.2.1 14)) hx hb hK hP hD hS 20 0 rfl rfl hg1 dAs_close_13 (fun H locs hP hD hS => ?_)
  have hP : va_P D vwCl (wA ad cI cZ cJ (sA (sA u 13 (a1).toNatClampNeg a2) 14 (a1).toNatClampNeg (-1 : Int32))) H := hP
  have hD : va_D A (wA ad cI cZ cJ (sA (sA u 13 (a1).toNatClampNeg a2) 14 (a1).toNatClampNeg (-1 : Int32))) := hD
  refine lv_aload_n hx hb dAs_close_14 rfl (lv_at hl 0 rfl) ?_
  refine va_get (D := D) (ci := 3) (v := .ref (ad 21)) (C := RAs) (T := TAs) (N := 10) hx hb hG inAs hown hK hP 3 rfl rfl 5 (by decide) (hG _ mw_95) (fun _ h9 => h9) rfl dAs_close_15 ?_
  refine lv_iload_n hx hb dAs_close_18 rfl (lv_at hl 1 rfl) ?_
  refine lv_iconst (v := (0 : Int32)) hx hb dAs_close_19 (by decide) ?_
  refine va_iast (f := (u.2.1 15)) hx hb hK hP hD hS 21 0 rfl rfl hg1 dAs_close_20 (fun H locs hP hD hS => ?_)
  have hP : va_P D vwCl (wA ad cI cZ cJ (sA (sA (sA u 13 (a1).toNatClampNeg a2) 14 (a1).toNatClampNeg (-1 : Int32)) 15 (a1).toNatClampNeg (0 : Int32))) H := hP
  have hD : va_D A (wA ad cI cZ cJ (sA (sA (sA u 13 (a1).toNatClampNeg a2) 14 (a1).toNatClampNeg (-1 : Int32)) 15 (a1).toNatClampNeg (0 : Int32))) := hD
  refine lv_aload_n hx hb dAs_close_21 rfl (lv_at hl 0 rfl) ?_
  refine va_get (D := D) (ci := 3) (v := .ref (ad 24)) (C := RAs) (T := TAs) (N := 10) hx hb hG inAs hown hK hP 3 rfl rfl 8 (by decide) (hG _ mw_100) (fun _ h9 => h9) rfl dAs_close_22 ?_
  refine lv_iload_n hx hb dAs_close_25 rfl (lv_at hl 1 rfl) ?_
  refine lv_iconst (v := (0 : Int32)) hx hb dAs_close_26 (by decide) ?_
  refine va_zast (f := (u.2.1 18)) hx hb hK hP hD hS 24 1 rfl rfl hg1 dAs_close_27 (fun H locs hP hD hS => ?_)
  have hP : va_P D vwCl (wA ad cI cZ cJ (sA (sA (sA (sA u 13 (a1).toNatClampNeg a2) 14 (a1).toNatClampNeg (-1 : Int32)) 15 (a1).toNatClampNeg (0 : Int32)) 18 (a1).toNatClampNeg (vp_nar .boolean (0 : Int32)))) H := hP
  have hD : va_D A (wA ad cI cZ cJ (sA (sA (sA (sA u 13 (a1).toNatClampNeg a2) 14 (a1).toNatClampNeg (-1 : Int32)) 15 (a1).toNatClampNeg (0 : Int32)) 18 (a1).toNatClampNeg (vp_nar .boolean (0 : Int32)))) := hD
  cases h
  exact gw_vret hx hb hr hlocks hP hD hS dAs_close_28
set_option maxHeartbeats 4000000 in
set_option maxRecDepth 100000 in
theorem c_As_isOpen (l : Launch) (D : va_G) (ad : Nat → Nat) (cI cZ cJ : ClassId) (u : StA) (a1 : Int32) (r : Int32) (h : f_As_isOpen u a1 = some r) : gw_Ct l D vwCl (tA cI cZ cJ) (wA ad cI cZ cJ) yAs_isOpen (Cond.code yAs_isOpen cAs_isOpen 2 (some .boolean) :: gG) ({ frames := 0, cells := 0, slots := 0, locals := 0 } : Room) [.ref (ad 3), .int a1] u (some (.int r)) u := by
  refine gw_enter (by decide) (Nat.le_of_ble_eq_true rfl) ?_
  intro p e s m below meth c A hC hP hD hS ls hl
  obtain ⟨hx, hb, hr, hml, hG, hown, hlocks, hK, hA⟩ := id hC
  have hl : lv_has ls 2 [(0, .ref (ad 3)), (1, .int a1)] := hl
  obtain ⟨H, hH⟩ : ∃ H, H = s.heap := ⟨_, rfl⟩
  obtain ⟨locs, hlocs⟩ : ∃ x : List Loc, x = [] := ⟨_, rfl⟩
  rw [← hlocs] at hS ⊢
  have hP : va_P D vwCl (wA ad cI cZ cJ u) H := by rw [hH]; exact hP
  have hS : va_S A s.heap H locs := by rw [hH]; exact hS
  suffices g : W p l e ({ frames := 0, cells := 0, slots := 0, locals := 0 } : Room) s m [.ref (ad 3), .int a1].toArray below meth c H locs 0 0 (MQ below (gw_Q D vwCl (wA ad cI cZ cJ) A u (some (.int r))) [.ref (ad 3), .int a1].toArray s 0 0 A) (F0 m 0 ls []) by rw [hH] at g; exact g
  unfold f_As_isOpen at h
  refine lv_aload_n hx hb dAs_isOpen_0 rfl (lv_at hl 0 rfl) ?_
  refine va_get (D := D) (ci := 3) (v := .ref (ad 19)) (C := RAs) (T := TAs) (N := 10) hx hb hG inAs hown hK hP 3 rfl rfl 3 (by decide) (hG _ mw_91) (fun _ h9 => h9) rfl dAs_isOpen_1 ?_
  refine lv_iload_n hx hb dAs_isOpen_4 rfl (lv_at hl 1 rfl) ?_
  obtain ⟨hg1, h⟩ := gI_some h
  refine va_iald (f := (u.2.1 13)) hx hb hK hP 19 0 rfl rfl hg1 dAs_isOpen_5 ?_
  refine lv_if_ne (tgt := 13) hx hb dAs_isOpen_6 (by decide) (fun hc => ?_) (fun hc => ?_)
  · rw [if_neg hc] at h
    refine lv_iconst (v := (0 : Int32)) hx hb dAs_isOpen_13 (by decide) ?_
    cases h
    exact gw_zret hx hb hr (by first | rfl | exact nb_A_isWithin _ _ _) hlocks hP hD hS dAs_isOpen_14
  · rw [if_pos hc] at h
    refine lv_iconst (v := (1 : Int32)) hx hb dAs_isOpen_9 (by decide) ?_
    refine lv_goto (tgt := 14) hx hb dAs_isOpen_10 (by decide) ?_
    cases h
    exact gw_zret hx hb hr (by first | rfl | exact nb_A_isWithin _ _ _) hlocks hP hD hS dAs_isOpen_14
set_option maxHeartbeats 4000000 in
set_option maxRecDepth 100000 in
theorem c_As_isOpenAt (l : Launch) (D : va_G) (ad : Nat → Nat) (cI cZ cJ : ClassId) (u : StA) (a1 : Int32) (a2 : Int32) (r : Int32) (h : f_As_isOpenAt u a1 a2 = some r) : gw_Ct l D vwCl (tA cI cZ cJ) (wA ad cI cZ cJ) yAs_isOpenAt (Cond.code yAs_isOpenAt cAs_isOpenAt 3 (some .boolean) :: gG) ({ frames := 1, cells := 0, slots := 0, locals := 21 } : Room) [.ref (ad 3), .int a1, .int a2] u (some (.int r)) u := by
  refine gw_enter (by decide) (Nat.le_of_ble_eq_true rfl) ?_
  intro p e s m below meth c A hC hP hD hS ls hl
  obtain ⟨hx, hb, hr, hml, hG, hown, hlocks, hK, hA⟩ := id hC
  have hl : lv_has ls 3 [(0, .ref (ad 3)), (1, .int a1), (2, .int a2)] := hl
  obtain ⟨H, hH⟩ : ∃ H, H = s.heap := ⟨_, rfl⟩
  obtain ⟨locs, hlocs⟩ : ∃ x : List Loc, x = [] := ⟨_, rfl⟩
  rw [← hlocs] at hS ⊢
  have hP : va_P D vwCl (wA ad cI cZ cJ u) H := by rw [hH]; exact hP
  have hS : va_S A s.heap H locs := by rw [hH]; exact hS
  suffices g : W p l e ({ frames := 1, cells := 0, slots := 0, locals := 21 } : Room) s m [.ref (ad 3), .int a1, .int a2].toArray below meth c H locs 0 0 (MQ below (gw_Q D vwCl (wA ad cI cZ cJ) A u (some (.int r))) [.ref (ad 3), .int a1, .int a2].toArray s 0 0 A) (F0 m 0 ls []) by rw [hH] at g; exact g
  unfold f_As_isOpenAt at h
  refine lv_aload_n hx hb dAs_isOpenAt_0 rfl (lv_at hl 0 rfl) ?_
  refine lv_iload_n hx hb dAs_isOpenAt_1 rfl (lv_at hl 1 rfl) ?_
  obtain ⟨q1, q1_h, h⟩ := gw_bind h
  refine gw_callV (As := [.int a1]) (rest := []) (u := u) (u' := u) hx hb hml hown hG (c_As_isOpen l D ad cI cZ cJ u a1 _ q1_h) lk_As_44 rfl rfl ⟨Nat.le_of_ble_eq_true rfl, Nat.le_of_ble_eq_true rfl⟩ (va_recv hK hP (ci := 3) (q0 := 3) rfl rfl) hK hP hD hS hA rfl hl.1 rfl (Nat.le_of_ble_eq_true rfl) dAs_isOpenAt_2 ⟨Nat.le_of_ble_eq_true rfl, Nat.le_of_ble_eq_true rfl⟩ (fun H locs hP hD hS => ?_)
  refine lv_if_eq (tgt := 22) hx hb dAs_isOpenAt_5 (by decide) (fun hc => ?_) (fun hc => ?_)
  · rw [if_pos hc] at h
    refine lv_iconst (v := (0 : Int32)) hx hb dAs_isOpenAt_22 (by decide) ?_
    cases h
    exact gw_zret hx hb hr (by first | rfl | exact nb_A_isWithin _ _ _) hlocks hP hD hS dAs_isOpenAt_23
  · rw [if_neg hc] at h
    refine lv_aload_n hx hb dAs_isOpenAt_8 rfl (lv_at hl 0 rfl) ?_
    refine va_get (D := D) (ci := 3) (v := .ref (ad 20)) (C := RAs) (T := TAs) (N := 10) hx hb hG inAs hown hK hP 3 rfl rfl 4 (by decide) (hG _ mw_93) (fun _ h9 => h9) rfl dAs_isOpenAt_9 ?_
    refine lv_iload_n hx hb dAs_isOpenAt_12 rfl (lv_at hl 1 rfl) ?_
    obtain ⟨hg2, h⟩ := gI_some h
    refine va_iald (f := (u.2.1 14)) hx hb hK hP 20 0 rfl rfl hg2 dAs_isOpenAt_13 ?_
    refine lv_iload_n hx hb dAs_isOpenAt_14 rfl (lv_at hl 2 rfl) ?_
    refine lv_icmp_ne (tgt := 22) hx hb dAs_isOpenAt_15 (by decide) (fun hc => ?_) (fun hc => ?_)
    · rw [if_neg hc] at h
      refine lv_iconst (v := (0 : Int32)) hx hb dAs_isOpenAt_22 (by decide) ?_
      cases h
      exact gw_zret hx hb hr (by first | rfl | exact nb_A_isWithin _ _ _) hlocks hP hD hS dAs_isOpenAt_23
    · rw [if_pos hc] at h
      refine lv_iconst (v := (1 : Int32)) hx hb dAs_isOpenAt_18 (by decide) ?_
      refine lv_goto (tgt := 23) hx hb dAs_isOpenAt_19 (by decide) ?_
      cases h
      exact gw_zret hx hb hr (by first | rfl | exact nb_A_isWithin _ _ _) hlocks hP hD hS dAs_isOpenAt_23
set_option maxHeartbeats 4000000 in
set_option maxRecDepth 100000 in
theorem c_As_wasAt (l : Launch) (D : va_G) (ad : Nat → Nat) (cI cZ cJ : ClassId) (u : StA) (a1 : Int32) (a2 : Int32) (r : Int32) (h : f_As_wasAt u a1 a2 = some r) : gw_Ct l D vwCl (tA cI cZ cJ) (wA ad cI cZ cJ) yAs_wasAt (Cond.code yAs_wasAt cAs_wasAt 3 (some .boolean) :: gG) ({ frames := 0, cells := 0, slots := 0, locals := 0 } : Room) [.ref (ad 3), .int a1, .int a2] u (some (.int r)) u := by
  refine gw_enter (by decide) (Nat.le_of_ble_eq_true rfl) ?_
  intro p e s m below meth c A hC hP hD hS ls hl
  obtain ⟨hx, hb, hr, hml, hG, hown, hlocks, hK, hA⟩ := id hC
  have hl : lv_has ls 3 [(0, .ref (ad 3)), (1, .int a1), (2, .int a2)] := hl
  obtain ⟨H, hH⟩ : ∃ H, H = s.heap := ⟨_, rfl⟩
  obtain ⟨locs, hlocs⟩ : ∃ x : List Loc, x = [] := ⟨_, rfl⟩
  rw [← hlocs] at hS ⊢
  have hP : va_P D vwCl (wA ad cI cZ cJ u) H := by rw [hH]; exact hP
  have hS : va_S A s.heap H locs := by rw [hH]; exact hS
  suffices g : W p l e ({ frames := 0, cells := 0, slots := 0, locals := 0 } : Room) s m [.ref (ad 3), .int a1, .int a2].toArray below meth c H locs 0 0 (MQ below (gw_Q D vwCl (wA ad cI cZ cJ) A u (some (.int r))) [.ref (ad 3), .int a1, .int a2].toArray s 0 0 A) (F0 m 0 ls []) by rw [hH] at g; exact g
  unfold f_As_wasAt at h
  refine lv_aload_n hx hb dAs_wasAt_0 rfl (lv_at hl 0 rfl) ?_
  refine va_get (D := D) (ci := 3) (v := .ref (ad 23)) (C := RAs) (T := TAs) (N := 10) hx hb hG inAs hown hK hP 3 rfl rfl 7 (by decide) (hG _ mw_99) (fun _ h9 => h9) rfl dAs_wasAt_1 ?_
  refine lv_iload_n hx hb dAs_wasAt_4 rfl (lv_at hl 1 rfl) ?_
  obtain ⟨hg1, h⟩ := gI_some h
  refine va_iald (f := (u.2.1 17)) hx hb hK hP 23 0 rfl rfl hg1 dAs_wasAt_5 ?_
  refine lv_iload_n hx hb dAs_wasAt_6 rfl (lv_at hl 2 rfl) ?_
  refine lv_ishr hx hb dAs_wasAt_7 ?_
  refine lv_iconst (v := (1 : Int32)) hx hb dAs_wasAt_8 (by decide) ?_
  refine lv_iand hx hb dAs_wasAt_9 ?_
  refine lv_iconst (v := (1 : Int32)) hx hb dAs_wasAt_10 (by decide) ?_
  refine lv_icmp_ne (tgt := 18) hx hb dAs_wasAt_11 (by decide) (fun hc => ?_) (fun hc => ?_)
  · rw [if_neg hc] at h
    refine lv_iconst (v := (0 : Int32)) hx hb dAs_wasAt_18 (by decide) ?_
    cases h
    exact gw_zret hx hb hr (by first | rfl | exact nb_A_isWithin _ _ _) hlocks hP hD hS dAs_wasAt_19
  · rw [if_pos hc] at h
    refine lv_iconst (v := (1 : Int32)) hx hb dAs_wasAt_14 (by decide) ?_
    refine lv_goto (tgt := 19) hx hb dAs_wasAt_15 (by decide) ?_
    cases h
    exact gw_zret hx hb hr (by first | rfl | exact nb_A_isWithin _ _ _) hlocks hP hD hS dAs_wasAt_19
set_option maxHeartbeats 4000000 in
set_option maxRecDepth 100000 in
theorem c_As_wanting (l : Launch) (D : va_G) (ad : Nat → Nat) (cI cZ cJ : ClassId) (u : StA) (a1 : Int32) (r : Int32) (h : f_As_wanting u a1 = some r) : gw_Ct l D vwCl (tA cI cZ cJ) (wA ad cI cZ cJ) yAs_wanting (Cond.code yAs_wanting cAs_wanting 2 (some .int) :: gG) ({ frames := 0, cells := 0, slots := 0, locals := 0 } : Room) [.ref (ad 3), .int a1] u (some (.int r)) u := by
  refine gw_enter (by decide) (Nat.le_of_ble_eq_true rfl) ?_
  intro p e s m below meth c A hC hP hD hS ls hl
  obtain ⟨hx, hb, hr, hml, hG, hown, hlocks, hK, hA⟩ := id hC
  have hl : lv_has ls 2 [(0, .ref (ad 3)), (1, .int a1)] := hl
  obtain ⟨H, hH⟩ : ∃ H, H = s.heap := ⟨_, rfl⟩
  obtain ⟨locs, hlocs⟩ : ∃ x : List Loc, x = [] := ⟨_, rfl⟩
  rw [← hlocs] at hS ⊢
  have hP : va_P D vwCl (wA ad cI cZ cJ u) H := by rw [hH]; exact hP
  have hS : va_S A s.heap H locs := by rw [hH]; exact hS
  suffices g : W p l e ({ frames := 0, cells := 0, slots := 0, locals := 0 } : Room) s m [.ref (ad 3), .int a1].toArray below meth c H locs 0 0 (MQ below (gw_Q D vwCl (wA ad cI cZ cJ) A u (some (.int r))) [.ref (ad 3), .int a1].toArray s 0 0 A) (F0 m 0 ls []) by rw [hH] at g; exact g
  unfold f_As_wanting at h
  refine lv_aload_n hx hb dAs_wanting_0 rfl (lv_at hl 0 rfl) ?_
  refine va_get (D := D) (ci := 3) (v := .ref (ad 17)) (C := RAs) (T := TAs) (N := 10) hx hb hG inAs hown hK hP 3 rfl rfl 1 (by decide) (hG _ mw_89) (fun _ h9 => h9) rfl dAs_wanting_1 ?_
  refine lv_iload_n hx hb dAs_wanting_4 rfl (lv_at hl 1 rfl) ?_
  obtain ⟨hg1, h⟩ := gI_some h
  refine va_iald (f := (u.2.1 11)) hx hb hK hP 17 0 rfl rfl hg1 dAs_wanting_5 ?_
  refine lv_aload_n hx hb dAs_wanting_6 rfl (lv_at hl 0 rfl) ?_
  refine va_get (D := D) (ci := 3) (v := .ref (ad 22)) (C := RAs) (T := TAs) (N := 10) hx hb hG inAs hown hK hP 3 rfl rfl 6 (by decide) (hG _ mw_97) (fun _ h9 => h9) rfl dAs_wanting_7 ?_
  refine lv_iload_n hx hb dAs_wanting_10 rfl (lv_at hl 1 rfl) ?_
  refine va_iald (f := (u.2.1 16)) hx hb hK hP 22 0 rfl rfl hg1 dAs_wanting_11 ?_
  refine lv_isub hx hb dAs_wanting_12 ?_
  cases h
  exact gw_iret hx hb hr hlocks hP hD hS dAs_wanting_13
set_option maxHeartbeats 4000000 in
set_option maxRecDepth 100000 in
theorem c_As_patienceEnd (l : Launch) (D : va_G) (ad : Nat → Nat) (cI cZ cJ : ClassId) (u : StA) (a1 : Int32) (r : Int32) (h : f_As_patienceEnd u a1 = some r) : gw_Ct l D vwCl (tA cI cZ cJ) (wA ad cI cZ cJ) yAs_patienceEnd (Cond.code yAs_patienceEnd cAs_patienceEnd 2 (some .int) :: gG) ({ frames := 0, cells := 0, slots := 0, locals := 0 } : Room) [.ref (ad 3), .int a1] u (some (.int r)) u := by
  refine gw_enter (by decide) (Nat.le_of_ble_eq_true rfl) ?_
  intro p e s m below meth c A hC hP hD hS ls hl
  obtain ⟨hx, hb, hr, hml, hG, hown, hlocks, hK, hA⟩ := id hC
  have hl : lv_has ls 2 [(0, .ref (ad 3)), (1, .int a1)] := hl
  obtain ⟨H, hH⟩ : ∃ H, H = s.heap := ⟨_, rfl⟩
  obtain ⟨locs, hlocs⟩ : ∃ x : List Loc, x = [] := ⟨_, rfl⟩
  rw [← hlocs] at hS ⊢
  have hP : va_P D vwCl (wA ad cI cZ cJ u) H := by rw [hH]; exact hP
  have hS : va_S A s.heap H locs := by rw [hH]; exact hS
  suffices g : W p l e ({ frames := 0, cells := 0, slots := 0, locals := 0 } : Room) s m [.ref (ad 3), .int a1].toArray below meth c H locs 0 0 (MQ below (gw_Q D vwCl (wA ad cI cZ cJ) A u (some (.int r))) [.ref (ad 3), .int a1].toArray s 0 0 A) (F0 m 0 ls []) by rw [hH] at g; exact g
  unfold f_As_patienceEnd at h
  refine lv_aload_n hx hb dAs_patienceEnd_0 rfl (lv_at hl 0 rfl) ?_
  refine va_get (D := D) (ci := 3) (v := .ref (ad 21)) (C := RAs) (T := TAs) (N := 10) hx hb hG inAs hown hK hP 3 rfl rfl 5 (by decide) (hG _ mw_95) (fun _ h9 => h9) rfl dAs_patienceEnd_1 ?_
  refine lv_iload_n hx hb dAs_patienceEnd_4 rfl (lv_at hl 1 rfl) ?_
  obtain ⟨hg1, h⟩ := gI_some h
  refine va_iald (f := (u.2.1 15)) hx hb hK hP 21 0 rfl rfl hg1 dAs_patienceEnd_5 ?_
  refine lv_aload_n hx hb dAs_patienceEnd_6 rfl (lv_at hl 0 rfl) ?_
  refine va_get (D := D) (ci := 3) (v := .ref (ad 18)) (C := RAs) (T := TAs) (N := 10) hx hb hG inAs hown hK hP 3 rfl rfl 2 (by decide) (hG _ mw_90) (fun _ h9 => h9) rfl dAs_patienceEnd_7 ?_
  refine lv_iload_n hx hb dAs_patienceEnd_10 rfl (lv_at hl 1 rfl) ?_
  refine va_iald (f := (u.2.1 12)) hx hb hK hP 18 0 rfl rfl hg1 dAs_patienceEnd_11 ?_
  refine lv_iadd hx hb dAs_patienceEnd_12 ?_
  cases h
  exact gw_iret hx hb hr hlocks hP hD hS dAs_patienceEnd_13
set_option maxHeartbeats 4000000 in
set_option maxRecDepth 100000 in
theorem lp_As_open_4 {p : Program} {l : Launch} {e : Env} {s : State} {m : MethodId} {args : Array Value} {below : List Frame} {meth : Method} {c : Code} {A : Nat → Prop} {D : va_G} {ad : Nat → Nat} {cI cZ cJ : ClassId} (hC : gw_C p s m args meth c "AidRows$Asks" cAs_open 3 (some .int) gG D vwCl (tA cI cZ cJ) A) (N : Nat) : ∀ (n : Nat) (u : StA) (x1 : Int32) (x2 : Int32) (r : Int32), f_As_open_4 N n u x1 x2 = some r → ∀ (H : Heap) (locs : List Loc) (ls : Array Slot), va_P D vwCl (wA ad cI cZ cJ u) H → va_D A (wA ad cI cZ cJ u) → va_S A s.heap H locs → lv_has ls 3 [(0, .ref (ad 3)), (1, .int x1), (2, .int x2)] → W p l e ({ frames := 1, cells := 0, slots := 0, locals := 21 } : Room) s m args below meth c H locs 0 0 (MQ below (gw_Q D vwCl (wA ad cI cZ cJ) A u (some (.int r))) args s 0 0 A) (F0 m 4 ls []) := by
  obtain ⟨hx, hb, hr, hml, hG, hown, hlocks, hK, hA⟩ := id hC
  intro n
  induction n with
  | zero => intro u x1 x2 r h; cases h
  | succ n ih =>
    intro u x1 x2 r h H locs ls hP hD hS hl
    rw [f_As_open_4] at h
    refine lv_iload_n hx hb dAs_open_4 rfl (lv_at hl 2 rfl) ?_
    refine lv_aload_n hx hb dAs_open_5 rfl (lv_at hl 0 rfl) ?_
    refine va_get (D := D) (ci := 3) (v := .int (u.1 5)) (C := RAs) (T := TAs) (N := 10) hx hb hG inAs hown hK hP 3 rfl rfl 9 (by decide) (hG _ mw_102) (fun _ h9 => h9) rfl dAs_open_6 ?_
    refine lv_icmp_ge (tgt := 29) hx hb dAs_open_9 (by decide) (fun hc => ?_) (fun hc => ?_)
    · rw [if_pos hc] at h
      refine lv_iload_n hx hb dAs_open_29 rfl (lv_at hl 1 rfl) ?_
      cases h
      exact gw_iret hx hb hr hlocks hP hD hS dAs_open_30
    · rw [if_neg hc] at h
      refine lv_aload_n hx hb dAs_open_12 rfl (lv_at hl 0 rfl) ?_
      refine lv_iload_n hx hb dAs_open_13 rfl (lv_at hl 2 rfl) ?_
      obtain ⟨q1, q1_h, h⟩ := gw_bind h
      refine gw_callV (As := [.int x2]) (rest := []) (u := u) (u' := u) hx hb hml hown hG (c_As_isOpen l D ad cI cZ cJ u x2 _ q1_h) lk_As_44 rfl rfl ⟨Nat.le_of_ble_eq_true rfl, Nat.le_of_ble_eq_true rfl⟩ (va_recv hK hP (ci := 3) (q0 := 3) rfl rfl) hK hP hD hS hA rfl hl.1 rfl (Nat.le_of_ble_eq_true rfl) dAs_open_14 ⟨Nat.le_of_ble_eq_true rfl, Nat.le_of_ble_eq_true rfl⟩ (fun H locs hP hD hS => ?_)
      refine lv_if_eq (tgt := 23) hx hb dAs_open_17 (by decide) (fun hc => ?_) (fun hc => ?_)
      · rw [if_pos hc] at h
        refine lv_iinc (v := (x2 + (1 : Int32))) (lv' := [(2, .int (x2 + (1 : Int32))), (0, .ref (ad 3)), (1, .int x1)]) hx hb dAs_open_23 hl (k := 2) rfl rfl (by decide) rfl (fun ls hl => ?_)
        refine lv_goto (tgt := 4) hx hb dAs_open_26 (by decide) ?_
        exact ih u x1 (x2 + (1 : Int32)) _ h H locs ls hP hD hS (lv_sub hl [1, 2, 0] rfl)
      · rw [if_neg hc] at h
        refine lv_iinc (v := (x1 + (1 : Int32))) (lv' := [(1, .int (x1 + (1 : Int32))), (0, .ref (ad 3)), (2, .int x2)]) hx hb dAs_open_20 hl (k := 1) rfl rfl (by decide) rfl (fun ls hl => ?_)
        refine lv_iinc (v := (x2 + (1 : Int32))) (lv' := [(2, .int (x2 + (1 : Int32))), (1, .int (x1 + (1 : Int32))), (0, .ref (ad 3))]) hx hb dAs_open_23 hl (k := 2) rfl rfl (by decide) rfl (fun ls hl => ?_)
        refine lv_goto (tgt := 4) hx hb dAs_open_26 (by decide) ?_
        exact ih u (x1 + (1 : Int32)) (x2 + (1 : Int32)) _ h H locs ls hP hD hS (lv_sub hl [2, 1, 0] rfl)
set_option maxHeartbeats 4000000 in
set_option maxRecDepth 100000 in
theorem c_As_open (l : Launch) (D : va_G) (ad : Nat → Nat) (cI cZ cJ : ClassId) (N : Nat) (u : StA) (r : Int32) (h : f_As_open N u = some r) : gw_Ct l D vwCl (tA cI cZ cJ) (wA ad cI cZ cJ) yAs_open (Cond.code yAs_open cAs_open 3 (some .int) :: gG) ({ frames := 1, cells := 0, slots := 0, locals := 21 } : Room) [.ref (ad 3)] u (some (.int r)) u := by
  refine gw_enter (by decide) (Nat.le_of_ble_eq_true rfl) ?_
  intro p e s m below meth c A hC hP hD hS ls hl
  obtain ⟨hx, hb, hr, hml, hG, hown, hlocks, hK, hA⟩ := id hC
  have hl : lv_has ls 3 [(0, .ref (ad 3))] := hl
  obtain ⟨H, hH⟩ : ∃ H, H = s.heap := ⟨_, rfl⟩
  obtain ⟨locs, hlocs⟩ : ∃ x : List Loc, x = [] := ⟨_, rfl⟩
  rw [← hlocs] at hS ⊢
  have hP : va_P D vwCl (wA ad cI cZ cJ u) H := by rw [hH]; exact hP
  have hS : va_S A s.heap H locs := by rw [hH]; exact hS
  suffices g : W p l e ({ frames := 1, cells := 0, slots := 0, locals := 21 } : Room) s m [.ref (ad 3)].toArray below meth c H locs 0 0 (MQ below (gw_Q D vwCl (wA ad cI cZ cJ) A u (some (.int r))) [.ref (ad 3)].toArray s 0 0 A) (F0 m 0 ls []) by rw [hH] at g; exact g
  unfold f_As_open at h
  refine lv_iconst (v := (0 : Int32)) hx hb dAs_open_0 (by decide) ?_
  refine lv_istore_n (lv' := [(1, .int (0 : Int32)), (0, .ref (ad 3))]) hx hb dAs_open_1 rfl hl (by decide) rfl (fun ls hl => ?_)
  refine lv_iconst (v := (0 : Int32)) hx hb dAs_open_2 (by decide) ?_
  refine lv_istore_n (lv' := [(2, .int (0 : Int32)), (1, .int (0 : Int32)), (0, .ref (ad 3))]) hx hb dAs_open_3 rfl hl (by decide) rfl (fun ls hl => ?_)
  exact lp_As_open_4 hC N N u (0 : Int32) (0 : Int32) _ h H locs ls hP hD hS (lv_sub hl [2, 1, 0] rfl)
set_option maxHeartbeats 4000000 in
set_option maxRecDepth 100000 in
theorem c_Lo_has (l : Launch) (D : va_G) (ad : Nat → Nat) (cI cZ cJ : ClassId) (u : StA) (a1 : Int32) (r : Int32) (h : f_Lo_has u a1 = r) : gw_Ct l D vwCl (tA cI cZ cJ) (wA ad cI cZ cJ) yLo_has (Cond.code yLo_has cLo_has 2 (some .boolean) :: gG) ({ frames := 0, cells := 0, slots := 0, locals := 0 } : Room) [.ref (ad 4), .int a1] u (some (.int r)) u := by
  refine gw_enter (by decide) (Nat.le_of_ble_eq_true rfl) ?_
  intro p e s m below meth c A hC hP hD hS ls hl
  obtain ⟨hx, hb, hr, hml, hG, hown, hlocks, hK, hA⟩ := id hC
  have hl : lv_has ls 2 [(0, .ref (ad 4)), (1, .int a1)] := hl
  obtain ⟨H, hH⟩ : ∃ H, H = s.heap := ⟨_, rfl⟩
  obtain ⟨locs, hlocs⟩ : ∃ x : List Loc, x = [] := ⟨_, rfl⟩
  rw [← hlocs] at hS ⊢
  have hP : va_P D vwCl (wA ad cI cZ cJ u) H := by rw [hH]; exact hP
  have hS : va_S A s.heap H locs := by rw [hH]; exact hS
  suffices g : W p l e ({ frames := 0, cells := 0, slots := 0, locals := 0 } : Room) s m [.ref (ad 4), .int a1].toArray below meth c H locs 0 0 (MQ below (gw_Q D vwCl (wA ad cI cZ cJ) A u (some (.int r))) [.ref (ad 4), .int a1].toArray s 0 0 A) (F0 m 0 ls []) by rw [hH] at g; exact g
  unfold f_Lo_has at h
  refine lv_iload_n hx hb dLo_has_0 rfl (lv_at hl 1 rfl) ?_
  refine lv_if_lt (tgt := 16) hx hb dLo_has_1 (by decide) (fun hc => ?_) (fun hc => ?_)
  · rw [if_pos hc] at h
    refine lv_iconst (v := (0 : Int32)) hx hb dLo_has_16 (by decide) ?_
    subst h
    exact gw_zret hx hb hr (by first | rfl | exact nb_A_isWithin _ _ _) hlocks hP hD hS dLo_has_17
  · rw [if_neg hc] at h
    refine lv_iload_n hx hb dLo_has_4 rfl (lv_at hl 1 rfl) ?_
    refine lv_aload_n hx hb dLo_has_5 rfl (lv_at hl 0 rfl) ?_
    refine va_get (D := D) (ci := 4) (v := .int (u.1 6)) (C := RLo) (T := TLo) (N := 7) hx hb hG inLo hown hK hP 4 rfl rfl 6 (by decide) (hG _ mw_143) (fun _ h9 => h9) rfl dLo_has_6 ?_
    refine lv_icmp_ge (tgt := 16) hx hb dLo_has_9 (by decide) (fun hc => ?_) (fun hc => ?_)
    · rw [if_pos hc] at h
      refine lv_iconst (v := (0 : Int32)) hx hb dLo_has_16 (by decide) ?_
      subst h
      exact gw_zret hx hb hr (by first | rfl | exact nb_A_isWithin _ _ _) hlocks hP hD hS dLo_has_17
    · rw [if_neg hc] at h
      refine lv_iconst (v := (1 : Int32)) hx hb dLo_has_12 (by decide) ?_
      refine lv_goto (tgt := 17) hx hb dLo_has_13 (by decide) ?_
      subst h
      exact gw_zret hx hb hr (by first | rfl | exact nb_A_isWithin _ _ _) hlocks hP hD hS dLo_has_17
set_option maxHeartbeats 4000000 in
set_option maxRecDepth 100000 in
theorem c_Lo_room (l : Launch) (D : va_G) (ad : Nat → Nat) (cI cZ cJ : ClassId) (u : StA) (r : Int32) (h : f_Lo_room u = r) : gw_Ct l D vwCl (tA cI cZ cJ) (wA ad cI cZ cJ) yLo_room (Cond.code yLo_room cLo_room 1 (some .int) :: gG) ({ frames := 0, cells := 0, slots := 0, locals := 0 } : Room) [.ref (ad 4)] u (some (.int r)) u := by
  refine gw_enter (by decide) (Nat.le_of_ble_eq_true rfl) ?_
  intro p e s m below meth c A hC hP hD hS ls hl
  obtain ⟨hx, hb, hr, hml, hG, hown, hlocks, hK, hA⟩ := id hC
  have hl : lv_has ls 1 [(0, .ref (ad 4))] := hl
  obtain ⟨H, hH⟩ : ∃ H, H = s.heap := ⟨_, rfl⟩
  obtain ⟨locs, hlocs⟩ : ∃ x : List Loc, x = [] := ⟨_, rfl⟩
  rw [← hlocs] at hS ⊢
  have hP : va_P D vwCl (wA ad cI cZ cJ u) H := by rw [hH]; exact hP
  have hS : va_S A s.heap H locs := by rw [hH]; exact hS
  suffices g : W p l e ({ frames := 0, cells := 0, slots := 0, locals := 0 } : Room) s m [.ref (ad 4)].toArray below meth c H locs 0 0 (MQ below (gw_Q D vwCl (wA ad cI cZ cJ) A u (some (.int r))) [.ref (ad 4)].toArray s 0 0 A) (F0 m 0 ls []) by rw [hH] at g; exact g
  unfold f_Lo_room at h
  refine lv_bipush (v := (100 : Int32)) hx hb dLo_room_0 (by decide) ?_
  refine lv_aload_n hx hb dLo_room_2 rfl (lv_at hl 0 rfl) ?_
  refine va_get (D := D) (ci := 4) (v := .int (u.1 6)) (C := RLo) (T := TLo) (N := 7) hx hb hG inLo hown hK hP 4 rfl rfl 6 (by decide) (hG _ mw_143) (fun _ h9 => h9) rfl dLo_room_3 ?_
  refine lv_isub hx hb dLo_room_6 ?_
  subst h
  exact gw_iret hx hb hr hlocks hP hD hS dLo_room_7
set_option maxHeartbeats 4000000 in
set_option maxRecDepth 100000 in
theorem c_Lo_isLent (l : Launch) (D : va_G) (ad : Nat → Nat) (cI cZ cJ : ClassId) (u : StA) (a1 : Int32) (r : Int32) (h : f_Lo_isLent u a1 = some r) : gw_Ct l D vwCl (tA cI cZ cJ) (wA ad cI cZ cJ) yLo_isLent (Cond.code yLo_isLent cLo_isLent 2 (some .boolean) :: gG) ({ frames := 0, cells := 0, slots := 0, locals := 0 } : Room) [.ref (ad 4), .int a1] u (some (.int r)) u := by
  refine gw_enter (by decide) (Nat.le_of_ble_eq_true rfl) ?_
  intro p e s m below meth c A hC hP hD hS ls hl
  obtain ⟨hx, hb, hr, hml, hG, hown, hlocks, hK, hA⟩ := id hC
  have hl : lv_has ls 2 [(0, .ref (ad 4)), (1, .int a1)] := hl
  obtain ⟨H, hH⟩ : ∃ H, H = s.heap := ⟨_, rfl⟩
  obtain ⟨locs, hlocs⟩ : ∃ x : List Loc, x = [] := ⟨_, rfl⟩
  rw [← hlocs] at hS ⊢
  have hP : va_P D vwCl (wA ad cI cZ cJ u) H := by rw [hH]; exact hP
  have hS : va_S A s.heap H locs := by rw [hH]; exact hS
  suffices g : W p l e ({ frames := 0, cells := 0, slots := 0, locals := 0 } : Room) s m [.ref (ad 4), .int a1].toArray below meth c H locs 0 0 (MQ below (gw_Q D vwCl (wA ad cI cZ cJ) A u (some (.int r))) [.ref (ad 4), .int a1].toArray s 0 0 A) (F0 m 0 ls []) by rw [hH] at g; exact g
  unfold f_Lo_isLent at h
  refine lv_aload_n hx hb dLo_isLent_0 rfl (lv_at hl 0 rfl) ?_
  refine va_get (D := D) (ci := 4) (v := .ref (ad 30)) (C := RLo) (T := TLo) (N := 7) hx hb hG inLo hown hK hP 4 rfl rfl 5 (by decide) (hG _ mw_141) (fun _ h9 => h9) rfl dLo_isLent_1 ?_
  refine lv_iload_n hx hb dLo_isLent_4 rfl (lv_at hl 1 rfl) ?_
  obtain ⟨hg1, h⟩ := gI_some h
  refine va_iald (f := (u.2.1 24)) hx hb hK hP 30 0 rfl rfl hg1 dLo_isLent_5 ?_
  refine lv_iconst (v := (-1 : Int32)) hx hb dLo_isLent_6 (by decide) ?_
  refine lv_icmp_ne (tgt := 14) hx hb dLo_isLent_7 (by decide) (fun hc => ?_) (fun hc => ?_)
  · rw [if_neg hc] at h
    refine lv_iconst (v := (0 : Int32)) hx hb dLo_isLent_14 (by decide) ?_
    cases h
    exact gw_zret hx hb hr (by first | rfl | exact nb_A_isWithin _ _ _) hlocks hP hD hS dLo_isLent_15
  · rw [if_pos hc] at h
    refine lv_iconst (v := (1 : Int32)) hx hb dLo_isLent_10 (by decide) ?_
    refine lv_goto (tgt := 15) hx hb dLo_isLent_11 (by decide) ?_
    cases h
    exact gw_zret hx hb hr (by first | rfl | exact nb_A_isWithin _ _ _) hlocks hP hD hS dLo_isLent_15
set_option maxHeartbeats 4000000 in
set_option maxRecDepth 100000 in
theorem lp_Lo_lent_4 {p : Program} {l : Launch} {e : Env} {s : State} {m : MethodId} {args : Array Value} {below : List Frame} {meth : Method} {c : Code} {A : Nat → Prop} {D : va_G} {ad : Nat → Nat} {cI cZ cJ : ClassId} (hC : gw_C p s m args meth c "AidRows$Loans" cLo_lent 3 (some .int) gG D vwCl (tA cI cZ cJ) A) (N : Nat) : ∀ (n : Nat) (u : StA) (x1 : Int32) (x2 : Int32) (r : Int32), f_Lo_lent_4 N n u x1 x2 = some r → ∀ (H : Heap) (locs : List Loc) (ls : Array Slot), va_P D vwCl (wA ad cI cZ cJ u) H → va_D A (wA ad cI cZ cJ u) → va_S A s.heap H locs → lv_has ls 3 [(0, .ref (ad 4)), (1, .int x1), (2, .int x2)] → W p l e ({ frames := 1, cells := 0, slots := 0, locals := 21 } : Room) s m args below meth c H locs 0 0 (MQ below (gw_Q D vwCl (wA ad cI cZ cJ) A u (some (.int r))) args s 0 0 A) (F0 m 4 ls []) := by
  obtain ⟨hx, hb, hr, hml, hG, hown, hlocks, hK, hA⟩ := id hC
  intro n
  induction n with
  | zero => intro u x1 x2 r h; cases h
  | succ n ih =>
    intro u x1 x2 r h H locs ls hP hD hS hl
    rw [f_Lo_lent_4] at h
    refine lv_iload_n hx hb dLo_lent_4 rfl (lv_at hl 2 rfl) ?_
    refine lv_aload_n hx hb dLo_lent_5 rfl (lv_at hl 0 rfl) ?_
    refine va_get (D := D) (ci := 4) (v := .int (u.1 6)) (C := RLo) (T := TLo) (N := 7) hx hb hG inLo hown hK hP 4 rfl rfl 6 (by decide) (hG _ mw_143) (fun _ h9 => h9) rfl dLo_lent_6 ?_
    refine lv_icmp_ge (tgt := 29) hx hb dLo_lent_9 (by decide) (fun hc => ?_) (fun hc => ?_)
    · rw [if_pos hc] at h
      refine lv_iload_n hx hb dLo_lent_29 rfl (lv_at hl 1 rfl) ?_
      cases h
      exact gw_iret hx hb hr hlocks hP hD hS dLo_lent_30
    · rw [if_neg hc] at h
      refine lv_aload_n hx hb dLo_lent_12 rfl (lv_at hl 0 rfl) ?_
      refine lv_iload_n hx hb dLo_lent_13 rfl (lv_at hl 2 rfl) ?_
      obtain ⟨q1, q1_h, h⟩ := gw_bind h
      refine gw_callV (As := [.int x2]) (rest := []) (u := u) (u' := u) hx hb hml hown hG (c_Lo_isLent l D ad cI cZ cJ u x2 _ q1_h) lk_Lo_41 rfl rfl ⟨Nat.le_of_ble_eq_true rfl, Nat.le_of_ble_eq_true rfl⟩ (va_recv hK hP (ci := 4) (q0 := 4) rfl rfl) hK hP hD hS hA rfl hl.1 rfl (Nat.le_of_ble_eq_true rfl) dLo_lent_14 ⟨Nat.le_of_ble_eq_true rfl, Nat.le_of_ble_eq_true rfl⟩ (fun H locs hP hD hS => ?_)
      refine lv_if_eq (tgt := 23) hx hb dLo_lent_17 (by decide) (fun hc => ?_) (fun hc => ?_)
      · rw [if_pos hc] at h
        refine lv_iinc (v := (x2 + (1 : Int32))) (lv' := [(2, .int (x2 + (1 : Int32))), (0, .ref (ad 4)), (1, .int x1)]) hx hb dLo_lent_23 hl (k := 2) rfl rfl (by decide) rfl (fun ls hl => ?_)
        refine lv_goto (tgt := 4) hx hb dLo_lent_26 (by decide) ?_
        exact ih u x1 (x2 + (1 : Int32)) _ h H locs ls hP hD hS (lv_sub hl [1, 2, 0] rfl)
      · rw [if_neg hc] at h
        refine lv_iinc (v := (x1 + (1 : Int32))) (lv' := [(1, .int (x1 + (1 : Int32))), (0, .ref (ad 4)), (2, .int x2)]) hx hb dLo_lent_20 hl (k := 1) rfl rfl (by decide) rfl (fun ls hl => ?_)
        refine lv_iinc (v := (x2 + (1 : Int32))) (lv' := [(2, .int (x2 + (1 : Int32))), (1, .int (x1 + (1 : Int32))), (0, .ref (ad 4))]) hx hb dLo_lent_23 hl (k := 2) rfl rfl (by decide) rfl (fun ls hl => ?_)
        refine lv_goto (tgt := 4) hx hb dLo_lent_26 (by decide) ?_
        exact ih u (x1 + (1 : Int32)) (x2 + (1 : Int32)) _ h H locs ls hP hD hS (lv_sub hl [2, 1, 0] rfl)
set_option maxHeartbeats 4000000 in
set_option maxRecDepth 100000 in
theorem c_Lo_lent (l : Launch) (D : va_G) (ad : Nat → Nat) (cI cZ cJ : ClassId) (N : Nat) (u : StA) (r : Int32) (h : f_Lo_lent N u = some r) : gw_Ct l D vwCl (tA cI cZ cJ) (wA ad cI cZ cJ) yLo_lent (Cond.code yLo_lent cLo_lent 3 (some .int) :: gG) ({ frames := 1, cells := 0, slots := 0, locals := 21 } : Room) [.ref (ad 4)] u (some (.int r)) u := by
  refine gw_enter (by decide) (Nat.le_of_ble_eq_true rfl) ?_
  intro p e s m below meth c A hC hP hD hS ls hl
  obtain ⟨hx, hb, hr, hml, hG, hown, hlocks, hK, hA⟩ := id hC
  have hl : lv_has ls 3 [(0, .ref (ad 4))] := hl
  obtain ⟨H, hH⟩ : ∃ H, H = s.heap := ⟨_, rfl⟩
  obtain ⟨locs, hlocs⟩ : ∃ x : List Loc, x = [] := ⟨_, rfl⟩
  rw [← hlocs] at hS ⊢
  have hP : va_P D vwCl (wA ad cI cZ cJ u) H := by rw [hH]; exact hP
  have hS : va_S A s.heap H locs := by rw [hH]; exact hS
  suffices g : W p l e ({ frames := 1, cells := 0, slots := 0, locals := 21 } : Room) s m [.ref (ad 4)].toArray below meth c H locs 0 0 (MQ below (gw_Q D vwCl (wA ad cI cZ cJ) A u (some (.int r))) [.ref (ad 4)].toArray s 0 0 A) (F0 m 0 ls []) by rw [hH] at g; exact g
  unfold f_Lo_lent at h
  refine lv_iconst (v := (0 : Int32)) hx hb dLo_lent_0 (by decide) ?_
  refine lv_istore_n (lv' := [(1, .int (0 : Int32)), (0, .ref (ad 4))]) hx hb dLo_lent_1 rfl hl (by decide) rfl (fun ls hl => ?_)
  refine lv_iconst (v := (0 : Int32)) hx hb dLo_lent_2 (by decide) ?_
  refine lv_istore_n (lv' := [(2, .int (0 : Int32)), (1, .int (0 : Int32)), (0, .ref (ad 4))]) hx hb dLo_lent_3 rfl hl (by decide) rfl (fun ls hl => ?_)
  exact lp_Lo_lent_4 hC N N u (0 : Int32) (0 : Int32) _ h H locs ls hP hD hS (lv_sub hl [2, 1, 0] rfl)
end
section
set_option maxHeartbeats 4000000 in
set_option maxRecDepth 100000 in
theorem lp_Lo_lentUnder_4 {p : Program} {l : Launch} {e : Env} {s : State} {m : MethodId} {args : Array Value} {below : List Frame} {meth : Method} {c : Code} {A : Nat → Prop} {D : va_G} {ad : Nat → Nat} {cI cZ cJ : ClassId} (hC : gw_C p s m args meth c "AidRows$Loans" cLo_lentUnder 4 (some .int) gG D vwCl (tA cI cZ cJ) A) (N : Nat) : ∀ (n : Nat) (u : StA) (x1 : Int32) (x2 : Int32) (x3 : Int32) (r : Int32), f_Lo_lentUnder_4 N n u x1 x2 x3 = some r → ∀ (H : Heap) (locs : List Loc) (ls : Array Slot), va_P D vwCl (wA ad cI cZ cJ u) H → va_D A (wA ad cI cZ cJ u) → va_S A s.heap H locs → lv_has ls 4 [(0, .ref (ad 4)), (1, .int x1), (2, .int x2), (3, .int x3)] → W p l e ({ frames := 1, cells := 0, slots := 0, locals := 21 } : Room) s m args below meth c H locs 0 0 (MQ below (gw_Q D vwCl (wA ad cI cZ cJ) A u (some (.int r))) args s 0 0 A) (F0 m 4 ls []) := by
  obtain ⟨hx, hb, hr, hml, hG, hown, hlocks, hK, hA⟩ := id hC
  intro n
  induction n with
  | zero => intro u x1 x2 x3 r h; cases h
  | succ n ih =>
    intro u x1 x2 x3 r h H locs ls hP hD hS hl
    rw [f_Lo_lentUnder_4] at h
    refine lv_iload_n hx hb dLo_lentUnder_4 rfl (lv_at hl 3 rfl) ?_
    refine lv_aload_n hx hb dLo_lentUnder_5 rfl (lv_at hl 0 rfl) ?_
    refine va_get (D := D) (ci := 4) (v := .int (u.1 6)) (C := RLo) (T := TLo) (N := 7) hx hb hG inLo hown hK hP 4 rfl rfl 6 (by decide) (hG _ mw_143) (fun _ h9 => h9) rfl dLo_lentUnder_6 ?_
    refine lv_icmp_ge (tgt := 39) hx hb dLo_lentUnder_9 (by decide) (fun hc => ?_) (fun hc => ?_)
    · rw [if_pos hc] at h
      refine lv_iload_n hx hb dLo_lentUnder_39 rfl (lv_at hl 2 rfl) ?_
      cases h
      exact gw_iret hx hb hr hlocks hP hD hS dLo_lentUnder_40
    · rw [if_neg hc] at h
      refine lv_aload_n hx hb dLo_lentUnder_12 rfl (lv_at hl 0 rfl) ?_
      refine va_get (D := D) (ci := 4) (v := .ref (ad 28)) (C := RLo) (T := TLo) (N := 7) hx hb hG inLo hown hK hP 4 rfl rfl 3 (by decide) (hG _ mw_137) (fun _ h9 => h9) rfl dLo_lentUnder_13 ?_
      refine lv_iload_n hx hb dLo_lentUnder_16 rfl (lv_at hl 3 rfl) ?_
      obtain ⟨hg1, h⟩ := gI_some h
      refine va_iald (f := (u.2.1 22)) hx hb hK hP 28 0 rfl rfl hg1 dLo_lentUnder_17 ?_
      refine lv_iload_n hx hb dLo_lentUnder_18 rfl (lv_at hl 1 rfl) ?_
      refine lv_icmp_ne (tgt := 33) hx hb dLo_lentUnder_19 (by decide) (fun hc => ?_) (fun hc => ?_)
      · rw [if_neg hc] at h
        refine lv_iinc (v := (x3 + (1 : Int32))) (lv' := [(3, .int (x3 + (1 : Int32))), (0, .ref (ad 4)), (1, .int x1), (2, .int x2)]) hx hb dLo_lentUnder_33 hl (k := 3) rfl rfl (by decide) rfl (fun ls hl => ?_)
        refine lv_goto (tgt := 4) hx hb dLo_lentUnder_36 (by decide) ?_
        exact ih u x1 x2 (x3 + (1 : Int32)) _ h H locs ls hP hD hS (lv_sub hl [1, 2, 3, 0] rfl)
      · rw [if_pos hc] at h
        refine lv_aload_n hx hb dLo_lentUnder_22 rfl (lv_at hl 0 rfl) ?_
        refine lv_iload_n hx hb dLo_lentUnder_23 rfl (lv_at hl 3 rfl) ?_
        obtain ⟨q2, q2_h, h⟩ := gw_bind h
        refine gw_callV (As := [.int x3]) (rest := []) (u := u) (u' := u) hx hb hml hown hG (c_Lo_isLent l D ad cI cZ cJ u x3 _ q2_h) lk_Lo_41 rfl rfl ⟨Nat.le_of_ble_eq_true rfl, Nat.le_of_ble_eq_true rfl⟩ (va_recv hK hP (ci := 4) (q0 := 4) rfl rfl) hK hP hD hS hA rfl hl.1 rfl (Nat.le_of_ble_eq_true rfl) dLo_lentUnder_24 ⟨Nat.le_of_ble_eq_true rfl, Nat.le_of_ble_eq_true rfl⟩ (fun H locs hP hD hS => ?_)
        refine lv_if_eq (tgt := 33) hx hb dLo_lentUnder_27 (by decide) (fun hc => ?_) (fun hc => ?_)
        · rw [if_pos hc] at h
          refine lv_iinc (v := (x3 + (1 : Int32))) (lv' := [(3, .int (x3 + (1 : Int32))), (0, .ref (ad 4)), (1, .int x1), (2, .int x2)]) hx hb dLo_lentUnder_33 hl (k := 3) rfl rfl (by decide) rfl (fun ls hl => ?_)
          refine lv_goto (tgt := 4) hx hb dLo_lentUnder_36 (by decide) ?_
          exact ih u x1 x2 (x3 + (1 : Int32)) _ h H locs ls hP hD hS (lv_sub hl [1, 2, 3, 0] rfl)
        · rw [if_neg hc] at h
          refine lv_iinc (v := (x2 + (1 : Int32))) (lv' := [(2, .int (x2 + (1 : Int32))), (0, .ref (ad 4)), (1, .int x1), (3, .int x3)]) hx hb dLo_lentUnder_30 hl (k := 2) rfl rfl (by decide) rfl (fun ls hl => ?_)
          refine lv_iinc (v := (x3 + (1 : Int32))) (lv' := [(3, .int (x3 + (1 : Int32))), (2, .int (x2 + (1 : Int32))), (0, .ref (ad 4)), (1, .int x1)]) hx hb dLo_lentUnder_33 hl (k := 3) rfl rfl (by decide) rfl (fun ls hl => ?_)
          refine lv_goto (tgt := 4) hx hb dLo_lentUnder_36 (by decide) ?_
          exact ih u x1 (x2 + (1 : Int32)) (x3 + (1 : Int32)) _ h H locs ls hP hD hS (lv_sub hl [2, 3, 1, 0] rfl)
set_option maxHeartbeats 4000000 in
set_option maxRecDepth 100000 in
theorem c_Lo_lentUnder (l : Launch) (D : va_G) (ad : Nat → Nat) (cI cZ cJ : ClassId) (N : Nat) (u : StA) (a1 : Int32) (r : Int32) (h : f_Lo_lentUnder N u a1 = some r) : gw_Ct l D vwCl (tA cI cZ cJ) (wA ad cI cZ cJ) yLo_lentUnder (Cond.code yLo_lentUnder cLo_lentUnder 4 (some .int) :: gG) ({ frames := 1, cells := 0, slots := 0, locals := 21 } : Room) [.ref (ad 4), .int a1] u (some (.int r)) u := by
  refine gw_enter (by decide) (Nat.le_of_ble_eq_true rfl) ?_
  intro p e s m below meth c A hC hP hD hS ls hl
  obtain ⟨hx, hb, hr, hml, hG, hown, hlocks, hK, hA⟩ := id hC
  have hl : lv_has ls 4 [(0, .ref (ad 4)), (1, .int a1)] := hl
  obtain ⟨H, hH⟩ : ∃ H, H = s.heap := ⟨_, rfl⟩
  obtain ⟨locs, hlocs⟩ : ∃ x : List Loc, x = [] := ⟨_, rfl⟩
  rw [← hlocs] at hS ⊢
  have hP : va_P D vwCl (wA ad cI cZ cJ u) H := by rw [hH]; exact hP
  have hS : va_S A s.heap H locs := by rw [hH]; exact hS
  suffices g : W p l e ({ frames := 1, cells := 0, slots := 0, locals := 21 } : Room) s m [.ref (ad 4), .int a1].toArray below meth c H locs 0 0 (MQ below (gw_Q D vwCl (wA ad cI cZ cJ) A u (some (.int r))) [.ref (ad 4), .int a1].toArray s 0 0 A) (F0 m 0 ls []) by rw [hH] at g; exact g
  unfold f_Lo_lentUnder at h
  refine lv_iconst (v := (0 : Int32)) hx hb dLo_lentUnder_0 (by decide) ?_
  refine lv_istore_n (lv' := [(2, .int (0 : Int32)), (0, .ref (ad 4)), (1, .int a1)]) hx hb dLo_lentUnder_1 rfl hl (by decide) rfl (fun ls hl => ?_)
  refine lv_iconst (v := (0 : Int32)) hx hb dLo_lentUnder_2 (by decide) ?_
  refine lv_istore_n (lv' := [(3, .int (0 : Int32)), (2, .int (0 : Int32)), (0, .ref (ad 4)), (1, .int a1)]) hx hb dLo_lentUnder_3 rfl hl (by decide) rfl (fun ls hl => ?_)
  exact lp_Lo_lentUnder_4 hC N N u a1 (0 : Int32) (0 : Int32) _ h H locs ls hP hD hS (lv_sub hl [2, 3, 1, 0] rfl)
set_option maxHeartbeats 4000000 in
set_option maxRecDepth 100000 in
theorem c_Nu_placeOf (l : Launch) (D : va_G) (ad : Nat → Nat) (cI cZ cJ : ClassId) (u : StA) (a1 : Int32) (a2 : Int32) (r : Int32) (h : f_Nu_placeOf a1 a2 = r) : gw_Ct l D vwCl (tA cI cZ cJ) (wA ad cI cZ cJ) yNu_placeOf (Cond.code yNu_placeOf cNu_placeOf 2 (some .int) :: gG) ({ frames := 0, cells := 0, slots := 0, locals := 0 } : Room) [.int a1, .int a2] u (some (.int r)) u := by
  refine gw_enter (by decide) (Nat.le_of_ble_eq_true rfl) ?_
  intro p e s m below meth c A hC hP hD hS ls hl
  obtain ⟨hx, hb, hr, hml, hG, hown, hlocks, hK, hA⟩ := id hC
  have hl : lv_has ls 2 [(0, .int a1), (1, .int a2)] := hl
  obtain ⟨H, hH⟩ : ∃ H, H = s.heap := ⟨_, rfl⟩
  obtain ⟨locs, hlocs⟩ : ∃ x : List Loc, x = [] := ⟨_, rfl⟩
  rw [← hlocs] at hS ⊢
  have hP : va_P D vwCl (wA ad cI cZ cJ u) H := by rw [hH]; exact hP
  have hS : va_S A s.heap H locs := by rw [hH]; exact hS
  suffices g : W p l e ({ frames := 0, cells := 0, slots := 0, locals := 0 } : Room) s m [.int a1, .int a2].toArray below meth c H locs 0 0 (MQ below (gw_Q D vwCl (wA ad cI cZ cJ) A u (some (.int r))) [.int a1, .int a2].toArray s 0 0 A) (F0 m 0 ls []) by rw [hH] at g; exact g
  unfold f_Nu_placeOf at h
  refine lv_iload_n hx hb dNu_placeOf_0 rfl (lv_at hl 0 rfl) ?_
  refine lv_sipush (v := (1000 : Int32)) hx hb dNu_placeOf_1 (by decide) ?_
  refine lv_imul hx hb dNu_placeOf_4 ?_
  refine lv_iload_n hx hb dNu_placeOf_5 rfl (lv_at hl 1 rfl) ?_
  refine lv_iadd hx hb dNu_placeOf_6 ?_
  subst h
  exact gw_iret hx hb hr hlocks hP hD hS dNu_placeOf_7
set_option maxHeartbeats 4000000 in
set_option maxRecDepth 100000 in
theorem c_Nu_shiftOf (l : Launch) (D : va_G) (ad : Nat → Nat) (cI cZ cJ : ClassId) (u : StA) (a1 : Int32) (r : Int32) (h : f_Nu_shiftOf a1 = r) : gw_Ct l D vwCl (tA cI cZ cJ) (wA ad cI cZ cJ) yNu_shiftOf (Cond.code yNu_shiftOf cNu_shiftOf 1 (some .int) :: gG) ({ frames := 0, cells := 0, slots := 0, locals := 0 } : Room) [.int a1] u (some (.int r)) u := by
  refine gw_enter (by decide) (Nat.le_of_ble_eq_true rfl) ?_
  intro p e s m below meth c A hC hP hD hS ls hl
  obtain ⟨hx, hb, hr, hml, hG, hown, hlocks, hK, hA⟩ := id hC
  have hl : lv_has ls 1 [(0, .int a1)] := hl
  obtain ⟨H, hH⟩ : ∃ H, H = s.heap := ⟨_, rfl⟩
  obtain ⟨locs, hlocs⟩ : ∃ x : List Loc, x = [] := ⟨_, rfl⟩
  rw [← hlocs] at hS ⊢
  have hP : va_P D vwCl (wA ad cI cZ cJ u) H := by rw [hH]; exact hP
  have hS : va_S A s.heap H locs := by rw [hH]; exact hS
  suffices g : W p l e ({ frames := 0, cells := 0, slots := 0, locals := 0 } : Room) s m [.int a1].toArray below meth c H locs 0 0 (MQ below (gw_Q D vwCl (wA ad cI cZ cJ) A u (some (.int r))) [.int a1].toArray s 0 0 A) (F0 m 0 ls []) by rw [hH] at g; exact g
  unfold f_Nu_shiftOf at h
  refine lv_iload_n hx hb dNu_shiftOf_0 rfl (lv_at hl 0 rfl) ?_
  refine lv_bipush (v := (16 : Int32)) hx hb dNu_shiftOf_1 (by decide) ?_
  refine lv_irem hx hb dNu_shiftOf_3 (by decide) ?_
  refine lv_iconst (v := (4 : Int32)) hx hb dNu_shiftOf_4 (by decide) ?_
  refine lv_imul hx hb dNu_shiftOf_5 ?_
  subst h
  exact gw_iret hx hb hr hlocks hP hD hS dNu_shiftOf_6
set_option maxHeartbeats 4000000 in
set_option maxRecDepth 100000 in
theorem c_JI_bitCount (l : Launch) (D : va_G) (ad : Nat → Nat) (cI cZ cJ : ClassId) (u : StA) (a1 : Int32) (r : Int32) (h : f_JI_bitCount a1 = r) : gw_Ct l D vwCl (tA cI cZ cJ) (wA ad cI cZ cJ) yJI_bitCount (Cond.code yJI_bitCount cJI_bitCount 1 (some .int) :: gG) ({ frames := 0, cells := 0, slots := 0, locals := 0 } : Room) [.int a1] u (some (.int r)) u := by
  refine gw_enter (by decide) (Nat.le_of_ble_eq_true rfl) ?_
  intro p e s m below meth c A hC hP hD hS ls hl
  obtain ⟨hx, hb, hr, hml, hG, hown, hlocks, hK, hA⟩ := id hC
  have hl : lv_has ls 1 [(0, .int a1)] := hl
  obtain ⟨H, hH⟩ : ∃ H, H = s.heap := ⟨_, rfl⟩
  obtain ⟨locs, hlocs⟩ : ∃ x : List Loc, x = [] := ⟨_, rfl⟩
  rw [← hlocs] at hS ⊢
  have hP : va_P D vwCl (wA ad cI cZ cJ u) H := by rw [hH]; exact hP
  have hS : va_S A s.heap H locs := by rw [hH]; exact hS
  suffices g : W p l e ({ frames := 0, cells := 0, slots := 0, locals := 0 } : Room) s m [.int a1].toArray below meth c H locs 0 0 (MQ below (gw_Q D vwCl (wA ad cI cZ cJ) A u (some (.int r))) [.int a1].toArray s 0 0 A) (F0 m 0 ls []) by rw [hH] at g; exact g
  unfold f_JI_bitCount at h
  refine lv_iload_n hx hb dJI_bitCount_0 rfl (lv_at hl 0 rfl) ?_
  refine lv_iload_n hx hb dJI_bitCount_1 rfl (lv_at hl 0 rfl) ?_
  refine lv_iconst (v := (1 : Int32)) hx hb dJI_bitCount_2 (by decide) ?_
  refine lv_iushr (v := ((a1).toUInt32 >>> (((1 : Int32)).toUInt32 &&& Int32.toUInt32 31)).toInt32) hx hb dJI_bitCount_3 rfl ?_
  refine lv_ldcw (v := (1431655765 : Int32)) hx hb hown (hG _ mw_581) dJI_bitCount_4 ?_
  refine lv_iand hx hb dJI_bitCount_7 ?_
  refine lv_isub hx hb dJI_bitCount_8 ?_
  refine lv_istore_n (lv' := [(0, .int (jb1 a1))]) hx hb dJI_bitCount_9 rfl hl (by decide) rfl (fun ls hl => ?_)
  refine lv_iload_n hx hb dJI_bitCount_10 rfl (lv_at hl 0 rfl) ?_
  refine lv_ldcw (v := (858993459 : Int32)) hx hb hown (hG _ mw_582) dJI_bitCount_11 ?_
  refine lv_iand hx hb dJI_bitCount_14 ?_
  refine lv_iload_n hx hb dJI_bitCount_15 rfl (lv_at hl 0 rfl) ?_
  refine lv_iconst (v := (2 : Int32)) hx hb dJI_bitCount_16 (by decide) ?_
  refine lv_iushr (v := (((jb1 a1)).toUInt32 >>> (((2 : Int32)).toUInt32 &&& Int32.toUInt32 31)).toInt32) hx hb dJI_bitCount_17 rfl ?_
  refine lv_ldcw (v := (858993459 : Int32)) hx hb hown (hG _ mw_582) dJI_bitCount_18 ?_
  refine lv_iand hx hb dJI_bitCount_21 ?_
  refine lv_iadd hx hb dJI_bitCount_22 ?_
  refine lv_istore_n (lv' := [(0, .int (jb2 (jb1 a1)))]) hx hb dJI_bitCount_23 rfl hl (by decide) rfl (fun ls hl => ?_)
  refine lv_iload_n hx hb dJI_bitCount_24 rfl (lv_at hl 0 rfl) ?_
  refine lv_iload_n hx hb dJI_bitCount_25 rfl (lv_at hl 0 rfl) ?_
  refine lv_iconst (v := (4 : Int32)) hx hb dJI_bitCount_26 (by decide) ?_
  refine lv_iushr (v := (((jb2 (jb1 a1))).toUInt32 >>> (((4 : Int32)).toUInt32 &&& Int32.toUInt32 31)).toInt32) hx hb dJI_bitCount_27 rfl ?_
  refine lv_iadd hx hb dJI_bitCount_28 ?_
  refine lv_ldcw (v := (252645135 : Int32)) hx hb hown (hG _ mw_583) dJI_bitCount_29 ?_
  refine lv_iand hx hb dJI_bitCount_32 ?_
  refine lv_istore_n (lv' := [(0, .int (jb3 (jb2 (jb1 a1))))]) hx hb dJI_bitCount_33 rfl hl (by decide) rfl (fun ls hl => ?_)
  refine lv_iload_n hx hb dJI_bitCount_34 rfl (lv_at hl 0 rfl) ?_
  refine lv_iload_n hx hb dJI_bitCount_35 rfl (lv_at hl 0 rfl) ?_
  refine lv_bipush (v := (8 : Int32)) hx hb dJI_bitCount_36 (by decide) ?_
  refine lv_iushr (v := (((jb3 (jb2 (jb1 a1)))).toUInt32 >>> (((8 : Int32)).toUInt32 &&& Int32.toUInt32 31)).toInt32) hx hb dJI_bitCount_38 rfl ?_
  refine lv_iadd hx hb dJI_bitCount_39 ?_
  refine lv_istore_n (lv' := [(0, .int (jb4 (jb3 (jb2 (jb1 a1)))))]) hx hb dJI_bitCount_40 rfl hl (by decide) rfl (fun ls hl => ?_)
  refine lv_iload_n hx hb dJI_bitCount_41 rfl (lv_at hl 0 rfl) ?_
  refine lv_iload_n hx hb dJI_bitCount_42 rfl (lv_at hl 0 rfl) ?_
  refine lv_bipush (v := (16 : Int32)) hx hb dJI_bitCount_43 (by decide) ?_
  refine lv_iushr (v := (((jb4 (jb3 (jb2 (jb1 a1))))).toUInt32 >>> (((16 : Int32)).toUInt32 &&& Int32.toUInt32 31)).toInt32) hx hb dJI_bitCount_45 rfl ?_
  refine lv_iadd hx hb dJI_bitCount_46 ?_
  refine lv_istore_n (lv' := [(0, .int (jb5 (jb4 (jb3 (jb2 (jb1 a1))))))]) hx hb dJI_bitCount_47 rfl hl (by decide) rfl (fun ls hl => ?_)
  refine lv_iload_n hx hb dJI_bitCount_48 rfl (lv_at hl 0 rfl) ?_
  refine lv_bipush (v := (63 : Int32)) hx hb dJI_bitCount_49 (by decide) ?_
  refine lv_iand hx hb dJI_bitCount_51 ?_
  subst h
  exact gw_iret hx hb hr hlocks hP hD hS dJI_bitCount_52
set_option maxHeartbeats 4000000 in
set_option maxRecDepth 100000 in
theorem lp_A_nextEvent_47 {p : Program} {l : Launch} {e : Env} {s : State} {m : MethodId} {args : Array Value} {below : List Frame} {meth : Method} {c : Code} {A : Nat → Prop} {D : va_G} {ad : Nat → Nat} {cI cZ cJ : ClassId} (hC : gw_C p s m args meth c "AidRows" cA_nextEvent 4 (some .int) gG D vwCl (tA cI cZ cJ) A) (N : Nat) : ∀ (n : Nat) (u : StA) (x1 : Int32) (x2 : Int32) (x3 : Int32) (r : Int32), f_A_nextEvent_47 N n u x1 x2 x3 = some r → ∀ (H : Heap) (locs : List Loc) (ls : Array Slot), va_P D vwCl (wA ad cI cZ cJ u) H → va_D A (wA ad cI cZ cJ u) → va_S A s.heap H locs → lv_has ls 4 [(0, .ref (ad 0)), (1, .int x1), (2, .int x2), (3, .int x3)] → W p l e ({ frames := 1, cells := 0, slots := 0, locals := 21 } : Room) s m args below meth c H locs 0 0 (MQ below (gw_Q D vwCl (wA ad cI cZ cJ) A u (some (.int r))) args s 0 0 A) (F0 m 47 ls []) := by
  obtain ⟨hx, hb, hr, hml, hG, hown, hlocks, hK, hA⟩ := id hC
  intro n
  induction n with
  | zero => intro u x1 x2 x3 r h; cases h
  | succ n ih =>
    intro u x1 x2 x3 r h H locs ls hP hD hS hl
    rw [f_A_nextEvent_47] at h
    refine lv_iload_n hx hb dA_nextEvent_47 rfl (lv_at hl 3 rfl) ?_
    refine lv_aload_n hx hb dA_nextEvent_48 rfl (lv_at hl 0 rfl) ?_
    refine va_get (D := D) (ci := 0) (v := .ref (ad 4)) (C := RA) (T := TA) (N := 9) hx hb hG inA hown hK hP 0 rfl rfl 3 (by decide) (hG _ mw_177) (fun _ h9 => h9) rfl dA_nextEvent_49 ?_
    refine va_get (D := D) (ci := 4) (v := .int (u.1 6)) (C := RLo) (T := TLo) (N := 7) hx hb hG inLo hown hK hP 4 rfl rfl 6 (by decide) (hG _ mw_144) (fun _ h9 => h9) rfl dA_nextEvent_52 ?_
    refine lv_icmp_ge (tgt := 97) hx hb dA_nextEvent_55 (by decide) (fun hc => ?_) (fun hc => ?_)
    · rw [if_pos hc] at h
      refine lv_iload_n hx hb dA_nextEvent_97 rfl (lv_at hl 2 rfl) ?_
      cases h
      exact gw_iret hx hb hr hlocks hP hD hS dA_nextEvent_98
    · rw [if_neg hc] at h
      refine lv_aload_n hx hb dA_nextEvent_58 rfl (lv_at hl 0 rfl) ?_
      refine va_get (D := D) (ci := 0) (v := .ref (ad 4)) (C := RA) (T := TA) (N := 9) hx hb hG inA hown hK hP 0 rfl rfl 3 (by decide) (hG _ mw_177) (fun _ h9 => h9) rfl dA_nextEvent_59 ?_
      refine lv_iload_n hx hb dA_nextEvent_62 rfl (lv_at hl 3 rfl) ?_
      obtain ⟨q3, q3_h, h⟩ := gw_bind h
      refine gw_callV (As := [.int x3]) (rest := []) (u := u) (u' := u) hx hb hml hown hG (c_Lo_isLent l D ad cI cZ cJ u x3 _ q3_h) lk_A_189 rfl rfl ⟨Nat.le_of_ble_eq_true rfl, Nat.le_of_ble_eq_true rfl⟩ (va_recv hK hP (ci := 4) (q0 := 4) rfl rfl) hK hP hD hS hA rfl hl.1 rfl (Nat.le_of_ble_eq_true rfl) dA_nextEvent_63 ⟨Nat.le_of_ble_eq_true rfl, Nat.le_of_ble_eq_true rfl⟩ (fun H locs hP hD hS => ?_)
      refine lv_if_eq (tgt := 91) hx hb dA_nextEvent_66 (by decide) (fun hc => ?_) (fun hc => ?_)
      · rw [if_pos hc] at h
        refine lv_iinc (v := (x3 + (1 : Int32))) (lv' := [(3, .int (x3 + (1 : Int32))), (0, .ref (ad 0)), (1, .int x1), (2, .int x2)]) hx hb dA_nextEvent_91 hl (k := 3) rfl rfl (by decide) rfl (fun ls hl => ?_)
        refine lv_goto (tgt := 47) hx hb dA_nextEvent_94 (by decide) ?_
        exact ih u x1 x2 (x3 + (1 : Int32)) _ h H locs ls hP hD hS (lv_sub hl [1, 2, 3, 0] rfl)
      · rw [if_neg hc] at h
        refine lv_iload_n hx hb dA_nextEvent_69 rfl (lv_at hl 2 rfl) ?_
        refine lv_aload_n hx hb dA_nextEvent_70 rfl (lv_at hl 0 rfl) ?_
        refine va_get (D := D) (ci := 0) (v := .ref (ad 2)) (C := RA) (T := TA) (N := 9) hx hb hG inA hown hK hP 0 rfl rfl 1 (by decide) (hG _ mw_175) (fun _ h9 => h9) rfl dA_nextEvent_71 ?_
        refine va_get (D := D) (ci := 2) (v := .ref (ad 13)) (C := RAg) (T := TAg) (N := 7) hx hb hG inAg hown hK hP 2 rfl rfl 3 (by decide) (hG _ mw_61) (fun _ h9 => h9) rfl dA_nextEvent_74 ?_
        refine lv_aload_n hx hb dA_nextEvent_77 rfl (lv_at hl 0 rfl) ?_
        refine va_get (D := D) (ci := 0) (v := .ref (ad 4)) (C := RA) (T := TA) (N := 9) hx hb hG inA hown hK hP 0 rfl rfl 3 (by decide) (hG _ mw_177) (fun _ h9 => h9) rfl dA_nextEvent_78 ?_
        refine va_get (D := D) (ci := 4) (v := .ref (ad 28)) (C := RLo) (T := TLo) (N := 7) hx hb hG inLo hown hK hP 4 rfl rfl 3 (by decide) (hG _ mw_138) (fun _ h9 => h9) rfl dA_nextEvent_81 ?_
        refine lv_iload_n hx hb dA_nextEvent_84 rfl (lv_at hl 3 rfl) ?_
        obtain ⟨hg4, h⟩ := gI_some h
        refine va_iald (f := (u.2.1 22)) hx hb hK hP 28 0 rfl rfl hg4 dA_nextEvent_85 ?_
        obtain ⟨hg5, h⟩ := gI_some h
        refine va_iald (f := (u.2.1 7)) hx hb hK hP 13 0 rfl rfl hg5 dA_nextEvent_86 ?_
        refine va_mmin hx hb (hml.trans hl.1.symm) hown (hG _ mw_481) (hG _ mw_482) (hG _ mw_16) (hG _ mw_483) (Nat.le_of_ble_eq_true rfl) (Nat.le_of_ble_eq_true rfl) (Nat.le_of_ble_eq_true rfl) (Nat.le_of_ble_eq_true rfl) dA_nextEvent_87 ?_
        refine W.eq (g2 := F0 m 90 ls (.int (f_JM_min x2 (u.2.1 7 ((u.2.1 22 (x3).toNatClampNeg)).toNatClampNeg)) :: [])) rfl ?_
        refine lv_istore_n (lv' := [(2, .int (f_JM_min x2 (u.2.1 7 ((u.2.1 22 (x3).toNatClampNeg)).toNatClampNeg))), (0, .ref (ad 0)), (1, .int x1), (3, .int x3)]) hx hb dA_nextEvent_90 rfl hl (by decide) rfl (fun ls hl => ?_)
        refine lv_iinc (v := (x3 + (1 : Int32))) (lv' := [(3, .int (x3 + (1 : Int32))), (2, .int (f_JM_min x2 (u.2.1 7 ((u.2.1 22 (x3).toNatClampNeg)).toNatClampNeg))), (0, .ref (ad 0)), (1, .int x1)]) hx hb dA_nextEvent_91 hl (k := 3) rfl rfl (by decide) rfl (fun ls hl => ?_)
        refine lv_goto (tgt := 47) hx hb dA_nextEvent_94 (by decide) ?_
        exact ih u x1 (f_JM_min x2 (u.2.1 7 ((u.2.1 22 (x3).toNatClampNeg)).toNatClampNeg)) (x3 + (1 : Int32)) _ h H locs ls hP hD hS (lv_sub hl [2, 3, 1, 0] rfl)
set_option maxHeartbeats 4000000 in
set_option maxRecDepth 100000 in
theorem lp_A_nextEvent_4 {p : Program} {l : Launch} {e : Env} {s : State} {m : MethodId} {args : Array Value} {below : List Frame} {meth : Method} {c : Code} {A : Nat → Prop} {D : va_G} {ad : Nat → Nat} {cI cZ cJ : ClassId} (hC : gw_C p s m args meth c "AidRows" cA_nextEvent 4 (some .int) gG D vwCl (tA cI cZ cJ) A) (N : Nat) : ∀ (n : Nat) (u : StA) (x1 : Int32) (x2 : Int32) (x3 : Int32) (r : Int32), f_A_nextEvent_4 N n u x1 x2 x3 = some r → ∀ (H : Heap) (locs : List Loc) (ls : Array Slot), va_P D vwCl (wA ad cI cZ cJ u) H → va_D A (wA ad cI cZ cJ u) → va_S A s.heap H locs → lv_has ls 4 [(0, .ref (ad 0)), (1, .int x1), (2, .int x2), (3, .int x3)] → W p l e ({ frames := 1, cells := 0, slots := 0, locals := 21 } : Room) s m args below meth c H locs 0 0 (MQ below (gw_Q D vwCl (wA ad cI cZ cJ) A u (some (.int r))) args s 0 0 A) (F0 m 4 ls []) := by
  obtain ⟨hx, hb, hr, hml, hG, hown, hlocks, hK, hA⟩ := id hC
  intro n
  induction n with
  | zero => intro u x1 x2 x3 r h; cases h
  | succ n ih =>
    intro u x1 x2 x3 r h H locs ls hP hD hS hl
    rw [f_A_nextEvent_4] at h
    refine lv_iload_n hx hb dA_nextEvent_4 rfl (lv_at hl 3 rfl) ?_
    refine lv_aload_n hx hb dA_nextEvent_5 rfl (lv_at hl 0 rfl) ?_
    refine va_get (D := D) (ci := 0) (v := .ref (ad 3)) (C := RA) (T := TA) (N := 9) hx hb hG inA hown hK hP 0 rfl rfl 2 (by decide) (hG _ mw_176) (fun _ h9 => h9) rfl dA_nextEvent_6 ?_
    refine va_get (D := D) (ci := 3) (v := .int (u.1 5)) (C := RAs) (T := TAs) (N := 10) hx hb hG inAs hown hK hP 3 rfl rfl 9 (by decide) (hG _ mw_103) (fun _ h9 => h9) rfl dA_nextEvent_9 ?_
    refine lv_icmp_ge (tgt := 45) hx hb dA_nextEvent_12 (by decide) (fun hc => ?_) (fun hc => ?_)
    · rw [if_pos hc] at h
      refine lv_iconst (v := (0 : Int32)) hx hb dA_nextEvent_45 (by decide) ?_
      refine lv_istore_n (lv' := [(3, .int (0 : Int32)), (0, .ref (ad 0)), (1, .int x1), (2, .int x2)]) hx hb dA_nextEvent_46 rfl hl (by decide) rfl (fun ls hl => ?_)
      exact lp_A_nextEvent_47 hC N N u x1 x2 (0 : Int32) _ h H locs ls hP hD hS (lv_sub hl [1, 2, 3, 0] rfl)
    · rw [if_neg hc] at h
      refine lv_aload_n hx hb dA_nextEvent_15 rfl (lv_at hl 0 rfl) ?_
      refine va_get (D := D) (ci := 0) (v := .ref (ad 3)) (C := RA) (T := TA) (N := 9) hx hb hG inA hown hK hP 0 rfl rfl 2 (by decide) (hG _ mw_176) (fun _ h9 => h9) rfl dA_nextEvent_16 ?_
      refine lv_iload_n hx hb dA_nextEvent_19 rfl (lv_at hl 3 rfl) ?_
      obtain ⟨q1, q1_h, h⟩ := gw_bind h
      refine gw_callV (As := [.int x3]) (rest := []) (u := u) (u' := u) hx hb hml hown hG (c_As_isOpen l D ad cI cZ cJ u x3 _ q1_h) lk_A_307 rfl rfl ⟨Nat.le_of_ble_eq_true rfl, Nat.le_of_ble_eq_true rfl⟩ (va_recv hK hP (ci := 3) (q0 := 3) rfl rfl) hK hP hD hS hA rfl hl.1 rfl (Nat.le_of_ble_eq_true rfl) dA_nextEvent_20 ⟨Nat.le_of_ble_eq_true rfl, Nat.le_of_ble_eq_true rfl⟩ (fun H locs hP hD hS => ?_)
      refine lv_if_eq (tgt := 39) hx hb dA_nextEvent_23 (by decide) (fun hc => ?_) (fun hc => ?_)
      · rw [if_pos hc] at h
        refine lv_iinc (v := (x3 + (1 : Int32))) (lv' := [(3, .int (x3 + (1 : Int32))), (0, .ref (ad 0)), (1, .int x1), (2, .int x2)]) hx hb dA_nextEvent_39 hl (k := 3) rfl rfl (by decide) rfl (fun ls hl => ?_)
        refine lv_goto (tgt := 4) hx hb dA_nextEvent_42 (by decide) ?_
        exact ih u x1 x2 (x3 + (1 : Int32)) _ h H locs ls hP hD hS (lv_sub hl [1, 2, 3, 0] rfl)
      · rw [if_neg hc] at h
        refine lv_iload_n hx hb dA_nextEvent_26 rfl (lv_at hl 2 rfl) ?_
        refine lv_aload_n hx hb dA_nextEvent_27 rfl (lv_at hl 0 rfl) ?_
        refine va_get (D := D) (ci := 0) (v := .ref (ad 3)) (C := RA) (T := TA) (N := 9) hx hb hG inA hown hK hP 0 rfl rfl 2 (by decide) (hG _ mw_176) (fun _ h9 => h9) rfl dA_nextEvent_28 ?_
        refine lv_iload_n hx hb dA_nextEvent_31 rfl (lv_at hl 3 rfl) ?_
        obtain ⟨q2, q2_h, h⟩ := gw_bind h
        refine gw_callV (As := [.int x3]) (rest := [.int x2]) (u := u) (u' := u) hx hb hml hown hG (c_As_patienceEnd l D ad cI cZ cJ u x3 _ q2_h) lk_A_310 rfl rfl ⟨Nat.le_of_ble_eq_true rfl, Nat.le_of_ble_eq_true rfl⟩ (va_recv hK hP (ci := 3) (q0 := 3) rfl rfl) hK hP hD hS hA rfl hl.1 rfl (Nat.le_of_ble_eq_true rfl) dA_nextEvent_32 ⟨Nat.le_of_ble_eq_true rfl, Nat.le_of_ble_eq_true rfl⟩ (fun H locs hP hD hS => ?_)
        refine va_mmin hx hb (hml.trans hl.1.symm) hown (hG _ mw_481) (hG _ mw_482) (hG _ mw_16) (hG _ mw_483) (Nat.le_of_ble_eq_true rfl) (Nat.le_of_ble_eq_true rfl) (Nat.le_of_ble_eq_true rfl) (Nat.le_of_ble_eq_true rfl) dA_nextEvent_35 ?_
        refine W.eq (g2 := F0 m 38 ls (.int (f_JM_min x2 q2) :: [])) rfl ?_
        refine lv_istore_n (lv' := [(2, .int (f_JM_min x2 q2)), (0, .ref (ad 0)), (1, .int x1), (3, .int x3)]) hx hb dA_nextEvent_38 rfl hl (by decide) rfl (fun ls hl => ?_)
        refine lv_iinc (v := (x3 + (1 : Int32))) (lv' := [(3, .int (x3 + (1 : Int32))), (2, .int (f_JM_min x2 q2)), (0, .ref (ad 0)), (1, .int x1)]) hx hb dA_nextEvent_39 hl (k := 3) rfl rfl (by decide) rfl (fun ls hl => ?_)
        refine lv_goto (tgt := 4) hx hb dA_nextEvent_42 (by decide) ?_
        exact ih u x1 (f_JM_min x2 q2) (x3 + (1 : Int32)) _ h H locs ls hP hD hS (lv_sub hl [2, 3, 1, 0] rfl)
set_option maxHeartbeats 4000000 in
set_option maxRecDepth 100000 in
theorem c_A_nextEvent (l : Launch) (D : va_G) (ad : Nat → Nat) (cI cZ cJ : ClassId) (N : Nat) (u : StA) (a1 : Int32) (r : Int32) (h : f_A_nextEvent N u a1 = some r) : gw_Ct l D vwCl (tA cI cZ cJ) (wA ad cI cZ cJ) yA_nextEvent (Cond.code yA_nextEvent cA_nextEvent 4 (some .int) :: gG) ({ frames := 1, cells := 0, slots := 0, locals := 21 } : Room) [.ref (ad 0), .int a1] u (some (.int r)) u := by
  refine gw_enter (by decide) (Nat.le_of_ble_eq_true rfl) ?_
  intro p e s m below meth c A hC hP hD hS ls hl
  obtain ⟨hx, hb, hr, hml, hG, hown, hlocks, hK, hA⟩ := id hC
  have hl : lv_has ls 4 [(0, .ref (ad 0)), (1, .int a1)] := hl
  obtain ⟨H, hH⟩ : ∃ H, H = s.heap := ⟨_, rfl⟩
  obtain ⟨locs, hlocs⟩ : ∃ x : List Loc, x = [] := ⟨_, rfl⟩
  rw [← hlocs] at hS ⊢
  have hP : va_P D vwCl (wA ad cI cZ cJ u) H := by rw [hH]; exact hP
  have hS : va_S A s.heap H locs := by rw [hH]; exact hS
  suffices g : W p l e ({ frames := 1, cells := 0, slots := 0, locals := 21 } : Room) s m [.ref (ad 0), .int a1].toArray below meth c H locs 0 0 (MQ below (gw_Q D vwCl (wA ad cI cZ cJ) A u (some (.int r))) [.ref (ad 0), .int a1].toArray s 0 0 A) (F0 m 0 ls []) by rw [hH] at g; exact g
  unfold f_A_nextEvent at h
  refine lv_iload_n hx hb dA_nextEvent_0 rfl (lv_at hl 1 rfl) ?_
  refine lv_istore_n (lv' := [(2, .int a1), (0, .ref (ad 0)), (1, .int a1)]) hx hb dA_nextEvent_1 rfl hl (by decide) rfl (fun ls hl => ?_)
  refine lv_iconst (v := (0 : Int32)) hx hb dA_nextEvent_2 (by decide) ?_
  refine lv_istore_n (lv' := [(3, .int (0 : Int32)), (2, .int a1), (0, .ref (ad 0)), (1, .int a1)]) hx hb dA_nextEvent_3 rfl hl (by decide) rfl (fun ls hl => ?_)
  exact lp_A_nextEvent_4 hC N N u a1 a1 (0 : Int32) _ h H locs ls hP hD hS (lv_sub hl [2, 3, 1, 0] rfl)
set_option maxHeartbeats 4000000 in
set_option maxRecDepth 100000 in
theorem lp_A_endLoansWithAgreements_2 {p : Program} {l : Launch} {e : Env} {s : State} {m : MethodId} {args : Array Value} {below : List Frame} {meth : Method} {c : Code} {A : Nat → Prop} {D : va_G} {ad : Nat → Nat} {cI cZ cJ : ClassId} (hC : gw_C p s m args meth c "AidRows" cA_endLoansWithAgreements 2 none gG D vwCl (tA cI cZ cJ) A) (N : Nat) : ∀ (n : Nat) (u : StA) (x1 : Int32) (w : StA), f_A_endLoansWithAgreements_2 N n u x1 = some w → ∀ (H : Heap) (locs : List Loc) (ls : Array Slot), va_P D vwCl (wA ad cI cZ cJ u) H → va_D A (wA ad cI cZ cJ u) → va_S A s.heap H locs → lv_has ls 2 [(0, .ref (ad 0)), (1, .int x1)] → W p l e ({ frames := 1, cells := 0, slots := 0, locals := 21 } : Room) s m args below meth c H locs 0 0 (MQ below (gw_Q D vwCl (wA ad cI cZ cJ) A w (none)) args s 0 0 A) (F0 m 2 ls []) := by
  obtain ⟨hx, hb, hr, hml, hG, hown, hlocks, hK, hA⟩ := id hC
  intro n
  induction n with
  | zero => intro u x1 w h; cases h
  | succ n ih =>
    intro u x1 w h H locs ls hP hD hS hl
    rw [f_A_endLoansWithAgreements_2] at h
    refine lv_iload_n hx hb dA_endLoansWithAgreements_2 rfl (lv_at hl 1 rfl) ?_
    refine lv_aload_n hx hb dA_endLoansWithAgreements_3 rfl (lv_at hl 0 rfl) ?_
    refine va_get (D := D) (ci := 0) (v := .ref (ad 4)) (C := RA) (T := TA) (N := 9) hx hb hG inA hown hK hP 0 rfl rfl 3 (by decide) (hG _ mw_177) (fun _ h9 => h9) rfl dA_endLoansWithAgreements_4 ?_
    refine va_get (D := D) (ci := 4) (v := .int (u.1 6)) (C := RLo) (T := TLo) (N := 7) hx hb hG inLo hown hK hP 4 rfl rfl 6 (by decide) (hG _ mw_144) (fun _ h9 => h9) rfl dA_endLoansWithAgreements_7 ?_
    refine lv_icmp_ge (tgt := 67) hx hb dA_endLoansWithAgreements_10 (by decide) (fun hc => ?_) (fun hc => ?_)
    · rw [if_pos hc] at h
      cases h
      exact gw_vret hx hb hr hlocks hP hD hS dA_endLoansWithAgreements_67
    · rw [if_neg hc] at h
      refine lv_aload_n hx hb dA_endLoansWithAgreements_13 rfl (lv_at hl 0 rfl) ?_
      refine va_get (D := D) (ci := 0) (v := .ref (ad 4)) (C := RA) (T := TA) (N := 9) hx hb hG inA hown hK hP 0 rfl rfl 3 (by decide) (hG _ mw_177) (fun _ h9 => h9) rfl dA_endLoansWithAgreements_14 ?_
      refine lv_iload_n hx hb dA_endLoansWithAgreements_17 rfl (lv_at hl 1 rfl) ?_
      obtain ⟨q1, q1_h, h⟩ := gw_bind h
      refine gw_callV (As := [.int x1]) (rest := []) (u := u) (u' := u) hx hb hml hown hG (c_Lo_isLent l D ad cI cZ cJ u x1 _ q1_h) lk_A_189 rfl rfl ⟨Nat.le_of_ble_eq_true rfl, Nat.le_of_ble_eq_true rfl⟩ (va_recv hK hP (ci := 4) (q0 := 4) rfl rfl) hK hP hD hS hA rfl hl.1 rfl (Nat.le_of_ble_eq_true rfl) dA_endLoansWithAgreements_18 ⟨Nat.le_of_ble_eq_true rfl, Nat.le_of_ble_eq_true rfl⟩ (fun H locs hP hD hS => ?_)
      refine lv_if_eq (tgt := 61) hx hb dA_endLoansWithAgreements_21 (by decide) (fun hc => ?_) (fun hc => ?_)
      · rw [if_pos hc] at h
        refine lv_iinc (v := (x1 + (1 : Int32))) (lv' := [(1, .int (x1 + (1 : Int32))), (0, .ref (ad 0))]) hx hb dA_endLoansWithAgreements_61 hl (k := 1) rfl rfl (by decide) rfl (fun ls hl => ?_)
        refine lv_goto (tgt := 2) hx hb dA_endLoansWithAgreements_64 (by decide) ?_
        exact ih u (x1 + (1 : Int32)) _ h H locs ls hP hD hS (lv_sub hl [1, 0] rfl)
      · rw [if_neg hc] at h
        refine lv_aload_n hx hb dA_endLoansWithAgreements_24 rfl (lv_at hl 0 rfl) ?_
        refine va_get (D := D) (ci := 0) (v := .ref (ad 2)) (C := RA) (T := TA) (N := 9) hx hb hG inA hown hK hP 0 rfl rfl 1 (by decide) (hG _ mw_175) (fun _ h9 => h9) rfl dA_endLoansWithAgreements_25 ?_
        refine va_get (D := D) (ci := 2) (v := .ref (ad 13)) (C := RAg) (T := TAg) (N := 7) hx hb hG inAg hown hK hP 2 rfl rfl 3 (by decide) (hG _ mw_61) (fun _ h9 => h9) rfl dA_endLoansWithAgreements_28 ?_
        refine lv_aload_n hx hb dA_endLoansWithAgreements_31 rfl (lv_at hl 0 rfl) ?_
        refine va_get (D := D) (ci := 0) (v := .ref (ad 4)) (C := RA) (T := TA) (N := 9) hx hb hG inA hown hK hP 0 rfl rfl 3 (by decide) (hG _ mw_177) (fun _ h9 => h9) rfl dA_endLoansWithAgreements_32 ?_
        refine va_get (D := D) (ci := 4) (v := .ref (ad 28)) (C := RLo) (T := TLo) (N := 7) hx hb hG inLo hown hK hP 4 rfl rfl 3 (by decide) (hG _ mw_138) (fun _ h9 => h9) rfl dA_endLoansWithAgreements_35 ?_
        refine lv_iload_n hx hb dA_endLoansWithAgreements_38 rfl (lv_at hl 1 rfl) ?_
        obtain ⟨hg2, h⟩ := gI_some h
        refine va_iald (f := (u.2.1 22)) hx hb hK hP 28 0 rfl rfl hg2 dA_endLoansWithAgreements_39 ?_
        obtain ⟨hg3, h⟩ := gI_some h
        refine va_iald (f := (u.2.1 7)) hx hb hK hP 13 0 rfl rfl hg3 dA_endLoansWithAgreements_40 ?_
        refine lv_aload_n hx hb dA_endLoansWithAgreements_41 rfl (lv_at hl 0 rfl) ?_
        refine va_get (D := D) (ci := 0) (v := .int (u.1 0)) (C := RA) (T := TA) (N := 9) hx hb hG inA hown hK hP 0 rfl rfl 6 (by decide) (hG _ mw_180) (fun _ h9 => h9) rfl dA_endLoansWithAgreements_42 ?_
        refine lv_icmp_gt (tgt := 61) hx hb dA_endLoansWithAgreements_45 (by decide) (fun hc => ?_) (fun hc => ?_)
        · rw [if_pos hc] at h
          refine lv_iinc (v := (x1 + (1 : Int32))) (lv' := [(1, .int (x1 + (1 : Int32))), (0, .ref (ad 0))]) hx hb dA_endLoansWithAgreements_61 hl (k := 1) rfl rfl (by decide) rfl (fun ls hl => ?_)
          refine lv_goto (tgt := 2) hx hb dA_endLoansWithAgreements_64 (by decide) ?_
          exact ih u (x1 + (1 : Int32)) _ h H locs ls hP hD hS (lv_sub hl [1, 0] rfl)
        · rw [if_neg hc] at h
          refine lv_aload_n hx hb dA_endLoansWithAgreements_48 rfl (lv_at hl 0 rfl) ?_
          refine va_get (D := D) (ci := 0) (v := .ref (ad 4)) (C := RA) (T := TA) (N := 9) hx hb hG inA hown hK hP 0 rfl rfl 3 (by decide) (hG _ mw_177) (fun _ h9 => h9) rfl dA_endLoansWithAgreements_49 ?_
          refine va_get (D := D) (ci := 4) (v := .ref (ad 30)) (C := RLo) (T := TLo) (N := 7) hx hb hG inLo hown hK hP 4 rfl rfl 5 (by decide) (hG _ mw_142) (fun _ h9 => h9) rfl dA_endLoansWithAgreements_52 ?_
          refine lv_iload_n hx hb dA_endLoansWithAgreements_55 rfl (lv_at hl 1 rfl) ?_
          refine lv_aload_n hx hb dA_endLoansWithAgreements_56 rfl (lv_at hl 0 rfl) ?_
          refine va_get (D := D) (ci := 0) (v := .int (u.1 0)) (C := RA) (T := TA) (N := 9) hx hb hG inA hown hK hP 0 rfl rfl 6 (by decide) (hG _ mw_180) (fun _ h9 => h9) rfl dA_endLoansWithAgreements_57 ?_
          refine va_iast (f := (u.2.1 24)) hx hb hK hP hD hS 30 0 rfl rfl hg2 dA_endLoansWithAgreements_60 (fun H locs hP hD hS => ?_)
          have hP : va_P D vwCl (wA ad cI cZ cJ (sA u 24 (x1).toNatClampNeg (u.1 0))) H := hP
          have hD : va_D A (wA ad cI cZ cJ (sA u 24 (x1).toNatClampNeg (u.1 0))) := hD
          refine lv_iinc (v := (x1 + (1 : Int32))) (lv' := [(1, .int (x1 + (1 : Int32))), (0, .ref (ad 0))]) hx hb dA_endLoansWithAgreements_61 hl (k := 1) rfl rfl (by decide) rfl (fun ls hl => ?_)
          refine lv_goto (tgt := 2) hx hb dA_endLoansWithAgreements_64 (by decide) ?_
          exact ih (sA u 24 (x1).toNatClampNeg (u.1 0)) (x1 + (1 : Int32)) _ h H locs ls hP hD hS (lv_sub hl [1, 0] rfl)
set_option maxHeartbeats 4000000 in
set_option maxRecDepth 100000 in
theorem c_A_endLoansWithAgreements (l : Launch) (D : va_G) (ad : Nat → Nat) (cI cZ cJ : ClassId) (N : Nat) (u : StA) (w : StA) (h : f_A_endLoansWithAgreements N u = some w) : gw_Ct l D vwCl (tA cI cZ cJ) (wA ad cI cZ cJ) yA_endLoansWithAgreements (Cond.code yA_endLoansWithAgreements cA_endLoansWithAgreements 2 none :: gG) ({ frames := 1, cells := 0, slots := 0, locals := 21 } : Room) [.ref (ad 0)] u (none) w := by
  refine gw_enter (by decide) (Nat.le_of_ble_eq_true rfl) ?_
  intro p e s m below meth c A hC hP hD hS ls hl
  obtain ⟨hx, hb, hr, hml, hG, hown, hlocks, hK, hA⟩ := id hC
  have hl : lv_has ls 2 [(0, .ref (ad 0))] := hl
  obtain ⟨H, hH⟩ : ∃ H, H = s.heap := ⟨_, rfl⟩
  obtain ⟨locs, hlocs⟩ : ∃ x : List Loc, x = [] := ⟨_, rfl⟩
  rw [← hlocs] at hS ⊢
  have hP : va_P D vwCl (wA ad cI cZ cJ u) H := by rw [hH]; exact hP
  have hS : va_S A s.heap H locs := by rw [hH]; exact hS
  suffices g : W p l e ({ frames := 1, cells := 0, slots := 0, locals := 21 } : Room) s m [.ref (ad 0)].toArray below meth c H locs 0 0 (MQ below (gw_Q D vwCl (wA ad cI cZ cJ) A w (none)) [.ref (ad 0)].toArray s 0 0 A) (F0 m 0 ls []) by rw [hH] at g; exact g
  unfold f_A_endLoansWithAgreements at h
  refine lv_iconst (v := (0 : Int32)) hx hb dA_endLoansWithAgreements_0 (by decide) ?_
  refine lv_istore_n (lv' := [(1, .int (0 : Int32)), (0, .ref (ad 0))]) hx hb dA_endLoansWithAgreements_1 rfl hl (by decide) rfl (fun ls hl => ?_)
  exact lp_A_endLoansWithAgreements_2 hC N N u (0 : Int32) _ h H locs ls hP hD hS (lv_sub hl [1, 0] rfl)
set_option maxHeartbeats 4000000 in
set_option maxRecDepth 100000 in
theorem lp_A_costOfLoan_27 {p : Program} {l : Launch} {e : Env} {s : State} {m : MethodId} {args : Array Value} {below : List Frame} {meth : Method} {c : Code} {A : Nat → Prop} {D : va_G} {ad : Nat → Nat} {cI cZ cJ : ClassId} (hC : gw_C p s m args meth c "AidRows" cA_costOfLoan 5 (some .int) gG D vwCl (tA cI cZ cJ) A) : ∀ (u : StA) (x1 : Int32) (y0 : Int32) (r : Int32), f_A_costOfLoan_27 u x1 y0 = some r → ∀ (H : Heap) (locs : List Loc) (ls : Array Slot), va_P D vwCl (wA ad cI cZ cJ u) H → va_D A (wA ad cI cZ cJ u) → va_S A s.heap H locs → lv_has ls 5 [(0, .ref (ad 0)), (1, .int x1)] → W p l e ({ frames := 1, cells := 0, slots := 0, locals := 21 } : Room) s m args below meth c H locs 0 0 (MQ below (gw_Q D vwCl (wA ad cI cZ cJ) A u (some (.int r))) args s 0 0 A) (F0 m 27 ls [.int y0]) := by
  obtain ⟨hx, hb, hr, hml, hG, hown, hlocks, hK, hA⟩ := id hC
  intro u x1 y0 r h H locs ls hP hD hS hl
  unfold f_A_costOfLoan_27 at h
  refine lv_istore_n (lv' := [(2, .int y0), (0, .ref (ad 0)), (1, .int x1)]) hx hb dA_costOfLoan_27 rfl hl (by decide) rfl (fun ls hl => ?_)
  refine lv_iload_n hx hb dA_costOfLoan_28 rfl (lv_at hl 0 rfl) ?_
  refine lv_aload_n hx hb dA_costOfLoan_29 rfl (lv_at hl 1 rfl) ?_
  refine va_get (D := D) (ci := 0) (v := .ref (ad 4)) (C := RA) (T := TA) (N := 9) hx hb hG inA hown hK hP 0 rfl rfl 3 (by decide) (hG _ mw_177) (fun _ h9 => h9) rfl dA_costOfLoan_30 ?_
  refine va_get (D := D) (ci := 4) (v := .ref (ad 29)) (C := RLo) (T := TLo) (N := 7) hx hb hG inLo hown hK hP 4 rfl rfl 4 (by decide) (hG _ mw_140) (fun _ h9 => h9) rfl dA_costOfLoan_33 ?_
  refine lv_iload_n hx hb dA_costOfLoan_36 rfl (lv_at hl 2 rfl) ?_
  obtain ⟨hg3, h⟩ := gI_some h
  refine va_iald (f := (u.2.1 23)) hx hb hK hP 29 0 rfl rfl hg3 dA_costOfLoan_37 ?_
  refine lv_isub hx hb dA_costOfLoan_38 ?_
  refine lv_istore_n (lv' := [(3, .int (y0 - (u.2.1 23 (x1).toNatClampNeg))), (2, .int y0), (0, .ref (ad 0)), (1, .int x1)]) hx hb dA_costOfLoan_39 rfl hl (by decide) rfl (fun ls hl => ?_)
  refine lv_iload_n hx hb dA_costOfLoan_40 rfl (lv_at hl 0 rfl) ?_
  refine lv_if_gt (tgt := 46) hx hb dA_costOfLoan_41 (by decide) (fun hc => ?_) (fun hc => ?_)
  · rw [if_pos hc] at h
    refine lv_iload_n hx hb dA_costOfLoan_46 rfl (lv_at hl 0 rfl) ?_
    refine lv_bipush (v := (60 : Int32)) hx hb dA_costOfLoan_47 (by decide) ?_
    refine lv_iadd hx hb dA_costOfLoan_49 ?_
    refine lv_iconst (v := (1 : Int32)) hx hb dA_costOfLoan_50 (by decide) ?_
    refine lv_isub hx hb dA_costOfLoan_51 ?_
    refine lv_bipush (v := (60 : Int32)) hx hb dA_costOfLoan_52 (by decide) ?_
    refine lv_idiv hx hb dA_costOfLoan_54 (by decide) ?_
    refine lv_istore (lv' := [(4, .int ((((y0 - (u.2.1 23 (x1).toNatClampNeg)) + (60 : Int32)) - (1 : Int32)) / (60 : Int32))), (3, .int (y0 - (u.2.1 23 (x1).toNatClampNeg))), (2, .int y0), (0, .ref (ad 0)), (1, .int x1)]) hx hb dA_costOfLoan_55 hl (by decide) rfl (fun ls hl => ?_)
    refine lv_iload hx hb dA_costOfLoan_57 (lv_at hl 0 rfl) ?_
    refine lv_aload_n hx hb dA_costOfLoan_59 rfl (lv_at hl 3 rfl) ?_
    refine va_get (D := D) (ci := 0) (v := .ref (ad 1)) (C := RA) (T := TA) (N := 9) hx hb hG inA hown hK hP 0 rfl rfl 0 (by decide) (hG _ mw_174) (fun _ h9 => h9) rfl dA_costOfLoan_60 ?_
    refine va_get (D := D) (ci := 1) (v := .ref (ad 8)) (C := RHo) (T := THo) (N := 4) hx hb hG inHo hown hK hP 1 rfl rfl 1 (by decide) (hG _ mw_35) (fun _ h9 => h9) rfl dA_costOfLoan_63 ?_
    refine lv_aload_n hx hb dA_costOfLoan_66 rfl (lv_at hl 3 rfl) ?_
    refine va_get (D := D) (ci := 0) (v := .ref (ad 4)) (C := RA) (T := TA) (N := 9) hx hb hG inA hown hK hP 0 rfl rfl 3 (by decide) (hG _ mw_177) (fun _ h9 => h9) rfl dA_costOfLoan_67 ?_
    refine va_get (D := D) (ci := 4) (v := .ref (ad 25)) (C := RLo) (T := TLo) (N := 7) hx hb hG inLo hown hK hP 4 rfl rfl 0 (by decide) (hG _ mw_132) (fun _ h9 => h9) rfl dA_costOfLoan_70 ?_
    refine lv_iload_n hx hb dA_costOfLoan_73 rfl (lv_at hl 4 rfl) ?_
    refine va_iald (f := (u.2.1 19)) hx hb hK hP 25 0 rfl rfl hg3 dA_costOfLoan_74 ?_
    obtain ⟨hg4, h⟩ := gI_some h
    refine va_iald (f := (u.2.1 2)) hx hb hK hP 8 0 rfl rfl hg4 dA_costOfLoan_75 ?_
    refine lv_imul hx hb dA_costOfLoan_76 ?_
    cases h
    exact gw_iret hx hb hr hlocks hP hD hS dA_costOfLoan_77
  · rw [if_neg hc] at h
    refine lv_iconst (v := (0 : Int32)) hx hb dA_costOfLoan_44 (by decide) ?_
    cases h
    exact gw_iret hx hb hr hlocks hP hD hS dA_costOfLoan_45
set_option maxHeartbeats 4000000 in
set_option maxRecDepth 100000 in
theorem c_A_costOfLoan (l : Launch) (D : va_G) (ad : Nat → Nat) (cI cZ cJ : ClassId) (u : StA) (a1 : Int32) (r : Int32) (h : f_A_costOfLoan u a1 = some r) : gw_Ct l D vwCl (tA cI cZ cJ) (wA ad cI cZ cJ) yA_costOfLoan (Cond.code yA_costOfLoan cA_costOfLoan 5 (some .int) :: gG) ({ frames := 1, cells := 0, slots := 0, locals := 21 } : Room) [.ref (ad 0), .int a1] u (some (.int r)) u := by
  refine gw_enter (by decide) (Nat.le_of_ble_eq_true rfl) ?_
  intro p e s m below meth c A hC hP hD hS ls hl
  obtain ⟨hx, hb, hr, hml, hG, hown, hlocks, hK, hA⟩ := id hC
  have hl : lv_has ls 5 [(0, .ref (ad 0)), (1, .int a1)] := hl
  obtain ⟨H, hH⟩ : ∃ H, H = s.heap := ⟨_, rfl⟩
  obtain ⟨locs, hlocs⟩ : ∃ x : List Loc, x = [] := ⟨_, rfl⟩
  rw [← hlocs] at hS ⊢
  have hP : va_P D vwCl (wA ad cI cZ cJ u) H := by rw [hH]; exact hP
  have hS : va_S A s.heap H locs := by rw [hH]; exact hS
  suffices g : W p l e ({ frames := 1, cells := 0, slots := 0, locals := 21 } : Room) s m [.ref (ad 0), .int a1].toArray below meth c H locs 0 0 (MQ below (gw_Q D vwCl (wA ad cI cZ cJ) A u (some (.int r))) [.ref (ad 0), .int a1].toArray s 0 0 A) (F0 m 0 ls []) by rw [hH] at g; exact g
  unfold f_A_costOfLoan at h
  refine lv_aload_n hx hb dA_costOfLoan_0 rfl (lv_at hl 0 rfl) ?_
  refine va_get (D := D) (ci := 0) (v := .ref (ad 4)) (C := RA) (T := TA) (N := 9) hx hb hG inA hown hK hP 0 rfl rfl 3 (by decide) (hG _ mw_177) (fun _ h9 => h9) rfl dA_costOfLoan_1 ?_
  refine lv_iload_n hx hb dA_costOfLoan_4 rfl (lv_at hl 1 rfl) ?_
  obtain ⟨q1, q1_h, h⟩ := gw_bind h
  refine gw_callV (As := [.int a1]) (rest := []) (u := u) (u' := u) hx hb hml hown hG (c_Lo_isLent l D ad cI cZ cJ u a1 _ q1_h) lk_A_189 rfl rfl ⟨Nat.le_of_ble_eq_true rfl, Nat.le_of_ble_eq_true rfl⟩ (va_recv hK hP (ci := 4) (q0 := 4) rfl rfl) hK hP hD hS hA rfl hl.1 rfl (Nat.le_of_ble_eq_true rfl) dA_costOfLoan_5 ⟨Nat.le_of_ble_eq_true rfl, Nat.le_of_ble_eq_true rfl⟩ (fun H locs hP hD hS => ?_)
  refine lv_if_eq (tgt := 18) hx hb dA_costOfLoan_8 (by decide) (fun hc => ?_) (fun hc => ?_)
  · rw [if_pos hc] at h
    refine lv_aload_n hx hb dA_costOfLoan_18 rfl (lv_at hl 0 rfl) ?_
    refine va_get (D := D) (ci := 0) (v := .ref (ad 4)) (C := RA) (T := TA) (N := 9) hx hb hG inA hown hK hP 0 rfl rfl 3 (by decide) (hG _ mw_177) (fun _ h9 => h9) rfl dA_costOfLoan_19 ?_
    refine va_get (D := D) (ci := 4) (v := .ref (ad 30)) (C := RLo) (T := TLo) (N := 7) hx hb hG inLo hown hK hP 4 rfl rfl 5 (by decide) (hG _ mw_142) (fun _ h9 => h9) rfl dA_costOfLoan_22 ?_
    refine lv_iload_n hx hb dA_costOfLoan_25 rfl (lv_at hl 1 rfl) ?_
    obtain ⟨hg2, h⟩ := gI_some h
    refine va_iald (f := (u.2.1 24)) hx hb hK hP 30 0 rfl rfl hg2 dA_costOfLoan_26 ?_
    exact lp_A_costOfLoan_27 hC u a1 (u.2.1 24 (a1).toNatClampNeg) _ h H locs ls hP hD hS (lv_sub hl [0, 1] rfl)
  · rw [if_neg hc] at h
    refine lv_aload_n hx hb dA_costOfLoan_11 rfl (lv_at hl 0 rfl) ?_
    refine va_get (D := D) (ci := 0) (v := .int (u.1 0)) (C := RA) (T := TA) (N := 9) hx hb hG inA hown hK hP 0 rfl rfl 6 (by decide) (hG _ mw_180) (fun _ h9 => h9) rfl dA_costOfLoan_12 ?_
    refine lv_goto (tgt := 27) hx hb dA_costOfLoan_15 (by decide) ?_
    exact lp_A_costOfLoan_27 hC u a1 (u.1 0) _ h H locs ls hP hD hS (lv_sub hl [0, 1] rfl)
set_option maxHeartbeats 4000000 in
set_option maxRecDepth 100000 in
theorem lp_Ag_holding_3 {p : Program} {l : Launch} {e : Env} {s : State} {m : MethodId} {args : Array Value} {below : List Frame} {meth : Method} {c : Code} {A : Nat → Prop} {D : va_G} {ad : Nat → Nat} {cI cZ cJ : ClassId} (hC : gw_C p s m args meth c "AidRows$Agreements" cAg_holding 5 (some .int) gG D vwCl (tA cI cZ cJ) A) (N : Nat) : ∀ (n : Nat) (u : StA) (x1 : Int32) (x2 : Int32) (x3 : Int32) (x4 : Int32) (r : Int32), f_Ag_holding_3 N n u x1 x2 x3 x4 = some r → ∀ (H : Heap) (locs : List Loc) (ls : Array Slot), va_P D vwCl (wA ad cI cZ cJ u) H → va_D A (wA ad cI cZ cJ u) → va_S A s.heap H locs → lv_has ls 5 [(0, .ref (ad 2)), (1, .int x1), (2, .int x2), (3, .int x3), (4, .int x4)] → W p l e ({ frames := 1, cells := 0, slots := 0, locals := 26 } : Room) s m args below meth c H locs 0 0 (MQ below (gw_Q D vwCl (wA ad cI cZ cJ) A u (some (.int r))) args s 0 0 A) (F0 m 3 ls []) := by
  obtain ⟨hx, hb, hr, hml, hG, hown, hlocks, hK, hA⟩ := id hC
  intro n
  induction n with
  | zero => intro u x1 x2 x3 x4 r h; cases h
  | succ n ih =>
    intro u x1 x2 x3 x4 r h H locs ls hP hD hS hl
    rw [f_Ag_holding_3] at h
    refine lv_iload hx hb dAg_holding_3 (lv_at hl 4 rfl) ?_
    refine lv_aload_n hx hb dAg_holding_5 rfl (lv_at hl 0 rfl) ?_
    refine va_get (D := D) (ci := 2) (v := .int (u.1 4)) (C := RAg) (T := TAg) (N := 7) hx hb hG inAg hown hK hP 2 rfl rfl 6 (by decide) (hG _ mw_65) (fun _ h9 => h9) rfl dAg_holding_6 ?_
    refine lv_icmp_ge (tgt := 53) hx hb dAg_holding_9 (by decide) (fun hc => ?_) (fun hc => ?_)
    · rw [if_pos hc] at h
      refine lv_iconst (v := (-1 : Int32)) hx hb dAg_holding_53 (by decide) ?_
      cases h
      exact gw_iret hx hb hr hlocks hP hD hS dAg_holding_54
    · rw [if_neg hc] at h
      refine lv_aload_n hx hb dAg_holding_12 rfl (lv_at hl 0 rfl) ?_
      refine va_get (D := D) (ci := 2) (v := .ref (ad 10)) (C := RAg) (T := TAg) (N := 7) hx hb hG inAg hown hK hP 2 rfl rfl 0 (by decide) (hG _ mw_57) (fun _ h9 => h9) rfl dAg_holding_13 ?_
      refine lv_iload hx hb dAg_holding_16 (lv_at hl 4 rfl) ?_
      obtain ⟨hg1, h⟩ := gI_some h
      refine va_iald (f := (u.2.1 4)) hx hb hK hP 10 0 rfl rfl hg1 dAg_holding_18 ?_
      refine lv_iload_n hx hb dAg_holding_19 rfl (lv_at hl 1 rfl) ?_
      refine lv_icmp_ne (tgt := 47) hx hb dAg_holding_20 (by decide) (fun hc => ?_) (fun hc => ?_)
      · rw [if_neg hc] at h
        refine lv_iinc (v := (x4 + (1 : Int32))) (lv' := [(4, .int (x4 + (1 : Int32))), (0, .ref (ad 2)), (1, .int x1), (2, .int x2), (3, .int x3)]) hx hb dAg_holding_47 hl (k := 4) rfl rfl (by decide) rfl (fun ls hl => ?_)
        refine lv_goto (tgt := 3) hx hb dAg_holding_50 (by decide) ?_
        exact ih u x1 x2 x3 (x4 + (1 : Int32)) _ h H locs ls hP hD hS (lv_sub hl [1, 2, 3, 4, 0] rfl)
      · rw [if_pos hc] at h
        refine lv_aload_n hx hb dAg_holding_23 rfl (lv_at hl 0 rfl) ?_
        refine va_get (D := D) (ci := 2) (v := .ref (ad 11)) (C := RAg) (T := TAg) (N := 7) hx hb hG inAg hown hK hP 2 rfl rfl 1 (by decide) (hG _ mw_58) (fun _ h9 => h9) rfl dAg_holding_24 ?_
        refine lv_iload hx hb dAg_holding_27 (lv_at hl 4 rfl) ?_
        refine va_iald (f := (u.2.1 5)) hx hb hK hP 11 0 rfl rfl hg1 dAg_holding_29 ?_
        refine lv_iload_n hx hb dAg_holding_30 rfl (lv_at hl 2 rfl) ?_
        refine lv_icmp_ne (tgt := 47) hx hb dAg_holding_31 (by decide) (fun hc => ?_) (fun hc => ?_)
        · rw [if_neg hc] at h
          refine lv_iinc (v := (x4 + (1 : Int32))) (lv' := [(4, .int (x4 + (1 : Int32))), (0, .ref (ad 2)), (1, .int x1), (2, .int x2), (3, .int x3)]) hx hb dAg_holding_47 hl (k := 4) rfl rfl (by decide) rfl (fun ls hl => ?_)
          refine lv_goto (tgt := 3) hx hb dAg_holding_50 (by decide) ?_
          exact ih u x1 x2 x3 (x4 + (1 : Int32)) _ h H locs ls hP hD hS (lv_sub hl [1, 2, 3, 4, 0] rfl)
        · rw [if_pos hc] at h
          refine lv_aload_n hx hb dAg_holding_34 rfl (lv_at hl 0 rfl) ?_
          refine lv_iload hx hb dAg_holding_35 (lv_at hl 4 rfl) ?_
          refine lv_iload_n hx hb dAg_holding_37 rfl (lv_at hl 3 rfl) ?_
          obtain ⟨q2, q2_h, h⟩ := gw_bind h
          refine gw_callV (As := [.int x4, .int x3]) (rest := []) (u := u) (u' := u) hx hb hml hown hG (c_Ag_holdsAt l D ad cI cZ cJ u x4 x3 _ q2_h) lk_Ag_34 rfl rfl ⟨Nat.le_of_ble_eq_true rfl, Nat.le_of_ble_eq_true rfl⟩ (va_recv hK hP (ci := 2) (q0 := 2) rfl rfl) hK hP hD hS hA rfl hl.1 rfl (Nat.le_of_ble_eq_true rfl) dAg_holding_38 ⟨Nat.le_of_ble_eq_true rfl, Nat.le_of_ble_eq_true rfl⟩ (fun H locs hP hD hS => ?_)
          refine lv_if_eq (tgt := 47) hx hb dAg_holding_41 (by decide) (fun hc => ?_) (fun hc => ?_)
          · rw [if_pos hc] at h
            refine lv_iinc (v := (x4 + (1 : Int32))) (lv' := [(4, .int (x4 + (1 : Int32))), (0, .ref (ad 2)), (1, .int x1), (2, .int x2), (3, .int x3)]) hx hb dAg_holding_47 hl (k := 4) rfl rfl (by decide) rfl (fun ls hl => ?_)
            refine lv_goto (tgt := 3) hx hb dAg_holding_50 (by decide) ?_
            exact ih u x1 x2 x3 (x4 + (1 : Int32)) _ h H locs ls hP hD hS (lv_sub hl [1, 2, 3, 4, 0] rfl)
          · rw [if_neg hc] at h
            refine lv_iload hx hb dAg_holding_44 (lv_at hl 4 rfl) ?_
            cases h
            exact gw_iret hx hb hr hlocks hP hD hS dAg_holding_46
set_option maxHeartbeats 4000000 in
set_option maxRecDepth 100000 in
theorem c_Ag_holding (l : Launch) (D : va_G) (ad : Nat → Nat) (cI cZ cJ : ClassId) (N : Nat) (u : StA) (a1 : Int32) (a2 : Int32) (a3 : Int32) (r : Int32) (h : f_Ag_holding N u a1 a2 a3 = some r) : gw_Ct l D vwCl (tA cI cZ cJ) (wA ad cI cZ cJ) yAg_holding (Cond.code yAg_holding cAg_holding 5 (some .int) :: gG) ({ frames := 1, cells := 0, slots := 0, locals := 26 } : Room) [.ref (ad 2), .int a1, .int a2, .int a3] u (some (.int r)) u := by
  refine gw_enter (by decide) (Nat.le_of_ble_eq_true rfl) ?_
  intro p e s m below meth c A hC hP hD hS ls hl
  obtain ⟨hx, hb, hr, hml, hG, hown, hlocks, hK, hA⟩ := id hC
  have hl : lv_has ls 5 [(0, .ref (ad 2)), (1, .int a1), (2, .int a2), (3, .int a3)] := hl
  obtain ⟨H, hH⟩ : ∃ H, H = s.heap := ⟨_, rfl⟩
  obtain ⟨locs, hlocs⟩ : ∃ x : List Loc, x = [] := ⟨_, rfl⟩
  rw [← hlocs] at hS ⊢
  have hP : va_P D vwCl (wA ad cI cZ cJ u) H := by rw [hH]; exact hP
  have hS : va_S A s.heap H locs := by rw [hH]; exact hS
  suffices g : W p l e ({ frames := 1, cells := 0, slots := 0, locals := 26 } : Room) s m [.ref (ad 2), .int a1, .int a2, .int a3].toArray below meth c H locs 0 0 (MQ below (gw_Q D vwCl (wA ad cI cZ cJ) A u (some (.int r))) [.ref (ad 2), .int a1, .int a2, .int a3].toArray s 0 0 A) (F0 m 0 ls []) by rw [hH] at g; exact g
  unfold f_Ag_holding at h
  refine lv_iconst (v := (0 : Int32)) hx hb dAg_holding_0 (by decide) ?_
  refine lv_istore (lv' := [(4, .int (0 : Int32)), (0, .ref (ad 2)), (1, .int a1), (2, .int a2), (3, .int a3)]) hx hb dAg_holding_1 hl (by decide) rfl (fun ls hl => ?_)
  exact lp_Ag_holding_3 hC N N u a1 a2 a3 (0 : Int32) _ h H locs ls hP hD hS (lv_sub hl [1, 2, 3, 4, 0] rfl)
set_option maxHeartbeats 4000000 in
set_option maxRecDepth 100000 in
theorem c_As_visits (l : Launch) (D : va_G) (ad : Nat → Nat) (cI cZ cJ : ClassId) (u : StA) (a1 : Int32) (r : Int32) (h : f_As_visits u a1 = some r) : gw_Ct l D vwCl (tA cI cZ cJ) (wA ad cI cZ cJ) yAs_visits (Cond.code yAs_visits cAs_visits 2 (some .int) :: gG) ({ frames := 1, cells := 0, slots := 0, locals := 20 } : Room) [.ref (ad 3), .int a1] u (some (.int r)) u := by
  refine gw_enter (by decide) (Nat.le_of_ble_eq_true rfl) ?_
  intro p e s m below meth c A hC hP hD hS ls hl
  obtain ⟨hx, hb, hr, hml, hG, hown, hlocks, hK, hA⟩ := id hC
  have hl : lv_has ls 2 [(0, .ref (ad 3)), (1, .int a1)] := hl
  obtain ⟨H, hH⟩ : ∃ H, H = s.heap := ⟨_, rfl⟩
  obtain ⟨locs, hlocs⟩ : ∃ x : List Loc, x = [] := ⟨_, rfl⟩
  rw [← hlocs] at hS ⊢
  have hP : va_P D vwCl (wA ad cI cZ cJ u) H := by rw [hH]; exact hP
  have hS : va_S A s.heap H locs := by rw [hH]; exact hS
  suffices g : W p l e ({ frames := 1, cells := 0, slots := 0, locals := 20 } : Room) s m [.ref (ad 3), .int a1].toArray below meth c H locs 0 0 (MQ below (gw_Q D vwCl (wA ad cI cZ cJ) A u (some (.int r))) [.ref (ad 3), .int a1].toArray s 0 0 A) (F0 m 0 ls []) by rw [hH] at g; exact g
  unfold f_As_visits at h
  refine lv_aload_n hx hb dAs_visits_0 rfl (lv_at hl 0 rfl) ?_
  refine va_get (D := D) (ci := 3) (v := .ref (ad 23)) (C := RAs) (T := TAs) (N := 10) hx hb hG inAs hown hK hP 3 rfl rfl 7 (by decide) (hG _ mw_99) (fun _ h9 => h9) rfl dAs_visits_1 ?_
  refine lv_iload_n hx hb dAs_visits_4 rfl (lv_at hl 1 rfl) ?_
  obtain ⟨hg1, h⟩ := gI_some h
  refine va_iald (f := (u.2.1 17)) hx hb hK hP 23 0 rfl rfl hg1 dAs_visits_5 ?_
  refine gw_callS (As := [.int (u.2.1 17 (a1).toNatClampNeg)]) (rest := []) (u := u) (u' := u) hx hb hml hown hG (c_JI_bitCount l D ad cI cZ cJ u (u.2.1 17 (a1).toNatClampNeg) _ rfl) lk_As_48 rfl rfl ⟨Nat.le_of_ble_eq_true rfl, Nat.le_of_ble_eq_true rfl⟩ hK hP hD hS hA rfl hl.1 rfl (Nat.le_of_ble_eq_true rfl) dAs_visits_6 ⟨Nat.le_of_ble_eq_true rfl, Nat.le_of_ble_eq_true rfl⟩ (fun H locs hP hD hS => ?_)
  cases h
  exact gw_iret hx hb hr hlocks hP hD hS dAs_visits_9
end
section
set_option maxHeartbeats 4000000 in
set_option maxRecDepth 100000 in
theorem lp_Lo_bearerOf_2 {p : Program} {l : Launch} {e : Env} {s : State} {m : MethodId} {args : Array Value} {below : List Frame} {meth : Method} {c : Code} {A : Nat → Prop} {D : va_G} {ad : Nat → Nat} {cI cZ cJ : ClassId} (hC : gw_C p s m args meth c "AidRows$Loans" cLo_bearerOf 3 (some .int) gG D vwCl (tA cI cZ cJ) A) (N : Nat) : ∀ (n : Nat) (u : StA) (x1 : Int32) (x2 : Int32) (r : Int32), f_Lo_bearerOf_2 N n u x1 x2 = some r → ∀ (H : Heap) (locs : List Loc) (ls : Array Slot), va_P D vwCl (wA ad cI cZ cJ u) H → va_D A (wA ad cI cZ cJ u) → va_S A s.heap H locs → lv_has ls 3 [(0, .ref (ad 4)), (1, .int x1), (2, .int x2)] → W p l e ({ frames := 1, cells := 0, slots := 0, locals := 21 } : Room) s m args below meth c H locs 0 0 (MQ below (gw_Q D vwCl (wA ad cI cZ cJ) A u (some (.int r))) args s 0 0 A) (F0 m 2 ls []) := by
  obtain ⟨hx, hb, hr, hml, hG, hown, hlocks, hK, hA⟩ := id hC
  intro n
  induction n with
  | zero => intro u x1 x2 r h; cases h
  | succ n ih =>
    intro u x1 x2 r h H locs ls hP hD hS hl
    rw [f_Lo_bearerOf_2] at h
    refine lv_iload_n hx hb dLo_bearerOf_2 rfl (lv_at hl 2 rfl) ?_
    refine lv_aload_n hx hb dLo_bearerOf_3 rfl (lv_at hl 0 rfl) ?_
    refine va_get (D := D) (ci := 4) (v := .int (u.1 6)) (C := RLo) (T := TLo) (N := 7) hx hb hG inLo hown hK hP 4 rfl rfl 6 (by decide) (hG _ mw_143) (fun _ h9 => h9) rfl dLo_bearerOf_4 ?_
    refine lv_icmp_ge (tgt := 36) hx hb dLo_bearerOf_7 (by decide) (fun hc => ?_) (fun hc => ?_)
    · rw [if_pos hc] at h
      refine lv_iconst (v := (-1 : Int32)) hx hb dLo_bearerOf_36 (by decide) ?_
      cases h
      exact gw_iret hx hb hr hlocks hP hD hS dLo_bearerOf_37
    · rw [if_neg hc] at h
      refine lv_aload_n hx hb dLo_bearerOf_10 rfl (lv_at hl 0 rfl) ?_
      refine va_get (D := D) (ci := 4) (v := .ref (ad 26)) (C := RLo) (T := TLo) (N := 7) hx hb hG inLo hown hK hP 4 rfl rfl 1 (by decide) (hG _ mw_133) (fun _ h9 => h9) rfl dLo_bearerOf_11 ?_
      refine lv_iload_n hx hb dLo_bearerOf_14 rfl (lv_at hl 2 rfl) ?_
      obtain ⟨hg1, h⟩ := gI_some h
      refine va_iald (f := (u.2.1 20)) hx hb hK hP 26 0 rfl rfl hg1 dLo_bearerOf_15 ?_
      refine lv_iload_n hx hb dLo_bearerOf_16 rfl (lv_at hl 1 rfl) ?_
      refine lv_icmp_ne (tgt := 30) hx hb dLo_bearerOf_17 (by decide) (fun hc => ?_) (fun hc => ?_)
      · rw [if_neg hc] at h
        refine lv_iinc (v := (x2 + (1 : Int32))) (lv' := [(2, .int (x2 + (1 : Int32))), (0, .ref (ad 4)), (1, .int x1)]) hx hb dLo_bearerOf_30 hl (k := 2) rfl rfl (by decide) rfl (fun ls hl => ?_)
        refine lv_goto (tgt := 2) hx hb dLo_bearerOf_33 (by decide) ?_
        exact ih u x1 (x2 + (1 : Int32)) _ h H locs ls hP hD hS (lv_sub hl [1, 2, 0] rfl)
      · rw [if_pos hc] at h
        refine lv_aload_n hx hb dLo_bearerOf_20 rfl (lv_at hl 0 rfl) ?_
        refine lv_iload_n hx hb dLo_bearerOf_21 rfl (lv_at hl 2 rfl) ?_
        obtain ⟨q2, q2_h, h⟩ := gw_bind h
        refine gw_callV (As := [.int x2]) (rest := []) (u := u) (u' := u) hx hb hml hown hG (c_Lo_isLent l D ad cI cZ cJ u x2 _ q2_h) lk_Lo_41 rfl rfl ⟨Nat.le_of_ble_eq_true rfl, Nat.le_of_ble_eq_true rfl⟩ (va_recv hK hP (ci := 4) (q0 := 4) rfl rfl) hK hP hD hS hA rfl hl.1 rfl (Nat.le_of_ble_eq_true rfl) dLo_bearerOf_22 ⟨Nat.le_of_ble_eq_true rfl, Nat.le_of_ble_eq_true rfl⟩ (fun H locs hP hD hS => ?_)
        refine lv_if_eq (tgt := 30) hx hb dLo_bearerOf_25 (by decide) (fun hc => ?_) (fun hc => ?_)
        · rw [if_pos hc] at h
          refine lv_iinc (v := (x2 + (1 : Int32))) (lv' := [(2, .int (x2 + (1 : Int32))), (0, .ref (ad 4)), (1, .int x1)]) hx hb dLo_bearerOf_30 hl (k := 2) rfl rfl (by decide) rfl (fun ls hl => ?_)
          refine lv_goto (tgt := 2) hx hb dLo_bearerOf_33 (by decide) ?_
          exact ih u x1 (x2 + (1 : Int32)) _ h H locs ls hP hD hS (lv_sub hl [1, 2, 0] rfl)
        · rw [if_neg hc] at h
          refine lv_iload_n hx hb dLo_bearerOf_28 rfl (lv_at hl 2 rfl) ?_
          cases h
          exact gw_iret hx hb hr hlocks hP hD hS dLo_bearerOf_29
set_option maxHeartbeats 4000000 in
set_option maxRecDepth 100000 in
theorem c_Lo_bearerOf (l : Launch) (D : va_G) (ad : Nat → Nat) (cI cZ cJ : ClassId) (N : Nat) (u : StA) (a1 : Int32) (r : Int32) (h : f_Lo_bearerOf N u a1 = some r) : gw_Ct l D vwCl (tA cI cZ cJ) (wA ad cI cZ cJ) yLo_bearerOf (Cond.code yLo_bearerOf cLo_bearerOf 3 (some .int) :: gG) ({ frames := 1, cells := 0, slots := 0, locals := 21 } : Room) [.ref (ad 4), .int a1] u (some (.int r)) u := by
  refine gw_enter (by decide) (Nat.le_of_ble_eq_true rfl) ?_
  intro p e s m below meth c A hC hP hD hS ls hl
  obtain ⟨hx, hb, hr, hml, hG, hown, hlocks, hK, hA⟩ := id hC
  have hl : lv_has ls 3 [(0, .ref (ad 4)), (1, .int a1)] := hl
  obtain ⟨H, hH⟩ : ∃ H, H = s.heap := ⟨_, rfl⟩
  obtain ⟨locs, hlocs⟩ : ∃ x : List Loc, x = [] := ⟨_, rfl⟩
  rw [← hlocs] at hS ⊢
  have hP : va_P D vwCl (wA ad cI cZ cJ u) H := by rw [hH]; exact hP
  have hS : va_S A s.heap H locs := by rw [hH]; exact hS
  suffices g : W p l e ({ frames := 1, cells := 0, slots := 0, locals := 21 } : Room) s m [.ref (ad 4), .int a1].toArray below meth c H locs 0 0 (MQ below (gw_Q D vwCl (wA ad cI cZ cJ) A u (some (.int r))) [.ref (ad 4), .int a1].toArray s 0 0 A) (F0 m 0 ls []) by rw [hH] at g; exact g
  unfold f_Lo_bearerOf at h
  refine lv_iconst (v := (0 : Int32)) hx hb dLo_bearerOf_0 (by decide) ?_
  refine lv_istore_n (lv' := [(2, .int (0 : Int32)), (0, .ref (ad 4)), (1, .int a1)]) hx hb dLo_bearerOf_1 rfl hl (by decide) rfl (fun ls hl => ?_)
  exact lp_Lo_bearerOf_2 hC N N u a1 (0 : Int32) _ h H locs ls hP hD hS (lv_sub hl [1, 2, 0] rfl)
set_option maxHeartbeats 4000000 in
set_option maxRecDepth 100000 in
theorem c_Nu_stateOf (l : Launch) (D : va_G) (ad : Nat → Nat) (cI cZ cJ : ClassId) (u : StA) (a1 : Int32) (a2 : Int32) (r : Int32) (h : f_Nu_stateOf u a1 a2 = some r) : gw_Ct l D vwCl (tA cI cZ cJ) (wA ad cI cZ cJ) yNu_stateOf (Cond.code yNu_stateOf cNu_stateOf 4 (some .int) :: gG) ({ frames := 1, cells := 0, slots := 0, locals := 21 } : Room) [.ref (ad 5), .int a1, .int a2] u (some (.int r)) u := by
  refine gw_enter (by decide) (Nat.le_of_ble_eq_true rfl) ?_
  intro p e s m below meth c A hC hP hD hS ls hl
  obtain ⟨hx, hb, hr, hml, hG, hown, hlocks, hK, hA⟩ := id hC
  have hl : lv_has ls 4 [(0, .ref (ad 5)), (1, .int a1), (2, .int a2)] := hl
  obtain ⟨H, hH⟩ : ∃ H, H = s.heap := ⟨_, rfl⟩
  obtain ⟨locs, hlocs⟩ : ∃ x : List Loc, x = [] := ⟨_, rfl⟩
  rw [← hlocs] at hS ⊢
  have hP : va_P D vwCl (wA ad cI cZ cJ u) H := by rw [hH]; exact hP
  have hS : va_S A s.heap H locs := by rw [hH]; exact hS
  suffices g : W p l e ({ frames := 1, cells := 0, slots := 0, locals := 21 } : Room) s m [.ref (ad 5), .int a1, .int a2].toArray below meth c H locs 0 0 (MQ below (gw_Q D vwCl (wA ad cI cZ cJ) A u (some (.int r))) [.ref (ad 5), .int a1, .int a2].toArray s 0 0 A) (F0 m 0 ls []) by rw [hH] at g; exact g
  unfold f_Nu_stateOf at h
  refine lv_iload_n hx hb dNu_stateOf_0 rfl (lv_at hl 1 rfl) ?_
  refine lv_iload_n hx hb dNu_stateOf_1 rfl (lv_at hl 2 rfl) ?_
  refine gw_callS (As := [.int a1, .int a2]) (rest := []) (u := u) (u' := u) hx hb hml hown hG (c_Nu_placeOf l D ad cI cZ cJ u a1 a2 _ rfl) lk_Nu_15 rfl rfl ⟨Nat.le_of_ble_eq_true rfl, Nat.le_of_ble_eq_true rfl⟩ hK hP hD hS hA rfl hl.1 rfl (Nat.le_of_ble_eq_true rfl) dNu_stateOf_2 ⟨Nat.le_of_ble_eq_true rfl, Nat.le_of_ble_eq_true rfl⟩ (fun H locs hP hD hS => ?_)
  refine lv_istore_n (lv' := [(3, .int (f_Nu_placeOf a1 a2)), (0, .ref (ad 5)), (1, .int a1), (2, .int a2)]) hx hb dNu_stateOf_5 rfl hl (by decide) rfl (fun ls hl => ?_)
  refine lv_aload_n hx hb dNu_stateOf_6 rfl (lv_at hl 1 rfl) ?_
  refine va_get (D := D) (ci := 5) (v := .ref (ad 31)) (C := RNu) (T := TNu) (N := 1) hx hb hG inNu hown hK hP 5 rfl rfl 0 (by decide) (hG _ mw_166) (fun _ h9 => h9) rfl dNu_stateOf_7 ?_
  refine lv_iload_n hx hb dNu_stateOf_10 rfl (lv_at hl 0 rfl) ?_
  refine lv_bipush (v := (16 : Int32)) hx hb dNu_stateOf_11 (by decide) ?_
  refine lv_idiv hx hb dNu_stateOf_13 (by decide) ?_
  obtain ⟨hg1, h⟩ := gI_some h
  refine va_lald (f := u.2.2) hx hb hK hP 31 2 rfl rfl hg1 dNu_stateOf_14 ?_
  refine lv_iload_n hx hb dNu_stateOf_15 rfl (lv_at hl 0 rfl) ?_
  refine gw_callS (As := [.int (f_Nu_placeOf a1 a2)]) (rest := [.long (u.2.2 (((f_Nu_placeOf a1 a2) / (16 : Int32))).toNatClampNeg)]) (u := u) (u' := u) hx hb hml hown hG (c_Nu_shiftOf l D ad cI cZ cJ u (f_Nu_placeOf a1 a2) _ rfl) lk_Nu_19 rfl rfl ⟨Nat.le_of_ble_eq_true rfl, Nat.le_of_ble_eq_true rfl⟩ hK hP hD hS hA rfl hl.1 rfl (Nat.le_of_ble_eq_true rfl) dNu_stateOf_16 ⟨Nat.le_of_ble_eq_true rfl, Nat.le_of_ble_eq_true rfl⟩ (fun H locs hP hD hS => ?_)
  refine lv_lushr (v := (((u.2.2 (((f_Nu_placeOf a1 a2) / (16 : Int32))).toNatClampNeg)).toUInt64 >>> (((f_Nu_shiftOf (f_Nu_placeOf a1 a2))).toInt64.toUInt64 &&& Int64.toUInt64 63)).toInt64) hx hb dNu_stateOf_19 rfl ?_
  refine lv_l2i (v := ((((u.2.2 (((f_Nu_placeOf a1 a2) / (16 : Int32))).toNatClampNeg)).toUInt64 >>> (((f_Nu_shiftOf (f_Nu_placeOf a1 a2))).toInt64.toUInt64 &&& Int64.toUInt64 63)).toInt64).toInt32) hx hb dNu_stateOf_20 rfl ?_
  refine lv_bipush (v := (15 : Int32)) hx hb dNu_stateOf_21 (by decide) ?_
  refine lv_iand hx hb dNu_stateOf_23 ?_
  cases h
  exact gw_iret hx hb hr hlocks hP hD hS dNu_stateOf_24
set_option maxHeartbeats 4000000 in
set_option maxRecDepth 100000 in
theorem c_Nu_keep (l : Launch) (D : va_G) (ad : Nat → Nat) (cI cZ cJ : ClassId) (u : StA) (a1 : Int32) (a2 : Int32) (a3 : Int32) (w : StA) (h : f_Nu_keep u a1 a2 a3 = some w) : gw_Ct l D vwCl (tA cI cZ cJ) (wA ad cI cZ cJ) yNu_keep (Cond.code yNu_keep cNu_keep 5 none :: gG) ({ frames := 1, cells := 0, slots := 0, locals := 21 } : Room) [.ref (ad 5), .int a1, .int a2, .int a3] u (none) w := by
  refine gw_enter (by decide) (Nat.le_of_ble_eq_true rfl) ?_
  intro p e s m below meth c A hC hP hD hS ls hl
  obtain ⟨hx, hb, hr, hml, hG, hown, hlocks, hK, hA⟩ := id hC
  have hl : lv_has ls 5 [(0, .ref (ad 5)), (1, .int a1), (2, .int a2), (3, .int a3)] := hl
  obtain ⟨H, hH⟩ : ∃ H, H = s.heap := ⟨_, rfl⟩
  obtain ⟨locs, hlocs⟩ : ∃ x : List Loc, x = [] := ⟨_, rfl⟩
  rw [← hlocs] at hS ⊢
  have hP : va_P D vwCl (wA ad cI cZ cJ u) H := by rw [hH]; exact hP
  have hS : va_S A s.heap H locs := by rw [hH]; exact hS
  suffices g : W p l e ({ frames := 1, cells := 0, slots := 0, locals := 21 } : Room) s m [.ref (ad 5), .int a1, .int a2, .int a3].toArray below meth c H locs 0 0 (MQ below (gw_Q D vwCl (wA ad cI cZ cJ) A w (none)) [.ref (ad 5), .int a1, .int a2, .int a3].toArray s 0 0 A) (F0 m 0 ls []) by rw [hH] at g; exact g
  unfold f_Nu_keep at h
  refine lv_iload_n hx hb dNu_keep_0 rfl (lv_at hl 1 rfl) ?_
  refine lv_iload_n hx hb dNu_keep_1 rfl (lv_at hl 2 rfl) ?_
  refine gw_callS (As := [.int a1, .int a2]) (rest := []) (u := u) (u' := u) hx hb hml hown hG (c_Nu_placeOf l D ad cI cZ cJ u a1 a2 _ rfl) lk_Nu_15 rfl rfl ⟨Nat.le_of_ble_eq_true rfl, Nat.le_of_ble_eq_true rfl⟩ hK hP hD hS hA rfl hl.1 rfl (Nat.le_of_ble_eq_true rfl) dNu_keep_2 ⟨Nat.le_of_ble_eq_true rfl, Nat.le_of_ble_eq_true rfl⟩ (fun H locs hP hD hS => ?_)
  refine lv_istore (lv' := [(4, .int (f_Nu_placeOf a1 a2)), (0, .ref (ad 5)), (1, .int a1), (2, .int a2), (3, .int a3)]) hx hb dNu_keep_5 hl (by decide) rfl (fun ls hl => ?_)
  refine lv_aload_n hx hb dNu_keep_7 rfl (lv_at hl 1 rfl) ?_
  refine va_get (D := D) (ci := 5) (v := .ref (ad 31)) (C := RNu) (T := TNu) (N := 1) hx hb hG inNu hown hK hP 5 rfl rfl 0 (by decide) (hG _ mw_166) (fun _ h9 => h9) rfl dNu_keep_8 ?_
  refine lv_iload hx hb dNu_keep_11 (lv_at hl 0 rfl) ?_
  refine lv_bipush (v := (16 : Int32)) hx hb dNu_keep_13 (by decide) ?_
  refine lv_idiv hx hb dNu_keep_15 (by decide) ?_
  refine lv_dup2_11 hx hb dNu_keep_16 rfl rfl ?_
  obtain ⟨hg1, h⟩ := gI_some h
  refine va_lald (f := u.2.2) hx hb hK hP 31 2 rfl rfl hg1 dNu_keep_17 ?_
  refine lv_iload_n hx hb dNu_keep_18 rfl (lv_at hl 4 rfl) ?_
  refine lv_i2l (v := (a3).toInt64) hx hb dNu_keep_19 rfl ?_
  refine lv_iload hx hb dNu_keep_20 (lv_at hl 0 rfl) ?_
  refine gw_callS (As := [.int (f_Nu_placeOf a1 a2)]) (rest := [.long ((a3).toInt64), .long (u.2.2 (((f_Nu_placeOf a1 a2) / (16 : Int32))).toNatClampNeg), .int ((f_Nu_placeOf a1 a2) / (16 : Int32)), .ref (ad 31)]) (u := u) (u' := u) hx hb hml hown hG (c_Nu_shiftOf l D ad cI cZ cJ u (f_Nu_placeOf a1 a2) _ rfl) lk_Nu_19 rfl rfl ⟨Nat.le_of_ble_eq_true rfl, Nat.le_of_ble_eq_true rfl⟩ hK hP hD hS hA rfl hl.1 rfl (Nat.le_of_ble_eq_true rfl) dNu_keep_22 ⟨Nat.le_of_ble_eq_true rfl, Nat.le_of_ble_eq_true rfl⟩ (fun H locs hP hD hS => ?_)
  refine lv_lshl (v := (((a3).toInt64) <<< (((f_Nu_shiftOf (f_Nu_placeOf a1 a2))).toInt64 &&& 63))) hx hb dNu_keep_25 rfl ?_
  refine lv_lor hx hb dNu_keep_26 ?_
  refine va_last (f := u.2.2) hx hb hK hP hD hS 31 2 rfl rfl hg1 dNu_keep_27 (fun H locs hP hD hS => ?_)
  have hP : va_P D vwCl (wA ad cI cZ cJ (sL u (((f_Nu_placeOf a1 a2) / (16 : Int32))).toNatClampNeg ((u.2.2 (((f_Nu_placeOf a1 a2) / (16 : Int32))).toNatClampNeg) ||| (((a3).toInt64) <<< (((f_Nu_shiftOf (f_Nu_placeOf a1 a2))).toInt64 &&& 63))))) H := hP
  have hD : va_D A (wA ad cI cZ cJ (sL u (((f_Nu_placeOf a1 a2) / (16 : Int32))).toNatClampNeg ((u.2.2 (((f_Nu_placeOf a1 a2) / (16 : Int32))).toNatClampNeg) ||| (((a3).toInt64) <<< (((f_Nu_shiftOf (f_Nu_placeOf a1 a2))).toInt64 &&& 63))))) := hD
  cases h
  exact gw_vret hx hb hr hlocks hP hD hS dNu_keep_28
set_option maxHeartbeats 4000000 in
set_option maxRecDepth 100000 in
theorem c_A_named (l : Launch) (D : va_G) (ad : Nat → Nat) (cI cZ cJ : ClassId) (N : Nat) (u : StA) (a1 : Int32) (r : Int32) (h : f_A_named N u a1 = some r) : gw_Ct l D vwCl (tA cI cZ cJ) (wA ad cI cZ cJ) yA_named (Cond.code yA_named cA_named 2 (some .int) :: gG) ({ frames := 2, cells := 0, slots := 0, locals := 43 } : Room) [.ref (ad 0), .int a1] u (some (.int r)) u := by
  refine gw_enter (by decide) (Nat.le_of_ble_eq_true rfl) ?_
  intro p e s m below meth c A hC hP hD hS ls hl
  obtain ⟨hx, hb, hr, hml, hG, hown, hlocks, hK, hA⟩ := id hC
  have hl : lv_has ls 2 [(0, .ref (ad 0)), (1, .int a1)] := hl
  obtain ⟨H, hH⟩ : ∃ H, H = s.heap := ⟨_, rfl⟩
  obtain ⟨locs, hlocs⟩ : ∃ x : List Loc, x = [] := ⟨_, rfl⟩
  rw [← hlocs] at hS ⊢
  have hP : va_P D vwCl (wA ad cI cZ cJ u) H := by rw [hH]; exact hP
  have hS : va_S A s.heap H locs := by rw [hH]; exact hS
  suffices g : W p l e ({ frames := 2, cells := 0, slots := 0, locals := 43 } : Room) s m [.ref (ad 0), .int a1].toArray below meth c H locs 0 0 (MQ below (gw_Q D vwCl (wA ad cI cZ cJ) A u (some (.int r))) [.ref (ad 0), .int a1].toArray s 0 0 A) (F0 m 0 ls []) by rw [hH] at g; exact g
  unfold f_A_named at h
  refine lv_aload_n hx hb dA_named_0 rfl (lv_at hl 0 rfl) ?_
  refine va_get (D := D) (ci := 0) (v := .ref (ad 4)) (C := RA) (T := TA) (N := 9) hx hb hG inA hown hK hP 0 rfl rfl 3 (by decide) (hG _ mw_177) (fun _ h9 => h9) rfl dA_named_1 ?_
  refine lv_iload_n hx hb dA_named_4 rfl (lv_at hl 1 rfl) ?_
  obtain ⟨q1, q1_h, h⟩ := gw_bind h
  refine gw_callV (As := [.int a1]) (rest := []) (u := u) (u' := u) hx hb hml hown hG (c_Lo_bearerOf l D ad cI cZ cJ N u a1 _ q1_h) lk_A_237 rfl rfl ⟨Nat.le_of_ble_eq_true rfl, Nat.le_of_ble_eq_true rfl⟩ (va_recv hK hP (ci := 4) (q0 := 4) rfl rfl) hK hP hD hS hA rfl hl.1 rfl (Nat.le_of_ble_eq_true rfl) dA_named_5 ⟨Nat.le_of_ble_eq_true rfl, Nat.le_of_ble_eq_true rfl⟩ (fun H locs hP hD hS => ?_)
  cases h
  exact gw_iret hx hb hr hlocks hP hD hS dA_named_8
set_option maxHeartbeats 4000000 in
set_option maxRecDepth 100000 in
theorem lp_A_nextHouse_4 {p : Program} {l : Launch} {e : Env} {s : State} {m : MethodId} {args : Array Value} {below : List Frame} {meth : Method} {c : Code} {A : Nat → Prop} {D : va_G} {ad : Nat → Nat} {cI cZ cJ : ClassId} (hC : gw_C p s m args meth c "AidRows" cA_nextHouse 5 (some .int) gG D vwCl (tA cI cZ cJ) A) (N : Nat) : ∀ (n : Nat) (u : StA) (x1 : Int32) (x2 : Int32) (x3 : Int32) (r : Int32), f_A_nextHouse_4 N n u x1 x2 x3 = some r → ∀ (H : Heap) (locs : List Loc) (ls : Array Slot), va_P D vwCl (wA ad cI cZ cJ u) H → va_D A (wA ad cI cZ cJ u) → va_S A s.heap H locs → lv_has ls 5 [(0, .ref (ad 0)), (1, .int x1), (2, .int x2), (3, .int x3)] → W p l e ({ frames := 2, cells := 0, slots := 0, locals := 50 } : Room) s m args below meth c H locs 0 0 (MQ below (gw_Q D vwCl (wA ad cI cZ cJ) A u (some (.int r))) args s 0 0 A) (F0 m 4 ls []) := by
  obtain ⟨hx, hb, hr, hml, hG, hown, hlocks, hK, hA⟩ := id hC
  intro n
  induction n with
  | zero => intro u x1 x2 x3 r h; cases h
  | succ n ih =>
    intro u x1 x2 x3 r h H locs ls hP hD hS hl
    rw [f_A_nextHouse_4] at h
    refine lv_iload_n hx hb dA_nextHouse_4 rfl (lv_at hl 3 rfl) ?_
    refine lv_aload_n hx hb dA_nextHouse_5 rfl (lv_at hl 0 rfl) ?_
    refine va_get (D := D) (ci := 0) (v := .ref (ad 1)) (C := RA) (T := TA) (N := 9) hx hb hG inA hown hK hP 0 rfl rfl 0 (by decide) (hG _ mw_174) (fun _ h9 => h9) rfl dA_nextHouse_6 ?_
    refine va_get (D := D) (ci := 1) (v := .int (u.1 3)) (C := RHo) (T := THo) (N := 4) hx hb hG inHo hown hK hP 1 rfl rfl 3 (by decide) (hG _ mw_39) (fun _ h9 => h9) rfl dA_nextHouse_9 ?_
    refine lv_icmp_ge (tgt := 98) hx hb dA_nextHouse_12 (by decide) (fun hc => ?_) (fun hc => ?_)
    · rw [if_pos hc] at h
      refine lv_iload_n hx hb dA_nextHouse_98 rfl (lv_at hl 2 rfl) ?_
      cases h
      exact gw_iret hx hb hr hlocks hP hD hS dA_nextHouse_99
    · rw [if_neg hc] at h
      refine lv_aload_n hx hb dA_nextHouse_15 rfl (lv_at hl 0 rfl) ?_
      refine va_get (D := D) (ci := 0) (v := .ref (ad 3)) (C := RA) (T := TA) (N := 9) hx hb hG inA hown hK hP 0 rfl rfl 2 (by decide) (hG _ mw_176) (fun _ h9 => h9) rfl dA_nextHouse_16 ?_
      refine lv_iload_n hx hb dA_nextHouse_19 rfl (lv_at hl 1 rfl) ?_
      refine lv_iload_n hx hb dA_nextHouse_20 rfl (lv_at hl 3 rfl) ?_
      obtain ⟨q1, q1_h, h⟩ := gw_bind h
      refine gw_callV (As := [.int x1, .int x3]) (rest := []) (u := u) (u' := u) hx hb hml hown hG (c_As_wasAt l D ad cI cZ cJ u x1 x3 _ q1_h) lk_A_269 rfl rfl ⟨Nat.le_of_ble_eq_true rfl, Nat.le_of_ble_eq_true rfl⟩ (va_recv hK hP (ci := 3) (q0 := 3) rfl rfl) hK hP hD hS hA rfl hl.1 rfl (Nat.le_of_ble_eq_true rfl) dA_nextHouse_21 ⟨Nat.le_of_ble_eq_true rfl, Nat.le_of_ble_eq_true rfl⟩ (fun H locs hP hD hS => ?_)
      refine lv_if_ne (tgt := 56) hx hb dA_nextHouse_24 (by decide) (fun hc => ?_) (fun hc => ?_)
      · rw [if_neg hc] at h
        refine lv_iconst (v := (0 : Int32)) hx hb dA_nextHouse_56 (by decide) ?_
        refine lv_istore (lv' := [(4, .int (0 : Int32)), (0, .ref (ad 0)), (1, .int x1), (2, .int x2), (3, .int x3)]) hx hb dA_nextHouse_57 hl (by decide) rfl (fun ls hl => ?_)
        refine lv_iload hx hb dA_nextHouse_59 (lv_at hl 0 rfl) ?_
        refine lv_if_eq (tgt := 92) hx hb dA_nextHouse_61 (by decide) (fun _ => ?_) (fun hc => absurd hc (by decide))
        refine lv_iinc (v := (x3 + (1 : Int32))) (lv' := [(3, .int (x3 + (1 : Int32))), (4, .int (0 : Int32)), (0, .ref (ad 0)), (1, .int x1), (2, .int x2)]) hx hb dA_nextHouse_92 hl (k := 4) rfl rfl (by decide) rfl (fun ls hl => ?_)
        refine lv_goto (tgt := 4) hx hb dA_nextHouse_95 (by decide) ?_
        exact ih u x1 x2 (x3 + (1 : Int32)) _ h H locs ls hP hD hS (lv_sub hl [2, 3, 4, 0] rfl)
      · rw [if_pos hc] at h
        refine lv_aload_n hx hb dA_nextHouse_27 rfl (lv_at hl 0 rfl) ?_
        refine va_get (D := D) (ci := 0) (v := .ref (ad 2)) (C := RA) (T := TA) (N := 9) hx hb hG inA hown hK hP 0 rfl rfl 1 (by decide) (hG _ mw_175) (fun _ h9 => h9) rfl dA_nextHouse_28 ?_
        refine lv_iload_n hx hb dA_nextHouse_31 rfl (lv_at hl 3 rfl) ?_
        refine lv_aload_n hx hb dA_nextHouse_32 rfl (lv_at hl 0 rfl) ?_
        refine va_get (D := D) (ci := 0) (v := .ref (ad 3)) (C := RA) (T := TA) (N := 9) hx hb hG inA hown hK hP 0 rfl rfl 2 (by decide) (hG _ mw_176) (fun _ h9 => h9) rfl dA_nextHouse_33 ?_
        refine va_get (D := D) (ci := 3) (v := .ref (ad 16)) (C := RAs) (T := TAs) (N := 10) hx hb hG inAs hown hK hP 3 rfl rfl 0 (by decide) (hG _ mw_88) (fun _ h9 => h9) rfl dA_nextHouse_36 ?_
        refine lv_iload_n hx hb dA_nextHouse_39 rfl (lv_at hl 1 rfl) ?_
        obtain ⟨hg2, h⟩ := gI_some h
        refine va_iald (f := (u.2.1 10)) hx hb hK hP 16 0 rfl rfl hg2 dA_nextHouse_40 ?_
        refine lv_aload_n hx hb dA_nextHouse_41 rfl (lv_at hl 0 rfl) ?_
        refine va_get (D := D) (ci := 0) (v := .int (u.1 0)) (C := RA) (T := TA) (N := 9) hx hb hG inA hown hK hP 0 rfl rfl 6 (by decide) (hG _ mw_180) (fun _ h9 => h9) rfl dA_nextHouse_42 ?_
        obtain ⟨q3, q3_h, h⟩ := gw_bind h
        refine gw_callV (As := [.int x3, .int (u.2.1 10 (x1).toNatClampNeg), .int (u.1 0)]) (rest := []) (u := u) (u' := u) hx hb hml hown hG (c_Ag_holding l D ad cI cZ cJ N u x3 (u.2.1 10 (x1).toNatClampNeg) (u.1 0) _ q3_h) lk_A_275 rfl rfl ⟨Nat.le_of_ble_eq_true rfl, Nat.le_of_ble_eq_true rfl⟩ (va_recv hK hP (ci := 2) (q0 := 2) rfl rfl) hK hP hD hS hA rfl hl.1 rfl (Nat.le_of_ble_eq_true rfl) dA_nextHouse_45 ⟨Nat.le_of_ble_eq_true rfl, Nat.le_of_ble_eq_true rfl⟩ (fun H locs hP hD hS => ?_)
        refine lv_iconst (v := (-1 : Int32)) hx hb dA_nextHouse_48 (by decide) ?_
        refine lv_icmp_eq (tgt := 56) hx hb dA_nextHouse_49 (by decide) (fun hc => ?_) (fun hc => ?_)
        · rw [if_pos hc] at h
          refine lv_iconst (v := (0 : Int32)) hx hb dA_nextHouse_56 (by decide) ?_
          refine lv_istore (lv' := [(4, .int (0 : Int32)), (0, .ref (ad 0)), (1, .int x1), (2, .int x2), (3, .int x3)]) hx hb dA_nextHouse_57 hl (by decide) rfl (fun ls hl => ?_)
          refine lv_iload hx hb dA_nextHouse_59 (lv_at hl 0 rfl) ?_
          refine lv_if_eq (tgt := 92) hx hb dA_nextHouse_61 (by decide) (fun _ => ?_) (fun hc => absurd hc (by decide))
          refine lv_iinc (v := (x3 + (1 : Int32))) (lv' := [(3, .int (x3 + (1 : Int32))), (4, .int (0 : Int32)), (0, .ref (ad 0)), (1, .int x1), (2, .int x2)]) hx hb dA_nextHouse_92 hl (k := 4) rfl rfl (by decide) rfl (fun ls hl => ?_)
          refine lv_goto (tgt := 4) hx hb dA_nextHouse_95 (by decide) ?_
          exact ih u x1 x2 (x3 + (1 : Int32)) _ h H locs ls hP hD hS (lv_sub hl [2, 3, 4, 0] rfl)
        · rw [if_neg hc] at h
          refine lv_iconst (v := (1 : Int32)) hx hb dA_nextHouse_52 (by decide) ?_
          refine lv_goto (tgt := 57) hx hb dA_nextHouse_53 (by decide) ?_
          refine lv_istore (lv' := [(4, .int (1 : Int32)), (0, .ref (ad 0)), (1, .int x1), (2, .int x2), (3, .int x3)]) hx hb dA_nextHouse_57 hl (by decide) rfl (fun ls hl => ?_)
          refine lv_iload hx hb dA_nextHouse_59 (lv_at hl 0 rfl) ?_
          refine lv_if_eq (tgt := 92) hx hb dA_nextHouse_61 (by decide) (fun hc => absurd hc (by decide)) (fun _ => ?_)
          refine lv_iload_n hx hb dA_nextHouse_64 rfl (lv_at hl 3 rfl) ?_
          refine lv_iconst (v := (-1 : Int32)) hx hb dA_nextHouse_65 (by decide) ?_
          refine lv_icmp_eq (tgt := 90) hx hb dA_nextHouse_66 (by decide) (fun hc => ?_) (fun hc => ?_)
          · rw [if_pos hc] at h
            refine lv_iload_n hx hb dA_nextHouse_90 rfl (lv_at hl 4 rfl) ?_
            refine lv_istore_n (lv' := [(2, .int x3), (4, .int (1 : Int32)), (0, .ref (ad 0)), (1, .int x1), (3, .int x3)]) hx hb dA_nextHouse_91 rfl hl (by decide) rfl (fun ls hl => ?_)
            refine lv_iinc (v := (x3 + (1 : Int32))) (lv' := [(3, .int (x3 + (1 : Int32))), (2, .int x3), (4, .int (1 : Int32)), (0, .ref (ad 0)), (1, .int x1)]) hx hb dA_nextHouse_92 hl (k := 4) rfl rfl (by decide) rfl (fun ls hl => ?_)
            refine lv_goto (tgt := 4) hx hb dA_nextHouse_95 (by decide) ?_
            exact ih u x1 x3 (x3 + (1 : Int32)) _ h H locs ls hP hD hS (lv_sub hl [3, 4, 1, 0] rfl)
          · rw [if_neg hc] at h
            refine lv_aload_n hx hb dA_nextHouse_69 rfl (lv_at hl 1 rfl) ?_
            refine va_get (D := D) (ci := 0) (v := .ref (ad 1)) (C := RA) (T := TA) (N := 9) hx hb hG inA hown hK hP 0 rfl rfl 0 (by decide) (hG _ mw_174) (fun _ h9 => h9) rfl dA_nextHouse_70 ?_
            refine va_get (D := D) (ci := 1) (v := .ref (ad 7)) (C := RHo) (T := THo) (N := 4) hx hb hG inHo hown hK hP 1 rfl rfl 0 (by decide) (hG _ mw_33) (fun _ h9 => h9) rfl dA_nextHouse_73 ?_
            refine lv_iload_n hx hb dA_nextHouse_76 rfl (lv_at hl 4 rfl) ?_
            obtain ⟨hg4, h⟩ := gI_some h
            refine va_iald (f := (u.2.1 1)) hx hb hK hP 7 0 rfl rfl hg4 dA_nextHouse_77 ?_
            refine lv_aload_n hx hb dA_nextHouse_78 rfl (lv_at hl 1 rfl) ?_
            refine va_get (D := D) (ci := 0) (v := .ref (ad 1)) (C := RA) (T := TA) (N := 9) hx hb hG inA hown hK hP 0 rfl rfl 0 (by decide) (hG _ mw_174) (fun _ h9 => h9) rfl dA_nextHouse_79 ?_
            refine va_get (D := D) (ci := 1) (v := .ref (ad 7)) (C := RHo) (T := THo) (N := 4) hx hb hG inHo hown hK hP 1 rfl rfl 0 (by decide) (hG _ mw_33) (fun _ h9 => h9) rfl dA_nextHouse_82 ?_
            refine lv_iload_n hx hb dA_nextHouse_85 rfl (lv_at hl 3 rfl) ?_
            obtain ⟨hg5, h⟩ := gI_some h
            refine va_iald (f := (u.2.1 1)) hx hb hK hP 7 0 rfl rfl hg5 dA_nextHouse_86 ?_
            refine lv_icmp_le (tgt := 92) hx hb dA_nextHouse_87 (by decide) (fun hc => ?_) (fun hc => ?_)
            · rw [if_pos hc] at h
              refine lv_iinc (v := (x3 + (1 : Int32))) (lv' := [(3, .int (x3 + (1 : Int32))), (4, .int (1 : Int32)), (0, .ref (ad 0)), (1, .int x1), (2, .int x2)]) hx hb dA_nextHouse_92 hl (k := 4) rfl rfl (by decide) rfl (fun ls hl => ?_)
              refine lv_goto (tgt := 4) hx hb dA_nextHouse_95 (by decide) ?_
              exact ih u x1 x2 (x3 + (1 : Int32)) _ h H locs ls hP hD hS (lv_sub hl [2, 3, 4, 0] rfl)
            · rw [if_neg hc] at h
              refine lv_iload_n hx hb dA_nextHouse_90 rfl (lv_at hl 4 rfl) ?_
              refine lv_istore_n (lv' := [(2, .int x3), (4, .int (1 : Int32)), (0, .ref (ad 0)), (1, .int x1), (3, .int x3)]) hx hb dA_nextHouse_91 rfl hl (by decide) rfl (fun ls hl => ?_)
              refine lv_iinc (v := (x3 + (1 : Int32))) (lv' := [(3, .int (x3 + (1 : Int32))), (2, .int x3), (4, .int (1 : Int32)), (0, .ref (ad 0)), (1, .int x1)]) hx hb dA_nextHouse_92 hl (k := 4) rfl rfl (by decide) rfl (fun ls hl => ?_)
              refine lv_goto (tgt := 4) hx hb dA_nextHouse_95 (by decide) ?_
              exact ih u x1 x3 (x3 + (1 : Int32)) _ h H locs ls hP hD hS (lv_sub hl [3, 4, 1, 0] rfl)
set_option maxHeartbeats 4000000 in
set_option maxRecDepth 100000 in
theorem c_A_nextHouse (l : Launch) (D : va_G) (ad : Nat → Nat) (cI cZ cJ : ClassId) (N : Nat) (u : StA) (a1 : Int32) (r : Int32) (h : f_A_nextHouse N u a1 = some r) : gw_Ct l D vwCl (tA cI cZ cJ) (wA ad cI cZ cJ) yA_nextHouse (Cond.code yA_nextHouse cA_nextHouse 5 (some .int) :: gG) ({ frames := 2, cells := 0, slots := 0, locals := 50 } : Room) [.ref (ad 0), .int a1] u (some (.int r)) u := by
  refine gw_enter (by decide) (Nat.le_of_ble_eq_true rfl) ?_
  intro p e s m below meth c A hC hP hD hS ls hl
  obtain ⟨hx, hb, hr, hml, hG, hown, hlocks, hK, hA⟩ := id hC
  have hl : lv_has ls 5 [(0, .ref (ad 0)), (1, .int a1)] := hl
  obtain ⟨H, hH⟩ : ∃ H, H = s.heap := ⟨_, rfl⟩
  obtain ⟨locs, hlocs⟩ : ∃ x : List Loc, x = [] := ⟨_, rfl⟩
  rw [← hlocs] at hS ⊢
  have hP : va_P D vwCl (wA ad cI cZ cJ u) H := by rw [hH]; exact hP
  have hS : va_S A s.heap H locs := by rw [hH]; exact hS
  suffices g : W p l e ({ frames := 2, cells := 0, slots := 0, locals := 50 } : Room) s m [.ref (ad 0), .int a1].toArray below meth c H locs 0 0 (MQ below (gw_Q D vwCl (wA ad cI cZ cJ) A u (some (.int r))) [.ref (ad 0), .int a1].toArray s 0 0 A) (F0 m 0 ls []) by rw [hH] at g; exact g
  unfold f_A_nextHouse at h
  refine lv_iconst (v := (-1 : Int32)) hx hb dA_nextHouse_0 (by decide) ?_
  refine lv_istore_n (lv' := [(2, .int (-1 : Int32)), (0, .ref (ad 0)), (1, .int a1)]) hx hb dA_nextHouse_1 rfl hl (by decide) rfl (fun ls hl => ?_)
  refine lv_iconst (v := (0 : Int32)) hx hb dA_nextHouse_2 (by decide) ?_
  refine lv_istore_n (lv' := [(3, .int (0 : Int32)), (2, .int (-1 : Int32)), (0, .ref (ad 0)), (1, .int a1)]) hx hb dA_nextHouse_3 rfl hl (by decide) rfl (fun ls hl => ?_)
  exact lp_A_nextHouse_4 hC N N u a1 (-1 : Int32) (0 : Int32) _ h H locs ls hP hD hS (lv_sub hl [2, 3, 1, 0] rfl)
set_option maxHeartbeats 4000000 in
set_option maxRecDepth 100000 in
theorem c_A_mostToTake (l : Launch) (D : va_G) (ad : Nat → Nat) (cI cZ cJ : ClassId) (N : Nat) (u : StA) (a1 : Int32) (a2 : Int32) (r : Int32) (h : f_A_mostToTake N u a1 a2 = some r) : gw_Ct l D vwCl (tA cI cZ cJ) (wA ad cI cZ cJ) yA_mostToTake (Cond.code yA_mostToTake cA_mostToTake 4 (some .int) :: gG) ({ frames := 2, cells := 0, slots := 0, locals := 50 } : Room) [.ref (ad 0), .int a1, .int a2] u (some (.int r)) u := by
  refine gw_enter (by decide) (Nat.le_of_ble_eq_true rfl) ?_
  intro p e s m below meth c A hC hP hD hS ls hl
  obtain ⟨hx, hb, hr, hml, hG, hown, hlocks, hK, hA⟩ := id hC
  have hl : lv_has ls 4 [(0, .ref (ad 0)), (1, .int a1), (2, .int a2)] := hl
  obtain ⟨H, hH⟩ : ∃ H, H = s.heap := ⟨_, rfl⟩
  obtain ⟨locs, hlocs⟩ : ∃ x : List Loc, x = [] := ⟨_, rfl⟩
  rw [← hlocs] at hS ⊢
  have hP : va_P D vwCl (wA ad cI cZ cJ u) H := by rw [hH]; exact hP
  have hS : va_S A s.heap H locs := by rw [hH]; exact hS
  suffices g : W p l e ({ frames := 2, cells := 0, slots := 0, locals := 50 } : Room) s m [.ref (ad 0), .int a1, .int a2].toArray below meth c H locs 0 0 (MQ below (gw_Q D vwCl (wA ad cI cZ cJ) A u (some (.int r))) [.ref (ad 0), .int a1, .int a2].toArray s 0 0 A) (F0 m 0 ls []) by rw [hH] at g; exact g
  unfold f_A_mostToTake at h
  refine lv_aload_n hx hb dA_mostToTake_0 rfl (lv_at hl 0 rfl) ?_
  refine va_get (D := D) (ci := 0) (v := .ref (ad 2)) (C := RA) (T := TA) (N := 9) hx hb hG inA hown hK hP 0 rfl rfl 1 (by decide) (hG _ mw_175) (fun _ h9 => h9) rfl dA_mostToTake_1 ?_
  refine lv_iload_n hx hb dA_mostToTake_4 rfl (lv_at hl 2 rfl) ?_
  refine lv_aload_n hx hb dA_mostToTake_5 rfl (lv_at hl 0 rfl) ?_
  refine va_get (D := D) (ci := 0) (v := .ref (ad 3)) (C := RA) (T := TA) (N := 9) hx hb hG inA hown hK hP 0 rfl rfl 2 (by decide) (hG _ mw_176) (fun _ h9 => h9) rfl dA_mostToTake_6 ?_
  refine va_get (D := D) (ci := 3) (v := .ref (ad 16)) (C := RAs) (T := TAs) (N := 10) hx hb hG inAs hown hK hP 3 rfl rfl 0 (by decide) (hG _ mw_88) (fun _ h9 => h9) rfl dA_mostToTake_9 ?_
  refine lv_iload_n hx hb dA_mostToTake_12 rfl (lv_at hl 1 rfl) ?_
  obtain ⟨hg1, h⟩ := gI_some h
  refine va_iald (f := (u.2.1 10)) hx hb hK hP 16 0 rfl rfl hg1 dA_mostToTake_13 ?_
  refine lv_aload_n hx hb dA_mostToTake_14 rfl (lv_at hl 0 rfl) ?_
  refine va_get (D := D) (ci := 0) (v := .int (u.1 0)) (C := RA) (T := TA) (N := 9) hx hb hG inA hown hK hP 0 rfl rfl 6 (by decide) (hG _ mw_180) (fun _ h9 => h9) rfl dA_mostToTake_15 ?_
  obtain ⟨q2, q2_h, h⟩ := gw_bind h
  refine gw_callV (As := [.int a2, .int (u.2.1 10 (a1).toNatClampNeg), .int (u.1 0)]) (rest := []) (u := u) (u' := u) hx hb hml hown hG (c_Ag_holding l D ad cI cZ cJ N u a2 (u.2.1 10 (a1).toNatClampNeg) (u.1 0) _ q2_h) lk_A_275 rfl rfl ⟨Nat.le_of_ble_eq_true rfl, Nat.le_of_ble_eq_true rfl⟩ (va_recv hK hP (ci := 2) (q0 := 2) rfl rfl) hK hP hD hS hA rfl hl.1 rfl (Nat.le_of_ble_eq_true rfl) dA_mostToTake_18 ⟨Nat.le_of_ble_eq_true rfl, Nat.le_of_ble_eq_true rfl⟩ (fun H locs hP hD hS => ?_)
  refine lv_istore_n (lv' := [(3, .int q2), (0, .ref (ad 0)), (1, .int a1), (2, .int a2)]) hx hb dA_mostToTake_21 rfl hl (by decide) rfl (fun ls hl => ?_)
  refine lv_iload_n hx hb dA_mostToTake_22 rfl (lv_at hl 0 rfl) ?_
  refine lv_iconst (v := (-1 : Int32)) hx hb dA_mostToTake_23 (by decide) ?_
  refine lv_icmp_ne (tgt := 29) hx hb dA_mostToTake_24 (by decide) (fun hc => ?_) (fun hc => ?_)
  · rw [if_neg hc] at h
    refine lv_aload_n hx hb dA_mostToTake_29 rfl (lv_at hl 1 rfl) ?_
    refine va_get (D := D) (ci := 0) (v := .ref (ad 3)) (C := RA) (T := TA) (N := 9) hx hb hG inA hown hK hP 0 rfl rfl 2 (by decide) (hG _ mw_176) (fun _ h9 => h9) rfl dA_mostToTake_30 ?_
    refine lv_iload_n hx hb dA_mostToTake_33 rfl (lv_at hl 2 rfl) ?_
    obtain ⟨q3, q3_h, h⟩ := gw_bind h
    refine gw_callV (As := [.int a1]) (rest := []) (u := u) (u' := u) hx hb hml hown hG (c_As_wanting l D ad cI cZ cJ u a1 _ q3_h) lk_A_287 rfl rfl ⟨Nat.le_of_ble_eq_true rfl, Nat.le_of_ble_eq_true rfl⟩ (va_recv hK hP (ci := 3) (q0 := 3) rfl rfl) hK hP hD hS hA rfl hl.1 rfl (Nat.le_of_ble_eq_true rfl) dA_mostToTake_34 ⟨Nat.le_of_ble_eq_true rfl, Nat.le_of_ble_eq_true rfl⟩ (fun H locs hP hD hS => ?_)
    refine lv_aload_n hx hb dA_mostToTake_37 rfl (lv_at hl 1 rfl) ?_
    refine va_get (D := D) (ci := 0) (v := .ref (ad 2)) (C := RA) (T := TA) (N := 9) hx hb hG inA hown hK hP 0 rfl rfl 1 (by decide) (hG _ mw_175) (fun _ h9 => h9) rfl dA_mostToTake_38 ?_
    refine va_get (D := D) (ci := 2) (v := .ref (ad 15)) (C := RAg) (T := TAg) (N := 7) hx hb hG inAg hown hK hP 2 rfl rfl 5 (by decide) (hG _ mw_64) (fun _ h9 => h9) rfl dA_mostToTake_41 ?_
    refine lv_iload_n hx hb dA_mostToTake_44 rfl (lv_at hl 0 rfl) ?_
    obtain ⟨hg4, h⟩ := gI_some h
    refine va_iald (f := (u.2.1 9)) hx hb hK hP 15 0 rfl rfl hg4 dA_mostToTake_45 ?_
    refine lv_aload_n hx hb dA_mostToTake_46 rfl (lv_at hl 1 rfl) ?_
    refine va_get (D := D) (ci := 0) (v := .ref (ad 4)) (C := RA) (T := TA) (N := 9) hx hb hG inA hown hK hP 0 rfl rfl 3 (by decide) (hG _ mw_177) (fun _ h9 => h9) rfl dA_mostToTake_47 ?_
    refine lv_iload_n hx hb dA_mostToTake_50 rfl (lv_at hl 0 rfl) ?_
    obtain ⟨q5, q5_h, h⟩ := gw_bind h
    refine gw_callV (As := [.int q2]) (rest := [.int (u.2.1 9 (q2).toNatClampNeg), .int q3]) (u := u) (u' := u) hx hb hml hown hG (c_Lo_lentUnder l D ad cI cZ cJ N u q2 _ q5_h) lk_A_293 rfl rfl ⟨Nat.le_of_ble_eq_true rfl, Nat.le_of_ble_eq_true rfl⟩ (va_recv hK hP (ci := 4) (q0 := 4) rfl rfl) hK hP hD hS hA rfl hl.1 rfl (Nat.le_of_ble_eq_true rfl) dA_mostToTake_51 ⟨Nat.le_of_ble_eq_true rfl, Nat.le_of_ble_eq_true rfl⟩ (fun H locs hP hD hS => ?_)
    refine lv_isub hx hb dA_mostToTake_54 ?_
    refine va_mmin hx hb (hml.trans hl.1.symm) hown (hG _ mw_481) (hG _ mw_482) (hG _ mw_16) (hG _ mw_483) (Nat.le_of_ble_eq_true rfl) (Nat.le_of_ble_eq_true rfl) (Nat.le_of_ble_eq_true rfl) (Nat.le_of_ble_eq_true rfl) dA_mostToTake_55 ?_
    refine W.eq (g2 := F0 m 58 ls (.int (f_JM_min q3 ((u.2.1 9 (q2).toNatClampNeg) - q5)) :: [])) rfl ?_
    cases h
    exact gw_iret hx hb hr hlocks hP hD hS dA_mostToTake_58
  · rw [if_pos hc] at h
    refine lv_iconst (v := (0 : Int32)) hx hb dA_mostToTake_27 (by decide) ?_
    cases h
    exact gw_iret hx hb hr hlocks hP hD hS dA_mostToTake_28
set_option maxHeartbeats 4000000 in
set_option maxRecDepth 100000 in
theorem lp_Lo_freeName_7 {p : Program} {l : Launch} {e : Env} {s : State} {m : MethodId} {args : Array Value} {below : List Frame} {meth : Method} {c : Code} {A : Nat → Prop} {D : va_G} {ad : Nat → Nat} {cI cZ cJ : ClassId} (hC : gw_C p s m args meth c "AidRows$Loans" cLo_freeName 4 (some .int) gG D vwCl (tA cI cZ cJ) A) (N : Nat) : ∀ (n : Nat) (u : StA) (x1 : Int32) (x2 : Int32) (x3 : Int32) (r : Int32), f_Lo_freeName_7 N n u x1 x2 x3 = some r → ∀ (H : Heap) (locs : List Loc) (ls : Array Slot), va_P D vwCl (wA ad cI cZ cJ u) H → va_D A (wA ad cI cZ cJ u) → va_S A s.heap H locs → lv_has ls 4 [(0, .ref (ad 4)), (1, .int x1), (2, .int x2), (3, .int x3)] → W p l e ({ frames := 2, cells := 0, slots := 0, locals := 43 } : Room) s m args below meth c H locs 0 0 (MQ below (gw_Q D vwCl (wA ad cI cZ cJ) A u (some (.int r))) args s 0 0 A) (F0 m 7 ls []) := by
  obtain ⟨hx, hb, hr, hml, hG, hown, hlocks, hK, hA⟩ := id hC
  intro n
  induction n with
  | zero => intro u x1 x2 x3 r h; cases h
  | succ n ih =>
    intro u x1 x2 x3 r h H locs ls hP hD hS hl
    rw [f_Lo_freeName_7] at h
    refine lv_iload_n hx hb dLo_freeName_7 rfl (lv_at hl 3 rfl) ?_
    refine lv_bipush (v := (99 : Int32)) hx hb dLo_freeName_8 (by decide) ?_
    refine lv_icmp_ge (tgt := 31) hx hb dLo_freeName_10 (by decide) (fun hc => ?_) (fun hc => ?_)
    · rw [if_pos hc] at h
      refine lv_iload_n hx hb dLo_freeName_31 rfl (lv_at hl 2 rfl) ?_
      cases h
      exact gw_iret hx hb hr hlocks hP hD hS dLo_freeName_32
    · rw [if_neg hc] at h
      refine lv_aload_n hx hb dLo_freeName_13 rfl (lv_at hl 0 rfl) ?_
      refine lv_iload_n hx hb dLo_freeName_14 rfl (lv_at hl 2 rfl) ?_
      obtain ⟨q1, q1_h, h⟩ := gw_bind h
      refine gw_callV (As := [.int x2]) (rest := []) (u := u) (u' := u) hx hb hml hown hG (c_Lo_bearerOf l D ad cI cZ cJ N u x2 _ q1_h) lk_Lo_38 rfl rfl ⟨Nat.le_of_ble_eq_true rfl, Nat.le_of_ble_eq_true rfl⟩ (va_recv hK hP (ci := 4) (q0 := 4) rfl rfl) hK hP hD hS hA rfl hl.1 rfl (Nat.le_of_ble_eq_true rfl) dLo_freeName_15 ⟨Nat.le_of_ble_eq_true rfl, Nat.le_of_ble_eq_true rfl⟩ (fun H locs hP hD hS => ?_)
      refine lv_iconst (v := (-1 : Int32)) hx hb dLo_freeName_18 (by decide) ?_
      refine lv_icmp_eq (tgt := 31) hx hb dLo_freeName_19 (by decide) (fun hc => ?_) (fun hc => ?_)
      · rw [if_pos hc] at h
        refine lv_iload_n hx hb dLo_freeName_31 rfl (lv_at hl 2 rfl) ?_
        cases h
        exact gw_iret hx hb hr hlocks hP hD hS dLo_freeName_32
      · rw [if_neg hc] at h
        refine lv_iinc (v := (x2 + (1 : Int32))) (lv' := [(2, .int (x2 + (1 : Int32))), (0, .ref (ad 4)), (1, .int x1), (3, .int x3)]) hx hb dLo_freeName_22 hl (k := 2) rfl rfl (by decide) rfl (fun ls hl => ?_)
        refine lv_iinc (v := (x3 + (1 : Int32))) (lv' := [(3, .int (x3 + (1 : Int32))), (2, .int (x2 + (1 : Int32))), (0, .ref (ad 4)), (1, .int x1)]) hx hb dLo_freeName_25 hl (k := 3) rfl rfl (by decide) rfl (fun ls hl => ?_)
        refine lv_goto (tgt := 7) hx hb dLo_freeName_28 (by decide) ?_
        exact ih u x1 (x2 + (1 : Int32)) (x3 + (1 : Int32)) _ h H locs ls hP hD hS (lv_sub hl [2, 3, 1, 0] rfl)
set_option maxHeartbeats 4000000 in
set_option maxRecDepth 100000 in
theorem c_Lo_freeName (l : Launch) (D : va_G) (ad : Nat → Nat) (cI cZ cJ : ClassId) (N : Nat) (u : StA) (a1 : Int32) (r : Int32) (h : f_Lo_freeName N u a1 = some r) : gw_Ct l D vwCl (tA cI cZ cJ) (wA ad cI cZ cJ) yLo_freeName (Cond.code yLo_freeName cLo_freeName 4 (some .int) :: gG) ({ frames := 2, cells := 0, slots := 0, locals := 43 } : Room) [.ref (ad 4), .int a1] u (some (.int r)) u := by
  refine gw_enter (by decide) (Nat.le_of_ble_eq_true rfl) ?_
  intro p e s m below meth c A hC hP hD hS ls hl
  obtain ⟨hx, hb, hr, hml, hG, hown, hlocks, hK, hA⟩ := id hC
  have hl : lv_has ls 4 [(0, .ref (ad 4)), (1, .int a1)] := hl
  obtain ⟨H, hH⟩ : ∃ H, H = s.heap := ⟨_, rfl⟩
  obtain ⟨locs, hlocs⟩ : ∃ x : List Loc, x = [] := ⟨_, rfl⟩
  rw [← hlocs] at hS ⊢
  have hP : va_P D vwCl (wA ad cI cZ cJ u) H := by rw [hH]; exact hP
  have hS : va_S A s.heap H locs := by rw [hH]; exact hS
  suffices g : W p l e ({ frames := 2, cells := 0, slots := 0, locals := 43 } : Room) s m [.ref (ad 4), .int a1].toArray below meth c H locs 0 0 (MQ below (gw_Q D vwCl (wA ad cI cZ cJ) A u (some (.int r))) [.ref (ad 4), .int a1].toArray s 0 0 A) (F0 m 0 ls []) by rw [hH] at g; exact g
  unfold f_Lo_freeName at h
  refine lv_iload_n hx hb dLo_freeName_0 rfl (lv_at hl 1 rfl) ?_
  refine lv_bipush (v := (100 : Int32)) hx hb dLo_freeName_1 (by decide) ?_
  refine lv_imul hx hb dLo_freeName_3 ?_
  refine lv_istore_n (lv' := [(2, .int (a1 * (100 : Int32))), (0, .ref (ad 4)), (1, .int a1)]) hx hb dLo_freeName_4 rfl hl (by decide) rfl (fun ls hl => ?_)
  refine lv_iconst (v := (0 : Int32)) hx hb dLo_freeName_5 (by decide) ?_
  refine lv_istore_n (lv' := [(3, .int (0 : Int32)), (2, .int (a1 * (100 : Int32))), (0, .ref (ad 4)), (1, .int a1)]) hx hb dLo_freeName_6 rfl hl (by decide) rfl (fun ls hl => ?_)
  exact lp_Lo_freeName_7 hC N N u a1 (a1 * (100 : Int32)) (0 : Int32) _ h H locs ls hP hD hS (lv_sub hl [2, 3, 1, 0] rfl)
set_option maxHeartbeats 4000000 in
set_option maxRecDepth 100000 in
theorem c_A_sendOn (l : Launch) (D : va_G) (ad : Nat → Nat) (cI cZ cJ : ClassId) (N : Nat) (u : StA) (a1 : Int32) (w : StA) (h : f_A_sendOn N u a1 = some w) : gw_Ct l D vwCl (tA cI cZ cJ) (wA ad cI cZ cJ) yA_sendOn (Cond.code yA_sendOn cA_sendOn 3 none :: gG) ({ frames := 3, cells := 0, slots := 0, locals := 74 } : Room) [.ref (ad 0), .int a1] u (none) w := by
  refine gw_enter (by decide) (Nat.le_of_ble_eq_true rfl) ?_
  intro p e s m below meth c A hC hP hD hS ls hl
  obtain ⟨hx, hb, hr, hml, hG, hown, hlocks, hK, hA⟩ := id hC
  have hl : lv_has ls 3 [(0, .ref (ad 0)), (1, .int a1)] := hl
  obtain ⟨H, hH⟩ : ∃ H, H = s.heap := ⟨_, rfl⟩
  obtain ⟨locs, hlocs⟩ : ∃ x : List Loc, x = [] := ⟨_, rfl⟩
  rw [← hlocs] at hS ⊢
  have hP : va_P D vwCl (wA ad cI cZ cJ u) H := by rw [hH]; exact hP
  have hS : va_S A s.heap H locs := by rw [hH]; exact hS
  suffices g : W p l e ({ frames := 3, cells := 0, slots := 0, locals := 74 } : Room) s m [.ref (ad 0), .int a1].toArray below meth c H locs 0 0 (MQ below (gw_Q D vwCl (wA ad cI cZ cJ) A w (none)) [.ref (ad 0), .int a1].toArray s 0 0 A) (F0 m 0 ls []) by rw [hH] at g; exact g
  unfold f_A_sendOn at h
  refine lv_aload_n hx hb dA_sendOn_0 rfl (lv_at hl 0 rfl) ?_
  refine lv_iload_n hx hb dA_sendOn_1 rfl (lv_at hl 1 rfl) ?_
  obtain ⟨q1, q1_h, h⟩ := gw_bind h
  refine gw_callV (As := [.int a1]) (rest := []) (u := u) (u' := u) hx hb hml hown hG (c_A_nextHouse l D ad cI cZ cJ N u a1 _ q1_h) lk_A_257 rfl rfl ⟨Nat.le_of_ble_eq_true rfl, Nat.le_of_ble_eq_true rfl⟩ (va_recv hK hP (ci := 0) (q0 := 0) rfl rfl) hK hP hD hS hA rfl hl.1 rfl (Nat.le_of_ble_eq_true rfl) dA_sendOn_2 ⟨Nat.le_of_ble_eq_true rfl, Nat.le_of_ble_eq_true rfl⟩ (fun H locs hP hD hS => ?_)
  refine lv_istore_n (lv' := [(2, .int q1), (0, .ref (ad 0)), (1, .int a1)]) hx hb dA_sendOn_5 rfl hl (by decide) rfl (fun ls hl => ?_)
  refine lv_iload_n hx hb dA_sendOn_6 rfl (lv_at hl 0 rfl) ?_
  refine lv_iconst (v := (-1 : Int32)) hx hb dA_sendOn_7 (by decide) ?_
  refine lv_icmp_ne (tgt := 23) hx hb dA_sendOn_8 (by decide) (fun hc => ?_) (fun hc => ?_)
  · rw [if_neg hc] at h
    refine lv_aload_n hx hb dA_sendOn_23 rfl (lv_at hl 1 rfl) ?_
    refine va_get (D := D) (ci := 0) (v := .ref (ad 3)) (C := RA) (T := TA) (N := 9) hx hb hG inA hown hK hP 0 rfl rfl 2 (by decide) (hG _ mw_176) (fun _ h9 => h9) rfl dA_sendOn_24 ?_
    refine lv_iload_n hx hb dA_sendOn_27 rfl (lv_at hl 2 rfl) ?_
    refine lv_iload_n hx hb dA_sendOn_28 rfl (lv_at hl 0 rfl) ?_
    refine lv_aload_n hx hb dA_sendOn_29 rfl (lv_at hl 1 rfl) ?_
    refine va_get (D := D) (ci := 0) (v := .int (u.1 0)) (C := RA) (T := TA) (N := 9) hx hb hG inA hown hK hP 0 rfl rfl 6 (by decide) (hG _ mw_180) (fun _ h9 => h9) rfl dA_sendOn_30 ?_
    refine lv_aload_n hx hb dA_sendOn_33 rfl (lv_at hl 1 rfl) ?_
    refine va_get (D := D) (ci := 0) (v := .ref (ad 1)) (C := RA) (T := TA) (N := 9) hx hb hG inA hown hK hP 0 rfl rfl 0 (by decide) (hG _ mw_174) (fun _ h9 => h9) rfl dA_sendOn_34 ?_
    refine va_get (D := D) (ci := 1) (v := .ref (ad 9)) (C := RHo) (T := THo) (N := 4) hx hb hG inHo hown hK hP 1 rfl rfl 2 (by decide) (hG _ mw_37) (fun _ h9 => h9) rfl dA_sendOn_37 ?_
    refine lv_iload_n hx hb dA_sendOn_40 rfl (lv_at hl 0 rfl) ?_
    obtain ⟨hg2, h⟩ := gI_some h
    refine va_zald (f := (u.2.1 3)) hx hb hK hP 9 1 rfl rfl hg2 dA_sendOn_41 ?_
    obtain ⟨q3, q3_h, h⟩ := gw_bind h
    refine gw_callV (As := [.int a1, .int q1, .int (u.1 0), .int (u.2.1 3 (q1).toNatClampNeg)]) (rest := []) (u := u) (u' := q3) hx hb hml hown hG (c_As_move l D ad cI cZ cJ u a1 q1 (u.1 0) (u.2.1 3 (q1).toNatClampNeg) _ q3_h) lk_A_264 rfl rfl ⟨Nat.le_of_ble_eq_true rfl, Nat.le_of_ble_eq_true rfl⟩ (va_recv hK hP (ci := 3) (q0 := 3) rfl rfl) hK hP hD hS hA rfl hl.1 rfl (Nat.le_of_ble_eq_true rfl) dA_sendOn_42 ⟨Nat.le_of_ble_eq_true rfl, Nat.le_of_ble_eq_true rfl⟩ (fun H locs hP hD hS => ?_)
    cases h
    exact gw_vret hx hb hr hlocks hP hD hS dA_sendOn_45
  · rw [if_pos hc] at h
    refine lv_aload_n hx hb dA_sendOn_11 rfl (lv_at hl 1 rfl) ?_
    refine va_get (D := D) (ci := 0) (v := .ref (ad 3)) (C := RA) (T := TA) (N := 9) hx hb hG inA hown hK hP 0 rfl rfl 2 (by decide) (hG _ mw_176) (fun _ h9 => h9) rfl dA_sendOn_12 ?_
    refine lv_iload_n hx hb dA_sendOn_15 rfl (lv_at hl 2 rfl) ?_
    refine lv_iconst (v := (2 : Int32)) hx hb dA_sendOn_16 (by decide) ?_
    obtain ⟨q4, q4_h, h⟩ := gw_bind h
    refine gw_callV (As := [.int a1, .int (2 : Int32)]) (rest := []) (u := u) (u' := q4) hx hb hml hown hG (c_As_close l D ad cI cZ cJ u a1 (2 : Int32) _ q4_h) lk_A_260 rfl rfl ⟨Nat.le_of_ble_eq_true rfl, Nat.le_of_ble_eq_true rfl⟩ (va_recv hK hP (ci := 3) (q0 := 3) rfl rfl) hK hP hD hS hA rfl hl.1 rfl (Nat.le_of_ble_eq_true rfl) dA_sendOn_17 ⟨Nat.le_of_ble_eq_true rfl, Nat.le_of_ble_eq_true rfl⟩ (fun H locs hP hD hS => ?_)
    refine lv_goto (tgt := 45) hx hb dA_sendOn_20 (by decide) ?_
    cases h
    exact gw_vret hx hb hr hlocks hP hD hS dA_sendOn_45
set_option maxHeartbeats 4000000 in
set_option maxRecDepth 100000 in
theorem lp_A_judge_23 {p : Program} {l : Launch} {e : Env} {s : State} {m : MethodId} {args : Array Value} {below : List Frame} {meth : Method} {c : Code} {A : Nat → Prop} {D : va_G} {ad : Nat → Nat} {cI cZ cJ : ClassId} (hC : gw_C p s m args meth c "AidRows" cA_judge 5 (some .int) gG D vwCl (tA cI cZ cJ) A) (N : Nat) : ∀ (u : StA) (x1 : Int32) (x2 : Int32) (x3 : Int32) (y0 : Int32) (r : Int32), f_A_judge_23 N u x1 x2 x3 y0 = some r → ∀ (H : Heap) (locs : List Loc) (ls : Array Slot), va_P D vwCl (wA ad cI cZ cJ u) H → va_D A (wA ad cI cZ cJ u) → va_S A s.heap H locs → lv_has ls 5 [(0, .ref (ad 0)), (1, .int x1), (2, .int x2), (3, .int x3)] → W p l e ({ frames := 3, cells := 0, slots := 0, locals := 73 } : Room) s m args below meth c H locs 0 0 (MQ below (gw_Q D vwCl (wA ad cI cZ cJ) A u (some (.int r))) args s 0 0 A) (F0 m 23 ls [.int y0]) := by
  obtain ⟨hx, hb, hr, hml, hG, hown, hlocks, hK, hA⟩ := id hC
  intro u x1 x2 x3 y0 r h H locs ls hP hD hS hl
  unfold f_A_judge_23 at h
  refine lv_istore (lv' := [(4, .int y0), (0, .ref (ad 0)), (1, .int x1), (2, .int x2), (3, .int x3)]) hx hb dA_judge_23 hl (by decide) rfl (fun ls hl => ?_)
  refine lv_iload hx hb dA_judge_25 (lv_at hl 0 rfl) ?_
  refine lv_if_eq (tgt := 44) hx hb dA_judge_27 (by decide) (fun hc => ?_) (fun hc => ?_)
  · rw [if_pos hc] at h
    refine lv_iconst (v := (1 : Int32)) hx hb dA_judge_44 (by decide) ?_
    cases h
    exact gw_iret hx hb hr hlocks hP hD hS dA_judge_45
  · rw [if_neg hc] at h
    refine lv_iload_n hx hb dA_judge_30 rfl (lv_at hl 4 rfl) ?_
    refine lv_aload_n hx hb dA_judge_31 rfl (lv_at hl 1 rfl) ?_
    refine lv_iload_n hx hb dA_judge_32 rfl (lv_at hl 2 rfl) ?_
    refine lv_iload_n hx hb dA_judge_33 rfl (lv_at hl 3 rfl) ?_
    obtain ⟨q2, q2_h, h⟩ := gw_bind h
    refine gw_callV (As := [.int x1, .int x2]) (rest := [.int x3]) (u := u) (u' := u) hx hb hml hown hG (c_A_mostToTake l D ad cI cZ cJ N u x1 x2 _ q2_h) lk_A_284 rfl rfl ⟨Nat.le_of_ble_eq_true rfl, Nat.le_of_ble_eq_true rfl⟩ (va_recv hK hP (ci := 0) (q0 := 0) rfl rfl) hK hP hD hS hA rfl hl.1 rfl (Nat.le_of_ble_eq_true rfl) dA_judge_34 ⟨Nat.le_of_ble_eq_true rfl, Nat.le_of_ble_eq_true rfl⟩ (fun H locs hP hD hS => ?_)
    refine lv_icmp_le (tgt := 44) hx hb dA_judge_37 (by decide) (fun hc => ?_) (fun hc => ?_)
    · rw [if_pos hc] at h
      refine lv_iconst (v := (1 : Int32)) hx hb dA_judge_44 (by decide) ?_
      cases h
      exact gw_iret hx hb hr hlocks hP hD hS dA_judge_45
    · rw [if_neg hc] at h
      refine lv_iconst (v := (4 : Int32)) hx hb dA_judge_40 (by decide) ?_
      refine lv_goto (tgt := 45) hx hb dA_judge_41 (by decide) ?_
      cases h
      exact gw_iret hx hb hr hlocks hP hD hS dA_judge_45
set_option maxHeartbeats 4000000 in
set_option maxRecDepth 100000 in
theorem c_A_judge (l : Launch) (D : va_G) (ad : Nat → Nat) (cI cZ cJ : ClassId) (N : Nat) (u : StA) (a1 : Int32) (a2 : Int32) (a3 : Int32) (r : Int32) (h : f_A_judge N u a1 a2 a3 = some r) : gw_Ct l D vwCl (tA cI cZ cJ) (wA ad cI cZ cJ) yA_judge (Cond.code yA_judge cA_judge 5 (some .int) :: gG) ({ frames := 3, cells := 0, slots := 0, locals := 73 } : Room) [.ref (ad 0), .int a1, .int a2, .int a3] u (some (.int r)) u := by
  refine gw_enter (by decide) (Nat.le_of_ble_eq_true rfl) ?_
  intro p e s m below meth c A hC hP hD hS ls hl
  obtain ⟨hx, hb, hr, hml, hG, hown, hlocks, hK, hA⟩ := id hC
  have hl : lv_has ls 5 [(0, .ref (ad 0)), (1, .int a1), (2, .int a2), (3, .int a3)] := hl
  obtain ⟨H, hH⟩ : ∃ H, H = s.heap := ⟨_, rfl⟩
  obtain ⟨locs, hlocs⟩ : ∃ x : List Loc, x = [] := ⟨_, rfl⟩
  rw [← hlocs] at hS ⊢
  have hP : va_P D vwCl (wA ad cI cZ cJ u) H := by rw [hH]; exact hP
  have hS : va_S A s.heap H locs := by rw [hH]; exact hS
  suffices g : W p l e ({ frames := 3, cells := 0, slots := 0, locals := 73 } : Room) s m [.ref (ad 0), .int a1, .int a2, .int a3].toArray below meth c H locs 0 0 (MQ below (gw_Q D vwCl (wA ad cI cZ cJ) A u (some (.int r))) [.ref (ad 0), .int a1, .int a2, .int a3].toArray s 0 0 A) (F0 m 0 ls []) by rw [hH] at g; exact g
  unfold f_A_judge at h
  refine lv_aload_n hx hb dA_judge_0 rfl (lv_at hl 0 rfl) ?_
  refine va_get (D := D) (ci := 0) (v := .ref (ad 3)) (C := RA) (T := TA) (N := 9) hx hb hG inA hown hK hP 0 rfl rfl 2 (by decide) (hG _ mw_176) (fun _ h9 => h9) rfl dA_judge_1 ?_
  refine lv_iload_n hx hb dA_judge_4 rfl (lv_at hl 1 rfl) ?_
  refine lv_iload_n hx hb dA_judge_5 rfl (lv_at hl 2 rfl) ?_
  obtain ⟨q1, q1_h, h⟩ := gw_bind h
  refine gw_callV (As := [.int a1, .int a2]) (rest := []) (u := u) (u' := u) hx hb hml hown hG (c_As_isOpenAt l D ad cI cZ cJ u a1 a2 _ q1_h) lk_A_281 rfl rfl ⟨Nat.le_of_ble_eq_true rfl, Nat.le_of_ble_eq_true rfl⟩ (va_recv hK hP (ci := 3) (q0 := 3) rfl rfl) hK hP hD hS hA rfl hl.1 rfl (Nat.le_of_ble_eq_true rfl) dA_judge_6 ⟨Nat.le_of_ble_eq_true rfl, Nat.le_of_ble_eq_true rfl⟩ (fun H locs hP hD hS => ?_)
  refine lv_if_ne (tgt := 14) hx hb dA_judge_9 (by decide) (fun hc => ?_) (fun hc => ?_)
  · rw [if_neg hc] at h
    refine lv_iload_n hx hb dA_judge_14 rfl (lv_at hl 3 rfl) ?_
    refine lv_if_le (tgt := 22) hx hb dA_judge_15 (by decide) (fun hc => ?_) (fun hc => ?_)
    · rw [if_pos hc] at h
      refine lv_iconst (v := (0 : Int32)) hx hb dA_judge_22 (by decide) ?_
      exact lp_A_judge_23 hC N u a1 a2 a3 (0 : Int32) _ h H locs ls hP hD hS (lv_sub hl [0, 1, 2, 3] rfl)
    · rw [if_neg hc] at h
      refine lv_iconst (v := (1 : Int32)) hx hb dA_judge_18 (by decide) ?_
      refine lv_goto (tgt := 23) hx hb dA_judge_19 (by decide) ?_
      exact lp_A_judge_23 hC N u a1 a2 a3 (1 : Int32) _ h H locs ls hP hD hS (lv_sub hl [0, 1, 2, 3] rfl)
  · rw [if_pos hc] at h
    refine lv_iconst (v := (3 : Int32)) hx hb dA_judge_12 (by decide) ?_
    cases h
    exact gw_iret hx hb hr hlocks hP hD hS dA_judge_13
set_option maxHeartbeats 4000000 in
set_option maxRecDepth 100000 in
theorem lp_A_sendOnImpatientAsks_4 {p : Program} {l : Launch} {e : Env} {s : State} {m : MethodId} {args : Array Value} {below : List Frame} {meth : Method} {c : Code} {A : Nat → Prop} {D : va_G} {ad : Nat → Nat} {cI cZ cJ : ClassId} (hC : gw_C p s m args meth c "AidRows" cA_sendOnImpatientAsks 3 (some .int) gG D vwCl (tA cI cZ cJ) A) (N : Nat) : ∀ (n : Nat) (u : StA) (x1 : Int32) (x2 : Int32) (r : Int32) (w : StA), f_A_sendOnImpatientAsks_4 N n u x1 x2 = some (r, w) → ∀ (H : Heap) (locs : List Loc) (ls : Array Slot), va_P D vwCl (wA ad cI cZ cJ u) H → va_D A (wA ad cI cZ cJ u) → va_S A s.heap H locs → lv_has ls 3 [(0, .ref (ad 0)), (1, .int x1), (2, .int x2)] → W p l e ({ frames := 4, cells := 0, slots := 0, locals := 96 } : Room) s m args below meth c H locs 0 0 (MQ below (gw_Q D vwCl (wA ad cI cZ cJ) A w (some (.int r))) args s 0 0 A) (F0 m 4 ls []) := by
  obtain ⟨hx, hb, hr, hml, hG, hown, hlocks, hK, hA⟩ := id hC
  intro n
  induction n with
  | zero => intro u x1 x2 r w h; cases h
  | succ n ih =>
    intro u x1 x2 r w h H locs ls hP hD hS hl
    rw [f_A_sendOnImpatientAsks_4] at h
    refine lv_iload_n hx hb dA_sendOnImpatientAsks_4 rfl (lv_at hl 2 rfl) ?_
    refine lv_aload_n hx hb dA_sendOnImpatientAsks_5 rfl (lv_at hl 0 rfl) ?_
    refine va_get (D := D) (ci := 0) (v := .ref (ad 3)) (C := RA) (T := TA) (N := 9) hx hb hG inA hown hK hP 0 rfl rfl 2 (by decide) (hG _ mw_176) (fun _ h9 => h9) rfl dA_sendOnImpatientAsks_6 ?_
    refine va_get (D := D) (ci := 3) (v := .int (u.1 5)) (C := RAs) (T := TAs) (N := 10) hx hb hG inAs hown hK hP 3 rfl rfl 9 (by decide) (hG _ mw_103) (fun _ h9 => h9) rfl dA_sendOnImpatientAsks_9 ?_
    refine lv_icmp_ge (tgt := 55) hx hb dA_sendOnImpatientAsks_12 (by decide) (fun hc => ?_) (fun hc => ?_)
    · rw [if_pos hc] at h
      refine lv_iload_n hx hb dA_sendOnImpatientAsks_55 rfl (lv_at hl 1 rfl) ?_
      cases h
      exact gw_iret hx hb hr hlocks hP hD hS dA_sendOnImpatientAsks_56
    · rw [if_neg hc] at h
      refine lv_aload_n hx hb dA_sendOnImpatientAsks_15 rfl (lv_at hl 0 rfl) ?_
      refine va_get (D := D) (ci := 0) (v := .ref (ad 3)) (C := RA) (T := TA) (N := 9) hx hb hG inA hown hK hP 0 rfl rfl 2 (by decide) (hG _ mw_176) (fun _ h9 => h9) rfl dA_sendOnImpatientAsks_16 ?_
      refine lv_iload_n hx hb dA_sendOnImpatientAsks_19 rfl (lv_at hl 2 rfl) ?_
      obtain ⟨q1, q1_h, h⟩ := gw_bind h
      refine gw_callV (As := [.int x2]) (rest := []) (u := u) (u' := u) hx hb hml hown hG (c_As_isOpen l D ad cI cZ cJ u x2 _ q1_h) lk_A_307 rfl rfl ⟨Nat.le_of_ble_eq_true rfl, Nat.le_of_ble_eq_true rfl⟩ (va_recv hK hP (ci := 3) (q0 := 3) rfl rfl) hK hP hD hS hA rfl hl.1 rfl (Nat.le_of_ble_eq_true rfl) dA_sendOnImpatientAsks_20 ⟨Nat.le_of_ble_eq_true rfl, Nat.le_of_ble_eq_true rfl⟩ (fun H locs hP hD hS => ?_)
      refine lv_if_eq (tgt := 49) hx hb dA_sendOnImpatientAsks_23 (by decide) (fun hc => ?_) (fun hc => ?_)
      · rw [if_pos hc] at h
        refine lv_iinc (v := (x2 + (1 : Int32))) (lv' := [(2, .int (x2 + (1 : Int32))), (0, .ref (ad 0)), (1, .int x1)]) hx hb dA_sendOnImpatientAsks_49 hl (k := 2) rfl rfl (by decide) rfl (fun ls hl => ?_)
        refine lv_goto (tgt := 4) hx hb dA_sendOnImpatientAsks_52 (by decide) ?_
        exact ih u x1 (x2 + (1 : Int32)) _ _ h H locs ls hP hD hS (lv_sub hl [1, 2, 0] rfl)
      · rw [if_neg hc] at h
        refine lv_aload_n hx hb dA_sendOnImpatientAsks_26 rfl (lv_at hl 0 rfl) ?_
        refine va_get (D := D) (ci := 0) (v := .ref (ad 3)) (C := RA) (T := TA) (N := 9) hx hb hG inA hown hK hP 0 rfl rfl 2 (by decide) (hG _ mw_176) (fun _ h9 => h9) rfl dA_sendOnImpatientAsks_27 ?_
        refine lv_iload_n hx hb dA_sendOnImpatientAsks_30 rfl (lv_at hl 2 rfl) ?_
        obtain ⟨q2, q2_h, h⟩ := gw_bind h
        refine gw_callV (As := [.int x2]) (rest := []) (u := u) (u' := u) hx hb hml hown hG (c_As_patienceEnd l D ad cI cZ cJ u x2 _ q2_h) lk_A_310 rfl rfl ⟨Nat.le_of_ble_eq_true rfl, Nat.le_of_ble_eq_true rfl⟩ (va_recv hK hP (ci := 3) (q0 := 3) rfl rfl) hK hP hD hS hA rfl hl.1 rfl (Nat.le_of_ble_eq_true rfl) dA_sendOnImpatientAsks_31 ⟨Nat.le_of_ble_eq_true rfl, Nat.le_of_ble_eq_true rfl⟩ (fun H locs hP hD hS => ?_)
        refine lv_aload_n hx hb dA_sendOnImpatientAsks_34 rfl (lv_at hl 0 rfl) ?_
        refine va_get (D := D) (ci := 0) (v := .int (u.1 0)) (C := RA) (T := TA) (N := 9) hx hb hG inA hown hK hP 0 rfl rfl 6 (by decide) (hG _ mw_180) (fun _ h9 => h9) rfl dA_sendOnImpatientAsks_35 ?_
        refine lv_icmp_gt (tgt := 49) hx hb dA_sendOnImpatientAsks_38 (by decide) (fun hc => ?_) (fun hc => ?_)
        · rw [if_pos hc] at h
          refine lv_iinc (v := (x2 + (1 : Int32))) (lv' := [(2, .int (x2 + (1 : Int32))), (0, .ref (ad 0)), (1, .int x1)]) hx hb dA_sendOnImpatientAsks_49 hl (k := 2) rfl rfl (by decide) rfl (fun ls hl => ?_)
          refine lv_goto (tgt := 4) hx hb dA_sendOnImpatientAsks_52 (by decide) ?_
          exact ih u x1 (x2 + (1 : Int32)) _ _ h H locs ls hP hD hS (lv_sub hl [1, 2, 0] rfl)
        · rw [if_neg hc] at h
          refine lv_aload_n hx hb dA_sendOnImpatientAsks_41 rfl (lv_at hl 0 rfl) ?_
          refine lv_iload_n hx hb dA_sendOnImpatientAsks_42 rfl (lv_at hl 2 rfl) ?_
          obtain ⟨q3, q3_h, h⟩ := gw_bind h
          refine gw_callV (As := [.int x2]) (rest := []) (u := u) (u' := q3) hx hb hml hown hG (c_A_sendOn l D ad cI cZ cJ N u x2 _ q3_h) lk_A_121 rfl rfl ⟨Nat.le_of_ble_eq_true rfl, Nat.le_of_ble_eq_true rfl⟩ (va_recv hK hP (ci := 0) (q0 := 0) rfl rfl) hK hP hD hS hA rfl hl.1 rfl (Nat.le_of_ble_eq_true rfl) dA_sendOnImpatientAsks_43 ⟨Nat.le_of_ble_eq_true rfl, Nat.le_of_ble_eq_true rfl⟩ (fun H locs hP hD hS => ?_)
          refine lv_iinc (v := (x1 + (1 : Int32))) (lv' := [(1, .int (x1 + (1 : Int32))), (0, .ref (ad 0)), (2, .int x2)]) hx hb dA_sendOnImpatientAsks_46 hl (k := 1) rfl rfl (by decide) rfl (fun ls hl => ?_)
          refine lv_iinc (v := (x2 + (1 : Int32))) (lv' := [(2, .int (x2 + (1 : Int32))), (1, .int (x1 + (1 : Int32))), (0, .ref (ad 0))]) hx hb dA_sendOnImpatientAsks_49 hl (k := 2) rfl rfl (by decide) rfl (fun ls hl => ?_)
          refine lv_goto (tgt := 4) hx hb dA_sendOnImpatientAsks_52 (by decide) ?_
          exact ih q3 (x1 + (1 : Int32)) (x2 + (1 : Int32)) _ _ h H locs ls hP hD hS (lv_sub hl [2, 1, 0] rfl)
set_option maxHeartbeats 4000000 in
set_option maxRecDepth 100000 in
theorem c_A_sendOnImpatientAsks (l : Launch) (D : va_G) (ad : Nat → Nat) (cI cZ cJ : ClassId) (N : Nat) (u : StA) (r : Int32) (w : StA) (h : f_A_sendOnImpatientAsks N u = some (r, w)) : gw_Ct l D vwCl (tA cI cZ cJ) (wA ad cI cZ cJ) yA_sendOnImpatientAsks (Cond.code yA_sendOnImpatientAsks cA_sendOnImpatientAsks 3 (some .int) :: gG) ({ frames := 4, cells := 0, slots := 0, locals := 96 } : Room) [.ref (ad 0)] u (some (.int r)) w := by
  refine gw_enter (by decide) (Nat.le_of_ble_eq_true rfl) ?_
  intro p e s m below meth c A hC hP hD hS ls hl
  obtain ⟨hx, hb, hr, hml, hG, hown, hlocks, hK, hA⟩ := id hC
  have hl : lv_has ls 3 [(0, .ref (ad 0))] := hl
  obtain ⟨H, hH⟩ : ∃ H, H = s.heap := ⟨_, rfl⟩
  obtain ⟨locs, hlocs⟩ : ∃ x : List Loc, x = [] := ⟨_, rfl⟩
  rw [← hlocs] at hS ⊢
  have hP : va_P D vwCl (wA ad cI cZ cJ u) H := by rw [hH]; exact hP
  have hS : va_S A s.heap H locs := by rw [hH]; exact hS
  suffices g : W p l e ({ frames := 4, cells := 0, slots := 0, locals := 96 } : Room) s m [.ref (ad 0)].toArray below meth c H locs 0 0 (MQ below (gw_Q D vwCl (wA ad cI cZ cJ) A w (some (.int r))) [.ref (ad 0)].toArray s 0 0 A) (F0 m 0 ls []) by rw [hH] at g; exact g
  unfold f_A_sendOnImpatientAsks at h
  refine lv_iconst (v := (0 : Int32)) hx hb dA_sendOnImpatientAsks_0 (by decide) ?_
  refine lv_istore_n (lv' := [(1, .int (0 : Int32)), (0, .ref (ad 0))]) hx hb dA_sendOnImpatientAsks_1 rfl hl (by decide) rfl (fun ls hl => ?_)
  refine lv_iconst (v := (0 : Int32)) hx hb dA_sendOnImpatientAsks_2 (by decide) ?_
  refine lv_istore_n (lv' := [(2, .int (0 : Int32)), (1, .int (0 : Int32)), (0, .ref (ad 0))]) hx hb dA_sendOnImpatientAsks_3 rfl hl (by decide) rfl (fun ls hl => ?_)
  exact lp_A_sendOnImpatientAsks_4 hC N N u (0 : Int32) (0 : Int32) _ _ h H locs ls hP hD hS (lv_sub hl [2, 1, 0] rfl)
end
section
set_option maxHeartbeats 4000000 in
set_option maxRecDepth 100000 in
theorem c_Lo_add (l : Launch) (D : va_G) (ad : Nat → Nat) (cI cZ cJ : ClassId) (N : Nat) (u : StA) (a1 : Int32) (a2 : Int32) (a3 : Int32) (a4 : Int32) (w : StA) (h : f_Lo_add N u a1 a2 a3 a4 = some w) : gw_Ct l D vwCl (tA cI cZ cJ) (wA ad cI cZ cJ) yLo_add (Cond.code yLo_add cLo_add 5 none :: gG) ({ frames := 3, cells := 0, slots := 0, locals := 66 } : Room) [.ref (ad 4), .int a1, .int a2, .int a3, .int a4] u (none) w := by
  refine gw_enter (by decide) (Nat.le_of_ble_eq_true rfl) ?_
  intro p e s m below meth c A hC hP hD hS ls hl
  obtain ⟨hx, hb, hr, hml, hG, hown, hlocks, hK, hA⟩ := id hC
  have hl : lv_has ls 5 [(0, .ref (ad 4)), (1, .int a1), (2, .int a2), (3, .int a3), (4, .int a4)] := hl
  obtain ⟨H, hH⟩ : ∃ H, H = s.heap := ⟨_, rfl⟩
  obtain ⟨locs, hlocs⟩ : ∃ x : List Loc, x = [] := ⟨_, rfl⟩
  rw [← hlocs] at hS ⊢
  have hP : va_P D vwCl (wA ad cI cZ cJ u) H := by rw [hH]; exact hP
  have hS : va_S A s.heap H locs := by rw [hH]; exact hS
  suffices g : W p l e ({ frames := 3, cells := 0, slots := 0, locals := 66 } : Room) s m [.ref (ad 4), .int a1, .int a2, .int a3, .int a4].toArray below meth c H locs 0 0 (MQ below (gw_Q D vwCl (wA ad cI cZ cJ) A w (none)) [.ref (ad 4), .int a1, .int a2, .int a3, .int a4].toArray s 0 0 A) (F0 m 0 ls []) by rw [hH] at g; exact g
  unfold f_Lo_add at h
  refine lv_aload_n hx hb dLo_add_0 rfl (lv_at hl 0 rfl) ?_
  refine va_get (D := D) (ci := 4) (v := .ref (ad 26)) (C := RLo) (T := TLo) (N := 7) hx hb hG inLo hown hK hP 4 rfl rfl 1 (by decide) (hG _ mw_133) (fun _ h9 => h9) rfl dLo_add_1 ?_
  refine lv_aload_n hx hb dLo_add_4 rfl (lv_at hl 0 rfl) ?_
  refine va_get (D := D) (ci := 4) (v := .int (u.1 6)) (C := RLo) (T := TLo) (N := 7) hx hb hG inLo hown hK hP 4 rfl rfl 6 (by decide) (hG _ mw_143) (fun _ h9 => h9) rfl dLo_add_5 ?_
  refine lv_aload_n hx hb dLo_add_8 rfl (lv_at hl 0 rfl) ?_
  refine lv_iload_n hx hb dLo_add_9 rfl (lv_at hl 1 rfl) ?_
  obtain ⟨q1, q1_h, h⟩ := gw_bind h
  refine gw_callV (As := [.int a1]) (rest := [.int (u.1 6), .ref (ad 26)]) (u := u) (u' := u) hx hb hml hown hG (c_Lo_freeName l D ad cI cZ cJ N u a1 _ q1_h) lk_Lo_34 rfl rfl ⟨Nat.le_of_ble_eq_true rfl, Nat.le_of_ble_eq_true rfl⟩ (va_recv hK hP (ci := 4) (q0 := 4) rfl rfl) hK hP hD hS hA rfl hl.1 rfl (Nat.le_of_ble_eq_true rfl) dLo_add_10 ⟨Nat.le_of_ble_eq_true rfl, Nat.le_of_ble_eq_true rfl⟩ (fun H locs hP hD hS => ?_)
  obtain ⟨hg2, h⟩ := gI_some h
  refine va_iast (f := (u.2.1 20)) hx hb hK hP hD hS 26 0 rfl rfl hg2 dLo_add_13 (fun H locs hP hD hS => ?_)
  have hP : va_P D vwCl (wA ad cI cZ cJ (sA u 20 ((u.1 6)).toNatClampNeg q1)) H := hP
  have hD : va_D A (wA ad cI cZ cJ (sA u 20 ((u.1 6)).toNatClampNeg q1)) := hD
  refine lv_aload_n hx hb dLo_add_14 rfl (lv_at hl 0 rfl) ?_
  refine va_get (D := D) (ci := 4) (v := .ref (ad 25)) (C := RLo) (T := TLo) (N := 7) hx hb hG inLo hown hK hP 4 rfl rfl 0 (by decide) (hG _ mw_131) (fun _ h9 => h9) rfl dLo_add_15 ?_
  refine lv_aload_n hx hb dLo_add_18 rfl (lv_at hl 0 rfl) ?_
  refine va_get (D := D) (ci := 4) (v := .int (u.1 6)) (C := RLo) (T := TLo) (N := 7) hx hb hG inLo hown hK hP 4 rfl rfl 6 (by decide) (hG _ mw_143) (fun _ h9 => h9) rfl dLo_add_19 ?_
  refine lv_iload_n hx hb dLo_add_22 rfl (lv_at hl 1 rfl) ?_
  refine va_iast (f := (u.2.1 19)) hx hb hK hP hD hS 25 0 rfl rfl hg2 dLo_add_23 (fun H locs hP hD hS => ?_)
  have hP : va_P D vwCl (wA ad cI cZ cJ (sA (sA u 20 ((u.1 6)).toNatClampNeg q1) 19 ((u.1 6)).toNatClampNeg a1)) H := hP
  have hD : va_D A (wA ad cI cZ cJ (sA (sA u 20 ((u.1 6)).toNatClampNeg q1) 19 ((u.1 6)).toNatClampNeg a1)) := hD
  refine lv_aload_n hx hb dLo_add_24 rfl (lv_at hl 0 rfl) ?_
  refine va_get (D := D) (ci := 4) (v := .ref (ad 27)) (C := RLo) (T := TLo) (N := 7) hx hb hG inLo hown hK hP 4 rfl rfl 2 (by decide) (hG _ mw_135) (fun _ h9 => h9) rfl dLo_add_25 ?_
  refine lv_aload_n hx hb dLo_add_28 rfl (lv_at hl 0 rfl) ?_
  refine va_get (D := D) (ci := 4) (v := .int (u.1 6)) (C := RLo) (T := TLo) (N := 7) hx hb hG inLo hown hK hP 4 rfl rfl 6 (by decide) (hG _ mw_143) (fun _ h9 => h9) rfl dLo_add_29 ?_
  refine lv_iload_n hx hb dLo_add_32 rfl (lv_at hl 2 rfl) ?_
  refine va_iast (f := (u.2.1 21)) hx hb hK hP hD hS 27 0 rfl rfl hg2 dLo_add_33 (fun H locs hP hD hS => ?_)
  have hP : va_P D vwCl (wA ad cI cZ cJ (sA (sA (sA u 20 ((u.1 6)).toNatClampNeg q1) 19 ((u.1 6)).toNatClampNeg a1) 21 ((u.1 6)).toNatClampNeg a2)) H := hP
  have hD : va_D A (wA ad cI cZ cJ (sA (sA (sA u 20 ((u.1 6)).toNatClampNeg q1) 19 ((u.1 6)).toNatClampNeg a1) 21 ((u.1 6)).toNatClampNeg a2)) := hD
  refine lv_aload_n hx hb dLo_add_34 rfl (lv_at hl 0 rfl) ?_
  refine va_get (D := D) (ci := 4) (v := .ref (ad 28)) (C := RLo) (T := TLo) (N := 7) hx hb hG inLo hown hK hP 4 rfl rfl 3 (by decide) (hG _ mw_137) (fun _ h9 => h9) rfl dLo_add_35 ?_
  refine lv_aload_n hx hb dLo_add_38 rfl (lv_at hl 0 rfl) ?_
  refine va_get (D := D) (ci := 4) (v := .int (u.1 6)) (C := RLo) (T := TLo) (N := 7) hx hb hG inLo hown hK hP 4 rfl rfl 6 (by decide) (hG _ mw_143) (fun _ h9 => h9) rfl dLo_add_39 ?_
  refine lv_iload_n hx hb dLo_add_42 rfl (lv_at hl 3 rfl) ?_
  refine va_iast (f := (u.2.1 22)) hx hb hK hP hD hS 28 0 rfl rfl hg2 dLo_add_43 (fun H locs hP hD hS => ?_)
  have hP : va_P D vwCl (wA ad cI cZ cJ (sA (sA (sA (sA u 20 ((u.1 6)).toNatClampNeg q1) 19 ((u.1 6)).toNatClampNeg a1) 21 ((u.1 6)).toNatClampNeg a2) 22 ((u.1 6)).toNatClampNeg a3)) H := hP
  have hD : va_D A (wA ad cI cZ cJ (sA (sA (sA (sA u 20 ((u.1 6)).toNatClampNeg q1) 19 ((u.1 6)).toNatClampNeg a1) 21 ((u.1 6)).toNatClampNeg a2) 22 ((u.1 6)).toNatClampNeg a3)) := hD
  refine lv_aload_n hx hb dLo_add_44 rfl (lv_at hl 0 rfl) ?_
  refine va_get (D := D) (ci := 4) (v := .ref (ad 29)) (C := RLo) (T := TLo) (N := 7) hx hb hG inLo hown hK hP 4 rfl rfl 4 (by decide) (hG _ mw_139) (fun _ h9 => h9) rfl dLo_add_45 ?_
  refine lv_aload_n hx hb dLo_add_48 rfl (lv_at hl 0 rfl) ?_
  refine va_get (D := D) (ci := 4) (v := .int (u.1 6)) (C := RLo) (T := TLo) (N := 7) hx hb hG inLo hown hK hP 4 rfl rfl 6 (by decide) (hG _ mw_143) (fun _ h9 => h9) rfl dLo_add_49 ?_
  refine lv_iload hx hb dLo_add_52 (lv_at hl 4 rfl) ?_
  refine va_iast (f := (u.2.1 23)) hx hb hK hP hD hS 29 0 rfl rfl hg2 dLo_add_54 (fun H locs hP hD hS => ?_)
  have hP : va_P D vwCl (wA ad cI cZ cJ (sA (sA (sA (sA (sA u 20 ((u.1 6)).toNatClampNeg q1) 19 ((u.1 6)).toNatClampNeg a1) 21 ((u.1 6)).toNatClampNeg a2) 22 ((u.1 6)).toNatClampNeg a3) 23 ((u.1 6)).toNatClampNeg a4)) H := hP
  have hD : va_D A (wA ad cI cZ cJ (sA (sA (sA (sA (sA u 20 ((u.1 6)).toNatClampNeg q1) 19 ((u.1 6)).toNatClampNeg a1) 21 ((u.1 6)).toNatClampNeg a2) 22 ((u.1 6)).toNatClampNeg a3) 23 ((u.1 6)).toNatClampNeg a4)) := hD
  refine lv_aload_n hx hb dLo_add_55 rfl (lv_at hl 0 rfl) ?_
  refine va_get (D := D) (ci := 4) (v := .ref (ad 30)) (C := RLo) (T := TLo) (N := 7) hx hb hG inLo hown hK hP 4 rfl rfl 5 (by decide) (hG _ mw_141) (fun _ h9 => h9) rfl dLo_add_56 ?_
  refine lv_aload_n hx hb dLo_add_59 rfl (lv_at hl 0 rfl) ?_
  refine va_get (D := D) (ci := 4) (v := .int (u.1 6)) (C := RLo) (T := TLo) (N := 7) hx hb hG inLo hown hK hP 4 rfl rfl 6 (by decide) (hG _ mw_143) (fun _ h9 => h9) rfl dLo_add_60 ?_
  refine lv_iconst (v := (-1 : Int32)) hx hb dLo_add_63 (by decide) ?_
  refine va_iast (f := (u.2.1 24)) hx hb hK hP hD hS 30 0 rfl rfl hg2 dLo_add_64 (fun H locs hP hD hS => ?_)
  have hP : va_P D vwCl (wA ad cI cZ cJ (sA (sA (sA (sA (sA (sA u 20 ((u.1 6)).toNatClampNeg q1) 19 ((u.1 6)).toNatClampNeg a1) 21 ((u.1 6)).toNatClampNeg a2) 22 ((u.1 6)).toNatClampNeg a3) 23 ((u.1 6)).toNatClampNeg a4) 24 ((u.1 6)).toNatClampNeg (-1 : Int32))) H := hP
  have hD : va_D A (wA ad cI cZ cJ (sA (sA (sA (sA (sA (sA u 20 ((u.1 6)).toNatClampNeg q1) 19 ((u.1 6)).toNatClampNeg a1) 21 ((u.1 6)).toNatClampNeg a2) 22 ((u.1 6)).toNatClampNeg a3) 23 ((u.1 6)).toNatClampNeg a4) 24 ((u.1 6)).toNatClampNeg (-1 : Int32))) := hD
  refine lv_aload_n hx hb dLo_add_65 rfl (lv_at hl 0 rfl) ?_
  refine lv_dup hx hb dLo_add_66 rfl ?_
  refine va_get (D := D) (ci := 4) (v := .int (u.1 6)) (C := RLo) (T := TLo) (N := 7) hx hb hG inLo hown hK hP 4 rfl rfl 6 (by decide) (hG _ mw_143) (fun _ h9 => h9) rfl dLo_add_67 ?_
  refine lv_iconst (v := (1 : Int32)) hx hb dLo_add_70 (by decide) ?_
  refine lv_iadd hx hb dLo_add_71 ?_
  refine va_put (D := D) (ci := 4) (v := .int ((u.1 6) + (1 : Int32))) (ty := .int) (C := RLo) (T := TLo) (N := 7) hx hb hG inLo tyLo tyLo_ok nmLo hown hK hP hD hS 4 rfl rfl 6 (by decide) (hG _ mw_143) (fun _ h9 => h9) rfl (by decide +kernel) rfl rfl (Nat.le_of_ble_eq_true rfl) dLo_add_72 (fun H locs hP hD hS => ?_)
  have hP : va_P D vwCl (wA ad cI cZ cJ (sF (sA (sA (sA (sA (sA (sA u 20 ((u.1 6)).toNatClampNeg q1) 19 ((u.1 6)).toNatClampNeg a1) 21 ((u.1 6)).toNatClampNeg a2) 22 ((u.1 6)).toNatClampNeg a3) 23 ((u.1 6)).toNatClampNeg a4) 24 ((u.1 6)).toNatClampNeg (-1 : Int32)) 6 ((u.1 6) + (1 : Int32)))) H := hP
  have hD : va_D A (wA ad cI cZ cJ (sF (sA (sA (sA (sA (sA (sA u 20 ((u.1 6)).toNatClampNeg q1) 19 ((u.1 6)).toNatClampNeg a1) 21 ((u.1 6)).toNatClampNeg a2) 22 ((u.1 6)).toNatClampNeg a3) 23 ((u.1 6)).toNatClampNeg a4) 24 ((u.1 6)).toNatClampNeg (-1 : Int32)) 6 ((u.1 6) + (1 : Int32)))) := hD
  cases h
  exact gw_vret hx hb hr hlocks hP hD hS dLo_add_75
set_option maxHeartbeats 4000000 in
set_option maxRecDepth 100000 in
theorem lp_A_lend_26 {p : Program} {l : Launch} {e : Env} {s : State} {m : MethodId} {args : Array Value} {below : List Frame} {meth : Method} {c : Code} {A : Nat → Prop} {D : va_G} {ad : Nat → Nat} {cI cZ cJ : ClassId} (hC : gw_C p s m args meth c "AidRows" cA_lend 7 none gG D vwCl (tA cI cZ cJ) A) (N : Nat) : ∀ (n : Nat) (u : StA) (x1 : Int32) (x2 : Int32) (x3 : Int32) (x4 : Int32) (x5 : Int32) (x6 : Int32) (w : StA), f_A_lend_26 N n u x1 x2 x3 x4 x5 x6 = some w → ∀ (H : Heap) (locs : List Loc) (ls : Array Slot), va_P D vwCl (wA ad cI cZ cJ u) H → va_D A (wA ad cI cZ cJ u) → va_S A s.heap H locs → lv_has ls 7 [(0, .ref (ad 0)), (1, .int x1), (2, .int x2), (3, .int x3), (4, .int x4), (5, .int x5), (6, .int x6)] → W p l e ({ frames := 4, cells := 0, slots := 0, locals := 90 } : Room) s m args below meth c H locs 0 0 (MQ below (gw_Q D vwCl (wA ad cI cZ cJ) A w (none)) args s 0 0 A) (F0 m 26 ls []) := by
  obtain ⟨hx, hb, hr, hml, hG, hown, hlocks, hK, hA⟩ := id hC
  intro n
  induction n with
  | zero => intro u x1 x2 x3 x4 x5 x6 w h; cases h
  | succ n ih =>
    intro u x1 x2 x3 x4 x5 x6 w h H locs ls hP hD hS hl
    rw [f_A_lend_26] at h
    refine lv_iload hx hb dA_lend_26 (lv_at hl 6 rfl) ?_
    refine lv_iload_n hx hb dA_lend_28 rfl (lv_at hl 3 rfl) ?_
    refine lv_icmp_ge (tgt := 51) hx hb dA_lend_29 (by decide) (fun hc => ?_) (fun hc => ?_)
    · rw [if_pos hc] at h
      refine lv_aload_n hx hb dA_lend_51 rfl (lv_at hl 0 rfl) ?_
      refine va_get (D := D) (ci := 0) (v := .ref (ad 3)) (C := RA) (T := TA) (N := 9) hx hb hG inA hown hK hP 0 rfl rfl 2 (by decide) (hG _ mw_176) (fun _ h9 => h9) rfl dA_lend_52 ?_
      refine va_get (D := D) (ci := 3) (v := .ref (ad 22)) (C := RAs) (T := TAs) (N := 10) hx hb hG inAs hown hK hP 3 rfl rfl 6 (by decide) (hG _ mw_98) (fun _ h9 => h9) rfl dA_lend_55 ?_
      refine lv_iload_n hx hb dA_lend_58 rfl (lv_at hl 1 rfl) ?_
      refine lv_dup2_11 hx hb dA_lend_59 rfl rfl ?_
      obtain ⟨hg3, h⟩ := gI_some h
      refine va_iald (f := (u.2.1 16)) hx hb hK hP 22 0 rfl rfl hg3 dA_lend_60 ?_
      refine lv_iload_n hx hb dA_lend_61 rfl (lv_at hl 3 rfl) ?_
      refine lv_iadd hx hb dA_lend_62 ?_
      refine va_iast (f := (u.2.1 16)) hx hb hK hP hD hS 22 0 rfl rfl hg3 dA_lend_63 (fun H locs hP hD hS => ?_)
      have hP : va_P D vwCl (wA ad cI cZ cJ (sA u 16 (x1).toNatClampNeg ((u.2.1 16 (x1).toNatClampNeg) + x3))) H := hP
      have hD : va_D A (wA ad cI cZ cJ (sA u 16 (x1).toNatClampNeg ((u.2.1 16 (x1).toNatClampNeg) + x3))) := hD
      cases h
      exact gw_vret hx hb hr hlocks hP hD hS dA_lend_64
    · rw [if_neg hc] at h
      refine lv_aload_n hx hb dA_lend_32 rfl (lv_at hl 0 rfl) ?_
      refine va_get (D := D) (ci := 0) (v := .ref (ad 4)) (C := RA) (T := TA) (N := 9) hx hb hG inA hown hK hP 0 rfl rfl 3 (by decide) (hG _ mw_177) (fun _ h9 => h9) rfl dA_lend_33 ?_
      refine lv_iload_n hx hb dA_lend_36 rfl (lv_at hl 2 rfl) ?_
      refine lv_iload_n hx hb dA_lend_37 rfl (lv_at hl 1 rfl) ?_
      refine lv_iload hx hb dA_lend_38 (lv_at hl 5 rfl) ?_
      refine lv_iload hx hb dA_lend_40 (lv_at hl 4 rfl) ?_
      obtain ⟨q4, q4_h, h⟩ := gw_bind h
      refine gw_callV (As := [.int x2, .int x1, .int x5, .int x4]) (rest := []) (u := u) (u' := q4) hx hb hml hown hG (c_Lo_add l D ad cI cZ cJ N u x2 x1 x5 x4 _ q4_h) lk_A_304 rfl rfl ⟨Nat.le_of_ble_eq_true rfl, Nat.le_of_ble_eq_true rfl⟩ (va_recv hK hP (ci := 4) (q0 := 4) rfl rfl) hK hP hD hS hA rfl hl.1 rfl (Nat.le_of_ble_eq_true rfl) dA_lend_42 ⟨Nat.le_of_ble_eq_true rfl, Nat.le_of_ble_eq_true rfl⟩ (fun H locs hP hD hS => ?_)
      refine lv_iinc (v := (x6 + (1 : Int32))) (lv' := [(6, .int (x6 + (1 : Int32))), (0, .ref (ad 0)), (1, .int x1), (2, .int x2), (3, .int x3), (4, .int x4), (5, .int x5)]) hx hb dA_lend_45 hl (k := 6) rfl rfl (by decide) rfl (fun ls hl => ?_)
      refine lv_goto (tgt := 26) hx hb dA_lend_48 (by decide) ?_
      exact ih q4 x1 x2 x3 x4 x5 (x6 + (1 : Int32)) _ h H locs ls hP hD hS (lv_sub hl [1, 2, 3, 4, 5, 6, 0] rfl)
set_option maxHeartbeats 4000000 in
set_option maxRecDepth 100000 in
theorem c_A_lend (l : Launch) (D : va_G) (ad : Nat → Nat) (cI cZ cJ : ClassId) (N : Nat) (u : StA) (a1 : Int32) (a2 : Int32) (a3 : Int32) (a4 : Int32) (w : StA) (h : f_A_lend N u a1 a2 a3 a4 = some w) : gw_Ct l D vwCl (tA cI cZ cJ) (wA ad cI cZ cJ) yA_lend (Cond.code yA_lend cA_lend 7 none :: gG) ({ frames := 4, cells := 0, slots := 0, locals := 90 } : Room) [.ref (ad 0), .int a1, .int a2, .int a3, .int a4] u (none) w := by
  refine gw_enter (by decide) (Nat.le_of_ble_eq_true rfl) ?_
  intro p e s m below meth c A hC hP hD hS ls hl
  obtain ⟨hx, hb, hr, hml, hG, hown, hlocks, hK, hA⟩ := id hC
  have hl : lv_has ls 7 [(0, .ref (ad 0)), (1, .int a1), (2, .int a2), (3, .int a3), (4, .int a4)] := hl
  obtain ⟨H, hH⟩ : ∃ H, H = s.heap := ⟨_, rfl⟩
  obtain ⟨locs, hlocs⟩ : ∃ x : List Loc, x = [] := ⟨_, rfl⟩
  rw [← hlocs] at hS ⊢
  have hP : va_P D vwCl (wA ad cI cZ cJ u) H := by rw [hH]; exact hP
  have hS : va_S A s.heap H locs := by rw [hH]; exact hS
  suffices g : W p l e ({ frames := 4, cells := 0, slots := 0, locals := 90 } : Room) s m [.ref (ad 0), .int a1, .int a2, .int a3, .int a4].toArray below meth c H locs 0 0 (MQ below (gw_Q D vwCl (wA ad cI cZ cJ) A w (none)) [.ref (ad 0), .int a1, .int a2, .int a3, .int a4].toArray s 0 0 A) (F0 m 0 ls []) by rw [hH] at g; exact g
  unfold f_A_lend at h
  refine lv_aload_n hx hb dA_lend_0 rfl (lv_at hl 0 rfl) ?_
  refine va_get (D := D) (ci := 0) (v := .ref (ad 2)) (C := RA) (T := TA) (N := 9) hx hb hG inA hown hK hP 0 rfl rfl 1 (by decide) (hG _ mw_175) (fun _ h9 => h9) rfl dA_lend_1 ?_
  refine lv_iload_n hx hb dA_lend_4 rfl (lv_at hl 2 rfl) ?_
  refine lv_aload_n hx hb dA_lend_5 rfl (lv_at hl 0 rfl) ?_
  refine va_get (D := D) (ci := 0) (v := .ref (ad 3)) (C := RA) (T := TA) (N := 9) hx hb hG inA hown hK hP 0 rfl rfl 2 (by decide) (hG _ mw_176) (fun _ h9 => h9) rfl dA_lend_6 ?_
  refine va_get (D := D) (ci := 3) (v := .ref (ad 16)) (C := RAs) (T := TAs) (N := 10) hx hb hG inAs hown hK hP 3 rfl rfl 0 (by decide) (hG _ mw_88) (fun _ h9 => h9) rfl dA_lend_9 ?_
  refine lv_iload_n hx hb dA_lend_12 rfl (lv_at hl 1 rfl) ?_
  obtain ⟨hg1, h⟩ := gI_some h
  refine va_iald (f := (u.2.1 10)) hx hb hK hP 16 0 rfl rfl hg1 dA_lend_13 ?_
  refine lv_aload_n hx hb dA_lend_14 rfl (lv_at hl 0 rfl) ?_
  refine va_get (D := D) (ci := 0) (v := .int (u.1 0)) (C := RA) (T := TA) (N := 9) hx hb hG inA hown hK hP 0 rfl rfl 6 (by decide) (hG _ mw_180) (fun _ h9 => h9) rfl dA_lend_15 ?_
  obtain ⟨q2, q2_h, h⟩ := gw_bind h
  refine gw_callV (As := [.int a2, .int (u.2.1 10 (a1).toNatClampNeg), .int (u.1 0)]) (rest := []) (u := u) (u' := u) hx hb hml hown hG (c_Ag_holding l D ad cI cZ cJ N u a2 (u.2.1 10 (a1).toNatClampNeg) (u.1 0) _ q2_h) lk_A_275 rfl rfl ⟨Nat.le_of_ble_eq_true rfl, Nat.le_of_ble_eq_true rfl⟩ (va_recv hK hP (ci := 2) (q0 := 2) rfl rfl) hK hP hD hS hA rfl hl.1 rfl (Nat.le_of_ble_eq_true rfl) dA_lend_18 ⟨Nat.le_of_ble_eq_true rfl, Nat.le_of_ble_eq_true rfl⟩ (fun H locs hP hD hS => ?_)
  refine lv_istore (lv' := [(5, .int q2), (0, .ref (ad 0)), (1, .int a1), (2, .int a2), (3, .int a3), (4, .int a4)]) hx hb dA_lend_21 hl (by decide) rfl (fun ls hl => ?_)
  refine lv_iconst (v := (0 : Int32)) hx hb dA_lend_23 (by decide) ?_
  refine lv_istore (lv' := [(6, .int (0 : Int32)), (5, .int q2), (0, .ref (ad 0)), (1, .int a1), (2, .int a2), (3, .int a3), (4, .int a4)]) hx hb dA_lend_24 hl (by decide) rfl (fun ls hl => ?_)
  exact lp_A_lend_26 hC N N u a1 a2 a3 a4 q2 (0 : Int32) _ h H locs ls hP hD hS (lv_sub hl [2, 3, 4, 5, 6, 1, 0] rfl)
set_option maxHeartbeats 4000000 in
set_option maxRecDepth 100000 in
theorem lp_A_take_18 {p : Program} {l : Launch} {e : Env} {s : State} {m : MethodId} {args : Array Value} {below : List Frame} {meth : Method} {c : Code} {A : Nat → Prop} {D : va_G} {ad : Nat → Nat} {cI cZ cJ : ClassId} (hC : gw_C p s m args meth c "AidRows" cA_take 5 none gG D vwCl (tA cI cZ cJ) A) (N : Nat) : ∀ (u : StA) (x1 : Int32) (x2 : Int32) (x3 : Int32) (x4 : Int32) (w : StA), f_A_take_18 N u x1 x2 x3 x4 = some w → ∀ (H : Heap) (locs : List Loc) (ls : Array Slot), va_P D vwCl (wA ad cI cZ cJ u) H → va_D A (wA ad cI cZ cJ u) → va_S A s.heap H locs → lv_has ls 5 [(0, .ref (ad 0)), (1, .int x1), (2, .int x2), (3, .int x3), (4, .int x4)] → W p l e ({ frames := 5, cells := 0, slots := 0, locals := 116 } : Room) s m args below meth c H locs 0 0 (MQ below (gw_Q D vwCl (wA ad cI cZ cJ) A w (none)) args s 0 0 A) (F0 m 18 ls []) := by
  obtain ⟨hx, hb, hr, hml, hG, hown, hlocks, hK, hA⟩ := id hC
  intro u x1 x2 x3 x4 w h H locs ls hP hD hS hl
  unfold f_A_take_18 at h
  refine lv_aload_n hx hb dA_take_18 rfl (lv_at hl 0 rfl) ?_
  refine va_get (D := D) (ci := 0) (v := .ref (ad 3)) (C := RA) (T := TA) (N := 9) hx hb hG inA hown hK hP 0 rfl rfl 2 (by decide) (hG _ mw_176) (fun _ h9 => h9) rfl dA_take_19 ?_
  refine lv_iload_n hx hb dA_take_22 rfl (lv_at hl 1 rfl) ?_
  obtain ⟨q2, q2_h, h⟩ := gw_bind h
  refine gw_callV (As := [.int x1]) (rest := []) (u := u) (u' := u) hx hb hml hown hG (c_As_wanting l D ad cI cZ cJ u x1 _ q2_h) lk_A_287 rfl rfl ⟨Nat.le_of_ble_eq_true rfl, Nat.le_of_ble_eq_true rfl⟩ (va_recv hK hP (ci := 3) (q0 := 3) rfl rfl) hK hP hD hS hA rfl hl.1 rfl (Nat.le_of_ble_eq_true rfl) dA_take_23 ⟨Nat.le_of_ble_eq_true rfl, Nat.le_of_ble_eq_true rfl⟩ (fun H locs hP hD hS => ?_)
  refine lv_if_ne (tgt := 41) hx hb dA_take_26 (by decide) (fun hc => ?_) (fun hc => ?_)
  · rw [if_neg hc] at h
    refine lv_aload_n hx hb dA_take_41 rfl (lv_at hl 0 rfl) ?_
    refine lv_iload_n hx hb dA_take_42 rfl (lv_at hl 1 rfl) ?_
    obtain ⟨q3, q3_h, h⟩ := gw_bind h
    refine gw_callV (As := [.int x1]) (rest := []) (u := u) (u' := q3) hx hb hml hown hG (c_A_sendOn l D ad cI cZ cJ N u x1 _ q3_h) lk_A_121 rfl rfl ⟨Nat.le_of_ble_eq_true rfl, Nat.le_of_ble_eq_true rfl⟩ (va_recv hK hP (ci := 0) (q0 := 0) rfl rfl) hK hP hD hS hA rfl hl.1 rfl (Nat.le_of_ble_eq_true rfl) dA_take_43 ⟨Nat.le_of_ble_eq_true rfl, Nat.le_of_ble_eq_true rfl⟩ (fun H locs hP hD hS => ?_)
    cases h
    exact gw_vret hx hb hr hlocks hP hD hS dA_take_46
  · rw [if_pos hc] at h
    refine lv_aload_n hx hb dA_take_29 rfl (lv_at hl 0 rfl) ?_
    refine va_get (D := D) (ci := 0) (v := .ref (ad 3)) (C := RA) (T := TA) (N := 9) hx hb hG inA hown hK hP 0 rfl rfl 2 (by decide) (hG _ mw_176) (fun _ h9 => h9) rfl dA_take_30 ?_
    refine lv_iload_n hx hb dA_take_33 rfl (lv_at hl 1 rfl) ?_
    refine lv_iconst (v := (1 : Int32)) hx hb dA_take_34 (by decide) ?_
    obtain ⟨q4, q4_h, h⟩ := gw_bind h
    refine gw_callV (As := [.int x1, .int (1 : Int32)]) (rest := []) (u := u) (u' := q4) hx hb hml hown hG (c_As_close l D ad cI cZ cJ u x1 (1 : Int32) _ q4_h) lk_A_260 rfl rfl ⟨Nat.le_of_ble_eq_true rfl, Nat.le_of_ble_eq_true rfl⟩ (va_recv hK hP (ci := 3) (q0 := 3) rfl rfl) hK hP hD hS hA rfl hl.1 rfl (Nat.le_of_ble_eq_true rfl) dA_take_35 ⟨Nat.le_of_ble_eq_true rfl, Nat.le_of_ble_eq_true rfl⟩ (fun H locs hP hD hS => ?_)
    refine lv_goto (tgt := 46) hx hb dA_take_38 (by decide) ?_
    cases h
    exact gw_vret hx hb hr hlocks hP hD hS dA_take_46
set_option maxHeartbeats 4000000 in
set_option maxRecDepth 100000 in
theorem c_A_take (l : Launch) (D : va_G) (ad : Nat → Nat) (cI cZ cJ : ClassId) (N : Nat) (u : StA) (a1 : Int32) (a2 : Int32) (a3 : Int32) (a4 : Int32) (w : StA) (h : f_A_take N u a1 a2 a3 a4 = some w) : gw_Ct l D vwCl (tA cI cZ cJ) (wA ad cI cZ cJ) yA_take (Cond.code yA_take cA_take 5 none :: gG) ({ frames := 5, cells := 0, slots := 0, locals := 116 } : Room) [.ref (ad 0), .int a1, .int a2, .int a3, .int a4] u (none) w := by
  refine gw_enter (by decide) (Nat.le_of_ble_eq_true rfl) ?_
  intro p e s m below meth c A hC hP hD hS ls hl
  obtain ⟨hx, hb, hr, hml, hG, hown, hlocks, hK, hA⟩ := id hC
  have hl : lv_has ls 5 [(0, .ref (ad 0)), (1, .int a1), (2, .int a2), (3, .int a3), (4, .int a4)] := hl
  obtain ⟨H, hH⟩ : ∃ H, H = s.heap := ⟨_, rfl⟩
  obtain ⟨locs, hlocs⟩ : ∃ x : List Loc, x = [] := ⟨_, rfl⟩
  rw [← hlocs] at hS ⊢
  have hP : va_P D vwCl (wA ad cI cZ cJ u) H := by rw [hH]; exact hP
  have hS : va_S A s.heap H locs := by rw [hH]; exact hS
  suffices g : W p l e ({ frames := 5, cells := 0, slots := 0, locals := 116 } : Room) s m [.ref (ad 0), .int a1, .int a2, .int a3, .int a4].toArray below meth c H locs 0 0 (MQ below (gw_Q D vwCl (wA ad cI cZ cJ) A w (none)) [.ref (ad 0), .int a1, .int a2, .int a3, .int a4].toArray s 0 0 A) (F0 m 0 ls []) by rw [hH] at g; exact g
  unfold f_A_take at h
  refine lv_iload_n hx hb dA_take_0 rfl (lv_at hl 3 rfl) ?_
  refine lv_if_le (tgt := 18) hx hb dA_take_1 (by decide) (fun hc => ?_) (fun hc => ?_)
  · rw [if_pos hc] at h
    exact lp_A_take_18 hC N u a1 a2 a3 a4 _ h H locs ls hP hD hS (lv_sub hl [0, 1, 2, 3, 4] rfl)
  · rw [if_neg hc] at h
    refine lv_aload_n hx hb dA_take_4 rfl (lv_at hl 0 rfl) ?_
    refine lv_iload_n hx hb dA_take_5 rfl (lv_at hl 1 rfl) ?_
    refine lv_iload_n hx hb dA_take_6 rfl (lv_at hl 2 rfl) ?_
    refine lv_iload_n hx hb dA_take_7 rfl (lv_at hl 3 rfl) ?_
    refine lv_aload_n hx hb dA_take_8 rfl (lv_at hl 0 rfl) ?_
    refine va_get (D := D) (ci := 0) (v := .int (u.1 0)) (C := RA) (T := TA) (N := 9) hx hb hG inA hown hK hP 0 rfl rfl 6 (by decide) (hG _ mw_180) (fun _ h9 => h9) rfl dA_take_9 ?_
    refine lv_iload hx hb dA_take_12 (lv_at hl 4 rfl) ?_
    refine lv_iadd hx hb dA_take_14 ?_
    obtain ⟨q1, q1_h, h⟩ := gw_bind h
    refine gw_callV (As := [.int a1, .int a2, .int a3, .int ((u.1 0) + a4)]) (rest := []) (u := u) (u' := q1) hx hb hml hown hG (c_A_lend l D ad cI cZ cJ N u a1 a2 a3 ((u.1 0) + a4) _ q1_h) lk_A_301 rfl rfl ⟨Nat.le_of_ble_eq_true rfl, Nat.le_of_ble_eq_true rfl⟩ (va_recv hK hP (ci := 0) (q0 := 0) rfl rfl) hK hP hD hS hA rfl hl.1 rfl (Nat.le_of_ble_eq_true rfl) dA_take_15 ⟨Nat.le_of_ble_eq_true rfl, Nat.le_of_ble_eq_true rfl⟩ (fun H locs hP hD hS => ?_)
    exact lp_A_take_18 hC N q1 a1 a2 a3 a4 _ h H locs ls hP hD hS (lv_sub hl [0, 1, 2, 3, 4] rfl)
end
