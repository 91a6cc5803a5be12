-- what the start gives of exceptions
set_option maxHeartbeats 4000000 in
set_option maxRecDepth 100000 in
theorem st_E {s : State} {b : Nat} (hts : ∀ w ∈ lw_tbl, w.before #[Value.ref b] s = true) (hgv : (Jvm.Cond.and given_1 narrow_1).before #[Value.ref b] s = true) : gx_E (gl_A s) s s.heap := by
  have hs := flat_of_before _ hgv
  have hA : ∀ a : Nat, a < s.heap.size → ¬ gl_A s a := fun a h => Nat.not_le.mpr h
  refine ⟨vx_Zqof (hts _ (List.mem_append_right _ (List.mem_of_getElem? (i := 253) (by decide +kernel)))) (hts _ (List.mem_append_right _ (List.mem_of_getElem? (i := 9) (by decide +kernel)))) (hs _ (by decide +kernel)) hA, vx_Zqof (hts _ (List.mem_append_right _ (List.mem_of_getElem? (i := 255) (by decide +kernel)))) (hts _ (List.mem_append_right _ (List.mem_of_getElem? (i := 9) (by decide +kernel)))) (hs _ (by decide +kernel)) hA, ?_, ?_, ?_⟩
  · have str : ∀ (k : Nat) (tx : String), (Cond.stringRef "AidRows" k tx).before #[Value.ref b] s = true → (Cond.exactly (.string "AidRows" k) "java/lang/String").before #[Value.ref b] s = true → ∃ a, vk_R "AidRows" k tx a s := by
      intro k tx h1 h2
      obtain ⟨a, c, cA, kA, q1, -⟩ := Cond.exactly_spec (args := #[Value.ref b]) (first := s) (o := none) (s := s) (idx := []) (t := .string "AidRows" k) (cls := "java/lang/String") h2
      exact ⟨a, vk_R.of h1 q1⟩
    unfold gx_strs
    exact List.forall_mem_cons.mpr ⟨str 60 "rank or price" (hts _ (List.mem_append_right _ (List.mem_of_getElem? (i := 268) (by decide +kernel)))) (hs _ (by decide +kernel)), List.forall_mem_cons.mpr ⟨str 71 "no room for a house" (hts _ (List.mem_append_right _ (List.mem_of_getElem? (i := 308) (by decide +kernel)))) (hs _ (by decide +kernel)), List.forall_mem_cons.mpr ⟨str 84 "no such house or kind" (hts _ (List.mem_append_right _ (List.mem_of_getElem? (i := 341) (by decide +kernel)))) (hs _ (by decide +kernel)), List.forall_mem_cons.mpr ⟨str 94 "minutes, hours or units" (hts _ (List.mem_append_right _ (List.mem_of_getElem? (i := 355) (by decide +kernel)))) (hs _ (by decide +kernel)), List.forall_mem_cons.mpr ⟨str 102 "the house has an agreement then" (hts _ (List.mem_append_right _ (List.mem_of_getElem? (i := 369) (by decide +kernel)))) (hs _ (by decide +kernel)), List.forall_mem_cons.mpr ⟨str 106 "no room for an agreement" (hts _ (List.mem_append_right _ (List.mem_of_getElem? (i := 380) (by decide +kernel)))) (hs _ (by decide +kernel)), List.forall_mem_cons.mpr ⟨str 111 "no such kind" (hts _ (List.mem_append_right _ (List.mem_of_getElem? (i := 392) (by decide +kernel)))) (hs _ (by decide +kernel)), List.forall_mem_cons.mpr ⟨str 113 "units or patience" (hts _ (List.mem_append_right _ (List.mem_of_getElem? (i := 393) (by decide +kernel)))) (hs _ (by decide +kernel)), List.forall_mem_cons.mpr ⟨str 116 "no room for an ask" (hts _ (List.mem_append_right _ (List.mem_of_getElem? (i := 398) (by decide +kernel)))) (hs _ (by decide +kernel)), List.forall_mem_cons.mpr ⟨str 126 "no such ask or house" (hts _ (List.mem_append_right _ (List.mem_of_getElem? (i := 442) (by decide +kernel)))) (hs _ (by decide +kernel)), List.forall_mem_cons.mpr ⟨str 131 "number, units or minutes" (hts _ (List.mem_append_right _ (List.mem_of_getElem? (i := 446) (by decide +kernel)))) (hs _ (by decide +kernel)), List.forall_mem_cons.mpr ⟨str 154 "no room for the loans" (hts _ (List.mem_append_right _ (List.mem_of_getElem? (i := 488) (by decide +kernel)))) (hs _ (by decide +kernel)), List.forall_mem_cons.mpr ⟨str 164 "no such house" (hts _ (List.mem_append_right _ (List.mem_of_getElem? (i := 517) (by decide +kernel)))) (hs _ (by decide +kernel)), List.forall_mem_cons.mpr ⟨str 166 "no such number" (hts _ (List.mem_append_right _ (List.mem_of_getElem? (i := 518) (by decide +kernel)))) (hs _ (by decide +kernel)), List.forall_mem_cons.mpr ⟨str 172 "minutes" (hts _ (List.mem_append_right _ (List.mem_of_getElem? (i := 526) (by decide +kernel)))) (hs _ (by decide +kernel)), List.forall_mem_cons.mpr ⟨str 184 "the line is so" (hts _ (List.mem_append_right _ (List.mem_of_getElem? (i := 552) (by decide +kernel)))) (hs _ (by decide +kernel)), List.forall_mem_cons.mpr ⟨str 187 "no such loan" (hts _ (List.mem_append_right _ (List.mem_of_getElem? (i := 564) (by decide +kernel)))) (hs _ (by decide +kernel)), List.forall_mem_cons.mpr ⟨str 192 "the loan has ended" (hts _ (List.mem_append_right _ (List.mem_of_getElem? (i := 565) (by decide +kernel)))) (hs _ (by decide +kernel)), List.forall_mem_cons.mpr ⟨str 197 "no such ask or what" (hts _ (List.mem_append_right _ (List.mem_of_getElem? (i := 573) (by decide +kernel)))) (hs _ (by decide +kernel)), List.forall_mem_cons.mpr ⟨str 217 "no such loan or what" (hts _ (List.mem_append_right _ (List.mem_of_getElem? (i := 591) (by decide +kernel)))) (hs _ (by decide +kernel)), List.forall_mem_cons.mpr ⟨str 243 "no such call or house" (hts _ (List.mem_append_right _ (List.mem_of_getElem? (i := 613) (by decide +kernel)))) (hs _ (by decide +kernel)), List.forall_mem_cons.mpr ⟨str 245 "the call was handed over, or the line is cut" (hts _ (List.mem_append_right _ (List.mem_of_getElem? (i := 614) (by decide +kernel)))) (hs _ (by decide +kernel)), List.forall_mem_cons.mpr ⟨str 247 "no such call" (hts _ (List.mem_append_right _ (List.mem_of_getElem? (i := 622) (by decide +kernel)))) (hs _ (by decide +kernel)), List.forall_mem_cons.mpr ⟨str 255 "no such what" (hts _ (List.mem_append_right _ (List.mem_of_getElem? (i := 638) (by decide +kernel)))) (hs _ (by decide +kernel)), fun _ h => nomatch h⟩⟩⟩⟩⟩⟩⟩⟩⟩⟩⟩⟩⟩⟩⟩⟩⟩⟩⟩⟩⟩⟩⟩⟩
  · intro w hw
    exact va_tabs (gx_Bt w hw).1 rfl (hts w (List.mem_append_right _ ((show ∀ w ∈ gx_B, w ∈ tables_1 by decide +kernel) w hw)))
  · unfold gx_nc
    exact List.forall_mem_cons.mpr ⟨va_Nc.of (C := "java/lang/IllegalArgumentException") (T := "java/lang/IndexOutOfBoundsException") (hs _ (by decide +kernel)), List.forall_mem_cons.mpr ⟨va_Nc.of (C := "java/lang/IllegalArgumentException") (T := "java/lang/IllegalStateException") (hs _ (by decide +kernel)), List.forall_mem_cons.mpr ⟨va_Nc.of (C := "java/lang/IllegalArgumentException") (T := "java/lang/UnsupportedOperationException") (hs _ (by decide +kernel)), List.forall_mem_cons.mpr ⟨va_Nc.of (C := "java/lang/IndexOutOfBoundsException") (T := "java/lang/IllegalArgumentException") (hs _ (by decide +kernel)), List.forall_mem_cons.mpr ⟨va_Nc.of (C := "java/lang/IndexOutOfBoundsException") (T := "java/lang/IllegalStateException") (hs _ (by decide +kernel)), List.forall_mem_cons.mpr ⟨va_Nc.of (C := "java/lang/IndexOutOfBoundsException") (T := "java/lang/UnsupportedOperationException") (hs _ (by decide +kernel)), List.forall_mem_cons.mpr ⟨va_Nc.of (C := "java/lang/IllegalStateException") (T := "java/lang/IllegalArgumentException") (hs _ (by decide +kernel)), List.forall_mem_cons.mpr ⟨va_Nc.of (C := "java/lang/IllegalStateException") (T := "java/lang/IndexOutOfBoundsException") (hs _ (by decide +kernel)), List.forall_mem_cons.mpr ⟨va_Nc.of (C := "java/lang/IllegalStateException") (T := "java/lang/UnsupportedOperationException") (hs _ (by decide +kernel)), List.forall_mem_cons.mpr ⟨va_Nc.of (C := "java/lang/UnsupportedOperationException") (T := "java/lang/IllegalArgumentException") (hs _ (by decide +kernel)), List.forall_mem_cons.mpr ⟨va_Nc.of (C := "java/lang/UnsupportedOperationException") (T := "java/lang/IndexOutOfBoundsException") (hs _ (by decide +kernel)), List.forall_mem_cons.mpr ⟨va_Nc.of (C := "java/lang/UnsupportedOperationException") (T := "java/lang/IllegalStateException") (hs _ (by decide +kernel)), fun _ h => nomatch h⟩⟩⟩⟩⟩⟩⟩⟩⟩⟩⟩⟩
theorem st_arr {s : State} {args : Array Value} {ty : FieldType} (hp : ∀ C, ty ≠ .object C) (h : (Cond.arrayClass ty).before args s = true) : ∃ cA : ClassId, ArrOfT s cA ty ∧ va_RA s cA ty := by
  obtain ⟨cA, kA, comp, h1, h2, h3⟩ := Cond.arrayClass_spec h
  refine ⟨cA, fun n z => ⟨fun k h => (by cases h), kA, h2, comp, h3⟩, ?_⟩
  cases ty with
  | object C => exact absurd rfl (hp C)
  | _ => exact h1
theorem st_swap {D : va_G} {cl : List vw_C} {A : Nat → Prop} {X Y : va_W} {q : Nat × va_E} {H : Heap} (hP : va_P D cl ((X ++ Y) ++ [q]) H) (hD : va_D A ((X ++ Y) ++ [q])) : va_P D cl ((X ++ [q]) ++ Y) H ∧ va_D A ((X ++ [q]) ++ Y) := by
  have hPX : va_P D cl X H := gy_P (gy_P hP)
  have hPY : va_P D cl Y H := gy_PR (gy_P hP)
  have hPq : va_P D cl [q] H := gy_PR hP
  have hDX : va_D A X := gy_D (gy_D hD)
  have hDY : va_D A Y := gy_DR (gy_D hD)
  have hDq : va_D A [q] := gy_DR hD
  have xy : ∀ (i j : Nat) (p r : Nat × va_E), X[i]? = some p → Y[j]? = some r → p.1 ≠ r.1 := fun i j p r hp hr e => by
    have h1 := (List.getElem?_eq_some_iff.mp hp).1
    have := hD.1 i (X.length + j) p r (gy_inL (gy_inL hp)) (gy_inL (gy_in hr)) e
    omega
  have xq : ∀ (i j : Nat) (p r : Nat × va_E), X[i]? = some p → [q][j]? = some r → p.1 ≠ r.1 := fun i j p r hp hr e => by
    have h1 := (List.getElem?_eq_some_iff.mp hp).1
    have := hD.1 i ((X ++ Y).length + j) p r (gy_inL (gy_inL hp)) (gy_in hr) e
    rw [List.length_append] at this
    omega
  have qy : ∀ (i j : Nat) (p r : Nat × va_E), [q][i]? = some p → Y[j]? = some r → p.1 ≠ r.1 := fun i j p r hp hr e => by
    have h1 := (List.getElem?_eq_some_iff.mp hr).1
    have := hD.1 ((X ++ Y).length + i) (X.length + j) p r (gy_in hp) (gy_inL (gy_in hr)) e
    rw [List.length_append] at this
    omega
  refine ⟨(hPX.app hPq).app hPY, va_D.app (va_D.app hDX hDq xq) hDY (fun i j p r hp hr => ?_)⟩
  by_cases h : i < X.length
  · rw [List.getElem?_append_left h] at hp; exact xy i j p r hp hr
  · rw [List.getElem?_append_right (by omega)] at hp; exact qy _ j p r hp hr
set_option maxHeartbeats 8000000 in
set_option maxRecDepth 100000 in
theorem start_open {p : Program} {e : Env} {s : State} {m : MethodId} {below : List Frame} {meth : Method} {c : Code} (l : Launch) (hst : l.stackTraces = false) {b L : Nat} {xs : Nat → Int32} (hL : L ≤ 3584) (C0 : lw_At p s m meth c b L xs) (N : Nat) (Rel : StA → StB → Prop) (hsim : SimAll N Rel) (hinit : ∀ u v, InitA u → InitB v → Rel u v) : W p l e room_1 s m #[Value.ref b] below meth c s.heap [] 0 0 (lw_Z below #[Value.ref b] s) (entryFrame m ([Value.ref b] : List Value).toArray 7) := by
  obtain ⟨hx, hb, hr, hml, hown, hts, hX, hbl, hlocks, hgv⟩ := id C0
  have hown : s.vm.findClass "AidRowsLaw" = some m.cls := hown
  have hG : ∀ w ∈ gG, w.before #[Value.ref b] s = true := fun w h => hts w (List.mem_filter.mp h).1
  have hE := st_E hts hgv
  have hA : ∀ q : Nat, s.heap.size ≤ q → gl_A s q := fun _ h => h
  obtain ⟨c0, i0, hKn0⟩ := u_known (C := RA) (T := TA) (N := 9) (n := 9) hG inA (hG _ mw_19)
  obtain ⟨c1, i1, hKn1⟩ := u_known (C := RHo) (T := THo) (N := 4) (n := 4) hG inHo (hG _ mw_27)
  obtain ⟨c2, i2, hKn2⟩ := u_known (C := RAg) (T := TAg) (N := 7) (n := 7) hG inAg (hG _ mw_52)
  obtain ⟨c3, i3, hKn3⟩ := u_known (C := RAs) (T := TAs) (N := 10) (n := 10) hG inAs (hG _ mw_82)
  obtain ⟨c4, i4, hKn4⟩ := u_known (C := RLo) (T := TLo) (N := 7) (n := 7) hG inLo (hG _ mw_126)
  obtain ⟨c5, i5, hKn5⟩ := u_known (C := RNu) (T := TNu) (N := 1) (n := 1) hG inNu (hG _ mw_161)
  obtain ⟨c6, i6, hKn6⟩ := u_known (C := RB) (T := TB) (N := 36) (n := 36) hG inB (hG _ mw_640)
  obtain ⟨D, hKc⟩ : ∃ D : va_G, ∀ (k : Nat) (q : vw_C), vwCl[k]? = some q → u_Kn s q.1 q.2.1 q.2.2 (D.1 k) (D.2 k) := by
    refine ⟨(fun k => match k with | 0 => c0 | 1 => c1 | 2 => c2 | 3 => c3 | 4 => c4 | 5 => c5 | _ => c6, fun k => match k with | 0 => i0 | 1 => i1 | 2 => i2 | 3 => i3 | 4 => i4 | 5 => i5 | _ => i6), ?_⟩
    intro k q hq
    match k, hq with
    | 0, hq => cases hq; exact hKn0
    | 1, hq => cases hq; exact hKn1
    | 2, hq => cases hq; exact hKn2
    | 3, hq => cases hq; exact hKn3
    | 4, hq => cases hq; exact hKn4
    | 5, hq => cases hq; exact hKn5
    | 6, hq => cases hq; exact hKn6
    | k + 7, hq => simp [vwCl] at hq
  obtain ⟨cI, hcI⟩ := st_arr (ty := .int) (fun _ => by simp) (hG _ mw_49)
  obtain ⟨cZ, hcZ⟩ := st_arr (ty := .boolean) (fun _ => by simp) (hG _ mw_50)
  obtain ⟨cJ, hcJ⟩ := st_arr (ty := .long) (fun _ => by simp) (hG _ mw_170)
  have hK : va_K D vwCl (tA cI cZ cJ) s := ⟨hKc, fun k q h => by
    match k, h with
    | 0, h => cases h; exact hcI
    | 1, h => cases h; exact hcZ
    | 2, h => cases h; exact hcJ
    | k + 3, h => simp at h⟩
  have hN : gz_N s := by
    unfold gz_N
    exact List.forall_mem_cons.mpr ⟨va_Nw.of rfl (hts _ (List.mem_append_right _ (List.mem_of_getElem? (i := 28) (by decide +kernel)))), List.forall_mem_cons.mpr ⟨va_Nw.of rfl (hts _ (List.mem_append_right _ (List.mem_of_getElem? (i := 53) (by decide +kernel)))), List.forall_mem_cons.mpr ⟨va_Nw.of rfl (hts _ (List.mem_append_right _ (List.mem_of_getElem? (i := 83) (by decide +kernel)))), List.forall_mem_cons.mpr ⟨va_Nw.of rfl (hts _ (List.mem_append_right _ (List.mem_of_getElem? (i := 127) (by decide +kernel)))), List.forall_mem_cons.mpr ⟨va_Nw.of rfl (hts _ (List.mem_append_right _ (List.mem_of_getElem? (i := 162) (by decide +kernel)))), fun _ h => nomatch h⟩⟩⟩⟩⟩
  have hS : va_S (gl_A s) s.heap s.heap [] := va_S.rf
  have hP : va_P D vwCl [] s.heap := fun k q h => by simp at h
  have hD : va_D (gl_A s) [] := ⟨fun i j p q h => by simp at h, fun k q h => by simp at h⟩
  have hl := lv_entry ([.ref b]) (n := 7) (Nat.le_of_ble_eq_true rfl)
  rw [lg_entry_eq]
  generalize (lg_sl ([.ref b]) ++ List.replicate (7 - (lg_sl ([.ref b])).length) Slot.unset).toArray = ls at hl ⊢
  have hl : lv_has ls 7 [(0, .ref b)] := hl
  refine va_new (ci := 0) (fs := [.null, .null, .null, .null, .null, .null, .int 0, .int 0, .int 0]) (C := RA) (T := TA) (N := 9) hx hb hG inA tyA tyA_ok hown (hG _ mw_18) (hG _ mw_19) (hG _ mw_1) hK hP hD hS hA rfl (by decide +kernel) (Nat.le_of_ble_eq_true rfl) (Nat.le_of_ble_eq_true rfl) dL_law_0 (fun h0 H hP hD hS => ?_)
  have hP : va_P D vwCl [(h0, .inr (0, [.null, .null, .null, .null, .null, .null, .int 0, .int 0, .int 0]))] H := hP
  have hD : va_D (gl_A s) [(h0, .inr (0, [.null, .null, .null, .null, .null, .null, .int 0, .int 0, .int 0]))] := hD
  refine lv_dup hx hb dL_law_3 rfl ?_
  have hFc := va_free (wc := [(h0, .inr (0, [.null, .null, .null, .null, .null, .null, .int 0, .int 0, .int 0]))]) hD hS hA [0] rfl
  refine va_callv (va_runI (As := []) (rest := [.ref h0]) ⟨hx, hb, hml, hown, hG⟩ (c_A_init l D cI cZ cJ h0 H.size) ⟨callB_of 0 hG (gG_in (gG_c mw_22)) rfl rfl rfl (hG _ mw_1) (hG _ mw_20) ⟨by decide +kernel, by decide +kernel, by decide +kernel⟩ ⟨Nat.le_of_ble_eq_true rfl, Nat.le_of_ble_eq_true rfl⟩, rfl, hG _ mw_21⟩ ⟨gz_blind, gz_pre hK hP hD hN⟩ rfl rfl hl.1 rfl (lv_room (Nat.le_of_ble_eq_true rfl)) dL_law_4 ⟨Nat.le_of_ble_eq_true rfl, Nat.le_of_ble_eq_true rfl⟩) hS (fun q _ h => hFc q h) hFc (fun qa t H1 locs ht hvm hw hB hz1 hk1 hS => ?_)
  obtain ⟨ad, u⟩ := qa
  obtain ⟨hP1, hD1⟩ := hB
  rw [ht] at hP1
  obtain ⟨had, hu⟩ := hw
  dsimp only at had hu
  subst had
  have hP : va_P D vwCl (wA ad cI cZ cJ u) H1 := hP1
  have hD : va_D (gl_A s) (wA ad cI cZ cJ u) := hD1.weaken (fun _ q _ h => hFc q.1 h)
  clear hFc hk1 hz1
  refine lv_astore_n (lv' := [(1, .ref (ad 0)), (0, .ref b)]) hx hb dL_law_7 rfl hl (by decide) rfl (fun ls hl => ?_)
  refine va_new (ci := 6) (fs := [.int 0, .int 0, .int 0, .null, .null, .null, .int 0, .null, .null, .null, .null, .null, .null, .null, .int 0, .null, .null, .null, .null, .null, .null, .null, .null, .null, .null, .int 0, .null, .null, .null, .null, .null, .null, .null, .null, .int 0, .int 0]) (C := RB) (T := TB) (N := 36) hx hb hG inB tyB tyB_ok hown (hG _ mw_639) (hG _ mw_640) (hG _ mw_8) hK hP hD hS hA rfl (by decide +kernel) (Nat.le_of_ble_eq_true rfl) (Nat.le_of_ble_eq_true rfl) dL_law_8 (fun g0 H hP hD hS => ?_)
  refine lv_dup hx hb dL_law_11 rfl ?_
  have hFc : ∀ q, va_A [(g0, .inr (6, [.int 0, .int 0, .int 0, .null, .null, .null, .int 0, .null, .null, .null, .null, .null, .null, .null, .int 0, .null, .null, .null, .null, .null, .null, .null, .null, .null, .null, .int 0, .null, .null, .null, .null, .null, .null, .null, .null, .int 0, .int 0]))] H.size q → gl_A s q := gy_free (fun k q h => hD.2 _ q (gy_in h)) hS hA
  refine va_callv (va_runI (As := []) (rest := [.ref g0]) ⟨hx, hb, hml, hown, hG⟩ (c_B_init l D cI cZ cJ g0 H.size) ⟨callB_of 0 hG (gG_in (gG_c mw_643)) rfl rfl rfl (hG _ mw_8) (hG _ mw_641) ⟨by decide +kernel, by decide +kernel, by decide +kernel⟩ ⟨Nat.le_of_ble_eq_true rfl, Nat.le_of_ble_eq_true rfl⟩, rfl, hG _ mw_642⟩ ⟨gz_blind, gz_pre hK (gy_PR hP) (gy_DR hD) hN⟩ rfl rfl hl.1 rfl (lv_room (Nat.le_of_ble_eq_true rfl)) dL_law_12 ⟨Nat.le_of_ble_eq_true rfl, Nat.le_of_ble_eq_true rfl⟩) hS (fun q _ h => hFc q h) hFc (fun qb t H1 locs ht hvm hw hB hz1 hk1 hS => ?_)
  obtain ⟨bd, v⟩ := qb
  obtain ⟨hP1, hD1⟩ := hB
  rw [ht] at hP1
  obtain ⟨hbd, hv⟩ := hw
  dsimp only at hbd hv
  subst hbd
  obtain ⟨hP, hD⟩ := gy_joinR hP hD hk1 hFc hP1 hD1
  have hP : va_P D vwCl (wA ad cI cZ cJ u ++ wB bd cI cZ v) H1 := hP
  have hD : va_D (gl_A s) (wA ad cI cZ cJ u ++ wB bd cI cZ v) := hD
  clear hFc hk1 hz1
  refine lv_astore_n (lv' := [(2, .ref (bd 0)), (1, .ref (ad 0)), (0, .ref b)]) hx hb dL_law_15 rfl hl (by decide) rfl (fun ls hl => ?_)
  refine lv_iconst (v := (1 : Int32)) hx hb dL_law_16 (by decide) ?_
  refine va_newa (atype := .long) (n := (1 : Int32)) (N' := 1) (a0 := (1, .inr (.inl (fun _ => 0)))) (ty := .long) hx hb (hG _ mw_170) rfl hK hP hD hS hA (gz_nJ 1) (by decide) (by decide) (by decide) (Nat.le_of_ble_eq_true rfl) (Nat.le_of_ble_eq_true rfl) dL_law_17 (fun oa cA H hK1 hP hD hS => ?_)
  have hcA : cJ = cA := (gz_uniq hK1 (k := 2) rfl (fun _ => by simp)).symm
  subst hcA
  refine lv_astore_n (lv' := [(3, .ref oa), (2, .ref (bd 0)), (1, .ref (ad 0)), (0, .ref b)]) hx hb dL_law_19 rfl hl (by decide) rfl (fun ls hl => ?_)
  refine lv_iconst (v := (0 : Int32)) hx hb dL_law_20 (by decide) ?_
  refine lv_istore (lv' := [(4, .int (0 : Int32)), (3, .ref oa), (2, .ref (bd 0)), (1, .ref (ad 0)), (0, .ref b)]) hx hb dL_law_21 hl (by decide) rfl (fun ls hl => ?_)
  have hPD : va_P D vwCl (wO ad cI cZ cJ oa (u, fun _ => 0) ++ wB bd cI cZ v) H ∧ va_D (gl_A s) (wO ad cI cZ cJ oa (u, fun _ => 0) ++ wB bd cI cZ v) := st_swap hP hD
  refine W.widen (k := 62) (n := 11193) (by omega) (by omega) ?_
  exact law_loop hL ⟨hx, hb, hr, hml, hG, hown, hlocks, hK, hX, hbl, hst, hE⟩ N Rel hsim 513 0 (by omega) (by omega) u (fun _ => 0) v (hinit u v hu hv) 0 rfl H locs ls hPD.1 hPD.2 hS (lv_sub hl [4, 3, 2, 1, 0] rfl)
