abbrev cJI_bitCount : ByteArray := prog_13_method_49_code
def yJI_bitCount : MethodName := ⟨"java/lang/Integer", "bitCount", "(I)I"⟩
theorem dJI_bitCount_0 : decode cJI_bitCount 0 = .ok (.iload_n 0, 1) := by decide +kernel
theorem dJI_bitCount_1 : decode cJI_bitCount 1 = .ok (.iload_n 0, 1) := by decide +kernel
theorem dJI_bitCount_2 : decode cJI_bitCount 2 = .ok (.iconst 1, 1) := by decide +kernel
theorem dJI_bitCount_3 : decode cJI_bitCount 3 = .ok (.iushr, 1) := by decide +kernel
theorem dJI_bitCount_4 : decode cJI_bitCount 4 = .ok (.ldc_w 265, 3) := by decide +kernel
theorem dJI_bitCount_7 : decode cJI_bitCount 7 = .ok (.iand, 1) := by decide +kernel
theorem dJI_bitCount_8 : decode cJI_bitCount 8 = .ok (.isub, 1) := by decide +kernel
theorem dJI_bitCount_9 : decode cJI_bitCount 9 = .ok (.istore_n 0, 1) := by decide +kernel
theorem dJI_bitCount_10 : decode cJI_bitCount 10 = .ok (.iload_n 0, 1) := by decide +kernel
theorem dJI_bitCount_11 : decode cJI_bitCount 11 = .ok (.ldc_w 266, 3) := by decide +kernel
theorem dJI_bitCount_14 : decode cJI_bitCount 14 = .ok (.iand, 1) := by decide +kernel
theorem dJI_bitCount_15 : decode cJI_bitCount 15 = .ok (.iload_n 0, 1) := by decide +kernel
theorem dJI_bitCount_16 : decode cJI_bitCount 16 = .ok (.iconst 2, 1) := by decide +kernel
theorem dJI_bitCount_17 : decode cJI_bitCount 17 = .ok (.iushr, 1) := by decide +kernel
theorem dJI_bitCount_18 : decode cJI_bitCount 18 = .ok (.ldc_w 266, 3) := by decide +kernel
theorem dJI_bitCount_21 : decode cJI_bitCount 21 = .ok (.iand, 1) := by decide +kernel
theorem dJI_bitCount_22 : decode cJI_bitCount 22 = .ok (.iadd, 1) := by decide +kernel
theorem dJI_bitCount_23 : decode cJI_bitCount 23 = .ok (.istore_n 0, 1) := by decide +kernel
theorem dJI_bitCount_24 : decode cJI_bitCount 24 = .ok (.iload_n 0, 1) := by decide +kernel
theorem dJI_bitCount_25 : decode cJI_bitCount 25 = .ok (.iload_n 0, 1) := by decide +kernel
theorem dJI_bitCount_26 : decode cJI_bitCount 26 = .ok (.iconst 4, 1) := by decide +kernel
theorem dJI_bitCount_27 : decode cJI_bitCount 27 = .ok (.iushr, 1) := by decide +kernel
theorem dJI_bitCount_28 : decode cJI_bitCount 28 = .ok (.iadd, 1) := by decide +kernel
theorem dJI_bitCount_29 : decode cJI_bitCount 29 = .ok (.ldc_w 267, 3) := by decide +kernel
theorem dJI_bitCount_32 : decode cJI_bitCount 32 = .ok (.iand, 1) := by decide +kernel
theorem dJI_bitCount_33 : decode cJI_bitCount 33 = .ok (.istore_n 0, 1) := by decide +kernel
theorem dJI_bitCount_34 : decode cJI_bitCount 34 = .ok (.iload_n 0, 1) := by decide +kernel
theorem dJI_bitCount_35 : decode cJI_bitCount 35 = .ok (.iload_n 0, 1) := by decide +kernel
theorem dJI_bitCount_36 : decode cJI_bitCount 36 = .ok (.bipush 8, 2) := by decide +kernel
theorem dJI_bitCount_38 : decode cJI_bitCount 38 = .ok (.iushr, 1) := by decide +kernel
theorem dJI_bitCount_39 : decode cJI_bitCount 39 = .ok (.iadd, 1) := by decide +kernel
theorem dJI_bitCount_40 : decode cJI_bitCount 40 = .ok (.istore_n 0, 1) := by decide +kernel
theorem dJI_bitCount_41 : decode cJI_bitCount 41 = .ok (.iload_n 0, 1) := by decide +kernel
theorem dJI_bitCount_42 : decode cJI_bitCount 42 = .ok (.iload_n 0, 1) := by decide +kernel
theorem dJI_bitCount_43 : decode cJI_bitCount 43 = .ok (.bipush 16, 2) := by decide +kernel
theorem dJI_bitCount_45 : decode cJI_bitCount 45 = .ok (.iushr, 1) := by decide +kernel
theorem dJI_bitCount_46 : decode cJI_bitCount 46 = .ok (.iadd, 1) := by decide +kernel
theorem dJI_bitCount_47 : decode cJI_bitCount 47 = .ok (.istore_n 0, 1) := by decide +kernel
theorem dJI_bitCount_48 : decode cJI_bitCount 48 = .ok (.iload_n 0, 1) := by decide +kernel
theorem dJI_bitCount_49 : decode cJI_bitCount 49 = .ok (.bipush 63, 2) := by decide +kernel
theorem dJI_bitCount_51 : decode cJI_bitCount 51 = .ok (.iand, 1) := by decide +kernel
theorem dJI_bitCount_52 : decode cJI_bitCount 52 = .ok (.ireturn, 1) := by decide +kernel
abbrev cJM_min : ByteArray := prog_14_method_69_code
def yJM_min : MethodName := ⟨"java/lang/Math", "min", "(II)I"⟩
theorem dJM_min_0 : decode cJM_min 0 = .ok (.iload_n 0, 1) := by decide +kernel
theorem dJM_min_1 : decode cJM_min 1 = .ok (.iload_n 1, 1) := by decide +kernel
theorem dJM_min_2 : decode cJM_min 2 = .ok (.if_icmp .gt 7, 3) := by decide +kernel
theorem dJM_min_5 : decode cJM_min 5 = .ok (.iload_n 0, 1) := by decide +kernel
theorem dJM_min_6 : decode cJM_min 6 = .ok (.goto 4, 3) := by decide +kernel
theorem dJM_min_9 : decode cJM_min 9 = .ok (.iload_n 1, 1) := by decide +kernel
theorem dJM_min_10 : decode cJM_min 10 = .ok (.ireturn, 1) := by decide +kernel
abbrev StA : Type := (Nat → Int32) × (Nat → Nat → Int32) × (Nat → Int64)
def sF (u : StA) (k : Nat) (v : Int32) : StA := (fun j => if j = k then v else u.1 j, u.2.1, u.2.2)
def sA (u : StA) (k i : Nat) (v : Int32) : StA := (u.1, fun j => if j = k then upd (u.2.1 k) i v else u.2.1 j, u.2.2)
def sL (u : StA) (i : Nat) (v : Int64) : StA := (u.1, u.2.1, vp_updL u.2.2 i v)
abbrev tA (cI cZ cJ : ClassId) : List (ClassId × FieldType) := [(cI, .int), (cZ, .boolean), (cJ, .long)]
def wA (ad : Nat → Nat) (cI cZ cJ : ClassId) (u : StA) : va_W := [((ad 0), .inr (0, [.ref (ad 1), .ref (ad 2), .ref (ad 3), .ref (ad 4), .ref (ad 5), .ref (ad 6), .int (u.1 0), .int (u.1 1), .int (u.1 2)])), ((ad 1), .inr (1, [.ref (ad 7), .ref (ad 8), .ref (ad 9), .int (u.1 3)])), ((ad 2), .inr (2, [.ref (ad 10), .ref (ad 11), .ref (ad 12), .ref (ad 13), .ref (ad 14), .ref (ad 15), .int (u.1 4)])), ((ad 3), .inr (3, [.ref (ad 16), .ref (ad 17), .ref (ad 18), .ref (ad 19), .ref (ad 20), .ref (ad 21), .ref (ad 22), .ref (ad 23), .ref (ad 24), .int (u.1 5)])), ((ad 4), .inr (4, [.ref (ad 25), .ref (ad 26), .ref (ad 27), .ref (ad 28), .ref (ad 29), .ref (ad 30), .int (u.1 6)])), ((ad 5), .inr (5, [.ref (ad 31)])), ((ad 6), .inl (cI, 100, .inl (u.2.1 0))), ((ad 7), .inl (cI, 8, .inl (u.2.1 1))), ((ad 8), .inl (cI, 8, .inl (u.2.1 2))), ((ad 9), .inl (cZ, 8, .inl (u.2.1 3))), ((ad 10), .inl (cI, 30, .inl (u.2.1 4))), ((ad 11), .inl (cI, 30, .inl (u.2.1 5))), ((ad 12), .inl (cI, 30, .inl (u.2.1 6))), ((ad 13), .inl (cI, 30, .inl (u.2.1 7))), ((ad 14), .inl (cI, 30, .inl (u.2.1 8))), ((ad 15), .inl (cI, 30, .inl (u.2.1 9))), ((ad 16), .inl (cI, 30, .inl (u.2.1 10))), ((ad 17), .inl (cI, 30, .inl (u.2.1 11))), ((ad 18), .inl (cI, 30, .inl (u.2.1 12))), ((ad 19), .inl (cI, 30, .inl (u.2.1 13))), ((ad 20), .inl (cI, 30, .inl (u.2.1 14))), ((ad 21), .inl (cI, 30, .inl (u.2.1 15))), ((ad 22), .inl (cI, 30, .inl (u.2.1 16))), ((ad 23), .inl (cI, 30, .inl (u.2.1 17))), ((ad 24), .inl (cZ, 30, .inl (u.2.1 18))), ((ad 25), .inl (cI, 100, .inl (u.2.1 19))), ((ad 26), .inl (cI, 100, .inl (u.2.1 20))), ((ad 27), .inl (cI, 100, .inl (u.2.1 21))), ((ad 28), .inl (cI, 100, .inl (u.2.1 22))), ((ad 29), .inl (cI, 100, .inl (u.2.1 23))), ((ad 30), .inl (cI, 100, .inl (u.2.1 24))), ((ad 31), .inl (cJ, 500, .inr (.inl u.2.2)))]
set_option maxRecDepth 100000 in
theorem wA_f0 (ad : Nat → Nat) (cI cZ cJ : ClassId) (u : StA) (v : Int32) : (wA ad cI cZ cJ u).set 0 ((ad 0), .inr (0, [.ref (ad 1), .ref (ad 2), .ref (ad 3), .ref (ad 4), .ref (ad 5), .ref (ad 6), .int (u.1 0), .int (u.1 1), .int (u.1 2)].set 6 (.int v))) = wA ad cI cZ cJ (sF u 0 v) := rfl
set_option maxRecDepth 100000 in
theorem wA_f1 (ad : Nat → Nat) (cI cZ cJ : ClassId) (u : StA) (v : Int32) : (wA ad cI cZ cJ u).set 0 ((ad 0), .inr (0, [.ref (ad 1), .ref (ad 2), .ref (ad 3), .ref (ad 4), .ref (ad 5), .ref (ad 6), .int (u.1 0), .int (u.1 1), .int (u.1 2)].set 7 (.int v))) = wA ad cI cZ cJ (sF u 1 v) := rfl
set_option maxRecDepth 100000 in
theorem wA_f2 (ad : Nat → Nat) (cI cZ cJ : ClassId) (u : StA) (v : Int32) : (wA ad cI cZ cJ u).set 0 ((ad 0), .inr (0, [.ref (ad 1), .ref (ad 2), .ref (ad 3), .ref (ad 4), .ref (ad 5), .ref (ad 6), .int (u.1 0), .int (u.1 1), .int (u.1 2)].set 8 (.int v))) = wA ad cI cZ cJ (sF u 2 v) := rfl
set_option maxRecDepth 100000 in
theorem wA_f3 (ad : Nat → Nat) (cI cZ cJ : ClassId) (u : StA) (v : Int32) : (wA ad cI cZ cJ u).set 1 ((ad 1), .inr (1, [.ref (ad 7), .ref (ad 8), .ref (ad 9), .int (u.1 3)].set 3 (.int v))) = wA ad cI cZ cJ (sF u 3 v) := rfl
set_option maxRecDepth 100000 in
theorem wA_f4 (ad : Nat → Nat) (cI cZ cJ : ClassId) (u : StA) (v : Int32) : (wA ad cI cZ cJ u).set 2 ((ad 2), .inr (2, [.ref (ad 10), .ref (ad 11), .ref (ad 12), .ref (ad 13), .ref (ad 14), .ref (ad 15), .int (u.1 4)].set 6 (.int v))) = wA ad cI cZ cJ (sF u 4 v) := rfl
set_option maxRecDepth 100000 in
theorem wA_f5 (ad : Nat → Nat) (cI cZ cJ : ClassId) (u : StA) (v : Int32) : (wA ad cI cZ cJ u).set 3 ((ad 3), .inr (3, [.ref (ad 16), .ref (ad 17), .ref (ad 18), .ref (ad 19), .ref (ad 20), .ref (ad 21), .ref (ad 22), .ref (ad 23), .ref (ad 24), .int (u.1 5)].set 9 (.int v))) = wA ad cI cZ cJ (sF u 5 v) := rfl
set_option maxRecDepth 100000 in
theorem wA_f6 (ad : Nat → Nat) (cI cZ cJ : ClassId) (u : StA) (v : Int32) : (wA ad cI cZ cJ u).set 4 ((ad 4), .inr (4, [.ref (ad 25), .ref (ad 26), .ref (ad 27), .ref (ad 28), .ref (ad 29), .ref (ad 30), .int (u.1 6)].set 6 (.int v))) = wA ad cI cZ cJ (sF u 6 v) := rfl
set_option maxRecDepth 100000 in
theorem wA_a0 (ad : Nat → Nat) (cI cZ cJ : ClassId) (u : StA) (i : Nat) (v : Int32) : (wA ad cI cZ cJ u).set 6 ((ad 6), .inl (cI, 100, .inl (upd (u.2.1 0) i v))) = wA ad cI cZ cJ (sA u 0 i v) := rfl
set_option maxRecDepth 100000 in
theorem wA_a1 (ad : Nat → Nat) (cI cZ cJ : ClassId) (u : StA) (i : Nat) (v : Int32) : (wA ad cI cZ cJ u).set 7 ((ad 7), .inl (cI, 8, .inl (upd (u.2.1 1) i v))) = wA ad cI cZ cJ (sA u 1 i v) := rfl
set_option maxRecDepth 100000 in
theorem wA_a2 (ad : Nat → Nat) (cI cZ cJ : ClassId) (u : StA) (i : Nat) (v : Int32) : (wA ad cI cZ cJ u).set 8 ((ad 8), .inl (cI, 8, .inl (upd (u.2.1 2) i v))) = wA ad cI cZ cJ (sA u 2 i v) := rfl
set_option maxRecDepth 100000 in
theorem wA_a3 (ad : Nat → Nat) (cI cZ cJ : ClassId) (u : StA) (i : Nat) (v : Int32) : (wA ad cI cZ cJ u).set 9 ((ad 9), .inl (cZ, 8, .inl (upd (u.2.1 3) i v))) = wA ad cI cZ cJ (sA u 3 i v) := rfl
set_option maxRecDepth 100000 in
theorem wA_a4 (ad : Nat → Nat) (cI cZ cJ : ClassId) (u : StA) (i : Nat) (v : Int32) : (wA ad cI cZ cJ u).set 10 ((ad 10), .inl (cI, 30, .inl (upd (u.2.1 4) i v))) = wA ad cI cZ cJ (sA u 4 i v) := rfl
set_option maxRecDepth 100000 in
theorem wA_a5 (ad : Nat → Nat) (cI cZ cJ : ClassId) (u : StA) (i : Nat) (v : Int32) : (wA ad cI cZ cJ u).set 11 ((ad 11), .inl (cI, 30, .inl (upd (u.2.1 5) i v))) = wA ad cI cZ cJ (sA u 5 i v) := rfl
set_option maxRecDepth 100000 in
theorem wA_a6 (ad : Nat → Nat) (cI cZ cJ : ClassId) (u : StA) (i : Nat) (v : Int32) : (wA ad cI cZ cJ u).set 12 ((ad 12), .inl (cI, 30, .inl (upd (u.2.1 6) i v))) = wA ad cI cZ cJ (sA u 6 i v) := rfl
set_option maxRecDepth 100000 in
theorem wA_a7 (ad : Nat → Nat) (cI cZ cJ : ClassId) (u : StA) (i : Nat) (v : Int32) : (wA ad cI cZ cJ u).set 13 ((ad 13), .inl (cI, 30, .inl (upd (u.2.1 7) i v))) = wA ad cI cZ cJ (sA u 7 i v) := rfl
set_option maxRecDepth 100000 in
theorem wA_a8 (ad : Nat → Nat) (cI cZ cJ : ClassId) (u : StA) (i : Nat) (v : Int32) : (wA ad cI cZ cJ u).set 14 ((ad 14), .inl (cI, 30, .inl (upd (u.2.1 8) i v))) = wA ad cI cZ cJ (sA u 8 i v) := rfl
set_option maxRecDepth 100000 in
theorem wA_a9 (ad : Nat → Nat) (cI cZ cJ : ClassId) (u : StA) (i : Nat) (v : Int32) : (wA ad cI cZ cJ u).set 15 ((ad 15), .inl (cI, 30, .inl (upd (u.2.1 9) i v))) = wA ad cI cZ cJ (sA u 9 i v) := rfl
set_option maxRecDepth 100000 in
theorem wA_a10 (ad : Nat → Nat) (cI cZ cJ : ClassId) (u : StA) (i : Nat) (v : Int32) : (wA ad cI cZ cJ u).set 16 ((ad 16), .inl (cI, 30, .inl (upd (u.2.1 10) i v))) = wA ad cI cZ cJ (sA u 10 i v) := rfl
set_option maxRecDepth 100000 in
theorem wA_a11 (ad : Nat → Nat) (cI cZ cJ : ClassId) (u : StA) (i : Nat) (v : Int32) : (wA ad cI cZ cJ u).set 17 ((ad 17), .inl (cI, 30, .inl (upd (u.2.1 11) i v))) = wA ad cI cZ cJ (sA u 11 i v) := rfl
set_option maxRecDepth 100000 in
theorem wA_a12 (ad : Nat → Nat) (cI cZ cJ : ClassId) (u : StA) (i : Nat) (v : Int32) : (wA ad cI cZ cJ u).set 18 ((ad 18), .inl (cI, 30, .inl (upd (u.2.1 12) i v))) = wA ad cI cZ cJ (sA u 12 i v) := rfl
set_option maxRecDepth 100000 in
theorem wA_a13 (ad : Nat → Nat) (cI cZ cJ : ClassId) (u : StA) (i : Nat) (v : Int32) : (wA ad cI cZ cJ u).set 19 ((ad 19), .inl (cI, 30, .inl (upd (u.2.1 13) i v))) = wA ad cI cZ cJ (sA u 13 i v) := rfl
set_option maxRecDepth 100000 in
theorem wA_a14 (ad : Nat → Nat) (cI cZ cJ : ClassId) (u : StA) (i : Nat) (v : Int32) : (wA ad cI cZ cJ u).set 20 ((ad 20), .inl (cI, 30, .inl (upd (u.2.1 14) i v))) = wA ad cI cZ cJ (sA u 14 i v) := rfl
set_option maxRecDepth 100000 in
theorem wA_a15 (ad : Nat → Nat) (cI cZ cJ : ClassId) (u : StA) (i : Nat) (v : Int32) : (wA ad cI cZ cJ u).set 21 ((ad 21), .inl (cI, 30, .inl (upd (u.2.1 15) i v))) = wA ad cI cZ cJ (sA u 15 i v) := rfl
set_option maxRecDepth 100000 in
theorem wA_a16 (ad : Nat → Nat) (cI cZ cJ : ClassId) (u : StA) (i : Nat) (v : Int32) : (wA ad cI cZ cJ u).set 22 ((ad 22), .inl (cI, 30, .inl (upd (u.2.1 16) i v))) = wA ad cI cZ cJ (sA u 16 i v) := rfl
set_option maxRecDepth 100000 in
theorem wA_a17 (ad : Nat → Nat) (cI cZ cJ : ClassId) (u : StA) (i : Nat) (v : Int32) : (wA ad cI cZ cJ u).set 23 ((ad 23), .inl (cI, 30, .inl (upd (u.2.1 17) i v))) = wA ad cI cZ cJ (sA u 17 i v) := rfl
set_option maxRecDepth 100000 in
theorem wA_a18 (ad : Nat → Nat) (cI cZ cJ : ClassId) (u : StA) (i : Nat) (v : Int32) : (wA ad cI cZ cJ u).set 24 ((ad 24), .inl (cZ, 30, .inl (upd (u.2.1 18) i v))) = wA ad cI cZ cJ (sA u 18 i v) := rfl
set_option maxRecDepth 100000 in
theorem wA_a19 (ad : Nat → Nat) (cI cZ cJ : ClassId) (u : StA) (i : Nat) (v : Int32) : (wA ad cI cZ cJ u).set 25 ((ad 25), .inl (cI, 100, .inl (upd (u.2.1 19) i v))) = wA ad cI cZ cJ (sA u 19 i v) := rfl
set_option maxRecDepth 100000 in
theorem wA_a20 (ad : Nat → Nat) (cI cZ cJ : ClassId) (u : StA) (i : Nat) (v : Int32) : (wA ad cI cZ cJ u).set 26 ((ad 26), .inl (cI, 100, .inl (upd (u.2.1 20) i v))) = wA ad cI cZ cJ (sA u 20 i v) := rfl
set_option maxRecDepth 100000 in
theorem wA_a21 (ad : Nat → Nat) (cI cZ cJ : ClassId) (u : StA) (i : Nat) (v : Int32) : (wA ad cI cZ cJ u).set 27 ((ad 27), .inl (cI, 100, .inl (upd (u.2.1 21) i v))) = wA ad cI cZ cJ (sA u 21 i v) := rfl
set_option maxRecDepth 100000 in
theorem wA_a22 (ad : Nat → Nat) (cI cZ cJ : ClassId) (u : StA) (i : Nat) (v : Int32) : (wA ad cI cZ cJ u).set 28 ((ad 28), .inl (cI, 100, .inl (upd (u.2.1 22) i v))) = wA ad cI cZ cJ (sA u 22 i v) := rfl
set_option maxRecDepth 100000 in
theorem wA_a23 (ad : Nat → Nat) (cI cZ cJ : ClassId) (u : StA) (i : Nat) (v : Int32) : (wA ad cI cZ cJ u).set 29 ((ad 29), .inl (cI, 100, .inl (upd (u.2.1 23) i v))) = wA ad cI cZ cJ (sA u 23 i v) := rfl
set_option maxRecDepth 100000 in
theorem wA_a24 (ad : Nat → Nat) (cI cZ cJ : ClassId) (u : StA) (i : Nat) (v : Int32) : (wA ad cI cZ cJ u).set 30 ((ad 30), .inl (cI, 100, .inl (upd (u.2.1 24) i v))) = wA ad cI cZ cJ (sA u 24 i v) := rfl
set_option maxRecDepth 100000 in
theorem wA_l (ad : Nat → Nat) (cI cZ cJ : ClassId) (u : StA) (i : Nat) (v : Int64) : (wA ad cI cZ cJ u).set 31 ((ad 31), .inl (cJ, 500, .inr (.inl (vp_updL u.2.2 i v)))) = wA ad cI cZ cJ (sL u i v) := rfl
def f_A_isWithin (a1 : Int32) (a2 : Int32) (a3 : Int32) : Int32 :=
  if a1 < a2 then (0 : Int32)
  else if a3 < a1 then (0 : Int32)
    else (1 : Int32)
def f_A_isSpan (a1 : Int32) (a2 : Int32) : Int32 :=
  if a1 < (0 : Int32) then (0 : Int32)
  else if a2 ≤ a1 then (0 : Int32)
    else if (99999 : Int32) < a2 then (0 : Int32)
      else (1 : Int32)
def f_A_isHours (a1 : Int32) : Int32 :=
  if a1 < (0 : Int32) then (0 : Int32)
  else if (24 : Int32) ≤ (a1 / (100 : Int32)) then (0 : Int32)
    else if (24 : Int32) ≤ (a1 - a1 / (100 : Int32) * (100 : Int32)) then (0 : Int32)
      else (1 : Int32)
def f_A_isNumber (a1 : Int32) : Int32 :=
  (f_A_isWithin a1 (0 : Int32) (999 : Int32))
def f_A_isCall (a1 : Int32) : Int32 :=
  (f_A_isWithin a1 (0 : Int32) (99 : Int32))
def f_Ho_has (u : StA) (a1 : Int32) : Int32 :=
  if a1 < (0 : Int32) then (0 : Int32)
  else if (u.1 3) ≤ a1 then (0 : Int32)
    else (1 : Int32)
def f_Ho_isFull (u : StA) : Int32 :=
  if (u.1 3) < (8 : Int32) then (0 : Int32)
  else (1 : Int32)
def f_Ho_add (u : StA) (a1 : Int32) (a2 : Int32) : Option (Int32 × StA) :=
  gI (u.1 3) 8 <|
  some ((u.1 3), (sF (sA (sA u 1 ((u.1 3)).toNatClampNeg a1) 2 ((u.1 3)).toNatClampNeg a2) 3 ((u.1 3) + (1 : Int32))))
def f_Ag_isFull (u : StA) : Int32 :=
  if (u.1 4) < (30 : Int32) then (0 : Int32)
  else (1 : Int32)
def f_Ag_add (u : StA) (a1 : Int32) (a2 : Int32) (a3 : Int32) (a4 : Int32) (a5 : Int32) (a6 : Int32) : Option (Int32 × StA) :=
  gI (u.1 4) 30 <|
  some ((u.1 4), (sF (sA (sA (sA (sA (sA (sA u 4 ((u.1 4)).toNatClampNeg a1) 5 ((u.1 4)).toNatClampNeg a2) 6 ((u.1 4)).toNatClampNeg a3) 7 ((u.1 4)).toNatClampNeg a4) 8 ((u.1 4)).toNatClampNeg a5) 9 ((u.1 4)).toNatClampNeg a6) 4 ((u.1 4) + (1 : Int32))))
def f_Ag_meetAny_3 (N : Nat) : Nat → StA → Int32 → Int32 → Int32 → Int32 → Int32 → Option Int32
  | 0, _, _, _, _, _, _ => none
  | n + 1, u, x1, x2, x3, x4, x5 =>
    if (u.1 4) ≤ x5 then some (0 : Int32)
    else gI x5 30 <|
      if (u.2.1 4 (x5).toNatClampNeg) = x1 then if (u.2.1 5 (x5).toNatClampNeg) = x2 then if x4 ≤ (u.2.1 6 (x5).toNatClampNeg) then f_Ag_meetAny_3 N n u x1 x2 x3 x4 (x5 + (1 : Int32))
          else if (u.2.1 7 (x5).toNatClampNeg) ≤ x3 then f_Ag_meetAny_3 N n u x1 x2 x3 x4 (x5 + (1 : Int32))
            else some (1 : Int32)
        else f_Ag_meetAny_3 N n u x1 x2 x3 x4 (x5 + (1 : Int32))
      else f_Ag_meetAny_3 N n u x1 x2 x3 x4 (x5 + (1 : Int32))
def f_Ag_meetAny (N : Nat) (u : StA) (a1 : Int32) (a2 : Int32) (a3 : Int32) (a4 : Int32) : Option Int32 :=
  f_Ag_meetAny_3 N N u a1 a2 a3 a4 (0 : Int32)
def f_Ag_holdsAt_64 (u : StA) (x1 : Int32) (x2 : Int32) (x3 : Int32) (x4 : Int32) (x5 : Int32) (y0 : Int32) : Option Int32 :=
  if y0 = (0 : Int32) then if x3 < x4 then some (0 : Int32)
    else if x5 < x3 then some (0 : Int32)
      else some (1 : Int32)
  else if x4 ≤ x3 then some (1 : Int32)
    else if x5 < x3 then some (0 : Int32)
      else some (1 : Int32)
def f_Ag_holdsAt (u : StA) (a1 : Int32) (a2 : Int32) : Option Int32 :=
  gI a1 30 <|
  if a2 < (u.2.1 6 (a1).toNatClampNeg) then some (0 : Int32)
  else if a2 < (u.2.1 7 (a1).toNatClampNeg) then if ((u.2.1 8 (a1).toNatClampNeg) / (100 : Int32)) ≤ ((u.2.1 8 (a1).toNatClampNeg) - (u.2.1 8 (a1).toNatClampNeg) / (100 : Int32) * (100 : Int32)) then f_Ag_holdsAt_64 u a1 a2 ((a2 / (60 : Int32)) - (a2 / (60 : Int32)) / (24 : Int32) * (24 : Int32)) ((u.2.1 8 (a1).toNatClampNeg) / (100 : Int32)) ((u.2.1 8 (a1).toNatClampNeg) - (u.2.1 8 (a1).toNatClampNeg) / (100 : Int32) * (100 : Int32)) (0 : Int32)
      else f_Ag_holdsAt_64 u a1 a2 ((a2 / (60 : Int32)) - (a2 / (60 : Int32)) / (24 : Int32) * (24 : Int32)) ((u.2.1 8 (a1).toNatClampNeg) / (100 : Int32)) ((u.2.1 8 (a1).toNatClampNeg) - (u.2.1 8 (a1).toNatClampNeg) / (100 : Int32) * (100 : Int32)) (1 : Int32)
    else some (0 : Int32)
def f_As_has (u : StA) (a1 : Int32) : Int32 :=
  if a1 < (0 : Int32) then (0 : Int32)
  else if (u.1 5) ≤ a1 then (0 : Int32)
    else (1 : Int32)
def f_As_isFull (u : StA) : Int32 :=
  if (u.1 5) < (30 : Int32) then (0 : Int32)
  else (1 : Int32)
def f_As_add (u : StA) (a1 : Int32) (a2 : Int32) (a3 : Int32) : Option (Int32 × StA) :=
  gI (u.1 5) 30 <|
  some ((u.1 5), (sF (sA (sA (sA (sA u 10 ((u.1 5)).toNatClampNeg a1) 11 ((u.1 5)).toNatClampNeg a2) 12 ((u.1 5)).toNatClampNeg a3) 13 ((u.1 5)).toNatClampNeg (0 : Int32)) 5 ((u.1 5) + (1 : Int32))))
def f_As_move (u : StA) (a1 : Int32) (a2 : Int32) (a3 : Int32) (a4 : Int32) : Option StA :=
  gI a1 30 <|
  some (sA (sA (sA (sA u 14 (a1).toNatClampNeg a2) 15 (a1).toNatClampNeg a3) 17 (a1).toNatClampNeg ((u.2.1 17 (a1).toNatClampNeg) ||| ((1 : Int32) <<< (a2 &&& 31)))) 18 (a1).toNatClampNeg (vp_nar .boolean a4))
def f_As_close (u : StA) (a1 : Int32) (a2 : Int32) : Option StA :=
  gI a1 30 <|
  some (sA (sA (sA (sA u 13 (a1).toNatClampNeg a2) 14 (a1).toNatClampNeg (-1 : Int32)) 15 (a1).toNatClampNeg (0 : Int32)) 18 (a1).toNatClampNeg (vp_nar .boolean (0 : Int32)))
def f_As_isOpen (u : StA) (a1 : Int32) : Option Int32 :=
  gI a1 30 <|
  if (u.2.1 13 (a1).toNatClampNeg) = (0 : Int32) then some (1 : Int32)
  else some (0 : Int32)
def f_As_isOpenAt (u : StA) (a1 : Int32) (a2 : Int32) : Option Int32 :=
  (f_As_isOpen u a1).bind fun q1 =>
  if q1 = (0 : Int32) then some (0 : Int32)
  else gI a1 30 <|
    if (u.2.1 14 (a1).toNatClampNeg) = a2 then some (1 : Int32)
    else some (0 : Int32)
def f_As_wasAt (u : StA) (a1 : Int32) (a2 : Int32) : Option Int32 :=
  gI a1 30 <|
  if (((u.2.1 17 (a1).toNatClampNeg) >>> (a2 &&& 31)) &&& (1 : Int32)) = (1 : Int32) then some (1 : Int32)
  else some (0 : Int32)
def f_As_wanting (u : StA) (a1 : Int32) : Option Int32 :=
  gI a1 30 <|
  some ((u.2.1 11 (a1).toNatClampNeg) - (u.2.1 16 (a1).toNatClampNeg))
def f_As_patienceEnd (u : StA) (a1 : Int32) : Option Int32 :=
  gI a1 30 <|
  some ((u.2.1 15 (a1).toNatClampNeg) + (u.2.1 12 (a1).toNatClampNeg))
def f_As_open_4 (N : Nat) : Nat → StA → Int32 → Int32 → Option Int32
  | 0, _, _, _ => none
  | n + 1, u, x1, x2 =>
    if (u.1 5) ≤ x2 then some x1
    else (f_As_isOpen u x2).bind fun q1 =>
      if q1 = (0 : Int32) then f_As_open_4 N n u x1 (x2 + (1 : Int32))
      else f_As_open_4 N n u (x1 + (1 : Int32)) (x2 + (1 : Int32))
def f_As_open (N : Nat) (u : StA) : Option Int32 :=
  f_As_open_4 N N u (0 : Int32) (0 : Int32)
def f_Lo_has (u : StA) (a1 : Int32) : Int32 :=
  if a1 < (0 : Int32) then (0 : Int32)
  else if (u.1 6) ≤ a1 then (0 : Int32)
    else (1 : Int32)
def f_Lo_room (u : StA) : Int32 :=
  ((100 : Int32) - (u.1 6))
def f_Lo_isLent (u : StA) (a1 : Int32) : Option Int32 :=
  gI a1 100 <|
  if (u.2.1 24 (a1).toNatClampNeg) = (-1 : Int32) then some (1 : Int32)
  else some (0 : Int32)
def f_Lo_lent_4 (N : Nat) : Nat → StA → Int32 → Int32 → Option Int32
  | 0, _, _, _ => none
  | n + 1, u, x1, x2 =>
    if (u.1 6) ≤ x2 then some x1
    else (f_Lo_isLent u x2).bind fun q1 =>
      if q1 = (0 : Int32) then f_Lo_lent_4 N n u x1 (x2 + (1 : Int32))
      else f_Lo_lent_4 N n u (x1 + (1 : Int32)) (x2 + (1 : Int32))
def f_Lo_lent (N : Nat) (u : StA) : Option Int32 :=
  f_Lo_lent_4 N N u (0 : Int32) (0 : Int32)
def f_Lo_lentUnder_4 (N : Nat) : Nat → StA → Int32 → Int32 → Int32 → Option Int32
  | 0, _, _, _, _ => none
  | n + 1, u, x1, x2, x3 =>
    if (u.1 6) ≤ x3 then some x2
    else gI x3 100 <|
      if (u.2.1 22 (x3).toNatClampNeg) = x1 then (f_Lo_isLent u x3).bind fun q2 =>
        if q2 = (0 : Int32) then f_Lo_lentUnder_4 N n u x1 x2 (x3 + (1 : Int32))
        else f_Lo_lentUnder_4 N n u x1 (x2 + (1 : Int32)) (x3 + (1 : Int32))
      else f_Lo_lentUnder_4 N n u x1 x2 (x3 + (1 : Int32))
def f_Lo_lentUnder (N : Nat) (u : StA) (a1 : Int32) : Option Int32 :=
  f_Lo_lentUnder_4 N N u a1 (0 : Int32) (0 : Int32)
def f_Nu_placeOf (a1 : Int32) (a2 : Int32) : Int32 :=
  ((a1 * (1000 : Int32)) + a2)
def f_Nu_shiftOf (a1 : Int32) : Int32 :=
  ((a1 - a1 / (16 : Int32) * (16 : Int32)) * (4 : Int32))
def jb1 (x : Int32) : Int32 := (x - ((((x).toUInt32 >>> (((1 : Int32)).toUInt32 &&& Int32.toUInt32 31)).toInt32) &&& (1431655765 : Int32)))
def jb2 (x : Int32) : Int32 := ((x &&& (858993459 : Int32)) + ((((x).toUInt32 >>> (((2 : Int32)).toUInt32 &&& Int32.toUInt32 31)).toInt32) &&& (858993459 : Int32)))
def jb3 (x : Int32) : Int32 := ((x + (((x).toUInt32 >>> (((4 : Int32)).toUInt32 &&& Int32.toUInt32 31)).toInt32)) &&& (252645135 : Int32))
def jb4 (x : Int32) : Int32 := (x + (((x).toUInt32 >>> (((8 : Int32)).toUInt32 &&& Int32.toUInt32 31)).toInt32))
def jb5 (x : Int32) : Int32 := (x + (((x).toUInt32 >>> (((16 : Int32)).toUInt32 &&& Int32.toUInt32 31)).toInt32))
def f_JI_bitCount (a1 : Int32) : Int32 :=
  ((jb5 (jb4 (jb3 (jb2 (jb1 a1))))) &&& (63 : Int32))
def f_JM_min (a1 : Int32) (a2 : Int32) : Int32 :=
  if a2 < a1 then a2
  else a1
def f_A_house (u : StA) (a1 : Int32) (a2 : Int32) : Option ((Nat × Int32) × StA) :=
  if (f_A_isWithin a1 (0 : Int32) (9 : Int32)) = (0 : Int32) then some ((2, 0), u)
  else if (f_A_isWithin a2 (0 : Int32) (1000 : Int32)) = (0 : Int32) then some ((2, 0), u)
    else if (f_Ho_isFull u) = (0 : Int32) then (f_Ho_add u a1 a2).bind fun q1 =>
        some ((0, q1.1), q1.2)
      else some ((4, 0), u)
def f_A_agree (N : Nat) (u : StA) (a1 : Int32) (a2 : Int32) (a3 : Int32) (a4 : Int32) (a5 : Int32) (a6 : Int32) : Option ((Nat × Int32) × StA) :=
  if (f_Ho_has u a1) = (0 : Int32) then some ((1, 0), u)
  else if (f_A_isWithin a2 (0 : Int32) (9 : Int32)) = (0 : Int32) then some ((1, 0), u)
    else if (f_A_isSpan a3 a4) = (0 : Int32) then some ((2, 0), u)
      else if (f_A_isHours a5) = (0 : Int32) then some ((2, 0), u)
        else if (f_A_isWithin a6 (1 : Int32) (20 : Int32)) = (0 : Int32) then some ((2, 0), u)
          else (f_Ag_meetAny N u a1 a2 a3 a4).bind fun q1 =>
            if q1 = (0 : Int32) then if (f_Ag_isFull u) = (0 : Int32) then (f_Ag_add u a1 a2 a3 a4 a5 a6).bind fun q2 =>
                some ((0, q2.1), q2.2)
              else some ((4, 0), u)
            else some ((3, 0), u)
def f_A_cut (u : StA) (a1 : Int32) (a2 : Int32) : Option ((Nat × Int32) × StA) :=
  if (f_Ho_has u a1) = (0 : Int32) then some ((1, 0), u)
  else gI a1 8 <|
    if (u.2.1 3 (a1).toNatClampNeg) = a2 then some ((3, 0), u)
    else some ((0, 0), (sA u 3 (a1).toNatClampNeg (vp_nar .boolean a2)))
def f_A_end (u : StA) (a1 : Int32) : Option ((Nat × Int32) × StA) :=
  if (f_Lo_has u a1) = (0 : Int32) then some ((1, 0), u)
  else (f_Lo_isLent u a1).bind fun q1 =>
    if q1 = (0 : Int32) then some ((3, 0), u)
    else gI a1 100 <|
      some ((0, 0), (sA u 24 (a1).toNatClampNeg (u.1 0)))
def f_A_hand (u : StA) (a1 : Int32) (a2 : Int32) : Option ((Nat × Int32) × StA) :=
  if (f_A_isCall a1) = (0 : Int32) then some ((1, 0), u)
  else if (f_Ho_has u a2) = (0 : Int32) then some ((1, 0), u)
    else gI a1 100 <|
      if (u.2.1 0 (a1).toNatClampNeg) = (-1 : Int32) then gI a2 8 <|
        if (u.2.1 3 (a2).toNatClampNeg) = (0 : Int32) then some ((0, 0), (sA u 0 (a1).toNatClampNeg a2))
        else some ((3, 0), u)
      else some ((3, 0), u)
def f_A_handed (u : StA) (a1 : Int32) : Option ((Nat × Int32) × StA) :=
  if (f_A_isCall a1) = (0 : Int32) then some ((1, 0), u)
  else gI a1 100 <|
    some ((0, (u.2.1 0 (a1).toNatClampNeg)), u)
def f_A_count (N : Nat) (u : StA) (a1 : Int32) : Option ((Nat × Int32) × StA) :=
  if a1 = (0 : Int32) then some ((0, (u.1 0)), u)
  else if a1 = (1 : Int32) then (f_Lo_lent N u).bind fun q1 =>
    some ((0, q1), u)
  else if a1 = (2 : Int32) then (f_As_open N u).bind fun q2 =>
    some ((0, q2), u)
  else if a1 = (3 : Int32) then some ((0, (u.1 1)), u)
  else if a1 = (4 : Int32) then some ((0, (u.1 2)), u)
  else some ((1, 0), u)
def f_A_nextEvent_47 (N : Nat) : Nat → StA → Int32 → Int32 → Int32 → Option Int32
  | 0, _, _, _, _ => none
  | n + 1, u, x1, x2, x3 =>
    if (u.1 6) ≤ x3 then some x2
    else (f_Lo_isLent u x3).bind fun q3 =>
      if q3 = (0 : Int32) then f_A_nextEvent_47 N n u x1 x2 (x3 + (1 : Int32))
      else gI x3 100 <|
        gI (u.2.1 22 (x3).toNatClampNeg) 30 <|
        f_A_nextEvent_47 N n u x1 (f_JM_min x2 (u.2.1 7 ((u.2.1 22 (x3).toNatClampNeg)).toNatClampNeg)) (x3 + (1 : Int32))
def f_A_nextEvent_4 (N : Nat) : Nat → StA → Int32 → Int32 → Int32 → Option Int32
  | 0, _, _, _, _ => none
  | n + 1, u, x1, x2, x3 =>
    if (u.1 5) ≤ x3 then f_A_nextEvent_47 N N u x1 x2 (0 : Int32)
    else (f_As_isOpen u x3).bind fun q1 =>
      if q1 = (0 : Int32) then f_A_nextEvent_4 N n u x1 x2 (x3 + (1 : Int32))
      else (f_As_patienceEnd u x3).bind fun q2 =>
        f_A_nextEvent_4 N n u x1 (f_JM_min x2 q2) (x3 + (1 : Int32))
def f_A_nextEvent (N : Nat) (u : StA) (a1 : Int32) : Option Int32 :=
  f_A_nextEvent_4 N N u a1 a1 (0 : Int32)
def f_A_endLoansWithAgreements_2 (N : Nat) : Nat → StA → Int32 → Option StA
  | 0, _, _ => none
  | n + 1, u, x1 =>
    if (u.1 6) ≤ x1 then some u
    else (f_Lo_isLent u x1).bind fun q1 =>
      if q1 = (0 : Int32) then f_A_endLoansWithAgreements_2 N n u (x1 + (1 : Int32))
      else gI x1 100 <|
        gI (u.2.1 22 (x1).toNatClampNeg) 30 <|
        if (u.1 0) < (u.2.1 7 ((u.2.1 22 (x1).toNatClampNeg)).toNatClampNeg) then f_A_endLoansWithAgreements_2 N n u (x1 + (1 : Int32))
        else f_A_endLoansWithAgreements_2 N n (sA u 24 (x1).toNatClampNeg (u.1 0)) (x1 + (1 : Int32))
def f_A_endLoansWithAgreements (N : Nat) (u : StA) : Option StA :=
  f_A_endLoansWithAgreements_2 N N u (0 : Int32)
def f_A_costOfLoan_27 (u : StA) (x1 : Int32) (y0 : Int32) : Option Int32 :=
  gI x1 100 <|
  if (0 : Int32) < (y0 - (u.2.1 23 (x1).toNatClampNeg)) then gI (u.2.1 19 (x1).toNatClampNeg) 8 <|
    some (((((y0 - (u.2.1 23 (x1).toNatClampNeg)) + (60 : Int32)) - (1 : Int32)) / (60 : Int32)) * (u.2.1 2 ((u.2.1 19 (x1).toNatClampNeg)).toNatClampNeg))
  else some (0 : Int32)
def f_A_costOfLoan (u : StA) (a1 : Int32) : Option Int32 :=
  (f_Lo_isLent u a1).bind fun q1 =>
  if q1 = (0 : Int32) then gI a1 100 <|
    f_A_costOfLoan_27 u a1 (u.2.1 24 (a1).toNatClampNeg)
  else f_A_costOfLoan_27 u a1 (u.1 0)
def f_Ag_holding_3 (N : Nat) : Nat → StA → Int32 → Int32 → Int32 → Int32 → Option Int32
  | 0, _, _, _, _, _ => none
  | n + 1, u, x1, x2, x3, x4 =>
    if (u.1 4) ≤ x4 then some (-1 : Int32)
    else gI x4 30 <|
      if (u.2.1 4 (x4).toNatClampNeg) = x1 then if (u.2.1 5 (x4).toNatClampNeg) = x2 then (f_Ag_holdsAt u x4 x3).bind fun q2 =>
          if q2 = (0 : Int32) then f_Ag_holding_3 N n u x1 x2 x3 (x4 + (1 : Int32))
          else some x4
        else f_Ag_holding_3 N n u x1 x2 x3 (x4 + (1 : Int32))
      else f_Ag_holding_3 N n u x1 x2 x3 (x4 + (1 : Int32))
def f_Ag_holding (N : Nat) (u : StA) (a1 : Int32) (a2 : Int32) (a3 : Int32) : Option Int32 :=
  f_Ag_holding_3 N N u a1 a2 a3 (0 : Int32)
def f_As_visits (u : StA) (a1 : Int32) : Option Int32 :=
  gI a1 30 <|
  some (f_JI_bitCount (u.2.1 17 (a1).toNatClampNeg))
def f_Lo_bearerOf_2 (N : Nat) : Nat → StA → Int32 → Int32 → Option Int32
  | 0, _, _, _ => none
  | n + 1, u, x1, x2 =>
    if (u.1 6) ≤ x2 then some (-1 : Int32)
    else gI x2 100 <|
      if (u.2.1 20 (x2).toNatClampNeg) = x1 then (f_Lo_isLent u x2).bind fun q2 =>
        if q2 = (0 : Int32) then f_Lo_bearerOf_2 N n u x1 (x2 + (1 : Int32))
        else some x2
      else f_Lo_bearerOf_2 N n u x1 (x2 + (1 : Int32))
def f_Lo_bearerOf (N : Nat) (u : StA) (a1 : Int32) : Option Int32 :=
  f_Lo_bearerOf_2 N N u a1 (0 : Int32)
def f_Nu_stateOf (u : StA) (a1 : Int32) (a2 : Int32) : Option Int32 :=
  gI ((f_Nu_placeOf a1 a2) / (16 : Int32)) 500 <|
  some ((((((u.2.2 (((f_Nu_placeOf a1 a2) / (16 : Int32))).toNatClampNeg)).toUInt64 >>> (((f_Nu_shiftOf (f_Nu_placeOf a1 a2))).toInt64.toUInt64 &&& Int64.toUInt64 63)).toInt64).toInt32) &&& (15 : Int32))
def f_Nu_keep (u : StA) (a1 : Int32) (a2 : Int32) (a3 : Int32) : Option StA :=
  gI ((f_Nu_placeOf a1 a2) / (16 : Int32)) 500 <|
  some (sL u (((f_Nu_placeOf a1 a2) / (16 : Int32))).toNatClampNeg ((u.2.2 (((f_Nu_placeOf a1 a2) / (16 : Int32))).toNatClampNeg) ||| (((a3).toInt64) <<< (((f_Nu_shiftOf (f_Nu_placeOf a1 a2))).toInt64 &&& 63))))
def f_A_seen (u : StA) (a1 : Int32) (a2 : Int32) : Option ((Nat × Int32) × StA) :=
  if (f_Ho_has u a1) = (0 : Int32) then some ((1, 0), u)
  else if (f_A_isNumber a2) = (0 : Int32) then some ((2, 0), u)
    else (f_Nu_stateOf u a1 a2).bind fun q1 =>
      some ((0, q1), u)
def f_A_askAt (u : StA) (a1 : Int32) (a2 : Int32) : Option ((Nat × Int32) × StA) :=
  if (f_As_has u a1) = (0 : Int32) then some ((1, 0), u)
  else if (f_A_isWithin a2 (0 : Int32) (5 : Int32)) = (0 : Int32) then some ((1, 0), u)
    else if a2 = (0 : Int32) then gI a1 30 <|
        some ((0, (u.2.1 13 (a1).toNatClampNeg)), u)
      else if a2 = (1 : Int32) then gI a1 30 <|
        some ((0, (u.2.1 14 (a1).toNatClampNeg)), u)
      else if a2 = (2 : Int32) then gI a1 30 <|
        some ((0, (u.2.1 15 (a1).toNatClampNeg)), u)
      else if a2 = (3 : Int32) then gI a1 30 <|
        some ((0, (u.2.1 16 (a1).toNatClampNeg)), u)
      else if a2 = (4 : Int32) then (f_As_visits u a1).bind fun q5 =>
        some ((0, q5), u)
      else gI a1 30 <|
        if (u.2.1 18 (a1).toNatClampNeg) = (0 : Int32) then some ((0, (0 : Int32)), u)
        else some ((0, (1 : Int32)), u)
def f_A_loanAt (u : StA) (a1 : Int32) (a2 : Int32) : Option ((Nat × Int32) × StA) :=
  if (f_Lo_has u a1) = (0 : Int32) then some ((1, 0), u)
  else if (f_A_isWithin a2 (0 : Int32) (6 : Int32)) = (0 : Int32) then some ((1, 0), u)
    else if a2 = (0 : Int32) then gI a1 100 <|
        some ((0, (u.2.1 19 (a1).toNatClampNeg)), u)
      else if a2 = (1 : Int32) then gI a1 100 <|
        some ((0, (u.2.1 20 (a1).toNatClampNeg)), u)
      else if a2 = (2 : Int32) then gI a1 100 <|
        some ((0, (u.2.1 21 (a1).toNatClampNeg)), u)
      else if a2 = (3 : Int32) then gI a1 100 <|
        some ((0, (u.2.1 22 (a1).toNatClampNeg)), u)
      else if a2 = (4 : Int32) then gI a1 100 <|
        some ((0, (u.2.1 23 (a1).toNatClampNeg)), u)
      else if a2 = (5 : Int32) then gI a1 100 <|
        some ((0, (u.2.1 24 (a1).toNatClampNeg)), u)
      else (f_A_costOfLoan u a1).bind fun q7 =>
        some ((0, q7), u)
def f_A_cost_25 (N : Nat) : Nat → StA → Int32 → Int32 → Int32 → Option ((Nat × Int32) × StA)
  | 0, _, _, _, _ => none
  | n + 1, u, x1, x2, x3 =>
    if (u.1 6) ≤ x3 then some ((0, x2), u)
    else gI x3 100 <|
      if (u.2.1 19 (x3).toNatClampNeg) = x1 then (f_A_costOfLoan u x3).bind fun q2 =>
        f_A_cost_25 N n u x1 (x2 + q2) (x3 + (1 : Int32))
      else f_A_cost_25 N n u x1 x2 (x3 + (1 : Int32))
def f_A_cost (N : Nat) (u : StA) (a1 : Int32) : Option ((Nat × Int32) × StA) :=
  if (f_Ho_has u a1) = (0 : Int32) then some ((1, 0), u)
  else f_A_cost_25 N N u a1 (0 : Int32) (0 : Int32)
def f_A_named (N : Nat) (u : StA) (a1 : Int32) : Option Int32 :=
  (f_Lo_bearerOf N u a1).bind fun q1 =>
  some q1
def f_A_nextHouse_4 (N : Nat) : Nat → StA → Int32 → Int32 → Int32 → Option Int32
  | 0, _, _, _, _ => none
  | n + 1, u, x1, x2, x3 =>
    if (u.1 3) ≤ x3 then some x2
    else (f_As_wasAt u x1 x3).bind fun q1 =>
      if q1 = (0 : Int32) then gI x1 30 <|
        (f_Ag_holding N u x3 (u.2.1 10 (x1).toNatClampNeg) (u.1 0)).bind fun q3 =>
        if q3 = (-1 : Int32) then f_A_nextHouse_4 N n u x1 x2 (x3 + (1 : Int32))
        else if x2 = (-1 : Int32) then f_A_nextHouse_4 N n u x1 x3 (x3 + (1 : Int32))
          else gI x3 8 <|
            gI x2 8 <|
            if (u.2.1 1 (x3).toNatClampNeg) ≤ (u.2.1 1 (x2).toNatClampNeg) then f_A_nextHouse_4 N n u x1 x2 (x3 + (1 : Int32))
            else f_A_nextHouse_4 N n u x1 x3 (x3 + (1 : Int32))
      else f_A_nextHouse_4 N n u x1 x2 (x3 + (1 : Int32))
def f_A_nextHouse (N : Nat) (u : StA) (a1 : Int32) : Option Int32 :=
  f_A_nextHouse_4 N N u a1 (-1 : Int32) (0 : Int32)
def f_A_mostToTake (N : Nat) (u : StA) (a1 : Int32) (a2 : Int32) : Option Int32 :=
  gI a1 30 <|
  (f_Ag_holding N u a2 (u.2.1 10 (a1).toNatClampNeg) (u.1 0)).bind fun q2 =>
  if q2 = (-1 : Int32) then some (0 : Int32)
  else (f_As_wanting u a1).bind fun q3 =>
    gI q2 30 <|
    (f_Lo_lentUnder N u q2).bind fun q5 =>
    some (f_JM_min q3 ((u.2.1 9 (q2).toNatClampNeg) - q5))
def f_Lo_freeName_7 (N : Nat) : Nat → StA → Int32 → Int32 → Int32 → Option Int32
  | 0, _, _, _, _ => none
  | n + 1, u, x1, x2, x3 =>
    if (99 : Int32) ≤ x3 then some x2
    else (f_Lo_bearerOf N u x2).bind fun q1 =>
      if q1 = (-1 : Int32) then some x2
      else f_Lo_freeName_7 N n u x1 (x2 + (1 : Int32)) (x3 + (1 : Int32))
def f_Lo_freeName (N : Nat) (u : StA) (a1 : Int32) : Option Int32 :=
  f_Lo_freeName_7 N N u a1 (a1 * (100 : Int32)) (0 : Int32)
def f_A_sendOn (N : Nat) (u : StA) (a1 : Int32) : Option StA :=
  (f_A_nextHouse N u a1).bind fun q1 =>
  if q1 = (-1 : Int32) then (f_As_close u a1 (2 : Int32)).bind fun q4 =>
    some q4
  else gI q1 8 <|
    (f_As_move u a1 q1 (u.1 0) (u.2.1 3 (q1).toNatClampNeg)).bind fun q3 =>
    some q3
def f_A_judge_23 (N : Nat) (u : StA) (x1 : Int32) (x2 : Int32) (x3 : Int32) (y0 : Int32) : Option Int32 :=
  if y0 = (0 : Int32) then some (1 : Int32)
  else (f_A_mostToTake N u x1 x2).bind fun q2 =>
    if x3 ≤ q2 then some (1 : Int32)
    else some (4 : Int32)
def f_A_judge (N : Nat) (u : StA) (a1 : Int32) (a2 : Int32) (a3 : Int32) : Option Int32 :=
  (f_As_isOpenAt u a1 a2).bind fun q1 =>
  if q1 = (0 : Int32) then some (3 : Int32)
  else if a3 ≤ (0 : Int32) then f_A_judge_23 N u a1 a2 a3 (0 : Int32)
    else f_A_judge_23 N u a1 a2 a3 (1 : Int32)
def f_A_sendOnImpatientAsks_4 (N : Nat) : Nat → StA → Int32 → Int32 → Option (Int32 × StA)
  | 0, _, _, _ => none
  | n + 1, u, x1, x2 =>
    if (u.1 5) ≤ x2 then some (x1, u)
    else (f_As_isOpen u x2).bind fun q1 =>
      if q1 = (0 : Int32) then f_A_sendOnImpatientAsks_4 N n u x1 (x2 + (1 : Int32))
      else (f_As_patienceEnd u x2).bind fun q2 =>
        if (u.1 0) < q2 then f_A_sendOnImpatientAsks_4 N n u x1 (x2 + (1 : Int32))
        else (f_A_sendOn N u x2).bind fun q3 =>
          f_A_sendOnImpatientAsks_4 N n q3 (x1 + (1 : Int32)) (x2 + (1 : Int32))
def f_A_sendOnImpatientAsks (N : Nat) (u : StA) : Option (Int32 × StA) :=
  f_A_sendOnImpatientAsks_4 N N u (0 : Int32) (0 : Int32)
def f_Lo_add (N : Nat) (u : StA) (a1 : Int32) (a2 : Int32) (a3 : Int32) (a4 : Int32) : Option StA :=
  (f_Lo_freeName N u a1).bind fun q1 =>
  gI (u.1 6) 100 <|
  some (sF (sA (sA (sA (sA (sA (sA u 20 ((u.1 6)).toNatClampNeg q1) 19 ((u.1 6)).toNatClampNeg a1) 21 ((u.1 6)).toNatClampNeg a2) 22 ((u.1 6)).toNatClampNeg a3) 23 ((u.1 6)).toNatClampNeg a4) 24 ((u.1 6)).toNatClampNeg (-1 : Int32)) 6 ((u.1 6) + (1 : Int32)))
def f_A_ask (N : Nat) (u : StA) (a1 : Int32) (a2 : Int32) (a3 : Int32) : Option ((Nat × Int32) × StA) :=
  if (f_A_isWithin a1 (0 : Int32) (9 : Int32)) = (0 : Int32) then some ((1, 0), u)
  else if (f_A_isWithin a2 (1 : Int32) (20 : Int32)) = (0 : Int32) then some ((2, 0), u)
    else if (f_A_isWithin a3 (1 : Int32) (500 : Int32)) = (0 : Int32) then some ((2, 0), u)
      else if (f_As_isFull u) = (0 : Int32) then (f_As_add u a1 a2 a3).bind fun q1 =>
          (f_A_sendOn N q1.2 q1.1).bind fun q2 =>
          some ((0, q1.1), q2)
        else some ((4, 0), u)
def f_A_tick_44 (N : Nat) : Nat → StA → Int32 → Int32 → Int32 → Int32 → Option ((Nat × Int32) × StA)
  | 0, _, _, _, _, _ => none
  | n + 1, u, x1, x2, x3, x4 =>
    if x1 ≤ x4 then some ((0, x3), u)
    else if x2 ≤ (u.1 0) then some ((0, x3), u)
      else (f_A_nextEvent N u x2).bind fun q1 =>
        (f_A_endLoansWithAgreements N (sF u 0 q1)).bind fun q2 =>
        (f_A_sendOnImpatientAsks N q2).bind fun q3 =>
        f_A_tick_44 N n q3.2 x1 x2 (x3 + q3.1) (x4 + (1 : Int32))
def f_A_tick (N : Nat) (u : StA) (a1 : Int32) : Option ((Nat × Int32) × StA) :=
  if (f_A_isWithin a1 (1 : Int32) (2000 : Int32)) = (0 : Int32) then some ((2, 0), u)
  else if ((u.1 0) + a1) ≤ (99999 : Int32) then f_A_tick_44 N N u a1 ((u.1 0) + a1) (0 : Int32) (0 : Int32)
    else some ((2, 0), u)
def f_A_lend_26 (N : Nat) : Nat → StA → Int32 → Int32 → Int32 → Int32 → Int32 → Int32 → Option StA
  | 0, _, _, _, _, _, _, _ => none
  | n + 1, u, x1, x2, x3, x4, x5, x6 =>
    if x3 ≤ x6 then gI x1 30 <|
      some (sA u 16 (x1).toNatClampNeg ((u.2.1 16 (x1).toNatClampNeg) + x3))
    else (f_Lo_add N u x2 x1 x5 x4).bind fun q4 =>
      f_A_lend_26 N n q4 x1 x2 x3 x4 x5 (x6 + (1 : Int32))
def f_A_lend (N : Nat) (u : StA) (a1 : Int32) (a2 : Int32) (a3 : Int32) (a4 : Int32) : Option StA :=
  gI a1 30 <|
  (f_Ag_holding N u a2 (u.2.1 10 (a1).toNatClampNeg) (u.1 0)).bind fun q2 =>
  f_A_lend_26 N N u a1 a2 a3 a4 q2 (0 : Int32)
def f_A_take_18 (N : Nat) (u : StA) (x1 : Int32) (x2 : Int32) (x3 : Int32) (x4 : Int32) : Option StA :=
  (f_As_wanting u x1).bind fun q2 =>
  if q2 = (0 : Int32) then (f_As_close u x1 (1 : Int32)).bind fun q4 =>
    some q4
  else (f_A_sendOn N u x1).bind fun q3 =>
    some q3
def f_A_take (N : Nat) (u : StA) (a1 : Int32) (a2 : Int32) (a3 : Int32) (a4 : Int32) : Option StA :=
  if a3 ≤ (0 : Int32) then f_A_take_18 N u a1 a2 a3 a4
  else (f_A_lend N u a1 a2 a3 ((u.1 0) + a4)).bind fun q1 =>
    f_A_take_18 N q1 a1 a2 a3 a4
def f_A_message_163 (N : Nat) (u : StA) (x1 : Int32) (x2 : Int32) (x3 : Int32) (x4 : Int32) (x5 : Int32) (x6 : Int32) : Option ((Nat × Int32) × StA) :=
  (f_Nu_keep u x2 x3 x6).bind fun q4 =>
  if x6 = (1 : Int32) then (f_A_take N q4 x1 x2 x4 x5).bind fun q5 =>
    some ((0, x6), q5)
  else some ((0, x6), q4)
def f_A_message_77 (N : Nat) (u : StA) (x1 : Int32) (x2 : Int32) (x3 : Int32) (x4 : Int32) (x5 : Int32) : Option ((Nat × Int32) × StA) :=
  gI x2 8 <|
  if (u.2.1 3 (x2).toNatClampNeg) = (0 : Int32) then (f_Nu_stateOf u x2 x3).bind fun q2 =>
    if q2 = (0 : Int32) then (f_A_judge N u x1 x2 x4).bind fun q3 =>
      if q3 = (1 : Int32) then if x4 ≤ (f_Lo_room u) then f_A_message_163 N u x1 x2 x3 x4 x5 q3
        else some ((4, 0), u)
      else f_A_message_163 N u x1 x2 x3 x4 x5 q3
    else some ((0, (2 : Int32)), (sF u 2 ((u.1 2) + (1 : Int32))))
  else some ((0, (5 : Int32)), (sF u 1 ((u.1 1) + (1 : Int32))))
def f_A_message (N : Nat) (u : StA) (a1 : Int32) (a2 : Int32) (a3 : Int32) (a4 : Int32) (a5 : Int32) : Option ((Nat × Int32) × StA) :=
  if (f_As_has u a1) = (0 : Int32) then some ((1, 0), u)
  else if (f_Ho_has u a2) = (0 : Int32) then some ((1, 0), u)
    else if (f_A_isNumber a3) = (0 : Int32) then some ((2, 0), u)
      else if (f_A_isWithin a4 (0 : Int32) (20 : Int32)) = (0 : Int32) then some ((2, 0), u)
        else if a4 ≤ (0 : Int32) then f_A_message_77 N u a1 a2 a3 a4 a5
          else if (f_A_isWithin a5 (0 : Int32) (999 : Int32)) = (0 : Int32) then some ((2, 0), u)
            else f_A_message_77 N u a1 a2 a3 a4 a5
