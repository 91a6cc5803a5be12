abbrev StB : Type := (Nat → Int32) × (Nat → Nat → Int32)
def bF (u : StB) (k : Nat) (v : Int32) : StB := (fun j => if j = k then v else u.1 j, u.2)
def bA (u : StB) (k i : Nat) (v : Int32) : StB := (u.1, fun j => if j = k then upd (u.2 k) i v else u.2 j)
abbrev tB (cI cZ : ClassId) : List (ClassId × FieldType) := [(cI, .int), (cZ, .boolean)]
def wB (bd : Nat → Nat) (cI cZ : ClassId) (u : StB) : va_W := [((bd 0), .inr (6, [.int (u.1 0), .int (u.1 1), .int (u.1 2), .ref (bd 1), .ref (bd 2), .ref (bd 3), .int (u.1 3), .ref (bd 4), .ref (bd 5), .ref (bd 6), .ref (bd 7), .ref (bd 8), .ref (bd 9), .ref (bd 10), .int (u.1 4), .ref (bd 11), .ref (bd 12), .ref (bd 13), .ref (bd 14), .ref (bd 15), .ref (bd 16), .ref (bd 17), .ref (bd 18), .ref (bd 19), .ref (bd 20), .int (u.1 5), .ref (bd 21), .ref (bd 22), .ref (bd 23), .ref (bd 24), .ref (bd 25), .ref (bd 26), .ref (bd 27), .ref (bd 28), .int (u.1 6), .int (u.1 7)])), ((bd 1), .inl (cI, 8, .inl (u.2 0))), ((bd 2), .inl (cI, 8, .inl (u.2 1))), ((bd 3), .inl (cZ, 8, .inl (u.2 2))), ((bd 4), .inl (cI, 30, .inl (u.2 3))), ((bd 5), .inl (cI, 30, .inl (u.2 4))), ((bd 6), .inl (cI, 30, .inl (u.2 5))), ((bd 7), .inl (cI, 30, .inl (u.2 6))), ((bd 8), .inl (cI, 30, .inl (u.2 7))), ((bd 9), .inl (cI, 30, .inl (u.2 8))), ((bd 10), .inl (cI, 30, .inl (u.2 9))), ((bd 11), .inl (cI, 30, .inl (u.2 10))), ((bd 12), .inl (cI, 30, .inl (u.2 11))), ((bd 13), .inl (cI, 30, .inl (u.2 12))), ((bd 14), .inl (cI, 30, .inl (u.2 13))), ((bd 15), .inl (cI, 30, .inl (u.2 14))), ((bd 16), .inl (cI, 30, .inl (u.2 15))), ((bd 17), .inl (cI, 30, .inl (u.2 16))), ((bd 18), .inl (cI, 30, .inl (u.2 17))), ((bd 19), .inl (cZ, 30, .inl (u.2 18))), ((bd 20), .inl (cZ, 240, .inl (u.2 19))), ((bd 21), .inl (cI, 100, .inl (u.2 20))), ((bd 22), .inl (cI, 100, .inl (u.2 21))), ((bd 23), .inl (cI, 100, .inl (u.2 22))), ((bd 24), .inl (cI, 100, .inl (u.2 23))), ((bd 25), .inl (cI, 100, .inl (u.2 24))), ((bd 26), .inl (cI, 100, .inl (u.2 25))), ((bd 27), .inl (cI, 8000, .inl (u.2 26))), ((bd 28), .inl (cI, 100, .inl (u.2 27)))]
set_option maxRecDepth 100000 in
theorem wB_f0 (bd : Nat → Nat) (cI cZ : ClassId) (u : StB) (v : Int32) : (wB bd cI cZ u).set 0 (bd 0, .inr (6, [.int (u.1 0), .int (u.1 1), .int (u.1 2), .ref (bd 1), .ref (bd 2), .ref (bd 3), .int (u.1 3), .ref (bd 4), .ref (bd 5), .ref (bd 6), .ref (bd 7), .ref (bd 8), .ref (bd 9), .ref (bd 10), .int (u.1 4), .ref (bd 11), .ref (bd 12), .ref (bd 13), .ref (bd 14), .ref (bd 15), .ref (bd 16), .ref (bd 17), .ref (bd 18), .ref (bd 19), .ref (bd 20), .int (u.1 5), .ref (bd 21), .ref (bd 22), .ref (bd 23), .ref (bd 24), .ref (bd 25), .ref (bd 26), .ref (bd 27), .ref (bd 28), .int (u.1 6), .int (u.1 7)].set 0 (.int v))) = wB bd cI cZ (bF u 0 v) := rfl
set_option maxRecDepth 100000 in
theorem wB_f1 (bd : Nat → Nat) (cI cZ : ClassId) (u : StB) (v : Int32) : (wB bd cI cZ u).set 0 (bd 0, .inr (6, [.int (u.1 0), .int (u.1 1), .int (u.1 2), .ref (bd 1), .ref (bd 2), .ref (bd 3), .int (u.1 3), .ref (bd 4), .ref (bd 5), .ref (bd 6), .ref (bd 7), .ref (bd 8), .ref (bd 9), .ref (bd 10), .int (u.1 4), .ref (bd 11), .ref (bd 12), .ref (bd 13), .ref (bd 14), .ref (bd 15), .ref (bd 16), .ref (bd 17), .ref (bd 18), .ref (bd 19), .ref (bd 20), .int (u.1 5), .ref (bd 21), .ref (bd 22), .ref (bd 23), .ref (bd 24), .ref (bd 25), .ref (bd 26), .ref (bd 27), .ref (bd 28), .int (u.1 6), .int (u.1 7)].set 1 (.int v))) = wB bd cI cZ (bF u 1 v) := rfl
set_option maxRecDepth 100000 in
theorem wB_f2 (bd : Nat → Nat) (cI cZ : ClassId) (u : StB) (v : Int32) : (wB bd cI cZ u).set 0 (bd 0, .inr (6, [.int (u.1 0), .int (u.1 1), .int (u.1 2), .ref (bd 1), .ref (bd 2), .ref (bd 3), .int (u.1 3), .ref (bd 4), .ref (bd 5), .ref (bd 6), .ref (bd 7), .ref (bd 8), .ref (bd 9), .ref (bd 10), .int (u.1 4), .ref (bd 11), .ref (bd 12), .ref (bd 13), .ref (bd 14), .ref (bd 15), .ref (bd 16), .ref (bd 17), .ref (bd 18), .ref (bd 19), .ref (bd 20), .int (u.1 5), .ref (bd 21), .ref (bd 22), .ref (bd 23), .ref (bd 24), .ref (bd 25), .ref (bd 26), .ref (bd 27), .ref (bd 28), .int (u.1 6), .int (u.1 7)].set 2 (.int v))) = wB bd cI cZ (bF u 2 v) := rfl
set_option maxRecDepth 100000 in
theorem wB_f3 (bd : Nat → Nat) (cI cZ : ClassId) (u : StB) (v : Int32) : (wB bd cI cZ u).set 0 (bd 0, .inr (6, [.int (u.1 0), .int (u.1 1), .int (u.1 2), .ref (bd 1), .ref (bd 2), .ref (bd 3), .int (u.1 3), .ref (bd 4), .ref (bd 5), .ref (bd 6), .ref (bd 7), .ref (bd 8), .ref (bd 9), .ref (bd 10), .int (u.1 4), .ref (bd 11), .ref (bd 12), .ref (bd 13), .ref (bd 14), .ref (bd 15), .ref (bd 16), .ref (bd 17), .ref (bd 18), .ref (bd 19), .ref (bd 20), .int (u.1 5), .ref (bd 21), .ref (bd 22), .ref (bd 23), .ref (bd 24), .ref (bd 25), .ref (bd 26), .ref (bd 27), .ref (bd 28), .int (u.1 6), .int (u.1 7)].set 6 (.int v))) = wB bd cI cZ (bF u 3 v) := rfl
set_option maxRecDepth 100000 in
theorem wB_f4 (bd : Nat → Nat) (cI cZ : ClassId) (u : StB) (v : Int32) : (wB bd cI cZ u).set 0 (bd 0, .inr (6, [.int (u.1 0), .int (u.1 1), .int (u.1 2), .ref (bd 1), .ref (bd 2), .ref (bd 3), .int (u.1 3), .ref (bd 4), .ref (bd 5), .ref (bd 6), .ref (bd 7), .ref (bd 8), .ref (bd 9), .ref (bd 10), .int (u.1 4), .ref (bd 11), .ref (bd 12), .ref (bd 13), .ref (bd 14), .ref (bd 15), .ref (bd 16), .ref (bd 17), .ref (bd 18), .ref (bd 19), .ref (bd 20), .int (u.1 5), .ref (bd 21), .ref (bd 22), .ref (bd 23), .ref (bd 24), .ref (bd 25), .ref (bd 26), .ref (bd 27), .ref (bd 28), .int (u.1 6), .int (u.1 7)].set 14 (.int v))) = wB bd cI cZ (bF u 4 v) := rfl
set_option maxRecDepth 100000 in
theorem wB_f5 (bd : Nat → Nat) (cI cZ : ClassId) (u : StB) (v : Int32) : (wB bd cI cZ u).set 0 (bd 0, .inr (6, [.int (u.1 0), .int (u.1 1), .int (u.1 2), .ref (bd 1), .ref (bd 2), .ref (bd 3), .int (u.1 3), .ref (bd 4), .ref (bd 5), .ref (bd 6), .ref (bd 7), .ref (bd 8), .ref (bd 9), .ref (bd 10), .int (u.1 4), .ref (bd 11), .ref (bd 12), .ref (bd 13), .ref (bd 14), .ref (bd 15), .ref (bd 16), .ref (bd 17), .ref (bd 18), .ref (bd 19), .ref (bd 20), .int (u.1 5), .ref (bd 21), .ref (bd 22), .ref (bd 23), .ref (bd 24), .ref (bd 25), .ref (bd 26), .ref (bd 27), .ref (bd 28), .int (u.1 6), .int (u.1 7)].set 25 (.int v))) = wB bd cI cZ (bF u 5 v) := rfl
set_option maxRecDepth 100000 in
theorem wB_f6 (bd : Nat → Nat) (cI cZ : ClassId) (u : StB) (v : Int32) : (wB bd cI cZ u).set 0 (bd 0, .inr (6, [.int (u.1 0), .int (u.1 1), .int (u.1 2), .ref (bd 1), .ref (bd 2), .ref (bd 3), .int (u.1 3), .ref (bd 4), .ref (bd 5), .ref (bd 6), .ref (bd 7), .ref (bd 8), .ref (bd 9), .ref (bd 10), .int (u.1 4), .ref (bd 11), .ref (bd 12), .ref (bd 13), .ref (bd 14), .ref (bd 15), .ref (bd 16), .ref (bd 17), .ref (bd 18), .ref (bd 19), .ref (bd 20), .int (u.1 5), .ref (bd 21), .ref (bd 22), .ref (bd 23), .ref (bd 24), .ref (bd 25), .ref (bd 26), .ref (bd 27), .ref (bd 28), .int (u.1 6), .int (u.1 7)].set 34 (.int v))) = wB bd cI cZ (bF u 6 v) := rfl
set_option maxRecDepth 100000 in
theorem wB_f7 (bd : Nat → Nat) (cI cZ : ClassId) (u : StB) (v : Int32) : (wB bd cI cZ u).set 0 (bd 0, .inr (6, [.int (u.1 0), .int (u.1 1), .int (u.1 2), .ref (bd 1), .ref (bd 2), .ref (bd 3), .int (u.1 3), .ref (bd 4), .ref (bd 5), .ref (bd 6), .ref (bd 7), .ref (bd 8), .ref (bd 9), .ref (bd 10), .int (u.1 4), .ref (bd 11), .ref (bd 12), .ref (bd 13), .ref (bd 14), .ref (bd 15), .ref (bd 16), .ref (bd 17), .ref (bd 18), .ref (bd 19), .ref (bd 20), .int (u.1 5), .ref (bd 21), .ref (bd 22), .ref (bd 23), .ref (bd 24), .ref (bd 25), .ref (bd 26), .ref (bd 27), .ref (bd 28), .int (u.1 6), .int (u.1 7)].set 35 (.int v))) = wB bd cI cZ (bF u 7 v) := rfl
set_option maxRecDepth 100000 in
theorem wB_a0 (bd : Nat → Nat) (cI cZ : ClassId) (u : StB) (i : Nat) (v : Int32) : (wB bd cI cZ u).set 1 ((bd 1), .inl (cI, 8, .inl (upd (u.2 0) i v))) = wB bd cI cZ (bA u 0 i v) := rfl
set_option maxRecDepth 100000 in
theorem wB_a1 (bd : Nat → Nat) (cI cZ : ClassId) (u : StB) (i : Nat) (v : Int32) : (wB bd cI cZ u).set 2 ((bd 2), .inl (cI, 8, .inl (upd (u.2 1) i v))) = wB bd cI cZ (bA u 1 i v) := rfl
set_option maxRecDepth 100000 in
theorem wB_a2 (bd : Nat → Nat) (cI cZ : ClassId) (u : StB) (i : Nat) (v : Int32) : (wB bd cI cZ u).set 3 ((bd 3), .inl (cZ, 8, .inl (upd (u.2 2) i v))) = wB bd cI cZ (bA u 2 i v) := rfl
set_option maxRecDepth 100000 in
theorem wB_a3 (bd : Nat → Nat) (cI cZ : ClassId) (u : StB) (i : Nat) (v : Int32) : (wB bd cI cZ u).set 4 ((bd 4), .inl (cI, 30, .inl (upd (u.2 3) i v))) = wB bd cI cZ (bA u 3 i v) := rfl
set_option maxRecDepth 100000 in
theorem wB_a4 (bd : Nat → Nat) (cI cZ : ClassId) (u : StB) (i : Nat) (v : Int32) : (wB bd cI cZ u).set 5 ((bd 5), .inl (cI, 30, .inl (upd (u.2 4) i v))) = wB bd cI cZ (bA u 4 i v) := rfl
set_option maxRecDepth 100000 in
theorem wB_a5 (bd : Nat → Nat) (cI cZ : ClassId) (u : StB) (i : Nat) (v : Int32) : (wB bd cI cZ u).set 6 ((bd 6), .inl (cI, 30, .inl (upd (u.2 5) i v))) = wB bd cI cZ (bA u 5 i v) := rfl
set_option maxRecDepth 100000 in
theorem wB_a6 (bd : Nat → Nat) (cI cZ : ClassId) (u : StB) (i : Nat) (v : Int32) : (wB bd cI cZ u).set 7 ((bd 7), .inl (cI, 30, .inl (upd (u.2 6) i v))) = wB bd cI cZ (bA u 6 i v) := rfl
set_option maxRecDepth 100000 in
theorem wB_a7 (bd : Nat → Nat) (cI cZ : ClassId) (u : StB) (i : Nat) (v : Int32) : (wB bd cI cZ u).set 8 ((bd 8), .inl (cI, 30, .inl (upd (u.2 7) i v))) = wB bd cI cZ (bA u 7 i v) := rfl
set_option maxRecDepth 100000 in
theorem wB_a8 (bd : Nat → Nat) (cI cZ : ClassId) (u : StB) (i : Nat) (v : Int32) : (wB bd cI cZ u).set 9 ((bd 9), .inl (cI, 30, .inl (upd (u.2 8) i v))) = wB bd cI cZ (bA u 8 i v) := rfl
set_option maxRecDepth 100000 in
theorem wB_a9 (bd : Nat → Nat) (cI cZ : ClassId) (u : StB) (i : Nat) (v : Int32) : (wB bd cI cZ u).set 10 ((bd 10), .inl (cI, 30, .inl (upd (u.2 9) i v))) = wB bd cI cZ (bA u 9 i v) := rfl
set_option maxRecDepth 100000 in
theorem wB_a10 (bd : Nat → Nat) (cI cZ : ClassId) (u : StB) (i : Nat) (v : Int32) : (wB bd cI cZ u).set 11 ((bd 11), .inl (cI, 30, .inl (upd (u.2 10) i v))) = wB bd cI cZ (bA u 10 i v) := rfl
set_option maxRecDepth 100000 in
theorem wB_a11 (bd : Nat → Nat) (cI cZ : ClassId) (u : StB) (i : Nat) (v : Int32) : (wB bd cI cZ u).set 12 ((bd 12), .inl (cI, 30, .inl (upd (u.2 11) i v))) = wB bd cI cZ (bA u 11 i v) := rfl
set_option maxRecDepth 100000 in
theorem wB_a12 (bd : Nat → Nat) (cI cZ : ClassId) (u : StB) (i : Nat) (v : Int32) : (wB bd cI cZ u).set 13 ((bd 13), .inl (cI, 30, .inl (upd (u.2 12) i v))) = wB bd cI cZ (bA u 12 i v) := rfl
set_option maxRecDepth 100000 in
theorem wB_a13 (bd : Nat → Nat) (cI cZ : ClassId) (u : StB) (i : Nat) (v : Int32) : (wB bd cI cZ u).set 14 ((bd 14), .inl (cI, 30, .inl (upd (u.2 13) i v))) = wB bd cI cZ (bA u 13 i v) := rfl
set_option maxRecDepth 100000 in
theorem wB_a14 (bd : Nat → Nat) (cI cZ : ClassId) (u : StB) (i : Nat) (v : Int32) : (wB bd cI cZ u).set 15 ((bd 15), .inl (cI, 30, .inl (upd (u.2 14) i v))) = wB bd cI cZ (bA u 14 i v) := rfl
set_option maxRecDepth 100000 in
theorem wB_a15 (bd : Nat → Nat) (cI cZ : ClassId) (u : StB) (i : Nat) (v : Int32) : (wB bd cI cZ u).set 16 ((bd 16), .inl (cI, 30, .inl (upd (u.2 15) i v))) = wB bd cI cZ (bA u 15 i v) := rfl
set_option maxRecDepth 100000 in
theorem wB_a16 (bd : Nat → Nat) (cI cZ : ClassId) (u : StB) (i : Nat) (v : Int32) : (wB bd cI cZ u).set 17 ((bd 17), .inl (cI, 30, .inl (upd (u.2 16) i v))) = wB bd cI cZ (bA u 16 i v) := rfl
set_option maxRecDepth 100000 in
theorem wB_a17 (bd : Nat → Nat) (cI cZ : ClassId) (u : StB) (i : Nat) (v : Int32) : (wB bd cI cZ u).set 18 ((bd 18), .inl (cI, 30, .inl (upd (u.2 17) i v))) = wB bd cI cZ (bA u 17 i v) := rfl
set_option maxRecDepth 100000 in
theorem wB_a18 (bd : Nat → Nat) (cI cZ : ClassId) (u : StB) (i : Nat) (v : Int32) : (wB bd cI cZ u).set 19 ((bd 19), .inl (cZ, 30, .inl (upd (u.2 18) i v))) = wB bd cI cZ (bA u 18 i v) := rfl
set_option maxRecDepth 100000 in
theorem wB_a19 (bd : Nat → Nat) (cI cZ : ClassId) (u : StB) (i : Nat) (v : Int32) : (wB bd cI cZ u).set 20 ((bd 20), .inl (cZ, 240, .inl (upd (u.2 19) i v))) = wB bd cI cZ (bA u 19 i v) := rfl
set_option maxRecDepth 100000 in
theorem wB_a20 (bd : Nat → Nat) (cI cZ : ClassId) (u : StB) (i : Nat) (v : Int32) : (wB bd cI cZ u).set 21 ((bd 21), .inl (cI, 100, .inl (upd (u.2 20) i v))) = wB bd cI cZ (bA u 20 i v) := rfl
set_option maxRecDepth 100000 in
theorem wB_a21 (bd : Nat → Nat) (cI cZ : ClassId) (u : StB) (i : Nat) (v : Int32) : (wB bd cI cZ u).set 22 ((bd 22), .inl (cI, 100, .inl (upd (u.2 21) i v))) = wB bd cI cZ (bA u 21 i v) := rfl
set_option maxRecDepth 100000 in
theorem wB_a22 (bd : Nat → Nat) (cI cZ : ClassId) (u : StB) (i : Nat) (v : Int32) : (wB bd cI cZ u).set 23 ((bd 23), .inl (cI, 100, .inl (upd (u.2 22) i v))) = wB bd cI cZ (bA u 22 i v) := rfl
set_option maxRecDepth 100000 in
theorem wB_a23 (bd : Nat → Nat) (cI cZ : ClassId) (u : StB) (i : Nat) (v : Int32) : (wB bd cI cZ u).set 24 ((bd 24), .inl (cI, 100, .inl (upd (u.2 23) i v))) = wB bd cI cZ (bA u 23 i v) := rfl
set_option maxRecDepth 100000 in
theorem wB_a24 (bd : Nat → Nat) (cI cZ : ClassId) (u : StB) (i : Nat) (v : Int32) : (wB bd cI cZ u).set 25 ((bd 25), .inl (cI, 100, .inl (upd (u.2 24) i v))) = wB bd cI cZ (bA u 24 i v) := rfl
set_option maxRecDepth 100000 in
theorem wB_a25 (bd : Nat → Nat) (cI cZ : ClassId) (u : StB) (i : Nat) (v : Int32) : (wB bd cI cZ u).set 26 ((bd 26), .inl (cI, 100, .inl (upd (u.2 25) i v))) = wB bd cI cZ (bA u 25 i v) := rfl
set_option maxRecDepth 100000 in
theorem wB_a26 (bd : Nat → Nat) (cI cZ : ClassId) (u : StB) (i : Nat) (v : Int32) : (wB bd cI cZ u).set 27 ((bd 27), .inl (cI, 8000, .inl (upd (u.2 26) i v))) = wB bd cI cZ (bA u 26 i v) := rfl
set_option maxRecDepth 100000 in
theorem wB_a27 (bd : Nat → Nat) (cI cZ : ClassId) (u : StB) (i : Nat) (v : Int32) : (wB bd cI cZ u).set 28 ((bd 28), .inl (cI, 100, .inl (upd (u.2 27) i v))) = wB bd cI cZ (bA u 27 i v) := rfl
def f_B_thrown (u : StB) : Int32 :=
  (u.1 0)
def f_B_in (a1 : Int32) (a2 : Int32) (a3 : Int32) : Int32 :=
  if a1 < a2 then (0 : Int32)
  else if a3 < a1 then (0 : Int32)
    else (1 : Int32)
def f_B_goes_46 (N : Nat) : Nat → StB → Int32 → Int32 → Int32 → Int32 → Int32 → Int32 → Int32 → Option (Int32 × StB)
  | 0, _, _, _, _, _, _, _, _ => none
  | n + 1, u, x1, x2, x3, x4, x5, x6, x7 =>
    if x6 < x7 then if x6 = (0 : Int32) then some ((1 : Int32), u)
      else some ((0 : Int32), u)
    else if (x1 &&& x7) ≤ (0 : Int32) then f_B_goes_46 N n u x1 x2 x3 x4 x5 x6 ((2 : Int32) * x7)
      else f_B_goes_46 N n (bF u 0 ((u.1 0) + (1 : Int32))) x1 x2 x3 x4 x5 x6 ((2 : Int32) * x7)
def f_B_goes (N : Nat) (u : StB) (a1 : Int32) (a2 : Int32) (a3 : Int32) (a4 : Int32) (a5 : Int32) : Option (Int32 × StB) :=
  if a2 = (0 : Int32) then f_B_goes_46 N N (bF u 0 (0 : Int32)) a1 a2 a3 a4 a5 (1 : Int32) (1 : Int32)
  else if a3 = (0 : Int32) then f_B_goes_46 N N (bF u 0 (0 : Int32)) a1 a2 a3 a4 a5 (2 : Int32) (1 : Int32)
    else if a4 = (0 : Int32) then f_B_goes_46 N N (bF u 0 (0 : Int32)) a1 a2 a3 a4 a5 (4 : Int32) (1 : Int32)
      else if a5 = (0 : Int32) then f_B_goes_46 N N (bF u 0 (0 : Int32)) a1 a2 a3 a4 a5 (8 : Int32) (1 : Int32)
        else f_B_goes_46 N N (bF u 0 (0 : Int32)) a1 a2 a3 a4 a5 (0 : Int32) (1 : Int32)
def f_B_isHouse (u : StB) (a1 : Int32) : Int32 :=
  (f_B_in a1 (0 : Int32) ((u.1 2) - (1 : Int32)))
def f_B_house_45 (N : Nat) (u : StB) (x1 : Int32) (x2 : Int32) (y1 : Int32) (y2 : Int32) (y3 : Int32) (y4 : Int32) (y5 : Int32) : Option (Int32 × StB) :=
  (f_B_goes N u y1 y2 y3 y4 y5).bind fun q1 =>
  if q1.1 = (0 : Int32) then some ((0 : Int32), q1.2)
  else gI (q1.2.1 2) 8 <|
    some ((((q1.2.1 2) + (1 : Int32)) - (1 : Int32)), (bF (bA (bA q1.2 0 ((q1.2.1 2)).toNatClampNeg x1) 1 ((q1.2.1 2)).toNatClampNeg x2) 2 ((q1.2.1 2) + (1 : Int32))))
def f_B_house_30 (N : Nat) (u : StB) (x1 : Int32) (x2 : Int32) (y1 : Int32) (y2 : Int32) (y3 : Int32) : Option (Int32 × StB) :=
  if (8 : Int32) ≤ (u.1 2) then f_B_house_45 N u x1 x2 y1 y2 y3 (1 : Int32) (0 : Int32)
  else f_B_house_45 N u x1 x2 y1 y2 y3 (1 : Int32) (1 : Int32)
def f_B_house_29 (N : Nat) (u : StB) (x1 : Int32) (x2 : Int32) (y1 : Int32) (y2 : Int32) : Option (Int32 × StB) :=
  f_B_house_30 N u x1 x2 y1 y2 (0 : Int32)
def f_B_house (N : Nat) (u : StB) (a1 : Int32) (a2 : Int32) : Option (Int32 × StB) :=
  if (f_B_in a1 (0 : Int32) (9 : Int32)) = (0 : Int32) then f_B_house_29 N u a1 a2 (10 : Int32) (1 : Int32)
  else if (f_B_in a2 (0 : Int32) (1000 : Int32)) = (0 : Int32) then f_B_house_29 N u a1 a2 (10 : Int32) (1 : Int32)
    else f_B_house_30 N u a1 a2 (10 : Int32) (1 : Int32) (1 : Int32)
def f_B_agree_195 (N : Nat) (u : StB) (x1 : Int32) (x2 : Int32) (x3 : Int32) (x4 : Int32) (x5 : Int32) (x6 : Int32) (x7 : Int32) (x8 : Int32) (x9 : Int32) (x10 : Int32) (y1 : Int32) (y2 : Int32) (y3 : Int32) (y4 : Int32) (y5 : Int32) : Option (Int32 × StB) :=
  (f_B_goes N u y1 y2 y3 y4 y5).bind fun q2 =>
  if q2.1 = (0 : Int32) then some ((0 : Int32), q2.2)
  else gI (q2.2.1 3) 30 <|
    some ((((q2.2.1 3) + (1 : Int32)) - (1 : Int32)), (bF (bA (bA (bA (bA (bA (bA (bA q2.2 3 ((q2.2.1 3)).toNatClampNeg x1) 4 ((q2.2.1 3)).toNatClampNeg x2) 5 ((q2.2.1 3)).toNatClampNeg x3) 6 ((q2.2.1 3)).toNatClampNeg x4) 7 ((q2.2.1 3)).toNatClampNeg (x5 / (100 : Int32))) 8 ((q2.2.1 3)).toNatClampNeg (x5 - x5 / (100 : Int32) * (100 : Int32))) 9 ((q2.2.1 3)).toNatClampNeg x6) 3 ((q2.2.1 3) + (1 : Int32))))
def f_B_agree_109 (N : Nat) : Nat → StB → Int32 → Int32 → Int32 → Int32 → Int32 → Int32 → Int32 → Int32 → Int32 → Int32 → Option (Int32 × StB)
  | 0, _, _, _, _, _, _, _, _, _, _, _ => none
  | n + 1, u, x1, x2, x3, x4, x5, x6, x7, x8, x9, x10 =>
    if (u.1 3) ≤ x10 then if (30 : Int32) ≤ (u.1 3) then f_B_agree_195 N u x1 x2 x3 x4 x5 x6 x7 x8 x9 x10 (15 : Int32) x7 x8 x9 (0 : Int32)
      else f_B_agree_195 N u x1 x2 x3 x4 x5 x6 x7 x8 x9 x10 (15 : Int32) x7 x8 x9 (1 : Int32)
    else gI x10 30 <|
      if (u.2 3 (x10).toNatClampNeg) = x1 then if (u.2 4 (x10).toNatClampNeg) = x2 then if (u.2 6 (x10).toNatClampNeg) ≤ x3 then f_B_agree_109 N n u x1 x2 x3 x4 x5 x6 x7 x8 x9 (x10 + (1 : Int32))
          else if x4 ≤ (u.2 5 (x10).toNatClampNeg) then f_B_agree_109 N n u x1 x2 x3 x4 x5 x6 x7 x8 x9 (x10 + (1 : Int32))
            else f_B_agree_109 N n u x1 x2 x3 x4 x5 x6 x7 x8 (0 : Int32) (x10 + (1 : Int32))
        else f_B_agree_109 N n u x1 x2 x3 x4 x5 x6 x7 x8 x9 (x10 + (1 : Int32))
      else f_B_agree_109 N n u x1 x2 x3 x4 x5 x6 x7 x8 x9 (x10 + (1 : Int32))
def f_B_agree_23 (N : Nat) (u : StB) (x1 : Int32) (x2 : Int32) (x3 : Int32) (x4 : Int32) (x5 : Int32) (x6 : Int32) (y0 : Int32) : Option (Int32 × StB) :=
  if (f_B_in x3 (0 : Int32) (99999 : Int32)) = (0 : Int32) then f_B_agree_109 N N u x1 x2 x3 x4 x5 x6 y0 (0 : Int32) (1 : Int32) (0 : Int32)
  else if (f_B_in x4 (0 : Int32) (99999 : Int32)) = (0 : Int32) then f_B_agree_109 N N u x1 x2 x3 x4 x5 x6 y0 (0 : Int32) (1 : Int32) (0 : Int32)
    else if x4 ≤ x3 then f_B_agree_109 N N u x1 x2 x3 x4 x5 x6 y0 (0 : Int32) (1 : Int32) (0 : Int32)
      else if x5 < (0 : Int32) then f_B_agree_109 N N u x1 x2 x3 x4 x5 x6 y0 (0 : Int32) (1 : Int32) (0 : Int32)
        else if (f_B_in (x5 / (100 : Int32)) (0 : Int32) (23 : Int32)) = (0 : Int32) then f_B_agree_109 N N u x1 x2 x3 x4 x5 x6 y0 (0 : Int32) (1 : Int32) (0 : Int32)
          else if (f_B_in (x5 - x5 / (100 : Int32) * (100 : Int32)) (0 : Int32) (23 : Int32)) = (0 : Int32) then f_B_agree_109 N N u x1 x2 x3 x4 x5 x6 y0 (0 : Int32) (1 : Int32) (0 : Int32)
            else if (f_B_in x6 (1 : Int32) (20 : Int32)) = (0 : Int32) then f_B_agree_109 N N u x1 x2 x3 x4 x5 x6 y0 (0 : Int32) (1 : Int32) (0 : Int32)
              else f_B_agree_109 N N u x1 x2 x3 x4 x5 x6 y0 (1 : Int32) (1 : Int32) (0 : Int32)
def f_B_agree_22 (N : Nat) (u : StB) (x1 : Int32) (x2 : Int32) (x3 : Int32) (x4 : Int32) (x5 : Int32) (x6 : Int32) : Option (Int32 × StB) :=
  f_B_agree_23 N u x1 x2 x3 x4 x5 x6 (0 : Int32)
def f_B_agree (N : Nat) (u : StB) (a1 : Int32) (a2 : Int32) (a3 : Int32) (a4 : Int32) (a5 : Int32) (a6 : Int32) : Option (Int32 × StB) :=
  if (f_B_isHouse u a1) = (0 : Int32) then f_B_agree_22 N u a1 a2 a3 a4 a5 a6
  else if (f_B_in a2 (0 : Int32) (9 : Int32)) = (0 : Int32) then f_B_agree_22 N u a1 a2 a3 a4 a5 a6
    else f_B_agree_23 N u a1 a2 a3 a4 a5 a6 (1 : Int32)
def f_B_holds_70 (u : StB) (x1 : Int32) (x2 : Int32) (y0 : Int32) : Option Int32 :=
  gI x1 30 <|
  if (u.1 1) < (u.2 5 (x1).toNatClampNeg) then some (0 : Int32)
  else if (u.2 6 (x1).toNatClampNeg) ≤ (u.1 1) then some (0 : Int32)
    else if y0 = (0 : Int32) then some (0 : Int32)
      else some (1 : Int32)
def f_B_holds_65 (u : StB) (x1 : Int32) (x2 : Int32) : Option Int32 :=
  f_B_holds_70 u x1 x2 (1 : Int32)
def f_B_holds (u : StB) (a1 : Int32) : Option Int32 :=
  gI a1 30 <|
  if (u.2 8 (a1).toNatClampNeg) < (u.2 7 (a1).toNatClampNeg) then if (u.2 7 (a1).toNatClampNeg) ≤ (((u.1 1) / (60 : Int32)) - ((u.1 1) / (60 : Int32)) / (24 : Int32) * (24 : Int32)) then f_B_holds_65 u a1 (((u.1 1) / (60 : Int32)) - ((u.1 1) / (60 : Int32)) / (24 : Int32) * (24 : Int32))
    else if (u.2 8 (a1).toNatClampNeg) < (((u.1 1) / (60 : Int32)) - ((u.1 1) / (60 : Int32)) / (24 : Int32) * (24 : Int32)) then f_B_holds_70 u a1 (((u.1 1) / (60 : Int32)) - ((u.1 1) / (60 : Int32)) / (24 : Int32) * (24 : Int32)) (0 : Int32)
      else f_B_holds_65 u a1 (((u.1 1) / (60 : Int32)) - ((u.1 1) / (60 : Int32)) / (24 : Int32) * (24 : Int32))
  else f_B_holds_70 u a1 (((u.1 1) / (60 : Int32)) - ((u.1 1) / (60 : Int32)) / (24 : Int32) * (24 : Int32)) (f_B_in (((u.1 1) / (60 : Int32)) - ((u.1 1) / (60 : Int32)) / (24 : Int32) * (24 : Int32)) (u.2 7 (a1).toNatClampNeg) (u.2 8 (a1).toNatClampNeg))
def f_B_holding_2 (N : Nat) : Nat → StB → Int32 → Int32 → Int32 → Option Int32
  | 0, _, _, _, _ => none
  | n + 1, u, x1, x2, x3 =>
    if (u.1 3) ≤ x3 then some (-1 : Int32)
    else gI x3 30 <|
      if (u.2 3 (x3).toNatClampNeg) = x1 then if (u.2 4 (x3).toNatClampNeg) = x2 then (f_B_holds u x3).bind fun q2 =>
          if q2 = (0 : Int32) then f_B_holding_2 N n u x1 x2 (x3 + (1 : Int32))
          else some x3
        else f_B_holding_2 N n u x1 x2 (x3 + (1 : Int32))
      else f_B_holding_2 N n u x1 x2 (x3 + (1 : Int32))
def f_B_holding (N : Nat) (u : StB) (a1 : Int32) (a2 : Int32) : Option Int32 :=
  f_B_holding_2 N N u a1 a2 (0 : Int32)
def f_B_on_118 (N : Nat) (u : StB) (x1 : Int32) (x2 : Int32) (x3 : Int32) (y1 : Int32) (y2 : Int32) : Option StB :=
  gI y1 30 <|
  if (0 : Int32) ≤ x2 then gI ((x1 * (8 : Int32)) + x2) 240 <|
    gI x1 30 <|
    some (bA (bA (bA u 18 (y1).toNatClampNeg (vp_nar .boolean y2)) 19 (((x1 * (8 : Int32)) + x2)).toNatClampNeg (vp_nar .boolean (1 : Int32))) 17 (x1).toNatClampNeg ((u.2 17 (x1).toNatClampNeg) + (1 : Int32)))
  else gI x1 30 <|
    some (bA (bA u 18 (y1).toNatClampNeg (vp_nar .boolean y2)) 13 (x1).toNatClampNeg (2 : Int32))
def f_B_on_117 (N : Nat) (u : StB) (x1 : Int32) (x2 : Int32) (x3 : Int32) (y1 : Int32) : Option StB :=
  f_B_on_118 N u x1 x2 x3 y1 (0 : Int32)
def f_B_on_94 (N : Nat) (u : StB) (x1 : Int32) (x2 : Int32) (x3 : Int32) (y1 : Int32) (y2 : Int32) : Option StB :=
  gI y1 30 <|
  if x2 < (0 : Int32) then f_B_on_117 N (bA u 15 (y1).toNatClampNeg y2) x1 x2 x3 x1
  else gI x2 8 <|
    if (u.2 2 (x2).toNatClampNeg) = (0 : Int32) then f_B_on_117 N (bA u 15 (y1).toNatClampNeg y2) x1 x2 x3 x1
    else f_B_on_118 N (bA u 15 (y1).toNatClampNeg y2) x1 x2 x3 x1 (1 : Int32)
def f_B_on_4 (N : Nat) : Nat → StB → Int32 → Int32 → Int32 → Option StB
  | 0, _, _, _, _ => none
  | n + 1, u, x1, x2, x3 =>
    if (u.1 2) ≤ x3 then gI x1 30 <|
      if (0 : Int32) ≤ x2 then f_B_on_94 N (bA u 14 (x1).toNatClampNeg x2) x1 x2 x3 x1 (u.1 1)
      else f_B_on_94 N (bA u 14 (x1).toNatClampNeg x2) x1 x2 x3 x1 (0 : Int32)
    else gI ((x1 * (8 : Int32)) + x3) 240 <|
      if (u.2 19 (((x1 * (8 : Int32)) + x3)).toNatClampNeg) = (0 : Int32) then gI x1 30 <|
        (f_B_holding N u x3 (u.2 10 (x1).toNatClampNeg)).bind fun q4 =>
        if (0 : Int32) ≤ q4 then if x2 < (0 : Int32) then f_B_on_4 N n u x1 x3 (x3 + (1 : Int32))
          else gI x3 8 <|
            gI x2 8 <|
            if (u.2 0 (x3).toNatClampNeg) ≤ (u.2 0 (x2).toNatClampNeg) then f_B_on_4 N n u x1 x2 (x3 + (1 : Int32))
            else f_B_on_4 N n u x1 x3 (x3 + (1 : Int32))
        else f_B_on_4 N n u x1 x2 (x3 + (1 : Int32))
      else f_B_on_4 N n u x1 x2 (x3 + (1 : Int32))
def f_B_on (N : Nat) (u : StB) (a1 : Int32) : Option StB :=
  f_B_on_4 N N u a1 (-1 : Int32) (0 : Int32)
def f_B_ask_51 (N : Nat) (u : StB) (x1 : Int32) (x2 : Int32) (x3 : Int32) (y1 : Int32) (y2 : Int32) (y3 : Int32) (y4 : Int32) (y5 : Int32) : Option (Int32 × StB) :=
  (f_B_goes N u y1 y2 y3 y4 y5).bind fun q1 =>
  if q1.1 = (0 : Int32) then some ((0 : Int32), q1.2)
  else gI (q1.2.1 4) 30 <|
    (f_B_on N (bF (bA (bA (bA (bA q1.2 10 ((q1.2.1 4)).toNatClampNeg x1) 11 ((q1.2.1 4)).toNatClampNeg x2) 12 ((q1.2.1 4)).toNatClampNeg x3) 13 ((q1.2.1 4)).toNatClampNeg (0 : Int32)) 4 ((q1.2.1 4) + (1 : Int32))) (((q1.2.1 4) + (1 : Int32)) - (1 : Int32))).bind fun q3 =>
    some (((q3.1 4) - (1 : Int32)), q3)
def f_B_ask_36 (N : Nat) (u : StB) (x1 : Int32) (x2 : Int32) (x3 : Int32) (y1 : Int32) (y2 : Int32) (y3 : Int32) : Option (Int32 × StB) :=
  if (30 : Int32) ≤ (u.1 4) then f_B_ask_51 N u x1 x2 x3 y1 y2 y3 (1 : Int32) (0 : Int32)
  else f_B_ask_51 N u x1 x2 x3 y1 y2 y3 (1 : Int32) (1 : Int32)
def f_B_ask_35 (N : Nat) (u : StB) (x1 : Int32) (x2 : Int32) (x3 : Int32) (y1 : Int32) (y2 : Int32) : Option (Int32 × StB) :=
  f_B_ask_36 N u x1 x2 x3 y1 y2 (0 : Int32)
def f_B_ask (N : Nat) (u : StB) (a1 : Int32) (a2 : Int32) (a3 : Int32) : Option (Int32 × StB) :=
  if (f_B_in a2 (1 : Int32) (20 : Int32)) = (0 : Int32) then f_B_ask_35 N u a1 a2 a3 (11 : Int32) (f_B_in a1 (0 : Int32) (9 : Int32))
  else if (f_B_in a3 (1 : Int32) (500 : Int32)) = (0 : Int32) then f_B_ask_35 N u a1 a2 a3 (11 : Int32) (f_B_in a1 (0 : Int32) (9 : Int32))
    else f_B_ask_36 N u a1 a2 a3 (11 : Int32) (f_B_in a1 (0 : Int32) (9 : Int32)) (1 : Int32)
def f_B_lent_4 (N : Nat) : Nat → StB → Int32 → Int32 → Int32 → Option Int32
  | 0, _, _, _, _ => none
  | n + 1, u, x1, x2, x3 =>
    if (u.1 5) ≤ x3 then some x2
    else gI x3 100 <|
      if (u.2 23 (x3).toNatClampNeg) = x1 then if (0 : Int32) ≤ (u.2 25 (x3).toNatClampNeg) then f_B_lent_4 N n u x1 x2 (x3 + (1 : Int32))
        else f_B_lent_4 N n u x1 (x2 + (1 : Int32)) (x3 + (1 : Int32))
      else f_B_lent_4 N n u x1 x2 (x3 + (1 : Int32))
def f_B_lent (N : Nat) (u : StB) (a1 : Int32) : Option Int32 :=
  f_B_lent_4 N N u a1 (0 : Int32) (0 : Int32)
def f_B_freeName_13 (N : Nat) (K : StB → Int32 → Int32 → Int32 → Option Int32) : Nat → StB → Int32 → Int32 → Int32 → Int32 → Option Int32
  | 0, _, _, _, _, _ => none
  | n + 1, u, x1, x2, x3, x4 =>
    if (u.1 5) ≤ x4 then if x3 = (0 : Int32) then K u x1 x2 x3
      else K u x1 (x2 + (1 : Int32)) x3
    else gI x4 100 <|
      if (0 : Int32) ≤ (u.2 25 (x4).toNatClampNeg) then f_B_freeName_13 N K n u x1 x2 x3 (x4 + (1 : Int32))
      else if (u.2 21 (x4).toNatClampNeg) = (((100 : Int32) * x1) + x2) then f_B_freeName_13 N K n u x1 x2 (1 : Int32) (x4 + (1 : Int32))
        else f_B_freeName_13 N K n u x1 x2 x3 (x4 + (1 : Int32))
def f_B_freeName_4 (N : Nat) : Nat → StB → Int32 → Int32 → Int32 → Option Int32
  | 0, _, _, _, _ => none
  | n + 1, u, x1, x2, x3 =>
    if x3 = (0 : Int32) then some (((100 : Int32) * x1) + x2)
    else f_B_freeName_13 N (f_B_freeName_4 N n) N u x1 x2 (0 : Int32) (0 : Int32)
def f_B_freeName (N : Nat) (u : StB) (a1 : Int32) : Option Int32 :=
  f_B_freeName_4 N N u a1 (0 : Int32) (1 : Int32)
def f_B_lend_16 (N : Nat) : Nat → StB → Int32 → Int32 → Int32 → Int32 → Int32 → Int32 → Option StB
  | 0, _, _, _, _, _, _, _ => none
  | n + 1, u, x1, x2, x3, x4, x5, x6 =>
    if x3 ≤ x6 then gI x1 30 <|
      if (u.2 11 (x1).toNatClampNeg) ≤ ((bA u 16 (x1).toNatClampNeg ((u.2 16 (x1).toNatClampNeg) + x3)).2 16 (x1).toNatClampNeg) then some (bA (bA (bA (bA (bA u 16 (x1).toNatClampNeg ((u.2 16 (x1).toNatClampNeg) + x3)) 13 (x1).toNatClampNeg (1 : Int32)) 14 (x1).toNatClampNeg (-1 : Int32)) 15 (x1).toNatClampNeg (0 : Int32)) 18 (x1).toNatClampNeg (vp_nar .boolean (0 : Int32)))
      else (f_B_on N (bA u 16 (x1).toNatClampNeg ((u.2 16 (x1).toNatClampNeg) + x3)) x1).bind fun q4 =>
        some q4
    else gI (u.1 5) 100 <|
      (f_B_freeName N (bA u 20 ((u.1 5)).toNatClampNeg x2) x2).bind fun q6 =>
      f_B_lend_16 N n (bF (bA (bA (bA (bA (bA (bA u 20 ((u.1 5)).toNatClampNeg x2) 21 ((u.1 5)).toNatClampNeg q6) 22 ((u.1 5)).toNatClampNeg x1) 23 ((u.1 5)).toNatClampNeg x5) 24 ((u.1 5)).toNatClampNeg ((u.1 1) + x4)) 25 ((u.1 5)).toNatClampNeg (-1 : Int32)) 5 ((u.1 5) + (1 : Int32))) x1 x2 x3 x4 x5 (x6 + (1 : Int32))
def f_B_lend (N : Nat) (u : StB) (a1 : Int32) (a2 : Int32) (a3 : Int32) (a4 : Int32) : Option StB :=
  gI a1 30 <|
  (f_B_holding N u a2 (u.2 10 (a1).toNatClampNeg)).bind fun q2 =>
  f_B_lend_16 N N u a1 a2 a3 a4 q2 (0 : Int32)
def f_B_what (N : Nat) (u : StB) (a1 : Int32) (a2 : Int32) (a3 : Int32) : Option Int32 :=
  gI a1 30 <|
  if (u.2 13 (a1).toNatClampNeg) = (0 : Int32) then if (u.2 14 (a1).toNatClampNeg) = a2 then (f_B_holding N u a2 (u.2 10 (a1).toNatClampNeg)).bind fun q2 =>
      if a3 ≤ (0 : Int32) then some (1 : Int32)
      else if ((u.2 11 (a1).toNatClampNeg) - (u.2 16 (a1).toNatClampNeg)) < a3 then some (4 : Int32)
        else if q2 < (0 : Int32) then some (4 : Int32)
          else gI q2 30 <|
            (f_B_lent N u q2).bind fun q4 =>
            if a3 ≤ ((u.2 9 (q2).toNatClampNeg) - q4) then some (1 : Int32)
            else some (4 : Int32)
    else some (3 : Int32)
  else some (3 : Int32)
def f_B_message_246 (N : Nat) (u : StB) (x1 : Int32) (x2 : Int32) (x3 : Int32) (x4 : Int32) (x5 : Int32) (x6 : Int32) (x7 : Int32) (x8 : Int32) (x9 : Int32) (x10 : Int32) : Option (Int32 × StB) :=
  if x10 = (1 : Int32) then if x4 = (0 : Int32) then (f_B_on N u x1).bind fun q7 =>
      some (x10, q7)
    else (f_B_lend N u x1 x2 x4 x5).bind fun q6 =>
      some (x10, q6)
  else some (x10, u)
def f_B_message_227 (N : Nat) (u : StB) (x1 : Int32) (x2 : Int32) (x3 : Int32) (x4 : Int32) (x5 : Int32) (x6 : Int32) (x7 : Int32) (x8 : Int32) (x9 : Int32) (x10 : Int32) : Option (Int32 × StB) :=
  if x9 = (0 : Int32) then f_B_message_246 N u x1 x2 x3 x4 x5 x6 x7 x8 x9 x10
  else gI (((1000 : Int32) * x2) + x3) 8000 <|
    f_B_message_246 N (bA u 26 ((((1000 : Int32) * x2) + x3)).toNatClampNeg x10) x1 x2 x3 x4 x5 x6 x7 x8 x9 x10
def f_B_message_211 (N : Nat) (u : StB) (x1 : Int32) (x2 : Int32) (x3 : Int32) (x4 : Int32) (x5 : Int32) (x6 : Int32) (x7 : Int32) (x8 : Int32) (x9 : Int32) (x10 : Int32) : Option (Int32 × StB) :=
  if x10 = (2 : Int32) then f_B_message_227 N (bF u 7 ((u.1 7) + (1 : Int32))) x1 x2 x3 x4 x5 x6 x7 x8 x9 x10
  else f_B_message_227 N u x1 x2 x3 x4 x5 x6 x7 x8 x9 x10
def f_B_message_187 (N : Nat) (u : StB) (x1 : Int32) (x2 : Int32) (x3 : Int32) (x4 : Int32) (x5 : Int32) (x6 : Int32) (x7 : Int32) (x8 : Int32) (x9 : Int32) (x10 : Int32) (y1 : Int32) (y2 : Int32) (y3 : Int32) (y4 : Int32) (y5 : Int32) : Option (Int32 × StB) :=
  (f_B_goes N u y1 y2 y3 y4 y5).bind fun q4 =>
  if q4.1 = (0 : Int32) then some ((0 : Int32), q4.2)
  else if x10 = (5 : Int32) then f_B_message_211 N (bF q4.2 6 ((q4.2.1 6) + (1 : Int32))) x1 x2 x3 x4 x5 x6 x7 x8 x9 x10
    else f_B_message_211 N q4.2 x1 x2 x3 x4 x5 x6 x7 x8 x9 x10
def f_B_message_182 (N : Nat) (u : StB) (x1 : Int32) (x2 : Int32) (x3 : Int32) (x4 : Int32) (x5 : Int32) (x6 : Int32) (x7 : Int32) (x8 : Int32) (x9 : Int32) (x10 : Int32) (y1 : Int32) (y2 : Int32) (y3 : Int32) (y4 : Int32) : Option (Int32 × StB) :=
  f_B_message_187 N u x1 x2 x3 x4 x5 x6 x7 x8 x9 x10 y1 y2 y3 y4 (1 : Int32)
def f_B_message_154 (N : Nat) (u : StB) (x1 : Int32) (x2 : Int32) (x3 : Int32) (x4 : Int32) (x5 : Int32) (x6 : Int32) (x7 : Int32) (x8 : Int32) (x9 : Int32) (y0 : Int32) : Option (Int32 × StB) :=
  if y0 = (1 : Int32) then if (100 : Int32) < ((u.1 5) + x4) then f_B_message_187 N u x1 x2 x3 x4 x5 x6 x7 x8 x9 y0 (11 : Int32) x6 x7 (1 : Int32) (0 : Int32)
    else f_B_message_182 N u x1 x2 x3 x4 x5 x6 x7 x8 x9 y0 (11 : Int32) x6 x7 (1 : Int32)
  else f_B_message_182 N u x1 x2 x3 x4 x5 x6 x7 x8 x9 y0 (11 : Int32) x6 x7 (1 : Int32)
def f_B_message_126 (N : Nat) (u : StB) (x1 : Int32) (x2 : Int32) (x3 : Int32) (x4 : Int32) (x5 : Int32) (x6 : Int32) (x7 : Int32) (x8 : Int32) (y0 : Int32) : Option (Int32 × StB) :=
  if y0 = (0 : Int32) then if x8 = (0 : Int32) then f_B_message_154 N u x1 x2 x3 x4 x5 x6 x7 x8 y0 (5 : Int32)
    else f_B_message_154 N u x1 x2 x3 x4 x5 x6 x7 x8 y0 (2 : Int32)
  else (f_B_what N u x1 x2 x4).bind fun q3 =>
    f_B_message_154 N u x1 x2 x3 x4 x5 x6 x7 x8 y0 q3
def f_B_message_125 (N : Nat) (u : StB) (x1 : Int32) (x2 : Int32) (x3 : Int32) (x4 : Int32) (x5 : Int32) (x6 : Int32) (x7 : Int32) (x8 : Int32) : Option (Int32 × StB) :=
  f_B_message_126 N u x1 x2 x3 x4 x5 x6 x7 x8 (0 : Int32)
def f_B_message_94 (N : Nat) (u : StB) (x1 : Int32) (x2 : Int32) (x3 : Int32) (x4 : Int32) (x5 : Int32) (x6 : Int32) (x7 : Int32) (y0 : Int32) : Option (Int32 × StB) :=
  if y0 = (0 : Int32) then f_B_message_125 N u x1 x2 x3 x4 x5 x6 x7 y0
  else if x7 = (0 : Int32) then f_B_message_125 N u x1 x2 x3 x4 x5 x6 x7 y0
    else gI (((1000 : Int32) * x2) + x3) 8000 <|
      if (u.2 26 ((((1000 : Int32) * x2) + x3)).toNatClampNeg) = (0 : Int32) then f_B_message_126 N u x1 x2 x3 x4 x5 x6 x7 y0 (1 : Int32)
      else f_B_message_125 N u x1 x2 x3 x4 x5 x6 x7 y0
def f_B_message_93 (N : Nat) (u : StB) (x1 : Int32) (x2 : Int32) (x3 : Int32) (x4 : Int32) (x5 : Int32) (x6 : Int32) (x7 : Int32) : Option (Int32 × StB) :=
  f_B_message_94 N u x1 x2 x3 x4 x5 x6 x7 (0 : Int32)
def f_B_message_73 (N : Nat) (u : StB) (x1 : Int32) (x2 : Int32) (x3 : Int32) (x4 : Int32) (x5 : Int32) (x6 : Int32) (y0 : Int32) : Option (Int32 × StB) :=
  if x6 = (0 : Int32) then f_B_message_93 N u x1 x2 x3 x4 x5 x6 y0
  else gI x2 8 <|
    if (u.2 2 (x2).toNatClampNeg) = (0 : Int32) then f_B_message_94 N u x1 x2 x3 x4 x5 x6 y0 (1 : Int32)
    else f_B_message_93 N u x1 x2 x3 x4 x5 x6 y0
def f_B_message_72 (N : Nat) (u : StB) (x1 : Int32) (x2 : Int32) (x3 : Int32) (x4 : Int32) (x5 : Int32) (x6 : Int32) : Option (Int32 × StB) :=
  f_B_message_73 N u x1 x2 x3 x4 x5 x6 (0 : Int32)
def f_B_message_68 (N : Nat) (u : StB) (x1 : Int32) (x2 : Int32) (x3 : Int32) (x4 : Int32) (x5 : Int32) (x6 : Int32) : Option (Int32 × StB) :=
  f_B_message_73 N u x1 x2 x3 x4 x5 x6 (1 : Int32)
def f_B_message_27 (N : Nat) (u : StB) (x1 : Int32) (x2 : Int32) (x3 : Int32) (x4 : Int32) (x5 : Int32) (y0 : Int32) : Option (Int32 × StB) :=
  if (f_B_in x3 (0 : Int32) (999 : Int32)) = (0 : Int32) then f_B_message_72 N u x1 x2 x3 x4 x5 y0
  else if (f_B_in x4 (0 : Int32) (20 : Int32)) = (0 : Int32) then f_B_message_72 N u x1 x2 x3 x4 x5 y0
    else if x4 = (0 : Int32) then f_B_message_68 N u x1 x2 x3 x4 x5 y0
      else if (f_B_in x5 (0 : Int32) (999 : Int32)) = (0 : Int32) then f_B_message_72 N u x1 x2 x3 x4 x5 y0
        else f_B_message_68 N u x1 x2 x3 x4 x5 y0
def f_B_message_26 (N : Nat) (u : StB) (x1 : Int32) (x2 : Int32) (x3 : Int32) (x4 : Int32) (x5 : Int32) : Option (Int32 × StB) :=
  f_B_message_27 N u x1 x2 x3 x4 x5 (0 : Int32)
def f_B_message (N : Nat) (u : StB) (a1 : Int32) (a2 : Int32) (a3 : Int32) (a4 : Int32) (a5 : Int32) : Option (Int32 × StB) :=
  if (f_B_in a1 (0 : Int32) ((u.1 4) - (1 : Int32))) = (0 : Int32) then f_B_message_26 N u a1 a2 a3 a4 a5
  else if (f_B_isHouse u a2) = (0 : Int32) then f_B_message_26 N u a1 a2 a3 a4 a5
    else f_B_message_27 N u a1 a2 a3 a4 a5 (1 : Int32)
def f_B_seen (N : Nat) (u : StB) (a1 : Int32) (a2 : Int32) : Option (Int32 × StB) :=
  (f_B_goes N u (3 : Int32) (f_B_isHouse u a1) (f_B_in a2 (0 : Int32) (999 : Int32)) (1 : Int32) (1 : Int32)).bind fun q1 =>
  if q1.1 = (0 : Int32) then some ((0 : Int32), q1.2)
  else gI (((1000 : Int32) * a1) + a2) 8000 <|
    some ((q1.2.2 26 ((((1000 : Int32) * a1) + a2)).toNatClampNeg), q1.2)
def f_B_tick_120 (N : Nat) (K : StB → Int32 → Int32 → Int32 → Option (Int32 × StB)) : Nat → StB → Int32 → Int32 → Int32 → Int32 → Option (Int32 × StB)
  | 0, _, _, _, _, _ => none
  | n + 1, u, x1, x2, x3, x4 =>
    if (u.1 4) ≤ x4 then K u x1 x2 (x3 + (1 : Int32))
    else gI x4 30 <|
      if (u.2 13 (x4).toNatClampNeg) = (0 : Int32) then if (u.2 12 (x4).toNatClampNeg) ≤ ((u.1 1) - (u.2 15 (x4).toNatClampNeg)) then (f_B_on N u x4).bind fun q5 =>
          f_B_tick_120 N K n q5 x1 (x2 + (1 : Int32)) x3 (x4 + (1 : Int32))
        else f_B_tick_120 N K n u x1 x2 x3 (x4 + (1 : Int32))
      else f_B_tick_120 N K n u x1 x2 x3 (x4 + (1 : Int32))
def f_B_tick_62 (N : Nat) (K : StB → Int32 → Int32 → Int32 → Option (Int32 × StB)) : Nat → StB → Int32 → Int32 → Int32 → Int32 → Option (Int32 × StB)
  | 0, _, _, _, _, _ => none
  | n + 1, u, x1, x2, x3, x4 =>
    if (u.1 5) ≤ x4 then f_B_tick_120 N K N u x1 x2 x3 (0 : Int32)
    else gI x4 100 <|
      if (0 : Int32) ≤ (u.2 25 (x4).toNatClampNeg) then f_B_tick_62 N K n u x1 x2 x3 (x4 + (1 : Int32))
      else gI (u.2 23 (x4).toNatClampNeg) 30 <|
        if (u.1 1) < (u.2 6 ((u.2 23 (x4).toNatClampNeg)).toNatClampNeg) then f_B_tick_62 N K n u x1 x2 x3 (x4 + (1 : Int32))
        else f_B_tick_62 N K n (bA u 25 (x4).toNatClampNeg (u.1 1)) x1 x2 x3 (x4 + (1 : Int32))
def f_B_tick_44 (N : Nat) : Nat → StB → Int32 → Int32 → Int32 → Option (Int32 × StB)
  | 0, _, _, _, _ => none
  | n + 1, u, x1, x2, x3 =>
    if x1 ≤ x3 then some (x2, u)
    else f_B_tick_62 N (f_B_tick_44 N n) N (bF u 1 ((u.1 1) + (1 : Int32))) x1 x2 x3 (0 : Int32)
def f_B_tick_30 (N : Nat) (u : StB) (x1 : Int32) (y1 : Int32) (y2 : Int32) (y3 : Int32) : Option (Int32 × StB) :=
  (f_B_goes N u y1 y2 y3 (1 : Int32) (1 : Int32)).bind fun q1 =>
  if q1.1 = (0 : Int32) then some ((0 : Int32), q1.2)
  else f_B_tick_44 N N q1.2 x1 (0 : Int32) (0 : Int32)
def f_B_tick_29 (N : Nat) (u : StB) (x1 : Int32) (y1 : Int32) (y2 : Int32) : Option (Int32 × StB) :=
  f_B_tick_30 N u x1 y1 y2 (0 : Int32)
def f_B_tick (N : Nat) (u : StB) (a1 : Int32) : Option (Int32 × StB) :=
  if (f_B_in a1 (1 : Int32) (2000 : Int32)) = (0 : Int32) then f_B_tick_29 N u a1 (2 : Int32) (1 : Int32)
  else if ((99999 : Int32) - (u.1 1)) < a1 then f_B_tick_29 N u a1 (2 : Int32) (1 : Int32)
    else f_B_tick_30 N u a1 (2 : Int32) (1 : Int32) (1 : Int32)
def f_B_cut_31 (N : Nat) (u : StB) (x1 : Int32) (x2 : Int32) (y1 : Int32) (y2 : Int32) (y3 : Int32) (y4 : Int32) : Option StB :=
  (f_B_goes N u y1 y2 y3 y4 (1 : Int32)).bind fun q2 =>
  if q2.1 = (0 : Int32) then some q2.2
  else gI x1 8 <|
    some (bA q2.2 2 (x1).toNatClampNeg (vp_nar .boolean x2))
def f_B_cut_30 (N : Nat) (u : StB) (x1 : Int32) (x2 : Int32) (y1 : Int32) (y2 : Int32) (y3 : Int32) : Option StB :=
  f_B_cut_31 N u x1 x2 y1 y2 y3 (0 : Int32)
def f_B_cut (N : Nat) (u : StB) (a1 : Int32) (a2 : Int32) : Option StB :=
  if (f_B_isHouse u a1) = (0 : Int32) then f_B_cut_30 N u a1 a2 (5 : Int32) (f_B_isHouse u a1) (1 : Int32)
  else gI a1 8 <|
    if (u.2 2 (a1).toNatClampNeg) = a2 then f_B_cut_30 N u a1 a2 (5 : Int32) (f_B_isHouse u a1) (1 : Int32)
    else f_B_cut_31 N u a1 a2 (5 : Int32) (f_B_isHouse u a1) (1 : Int32) (1 : Int32)
def f_B_isLoan (u : StB) (a1 : Int32) : Int32 :=
  (f_B_in a1 (0 : Int32) ((u.1 5) - (1 : Int32)))
def f_B_end_30 (N : Nat) (u : StB) (x1 : Int32) (y1 : Int32) (y2 : Int32) (y3 : Int32) (y4 : Int32) : Option StB :=
  (f_B_goes N u y1 y2 y3 y4 (1 : Int32)).bind fun q2 =>
  if q2.1 = (0 : Int32) then some q2.2
  else gI x1 100 <|
    some (bA q2.2 25 (x1).toNatClampNeg (q2.2.1 1))
def f_B_end_29 (N : Nat) (u : StB) (x1 : Int32) (y1 : Int32) (y2 : Int32) (y3 : Int32) : Option StB :=
  f_B_end_30 N u x1 y1 y2 y3 (0 : Int32)
def f_B_end (N : Nat) (u : StB) (a1 : Int32) : Option StB :=
  if (f_B_isLoan u a1) = (0 : Int32) then f_B_end_29 N u a1 (5 : Int32) (f_B_isLoan u a1) (1 : Int32)
  else gI a1 100 <|
    if (0 : Int32) ≤ (u.2 25 (a1).toNatClampNeg) then f_B_end_29 N u a1 (5 : Int32) (f_B_isLoan u a1) (1 : Int32)
    else f_B_end_30 N u a1 (5 : Int32) (f_B_isLoan u a1) (1 : Int32) (1 : Int32)
def f_B_askAt_30 (N : Nat) (u : StB) (x1 : Int32) (x2 : Int32) (y1 : Int32) (y2 : Int32) : Option (Int32 × StB) :=
  (f_B_goes N u y1 y2 (1 : Int32) (1 : Int32) (1 : Int32)).bind fun q1 =>
  if q1.1 = (0 : Int32) then some ((0 : Int32), q1.2)
  else if x2 = (0 : Int32) then gI x1 30 <|
      some ((q1.2.2 13 (x1).toNatClampNeg), q1.2)
    else if x2 = (1 : Int32) then gI x1 30 <|
        some ((q1.2.2 14 (x1).toNatClampNeg), q1.2)
      else if x2 = (2 : Int32) then gI x1 30 <|
          some ((q1.2.2 15 (x1).toNatClampNeg), q1.2)
        else if x2 = (3 : Int32) then gI x1 30 <|
            some ((q1.2.2 16 (x1).toNatClampNeg), q1.2)
          else if x2 = (4 : Int32) then gI x1 30 <|
              some ((q1.2.2 17 (x1).toNatClampNeg), q1.2)
            else gI x1 30 <|
              if (q1.2.2 18 (x1).toNatClampNeg) = (0 : Int32) then some ((0 : Int32), q1.2)
              else some ((1 : Int32), q1.2)
def f_B_askAt_29 (N : Nat) (u : StB) (x1 : Int32) (x2 : Int32) (y1 : Int32) : Option (Int32 × StB) :=
  f_B_askAt_30 N u x1 x2 y1 (0 : Int32)
def f_B_askAt (N : Nat) (u : StB) (a1 : Int32) (a2 : Int32) : Option (Int32 × StB) :=
  if (f_B_in a1 (0 : Int32) ((u.1 4) - (1 : Int32))) = (0 : Int32) then f_B_askAt_29 N u a1 a2 (1 : Int32)
  else if (f_B_in a2 (0 : Int32) (5 : Int32)) = (0 : Int32) then f_B_askAt_29 N u a1 a2 (1 : Int32)
    else f_B_askAt_30 N u a1 a2 (1 : Int32) (1 : Int32)
def f_B_costOf_22 (u : StB) (x1 : Int32) (y0 : Int32) : Option Int32 :=
  gI x1 100 <|
  if (0 : Int32) < (y0 - (u.2 24 (x1).toNatClampNeg)) then gI (u.2 20 (x1).toNatClampNeg) 8 <|
    some ((u.2 1 ((u.2 20 (x1).toNatClampNeg)).toNatClampNeg) * (((y0 - (u.2 24 (x1).toNatClampNeg)) + (59 : Int32)) / (60 : Int32)))
  else some (0 : Int32)
def f_B_costOf (u : StB) (a1 : Int32) : Option Int32 :=
  gI a1 100 <|
  if (0 : Int32) ≤ (u.2 25 (a1).toNatClampNeg) then f_B_costOf_22 u a1 (u.2 25 (a1).toNatClampNeg)
  else f_B_costOf_22 u a1 (u.1 1)
def f_B_loanAt_25 (N : Nat) (u : StB) (x1 : Int32) (x2 : Int32) (y1 : Int32) (y2 : Int32) : Option (Int32 × StB) :=
  (f_B_goes N u y1 y2 (1 : Int32) (1 : Int32) (1 : Int32)).bind fun q1 =>
  if q1.1 = (0 : Int32) then some ((0 : Int32), q1.2)
  else if x2 = (0 : Int32) then gI x1 100 <|
      some ((q1.2.2 20 (x1).toNatClampNeg), q1.2)
    else if x2 = (1 : Int32) then gI x1 100 <|
        some ((q1.2.2 21 (x1).toNatClampNeg), q1.2)
      else if x2 = (2 : Int32) then gI x1 100 <|
          some ((q1.2.2 22 (x1).toNatClampNeg), q1.2)
        else if x2 = (3 : Int32) then gI x1 100 <|
            some ((q1.2.2 23 (x1).toNatClampNeg), q1.2)
          else if x2 = (4 : Int32) then gI x1 100 <|
              some ((q1.2.2 24 (x1).toNatClampNeg), q1.2)
            else if x2 = (5 : Int32) then gI x1 100 <|
                some ((q1.2.2 25 (x1).toNatClampNeg), q1.2)
              else (f_B_costOf q1.2 x1).bind fun q2 =>
                some (q2, q1.2)
def f_B_loanAt_24 (N : Nat) (u : StB) (x1 : Int32) (x2 : Int32) (y1 : Int32) : Option (Int32 × StB) :=
  f_B_loanAt_25 N u x1 x2 y1 (0 : Int32)
def f_B_loanAt (N : Nat) (u : StB) (a1 : Int32) (a2 : Int32) : Option (Int32 × StB) :=
  if (f_B_isLoan u a1) = (0 : Int32) then f_B_loanAt_24 N u a1 a2 (1 : Int32)
  else if (f_B_in a2 (0 : Int32) (6 : Int32)) = (0 : Int32) then f_B_loanAt_24 N u a1 a2 (1 : Int32)
    else f_B_loanAt_25 N u a1 a2 (1 : Int32) (1 : Int32)
def f_B_cost_22 (N : Nat) : Nat → StB → Int32 → Int32 → Int32 → Option (Int32 × StB)
  | 0, _, _, _, _ => none
  | n + 1, u, x1, x2, x3 =>
    if (u.1 5) ≤ x3 then some (x2, u)
    else gI x3 100 <|
      if (u.2 20 (x3).toNatClampNeg) = x1 then (f_B_costOf u x3).bind fun q3 =>
        f_B_cost_22 N n u x1 (x2 + q3) (x3 + (1 : Int32))
      else f_B_cost_22 N n u x1 x2 (x3 + (1 : Int32))
def f_B_cost (N : Nat) (u : StB) (a1 : Int32) : Option (Int32 × StB) :=
  (f_B_goes N u (1 : Int32) (f_B_isHouse u a1) (1 : Int32) (1 : Int32) (1 : Int32)).bind fun q1 =>
  if q1.1 = (0 : Int32) then some ((0 : Int32), q1.2)
  else f_B_cost_22 N N q1.2 a1 (0 : Int32) (0 : Int32)
def f_B_named_7 (N : Nat) : Nat → StB → Int32 → Int32 → Option (Int32 × StB)
  | 0, _, _, _ => none
  | n + 1, u, x1, x2 =>
    if (u.1 5) ≤ x2 then some ((-1 : Int32), u)
    else gI x2 100 <|
      if (0 : Int32) ≤ (u.2 25 (x2).toNatClampNeg) then f_B_named_7 N n u x1 (x2 + (1 : Int32))
      else if (u.2 21 (x2).toNatClampNeg) = x1 then some (x2, u)
        else f_B_named_7 N n u x1 (x2 + (1 : Int32))
def f_B_named (N : Nat) (u : StB) (a1 : Int32) : Option (Int32 × StB) :=
  f_B_named_7 N N (bF u 0 (0 : Int32)) a1 (0 : Int32)
def f_B_hand_55 (N : Nat) (u : StB) (x1 : Int32) (x2 : Int32) (x3 : Int32) (y1 : Int32) (y2 : Int32) (y3 : Int32) (y4 : Int32) : Option StB :=
  (f_B_goes N u y1 y2 y3 y4 (1 : Int32)).bind fun q3 =>
  if q3.1 = (0 : Int32) then some q3.2
  else gI x1 100 <|
    some (bA q3.2 27 (x1).toNatClampNeg x2)
def f_B_hand_54 (N : Nat) (u : StB) (x1 : Int32) (x2 : Int32) (x3 : Int32) (y1 : Int32) (y2 : Int32) (y3 : Int32) : Option StB :=
  f_B_hand_55 N u x1 x2 x3 y1 y2 y3 (0 : Int32)
def f_B_hand_23 (N : Nat) (u : StB) (x1 : Int32) (x2 : Int32) (y0 : Int32) : Option StB :=
  if y0 = (0 : Int32) then f_B_hand_54 N u x1 x2 y0 (5 : Int32) y0 (1 : Int32)
  else gI x1 100 <|
    if (0 : Int32) ≤ (u.2 27 (x1).toNatClampNeg) then f_B_hand_54 N u x1 x2 y0 (5 : Int32) y0 (1 : Int32)
    else gI x2 8 <|
      if (u.2 2 (x2).toNatClampNeg) = (0 : Int32) then f_B_hand_55 N u x1 x2 y0 (5 : Int32) y0 (1 : Int32) (1 : Int32)
      else f_B_hand_54 N u x1 x2 y0 (5 : Int32) y0 (1 : Int32)
def f_B_hand_22 (N : Nat) (u : StB) (x1 : Int32) (x2 : Int32) : Option StB :=
  f_B_hand_23 N u x1 x2 (0 : Int32)
def f_B_hand (N : Nat) (u : StB) (a1 : Int32) (a2 : Int32) : Option StB :=
  if (f_B_in a1 (0 : Int32) (99 : Int32)) = (0 : Int32) then f_B_hand_22 N u a1 a2
  else if (f_B_isHouse u a2) = (0 : Int32) then f_B_hand_22 N u a1 a2
    else f_B_hand_23 N u a1 a2 (1 : Int32)
def f_B_handed (N : Nat) (u : StB) (a1 : Int32) : Option (Int32 × StB) :=
  (f_B_goes N u (1 : Int32) (f_B_in a1 (0 : Int32) (99 : Int32)) (1 : Int32) (1 : Int32) (1 : Int32)).bind fun q1 =>
  if q1.1 = (0 : Int32) then some ((0 : Int32), q1.2)
  else gI a1 100 <|
    some ((q1.2.2 27 (a1).toNatClampNeg), q1.2)
def f_B_count_56 (N : Nat) : Nat → StB → Int32 → Int32 → Int32 → Option (Int32 × StB)
  | 0, _, _, _, _ => none
  | n + 1, u, x1, x2, x3 =>
    if (u.1 4) ≤ x3 then if x1 = (0 : Int32) then some ((u.1 1), u)
      else if x1 = (3 : Int32) then some ((u.1 6), u)
        else if x1 = (4 : Int32) then some ((u.1 7), u)
          else some (x2, u)
    else if x1 = (2 : Int32) then gI x3 30 <|
        if (u.2 13 (x3).toNatClampNeg) = (0 : Int32) then f_B_count_56 N n u x1 (x2 + (1 : Int32)) (x3 + (1 : Int32))
        else f_B_count_56 N n u x1 x2 (x3 + (1 : Int32))
      else f_B_count_56 N n u x1 x2 (x3 + (1 : Int32))
def f_B_count_23 (N : Nat) : Nat → StB → Int32 → Int32 → Int32 → Option (Int32 × StB)
  | 0, _, _, _, _ => none
  | n + 1, u, x1, x2, x3 =>
    if (u.1 5) ≤ x3 then f_B_count_56 N N u x1 x2 (0 : Int32)
    else if x1 = (1 : Int32) then gI x3 100 <|
        if (0 : Int32) ≤ (u.2 25 (x3).toNatClampNeg) then f_B_count_23 N n u x1 x2 (x3 + (1 : Int32))
        else f_B_count_23 N n u x1 (x2 + (1 : Int32)) (x3 + (1 : Int32))
      else f_B_count_23 N n u x1 x2 (x3 + (1 : Int32))
def f_B_count (N : Nat) (u : StB) (a1 : Int32) : Option (Int32 × StB) :=
  (f_B_goes N u (1 : Int32) (f_B_in a1 (0 : Int32) (4 : Int32)) (1 : Int32) (1 : Int32) (1 : Int32)).bind fun q1 =>
  if q1.1 = (0 : Int32) then some ((0 : Int32), q1.2)
  else f_B_count_23 N N q1.2 a1 (0 : Int32) (0 : Int32)
