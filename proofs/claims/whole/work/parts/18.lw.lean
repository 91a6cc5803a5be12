set_option maxHeartbeats 4000000 in
set_option maxRecDepth 100000 in
theorem lw_house {p : Program} {l : Launch} {e : Env} {s : State} {m : MethodId} {below : List Frame} {meth : Method} {c : Code} {b L : Nat} {xs : Nat → Int32} {D : va_G} {cI cZ cJ : ClassId} {ad bd : Nat → Nat} {oa : Nat} (hC : gl_C p l s m meth c b L xs D cI cZ cJ) (N : Nat) (x4 : Int32) (hi1 : vp_in (x4 + (1 : Int32)) L) (hi2 : vp_in (x4 + (2 : Int32)) L) {u : StA} {x : Nat → Int64} {v : StB} (cd : Nat) (r : Int32) (u1 : StA) (hA1 : f_A_house u (xs (x4 + (1 : Int32)).toNatClampNeg) (xs (x4 + (2 : Int32)).toNatClampNeg) = some ((cd, r), u1)) (hcd : cd = 0 ∨ cd = 2 ∨ cd = 4) (b1 : Int32) (v1 : StB) (hB1 : f_B_house N v (xs (x4 + (1 : Int32)).toNatClampNeg) (xs (x4 + (2 : Int32)).toNatClampNeg) = some (b1, v1)) (ht : (v1.1 0) = kL_house cd) (ho : cd = 0 → r = b1) {cells slots : Nat} {Q : State → Prop} (hcl : cells + 1 ≤ 1112) (hsl : slots + 6 ≤ 19541) {H : Heap} {locs : List Loc} {ls : Array Slot} (hP : va_P D vwCl (wO ad cI cZ cJ oa (u, x) ++ wB bd cI cZ v) H) (hD : va_D (gl_A s) (wO ad cI cZ cJ oa (u, x) ++ wB bd cI cZ v)) (hS : va_S (gl_A s) s.heap H locs) (hl : lv_has ls 7 [(0, .ref b), (1, .ref (ad 0)), (2, .ref (bd 0)), (3, .ref oa), (4, .int x4)]) (kk : ∀ (x1 : Nat → Int64) (H : Heap) (locs : List Loc) (ls : Array Slot), va_P D vwCl (wO ad cI cZ cJ oa (u1, x1) ++ wB bd cI cZ v1) H → va_D (gl_A s) (wO ad cI cZ cJ oa (u1, x1) ++ wB bd cI cZ v1) → va_S (gl_A s) s.heap H locs → lv_has ls 7 [(0, .ref b), (1, .ref (ad 0)), (2, .ref (bd 0)), (3, .ref oa), (4, .int x4)] → W p l e room_1 s m #[Value.ref b] below meth c H locs (cells + 1) (slots + 6) Q (F0 m 1087 ls [])) : W p l e room_1 s m #[Value.ref b] below meth c H locs cells slots Q (F0 m 116 ls []) := by
  obtain ⟨hx, hb, hr, hml, hG, hown, hlocks, hK, hX, hbl, hst, hE⟩ := id hC
  have hA : ∀ q : Nat, s.heap.size ≤ q → gl_A s q := fun _ h => h
  have hbA : ¬ gl_A s b := Nat.not_le.mpr hbl
  have hKB : va_K D vwCl (tB cI cZ) s := hK.sub [0, 1] rfl
  refine lv_aload_n hx hb dL_law_116 rfl (lv_at hl 1 rfl) ?_
  refine lv_aload_n hx hb dL_law_117 rfl (lv_at hl 0 rfl) ?_
  refine lv_iload hx hb dL_law_118 (lv_at hl 4 rfl) ?_
  refine lv_iconst (v := (1 : Int32)) hx hb dL_law_120 (by decide) ?_
  refine lv_iadd hx hb dL_law_121 ?_
  refine va_sld hx hb hX hbl hbA hS hi1 dL_law_122 ?_
  refine lv_aload_n hx hb dL_law_123 rfl (lv_at hl 0 rfl) ?_
  refine lv_iload hx hb dL_law_124 (lv_at hl 4 rfl) ?_
  refine lv_iconst (v := (2 : Int32)) hx hb dL_law_126 (by decide) ?_
  refine lv_iadd hx hb dL_law_127 ?_
  refine va_sld hx hb hX hbl hbA hS hi2 dL_law_128 ?_
  refine lv_aload_n hx hb dL_law_129 rfl (lv_at hl 3 rfl) ?_
  refine gz_callW (w := wO ad cI cZ cJ oa) (Y := wB bd cI cZ v) (As := [.ref (ad 0), .int (xs (x4 + (1 : Int32)).toNatClampNeg), .int (xs (x4 + (2 : Int32)).toNatClampNeg), .ref oa]) (rest := []) (u := (u, x)) (u' := (u1, (if cd = 0 then vp_updL x 0 r.toInt64 else x))) hx hb hml hown hG (c_L_house l hst D ad cI cZ cJ oa u x (xs (x4 + (1 : Int32)).toNatClampNeg) (xs (x4 + (2 : Int32)).toNatClampNeg) cd r u1 hA1 hcd) lz_L_71 rfl rfl ⟨Nat.le_of_ble_eq_true rfl, Nat.le_of_ble_eq_true rfl⟩ hK hE hP hD hS hA rfl hl.1 rfl (Nat.le_of_ble_eq_true rfl) dL_law_130 ⟨hcl, hsl⟩ (fun H locs hP hD hS => ?_)
  refine lv_istore (lv' := [(5, .int (kL_house cd)), (0, .ref b), (1, .ref (ad 0)), (2, .ref (bd 0)), (3, .ref oa), (4, .int x4)]) hx hb dL_law_133 hl (by decide) rfl (fun ls hl => ?_)
  refine lv_aload_n hx hb dL_law_135 rfl (lv_at hl 3 rfl) ?_
  refine lv_aload_n hx hb dL_law_136 rfl (lv_at hl 1 rfl) ?_
  refine lv_iload hx hb dL_law_137 (lv_at hl 5 rfl) ?_
  refine lv_iconst (v := (1 : Int32)) hx hb dL_law_139 (by decide) ?_
  refine lv_iadd hx hb dL_law_140 ?_
  refine va_sld hx hb hX hbl hbA hS hi1 dL_law_141 ?_
  refine lv_aload_n hx hb dL_law_142 rfl (lv_at hl 1 rfl) ?_
  refine lv_iload hx hb dL_law_143 (lv_at hl 5 rfl) ?_
  refine lv_iconst (v := (2 : Int32)) hx hb dL_law_145 (by decide) ?_
  refine lv_iadd hx hb dL_law_146 ?_
  refine va_sld hx hb hX hbl hbA hS hi2 dL_law_147 ?_
  refine gz_callR (w := wB bd cI cZ) (Y := wO ad cI cZ cJ oa (u1, (if cd = 0 then vp_updL x 0 r.toInt64 else x))) (As := [.int (xs (x4 + (1 : Int32)).toNatClampNeg), .int (xs (x4 + (2 : Int32)).toNatClampNeg)]) (rest := []) (u := v) (u' := v1) hx hb hml hown hG (c_B_house l D bd cI cZ N v (xs (x4 + (1 : Int32)).toNatClampNeg) (xs (x4 + (2 : Int32)).toNatClampNeg) b1 v1 hB1) lz_L_76 rfl rfl ⟨Nat.le_of_ble_eq_true rfl, Nat.le_of_ble_eq_true rfl⟩ (va_recv hKB (gy_PR hP) (ci := 6) (q0 := 0) rfl rfl) hKB hP hD hS hA rfl hl.1 rfl (Nat.le_of_ble_eq_true rfl) dL_law_148 ⟨hcl, hsl⟩ (fun H locs hP hD hS => ?_)
  have hP : va_P D vwCl (wO ad cI cZ cJ oa (u1, (if cd = 0 then vp_updL x 0 r.toInt64 else x)) ++ wB bd cI cZ v1) H := hP
  have hD : va_D (gl_A s) (wO ad cI cZ cJ oa (u1, (if cd = 0 then vp_updL x 0 r.toInt64 else x)) ++ wB bd cI cZ v1) := hD
  refine lv_istore (lv' := [(6, .int b1), (5, .int (kL_house cd)), (0, .ref b), (1, .ref (ad 0)), (2, .ref (bd 0)), (3, .ref oa), (4, .int x4)]) hx hb dL_law_151 hl (by decide) rfl (fun ls hl => ?_)
  refine lv_aload_n hx hb dL_law_153 rfl (lv_at hl 4 rfl) ?_
  refine gz_callR (w := wB bd cI cZ) (Y := wO ad cI cZ cJ oa (u1, (if cd = 0 then vp_updL x 0 r.toInt64 else x))) (As := []) (rest := []) (u := v1) (u' := v1) hx hb hml hown hG (c_B_thrown l D bd cI cZ v1 _ rfl) lz_L_77 rfl rfl ⟨Nat.le_of_ble_eq_true rfl, Nat.le_of_ble_eq_true rfl⟩ (va_recv hKB (gy_PR hP) (ci := 6) (q0 := 0) rfl rfl) hKB hP hD hS hA rfl hl.1 rfl (Nat.le_of_ble_eq_true rfl) dL_law_154 ⟨hcl, hsl⟩ (fun H locs hP hD hS => ?_)
  have hP : va_P D vwCl (wO ad cI cZ cJ oa (u1, (if cd = 0 then vp_updL x 0 r.toInt64 else x)) ++ wB bd cI cZ v1) H := hP
  have hD : va_D (gl_A s) (wO ad cI cZ cJ oa (u1, (if cd = 0 then vp_updL x 0 r.toInt64 else x)) ++ wB bd cI cZ v1) := hD
  refine lv_iload hx hb dL_law_157 (lv_at hl 1 rfl) ?_
  refine lv_icmp_eq (tgt := 164) hx hb dL_law_159 (by decide) (fun hc => ?_) (fun hc => absurd ht hc)
  refine lv_iload hx hb dL_law_164 (lv_at hl 1 rfl) ?_
  refine lv_if_ne (tgt := 181) hx hb dL_law_166 (by decide) (fun hc => ?_) (fun hc => ?_)
  · refine lv_goto (tgt := 1087) hx hb dL_law_181 (by decide) ?_
    exact kk _ H locs ls hP hD hS (lv_sub hl [2, 3, 4, 5, 6] rfl)
  · have h0 : cd = 0 := by rcases hcd with rfl | rfl | rfl <;> first | rfl | (exact absurd hc (by decide))
    subst h0
    have hP : va_P D vwCl (wO ad cI cZ cJ oa (u1, vp_updL x 0 r.toInt64) ++ wB bd cI cZ v1) H := hP
    have hD : va_D (gl_A s) (wO ad cI cZ cJ oa (u1, vp_updL x 0 r.toInt64) ++ wB bd cI cZ v1) := hD
    refine lv_aload_n hx hb dL_law_169 rfl (lv_at hl 5 rfl) ?_
    refine lv_iconst (v := (0 : Int32)) hx hb dL_law_170 (by decide) ?_
    refine va_lald (f := vp_updL x 0 r.toInt64) hx hb hK (gy_P hP) 32 2 rfl rfl gy_in0 dL_law_171 ?_
    refine W.eq (g2 := F0 m 172 ls [.long r.toInt64]) rfl ?_
    refine lv_iload hx hb dL_law_172 (lv_at hl 0 rfl) ?_
    refine lv_i2l (v := b1.toInt64) hx hb dL_law_174 rfl ?_
    refine W.lcmp hx hb dL_law_175 ?_
    refine lv_if_eq (tgt := 181) hx hb dL_law_176 (by decide) (fun hc => ?_) (fun hc => absurd (by rw [ho rfl]; exact gz_cmp _) hc)
    refine lv_goto (tgt := 1087) hx hb dL_law_181 (by decide) ?_
    exact kk _ H locs ls hP hD hS (lv_sub hl [2, 3, 4, 5, 6] rfl)
set_option maxHeartbeats 4000000 in
set_option maxRecDepth 100000 in
theorem lw_agree {p : Program} {l : Launch} {e : Env} {s : State} {m : MethodId} {below : List Frame} {meth : Method} {c : Code} {b L : Nat} {xs : Nat → Int32} {D : va_G} {cI cZ cJ : ClassId} {ad bd : Nat → Nat} {oa : Nat} (hC : gl_C p l s m meth c b L xs D cI cZ cJ) (N : Nat) (x4 : Int32) (hi1 : vp_in (x4 + (1 : Int32)) L) (hi2 : vp_in (x4 + (2 : Int32)) L) (hi3 : vp_in (x4 + (3 : Int32)) L) (hi4 : vp_in (x4 + (4 : Int32)) L) (hi5 : vp_in (x4 + (5 : Int32)) L) (hi6 : vp_in (x4 + (6 : Int32)) L) {u : StA} {x : Nat → Int64} {v : StB} (cd : Nat) (r : Int32) (u1 : StA) (hA1 : f_A_agree N u (xs (x4 + (1 : Int32)).toNatClampNeg) (xs (x4 + (2 : Int32)).toNatClampNeg) (xs (x4 + (3 : Int32)).toNatClampNeg) (xs (x4 + (4 : Int32)).toNatClampNeg) (xs (x4 + (5 : Int32)).toNatClampNeg) (xs (x4 + (6 : Int32)).toNatClampNeg) = some ((cd, r), u1)) (hcd : cd = 0 ∨ cd = 1 ∨ cd = 2 ∨ cd = 3 ∨ cd = 4) (b1 : Int32) (v1 : StB) (hB1 : f_B_agree N v (xs (x4 + (1 : Int32)).toNatClampNeg) (xs (x4 + (2 : Int32)).toNatClampNeg) (xs (x4 + (3 : Int32)).toNatClampNeg) (xs (x4 + (4 : Int32)).toNatClampNeg) (xs (x4 + (5 : Int32)).toNatClampNeg) (xs (x4 + (6 : Int32)).toNatClampNeg) = some (b1, v1)) (ht : (v1.1 0) = kL_agree cd) (ho : cd = 0 → r = b1) {cells slots : Nat} {Q : State → Prop} (hcl : cells + 1 ≤ 1112) (hsl : slots + 6 ≤ 19541) {H : Heap} {locs : List Loc} {ls : Array Slot} (hP : va_P D vwCl (wO ad cI cZ cJ oa (u, x) ++ wB bd cI cZ v) H) (hD : va_D (gl_A s) (wO ad cI cZ cJ oa (u, x) ++ wB bd cI cZ v)) (hS : va_S (gl_A s) s.heap H locs) (hl : lv_has ls 7 [(0, .ref b), (1, .ref (ad 0)), (2, .ref (bd 0)), (3, .ref oa), (4, .int x4)]) (kk : ∀ (x1 : Nat → Int64) (H : Heap) (locs : List Loc) (ls : Array Slot), va_P D vwCl (wO ad cI cZ cJ oa (u1, x1) ++ wB bd cI cZ v1) H → va_D (gl_A s) (wO ad cI cZ cJ oa (u1, x1) ++ wB bd cI cZ v1) → va_S (gl_A s) s.heap H locs → lv_has ls 7 [(0, .ref b), (1, .ref (ad 0)), (2, .ref (bd 0)), (3, .ref oa), (4, .int x4)] → W p l e room_1 s m #[Value.ref b] below meth c H locs (cells + 1) (slots + 6) Q (F0 m 1087 ls [])) : W p l e room_1 s m #[Value.ref b] below meth c H locs cells slots Q (F0 m 184 ls []) := by
  obtain ⟨hx, hb, hr, hml, hG, hown, hlocks, hK, hX, hbl, hst, hE⟩ := id hC
  have hA : ∀ q : Nat, s.heap.size ≤ q → gl_A s q := fun _ h => h
  have hbA : ¬ gl_A s b := Nat.not_le.mpr hbl
  have hKB : va_K D vwCl (tB cI cZ) s := hK.sub [0, 1] rfl
  refine lv_aload_n hx hb dL_law_184 rfl (lv_at hl 1 rfl) ?_
  refine lv_aload_n hx hb dL_law_185 rfl (lv_at hl 0 rfl) ?_
  refine lv_iload hx hb dL_law_186 (lv_at hl 4 rfl) ?_
  refine lv_iconst (v := (1 : Int32)) hx hb dL_law_188 (by decide) ?_
  refine lv_iadd hx hb dL_law_189 ?_
  refine va_sld hx hb hX hbl hbA hS hi1 dL_law_190 ?_
  refine lv_aload_n hx hb dL_law_191 rfl (lv_at hl 0 rfl) ?_
  refine lv_iload hx hb dL_law_192 (lv_at hl 4 rfl) ?_
  refine lv_iconst (v := (2 : Int32)) hx hb dL_law_194 (by decide) ?_
  refine lv_iadd hx hb dL_law_195 ?_
  refine va_sld hx hb hX hbl hbA hS hi2 dL_law_196 ?_
  refine lv_aload_n hx hb dL_law_197 rfl (lv_at hl 0 rfl) ?_
  refine lv_iload hx hb dL_law_198 (lv_at hl 4 rfl) ?_
  refine lv_iconst (v := (3 : Int32)) hx hb dL_law_200 (by decide) ?_
  refine lv_iadd hx hb dL_law_201 ?_
  refine va_sld hx hb hX hbl hbA hS hi3 dL_law_202 ?_
  refine lv_aload_n hx hb dL_law_203 rfl (lv_at hl 0 rfl) ?_
  refine lv_iload hx hb dL_law_204 (lv_at hl 4 rfl) ?_
  refine lv_iconst (v := (4 : Int32)) hx hb dL_law_206 (by decide) ?_
  refine lv_iadd hx hb dL_law_207 ?_
  refine va_sld hx hb hX hbl hbA hS hi4 dL_law_208 ?_
  refine lv_aload_n hx hb dL_law_209 rfl (lv_at hl 0 rfl) ?_
  refine lv_iload hx hb dL_law_210 (lv_at hl 4 rfl) ?_
  refine lv_iconst (v := (5 : Int32)) hx hb dL_law_212 (by decide) ?_
  refine lv_iadd hx hb dL_law_213 ?_
  refine va_sld hx hb hX hbl hbA hS hi5 dL_law_214 ?_
  refine lv_aload_n hx hb dL_law_215 rfl (lv_at hl 0 rfl) ?_
  refine lv_iload hx hb dL_law_216 (lv_at hl 4 rfl) ?_
  refine lv_bipush (v := (6 : Int32)) hx hb dL_law_218 (by decide) ?_
  refine lv_iadd hx hb dL_law_220 ?_
  refine va_sld hx hb hX hbl hbA hS hi6 dL_law_221 ?_
  refine lv_aload_n hx hb dL_law_222 rfl (lv_at hl 3 rfl) ?_
  refine gz_callW (w := wO ad cI cZ cJ oa) (Y := wB bd cI cZ v) (As := [.ref (ad 0), .int (xs (x4 + (1 : Int32)).toNatClampNeg), .int (xs (x4 + (2 : Int32)).toNatClampNeg), .int (xs (x4 + (3 : Int32)).toNatClampNeg), .int (xs (x4 + (4 : Int32)).toNatClampNeg), .int (xs (x4 + (5 : Int32)).toNatClampNeg), .int (xs (x4 + (6 : Int32)).toNatClampNeg), .ref oa]) (rest := []) (u := (u, x)) (u' := (u1, (if cd = 0 then vp_updL x 0 r.toInt64 else x))) hx hb hml hown hG (c_L_agree l hst D ad cI cZ cJ oa N u x (xs (x4 + (1 : Int32)).toNatClampNeg) (xs (x4 + (2 : Int32)).toNatClampNeg) (xs (x4 + (3 : Int32)).toNatClampNeg) (xs (x4 + (4 : Int32)).toNatClampNeg) (xs (x4 + (5 : Int32)).toNatClampNeg) (xs (x4 + (6 : Int32)).toNatClampNeg) cd r u1 hA1 hcd) lz_L_81 rfl rfl ⟨Nat.le_of_ble_eq_true rfl, Nat.le_of_ble_eq_true rfl⟩ hK hE hP hD hS hA rfl hl.1 rfl (Nat.le_of_ble_eq_true rfl) dL_law_223 ⟨hcl, hsl⟩ (fun H locs hP hD hS => ?_)
  refine lv_istore (lv' := [(5, .int (kL_agree cd)), (0, .ref b), (1, .ref (ad 0)), (2, .ref (bd 0)), (3, .ref oa), (4, .int x4)]) hx hb dL_law_226 hl (by decide) rfl (fun ls hl => ?_)
  refine lv_aload_n hx hb dL_law_228 rfl (lv_at hl 3 rfl) ?_
  refine lv_aload_n hx hb dL_law_229 rfl (lv_at hl 1 rfl) ?_
  refine lv_iload hx hb dL_law_230 (lv_at hl 5 rfl) ?_
  refine lv_iconst (v := (1 : Int32)) hx hb dL_law_232 (by decide) ?_
  refine lv_iadd hx hb dL_law_233 ?_
  refine va_sld hx hb hX hbl hbA hS hi1 dL_law_234 ?_
  refine lv_aload_n hx hb dL_law_235 rfl (lv_at hl 1 rfl) ?_
  refine lv_iload hx hb dL_law_236 (lv_at hl 5 rfl) ?_
  refine lv_iconst (v := (2 : Int32)) hx hb dL_law_238 (by decide) ?_
  refine lv_iadd hx hb dL_law_239 ?_
  refine va_sld hx hb hX hbl hbA hS hi2 dL_law_240 ?_
  refine lv_aload_n hx hb dL_law_241 rfl (lv_at hl 1 rfl) ?_
  refine lv_iload hx hb dL_law_242 (lv_at hl 5 rfl) ?_
  refine lv_iconst (v := (3 : Int32)) hx hb dL_law_244 (by decide) ?_
  refine lv_iadd hx hb dL_law_245 ?_
  refine va_sld hx hb hX hbl hbA hS hi3 dL_law_246 ?_
  refine lv_aload_n hx hb dL_law_247 rfl (lv_at hl 1 rfl) ?_
  refine lv_iload hx hb dL_law_248 (lv_at hl 5 rfl) ?_
  refine lv_iconst (v := (4 : Int32)) hx hb dL_law_250 (by decide) ?_
  refine lv_iadd hx hb dL_law_251 ?_
  refine va_sld hx hb hX hbl hbA hS hi4 dL_law_252 ?_
  refine lv_aload_n hx hb dL_law_253 rfl (lv_at hl 1 rfl) ?_
  refine lv_iload hx hb dL_law_254 (lv_at hl 5 rfl) ?_
  refine lv_iconst (v := (5 : Int32)) hx hb dL_law_256 (by decide) ?_
  refine lv_iadd hx hb dL_law_257 ?_
  refine va_sld hx hb hX hbl hbA hS hi5 dL_law_258 ?_
  refine lv_aload_n hx hb dL_law_259 rfl (lv_at hl 1 rfl) ?_
  refine lv_iload hx hb dL_law_260 (lv_at hl 5 rfl) ?_
  refine lv_bipush (v := (6 : Int32)) hx hb dL_law_262 (by decide) ?_
  refine lv_iadd hx hb dL_law_264 ?_
  refine va_sld hx hb hX hbl hbA hS hi6 dL_law_265 ?_
  refine gz_callR (w := wB bd cI cZ) (Y := wO ad cI cZ cJ oa (u1, (if cd = 0 then vp_updL x 0 r.toInt64 else x))) (As := [.int (xs (x4 + (1 : Int32)).toNatClampNeg), .int (xs (x4 + (2 : Int32)).toNatClampNeg), .int (xs (x4 + (3 : Int32)).toNatClampNeg), .int (xs (x4 + (4 : Int32)).toNatClampNeg), .int (xs (x4 + (5 : Int32)).toNatClampNeg), .int (xs (x4 + (6 : Int32)).toNatClampNeg)]) (rest := []) (u := v) (u' := v1) hx hb hml hown hG (c_B_agree l D bd cI cZ N v (xs (x4 + (1 : Int32)).toNatClampNeg) (xs (x4 + (2 : Int32)).toNatClampNeg) (xs (x4 + (3 : Int32)).toNatClampNeg) (xs (x4 + (4 : Int32)).toNatClampNeg) (xs (x4 + (5 : Int32)).toNatClampNeg) (xs (x4 + (6 : Int32)).toNatClampNeg) b1 v1 hB1) lz_L_84 rfl rfl ⟨Nat.le_of_ble_eq_true rfl, Nat.le_of_ble_eq_true rfl⟩ (va_recv hKB (gy_PR hP) (ci := 6) (q0 := 0) rfl rfl) hKB hP hD hS hA rfl hl.1 rfl (Nat.le_of_ble_eq_true rfl) dL_law_266 ⟨hcl, hsl⟩ (fun H locs hP hD hS => ?_)
  have hP : va_P D vwCl (wO ad cI cZ cJ oa (u1, (if cd = 0 then vp_updL x 0 r.toInt64 else x)) ++ wB bd cI cZ v1) H := hP
  have hD : va_D (gl_A s) (wO ad cI cZ cJ oa (u1, (if cd = 0 then vp_updL x 0 r.toInt64 else x)) ++ wB bd cI cZ v1) := hD
  refine lv_istore (lv' := [(6, .int b1), (5, .int (kL_agree cd)), (0, .ref b), (1, .ref (ad 0)), (2, .ref (bd 0)), (3, .ref oa), (4, .int x4)]) hx hb dL_law_269 hl (by decide) rfl (fun ls hl => ?_)
  refine lv_aload_n hx hb dL_law_271 rfl (lv_at hl 4 rfl) ?_
  refine gz_callR (w := wB bd cI cZ) (Y := wO ad cI cZ cJ oa (u1, (if cd = 0 then vp_updL x 0 r.toInt64 else x))) (As := []) (rest := []) (u := v1) (u' := v1) hx hb hml hown hG (c_B_thrown l D bd cI cZ v1 _ rfl) lz_L_77 rfl rfl ⟨Nat.le_of_ble_eq_true rfl, Nat.le_of_ble_eq_true rfl⟩ (va_recv hKB (gy_PR hP) (ci := 6) (q0 := 0) rfl rfl) hKB hP hD hS hA rfl hl.1 rfl (Nat.le_of_ble_eq_true rfl) dL_law_272 ⟨hcl, hsl⟩ (fun H locs hP hD hS => ?_)
  have hP : va_P D vwCl (wO ad cI cZ cJ oa (u1, (if cd = 0 then vp_updL x 0 r.toInt64 else x)) ++ wB bd cI cZ v1) H := hP
  have hD : va_D (gl_A s) (wO ad cI cZ cJ oa (u1, (if cd = 0 then vp_updL x 0 r.toInt64 else x)) ++ wB bd cI cZ v1) := hD
  refine lv_iload hx hb dL_law_275 (lv_at hl 1 rfl) ?_
  refine lv_icmp_eq (tgt := 282) hx hb dL_law_277 (by decide) (fun hc => ?_) (fun hc => absurd ht hc)
  refine lv_iload hx hb dL_law_282 (lv_at hl 1 rfl) ?_
  refine lv_if_ne (tgt := 299) hx hb dL_law_284 (by decide) (fun hc => ?_) (fun hc => ?_)
  · refine lv_goto (tgt := 1087) hx hb dL_law_299 (by decide) ?_
    exact kk _ H locs ls hP hD hS (lv_sub hl [2, 3, 4, 5, 6] rfl)
  · have h0 : cd = 0 := by rcases hcd with rfl | rfl | rfl | rfl | rfl <;> first | rfl | (exact absurd hc (by decide))
    subst h0
    have hP : va_P D vwCl (wO ad cI cZ cJ oa (u1, vp_updL x 0 r.toInt64) ++ wB bd cI cZ v1) H := hP
    have hD : va_D (gl_A s) (wO ad cI cZ cJ oa (u1, vp_updL x 0 r.toInt64) ++ wB bd cI cZ v1) := hD
    refine lv_aload_n hx hb dL_law_287 rfl (lv_at hl 5 rfl) ?_
    refine lv_iconst (v := (0 : Int32)) hx hb dL_law_288 (by decide) ?_
    refine va_lald (f := vp_updL x 0 r.toInt64) hx hb hK (gy_P hP) 32 2 rfl rfl gy_in0 dL_law_289 ?_
    refine W.eq (g2 := F0 m 290 ls [.long r.toInt64]) rfl ?_
    refine lv_iload hx hb dL_law_290 (lv_at hl 0 rfl) ?_
    refine lv_i2l (v := b1.toInt64) hx hb dL_law_292 rfl ?_
    refine W.lcmp hx hb dL_law_293 ?_
    refine lv_if_eq (tgt := 299) hx hb dL_law_294 (by decide) (fun hc => ?_) (fun hc => absurd (by rw [ho rfl]; exact gz_cmp _) hc)
    refine lv_goto (tgt := 1087) hx hb dL_law_299 (by decide) ?_
    exact kk _ H locs ls hP hD hS (lv_sub hl [2, 3, 4, 5, 6] rfl)
set_option maxHeartbeats 4000000 in
set_option maxRecDepth 100000 in
theorem lw_ask {p : Program} {l : Launch} {e : Env} {s : State} {m : MethodId} {below : List Frame} {meth : Method} {c : Code} {b L : Nat} {xs : Nat → Int32} {D : va_G} {cI cZ cJ : ClassId} {ad bd : Nat → Nat} {oa : Nat} (hC : gl_C p l s m meth c b L xs D cI cZ cJ) (N : Nat) (x4 : Int32) (hi1 : vp_in (x4 + (1 : Int32)) L) (hi2 : vp_in (x4 + (2 : Int32)) L) (hi3 : vp_in (x4 + (3 : Int32)) L) {u : StA} {x : Nat → Int64} {v : StB} (cd : Nat) (r : Int32) (u1 : StA) (hA1 : f_A_ask N u (xs (x4 + (1 : Int32)).toNatClampNeg) (xs (x4 + (2 : Int32)).toNatClampNeg) (xs (x4 + (3 : Int32)).toNatClampNeg) = some ((cd, r), u1)) (hcd : cd = 0 ∨ cd = 1 ∨ cd = 2 ∨ cd = 4) (b1 : Int32) (v1 : StB) (hB1 : f_B_ask N v (xs (x4 + (1 : Int32)).toNatClampNeg) (xs (x4 + (2 : Int32)).toNatClampNeg) (xs (x4 + (3 : Int32)).toNatClampNeg) = some (b1, v1)) (ht : (v1.1 0) = kL_ask cd) (ho : cd = 0 → r = b1) {cells slots : Nat} {Q : State → Prop} (hcl : cells + 1 ≤ 1112) (hsl : slots + 6 ≤ 19541) {H : Heap} {locs : List Loc} {ls : Array Slot} (hP : va_P D vwCl (wO ad cI cZ cJ oa (u, x) ++ wB bd cI cZ v) H) (hD : va_D (gl_A s) (wO ad cI cZ cJ oa (u, x) ++ wB bd cI cZ v)) (hS : va_S (gl_A s) s.heap H locs) (hl : lv_has ls 7 [(0, .ref b), (1, .ref (ad 0)), (2, .ref (bd 0)), (3, .ref oa), (4, .int x4)]) (kk : ∀ (x1 : Nat → Int64) (H : Heap) (locs : List Loc) (ls : Array Slot), va_P D vwCl (wO ad cI cZ cJ oa (u1, x1) ++ wB bd cI cZ v1) H → va_D (gl_A s) (wO ad cI cZ cJ oa (u1, x1) ++ wB bd cI cZ v1) → va_S (gl_A s) s.heap H locs → lv_has ls 7 [(0, .ref b), (1, .ref (ad 0)), (2, .ref (bd 0)), (3, .ref oa), (4, .int x4)] → W p l e room_1 s m #[Value.ref b] below meth c H locs (cells + 1) (slots + 6) Q (F0 m 1087 ls [])) : W p l e room_1 s m #[Value.ref b] below meth c H locs cells slots Q (F0 m 302 ls []) := by
  obtain ⟨hx, hb, hr, hml, hG, hown, hlocks, hK, hX, hbl, hst, hE⟩ := id hC
  have hA : ∀ q : Nat, s.heap.size ≤ q → gl_A s q := fun _ h => h
  have hbA : ¬ gl_A s b := Nat.not_le.mpr hbl
  have hKB : va_K D vwCl (tB cI cZ) s := hK.sub [0, 1] rfl
  refine lv_aload_n hx hb dL_law_302 rfl (lv_at hl 1 rfl) ?_
  refine lv_aload_n hx hb dL_law_303 rfl (lv_at hl 0 rfl) ?_
  refine lv_iload hx hb dL_law_304 (lv_at hl 4 rfl) ?_
  refine lv_iconst (v := (1 : Int32)) hx hb dL_law_306 (by decide) ?_
  refine lv_iadd hx hb dL_law_307 ?_
  refine va_sld hx hb hX hbl hbA hS hi1 dL_law_308 ?_
  refine lv_aload_n hx hb dL_law_309 rfl (lv_at hl 0 rfl) ?_
  refine lv_iload hx hb dL_law_310 (lv_at hl 4 rfl) ?_
  refine lv_iconst (v := (2 : Int32)) hx hb dL_law_312 (by decide) ?_
  refine lv_iadd hx hb dL_law_313 ?_
  refine va_sld hx hb hX hbl hbA hS hi2 dL_law_314 ?_
  refine lv_aload_n hx hb dL_law_315 rfl (lv_at hl 0 rfl) ?_
  refine lv_iload hx hb dL_law_316 (lv_at hl 4 rfl) ?_
  refine lv_iconst (v := (3 : Int32)) hx hb dL_law_318 (by decide) ?_
  refine lv_iadd hx hb dL_law_319 ?_
  refine va_sld hx hb hX hbl hbA hS hi3 dL_law_320 ?_
  refine lv_aload_n hx hb dL_law_321 rfl (lv_at hl 3 rfl) ?_
  refine gz_callW (w := wO ad cI cZ cJ oa) (Y := wB bd cI cZ v) (As := [.ref (ad 0), .int (xs (x4 + (1 : Int32)).toNatClampNeg), .int (xs (x4 + (2 : Int32)).toNatClampNeg), .int (xs (x4 + (3 : Int32)).toNatClampNeg), .ref oa]) (rest := []) (u := (u, x)) (u' := (u1, (if cd = 0 then vp_updL x 0 r.toInt64 else x))) hx hb hml hown hG (c_L_ask l hst D ad cI cZ cJ oa N u x (xs (x4 + (1 : Int32)).toNatClampNeg) (xs (x4 + (2 : Int32)).toNatClampNeg) (xs (x4 + (3 : Int32)).toNatClampNeg) cd r u1 hA1 hcd) lz_L_85 rfl rfl ⟨Nat.le_of_ble_eq_true rfl, Nat.le_of_ble_eq_true rfl⟩ hK hE hP hD hS hA rfl hl.1 rfl (Nat.le_of_ble_eq_true rfl) dL_law_322 ⟨hcl, hsl⟩ (fun H locs hP hD hS => ?_)
  refine lv_istore (lv' := [(5, .int (kL_ask cd)), (0, .ref b), (1, .ref (ad 0)), (2, .ref (bd 0)), (3, .ref oa), (4, .int x4)]) hx hb dL_law_325 hl (by decide) rfl (fun ls hl => ?_)
  refine lv_aload_n hx hb dL_law_327 rfl (lv_at hl 3 rfl) ?_
  refine lv_aload_n hx hb dL_law_328 rfl (lv_at hl 1 rfl) ?_
  refine lv_iload hx hb dL_law_329 (lv_at hl 5 rfl) ?_
  refine lv_iconst (v := (1 : Int32)) hx hb dL_law_331 (by decide) ?_
  refine lv_iadd hx hb dL_law_332 ?_
  refine va_sld hx hb hX hbl hbA hS hi1 dL_law_333 ?_
  refine lv_aload_n hx hb dL_law_334 rfl (lv_at hl 1 rfl) ?_
  refine lv_iload hx hb dL_law_335 (lv_at hl 5 rfl) ?_
  refine lv_iconst (v := (2 : Int32)) hx hb dL_law_337 (by decide) ?_
  refine lv_iadd hx hb dL_law_338 ?_
  refine va_sld hx hb hX hbl hbA hS hi2 dL_law_339 ?_
  refine lv_aload_n hx hb dL_law_340 rfl (lv_at hl 1 rfl) ?_
  refine lv_iload hx hb dL_law_341 (lv_at hl 5 rfl) ?_
  refine lv_iconst (v := (3 : Int32)) hx hb dL_law_343 (by decide) ?_
  refine lv_iadd hx hb dL_law_344 ?_
  refine va_sld hx hb hX hbl hbA hS hi3 dL_law_345 ?_
  refine gz_callR (w := wB bd cI cZ) (Y := wO ad cI cZ cJ oa (u1, (if cd = 0 then vp_updL x 0 r.toInt64 else x))) (As := [.int (xs (x4 + (1 : Int32)).toNatClampNeg), .int (xs (x4 + (2 : Int32)).toNatClampNeg), .int (xs (x4 + (3 : Int32)).toNatClampNeg)]) (rest := []) (u := v) (u' := v1) hx hb hml hown hG (c_B_ask l D bd cI cZ N v (xs (x4 + (1 : Int32)).toNatClampNeg) (xs (x4 + (2 : Int32)).toNatClampNeg) (xs (x4 + (3 : Int32)).toNatClampNeg) b1 v1 hB1) lz_L_88 rfl rfl ⟨Nat.le_of_ble_eq_true rfl, Nat.le_of_ble_eq_true rfl⟩ (va_recv hKB (gy_PR hP) (ci := 6) (q0 := 0) rfl rfl) hKB hP hD hS hA rfl hl.1 rfl (Nat.le_of_ble_eq_true rfl) dL_law_346 ⟨hcl, hsl⟩ (fun H locs hP hD hS => ?_)
  have hP : va_P D vwCl (wO ad cI cZ cJ oa (u1, (if cd = 0 then vp_updL x 0 r.toInt64 else x)) ++ wB bd cI cZ v1) H := hP
  have hD : va_D (gl_A s) (wO ad cI cZ cJ oa (u1, (if cd = 0 then vp_updL x 0 r.toInt64 else x)) ++ wB bd cI cZ v1) := hD
  refine lv_istore (lv' := [(6, .int b1), (5, .int (kL_ask cd)), (0, .ref b), (1, .ref (ad 0)), (2, .ref (bd 0)), (3, .ref oa), (4, .int x4)]) hx hb dL_law_349 hl (by decide) rfl (fun ls hl => ?_)
  refine lv_aload_n hx hb dL_law_351 rfl (lv_at hl 4 rfl) ?_
  refine gz_callR (w := wB bd cI cZ) (Y := wO ad cI cZ cJ oa (u1, (if cd = 0 then vp_updL x 0 r.toInt64 else x))) (As := []) (rest := []) (u := v1) (u' := v1) hx hb hml hown hG (c_B_thrown l D bd cI cZ v1 _ rfl) lz_L_77 rfl rfl ⟨Nat.le_of_ble_eq_true rfl, Nat.le_of_ble_eq_true rfl⟩ (va_recv hKB (gy_PR hP) (ci := 6) (q0 := 0) rfl rfl) hKB hP hD hS hA rfl hl.1 rfl (Nat.le_of_ble_eq_true rfl) dL_law_352 ⟨hcl, hsl⟩ (fun H locs hP hD hS => ?_)
  have hP : va_P D vwCl (wO ad cI cZ cJ oa (u1, (if cd = 0 then vp_updL x 0 r.toInt64 else x)) ++ wB bd cI cZ v1) H := hP
  have hD : va_D (gl_A s) (wO ad cI cZ cJ oa (u1, (if cd = 0 then vp_updL x 0 r.toInt64 else x)) ++ wB bd cI cZ v1) := hD
  refine lv_iload hx hb dL_law_355 (lv_at hl 1 rfl) ?_
  refine lv_icmp_eq (tgt := 362) hx hb dL_law_357 (by decide) (fun hc => ?_) (fun hc => absurd ht hc)
  refine lv_iload hx hb dL_law_362 (lv_at hl 1 rfl) ?_
  refine lv_if_ne (tgt := 379) hx hb dL_law_364 (by decide) (fun hc => ?_) (fun hc => ?_)
  · refine lv_goto (tgt := 1087) hx hb dL_law_379 (by decide) ?_
    exact kk _ H locs ls hP hD hS (lv_sub hl [2, 3, 4, 5, 6] rfl)
  · have h0 : cd = 0 := by rcases hcd with rfl | rfl | rfl | rfl <;> first | rfl | (exact absurd hc (by decide))
    subst h0
    have hP : va_P D vwCl (wO ad cI cZ cJ oa (u1, vp_updL x 0 r.toInt64) ++ wB bd cI cZ v1) H := hP
    have hD : va_D (gl_A s) (wO ad cI cZ cJ oa (u1, vp_updL x 0 r.toInt64) ++ wB bd cI cZ v1) := hD
    refine lv_aload_n hx hb dL_law_367 rfl (lv_at hl 5 rfl) ?_
    refine lv_iconst (v := (0 : Int32)) hx hb dL_law_368 (by decide) ?_
    refine va_lald (f := vp_updL x 0 r.toInt64) hx hb hK (gy_P hP) 32 2 rfl rfl gy_in0 dL_law_369 ?_
    refine W.eq (g2 := F0 m 370 ls [.long r.toInt64]) rfl ?_
    refine lv_iload hx hb dL_law_370 (lv_at hl 0 rfl) ?_
    refine lv_i2l (v := b1.toInt64) hx hb dL_law_372 rfl ?_
    refine W.lcmp hx hb dL_law_373 ?_
    refine lv_if_eq (tgt := 379) hx hb dL_law_374 (by decide) (fun hc => ?_) (fun hc => absurd (by rw [ho rfl]; exact gz_cmp _) hc)
    refine lv_goto (tgt := 1087) hx hb dL_law_379 (by decide) ?_
    exact kk _ H locs ls hP hD hS (lv_sub hl [2, 3, 4, 5, 6] rfl)
set_option maxHeartbeats 4000000 in
set_option maxRecDepth 100000 in
theorem lw_message {p : Program} {l : Launch} {e : Env} {s : State} {m : MethodId} {below : List Frame} {meth : Method} {c : Code} {b L : Nat} {xs : Nat → Int32} {D : va_G} {cI cZ cJ : ClassId} {ad bd : Nat → Nat} {oa : Nat} (hC : gl_C p l s m meth c b L xs D cI cZ cJ) (N : Nat) (x4 : Int32) (hi1 : vp_in (x4 + (1 : Int32)) L) (hi2 : vp_in (x4 + (2 : Int32)) L) (hi3 : vp_in (x4 + (3 : Int32)) L) (hi4 : vp_in (x4 + (4 : Int32)) L) (hi5 : vp_in (x4 + (5 : Int32)) L) {u : StA} {x : Nat → Int64} {v : StB} (cd : Nat) (r : Int32) (u1 : StA) (hA1 : f_A_message N u (xs (x4 + (1 : Int32)).toNatClampNeg) (xs (x4 + (2 : Int32)).toNatClampNeg) (xs (x4 + (3 : Int32)).toNatClampNeg) (xs (x4 + (4 : Int32)).toNatClampNeg) (xs (x4 + (5 : Int32)).toNatClampNeg) = some ((cd, r), u1)) (hcd : cd = 0 ∨ cd = 1 ∨ cd = 2 ∨ cd = 4) (b1 : Int32) (v1 : StB) (hB1 : f_B_message N v (xs (x4 + (1 : Int32)).toNatClampNeg) (xs (x4 + (2 : Int32)).toNatClampNeg) (xs (x4 + (3 : Int32)).toNatClampNeg) (xs (x4 + (4 : Int32)).toNatClampNeg) (xs (x4 + (5 : Int32)).toNatClampNeg) = some (b1, v1)) (ht : (v1.1 0) = kL_message cd) (ho : cd = 0 → r = b1) {cells slots : Nat} {Q : State → Prop} (hcl : cells + 1 ≤ 1112) (hsl : slots + 6 ≤ 19541) {H : Heap} {locs : List Loc} {ls : Array Slot} (hP : va_P D vwCl (wO ad cI cZ cJ oa (u, x) ++ wB bd cI cZ v) H) (hD : va_D (gl_A s) (wO ad cI cZ cJ oa (u, x) ++ wB bd cI cZ v)) (hS : va_S (gl_A s) s.heap H locs) (hl : lv_has ls 7 [(0, .ref b), (1, .ref (ad 0)), (2, .ref (bd 0)), (3, .ref oa), (4, .int x4)]) (kk : ∀ (x1 : Nat → Int64) (H : Heap) (locs : List Loc) (ls : Array Slot), va_P D vwCl (wO ad cI cZ cJ oa (u1, x1) ++ wB bd cI cZ v1) H → va_D (gl_A s) (wO ad cI cZ cJ oa (u1, x1) ++ wB bd cI cZ v1) → va_S (gl_A s) s.heap H locs → lv_has ls 7 [(0, .ref b), (1, .ref (ad 0)), (2, .ref (bd 0)), (3, .ref oa), (4, .int x4)] → W p l e room_1 s m #[Value.ref b] below meth c H locs (cells + 1) (slots + 6) Q (F0 m 1087 ls [])) : W p l e room_1 s m #[Value.ref b] below meth c H locs cells slots Q (F0 m 382 ls []) := by
  obtain ⟨hx, hb, hr, hml, hG, hown, hlocks, hK, hX, hbl, hst, hE⟩ := id hC
  have hA : ∀ q : Nat, s.heap.size ≤ q → gl_A s q := fun _ h => h
  have hbA : ¬ gl_A s b := Nat.not_le.mpr hbl
  have hKB : va_K D vwCl (tB cI cZ) s := hK.sub [0, 1] rfl
  refine lv_aload_n hx hb dL_law_382 rfl (lv_at hl 1 rfl) ?_
  refine lv_aload_n hx hb dL_law_383 rfl (lv_at hl 0 rfl) ?_
  refine lv_iload hx hb dL_law_384 (lv_at hl 4 rfl) ?_
  refine lv_iconst (v := (1 : Int32)) hx hb dL_law_386 (by decide) ?_
  refine lv_iadd hx hb dL_law_387 ?_
  refine va_sld hx hb hX hbl hbA hS hi1 dL_law_388 ?_
  refine lv_aload_n hx hb dL_law_389 rfl (lv_at hl 0 rfl) ?_
  refine lv_iload hx hb dL_law_390 (lv_at hl 4 rfl) ?_
  refine lv_iconst (v := (2 : Int32)) hx hb dL_law_392 (by decide) ?_
  refine lv_iadd hx hb dL_law_393 ?_
  refine va_sld hx hb hX hbl hbA hS hi2 dL_law_394 ?_
  refine lv_aload_n hx hb dL_law_395 rfl (lv_at hl 0 rfl) ?_
  refine lv_iload hx hb dL_law_396 (lv_at hl 4 rfl) ?_
  refine lv_iconst (v := (3 : Int32)) hx hb dL_law_398 (by decide) ?_
  refine lv_iadd hx hb dL_law_399 ?_
  refine va_sld hx hb hX hbl hbA hS hi3 dL_law_400 ?_
  refine lv_aload_n hx hb dL_law_401 rfl (lv_at hl 0 rfl) ?_
  refine lv_iload hx hb dL_law_402 (lv_at hl 4 rfl) ?_
  refine lv_iconst (v := (4 : Int32)) hx hb dL_law_404 (by decide) ?_
  refine lv_iadd hx hb dL_law_405 ?_
  refine va_sld hx hb hX hbl hbA hS hi4 dL_law_406 ?_
  refine lv_aload_n hx hb dL_law_407 rfl (lv_at hl 0 rfl) ?_
  refine lv_iload hx hb dL_law_408 (lv_at hl 4 rfl) ?_
  refine lv_iconst (v := (5 : Int32)) hx hb dL_law_410 (by decide) ?_
  refine lv_iadd hx hb dL_law_411 ?_
  refine va_sld hx hb hX hbl hbA hS hi5 dL_law_412 ?_
  refine lv_aload_n hx hb dL_law_413 rfl (lv_at hl 3 rfl) ?_
  refine gz_callW (w := wO ad cI cZ cJ oa) (Y := wB bd cI cZ v) (As := [.ref (ad 0), .int (xs (x4 + (1 : Int32)).toNatClampNeg), .int (xs (x4 + (2 : Int32)).toNatClampNeg), .int (xs (x4 + (3 : Int32)).toNatClampNeg), .int (xs (x4 + (4 : Int32)).toNatClampNeg), .int (xs (x4 + (5 : Int32)).toNatClampNeg), .ref oa]) (rest := []) (u := (u, x)) (u' := (u1, (if cd = 0 then vp_updL x 0 r.toInt64 else x))) hx hb hml hown hG (c_L_message l hst D ad cI cZ cJ oa N u x (xs (x4 + (1 : Int32)).toNatClampNeg) (xs (x4 + (2 : Int32)).toNatClampNeg) (xs (x4 + (3 : Int32)).toNatClampNeg) (xs (x4 + (4 : Int32)).toNatClampNeg) (xs (x4 + (5 : Int32)).toNatClampNeg) cd r u1 hA1 hcd) lz_L_89 rfl rfl ⟨Nat.le_of_ble_eq_true rfl, Nat.le_of_ble_eq_true rfl⟩ hK hE hP hD hS hA rfl hl.1 rfl (Nat.le_of_ble_eq_true rfl) dL_law_414 ⟨hcl, hsl⟩ (fun H locs hP hD hS => ?_)
  refine lv_istore (lv' := [(5, .int (kL_message cd)), (0, .ref b), (1, .ref (ad 0)), (2, .ref (bd 0)), (3, .ref oa), (4, .int x4)]) hx hb dL_law_417 hl (by decide) rfl (fun ls hl => ?_)
  refine lv_aload_n hx hb dL_law_419 rfl (lv_at hl 3 rfl) ?_
  refine lv_aload_n hx hb dL_law_420 rfl (lv_at hl 1 rfl) ?_
  refine lv_iload hx hb dL_law_421 (lv_at hl 5 rfl) ?_
  refine lv_iconst (v := (1 : Int32)) hx hb dL_law_423 (by decide) ?_
  refine lv_iadd hx hb dL_law_424 ?_
  refine va_sld hx hb hX hbl hbA hS hi1 dL_law_425 ?_
  refine lv_aload_n hx hb dL_law_426 rfl (lv_at hl 1 rfl) ?_
  refine lv_iload hx hb dL_law_427 (lv_at hl 5 rfl) ?_
  refine lv_iconst (v := (2 : Int32)) hx hb dL_law_429 (by decide) ?_
  refine lv_iadd hx hb dL_law_430 ?_
  refine va_sld hx hb hX hbl hbA hS hi2 dL_law_431 ?_
  refine lv_aload_n hx hb dL_law_432 rfl (lv_at hl 1 rfl) ?_
  refine lv_iload hx hb dL_law_433 (lv_at hl 5 rfl) ?_
  refine lv_iconst (v := (3 : Int32)) hx hb dL_law_435 (by decide) ?_
  refine lv_iadd hx hb dL_law_436 ?_
  refine va_sld hx hb hX hbl hbA hS hi3 dL_law_437 ?_
  refine lv_aload_n hx hb dL_law_438 rfl (lv_at hl 1 rfl) ?_
  refine lv_iload hx hb dL_law_439 (lv_at hl 5 rfl) ?_
  refine lv_iconst (v := (4 : Int32)) hx hb dL_law_441 (by decide) ?_
  refine lv_iadd hx hb dL_law_442 ?_
  refine va_sld hx hb hX hbl hbA hS hi4 dL_law_443 ?_
  refine lv_aload_n hx hb dL_law_444 rfl (lv_at hl 1 rfl) ?_
  refine lv_iload hx hb dL_law_445 (lv_at hl 5 rfl) ?_
  refine lv_iconst (v := (5 : Int32)) hx hb dL_law_447 (by decide) ?_
  refine lv_iadd hx hb dL_law_448 ?_
  refine va_sld hx hb hX hbl hbA hS hi5 dL_law_449 ?_
  refine gz_callR (w := wB bd cI cZ) (Y := wO ad cI cZ cJ oa (u1, (if cd = 0 then vp_updL x 0 r.toInt64 else x))) (As := [.int (xs (x4 + (1 : Int32)).toNatClampNeg), .int (xs (x4 + (2 : Int32)).toNatClampNeg), .int (xs (x4 + (3 : Int32)).toNatClampNeg), .int (xs (x4 + (4 : Int32)).toNatClampNeg), .int (xs (x4 + (5 : Int32)).toNatClampNeg)]) (rest := []) (u := v) (u' := v1) hx hb hml hown hG (c_B_message l D bd cI cZ N v (xs (x4 + (1 : Int32)).toNatClampNeg) (xs (x4 + (2 : Int32)).toNatClampNeg) (xs (x4 + (3 : Int32)).toNatClampNeg) (xs (x4 + (4 : Int32)).toNatClampNeg) (xs (x4 + (5 : Int32)).toNatClampNeg) b1 v1 hB1) lz_L_92 rfl rfl ⟨Nat.le_of_ble_eq_true rfl, Nat.le_of_ble_eq_true rfl⟩ (va_recv hKB (gy_PR hP) (ci := 6) (q0 := 0) rfl rfl) hKB hP hD hS hA rfl hl.1 rfl (Nat.le_of_ble_eq_true rfl) dL_law_450 ⟨hcl, hsl⟩ (fun H locs hP hD hS => ?_)
  have hP : va_P D vwCl (wO ad cI cZ cJ oa (u1, (if cd = 0 then vp_updL x 0 r.toInt64 else x)) ++ wB bd cI cZ v1) H := hP
  have hD : va_D (gl_A s) (wO ad cI cZ cJ oa (u1, (if cd = 0 then vp_updL x 0 r.toInt64 else x)) ++ wB bd cI cZ v1) := hD
  refine lv_istore (lv' := [(6, .int b1), (5, .int (kL_message cd)), (0, .ref b), (1, .ref (ad 0)), (2, .ref (bd 0)), (3, .ref oa), (4, .int x4)]) hx hb dL_law_453 hl (by decide) rfl (fun ls hl => ?_)
  refine lv_aload_n hx hb dL_law_455 rfl (lv_at hl 4 rfl) ?_
  refine gz_callR (w := wB bd cI cZ) (Y := wO ad cI cZ cJ oa (u1, (if cd = 0 then vp_updL x 0 r.toInt64 else x))) (As := []) (rest := []) (u := v1) (u' := v1) hx hb hml hown hG (c_B_thrown l D bd cI cZ v1 _ rfl) lz_L_77 rfl rfl ⟨Nat.le_of_ble_eq_true rfl, Nat.le_of_ble_eq_true rfl⟩ (va_recv hKB (gy_PR hP) (ci := 6) (q0 := 0) rfl rfl) hKB hP hD hS hA rfl hl.1 rfl (Nat.le_of_ble_eq_true rfl) dL_law_456 ⟨hcl, hsl⟩ (fun H locs hP hD hS => ?_)
  have hP : va_P D vwCl (wO ad cI cZ cJ oa (u1, (if cd = 0 then vp_updL x 0 r.toInt64 else x)) ++ wB bd cI cZ v1) H := hP
  have hD : va_D (gl_A s) (wO ad cI cZ cJ oa (u1, (if cd = 0 then vp_updL x 0 r.toInt64 else x)) ++ wB bd cI cZ v1) := hD
  refine lv_iload hx hb dL_law_459 (lv_at hl 1 rfl) ?_
  refine lv_icmp_eq (tgt := 466) hx hb dL_law_461 (by decide) (fun hc => ?_) (fun hc => absurd ht hc)
  refine lv_iload hx hb dL_law_466 (lv_at hl 1 rfl) ?_
  refine lv_if_ne (tgt := 483) hx hb dL_law_468 (by decide) (fun hc => ?_) (fun hc => ?_)
  · refine lv_goto (tgt := 1087) hx hb dL_law_483 (by decide) ?_
    exact kk _ H locs ls hP hD hS (lv_sub hl [2, 3, 4, 5, 6] rfl)
  · have h0 : cd = 0 := by rcases hcd with rfl | rfl | rfl | rfl <;> first | rfl | (exact absurd hc (by decide))
    subst h0
    have hP : va_P D vwCl (wO ad cI cZ cJ oa (u1, vp_updL x 0 r.toInt64) ++ wB bd cI cZ v1) H := hP
    have hD : va_D (gl_A s) (wO ad cI cZ cJ oa (u1, vp_updL x 0 r.toInt64) ++ wB bd cI cZ v1) := hD
    refine lv_aload_n hx hb dL_law_471 rfl (lv_at hl 5 rfl) ?_
    refine lv_iconst (v := (0 : Int32)) hx hb dL_law_472 (by decide) ?_
    refine va_lald (f := vp_updL x 0 r.toInt64) hx hb hK (gy_P hP) 32 2 rfl rfl gy_in0 dL_law_473 ?_
    refine W.eq (g2 := F0 m 474 ls [.long r.toInt64]) rfl ?_
    refine lv_iload hx hb dL_law_474 (lv_at hl 0 rfl) ?_
    refine lv_i2l (v := b1.toInt64) hx hb dL_law_476 rfl ?_
    refine W.lcmp hx hb dL_law_477 ?_
    refine lv_if_eq (tgt := 483) hx hb dL_law_478 (by decide) (fun hc => ?_) (fun hc => absurd (by rw [ho rfl]; exact gz_cmp _) hc)
    refine lv_goto (tgt := 1087) hx hb dL_law_483 (by decide) ?_
    exact kk _ H locs ls hP hD hS (lv_sub hl [2, 3, 4, 5, 6] rfl)
set_option maxHeartbeats 4000000 in
set_option maxRecDepth 100000 in
theorem lw_seen {p : Program} {l : Launch} {e : Env} {s : State} {m : MethodId} {below : List Frame} {meth : Method} {c : Code} {b L : Nat} {xs : Nat → Int32} {D : va_G} {cI cZ cJ : ClassId} {ad bd : Nat → Nat} {oa : Nat} (hC : gl_C p l s m meth c b L xs D cI cZ cJ) (N : Nat) (x4 : Int32) (hi1 : vp_in (x4 + (1 : Int32)) L) (hi2 : vp_in (x4 + (2 : Int32)) L) {u : StA} {x : Nat → Int64} {v : StB} (cd : Nat) (r : Int32) (u1 : StA) (hA1 : f_A_seen u (xs (x4 + (1 : Int32)).toNatClampNeg) (xs (x4 + (2 : Int32)).toNatClampNeg) = some ((cd, r), u1)) (hcd : cd = 0 ∨ cd = 1 ∨ cd = 2) (b1 : Int32) (v1 : StB) (hB1 : f_B_seen N v (xs (x4 + (1 : Int32)).toNatClampNeg) (xs (x4 + (2 : Int32)).toNatClampNeg) = some (b1, v1)) (ht : (v1.1 0) = kL_seen cd) (ho : cd = 0 → r = b1) {cells slots : Nat} {Q : State → Prop} (hcl : cells + 1 ≤ 1112) (hsl : slots + 6 ≤ 19541) {H : Heap} {locs : List Loc} {ls : Array Slot} (hP : va_P D vwCl (wO ad cI cZ cJ oa (u, x) ++ wB bd cI cZ v) H) (hD : va_D (gl_A s) (wO ad cI cZ cJ oa (u, x) ++ wB bd cI cZ v)) (hS : va_S (gl_A s) s.heap H locs) (hl : lv_has ls 7 [(0, .ref b), (1, .ref (ad 0)), (2, .ref (bd 0)), (3, .ref oa), (4, .int x4)]) (kk : ∀ (x1 : Nat → Int64) (H : Heap) (locs : List Loc) (ls : Array Slot), va_P D vwCl (wO ad cI cZ cJ oa (u1, x1) ++ wB bd cI cZ v1) H → va_D (gl_A s) (wO ad cI cZ cJ oa (u1, x1) ++ wB bd cI cZ v1) → va_S (gl_A s) s.heap H locs → lv_has ls 7 [(0, .ref b), (1, .ref (ad 0)), (2, .ref (bd 0)), (3, .ref oa), (4, .int x4)] → W p l e room_1 s m #[Value.ref b] below meth c H locs (cells + 1) (slots + 6) Q (F0 m 1087 ls [])) : W p l e room_1 s m #[Value.ref b] below meth c H locs cells slots Q (F0 m 486 ls []) := by
  obtain ⟨hx, hb, hr, hml, hG, hown, hlocks, hK, hX, hbl, hst, hE⟩ := id hC
  have hA : ∀ q : Nat, s.heap.size ≤ q → gl_A s q := fun _ h => h
  have hbA : ¬ gl_A s b := Nat.not_le.mpr hbl
  have hKB : va_K D vwCl (tB cI cZ) s := hK.sub [0, 1] rfl
  refine lv_aload_n hx hb dL_law_486 rfl (lv_at hl 1 rfl) ?_
  refine lv_aload_n hx hb dL_law_487 rfl (lv_at hl 0 rfl) ?_
  refine lv_iload hx hb dL_law_488 (lv_at hl 4 rfl) ?_
  refine lv_iconst (v := (1 : Int32)) hx hb dL_law_490 (by decide) ?_
  refine lv_iadd hx hb dL_law_491 ?_
  refine va_sld hx hb hX hbl hbA hS hi1 dL_law_492 ?_
  refine lv_aload_n hx hb dL_law_493 rfl (lv_at hl 0 rfl) ?_
  refine lv_iload hx hb dL_law_494 (lv_at hl 4 rfl) ?_
  refine lv_iconst (v := (2 : Int32)) hx hb dL_law_496 (by decide) ?_
  refine lv_iadd hx hb dL_law_497 ?_
  refine va_sld hx hb hX hbl hbA hS hi2 dL_law_498 ?_
  refine lv_aload_n hx hb dL_law_499 rfl (lv_at hl 3 rfl) ?_
  refine gz_callW (w := wO ad cI cZ cJ oa) (Y := wB bd cI cZ v) (As := [.ref (ad 0), .int (xs (x4 + (1 : Int32)).toNatClampNeg), .int (xs (x4 + (2 : Int32)).toNatClampNeg), .ref oa]) (rest := []) (u := (u, x)) (u' := (u1, (if cd = 0 then vp_updL x 0 r.toInt64 else x))) hx hb hml hown hG (c_L_seen l hst D ad cI cZ cJ oa u x (xs (x4 + (1 : Int32)).toNatClampNeg) (xs (x4 + (2 : Int32)).toNatClampNeg) cd r u1 hA1 hcd) lz_L_93 rfl rfl ⟨Nat.le_of_ble_eq_true rfl, Nat.le_of_ble_eq_true rfl⟩ hK hE hP hD hS hA rfl hl.1 rfl (Nat.le_of_ble_eq_true rfl) dL_law_500 ⟨hcl, hsl⟩ (fun H locs hP hD hS => ?_)
  refine lv_istore (lv' := [(5, .int (kL_seen cd)), (0, .ref b), (1, .ref (ad 0)), (2, .ref (bd 0)), (3, .ref oa), (4, .int x4)]) hx hb dL_law_503 hl (by decide) rfl (fun ls hl => ?_)
  refine lv_aload_n hx hb dL_law_505 rfl (lv_at hl 3 rfl) ?_
  refine lv_aload_n hx hb dL_law_506 rfl (lv_at hl 1 rfl) ?_
  refine lv_iload hx hb dL_law_507 (lv_at hl 5 rfl) ?_
  refine lv_iconst (v := (1 : Int32)) hx hb dL_law_509 (by decide) ?_
  refine lv_iadd hx hb dL_law_510 ?_
  refine va_sld hx hb hX hbl hbA hS hi1 dL_law_511 ?_
  refine lv_aload_n hx hb dL_law_512 rfl (lv_at hl 1 rfl) ?_
  refine lv_iload hx hb dL_law_513 (lv_at hl 5 rfl) ?_
  refine lv_iconst (v := (2 : Int32)) hx hb dL_law_515 (by decide) ?_
  refine lv_iadd hx hb dL_law_516 ?_
  refine va_sld hx hb hX hbl hbA hS hi2 dL_law_517 ?_
  refine gz_callR (w := wB bd cI cZ) (Y := wO ad cI cZ cJ oa (u1, (if cd = 0 then vp_updL x 0 r.toInt64 else x))) (As := [.int (xs (x4 + (1 : Int32)).toNatClampNeg), .int (xs (x4 + (2 : Int32)).toNatClampNeg)]) (rest := []) (u := v) (u' := v1) hx hb hml hown hG (c_B_seen l D bd cI cZ N v (xs (x4 + (1 : Int32)).toNatClampNeg) (xs (x4 + (2 : Int32)).toNatClampNeg) b1 v1 hB1) lz_L_95 rfl rfl ⟨Nat.le_of_ble_eq_true rfl, Nat.le_of_ble_eq_true rfl⟩ (va_recv hKB (gy_PR hP) (ci := 6) (q0 := 0) rfl rfl) hKB hP hD hS hA rfl hl.1 rfl (Nat.le_of_ble_eq_true rfl) dL_law_518 ⟨hcl, hsl⟩ (fun H locs hP hD hS => ?_)
  have hP : va_P D vwCl (wO ad cI cZ cJ oa (u1, (if cd = 0 then vp_updL x 0 r.toInt64 else x)) ++ wB bd cI cZ v1) H := hP
  have hD : va_D (gl_A s) (wO ad cI cZ cJ oa (u1, (if cd = 0 then vp_updL x 0 r.toInt64 else x)) ++ wB bd cI cZ v1) := hD
  refine lv_istore (lv' := [(6, .int b1), (5, .int (kL_seen cd)), (0, .ref b), (1, .ref (ad 0)), (2, .ref (bd 0)), (3, .ref oa), (4, .int x4)]) hx hb dL_law_521 hl (by decide) rfl (fun ls hl => ?_)
  refine lv_aload_n hx hb dL_law_523 rfl (lv_at hl 4 rfl) ?_
  refine gz_callR (w := wB bd cI cZ) (Y := wO ad cI cZ cJ oa (u1, (if cd = 0 then vp_updL x 0 r.toInt64 else x))) (As := []) (rest := []) (u := v1) (u' := v1) hx hb hml hown hG (c_B_thrown l D bd cI cZ v1 _ rfl) lz_L_77 rfl rfl ⟨Nat.le_of_ble_eq_true rfl, Nat.le_of_ble_eq_true rfl⟩ (va_recv hKB (gy_PR hP) (ci := 6) (q0 := 0) rfl rfl) hKB hP hD hS hA rfl hl.1 rfl (Nat.le_of_ble_eq_true rfl) dL_law_524 ⟨hcl, hsl⟩ (fun H locs hP hD hS => ?_)
  have hP : va_P D vwCl (wO ad cI cZ cJ oa (u1, (if cd = 0 then vp_updL x 0 r.toInt64 else x)) ++ wB bd cI cZ v1) H := hP
  have hD : va_D (gl_A s) (wO ad cI cZ cJ oa (u1, (if cd = 0 then vp_updL x 0 r.toInt64 else x)) ++ wB bd cI cZ v1) := hD
  refine lv_iload hx hb dL_law_527 (lv_at hl 1 rfl) ?_
  refine lv_icmp_eq (tgt := 534) hx hb dL_law_529 (by decide) (fun hc => ?_) (fun hc => absurd ht hc)
  refine lv_iload hx hb dL_law_534 (lv_at hl 1 rfl) ?_
  refine lv_if_ne (tgt := 551) hx hb dL_law_536 (by decide) (fun hc => ?_) (fun hc => ?_)
  · refine lv_goto (tgt := 1087) hx hb dL_law_551 (by decide) ?_
    exact kk _ H locs ls hP hD hS (lv_sub hl [2, 3, 4, 5, 6] rfl)
  · have h0 : cd = 0 := by rcases hcd with rfl | rfl | rfl <;> first | rfl | (exact absurd hc (by decide))
    subst h0
    have hP : va_P D vwCl (wO ad cI cZ cJ oa (u1, vp_updL x 0 r.toInt64) ++ wB bd cI cZ v1) H := hP
    have hD : va_D (gl_A s) (wO ad cI cZ cJ oa (u1, vp_updL x 0 r.toInt64) ++ wB bd cI cZ v1) := hD
    refine lv_aload_n hx hb dL_law_539 rfl (lv_at hl 5 rfl) ?_
    refine lv_iconst (v := (0 : Int32)) hx hb dL_law_540 (by decide) ?_
    refine va_lald (f := vp_updL x 0 r.toInt64) hx hb hK (gy_P hP) 32 2 rfl rfl gy_in0 dL_law_541 ?_
    refine W.eq (g2 := F0 m 542 ls [.long r.toInt64]) rfl ?_
    refine lv_iload hx hb dL_law_542 (lv_at hl 0 rfl) ?_
    refine lv_i2l (v := b1.toInt64) hx hb dL_law_544 rfl ?_
    refine W.lcmp hx hb dL_law_545 ?_
    refine lv_if_eq (tgt := 551) hx hb dL_law_546 (by decide) (fun hc => ?_) (fun hc => absurd (by rw [ho rfl]; exact gz_cmp _) hc)
    refine lv_goto (tgt := 1087) hx hb dL_law_551 (by decide) ?_
    exact kk _ H locs ls hP hD hS (lv_sub hl [2, 3, 4, 5, 6] rfl)
set_option maxHeartbeats 4000000 in
set_option maxRecDepth 100000 in
theorem lw_tick {p : Program} {l : Launch} {e : Env} {s : State} {m : MethodId} {below : List Frame} {meth : Method} {c : Code} {b L : Nat} {xs : Nat → Int32} {D : va_G} {cI cZ cJ : ClassId} {ad bd : Nat → Nat} {oa : Nat} (hC : gl_C p l s m meth c b L xs D cI cZ cJ) (N : Nat) (x4 : Int32) (hi1 : vp_in (x4 + (1 : Int32)) L) {u : StA} {x : Nat → Int64} {v : StB} (cd : Nat) (r : Int32) (u1 : StA) (hA1 : f_A_tick N u (xs (x4 + (1 : Int32)).toNatClampNeg) = some ((cd, r), u1)) (hcd : cd = 0 ∨ cd = 2) (b1 : Int32) (v1 : StB) (hB1 : f_B_tick N v (xs (x4 + (1 : Int32)).toNatClampNeg) = some (b1, v1)) (ht : (v1.1 0) = kL_tick cd) (ho : cd = 0 → r = b1) {cells slots : Nat} {Q : State → Prop} (hcl : cells + 1 ≤ 1112) (hsl : slots + 6 ≤ 19541) {H : Heap} {locs : List Loc} {ls : Array Slot} (hP : va_P D vwCl (wO ad cI cZ cJ oa (u, x) ++ wB bd cI cZ v) H) (hD : va_D (gl_A s) (wO ad cI cZ cJ oa (u, x) ++ wB bd cI cZ v)) (hS : va_S (gl_A s) s.heap H locs) (hl : lv_has ls 7 [(0, .ref b), (1, .ref (ad 0)), (2, .ref (bd 0)), (3, .ref oa), (4, .int x4)]) (kk : ∀ (x1 : Nat → Int64) (H : Heap) (locs : List Loc) (ls : Array Slot), va_P D vwCl (wO ad cI cZ cJ oa (u1, x1) ++ wB bd cI cZ v1) H → va_D (gl_A s) (wO ad cI cZ cJ oa (u1, x1) ++ wB bd cI cZ v1) → va_S (gl_A s) s.heap H locs → lv_has ls 7 [(0, .ref b), (1, .ref (ad 0)), (2, .ref (bd 0)), (3, .ref oa), (4, .int x4)] → W p l e room_1 s m #[Value.ref b] below meth c H locs (cells + 1) (slots + 6) Q (F0 m 1087 ls [])) : W p l e room_1 s m #[Value.ref b] below meth c H locs cells slots Q (F0 m 554 ls []) := by
  obtain ⟨hx, hb, hr, hml, hG, hown, hlocks, hK, hX, hbl, hst, hE⟩ := id hC
  have hA : ∀ q : Nat, s.heap.size ≤ q → gl_A s q := fun _ h => h
  have hbA : ¬ gl_A s b := Nat.not_le.mpr hbl
  have hKB : va_K D vwCl (tB cI cZ) s := hK.sub [0, 1] rfl
  refine lv_aload_n hx hb dL_law_554 rfl (lv_at hl 1 rfl) ?_
  refine lv_aload_n hx hb dL_law_555 rfl (lv_at hl 0 rfl) ?_
  refine lv_iload hx hb dL_law_556 (lv_at hl 4 rfl) ?_
  refine lv_iconst (v := (1 : Int32)) hx hb dL_law_558 (by decide) ?_
  refine lv_iadd hx hb dL_law_559 ?_
  refine va_sld hx hb hX hbl hbA hS hi1 dL_law_560 ?_
  refine lv_aload_n hx hb dL_law_561 rfl (lv_at hl 3 rfl) ?_
  refine gz_callW (w := wO ad cI cZ cJ oa) (Y := wB bd cI cZ v) (As := [.ref (ad 0), .int (xs (x4 + (1 : Int32)).toNatClampNeg), .ref oa]) (rest := []) (u := (u, x)) (u' := (u1, (if cd = 0 then vp_updL x 0 r.toInt64 else x))) hx hb hml hown hG (c_L_tick l hst D ad cI cZ cJ oa N u x (xs (x4 + (1 : Int32)).toNatClampNeg) cd r u1 hA1 hcd) lz_L_96 rfl rfl ⟨Nat.le_of_ble_eq_true rfl, Nat.le_of_ble_eq_true rfl⟩ hK hE hP hD hS hA rfl hl.1 rfl (Nat.le_of_ble_eq_true rfl) dL_law_562 ⟨hcl, hsl⟩ (fun H locs hP hD hS => ?_)
  refine lv_istore (lv' := [(5, .int (kL_tick cd)), (0, .ref b), (1, .ref (ad 0)), (2, .ref (bd 0)), (3, .ref oa), (4, .int x4)]) hx hb dL_law_565 hl (by decide) rfl (fun ls hl => ?_)
  refine lv_aload_n hx hb dL_law_567 rfl (lv_at hl 3 rfl) ?_
  refine lv_aload_n hx hb dL_law_568 rfl (lv_at hl 1 rfl) ?_
  refine lv_iload hx hb dL_law_569 (lv_at hl 5 rfl) ?_
  refine lv_iconst (v := (1 : Int32)) hx hb dL_law_571 (by decide) ?_
  refine lv_iadd hx hb dL_law_572 ?_
  refine va_sld hx hb hX hbl hbA hS hi1 dL_law_573 ?_
  refine gz_callR (w := wB bd cI cZ) (Y := wO ad cI cZ cJ oa (u1, (if cd = 0 then vp_updL x 0 r.toInt64 else x))) (As := [.int (xs (x4 + (1 : Int32)).toNatClampNeg)]) (rest := []) (u := v) (u' := v1) hx hb hml hown hG (c_B_tick l D bd cI cZ N v (xs (x4 + (1 : Int32)).toNatClampNeg) b1 v1 hB1) lz_L_99 rfl rfl ⟨Nat.le_of_ble_eq_true rfl, Nat.le_of_ble_eq_true rfl⟩ (va_recv hKB (gy_PR hP) (ci := 6) (q0 := 0) rfl rfl) hKB hP hD hS hA rfl hl.1 rfl (Nat.le_of_ble_eq_true rfl) dL_law_574 ⟨hcl, hsl⟩ (fun H locs hP hD hS => ?_)
  have hP : va_P D vwCl (wO ad cI cZ cJ oa (u1, (if cd = 0 then vp_updL x 0 r.toInt64 else x)) ++ wB bd cI cZ v1) H := hP
  have hD : va_D (gl_A s) (wO ad cI cZ cJ oa (u1, (if cd = 0 then vp_updL x 0 r.toInt64 else x)) ++ wB bd cI cZ v1) := hD
  refine lv_istore (lv' := [(6, .int b1), (5, .int (kL_tick cd)), (0, .ref b), (1, .ref (ad 0)), (2, .ref (bd 0)), (3, .ref oa), (4, .int x4)]) hx hb dL_law_577 hl (by decide) rfl (fun ls hl => ?_)
  refine lv_aload_n hx hb dL_law_579 rfl (lv_at hl 4 rfl) ?_
  refine gz_callR (w := wB bd cI cZ) (Y := wO ad cI cZ cJ oa (u1, (if cd = 0 then vp_updL x 0 r.toInt64 else x))) (As := []) (rest := []) (u := v1) (u' := v1) hx hb hml hown hG (c_B_thrown l D bd cI cZ v1 _ rfl) lz_L_77 rfl rfl ⟨Nat.le_of_ble_eq_true rfl, Nat.le_of_ble_eq_true rfl⟩ (va_recv hKB (gy_PR hP) (ci := 6) (q0 := 0) rfl rfl) hKB hP hD hS hA rfl hl.1 rfl (Nat.le_of_ble_eq_true rfl) dL_law_580 ⟨hcl, hsl⟩ (fun H locs hP hD hS => ?_)
  have hP : va_P D vwCl (wO ad cI cZ cJ oa (u1, (if cd = 0 then vp_updL x 0 r.toInt64 else x)) ++ wB bd cI cZ v1) H := hP
  have hD : va_D (gl_A s) (wO ad cI cZ cJ oa (u1, (if cd = 0 then vp_updL x 0 r.toInt64 else x)) ++ wB bd cI cZ v1) := hD
  refine lv_iload hx hb dL_law_583 (lv_at hl 1 rfl) ?_
  refine lv_icmp_eq (tgt := 590) hx hb dL_law_585 (by decide) (fun hc => ?_) (fun hc => absurd ht hc)
  refine lv_iload hx hb dL_law_590 (lv_at hl 1 rfl) ?_
  refine lv_if_ne (tgt := 607) hx hb dL_law_592 (by decide) (fun hc => ?_) (fun hc => ?_)
  · refine lv_goto (tgt := 1087) hx hb dL_law_607 (by decide) ?_
    exact kk _ H locs ls hP hD hS (lv_sub hl [2, 3, 4, 5, 6] rfl)
  · have h0 : cd = 0 := by rcases hcd with rfl | rfl <;> first | rfl | (exact absurd hc (by decide))
    subst h0
    have hP : va_P D vwCl (wO ad cI cZ cJ oa (u1, vp_updL x 0 r.toInt64) ++ wB bd cI cZ v1) H := hP
    have hD : va_D (gl_A s) (wO ad cI cZ cJ oa (u1, vp_updL x 0 r.toInt64) ++ wB bd cI cZ v1) := hD
    refine lv_aload_n hx hb dL_law_595 rfl (lv_at hl 5 rfl) ?_
    refine lv_iconst (v := (0 : Int32)) hx hb dL_law_596 (by decide) ?_
    refine va_lald (f := vp_updL x 0 r.toInt64) hx hb hK (gy_P hP) 32 2 rfl rfl gy_in0 dL_law_597 ?_
    refine W.eq (g2 := F0 m 598 ls [.long r.toInt64]) rfl ?_
    refine lv_iload hx hb dL_law_598 (lv_at hl 0 rfl) ?_
    refine lv_i2l (v := b1.toInt64) hx hb dL_law_600 rfl ?_
    refine W.lcmp hx hb dL_law_601 ?_
    refine lv_if_eq (tgt := 607) hx hb dL_law_602 (by decide) (fun hc => ?_) (fun hc => absurd (by rw [ho rfl]; exact gz_cmp _) hc)
    refine lv_goto (tgt := 1087) hx hb dL_law_607 (by decide) ?_
    exact kk _ H locs ls hP hD hS (lv_sub hl [2, 3, 4, 5, 6] rfl)
set_option maxHeartbeats 4000000 in
set_option maxRecDepth 100000 in
theorem lw_cut {p : Program} {l : Launch} {e : Env} {s : State} {m : MethodId} {below : List Frame} {meth : Method} {c : Code} {b L : Nat} {xs : Nat → Int32} {D : va_G} {cI cZ cJ : ClassId} {ad bd : Nat → Nat} {oa : Nat} (hC : gl_C p l s m meth c b L xs D cI cZ cJ) (N : Nat) (x4 : Int32) (hi1 : vp_in (x4 + (1 : Int32)) L) (hi2 : vp_in (x4 + (2 : Int32)) L) {u : StA} {x : Nat → Int64} {v : StB} (cd : Nat) (r : Int32) (u1 : StA) (hA1 : f_A_cut u (xs (x4 + (1 : Int32)).toNatClampNeg) (if (xs (x4 + (2 : Int32)).toNatClampNeg) = (0 : Int32) then (0 : Int32) else (1 : Int32)) = some ((cd, r), u1)) (hcd : cd = 0 ∨ cd = 1 ∨ cd = 3) (v1 : StB) (hB1 : f_B_cut N v (xs (x4 + (1 : Int32)).toNatClampNeg) (if (xs (x4 + (2 : Int32)).toNatClampNeg) = (0 : Int32) then (0 : Int32) else (1 : Int32)) = some v1) (ht : (v1.1 0) = kL_cut cd) {cells slots : Nat} {Q : State → Prop} (hcl : cells + 1 ≤ 1112) (hsl : slots + 6 ≤ 19541) {H : Heap} {locs : List Loc} {ls : Array Slot} (hP : va_P D vwCl (wO ad cI cZ cJ oa (u, x) ++ wB bd cI cZ v) H) (hD : va_D (gl_A s) (wO ad cI cZ cJ oa (u, x) ++ wB bd cI cZ v)) (hS : va_S (gl_A s) s.heap H locs) (hl : lv_has ls 7 [(0, .ref b), (1, .ref (ad 0)), (2, .ref (bd 0)), (3, .ref oa), (4, .int x4)]) (kk : ∀ (x1 : Nat → Int64) (H : Heap) (locs : List Loc) (ls : Array Slot), va_P D vwCl (wO ad cI cZ cJ oa (u1, x1) ++ wB bd cI cZ v1) H → va_D (gl_A s) (wO ad cI cZ cJ oa (u1, x1) ++ wB bd cI cZ v1) → va_S (gl_A s) s.heap H locs → lv_has ls 7 [(0, .ref b), (1, .ref (ad 0)), (2, .ref (bd 0)), (3, .ref oa), (4, .int x4)] → W p l e room_1 s m #[Value.ref b] below meth c H locs (cells + 1) (slots + 6) Q (F0 m 1087 ls [])) : W p l e room_1 s m #[Value.ref b] below meth c H locs cells slots Q (F0 m 610 ls []) := by
  obtain ⟨hx, hb, hr, hml, hG, hown, hlocks, hK, hX, hbl, hst, hE⟩ := id hC
  have hA : ∀ q : Nat, s.heap.size ≤ q → gl_A s q := fun _ h => h
  have hbA : ¬ gl_A s b := Nat.not_le.mpr hbl
  have hKB : va_K D vwCl (tB cI cZ) s := hK.sub [0, 1] rfl
  refine lv_aload_n hx hb dL_law_610 rfl (lv_at hl 1 rfl) ?_
  refine lv_aload_n hx hb dL_law_611 rfl (lv_at hl 0 rfl) ?_
  refine lv_iload hx hb dL_law_612 (lv_at hl 4 rfl) ?_
  refine lv_iconst (v := (1 : Int32)) hx hb dL_law_614 (by decide) ?_
  refine lv_iadd hx hb dL_law_615 ?_
  refine va_sld hx hb hX hbl hbA hS hi1 dL_law_616 ?_
  refine lv_aload_n hx hb dL_law_617 rfl (lv_at hl 0 rfl) ?_
  refine lv_iload hx hb dL_law_618 (lv_at hl 4 rfl) ?_
  refine lv_iconst (v := (2 : Int32)) hx hb dL_law_620 (by decide) ?_
  refine lv_iadd hx hb dL_law_621 ?_
  refine va_sld hx hb hX hbl hbA hS hi2 dL_law_622 ?_
  refine gz_bool hx hb dL_law_623 dL_law_626 dL_law_627 dL_law_630 ?_
  refine gz_callW (w := wO ad cI cZ cJ oa) (Y := wB bd cI cZ v) (As := [.ref (ad 0), .int (xs (x4 + (1 : Int32)).toNatClampNeg), .int (if (xs (x4 + (2 : Int32)).toNatClampNeg) = (0 : Int32) then (0 : Int32) else (1 : Int32))]) (rest := []) (u := (u, x)) (u' := (u1, x)) hx hb hml hown hG (c_L_cut l hst D ad cI cZ cJ oa u x (xs (x4 + (1 : Int32)).toNatClampNeg) (if (xs (x4 + (2 : Int32)).toNatClampNeg) = (0 : Int32) then (0 : Int32) else (1 : Int32)) cd r u1 hA1 hcd) lz_L_100 rfl rfl ⟨Nat.le_of_ble_eq_true rfl, Nat.le_of_ble_eq_true rfl⟩ hK hE hP hD hS hA rfl hl.1 rfl (Nat.le_of_ble_eq_true rfl) dL_law_631 ⟨hcl, hsl⟩ (fun H locs hP hD hS => ?_)
  refine lv_istore (lv' := [(5, .int (kL_cut cd)), (0, .ref b), (1, .ref (ad 0)), (2, .ref (bd 0)), (3, .ref oa), (4, .int x4)]) hx hb dL_law_634 hl (by decide) rfl (fun ls hl => ?_)
  refine lv_aload_n hx hb dL_law_636 rfl (lv_at hl 3 rfl) ?_
  refine lv_aload_n hx hb dL_law_637 rfl (lv_at hl 1 rfl) ?_
  refine lv_iload hx hb dL_law_638 (lv_at hl 5 rfl) ?_
  refine lv_iconst (v := (1 : Int32)) hx hb dL_law_640 (by decide) ?_
  refine lv_iadd hx hb dL_law_641 ?_
  refine va_sld hx hb hX hbl hbA hS hi1 dL_law_642 ?_
  refine lv_aload_n hx hb dL_law_643 rfl (lv_at hl 1 rfl) ?_
  refine lv_iload hx hb dL_law_644 (lv_at hl 5 rfl) ?_
  refine lv_iconst (v := (2 : Int32)) hx hb dL_law_646 (by decide) ?_
  refine lv_iadd hx hb dL_law_647 ?_
  refine va_sld hx hb hX hbl hbA hS hi2 dL_law_648 ?_
  refine gz_bool hx hb dL_law_649 dL_law_652 dL_law_653 dL_law_656 ?_
  refine gz_callR (w := wB bd cI cZ) (Y := wO ad cI cZ cJ oa (u1, x)) (As := [.int (xs (x4 + (1 : Int32)).toNatClampNeg), .int (if (xs (x4 + (2 : Int32)).toNatClampNeg) = (0 : Int32) then (0 : Int32) else (1 : Int32))]) (rest := []) (u := v) (u' := v1) hx hb hml hown hG (c_B_cut l D bd cI cZ N v (xs (x4 + (1 : Int32)).toNatClampNeg) (if (xs (x4 + (2 : Int32)).toNatClampNeg) = (0 : Int32) then (0 : Int32) else (1 : Int32)) v1 hB1) lz_L_103 rfl rfl ⟨Nat.le_of_ble_eq_true rfl, Nat.le_of_ble_eq_true rfl⟩ (va_recv hKB (gy_PR hP) (ci := 6) (q0 := 0) rfl rfl) hKB hP hD hS hA rfl hl.1 rfl (Nat.le_of_ble_eq_true rfl) dL_law_657 ⟨hcl, hsl⟩ (fun H locs hP hD hS => ?_)
  have hP : va_P D vwCl (wO ad cI cZ cJ oa (u1, x) ++ wB bd cI cZ v1) H := hP
  have hD : va_D (gl_A s) (wO ad cI cZ cJ oa (u1, x) ++ wB bd cI cZ v1) := hD
  refine lv_aload_n hx hb dL_law_660 rfl (lv_at hl 3 rfl) ?_
  refine gz_callR (w := wB bd cI cZ) (Y := wO ad cI cZ cJ oa (u1, x)) (As := []) (rest := []) (u := v1) (u' := v1) hx hb hml hown hG (c_B_thrown l D bd cI cZ v1 _ rfl) lz_L_77 rfl rfl ⟨Nat.le_of_ble_eq_true rfl, Nat.le_of_ble_eq_true rfl⟩ (va_recv hKB (gy_PR hP) (ci := 6) (q0 := 0) rfl rfl) hKB hP hD hS hA rfl hl.1 rfl (Nat.le_of_ble_eq_true rfl) dL_law_661 ⟨hcl, hsl⟩ (fun H locs hP hD hS => ?_)
  have hP : va_P D vwCl (wO ad cI cZ cJ oa (u1, x) ++ wB bd cI cZ v1) H := hP
  have hD : va_D (gl_A s) (wO ad cI cZ cJ oa (u1, x) ++ wB bd cI cZ v1) := hD
  refine lv_iload hx hb dL_law_664 (lv_at hl 0 rfl) ?_
  refine lv_icmp_eq (tgt := 671) hx hb dL_law_666 (by decide) (fun hc => ?_) (fun hc => absurd ht hc)
  refine lv_goto (tgt := 1087) hx hb dL_law_671 (by decide) ?_
  exact kk _ H locs ls hP hD hS (lv_sub hl [1, 2, 3, 4, 5] rfl)
set_option maxHeartbeats 4000000 in
set_option maxRecDepth 100000 in
theorem lw_end {p : Program} {l : Launch} {e : Env} {s : State} {m : MethodId} {below : List Frame} {meth : Method} {c : Code} {b L : Nat} {xs : Nat → Int32} {D : va_G} {cI cZ cJ : ClassId} {ad bd : Nat → Nat} {oa : Nat} (hC : gl_C p l s m meth c b L xs D cI cZ cJ) (N : Nat) (x4 : Int32) (hi1 : vp_in (x4 + (1 : Int32)) L) {u : StA} {x : Nat → Int64} {v : StB} (cd : Nat) (r : Int32) (u1 : StA) (hA1 : f_A_end u (xs (x4 + (1 : Int32)).toNatClampNeg) = some ((cd, r), u1)) (hcd : cd = 0 ∨ cd = 1 ∨ cd = 3) (v1 : StB) (hB1 : f_B_end N v (xs (x4 + (1 : Int32)).toNatClampNeg) = some v1) (ht : (v1.1 0) = kL_end cd) {cells slots : Nat} {Q : State → Prop} (hcl : cells + 1 ≤ 1112) (hsl : slots + 6 ≤ 19541) {H : Heap} {locs : List Loc} {ls : Array Slot} (hP : va_P D vwCl (wO ad cI cZ cJ oa (u, x) ++ wB bd cI cZ v) H) (hD : va_D (gl_A s) (wO ad cI cZ cJ oa (u, x) ++ wB bd cI cZ v)) (hS : va_S (gl_A s) s.heap H locs) (hl : lv_has ls 7 [(0, .ref b), (1, .ref (ad 0)), (2, .ref (bd 0)), (3, .ref oa), (4, .int x4)]) (kk : ∀ (x1 : Nat → Int64) (H : Heap) (locs : List Loc) (ls : Array Slot), va_P D vwCl (wO ad cI cZ cJ oa (u1, x1) ++ wB bd cI cZ v1) H → va_D (gl_A s) (wO ad cI cZ cJ oa (u1, x1) ++ wB bd cI cZ v1) → va_S (gl_A s) s.heap H locs → lv_has ls 7 [(0, .ref b), (1, .ref (ad 0)), (2, .ref (bd 0)), (3, .ref oa), (4, .int x4)] → W p l e room_1 s m #[Value.ref b] below meth c H locs (cells + 1) (slots + 6) Q (F0 m 1087 ls [])) : W p l e room_1 s m #[Value.ref b] below meth c H locs cells slots Q (F0 m 674 ls []) := by
  obtain ⟨hx, hb, hr, hml, hG, hown, hlocks, hK, hX, hbl, hst, hE⟩ := id hC
  have hA : ∀ q : Nat, s.heap.size ≤ q → gl_A s q := fun _ h => h
  have hbA : ¬ gl_A s b := Nat.not_le.mpr hbl
  have hKB : va_K D vwCl (tB cI cZ) s := hK.sub [0, 1] rfl
  refine lv_aload_n hx hb dL_law_674 rfl (lv_at hl 1 rfl) ?_
  refine lv_aload_n hx hb dL_law_675 rfl (lv_at hl 0 rfl) ?_
  refine lv_iload hx hb dL_law_676 (lv_at hl 4 rfl) ?_
  refine lv_iconst (v := (1 : Int32)) hx hb dL_law_678 (by decide) ?_
  refine lv_iadd hx hb dL_law_679 ?_
  refine va_sld hx hb hX hbl hbA hS hi1 dL_law_680 ?_
  refine gz_callW (w := wO ad cI cZ cJ oa) (Y := wB bd cI cZ v) (As := [.ref (ad 0), .int (xs (x4 + (1 : Int32)).toNatClampNeg)]) (rest := []) (u := (u, x)) (u' := (u1, x)) hx hb hml hown hG (c_L_end l hst D ad cI cZ cJ oa u x (xs (x4 + (1 : Int32)).toNatClampNeg) cd r u1 hA1 hcd) lz_L_104 rfl rfl ⟨Nat.le_of_ble_eq_true rfl, Nat.le_of_ble_eq_true rfl⟩ hK hE hP hD hS hA rfl hl.1 rfl (Nat.le_of_ble_eq_true rfl) dL_law_681 ⟨hcl, hsl⟩ (fun H locs hP hD hS => ?_)
  refine lv_istore (lv' := [(5, .int (kL_end cd)), (0, .ref b), (1, .ref (ad 0)), (2, .ref (bd 0)), (3, .ref oa), (4, .int x4)]) hx hb dL_law_684 hl (by decide) rfl (fun ls hl => ?_)
  refine lv_aload_n hx hb dL_law_686 rfl (lv_at hl 3 rfl) ?_
  refine lv_aload_n hx hb dL_law_687 rfl (lv_at hl 1 rfl) ?_
  refine lv_iload hx hb dL_law_688 (lv_at hl 5 rfl) ?_
  refine lv_iconst (v := (1 : Int32)) hx hb dL_law_690 (by decide) ?_
  refine lv_iadd hx hb dL_law_691 ?_
  refine va_sld hx hb hX hbl hbA hS hi1 dL_law_692 ?_
  refine gz_callR (w := wB bd cI cZ) (Y := wO ad cI cZ cJ oa (u1, x)) (As := [.int (xs (x4 + (1 : Int32)).toNatClampNeg)]) (rest := []) (u := v) (u' := v1) hx hb hml hown hG (c_B_end l D bd cI cZ N v (xs (x4 + (1 : Int32)).toNatClampNeg) v1 hB1) lz_L_107 rfl rfl ⟨Nat.le_of_ble_eq_true rfl, Nat.le_of_ble_eq_true rfl⟩ (va_recv hKB (gy_PR hP) (ci := 6) (q0 := 0) rfl rfl) hKB hP hD hS hA rfl hl.1 rfl (Nat.le_of_ble_eq_true rfl) dL_law_693 ⟨hcl, hsl⟩ (fun H locs hP hD hS => ?_)
  have hP : va_P D vwCl (wO ad cI cZ cJ oa (u1, x) ++ wB bd cI cZ v1) H := hP
  have hD : va_D (gl_A s) (wO ad cI cZ cJ oa (u1, x) ++ wB bd cI cZ v1) := hD
  refine lv_aload_n hx hb dL_law_696 rfl (lv_at hl 3 rfl) ?_
  refine gz_callR (w := wB bd cI cZ) (Y := wO ad cI cZ cJ oa (u1, x)) (As := []) (rest := []) (u := v1) (u' := v1) hx hb hml hown hG (c_B_thrown l D bd cI cZ v1 _ rfl) lz_L_77 rfl rfl ⟨Nat.le_of_ble_eq_true rfl, Nat.le_of_ble_eq_true rfl⟩ (va_recv hKB (gy_PR hP) (ci := 6) (q0 := 0) rfl rfl) hKB hP hD hS hA rfl hl.1 rfl (Nat.le_of_ble_eq_true rfl) dL_law_697 ⟨hcl, hsl⟩ (fun H locs hP hD hS => ?_)
  have hP : va_P D vwCl (wO ad cI cZ cJ oa (u1, x) ++ wB bd cI cZ v1) H := hP
  have hD : va_D (gl_A s) (wO ad cI cZ cJ oa (u1, x) ++ wB bd cI cZ v1) := hD
  refine lv_iload hx hb dL_law_700 (lv_at hl 0 rfl) ?_
  refine lv_icmp_eq (tgt := 707) hx hb dL_law_702 (by decide) (fun hc => ?_) (fun hc => absurd ht hc)
  refine lv_goto (tgt := 1087) hx hb dL_law_707 (by decide) ?_
  exact kk _ H locs ls hP hD hS (lv_sub hl [1, 2, 3, 4, 5] rfl)
set_option maxHeartbeats 4000000 in
set_option maxRecDepth 100000 in
theorem lw_askAt {p : Program} {l : Launch} {e : Env} {s : State} {m : MethodId} {below : List Frame} {meth : Method} {c : Code} {b L : Nat} {xs : Nat → Int32} {D : va_G} {cI cZ cJ : ClassId} {ad bd : Nat → Nat} {oa : Nat} (hC : gl_C p l s m meth c b L xs D cI cZ cJ) (N : Nat) (x4 : Int32) (hi1 : vp_in (x4 + (1 : Int32)) L) (hi2 : vp_in (x4 + (2 : Int32)) L) {u : StA} {x : Nat → Int64} {v : StB} (cd : Nat) (r : Int32) (u1 : StA) (hA1 : f_A_askAt u (xs (x4 + (1 : Int32)).toNatClampNeg) (xs (x4 + (2 : Int32)).toNatClampNeg) = some ((cd, r), u1)) (hcd : cd = 0 ∨ cd = 1) (b1 : Int32) (v1 : StB) (hB1 : f_B_askAt N v (xs (x4 + (1 : Int32)).toNatClampNeg) (xs (x4 + (2 : Int32)).toNatClampNeg) = some (b1, v1)) (ht : (v1.1 0) = kL_askAt cd) (ho : cd = 0 → r = b1) {cells slots : Nat} {Q : State → Prop} (hcl : cells + 1 ≤ 1112) (hsl : slots + 6 ≤ 19541) {H : Heap} {locs : List Loc} {ls : Array Slot} (hP : va_P D vwCl (wO ad cI cZ cJ oa (u, x) ++ wB bd cI cZ v) H) (hD : va_D (gl_A s) (wO ad cI cZ cJ oa (u, x) ++ wB bd cI cZ v)) (hS : va_S (gl_A s) s.heap H locs) (hl : lv_has ls 7 [(0, .ref b), (1, .ref (ad 0)), (2, .ref (bd 0)), (3, .ref oa), (4, .int x4)]) (kk : ∀ (x1 : Nat → Int64) (H : Heap) (locs : List Loc) (ls : Array Slot), va_P D vwCl (wO ad cI cZ cJ oa (u1, x1) ++ wB bd cI cZ v1) H → va_D (gl_A s) (wO ad cI cZ cJ oa (u1, x1) ++ wB bd cI cZ v1) → va_S (gl_A s) s.heap H locs → lv_has ls 7 [(0, .ref b), (1, .ref (ad 0)), (2, .ref (bd 0)), (3, .ref oa), (4, .int x4)] → W p l e room_1 s m #[Value.ref b] below meth c H locs (cells + 1) (slots + 6) Q (F0 m 1087 ls [])) : W p l e room_1 s m #[Value.ref b] below meth c H locs cells slots Q (F0 m 710 ls []) := by
  obtain ⟨hx, hb, hr, hml, hG, hown, hlocks, hK, hX, hbl, hst, hE⟩ := id hC
  have hA : ∀ q : Nat, s.heap.size ≤ q → gl_A s q := fun _ h => h
  have hbA : ¬ gl_A s b := Nat.not_le.mpr hbl
  have hKB : va_K D vwCl (tB cI cZ) s := hK.sub [0, 1] rfl
  refine lv_aload_n hx hb dL_law_710 rfl (lv_at hl 1 rfl) ?_
  refine lv_aload_n hx hb dL_law_711 rfl (lv_at hl 0 rfl) ?_
  refine lv_iload hx hb dL_law_712 (lv_at hl 4 rfl) ?_
  refine lv_iconst (v := (1 : Int32)) hx hb dL_law_714 (by decide) ?_
  refine lv_iadd hx hb dL_law_715 ?_
  refine va_sld hx hb hX hbl hbA hS hi1 dL_law_716 ?_
  refine lv_aload_n hx hb dL_law_717 rfl (lv_at hl 0 rfl) ?_
  refine lv_iload hx hb dL_law_718 (lv_at hl 4 rfl) ?_
  refine lv_iconst (v := (2 : Int32)) hx hb dL_law_720 (by decide) ?_
  refine lv_iadd hx hb dL_law_721 ?_
  refine va_sld hx hb hX hbl hbA hS hi2 dL_law_722 ?_
  refine lv_aload_n hx hb dL_law_723 rfl (lv_at hl 3 rfl) ?_
  refine gz_callW (w := wO ad cI cZ cJ oa) (Y := wB bd cI cZ v) (As := [.ref (ad 0), .int (xs (x4 + (1 : Int32)).toNatClampNeg), .int (xs (x4 + (2 : Int32)).toNatClampNeg), .ref oa]) (rest := []) (u := (u, x)) (u' := (u1, (if cd = 0 then vp_updL x 0 r.toInt64 else x))) hx hb hml hown hG (c_L_askAt l hst D ad cI cZ cJ oa u x (xs (x4 + (1 : Int32)).toNatClampNeg) (xs (x4 + (2 : Int32)).toNatClampNeg) cd r u1 hA1 hcd) lz_L_108 rfl rfl ⟨Nat.le_of_ble_eq_true rfl, Nat.le_of_ble_eq_true rfl⟩ hK hE hP hD hS hA rfl hl.1 rfl (Nat.le_of_ble_eq_true rfl) dL_law_724 ⟨hcl, hsl⟩ (fun H locs hP hD hS => ?_)
  refine lv_istore (lv' := [(5, .int (kL_askAt cd)), (0, .ref b), (1, .ref (ad 0)), (2, .ref (bd 0)), (3, .ref oa), (4, .int x4)]) hx hb dL_law_727 hl (by decide) rfl (fun ls hl => ?_)
  refine lv_aload_n hx hb dL_law_729 rfl (lv_at hl 3 rfl) ?_
  refine lv_aload_n hx hb dL_law_730 rfl (lv_at hl 1 rfl) ?_
  refine lv_iload hx hb dL_law_731 (lv_at hl 5 rfl) ?_
  refine lv_iconst (v := (1 : Int32)) hx hb dL_law_733 (by decide) ?_
  refine lv_iadd hx hb dL_law_734 ?_
  refine va_sld hx hb hX hbl hbA hS hi1 dL_law_735 ?_
  refine lv_aload_n hx hb dL_law_736 rfl (lv_at hl 1 rfl) ?_
  refine lv_iload hx hb dL_law_737 (lv_at hl 5 rfl) ?_
  refine lv_iconst (v := (2 : Int32)) hx hb dL_law_739 (by decide) ?_
  refine lv_iadd hx hb dL_law_740 ?_
  refine va_sld hx hb hX hbl hbA hS hi2 dL_law_741 ?_
  refine gz_callR (w := wB bd cI cZ) (Y := wO ad cI cZ cJ oa (u1, (if cd = 0 then vp_updL x 0 r.toInt64 else x))) (As := [.int (xs (x4 + (1 : Int32)).toNatClampNeg), .int (xs (x4 + (2 : Int32)).toNatClampNeg)]) (rest := []) (u := v) (u' := v1) hx hb hml hown hG (c_B_askAt l D bd cI cZ N v (xs (x4 + (1 : Int32)).toNatClampNeg) (xs (x4 + (2 : Int32)).toNatClampNeg) b1 v1 hB1) lz_L_110 rfl rfl ⟨Nat.le_of_ble_eq_true rfl, Nat.le_of_ble_eq_true rfl⟩ (va_recv hKB (gy_PR hP) (ci := 6) (q0 := 0) rfl rfl) hKB hP hD hS hA rfl hl.1 rfl (Nat.le_of_ble_eq_true rfl) dL_law_742 ⟨hcl, hsl⟩ (fun H locs hP hD hS => ?_)
  have hP : va_P D vwCl (wO ad cI cZ cJ oa (u1, (if cd = 0 then vp_updL x 0 r.toInt64 else x)) ++ wB bd cI cZ v1) H := hP
  have hD : va_D (gl_A s) (wO ad cI cZ cJ oa (u1, (if cd = 0 then vp_updL x 0 r.toInt64 else x)) ++ wB bd cI cZ v1) := hD
  refine lv_istore (lv' := [(6, .int b1), (5, .int (kL_askAt cd)), (0, .ref b), (1, .ref (ad 0)), (2, .ref (bd 0)), (3, .ref oa), (4, .int x4)]) hx hb dL_law_745 hl (by decide) rfl (fun ls hl => ?_)
  refine lv_aload_n hx hb dL_law_747 rfl (lv_at hl 4 rfl) ?_
  refine gz_callR (w := wB bd cI cZ) (Y := wO ad cI cZ cJ oa (u1, (if cd = 0 then vp_updL x 0 r.toInt64 else x))) (As := []) (rest := []) (u := v1) (u' := v1) hx hb hml hown hG (c_B_thrown l D bd cI cZ v1 _ rfl) lz_L_77 rfl rfl ⟨Nat.le_of_ble_eq_true rfl, Nat.le_of_ble_eq_true rfl⟩ (va_recv hKB (gy_PR hP) (ci := 6) (q0 := 0) rfl rfl) hKB hP hD hS hA rfl hl.1 rfl (Nat.le_of_ble_eq_true rfl) dL_law_748 ⟨hcl, hsl⟩ (fun H locs hP hD hS => ?_)
  have hP : va_P D vwCl (wO ad cI cZ cJ oa (u1, (if cd = 0 then vp_updL x 0 r.toInt64 else x)) ++ wB bd cI cZ v1) H := hP
  have hD : va_D (gl_A s) (wO ad cI cZ cJ oa (u1, (if cd = 0 then vp_updL x 0 r.toInt64 else x)) ++ wB bd cI cZ v1) := hD
  refine lv_iload hx hb dL_law_751 (lv_at hl 1 rfl) ?_
  refine lv_icmp_eq (tgt := 758) hx hb dL_law_753 (by decide) (fun hc => ?_) (fun hc => absurd ht hc)
  refine lv_iload hx hb dL_law_758 (lv_at hl 1 rfl) ?_
  refine lv_if_ne (tgt := 775) hx hb dL_law_760 (by decide) (fun hc => ?_) (fun hc => ?_)
  · refine lv_goto (tgt := 1087) hx hb dL_law_775 (by decide) ?_
    exact kk _ H locs ls hP hD hS (lv_sub hl [2, 3, 4, 5, 6] rfl)
  · have h0 : cd = 0 := by rcases hcd with rfl | rfl <;> first | rfl | (exact absurd hc (by decide))
    subst h0
    have hP : va_P D vwCl (wO ad cI cZ cJ oa (u1, vp_updL x 0 r.toInt64) ++ wB bd cI cZ v1) H := hP
    have hD : va_D (gl_A s) (wO ad cI cZ cJ oa (u1, vp_updL x 0 r.toInt64) ++ wB bd cI cZ v1) := hD
    refine lv_aload_n hx hb dL_law_763 rfl (lv_at hl 5 rfl) ?_
    refine lv_iconst (v := (0 : Int32)) hx hb dL_law_764 (by decide) ?_
    refine va_lald (f := vp_updL x 0 r.toInt64) hx hb hK (gy_P hP) 32 2 rfl rfl gy_in0 dL_law_765 ?_
    refine W.eq (g2 := F0 m 766 ls [.long r.toInt64]) rfl ?_
    refine lv_iload hx hb dL_law_766 (lv_at hl 0 rfl) ?_
    refine lv_i2l (v := b1.toInt64) hx hb dL_law_768 rfl ?_
    refine W.lcmp hx hb dL_law_769 ?_
    refine lv_if_eq (tgt := 775) hx hb dL_law_770 (by decide) (fun hc => ?_) (fun hc => absurd (by rw [ho rfl]; exact gz_cmp _) hc)
    refine lv_goto (tgt := 1087) hx hb dL_law_775 (by decide) ?_
    exact kk _ H locs ls hP hD hS (lv_sub hl [2, 3, 4, 5, 6] rfl)
set_option maxHeartbeats 4000000 in
set_option maxRecDepth 100000 in
theorem lw_loanAt {p : Program} {l : Launch} {e : Env} {s : State} {m : MethodId} {below : List Frame} {meth : Method} {c : Code} {b L : Nat} {xs : Nat → Int32} {D : va_G} {cI cZ cJ : ClassId} {ad bd : Nat → Nat} {oa : Nat} (hC : gl_C p l s m meth c b L xs D cI cZ cJ) (N : Nat) (x4 : Int32) (hi1 : vp_in (x4 + (1 : Int32)) L) (hi2 : vp_in (x4 + (2 : Int32)) L) {u : StA} {x : Nat → Int64} {v : StB} (cd : Nat) (r : Int32) (u1 : StA) (hA1 : f_A_loanAt u (xs (x4 + (1 : Int32)).toNatClampNeg) (xs (x4 + (2 : Int32)).toNatClampNeg) = some ((cd, r), u1)) (hcd : cd = 0 ∨ cd = 1) (b1 : Int32) (v1 : StB) (hB1 : f_B_loanAt N v (xs (x4 + (1 : Int32)).toNatClampNeg) (xs (x4 + (2 : Int32)).toNatClampNeg) = some (b1, v1)) (ht : (v1.1 0) = kL_loanAt cd) (ho : cd = 0 → r = b1) {cells slots : Nat} {Q : State → Prop} (hcl : cells + 1 ≤ 1112) (hsl : slots + 6 ≤ 19541) {H : Heap} {locs : List Loc} {ls : Array Slot} (hP : va_P D vwCl (wO ad cI cZ cJ oa (u, x) ++ wB bd cI cZ v) H) (hD : va_D (gl_A s) (wO ad cI cZ cJ oa (u, x) ++ wB bd cI cZ v)) (hS : va_S (gl_A s) s.heap H locs) (hl : lv_has ls 7 [(0, .ref b), (1, .ref (ad 0)), (2, .ref (bd 0)), (3, .ref oa), (4, .int x4)]) (kk : ∀ (x1 : Nat → Int64) (H : Heap) (locs : List Loc) (ls : Array Slot), va_P D vwCl (wO ad cI cZ cJ oa (u1, x1) ++ wB bd cI cZ v1) H → va_D (gl_A s) (wO ad cI cZ cJ oa (u1, x1) ++ wB bd cI cZ v1) → va_S (gl_A s) s.heap H locs → lv_has ls 7 [(0, .ref b), (1, .ref (ad 0)), (2, .ref (bd 0)), (3, .ref oa), (4, .int x4)] → W p l e room_1 s m #[Value.ref b] below meth c H locs (cells + 1) (slots + 6) Q (F0 m 1087 ls [])) : W p l e room_1 s m #[Value.ref b] below meth c H locs cells slots Q (F0 m 778 ls []) := by
  obtain ⟨hx, hb, hr, hml, hG, hown, hlocks, hK, hX, hbl, hst, hE⟩ := id hC
  have hA : ∀ q : Nat, s.heap.size ≤ q → gl_A s q := fun _ h => h
  have hbA : ¬ gl_A s b := Nat.not_le.mpr hbl
  have hKB : va_K D vwCl (tB cI cZ) s := hK.sub [0, 1] rfl
  refine lv_aload_n hx hb dL_law_778 rfl (lv_at hl 1 rfl) ?_
  refine lv_aload_n hx hb dL_law_779 rfl (lv_at hl 0 rfl) ?_
  refine lv_iload hx hb dL_law_780 (lv_at hl 4 rfl) ?_
  refine lv_iconst (v := (1 : Int32)) hx hb dL_law_782 (by decide) ?_
  refine lv_iadd hx hb dL_law_783 ?_
  refine va_sld hx hb hX hbl hbA hS hi1 dL_law_784 ?_
  refine lv_aload_n hx hb dL_law_785 rfl (lv_at hl 0 rfl) ?_
  refine lv_iload hx hb dL_law_786 (lv_at hl 4 rfl) ?_
  refine lv_iconst (v := (2 : Int32)) hx hb dL_law_788 (by decide) ?_
  refine lv_iadd hx hb dL_law_789 ?_
  refine va_sld hx hb hX hbl hbA hS hi2 dL_law_790 ?_
  refine lv_aload_n hx hb dL_law_791 rfl (lv_at hl 3 rfl) ?_
  refine gz_callW (w := wO ad cI cZ cJ oa) (Y := wB bd cI cZ v) (As := [.ref (ad 0), .int (xs (x4 + (1 : Int32)).toNatClampNeg), .int (xs (x4 + (2 : Int32)).toNatClampNeg), .ref oa]) (rest := []) (u := (u, x)) (u' := (u1, (if cd = 0 then vp_updL x 0 r.toInt64 else x))) hx hb hml hown hG (c_L_loanAt l hst D ad cI cZ cJ oa u x (xs (x4 + (1 : Int32)).toNatClampNeg) (xs (x4 + (2 : Int32)).toNatClampNeg) cd r u1 hA1 hcd) lz_L_111 rfl rfl ⟨Nat.le_of_ble_eq_true rfl, Nat.le_of_ble_eq_true rfl⟩ hK hE hP hD hS hA rfl hl.1 rfl (Nat.le_of_ble_eq_true rfl) dL_law_792 ⟨hcl, hsl⟩ (fun H locs hP hD hS => ?_)
  refine lv_istore (lv' := [(5, .int (kL_loanAt cd)), (0, .ref b), (1, .ref (ad 0)), (2, .ref (bd 0)), (3, .ref oa), (4, .int x4)]) hx hb dL_law_795 hl (by decide) rfl (fun ls hl => ?_)
  refine lv_aload_n hx hb dL_law_797 rfl (lv_at hl 3 rfl) ?_
  refine lv_aload_n hx hb dL_law_798 rfl (lv_at hl 1 rfl) ?_
  refine lv_iload hx hb dL_law_799 (lv_at hl 5 rfl) ?_
  refine lv_iconst (v := (1 : Int32)) hx hb dL_law_801 (by decide) ?_
  refine lv_iadd hx hb dL_law_802 ?_
  refine va_sld hx hb hX hbl hbA hS hi1 dL_law_803 ?_
  refine lv_aload_n hx hb dL_law_804 rfl (lv_at hl 1 rfl) ?_
  refine lv_iload hx hb dL_law_805 (lv_at hl 5 rfl) ?_
  refine lv_iconst (v := (2 : Int32)) hx hb dL_law_807 (by decide) ?_
  refine lv_iadd hx hb dL_law_808 ?_
  refine va_sld hx hb hX hbl hbA hS hi2 dL_law_809 ?_
  refine gz_callR (w := wB bd cI cZ) (Y := wO ad cI cZ cJ oa (u1, (if cd = 0 then vp_updL x 0 r.toInt64 else x))) (As := [.int (xs (x4 + (1 : Int32)).toNatClampNeg), .int (xs (x4 + (2 : Int32)).toNatClampNeg)]) (rest := []) (u := v) (u' := v1) hx hb hml hown hG (c_B_loanAt l D bd cI cZ N v (xs (x4 + (1 : Int32)).toNatClampNeg) (xs (x4 + (2 : Int32)).toNatClampNeg) b1 v1 hB1) lz_L_113 rfl rfl ⟨Nat.le_of_ble_eq_true rfl, Nat.le_of_ble_eq_true rfl⟩ (va_recv hKB (gy_PR hP) (ci := 6) (q0 := 0) rfl rfl) hKB hP hD hS hA rfl hl.1 rfl (Nat.le_of_ble_eq_true rfl) dL_law_810 ⟨hcl, hsl⟩ (fun H locs hP hD hS => ?_)
  have hP : va_P D vwCl (wO ad cI cZ cJ oa (u1, (if cd = 0 then vp_updL x 0 r.toInt64 else x)) ++ wB bd cI cZ v1) H := hP
  have hD : va_D (gl_A s) (wO ad cI cZ cJ oa (u1, (if cd = 0 then vp_updL x 0 r.toInt64 else x)) ++ wB bd cI cZ v1) := hD
  refine lv_istore (lv' := [(6, .int b1), (5, .int (kL_loanAt cd)), (0, .ref b), (1, .ref (ad 0)), (2, .ref (bd 0)), (3, .ref oa), (4, .int x4)]) hx hb dL_law_813 hl (by decide) rfl (fun ls hl => ?_)
  refine lv_aload_n hx hb dL_law_815 rfl (lv_at hl 4 rfl) ?_
  refine gz_callR (w := wB bd cI cZ) (Y := wO ad cI cZ cJ oa (u1, (if cd = 0 then vp_updL x 0 r.toInt64 else x))) (As := []) (rest := []) (u := v1) (u' := v1) hx hb hml hown hG (c_B_thrown l D bd cI cZ v1 _ rfl) lz_L_77 rfl rfl ⟨Nat.le_of_ble_eq_true rfl, Nat.le_of_ble_eq_true rfl⟩ (va_recv hKB (gy_PR hP) (ci := 6) (q0 := 0) rfl rfl) hKB hP hD hS hA rfl hl.1 rfl (Nat.le_of_ble_eq_true rfl) dL_law_816 ⟨hcl, hsl⟩ (fun H locs hP hD hS => ?_)
  have hP : va_P D vwCl (wO ad cI cZ cJ oa (u1, (if cd = 0 then vp_updL x 0 r.toInt64 else x)) ++ wB bd cI cZ v1) H := hP
  have hD : va_D (gl_A s) (wO ad cI cZ cJ oa (u1, (if cd = 0 then vp_updL x 0 r.toInt64 else x)) ++ wB bd cI cZ v1) := hD
  refine lv_iload hx hb dL_law_819 (lv_at hl 1 rfl) ?_
  refine lv_icmp_eq (tgt := 826) hx hb dL_law_821 (by decide) (fun hc => ?_) (fun hc => absurd ht hc)
  refine lv_iload hx hb dL_law_826 (lv_at hl 1 rfl) ?_
  refine lv_if_ne (tgt := 843) hx hb dL_law_828 (by decide) (fun hc => ?_) (fun hc => ?_)
  · refine lv_goto (tgt := 1087) hx hb dL_law_843 (by decide) ?_
    exact kk _ H locs ls hP hD hS (lv_sub hl [2, 3, 4, 5, 6] rfl)
  · have h0 : cd = 0 := by rcases hcd with rfl | rfl <;> first | rfl | (exact absurd hc (by decide))
    subst h0
    have hP : va_P D vwCl (wO ad cI cZ cJ oa (u1, vp_updL x 0 r.toInt64) ++ wB bd cI cZ v1) H := hP
    have hD : va_D (gl_A s) (wO ad cI cZ cJ oa (u1, vp_updL x 0 r.toInt64) ++ wB bd cI cZ v1) := hD
    refine lv_aload_n hx hb dL_law_831 rfl (lv_at hl 5 rfl) ?_
    refine lv_iconst (v := (0 : Int32)) hx hb dL_law_832 (by decide) ?_
    refine va_lald (f := vp_updL x 0 r.toInt64) hx hb hK (gy_P hP) 32 2 rfl rfl gy_in0 dL_law_833 ?_
    refine W.eq (g2 := F0 m 834 ls [.long r.toInt64]) rfl ?_
    refine lv_iload hx hb dL_law_834 (lv_at hl 0 rfl) ?_
    refine lv_i2l (v := b1.toInt64) hx hb dL_law_836 rfl ?_
    refine W.lcmp hx hb dL_law_837 ?_
    refine lv_if_eq (tgt := 843) hx hb dL_law_838 (by decide) (fun hc => ?_) (fun hc => absurd (by rw [ho rfl]; exact gz_cmp _) hc)
    refine lv_goto (tgt := 1087) hx hb dL_law_843 (by decide) ?_
    exact kk _ H locs ls hP hD hS (lv_sub hl [2, 3, 4, 5, 6] rfl)
set_option maxHeartbeats 4000000 in
set_option maxRecDepth 100000 in
theorem lw_cost {p : Program} {l : Launch} {e : Env} {s : State} {m : MethodId} {below : List Frame} {meth : Method} {c : Code} {b L : Nat} {xs : Nat → Int32} {D : va_G} {cI cZ cJ : ClassId} {ad bd : Nat → Nat} {oa : Nat} (hC : gl_C p l s m meth c b L xs D cI cZ cJ) (N : Nat) (x4 : Int32) (hi1 : vp_in (x4 + (1 : Int32)) L) {u : StA} {x : Nat → Int64} {v : StB} (cd : Nat) (r : Int32) (u1 : StA) (hA1 : f_A_cost N u (xs (x4 + (1 : Int32)).toNatClampNeg) = some ((cd, r), u1)) (hcd : cd = 0 ∨ cd = 1) (b1 : Int32) (v1 : StB) (hB1 : f_B_cost N v (xs (x4 + (1 : Int32)).toNatClampNeg) = some (b1, v1)) (ht : (v1.1 0) = kL_cost cd) (ho : cd = 0 → r = b1) {cells slots : Nat} {Q : State → Prop} (hcl : cells + 1 ≤ 1112) (hsl : slots + 6 ≤ 19541) {H : Heap} {locs : List Loc} {ls : Array Slot} (hP : va_P D vwCl (wO ad cI cZ cJ oa (u, x) ++ wB bd cI cZ v) H) (hD : va_D (gl_A s) (wO ad cI cZ cJ oa (u, x) ++ wB bd cI cZ v)) (hS : va_S (gl_A s) s.heap H locs) (hl : lv_has ls 7 [(0, .ref b), (1, .ref (ad 0)), (2, .ref (bd 0)), (3, .ref oa), (4, .int x4)]) (kk : ∀ (x1 : Nat → Int64) (H : Heap) (locs : List Loc) (ls : Array Slot), va_P D vwCl (wO ad cI cZ cJ oa (u1, x1) ++ wB bd cI cZ v1) H → va_D (gl_A s) (wO ad cI cZ cJ oa (u1, x1) ++ wB bd cI cZ v1) → va_S (gl_A s) s.heap H locs → lv_has ls 7 [(0, .ref b), (1, .ref (ad 0)), (2, .ref (bd 0)), (3, .ref oa), (4, .int x4)] → W p l e room_1 s m #[Value.ref b] below meth c H locs (cells + 1) (slots + 6) Q (F0 m 1087 ls [])) : W p l e room_1 s m #[Value.ref b] below meth c H locs cells slots Q (F0 m 846 ls []) := by
  obtain ⟨hx, hb, hr, hml, hG, hown, hlocks, hK, hX, hbl, hst, hE⟩ := id hC
  have hA : ∀ q : Nat, s.heap.size ≤ q → gl_A s q := fun _ h => h
  have hbA : ¬ gl_A s b := Nat.not_le.mpr hbl
  have hKB : va_K D vwCl (tB cI cZ) s := hK.sub [0, 1] rfl
  refine lv_aload_n hx hb dL_law_846 rfl (lv_at hl 1 rfl) ?_
  refine lv_aload_n hx hb dL_law_847 rfl (lv_at hl 0 rfl) ?_
  refine lv_iload hx hb dL_law_848 (lv_at hl 4 rfl) ?_
  refine lv_iconst (v := (1 : Int32)) hx hb dL_law_850 (by decide) ?_
  refine lv_iadd hx hb dL_law_851 ?_
  refine va_sld hx hb hX hbl hbA hS hi1 dL_law_852 ?_
  refine lv_aload_n hx hb dL_law_853 rfl (lv_at hl 3 rfl) ?_
  refine gz_callW (w := wO ad cI cZ cJ oa) (Y := wB bd cI cZ v) (As := [.ref (ad 0), .int (xs (x4 + (1 : Int32)).toNatClampNeg), .ref oa]) (rest := []) (u := (u, x)) (u' := (u1, (if cd = 0 then vp_updL x 0 r.toInt64 else x))) hx hb hml hown hG (c_L_cost l hst D ad cI cZ cJ oa N u x (xs (x4 + (1 : Int32)).toNatClampNeg) cd r u1 hA1 hcd) lz_L_114 rfl rfl ⟨Nat.le_of_ble_eq_true rfl, Nat.le_of_ble_eq_true rfl⟩ hK hE hP hD hS hA rfl hl.1 rfl (Nat.le_of_ble_eq_true rfl) dL_law_854 ⟨hcl, hsl⟩ (fun H locs hP hD hS => ?_)
  refine lv_istore (lv' := [(5, .int (kL_cost cd)), (0, .ref b), (1, .ref (ad 0)), (2, .ref (bd 0)), (3, .ref oa), (4, .int x4)]) hx hb dL_law_857 hl (by decide) rfl (fun ls hl => ?_)
  refine lv_aload_n hx hb dL_law_859 rfl (lv_at hl 3 rfl) ?_
  refine lv_aload_n hx hb dL_law_860 rfl (lv_at hl 1 rfl) ?_
  refine lv_iload hx hb dL_law_861 (lv_at hl 5 rfl) ?_
  refine lv_iconst (v := (1 : Int32)) hx hb dL_law_863 (by decide) ?_
  refine lv_iadd hx hb dL_law_864 ?_
  refine va_sld hx hb hX hbl hbA hS hi1 dL_law_865 ?_
  refine gz_callR (w := wB bd cI cZ) (Y := wO ad cI cZ cJ oa (u1, (if cd = 0 then vp_updL x 0 r.toInt64 else x))) (As := [.int (xs (x4 + (1 : Int32)).toNatClampNeg)]) (rest := []) (u := v) (u' := v1) hx hb hml hown hG (c_B_cost l D bd cI cZ N v (xs (x4 + (1 : Int32)).toNatClampNeg) b1 v1 hB1) lz_L_116 rfl rfl ⟨Nat.le_of_ble_eq_true rfl, Nat.le_of_ble_eq_true rfl⟩ (va_recv hKB (gy_PR hP) (ci := 6) (q0 := 0) rfl rfl) hKB hP hD hS hA rfl hl.1 rfl (Nat.le_of_ble_eq_true rfl) dL_law_866 ⟨hcl, hsl⟩ (fun H locs hP hD hS => ?_)
  have hP : va_P D vwCl (wO ad cI cZ cJ oa (u1, (if cd = 0 then vp_updL x 0 r.toInt64 else x)) ++ wB bd cI cZ v1) H := hP
  have hD : va_D (gl_A s) (wO ad cI cZ cJ oa (u1, (if cd = 0 then vp_updL x 0 r.toInt64 else x)) ++ wB bd cI cZ v1) := hD
  refine lv_istore (lv' := [(6, .int b1), (5, .int (kL_cost cd)), (0, .ref b), (1, .ref (ad 0)), (2, .ref (bd 0)), (3, .ref oa), (4, .int x4)]) hx hb dL_law_869 hl (by decide) rfl (fun ls hl => ?_)
  refine lv_aload_n hx hb dL_law_871 rfl (lv_at hl 4 rfl) ?_
  refine gz_callR (w := wB bd cI cZ) (Y := wO ad cI cZ cJ oa (u1, (if cd = 0 then vp_updL x 0 r.toInt64 else x))) (As := []) (rest := []) (u := v1) (u' := v1) hx hb hml hown hG (c_B_thrown l D bd cI cZ v1 _ rfl) lz_L_77 rfl rfl ⟨Nat.le_of_ble_eq_true rfl, Nat.le_of_ble_eq_true rfl⟩ (va_recv hKB (gy_PR hP) (ci := 6) (q0 := 0) rfl rfl) hKB hP hD hS hA rfl hl.1 rfl (Nat.le_of_ble_eq_true rfl) dL_law_872 ⟨hcl, hsl⟩ (fun H locs hP hD hS => ?_)
  have hP : va_P D vwCl (wO ad cI cZ cJ oa (u1, (if cd = 0 then vp_updL x 0 r.toInt64 else x)) ++ wB bd cI cZ v1) H := hP
  have hD : va_D (gl_A s) (wO ad cI cZ cJ oa (u1, (if cd = 0 then vp_updL x 0 r.toInt64 else x)) ++ wB bd cI cZ v1) := hD
  refine lv_iload hx hb dL_law_875 (lv_at hl 1 rfl) ?_
  refine lv_icmp_eq (tgt := 882) hx hb dL_law_877 (by decide) (fun hc => ?_) (fun hc => absurd ht hc)
  refine lv_iload hx hb dL_law_882 (lv_at hl 1 rfl) ?_
  refine lv_if_ne (tgt := 899) hx hb dL_law_884 (by decide) (fun hc => ?_) (fun hc => ?_)
  · refine lv_goto (tgt := 1087) hx hb dL_law_899 (by decide) ?_
    exact kk _ H locs ls hP hD hS (lv_sub hl [2, 3, 4, 5, 6] rfl)
  · have h0 : cd = 0 := by rcases hcd with rfl | rfl <;> first | rfl | (exact absurd hc (by decide))
    subst h0
    have hP : va_P D vwCl (wO ad cI cZ cJ oa (u1, vp_updL x 0 r.toInt64) ++ wB bd cI cZ v1) H := hP
    have hD : va_D (gl_A s) (wO ad cI cZ cJ oa (u1, vp_updL x 0 r.toInt64) ++ wB bd cI cZ v1) := hD
    refine lv_aload_n hx hb dL_law_887 rfl (lv_at hl 5 rfl) ?_
    refine lv_iconst (v := (0 : Int32)) hx hb dL_law_888 (by decide) ?_
    refine va_lald (f := vp_updL x 0 r.toInt64) hx hb hK (gy_P hP) 32 2 rfl rfl gy_in0 dL_law_889 ?_
    refine W.eq (g2 := F0 m 890 ls [.long r.toInt64]) rfl ?_
    refine lv_iload hx hb dL_law_890 (lv_at hl 0 rfl) ?_
    refine lv_i2l (v := b1.toInt64) hx hb dL_law_892 rfl ?_
    refine W.lcmp hx hb dL_law_893 ?_
    refine lv_if_eq (tgt := 899) hx hb dL_law_894 (by decide) (fun hc => ?_) (fun hc => absurd (by rw [ho rfl]; exact gz_cmp _) hc)
    refine lv_goto (tgt := 1087) hx hb dL_law_899 (by decide) ?_
    exact kk _ H locs ls hP hD hS (lv_sub hl [2, 3, 4, 5, 6] rfl)
set_option maxHeartbeats 4000000 in
set_option maxRecDepth 100000 in
theorem lw_named {p : Program} {l : Launch} {e : Env} {s : State} {m : MethodId} {below : List Frame} {meth : Method} {c : Code} {b L : Nat} {xs : Nat → Int32} {D : va_G} {cI cZ cJ : ClassId} {ad bd : Nat → Nat} {oa : Nat} (hC : gl_C p l s m meth c b L xs D cI cZ cJ) (N : Nat) (x4 : Int32) (hi1 : vp_in (x4 + (1 : Int32)) L) {u : StA} {x : Nat → Int64} {v : StB} (r : Int32) (v1 : StB) (hA1 : f_A_named N u (xs (x4 + (1 : Int32)).toNatClampNeg) = some r) (hB1 : f_B_named N v (xs (x4 + (1 : Int32)).toNatClampNeg) = some (r, v1)) {cells slots : Nat} {Q : State → Prop} (hcl : cells + 1 ≤ 1112) (hsl : slots + 6 ≤ 19541) {H : Heap} {locs : List Loc} {ls : Array Slot} (hP : va_P D vwCl (wO ad cI cZ cJ oa (u, x) ++ wB bd cI cZ v) H) (hD : va_D (gl_A s) (wO ad cI cZ cJ oa (u, x) ++ wB bd cI cZ v)) (hS : va_S (gl_A s) s.heap H locs) (hl : lv_has ls 7 [(0, .ref b), (1, .ref (ad 0)), (2, .ref (bd 0)), (3, .ref oa), (4, .int x4)]) (kk : ∀ (x1 : Nat → Int64) (H : Heap) (locs : List Loc) (ls : Array Slot), va_P D vwCl (wO ad cI cZ cJ oa (u, x1) ++ wB bd cI cZ v1) H → va_D (gl_A s) (wO ad cI cZ cJ oa (u, x1) ++ wB bd cI cZ v1) → va_S (gl_A s) s.heap H locs → lv_has ls 7 [(0, .ref b), (1, .ref (ad 0)), (2, .ref (bd 0)), (3, .ref oa), (4, .int x4)] → W p l e room_1 s m #[Value.ref b] below meth c H locs cells slots Q (F0 m 1087 ls [])) : W p l e room_1 s m #[Value.ref b] below meth c H locs cells slots Q (F0 m 902 ls []) := by
  obtain ⟨hx, hb, hr, hml, hG, hown, hlocks, hK, hX, hbl, hst, hE⟩ := id hC
  have hA : ∀ q : Nat, s.heap.size ≤ q → gl_A s q := fun _ h => h
  have hbA : ¬ gl_A s b := Nat.not_le.mpr hbl
  have hKB : va_K D vwCl (tB cI cZ) s := hK.sub [0, 1] rfl
  refine lv_aload_n hx hb dL_law_902 rfl (lv_at hl 1 rfl) ?_
  refine lv_aload_n hx hb dL_law_903 rfl (lv_at hl 0 rfl) ?_
  refine lv_iload hx hb dL_law_904 (lv_at hl 4 rfl) ?_
  refine lv_iconst (v := (1 : Int32)) hx hb dL_law_906 (by decide) ?_
  refine lv_iadd hx hb dL_law_907 ?_
  refine va_sld hx hb hX hbl hbA hS hi1 dL_law_908 ?_
  have hPn : va_P D vwCl (wA ad cI cZ cJ u ++ ((oa, .inl (cJ, 1, .inr (.inl x))) :: wB bd cI cZ v)) H := by rw [← List.singleton_append, ← List.append_assoc]; exact hP
  have hDn : va_D (gl_A s) (wA ad cI cZ cJ u ++ ((oa, .inl (cJ, 1, .inr (.inl x))) :: wB bd cI cZ v)) := by rw [← List.singleton_append, ← List.append_assoc]; exact hD
  refine gz_callL (w := wA ad cI cZ cJ) (Y := ((oa, .inl (cJ, 1, .inr (.inl x))) :: wB bd cI cZ v)) (As := [.int (xs (x4 + (1 : Int32)).toNatClampNeg)]) (rest := []) (u := u) (u' := u) hx hb hml hown hG (c_A_named l D ad cI cZ cJ N u (xs (x4 + (1 : Int32)).toNatClampNeg) r hA1) lz_L_117 rfl rfl ⟨Nat.le_of_ble_eq_true rfl, Nat.le_of_ble_eq_true rfl⟩ (va_recv hK (gy_P hPn) (ci := 0) (q0 := 0) rfl rfl) hK hPn hDn hS hA rfl hl.1 rfl (Nat.le_of_ble_eq_true rfl) dL_law_909 ⟨Nat.le_of_succ_le hcl, Nat.le_trans (Nat.le_add_right _ 6) hsl⟩ (fun H locs hP hD hS => ?_)
  have hP : va_P D vwCl (wO ad cI cZ cJ oa (u, x) ++ wB bd cI cZ v) H := by unfold wO; rw [List.append_assoc, List.singleton_append]; exact hP
  have hD : va_D (gl_A s) (wO ad cI cZ cJ oa (u, x) ++ wB bd cI cZ v) := by unfold wO; rw [List.append_assoc, List.singleton_append]; exact hD
  refine lv_aload_n hx hb dL_law_912 rfl (lv_at hl 2 rfl) ?_
  refine lv_aload_n hx hb dL_law_913 rfl (lv_at hl 0 rfl) ?_
  refine lv_iload hx hb dL_law_914 (lv_at hl 4 rfl) ?_
  refine lv_iconst (v := (1 : Int32)) hx hb dL_law_916 (by decide) ?_
  refine lv_iadd hx hb dL_law_917 ?_
  refine va_sld hx hb hX hbl hbA hS hi1 dL_law_918 ?_
  refine gz_callR (w := wB bd cI cZ) (Y := wO ad cI cZ cJ oa (u, x)) (As := [.int (xs (x4 + (1 : Int32)).toNatClampNeg)]) (rest := [.int r]) (u := v) (u' := v1) hx hb hml hown hG (c_B_named l D bd cI cZ N v (xs (x4 + (1 : Int32)).toNatClampNeg) r v1 hB1) lz_L_120 rfl rfl ⟨Nat.le_of_ble_eq_true rfl, Nat.le_of_ble_eq_true rfl⟩ (va_recv hKB (gy_PR hP) (ci := 6) (q0 := 0) rfl rfl) hKB hP hD hS hA rfl hl.1 rfl (Nat.le_of_ble_eq_true rfl) dL_law_919 ⟨Nat.le_of_succ_le hcl, Nat.le_trans (Nat.le_add_right _ 6) hsl⟩ (fun H locs hP hD hS => ?_)
  have hP : va_P D vwCl (wO ad cI cZ cJ oa (u, x) ++ wB bd cI cZ v1) H := hP
  have hD : va_D (gl_A s) (wO ad cI cZ cJ oa (u, x) ++ wB bd cI cZ v1) := hD
  refine lv_icmp_eq (tgt := 1087) hx hb dL_law_922 (by decide) (fun hc => ?_) (fun hc => absurd rfl hc)
  exact kk x H locs ls hP hD hS (lv_sub hl [0, 1, 2, 3, 4] rfl)
set_option maxHeartbeats 4000000 in
set_option maxRecDepth 100000 in
theorem lw_hand {p : Program} {l : Launch} {e : Env} {s : State} {m : MethodId} {below : List Frame} {meth : Method} {c : Code} {b L : Nat} {xs : Nat → Int32} {D : va_G} {cI cZ cJ : ClassId} {ad bd : Nat → Nat} {oa : Nat} (hC : gl_C p l s m meth c b L xs D cI cZ cJ) (N : Nat) (x4 : Int32) (hi1 : vp_in (x4 + (1 : Int32)) L) (hi2 : vp_in (x4 + (2 : Int32)) L) {u : StA} {x : Nat → Int64} {v : StB} (cd : Nat) (r : Int32) (u1 : StA) (hA1 : f_A_hand u (xs (x4 + (1 : Int32)).toNatClampNeg) (xs (x4 + (2 : Int32)).toNatClampNeg) = some ((cd, r), u1)) (hcd : cd = 0 ∨ cd = 1 ∨ cd = 3) (v1 : StB) (hB1 : f_B_hand N v (xs (x4 + (1 : Int32)).toNatClampNeg) (xs (x4 + (2 : Int32)).toNatClampNeg) = some v1) (ht : (v1.1 0) = kL_hand cd) {cells slots : Nat} {Q : State → Prop} (hcl : cells + 1 ≤ 1112) (hsl : slots + 6 ≤ 19541) {H : Heap} {locs : List Loc} {ls : Array Slot} (hP : va_P D vwCl (wO ad cI cZ cJ oa (u, x) ++ wB bd cI cZ v) H) (hD : va_D (gl_A s) (wO ad cI cZ cJ oa (u, x) ++ wB bd cI cZ v)) (hS : va_S (gl_A s) s.heap H locs) (hl : lv_has ls 7 [(0, .ref b), (1, .ref (ad 0)), (2, .ref (bd 0)), (3, .ref oa), (4, .int x4)]) (kk : ∀ (x1 : Nat → Int64) (H : Heap) (locs : List Loc) (ls : Array Slot), va_P D vwCl (wO ad cI cZ cJ oa (u1, x1) ++ wB bd cI cZ v1) H → va_D (gl_A s) (wO ad cI cZ cJ oa (u1, x1) ++ wB bd cI cZ v1) → va_S (gl_A s) s.heap H locs → lv_has ls 7 [(0, .ref b), (1, .ref (ad 0)), (2, .ref (bd 0)), (3, .ref oa), (4, .int x4)] → W p l e room_1 s m #[Value.ref b] below meth c H locs (cells + 1) (slots + 6) Q (F0 m 1087 ls [])) : W p l e room_1 s m #[Value.ref b] below meth c H locs cells slots Q (F0 m 927 ls []) := by
  obtain ⟨hx, hb, hr, hml, hG, hown, hlocks, hK, hX, hbl, hst, hE⟩ := id hC
  have hA : ∀ q : Nat, s.heap.size ≤ q → gl_A s q := fun _ h => h
  have hbA : ¬ gl_A s b := Nat.not_le.mpr hbl
  have hKB : va_K D vwCl (tB cI cZ) s := hK.sub [0, 1] rfl
  refine lv_aload_n hx hb dL_law_927 rfl (lv_at hl 1 rfl) ?_
  refine lv_aload_n hx hb dL_law_928 rfl (lv_at hl 0 rfl) ?_
  refine lv_iload hx hb dL_law_929 (lv_at hl 4 rfl) ?_
  refine lv_iconst (v := (1 : Int32)) hx hb dL_law_931 (by decide) ?_
  refine lv_iadd hx hb dL_law_932 ?_
  refine va_sld hx hb hX hbl hbA hS hi1 dL_law_933 ?_
  refine lv_aload_n hx hb dL_law_934 rfl (lv_at hl 0 rfl) ?_
  refine lv_iload hx hb dL_law_935 (lv_at hl 4 rfl) ?_
  refine lv_iconst (v := (2 : Int32)) hx hb dL_law_937 (by decide) ?_
  refine lv_iadd hx hb dL_law_938 ?_
  refine va_sld hx hb hX hbl hbA hS hi2 dL_law_939 ?_
  refine gz_callW (w := wO ad cI cZ cJ oa) (Y := wB bd cI cZ v) (As := [.ref (ad 0), .int (xs (x4 + (1 : Int32)).toNatClampNeg), .int (xs (x4 + (2 : Int32)).toNatClampNeg)]) (rest := []) (u := (u, x)) (u' := (u1, x)) hx hb hml hown hG (c_L_hand l hst D ad cI cZ cJ oa u x (xs (x4 + (1 : Int32)).toNatClampNeg) (xs (x4 + (2 : Int32)).toNatClampNeg) cd r u1 hA1 hcd) lz_L_121 rfl rfl ⟨Nat.le_of_ble_eq_true rfl, Nat.le_of_ble_eq_true rfl⟩ hK hE hP hD hS hA rfl hl.1 rfl (Nat.le_of_ble_eq_true rfl) dL_law_940 ⟨hcl, hsl⟩ (fun H locs hP hD hS => ?_)
  refine lv_istore (lv' := [(5, .int (kL_hand cd)), (0, .ref b), (1, .ref (ad 0)), (2, .ref (bd 0)), (3, .ref oa), (4, .int x4)]) hx hb dL_law_943 hl (by decide) rfl (fun ls hl => ?_)
  refine lv_aload_n hx hb dL_law_945 rfl (lv_at hl 3 rfl) ?_
  refine lv_aload_n hx hb dL_law_946 rfl (lv_at hl 1 rfl) ?_
  refine lv_iload hx hb dL_law_947 (lv_at hl 5 rfl) ?_
  refine lv_iconst (v := (1 : Int32)) hx hb dL_law_949 (by decide) ?_
  refine lv_iadd hx hb dL_law_950 ?_
  refine va_sld hx hb hX hbl hbA hS hi1 dL_law_951 ?_
  refine lv_aload_n hx hb dL_law_952 rfl (lv_at hl 1 rfl) ?_
  refine lv_iload hx hb dL_law_953 (lv_at hl 5 rfl) ?_
  refine lv_iconst (v := (2 : Int32)) hx hb dL_law_955 (by decide) ?_
  refine lv_iadd hx hb dL_law_956 ?_
  refine va_sld hx hb hX hbl hbA hS hi2 dL_law_957 ?_
  refine gz_callR (w := wB bd cI cZ) (Y := wO ad cI cZ cJ oa (u1, x)) (As := [.int (xs (x4 + (1 : Int32)).toNatClampNeg), .int (xs (x4 + (2 : Int32)).toNatClampNeg)]) (rest := []) (u := v) (u' := v1) hx hb hml hown hG (c_B_hand l D bd cI cZ N v (xs (x4 + (1 : Int32)).toNatClampNeg) (xs (x4 + (2 : Int32)).toNatClampNeg) v1 hB1) lz_L_124 rfl rfl ⟨Nat.le_of_ble_eq_true rfl, Nat.le_of_ble_eq_true rfl⟩ (va_recv hKB (gy_PR hP) (ci := 6) (q0 := 0) rfl rfl) hKB hP hD hS hA rfl hl.1 rfl (Nat.le_of_ble_eq_true rfl) dL_law_958 ⟨hcl, hsl⟩ (fun H locs hP hD hS => ?_)
  have hP : va_P D vwCl (wO ad cI cZ cJ oa (u1, x) ++ wB bd cI cZ v1) H := hP
  have hD : va_D (gl_A s) (wO ad cI cZ cJ oa (u1, x) ++ wB bd cI cZ v1) := hD
  refine lv_aload_n hx hb dL_law_961 rfl (lv_at hl 3 rfl) ?_
  refine gz_callR (w := wB bd cI cZ) (Y := wO ad cI cZ cJ oa (u1, x)) (As := []) (rest := []) (u := v1) (u' := v1) hx hb hml hown hG (c_B_thrown l D bd cI cZ v1 _ rfl) lz_L_77 rfl rfl ⟨Nat.le_of_ble_eq_true rfl, Nat.le_of_ble_eq_true rfl⟩ (va_recv hKB (gy_PR hP) (ci := 6) (q0 := 0) rfl rfl) hKB hP hD hS hA rfl hl.1 rfl (Nat.le_of_ble_eq_true rfl) dL_law_962 ⟨hcl, hsl⟩ (fun H locs hP hD hS => ?_)
  have hP : va_P D vwCl (wO ad cI cZ cJ oa (u1, x) ++ wB bd cI cZ v1) H := hP
  have hD : va_D (gl_A s) (wO ad cI cZ cJ oa (u1, x) ++ wB bd cI cZ v1) := hD
  refine lv_iload hx hb dL_law_965 (lv_at hl 0 rfl) ?_
  refine lv_icmp_eq (tgt := 972) hx hb dL_law_967 (by decide) (fun hc => ?_) (fun hc => absurd ht hc)
  refine lv_goto (tgt := 1087) hx hb dL_law_972 (by decide) ?_
  exact kk _ H locs ls hP hD hS (lv_sub hl [1, 2, 3, 4, 5] rfl)
set_option maxHeartbeats 4000000 in
set_option maxRecDepth 100000 in
theorem lw_handed {p : Program} {l : Launch} {e : Env} {s : State} {m : MethodId} {below : List Frame} {meth : Method} {c : Code} {b L : Nat} {xs : Nat → Int32} {D : va_G} {cI cZ cJ : ClassId} {ad bd : Nat → Nat} {oa : Nat} (hC : gl_C p l s m meth c b L xs D cI cZ cJ) (N : Nat) (x4 : Int32) (hi1 : vp_in (x4 + (1 : Int32)) L) {u : StA} {x : Nat → Int64} {v : StB} (cd : Nat) (r : Int32) (u1 : StA) (hA1 : f_A_handed u (xs (x4 + (1 : Int32)).toNatClampNeg) = some ((cd, r), u1)) (hcd : cd = 0 ∨ cd = 1) (b1 : Int32) (v1 : StB) (hB1 : f_B_handed N v (xs (x4 + (1 : Int32)).toNatClampNeg) = some (b1, v1)) (ht : (v1.1 0) = kL_handed cd) (ho : cd = 0 → r = b1) {cells slots : Nat} {Q : State → Prop} (hcl : cells + 1 ≤ 1112) (hsl : slots + 6 ≤ 19541) {H : Heap} {locs : List Loc} {ls : Array Slot} (hP : va_P D vwCl (wO ad cI cZ cJ oa (u, x) ++ wB bd cI cZ v) H) (hD : va_D (gl_A s) (wO ad cI cZ cJ oa (u, x) ++ wB bd cI cZ v)) (hS : va_S (gl_A s) s.heap H locs) (hl : lv_has ls 7 [(0, .ref b), (1, .ref (ad 0)), (2, .ref (bd 0)), (3, .ref oa), (4, .int x4)]) (kk : ∀ (x1 : Nat → Int64) (H : Heap) (locs : List Loc) (ls : Array Slot), va_P D vwCl (wO ad cI cZ cJ oa (u1, x1) ++ wB bd cI cZ v1) H → va_D (gl_A s) (wO ad cI cZ cJ oa (u1, x1) ++ wB bd cI cZ v1) → va_S (gl_A s) s.heap H locs → lv_has ls 7 [(0, .ref b), (1, .ref (ad 0)), (2, .ref (bd 0)), (3, .ref oa), (4, .int x4)] → W p l e room_1 s m #[Value.ref b] below meth c H locs (cells + 1) (slots + 6) Q (F0 m 1087 ls [])) : W p l e room_1 s m #[Value.ref b] below meth c H locs cells slots Q (F0 m 975 ls []) := by
  obtain ⟨hx, hb, hr, hml, hG, hown, hlocks, hK, hX, hbl, hst, hE⟩ := id hC
  have hA : ∀ q : Nat, s.heap.size ≤ q → gl_A s q := fun _ h => h
  have hbA : ¬ gl_A s b := Nat.not_le.mpr hbl
  have hKB : va_K D vwCl (tB cI cZ) s := hK.sub [0, 1] rfl
  refine lv_aload_n hx hb dL_law_975 rfl (lv_at hl 1 rfl) ?_
  refine lv_aload_n hx hb dL_law_976 rfl (lv_at hl 0 rfl) ?_
  refine lv_iload hx hb dL_law_977 (lv_at hl 4 rfl) ?_
  refine lv_iconst (v := (1 : Int32)) hx hb dL_law_979 (by decide) ?_
  refine lv_iadd hx hb dL_law_980 ?_
  refine va_sld hx hb hX hbl hbA hS hi1 dL_law_981 ?_
  refine lv_aload_n hx hb dL_law_982 rfl (lv_at hl 3 rfl) ?_
  refine gz_callW (w := wO ad cI cZ cJ oa) (Y := wB bd cI cZ v) (As := [.ref (ad 0), .int (xs (x4 + (1 : Int32)).toNatClampNeg), .ref oa]) (rest := []) (u := (u, x)) (u' := (u1, (if cd = 0 then vp_updL x 0 r.toInt64 else x))) hx hb hml hown hG (c_L_handed l hst D ad cI cZ cJ oa u x (xs (x4 + (1 : Int32)).toNatClampNeg) cd r u1 hA1 hcd) lz_L_125 rfl rfl ⟨Nat.le_of_ble_eq_true rfl, Nat.le_of_ble_eq_true rfl⟩ hK hE hP hD hS hA rfl hl.1 rfl (Nat.le_of_ble_eq_true rfl) dL_law_983 ⟨hcl, hsl⟩ (fun H locs hP hD hS => ?_)
  refine lv_istore (lv' := [(5, .int (kL_handed cd)), (0, .ref b), (1, .ref (ad 0)), (2, .ref (bd 0)), (3, .ref oa), (4, .int x4)]) hx hb dL_law_986 hl (by decide) rfl (fun ls hl => ?_)
  refine lv_aload_n hx hb dL_law_988 rfl (lv_at hl 3 rfl) ?_
  refine lv_aload_n hx hb dL_law_989 rfl (lv_at hl 1 rfl) ?_
  refine lv_iload hx hb dL_law_990 (lv_at hl 5 rfl) ?_
  refine lv_iconst (v := (1 : Int32)) hx hb dL_law_992 (by decide) ?_
  refine lv_iadd hx hb dL_law_993 ?_
  refine va_sld hx hb hX hbl hbA hS hi1 dL_law_994 ?_
  refine gz_callR (w := wB bd cI cZ) (Y := wO ad cI cZ cJ oa (u1, (if cd = 0 then vp_updL x 0 r.toInt64 else x))) (As := [.int (xs (x4 + (1 : Int32)).toNatClampNeg)]) (rest := []) (u := v) (u' := v1) hx hb hml hown hG (c_B_handed l D bd cI cZ N v (xs (x4 + (1 : Int32)).toNatClampNeg) b1 v1 hB1) lz_L_127 rfl rfl ⟨Nat.le_of_ble_eq_true rfl, Nat.le_of_ble_eq_true rfl⟩ (va_recv hKB (gy_PR hP) (ci := 6) (q0 := 0) rfl rfl) hKB hP hD hS hA rfl hl.1 rfl (Nat.le_of_ble_eq_true rfl) dL_law_995 ⟨hcl, hsl⟩ (fun H locs hP hD hS => ?_)
  have hP : va_P D vwCl (wO ad cI cZ cJ oa (u1, (if cd = 0 then vp_updL x 0 r.toInt64 else x)) ++ wB bd cI cZ v1) H := hP
  have hD : va_D (gl_A s) (wO ad cI cZ cJ oa (u1, (if cd = 0 then vp_updL x 0 r.toInt64 else x)) ++ wB bd cI cZ v1) := hD
  refine lv_istore (lv' := [(6, .int b1), (5, .int (kL_handed cd)), (0, .ref b), (1, .ref (ad 0)), (2, .ref (bd 0)), (3, .ref oa), (4, .int x4)]) hx hb dL_law_998 hl (by decide) rfl (fun ls hl => ?_)
  refine lv_aload_n hx hb dL_law_1000 rfl (lv_at hl 4 rfl) ?_
  refine gz_callR (w := wB bd cI cZ) (Y := wO ad cI cZ cJ oa (u1, (if cd = 0 then vp_updL x 0 r.toInt64 else x))) (As := []) (rest := []) (u := v1) (u' := v1) hx hb hml hown hG (c_B_thrown l D bd cI cZ v1 _ rfl) lz_L_77 rfl rfl ⟨Nat.le_of_ble_eq_true rfl, Nat.le_of_ble_eq_true rfl⟩ (va_recv hKB (gy_PR hP) (ci := 6) (q0 := 0) rfl rfl) hKB hP hD hS hA rfl hl.1 rfl (Nat.le_of_ble_eq_true rfl) dL_law_1001 ⟨hcl, hsl⟩ (fun H locs hP hD hS => ?_)
  have hP : va_P D vwCl (wO ad cI cZ cJ oa (u1, (if cd = 0 then vp_updL x 0 r.toInt64 else x)) ++ wB bd cI cZ v1) H := hP
  have hD : va_D (gl_A s) (wO ad cI cZ cJ oa (u1, (if cd = 0 then vp_updL x 0 r.toInt64 else x)) ++ wB bd cI cZ v1) := hD
  refine lv_iload hx hb dL_law_1004 (lv_at hl 1 rfl) ?_
  refine lv_icmp_eq (tgt := 1011) hx hb dL_law_1006 (by decide) (fun hc => ?_) (fun hc => absurd ht hc)
  refine lv_iload hx hb dL_law_1011 (lv_at hl 1 rfl) ?_
  refine lv_if_ne (tgt := 1028) hx hb dL_law_1013 (by decide) (fun hc => ?_) (fun hc => ?_)
  · refine lv_goto (tgt := 1087) hx hb dL_law_1028 (by decide) ?_
    exact kk _ H locs ls hP hD hS (lv_sub hl [2, 3, 4, 5, 6] rfl)
  · have h0 : cd = 0 := by rcases hcd with rfl | rfl <;> first | rfl | (exact absurd hc (by decide))
    subst h0
    have hP : va_P D vwCl (wO ad cI cZ cJ oa (u1, vp_updL x 0 r.toInt64) ++ wB bd cI cZ v1) H := hP
    have hD : va_D (gl_A s) (wO ad cI cZ cJ oa (u1, vp_updL x 0 r.toInt64) ++ wB bd cI cZ v1) := hD
    refine lv_aload_n hx hb dL_law_1016 rfl (lv_at hl 5 rfl) ?_
    refine lv_iconst (v := (0 : Int32)) hx hb dL_law_1017 (by decide) ?_
    refine va_lald (f := vp_updL x 0 r.toInt64) hx hb hK (gy_P hP) 32 2 rfl rfl gy_in0 dL_law_1018 ?_
    refine W.eq (g2 := F0 m 1019 ls [.long r.toInt64]) rfl ?_
    refine lv_iload hx hb dL_law_1019 (lv_at hl 0 rfl) ?_
    refine lv_i2l (v := b1.toInt64) hx hb dL_law_1021 rfl ?_
    refine W.lcmp hx hb dL_law_1022 ?_
    refine lv_if_eq (tgt := 1028) hx hb dL_law_1023 (by decide) (fun hc => ?_) (fun hc => absurd (by rw [ho rfl]; exact gz_cmp _) hc)
    refine lv_goto (tgt := 1087) hx hb dL_law_1028 (by decide) ?_
    exact kk _ H locs ls hP hD hS (lv_sub hl [2, 3, 4, 5, 6] rfl)
set_option maxHeartbeats 4000000 in
set_option maxRecDepth 100000 in
theorem lw_count {p : Program} {l : Launch} {e : Env} {s : State} {m : MethodId} {below : List Frame} {meth : Method} {c : Code} {b L : Nat} {xs : Nat → Int32} {D : va_G} {cI cZ cJ : ClassId} {ad bd : Nat → Nat} {oa : Nat} (hC : gl_C p l s m meth c b L xs D cI cZ cJ) (N : Nat) (x4 : Int32) (hi1 : vp_in (x4 + (1 : Int32)) L) {u : StA} {x : Nat → Int64} {v : StB} (cd : Nat) (r : Int32) (u1 : StA) (hA1 : f_A_count N u (xs (x4 + (1 : Int32)).toNatClampNeg) = some ((cd, r), u1)) (hcd : cd = 0 ∨ cd = 1) (b1 : Int32) (v1 : StB) (hB1 : f_B_count N v (xs (x4 + (1 : Int32)).toNatClampNeg) = some (b1, v1)) (ht : (v1.1 0) = kL_count cd) (ho : cd = 0 → r = b1) {cells slots : Nat} {Q : State → Prop} (hcl : cells + 1 ≤ 1112) (hsl : slots + 6 ≤ 19541) {H : Heap} {locs : List Loc} {ls : Array Slot} (hP : va_P D vwCl (wO ad cI cZ cJ oa (u, x) ++ wB bd cI cZ v) H) (hD : va_D (gl_A s) (wO ad cI cZ cJ oa (u, x) ++ wB bd cI cZ v)) (hS : va_S (gl_A s) s.heap H locs) (hl : lv_has ls 7 [(0, .ref b), (1, .ref (ad 0)), (2, .ref (bd 0)), (3, .ref oa), (4, .int x4)]) (kk : ∀ (x1 : Nat → Int64) (H : Heap) (locs : List Loc) (ls : Array Slot), va_P D vwCl (wO ad cI cZ cJ oa (u1, x1) ++ wB bd cI cZ v1) H → va_D (gl_A s) (wO ad cI cZ cJ oa (u1, x1) ++ wB bd cI cZ v1) → va_S (gl_A s) s.heap H locs → lv_has ls 7 [(0, .ref b), (1, .ref (ad 0)), (2, .ref (bd 0)), (3, .ref oa), (4, .int x4)] → W p l e room_1 s m #[Value.ref b] below meth c H locs (cells + 1) (slots + 6) Q (F0 m 1087 ls [])) : W p l e room_1 s m #[Value.ref b] below meth c H locs cells slots Q (F0 m 1031 ls []) := by
  obtain ⟨hx, hb, hr, hml, hG, hown, hlocks, hK, hX, hbl, hst, hE⟩ := id hC
  have hA : ∀ q : Nat, s.heap.size ≤ q → gl_A s q := fun _ h => h
  have hbA : ¬ gl_A s b := Nat.not_le.mpr hbl
  have hKB : va_K D vwCl (tB cI cZ) s := hK.sub [0, 1] rfl
  refine lv_aload_n hx hb dL_law_1031 rfl (lv_at hl 1 rfl) ?_
  refine lv_aload_n hx hb dL_law_1032 rfl (lv_at hl 0 rfl) ?_
  refine lv_iload hx hb dL_law_1033 (lv_at hl 4 rfl) ?_
  refine lv_iconst (v := (1 : Int32)) hx hb dL_law_1035 (by decide) ?_
  refine lv_iadd hx hb dL_law_1036 ?_
  refine va_sld hx hb hX hbl hbA hS hi1 dL_law_1037 ?_
  refine lv_aload_n hx hb dL_law_1038 rfl (lv_at hl 3 rfl) ?_
  refine gz_callW (w := wO ad cI cZ cJ oa) (Y := wB bd cI cZ v) (As := [.ref (ad 0), .int (xs (x4 + (1 : Int32)).toNatClampNeg), .ref oa]) (rest := []) (u := (u, x)) (u' := (u1, (if cd = 0 then vp_updL x 0 r.toInt64 else x))) hx hb hml hown hG (c_L_count l hst D ad cI cZ cJ oa N u x (xs (x4 + (1 : Int32)).toNatClampNeg) cd r u1 hA1 hcd) lz_L_128 rfl rfl ⟨Nat.le_of_ble_eq_true rfl, Nat.le_of_ble_eq_true rfl⟩ hK hE hP hD hS hA rfl hl.1 rfl (Nat.le_of_ble_eq_true rfl) dL_law_1039 ⟨hcl, hsl⟩ (fun H locs hP hD hS => ?_)
  refine lv_istore (lv' := [(5, .int (kL_count cd)), (0, .ref b), (1, .ref (ad 0)), (2, .ref (bd 0)), (3, .ref oa), (4, .int x4)]) hx hb dL_law_1042 hl (by decide) rfl (fun ls hl => ?_)
  refine lv_aload_n hx hb dL_law_1044 rfl (lv_at hl 3 rfl) ?_
  refine lv_aload_n hx hb dL_law_1045 rfl (lv_at hl 1 rfl) ?_
  refine lv_iload hx hb dL_law_1046 (lv_at hl 5 rfl) ?_
  refine lv_iconst (v := (1 : Int32)) hx hb dL_law_1048 (by decide) ?_
  refine lv_iadd hx hb dL_law_1049 ?_
  refine va_sld hx hb hX hbl hbA hS hi1 dL_law_1050 ?_
  refine gz_callR (w := wB bd cI cZ) (Y := wO ad cI cZ cJ oa (u1, (if cd = 0 then vp_updL x 0 r.toInt64 else x))) (As := [.int (xs (x4 + (1 : Int32)).toNatClampNeg)]) (rest := []) (u := v) (u' := v1) hx hb hml hown hG (c_B_count l D bd cI cZ N v (xs (x4 + (1 : Int32)).toNatClampNeg) b1 v1 hB1) lz_L_130 rfl rfl ⟨Nat.le_of_ble_eq_true rfl, Nat.le_of_ble_eq_true rfl⟩ (va_recv hKB (gy_PR hP) (ci := 6) (q0 := 0) rfl rfl) hKB hP hD hS hA rfl hl.1 rfl (Nat.le_of_ble_eq_true rfl) dL_law_1051 ⟨hcl, hsl⟩ (fun H locs hP hD hS => ?_)
  have hP : va_P D vwCl (wO ad cI cZ cJ oa (u1, (if cd = 0 then vp_updL x 0 r.toInt64 else x)) ++ wB bd cI cZ v1) H := hP
  have hD : va_D (gl_A s) (wO ad cI cZ cJ oa (u1, (if cd = 0 then vp_updL x 0 r.toInt64 else x)) ++ wB bd cI cZ v1) := hD
  refine lv_istore (lv' := [(6, .int b1), (5, .int (kL_count cd)), (0, .ref b), (1, .ref (ad 0)), (2, .ref (bd 0)), (3, .ref oa), (4, .int x4)]) hx hb dL_law_1054 hl (by decide) rfl (fun ls hl => ?_)
  refine lv_aload_n hx hb dL_law_1056 rfl (lv_at hl 4 rfl) ?_
  refine gz_callR (w := wB bd cI cZ) (Y := wO ad cI cZ cJ oa (u1, (if cd = 0 then vp_updL x 0 r.toInt64 else x))) (As := []) (rest := []) (u := v1) (u' := v1) hx hb hml hown hG (c_B_thrown l D bd cI cZ v1 _ rfl) lz_L_77 rfl rfl ⟨Nat.le_of_ble_eq_true rfl, Nat.le_of_ble_eq_true rfl⟩ (va_recv hKB (gy_PR hP) (ci := 6) (q0 := 0) rfl rfl) hKB hP hD hS hA rfl hl.1 rfl (Nat.le_of_ble_eq_true rfl) dL_law_1057 ⟨hcl, hsl⟩ (fun H locs hP hD hS => ?_)
  have hP : va_P D vwCl (wO ad cI cZ cJ oa (u1, (if cd = 0 then vp_updL x 0 r.toInt64 else x)) ++ wB bd cI cZ v1) H := hP
  have hD : va_D (gl_A s) (wO ad cI cZ cJ oa (u1, (if cd = 0 then vp_updL x 0 r.toInt64 else x)) ++ wB bd cI cZ v1) := hD
  refine lv_iload hx hb dL_law_1060 (lv_at hl 1 rfl) ?_
  refine lv_icmp_eq (tgt := 1067) hx hb dL_law_1062 (by decide) (fun hc => ?_) (fun hc => absurd ht hc)
  refine lv_iload hx hb dL_law_1067 (lv_at hl 1 rfl) ?_
  refine lv_if_ne (tgt := 1084) hx hb dL_law_1069 (by decide) (fun hc => ?_) (fun hc => ?_)
  · refine lv_goto (tgt := 1087) hx hb dL_law_1084 (by decide) ?_
    exact kk _ H locs ls hP hD hS (lv_sub hl [2, 3, 4, 5, 6] rfl)
  · have h0 : cd = 0 := by rcases hcd with rfl | rfl <;> first | rfl | (exact absurd hc (by decide))
    subst h0
    have hP : va_P D vwCl (wO ad cI cZ cJ oa (u1, vp_updL x 0 r.toInt64) ++ wB bd cI cZ v1) H := hP
    have hD : va_D (gl_A s) (wO ad cI cZ cJ oa (u1, vp_updL x 0 r.toInt64) ++ wB bd cI cZ v1) := hD
    refine lv_aload_n hx hb dL_law_1072 rfl (lv_at hl 5 rfl) ?_
    refine lv_iconst (v := (0 : Int32)) hx hb dL_law_1073 (by decide) ?_
    refine va_lald (f := vp_updL x 0 r.toInt64) hx hb hK (gy_P hP) 32 2 rfl rfl gy_in0 dL_law_1074 ?_
    refine W.eq (g2 := F0 m 1075 ls [.long r.toInt64]) rfl ?_
    refine lv_iload hx hb dL_law_1075 (lv_at hl 0 rfl) ?_
    refine lv_i2l (v := b1.toInt64) hx hb dL_law_1077 rfl ?_
    refine W.lcmp hx hb dL_law_1078 ?_
    refine lv_if_eq (tgt := 1084) hx hb dL_law_1079 (by decide) (fun hc => ?_) (fun hc => absurd (by rw [ho rfl]; exact gz_cmp _) hc)
    refine lv_goto (tgt := 1087) hx hb dL_law_1084 (by decide) ?_
    exact kk _ H locs ls hP hD hS (lv_sub hl [2, 3, 4, 5, 6] rfl)
