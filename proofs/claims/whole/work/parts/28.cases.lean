set_option maxRecDepth 100000 in
set_option maxHeartbeats 4000000 in
theorem law_c0 {p : Program} (l : Launch) (hl0 : l.stackTraces = false) {e : Env} {s : State} {m : MethodId} {below : List Frame} {meth : Method} {c : Code} {g : gG} {b L : Nat} {xs : Nat → Int32} (C : CW g RL p s m #[Value.ref b]) (hN : NcX s) (hb : c.code = cL_law) (hml : c.maxLocals = 8) (hX : va_X b L xs s s.heap) (hbl : b < s.heap.size) (hbA : ¬ Ab g b) (hL : L ≤ 3584) {j : Nat} (hj : 7 * j + 7 ≤ L) {cells slots : Nat} (hc : cells + 1 ≤ 617616) (hs : slots + 6 ≤ 7243256) {n : Nat} {S : WS} (hR : RR n S S) {H : Heap} {locs : List Loc} (hP : HW g S H) (hS : va_S (Ab g) s.heap H locs) {ls : Array Slot} (hl : lv_has ls 8 [(0, .ref b), (1, .ref (gA g 0)), (2, .ref (gA g 17)), (3, .ref (gA g 27)), (4, .int (nI (7 * j)))]) {Q : State → Prop} (K : ∀ (n : Nat) (S : WS) (H : Heap) (locs : List Loc) (ls : Array Slot), RR n S S → HW g S H → va_S (Ab g) s.heap H locs → lv_has ls 8 [(0, .ref b), (1, .ref (gA g 0)), (2, .ref (gA g 17)), (3, .ref (gA g 27)), (4, .int (nI (7 * j)))] → W p l e room_1 s m #[Value.ref b] below meth c H locs (cells + 1) (slots + 6) Q (F0 m 1183 ls [])) : W p l e room_1 s m #[Value.ref b] below meth c H locs cells slots Q (F0 m 136 ls []) := by
  have hc0 : cells + 1 ≤ room_1.cells := hc
  have hs0 : slots + 6 ≤ room_1.slots := hs
  refine lv_aload_n C.1 hb dL_law_136 rfl (lv_at hl 1 rfl) ?_
  refine lv_aload_n C.1 hb dL_law_137 rfl (lv_at hl 0 rfl) ?_
  refine lv_iload C.1 hb dL_law_138 (lv_at hl 4 rfl) ?_
  refine lv_iconst (v := 1) C.1 hb dL_law_140 (by decide) ?_
  refine lv_iadd C.1 hb dL_law_141 ?_
  refine ld_s (j := 7 * j + 1) C hb hX hbl hbA hS hL (nI_add (7 * j) 1) (by omega) dL_law_142 ?_
  refine lv_aload_n C.1 hb dL_law_143 rfl (lv_at hl 0 rfl) ?_
  refine lv_iload C.1 hb dL_law_144 (lv_at hl 4 rfl) ?_
  refine lv_iconst (v := 2) C.1 hb dL_law_146 (by decide) ?_
  refine lv_iadd C.1 hb dL_law_147 ?_
  refine ld_s (j := 7 * j + 2) C hb hX hbl hbA hS hL (nI_add (7 * j) 2) (by omega) dL_law_148 ?_
  refine lv_aload_n C.1 hb dL_law_149 rfl (lv_at hl 0 rfl) ?_
  refine lv_iload C.1 hb dL_law_150 (lv_at hl 4 rfl) ?_
  refine lv_iconst (v := 3) C.1 hb dL_law_152 (by decide) ?_
  refine lv_iadd C.1 hb dL_law_153 ?_
  refine ld_s (j := 7 * j + 3) C hb hX hbl hbA hS hL (nI_add (7 * j) 3) (by omega) dL_law_154 ?_
  refine lv_aload_n C.1 hb dL_law_155 rfl (lv_at hl 0 rfl) ?_
  refine lv_iload C.1 hb dL_law_156 (lv_at hl 4 rfl) ?_
  refine lv_iconst (v := 4) C.1 hb dL_law_158 (by decide) ?_
  refine lv_iadd C.1 hb dL_law_159 ?_
  refine ld_s (j := 7 * j + 4) C hb hX hbl hbA hS hL (nI_add (7 * j) 4) (by omega) dL_law_160 ?_
  refine lv_aload_n C.1 hb dL_law_161 rfl (lv_at hl 0 rfl) ?_
  refine lv_iload C.1 hb dL_law_162 (lv_at hl 4 rfl) ?_
  refine lv_iconst (v := 5) C.1 hb dL_law_164 (by decide) ?_
  refine lv_iadd C.1 hb dL_law_165 ?_
  refine ld_s (j := 7 * j + 5) C hb hX hbl hbA hS hL (nI_add (7 * j) 5) (by omega) dL_law_166 ?_
  refine lv_aload_n C.1 hb dL_law_167 rfl (lv_at hl 0 rfl) ?_
  refine lv_iload C.1 hb dL_law_168 (lv_at hl 4 rfl) ?_
  refine lv_bipush (v := 6) C.1 hb dL_law_170 (by decide) ?_
  refine lv_iadd C.1 hb dL_law_172 ?_
  refine ld_s (j := 7 * j + 6) C hb hX hbl hbA hS hL (nI_add (7 * j) 6) (by omega) dL_law_173 ?_
  refine lv_aload_n C.1 hb dL_law_174 rfl (lv_at hl 3 rfl) ?_
  refine run_L (cRunL (As := [.ref (gA g 0), .int (xs (7 * j + 1)), .int (xs (7 * j + 2)), .int (xs (7 * j + 3)), .int (xs (7 * j + 4)), .int (xs (7 * j + 5)), .int (xs (7 * j + 6)), .ref (gA g 27)]) (rest := []) C hN hb (hml.trans hl.1.symm) hP hS (k_L_add l hl0 g S n hR.1.1 (xs (7 * j + 1)) (xs (7 * j + 2)) (xs (7 * j + 3)) (xs (7 * j + 4)) (xs (7 * j + 5)) (xs (7 * j + 6))) wm_52 wm_53 wm_55 wm_54 (n := 8) (by decide +kernel) rfl ⟨rfl, rfl, Nat.le_of_ble_eq_true rfl, Nat.le_of_ble_eq_true rfl⟩ (Nat.le_of_ble_eq_true rfl) rfl ⟨hc0, hs0⟩ dL_law_175) hS (fun f H locs hf hP hS => ?_)
  obtain ⟨w1, w2, w3, ⟨n2, w4⟩, w5⟩ := w_add hR (xs (7 * j + 1)) (xs (7 * j + 2)) (xs (7 * j + 3)) (xs (7 * j + 4)) (xs (7 * j + 5)) (xs (7 * j + 6)) f
  refine lv_istore (lv' := [(5, .int (cdE eIAE (xE_add S (xs (7 * j + 1)) (xs (7 * j + 2)) (xs (7 * j + 3)) (xs (7 * j + 4)) (xs (7 * j + 5)) (xs (7 * j + 6))))), (0, .ref b), (1, .ref (gA g 0)), (2, .ref (gA g 17)), (3, .ref (gA g 27)), (4, .int (nI (7 * j)))]) C.1 hb dL_law_178 hl (by decide) rfl (fun ls hl => ?_)
  refine lv_aload_n C.1 hb dL_law_180 rfl (lv_at hl 3 rfl) ?_
  refine lv_aload_n C.1 hb dL_law_181 rfl (lv_at hl 1 rfl) ?_
  refine lv_iload C.1 hb dL_law_182 (lv_at hl 5 rfl) ?_
  refine lv_iconst (v := 1) C.1 hb dL_law_184 (by decide) ?_
  refine lv_iadd C.1 hb dL_law_185 ?_
  refine ld_s (j := 7 * j + 1) C hb hX hbl hbA hS hL (nI_add (7 * j) 1) (by omega) dL_law_186 ?_
  refine lv_aload_n C.1 hb dL_law_187 rfl (lv_at hl 1 rfl) ?_
  refine lv_iload C.1 hb dL_law_188 (lv_at hl 5 rfl) ?_
  refine lv_iconst (v := 2) C.1 hb dL_law_190 (by decide) ?_
  refine lv_iadd C.1 hb dL_law_191 ?_
  refine ld_s (j := 7 * j + 2) C hb hX hbl hbA hS hL (nI_add (7 * j) 2) (by omega) dL_law_192 ?_
  refine lv_aload_n C.1 hb dL_law_193 rfl (lv_at hl 1 rfl) ?_
  refine lv_iload C.1 hb dL_law_194 (lv_at hl 5 rfl) ?_
  refine lv_iconst (v := 3) C.1 hb dL_law_196 (by decide) ?_
  refine lv_iadd C.1 hb dL_law_197 ?_
  refine ld_s (j := 7 * j + 3) C hb hX hbl hbA hS hL (nI_add (7 * j) 3) (by omega) dL_law_198 ?_
  refine lv_aload_n C.1 hb dL_law_199 rfl (lv_at hl 1 rfl) ?_
  refine lv_iload C.1 hb dL_law_200 (lv_at hl 5 rfl) ?_
  refine lv_iconst (v := 4) C.1 hb dL_law_202 (by decide) ?_
  refine lv_iadd C.1 hb dL_law_203 ?_
  refine ld_s (j := 7 * j + 4) C hb hX hbl hbA hS hL (nI_add (7 * j) 4) (by omega) dL_law_204 ?_
  refine lv_aload_n C.1 hb dL_law_205 rfl (lv_at hl 1 rfl) ?_
  refine lv_iload C.1 hb dL_law_206 (lv_at hl 5 rfl) ?_
  refine lv_iconst (v := 5) C.1 hb dL_law_208 (by decide) ?_
  refine lv_iadd C.1 hb dL_law_209 ?_
  refine ld_s (j := 7 * j + 5) C hb hX hbl hbA hS hL (nI_add (7 * j) 5) (by omega) dL_law_210 ?_
  refine lv_aload_n C.1 hb dL_law_211 rfl (lv_at hl 1 rfl) ?_
  refine lv_iload C.1 hb dL_law_212 (lv_at hl 5 rfl) ?_
  refine lv_bipush (v := 6) C.1 hb dL_law_214 (by decide) ?_
  refine lv_iadd C.1 hb dL_law_216 ?_
  refine ld_s (j := 7 * j + 6) C hb hX hbl hbA hS hL (nI_add (7 * j) 6) (by omega) dL_law_217 ?_
  refine run_wr (cRunM (As := [.int (xs (7 * j + 1)), .int (xs (7 * j + 2)), .int (xs (7 * j + 3)), .int (xs (7 * j + 4)), .int (xs (7 * j + 5)), .int (xs (7 * j + 6))]) (rest := []) C hb (hml.trans hl.1.symm) hP hS rfl (k_X1_add l g (wsOut (xR_add S n (xs (7 * j + 1)) (xs (7 * j + 2)) (xs (7 * j + 3)) (xs (7 * j + 4)) (xs (7 * j + 5)) (xs (7 * j + 6))) f) n w1 (xs (7 * j + 1)) (xs (7 * j + 2)) (xs (7 * j + 3)) (xs (7 * j + 4)) (xs (7 * j + 5)) (xs (7 * j + 6))) wm_90 wm_91 wm_92 wm_93 wm_5 (n := 6) (by decide +kernel) rfl ⟨rfl, rfl, Nat.le_of_ble_eq_true rfl, Nat.le_of_ble_eq_true rfl⟩ (Nat.le_of_ble_eq_true rfl) rfl ⟨by omega, by omega⟩ dL_law_218) hS (fun H locs hP hS => ?_)
  refine lv_istore (lv' := [(6, .int (mV_add (wsOut (xR_add S n (xs (7 * j + 1)) (xs (7 * j + 2)) (xs (7 * j + 3)) (xs (7 * j + 4)) (xs (7 * j + 5)) (xs (7 * j + 6))) f) n (xs (7 * j + 1)) (xs (7 * j + 2)) (xs (7 * j + 3)) (xs (7 * j + 4)) (xs (7 * j + 5)) (xs (7 * j + 6)))), (5, .int (cdE eIAE (xE_add S (xs (7 * j + 1)) (xs (7 * j + 2)) (xs (7 * j + 3)) (xs (7 * j + 4)) (xs (7 * j + 5)) (xs (7 * j + 6))))), (0, .ref b), (1, .ref (gA g 0)), (2, .ref (gA g 17)), (3, .ref (gA g 27)), (4, .int (nI (7 * j)))]) C.1 hb dL_law_221 hl (by decide) rfl (fun ls hl => ?_)
  refine lv_aload_n C.1 hb dL_law_223 rfl (lv_at hl 4 rfl) ?_
  refine run_rd (cRunM (As := []) (rest := []) C hb (hml.trans hl.1.symm) hP hS rfl (k_X1_thrown l g (mR_add (wsOut (xR_add S n (xs (7 * j + 1)) (xs (7 * j + 2)) (xs (7 * j + 3)) (xs (7 * j + 4)) (xs (7 * j + 5)) (xs (7 * j + 6))) f) n (xs (7 * j + 1)) (xs (7 * j + 2)) (xs (7 * j + 3)) (xs (7 * j + 4)) (xs (7 * j + 5)) (xs (7 * j + 6)))) wm_113 wm_114 wm_115 wm_116 wm_5 (n := 0) (by decide +kernel) rfl ⟨rfl, rfl, Nat.le_of_ble_eq_true rfl, Nat.le_of_ble_eq_true rfl⟩ (Nat.le_of_ble_eq_true rfl) rfl ⟨by omega, by omega⟩ dL_law_224) ?_
  refine toI w2 ?_
  refine lv_iload C.1 hb dL_law_227 (lv_at hl 1 rfl) ?_
  refine lv_icmp_eq (tgt := 234) C.1 hb dL_law_229 (by decide) (fun c234 => ?_) (fun c234 => ?_)
  · refine lv_iload C.1 hb dL_law_234 (lv_at hl 1 rfl) ?_
    refine lv_if_ne (tgt := 251) C.1 hb dL_law_236 (by decide) (fun c235 => ?_) (fun c235 => ?_)
    · refine lv_goto (tgt := 1183) C.1 hb dL_law_251 (by decide) ?_
      exact K _ (mR_add (wsOut (xR_add S n (xs (7 * j + 1)) (xs (7 * j + 2)) (xs (7 * j + 3)) (xs (7 * j + 4)) (xs (7 * j + 5)) (xs (7 * j + 6))) f) n (xs (7 * j + 1)) (xs (7 * j + 2)) (xs (7 * j + 3)) (xs (7 * j + 4)) (xs (7 * j + 5)) (xs (7 * j + 6))) H locs ls w4 hP hS (lv_sub hl [2, 3, 4, 5, 6] rfl)
    · have he := cdE_0 c235
      refine lv_aload_n C.1 hb dL_law_239 rfl (lv_at hl 5 rfl) ?_
      refine lv_iconst (v := 0) C.1 hb dL_law_240 (by decide) ?_
      refine ldO_out (j := 0) C hb hP (by decide) (by decide) dL_law_241 ?_
      refine toL ((congrFun w5 0).trans (hf he)) ?_
      refine lv_iload C.1 hb dL_law_242 (lv_at hl 0 rfl) ?_
      refine toI (w3 he).symm ?_
      refine lv_i2l C.1 hb dL_law_244 rfl ?_
      refine lc_eq (tgt := 251) C hb dL_law_245 dL_law_246 (by decide) (fun c236 => ?_) (fun c236 => ?_)
      · refine lv_goto (tgt := 1183) C.1 hb dL_law_251 (by decide) ?_
        exact K _ (mR_add (wsOut (xR_add S n (xs (7 * j + 1)) (xs (7 * j + 2)) (xs (7 * j + 3)) (xs (7 * j + 4)) (xs (7 * j + 5)) (xs (7 * j + 6))) f) n (xs (7 * j + 1)) (xs (7 * j + 2)) (xs (7 * j + 3)) (xs (7 * j + 4)) (xs (7 * j + 5)) (xs (7 * j + 6))) H locs ls w4 hP hS (lv_sub hl [2, 3, 4, 5, 6] rfl)
      · exact absurd rfl c236
  · exact absurd rfl c234

set_option maxRecDepth 100000 in
set_option maxHeartbeats 4000000 in
theorem law_c1 {p : Program} (l : Launch) (hl0 : l.stackTraces = false) {e : Env} {s : State} {m : MethodId} {below : List Frame} {meth : Method} {c : Code} {g : gG} {b L : Nat} {xs : Nat → Int32} (C : CW g RL p s m #[Value.ref b]) (hN : NcX s) (hb : c.code = cL_law) (hml : c.maxLocals = 8) (hX : va_X b L xs s s.heap) (hbl : b < s.heap.size) (hbA : ¬ Ab g b) (hL : L ≤ 3584) {j : Nat} (hj : 7 * j + 7 ≤ L) {cells slots : Nat} (hc : cells + 1 ≤ 617616) (hs : slots + 6 ≤ 7243256) {n : Nat} {S : WS} (hR : RR n S S) {H : Heap} {locs : List Loc} (hP : HW g S H) (hS : va_S (Ab g) s.heap H locs) {ls : Array Slot} (hl : lv_has ls 8 [(0, .ref b), (1, .ref (gA g 0)), (2, .ref (gA g 17)), (3, .ref (gA g 27)), (4, .int (nI (7 * j)))]) {Q : State → Prop} (K : ∀ (n : Nat) (S : WS) (H : Heap) (locs : List Loc) (ls : Array Slot), RR n S S → HW g S H → va_S (Ab g) s.heap H locs → lv_has ls 8 [(0, .ref b), (1, .ref (gA g 0)), (2, .ref (gA g 17)), (3, .ref (gA g 27)), (4, .int (nI (7 * j)))] → W p l e room_1 s m #[Value.ref b] below meth c H locs (cells + 1) (slots + 6) Q (F0 m 1183 ls [])) : W p l e room_1 s m #[Value.ref b] below meth c H locs cells slots Q (F0 m 254 ls []) := by
  have hc0 : cells + 1 ≤ room_1.cells := hc
  have hs0 : slots + 6 ≤ room_1.slots := hs
  refine lv_aload_n C.1 hb dL_law_254 rfl (lv_at hl 1 rfl) ?_
  refine lv_aload_n C.1 hb dL_law_255 rfl (lv_at hl 0 rfl) ?_
  refine lv_iload C.1 hb dL_law_256 (lv_at hl 4 rfl) ?_
  refine lv_iconst (v := 1) C.1 hb dL_law_258 (by decide) ?_
  refine lv_iadd C.1 hb dL_law_259 ?_
  refine ld_s (j := 7 * j + 1) C hb hX hbl hbA hS hL (nI_add (7 * j) 1) (by omega) dL_law_260 ?_
  refine lv_aload_n C.1 hb dL_law_261 rfl (lv_at hl 3 rfl) ?_
  refine run_L (cRunL (As := [.ref (gA g 0), .int (xs (7 * j + 1)), .ref (gA g 27)]) (rest := []) C hN hb (hml.trans hl.1.symm) hP hS (k_L_withdraw l hl0 g S n hR.1.1 (xs (7 * j + 1))) wm_117 wm_118 wm_119 wm_54 (n := 3) (by decide +kernel) rfl ⟨rfl, rfl, Nat.le_of_ble_eq_true rfl, Nat.le_of_ble_eq_true rfl⟩ (Nat.le_of_ble_eq_true rfl) rfl ⟨hc0, hs0⟩ dL_law_262) hS (fun f H locs hf hP hS => ?_)
  obtain ⟨w1, w2, w3, ⟨n2, w4⟩, w5⟩ := w_withdraw hR (xs (7 * j + 1)) f
  refine lv_istore (lv' := [(5, .int (cdE eIOB (xE_row S (xs (7 * j + 1))))), (0, .ref b), (1, .ref (gA g 0)), (2, .ref (gA g 17)), (3, .ref (gA g 27)), (4, .int (nI (7 * j)))]) C.1 hb dL_law_265 hl (by decide) rfl (fun ls hl => ?_)
  refine lv_aload_n C.1 hb dL_law_267 rfl (lv_at hl 3 rfl) ?_
  refine lv_aload_n C.1 hb dL_law_268 rfl (lv_at hl 1 rfl) ?_
  refine lv_iload C.1 hb dL_law_269 (lv_at hl 5 rfl) ?_
  refine lv_iconst (v := 1) C.1 hb dL_law_271 (by decide) ?_
  refine lv_iadd C.1 hb dL_law_272 ?_
  refine ld_s (j := 7 * j + 1) C hb hX hbl hbA hS hL (nI_add (7 * j) 1) (by omega) dL_law_273 ?_
  refine run_wr (cRunM (As := [.int (xs (7 * j + 1))]) (rest := []) C hb (hml.trans hl.1.symm) hP hS rfl (k_X1_withdraw l g (wsOut (xR_wd S n (xs (7 * j + 1))) f) n w1 (xs (7 * j + 1))) wm_131 wm_132 wm_133 wm_134 wm_5 (n := 1) (by decide +kernel) rfl ⟨rfl, rfl, Nat.le_of_ble_eq_true rfl, Nat.le_of_ble_eq_true rfl⟩ (Nat.le_of_ble_eq_true rfl) rfl ⟨by omega, by omega⟩ dL_law_274) hS (fun H locs hP hS => ?_)
  refine lv_istore (lv' := [(6, .int (mV_wd (wsOut (xR_wd S n (xs (7 * j + 1))) f) n (xs (7 * j + 1)))), (5, .int (cdE eIOB (xE_row S (xs (7 * j + 1))))), (0, .ref b), (1, .ref (gA g 0)), (2, .ref (gA g 17)), (3, .ref (gA g 27)), (4, .int (nI (7 * j)))]) C.1 hb dL_law_277 hl (by decide) rfl (fun ls hl => ?_)
  refine lv_aload_n C.1 hb dL_law_279 rfl (lv_at hl 4 rfl) ?_
  refine run_rd (cRunM (As := []) (rest := []) C hb (hml.trans hl.1.symm) hP hS rfl (k_X1_thrown l g (mR_wd (wsOut (xR_wd S n (xs (7 * j + 1))) f) (xs (7 * j + 1)))) wm_113 wm_114 wm_115 wm_116 wm_5 (n := 0) (by decide +kernel) rfl ⟨rfl, rfl, Nat.le_of_ble_eq_true rfl, Nat.le_of_ble_eq_true rfl⟩ (Nat.le_of_ble_eq_true rfl) rfl ⟨by omega, by omega⟩ dL_law_280) ?_
  refine toI w2 ?_
  refine lv_iload C.1 hb dL_law_283 (lv_at hl 1 rfl) ?_
  refine lv_icmp_eq (tgt := 290) C.1 hb dL_law_285 (by decide) (fun c237 => ?_) (fun c237 => ?_)
  · refine lv_iload C.1 hb dL_law_290 (lv_at hl 1 rfl) ?_
    refine lv_if_ne (tgt := 307) C.1 hb dL_law_292 (by decide) (fun c238 => ?_) (fun c238 => ?_)
    · refine lv_goto (tgt := 1183) C.1 hb dL_law_307 (by decide) ?_
      exact K _ (mR_wd (wsOut (xR_wd S n (xs (7 * j + 1))) f) (xs (7 * j + 1))) H locs ls w4 hP hS (lv_sub hl [2, 3, 4, 5, 6] rfl)
    · have he := cdE_0 c238
      refine lv_aload_n C.1 hb dL_law_295 rfl (lv_at hl 5 rfl) ?_
      refine lv_iconst (v := 0) C.1 hb dL_law_296 (by decide) ?_
      refine ldO_out (j := 0) C hb hP (by decide) (by decide) dL_law_297 ?_
      refine toL ((congrFun w5 0).trans (hf he)) ?_
      refine lv_iload C.1 hb dL_law_298 (lv_at hl 0 rfl) ?_
      refine toI (w3 he).symm ?_
      refine lv_i2l C.1 hb dL_law_300 rfl ?_
      refine lc_eq (tgt := 307) C hb dL_law_301 dL_law_302 (by decide) (fun c239 => ?_) (fun c239 => ?_)
      · refine lv_goto (tgt := 1183) C.1 hb dL_law_307 (by decide) ?_
        exact K _ (mR_wd (wsOut (xR_wd S n (xs (7 * j + 1))) f) (xs (7 * j + 1))) H locs ls w4 hP hS (lv_sub hl [2, 3, 4, 5, 6] rfl)
      · exact absurd rfl c239
  · exact absurd rfl c237

set_option maxRecDepth 100000 in
set_option maxHeartbeats 4000000 in
theorem law_c2 {p : Program} (l : Launch) (hl0 : l.stackTraces = false) {e : Env} {s : State} {m : MethodId} {below : List Frame} {meth : Method} {c : Code} {g : gG} {b L : Nat} {xs : Nat → Int32} (C : CW g RL p s m #[Value.ref b]) (hN : NcX s) (hb : c.code = cL_law) (hml : c.maxLocals = 8) (hX : va_X b L xs s s.heap) (hbl : b < s.heap.size) (hbA : ¬ Ab g b) (hL : L ≤ 3584) {j : Nat} (hj : 7 * j + 7 ≤ L) {cells slots : Nat} (hc : cells + 1 ≤ 617616) (hs : slots + 6 ≤ 7243256) {n : Nat} {S : WS} (hR : RR n S S) {H : Heap} {locs : List Loc} (hP : HW g S H) (hS : va_S (Ab g) s.heap H locs) {ls : Array Slot} (hl : lv_has ls 8 [(0, .ref b), (1, .ref (gA g 0)), (2, .ref (gA g 17)), (3, .ref (gA g 27)), (4, .int (nI (7 * j)))]) {Q : State → Prop} (K : ∀ (n : Nat) (S : WS) (H : Heap) (locs : List Loc) (ls : Array Slot), RR n S S → HW g S H → va_S (Ab g) s.heap H locs → lv_has ls 8 [(0, .ref b), (1, .ref (gA g 0)), (2, .ref (gA g 17)), (3, .ref (gA g 27)), (4, .int (nI (7 * j)))] → W p l e room_1 s m #[Value.ref b] below meth c H locs (cells + 1) (slots + 6) Q (F0 m 1183 ls [])) : W p l e room_1 s m #[Value.ref b] below meth c H locs cells slots Q (F0 m 310 ls []) := by
  have hc0 : cells + 1 ≤ room_1.cells := hc
  have hs0 : slots + 6 ≤ room_1.slots := hs
  refine lv_aload_n C.1 hb dL_law_310 rfl (lv_at hl 1 rfl) ?_
  refine lv_aload_n C.1 hb dL_law_311 rfl (lv_at hl 0 rfl) ?_
  refine lv_iload C.1 hb dL_law_312 (lv_at hl 4 rfl) ?_
  refine lv_iconst (v := 1) C.1 hb dL_law_314 (by decide) ?_
  refine lv_iadd C.1 hb dL_law_315 ?_
  refine ld_s (j := 7 * j + 1) C hb hX hbl hbA hS hL (nI_add (7 * j) 1) (by omega) dL_law_316 ?_
  refine lv_aload_n C.1 hb dL_law_317 rfl (lv_at hl 0 rfl) ?_
  refine lv_iload C.1 hb dL_law_318 (lv_at hl 4 rfl) ?_
  refine lv_iconst (v := 2) C.1 hb dL_law_320 (by decide) ?_
  refine lv_iadd C.1 hb dL_law_321 ?_
  refine ld_s (j := 7 * j + 2) C hb hX hbl hbA hS hL (nI_add (7 * j) 2) (by omega) dL_law_322 ?_
  refine lv_aload_n C.1 hb dL_law_323 rfl (lv_at hl 3 rfl) ?_
  refine run_L (cRunL (As := [.ref (gA g 0), .int (xs (7 * j + 1)), .int (xs (7 * j + 2)), .ref (gA g 27)]) (rest := []) C hN hb (hml.trans hl.1.symm) hP hS (k_L_setOld l hl0 g S n hR.1.1 (xs (7 * j + 1)) (xs (7 * j + 2))) wm_143 wm_144 wm_145 wm_54 (n := 4) (by decide +kernel) rfl ⟨rfl, rfl, Nat.le_of_ble_eq_true rfl, Nat.le_of_ble_eq_true rfl⟩ (Nat.le_of_ble_eq_true rfl) rfl ⟨hc0, hs0⟩ dL_law_324) hS (fun f H locs hf hP hS => ?_)
  obtain ⟨w1, w2, w3, ⟨n2, w4⟩, w5⟩ := w_setOld hR (xs (7 * j + 1)) (xs (7 * j + 2)) f
  refine lv_istore (lv' := [(5, .int (cdE eIOB (xE_old S (xs (7 * j + 1)) (xs (7 * j + 2))))), (0, .ref b), (1, .ref (gA g 0)), (2, .ref (gA g 17)), (3, .ref (gA g 27)), (4, .int (nI (7 * j)))]) C.1 hb dL_law_327 hl (by decide) rfl (fun ls hl => ?_)
  refine lv_aload_n C.1 hb dL_law_329 rfl (lv_at hl 3 rfl) ?_
  refine lv_aload_n C.1 hb dL_law_330 rfl (lv_at hl 1 rfl) ?_
  refine lv_iload C.1 hb dL_law_331 (lv_at hl 5 rfl) ?_
  refine lv_iconst (v := 1) C.1 hb dL_law_333 (by decide) ?_
  refine lv_iadd C.1 hb dL_law_334 ?_
  refine ld_s (j := 7 * j + 1) C hb hX hbl hbA hS hL (nI_add (7 * j) 1) (by omega) dL_law_335 ?_
  refine lv_aload_n C.1 hb dL_law_336 rfl (lv_at hl 1 rfl) ?_
  refine lv_iload C.1 hb dL_law_337 (lv_at hl 5 rfl) ?_
  refine lv_iconst (v := 2) C.1 hb dL_law_339 (by decide) ?_
  refine lv_iadd C.1 hb dL_law_340 ?_
  refine ld_s (j := 7 * j + 2) C hb hX hbl hbA hS hL (nI_add (7 * j) 2) (by omega) dL_law_341 ?_
  refine run_wr (cRunM (As := [.int (xs (7 * j + 1)), .int (xs (7 * j + 2))]) (rest := []) C hb (hml.trans hl.1.symm) hP hS rfl (k_X1_setOld l g (wsOut (xR_old S (xs (7 * j + 1)) (xs (7 * j + 2))) f) n w1 (xs (7 * j + 1)) (xs (7 * j + 2))) wm_151 wm_152 wm_153 wm_154 wm_5 (n := 2) (by decide +kernel) rfl ⟨rfl, rfl, Nat.le_of_ble_eq_true rfl, Nat.le_of_ble_eq_true rfl⟩ (Nat.le_of_ble_eq_true rfl) rfl ⟨by omega, by omega⟩ dL_law_342) hS (fun H locs hP hS => ?_)
  refine lv_istore (lv' := [(6, .int (mV_old (wsOut (xR_old S (xs (7 * j + 1)) (xs (7 * j + 2))) f) (xs (7 * j + 1)) (xs (7 * j + 2)))), (5, .int (cdE eIOB (xE_old S (xs (7 * j + 1)) (xs (7 * j + 2))))), (0, .ref b), (1, .ref (gA g 0)), (2, .ref (gA g 17)), (3, .ref (gA g 27)), (4, .int (nI (7 * j)))]) C.1 hb dL_law_345 hl (by decide) rfl (fun ls hl => ?_)
  refine lv_aload_n C.1 hb dL_law_347 rfl (lv_at hl 4 rfl) ?_
  refine run_rd (cRunM (As := []) (rest := []) C hb (hml.trans hl.1.symm) hP hS rfl (k_X1_thrown l g (mR_old (wsOut (xR_old S (xs (7 * j + 1)) (xs (7 * j + 2))) f) (xs (7 * j + 1)) (xs (7 * j + 2)))) wm_113 wm_114 wm_115 wm_116 wm_5 (n := 0) (by decide +kernel) rfl ⟨rfl, rfl, Nat.le_of_ble_eq_true rfl, Nat.le_of_ble_eq_true rfl⟩ (Nat.le_of_ble_eq_true rfl) rfl ⟨by omega, by omega⟩ dL_law_348) ?_
  refine toI w2 ?_
  refine lv_iload C.1 hb dL_law_351 (lv_at hl 1 rfl) ?_
  refine lv_icmp_eq (tgt := 358) C.1 hb dL_law_353 (by decide) (fun c240 => ?_) (fun c240 => ?_)
  · refine lv_iload C.1 hb dL_law_358 (lv_at hl 1 rfl) ?_
    refine lv_if_ne (tgt := 375) C.1 hb dL_law_360 (by decide) (fun c241 => ?_) (fun c241 => ?_)
    · refine lv_goto (tgt := 1183) C.1 hb dL_law_375 (by decide) ?_
      exact K _ (mR_old (wsOut (xR_old S (xs (7 * j + 1)) (xs (7 * j + 2))) f) (xs (7 * j + 1)) (xs (7 * j + 2))) H locs ls w4 hP hS (lv_sub hl [2, 3, 4, 5, 6] rfl)
    · have he := cdE_0 c241
      refine lv_aload_n C.1 hb dL_law_363 rfl (lv_at hl 5 rfl) ?_
      refine lv_iconst (v := 0) C.1 hb dL_law_364 (by decide) ?_
      refine ldO_out (j := 0) C hb hP (by decide) (by decide) dL_law_365 ?_
      refine toL ((congrFun w5 0).trans (hf he)) ?_
      refine lv_iload C.1 hb dL_law_366 (lv_at hl 0 rfl) ?_
      refine toI (w3 he).symm ?_
      refine lv_i2l C.1 hb dL_law_368 rfl ?_
      refine lc_eq (tgt := 375) C hb dL_law_369 dL_law_370 (by decide) (fun c242 => ?_) (fun c242 => ?_)
      · refine lv_goto (tgt := 1183) C.1 hb dL_law_375 (by decide) ?_
        exact K _ (mR_old (wsOut (xR_old S (xs (7 * j + 1)) (xs (7 * j + 2))) f) (xs (7 * j + 1)) (xs (7 * j + 2))) H locs ls w4 hP hS (lv_sub hl [2, 3, 4, 5, 6] rfl)
      · exact absurd rfl c242
  · exact absurd rfl c240

set_option maxRecDepth 100000 in
set_option maxHeartbeats 4000000 in
theorem law_c3 {p : Program} (l : Launch) (hl0 : l.stackTraces = false) {e : Env} {s : State} {m : MethodId} {below : List Frame} {meth : Method} {c : Code} {g : gG} {b L : Nat} {xs : Nat → Int32} (C : CW g RL p s m #[Value.ref b]) (hN : NcX s) (hb : c.code = cL_law) (hml : c.maxLocals = 8) (hX : va_X b L xs s s.heap) (hbl : b < s.heap.size) (hbA : ¬ Ab g b) (hL : L ≤ 3584) {j : Nat} (hj : 7 * j + 7 ≤ L) {cells slots : Nat} (hc : cells + 1 ≤ 617616) (hs : slots + 6 ≤ 7243256) {n : Nat} {S : WS} (hR : RR n S S) {H : Heap} {locs : List Loc} (hP : HW g S H) (hS : va_S (Ab g) s.heap H locs) {ls : Array Slot} (hl : lv_has ls 8 [(0, .ref b), (1, .ref (gA g 0)), (2, .ref (gA g 17)), (3, .ref (gA g 27)), (4, .int (nI (7 * j)))]) {Q : State → Prop} (K : ∀ (n : Nat) (S : WS) (H : Heap) (locs : List Loc) (ls : Array Slot), RR n S S → HW g S H → va_S (Ab g) s.heap H locs → lv_has ls 8 [(0, .ref b), (1, .ref (gA g 0)), (2, .ref (gA g 17)), (3, .ref (gA g 27)), (4, .int (nI (7 * j)))] → W p l e room_1 s m #[Value.ref b] below meth c H locs (cells + 1) (slots + 6) Q (F0 m 1183 ls [])) : W p l e room_1 s m #[Value.ref b] below meth c H locs cells slots Q (F0 m 378 ls []) := by
  have hc0 : cells + 1 ≤ room_1.cells := hc
  have hs0 : slots + 6 ≤ room_1.slots := hs
  refine lv_aload_n C.1 hb dL_law_378 rfl (lv_at hl 1 rfl) ?_
  refine lv_aload_n C.1 hb dL_law_379 rfl (lv_at hl 0 rfl) ?_
  refine lv_iload C.1 hb dL_law_380 (lv_at hl 4 rfl) ?_
  refine lv_iconst (v := 1) C.1 hb dL_law_382 (by decide) ?_
  refine lv_iadd C.1 hb dL_law_383 ?_
  refine ld_s (j := 7 * j + 1) C hb hX hbl hbA hS hL (nI_add (7 * j) 1) (by omega) dL_law_384 ?_
  refine lv_aload_n C.1 hb dL_law_385 rfl (lv_at hl 0 rfl) ?_
  refine lv_iload C.1 hb dL_law_386 (lv_at hl 4 rfl) ?_
  refine lv_iconst (v := 2) C.1 hb dL_law_388 (by decide) ?_
  refine lv_iadd C.1 hb dL_law_389 ?_
  refine ld_s (j := 7 * j + 2) C hb hX hbl hbA hS hL (nI_add (7 * j) 2) (by omega) dL_law_390 ?_
  refine lv_aload_n C.1 hb dL_law_391 rfl (lv_at hl 3 rfl) ?_
  refine run_L (cRunL (As := [.ref (gA g 0), .int (xs (7 * j + 1)), .int (xs (7 * j + 2)), .ref (gA g 27)]) (rest := []) C hN hb (hml.trans hl.1.symm) hP hS (k_L_setRules l hl0 g S (xs (7 * j + 1)) (xs (7 * j + 2))) wm_156 wm_157 wm_158 wm_54 (n := 4) (by decide +kernel) rfl ⟨rfl, rfl, Nat.le_of_ble_eq_true rfl, Nat.le_of_ble_eq_true rfl⟩ (Nat.le_of_ble_eq_true rfl) rfl ⟨hc0, hs0⟩ dL_law_392) hS (fun f H locs hf hP hS => ?_)
  obtain ⟨w1, w2, w3, ⟨n2, w4⟩, w5⟩ := w_setRules hR (xs (7 * j + 1)) (xs (7 * j + 2)) f
  refine lv_istore (lv' := [(5, .int (cdE eIAE (xE_rules (xs (7 * j + 1)) (xs (7 * j + 2))))), (0, .ref b), (1, .ref (gA g 0)), (2, .ref (gA g 17)), (3, .ref (gA g 27)), (4, .int (nI (7 * j)))]) C.1 hb dL_law_395 hl (by decide) rfl (fun ls hl => ?_)
  refine lv_aload_n C.1 hb dL_law_397 rfl (lv_at hl 3 rfl) ?_
  refine lv_aload_n C.1 hb dL_law_398 rfl (lv_at hl 1 rfl) ?_
  refine lv_iload C.1 hb dL_law_399 (lv_at hl 5 rfl) ?_
  refine lv_iconst (v := 1) C.1 hb dL_law_401 (by decide) ?_
  refine lv_iadd C.1 hb dL_law_402 ?_
  refine ld_s (j := 7 * j + 1) C hb hX hbl hbA hS hL (nI_add (7 * j) 1) (by omega) dL_law_403 ?_
  refine lv_aload_n C.1 hb dL_law_404 rfl (lv_at hl 1 rfl) ?_
  refine lv_iload C.1 hb dL_law_405 (lv_at hl 5 rfl) ?_
  refine lv_iconst (v := 2) C.1 hb dL_law_407 (by decide) ?_
  refine lv_iadd C.1 hb dL_law_408 ?_
  refine ld_s (j := 7 * j + 2) C hb hX hbl hbA hS hL (nI_add (7 * j) 2) (by omega) dL_law_409 ?_
  refine run_wr (cRunM (As := [.int (xs (7 * j + 1)), .int (xs (7 * j + 2))]) (rest := []) C hb (hml.trans hl.1.symm) hP hS rfl (k_X1_setRules l g (wsOut (xR_rules S (xs (7 * j + 1)) (xs (7 * j + 2))) f) (xs (7 * j + 1)) (xs (7 * j + 2))) wm_163 wm_164 wm_165 wm_166 wm_5 (n := 2) (by decide +kernel) rfl ⟨rfl, rfl, Nat.le_of_ble_eq_true rfl, Nat.le_of_ble_eq_true rfl⟩ (Nat.le_of_ble_eq_true rfl) rfl ⟨by omega, by omega⟩ dL_law_410) hS (fun H locs hP hS => ?_)
  refine lv_istore (lv' := [(6, .int (mV_rules (wsOut (xR_rules S (xs (7 * j + 1)) (xs (7 * j + 2))) f) (xs (7 * j + 1)) (xs (7 * j + 2)))), (5, .int (cdE eIAE (xE_rules (xs (7 * j + 1)) (xs (7 * j + 2))))), (0, .ref b), (1, .ref (gA g 0)), (2, .ref (gA g 17)), (3, .ref (gA g 27)), (4, .int (nI (7 * j)))]) C.1 hb dL_law_413 hl (by decide) rfl (fun ls hl => ?_)
  refine lv_aload_n C.1 hb dL_law_415 rfl (lv_at hl 4 rfl) ?_
  refine run_rd (cRunM (As := []) (rest := []) C hb (hml.trans hl.1.symm) hP hS rfl (k_X1_thrown l g (mR_rules (wsOut (xR_rules S (xs (7 * j + 1)) (xs (7 * j + 2))) f) (xs (7 * j + 1)) (xs (7 * j + 2)))) wm_113 wm_114 wm_115 wm_116 wm_5 (n := 0) (by decide +kernel) rfl ⟨rfl, rfl, Nat.le_of_ble_eq_true rfl, Nat.le_of_ble_eq_true rfl⟩ (Nat.le_of_ble_eq_true rfl) rfl ⟨by omega, by omega⟩ dL_law_416) ?_
  refine toI w2 ?_
  refine lv_iload C.1 hb dL_law_419 (lv_at hl 1 rfl) ?_
  refine lv_icmp_eq (tgt := 426) C.1 hb dL_law_421 (by decide) (fun c243 => ?_) (fun c243 => ?_)
  · refine lv_iload C.1 hb dL_law_426 (lv_at hl 1 rfl) ?_
    refine lv_if_ne (tgt := 443) C.1 hb dL_law_428 (by decide) (fun c244 => ?_) (fun c244 => ?_)
    · refine lv_goto (tgt := 1183) C.1 hb dL_law_443 (by decide) ?_
      exact K _ (mR_rules (wsOut (xR_rules S (xs (7 * j + 1)) (xs (7 * j + 2))) f) (xs (7 * j + 1)) (xs (7 * j + 2))) H locs ls w4 hP hS (lv_sub hl [2, 3, 4, 5, 6] rfl)
    · have he := cdE_0 c244
      refine lv_aload_n C.1 hb dL_law_431 rfl (lv_at hl 5 rfl) ?_
      refine lv_iconst (v := 0) C.1 hb dL_law_432 (by decide) ?_
      refine ldO_out (j := 0) C hb hP (by decide) (by decide) dL_law_433 ?_
      refine toL ((congrFun w5 0).trans (hf he)) ?_
      refine lv_iload C.1 hb dL_law_434 (lv_at hl 0 rfl) ?_
      refine toI (w3 he).symm ?_
      refine lv_i2l C.1 hb dL_law_436 rfl ?_
      refine lc_eq (tgt := 443) C hb dL_law_437 dL_law_438 (by decide) (fun c245 => ?_) (fun c245 => ?_)
      · refine lv_goto (tgt := 1183) C.1 hb dL_law_443 (by decide) ?_
        exact K _ (mR_rules (wsOut (xR_rules S (xs (7 * j + 1)) (xs (7 * j + 2))) f) (xs (7 * j + 1)) (xs (7 * j + 2))) H locs ls w4 hP hS (lv_sub hl [2, 3, 4, 5, 6] rfl)
      · exact absurd rfl c245
  · exact absurd rfl c243

set_option maxRecDepth 100000 in
set_option maxHeartbeats 4000000 in
theorem law_c4 {p : Program} (l : Launch) (hl0 : l.stackTraces = false) {e : Env} {s : State} {m : MethodId} {below : List Frame} {meth : Method} {c : Code} {g : gG} {b L : Nat} {xs : Nat → Int32} (C : CW g RL p s m #[Value.ref b]) (hN : NcX s) (hb : c.code = cL_law) (hml : c.maxLocals = 8) (hX : va_X b L xs s s.heap) (hbl : b < s.heap.size) (hbA : ¬ Ab g b) (hL : L ≤ 3584) {j : Nat} (hj : 7 * j + 7 ≤ L) {cells slots : Nat} (hc : cells + 1 ≤ 617616) (hs : slots + 6 ≤ 7243256) {n : Nat} {S : WS} (hR : RR n S S) {H : Heap} {locs : List Loc} (hP : HW g S H) (hS : va_S (Ab g) s.heap H locs) {ls : Array Slot} (hl : lv_has ls 8 [(0, .ref b), (1, .ref (gA g 0)), (2, .ref (gA g 17)), (3, .ref (gA g 27)), (4, .int (nI (7 * j)))]) {Q : State → Prop} (K : ∀ (n : Nat) (S : WS) (H : Heap) (locs : List Loc) (ls : Array Slot), RR n S S → HW g S H → va_S (Ab g) s.heap H locs → lv_has ls 8 [(0, .ref b), (1, .ref (gA g 0)), (2, .ref (gA g 17)), (3, .ref (gA g 27)), (4, .int (nI (7 * j)))] → W p l e room_1 s m #[Value.ref b] below meth c H locs (cells + 1) (slots + 6) Q (F0 m 1183 ls [])) : W p l e room_1 s m #[Value.ref b] below meth c H locs cells slots Q (F0 m 446 ls []) := by
  have hc0 : cells + 1 ≤ room_1.cells := hc
  have hs0 : slots + 6 ≤ room_1.slots := hs
  refine lv_aload_n C.1 hb dL_law_446 rfl (lv_at hl 1 rfl) ?_
  refine lv_aload_n C.1 hb dL_law_447 rfl (lv_at hl 0 rfl) ?_
  refine lv_iload C.1 hb dL_law_448 (lv_at hl 4 rfl) ?_
  refine lv_iconst (v := 1) C.1 hb dL_law_450 (by decide) ?_
  refine lv_iadd C.1 hb dL_law_451 ?_
  refine ld_s (j := 7 * j + 1) C hb hX hbl hbA hS hL (nI_add (7 * j) 1) (by omega) dL_law_452 ?_
  refine lv_aload_n C.1 hb dL_law_453 rfl (lv_at hl 0 rfl) ?_
  refine lv_iload C.1 hb dL_law_454 (lv_at hl 4 rfl) ?_
  refine lv_iconst (v := 2) C.1 hb dL_law_456 (by decide) ?_
  refine lv_iadd C.1 hb dL_law_457 ?_
  refine ld_s (j := 7 * j + 2) C hb hX hbl hbA hS hL (nI_add (7 * j) 2) (by omega) dL_law_458 ?_
  refine lv_aload_n C.1 hb dL_law_459 rfl (lv_at hl 0 rfl) ?_
  refine lv_iload C.1 hb dL_law_460 (lv_at hl 4 rfl) ?_
  refine lv_iconst (v := 3) C.1 hb dL_law_462 (by decide) ?_
  refine lv_iadd C.1 hb dL_law_463 ?_
  refine ld_s (j := 7 * j + 3) C hb hX hbl hbA hS hL (nI_add (7 * j) 3) (by omega) dL_law_464 ?_
  refine lv_aload_n C.1 hb dL_law_465 rfl (lv_at hl 3 rfl) ?_
  refine run_L (cRunL (As := [.ref (gA g 0), .int (xs (7 * j + 1)), .int (xs (7 * j + 2)), .int (xs (7 * j + 3)), .ref (gA g 27)]) (rest := []) C hN hb (hml.trans hl.1.symm) hP hS (k_L_setFactor l hl0 g S n hR.1.1 (xs (7 * j + 1)) (xs (7 * j + 2)) (xs (7 * j + 3))) wm_168 wm_169 wm_170 wm_54 (n := 5) (by decide +kernel) rfl ⟨rfl, rfl, Nat.le_of_ble_eq_true rfl, Nat.le_of_ble_eq_true rfl⟩ (Nat.le_of_ble_eq_true rfl) rfl ⟨hc0, hs0⟩ dL_law_466) hS (fun f H locs hf hP hS => ?_)
  obtain ⟨w1, w2, w3, ⟨n2, w4⟩, w5⟩ := w_setFactor hR (xs (7 * j + 1)) (xs (7 * j + 2)) (xs (7 * j + 3)) f
  refine lv_istore (lv' := [(5, .int (cdE eIOB (xE_fac (xs (7 * j + 1)) (xs (7 * j + 2)) (xs (7 * j + 3))))), (0, .ref b), (1, .ref (gA g 0)), (2, .ref (gA g 17)), (3, .ref (gA g 27)), (4, .int (nI (7 * j)))]) C.1 hb dL_law_469 hl (by decide) rfl (fun ls hl => ?_)
  refine lv_aload_n C.1 hb dL_law_471 rfl (lv_at hl 3 rfl) ?_
  refine lv_aload_n C.1 hb dL_law_472 rfl (lv_at hl 1 rfl) ?_
  refine lv_iload C.1 hb dL_law_473 (lv_at hl 5 rfl) ?_
  refine lv_iconst (v := 1) C.1 hb dL_law_475 (by decide) ?_
  refine lv_iadd C.1 hb dL_law_476 ?_
  refine ld_s (j := 7 * j + 1) C hb hX hbl hbA hS hL (nI_add (7 * j) 1) (by omega) dL_law_477 ?_
  refine lv_aload_n C.1 hb dL_law_478 rfl (lv_at hl 1 rfl) ?_
  refine lv_iload C.1 hb dL_law_479 (lv_at hl 5 rfl) ?_
  refine lv_iconst (v := 2) C.1 hb dL_law_481 (by decide) ?_
  refine lv_iadd C.1 hb dL_law_482 ?_
  refine ld_s (j := 7 * j + 2) C hb hX hbl hbA hS hL (nI_add (7 * j) 2) (by omega) dL_law_483 ?_
  refine lv_aload_n C.1 hb dL_law_484 rfl (lv_at hl 1 rfl) ?_
  refine lv_iload C.1 hb dL_law_485 (lv_at hl 5 rfl) ?_
  refine lv_iconst (v := 3) C.1 hb dL_law_487 (by decide) ?_
  refine lv_iadd C.1 hb dL_law_488 ?_
  refine ld_s (j := 7 * j + 3) C hb hX hbl hbA hS hL (nI_add (7 * j) 3) (by omega) dL_law_489 ?_
  refine run_wr (cRunM (As := [.int (xs (7 * j + 1)), .int (xs (7 * j + 2)), .int (xs (7 * j + 3))]) (rest := []) C hb (hml.trans hl.1.symm) hP hS rfl (k_X1_setFactor l g (wsOut (xR_fac S n (xs (7 * j + 1)) (xs (7 * j + 2)) (xs (7 * j + 3))) f) (xs (7 * j + 1)) (xs (7 * j + 2)) (xs (7 * j + 3))) wm_176 wm_177 wm_178 wm_179 wm_5 (n := 3) (by decide +kernel) rfl ⟨rfl, rfl, Nat.le_of_ble_eq_true rfl, Nat.le_of_ble_eq_true rfl⟩ (Nat.le_of_ble_eq_true rfl) rfl ⟨by omega, by omega⟩ dL_law_490) hS (fun H locs hP hS => ?_)
  refine lv_istore (lv' := [(6, .int (mV_fac (wsOut (xR_fac S n (xs (7 * j + 1)) (xs (7 * j + 2)) (xs (7 * j + 3))) f) (xs (7 * j + 1)) (xs (7 * j + 2)) (xs (7 * j + 3)))), (5, .int (cdE eIOB (xE_fac (xs (7 * j + 1)) (xs (7 * j + 2)) (xs (7 * j + 3))))), (0, .ref b), (1, .ref (gA g 0)), (2, .ref (gA g 17)), (3, .ref (gA g 27)), (4, .int (nI (7 * j)))]) C.1 hb dL_law_493 hl (by decide) rfl (fun ls hl => ?_)
  refine lv_aload_n C.1 hb dL_law_495 rfl (lv_at hl 4 rfl) ?_
  refine run_rd (cRunM (As := []) (rest := []) C hb (hml.trans hl.1.symm) hP hS rfl (k_X1_thrown l g (mR_fac (wsOut (xR_fac S n (xs (7 * j + 1)) (xs (7 * j + 2)) (xs (7 * j + 3))) f) (xs (7 * j + 1)) (xs (7 * j + 2)) (xs (7 * j + 3)))) wm_113 wm_114 wm_115 wm_116 wm_5 (n := 0) (by decide +kernel) rfl ⟨rfl, rfl, Nat.le_of_ble_eq_true rfl, Nat.le_of_ble_eq_true rfl⟩ (Nat.le_of_ble_eq_true rfl) rfl ⟨by omega, by omega⟩ dL_law_496) ?_
  refine toI w2 ?_
  refine lv_iload C.1 hb dL_law_499 (lv_at hl 1 rfl) ?_
  refine lv_icmp_eq (tgt := 506) C.1 hb dL_law_501 (by decide) (fun c246 => ?_) (fun c246 => ?_)
  · refine lv_iload C.1 hb dL_law_506 (lv_at hl 1 rfl) ?_
    refine lv_if_ne (tgt := 523) C.1 hb dL_law_508 (by decide) (fun c247 => ?_) (fun c247 => ?_)
    · refine lv_goto (tgt := 1183) C.1 hb dL_law_523 (by decide) ?_
      exact K _ (mR_fac (wsOut (xR_fac S n (xs (7 * j + 1)) (xs (7 * j + 2)) (xs (7 * j + 3))) f) (xs (7 * j + 1)) (xs (7 * j + 2)) (xs (7 * j + 3))) H locs ls w4 hP hS (lv_sub hl [2, 3, 4, 5, 6] rfl)
    · have he := cdE_0 c247
      refine lv_aload_n C.1 hb dL_law_511 rfl (lv_at hl 5 rfl) ?_
      refine lv_iconst (v := 0) C.1 hb dL_law_512 (by decide) ?_
      refine ldO_out (j := 0) C hb hP (by decide) (by decide) dL_law_513 ?_
      refine toL ((congrFun w5 0).trans (hf he)) ?_
      refine lv_iload C.1 hb dL_law_514 (lv_at hl 0 rfl) ?_
      refine toI (w3 he).symm ?_
      refine lv_i2l C.1 hb dL_law_516 rfl ?_
      refine lc_eq (tgt := 523) C hb dL_law_517 dL_law_518 (by decide) (fun c248 => ?_) (fun c248 => ?_)
      · refine lv_goto (tgt := 1183) C.1 hb dL_law_523 (by decide) ?_
        exact K _ (mR_fac (wsOut (xR_fac S n (xs (7 * j + 1)) (xs (7 * j + 2)) (xs (7 * j + 3))) f) (xs (7 * j + 1)) (xs (7 * j + 2)) (xs (7 * j + 3))) H locs ls w4 hP hS (lv_sub hl [2, 3, 4, 5, 6] rfl)
      · exact absurd rfl c248
  · exact absurd rfl c246

set_option maxRecDepth 100000 in
set_option maxHeartbeats 4000000 in
theorem law_c5 {p : Program} (l : Launch) (hl0 : l.stackTraces = false) {e : Env} {s : State} {m : MethodId} {below : List Frame} {meth : Method} {c : Code} {g : gG} {b L : Nat} {xs : Nat → Int32} (C : CW g RL p s m #[Value.ref b]) (hN : NcX s) (hb : c.code = cL_law) (hml : c.maxLocals = 8) (hX : va_X b L xs s s.heap) (hbl : b < s.heap.size) (hbA : ¬ Ab g b) (hL : L ≤ 3584) {j : Nat} (hj : 7 * j + 7 ≤ L) {cells slots : Nat} (hc : cells + 1 ≤ 617616) (hs : slots + 6 ≤ 7243256) {n : Nat} {S : WS} (hR : RR n S S) {H : Heap} {locs : List Loc} (hP : HW g S H) (hS : va_S (Ab g) s.heap H locs) {ls : Array Slot} (hl : lv_has ls 8 [(0, .ref b), (1, .ref (gA g 0)), (2, .ref (gA g 17)), (3, .ref (gA g 27)), (4, .int (nI (7 * j)))]) {Q : State → Prop} (K : ∀ (n : Nat) (S : WS) (H : Heap) (locs : List Loc) (ls : Array Slot), RR n S S → HW g S H → va_S (Ab g) s.heap H locs → lv_has ls 8 [(0, .ref b), (1, .ref (gA g 0)), (2, .ref (gA g 17)), (3, .ref (gA g 27)), (4, .int (nI (7 * j)))] → W p l e room_1 s m #[Value.ref b] below meth c H locs (cells + 1) (slots + 6) Q (F0 m 1183 ls [])) : W p l e room_1 s m #[Value.ref b] below meth c H locs cells slots Q (F0 m 526 ls []) := by
  have hc0 : cells + 1 ≤ room_1.cells := hc
  have hs0 : slots + 6 ≤ room_1.slots := hs
  refine lv_aload_n C.1 hb dL_law_526 rfl (lv_at hl 1 rfl) ?_
  refine lv_aload_n C.1 hb dL_law_527 rfl (lv_at hl 0 rfl) ?_
  refine lv_iload C.1 hb dL_law_528 (lv_at hl 4 rfl) ?_
  refine lv_iconst (v := 1) C.1 hb dL_law_530 (by decide) ?_
  refine lv_iadd C.1 hb dL_law_531 ?_
  refine ld_s (j := 7 * j + 1) C hb hX hbl hbA hS hL (nI_add (7 * j) 1) (by omega) dL_law_532 ?_
  refine lv_aload_n C.1 hb dL_law_533 rfl (lv_at hl 3 rfl) ?_
  refine run_L (cRunL (As := [.ref (gA g 0), .int (xs (7 * j + 1)), .ref (gA g 27)]) (rest := []) C hN hb (hml.trans hl.1.symm) hP hS (k_L_pass l hl0 g S n hR.1.1 (xs (7 * j + 1))) wm_181 wm_182 wm_183 wm_54 (n := 3) (by decide +kernel) rfl ⟨rfl, rfl, Nat.le_of_ble_eq_true rfl, Nat.le_of_ble_eq_true rfl⟩ (Nat.le_of_ble_eq_true rfl) rfl ⟨hc0, hs0⟩ dL_law_534) hS (fun f H locs hf hP hS => ?_)
  obtain ⟨w1, w2, w3, ⟨n2, w4⟩, w5⟩ := w_pass hR (xs (7 * j + 1)) f
  refine lv_istore (lv' := [(5, .int (cdE eIOB (xE_trait (xs (7 * j + 1))))), (0, .ref b), (1, .ref (gA g 0)), (2, .ref (gA g 17)), (3, .ref (gA g 27)), (4, .int (nI (7 * j)))]) C.1 hb dL_law_537 hl (by decide) rfl (fun ls hl => ?_)
  refine lv_aload_n C.1 hb dL_law_539 rfl (lv_at hl 3 rfl) ?_
  refine lv_aload_n C.1 hb dL_law_540 rfl (lv_at hl 1 rfl) ?_
  refine lv_iload C.1 hb dL_law_541 (lv_at hl 5 rfl) ?_
  refine lv_iconst (v := 1) C.1 hb dL_law_543 (by decide) ?_
  refine lv_iadd C.1 hb dL_law_544 ?_
  refine ld_s (j := 7 * j + 1) C hb hX hbl hbA hS hL (nI_add (7 * j) 1) (by omega) dL_law_545 ?_
  refine run_wr (cRunM (As := [.int (xs (7 * j + 1))]) (rest := []) C hb (hml.trans hl.1.symm) hP hS rfl (k_X1_pass l g (wsOut (xR_pass S n (xs (7 * j + 1))) f) n w1 (xs (7 * j + 1))) wm_212 wm_213 wm_214 wm_215 wm_5 (n := 1) (by decide +kernel) rfl ⟨rfl, rfl, Nat.le_of_ble_eq_true rfl, Nat.le_of_ble_eq_true rfl⟩ (Nat.le_of_ble_eq_true rfl) rfl ⟨by omega, by omega⟩ dL_law_546) hS (fun H locs hP hS => ?_)
  refine lv_istore (lv' := [(6, .int (mV_pass (wsOut (xR_pass S n (xs (7 * j + 1))) f) n (xs (7 * j + 1)))), (5, .int (cdE eIOB (xE_trait (xs (7 * j + 1))))), (0, .ref b), (1, .ref (gA g 0)), (2, .ref (gA g 17)), (3, .ref (gA g 27)), (4, .int (nI (7 * j)))]) C.1 hb dL_law_549 hl (by decide) rfl (fun ls hl => ?_)
  refine lv_aload_n C.1 hb dL_law_551 rfl (lv_at hl 4 rfl) ?_
  refine run_rd (cRunM (As := []) (rest := []) C hb (hml.trans hl.1.symm) hP hS rfl (k_X1_thrown l g (mR_pass (wsOut (xR_pass S n (xs (7 * j + 1))) f) n (xs (7 * j + 1)))) wm_113 wm_114 wm_115 wm_116 wm_5 (n := 0) (by decide +kernel) rfl ⟨rfl, rfl, Nat.le_of_ble_eq_true rfl, Nat.le_of_ble_eq_true rfl⟩ (Nat.le_of_ble_eq_true rfl) rfl ⟨by omega, by omega⟩ dL_law_552) ?_
  refine toI w2 ?_
  refine lv_iload C.1 hb dL_law_555 (lv_at hl 1 rfl) ?_
  refine lv_icmp_eq (tgt := 562) C.1 hb dL_law_557 (by decide) (fun c249 => ?_) (fun c249 => ?_)
  · refine lv_iload C.1 hb dL_law_562 (lv_at hl 1 rfl) ?_
    refine lv_if_ne (tgt := 579) C.1 hb dL_law_564 (by decide) (fun c250 => ?_) (fun c250 => ?_)
    · refine lv_goto (tgt := 1183) C.1 hb dL_law_579 (by decide) ?_
      exact K _ (mR_pass (wsOut (xR_pass S n (xs (7 * j + 1))) f) n (xs (7 * j + 1))) H locs ls w4 hP hS (lv_sub hl [2, 3, 4, 5, 6] rfl)
    · have he := cdE_0 c250
      refine lv_aload_n C.1 hb dL_law_567 rfl (lv_at hl 5 rfl) ?_
      refine lv_iconst (v := 0) C.1 hb dL_law_568 (by decide) ?_
      refine ldO_out (j := 0) C hb hP (by decide) (by decide) dL_law_569 ?_
      refine toL ((congrFun w5 0).trans (hf he)) ?_
      refine lv_iload C.1 hb dL_law_570 (lv_at hl 0 rfl) ?_
      refine toI (w3 he).symm ?_
      refine lv_i2l C.1 hb dL_law_572 rfl ?_
      refine lc_eq (tgt := 579) C hb dL_law_573 dL_law_574 (by decide) (fun c251 => ?_) (fun c251 => ?_)
      · refine lv_goto (tgt := 1183) C.1 hb dL_law_579 (by decide) ?_
        exact K _ (mR_pass (wsOut (xR_pass S n (xs (7 * j + 1))) f) n (xs (7 * j + 1))) H locs ls w4 hP hS (lv_sub hl [2, 3, 4, 5, 6] rfl)
      · exact absurd rfl c251
  · exact absurd rfl c249

set_option maxRecDepth 100000 in
set_option maxHeartbeats 4000000 in
theorem law_c6 {p : Program} (l : Launch) (hl0 : l.stackTraces = false) {e : Env} {s : State} {m : MethodId} {below : List Frame} {meth : Method} {c : Code} {g : gG} {b L : Nat} {xs : Nat → Int32} (C : CW g RL p s m #[Value.ref b]) (hN : NcX s) (hb : c.code = cL_law) (hml : c.maxLocals = 8) (hX : va_X b L xs s s.heap) (hbl : b < s.heap.size) (hbA : ¬ Ab g b) (hL : L ≤ 3584) {j : Nat} (hj : 7 * j + 7 ≤ L) {cells slots : Nat} (hc : cells + 1 ≤ 617616) (hs : slots + 6 ≤ 7243256) {n : Nat} {S : WS} (hR : RR n S S) {H : Heap} {locs : List Loc} (hP : HW g S H) (hS : va_S (Ab g) s.heap H locs) {ls : Array Slot} (hl : lv_has ls 8 [(0, .ref b), (1, .ref (gA g 0)), (2, .ref (gA g 17)), (3, .ref (gA g 27)), (4, .int (nI (7 * j)))]) {Q : State → Prop} (K : ∀ (n : Nat) (S : WS) (H : Heap) (locs : List Loc) (ls : Array Slot), RR n S S → HW g S H → va_S (Ab g) s.heap H locs → lv_has ls 8 [(0, .ref b), (1, .ref (gA g 0)), (2, .ref (gA g 17)), (3, .ref (gA g 27)), (4, .int (nI (7 * j)))] → W p l e room_1 s m #[Value.ref b] below meth c H locs (cells + 1) (slots + 6) Q (F0 m 1183 ls [])) : W p l e room_1 s m #[Value.ref b] below meth c H locs cells slots Q (F0 m 582 ls []) := by
  have hc0 : cells + 1 ≤ room_1.cells := hc
  have hs0 : slots + 6 ≤ room_1.slots := hs
  refine W.widen (k := cells + 1) (n := slots + 6) (by omega) (by omega) ?_
  obtain ⟨w1, w2, w3⟩ := w_settle hR
  refine lv_aload_n C.1 hb dL_law_582 rfl (lv_at hl 1 rfl) ?_
  refine run_wr (cRunX (As := []) (rest := []) C hb (hml.trans hl.1.symm) hP hS rfl (k_X0_settle l g S n hR.1.1) wm_250 wm_251 wm_252 wm_253 wm_2 (n := 0) (by decide +kernel) rfl ⟨rfl, rfl, Nat.le_of_ble_eq_true rfl, Nat.le_of_ble_eq_true rfl⟩ (Nat.le_of_ble_eq_true rfl) rfl ⟨by omega, by omega⟩ dL_law_583) hS (fun H locs hP hS => ?_)
  refine lv_aload_n C.1 hb dL_law_586 rfl (lv_at hl 2 rfl) ?_
  refine run_wr (cRunM (As := []) (rest := [.int (nI (xSettle n 60 1 S).1)]) C hb (hml.trans hl.1.symm) hP hS rfl (k_X1_settle l g ((xSettle n 60 1 S).2) n w1) wm_258 wm_259 wm_260 wm_261 wm_5 (n := 0) (by decide +kernel) rfl ⟨rfl, rfl, Nat.le_of_ble_eq_true rfl, Nat.le_of_ble_eq_true rfl⟩ (Nat.le_of_ble_eq_true rfl) rfl ⟨by omega, by omega⟩ dL_law_587) hS (fun H locs hP hS => ?_)
  refine toI w2.symm ?_
  refine lv_icmp_eq (tgt := 1183) C.1 hb dL_law_590 (by decide) (fun c252 => ?_) (fun c252 => ?_)
  · exact K _ ((mSettle n 60 0 (msSc (xSettle n 60 1 S).2 3 0)).2) H locs ls w3 hP hS (lv_sub hl [0, 1, 2, 3, 4] rfl)
  · exact absurd rfl c252

set_option maxRecDepth 100000 in
set_option maxHeartbeats 4000000 in
theorem law_c7 {p : Program} (l : Launch) (hl0 : l.stackTraces = false) {e : Env} {s : State} {m : MethodId} {below : List Frame} {meth : Method} {c : Code} {g : gG} {b L : Nat} {xs : Nat → Int32} (C : CW g RL p s m #[Value.ref b]) (hN : NcX s) (hb : c.code = cL_law) (hml : c.maxLocals = 8) (hX : va_X b L xs s s.heap) (hbl : b < s.heap.size) (hbA : ¬ Ab g b) (hL : L ≤ 3584) {j : Nat} (hj : 7 * j + 7 ≤ L) {cells slots : Nat} (hc : cells + 1 ≤ 617616) (hs : slots + 6 ≤ 7243256) {n : Nat} {S : WS} (hR : RR n S S) {H : Heap} {locs : List Loc} (hP : HW g S H) (hS : va_S (Ab g) s.heap H locs) {ls : Array Slot} (hl : lv_has ls 8 [(0, .ref b), (1, .ref (gA g 0)), (2, .ref (gA g 17)), (3, .ref (gA g 27)), (4, .int (nI (7 * j)))]) {Q : State → Prop} (K : ∀ (n : Nat) (S : WS) (H : Heap) (locs : List Loc) (ls : Array Slot), RR n S S → HW g S H → va_S (Ab g) s.heap H locs → lv_has ls 8 [(0, .ref b), (1, .ref (gA g 0)), (2, .ref (gA g 17)), (3, .ref (gA g 27)), (4, .int (nI (7 * j)))] → W p l e room_1 s m #[Value.ref b] below meth c H locs (cells + 1) (slots + 6) Q (F0 m 1183 ls [])) : W p l e room_1 s m #[Value.ref b] below meth c H locs cells slots Q (F0 m 595 ls []) := by
  have hc0 : cells + 1 ≤ room_1.cells := hc
  have hs0 : slots + 6 ≤ room_1.slots := hs
  refine lv_aload_n C.1 hb dL_law_595 rfl (lv_at hl 1 rfl) ?_
  refine lv_aload_n C.1 hb dL_law_596 rfl (lv_at hl 0 rfl) ?_
  refine lv_iload C.1 hb dL_law_597 (lv_at hl 4 rfl) ?_
  refine lv_iconst (v := 1) C.1 hb dL_law_599 (by decide) ?_
  refine lv_iadd C.1 hb dL_law_600 ?_
  refine ld_s (j := 7 * j + 1) C hb hX hbl hbA hS hL (nI_add (7 * j) 1) (by omega) dL_law_601 ?_
  refine lv_aload_n C.1 hb dL_law_602 rfl (lv_at hl 3 rfl) ?_
  refine run_L (cRunL (As := [.ref (gA g 0), .int (xs (7 * j + 1)), .ref (gA g 27)]) (rest := []) C hN hb (hml.trans hl.1.symm) hP hS (k_L_smooth l hl0 g S n hR.1.1 (xs (7 * j + 1))) wm_262 wm_263 wm_264 wm_54 (n := 3) (by decide +kernel) rfl ⟨rfl, rfl, Nat.le_of_ble_eq_true rfl, Nat.le_of_ble_eq_true rfl⟩ (Nat.le_of_ble_eq_true rfl) rfl ⟨hc0, hs0⟩ dL_law_603) hS (fun f H locs hf hP hS => ?_)
  obtain ⟨w1, w2, w3, ⟨n2, w4⟩, w5⟩ := w_smooth hR (xs (7 * j + 1)) f
  refine lv_istore (lv' := [(5, .int (cdE eIOB (xE_trait (xs (7 * j + 1))))), (0, .ref b), (1, .ref (gA g 0)), (2, .ref (gA g 17)), (3, .ref (gA g 27)), (4, .int (nI (7 * j)))]) C.1 hb dL_law_606 hl (by decide) rfl (fun ls hl => ?_)
  refine lv_aload_n C.1 hb dL_law_608 rfl (lv_at hl 3 rfl) ?_
  refine lv_aload_n C.1 hb dL_law_609 rfl (lv_at hl 1 rfl) ?_
  refine lv_iload C.1 hb dL_law_610 (lv_at hl 5 rfl) ?_
  refine lv_iconst (v := 1) C.1 hb dL_law_612 (by decide) ?_
  refine lv_iadd C.1 hb dL_law_613 ?_
  refine ld_s (j := 7 * j + 1) C hb hX hbl hbA hS hL (nI_add (7 * j) 1) (by omega) dL_law_614 ?_
  refine run_wr (cRunM (As := [.int (xs (7 * j + 1))]) (rest := []) C hb (hml.trans hl.1.symm) hP hS rfl (k_X1_smooth l g (wsOut (xR_smooth S n (xs (7 * j + 1))) f) n w1 (xs (7 * j + 1))) wm_288 wm_289 wm_290 wm_291 wm_5 (n := 1) (by decide +kernel) rfl ⟨rfl, rfl, Nat.le_of_ble_eq_true rfl, Nat.le_of_ble_eq_true rfl⟩ (Nat.le_of_ble_eq_true rfl) rfl ⟨by omega, by omega⟩ dL_law_615) hS (fun H locs hP hS => ?_)
  refine lv_istore (lv' := [(6, .int (mV_smooth (wsOut (xR_smooth S n (xs (7 * j + 1))) f) n (xs (7 * j + 1)))), (5, .int (cdE eIOB (xE_trait (xs (7 * j + 1))))), (0, .ref b), (1, .ref (gA g 0)), (2, .ref (gA g 17)), (3, .ref (gA g 27)), (4, .int (nI (7 * j)))]) C.1 hb dL_law_618 hl (by decide) rfl (fun ls hl => ?_)
  refine lv_aload_n C.1 hb dL_law_620 rfl (lv_at hl 4 rfl) ?_
  refine run_rd (cRunM (As := []) (rest := []) C hb (hml.trans hl.1.symm) hP hS rfl (k_X1_thrown l g (mR_smooth (wsOut (xR_smooth S n (xs (7 * j + 1))) f) n (xs (7 * j + 1)))) wm_113 wm_114 wm_115 wm_116 wm_5 (n := 0) (by decide +kernel) rfl ⟨rfl, rfl, Nat.le_of_ble_eq_true rfl, Nat.le_of_ble_eq_true rfl⟩ (Nat.le_of_ble_eq_true rfl) rfl ⟨by omega, by omega⟩ dL_law_621) ?_
  refine toI w2 ?_
  refine lv_iload C.1 hb dL_law_624 (lv_at hl 1 rfl) ?_
  refine lv_icmp_eq (tgt := 631) C.1 hb dL_law_626 (by decide) (fun c253 => ?_) (fun c253 => ?_)
  · refine lv_iload C.1 hb dL_law_631 (lv_at hl 1 rfl) ?_
    refine lv_if_ne (tgt := 648) C.1 hb dL_law_633 (by decide) (fun c254 => ?_) (fun c254 => ?_)
    · refine lv_goto (tgt := 1183) C.1 hb dL_law_648 (by decide) ?_
      exact K _ (mR_smooth (wsOut (xR_smooth S n (xs (7 * j + 1))) f) n (xs (7 * j + 1))) H locs ls w4 hP hS (lv_sub hl [2, 3, 4, 5, 6] rfl)
    · have he := cdE_0 c254
      refine lv_aload_n C.1 hb dL_law_636 rfl (lv_at hl 5 rfl) ?_
      refine lv_iconst (v := 0) C.1 hb dL_law_637 (by decide) ?_
      refine ldO_out (j := 0) C hb hP (by decide) (by decide) dL_law_638 ?_
      refine toL ((congrFun w5 0).trans (hf he)) ?_
      refine lv_iload C.1 hb dL_law_639 (lv_at hl 0 rfl) ?_
      refine toI (w3 he).symm ?_
      refine lv_i2l C.1 hb dL_law_641 rfl ?_
      refine lc_eq (tgt := 648) C hb dL_law_642 dL_law_643 (by decide) (fun c255 => ?_) (fun c255 => ?_)
      · refine lv_goto (tgt := 1183) C.1 hb dL_law_648 (by decide) ?_
        exact K _ (mR_smooth (wsOut (xR_smooth S n (xs (7 * j + 1))) f) n (xs (7 * j + 1))) H locs ls w4 hP hS (lv_sub hl [2, 3, 4, 5, 6] rfl)
      · exact absurd rfl c255
  · exact absurd rfl c253

set_option maxRecDepth 100000 in
set_option maxHeartbeats 4000000 in
theorem law_c8 {p : Program} (l : Launch) (hl0 : l.stackTraces = false) {e : Env} {s : State} {m : MethodId} {below : List Frame} {meth : Method} {c : Code} {g : gG} {b L : Nat} {xs : Nat → Int32} (C : CW g RL p s m #[Value.ref b]) (hN : NcX s) (hb : c.code = cL_law) (hml : c.maxLocals = 8) (hX : va_X b L xs s s.heap) (hbl : b < s.heap.size) (hbA : ¬ Ab g b) (hL : L ≤ 3584) {j : Nat} (hj : 7 * j + 7 ≤ L) {cells slots : Nat} (hc : cells + 1 ≤ 617616) (hs : slots + 6 ≤ 7243256) {n : Nat} {S : WS} (hR : RR n S S) {H : Heap} {locs : List Loc} (hP : HW g S H) (hS : va_S (Ab g) s.heap H locs) {ls : Array Slot} (hl : lv_has ls 8 [(0, .ref b), (1, .ref (gA g 0)), (2, .ref (gA g 17)), (3, .ref (gA g 27)), (4, .int (nI (7 * j)))]) {Q : State → Prop} (K : ∀ (n : Nat) (S : WS) (H : Heap) (locs : List Loc) (ls : Array Slot), RR n S S → HW g S H → va_S (Ab g) s.heap H locs → lv_has ls 8 [(0, .ref b), (1, .ref (gA g 0)), (2, .ref (gA g 17)), (3, .ref (gA g 27)), (4, .int (nI (7 * j)))] → W p l e room_1 s m #[Value.ref b] below meth c H locs (cells + 1) (slots + 6) Q (F0 m 1183 ls [])) : W p l e room_1 s m #[Value.ref b] below meth c H locs cells slots Q (F0 m 651 ls []) := by
  have hc0 : cells + 1 ≤ room_1.cells := hc
  have hs0 : slots + 6 ≤ room_1.slots := hs
  refine W.widen (k := cells + 1) (n := slots + 6) (by omega) (by omega) ?_
  obtain ⟨w1, w2, w3⟩ := w_spread hR
  refine lv_aload_n C.1 hb dL_law_651 rfl (lv_at hl 1 rfl) ?_
  refine run_wr (cRunX (As := []) (rest := []) C hb (hml.trans hl.1.symm) hP hS rfl (k_X0_spread l g S n hR.1.1) wm_304 wm_305 wm_306 wm_307 wm_2 (n := 0) (by decide +kernel) rfl ⟨rfl, rfl, Nat.le_of_ble_eq_true rfl, Nat.le_of_ble_eq_true rfl⟩ (Nat.le_of_ble_eq_true rfl) rfl ⟨by omega, by omega⟩ dL_law_652) hS (fun H locs hP hS => ?_)
  refine lv_aload_n C.1 hb dL_law_655 rfl (lv_at hl 2 rfl) ?_
  refine run_wr (cRunM (As := []) (rest := [.int (xSc (xSpread S n) 4)]) C hb (hml.trans hl.1.symm) hP hS rfl (k_X1_spread l g (xSpread S n) n w1) wm_321 wm_322 wm_323 wm_324 wm_5 (n := 0) (by decide +kernel) rfl ⟨rfl, rfl, Nat.le_of_ble_eq_true rfl, Nat.le_of_ble_eq_true rfl⟩ (Nat.le_of_ble_eq_true rfl) rfl ⟨by omega, by omega⟩ dL_law_656) hS (fun H locs hP hS => ?_)
  refine toI w2.symm ?_
  refine lv_icmp_eq (tgt := 1183) C.1 hb dL_law_659 (by decide) (fun c256 => ?_) (fun c256 => ?_)
  · exact K _ (mSpread (msSc (xSpread S n) 3 0) n) H locs ls w3 hP hS (lv_sub hl [0, 1, 2, 3, 4] rfl)
  · exact absurd rfl c256

set_option maxRecDepth 100000 in
set_option maxHeartbeats 4000000 in
theorem law_c9 {p : Program} (l : Launch) (hl0 : l.stackTraces = false) {e : Env} {s : State} {m : MethodId} {below : List Frame} {meth : Method} {c : Code} {g : gG} {b L : Nat} {xs : Nat → Int32} (C : CW g RL p s m #[Value.ref b]) (hN : NcX s) (hb : c.code = cL_law) (hml : c.maxLocals = 8) (hX : va_X b L xs s s.heap) (hbl : b < s.heap.size) (hbA : ¬ Ab g b) (hL : L ≤ 3584) {j : Nat} (hj : 7 * j + 7 ≤ L) {cells slots : Nat} (hc : cells + 1 ≤ 617616) (hs : slots + 6 ≤ 7243256) {n : Nat} {S : WS} (hR : RR n S S) {H : Heap} {locs : List Loc} (hP : HW g S H) (hS : va_S (Ab g) s.heap H locs) {ls : Array Slot} (hl : lv_has ls 8 [(0, .ref b), (1, .ref (gA g 0)), (2, .ref (gA g 17)), (3, .ref (gA g 27)), (4, .int (nI (7 * j)))]) {Q : State → Prop} (K : ∀ (n : Nat) (S : WS) (H : Heap) (locs : List Loc) (ls : Array Slot), RR n S S → HW g S H → va_S (Ab g) s.heap H locs → lv_has ls 8 [(0, .ref b), (1, .ref (gA g 0)), (2, .ref (gA g 17)), (3, .ref (gA g 27)), (4, .int (nI (7 * j)))] → W p l e room_1 s m #[Value.ref b] below meth c H locs (cells + 1) (slots + 6) Q (F0 m 1183 ls [])) : W p l e room_1 s m #[Value.ref b] below meth c H locs cells slots Q (F0 m 664 ls []) := by
  have hc0 : cells + 1 ≤ room_1.cells := hc
  have hs0 : slots + 6 ≤ room_1.slots := hs
  refine W.widen (k := cells + 1) (n := slots + 6) (by omega) (by omega) ?_
  obtain ⟨w2, w3⟩ := w_rows hR
  have w1 : MI n S := hR.1.2.1
  refine lv_aload_n C.1 hb dL_law_664 rfl (lv_at hl 1 rfl) ?_
  refine run_rd (cRunX (As := []) (rest := []) C hb (hml.trans hl.1.symm) hP hS rfl (k_X0_rows l g S) wm_342 wm_343 wm_344 wm_345 wm_2 (n := 0) (by decide +kernel) rfl ⟨rfl, rfl, Nat.le_of_ble_eq_true rfl, Nat.le_of_ble_eq_true rfl⟩ (Nat.le_of_ble_eq_true rfl) rfl ⟨by omega, by omega⟩ dL_law_665) ?_
  refine lv_aload_n C.1 hb dL_law_668 rfl (lv_at hl 2 rfl) ?_
  refine run_wr (cRunM (As := []) (rest := [.int (xSc S 1)]) C hb (hml.trans hl.1.symm) hP hS rfl (k_X1_rows l g S n w1) wm_346 wm_347 wm_348 wm_349 wm_5 (n := 0) (by decide +kernel) rfl ⟨rfl, rfl, Nat.le_of_ble_eq_true rfl, Nat.le_of_ble_eq_true rfl⟩ (Nat.le_of_ble_eq_true rfl) rfl ⟨by omega, by omega⟩ dL_law_669) hS (fun H locs hP hS => ?_)
  refine toI w2.symm ?_
  refine lv_icmp_eq (tgt := 1183) C.1 hb dL_law_672 (by decide) (fun c257 => ?_) (fun c257 => ?_)
  · exact K _ (msSc S 3 0) H locs ls w3 hP hS (lv_sub hl [0, 1, 2, 3, 4] rfl)
  · exact absurd rfl c257

set_option maxRecDepth 100000 in
set_option maxHeartbeats 4000000 in
theorem law_c10 {p : Program} (l : Launch) (hl0 : l.stackTraces = false) {e : Env} {s : State} {m : MethodId} {below : List Frame} {meth : Method} {c : Code} {g : gG} {b L : Nat} {xs : Nat → Int32} (C : CW g RL p s m #[Value.ref b]) (hN : NcX s) (hb : c.code = cL_law) (hml : c.maxLocals = 8) (hX : va_X b L xs s s.heap) (hbl : b < s.heap.size) (hbA : ¬ Ab g b) (hL : L ≤ 3584) {j : Nat} (hj : 7 * j + 7 ≤ L) {cells slots : Nat} (hc : cells + 1 ≤ 617616) (hs : slots + 6 ≤ 7243256) {n : Nat} {S : WS} (hR : RR n S S) {H : Heap} {locs : List Loc} (hP : HW g S H) (hS : va_S (Ab g) s.heap H locs) {ls : Array Slot} (hl : lv_has ls 8 [(0, .ref b), (1, .ref (gA g 0)), (2, .ref (gA g 17)), (3, .ref (gA g 27)), (4, .int (nI (7 * j)))]) {Q : State → Prop} (K : ∀ (n : Nat) (S : WS) (H : Heap) (locs : List Loc) (ls : Array Slot), RR n S S → HW g S H → va_S (Ab g) s.heap H locs → lv_has ls 8 [(0, .ref b), (1, .ref (gA g 0)), (2, .ref (gA g 17)), (3, .ref (gA g 27)), (4, .int (nI (7 * j)))] → W p l e room_1 s m #[Value.ref b] below meth c H locs (cells + 1) (slots + 6) Q (F0 m 1183 ls [])) : W p l e room_1 s m #[Value.ref b] below meth c H locs cells slots Q (F0 m 677 ls []) := by
  have hc0 : cells + 1 ≤ room_1.cells := hc
  have hs0 : slots + 6 ≤ room_1.slots := hs
  refine W.widen (k := cells + 1) (n := slots + 6) (by omega) (by omega) ?_
  obtain ⟨w2, w3⟩ := w_base hR
  have w1 : MI n S := hR.1.2.1
  refine lv_aload_n C.1 hb dL_law_677 rfl (lv_at hl 1 rfl) ?_
  refine run_rd (cRunX (As := []) (rest := []) C hb (hml.trans hl.1.symm) hP hS rfl (k_X0_base l g S) wm_350 wm_351 wm_352 wm_353 wm_2 (n := 0) (by decide +kernel) rfl ⟨rfl, rfl, Nat.le_of_ble_eq_true rfl, Nat.le_of_ble_eq_true rfl⟩ (Nat.le_of_ble_eq_true rfl) rfl ⟨by omega, by omega⟩ dL_law_678) ?_
  refine lv_aload_n C.1 hb dL_law_681 rfl (lv_at hl 2 rfl) ?_
  refine run_wr (cRunM (As := []) (rest := [.long (xBase S)]) C hb (hml.trans hl.1.symm) hP hS rfl (k_X1_base l g S n w1) wm_354 wm_355 wm_356 wm_357 wm_5 (n := 0) (by decide +kernel) rfl ⟨rfl, rfl, Nat.le_of_ble_eq_true rfl, Nat.le_of_ble_eq_true rfl⟩ (Nat.le_of_ble_eq_true rfl) rfl ⟨by omega, by omega⟩ dL_law_682) hS (fun H locs hP hS => ?_)
  refine toL w2.symm ?_
  refine lc_eq (tgt := 1183) C hb dL_law_685 dL_law_686 (by decide) (fun c258 => ?_) (fun c258 => ?_)
  · exact K _ (msSc S 3 0) H locs ls w3 hP hS (lv_sub hl [0, 1, 2, 3, 4] rfl)
  · exact absurd rfl c258

set_option maxRecDepth 100000 in
set_option maxHeartbeats 4000000 in
theorem law_c11 {p : Program} (l : Launch) (hl0 : l.stackTraces = false) {e : Env} {s : State} {m : MethodId} {below : List Frame} {meth : Method} {c : Code} {g : gG} {b L : Nat} {xs : Nat → Int32} (C : CW g RL p s m #[Value.ref b]) (hN : NcX s) (hb : c.code = cL_law) (hml : c.maxLocals = 8) (hX : va_X b L xs s s.heap) (hbl : b < s.heap.size) (hbA : ¬ Ab g b) (hL : L ≤ 3584) {j : Nat} (hj : 7 * j + 7 ≤ L) {cells slots : Nat} (hc : cells + 1 ≤ 617616) (hs : slots + 6 ≤ 7243256) {n : Nat} {S : WS} (hR : RR n S S) {H : Heap} {locs : List Loc} (hP : HW g S H) (hS : va_S (Ab g) s.heap H locs) {ls : Array Slot} (hl : lv_has ls 8 [(0, .ref b), (1, .ref (gA g 0)), (2, .ref (gA g 17)), (3, .ref (gA g 27)), (4, .int (nI (7 * j)))]) {Q : State → Prop} (K : ∀ (n : Nat) (S : WS) (H : Heap) (locs : List Loc) (ls : Array Slot), RR n S S → HW g S H → va_S (Ab g) s.heap H locs → lv_has ls 8 [(0, .ref b), (1, .ref (gA g 0)), (2, .ref (gA g 17)), (3, .ref (gA g 27)), (4, .int (nI (7 * j)))] → W p l e room_1 s m #[Value.ref b] below meth c H locs (cells + 1) (slots + 6) Q (F0 m 1183 ls [])) : W p l e room_1 s m #[Value.ref b] below meth c H locs cells slots Q (F0 m 691 ls []) := by
  have hc0 : cells + 1 ≤ room_1.cells := hc
  have hs0 : slots + 6 ≤ room_1.slots := hs
  refine lv_aload_n C.1 hb dL_law_691 rfl (lv_at hl 1 rfl) ?_
  refine lv_aload_n C.1 hb dL_law_692 rfl (lv_at hl 0 rfl) ?_
  refine lv_iload C.1 hb dL_law_693 (lv_at hl 4 rfl) ?_
  refine lv_iconst (v := 1) C.1 hb dL_law_695 (by decide) ?_
  refine lv_iadd C.1 hb dL_law_696 ?_
  refine ld_s (j := 7 * j + 1) C hb hX hbl hbA hS hL (nI_add (7 * j) 1) (by omega) dL_law_697 ?_
  refine lv_aload_n C.1 hb dL_law_698 rfl (lv_at hl 0 rfl) ?_
  refine lv_iload C.1 hb dL_law_699 (lv_at hl 4 rfl) ?_
  refine lv_iconst (v := 2) C.1 hb dL_law_701 (by decide) ?_
  refine lv_iadd C.1 hb dL_law_702 ?_
  refine ld_s (j := 7 * j + 2) C hb hX hbl hbA hS hL (nI_add (7 * j) 2) (by omega) dL_law_703 ?_
  refine lv_aload_n C.1 hb dL_law_704 rfl (lv_at hl 3 rfl) ?_
  refine run_L (cRunL (As := [.ref (gA g 0), .int (xs (7 * j + 1)), .int (xs (7 * j + 2)), .ref (gA g 27)]) (rest := []) C hN hb (hml.trans hl.1.symm) hP hS (k_L_factor l hl0 g S (xs (7 * j + 1)) (xs (7 * j + 2))) wm_358 wm_359 wm_360 wm_54 (n := 4) (by decide +kernel) rfl ⟨rfl, rfl, Nat.le_of_ble_eq_true rfl, Nat.le_of_ble_eq_true rfl⟩ (Nat.le_of_ble_eq_true rfl) rfl ⟨hc0, hs0⟩ dL_law_705) hS (fun f H locs hf hP hS => ?_)
  obtain ⟨w1, w2, w3, ⟨n2, w4⟩, w5⟩ := w_factor hR (xs (7 * j + 1)) (xs (7 * j + 2)) f
  refine lv_istore (lv' := [(5, .int (cdE eIOB (xE_level (xs (7 * j + 1)) (xs (7 * j + 2))))), (0, .ref b), (1, .ref (gA g 0)), (2, .ref (gA g 17)), (3, .ref (gA g 27)), (4, .int (nI (7 * j)))]) C.1 hb dL_law_708 hl (by decide) rfl (fun ls hl => ?_)
  refine lv_aload_n C.1 hb dL_law_710 rfl (lv_at hl 3 rfl) ?_
  refine lv_aload_n C.1 hb dL_law_711 rfl (lv_at hl 1 rfl) ?_
  refine lv_iload C.1 hb dL_law_712 (lv_at hl 5 rfl) ?_
  refine lv_iconst (v := 1) C.1 hb dL_law_714 (by decide) ?_
  refine lv_iadd C.1 hb dL_law_715 ?_
  refine ld_s (j := 7 * j + 1) C hb hX hbl hbA hS hL (nI_add (7 * j) 1) (by omega) dL_law_716 ?_
  refine lv_aload_n C.1 hb dL_law_717 rfl (lv_at hl 1 rfl) ?_
  refine lv_iload C.1 hb dL_law_718 (lv_at hl 5 rfl) ?_
  refine lv_iconst (v := 2) C.1 hb dL_law_720 (by decide) ?_
  refine lv_iadd C.1 hb dL_law_721 ?_
  refine ld_s (j := 7 * j + 2) C hb hX hbl hbA hS hL (nI_add (7 * j) 2) (by omega) dL_law_722 ?_
  refine run_wr (cRunM (As := [.int (xs (7 * j + 1)), .int (xs (7 * j + 2))]) (rest := []) C hb (hml.trans hl.1.symm) hP hS rfl (k_X1_factor l g (wsOut S f) (xs (7 * j + 1)) (xs (7 * j + 2))) wm_365 wm_366 wm_367 wm_368 wm_5 (n := 2) (by decide +kernel) rfl ⟨rfl, rfl, Nat.le_of_ble_eq_true rfl, Nat.le_of_ble_eq_true rfl⟩ (Nat.le_of_ble_eq_true rfl) rfl ⟨by omega, by omega⟩ dL_law_723) hS (fun H locs hP hS => ?_)
  refine lv_istore (lv' := [(6, .int (mV_lev (wsOut S f) (xs (7 * j + 1)) (xs (7 * j + 2)) (mIa (wsOut S f) 6 (4 * tN (xs (7 * j + 1)) + tN (xs (7 * j + 2)))))), (5, .int (cdE eIOB (xE_level (xs (7 * j + 1)) (xs (7 * j + 2))))), (0, .ref b), (1, .ref (gA g 0)), (2, .ref (gA g 17)), (3, .ref (gA g 27)), (4, .int (nI (7 * j)))]) C.1 hb dL_law_726 hl (by decide) rfl (fun ls hl => ?_)
  refine lv_aload_n C.1 hb dL_law_728 rfl (lv_at hl 4 rfl) ?_
  refine run_rd (cRunM (As := []) (rest := []) C hb (hml.trans hl.1.symm) hP hS rfl (k_X1_thrown l g (mGo (wsOut S f) (xHasLevel (xs (7 * j + 1)) (xs (7 * j + 2))) true true)) wm_113 wm_114 wm_115 wm_116 wm_5 (n := 0) (by decide +kernel) rfl ⟨rfl, rfl, Nat.le_of_ble_eq_true rfl, Nat.le_of_ble_eq_true rfl⟩ (Nat.le_of_ble_eq_true rfl) rfl ⟨by omega, by omega⟩ dL_law_729) ?_
  refine toI w2 ?_
  refine lv_iload C.1 hb dL_law_732 (lv_at hl 1 rfl) ?_
  refine lv_icmp_eq (tgt := 739) C.1 hb dL_law_734 (by decide) (fun c259 => ?_) (fun c259 => ?_)
  · refine lv_iload C.1 hb dL_law_739 (lv_at hl 1 rfl) ?_
    refine lv_if_ne (tgt := 756) C.1 hb dL_law_741 (by decide) (fun c260 => ?_) (fun c260 => ?_)
    · refine lv_goto (tgt := 1183) C.1 hb dL_law_756 (by decide) ?_
      exact K _ (mGo (wsOut S f) (xHasLevel (xs (7 * j + 1)) (xs (7 * j + 2))) true true) H locs ls w4 hP hS (lv_sub hl [2, 3, 4, 5, 6] rfl)
    · have he := cdE_0 c260
      refine lv_aload_n C.1 hb dL_law_744 rfl (lv_at hl 5 rfl) ?_
      refine lv_iconst (v := 0) C.1 hb dL_law_745 (by decide) ?_
      refine ldO_out (j := 0) C hb hP (by decide) (by decide) dL_law_746 ?_
      refine toL ((congrFun w5 0).trans (hf he)) ?_
      refine lv_iload C.1 hb dL_law_747 (lv_at hl 0 rfl) ?_
      refine toI (w3 he).symm ?_
      refine lv_i2l C.1 hb dL_law_749 rfl ?_
      refine lc_eq (tgt := 756) C hb dL_law_750 dL_law_751 (by decide) (fun c261 => ?_) (fun c261 => ?_)
      · refine lv_goto (tgt := 1183) C.1 hb dL_law_756 (by decide) ?_
        exact K _ (mGo (wsOut S f) (xHasLevel (xs (7 * j + 1)) (xs (7 * j + 2))) true true) H locs ls w4 hP hS (lv_sub hl [2, 3, 4, 5, 6] rfl)
      · exact absurd rfl c261
  · exact absurd rfl c259

set_option maxRecDepth 100000 in
set_option maxHeartbeats 4000000 in
theorem law_c12 {p : Program} (l : Launch) (hl0 : l.stackTraces = false) {e : Env} {s : State} {m : MethodId} {below : List Frame} {meth : Method} {c : Code} {g : gG} {b L : Nat} {xs : Nat → Int32} (C : CW g RL p s m #[Value.ref b]) (hN : NcX s) (hb : c.code = cL_law) (hml : c.maxLocals = 8) (hX : va_X b L xs s s.heap) (hbl : b < s.heap.size) (hbA : ¬ Ab g b) (hL : L ≤ 3584) {j : Nat} (hj : 7 * j + 7 ≤ L) {cells slots : Nat} (hc : cells + 1 ≤ 617616) (hs : slots + 6 ≤ 7243256) {n : Nat} {S : WS} (hR : RR n S S) {H : Heap} {locs : List Loc} (hP : HW g S H) (hS : va_S (Ab g) s.heap H locs) {ls : Array Slot} (hl : lv_has ls 8 [(0, .ref b), (1, .ref (gA g 0)), (2, .ref (gA g 17)), (3, .ref (gA g 27)), (4, .int (nI (7 * j)))]) {Q : State → Prop} (K : ∀ (n : Nat) (S : WS) (H : Heap) (locs : List Loc) (ls : Array Slot), RR n S S → HW g S H → va_S (Ab g) s.heap H locs → lv_has ls 8 [(0, .ref b), (1, .ref (gA g 0)), (2, .ref (gA g 17)), (3, .ref (gA g 27)), (4, .int (nI (7 * j)))] → W p l e room_1 s m #[Value.ref b] below meth c H locs (cells + 1) (slots + 6) Q (F0 m 1183 ls [])) : W p l e room_1 s m #[Value.ref b] below meth c H locs cells slots Q (F0 m 759 ls []) := by
  have hc0 : cells + 1 ≤ room_1.cells := hc
  have hs0 : slots + 6 ≤ room_1.slots := hs
  refine lv_aload_n C.1 hb dL_law_759 rfl (lv_at hl 1 rfl) ?_
  refine lv_aload_n C.1 hb dL_law_760 rfl (lv_at hl 0 rfl) ?_
  refine lv_iload C.1 hb dL_law_761 (lv_at hl 4 rfl) ?_
  refine lv_iconst (v := 1) C.1 hb dL_law_763 (by decide) ?_
  refine lv_iadd C.1 hb dL_law_764 ?_
  refine ld_s (j := 7 * j + 1) C hb hX hbl hbA hS hL (nI_add (7 * j) 1) (by omega) dL_law_765 ?_
  refine lv_aload_n C.1 hb dL_law_766 rfl (lv_at hl 3 rfl) ?_
  refine run_L (cRunL (As := [.ref (gA g 0), .int (xs (7 * j + 1)), .ref (gA g 27)]) (rest := []) C hN hb (hml.trans hl.1.symm) hP hS (k_L_fitted l hl0 g S n hR.1.1 (xs (7 * j + 1))) wm_369 wm_370 wm_371 wm_54 (n := 3) (by decide +kernel) rfl ⟨rfl, rfl, Nat.le_of_ble_eq_true rfl, Nat.le_of_ble_eq_true rfl⟩ (Nat.le_of_ble_eq_true rfl) rfl ⟨hc0, hs0⟩ dL_law_767) hS (fun f H locs hf hP hS => ?_)
  obtain ⟨w1, w2, w3, ⟨n2, w4⟩, w5⟩ := w_fitted hR (xs (7 * j + 1)) f
  refine lv_istore (lv' := [(5, .int (cdE eIOB (xE_row S (xs (7 * j + 1))))), (0, .ref b), (1, .ref (gA g 0)), (2, .ref (gA g 17)), (3, .ref (gA g 27)), (4, .int (nI (7 * j)))]) C.1 hb dL_law_770 hl (by decide) rfl (fun ls hl => ?_)
  refine lv_aload_n C.1 hb dL_law_772 rfl (lv_at hl 3 rfl) ?_
  refine lv_aload_n C.1 hb dL_law_773 rfl (lv_at hl 1 rfl) ?_
  refine lv_iload C.1 hb dL_law_774 (lv_at hl 5 rfl) ?_
  refine lv_iconst (v := 1) C.1 hb dL_law_776 (by decide) ?_
  refine lv_iadd C.1 hb dL_law_777 ?_
  refine ld_s (j := 7 * j + 1) C hb hX hbl hbA hS hL (nI_add (7 * j) 1) (by omega) dL_law_778 ?_
  refine run_wr (cRunM (As := [.int (xs (7 * j + 1))]) (rest := []) C hb (hml.trans hl.1.symm) hP hS rfl (k_X1_fitted l g (wsOut S f) n w1 (xs (7 * j + 1))) wm_376 wm_377 wm_378 wm_379 wm_5 (n := 1) (by decide +kernel) rfl ⟨rfl, rfl, Nat.le_of_ble_eq_true rfl, Nat.le_of_ble_eq_true rfl⟩ (Nat.le_of_ble_eq_true rfl) rfl ⟨by omega, by omega⟩ dL_law_779) hS (fun H locs hP hS => ?_)
  refine lv_lstore (lv' := [(6, .long (mV_rowL (wsOut S f) (xs (7 * j + 1)) (mFit (mGo (wsOut S f) true true true) (mBase (mGo (wsOut S f) true true true) n) (tN (xs (7 * j + 1)))))), (5, .int (cdE eIOB (xE_row S (xs (7 * j + 1))))), (0, .ref b), (1, .ref (gA g 0)), (2, .ref (gA g 17)), (3, .ref (gA g 27)), (4, .int (nI (7 * j)))]) C.1 hb dL_law_782 hl (by decide) rfl (fun ls hl => ?_)
  refine lv_aload_n C.1 hb dL_law_784 rfl (lv_at hl 4 rfl) ?_
  refine run_rd (cRunM (As := []) (rest := []) C hb (hml.trans hl.1.symm) hP hS rfl (k_X1_thrown l g (mGo (wsOut S f) (mRow (wsOut S f) (xs (7 * j + 1))) true true)) wm_113 wm_114 wm_115 wm_116 wm_5 (n := 0) (by decide +kernel) rfl ⟨rfl, rfl, Nat.le_of_ble_eq_true rfl, Nat.le_of_ble_eq_true rfl⟩ (Nat.le_of_ble_eq_true rfl) rfl ⟨by omega, by omega⟩ dL_law_785) ?_
  refine toI w2 ?_
  refine lv_iload C.1 hb dL_law_788 (lv_at hl 1 rfl) ?_
  refine lv_icmp_eq (tgt := 795) C.1 hb dL_law_790 (by decide) (fun c262 => ?_) (fun c262 => ?_)
  · refine lv_iload C.1 hb dL_law_795 (lv_at hl 1 rfl) ?_
    refine lv_if_ne (tgt := 811) C.1 hb dL_law_797 (by decide) (fun c263 => ?_) (fun c263 => ?_)
    · refine lv_goto (tgt := 1183) C.1 hb dL_law_811 (by decide) ?_
      exact K _ (mGo (wsOut S f) (mRow (wsOut S f) (xs (7 * j + 1))) true true) H locs ls w4 hP hS (lv_sub hl [2, 3, 4, 5, 6] rfl)
    · have he := cdE_0 c263
      refine lv_aload_n C.1 hb dL_law_800 rfl (lv_at hl 5 rfl) ?_
      refine lv_iconst (v := 0) C.1 hb dL_law_801 (by decide) ?_
      refine ldO_out (j := 0) C hb hP (by decide) (by decide) dL_law_802 ?_
      refine toL ((congrFun w5 0).trans (hf he)) ?_
      refine lv_lload C.1 hb dL_law_803 (lv_at hl 0 rfl) ?_
      refine toL (w3 he).symm ?_
      refine lc_eq (tgt := 811) C hb dL_law_805 dL_law_806 (by decide) (fun c264 => ?_) (fun c264 => ?_)
      · refine lv_goto (tgt := 1183) C.1 hb dL_law_811 (by decide) ?_
        exact K _ (mGo (wsOut S f) (mRow (wsOut S f) (xs (7 * j + 1))) true true) H locs ls w4 hP hS (lv_sub hl [2, 3, 4, 5, 6] rfl)
      · exact absurd rfl c264
  · exact absurd rfl c262

set_option maxRecDepth 100000 in
set_option maxHeartbeats 4000000 in
theorem law_c13 {p : Program} (l : Launch) (hl0 : l.stackTraces = false) {e : Env} {s : State} {m : MethodId} {below : List Frame} {meth : Method} {c : Code} {g : gG} {b L : Nat} {xs : Nat → Int32} (C : CW g RL p s m #[Value.ref b]) (hN : NcX s) (hb : c.code = cL_law) (hml : c.maxLocals = 8) (hX : va_X b L xs s s.heap) (hbl : b < s.heap.size) (hbA : ¬ Ab g b) (hL : L ≤ 3584) {j : Nat} (hj : 7 * j + 7 ≤ L) {cells slots : Nat} (hc : cells + 1 ≤ 617616) (hs : slots + 6 ≤ 7243256) {n : Nat} {S : WS} (hR : RR n S S) {H : Heap} {locs : List Loc} (hP : HW g S H) (hS : va_S (Ab g) s.heap H locs) {ls : Array Slot} (hl : lv_has ls 8 [(0, .ref b), (1, .ref (gA g 0)), (2, .ref (gA g 17)), (3, .ref (gA g 27)), (4, .int (nI (7 * j)))]) {Q : State → Prop} (K : ∀ (n : Nat) (S : WS) (H : Heap) (locs : List Loc) (ls : Array Slot), RR n S S → HW g S H → va_S (Ab g) s.heap H locs → lv_has ls 8 [(0, .ref b), (1, .ref (gA g 0)), (2, .ref (gA g 17)), (3, .ref (gA g 27)), (4, .int (nI (7 * j)))] → W p l e room_1 s m #[Value.ref b] below meth c H locs (cells + 1) (slots + 6) Q (F0 m 1183 ls [])) : W p l e room_1 s m #[Value.ref b] below meth c H locs cells slots Q (F0 m 814 ls []) := by
  have hc0 : cells + 1 ≤ room_1.cells := hc
  have hs0 : slots + 6 ≤ room_1.slots := hs
  refine lv_aload_n C.1 hb dL_law_814 rfl (lv_at hl 1 rfl) ?_
  refine lv_aload_n C.1 hb dL_law_815 rfl (lv_at hl 0 rfl) ?_
  refine lv_iload C.1 hb dL_law_816 (lv_at hl 4 rfl) ?_
  refine lv_iconst (v := 1) C.1 hb dL_law_818 (by decide) ?_
  refine lv_iadd C.1 hb dL_law_819 ?_
  refine ld_s (j := 7 * j + 1) C hb hX hbl hbA hS hL (nI_add (7 * j) 1) (by omega) dL_law_820 ?_
  refine lv_aload_n C.1 hb dL_law_821 rfl (lv_at hl 0 rfl) ?_
  refine lv_iload C.1 hb dL_law_822 (lv_at hl 4 rfl) ?_
  refine lv_iconst (v := 2) C.1 hb dL_law_824 (by decide) ?_
  refine lv_iadd C.1 hb dL_law_825 ?_
  refine ld_s (j := 7 * j + 2) C hb hX hbl hbA hS hL (nI_add (7 * j) 2) (by omega) dL_law_826 ?_
  refine lv_aload_n C.1 hb dL_law_827 rfl (lv_at hl 3 rfl) ?_
  refine run_L (cRunL (As := [.ref (gA g 0), .int (xs (7 * j + 1)), .int (xs (7 * j + 2)), .ref (gA g 27)]) (rest := []) C hN hb (hml.trans hl.1.symm) hP hS (k_L_toldSum l hl0 g S n hR.1.1 (xs (7 * j + 1)) (xs (7 * j + 2))) wm_380 wm_381 wm_382 wm_54 (n := 4) (by decide +kernel) rfl ⟨rfl, rfl, Nat.le_of_ble_eq_true rfl, Nat.le_of_ble_eq_true rfl⟩ (Nat.le_of_ble_eq_true rfl) rfl ⟨hc0, hs0⟩ dL_law_828) hS (fun f H locs hf hP hS => ?_)
  obtain ⟨w1, w2, w3, ⟨n2, w4⟩, w5⟩ := w_toldSum hR (xs (7 * j + 1)) (xs (7 * j + 2)) f
  refine lv_istore (lv' := [(5, .int (cdE eIOB (xE_level (xs (7 * j + 1)) (xs (7 * j + 2))))), (0, .ref b), (1, .ref (gA g 0)), (2, .ref (gA g 17)), (3, .ref (gA g 27)), (4, .int (nI (7 * j)))]) C.1 hb dL_law_831 hl (by decide) rfl (fun ls hl => ?_)
  refine lv_aload_n C.1 hb dL_law_833 rfl (lv_at hl 3 rfl) ?_
  refine lv_aload_n C.1 hb dL_law_834 rfl (lv_at hl 1 rfl) ?_
  refine lv_iload C.1 hb dL_law_835 (lv_at hl 5 rfl) ?_
  refine lv_iconst (v := 1) C.1 hb dL_law_837 (by decide) ?_
  refine lv_iadd C.1 hb dL_law_838 ?_
  refine ld_s (j := 7 * j + 1) C hb hX hbl hbA hS hL (nI_add (7 * j) 1) (by omega) dL_law_839 ?_
  refine lv_aload_n C.1 hb dL_law_840 rfl (lv_at hl 1 rfl) ?_
  refine lv_iload C.1 hb dL_law_841 (lv_at hl 5 rfl) ?_
  refine lv_iconst (v := 2) C.1 hb dL_law_843 (by decide) ?_
  refine lv_iadd C.1 hb dL_law_844 ?_
  refine ld_s (j := 7 * j + 2) C hb hX hbl hbA hS hL (nI_add (7 * j) 2) (by omega) dL_law_845 ?_
  refine run_wr (cRunM (As := [.int (xs (7 * j + 1)), .int (xs (7 * j + 2))]) (rest := []) C hb (hml.trans hl.1.symm) hP hS rfl (k_X1_toldSum l g (wsOut S f) n w1 (xs (7 * j + 1)) (xs (7 * j + 2))) wm_387 wm_388 wm_389 wm_390 wm_5 (n := 2) (by decide +kernel) rfl ⟨rfl, rfl, Nat.le_of_ble_eq_true rfl, Nat.le_of_ble_eq_true rfl⟩ (Nat.le_of_ble_eq_true rfl) rfl ⟨by omega, by omega⟩ dL_law_846) hS (fun H locs hP hS => ?_)
  refine lv_lstore (lv' := [(6, .long (mV_levL (xs (7 * j + 1)) (xs (7 * j + 2)) (mSumL (mGo (wsOut S f) true true true) n (tN (xs (7 * j + 1))) (xs (7 * j + 2)) 3))), (5, .int (cdE eIOB (xE_level (xs (7 * j + 1)) (xs (7 * j + 2))))), (0, .ref b), (1, .ref (gA g 0)), (2, .ref (gA g 17)), (3, .ref (gA g 27)), (4, .int (nI (7 * j)))]) C.1 hb dL_law_849 hl (by decide) rfl (fun ls hl => ?_)
  refine lv_aload_n C.1 hb dL_law_851 rfl (lv_at hl 4 rfl) ?_
  refine run_rd (cRunM (As := []) (rest := []) C hb (hml.trans hl.1.symm) hP hS rfl (k_X1_thrown l g (mGo (wsOut S f) (xHasLevel (xs (7 * j + 1)) (xs (7 * j + 2))) true true)) wm_113 wm_114 wm_115 wm_116 wm_5 (n := 0) (by decide +kernel) rfl ⟨rfl, rfl, Nat.le_of_ble_eq_true rfl, Nat.le_of_ble_eq_true rfl⟩ (Nat.le_of_ble_eq_true rfl) rfl ⟨by omega, by omega⟩ dL_law_852) ?_
  refine toI w2 ?_
  refine lv_iload C.1 hb dL_law_855 (lv_at hl 1 rfl) ?_
  refine lv_icmp_eq (tgt := 862) C.1 hb dL_law_857 (by decide) (fun c265 => ?_) (fun c265 => ?_)
  · refine lv_iload C.1 hb dL_law_862 (lv_at hl 1 rfl) ?_
    refine lv_if_ne (tgt := 878) C.1 hb dL_law_864 (by decide) (fun c266 => ?_) (fun c266 => ?_)
    · refine lv_goto (tgt := 1183) C.1 hb dL_law_878 (by decide) ?_
      exact K _ (mGo (wsOut S f) (xHasLevel (xs (7 * j + 1)) (xs (7 * j + 2))) true true) H locs ls w4 hP hS (lv_sub hl [2, 3, 4, 5, 6] rfl)
    · have he := cdE_0 c266
      refine lv_aload_n C.1 hb dL_law_867 rfl (lv_at hl 5 rfl) ?_
      refine lv_iconst (v := 0) C.1 hb dL_law_868 (by decide) ?_
      refine ldO_out (j := 0) C hb hP (by decide) (by decide) dL_law_869 ?_
      refine toL ((congrFun w5 0).trans (hf he)) ?_
      refine lv_lload C.1 hb dL_law_870 (lv_at hl 0 rfl) ?_
      refine toL (w3 he).symm ?_
      refine lc_eq (tgt := 878) C hb dL_law_872 dL_law_873 (by decide) (fun c267 => ?_) (fun c267 => ?_)
      · refine lv_goto (tgt := 1183) C.1 hb dL_law_878 (by decide) ?_
        exact K _ (mGo (wsOut S f) (xHasLevel (xs (7 * j + 1)) (xs (7 * j + 2))) true true) H locs ls w4 hP hS (lv_sub hl [2, 3, 4, 5, 6] rfl)
      · exact absurd rfl c267
  · exact absurd rfl c265

set_option maxRecDepth 100000 in
set_option maxHeartbeats 4000000 in
theorem law_c14 {p : Program} (l : Launch) (hl0 : l.stackTraces = false) {e : Env} {s : State} {m : MethodId} {below : List Frame} {meth : Method} {c : Code} {g : gG} {b L : Nat} {xs : Nat → Int32} (C : CW g RL p s m #[Value.ref b]) (hN : NcX s) (hb : c.code = cL_law) (hml : c.maxLocals = 8) (hX : va_X b L xs s s.heap) (hbl : b < s.heap.size) (hbA : ¬ Ab g b) (hL : L ≤ 3584) {j : Nat} (hj : 7 * j + 7 ≤ L) {cells slots : Nat} (hc : cells + 1 ≤ 617616) (hs : slots + 6 ≤ 7243256) {n : Nat} {S : WS} (hR : RR n S S) {H : Heap} {locs : List Loc} (hP : HW g S H) (hS : va_S (Ab g) s.heap H locs) {ls : Array Slot} (hl : lv_has ls 8 [(0, .ref b), (1, .ref (gA g 0)), (2, .ref (gA g 17)), (3, .ref (gA g 27)), (4, .int (nI (7 * j)))]) {Q : State → Prop} (K : ∀ (n : Nat) (S : WS) (H : Heap) (locs : List Loc) (ls : Array Slot), RR n S S → HW g S H → va_S (Ab g) s.heap H locs → lv_has ls 8 [(0, .ref b), (1, .ref (gA g 0)), (2, .ref (gA g 17)), (3, .ref (gA g 27)), (4, .int (nI (7 * j)))] → W p l e room_1 s m #[Value.ref b] below meth c H locs (cells + 1) (slots + 6) Q (F0 m 1183 ls [])) : W p l e room_1 s m #[Value.ref b] below meth c H locs cells slots Q (F0 m 881 ls []) := by
  have hc0 : cells + 1 ≤ room_1.cells := hc
  have hs0 : slots + 6 ≤ room_1.slots := hs
  refine lv_aload_n C.1 hb dL_law_881 rfl (lv_at hl 1 rfl) ?_
  refine lv_aload_n C.1 hb dL_law_882 rfl (lv_at hl 0 rfl) ?_
  refine lv_iload C.1 hb dL_law_883 (lv_at hl 4 rfl) ?_
  refine lv_iconst (v := 1) C.1 hb dL_law_885 (by decide) ?_
  refine lv_iadd C.1 hb dL_law_886 ?_
  refine ld_s (j := 7 * j + 1) C hb hX hbl hbA hS hL (nI_add (7 * j) 1) (by omega) dL_law_887 ?_
  refine lv_aload_n C.1 hb dL_law_888 rfl (lv_at hl 0 rfl) ?_
  refine lv_iload C.1 hb dL_law_889 (lv_at hl 4 rfl) ?_
  refine lv_iconst (v := 2) C.1 hb dL_law_891 (by decide) ?_
  refine lv_iadd C.1 hb dL_law_892 ?_
  refine ld_s (j := 7 * j + 2) C hb hX hbl hbA hS hL (nI_add (7 * j) 2) (by omega) dL_law_893 ?_
  refine lv_aload_n C.1 hb dL_law_894 rfl (lv_at hl 3 rfl) ?_
  refine run_L (cRunL (As := [.ref (gA g 0), .int (xs (7 * j + 1)), .int (xs (7 * j + 2)), .ref (gA g 27)]) (rest := []) C hN hb (hml.trans hl.1.symm) hP hS (k_L_fittedSum l hl0 g S n hR.1.1 (xs (7 * j + 1)) (xs (7 * j + 2))) wm_391 wm_392 wm_393 wm_54 (n := 4) (by decide +kernel) rfl ⟨rfl, rfl, Nat.le_of_ble_eq_true rfl, Nat.le_of_ble_eq_true rfl⟩ (Nat.le_of_ble_eq_true rfl) rfl ⟨hc0, hs0⟩ dL_law_895) hS (fun f H locs hf hP hS => ?_)
  obtain ⟨w1, w2, w3, ⟨n2, w4⟩, w5⟩ := w_fittedSum hR (xs (7 * j + 1)) (xs (7 * j + 2)) f
  refine lv_istore (lv' := [(5, .int (cdE eIOB (xE_level (xs (7 * j + 1)) (xs (7 * j + 2))))), (0, .ref b), (1, .ref (gA g 0)), (2, .ref (gA g 17)), (3, .ref (gA g 27)), (4, .int (nI (7 * j)))]) C.1 hb dL_law_898 hl (by decide) rfl (fun ls hl => ?_)
  refine lv_aload_n C.1 hb dL_law_900 rfl (lv_at hl 3 rfl) ?_
  refine lv_aload_n C.1 hb dL_law_901 rfl (lv_at hl 1 rfl) ?_
  refine lv_iload C.1 hb dL_law_902 (lv_at hl 5 rfl) ?_
  refine lv_iconst (v := 1) C.1 hb dL_law_904 (by decide) ?_
  refine lv_iadd C.1 hb dL_law_905 ?_
  refine ld_s (j := 7 * j + 1) C hb hX hbl hbA hS hL (nI_add (7 * j) 1) (by omega) dL_law_906 ?_
  refine lv_aload_n C.1 hb dL_law_907 rfl (lv_at hl 1 rfl) ?_
  refine lv_iload C.1 hb dL_law_908 (lv_at hl 5 rfl) ?_
  refine lv_iconst (v := 2) C.1 hb dL_law_910 (by decide) ?_
  refine lv_iadd C.1 hb dL_law_911 ?_
  refine ld_s (j := 7 * j + 2) C hb hX hbl hbA hS hL (nI_add (7 * j) 2) (by omega) dL_law_912 ?_
  refine run_wr (cRunM (As := [.int (xs (7 * j + 1)), .int (xs (7 * j + 2))]) (rest := []) C hb (hml.trans hl.1.symm) hP hS rfl (k_X1_fittedSum l g (wsOut S f) n w1 (xs (7 * j + 1)) (xs (7 * j + 2))) wm_398 wm_399 wm_400 wm_401 wm_5 (n := 2) (by decide +kernel) rfl ⟨rfl, rfl, Nat.le_of_ble_eq_true rfl, Nat.le_of_ble_eq_true rfl⟩ (Nat.le_of_ble_eq_true rfl) rfl ⟨by omega, by omega⟩ dL_law_913) hS (fun H locs hP hS => ?_)
  refine lv_lstore (lv' := [(6, .long (mV_levL (xs (7 * j + 1)) (xs (7 * j + 2)) (mFitO (mGo (wsOut S f) true true true) n (tN (xs (7 * j + 1))) (xs (7 * j + 2))))), (5, .int (cdE eIOB (xE_level (xs (7 * j + 1)) (xs (7 * j + 2))))), (0, .ref b), (1, .ref (gA g 0)), (2, .ref (gA g 17)), (3, .ref (gA g 27)), (4, .int (nI (7 * j)))]) C.1 hb dL_law_916 hl (by decide) rfl (fun ls hl => ?_)
  refine lv_aload_n C.1 hb dL_law_918 rfl (lv_at hl 4 rfl) ?_
  refine run_rd (cRunM (As := []) (rest := []) C hb (hml.trans hl.1.symm) hP hS rfl (k_X1_thrown l g (mGo (wsOut S f) (xHasLevel (xs (7 * j + 1)) (xs (7 * j + 2))) true true)) wm_113 wm_114 wm_115 wm_116 wm_5 (n := 0) (by decide +kernel) rfl ⟨rfl, rfl, Nat.le_of_ble_eq_true rfl, Nat.le_of_ble_eq_true rfl⟩ (Nat.le_of_ble_eq_true rfl) rfl ⟨by omega, by omega⟩ dL_law_919) ?_
  refine toI w2 ?_
  refine lv_iload C.1 hb dL_law_922 (lv_at hl 1 rfl) ?_
  refine lv_icmp_eq (tgt := 929) C.1 hb dL_law_924 (by decide) (fun c268 => ?_) (fun c268 => ?_)
  · refine lv_iload C.1 hb dL_law_929 (lv_at hl 1 rfl) ?_
    refine lv_if_ne (tgt := 945) C.1 hb dL_law_931 (by decide) (fun c269 => ?_) (fun c269 => ?_)
    · refine lv_goto (tgt := 1183) C.1 hb dL_law_945 (by decide) ?_
      exact K _ (mGo (wsOut S f) (xHasLevel (xs (7 * j + 1)) (xs (7 * j + 2))) true true) H locs ls w4 hP hS (lv_sub hl [2, 3, 4, 5, 6] rfl)
    · have he := cdE_0 c269
      refine lv_aload_n C.1 hb dL_law_934 rfl (lv_at hl 5 rfl) ?_
      refine lv_iconst (v := 0) C.1 hb dL_law_935 (by decide) ?_
      refine ldO_out (j := 0) C hb hP (by decide) (by decide) dL_law_936 ?_
      refine toL ((congrFun w5 0).trans (hf he)) ?_
      refine lv_lload C.1 hb dL_law_937 (lv_at hl 0 rfl) ?_
      refine toL (w3 he).symm ?_
      refine lc_eq (tgt := 945) C hb dL_law_939 dL_law_940 (by decide) (fun c270 => ?_) (fun c270 => ?_)
      · refine lv_goto (tgt := 1183) C.1 hb dL_law_945 (by decide) ?_
        exact K _ (mGo (wsOut S f) (xHasLevel (xs (7 * j + 1)) (xs (7 * j + 2))) true true) H locs ls w4 hP hS (lv_sub hl [2, 3, 4, 5, 6] rfl)
      · exact absurd rfl c270
  · exact absurd rfl c268

set_option maxRecDepth 100000 in
set_option maxHeartbeats 4000000 in
theorem law_c15 {p : Program} (l : Launch) (hl0 : l.stackTraces = false) {e : Env} {s : State} {m : MethodId} {below : List Frame} {meth : Method} {c : Code} {g : gG} {b L : Nat} {xs : Nat → Int32} (C : CW g RL p s m #[Value.ref b]) (hN : NcX s) (hb : c.code = cL_law) (hml : c.maxLocals = 8) (hX : va_X b L xs s s.heap) (hbl : b < s.heap.size) (hbA : ¬ Ab g b) (hL : L ≤ 3584) {j : Nat} (hj : 7 * j + 7 ≤ L) {cells slots : Nat} (hc : cells + 1 ≤ 617616) (hs : slots + 6 ≤ 7243256) {n : Nat} {S : WS} (hR : RR n S S) {H : Heap} {locs : List Loc} (hP : HW g S H) (hS : va_S (Ab g) s.heap H locs) {ls : Array Slot} (hl : lv_has ls 8 [(0, .ref b), (1, .ref (gA g 0)), (2, .ref (gA g 17)), (3, .ref (gA g 27)), (4, .int (nI (7 * j)))]) {Q : State → Prop} (K : ∀ (n : Nat) (S : WS) (H : Heap) (locs : List Loc) (ls : Array Slot), RR n S S → HW g S H → va_S (Ab g) s.heap H locs → lv_has ls 8 [(0, .ref b), (1, .ref (gA g 0)), (2, .ref (gA g 17)), (3, .ref (gA g 27)), (4, .int (nI (7 * j)))] → W p l e room_1 s m #[Value.ref b] below meth c H locs (cells + 1) (slots + 6) Q (F0 m 1183 ls [])) : W p l e room_1 s m #[Value.ref b] below meth c H locs cells slots Q (F0 m 948 ls []) := by
  have hc0 : cells + 1 ≤ room_1.cells := hc
  have hs0 : slots + 6 ≤ room_1.slots := hs
  refine lv_aload_n C.1 hb dL_law_948 rfl (lv_at hl 1 rfl) ?_
  refine lv_aload_n C.1 hb dL_law_949 rfl (lv_at hl 0 rfl) ?_
  refine lv_iload C.1 hb dL_law_950 (lv_at hl 4 rfl) ?_
  refine lv_iconst (v := 1) C.1 hb dL_law_952 (by decide) ?_
  refine lv_iadd C.1 hb dL_law_953 ?_
  refine ld_s (j := 7 * j + 1) C hb hX hbl hbA hS hL (nI_add (7 * j) 1) (by omega) dL_law_954 ?_
  refine lv_aload_n C.1 hb dL_law_955 rfl (lv_at hl 3 rfl) ?_
  refine run_L (cRunL (As := [.ref (gA g 0), .int (xs (7 * j + 1)), .ref (gA g 27)]) (rest := []) C hN hb (hml.trans hl.1.symm) hP hS (k_L_worst l hl0 g S n hR.1.1 (xs (7 * j + 1))) wm_402 wm_403 wm_404 wm_54 (n := 3) (by decide +kernel) rfl ⟨rfl, rfl, Nat.le_of_ble_eq_true rfl, Nat.le_of_ble_eq_true rfl⟩ (Nat.le_of_ble_eq_true rfl) rfl ⟨hc0, hs0⟩ dL_law_956) hS (fun f H locs hf hP hS => ?_)
  obtain ⟨w1, w2, w3, ⟨n2, w4⟩, w5⟩ := w_worst hR (xs (7 * j + 1)) f
  refine lv_istore (lv' := [(5, .int (cdE eIOB (xE_trait (xs (7 * j + 1))))), (0, .ref b), (1, .ref (gA g 0)), (2, .ref (gA g 17)), (3, .ref (gA g 27)), (4, .int (nI (7 * j)))]) C.1 hb dL_law_959 hl (by decide) rfl (fun ls hl => ?_)
  refine lv_aload_n C.1 hb dL_law_961 rfl (lv_at hl 3 rfl) ?_
  refine lv_aload_n C.1 hb dL_law_962 rfl (lv_at hl 1 rfl) ?_
  refine lv_iload C.1 hb dL_law_963 (lv_at hl 5 rfl) ?_
  refine lv_iconst (v := 1) C.1 hb dL_law_965 (by decide) ?_
  refine lv_iadd C.1 hb dL_law_966 ?_
  refine ld_s (j := 7 * j + 1) C hb hX hbl hbA hS hL (nI_add (7 * j) 1) (by omega) dL_law_967 ?_
  refine run_wr (cRunM (As := [.int (xs (7 * j + 1))]) (rest := []) C hb (hml.trans hl.1.symm) hP hS rfl (k_X1_worst l g (wsOut S f) n w1 (xs (7 * j + 1))) wm_412 wm_413 wm_414 wm_415 wm_5 (n := 1) (by decide +kernel) rfl ⟨rfl, rfl, Nat.le_of_ble_eq_true rfl, Nat.le_of_ble_eq_true rfl⟩ (Nat.le_of_ble_eq_true rfl) rfl ⟨by omega, by omega⟩ dL_law_968) hS (fun H locs hP hS => ?_)
  refine lv_lstore (lv' := [(6, .long (mV_trL (xs (7 * j + 1)) (mWorst (mGo (wsOut S f) true true true) n (tN (xs (7 * j + 1))) (levN (tN (xs (7 * j + 1))))))), (5, .int (cdE eIOB (xE_trait (xs (7 * j + 1))))), (0, .ref b), (1, .ref (gA g 0)), (2, .ref (gA g 17)), (3, .ref (gA g 27)), (4, .int (nI (7 * j)))]) C.1 hb dL_law_971 hl (by decide) rfl (fun ls hl => ?_)
  refine lv_aload_n C.1 hb dL_law_973 rfl (lv_at hl 4 rfl) ?_
  refine run_rd (cRunM (As := []) (rest := []) C hb (hml.trans hl.1.symm) hP hS rfl (k_X1_thrown l g (mGo (wsOut S f) (xHasTrait (xs (7 * j + 1))) true true)) wm_113 wm_114 wm_115 wm_116 wm_5 (n := 0) (by decide +kernel) rfl ⟨rfl, rfl, Nat.le_of_ble_eq_true rfl, Nat.le_of_ble_eq_true rfl⟩ (Nat.le_of_ble_eq_true rfl) rfl ⟨by omega, by omega⟩ dL_law_974) ?_
  refine toI w2 ?_
  refine lv_iload C.1 hb dL_law_977 (lv_at hl 1 rfl) ?_
  refine lv_icmp_eq (tgt := 984) C.1 hb dL_law_979 (by decide) (fun c271 => ?_) (fun c271 => ?_)
  · refine lv_iload C.1 hb dL_law_984 (lv_at hl 1 rfl) ?_
    refine lv_if_ne (tgt := 1000) C.1 hb dL_law_986 (by decide) (fun c272 => ?_) (fun c272 => ?_)
    · refine lv_goto (tgt := 1183) C.1 hb dL_law_1000 (by decide) ?_
      exact K _ (mGo (wsOut S f) (xHasTrait (xs (7 * j + 1))) true true) H locs ls w4 hP hS (lv_sub hl [2, 3, 4, 5, 6] rfl)
    · have he := cdE_0 c272
      refine lv_aload_n C.1 hb dL_law_989 rfl (lv_at hl 5 rfl) ?_
      refine lv_iconst (v := 0) C.1 hb dL_law_990 (by decide) ?_
      refine ldO_out (j := 0) C hb hP (by decide) (by decide) dL_law_991 ?_
      refine toL ((congrFun w5 0).trans (hf he)) ?_
      refine lv_lload C.1 hb dL_law_992 (lv_at hl 0 rfl) ?_
      refine toL (w3 he).symm ?_
      refine lc_eq (tgt := 1000) C hb dL_law_994 dL_law_995 (by decide) (fun c273 => ?_) (fun c273 => ?_)
      · refine lv_goto (tgt := 1183) C.1 hb dL_law_1000 (by decide) ?_
        exact K _ (mGo (wsOut S f) (xHasTrait (xs (7 * j + 1))) true true) H locs ls w4 hP hS (lv_sub hl [2, 3, 4, 5, 6] rfl)
      · exact absurd rfl c273
  · exact absurd rfl c271

set_option maxRecDepth 100000 in
set_option maxHeartbeats 4000000 in
theorem law_c16 {p : Program} (l : Launch) (hl0 : l.stackTraces = false) {e : Env} {s : State} {m : MethodId} {below : List Frame} {meth : Method} {c : Code} {g : gG} {b L : Nat} {xs : Nat → Int32} (C : CW g RL p s m #[Value.ref b]) (hN : NcX s) (hb : c.code = cL_law) (hml : c.maxLocals = 8) (hX : va_X b L xs s s.heap) (hbl : b < s.heap.size) (hbA : ¬ Ab g b) (hL : L ≤ 3584) {j : Nat} (hj : 7 * j + 7 ≤ L) {cells slots : Nat} (hc : cells + 1 ≤ 617616) (hs : slots + 6 ≤ 7243256) {n : Nat} {S : WS} (hR : RR n S S) {H : Heap} {locs : List Loc} (hP : HW g S H) (hS : va_S (Ab g) s.heap H locs) {ls : Array Slot} (hl : lv_has ls 8 [(0, .ref b), (1, .ref (gA g 0)), (2, .ref (gA g 17)), (3, .ref (gA g 27)), (4, .int (nI (7 * j)))]) {Q : State → Prop} (K : ∀ (n : Nat) (S : WS) (H : Heap) (locs : List Loc) (ls : Array Slot), RR n S S → HW g S H → va_S (Ab g) s.heap H locs → lv_has ls 8 [(0, .ref b), (1, .ref (gA g 0)), (2, .ref (gA g 17)), (3, .ref (gA g 27)), (4, .int (nI (7 * j)))] → W p l e room_1 s m #[Value.ref b] below meth c H locs (cells + 1) (slots + 6) Q (F0 m 1183 ls [])) : W p l e room_1 s m #[Value.ref b] below meth c H locs cells slots Q (F0 m 1003 ls []) := by
  have hc0 : cells + 1 ≤ room_1.cells := hc
  have hs0 : slots + 6 ≤ room_1.slots := hs
  refine lv_aload_n C.1 hb dL_law_1003 rfl (lv_at hl 1 rfl) ?_
  refine lv_aload_n C.1 hb dL_law_1004 rfl (lv_at hl 0 rfl) ?_
  refine lv_iload C.1 hb dL_law_1005 (lv_at hl 4 rfl) ?_
  refine lv_iconst (v := 1) C.1 hb dL_law_1007 (by decide) ?_
  refine lv_iadd C.1 hb dL_law_1008 ?_
  refine ld_s (j := 7 * j + 1) C hb hX hbl hbA hS hL (nI_add (7 * j) 1) (by omega) dL_law_1009 ?_
  refine lv_aload_n C.1 hb dL_law_1010 rfl (lv_at hl 3 rfl) ?_
  refine run_L (cRunL (As := [.ref (gA g 0), .int (xs (7 * j + 1)), .ref (gA g 27)]) (rest := []) C hN hb (hml.trans hl.1.symm) hP hS (k_L_premium l hl0 g S n hR.1.1 (xs (7 * j + 1))) wm_416 wm_417 wm_418 wm_54 (n := 3) (by decide +kernel) rfl ⟨rfl, rfl, Nat.le_of_ble_eq_true rfl, Nat.le_of_ble_eq_true rfl⟩ (Nat.le_of_ble_eq_true rfl) rfl ⟨hc0, hs0⟩ dL_law_1011) hS (fun f H locs hf hP hS => ?_)
  obtain ⟨w1, w2, w3, ⟨n2, w4⟩, w5⟩ := w_premium hR (xs (7 * j + 1)) f
  refine lv_istore (lv' := [(5, .int (cdE eIOB (xE_row S (xs (7 * j + 1))))), (0, .ref b), (1, .ref (gA g 0)), (2, .ref (gA g 17)), (3, .ref (gA g 27)), (4, .int (nI (7 * j)))]) C.1 hb dL_law_1014 hl (by decide) rfl (fun ls hl => ?_)
  refine lv_aload_n C.1 hb dL_law_1016 rfl (lv_at hl 3 rfl) ?_
  refine lv_aload_n C.1 hb dL_law_1017 rfl (lv_at hl 1 rfl) ?_
  refine lv_iload C.1 hb dL_law_1018 (lv_at hl 5 rfl) ?_
  refine lv_iconst (v := 1) C.1 hb dL_law_1020 (by decide) ?_
  refine lv_iadd C.1 hb dL_law_1021 ?_
  refine ld_s (j := 7 * j + 1) C hb hX hbl hbA hS hL (nI_add (7 * j) 1) (by omega) dL_law_1022 ?_
  refine run_wr (cRunM (As := [.int (xs (7 * j + 1))]) (rest := []) C hb (hml.trans hl.1.symm) hP hS rfl (k_X1_premium l g (wsOut S f) n w1 (xs (7 * j + 1))) wm_423 wm_424 wm_425 wm_426 wm_5 (n := 1) (by decide +kernel) rfl ⟨rfl, rfl, Nat.le_of_ble_eq_true rfl, Nat.le_of_ble_eq_true rfl⟩ (Nat.le_of_ble_eq_true rfl) rfl ⟨by omega, by omega⟩ dL_law_1023) hS (fun H locs hP hS => ?_)
  refine lv_lstore (lv' := [(6, .long (mV_rowL (wsOut S f) (xs (7 * j + 1)) (mPrem (mGo (wsOut S f) true true true) n (tN (xs (7 * j + 1)))))), (5, .int (cdE eIOB (xE_row S (xs (7 * j + 1))))), (0, .ref b), (1, .ref (gA g 0)), (2, .ref (gA g 17)), (3, .ref (gA g 27)), (4, .int (nI (7 * j)))]) C.1 hb dL_law_1026 hl (by decide) rfl (fun ls hl => ?_)
  refine lv_aload_n C.1 hb dL_law_1028 rfl (lv_at hl 4 rfl) ?_
  refine run_rd (cRunM (As := []) (rest := []) C hb (hml.trans hl.1.symm) hP hS rfl (k_X1_thrown l g (mGo (wsOut S f) (mRow (wsOut S f) (xs (7 * j + 1))) true true)) wm_113 wm_114 wm_115 wm_116 wm_5 (n := 0) (by decide +kernel) rfl ⟨rfl, rfl, Nat.le_of_ble_eq_true rfl, Nat.le_of_ble_eq_true rfl⟩ (Nat.le_of_ble_eq_true rfl) rfl ⟨by omega, by omega⟩ dL_law_1029) ?_
  refine toI w2 ?_
  refine lv_iload C.1 hb dL_law_1032 (lv_at hl 1 rfl) ?_
  refine lv_icmp_eq (tgt := 1039) C.1 hb dL_law_1034 (by decide) (fun c274 => ?_) (fun c274 => ?_)
  · refine lv_iload C.1 hb dL_law_1039 (lv_at hl 1 rfl) ?_
    refine lv_if_ne (tgt := 1055) C.1 hb dL_law_1041 (by decide) (fun c275 => ?_) (fun c275 => ?_)
    · refine lv_goto (tgt := 1183) C.1 hb dL_law_1055 (by decide) ?_
      exact K _ (mGo (wsOut S f) (mRow (wsOut S f) (xs (7 * j + 1))) true true) H locs ls w4 hP hS (lv_sub hl [2, 3, 4, 5, 6] rfl)
    · have he := cdE_0 c275
      refine lv_aload_n C.1 hb dL_law_1044 rfl (lv_at hl 5 rfl) ?_
      refine lv_iconst (v := 0) C.1 hb dL_law_1045 (by decide) ?_
      refine ldO_out (j := 0) C hb hP (by decide) (by decide) dL_law_1046 ?_
      refine toL ((congrFun w5 0).trans (hf he)) ?_
      refine lv_lload C.1 hb dL_law_1047 (lv_at hl 0 rfl) ?_
      refine toL (w3 he).symm ?_
      refine lc_eq (tgt := 1055) C hb dL_law_1049 dL_law_1050 (by decide) (fun c276 => ?_) (fun c276 => ?_)
      · refine lv_goto (tgt := 1183) C.1 hb dL_law_1055 (by decide) ?_
        exact K _ (mGo (wsOut S f) (mRow (wsOut S f) (xs (7 * j + 1))) true true) H locs ls w4 hP hS (lv_sub hl [2, 3, 4, 5, 6] rfl)
      · exact absurd rfl c276
  · exact absurd rfl c274

set_option maxRecDepth 100000 in
set_option maxHeartbeats 4000000 in
theorem law_c17 {p : Program} (l : Launch) (hl0 : l.stackTraces = false) {e : Env} {s : State} {m : MethodId} {below : List Frame} {meth : Method} {c : Code} {g : gG} {b L : Nat} {xs : Nat → Int32} (C : CW g RL p s m #[Value.ref b]) (hN : NcX s) (hb : c.code = cL_law) (hml : c.maxLocals = 8) (hX : va_X b L xs s s.heap) (hbl : b < s.heap.size) (hbA : ¬ Ab g b) (hL : L ≤ 3584) {j : Nat} (hj : 7 * j + 7 ≤ L) {cells slots : Nat} (hc : cells + 1 ≤ 617616) (hs : slots + 6 ≤ 7243256) {n : Nat} {S : WS} (hR : RR n S S) {H : Heap} {locs : List Loc} (hP : HW g S H) (hS : va_S (Ab g) s.heap H locs) {ls : Array Slot} (hl : lv_has ls 8 [(0, .ref b), (1, .ref (gA g 0)), (2, .ref (gA g 17)), (3, .ref (gA g 27)), (4, .int (nI (7 * j)))]) {Q : State → Prop} (K : ∀ (n : Nat) (S : WS) (H : Heap) (locs : List Loc) (ls : Array Slot), RR n S S → HW g S H → va_S (Ab g) s.heap H locs → lv_has ls 8 [(0, .ref b), (1, .ref (gA g 0)), (2, .ref (gA g 17)), (3, .ref (gA g 27)), (4, .int (nI (7 * j)))] → W p l e room_1 s m #[Value.ref b] below meth c H locs (cells + 1) (slots + 6) Q (F0 m 1183 ls [])) : W p l e room_1 s m #[Value.ref b] below meth c H locs cells slots Q (F0 m 1058 ls []) := by
  have hc0 : cells + 1 ≤ room_1.cells := hc
  have hs0 : slots + 6 ≤ room_1.slots := hs
  refine lv_aload_n C.1 hb dL_law_1058 rfl (lv_at hl 1 rfl) ?_
  refine lv_aload_n C.1 hb dL_law_1059 rfl (lv_at hl 0 rfl) ?_
  refine lv_iload C.1 hb dL_law_1060 (lv_at hl 4 rfl) ?_
  refine lv_iconst (v := 1) C.1 hb dL_law_1062 (by decide) ?_
  refine lv_iadd C.1 hb dL_law_1063 ?_
  refine ld_s (j := 7 * j + 1) C hb hX hbl hbA hS hL (nI_add (7 * j) 1) (by omega) dL_law_1064 ?_
  refine lv_aload_n C.1 hb dL_law_1065 rfl (lv_at hl 3 rfl) ?_
  refine run_L (cRunL (As := [.ref (gA g 0), .int (xs (7 * j + 1)), .ref (gA g 27)]) (rest := []) C hN hb (hml.trans hl.1.symm) hP hS (k_L_capped l hl0 g S n hR.1.1 (xs (7 * j + 1))) wm_427 wm_428 wm_429 wm_54 (n := 3) (by decide +kernel) rfl ⟨rfl, rfl, Nat.le_of_ble_eq_true rfl, Nat.le_of_ble_eq_true rfl⟩ (Nat.le_of_ble_eq_true rfl) rfl ⟨hc0, hs0⟩ dL_law_1066) hS (fun f H locs hf hP hS => ?_)
  obtain ⟨w1, w2, w3, ⟨n2, w4⟩, w5⟩ := w_capped hR (xs (7 * j + 1)) f
  refine lv_istore (lv' := [(5, .int (cdE eIOB (xE_row S (xs (7 * j + 1))))), (0, .ref b), (1, .ref (gA g 0)), (2, .ref (gA g 17)), (3, .ref (gA g 27)), (4, .int (nI (7 * j)))]) C.1 hb dL_law_1069 hl (by decide) rfl (fun ls hl => ?_)
  refine lv_aload_n C.1 hb dL_law_1071 rfl (lv_at hl 3 rfl) ?_
  refine lv_aload_n C.1 hb dL_law_1072 rfl (lv_at hl 1 rfl) ?_
  refine lv_iload C.1 hb dL_law_1073 (lv_at hl 5 rfl) ?_
  refine lv_iconst (v := 1) C.1 hb dL_law_1075 (by decide) ?_
  refine lv_iadd C.1 hb dL_law_1076 ?_
  refine ld_s (j := 7 * j + 1) C hb hX hbl hbA hS hL (nI_add (7 * j) 1) (by omega) dL_law_1077 ?_
  refine run_wr (cRunM (As := [.int (xs (7 * j + 1))]) (rest := []) C hb (hml.trans hl.1.symm) hP hS rfl (k_X1_capped l g (wsOut S f) n w1 (xs (7 * j + 1))) wm_434 wm_435 wm_436 wm_437 wm_5 (n := 1) (by decide +kernel) rfl ⟨rfl, rfl, Nat.le_of_ble_eq_true rfl, Nat.le_of_ble_eq_true rfl⟩ (Nat.le_of_ble_eq_true rfl) rfl ⟨by omega, by omega⟩ dL_law_1078) hS (fun H locs hP hS => ?_)
  refine lv_lstore (lv' := [(6, .long (mV_rowL (wsOut S f) (xs (7 * j + 1)) (mCap (mGo (wsOut S f) true true true) n (tN (xs (7 * j + 1)))))), (5, .int (cdE eIOB (xE_row S (xs (7 * j + 1))))), (0, .ref b), (1, .ref (gA g 0)), (2, .ref (gA g 17)), (3, .ref (gA g 27)), (4, .int (nI (7 * j)))]) C.1 hb dL_law_1081 hl (by decide) rfl (fun ls hl => ?_)
  refine lv_aload_n C.1 hb dL_law_1083 rfl (lv_at hl 4 rfl) ?_
  refine run_rd (cRunM (As := []) (rest := []) C hb (hml.trans hl.1.symm) hP hS rfl (k_X1_thrown l g (mGo (wsOut S f) (mRow (wsOut S f) (xs (7 * j + 1))) true true)) wm_113 wm_114 wm_115 wm_116 wm_5 (n := 0) (by decide +kernel) rfl ⟨rfl, rfl, Nat.le_of_ble_eq_true rfl, Nat.le_of_ble_eq_true rfl⟩ (Nat.le_of_ble_eq_true rfl) rfl ⟨by omega, by omega⟩ dL_law_1084) ?_
  refine toI w2 ?_
  refine lv_iload C.1 hb dL_law_1087 (lv_at hl 1 rfl) ?_
  refine lv_icmp_eq (tgt := 1094) C.1 hb dL_law_1089 (by decide) (fun c277 => ?_) (fun c277 => ?_)
  · refine lv_iload C.1 hb dL_law_1094 (lv_at hl 1 rfl) ?_
    refine lv_if_ne (tgt := 1110) C.1 hb dL_law_1096 (by decide) (fun c278 => ?_) (fun c278 => ?_)
    · refine lv_goto (tgt := 1183) C.1 hb dL_law_1110 (by decide) ?_
      exact K _ (mGo (wsOut S f) (mRow (wsOut S f) (xs (7 * j + 1))) true true) H locs ls w4 hP hS (lv_sub hl [2, 3, 4, 5, 6] rfl)
    · have he := cdE_0 c278
      refine lv_aload_n C.1 hb dL_law_1099 rfl (lv_at hl 5 rfl) ?_
      refine lv_iconst (v := 0) C.1 hb dL_law_1100 (by decide) ?_
      refine ldO_out (j := 0) C hb hP (by decide) (by decide) dL_law_1101 ?_
      refine toL ((congrFun w5 0).trans (hf he)) ?_
      refine lv_lload C.1 hb dL_law_1102 (lv_at hl 0 rfl) ?_
      refine toL (w3 he).symm ?_
      refine lc_eq (tgt := 1110) C hb dL_law_1104 dL_law_1105 (by decide) (fun c279 => ?_) (fun c279 => ?_)
      · refine lv_goto (tgt := 1183) C.1 hb dL_law_1110 (by decide) ?_
        exact K _ (mGo (wsOut S f) (mRow (wsOut S f) (xs (7 * j + 1))) true true) H locs ls w4 hP hS (lv_sub hl [2, 3, 4, 5, 6] rfl)
      · exact absurd rfl c279
  · exact absurd rfl c277

set_option maxRecDepth 100000 in
set_option maxHeartbeats 4000000 in
theorem law_c18 {p : Program} (l : Launch) (hl0 : l.stackTraces = false) {e : Env} {s : State} {m : MethodId} {below : List Frame} {meth : Method} {c : Code} {g : gG} {b L : Nat} {xs : Nat → Int32} (C : CW g RL p s m #[Value.ref b]) (hN : NcX s) (hb : c.code = cL_law) (hml : c.maxLocals = 8) (hX : va_X b L xs s s.heap) (hbl : b < s.heap.size) (hbA : ¬ Ab g b) (hL : L ≤ 3584) {j : Nat} (hj : 7 * j + 7 ≤ L) {cells slots : Nat} (hc : cells + 1 ≤ 617616) (hs : slots + 6 ≤ 7243256) {n : Nat} {S : WS} (hR : RR n S S) {H : Heap} {locs : List Loc} (hP : HW g S H) (hS : va_S (Ab g) s.heap H locs) {ls : Array Slot} (hl : lv_has ls 8 [(0, .ref b), (1, .ref (gA g 0)), (2, .ref (gA g 17)), (3, .ref (gA g 27)), (4, .int (nI (7 * j)))]) {Q : State → Prop} (K : ∀ (n : Nat) (S : WS) (H : Heap) (locs : List Loc) (ls : Array Slot), RR n S S → HW g S H → va_S (Ab g) s.heap H locs → lv_has ls 8 [(0, .ref b), (1, .ref (gA g 0)), (2, .ref (gA g 17)), (3, .ref (gA g 27)), (4, .int (nI (7 * j)))] → W p l e room_1 s m #[Value.ref b] below meth c H locs (cells + 1) (slots + 6) Q (F0 m 1183 ls [])) : W p l e room_1 s m #[Value.ref b] below meth c H locs cells slots Q (F0 m 1113 ls []) := by
  have hc0 : cells + 1 ≤ room_1.cells := hc
  have hs0 : slots + 6 ≤ room_1.slots := hs
  refine W.widen (k := cells + 1) (n := slots + 6) (by omega) (by omega) ?_
  obtain ⟨w2, w3⟩ := w_lost hR
  have w1 : MI n S := hR.1.2.1
  refine lv_aload_n C.1 hb dL_law_1113 rfl (lv_at hl 1 rfl) ?_
  refine run_rd (cRunX (As := []) (rest := []) C hb (hml.trans hl.1.symm) hP hS rfl (k_X0_lost l g S n hR.1.1) wm_438 wm_439 wm_440 wm_441 wm_2 (n := 0) (by decide +kernel) rfl ⟨rfl, rfl, Nat.le_of_ble_eq_true rfl, Nat.le_of_ble_eq_true rfl⟩ (Nat.le_of_ble_eq_true rfl) rfl ⟨by omega, by omega⟩ dL_law_1114) ?_
  refine lv_aload_n C.1 hb dL_law_1117 rfl (lv_at hl 2 rfl) ?_
  refine run_wr (cRunM (As := []) (rest := [.long (xTot (xIa S 1) (xLng S 3) n - xTot (xIa S 1) (xCapP S) n)]) C hb (hml.trans hl.1.symm) hP hS rfl (k_X1_lost l g S n w1) wm_442 wm_443 wm_444 wm_445 wm_5 (n := 0) (by decide +kernel) rfl ⟨rfl, rfl, Nat.le_of_ble_eq_true rfl, Nat.le_of_ble_eq_true rfl⟩ (Nat.le_of_ble_eq_true rfl) rfl ⟨by omega, by omega⟩ dL_law_1118) hS (fun H locs hP hS => ?_)
  refine toL w2.symm ?_
  refine lc_eq (tgt := 1183) C hb dL_law_1121 dL_law_1122 (by decide) (fun c280 => ?_) (fun c280 => ?_)
  · exact K _ (msSc S 3 0) H locs ls w3 hP hS (lv_sub hl [0, 1, 2, 3, 4] rfl)
  · exact absurd rfl c280

set_option maxRecDepth 100000 in
set_option maxHeartbeats 4000000 in
theorem law_c19 {p : Program} (l : Launch) (hl0 : l.stackTraces = false) {e : Env} {s : State} {m : MethodId} {below : List Frame} {meth : Method} {c : Code} {g : gG} {b L : Nat} {xs : Nat → Int32} (C : CW g RL p s m #[Value.ref b]) (hN : NcX s) (hb : c.code = cL_law) (hml : c.maxLocals = 8) (hX : va_X b L xs s s.heap) (hbl : b < s.heap.size) (hbA : ¬ Ab g b) (hL : L ≤ 3584) {j : Nat} (hj : 7 * j + 7 ≤ L) {cells slots : Nat} (hc : cells + 1 ≤ 617616) (hs : slots + 6 ≤ 7243256) {n : Nat} {S : WS} (hR : RR n S S) {H : Heap} {locs : List Loc} (hP : HW g S H) (hS : va_S (Ab g) s.heap H locs) {ls : Array Slot} (hl : lv_has ls 8 [(0, .ref b), (1, .ref (gA g 0)), (2, .ref (gA g 17)), (3, .ref (gA g 27)), (4, .int (nI (7 * j)))]) {Q : State → Prop} (K : ∀ (n : Nat) (S : WS) (H : Heap) (locs : List Loc) (ls : Array Slot), RR n S S → HW g S H → va_S (Ab g) s.heap H locs → lv_has ls 8 [(0, .ref b), (1, .ref (gA g 0)), (2, .ref (gA g 17)), (3, .ref (gA g 27)), (4, .int (nI (7 * j)))] → W p l e room_1 s m #[Value.ref b] below meth c H locs (cells + 1) (slots + 6) Q (F0 m 1183 ls [])) : W p l e room_1 s m #[Value.ref b] below meth c H locs cells slots Q (F0 m 1127 ls []) := by
  have hc0 : cells + 1 ≤ room_1.cells := hc
  have hs0 : slots + 6 ≤ room_1.slots := hs
  refine lv_aload_n C.1 hb dL_law_1127 rfl (lv_at hl 1 rfl) ?_
  refine lv_aload_n C.1 hb dL_law_1128 rfl (lv_at hl 0 rfl) ?_
  refine lv_iload C.1 hb dL_law_1129 (lv_at hl 4 rfl) ?_
  refine lv_iconst (v := 1) C.1 hb dL_law_1131 (by decide) ?_
  refine lv_iadd C.1 hb dL_law_1132 ?_
  refine ld_s (j := 7 * j + 1) C hb hX hbl hbA hS hL (nI_add (7 * j) 1) (by omega) dL_law_1133 ?_
  refine lv_aload_n C.1 hb dL_law_1134 rfl (lv_at hl 3 rfl) ?_
  refine run_L (cRunL (As := [.ref (gA g 0), .int (xs (7 * j + 1)), .ref (gA g 27)]) (rest := []) C hN hb (hml.trans hl.1.symm) hP hS (k_L_rankedAt l hl0 g S n hR.1.1 (xs (7 * j + 1))) wm_446 wm_447 wm_448 wm_54 (n := 3) (by decide +kernel) rfl ⟨rfl, rfl, Nat.le_of_ble_eq_true rfl, Nat.le_of_ble_eq_true rfl⟩ (Nat.le_of_ble_eq_true rfl) rfl ⟨hc0, hs0⟩ dL_law_1135) hS (fun f H locs hf hP hS => ?_)
  obtain ⟨w1, w2, w3, ⟨n2, w4⟩, w5⟩ := w_rankedAt hR (xs (7 * j + 1)) f
  refine lv_istore (lv' := [(5, .int (cdE eIOB (xE_rank S n (xs (7 * j + 1))))), (0, .ref b), (1, .ref (gA g 0)), (2, .ref (gA g 17)), (3, .ref (gA g 27)), (4, .int (nI (7 * j)))]) C.1 hb dL_law_1138 hl (by decide) rfl (fun ls hl => ?_)
  refine lv_aload_n C.1 hb dL_law_1140 rfl (lv_at hl 3 rfl) ?_
  refine lv_aload_n C.1 hb dL_law_1141 rfl (lv_at hl 1 rfl) ?_
  refine lv_iload C.1 hb dL_law_1142 (lv_at hl 5 rfl) ?_
  refine lv_iconst (v := 1) C.1 hb dL_law_1144 (by decide) ?_
  refine lv_iadd C.1 hb dL_law_1145 ?_
  refine ld_s (j := 7 * j + 1) C hb hX hbl hbA hS hL (nI_add (7 * j) 1) (by omega) dL_law_1146 ?_
  refine run_wr (cRunM (As := [.int (xs (7 * j + 1))]) (rest := []) C hb (hml.trans hl.1.symm) hP hS rfl (k_X1_rankedAt l g (wsOut S f) n w1 (xs (7 * j + 1))) wm_461 wm_462 wm_463 wm_464 wm_5 (n := 1) (by decide +kernel) rfl ⟨rfl, rfl, Nat.le_of_ble_eq_true rfl, Nat.le_of_ble_eq_true rfl⟩ (Nat.le_of_ble_eq_true rfl) rfl ⟨by omega, by omega⟩ dL_law_1147) hS (fun H locs hP hS => ?_)
  refine lv_istore (lv' := [(6, .int (mV_rank (wsOut S f) n (xs (7 * j + 1)))), (5, .int (cdE eIOB (xE_rank S n (xs (7 * j + 1))))), (0, .ref b), (1, .ref (gA g 0)), (2, .ref (gA g 17)), (3, .ref (gA g 27)), (4, .int (nI (7 * j)))]) C.1 hb dL_law_1150 hl (by decide) rfl (fun ls hl => ?_)
  refine lv_aload_n C.1 hb dL_law_1152 rfl (lv_at hl 4 rfl) ?_
  refine run_rd (cRunM (As := []) (rest := []) C hb (hml.trans hl.1.symm) hP hS rfl (k_X1_thrown l g (mGo (wsOut S f) (!decide (mPlace (wsOut S f) n (xs (7 * j + 1)) = -1)) true true)) wm_113 wm_114 wm_115 wm_116 wm_5 (n := 0) (by decide +kernel) rfl ⟨rfl, rfl, Nat.le_of_ble_eq_true rfl, Nat.le_of_ble_eq_true rfl⟩ (Nat.le_of_ble_eq_true rfl) rfl ⟨by omega, by omega⟩ dL_law_1153) ?_
  refine toI w2 ?_
  refine lv_iload C.1 hb dL_law_1156 (lv_at hl 1 rfl) ?_
  refine lv_icmp_eq (tgt := 1163) C.1 hb dL_law_1158 (by decide) (fun c281 => ?_) (fun c281 => ?_)
  · refine lv_iload C.1 hb dL_law_1163 (lv_at hl 1 rfl) ?_
    refine lv_if_ne (tgt := 1180) C.1 hb dL_law_1165 (by decide) (fun c282 => ?_) (fun c282 => ?_)
    · refine lv_goto (tgt := 1183) C.1 hb dL_law_1180 (by decide) ?_
      exact K _ (mGo (wsOut S f) (!decide (mPlace (wsOut S f) n (xs (7 * j + 1)) = -1)) true true) H locs ls w4 hP hS (lv_sub hl [2, 3, 4, 5, 6] rfl)
    · have he := cdE_0 c282
      refine lv_aload_n C.1 hb dL_law_1168 rfl (lv_at hl 5 rfl) ?_
      refine lv_iconst (v := 0) C.1 hb dL_law_1169 (by decide) ?_
      refine ldO_out (j := 0) C hb hP (by decide) (by decide) dL_law_1170 ?_
      refine toL ((congrFun w5 0).trans (hf he)) ?_
      refine lv_iload C.1 hb dL_law_1171 (lv_at hl 0 rfl) ?_
      refine toI (w3 he).symm ?_
      refine lv_i2l C.1 hb dL_law_1173 rfl ?_
      refine lc_eq (tgt := 1180) C hb dL_law_1174 dL_law_1175 (by decide) (fun c283 => ?_) (fun c283 => ?_)
      · refine lv_goto (tgt := 1183) C.1 hb dL_law_1180 (by decide) ?_
        exact K _ (mGo (wsOut S f) (!decide (mPlace (wsOut S f) n (xs (7 * j + 1)) = -1)) true true) H locs ls w4 hP hS (lv_sub hl [2, 3, 4, 5, 6] rfl)
      · exact absurd rfl c283
  · exact absurd rfl c281
