set_option maxRecDepth 100000 in
set_option maxHeartbeats 4000000 in
theorem k_L_pass (l : Launch) (hl0 : l.stackTraces = false) (g : gG) (X : XS) (L : LAr) (n : Nat) (T : WS) (hR : LR n T (X, L, [])) (t : Nat) (ht : t < 3) : Met l yL_pass (wA yL_pass cL_pass 21 (some .int)) ({ frames := 2, cells := 1, slots := 4, locals := 80 }) (PW g (X, L, []) [.ref (gA g 17), .ref (gA g 18), .ref (gA g 19), .ref (gA g 20), .ref (gA g 22), .ref (gA g 23), .ref (gA g 24), .int (nI t)]) (WQ g (X, lPut L t (xFound T n t) (levN t), []) (some (.int (nI (xPassC T n t))))) 1 4 (Ab g) := by
  refine metI (by decide +kernel) (Nat.le_of_ble_eq_true rfl) ?_
  intro p e s m below meth c C hb hml hret hlk hP ls hl
  have C : CW g RL p s m ([.ref (gA g 17), .ref (gA g 18), .ref (gA g 19), .ref (gA g 20), .ref (gA g 22), .ref (gA g 23), .ref (gA g 24), .int (nI t)] : List Value).toArray := C
  have hS : va_S (Ab g) s.heap s.heap [] := va_S.rf
  have hl : lv_has ls 21 [(0, .ref (gA g 17)), (1, .ref (gA g 18)), (2, .ref (gA g 19)), (3, .ref (gA g 20)), (4, .ref (gA g 22)), (5, .ref (gA g 23)), (6, .ref (gA g 24)), (7, .int (nI t))] := hl
  have hn12 := lr_n hR
  have h4 := levN_4 t
  have hAb := hP.sz
  refine lv_iconst (v := 4) C.1 hb dL_pass_0 (by decide) ?_
  refine nwL (X := X) (L := L) C hb hAb hP hS (by show 0 + 1 ≤ 1; omega) (by show 0 + 4 ≤ 4; omega) dL_pass_1 (fun q1 H hP hS => ?_)
  have hP : HW g (X, L, [eL g q1 (fun _ => 0)]) H := hP
  refine lv_astore (lv' := [(8, .ref q1), (0, .ref (gA g 17)), (1, .ref (gA g 18)), (2, .ref (gA g 19)), (3, .ref (gA g 20)), (4, .ref (gA g 22)), (5, .ref (gA g 23)), (6, .ref (gA g 24)), (7, .int (nI t))]) C.1 hb dL_pass_3 hl (by decide) rfl (fun ls hl => ?_)
  refine lv_iconst (v := 0) C.1 hb dL_pass_5 (by decide) ?_
  refine lv_istore (lv' := [(9, .int 0), (8, .ref q1), (0, .ref (gA g 17)), (1, .ref (gA g 18)), (2, .ref (gA g 19)), (3, .ref (gA g 20)), (4, .ref (gA g 22)), (5, .ref (gA g 23)), (6, .ref (gA g 24)), (7, .int (nI t))]) C.1 hb dL_pass_6 hl (by decide) rfl (fun ls hl => ?_)
  refine lv_iconst (v := 0) C.1 hb dL_pass_8 (by decide) ?_
  refine lv_istore (lv' := [(10, .int 0), (9, .int 0), (8, .ref q1), (0, .ref (gA g 17)), (1, .ref (gA g 18)), (2, .ref (gA g 19)), (3, .ref (gA g 20)), (4, .ref (gA g 22)), (5, .ref (gA g 23)), (6, .ref (gA g 24)), (7, .int (nI t))]) C.1 hb dL_pass_9 hl (by decide) rfl (fun ls hl => ?_)
  have key : ∀ f i : Nat, levN t - i < f → i ≤ levN t → ∀ (H : Heap) (locs : List Loc), HW g (X, L, [eL g q1 (fil (pF T n t) (fun _ => 0) i)]) H → va_S (Ab g) s.heap H locs → ∀ ls : Array Slot, lv_has ls 21 [(0, .ref (gA g 17)), (1, .ref (gA g 18)), (2, .ref (gA g 19)), (3, .ref (gA g 20)), (4, .ref (gA g 22)), (5, .ref (gA g 23)), (6, .ref (gA g 24)), (7, .int (nI t)), (8, .ref q1), (9, .int 0), (10, .int (nI i))] → W p l e ({ frames := 2, cells := 1, slots := 4, locals := 80 }) s m ([.ref (gA g 17), .ref (gA g 18), .ref (gA g 19), .ref (gA g 20), .ref (gA g 22), .ref (gA g 23), .ref (gA g 24), .int (nI t)] : List Value).toArray below meth c H locs (0 + 1) (0 + 4) (MQ below (WQ g (X, lPut L t (xFound T n t) (levN t), []) (some (.int (nI (xPassC T n t))))) ([.ref (gA g 17), .ref (gA g 18), .ref (gA g 19), .ref (gA g 20), .ref (gA g 22), .ref (gA g 23), .ref (gA g 24), .int (nI t)] : List Value).toArray s 1 4 (Ab g)) (F0 m 11 ls []) := by
    intro f
    induction f with
    | zero => intro i h; exact absurd h (Nat.not_lt_zero _)
    | succ f ih =>
      intro i hfi hi  H locs hP hS ls hl
      refine lv_iload C.1 hb dL_pass_11 (lv_at hl 10 rfl) ?_
      refine lv_iload C.1 hb dL_pass_13 (lv_at hl 7 rfl) ?_
      refine run_rd (cRunS (As := [.int (nI t)]) (rest := [.int (nI i)]) C hb (hml.trans hl.1.symm) hP hS (k_L_many l g (X, L, [eL g q1 (fil (pF T n t) (fun _ => 0) i)]) t ht) wm_175 wm_176 wm_177 wm_2 (n := 1) (by decide +kernel) rfl ⟨rfl, rfl, Nat.le_of_ble_eq_true rfl, Nat.le_of_ble_eq_true rfl⟩ (Nat.le_of_ble_eq_true rfl) rfl ⟨by show 0 + 1 + 0 ≤ 1; omega, by show 0 + 4 + 0 ≤ 4; omega⟩ dL_pass_15) ?_
      refine lv_icmp_ge (tgt := 204) C.1 hb dL_pass_18 (by decide) (fun c111 => ?_) (fun c111 => ?_)
      · have hin : i = levN t := by have := le_nI (a := levN t) (b := i) (by omega) (by omega) c111; omega
        rw [hin] at hl hP
        refine lv_iconst (v := 0) C.1 hb dL_pass_204 (by decide) ?_
        refine lv_istore (lv' := [(10, .int 0), (0, .ref (gA g 17)), (1, .ref (gA g 18)), (2, .ref (gA g 19)), (3, .ref (gA g 20)), (4, .ref (gA g 22)), (5, .ref (gA g 23)), (6, .ref (gA g 24)), (7, .int (nI t)), (8, .ref q1), (9, .int 0)]) C.1 hb dL_pass_205 hl (by decide) rfl (fun ls hl => ?_)
        have key2 : ∀ f i : Nat, levN t - i < f → i ≤ levN t → ∀ (H : Heap) (locs : List Loc), HW g (X, lPut L t (xFound T n t) i, [eL g q1 (fil (pF T n t) (fun _ => 0) (levN t))]) H → va_S (Ab g) s.heap H locs → ∀ ls : Array Slot, lv_has ls 21 [(0, .ref (gA g 17)), (1, .ref (gA g 18)), (2, .ref (gA g 19)), (3, .ref (gA g 20)), (4, .ref (gA g 22)), (5, .ref (gA g 23)), (6, .ref (gA g 24)), (7, .int (nI t)), (8, .ref q1), (9, .int (nI (xCnt (xPasP T n t) i))), (10, .int (nI i))] → W p l e ({ frames := 2, cells := 1, slots := 4, locals := 80 }) s m ([.ref (gA g 17), .ref (gA g 18), .ref (gA g 19), .ref (gA g 20), .ref (gA g 22), .ref (gA g 23), .ref (gA g 24), .int (nI t)] : List Value).toArray below meth c H locs (0 + 1) (0 + 4) (MQ below (WQ g (X, lPut L t (xFound T n t) (levN t), []) (some (.int (nI (xPassC T n t))))) ([.ref (gA g 17), .ref (gA g 18), .ref (gA g 19), .ref (gA g 20), .ref (gA g 22), .ref (gA g 23), .ref (gA g 24), .int (nI t)] : List Value).toArray s 1 4 (Ab g)) (F0 m 207 ls []) := by
          intro f
          induction f with
          | zero => intro i h; exact absurd h (Nat.not_lt_zero _)
          | succ f ih =>
            intro i hfi hi  H locs hP hS ls hl
            refine lv_iload C.1 hb dL_pass_207 (lv_at hl 10 rfl) ?_
            refine lv_iload C.1 hb dL_pass_209 (lv_at hl 7 rfl) ?_
            refine run_rd (cRunS (As := [.int (nI t)]) (rest := [.int (nI i)]) C hb (hml.trans hl.1.symm) hP hS (k_L_many l g (X, lPut L t (xFound T n t) i, [eL g q1 (fil (pF T n t) (fun _ => 0) (levN t))]) t ht) wm_175 wm_176 wm_177 wm_2 (n := 1) (by decide +kernel) rfl ⟨rfl, rfl, Nat.le_of_ble_eq_true rfl, Nat.le_of_ble_eq_true rfl⟩ (Nat.le_of_ble_eq_true rfl) rfl ⟨by show 0 + 1 + 0 ≤ 1; omega, by show 0 + 4 + 0 ≤ 4; omega⟩ dL_pass_211) ?_
            refine lv_icmp_ge (tgt := 269) C.1 hb dL_pass_214 (by decide) (fun c112 => ?_) (fun c112 => ?_)
            · have hin : i = levN t := by have := le_nI (a := levN t) (b := i) (by omega) (by omega) c112; omega
              rw [hin] at hl hP
              refine lv_iload C.1 hb dL_pass_269 (lv_at hl 9 rfl) ?_
              have hP := hP.drop
              exact weI (by omega) (by omega) C hb hret hlk hP hS dL_pass_271 rfl rfl
            · have hlt : i < levN t := nle_nI (a := levN t) (b := i) (by omega) (by omega) c112
              refine lv_iload C.1 hb dL_pass_217 (lv_at hl 9 rfl) ?_
              refine lv_aload C.1 hb dL_pass_219 (lv_at hl 8 rfl) ?_
              refine lv_iload C.1 hb dL_pass_221 (lv_at hl 10 rfl) ?_
              refine ldE_p0 (j := i) C hb hP rfl (by omega) dL_pass_223 ?_
              refine toL (fil_lo hlt) ?_
              refine lv_aload C.1 hb dL_pass_224 (lv_at hl 5 rfl) ?_
              refine lv_iconst (v := 4) C.1 hb dL_pass_226 (by decide) ?_
              refine lv_iload C.1 hb dL_pass_227 (lv_at hl 7 rfl) ?_
              refine lv_imul C.1 hb dL_pass_229 ?_
              refine lv_iload C.1 hb dL_pass_230 (lv_at hl 10 rfl) ?_
              refine lv_iadd C.1 hb dL_pass_232 ?_
              refine ldA_f (j := (4 * t + i)) C hb hP (ix4 t i) (by omega) dL_pass_233 ?_
              refine toI (((congrFun (lPut_6 L t (xFound T n t) i) _).trans (mPut_at _ _ _ _)).trans (lr_f hR ht hlt)) ?_
              refine lv_i2l C.1 hb dL_pass_234 rfl ?_
              refine lc_ne (tgt := 243) C hb dL_pass_235 dL_pass_236 (by decide) (fun c113 => ?_) (fun c113 => ?_)
              · have hq : xPasP T n t i = true := by unfold xPasP; rw [decide_eq_false (fun q => c113 (by show (xFound T n t i).toInt64 = _; rw [q]))]; rfl
                refine lv_iconst (v := 1) C.1 hb dL_pass_243 (by decide) ?_
                refine lv_iadd C.1 hb dL_pass_244 ?_
                refine toI (show _ = nI (xCnt (xPasP T n t) i + 1) from (nI_1 _)) ?_
                refine lv_istore (lv' := [(9, .int (nI (xCnt (xPasP T n t) i + 1))), (0, .ref (gA g 17)), (1, .ref (gA g 18)), (2, .ref (gA g 19)), (3, .ref (gA g 20)), (4, .ref (gA g 22)), (5, .ref (gA g 23)), (6, .ref (gA g 24)), (7, .int (nI t)), (8, .ref q1), (10, .int (nI i))]) C.1 hb dL_pass_245 hl (by decide) rfl (fun ls hl => ?_)
                refine lv_aload C.1 hb dL_pass_247 (lv_at hl 6 rfl) ?_
                refine lv_iconst (v := 4) C.1 hb dL_pass_249 (by decide) ?_
                refine lv_iload C.1 hb dL_pass_250 (lv_at hl 8 rfl) ?_
                refine lv_imul C.1 hb dL_pass_252 ?_
                refine lv_iload C.1 hb dL_pass_253 (lv_at hl 10 rfl) ?_
                refine lv_iadd C.1 hb dL_pass_255 ?_
                refine lv_aload C.1 hb dL_pass_256 (lv_at hl 9 rfl) ?_
                refine lv_iload C.1 hb dL_pass_258 (lv_at hl 10 rfl) ?_
                refine ldE_p0 (j := i) C hb hP rfl (by omega) dL_pass_260 ?_
                refine toL (fil_lo hlt) ?_
                refine lv_l2i C.1 hb dL_pass_261 rfl ?_
                refine toI (show _ = xFound T n t i from (Int32.toInt32_toInt64 _)) ?_
                refine stA_f (j := (4 * t + i)) C hb hP hS (ix4 t i) (by omega) dL_pass_262 (fun H locs hP hS => ?_)
                have hP : HW g (X, lPut L t (xFound T n t) (i + 1), [eL g q1 (fil (pF T n t) (fun _ => 0) (levN t))]) H := hP.cg (by show (X, va_up (lPut L t (xFound T n t) i) 6 (upd (lPut L t (xFound T n t) i 6) (4 * t + i) (xFound T n t i)), _) = _; rw [lPut_s])
                refine lv_iinc (v := nI (i + 1)) (lv' := [(10, .int (nI (i + 1))), (9, .int (nI (xCnt (xPasP T n t) i + 1))), (0, .ref (gA g 17)), (1, .ref (gA g 18)), (2, .ref (gA g 19)), (3, .ref (gA g 20)), (4, .ref (gA g 22)), (5, .ref (gA g 23)), (6, .ref (gA g 24)), (7, .int (nI t)), (8, .ref q1)]) C.1 hb dL_pass_263 hl (k := 10) rfl (nI_1 i) (by decide) rfl (fun ls hl => ?_)
                refine lv_goto (tgt := 207) C.1 hb dL_pass_266 (by decide) ?_
                exact ih (i + 1) (by omega) (by omega)  _ _ hP hS ls (by rw [xCnt_t hq]; exact lv_sub hl [2, 3, 4, 5, 6, 7, 8, 9, 10, 1, 0] rfl)
              · have hq : xPasP T n t i = false := by unfold xPasP; rw [decide_eq_true (i64_inj c113)]; rfl
                refine lv_iconst (v := 0) C.1 hb dL_pass_239 (by decide) ?_
                refine lv_goto (tgt := 244) C.1 hb dL_pass_240 (by decide) ?_
                refine lv_iadd C.1 hb dL_pass_244 ?_
                refine toI (show _ = nI (xCnt (xPasP T n t) i) from (Int32.add_zero _)) ?_
                refine lv_istore (lv' := [(9, .int (nI (xCnt (xPasP T n t) i))), (0, .ref (gA g 17)), (1, .ref (gA g 18)), (2, .ref (gA g 19)), (3, .ref (gA g 20)), (4, .ref (gA g 22)), (5, .ref (gA g 23)), (6, .ref (gA g 24)), (7, .int (nI t)), (8, .ref q1), (10, .int (nI i))]) C.1 hb dL_pass_245 hl (by decide) rfl (fun ls hl => ?_)
                refine lv_aload C.1 hb dL_pass_247 (lv_at hl 6 rfl) ?_
                refine lv_iconst (v := 4) C.1 hb dL_pass_249 (by decide) ?_
                refine lv_iload C.1 hb dL_pass_250 (lv_at hl 8 rfl) ?_
                refine lv_imul C.1 hb dL_pass_252 ?_
                refine lv_iload C.1 hb dL_pass_253 (lv_at hl 10 rfl) ?_
                refine lv_iadd C.1 hb dL_pass_255 ?_
                refine lv_aload C.1 hb dL_pass_256 (lv_at hl 9 rfl) ?_
                refine lv_iload C.1 hb dL_pass_258 (lv_at hl 10 rfl) ?_
                refine ldE_p0 (j := i) C hb hP rfl (by omega) dL_pass_260 ?_
                refine toL (fil_lo hlt) ?_
                refine lv_l2i C.1 hb dL_pass_261 rfl ?_
                refine toI (show _ = xFound T n t i from (Int32.toInt32_toInt64 _)) ?_
                refine stA_f (j := (4 * t + i)) C hb hP hS (ix4 t i) (by omega) dL_pass_262 (fun H locs hP hS => ?_)
                have hP : HW g (X, lPut L t (xFound T n t) (i + 1), [eL g q1 (fil (pF T n t) (fun _ => 0) (levN t))]) H := hP.cg (by show (X, va_up (lPut L t (xFound T n t) i) 6 (upd (lPut L t (xFound T n t) i 6) (4 * t + i) (xFound T n t i)), _) = _; rw [lPut_s])
                refine lv_iinc (v := nI (i + 1)) (lv' := [(10, .int (nI (i + 1))), (9, .int (nI (xCnt (xPasP T n t) i))), (0, .ref (gA g 17)), (1, .ref (gA g 18)), (2, .ref (gA g 19)), (3, .ref (gA g 20)), (4, .ref (gA g 22)), (5, .ref (gA g 23)), (6, .ref (gA g 24)), (7, .int (nI t)), (8, .ref q1)]) C.1 hb dL_pass_263 hl (k := 10) rfl (nI_1 i) (by decide) rfl (fun ls hl => ?_)
                refine lv_goto (tgt := 207) C.1 hb dL_pass_266 (by decide) ?_
                exact ih (i + 1) (by omega) (by omega)  _ _ hP hS ls (by rw [xCnt_f hq]; exact lv_sub hl [2, 3, 4, 5, 6, 7, 8, 9, 10, 1, 0] rfl)
        exact key2 (levN t - 0 + 1) 0 (by omega) (by omega)  _ _ (hP.cg (by rw [lPut_0])) hS ls (lv_sub hl [1, 2, 3, 4, 5, 6, 7, 8, 9, 10, 0] rfl)
      · have hlt : i < levN t := nle_nI (a := levN t) (b := i) (by omega) (by omega) c111
        refine lv_aload C.1 hb dL_pass_21 (lv_at hl 5 rfl) ?_
        refine lv_iconst (v := 4) C.1 hb dL_pass_23 (by decide) ?_
        refine lv_iload C.1 hb dL_pass_24 (lv_at hl 7 rfl) ?_
        refine lv_imul C.1 hb dL_pass_26 ?_
        refine lv_iload C.1 hb dL_pass_27 (lv_at hl 10 rfl) ?_
        refine lv_iadd C.1 hb dL_pass_29 ?_
        refine ldA_f (j := (4 * t + i)) C hb hP (ix4 t i) (by omega) dL_pass_30 ?_
        refine toI (lr_f hR ht hlt) ?_
        refine lv_i2l C.1 hb dL_pass_31 rfl ?_
        refine lv_lstore (lv' := [(11, .long (xFac T t i).toInt64), (0, .ref (gA g 17)), (1, .ref (gA g 18)), (2, .ref (gA g 19)), (3, .ref (gA g 20)), (4, .ref (gA g 22)), (5, .ref (gA g 23)), (6, .ref (gA g 24)), (7, .int (nI t)), (8, .ref q1), (9, .int 0), (10, .int (nI i))]) C.1 hb dL_pass_32 hl (by decide) rfl (fun ls hl => ?_)
        refine lv_aload_n C.1 hb dL_pass_34 rfl (lv_at hl 1 rfl) ?_
        refine lv_aload_n C.1 hb dL_pass_35 rfl (lv_at hl 2 rfl) ?_
        refine lv_aload_n C.1 hb dL_pass_36 rfl (lv_at hl 3 rfl) ?_
        refine lv_aload_n C.1 hb dL_pass_37 rfl (lv_at hl 4 rfl) ?_
        refine lv_aload C.1 hb dL_pass_38 (lv_at hl 5 rfl) ?_
        refine lv_aload C.1 hb dL_pass_40 (lv_at hl 6 rfl) ?_
        refine lv_aload C.1 hb dL_pass_42 (lv_at hl 7 rfl) ?_
        refine lv_iconst (v := 1) C.1 hb dL_pass_44 (by decide) ?_
        refine lv_iload C.1 hb dL_pass_45 (lv_at hl 8 rfl) ?_
        refine lv_iload C.1 hb dL_pass_47 (lv_at hl 11 rfl) ?_
        refine run_rd (cRunS (As := [.ref (gA g 17), .ref (gA g 18), .ref (gA g 19), .ref (gA g 20), .ref (gA g 22), .ref (gA g 23), .ref (gA g 24), .int 1, .int (nI t), .int (nI i)]) (rest := []) C hb (hml.trans hl.1.symm) hP hS (k_L_sum1 l g (X, L, [eL g q1 (fil (pF T n t) (fun _ => 0) i)]) n T hR t i ht hlt) wm_192 wm_193 wm_194 wm_2 (n := 10) (by decide +kernel) rfl ⟨rfl, rfl, Nat.le_of_ble_eq_true rfl, Nat.le_of_ble_eq_true rfl⟩ (Nat.le_of_ble_eq_true rfl) rfl ⟨by show 0 + 1 + 0 ≤ 1; omega, by show 0 + 4 + 0 ≤ 4; omega⟩ dL_pass_49) ?_
        refine lv_lstore (lv' := [(13, .long (sFit T n t i)), (11, .long (xFac T t i).toInt64), (0, .ref (gA g 17)), (1, .ref (gA g 18)), (2, .ref (gA g 19)), (3, .ref (gA g 20)), (4, .ref (gA g 22)), (5, .ref (gA g 23)), (6, .ref (gA g 24)), (7, .int (nI t)), (8, .ref q1), (9, .int 0), (10, .int (nI i))]) C.1 hb dL_pass_52 hl (by decide) rfl (fun ls hl => ?_)
        refine lv_aload_n C.1 hb dL_pass_54 rfl (lv_at hl 2 rfl) ?_
        refine lv_aload_n C.1 hb dL_pass_55 rfl (lv_at hl 3 rfl) ?_
        refine lv_aload_n C.1 hb dL_pass_56 rfl (lv_at hl 4 rfl) ?_
        refine lv_aload_n C.1 hb dL_pass_57 rfl (lv_at hl 5 rfl) ?_
        refine lv_aload C.1 hb dL_pass_58 (lv_at hl 6 rfl) ?_
        refine lv_aload C.1 hb dL_pass_60 (lv_at hl 7 rfl) ?_
        refine lv_aload C.1 hb dL_pass_62 (lv_at hl 8 rfl) ?_
        refine lv_iconst (v := 2) C.1 hb dL_pass_64 (by decide) ?_
        refine lv_iload C.1 hb dL_pass_65 (lv_at hl 9 rfl) ?_
        refine lv_iload C.1 hb dL_pass_67 (lv_at hl 12 rfl) ?_
        refine run_rd (cRunS (As := [.ref (gA g 17), .ref (gA g 18), .ref (gA g 19), .ref (gA g 20), .ref (gA g 22), .ref (gA g 23), .ref (gA g 24), .int 2, .int (nI t), .int (nI i)]) (rest := []) C hb (hml.trans hl.1.symm) hP hS (k_L_sum2 l g (X, L, [eL g q1 (fil (pF T n t) (fun _ => 0) i)]) n T hR t i ht hlt) wm_192 wm_193 wm_194 wm_2 (n := 10) (by decide +kernel) rfl ⟨rfl, rfl, Nat.le_of_ble_eq_true rfl, Nat.le_of_ble_eq_true rfl⟩ (Nat.le_of_ble_eq_true rfl) rfl ⟨by show 0 + 1 + 0 ≤ 1; omega, by show 0 + 4 + 0 ≤ 4; omega⟩ dL_pass_69) ?_
        refine lv_lstore (lv' := [(15, .long (sClm T n t i)), (13, .long (sFit T n t i)), (11, .long (xFac T t i).toInt64), (0, .ref (gA g 17)), (1, .ref (gA g 18)), (2, .ref (gA g 19)), (3, .ref (gA g 20)), (4, .ref (gA g 22)), (5, .ref (gA g 23)), (6, .ref (gA g 24)), (7, .int (nI t)), (8, .ref q1), (9, .int 0), (10, .int (nI i))]) C.1 hb dL_pass_72 hl (by decide) rfl (fun ls hl => ?_)
        refine lv_lload C.1 hb dL_pass_74 (lv_at hl 1 rfl) ?_
        refine lv_lconst (v := 0) C.1 hb dL_pass_76 (by decide) ?_
        refine lc_eq (tgt := 191) C hb dL_pass_77 dL_pass_78 (by decide) (fun c114 => ?_) (fun c114 => ?_)
        · refine lv_aload C.1 hb dL_pass_191 (lv_at hl 11 rfl) ?_
          refine lv_iload C.1 hb dL_pass_193 (lv_at hl 13 rfl) ?_
          refine lv_lload C.1 hb dL_pass_195 (lv_at hl 2 rfl) ?_
          refine toL (show _ = pF T n t i from (pF_z c114)) ?_
          refine stE_p0 (j := i) C hb hP hS rfl (by omega) dL_pass_197 (fun H locs hP hS => ?_)
          have hP : HW g (X, L, [eL g q1 (fil (pF T n t) (fun _ => 0) (i + 1))]) H := hP.cg (by rw [fil_sL])
          refine lv_iinc (v := nI (i + 1)) (lv' := [(10, .int (nI (i + 1))), (15, .long (sClm T n t i)), (13, .long (sFit T n t i)), (11, .long (xFac T t i).toInt64), (0, .ref (gA g 17)), (1, .ref (gA g 18)), (2, .ref (gA g 19)), (3, .ref (gA g 20)), (4, .ref (gA g 22)), (5, .ref (gA g 23)), (6, .ref (gA g 24)), (7, .int (nI t)), (8, .ref q1), (9, .int 0)]) C.1 hb dL_pass_198 hl (k := 13) rfl (nI_1 i) (by decide) rfl (fun ls hl => ?_)
          refine lv_goto (tgt := 11) C.1 hb dL_pass_201 (by decide) ?_
          exact ih (i + 1) (by omega) (by omega)  _ _ hP hS ls (lv_sub hl [4, 5, 6, 7, 8, 9, 10, 11, 12, 13, 0] rfl)
        · refine lv_lload C.1 hb dL_pass_81 (lv_at hl 0 rfl) ?_
          refine lv_lconst (v := 0) C.1 hb dL_pass_83 (by decide) ?_
          refine lc_eq (tgt := 191) C hb dL_pass_84 dL_pass_85 (by decide) (fun c115 => ?_) (fun c115 => ?_)
          · refine lv_aload C.1 hb dL_pass_191 (lv_at hl 11 rfl) ?_
            refine lv_iload C.1 hb dL_pass_193 (lv_at hl 13 rfl) ?_
            refine lv_lload C.1 hb dL_pass_195 (lv_at hl 2 rfl) ?_
            refine toL (show _ = pF T n t i from (pF_c c115)) ?_
            refine stE_p0 (j := i) C hb hP hS rfl (by omega) dL_pass_197 (fun H locs hP hS => ?_)
            have hP : HW g (X, L, [eL g q1 (fil (pF T n t) (fun _ => 0) (i + 1))]) H := hP.cg (by rw [fil_sL])
            refine lv_iinc (v := nI (i + 1)) (lv' := [(10, .int (nI (i + 1))), (15, .long (sClm T n t i)), (13, .long (sFit T n t i)), (11, .long (xFac T t i).toInt64), (0, .ref (gA g 17)), (1, .ref (gA g 18)), (2, .ref (gA g 19)), (3, .ref (gA g 20)), (4, .ref (gA g 22)), (5, .ref (gA g 23)), (6, .ref (gA g 24)), (7, .int (nI t)), (8, .ref q1), (9, .int 0)]) C.1 hb dL_pass_198 hl (k := 13) rfl (nI_1 i) (by decide) rfl (fun ls hl => ?_)
            refine lv_goto (tgt := 11) C.1 hb dL_pass_201 (by decide) ?_
            exact ih (i + 1) (by omega) (by omega)  _ _ hP hS ls (lv_sub hl [4, 5, 6, 7, 8, 9, 10, 11, 12, 13, 0] rfl)
          · refine lv_lload C.1 hb dL_pass_88 (lv_at hl 2 rfl) ?_
            refine lv_aload_n C.1 hb dL_pass_90 rfl (lv_at hl 3 rfl) ?_
            refine lv_aload_n C.1 hb dL_pass_91 rfl (lv_at hl 4 rfl) ?_
            refine lv_aload_n C.1 hb dL_pass_92 rfl (lv_at hl 5 rfl) ?_
            refine lv_aload_n C.1 hb dL_pass_93 rfl (lv_at hl 6 rfl) ?_
            refine lv_aload C.1 hb dL_pass_94 (lv_at hl 7 rfl) ?_
            refine lv_aload C.1 hb dL_pass_96 (lv_at hl 8 rfl) ?_
            refine lv_aload C.1 hb dL_pass_98 (lv_at hl 9 rfl) ?_
            refine lv_iconst (v := 0) C.1 hb dL_pass_100 (by decide) ?_
            refine lv_iload C.1 hb dL_pass_101 (lv_at hl 10 rfl) ?_
            refine lv_iload C.1 hb dL_pass_103 (lv_at hl 13 rfl) ?_
            refine run_rd (cRunS (As := [.ref (gA g 17), .ref (gA g 18), .ref (gA g 19), .ref (gA g 20), .ref (gA g 22), .ref (gA g 23), .ref (gA g 24), .int 0, .int (nI t), .int (nI i)]) (rest := [.long (xFac T t i).toInt64]) C hb (hml.trans hl.1.symm) hP hS (k_L_sum0 l g (X, L, [eL g q1 (fil (pF T n t) (fun _ => 0) i)]) n T hR t i ht hlt) wm_192 wm_193 wm_194 wm_2 (n := 10) (by decide +kernel) rfl ⟨rfl, rfl, Nat.le_of_ble_eq_true rfl, Nat.le_of_ble_eq_true rfl⟩ (Nat.le_of_ble_eq_true rfl) rfl ⟨by show 0 + 1 + 0 ≤ 1; omega, by show 0 + 4 + 0 ≤ 4; omega⟩ dL_pass_105) ?_
            refine lv_lmul C.1 hb dL_pass_108 ?_
            refine lv_lload C.1 hb dL_pass_109 (lv_at hl 1 rfl) ?_
            refine lv_ldiv C.1 hb dL_pass_111 c114 ?_
            refine lv_lload C.1 hb dL_pass_112 (lv_at hl 2 rfl) ?_
            refine lv_lsub C.1 hb dL_pass_114 ?_
            refine lv_lload C.1 hb dL_pass_115 (lv_at hl 0 rfl) ?_
            refine lv_lmul C.1 hb dL_pass_117 ?_
            refine toL (show _ = pBy T n t i from rfl) ?_
            refine lv_lstore (lv' := [(17, .long (pBy T n t i)), (15, .long (sClm T n t i)), (13, .long (sFit T n t i)), (11, .long (xFac T t i).toInt64), (0, .ref (gA g 17)), (1, .ref (gA g 18)), (2, .ref (gA g 19)), (3, .ref (gA g 20)), (4, .ref (gA g 22)), (5, .ref (gA g 23)), (6, .ref (gA g 24)), (7, .int (nI t)), (8, .ref q1), (9, .int 0), (10, .int (nI i))]) C.1 hb dL_pass_118 hl (by decide) rfl (fun ls hl => ?_)
            refine lv_lload C.1 hb dL_pass_120 (lv_at hl 1 rfl) ?_
            refine lv_aload C.1 hb dL_pass_122 (lv_at hl 10 rfl) ?_
            refine lv_iconst (v := 1) C.1 hb dL_pass_124 (by decide) ?_
            refine ldA_m (j := 1) C hb hP (by decide) (by decide) dL_pass_125 ?_
            refine toI (lr_m1 hR) ?_
            refine lv_i2l C.1 hb dL_pass_126 rfl ?_
            refine lv_ladd C.1 hb dL_pass_127 ?_
            refine lv_lstore (lv' := [(19, .long ((sClm T n t i) + (xSc T 2).toInt64)), (17, .long (pBy T n t i)), (15, .long (sClm T n t i)), (13, .long (sFit T n t i)), (11, .long (xFac T t i).toInt64), (0, .ref (gA g 17)), (1, .ref (gA g 18)), (2, .ref (gA g 19)), (3, .ref (gA g 20)), (4, .ref (gA g 22)), (5, .ref (gA g 23)), (6, .ref (gA g 24)), (7, .int (nI t)), (8, .ref q1), (9, .int 0), (10, .int (nI i))]) C.1 hb dL_pass_128 hl (by decide) rfl (fun ls hl => ?_)
            refine lv_lload C.1 hb dL_pass_130 (lv_at hl 4 rfl) ?_
            refine lv_lload C.1 hb dL_pass_132 (lv_at hl 1 rfl) ?_
            refine lv_lconst (v := 0) C.1 hb dL_pass_134 (by decide) ?_
            refine lc_ge (tgt := 149) C hb dL_pass_135 dL_pass_136 (by decide) (fun c116 => ?_) (fun c116 => ?_)
            · refine lv_lload C.1 hb dL_pass_149 (lv_at hl 1 rfl) ?_
              refine lv_lload C.1 hb dL_pass_151 (lv_at hl 0 rfl) ?_
              refine lv_ldiv C.1 hb dL_pass_153 (pF_div hR.1 c115) ?_
              refine lv_ladd C.1 hb dL_pass_154 ?_
              refine toL (show _ = pV T n t i from rfl) ?_
              refine lv_lstore (lv' := [(11, .long (pV T n t i)), (19, .long ((sClm T n t i) + (xSc T 2).toInt64)), (17, .long (pBy T n t i)), (15, .long (sClm T n t i)), (13, .long (sFit T n t i)), (0, .ref (gA g 17)), (1, .ref (gA g 18)), (2, .ref (gA g 19)), (3, .ref (gA g 20)), (4, .ref (gA g 22)), (5, .ref (gA g 23)), (6, .ref (gA g 24)), (7, .int (nI t)), (8, .ref q1), (9, .int 0), (10, .int (nI i))]) C.1 hb dL_pass_155 hl (by decide) rfl (fun ls hl => ?_)
              refine lv_lload C.1 hb dL_pass_157 (lv_at hl 0 rfl) ?_
              refine lv_ldc2 (v := 100) C.1 hb C.2.1 (C.2.2.1 _ wm_190) dL_pass_159 ?_
              have hE := pF_m hR.1 c114 c115
              refine lc_ge (tgt := 172) C hb dL_pass_162 dL_pass_163 (by decide) (fun c117 => ?_) (fun c117 => ?_)
              · refine lv_lload C.1 hb dL_pass_172 (lv_at hl 0 rfl) ?_
                refine lv_ldc2 (v := 100000) C.1 hb C.2.1 (C.2.2.1 _ wm_191) dL_pass_174 ?_
                refine lc_le (tgt := 187) C hb dL_pass_177 dL_pass_178 (by decide) (fun c118 => ?_) (fun c118 => ?_)
                · refine lv_lload C.1 hb dL_pass_187 (lv_at hl 0 rfl) ?_
                  refine lv_lstore (lv' := [(11, .long (pV T n t i)), (19, .long ((sClm T n t i) + (xSc T 2).toInt64)), (17, .long (pBy T n t i)), (15, .long (sClm T n t i)), (13, .long (sFit T n t i)), (0, .ref (gA g 17)), (1, .ref (gA g 18)), (2, .ref (gA g 19)), (3, .ref (gA g 20)), (4, .ref (gA g 22)), (5, .ref (gA g 23)), (6, .ref (gA g 24)), (7, .int (nI t)), (8, .ref q1), (9, .int 0), (10, .int (nI i))]) C.1 hb dL_pass_189 hl (by decide) rfl (fun ls hl => ?_)
                  refine lv_aload C.1 hb dL_pass_191 (lv_at hl 13 rfl) ?_
                  refine lv_iload C.1 hb dL_pass_193 (lv_at hl 15 rfl) ?_
                  refine lv_lload C.1 hb dL_pass_195 (lv_at hl 0 rfl) ?_
                  refine toL (show _ = pF T n t i from (by rw [hE, if_neg (Int64.not_lt.mpr c117), if_neg (Int64.not_lt.mpr c118)])) ?_
                  refine stE_p0 (j := i) C hb hP hS rfl (by omega) dL_pass_197 (fun H locs hP hS => ?_)
                  have hP : HW g (X, L, [eL g q1 (fil (pF T n t) (fun _ => 0) (i + 1))]) H := hP.cg (by rw [fil_sL])
                  refine lv_iinc (v := nI (i + 1)) (lv' := [(10, .int (nI (i + 1))), (11, .long (pV T n t i)), (19, .long ((sClm T n t i) + (xSc T 2).toInt64)), (17, .long (pBy T n t i)), (15, .long (sClm T n t i)), (13, .long (sFit T n t i)), (0, .ref (gA g 17)), (1, .ref (gA g 18)), (2, .ref (gA g 19)), (3, .ref (gA g 20)), (4, .ref (gA g 22)), (5, .ref (gA g 23)), (6, .ref (gA g 24)), (7, .int (nI t)), (8, .ref q1), (9, .int 0)]) C.1 hb dL_pass_198 hl (k := 15) rfl (nI_1 i) (by decide) rfl (fun ls hl => ?_)
                  refine lv_goto (tgt := 11) C.1 hb dL_pass_201 (by decide) ?_
                  exact ih (i + 1) (by omega) (by omega)  _ _ hP hS ls (lv_sub hl [6, 7, 8, 9, 10, 11, 12, 13, 14, 15, 0] rfl)
                · refine lv_ldc2 (v := 100000) C.1 hb C.2.1 (C.2.2.1 _ wm_191) dL_pass_181 ?_
                  refine lv_goto (tgt := 189) C.1 hb dL_pass_184 (by decide) ?_
                  refine lv_lstore (lv' := [(11, .long 100000), (19, .long ((sClm T n t i) + (xSc T 2).toInt64)), (17, .long (pBy T n t i)), (15, .long (sClm T n t i)), (13, .long (sFit T n t i)), (0, .ref (gA g 17)), (1, .ref (gA g 18)), (2, .ref (gA g 19)), (3, .ref (gA g 20)), (4, .ref (gA g 22)), (5, .ref (gA g 23)), (6, .ref (gA g 24)), (7, .int (nI t)), (8, .ref q1), (9, .int 0), (10, .int (nI i))]) C.1 hb dL_pass_189 hl (by decide) rfl (fun ls hl => ?_)
                  refine lv_aload C.1 hb dL_pass_191 (lv_at hl 13 rfl) ?_
                  refine lv_iload C.1 hb dL_pass_193 (lv_at hl 15 rfl) ?_
                  refine lv_lload C.1 hb dL_pass_195 (lv_at hl 0 rfl) ?_
                  refine toL (show _ = pF T n t i from (by rw [hE, if_neg (Int64.not_lt.mpr c117), if_pos (Int64.not_le.mp c118)])) ?_
                  refine stE_p0 (j := i) C hb hP hS rfl (by omega) dL_pass_197 (fun H locs hP hS => ?_)
                  have hP : HW g (X, L, [eL g q1 (fil (pF T n t) (fun _ => 0) (i + 1))]) H := hP.cg (by rw [fil_sL])
                  refine lv_iinc (v := nI (i + 1)) (lv' := [(10, .int (nI (i + 1))), (11, .long 100000), (19, .long ((sClm T n t i) + (xSc T 2).toInt64)), (17, .long (pBy T n t i)), (15, .long (sClm T n t i)), (13, .long (sFit T n t i)), (0, .ref (gA g 17)), (1, .ref (gA g 18)), (2, .ref (gA g 19)), (3, .ref (gA g 20)), (4, .ref (gA g 22)), (5, .ref (gA g 23)), (6, .ref (gA g 24)), (7, .int (nI t)), (8, .ref q1), (9, .int 0)]) C.1 hb dL_pass_198 hl (k := 15) rfl (nI_1 i) (by decide) rfl (fun ls hl => ?_)
                  refine lv_goto (tgt := 11) C.1 hb dL_pass_201 (by decide) ?_
                  exact ih (i + 1) (by omega) (by omega)  _ _ hP hS ls (lv_sub hl [6, 7, 8, 9, 10, 11, 12, 13, 14, 15, 0] rfl)
              · refine lv_ldc2 (v := 100) C.1 hb C.2.1 (C.2.2.1 _ wm_190) dL_pass_166 ?_
                refine lv_goto (tgt := 189) C.1 hb dL_pass_169 (by decide) ?_
                refine lv_lstore (lv' := [(11, .long 100), (19, .long ((sClm T n t i) + (xSc T 2).toInt64)), (17, .long (pBy T n t i)), (15, .long (sClm T n t i)), (13, .long (sFit T n t i)), (0, .ref (gA g 17)), (1, .ref (gA g 18)), (2, .ref (gA g 19)), (3, .ref (gA g 20)), (4, .ref (gA g 22)), (5, .ref (gA g 23)), (6, .ref (gA g 24)), (7, .int (nI t)), (8, .ref q1), (9, .int 0), (10, .int (nI i))]) C.1 hb dL_pass_189 hl (by decide) rfl (fun ls hl => ?_)
                refine lv_aload C.1 hb dL_pass_191 (lv_at hl 13 rfl) ?_
                refine lv_iload C.1 hb dL_pass_193 (lv_at hl 15 rfl) ?_
                refine lv_lload C.1 hb dL_pass_195 (lv_at hl 0 rfl) ?_
                refine toL (show _ = pF T n t i from (by rw [hE, if_pos (Int64.not_le.mp c117)])) ?_
                refine stE_p0 (j := i) C hb hP hS rfl (by omega) dL_pass_197 (fun H locs hP hS => ?_)
                have hP : HW g (X, L, [eL g q1 (fil (pF T n t) (fun _ => 0) (i + 1))]) H := hP.cg (by rw [fil_sL])
                refine lv_iinc (v := nI (i + 1)) (lv' := [(10, .int (nI (i + 1))), (11, .long 100), (19, .long ((sClm T n t i) + (xSc T 2).toInt64)), (17, .long (pBy T n t i)), (15, .long (sClm T n t i)), (13, .long (sFit T n t i)), (0, .ref (gA g 17)), (1, .ref (gA g 18)), (2, .ref (gA g 19)), (3, .ref (gA g 20)), (4, .ref (gA g 22)), (5, .ref (gA g 23)), (6, .ref (gA g 24)), (7, .int (nI t)), (8, .ref q1), (9, .int 0)]) C.1 hb dL_pass_198 hl (k := 15) rfl (nI_1 i) (by decide) rfl (fun ls hl => ?_)
                refine lv_goto (tgt := 11) C.1 hb dL_pass_201 (by decide) ?_
                exact ih (i + 1) (by omega) (by omega)  _ _ hP hS ls (lv_sub hl [6, 7, 8, 9, 10, 11, 12, 13, 14, 15, 0] rfl)
            · refine lv_lload C.1 hb dL_pass_139 (lv_at hl 1 rfl) ?_
              refine lv_lneg C.1 hb dL_pass_141 ?_
              refine lv_lload C.1 hb dL_pass_142 (lv_at hl 0 rfl) ?_
              refine lv_ldiv C.1 hb dL_pass_144 (pF_div hR.1 c115) ?_
              refine lv_lneg C.1 hb dL_pass_145 ?_
              refine toL (show _ = (pBy T n t i) / ((sClm T n t i) + (xSc T 2).toInt64) from (pF_neg hR.1 ht hlt c114 _)) ?_
              refine lv_goto (tgt := 154) C.1 hb dL_pass_146 (by decide) ?_
              refine lv_ladd C.1 hb dL_pass_154 ?_
              refine toL (show _ = pV T n t i from rfl) ?_
              refine lv_lstore (lv' := [(11, .long (pV T n t i)), (19, .long ((sClm T n t i) + (xSc T 2).toInt64)), (17, .long (pBy T n t i)), (15, .long (sClm T n t i)), (13, .long (sFit T n t i)), (0, .ref (gA g 17)), (1, .ref (gA g 18)), (2, .ref (gA g 19)), (3, .ref (gA g 20)), (4, .ref (gA g 22)), (5, .ref (gA g 23)), (6, .ref (gA g 24)), (7, .int (nI t)), (8, .ref q1), (9, .int 0), (10, .int (nI i))]) C.1 hb dL_pass_155 hl (by decide) rfl (fun ls hl => ?_)
              refine lv_lload C.1 hb dL_pass_157 (lv_at hl 0 rfl) ?_
              refine lv_ldc2 (v := 100) C.1 hb C.2.1 (C.2.2.1 _ wm_190) dL_pass_159 ?_
              have hE := pF_m hR.1 c114 c115
              refine lc_ge (tgt := 172) C hb dL_pass_162 dL_pass_163 (by decide) (fun c119 => ?_) (fun c119 => ?_)
              · refine lv_lload C.1 hb dL_pass_172 (lv_at hl 0 rfl) ?_
                refine lv_ldc2 (v := 100000) C.1 hb C.2.1 (C.2.2.1 _ wm_191) dL_pass_174 ?_
                refine lc_le (tgt := 187) C hb dL_pass_177 dL_pass_178 (by decide) (fun c120 => ?_) (fun c120 => ?_)
                · refine lv_lload C.1 hb dL_pass_187 (lv_at hl 0 rfl) ?_
                  refine lv_lstore (lv' := [(11, .long (pV T n t i)), (19, .long ((sClm T n t i) + (xSc T 2).toInt64)), (17, .long (pBy T n t i)), (15, .long (sClm T n t i)), (13, .long (sFit T n t i)), (0, .ref (gA g 17)), (1, .ref (gA g 18)), (2, .ref (gA g 19)), (3, .ref (gA g 20)), (4, .ref (gA g 22)), (5, .ref (gA g 23)), (6, .ref (gA g 24)), (7, .int (nI t)), (8, .ref q1), (9, .int 0), (10, .int (nI i))]) C.1 hb dL_pass_189 hl (by decide) rfl (fun ls hl => ?_)
                  refine lv_aload C.1 hb dL_pass_191 (lv_at hl 13 rfl) ?_
                  refine lv_iload C.1 hb dL_pass_193 (lv_at hl 15 rfl) ?_
                  refine lv_lload C.1 hb dL_pass_195 (lv_at hl 0 rfl) ?_
                  refine toL (show _ = pF T n t i from (by rw [hE, if_neg (Int64.not_lt.mpr c119), if_neg (Int64.not_lt.mpr c120)])) ?_
                  refine stE_p0 (j := i) C hb hP hS rfl (by omega) dL_pass_197 (fun H locs hP hS => ?_)
                  have hP : HW g (X, L, [eL g q1 (fil (pF T n t) (fun _ => 0) (i + 1))]) H := hP.cg (by rw [fil_sL])
                  refine lv_iinc (v := nI (i + 1)) (lv' := [(10, .int (nI (i + 1))), (11, .long (pV T n t i)), (19, .long ((sClm T n t i) + (xSc T 2).toInt64)), (17, .long (pBy T n t i)), (15, .long (sClm T n t i)), (13, .long (sFit T n t i)), (0, .ref (gA g 17)), (1, .ref (gA g 18)), (2, .ref (gA g 19)), (3, .ref (gA g 20)), (4, .ref (gA g 22)), (5, .ref (gA g 23)), (6, .ref (gA g 24)), (7, .int (nI t)), (8, .ref q1), (9, .int 0)]) C.1 hb dL_pass_198 hl (k := 15) rfl (nI_1 i) (by decide) rfl (fun ls hl => ?_)
                  refine lv_goto (tgt := 11) C.1 hb dL_pass_201 (by decide) ?_
                  exact ih (i + 1) (by omega) (by omega)  _ _ hP hS ls (lv_sub hl [6, 7, 8, 9, 10, 11, 12, 13, 14, 15, 0] rfl)
                · refine lv_ldc2 (v := 100000) C.1 hb C.2.1 (C.2.2.1 _ wm_191) dL_pass_181 ?_
                  refine lv_goto (tgt := 189) C.1 hb dL_pass_184 (by decide) ?_
                  refine lv_lstore (lv' := [(11, .long 100000), (19, .long ((sClm T n t i) + (xSc T 2).toInt64)), (17, .long (pBy T n t i)), (15, .long (sClm T n t i)), (13, .long (sFit T n t i)), (0, .ref (gA g 17)), (1, .ref (gA g 18)), (2, .ref (gA g 19)), (3, .ref (gA g 20)), (4, .ref (gA g 22)), (5, .ref (gA g 23)), (6, .ref (gA g 24)), (7, .int (nI t)), (8, .ref q1), (9, .int 0), (10, .int (nI i))]) C.1 hb dL_pass_189 hl (by decide) rfl (fun ls hl => ?_)
                  refine lv_aload C.1 hb dL_pass_191 (lv_at hl 13 rfl) ?_
                  refine lv_iload C.1 hb dL_pass_193 (lv_at hl 15 rfl) ?_
                  refine lv_lload C.1 hb dL_pass_195 (lv_at hl 0 rfl) ?_
                  refine toL (show _ = pF T n t i from (by rw [hE, if_neg (Int64.not_lt.mpr c119), if_pos (Int64.not_le.mp c120)])) ?_
                  refine stE_p0 (j := i) C hb hP hS rfl (by omega) dL_pass_197 (fun H locs hP hS => ?_)
                  have hP : HW g (X, L, [eL g q1 (fil (pF T n t) (fun _ => 0) (i + 1))]) H := hP.cg (by rw [fil_sL])
                  refine lv_iinc (v := nI (i + 1)) (lv' := [(10, .int (nI (i + 1))), (11, .long 100000), (19, .long ((sClm T n t i) + (xSc T 2).toInt64)), (17, .long (pBy T n t i)), (15, .long (sClm T n t i)), (13, .long (sFit T n t i)), (0, .ref (gA g 17)), (1, .ref (gA g 18)), (2, .ref (gA g 19)), (3, .ref (gA g 20)), (4, .ref (gA g 22)), (5, .ref (gA g 23)), (6, .ref (gA g 24)), (7, .int (nI t)), (8, .ref q1), (9, .int 0)]) C.1 hb dL_pass_198 hl (k := 15) rfl (nI_1 i) (by decide) rfl (fun ls hl => ?_)
                  refine lv_goto (tgt := 11) C.1 hb dL_pass_201 (by decide) ?_
                  exact ih (i + 1) (by omega) (by omega)  _ _ hP hS ls (lv_sub hl [6, 7, 8, 9, 10, 11, 12, 13, 14, 15, 0] rfl)
              · refine lv_ldc2 (v := 100) C.1 hb C.2.1 (C.2.2.1 _ wm_190) dL_pass_166 ?_
                refine lv_goto (tgt := 189) C.1 hb dL_pass_169 (by decide) ?_
                refine lv_lstore (lv' := [(11, .long 100), (19, .long ((sClm T n t i) + (xSc T 2).toInt64)), (17, .long (pBy T n t i)), (15, .long (sClm T n t i)), (13, .long (sFit T n t i)), (0, .ref (gA g 17)), (1, .ref (gA g 18)), (2, .ref (gA g 19)), (3, .ref (gA g 20)), (4, .ref (gA g 22)), (5, .ref (gA g 23)), (6, .ref (gA g 24)), (7, .int (nI t)), (8, .ref q1), (9, .int 0), (10, .int (nI i))]) C.1 hb dL_pass_189 hl (by decide) rfl (fun ls hl => ?_)
                refine lv_aload C.1 hb dL_pass_191 (lv_at hl 13 rfl) ?_
                refine lv_iload C.1 hb dL_pass_193 (lv_at hl 15 rfl) ?_
                refine lv_lload C.1 hb dL_pass_195 (lv_at hl 0 rfl) ?_
                refine toL (show _ = pF T n t i from (by rw [hE, if_pos (Int64.not_le.mp c119)])) ?_
                refine stE_p0 (j := i) C hb hP hS rfl (by omega) dL_pass_197 (fun H locs hP hS => ?_)
                have hP : HW g (X, L, [eL g q1 (fil (pF T n t) (fun _ => 0) (i + 1))]) H := hP.cg (by rw [fil_sL])
                refine lv_iinc (v := nI (i + 1)) (lv' := [(10, .int (nI (i + 1))), (11, .long 100), (19, .long ((sClm T n t i) + (xSc T 2).toInt64)), (17, .long (pBy T n t i)), (15, .long (sClm T n t i)), (13, .long (sFit T n t i)), (0, .ref (gA g 17)), (1, .ref (gA g 18)), (2, .ref (gA g 19)), (3, .ref (gA g 20)), (4, .ref (gA g 22)), (5, .ref (gA g 23)), (6, .ref (gA g 24)), (7, .int (nI t)), (8, .ref q1), (9, .int 0)]) C.1 hb dL_pass_198 hl (k := 15) rfl (nI_1 i) (by decide) rfl (fun ls hl => ?_)
                refine lv_goto (tgt := 11) C.1 hb dL_pass_201 (by decide) ?_
                exact ih (i + 1) (by omega) (by omega)  _ _ hP hS ls (lv_sub hl [6, 7, 8, 9, 10, 11, 12, 13, 14, 15, 0] rfl)
  exact key (levN t - 0 + 1) 0 (by omega) (by omega)  _ _ (hP.cg (by rw [fil_0])) hS ls (lv_sub hl [3, 4, 5, 6, 7, 8, 9, 10, 2, 1, 0] rfl)
