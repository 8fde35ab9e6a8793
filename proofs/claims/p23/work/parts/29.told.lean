set_option maxRecDepth 100000 in
set_option maxHeartbeats 4000000 in
theorem k_L_isTold (l : Launch) (hl0 : l.stackTraces = false) (g : gG) (S : WS) (n : Nat) (hR : LR n S S) : Met l yL_isTold (wA yL_isTold cL_isTold 23 (some .boolean)) ({ frames := 8, cells := 90, slots := 540, locals := 330 }) (PW g S [.ref (gA g 0), .ref (gA g 17), .ref (gA g 18), .ref (gA g 19), .ref (gA g 20), .ref (gA g 21), .ref (gA g 22), .ref (gA g 23), .ref (gA g 24)]) (WQ g S (some (.int (bI true)))) 90 540 (Ab g) := by
  refine metI (by decide +kernel) (Nat.le_of_ble_eq_true rfl) ?_
  intro p e s m below meth c C hb hml hret hlk hP ls hl
  have C : CW g RL p s m ([.ref (gA g 0), .ref (gA g 17), .ref (gA g 18), .ref (gA g 19), .ref (gA g 20), .ref (gA g 21), .ref (gA g 22), .ref (gA g 23), .ref (gA g 24)] : List Value).toArray := C
  have hS : va_S (Ab g) s.heap s.heap [] := va_S.rf
  have hl : lv_has ls 23 [(0, .ref (gA g 0)), (1, .ref (gA g 17)), (2, .ref (gA g 18)), (3, .ref (gA g 19)), (4, .ref (gA g 20)), (5, .ref (gA g 21)), (6, .ref (gA g 22)), (7, .ref (gA g 23)), (8, .ref (gA g 24))] := hl
  have hn12 := lr_n hR
  have hI := hR.1.1
  refine lv_iconst (v := 0) C.1 hb dL_isTold_0 (by decide) ?_
  refine lv_istore (lv' := [(9, .int 0), (0, .ref (gA g 0)), (1, .ref (gA g 17)), (2, .ref (gA g 18)), (3, .ref (gA g 19)), (4, .ref (gA g 20)), (5, .ref (gA g 21)), (6, .ref (gA g 22)), (7, .ref (gA g 23)), (8, .ref (gA g 24))]) C.1 hb dL_isTold_1 hl (by decide) rfl (fun ls hl => ?_)
  refine lv_aload_n C.1 hb dL_isTold_3 rfl (lv_at hl 3 rfl) ?_
  refine lv_aload C.1 hb dL_isTold_4 (lv_at hl 5 rfl) ?_
  refine lv_aload C.1 hb dL_isTold_6 (lv_at hl 7 rfl) ?_
  refine lv_aload C.1 hb dL_isTold_8 (lv_at hl 9 rfl) ?_
  refine run_rd (cRunS (As := [.ref (gA g 18), .ref (gA g 20), .ref (gA g 22), .ref (gA g 24)]) (rest := []) C hb (hml.trans hl.1.symm) hP hS (k_L_base l g S n S hR) wm_195 wm_196 wm_197 wm_2 (n := 4) (by decide +kernel) rfl ⟨rfl, rfl, Nat.le_of_ble_eq_true rfl, Nat.le_of_ble_eq_true rfl⟩ (Nat.le_of_ble_eq_true rfl) rfl ⟨by show 0 + 0 ≤ 90; omega, by show 0 + 0 ≤ 540; omega⟩ dL_isTold_10) ?_
  refine toL (show _ = xBase S from (lr_base hR).symm) ?_
  refine lv_lstore (lv' := [(10, .long (xBase S)), (9, .int 0), (0, .ref (gA g 0)), (1, .ref (gA g 17)), (2, .ref (gA g 18)), (3, .ref (gA g 19)), (4, .ref (gA g 20)), (5, .ref (gA g 21)), (6, .ref (gA g 22)), (7, .ref (gA g 23)), (8, .ref (gA g 24))]) C.1 hb dL_isTold_13 hl (by decide) rfl (fun ls hl => ?_)
  refine lv_aload_n C.1 hb dL_isTold_15 rfl (lv_at hl 2 rfl) ?_
  refine run_rd (cRunX (As := []) (rest := []) C hb (hml.trans hl.1.symm) hP hS rfl (k_X0_base l g S) wm_48 wm_49 wm_50 wm_51 wm_12 (n := 0) (by decide +kernel) rfl ⟨rfl, rfl, Nat.le_of_ble_eq_true rfl, Nat.le_of_ble_eq_true rfl⟩ (Nat.le_of_ble_eq_true rfl) rfl ⟨by show 0 + 0 ≤ 90; omega, by show 0 + 0 ≤ 540; omega⟩ dL_isTold_16) ?_
  refine lv_lload C.1 hb dL_isTold_19 (lv_at hl 0 rfl) ?_
  refine lc_ne (tgt := 70) C hb dL_isTold_21 dL_isTold_22 (by decide) (fun c9 => absurd (rfl : xBase S = xBase S) c9) (fun _ => ?_)
  refine lv_aload_n C.1 hb dL_isTold_25 rfl (lv_at hl 2 rfl) ?_
  refine run_rd (cRunX (As := []) (rest := []) C hb (hml.trans hl.1.symm) hP hS rfl (k_X0_lost l g S n hI) wm_242 wm_243 wm_244 wm_245 wm_12 (n := 0) (by decide +kernel) rfl ⟨rfl, rfl, Nat.le_of_ble_eq_true rfl, Nat.le_of_ble_eq_true rfl⟩ (Nat.le_of_ble_eq_true rfl) rfl ⟨by show 0 + 0 ≤ 90; omega, by show 0 + 0 ≤ 540; omega⟩ dL_isTold_26) ?_
  refine lv_aload_n C.1 hb dL_isTold_29 rfl (lv_at hl 3 rfl) ?_
  refine lv_aload_n C.1 hb dL_isTold_30 rfl (lv_at hl 4 rfl) ?_
  refine lv_aload C.1 hb dL_isTold_31 (lv_at hl 6 rfl) ?_
  refine lv_aload C.1 hb dL_isTold_33 (lv_at hl 7 rfl) ?_
  refine lv_aload C.1 hb dL_isTold_35 (lv_at hl 8 rfl) ?_
  refine lv_aload C.1 hb dL_isTold_37 (lv_at hl 9 rfl) ?_
  refine lv_aload C.1 hb dL_isTold_39 (lv_at hl 10 rfl) ?_
  refine lv_iconst (v := 0) C.1 hb dL_isTold_41 (by decide) ?_
  refine run_rd (cRunS (As := [.ref (gA g 17), .ref (gA g 18), .ref (gA g 20), .ref (gA g 21), .ref (gA g 22), .ref (gA g 23), .ref (gA g 24), .int 0]) (rest := [.long ((xTot (xIa S 1) (xLng S 3) n) - (xTot (xIa S 1) (xCapP S) n))]) C hb (hml.trans hl.1.symm) hP hS (k_L_all0 l g S n S hR) wm_224 wm_225 wm_226 wm_2 (n := 8) (by decide +kernel) rfl ⟨rfl, rfl, Nat.le_of_ble_eq_true rfl, Nat.le_of_ble_eq_true rfl⟩ (Nat.le_of_ble_eq_true rfl) rfl ⟨by show 0 + 0 ≤ 90; omega, by show 0 + 0 ≤ 540; omega⟩ dL_isTold_42) ?_
  refine lv_aload_n C.1 hb dL_isTold_45 rfl (lv_at hl 3 rfl) ?_
  refine lv_aload_n C.1 hb dL_isTold_46 rfl (lv_at hl 4 rfl) ?_
  refine lv_aload C.1 hb dL_isTold_47 (lv_at hl 6 rfl) ?_
  refine lv_aload C.1 hb dL_isTold_49 (lv_at hl 7 rfl) ?_
  refine lv_aload C.1 hb dL_isTold_51 (lv_at hl 8 rfl) ?_
  refine lv_aload C.1 hb dL_isTold_53 (lv_at hl 9 rfl) ?_
  refine lv_aload C.1 hb dL_isTold_55 (lv_at hl 10 rfl) ?_
  refine lv_iconst (v := 1) C.1 hb dL_isTold_57 (by decide) ?_
  refine run_rd (cRunS (As := [.ref (gA g 17), .ref (gA g 18), .ref (gA g 20), .ref (gA g 21), .ref (gA g 22), .ref (gA g 23), .ref (gA g 24), .int 1]) (rest := [.long (xTot (xIa S 1) (xLng S 3) n), .long ((xTot (xIa S 1) (xLng S 3) n) - (xTot (xIa S 1) (xCapP S) n))]) C hb (hml.trans hl.1.symm) hP hS (k_L_all1 l g S n S hR) wm_224 wm_225 wm_226 wm_2 (n := 8) (by decide +kernel) rfl ⟨rfl, rfl, Nat.le_of_ble_eq_true rfl, Nat.le_of_ble_eq_true rfl⟩ (Nat.le_of_ble_eq_true rfl) rfl ⟨by show 0 + 0 ≤ 90; omega, by show 0 + 0 ≤ 540; omega⟩ dL_isTold_58) ?_
  refine lv_lsub C.1 hb dL_isTold_61 ?_
  refine lc_ne (tgt := 70) C hb dL_isTold_62 dL_isTold_63 (by decide) (fun c9 => absurd (rfl : (xTot (xIa S 1) (xLng S 3) n) - (xTot (xIa S 1) (xCapP S) n) = (xTot (xIa S 1) (xLng S 3) n) - (xTot (xIa S 1) (xCapP S) n)) c9) (fun _ => ?_)
  refine lv_iconst (v := 1) C.1 hb dL_isTold_66 (by decide) ?_
  refine lv_goto (tgt := 71) C.1 hb dL_isTold_67 (by decide) ?_
  refine lv_istore (lv' := [(12, .int 1), (10, .long (xBase S)), (9, .int 0), (0, .ref (gA g 0)), (1, .ref (gA g 17)), (2, .ref (gA g 18)), (3, .ref (gA g 19)), (4, .ref (gA g 20)), (5, .ref (gA g 21)), (6, .ref (gA g 22)), (7, .ref (gA g 23)), (8, .ref (gA g 24))]) C.1 hb dL_isTold_71 hl (by decide) rfl (fun ls hl => ?_)
  refine lv_iconst (v := 0) C.1 hb dL_isTold_73 (by decide) ?_
  refine lv_istore (lv' := [(13, .int 0), (12, .int 1), (10, .long (xBase S)), (9, .int 0), (0, .ref (gA g 0)), (1, .ref (gA g 17)), (2, .ref (gA g 18)), (3, .ref (gA g 19)), (4, .ref (gA g 20)), (5, .ref (gA g 21)), (6, .ref (gA g 22)), (7, .ref (gA g 23)), (8, .ref (gA g 24))]) C.1 hb dL_isTold_74 hl (by decide) rfl (fun ls hl => ?_)
  refine W.widen (k := 3 * 0) (n := 18 * 0) (by omega) (by omega) ?_
  have key : ∀ f k : Nat, n - k < f → k ≤ n → ∀ (H : Heap) (locs : List Loc), HW g S H → va_S (Ab g) s.heap H locs → ∀ ls : Array Slot, lv_has ls 23 [(0, .ref (gA g 0)), (1, .ref (gA g 17)), (2, .ref (gA g 18)), (3, .ref (gA g 19)), (4, .ref (gA g 20)), (5, .ref (gA g 21)), (6, .ref (gA g 22)), (7, .ref (gA g 23)), (8, .ref (gA g 24)), (9, .int (nI (xCnt (xLiv S) k))), (10, .long (xBase S)), (12, .int 1), (13, .int (nI k))] → W p l e ({ frames := 8, cells := 90, slots := 540, locals := 330 }) s m ([.ref (gA g 0), .ref (gA g 17), .ref (gA g 18), .ref (gA g 19), .ref (gA g 20), .ref (gA g 21), .ref (gA g 22), .ref (gA g 23), .ref (gA g 24)] : List Value).toArray below meth c H locs (3 * k) (18 * k) (MQ below (WQ g S (some (.int (bI true)))) ([.ref (gA g 0), .ref (gA g 17), .ref (gA g 18), .ref (gA g 19), .ref (gA g 20), .ref (gA g 21), .ref (gA g 22), .ref (gA g 23), .ref (gA g 24)] : List Value).toArray s 90 540 (Ab g)) (F0 m 76 ls []) := by
    intro f
    induction f with
    | zero => intro k h; exact absurd h (Nat.not_lt_zero _)
    | succ f ih =>
      intro k hfk hk  H locs hP hS ls hl
      refine lv_iload C.1 hb dL_isTold_76 (lv_at hl 12 rfl) ?_
      refine lv_aload C.1 hb dL_isTold_78 (lv_at hl 8 rfl) ?_
      refine lv_iconst (v := 0) C.1 hb dL_isTold_80 (by decide) ?_
      refine ldA_m (j := 0) C hb hP (by decide) (by decide) dL_isTold_81 ?_
      refine toI (lr_m0 hR) ?_
      refine lv_icmp_ge (tgt := 237) C.1 hb dL_isTold_82 (by decide) (fun c127 => ?_) (fun c127 => ?_)
      · have hin : k = n := by have := le_nI (a := n) (b := k) (by omega) (by omega) c127; omega
        rw [hin] at hl
        refine lv_iconst (v := 0) C.1 hb dL_isTold_237 (by decide) ?_
        refine lv_istore (lv' := [(13, .int 0), (0, .ref (gA g 0)), (1, .ref (gA g 17)), (2, .ref (gA g 18)), (3, .ref (gA g 19)), (4, .ref (gA g 20)), (5, .ref (gA g 21)), (6, .ref (gA g 22)), (7, .ref (gA g 23)), (8, .ref (gA g 24)), (9, .int (nI (xCnt (xLiv S) n))), (10, .long (xBase S)), (12, .int 1)]) C.1 hb dL_isTold_238 hl (by decide) rfl (fun ls hl => ?_)
        refine W.widen (k := 36 + 13 * 0) (n := 216 + 78 * 0) (by omega) (by omega) ?_
        have key2 : ∀ f t : Nat, 3 - t < f → t ≤ 3 → ∀ (H : Heap) (locs : List Loc), HW g S H → va_S (Ab g) s.heap H locs → ∀ ls : Array Slot, lv_has ls 23 [(0, .ref (gA g 0)), (1, .ref (gA g 17)), (2, .ref (gA g 18)), (3, .ref (gA g 19)), (4, .ref (gA g 20)), (5, .ref (gA g 21)), (6, .ref (gA g 22)), (7, .ref (gA g 23)), (8, .ref (gA g 24)), (9, .int (nI (xCnt (xLiv S) n))), (10, .long (xBase S)), (12, .int 1), (13, .int (nI t))] → W p l e ({ frames := 8, cells := 90, slots := 540, locals := 330 }) s m ([.ref (gA g 0), .ref (gA g 17), .ref (gA g 18), .ref (gA g 19), .ref (gA g 20), .ref (gA g 21), .ref (gA g 22), .ref (gA g 23), .ref (gA g 24)] : List Value).toArray below meth c H locs (36 + 13 * t) (216 + 78 * t) (MQ below (WQ g S (some (.int (bI true)))) ([.ref (gA g 0), .ref (gA g 17), .ref (gA g 18), .ref (gA g 19), .ref (gA g 20), .ref (gA g 21), .ref (gA g 22), .ref (gA g 23), .ref (gA g 24)] : List Value).toArray s 90 540 (Ab g)) (F0 m 240 ls []) := by
          intro f
          induction f with
          | zero => intro t h; exact absurd h (Nat.not_lt_zero _)
          | succ f ih2 =>
            intro t hft ht  H locs hP hS ls hl
            refine lv_iload C.1 hb dL_isTold_240 (lv_at hl 12 rfl) ?_
            refine lv_iconst (v := 3) C.1 hb dL_isTold_242 (by decide) ?_
            refine lv_icmp_ge (tgt := 446) C.1 hb dL_isTold_243 (by decide) (fun c128 => ?_) (fun c128 => ?_)
            · have hin : t = 3 := by have := le_nI (a := 3) (b := t) (by decide) (by omega) c128; omega
              rw [hin] at hl
              refine lv_iload C.1 hb dL_isTold_446 (lv_at hl 11 rfl) ?_
              refine lv_if_eq (tgt := 483) C.1 hb dL_isTold_448 (by decide) (fun c9 => absurd c9 (by decide)) (fun _ => ?_)
              refine lv_aload_n C.1 hb dL_isTold_451 rfl (lv_at hl 0 rfl) ?_
              refine run_rd (cRunX (As := []) (rest := []) C hb (hml.trans hl.1.symm) hP hS rfl (k_X0_rows l g S) wm_44 wm_45 wm_46 wm_47 wm_12 (n := 0) (by decide +kernel) rfl ⟨rfl, rfl, Nat.le_of_ble_eq_true rfl, Nat.le_of_ble_eq_true rfl⟩ (Nat.le_of_ble_eq_true rfl) rfl ⟨by show 36 + 13 * t + 0 ≤ 90; omega, by show 216 + 78 * t + 0 ≤ 540; omega⟩ dL_isTold_452) ?_
              refine lv_iload C.1 hb dL_isTold_455 (lv_at hl 9 rfl) ?_
              refine lv_icmp_ne (tgt := 483) C.1 hb dL_isTold_457 (by decide) (fun c9 => absurd (lr_rows hR) c9) (fun _ => ?_)
              refine lv_aload_n C.1 hb dL_isTold_460 rfl (lv_at hl 0 rfl) ?_
              refine lv_aload_n C.1 hb dL_isTold_461 rfl (lv_at hl 1 rfl) ?_
              refine lv_aload_n C.1 hb dL_isTold_462 rfl (lv_at hl 2 rfl) ?_
              refine lv_aload C.1 hb dL_isTold_463 (lv_at hl 4 rfl) ?_
              refine lv_aload C.1 hb dL_isTold_465 (lv_at hl 6 rfl) ?_
              refine lv_aload C.1 hb dL_isTold_467 (lv_at hl 7 rfl) ?_
              refine lv_aload C.1 hb dL_isTold_469 (lv_at hl 8 rfl) ?_
              refine lv_iload C.1 hb dL_isTold_471 (lv_at hl 9 rfl) ?_
              refine run_wc (cRunC (As := [.ref (gA g 0), .ref (gA g 17), .ref (gA g 18), .ref (gA g 20), .ref (gA g 22), .ref (gA g 23), .ref (gA g 24), .int (nI (xCnt (xLiv S) n))]) (rest := []) C hb (hml.trans hl.1.symm) hP hS (k_L_isRanked l hl0 g S n hR) wm_265 wm_266 wm_267 wm_2 (n := 8) (by decide +kernel) rfl ⟨rfl, rfl, Nat.le_of_ble_eq_true rfl, Nat.le_of_ble_eq_true rfl⟩ (Nat.le_of_ble_eq_true rfl) rfl ⟨by show 36 + 13 * t + 12 ≤ 90; omega, by show 216 + 78 * t + 72 ≤ 540; omega⟩ dL_isTold_473) hS (fun H locs hP hS => ?_)
              refine bz_eq (tgt := 483) C hb dL_isTold_476 (by decide) (fun c9 => absurd ((rfl : true = true).symm.trans c9) (by decide)) (fun _ => ?_)
              refine lv_iconst (v := 1) C.1 hb dL_isTold_479 (by decide) ?_
              refine lv_goto (tgt := 484) C.1 hb dL_isTold_480 (by decide) ?_
              exact weZ (by omega) (by omega) C hb hret hlk hP hS dL_isTold_484 rfl rfl
            · have ht : t < 3 := nle_nI (a := 3) (b := t) (by decide) (by omega) c128
              have h4 := levN_4 t
              refine lv_iload C.1 hb dL_isTold_246 (lv_at hl 11 rfl) ?_
              refine lv_if_eq (tgt := 446) C.1 hb dL_isTold_248 (by decide) (fun c9 => absurd c9 (by decide)) (fun _ => ?_)
              refine lv_lconst (v := 0) C.1 hb dL_isTold_251 (by decide) ?_
              refine lv_lstore (lv' := [(14, .long 0), (0, .ref (gA g 0)), (1, .ref (gA g 17)), (2, .ref (gA g 18)), (3, .ref (gA g 19)), (4, .ref (gA g 20)), (5, .ref (gA g 21)), (6, .ref (gA g 22)), (7, .ref (gA g 23)), (8, .ref (gA g 24)), (9, .int (nI (xCnt (xLiv S) n))), (10, .long (xBase S)), (12, .int 1), (13, .int (nI t))]) C.1 hb dL_isTold_252 hl (by decide) rfl (fun ls hl => ?_)
              refine lv_iconst (v := 0) C.1 hb dL_isTold_254 (by decide) ?_
              refine lv_istore (lv' := [(16, .int 0), (14, .long 0), (0, .ref (gA g 0)), (1, .ref (gA g 17)), (2, .ref (gA g 18)), (3, .ref (gA g 19)), (4, .ref (gA g 20)), (5, .ref (gA g 21)), (6, .ref (gA g 22)), (7, .ref (gA g 23)), (8, .ref (gA g 24)), (9, .int (nI (xCnt (xLiv S) n))), (10, .long (xBase S)), (12, .int 1), (13, .int (nI t))]) C.1 hb dL_isTold_255 hl (by decide) rfl (fun ls hl => ?_)
              refine W.widen (k := 36 + 13 * t + 3 * 0) (n := 216 + 78 * t + 18 * 0) (by omega) (by omega) ?_
              have key3 : ∀ f k : Nat, (levN t) - k < f → k ≤ (levN t) → ∀ (H : Heap) (locs : List Loc), HW g S H → va_S (Ab g) s.heap H locs → ∀ ls : Array Slot, lv_has ls 23 [(0, .ref (gA g 0)), (1, .ref (gA g 17)), (2, .ref (gA g 18)), (3, .ref (gA g 19)), (4, .ref (gA g 20)), (5, .ref (gA g 21)), (6, .ref (gA g 22)), (7, .ref (gA g 23)), (8, .ref (gA g 24)), (9, .int (nI (xCnt (xLiv S) n))), (10, .long (xBase S)), (12, .int 1), (13, .int (nI t)), (14, .long (xWorst S n t k)), (16, .int (nI k))] → W p l e ({ frames := 8, cells := 90, slots := 540, locals := 330 }) s m ([.ref (gA g 0), .ref (gA g 17), .ref (gA g 18), .ref (gA g 19), .ref (gA g 20), .ref (gA g 21), .ref (gA g 22), .ref (gA g 23), .ref (gA g 24)] : List Value).toArray below meth c H locs (36 + 13 * t + 3 * k) (216 + 78 * t + 18 * k) (MQ below (WQ g S (some (.int (bI true)))) ([.ref (gA g 0), .ref (gA g 17), .ref (gA g 18), .ref (gA g 19), .ref (gA g 20), .ref (gA g 21), .ref (gA g 22), .ref (gA g 23), .ref (gA g 24)] : List Value).toArray s 90 540 (Ab g)) (F0 m 257 ls []) := by
                intro f
                induction f with
                | zero => intro k h; exact absurd h (Nat.not_lt_zero _)
                | succ f ih3 =>
                  intro k hfk hk  H locs hP hS ls hl
                  refine lv_iload C.1 hb dL_isTold_257 (lv_at hl 14 rfl) ?_
                  refine lv_iload C.1 hb dL_isTold_259 (lv_at hl 12 rfl) ?_
                  refine run_rd (cRunS (As := [.int (nI t)]) (rest := [.int (nI k)]) C hb (hml.trans hl.1.symm) hP hS (k_L_many l g S t ht) wm_175 wm_176 wm_177 wm_2 (n := 1) (by decide +kernel) rfl ⟨rfl, rfl, Nat.le_of_ble_eq_true rfl, Nat.le_of_ble_eq_true rfl⟩ (Nat.le_of_ble_eq_true rfl) rfl ⟨by show 36 + 13 * t + 3 * k + 0 ≤ 90; omega, by show 216 + 78 * t + 18 * k + 0 ≤ 540; omega⟩ dL_isTold_261) ?_
                  refine lv_icmp_ge (tgt := 416) C.1 hb dL_isTold_264 (by decide) (fun c129 => ?_) (fun c129 => ?_)
                  · have hin : k = (levN t) := by have := le_nI (a := levN t) (b := k) (by omega) (by omega) c129; omega
                    rw [hin] at hl
                    refine lv_iload C.1 hb dL_isTold_416 (lv_at hl 11 rfl) ?_
                    refine lv_if_eq (tgt := 437) C.1 hb dL_isTold_418 (by decide) (fun c9 => absurd c9 (by decide)) (fun _ => ?_)
                    refine lv_aload_n C.1 hb dL_isTold_421 rfl (lv_at hl 0 rfl) ?_
                    refine lv_iload C.1 hb dL_isTold_422 (lv_at hl 12 rfl) ?_
                    refine run_txn (cRunTX (As := [.int (nI t)]) (rest := []) C hb (hml.trans hl.1.symm) hP hS rfl (k_X0_worst l hl0 g S n hI (nI t)) wm_258 wm_259 wm_260 wm_261 wm_12 (n := 1) (by decide +kernel) rfl ⟨rfl, rfl, Nat.le_of_ble_eq_true rfl, Nat.le_of_ble_eq_true rfl⟩ (Nat.le_of_ble_eq_true rfl) rfl ⟨by show 36 + 13 * t + 3 * k + 1 ≤ 90; omega, by show 216 + 78 * t + 18 * k + 6 ≤ 540; omega⟩ dL_isTold_424) (ex_tr ht) hS (fun H locs hP hS => ?_)
                    refine toL (show _ = xWorst S n t (levN t) from (by rw [tN_nI (by omega)])) ?_
                    refine lv_lload C.1 hb dL_isTold_427 (lv_at hl 13 rfl) ?_
                    refine lc_ne (tgt := 437) C hb dL_isTold_429 dL_isTold_430 (by decide) (fun c9 => absurd (rfl : xWorst S n t (levN t) = xWorst S n t (levN t)) c9) (fun _ => ?_)
                    refine lv_iconst (v := 1) C.1 hb dL_isTold_433 (by decide) ?_
                    refine lv_goto (tgt := 438) C.1 hb dL_isTold_434 (by decide) ?_
                    refine lv_istore (lv' := [(12, .int 1), (0, .ref (gA g 0)), (1, .ref (gA g 17)), (2, .ref (gA g 18)), (3, .ref (gA g 19)), (4, .ref (gA g 20)), (5, .ref (gA g 21)), (6, .ref (gA g 22)), (7, .ref (gA g 23)), (8, .ref (gA g 24)), (9, .int (nI (xCnt (xLiv S) n))), (10, .long (xBase S)), (13, .int (nI t)), (14, .long (xWorst S n t (levN t))), (16, .int (nI (levN t)))]) C.1 hb dL_isTold_438 hl (by decide) rfl (fun ls hl => ?_)
                    refine lv_iinc (v := nI (t + 1)) (lv' := [(13, .int (nI (t + 1))), (12, .int 1), (0, .ref (gA g 0)), (1, .ref (gA g 17)), (2, .ref (gA g 18)), (3, .ref (gA g 19)), (4, .ref (gA g 20)), (5, .ref (gA g 21)), (6, .ref (gA g 22)), (7, .ref (gA g 23)), (8, .ref (gA g 24)), (9, .int (nI (xCnt (xLiv S) n))), (10, .long (xBase S)), (14, .long (xWorst S n t (levN t))), (16, .int (nI (levN t)))]) C.1 hb dL_isTold_440 hl (k := 12) rfl (nI_1 t) (by decide) rfl (fun ls hl => ?_)
                    refine lv_goto (tgt := 240) C.1 hb dL_isTold_443 (by decide) ?_
                    refine W.widen (k := 36 + 13 * (t + 1)) (n := 216 + 78 * (t + 1)) (by omega) (by omega) ?_
                    exact ih2 (t + 1) (by omega) (by omega)  _ _ hP hS ls (lv_sub hl [2, 3, 4, 5, 6, 7, 8, 9, 10, 11, 12, 1, 0] rfl)
                  · have hlt : k < levN t := nle_nI (a := levN t) (b := k) (by omega) (by omega) c129
                    refine lv_iload C.1 hb dL_isTold_267 (lv_at hl 11 rfl) ?_
                    refine lv_if_eq (tgt := 416) C.1 hb dL_isTold_269 (by decide) (fun c9 => absurd c9 (by decide)) (fun _ => ?_)
                    refine lv_aload_n C.1 hb dL_isTold_272 rfl (lv_at hl 1 rfl) ?_
                    refine lv_aload_n C.1 hb dL_isTold_273 rfl (lv_at hl 2 rfl) ?_
                    refine lv_aload_n C.1 hb dL_isTold_274 rfl (lv_at hl 3 rfl) ?_
                    refine lv_aload C.1 hb dL_isTold_275 (lv_at hl 4 rfl) ?_
                    refine lv_aload C.1 hb dL_isTold_277 (lv_at hl 6 rfl) ?_
                    refine lv_aload C.1 hb dL_isTold_279 (lv_at hl 7 rfl) ?_
                    refine lv_aload C.1 hb dL_isTold_281 (lv_at hl 8 rfl) ?_
                    refine lv_iconst (v := 0) C.1 hb dL_isTold_283 (by decide) ?_
                    refine lv_iload C.1 hb dL_isTold_284 (lv_at hl 12 rfl) ?_
                    refine lv_iload C.1 hb dL_isTold_286 (lv_at hl 14 rfl) ?_
                    refine run_rd (cRunS (As := [.ref (gA g 17), .ref (gA g 18), .ref (gA g 19), .ref (gA g 20), .ref (gA g 22), .ref (gA g 23), .ref (gA g 24), .int 0, .int (nI t), .int (nI k)]) (rest := []) C hb (hml.trans hl.1.symm) hP hS (k_L_sum0 l g S n S hR t k ht hlt) wm_192 wm_193 wm_194 wm_2 (n := 10) (by decide +kernel) rfl ⟨rfl, rfl, Nat.le_of_ble_eq_true rfl, Nat.le_of_ble_eq_true rfl⟩ (Nat.le_of_ble_eq_true rfl) rfl ⟨by show 36 + 13 * t + 3 * k + 0 ≤ 90; omega, by show 216 + 78 * t + 18 * k + 0 ≤ 540; omega⟩ dL_isTold_288) ?_
                    refine lv_lstore (lv' := [(17, .long (sLos S n t k)), (0, .ref (gA g 0)), (1, .ref (gA g 17)), (2, .ref (gA g 18)), (3, .ref (gA g 19)), (4, .ref (gA g 20)), (5, .ref (gA g 21)), (6, .ref (gA g 22)), (7, .ref (gA g 23)), (8, .ref (gA g 24)), (9, .int (nI (xCnt (xLiv S) n))), (10, .long (xBase S)), (12, .int 1), (13, .int (nI t)), (14, .long (xWorst S n t k)), (16, .int (nI k))]) C.1 hb dL_isTold_291 hl (by decide) rfl (fun ls hl => ?_)
                    refine lv_aload_n C.1 hb dL_isTold_293 rfl (lv_at hl 2 rfl) ?_
                    refine lv_aload_n C.1 hb dL_isTold_294 rfl (lv_at hl 3 rfl) ?_
                    refine lv_aload_n C.1 hb dL_isTold_295 rfl (lv_at hl 4 rfl) ?_
                    refine lv_aload C.1 hb dL_isTold_296 (lv_at hl 5 rfl) ?_
                    refine lv_aload C.1 hb dL_isTold_298 (lv_at hl 7 rfl) ?_
                    refine lv_aload C.1 hb dL_isTold_300 (lv_at hl 8 rfl) ?_
                    refine lv_aload C.1 hb dL_isTold_302 (lv_at hl 9 rfl) ?_
                    refine lv_iconst (v := 1) C.1 hb dL_isTold_304 (by decide) ?_
                    refine lv_iload C.1 hb dL_isTold_305 (lv_at hl 13 rfl) ?_
                    refine lv_iload C.1 hb dL_isTold_307 (lv_at hl 15 rfl) ?_
                    refine run_rd (cRunS (As := [.ref (gA g 17), .ref (gA g 18), .ref (gA g 19), .ref (gA g 20), .ref (gA g 22), .ref (gA g 23), .ref (gA g 24), .int 1, .int (nI t), .int (nI k)]) (rest := []) C hb (hml.trans hl.1.symm) hP hS (k_L_sum1 l g S n S hR t k ht hlt) wm_192 wm_193 wm_194 wm_2 (n := 10) (by decide +kernel) rfl ⟨rfl, rfl, Nat.le_of_ble_eq_true rfl, Nat.le_of_ble_eq_true rfl⟩ (Nat.le_of_ble_eq_true rfl) rfl ⟨by show 36 + 13 * t + 3 * k + 0 ≤ 90; omega, by show 216 + 78 * t + 18 * k + 0 ≤ 540; omega⟩ dL_isTold_309) ?_
                    refine lv_lstore (lv' := [(19, .long (sFit S n t k)), (17, .long (sLos S n t k)), (0, .ref (gA g 0)), (1, .ref (gA g 17)), (2, .ref (gA g 18)), (3, .ref (gA g 19)), (4, .ref (gA g 20)), (5, .ref (gA g 21)), (6, .ref (gA g 22)), (7, .ref (gA g 23)), (8, .ref (gA g 24)), (9, .int (nI (xCnt (xLiv S) n))), (10, .long (xBase S)), (12, .int 1), (13, .int (nI t)), (14, .long (xWorst S n t k)), (16, .int (nI k))]) C.1 hb dL_isTold_312 hl (by decide) rfl (fun ls hl => ?_)
                    refine lv_lload C.1 hb dL_isTold_314 (lv_at hl 1 rfl) ?_
                    refine lv_lload C.1 hb dL_isTold_316 (lv_at hl 0 rfl) ?_
                    refine lc_le (tgt := 330) C hb dL_isTold_318 dL_isTold_319 (by decide) (fun c130 => ?_) (fun c130 => ?_)
                    · refine lv_lload C.1 hb dL_isTold_330 (lv_at hl 0 rfl) ?_
                      refine lv_lload C.1 hb dL_isTold_332 (lv_at hl 1 rfl) ?_
                      refine lv_lsub C.1 hb dL_isTold_334 ?_
                      refine toL (show _ = ab64 (sLos S n t k - sFit S n t k) from (dif_n hR.1 t k c130)) ?_
                      refine lv_lstore (lv' := [(21, .long (ab64 (sLos S n t k - sFit S n t k))), (19, .long (sFit S n t k)), (17, .long (sLos S n t k)), (0, .ref (gA g 0)), (1, .ref (gA g 17)), (2, .ref (gA g 18)), (3, .ref (gA g 19)), (4, .ref (gA g 20)), (5, .ref (gA g 21)), (6, .ref (gA g 22)), (7, .ref (gA g 23)), (8, .ref (gA g 24)), (9, .int (nI (xCnt (xLiv S) n))), (10, .long (xBase S)), (12, .int 1), (13, .int (nI t)), (14, .long (xWorst S n t k)), (16, .int (nI k))]) C.1 hb dL_isTold_335 hl (by decide) rfl (fun ls hl => ?_)
                      refine lv_lload C.1 hb dL_isTold_337 (lv_at hl 0 rfl) ?_
                      refine lv_lload C.1 hb dL_isTold_339 (lv_at hl 16 rfl) ?_
                      refine lc_le (tgt := 350) C hb dL_isTold_341 dL_isTold_342 (by decide) (fun c131 => ?_) (fun c131 => ?_)
                      · refine lv_lload C.1 hb dL_isTold_350 (lv_at hl 16 rfl) ?_
                        refine toL (show _ = xWorst S n t (k + 1) from (wst_le c131)) ?_
                        refine lv_lstore (lv' := [(14, .long (xWorst S n t (k + 1))), (21, .long (ab64 (sLos S n t k - sFit S n t k))), (19, .long (sFit S n t k)), (17, .long (sLos S n t k)), (0, .ref (gA g 0)), (1, .ref (gA g 17)), (2, .ref (gA g 18)), (3, .ref (gA g 19)), (4, .ref (gA g 20)), (5, .ref (gA g 21)), (6, .ref (gA g 22)), (7, .ref (gA g 23)), (8, .ref (gA g 24)), (9, .int (nI (xCnt (xLiv S) n))), (10, .long (xBase S)), (12, .int 1), (13, .int (nI t)), (16, .int (nI k))]) C.1 hb dL_isTold_352 hl (by decide) rfl (fun ls hl => ?_)
                        refine lv_aload_n C.1 hb dL_isTold_354 rfl (lv_at hl 4 rfl) ?_
                        refine lv_iload C.1 hb dL_isTold_355 (lv_at hl 16 rfl) ?_
                        refine lv_iload C.1 hb dL_isTold_357 (lv_at hl 17 rfl) ?_
                        refine run_txn (cRunTX (As := [.int (nI t), .int (nI k)]) (rest := []) C hb (hml.trans hl.1.symm) hP hS rfl (k_X0_factor l hl0 g S (nI t) (nI k)) wm_246 wm_247 wm_248 wm_249 wm_12 (n := 2) (by decide +kernel) rfl ⟨rfl, rfl, Nat.le_of_ble_eq_true rfl, Nat.le_of_ble_eq_true rfl⟩ (Nat.le_of_ble_eq_true rfl) rfl ⟨by show 36 + 13 * t + 3 * k + 1 ≤ 90; omega, by show 216 + 78 * t + 18 * k + 6 ≤ 540; omega⟩ dL_isTold_359) (ex_lev ht hlt) hS (fun H locs hP hS => ?_)
                        refine toI (show _ = xFac S t k from (by rw [tN_nI (by omega), tN_nI (by omega)])) ?_
                        refine lv_aload C.1 hb dL_isTold_362 (lv_at hl 11 rfl) ?_
                        refine lv_iconst (v := 4) C.1 hb dL_isTold_364 (by decide) ?_
                        refine lv_iload C.1 hb dL_isTold_365 (lv_at hl 16 rfl) ?_
                        refine lv_imul C.1 hb dL_isTold_367 ?_
                        refine lv_iload C.1 hb dL_isTold_368 (lv_at hl 17 rfl) ?_
                        refine lv_iadd C.1 hb dL_isTold_370 ?_
                        refine ldA_f (j := (4 * t + k)) C hb hP (ix4 t k) (by omega) dL_isTold_371 ?_
                        refine toI (lr_f hR ht hlt) ?_
                        refine lv_icmp_ne (tgt := 407) C.1 hb dL_isTold_372 (by decide) (fun c9 => absurd (rfl : xFac S t k = xFac S t k) c9) (fun _ => ?_)
                        refine lv_aload_n C.1 hb dL_isTold_375 rfl (lv_at hl 4 rfl) ?_
                        refine lv_iload C.1 hb dL_isTold_376 (lv_at hl 16 rfl) ?_
                        refine lv_iload C.1 hb dL_isTold_378 (lv_at hl 17 rfl) ?_
                        refine run_txn (cRunTX (As := [.int (nI t), .int (nI k)]) (rest := []) C hb (hml.trans hl.1.symm) hP hS rfl (k_X0_toldSum l hl0 g S n hI (nI t) (nI k)) wm_250 wm_251 wm_252 wm_253 wm_12 (n := 2) (by decide +kernel) rfl ⟨rfl, rfl, Nat.le_of_ble_eq_true rfl, Nat.le_of_ble_eq_true rfl⟩ (Nat.le_of_ble_eq_true rfl) rfl ⟨by show 36 + 13 * t + 3 * k + 1 + 1 ≤ 90; omega, by show 216 + 78 * t + 18 * k + 6 + 6 ≤ 540; omega⟩ dL_isTold_380) (ex_lev ht hlt) hS (fun H locs hP hS => ?_)
                        refine toL (show _ = sLos S n t k from (by rw [tN_nI (by omega)])) ?_
                        refine lv_lload C.1 hb dL_isTold_383 (lv_at hl 3 rfl) ?_
                        refine lc_ne (tgt := 407) C hb dL_isTold_385 dL_isTold_386 (by decide) (fun c9 => absurd (rfl : sLos S n t k = sLos S n t k) c9) (fun _ => ?_)
                        refine lv_aload_n C.1 hb dL_isTold_389 rfl (lv_at hl 4 rfl) ?_
                        refine lv_iload C.1 hb dL_isTold_390 (lv_at hl 16 rfl) ?_
                        refine lv_iload C.1 hb dL_isTold_392 (lv_at hl 17 rfl) ?_
                        refine run_txn (cRunTX (As := [.int (nI t), .int (nI k)]) (rest := []) C hb (hml.trans hl.1.symm) hP hS rfl (k_X0_fittedSum l hl0 g S n hI (nI t) (nI k)) wm_254 wm_255 wm_256 wm_257 wm_12 (n := 2) (by decide +kernel) rfl ⟨rfl, rfl, Nat.le_of_ble_eq_true rfl, Nat.le_of_ble_eq_true rfl⟩ (Nat.le_of_ble_eq_true rfl) rfl ⟨by show 36 + 13 * t + 3 * k + 1 + 1 + 1 ≤ 90; omega, by show 216 + 78 * t + 18 * k + 6 + 6 + 6 ≤ 540; omega⟩ dL_isTold_394) (ex_lev ht hlt) hS (fun H locs hP hS => ?_)
                        refine toL (show _ = sFit S n t k from (by rw [tN_nI (by omega)])) ?_
                        refine lv_lload C.1 hb dL_isTold_397 (lv_at hl 2 rfl) ?_
                        refine lc_ne (tgt := 407) C hb dL_isTold_399 dL_isTold_400 (by decide) (fun c9 => absurd (rfl : sFit S n t k = sFit S n t k) c9) (fun _ => ?_)
                        refine lv_iconst (v := 1) C.1 hb dL_isTold_403 (by decide) ?_
                        refine lv_goto (tgt := 408) C.1 hb dL_isTold_404 (by decide) ?_
                        refine lv_istore (lv' := [(12, .int 1), (14, .long (xWorst S n t (k + 1))), (21, .long (ab64 (sLos S n t k - sFit S n t k))), (19, .long (sFit S n t k)), (17, .long (sLos S n t k)), (0, .ref (gA g 0)), (1, .ref (gA g 17)), (2, .ref (gA g 18)), (3, .ref (gA g 19)), (4, .ref (gA g 20)), (5, .ref (gA g 21)), (6, .ref (gA g 22)), (7, .ref (gA g 23)), (8, .ref (gA g 24)), (9, .int (nI (xCnt (xLiv S) n))), (10, .long (xBase S)), (13, .int (nI t)), (16, .int (nI k))]) C.1 hb dL_isTold_408 hl (by decide) rfl (fun ls hl => ?_)
                        refine lv_iinc (v := nI (k + 1)) (lv' := [(16, .int (nI (k + 1))), (12, .int 1), (14, .long (xWorst S n t (k + 1))), (21, .long (ab64 (sLos S n t k - sFit S n t k))), (19, .long (sFit S n t k)), (17, .long (sLos S n t k)), (0, .ref (gA g 0)), (1, .ref (gA g 17)), (2, .ref (gA g 18)), (3, .ref (gA g 19)), (4, .ref (gA g 20)), (5, .ref (gA g 21)), (6, .ref (gA g 22)), (7, .ref (gA g 23)), (8, .ref (gA g 24)), (9, .int (nI (xCnt (xLiv S) n))), (10, .long (xBase S)), (13, .int (nI t))]) C.1 hb dL_isTold_410 hl (k := 17) rfl (nI_1 k) (by decide) rfl (fun ls hl => ?_)
                        refine lv_goto (tgt := 257) C.1 hb dL_isTold_413 (by decide) ?_
                        refine W.widen (k := 36 + 13 * t + 3 * (k + 1)) (n := 216 + 78 * t + 18 * (k + 1)) (by omega) (by omega) ?_
                        exact ih3 (k + 1) (by omega) (by omega)  _ _ hP hS ls (lv_sub hl [6, 7, 8, 9, 10, 11, 12, 13, 14, 15, 16, 1, 17, 2, 0] rfl)
                      · refine lv_lload C.1 hb dL_isTold_345 (lv_at hl 0 rfl) ?_
                        refine lv_goto (tgt := 352) C.1 hb dL_isTold_347 (by decide) ?_
                        refine toL (show _ = xWorst S n t (k + 1) from (wst_gt c131)) ?_
                        refine lv_lstore (lv' := [(14, .long (xWorst S n t (k + 1))), (21, .long (ab64 (sLos S n t k - sFit S n t k))), (19, .long (sFit S n t k)), (17, .long (sLos S n t k)), (0, .ref (gA g 0)), (1, .ref (gA g 17)), (2, .ref (gA g 18)), (3, .ref (gA g 19)), (4, .ref (gA g 20)), (5, .ref (gA g 21)), (6, .ref (gA g 22)), (7, .ref (gA g 23)), (8, .ref (gA g 24)), (9, .int (nI (xCnt (xLiv S) n))), (10, .long (xBase S)), (12, .int 1), (13, .int (nI t)), (16, .int (nI k))]) C.1 hb dL_isTold_352 hl (by decide) rfl (fun ls hl => ?_)
                        refine lv_aload_n C.1 hb dL_isTold_354 rfl (lv_at hl 4 rfl) ?_
                        refine lv_iload C.1 hb dL_isTold_355 (lv_at hl 16 rfl) ?_
                        refine lv_iload C.1 hb dL_isTold_357 (lv_at hl 17 rfl) ?_
                        refine run_txn (cRunTX (As := [.int (nI t), .int (nI k)]) (rest := []) C hb (hml.trans hl.1.symm) hP hS rfl (k_X0_factor l hl0 g S (nI t) (nI k)) wm_246 wm_247 wm_248 wm_249 wm_12 (n := 2) (by decide +kernel) rfl ⟨rfl, rfl, Nat.le_of_ble_eq_true rfl, Nat.le_of_ble_eq_true rfl⟩ (Nat.le_of_ble_eq_true rfl) rfl ⟨by show 36 + 13 * t + 3 * k + 1 ≤ 90; omega, by show 216 + 78 * t + 18 * k + 6 ≤ 540; omega⟩ dL_isTold_359) (ex_lev ht hlt) hS (fun H locs hP hS => ?_)
                        refine toI (show _ = xFac S t k from (by rw [tN_nI (by omega), tN_nI (by omega)])) ?_
                        refine lv_aload C.1 hb dL_isTold_362 (lv_at hl 11 rfl) ?_
                        refine lv_iconst (v := 4) C.1 hb dL_isTold_364 (by decide) ?_
                        refine lv_iload C.1 hb dL_isTold_365 (lv_at hl 16 rfl) ?_
                        refine lv_imul C.1 hb dL_isTold_367 ?_
                        refine lv_iload C.1 hb dL_isTold_368 (lv_at hl 17 rfl) ?_
                        refine lv_iadd C.1 hb dL_isTold_370 ?_
                        refine ldA_f (j := (4 * t + k)) C hb hP (ix4 t k) (by omega) dL_isTold_371 ?_
                        refine toI (lr_f hR ht hlt) ?_
                        refine lv_icmp_ne (tgt := 407) C.1 hb dL_isTold_372 (by decide) (fun c9 => absurd (rfl : xFac S t k = xFac S t k) c9) (fun _ => ?_)
                        refine lv_aload_n C.1 hb dL_isTold_375 rfl (lv_at hl 4 rfl) ?_
                        refine lv_iload C.1 hb dL_isTold_376 (lv_at hl 16 rfl) ?_
                        refine lv_iload C.1 hb dL_isTold_378 (lv_at hl 17 rfl) ?_
                        refine run_txn (cRunTX (As := [.int (nI t), .int (nI k)]) (rest := []) C hb (hml.trans hl.1.symm) hP hS rfl (k_X0_toldSum l hl0 g S n hI (nI t) (nI k)) wm_250 wm_251 wm_252 wm_253 wm_12 (n := 2) (by decide +kernel) rfl ⟨rfl, rfl, Nat.le_of_ble_eq_true rfl, Nat.le_of_ble_eq_true rfl⟩ (Nat.le_of_ble_eq_true rfl) rfl ⟨by show 36 + 13 * t + 3 * k + 1 + 1 ≤ 90; omega, by show 216 + 78 * t + 18 * k + 6 + 6 ≤ 540; omega⟩ dL_isTold_380) (ex_lev ht hlt) hS (fun H locs hP hS => ?_)
                        refine toL (show _ = sLos S n t k from (by rw [tN_nI (by omega)])) ?_
                        refine lv_lload C.1 hb dL_isTold_383 (lv_at hl 3 rfl) ?_
                        refine lc_ne (tgt := 407) C hb dL_isTold_385 dL_isTold_386 (by decide) (fun c9 => absurd (rfl : sLos S n t k = sLos S n t k) c9) (fun _ => ?_)
                        refine lv_aload_n C.1 hb dL_isTold_389 rfl (lv_at hl 4 rfl) ?_
                        refine lv_iload C.1 hb dL_isTold_390 (lv_at hl 16 rfl) ?_
                        refine lv_iload C.1 hb dL_isTold_392 (lv_at hl 17 rfl) ?_
                        refine run_txn (cRunTX (As := [.int (nI t), .int (nI k)]) (rest := []) C hb (hml.trans hl.1.symm) hP hS rfl (k_X0_fittedSum l hl0 g S n hI (nI t) (nI k)) wm_254 wm_255 wm_256 wm_257 wm_12 (n := 2) (by decide +kernel) rfl ⟨rfl, rfl, Nat.le_of_ble_eq_true rfl, Nat.le_of_ble_eq_true rfl⟩ (Nat.le_of_ble_eq_true rfl) rfl ⟨by show 36 + 13 * t + 3 * k + 1 + 1 + 1 ≤ 90; omega, by show 216 + 78 * t + 18 * k + 6 + 6 + 6 ≤ 540; omega⟩ dL_isTold_394) (ex_lev ht hlt) hS (fun H locs hP hS => ?_)
                        refine toL (show _ = sFit S n t k from (by rw [tN_nI (by omega)])) ?_
                        refine lv_lload C.1 hb dL_isTold_397 (lv_at hl 2 rfl) ?_
                        refine lc_ne (tgt := 407) C hb dL_isTold_399 dL_isTold_400 (by decide) (fun c9 => absurd (rfl : sFit S n t k = sFit S n t k) c9) (fun _ => ?_)
                        refine lv_iconst (v := 1) C.1 hb dL_isTold_403 (by decide) ?_
                        refine lv_goto (tgt := 408) C.1 hb dL_isTold_404 (by decide) ?_
                        refine lv_istore (lv' := [(12, .int 1), (14, .long (xWorst S n t (k + 1))), (21, .long (ab64 (sLos S n t k - sFit S n t k))), (19, .long (sFit S n t k)), (17, .long (sLos S n t k)), (0, .ref (gA g 0)), (1, .ref (gA g 17)), (2, .ref (gA g 18)), (3, .ref (gA g 19)), (4, .ref (gA g 20)), (5, .ref (gA g 21)), (6, .ref (gA g 22)), (7, .ref (gA g 23)), (8, .ref (gA g 24)), (9, .int (nI (xCnt (xLiv S) n))), (10, .long (xBase S)), (13, .int (nI t)), (16, .int (nI k))]) C.1 hb dL_isTold_408 hl (by decide) rfl (fun ls hl => ?_)
                        refine lv_iinc (v := nI (k + 1)) (lv' := [(16, .int (nI (k + 1))), (12, .int 1), (14, .long (xWorst S n t (k + 1))), (21, .long (ab64 (sLos S n t k - sFit S n t k))), (19, .long (sFit S n t k)), (17, .long (sLos S n t k)), (0, .ref (gA g 0)), (1, .ref (gA g 17)), (2, .ref (gA g 18)), (3, .ref (gA g 19)), (4, .ref (gA g 20)), (5, .ref (gA g 21)), (6, .ref (gA g 22)), (7, .ref (gA g 23)), (8, .ref (gA g 24)), (9, .int (nI (xCnt (xLiv S) n))), (10, .long (xBase S)), (13, .int (nI t))]) C.1 hb dL_isTold_410 hl (k := 17) rfl (nI_1 k) (by decide) rfl (fun ls hl => ?_)
                        refine lv_goto (tgt := 257) C.1 hb dL_isTold_413 (by decide) ?_
                        refine W.widen (k := 36 + 13 * t + 3 * (k + 1)) (n := 216 + 78 * t + 18 * (k + 1)) (by omega) (by omega) ?_
                        exact ih3 (k + 1) (by omega) (by omega)  _ _ hP hS ls (lv_sub hl [6, 7, 8, 9, 10, 11, 12, 13, 14, 15, 16, 1, 17, 2, 0] rfl)
                    · refine lv_lload C.1 hb dL_isTold_322 (lv_at hl 1 rfl) ?_
                      refine lv_lload C.1 hb dL_isTold_324 (lv_at hl 0 rfl) ?_
                      refine lv_lsub C.1 hb dL_isTold_326 ?_
                      refine lv_goto (tgt := 335) C.1 hb dL_isTold_327 (by decide) ?_
                      refine toL (show _ = ab64 (sLos S n t k - sFit S n t k) from (dif_p hR.1 t k c130)) ?_
                      refine lv_lstore (lv' := [(21, .long (ab64 (sLos S n t k - sFit S n t k))), (19, .long (sFit S n t k)), (17, .long (sLos S n t k)), (0, .ref (gA g 0)), (1, .ref (gA g 17)), (2, .ref (gA g 18)), (3, .ref (gA g 19)), (4, .ref (gA g 20)), (5, .ref (gA g 21)), (6, .ref (gA g 22)), (7, .ref (gA g 23)), (8, .ref (gA g 24)), (9, .int (nI (xCnt (xLiv S) n))), (10, .long (xBase S)), (12, .int 1), (13, .int (nI t)), (14, .long (xWorst S n t k)), (16, .int (nI k))]) C.1 hb dL_isTold_335 hl (by decide) rfl (fun ls hl => ?_)
                      refine lv_lload C.1 hb dL_isTold_337 (lv_at hl 0 rfl) ?_
                      refine lv_lload C.1 hb dL_isTold_339 (lv_at hl 16 rfl) ?_
                      refine lc_le (tgt := 350) C hb dL_isTold_341 dL_isTold_342 (by decide) (fun c132 => ?_) (fun c132 => ?_)
                      · refine lv_lload C.1 hb dL_isTold_350 (lv_at hl 16 rfl) ?_
                        refine toL (show _ = xWorst S n t (k + 1) from (wst_le c132)) ?_
                        refine lv_lstore (lv' := [(14, .long (xWorst S n t (k + 1))), (21, .long (ab64 (sLos S n t k - sFit S n t k))), (19, .long (sFit S n t k)), (17, .long (sLos S n t k)), (0, .ref (gA g 0)), (1, .ref (gA g 17)), (2, .ref (gA g 18)), (3, .ref (gA g 19)), (4, .ref (gA g 20)), (5, .ref (gA g 21)), (6, .ref (gA g 22)), (7, .ref (gA g 23)), (8, .ref (gA g 24)), (9, .int (nI (xCnt (xLiv S) n))), (10, .long (xBase S)), (12, .int 1), (13, .int (nI t)), (16, .int (nI k))]) C.1 hb dL_isTold_352 hl (by decide) rfl (fun ls hl => ?_)
                        refine lv_aload_n C.1 hb dL_isTold_354 rfl (lv_at hl 4 rfl) ?_
                        refine lv_iload C.1 hb dL_isTold_355 (lv_at hl 16 rfl) ?_
                        refine lv_iload C.1 hb dL_isTold_357 (lv_at hl 17 rfl) ?_
                        refine run_txn (cRunTX (As := [.int (nI t), .int (nI k)]) (rest := []) C hb (hml.trans hl.1.symm) hP hS rfl (k_X0_factor l hl0 g S (nI t) (nI k)) wm_246 wm_247 wm_248 wm_249 wm_12 (n := 2) (by decide +kernel) rfl ⟨rfl, rfl, Nat.le_of_ble_eq_true rfl, Nat.le_of_ble_eq_true rfl⟩ (Nat.le_of_ble_eq_true rfl) rfl ⟨by show 36 + 13 * t + 3 * k + 1 ≤ 90; omega, by show 216 + 78 * t + 18 * k + 6 ≤ 540; omega⟩ dL_isTold_359) (ex_lev ht hlt) hS (fun H locs hP hS => ?_)
                        refine toI (show _ = xFac S t k from (by rw [tN_nI (by omega), tN_nI (by omega)])) ?_
                        refine lv_aload C.1 hb dL_isTold_362 (lv_at hl 11 rfl) ?_
                        refine lv_iconst (v := 4) C.1 hb dL_isTold_364 (by decide) ?_
                        refine lv_iload C.1 hb dL_isTold_365 (lv_at hl 16 rfl) ?_
                        refine lv_imul C.1 hb dL_isTold_367 ?_
                        refine lv_iload C.1 hb dL_isTold_368 (lv_at hl 17 rfl) ?_
                        refine lv_iadd C.1 hb dL_isTold_370 ?_
                        refine ldA_f (j := (4 * t + k)) C hb hP (ix4 t k) (by omega) dL_isTold_371 ?_
                        refine toI (lr_f hR ht hlt) ?_
                        refine lv_icmp_ne (tgt := 407) C.1 hb dL_isTold_372 (by decide) (fun c9 => absurd (rfl : xFac S t k = xFac S t k) c9) (fun _ => ?_)
                        refine lv_aload_n C.1 hb dL_isTold_375 rfl (lv_at hl 4 rfl) ?_
                        refine lv_iload C.1 hb dL_isTold_376 (lv_at hl 16 rfl) ?_
                        refine lv_iload C.1 hb dL_isTold_378 (lv_at hl 17 rfl) ?_
                        refine run_txn (cRunTX (As := [.int (nI t), .int (nI k)]) (rest := []) C hb (hml.trans hl.1.symm) hP hS rfl (k_X0_toldSum l hl0 g S n hI (nI t) (nI k)) wm_250 wm_251 wm_252 wm_253 wm_12 (n := 2) (by decide +kernel) rfl ⟨rfl, rfl, Nat.le_of_ble_eq_true rfl, Nat.le_of_ble_eq_true rfl⟩ (Nat.le_of_ble_eq_true rfl) rfl ⟨by show 36 + 13 * t + 3 * k + 1 + 1 ≤ 90; omega, by show 216 + 78 * t + 18 * k + 6 + 6 ≤ 540; omega⟩ dL_isTold_380) (ex_lev ht hlt) hS (fun H locs hP hS => ?_)
                        refine toL (show _ = sLos S n t k from (by rw [tN_nI (by omega)])) ?_
                        refine lv_lload C.1 hb dL_isTold_383 (lv_at hl 3 rfl) ?_
                        refine lc_ne (tgt := 407) C hb dL_isTold_385 dL_isTold_386 (by decide) (fun c9 => absurd (rfl : sLos S n t k = sLos S n t k) c9) (fun _ => ?_)
                        refine lv_aload_n C.1 hb dL_isTold_389 rfl (lv_at hl 4 rfl) ?_
                        refine lv_iload C.1 hb dL_isTold_390 (lv_at hl 16 rfl) ?_
                        refine lv_iload C.1 hb dL_isTold_392 (lv_at hl 17 rfl) ?_
                        refine run_txn (cRunTX (As := [.int (nI t), .int (nI k)]) (rest := []) C hb (hml.trans hl.1.symm) hP hS rfl (k_X0_fittedSum l hl0 g S n hI (nI t) (nI k)) wm_254 wm_255 wm_256 wm_257 wm_12 (n := 2) (by decide +kernel) rfl ⟨rfl, rfl, Nat.le_of_ble_eq_true rfl, Nat.le_of_ble_eq_true rfl⟩ (Nat.le_of_ble_eq_true rfl) rfl ⟨by show 36 + 13 * t + 3 * k + 1 + 1 + 1 ≤ 90; omega, by show 216 + 78 * t + 18 * k + 6 + 6 + 6 ≤ 540; omega⟩ dL_isTold_394) (ex_lev ht hlt) hS (fun H locs hP hS => ?_)
                        refine toL (show _ = sFit S n t k from (by rw [tN_nI (by omega)])) ?_
                        refine lv_lload C.1 hb dL_isTold_397 (lv_at hl 2 rfl) ?_
                        refine lc_ne (tgt := 407) C hb dL_isTold_399 dL_isTold_400 (by decide) (fun c9 => absurd (rfl : sFit S n t k = sFit S n t k) c9) (fun _ => ?_)
                        refine lv_iconst (v := 1) C.1 hb dL_isTold_403 (by decide) ?_
                        refine lv_goto (tgt := 408) C.1 hb dL_isTold_404 (by decide) ?_
                        refine lv_istore (lv' := [(12, .int 1), (14, .long (xWorst S n t (k + 1))), (21, .long (ab64 (sLos S n t k - sFit S n t k))), (19, .long (sFit S n t k)), (17, .long (sLos S n t k)), (0, .ref (gA g 0)), (1, .ref (gA g 17)), (2, .ref (gA g 18)), (3, .ref (gA g 19)), (4, .ref (gA g 20)), (5, .ref (gA g 21)), (6, .ref (gA g 22)), (7, .ref (gA g 23)), (8, .ref (gA g 24)), (9, .int (nI (xCnt (xLiv S) n))), (10, .long (xBase S)), (13, .int (nI t)), (16, .int (nI k))]) C.1 hb dL_isTold_408 hl (by decide) rfl (fun ls hl => ?_)
                        refine lv_iinc (v := nI (k + 1)) (lv' := [(16, .int (nI (k + 1))), (12, .int 1), (14, .long (xWorst S n t (k + 1))), (21, .long (ab64 (sLos S n t k - sFit S n t k))), (19, .long (sFit S n t k)), (17, .long (sLos S n t k)), (0, .ref (gA g 0)), (1, .ref (gA g 17)), (2, .ref (gA g 18)), (3, .ref (gA g 19)), (4, .ref (gA g 20)), (5, .ref (gA g 21)), (6, .ref (gA g 22)), (7, .ref (gA g 23)), (8, .ref (gA g 24)), (9, .int (nI (xCnt (xLiv S) n))), (10, .long (xBase S)), (13, .int (nI t))]) C.1 hb dL_isTold_410 hl (k := 17) rfl (nI_1 k) (by decide) rfl (fun ls hl => ?_)
                        refine lv_goto (tgt := 257) C.1 hb dL_isTold_413 (by decide) ?_
                        refine W.widen (k := 36 + 13 * t + 3 * (k + 1)) (n := 216 + 78 * t + 18 * (k + 1)) (by omega) (by omega) ?_
                        exact ih3 (k + 1) (by omega) (by omega)  _ _ hP hS ls (lv_sub hl [6, 7, 8, 9, 10, 11, 12, 13, 14, 15, 16, 1, 17, 2, 0] rfl)
                      · refine lv_lload C.1 hb dL_isTold_345 (lv_at hl 0 rfl) ?_
                        refine lv_goto (tgt := 352) C.1 hb dL_isTold_347 (by decide) ?_
                        refine toL (show _ = xWorst S n t (k + 1) from (wst_gt c132)) ?_
                        refine lv_lstore (lv' := [(14, .long (xWorst S n t (k + 1))), (21, .long (ab64 (sLos S n t k - sFit S n t k))), (19, .long (sFit S n t k)), (17, .long (sLos S n t k)), (0, .ref (gA g 0)), (1, .ref (gA g 17)), (2, .ref (gA g 18)), (3, .ref (gA g 19)), (4, .ref (gA g 20)), (5, .ref (gA g 21)), (6, .ref (gA g 22)), (7, .ref (gA g 23)), (8, .ref (gA g 24)), (9, .int (nI (xCnt (xLiv S) n))), (10, .long (xBase S)), (12, .int 1), (13, .int (nI t)), (16, .int (nI k))]) C.1 hb dL_isTold_352 hl (by decide) rfl (fun ls hl => ?_)
                        refine lv_aload_n C.1 hb dL_isTold_354 rfl (lv_at hl 4 rfl) ?_
                        refine lv_iload C.1 hb dL_isTold_355 (lv_at hl 16 rfl) ?_
                        refine lv_iload C.1 hb dL_isTold_357 (lv_at hl 17 rfl) ?_
                        refine run_txn (cRunTX (As := [.int (nI t), .int (nI k)]) (rest := []) C hb (hml.trans hl.1.symm) hP hS rfl (k_X0_factor l hl0 g S (nI t) (nI k)) wm_246 wm_247 wm_248 wm_249 wm_12 (n := 2) (by decide +kernel) rfl ⟨rfl, rfl, Nat.le_of_ble_eq_true rfl, Nat.le_of_ble_eq_true rfl⟩ (Nat.le_of_ble_eq_true rfl) rfl ⟨by show 36 + 13 * t + 3 * k + 1 ≤ 90; omega, by show 216 + 78 * t + 18 * k + 6 ≤ 540; omega⟩ dL_isTold_359) (ex_lev ht hlt) hS (fun H locs hP hS => ?_)
                        refine toI (show _ = xFac S t k from (by rw [tN_nI (by omega), tN_nI (by omega)])) ?_
                        refine lv_aload C.1 hb dL_isTold_362 (lv_at hl 11 rfl) ?_
                        refine lv_iconst (v := 4) C.1 hb dL_isTold_364 (by decide) ?_
                        refine lv_iload C.1 hb dL_isTold_365 (lv_at hl 16 rfl) ?_
                        refine lv_imul C.1 hb dL_isTold_367 ?_
                        refine lv_iload C.1 hb dL_isTold_368 (lv_at hl 17 rfl) ?_
                        refine lv_iadd C.1 hb dL_isTold_370 ?_
                        refine ldA_f (j := (4 * t + k)) C hb hP (ix4 t k) (by omega) dL_isTold_371 ?_
                        refine toI (lr_f hR ht hlt) ?_
                        refine lv_icmp_ne (tgt := 407) C.1 hb dL_isTold_372 (by decide) (fun c9 => absurd (rfl : xFac S t k = xFac S t k) c9) (fun _ => ?_)
                        refine lv_aload_n C.1 hb dL_isTold_375 rfl (lv_at hl 4 rfl) ?_
                        refine lv_iload C.1 hb dL_isTold_376 (lv_at hl 16 rfl) ?_
                        refine lv_iload C.1 hb dL_isTold_378 (lv_at hl 17 rfl) ?_
                        refine run_txn (cRunTX (As := [.int (nI t), .int (nI k)]) (rest := []) C hb (hml.trans hl.1.symm) hP hS rfl (k_X0_toldSum l hl0 g S n hI (nI t) (nI k)) wm_250 wm_251 wm_252 wm_253 wm_12 (n := 2) (by decide +kernel) rfl ⟨rfl, rfl, Nat.le_of_ble_eq_true rfl, Nat.le_of_ble_eq_true rfl⟩ (Nat.le_of_ble_eq_true rfl) rfl ⟨by show 36 + 13 * t + 3 * k + 1 + 1 ≤ 90; omega, by show 216 + 78 * t + 18 * k + 6 + 6 ≤ 540; omega⟩ dL_isTold_380) (ex_lev ht hlt) hS (fun H locs hP hS => ?_)
                        refine toL (show _ = sLos S n t k from (by rw [tN_nI (by omega)])) ?_
                        refine lv_lload C.1 hb dL_isTold_383 (lv_at hl 3 rfl) ?_
                        refine lc_ne (tgt := 407) C hb dL_isTold_385 dL_isTold_386 (by decide) (fun c9 => absurd (rfl : sLos S n t k = sLos S n t k) c9) (fun _ => ?_)
                        refine lv_aload_n C.1 hb dL_isTold_389 rfl (lv_at hl 4 rfl) ?_
                        refine lv_iload C.1 hb dL_isTold_390 (lv_at hl 16 rfl) ?_
                        refine lv_iload C.1 hb dL_isTold_392 (lv_at hl 17 rfl) ?_
                        refine run_txn (cRunTX (As := [.int (nI t), .int (nI k)]) (rest := []) C hb (hml.trans hl.1.symm) hP hS rfl (k_X0_fittedSum l hl0 g S n hI (nI t) (nI k)) wm_254 wm_255 wm_256 wm_257 wm_12 (n := 2) (by decide +kernel) rfl ⟨rfl, rfl, Nat.le_of_ble_eq_true rfl, Nat.le_of_ble_eq_true rfl⟩ (Nat.le_of_ble_eq_true rfl) rfl ⟨by show 36 + 13 * t + 3 * k + 1 + 1 + 1 ≤ 90; omega, by show 216 + 78 * t + 18 * k + 6 + 6 + 6 ≤ 540; omega⟩ dL_isTold_394) (ex_lev ht hlt) hS (fun H locs hP hS => ?_)
                        refine toL (show _ = sFit S n t k from (by rw [tN_nI (by omega)])) ?_
                        refine lv_lload C.1 hb dL_isTold_397 (lv_at hl 2 rfl) ?_
                        refine lc_ne (tgt := 407) C hb dL_isTold_399 dL_isTold_400 (by decide) (fun c9 => absurd (rfl : sFit S n t k = sFit S n t k) c9) (fun _ => ?_)
                        refine lv_iconst (v := 1) C.1 hb dL_isTold_403 (by decide) ?_
                        refine lv_goto (tgt := 408) C.1 hb dL_isTold_404 (by decide) ?_
                        refine lv_istore (lv' := [(12, .int 1), (14, .long (xWorst S n t (k + 1))), (21, .long (ab64 (sLos S n t k - sFit S n t k))), (19, .long (sFit S n t k)), (17, .long (sLos S n t k)), (0, .ref (gA g 0)), (1, .ref (gA g 17)), (2, .ref (gA g 18)), (3, .ref (gA g 19)), (4, .ref (gA g 20)), (5, .ref (gA g 21)), (6, .ref (gA g 22)), (7, .ref (gA g 23)), (8, .ref (gA g 24)), (9, .int (nI (xCnt (xLiv S) n))), (10, .long (xBase S)), (13, .int (nI t)), (16, .int (nI k))]) C.1 hb dL_isTold_408 hl (by decide) rfl (fun ls hl => ?_)
                        refine lv_iinc (v := nI (k + 1)) (lv' := [(16, .int (nI (k + 1))), (12, .int 1), (14, .long (xWorst S n t (k + 1))), (21, .long (ab64 (sLos S n t k - sFit S n t k))), (19, .long (sFit S n t k)), (17, .long (sLos S n t k)), (0, .ref (gA g 0)), (1, .ref (gA g 17)), (2, .ref (gA g 18)), (3, .ref (gA g 19)), (4, .ref (gA g 20)), (5, .ref (gA g 21)), (6, .ref (gA g 22)), (7, .ref (gA g 23)), (8, .ref (gA g 24)), (9, .int (nI (xCnt (xLiv S) n))), (10, .long (xBase S)), (13, .int (nI t))]) C.1 hb dL_isTold_410 hl (k := 17) rfl (nI_1 k) (by decide) rfl (fun ls hl => ?_)
                        refine lv_goto (tgt := 257) C.1 hb dL_isTold_413 (by decide) ?_
                        refine W.widen (k := 36 + 13 * t + 3 * (k + 1)) (n := 216 + 78 * t + 18 * (k + 1)) (by omega) (by omega) ?_
                        exact ih3 (k + 1) (by omega) (by omega)  _ _ hP hS ls (lv_sub hl [6, 7, 8, 9, 10, 11, 12, 13, 14, 15, 16, 1, 17, 2, 0] rfl)
              exact key3 ((levN t) - 0 + 1) 0 (by omega) (by omega)  _ _ hP hS ls (lv_sub hl [2, 3, 4, 5, 6, 7, 8, 9, 10, 11, 12, 13, 14, 1, 0] rfl)
        exact key2 (3 - 0 + 1) 0 (by omega) (by omega)  _ _ hP hS ls (lv_sub hl [1, 2, 3, 4, 5, 6, 7, 8, 9, 10, 11, 12, 0] rfl)
      · have hlt : k < n := nle_nI (a := n) (b := k) (by omega) (by omega) c127
        refine lv_iload C.1 hb dL_isTold_85 (lv_at hl 11 rfl) ?_
        refine lv_if_eq (tgt := 237) C.1 hb dL_isTold_87 (by decide) (fun c9 => absurd c9 (by decide)) (fun _ => ?_)
        refine lv_aload_n C.1 hb dL_isTold_90 rfl (lv_at hl 1 rfl) ?_
        refine lv_aload_n C.1 hb dL_isTold_91 rfl (lv_at hl 2 rfl) ?_
        refine lv_aload C.1 hb dL_isTold_92 (lv_at hl 7 rfl) ?_
        refine lv_iload C.1 hb dL_isTold_94 (lv_at hl 12 rfl) ?_
        refine lv_lload C.1 hb dL_isTold_96 (lv_at hl 10 rfl) ?_
        refine run_rd (cRunS (As := [.ref (gA g 17), .ref (gA g 18), .ref (gA g 23), .int (nI k), .long (xBase S)]) (rest := []) C hb (hml.trans hl.1.symm) hP hS (k_L_fitted l g S n S hR k hlt) wm_198 wm_199 wm_200 wm_2 (n := 5) (by decide +kernel) rfl ⟨rfl, rfl, Nat.le_of_ble_eq_true rfl, Nat.le_of_ble_eq_true rfl⟩ (Nat.le_of_ble_eq_true rfl) rfl ⟨by show 3 * k + 0 ≤ 90; omega, by show 18 * k + 0 ≤ 540; omega⟩ dL_isTold_98) ?_
        refine lv_lstore (lv' := [(14, .long (xFit S k)), (0, .ref (gA g 0)), (1, .ref (gA g 17)), (2, .ref (gA g 18)), (3, .ref (gA g 19)), (4, .ref (gA g 20)), (5, .ref (gA g 21)), (6, .ref (gA g 22)), (7, .ref (gA g 23)), (8, .ref (gA g 24)), (9, .int (nI (xCnt (xLiv S) k))), (10, .long (xBase S)), (12, .int 1), (13, .int (nI k))]) C.1 hb dL_isTold_101 hl (by decide) rfl (fun ls hl => ?_)
        refine lv_iload C.1 hb dL_isTold_103 (lv_at hl 10 rfl) ?_
        refine lv_iconst (v := 1) C.1 hb dL_isTold_105 (by decide) ?_
        refine lv_aload C.1 hb dL_isTold_106 (lv_at hl 7 rfl) ?_
        refine lv_iload C.1 hb dL_isTold_108 (lv_at hl 13 rfl) ?_
        refine ldA_g (j := k) C hb hP rfl (by omega) dL_isTold_110 ?_
        refine lv_isub C.1 hb dL_isTold_111 ?_
        refine lv_iadd C.1 hb dL_isTold_112 ?_
        refine toI (show _ = nI (xCnt (xLiv S) (k + 1)) from (lr_cnt hR hlt)) ?_
        refine lv_istore (lv' := [(9, .int (nI (xCnt (xLiv S) (k + 1)))), (14, .long (xFit S k)), (0, .ref (gA g 0)), (1, .ref (gA g 17)), (2, .ref (gA g 18)), (3, .ref (gA g 19)), (4, .ref (gA g 20)), (5, .ref (gA g 21)), (6, .ref (gA g 22)), (7, .ref (gA g 23)), (8, .ref (gA g 24)), (10, .long (xBase S)), (12, .int 1), (13, .int (nI k))]) C.1 hb dL_isTold_113 hl (by decide) rfl (fun ls hl => ?_)
        refine lv_aload_n C.1 hb dL_isTold_115 rfl (lv_at hl 2 rfl) ?_
        refine lv_iconst (v := 0) C.1 hb dL_isTold_116 (by decide) ?_
        refine lv_iload C.1 hb dL_isTold_117 (lv_at hl 13 rfl) ?_
        refine run_wc (cRunL (As := [.ref (gA g 0), .int 0, .int (nI k)]) (rest := []) C hb (hml.trans hl.1.symm) hP hS (k_L_rowTold0 l hl0 g S n hI k (by omega)) wm_130 wm_131 wm_132 wm_2 (n := 3) (by decide +kernel) rfl ⟨rfl, rfl, Nat.le_of_ble_eq_true rfl, Nat.le_of_ble_eq_true rfl⟩ (Nat.le_of_ble_eq_true rfl) rfl ⟨by show 3 * k + 1 ≤ 90; omega, by show 18 * k + 6 ≤ 540; omega⟩ dL_isTold_119) hS (fun H locs hP hS => ?_)
        refine lv_aload C.1 hb dL_isTold_122 (lv_at hl 8 rfl) ?_
        refine lv_iload C.1 hb dL_isTold_124 (lv_at hl 13 rfl) ?_
        refine ldA_g (j := k) C hb hP rfl (by omega) dL_isTold_126 ?_
        refine lv_iconst (v := 1) C.1 hb dL_isTold_127 (by decide) ?_
        refine lv_icmp_ne (tgt := 137) C.1 hb dL_isTold_128 (by decide) (fun c133 => ?_) (fun c133 => ?_)
        · have hv := lr_g0 hR hlt c133
          refine lv_lload C.1 hb dL_isTold_137 (lv_at hl 1 rfl) ?_
          refine lc_ne (tgt := 228) C hb dL_isTold_139 dL_isTold_140 (by decide) (fun c9 => absurd ((rtV_live hR.1 hlt hv _).trans (lr_fit hR hlt)) c9) (fun _ => ?_)
          refine lv_aload_n C.1 hb dL_isTold_143 rfl (lv_at hl 2 rfl) ?_
          refine lv_iconst (v := 1) C.1 hb dL_isTold_144 (by decide) ?_
          refine lv_iload C.1 hb dL_isTold_145 (lv_at hl 13 rfl) ?_
          refine run_wc (cRunL (As := [.ref (gA g 0), .int 1, .int (nI k)]) (rest := []) C hb (hml.trans hl.1.symm) hP hS (k_L_rowTold1 l hl0 g S n hI k (by omega)) wm_130 wm_131 wm_132 wm_2 (n := 3) (by decide +kernel) rfl ⟨rfl, rfl, Nat.le_of_ble_eq_true rfl, Nat.le_of_ble_eq_true rfl⟩ (Nat.le_of_ble_eq_true rfl) rfl ⟨by show 3 * k + 1 + 1 ≤ 90; omega, by show 18 * k + 6 + 6 ≤ 540; omega⟩ dL_isTold_147) hS (fun H locs hP hS => ?_)
          refine lv_aload C.1 hb dL_isTold_150 (lv_at hl 8 rfl) ?_
          refine lv_iload C.1 hb dL_isTold_152 (lv_at hl 13 rfl) ?_
          refine ldA_g (j := k) C hb hP rfl (by omega) dL_isTold_154 ?_
          refine lv_iconst (v := 1) C.1 hb dL_isTold_155 (by decide) ?_
          refine lv_icmp_ne (tgt := 165) C.1 hb dL_isTold_156 (by decide) (fun _ => ?_) (fun c9 => absurd c9 c133)
          refine lv_lload C.1 hb dL_isTold_165 (lv_at hl 1 rfl) ?_
          refine lv_aload C.1 hb dL_isTold_167 (lv_at hl 10 rfl) ?_
          refine lv_iconst (v := 3) C.1 hb dL_isTold_169 (by decide) ?_
          refine ldA_m (j := 3) C hb hP (by decide) (by decide) dL_isTold_170 ?_
          refine lv_i2l C.1 hb dL_isTold_171 rfl ?_
          refine lv_lmul C.1 hb dL_isTold_172 ?_
          refine lv_ldc2 (v := 10000) C.1 hb C.2.1 (C.2.2.1 _ wm_110) dL_isTold_173 ?_
          refine lv_ldiv C.1 hb dL_isTold_176 (by decide) ?_
          refine lc_ne (tgt := 228) C hb dL_isTold_177 dL_isTold_178 (by decide) (fun c9 => absurd ((rtV_live hR.1 hlt hv _).trans (lr_newp hR hlt).symm) c9) (fun _ => ?_)
          refine lv_aload_n C.1 hb dL_isTold_181 rfl (lv_at hl 2 rfl) ?_
          refine lv_iconst (v := 2) C.1 hb dL_isTold_182 (by decide) ?_
          refine lv_iload C.1 hb dL_isTold_183 (lv_at hl 13 rfl) ?_
          refine run_wc (cRunL (As := [.ref (gA g 0), .int 2, .int (nI k)]) (rest := []) C hb (hml.trans hl.1.symm) hP hS (k_L_rowTold2 l hl0 g S n hI k (by omega)) wm_130 wm_131 wm_132 wm_2 (n := 3) (by decide +kernel) rfl ⟨rfl, rfl, Nat.le_of_ble_eq_true rfl, Nat.le_of_ble_eq_true rfl⟩ (Nat.le_of_ble_eq_true rfl) rfl ⟨by show 3 * k + 1 + 1 + 1 ≤ 90; omega, by show 18 * k + 6 + 6 + 6 ≤ 540; omega⟩ dL_isTold_185) hS (fun H locs hP hS => ?_)
          refine lv_aload C.1 hb dL_isTold_188 (lv_at hl 8 rfl) ?_
          refine lv_iload C.1 hb dL_isTold_190 (lv_at hl 13 rfl) ?_
          refine ldA_g (j := k) C hb hP rfl (by omega) dL_isTold_192 ?_
          refine lv_iconst (v := 1) C.1 hb dL_isTold_193 (by decide) ?_
          refine lv_icmp_ne (tgt := 203) C.1 hb dL_isTold_194 (by decide) (fun _ => ?_) (fun c9 => absurd c9 c133)
          refine lv_aload_n C.1 hb dL_isTold_203 rfl (lv_at hl 3 rfl) ?_
          refine lv_aload_n C.1 hb dL_isTold_204 rfl (lv_at hl 4 rfl) ?_
          refine lv_aload C.1 hb dL_isTold_205 (lv_at hl 6 rfl) ?_
          refine lv_aload C.1 hb dL_isTold_207 (lv_at hl 7 rfl) ?_
          refine lv_aload C.1 hb dL_isTold_209 (lv_at hl 8 rfl) ?_
          refine lv_aload C.1 hb dL_isTold_211 (lv_at hl 9 rfl) ?_
          refine lv_aload C.1 hb dL_isTold_213 (lv_at hl 10 rfl) ?_
          refine lv_iload C.1 hb dL_isTold_215 (lv_at hl 13 rfl) ?_
          refine run_rd (cRunS (As := [.ref (gA g 17), .ref (gA g 18), .ref (gA g 20), .ref (gA g 21), .ref (gA g 22), .ref (gA g 23), .ref (gA g 24), .int (nI k)]) (rest := [.long (rtV S (xCapP S k) k)]) C hb (hml.trans hl.1.symm) hP hS (k_L_capped l g S n S hR k hlt) wm_227 wm_228 wm_229 wm_2 (n := 8) (by decide +kernel) rfl ⟨rfl, rfl, Nat.le_of_ble_eq_true rfl, Nat.le_of_ble_eq_true rfl⟩ (Nat.le_of_ble_eq_true rfl) rfl ⟨by show 3 * k + 1 + 1 + 1 + 0 ≤ 90; omega, by show 18 * k + 6 + 6 + 6 + 0 ≤ 540; omega⟩ dL_isTold_217) ?_
          refine lc_ne (tgt := 228) C hb dL_isTold_220 dL_isTold_221 (by decide) (fun c9 => absurd (rtV_live hR.1 hlt hv _) c9) (fun _ => ?_)
          refine lv_iconst (v := 1) C.1 hb dL_isTold_224 (by decide) ?_
          refine lv_goto (tgt := 229) C.1 hb dL_isTold_225 (by decide) ?_
          refine lv_istore (lv' := [(12, .int 1), (9, .int (nI (xCnt (xLiv S) (k + 1)))), (14, .long (xFit S k)), (0, .ref (gA g 0)), (1, .ref (gA g 17)), (2, .ref (gA g 18)), (3, .ref (gA g 19)), (4, .ref (gA g 20)), (5, .ref (gA g 21)), (6, .ref (gA g 22)), (7, .ref (gA g 23)), (8, .ref (gA g 24)), (10, .long (xBase S)), (13, .int (nI k))]) C.1 hb dL_isTold_229 hl (by decide) rfl (fun ls hl => ?_)
          refine lv_iinc (v := nI (k + 1)) (lv' := [(13, .int (nI (k + 1))), (12, .int 1), (9, .int (nI (xCnt (xLiv S) (k + 1)))), (14, .long (xFit S k)), (0, .ref (gA g 0)), (1, .ref (gA g 17)), (2, .ref (gA g 18)), (3, .ref (gA g 19)), (4, .ref (gA g 20)), (5, .ref (gA g 21)), (6, .ref (gA g 22)), (7, .ref (gA g 23)), (8, .ref (gA g 24)), (10, .long (xBase S))]) C.1 hb dL_isTold_231 hl (k := 13) rfl (nI_1 k) (by decide) rfl (fun ls hl => ?_)
          refine lv_goto (tgt := 76) C.1 hb dL_isTold_234 (by decide) ?_
          refine W.widen (k := 3 * (k + 1)) (n := 18 * (k + 1)) (by omega) (by omega) ?_
          exact ih (k + 1) (by omega) (by omega)  _ _ hP hS ls (lv_sub hl [4, 5, 6, 7, 8, 9, 10, 11, 12, 2, 13, 1, 0] rfl)
        · have hv := lr_g1 hR hlt c133
          refine lv_ldc2 (v := -5) C.1 hb C.2.1 (C.2.2.1 _ wm_107) dL_isTold_131 ?_
          refine lv_goto (tgt := 139) C.1 hb dL_isTold_134 (by decide) ?_
          refine lc_ne (tgt := 228) C hb dL_isTold_139 dL_isTold_140 (by decide) (fun c9 => absurd (rtV_gone hR.1 hlt hv _) c9) (fun _ => ?_)
          refine lv_aload_n C.1 hb dL_isTold_143 rfl (lv_at hl 2 rfl) ?_
          refine lv_iconst (v := 1) C.1 hb dL_isTold_144 (by decide) ?_
          refine lv_iload C.1 hb dL_isTold_145 (lv_at hl 13 rfl) ?_
          refine run_wc (cRunL (As := [.ref (gA g 0), .int 1, .int (nI k)]) (rest := []) C hb (hml.trans hl.1.symm) hP hS (k_L_rowTold1 l hl0 g S n hI k (by omega)) wm_130 wm_131 wm_132 wm_2 (n := 3) (by decide +kernel) rfl ⟨rfl, rfl, Nat.le_of_ble_eq_true rfl, Nat.le_of_ble_eq_true rfl⟩ (Nat.le_of_ble_eq_true rfl) rfl ⟨by show 3 * k + 1 + 1 ≤ 90; omega, by show 18 * k + 6 + 6 ≤ 540; omega⟩ dL_isTold_147) hS (fun H locs hP hS => ?_)
          refine lv_aload C.1 hb dL_isTold_150 (lv_at hl 8 rfl) ?_
          refine lv_iload C.1 hb dL_isTold_152 (lv_at hl 13 rfl) ?_
          refine ldA_g (j := k) C hb hP rfl (by omega) dL_isTold_154 ?_
          refine lv_iconst (v := 1) C.1 hb dL_isTold_155 (by decide) ?_
          refine lv_icmp_ne (tgt := 165) C.1 hb dL_isTold_156 (by decide) (fun c9 => absurd c133 c9) (fun _ => ?_)
          refine lv_ldc2 (v := -5) C.1 hb C.2.1 (C.2.2.1 _ wm_107) dL_isTold_159 ?_
          refine lv_goto (tgt := 177) C.1 hb dL_isTold_162 (by decide) ?_
          refine lc_ne (tgt := 228) C hb dL_isTold_177 dL_isTold_178 (by decide) (fun c9 => absurd (rtV_gone hR.1 hlt hv _) c9) (fun _ => ?_)
          refine lv_aload_n C.1 hb dL_isTold_181 rfl (lv_at hl 2 rfl) ?_
          refine lv_iconst (v := 2) C.1 hb dL_isTold_182 (by decide) ?_
          refine lv_iload C.1 hb dL_isTold_183 (lv_at hl 13 rfl) ?_
          refine run_wc (cRunL (As := [.ref (gA g 0), .int 2, .int (nI k)]) (rest := []) C hb (hml.trans hl.1.symm) hP hS (k_L_rowTold2 l hl0 g S n hI k (by omega)) wm_130 wm_131 wm_132 wm_2 (n := 3) (by decide +kernel) rfl ⟨rfl, rfl, Nat.le_of_ble_eq_true rfl, Nat.le_of_ble_eq_true rfl⟩ (Nat.le_of_ble_eq_true rfl) rfl ⟨by show 3 * k + 1 + 1 + 1 ≤ 90; omega, by show 18 * k + 6 + 6 + 6 ≤ 540; omega⟩ dL_isTold_185) hS (fun H locs hP hS => ?_)
          refine lv_aload C.1 hb dL_isTold_188 (lv_at hl 8 rfl) ?_
          refine lv_iload C.1 hb dL_isTold_190 (lv_at hl 13 rfl) ?_
          refine ldA_g (j := k) C hb hP rfl (by omega) dL_isTold_192 ?_
          refine lv_iconst (v := 1) C.1 hb dL_isTold_193 (by decide) ?_
          refine lv_icmp_ne (tgt := 203) C.1 hb dL_isTold_194 (by decide) (fun c9 => absurd c133 c9) (fun _ => ?_)
          refine lv_ldc2 (v := -5) C.1 hb C.2.1 (C.2.2.1 _ wm_107) dL_isTold_197 ?_
          refine lv_goto (tgt := 220) C.1 hb dL_isTold_200 (by decide) ?_
          refine lc_ne (tgt := 228) C hb dL_isTold_220 dL_isTold_221 (by decide) (fun c9 => absurd (rtV_gone hR.1 hlt hv _) c9) (fun _ => ?_)
          refine lv_iconst (v := 1) C.1 hb dL_isTold_224 (by decide) ?_
          refine lv_goto (tgt := 229) C.1 hb dL_isTold_225 (by decide) ?_
          refine lv_istore (lv' := [(12, .int 1), (9, .int (nI (xCnt (xLiv S) (k + 1)))), (14, .long (xFit S k)), (0, .ref (gA g 0)), (1, .ref (gA g 17)), (2, .ref (gA g 18)), (3, .ref (gA g 19)), (4, .ref (gA g 20)), (5, .ref (gA g 21)), (6, .ref (gA g 22)), (7, .ref (gA g 23)), (8, .ref (gA g 24)), (10, .long (xBase S)), (13, .int (nI k))]) C.1 hb dL_isTold_229 hl (by decide) rfl (fun ls hl => ?_)
          refine lv_iinc (v := nI (k + 1)) (lv' := [(13, .int (nI (k + 1))), (12, .int 1), (9, .int (nI (xCnt (xLiv S) (k + 1)))), (14, .long (xFit S k)), (0, .ref (gA g 0)), (1, .ref (gA g 17)), (2, .ref (gA g 18)), (3, .ref (gA g 19)), (4, .ref (gA g 20)), (5, .ref (gA g 21)), (6, .ref (gA g 22)), (7, .ref (gA g 23)), (8, .ref (gA g 24)), (10, .long (xBase S))]) C.1 hb dL_isTold_231 hl (k := 13) rfl (nI_1 k) (by decide) rfl (fun ls hl => ?_)
          refine lv_goto (tgt := 76) C.1 hb dL_isTold_234 (by decide) ?_
          refine W.widen (k := 3 * (k + 1)) (n := 18 * (k + 1)) (by omega) (by omega) ?_
          exact ih (k + 1) (by omega) (by omega)  _ _ hP hS ls (lv_sub hl [4, 5, 6, 7, 8, 9, 10, 11, 12, 2, 13, 1, 0] rfl)
  exact key (n - 0 + 1) 0 (by omega) (by omega)  _ _ hP hS ls (lv_sub hl [4, 5, 6, 7, 8, 9, 10, 11, 12, 3, 2, 1, 0] rfl)
