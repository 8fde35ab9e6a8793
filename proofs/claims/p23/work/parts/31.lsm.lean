set_option maxRecDepth 100000 in
set_option maxHeartbeats 4000000 in
theorem k_L_smooth (l : Launch) (hl0 : l.stackTraces = false) (g : gG) (X : XS) (L : LAr) (n : Nat) (T : WS) (hR : LR n T (X, L, [])) (t : Nat) (ht : t < 3) : Met l yL_smooth (wA yL_smooth cL_smooth 16 (some .int)) ({ frames := 2, cells := 3, slots := 12, locals := 80 }) (PW g (X, L, []) [.ref (gA g 17), .ref (gA g 18), .ref (gA g 19), .ref (gA g 20), .ref (gA g 22), .ref (gA g 23), .ref (gA g 24), .int (nI t)]) (WQ g (X, lPut L t (xFac (xSmF n t (levN t) (xSm0 T t (levN t))) t) (levN t), []) (some (.int (nI (xV_smooth T n t))))) 3 12 (Ab g) := by
  refine metI (by decide +kernel) (Nat.le_of_ble_eq_true rfl) ?_
  intro p e s m below meth c C hb hml hret hlk hP ls hl
  have C : CW g RL p s m ([.ref (gA g 17), .ref (gA g 18), .ref (gA g 19), .ref (gA g 20), .ref (gA g 22), .ref (gA g 23), .ref (gA g 24), .int (nI t)] : List Value).toArray := C
  have hS : va_S (Ab g) s.heap s.heap [] := va_S.rf
  have hl : lv_has ls 16 [(0, .ref (gA g 17)), (1, .ref (gA g 18)), (2, .ref (gA g 19)), (3, .ref (gA g 20)), (4, .ref (gA g 22)), (5, .ref (gA g 23)), (6, .ref (gA g 24)), (7, .int (nI t))] := hl
  have hn12 := lr_n hR
  have h4 := levN_4 t
  have h3 := levN_3 t
  have hAb := hP.sz
  refine lv_iconst (v := 4) C.1 hb dL_smooth_0 (by decide) ?_
  refine nwL (X := X) (L := L) C hb hAb hP hS (by show 0 + 1 ≤ 3; omega) (by show 0 + 4 ≤ 12; omega) dL_smooth_1 (fun q1 H hP hS => ?_)
  have hP : HW g (X, L, [eL g q1 (fun _ => 0)]) H := hP
  refine lv_astore (lv' := [(8, .ref q1), (0, .ref (gA g 17)), (1, .ref (gA g 18)), (2, .ref (gA g 19)), (3, .ref (gA g 20)), (4, .ref (gA g 22)), (5, .ref (gA g 23)), (6, .ref (gA g 24)), (7, .int (nI t))]) C.1 hb dL_smooth_3 hl (by decide) rfl (fun ls hl => ?_)
  refine lv_iconst (v := 4) C.1 hb dL_smooth_5 (by decide) ?_
  refine nwL (X := X) (L := L) C hb hAb hP hS (by show 0 + 1 + 1 ≤ 3; omega) (by show 0 + 4 + 4 ≤ 12; omega) dL_smooth_6 (fun q6 H hP hS => ?_)
  have hP : HW g (X, L, [eL g q1 (fun _ => 0), eL g q6 (fun _ => 0)]) H := hP
  refine lv_astore (lv' := [(9, .ref q6), (8, .ref q1), (0, .ref (gA g 17)), (1, .ref (gA g 18)), (2, .ref (gA g 19)), (3, .ref (gA g 20)), (4, .ref (gA g 22)), (5, .ref (gA g 23)), (6, .ref (gA g 24)), (7, .int (nI t))]) C.1 hb dL_smooth_8 hl (by decide) rfl (fun ls hl => ?_)
  refine lv_iconst (v := 4) C.1 hb dL_smooth_10 (by decide) ?_
  refine nwI (X := X) (L := L) C hb hAb hP hS (by show 0 + 1 + 1 + 1 ≤ 3; omega) (by show 0 + 4 + 4 + 4 ≤ 12; omega) dL_smooth_11 (fun q11 H hP hS => ?_)
  have hP : HW g (X, L, [eL g q1 (fun _ => 0), eL g q6 (fun _ => 0), eI g q11 (fun _ => 0)]) H := hP
  refine lv_astore (lv' := [(10, .ref q11), (9, .ref q6), (8, .ref q1), (0, .ref (gA g 17)), (1, .ref (gA g 18)), (2, .ref (gA g 19)), (3, .ref (gA g 20)), (4, .ref (gA g 22)), (5, .ref (gA g 23)), (6, .ref (gA g 24)), (7, .int (nI t))]) C.1 hb dL_smooth_13 hl (by decide) rfl (fun ls hl => ?_)
  refine lv_iload C.1 hb dL_smooth_15 (lv_at hl 10 rfl) ?_
  refine run_rd (cRunS (As := [.int (nI t)]) (rest := []) C hb (hml.trans hl.1.symm) hP hS (k_L_many l g (X, L, [eL g q1 (fun _ => 0), eL g q6 (fun _ => 0), eI g q11 (fun _ => 0)]) t ht) wm_175 wm_176 wm_177 wm_2 (n := 1) (by decide +kernel) rfl ⟨rfl, rfl, Nat.le_of_ble_eq_true rfl, Nat.le_of_ble_eq_true rfl⟩ (Nat.le_of_ble_eq_true rfl) rfl ⟨by show 0 + 1 + 1 + 1 + 0 ≤ 3; omega, by show 0 + 4 + 4 + 4 + 0 ≤ 12; omega⟩ dL_smooth_17) ?_
  refine lv_istore (lv' := [(11, .int (nI (levN t))), (10, .ref q11), (9, .ref q6), (8, .ref q1), (0, .ref (gA g 17)), (1, .ref (gA g 18)), (2, .ref (gA g 19)), (3, .ref (gA g 20)), (4, .ref (gA g 22)), (5, .ref (gA g 23)), (6, .ref (gA g 24)), (7, .int (nI t))]) C.1 hb dL_smooth_20 hl (by decide) rfl (fun ls hl => ?_)
  refine lv_iconst (v := 0) C.1 hb dL_smooth_22 (by decide) ?_
  refine lv_istore (lv' := [(12, .int 0), (11, .int (nI (levN t))), (10, .ref q11), (9, .ref q6), (8, .ref q1), (0, .ref (gA g 17)), (1, .ref (gA g 18)), (2, .ref (gA g 19)), (3, .ref (gA g 20)), (4, .ref (gA g 22)), (5, .ref (gA g 23)), (6, .ref (gA g 24)), (7, .int (nI t))]) C.1 hb dL_smooth_23 hl (by decide) rfl (fun ls hl => ?_)
  have key : ∀ f i : Nat, levN t - i < f → i ≤ levN t → ∀ (H : Heap) (locs : List Loc), HW g (X, L, [eL g q1 (fil (fun v => (xFac T t v).toInt64) (fun _ => 0) i), eL g q6 (fil (sExp T n t) (fun _ => 0) i), eI g q11 (fil (fun _ => 1) (fun _ => 0) i)]) H → va_S (Ab g) s.heap H locs → ∀ ls : Array Slot, lv_has ls 16 [(0, .ref (gA g 17)), (1, .ref (gA g 18)), (2, .ref (gA g 19)), (3, .ref (gA g 20)), (4, .ref (gA g 22)), (5, .ref (gA g 23)), (6, .ref (gA g 24)), (7, .int (nI t)), (8, .ref q1), (9, .ref q6), (10, .ref q11), (11, .int (nI (levN t))), (12, .int (nI i))] → W p l e ({ frames := 2, cells := 3, slots := 12, locals := 80 }) s m ([.ref (gA g 17), .ref (gA g 18), .ref (gA g 19), .ref (gA g 20), .ref (gA g 22), .ref (gA g 23), .ref (gA g 24), .int (nI t)] : List Value).toArray below meth c H locs (0 + 1 + 1 + 1) (0 + 4 + 4 + 4) (MQ below (WQ g (X, lPut L t (xFac (xSmF n t (levN t) (xSm0 T t (levN t))) t) (levN t), []) (some (.int (nI (xV_smooth T n t))))) ([.ref (gA g 17), .ref (gA g 18), .ref (gA g 19), .ref (gA g 20), .ref (gA g 22), .ref (gA g 23), .ref (gA g 24), .int (nI t)] : List Value).toArray s 3 12 (Ab g)) (F0 m 25 ls []) := by
    intro f
    induction f with
    | zero => intro i h; exact absurd h (Nat.not_lt_zero _)
    | succ f ih =>
      intro i hfi hi  H locs hP hS ls hl
      refine lv_iload C.1 hb dL_smooth_25 (lv_at hl 12 rfl) ?_
      refine lv_iload C.1 hb dL_smooth_27 (lv_at hl 11 rfl) ?_
      refine lv_icmp_ge (tgt := 83) C.1 hb dL_smooth_29 (by decide) (fun c134 => ?_) (fun c134 => ?_)
      · have hin : i = levN t := by have := le_nI (a := levN t) (b := i) (by omega) (by omega) c134; omega
        rw [hin] at hl hP
        refine lv_iconst (v := 1) C.1 hb dL_smooth_83 (by decide) ?_
        refine lv_istore (lv' := [(12, .int 1), (0, .ref (gA g 17)), (1, .ref (gA g 18)), (2, .ref (gA g 19)), (3, .ref (gA g 20)), (4, .ref (gA g 22)), (5, .ref (gA g 23)), (6, .ref (gA g 24)), (7, .int (nI t)), (8, .ref q1), (9, .ref q6), (10, .ref q11), (11, .int (nI (levN t)))]) C.1 hb dL_smooth_84 hl (by decide) rfl (fun ls hl => ?_)
        have key2 : ∀ (f B k : Nat), 6 * B - k < f → 1 ≤ k → k ≤ B → ∀ (U : WS) (z : Nat → Nat) (M V : Nat → Int64) (Z : Nat → Int32), BI n t T U z B M V Z → xJI U t → (∀ j, 1 ≤ j → j < k → M (j - 1) ≤ M j) → xSmF n t B U = xSmF n t (levN t) (xSm0 T t (levN t)) → ∀ (H : Heap) (locs : List Loc), HW g (X, L, [eL g q1 (M), eL g q6 (V), eI g q11 (Z)]) H → va_S (Ab g) s.heap H locs → ∀ ls : Array Slot, lv_has ls 16 [(0, .ref (gA g 17)), (1, .ref (gA g 18)), (2, .ref (gA g 19)), (3, .ref (gA g 20)), (4, .ref (gA g 22)), (5, .ref (gA g 23)), (6, .ref (gA g 24)), (7, .int (nI t)), (8, .ref q1), (9, .ref q6), (10, .ref q11), (11, .int (nI B)), (12, .int (nI k))] → W p l e ({ frames := 2, cells := 3, slots := 12, locals := 80 }) s m ([.ref (gA g 17), .ref (gA g 18), .ref (gA g 19), .ref (gA g 20), .ref (gA g 22), .ref (gA g 23), .ref (gA g 24), .int (nI t)] : List Value).toArray below meth c H locs (0 + 1 + 1 + 1) (0 + 4 + 4 + 4) (MQ below (WQ g (X, lPut L t (xFac (xSmF n t (levN t) (xSm0 T t (levN t))) t) (levN t), []) (some (.int (nI (xV_smooth T n t))))) ([.ref (gA g 17), .ref (gA g 18), .ref (gA g 19), .ref (gA g 20), .ref (gA g 22), .ref (gA g 23), .ref (gA g 24), .int (nI t)] : List Value).toArray s 3 12 (Ab g)) (F0 m 86 ls []) := by
          intro f
          induction f with
          | zero => intro B k h; exact absurd h (Nat.not_lt_zero _)
          | succ f ih2 =>
            intro B k hf hk1 hkB U z M V Z hBI hJ hs he H locs hP hS ls hl
            have hB4 := bi_B hBI
            refine lv_iload C.1 hb dL_smooth_86 (lv_at hl 12 rfl) ?_
            refine lv_iload C.1 hb dL_smooth_88 (lv_at hl 11 rfl) ?_
            refine lv_icmp_ge (tgt := 307) C.1 hb dL_smooth_90 (by decide) (fun c135 => ?_) (fun c135 => ?_)
            · have hkk : k = B := by have := le_nI (a := B) (b := k) (by omega) (by omega) c135; omega
              subst hkk
              have hU : U = xSmF n t (levN t) (xSm0 T t (levN t)) := (smF_none (bi_none hBI hs) k).symm.trans he
              refine lv_iconst (v := 0) C.1 hb dL_smooth_307 (by decide) ?_
              refine lv_istore (lv' := [(12, .int 0), (0, .ref (gA g 17)), (1, .ref (gA g 18)), (2, .ref (gA g 19)), (3, .ref (gA g 20)), (4, .ref (gA g 22)), (5, .ref (gA g 23)), (6, .ref (gA g 24)), (7, .int (nI t)), (8, .ref q1), (9, .ref q6), (10, .ref q11), (11, .int (nI k))]) C.1 hb dL_smooth_308 hl (by decide) rfl (fun ls hl => ?_)
              refine lv_iconst (v := 0) C.1 hb dL_smooth_310 (by decide) ?_
              refine lv_istore (lv' := [(13, .int 0), (12, .int 0), (0, .ref (gA g 17)), (1, .ref (gA g 18)), (2, .ref (gA g 19)), (3, .ref (gA g 20)), (4, .ref (gA g 22)), (5, .ref (gA g 23)), (6, .ref (gA g 24)), (7, .int (nI t)), (8, .ref q1), (9, .ref q6), (10, .ref q11), (11, .int (nI k))]) C.1 hb dL_smooth_311 hl (by decide) rfl (fun ls hl => ?_)
              refine lv_iconst (v := 0) C.1 hb dL_smooth_313 (by decide) ?_
              refine lv_istore (lv' := [(14, .int 0), (13, .int 0), (12, .int 0), (0, .ref (gA g 17)), (1, .ref (gA g 18)), (2, .ref (gA g 19)), (3, .ref (gA g 20)), (4, .ref (gA g 22)), (5, .ref (gA g 23)), (6, .ref (gA g 24)), (7, .int (nI t)), (8, .ref q1), (9, .ref q6), (10, .ref q11), (11, .int (nI k))]) C.1 hb dL_smooth_314 hl (by decide) rfl (fun ls hl => ?_)
              have key3 : ∀ f bb : Nat, k - bb < f → bb ≤ k → ∀ (H : Heap) (locs : List Loc), HW g (X, lPut L t (xFac U t) (stt z bb), [eL g q1 (M), eL g q6 (V), eI g q11 (Z)]) H → va_S (Ab g) s.heap H locs → ∀ ls : Array Slot, lv_has ls 16 [(0, .ref (gA g 17)), (1, .ref (gA g 18)), (2, .ref (gA g 19)), (3, .ref (gA g 20)), (4, .ref (gA g 22)), (5, .ref (gA g 23)), (6, .ref (gA g 24)), (7, .int (nI t)), (8, .ref q1), (9, .ref q6), (10, .ref q11), (11, .int (nI k)), (12, .int (nI (xCnt (xChP (xSmS T n t) t) (stt z bb)))), (13, .int (nI (stt z bb))), (14, .int (nI bb))] → W p l e ({ frames := 2, cells := 3, slots := 12, locals := 80 }) s m ([.ref (gA g 17), .ref (gA g 18), .ref (gA g 19), .ref (gA g 20), .ref (gA g 22), .ref (gA g 23), .ref (gA g 24), .int (nI t)] : List Value).toArray below meth c H locs (0 + 1 + 1 + 1) (0 + 4 + 4 + 4) (MQ below (WQ g (X, lPut L t (xFac (xSmF n t (levN t) (xSm0 T t (levN t))) t) (levN t), []) (some (.int (nI (xV_smooth T n t))))) ([.ref (gA g 17), .ref (gA g 18), .ref (gA g 19), .ref (gA g 20), .ref (gA g 22), .ref (gA g 23), .ref (gA g 24), .int (nI t)] : List Value).toArray s 3 12 (Ab g)) (F0 m 316 ls []) := by
                intro f
                induction f with
                | zero => intro bb h; exact absurd h (Nat.not_lt_zero _)
                | succ f ih3 =>
                  intro bb hfbb hbb  H locs hP hS ls hl
                  refine lv_iload C.1 hb dL_smooth_316 (lv_at hl 14 rfl) ?_
                  refine lv_iload C.1 hb dL_smooth_318 (lv_at hl 11 rfl) ?_
                  refine lv_icmp_ge (tgt := 397) C.1 hb dL_smooth_320 (by decide) (fun c136 => ?_) (fun c136 => ?_)
                  · have hin : bb = k := by have := le_nI (a := k) (b := bb) (by omega) (by omega) c136; omega
                    rw [hin] at hl hP
                    refine lv_iload C.1 hb dL_smooth_397 (lv_at hl 12 rfl) ?_
                    have hP := hP.drop
                    exact weI (by omega) (by omega) C hb hret hlk hP hS dL_smooth_399 (by rw [hBI.2.1]; rfl) (by rw [hBI.2.1, hU])
                  · have hbk : bb < k := nle_nI (a := k) (b := bb) (by omega) (by omega) c136
                    have hle := bi_le hBI hbk
                    have hz4 := bi_zz hBI hbk
                    obtain ⟨-, eZ, -, -, hMb⟩ := hBI.2.2.1 bb hbk
                    refine lv_iconst (v := 0) C.1 hb dL_smooth_323 (by decide) ?_
                    refine lv_istore (lv' := [(15, .int 0), (0, .ref (gA g 17)), (1, .ref (gA g 18)), (2, .ref (gA g 19)), (3, .ref (gA g 20)), (4, .ref (gA g 22)), (5, .ref (gA g 23)), (6, .ref (gA g 24)), (7, .int (nI t)), (8, .ref q1), (9, .ref q6), (10, .ref q11), (11, .int (nI k)), (12, .int (nI (xCnt (xChP (xSmS T n t) t) (stt z bb)))), (13, .int (nI (stt z bb))), (14, .int (nI bb))]) C.1 hb dL_smooth_324 hl (by decide) rfl (fun ls hl => ?_)
                    have key4 : ∀ f j : Nat, (z bb) - j < f → j ≤ (z bb) → ∀ (H : Heap) (locs : List Loc), HW g (X, lPut L t (xFac U t) (stt z bb + j), [eL g q1 (M), eL g q6 (V), eI g q11 (Z)]) H → va_S (Ab g) s.heap H locs → ∀ ls : Array Slot, lv_has ls 16 [(0, .ref (gA g 17)), (1, .ref (gA g 18)), (2, .ref (gA g 19)), (3, .ref (gA g 20)), (4, .ref (gA g 22)), (5, .ref (gA g 23)), (6, .ref (gA g 24)), (7, .int (nI t)), (8, .ref q1), (9, .ref q6), (10, .ref q11), (11, .int (nI k)), (12, .int (nI (xCnt (xChP (xSmS T n t) t) (stt z bb + j)))), (13, .int (nI (stt z bb + j))), (14, .int (nI bb)), (15, .int (nI j))] → W p l e ({ frames := 2, cells := 3, slots := 12, locals := 80 }) s m ([.ref (gA g 17), .ref (gA g 18), .ref (gA g 19), .ref (gA g 20), .ref (gA g 22), .ref (gA g 23), .ref (gA g 24), .int (nI t)] : List Value).toArray below meth c H locs (0 + 1 + 1 + 1) (0 + 4 + 4 + 4) (MQ below (WQ g (X, lPut L t (xFac (xSmF n t (levN t) (xSm0 T t (levN t))) t) (levN t), []) (some (.int (nI (xV_smooth T n t))))) ([.ref (gA g 17), .ref (gA g 18), .ref (gA g 19), .ref (gA g 20), .ref (gA g 22), .ref (gA g 23), .ref (gA g 24), .int (nI t)] : List Value).toArray s 3 12 (Ab g)) (F0 m 326 ls []) := by
                      intro f
                      induction f with
                      | zero => intro j h; exact absurd h (Nat.not_lt_zero _)
                      | succ f ih4 =>
                        intro j hfj hj  H locs hP hS ls hl
                        refine lv_iload C.1 hb dL_smooth_326 (lv_at hl 15 rfl) ?_
                        refine lv_aload C.1 hb dL_smooth_328 (lv_at hl 10 rfl) ?_
                        refine lv_iload C.1 hb dL_smooth_330 (lv_at hl 14 rfl) ?_
                        refine ldE_s2 (j := bb) C hb hP rfl (by omega) dL_smooth_332 ?_
                        refine toI eZ ?_
                        refine lv_icmp_ge (tgt := 391) C.1 hb dL_smooth_333 (by decide) (fun c137 => ?_) (fun c137 => ?_)
                        · have hin : j = (z bb) := by have := le_nI (a := z bb) (b := j) (by omega) (by omega) c137; omega
                          rw [hin] at hl hP
                          refine lv_iinc (v := nI (bb + 1)) (lv' := [(14, .int (nI (bb + 1))), (0, .ref (gA g 17)), (1, .ref (gA g 18)), (2, .ref (gA g 19)), (3, .ref (gA g 20)), (4, .ref (gA g 22)), (5, .ref (gA g 23)), (6, .ref (gA g 24)), (7, .int (nI t)), (8, .ref q1), (9, .ref q6), (10, .ref q11), (11, .int (nI k)), (12, .int (nI (xCnt (xChP (xSmS T n t) t) (stt z bb + (z bb))))), (13, .int (nI (stt z bb + (z bb)))), (15, .int (nI (z bb)))]) C.1 hb dL_smooth_391 hl (k := 14) rfl (nI_1 bb) (by decide) rfl (fun ls hl => ?_)
                          refine lv_goto (tgt := 316) C.1 hb dL_smooth_394 (by decide) ?_
                          exact ih3 (bb + 1) (by omega) (by omega)  _ _ hP hS ls (lv_sub hl [1, 2, 3, 4, 5, 6, 7, 8, 9, 10, 11, 12, 13, 14, 0] rfl)
                        · have hjz : j < z bb := nle_nI (a := z bb) (b := j) (by omega) (by omega) c137
                          have hv : stt z bb + j < levN t := by omega
                          have hMj := (hMb j hjz).2
                          have hch := ch_eq hU (hBI.2.2.2.1 _ hv)
                          refine lv_iload C.1 hb dL_smooth_336 (lv_at hl 12 rfl) ?_
                          refine lv_aload C.1 hb dL_smooth_338 (lv_at hl 5 rfl) ?_
                          refine lv_iconst (v := 4) C.1 hb dL_smooth_340 (by decide) ?_
                          refine lv_iload C.1 hb dL_smooth_341 (lv_at hl 7 rfl) ?_
                          refine lv_imul C.1 hb dL_smooth_343 ?_
                          refine lv_iload C.1 hb dL_smooth_344 (lv_at hl 13 rfl) ?_
                          refine lv_iadd C.1 hb dL_smooth_346 ?_
                          refine ldA_f (j := (4 * t + (stt z bb + j))) C hb hP (ix4 t (stt z bb + j)) (by omega) dL_smooth_347 ?_
                          refine toI (((congrFun (lPut_6 L t (xFac U t) (stt z bb + j)) _).trans (mPut_at _ _ _ _)).trans (lr_f hR ht hv)) ?_
                          refine lv_i2l C.1 hb dL_smooth_348 rfl ?_
                          refine lv_aload C.1 hb dL_smooth_349 (lv_at hl 8 rfl) ?_
                          refine lv_iload C.1 hb dL_smooth_351 (lv_at hl 14 rfl) ?_
                          refine ldE_s0 (j := bb) C hb hP rfl (by omega) dL_smooth_353 ?_
                          refine lc_ne (tgt := 362) C hb dL_smooth_354 dL_smooth_355 (by decide) (fun c138 => ?_) (fun c138 => ?_)
                          · have hq : xChP (xSmS T n t) t (stt z bb + j) = true := by rw [hch, decide_eq_false (fun q => c138 (by rw [← hMj, q]))]; rfl
                            refine lv_iconst (v := 1) C.1 hb dL_smooth_362 (by decide) ?_
                            refine lv_iadd C.1 hb dL_smooth_363 ?_
                            refine toI (show _ = nI (xCnt (xChP (xSmS T n t) t) (stt z bb + j) + 1) from (nI_1 _)) ?_
                            refine lv_istore (lv' := [(12, .int (nI (xCnt (xChP (xSmS T n t) t) (stt z bb + j) + 1))), (0, .ref (gA g 17)), (1, .ref (gA g 18)), (2, .ref (gA g 19)), (3, .ref (gA g 20)), (4, .ref (gA g 22)), (5, .ref (gA g 23)), (6, .ref (gA g 24)), (7, .int (nI t)), (8, .ref q1), (9, .ref q6), (10, .ref q11), (11, .int (nI k)), (13, .int (nI (stt z bb + j))), (14, .int (nI bb)), (15, .int (nI j))]) C.1 hb dL_smooth_364 hl (by decide) rfl (fun ls hl => ?_)
                            refine lv_aload C.1 hb dL_smooth_366 (lv_at hl 6 rfl) ?_
                            refine lv_iconst (v := 4) C.1 hb dL_smooth_368 (by decide) ?_
                            refine lv_iload C.1 hb dL_smooth_369 (lv_at hl 8 rfl) ?_
                            refine lv_imul C.1 hb dL_smooth_371 ?_
                            refine lv_iload C.1 hb dL_smooth_372 (lv_at hl 13 rfl) ?_
                            refine lv_iadd C.1 hb dL_smooth_374 ?_
                            refine lv_aload C.1 hb dL_smooth_375 (lv_at hl 9 rfl) ?_
                            refine lv_iload C.1 hb dL_smooth_377 (lv_at hl 14 rfl) ?_
                            refine ldE_s0 (j := bb) C hb hP rfl (by omega) dL_smooth_379 ?_
                            refine lv_l2i C.1 hb dL_smooth_380 rfl ?_
                            refine toI (show _ = xFac U t (stt z bb + j) from (by rw [← hMj]; exact Int32.toInt32_toInt64 _)) ?_
                            refine stA_f (j := (4 * t + (stt z bb + j))) C hb hP hS (ix4 t (stt z bb + j)) (by omega) dL_smooth_381 (fun H locs hP hS => ?_)
                            have hP : HW g (X, lPut L t (xFac U t) (stt z bb + (j + 1)), [eL g q1 (M), eL g q6 (V), eI g q11 (Z)]) H := hP.cg (by show (X, va_up (lPut L t (xFac U t) (stt z bb + j)) 6 (upd (lPut L t (xFac U t) (stt z bb + j) 6) (4 * t + (stt z bb + j)) (xFac U t (stt z bb + j))), _) = _; rw [lPut_s]; rfl)
                            refine lv_iinc (v := nI ((stt z bb + j) + 1)) (lv' := [(13, .int (nI ((stt z bb + j) + 1))), (12, .int (nI (xCnt (xChP (xSmS T n t) t) (stt z bb + j) + 1))), (0, .ref (gA g 17)), (1, .ref (gA g 18)), (2, .ref (gA g 19)), (3, .ref (gA g 20)), (4, .ref (gA g 22)), (5, .ref (gA g 23)), (6, .ref (gA g 24)), (7, .int (nI t)), (8, .ref q1), (9, .ref q6), (10, .ref q11), (11, .int (nI k)), (14, .int (nI bb)), (15, .int (nI j))]) C.1 hb dL_smooth_382 hl (k := 13) rfl (nI_1 (stt z bb + j)) (by decide) rfl (fun ls hl => ?_)
                            refine lv_iinc (v := nI (j + 1)) (lv' := [(15, .int (nI (j + 1))), (13, .int (nI ((stt z bb + j) + 1))), (12, .int (nI (xCnt (xChP (xSmS T n t) t) (stt z bb + j) + 1))), (0, .ref (gA g 17)), (1, .ref (gA g 18)), (2, .ref (gA g 19)), (3, .ref (gA g 20)), (4, .ref (gA g 22)), (5, .ref (gA g 23)), (6, .ref (gA g 24)), (7, .int (nI t)), (8, .ref q1), (9, .ref q6), (10, .ref q11), (11, .int (nI k)), (14, .int (nI bb))]) C.1 hb dL_smooth_385 hl (k := 15) rfl (nI_1 j) (by decide) rfl (fun ls hl => ?_)
                            refine lv_goto (tgt := 326) C.1 hb dL_smooth_388 (by decide) ?_
                            exact ih4 (j + 1) (by omega) (by omega)  _ _ hP hS ls (by rw [show xCnt (xChP (xSmS T n t) t) (stt z bb + (j + 1)) = xCnt (xChP (xSmS T n t) t) (stt z bb + j) + 1 from xCnt_t hq]; exact lv_sub hl [3, 4, 5, 6, 7, 8, 9, 10, 11, 12, 13, 14, 2, 1, 15, 0] rfl)
                          · have hq : xChP (xSmS T n t) t (stt z bb + j) = false := by rw [hch, decide_eq_true (i64_inj (hMj.trans c138.symm))]; rfl
                            refine lv_iconst (v := 0) C.1 hb dL_smooth_358 (by decide) ?_
                            refine lv_goto (tgt := 363) C.1 hb dL_smooth_359 (by decide) ?_
                            refine lv_iadd C.1 hb dL_smooth_363 ?_
                            refine toI (show _ = nI (xCnt (xChP (xSmS T n t) t) (stt z bb + j)) from (Int32.add_zero _)) ?_
                            refine lv_istore (lv' := [(12, .int (nI (xCnt (xChP (xSmS T n t) t) (stt z bb + j)))), (0, .ref (gA g 17)), (1, .ref (gA g 18)), (2, .ref (gA g 19)), (3, .ref (gA g 20)), (4, .ref (gA g 22)), (5, .ref (gA g 23)), (6, .ref (gA g 24)), (7, .int (nI t)), (8, .ref q1), (9, .ref q6), (10, .ref q11), (11, .int (nI k)), (13, .int (nI (stt z bb + j))), (14, .int (nI bb)), (15, .int (nI j))]) C.1 hb dL_smooth_364 hl (by decide) rfl (fun ls hl => ?_)
                            refine lv_aload C.1 hb dL_smooth_366 (lv_at hl 6 rfl) ?_
                            refine lv_iconst (v := 4) C.1 hb dL_smooth_368 (by decide) ?_
                            refine lv_iload C.1 hb dL_smooth_369 (lv_at hl 8 rfl) ?_
                            refine lv_imul C.1 hb dL_smooth_371 ?_
                            refine lv_iload C.1 hb dL_smooth_372 (lv_at hl 13 rfl) ?_
                            refine lv_iadd C.1 hb dL_smooth_374 ?_
                            refine lv_aload C.1 hb dL_smooth_375 (lv_at hl 9 rfl) ?_
                            refine lv_iload C.1 hb dL_smooth_377 (lv_at hl 14 rfl) ?_
                            refine ldE_s0 (j := bb) C hb hP rfl (by omega) dL_smooth_379 ?_
                            refine lv_l2i C.1 hb dL_smooth_380 rfl ?_
                            refine toI (show _ = xFac U t (stt z bb + j) from (by rw [← hMj]; exact Int32.toInt32_toInt64 _)) ?_
                            refine stA_f (j := (4 * t + (stt z bb + j))) C hb hP hS (ix4 t (stt z bb + j)) (by omega) dL_smooth_381 (fun H locs hP hS => ?_)
                            have hP : HW g (X, lPut L t (xFac U t) (stt z bb + (j + 1)), [eL g q1 (M), eL g q6 (V), eI g q11 (Z)]) H := hP.cg (by show (X, va_up (lPut L t (xFac U t) (stt z bb + j)) 6 (upd (lPut L t (xFac U t) (stt z bb + j) 6) (4 * t + (stt z bb + j)) (xFac U t (stt z bb + j))), _) = _; rw [lPut_s]; rfl)
                            refine lv_iinc (v := nI ((stt z bb + j) + 1)) (lv' := [(13, .int (nI ((stt z bb + j) + 1))), (12, .int (nI (xCnt (xChP (xSmS T n t) t) (stt z bb + j)))), (0, .ref (gA g 17)), (1, .ref (gA g 18)), (2, .ref (gA g 19)), (3, .ref (gA g 20)), (4, .ref (gA g 22)), (5, .ref (gA g 23)), (6, .ref (gA g 24)), (7, .int (nI t)), (8, .ref q1), (9, .ref q6), (10, .ref q11), (11, .int (nI k)), (14, .int (nI bb)), (15, .int (nI j))]) C.1 hb dL_smooth_382 hl (k := 13) rfl (nI_1 (stt z bb + j)) (by decide) rfl (fun ls hl => ?_)
                            refine lv_iinc (v := nI (j + 1)) (lv' := [(15, .int (nI (j + 1))), (13, .int (nI ((stt z bb + j) + 1))), (12, .int (nI (xCnt (xChP (xSmS T n t) t) (stt z bb + j)))), (0, .ref (gA g 17)), (1, .ref (gA g 18)), (2, .ref (gA g 19)), (3, .ref (gA g 20)), (4, .ref (gA g 22)), (5, .ref (gA g 23)), (6, .ref (gA g 24)), (7, .int (nI t)), (8, .ref q1), (9, .ref q6), (10, .ref q11), (11, .int (nI k)), (14, .int (nI bb))]) C.1 hb dL_smooth_385 hl (k := 15) rfl (nI_1 j) (by decide) rfl (fun ls hl => ?_)
                            refine lv_goto (tgt := 326) C.1 hb dL_smooth_388 (by decide) ?_
                            exact ih4 (j + 1) (by omega) (by omega)  _ _ hP hS ls (by rw [show xCnt (xChP (xSmS T n t) t) (stt z bb + (j + 1)) = xCnt (xChP (xSmS T n t) t) (stt z bb + j) from xCnt_f hq]; exact lv_sub hl [3, 4, 5, 6, 7, 8, 9, 10, 11, 12, 13, 14, 2, 1, 15, 0] rfl)
                    exact key4 ((z bb) - 0 + 1) 0 (by omega) (by omega)  _ _ hP hS ls (lv_sub hl [1, 2, 3, 4, 5, 6, 7, 8, 9, 10, 11, 12, 13, 14, 15, 0] rfl)
              exact key3 (k - 0 + 1) 0 (by omega) (by omega)  _ _ (hP.cg (by rw [show stt z 0 = 0 from rfl, lPut_0])) hS ls (lv_sub hl [3, 4, 5, 6, 7, 8, 9, 10, 11, 12, 13, 14, 2, 1, 0] rfl)
            · have hlt : k < B := nle_nI (a := B) (b := k) (by omega) (by omega) c135
              refine lv_aload C.1 hb dL_smooth_93 (lv_at hl 8 rfl) ?_
              refine lv_iload C.1 hb dL_smooth_95 (lv_at hl 12 rfl) ?_
              refine ldE_s0 (j := k) C hb hP rfl (by omega) dL_smooth_97 ?_
              refine lv_aload C.1 hb dL_smooth_98 (lv_at hl 8 rfl) ?_
              refine lv_iload C.1 hb dL_smooth_100 (lv_at hl 12 rfl) ?_
              refine lv_iconst (v := 1) C.1 hb dL_smooth_102 (by decide) ?_
              refine lv_isub C.1 hb dL_smooth_103 ?_
              refine ldE_s0 (j := (k - 1)) C hb hP (nI_sub1 hk1) (by omega) dL_smooth_104 ?_
              refine lc_lt (tgt := 115) C hb dL_smooth_105 dL_smooth_106 (by decide) (fun c139 => ?_) (fun c139 => ?_)
              · have hfl : ¬ M (k - 1) ≤ M k := Int64.not_le.mpr c139
                obtain ⟨hne, hB2, hJ2⟩ := bi_step hBI hR.1 hJ hk1 hlt hs hfl
                refine lv_aload C.1 hb dL_smooth_115 (lv_at hl 9 rfl) ?_
                refine lv_iload C.1 hb dL_smooth_117 (lv_at hl 12 rfl) ?_
                refine lv_iconst (v := 1) C.1 hb dL_smooth_119 (by decide) ?_
                refine lv_isub C.1 hb dL_smooth_120 ?_
                refine ldE_s1 (j := (k - 1)) C hb hP (nI_sub1 hk1) (by omega) dL_smooth_121 ?_
                refine lv_aload C.1 hb dL_smooth_122 (lv_at hl 9 rfl) ?_
                refine lv_iload C.1 hb dL_smooth_124 (lv_at hl 12 rfl) ?_
                refine ldE_s1 (j := k) C hb hP rfl (by omega) dL_smooth_126 ?_
                refine lv_ladd C.1 hb dL_smooth_127 ?_
                refine lv_lstore (lv' := [(13, .long ((V (k - 1)) + (V k))), (0, .ref (gA g 17)), (1, .ref (gA g 18)), (2, .ref (gA g 19)), (3, .ref (gA g 20)), (4, .ref (gA g 22)), (5, .ref (gA g 23)), (6, .ref (gA g 24)), (7, .int (nI t)), (8, .ref q1), (9, .ref q6), (10, .ref q11), (11, .int (nI B)), (12, .int (nI k))]) C.1 hb dL_smooth_128 hl (by decide) rfl (fun ls hl => ?_)
                refine lv_aload C.1 hb dL_smooth_130 (lv_at hl 9 rfl) ?_
                refine lv_iload C.1 hb dL_smooth_132 (lv_at hl 13 rfl) ?_
                refine lv_iconst (v := 1) C.1 hb dL_smooth_134 (by decide) ?_
                refine lv_isub C.1 hb dL_smooth_135 ?_
                refine lv_lload C.1 hb dL_smooth_136 (lv_at hl 0 rfl) ?_
                refine lv_lconst (v := 0) C.1 hb dL_smooth_138 (by decide) ?_
                refine lc_ne (tgt := 190) C hb dL_smooth_139 dL_smooth_140 (by decide) (fun c140 => ?_) (fun c140 => ?_)
                · refine lv_aload C.1 hb dL_smooth_190 (lv_at hl 9 rfl) ?_
                  refine lv_iload C.1 hb dL_smooth_192 (lv_at hl 13 rfl) ?_
                  refine lv_iconst (v := 1) C.1 hb dL_smooth_194 (by decide) ?_
                  refine lv_isub C.1 hb dL_smooth_195 ?_
                  refine ldE_s0 (j := (k - 1)) C hb hP (nI_sub1 hk1) (by omega) dL_smooth_196 ?_
                  refine lv_aload C.1 hb dL_smooth_197 (lv_at hl 10 rfl) ?_
                  refine lv_iload C.1 hb dL_smooth_199 (lv_at hl 13 rfl) ?_
                  refine lv_iconst (v := 1) C.1 hb dL_smooth_201 (by decide) ?_
                  refine lv_isub C.1 hb dL_smooth_202 ?_
                  refine ldE_s1 (j := (k - 1)) C hb hP (nI_sub1 hk1) (by omega) dL_smooth_203 ?_
                  refine lv_lmul C.1 hb dL_smooth_204 ?_
                  refine lv_aload C.1 hb dL_smooth_205 (lv_at hl 9 rfl) ?_
                  refine lv_iload C.1 hb dL_smooth_207 (lv_at hl 13 rfl) ?_
                  refine ldE_s0 (j := k) C hb hP rfl (by omega) dL_smooth_209 ?_
                  refine lv_aload C.1 hb dL_smooth_210 (lv_at hl 10 rfl) ?_
                  refine lv_iload C.1 hb dL_smooth_212 (lv_at hl 13 rfl) ?_
                  refine ldE_s1 (j := k) C hb hP rfl (by omega) dL_smooth_214 ?_
                  refine lv_lmul C.1 hb dL_smooth_215 ?_
                  refine lv_ladd C.1 hb dL_smooth_216 ?_
                  refine lv_lload C.1 hb dL_smooth_217 (lv_at hl 0 rfl) ?_
                  refine lv_ldiv C.1 hb dL_smooth_219 c140 ?_
                  refine toL (show _ = lMean M V Z k from (by unfold lMean; rw [if_neg c140])) ?_
                  refine stE_s0 (j := (k - 1)) C hb hP hS (nI_sub1 hk1) (by omega) dL_smooth_220 (fun H locs hP hS => ?_)
                  refine lv_aload C.1 hb dL_smooth_221 (lv_at hl 10 rfl) ?_
                  refine lv_iload C.1 hb dL_smooth_223 (lv_at hl 13 rfl) ?_
                  refine lv_iconst (v := 1) C.1 hb dL_smooth_225 (by decide) ?_
                  refine lv_isub C.1 hb dL_smooth_226 ?_
                  refine lv_lload C.1 hb dL_smooth_227 (lv_at hl 0 rfl) ?_
                  refine stE_s1 (j := (k - 1)) C hb hP hS (nI_sub1 hk1) (by omega) dL_smooth_229 (fun H locs hP hS => ?_)
                  refine lv_aload C.1 hb dL_smooth_230 (lv_at hl 11 rfl) ?_
                  refine lv_iload C.1 hb dL_smooth_232 (lv_at hl 13 rfl) ?_
                  refine lv_iconst (v := 1) C.1 hb dL_smooth_234 (by decide) ?_
                  refine lv_isub C.1 hb dL_smooth_235 ?_
                  refine lv_dup2_11 C.1 hb dL_smooth_236 rfl rfl ?_
                  refine ldE_s2 (j := (k - 1)) C hb hP (nI_sub1 hk1) (by omega) dL_smooth_237 ?_
                  refine lv_aload C.1 hb dL_smooth_238 (lv_at hl 11 rfl) ?_
                  refine lv_iload C.1 hb dL_smooth_240 (lv_at hl 13 rfl) ?_
                  refine ldE_s2 (j := k) C hb hP rfl (by omega) dL_smooth_242 ?_
                  refine lv_iadd C.1 hb dL_smooth_243 ?_
                  refine stE_s2 (j := (k - 1)) C hb hP hS (nI_sub1 hk1) (by omega) dL_smooth_244 (fun H locs hP hS => ?_)
                  refine lv_iinc (v := nI (B - 1)) (lv' := [(11, .int (nI (B - 1))), (13, .long ((V (k - 1)) + (V k))), (0, .ref (gA g 17)), (1, .ref (gA g 18)), (2, .ref (gA g 19)), (3, .ref (gA g 20)), (4, .ref (gA g 22)), (5, .ref (gA g 23)), (6, .ref (gA g 24)), (7, .int (nI t)), (8, .ref q1), (9, .ref q6), (10, .ref q11), (12, .int (nI k))]) C.1 hb dL_smooth_245 hl (k := 12) rfl (nI_m1 (by omega)) (by decide) rfl (fun ls hl => ?_)
                  refine lv_iload C.1 hb dL_smooth_248 (lv_at hl 13 rfl) ?_
                  refine lv_istore (lv' := [(15, .int (nI k)), (11, .int (nI (B - 1))), (13, .long ((V (k - 1)) + (V k))), (0, .ref (gA g 17)), (1, .ref (gA g 18)), (2, .ref (gA g 19)), (3, .ref (gA g 20)), (4, .ref (gA g 22)), (5, .ref (gA g 23)), (6, .ref (gA g 24)), (7, .int (nI t)), (8, .ref q1), (9, .ref q6), (10, .ref q11), (12, .int (nI k))]) C.1 hb dL_smooth_250 hl (by decide) rfl (fun ls hl => ?_)
                  have key5 : ∀ f j : Nat, (B - 1) - j < f → j ≤ (B - 1) → (k ≤ j) → ∀ (H : Heap) (locs : List Loc), HW g (X, L, [eL g q1 (shf (vp_updL M (k - 1) (lMean M V Z k)) k j), eL g q6 (shf (vp_updL V (k - 1) ((V (k - 1)) + (V k))) k j), eI g q11 (shf (upd Z (k - 1) ((Z (k - 1)) + (Z k))) k j)]) H → va_S (Ab g) s.heap H locs → ∀ ls : Array Slot, lv_has ls 16 [(0, .ref (gA g 17)), (1, .ref (gA g 18)), (2, .ref (gA g 19)), (3, .ref (gA g 20)), (4, .ref (gA g 22)), (5, .ref (gA g 23)), (6, .ref (gA g 24)), (7, .int (nI t)), (8, .ref q1), (9, .ref q6), (10, .ref q11), (11, .int (nI (B - 1))), (12, .int (nI k)), (15, .int (nI j))] → W p l e ({ frames := 2, cells := 3, slots := 12, locals := 80 }) s m ([.ref (gA g 17), .ref (gA g 18), .ref (gA g 19), .ref (gA g 20), .ref (gA g 22), .ref (gA g 23), .ref (gA g 24), .int (nI t)] : List Value).toArray below meth c H locs (0 + 1 + 1 + 1) (0 + 4 + 4 + 4) (MQ below (WQ g (X, lPut L t (xFac (xSmF n t (levN t) (xSm0 T t (levN t))) t) (levN t), []) (some (.int (nI (xV_smooth T n t))))) ([.ref (gA g 17), .ref (gA g 18), .ref (gA g 19), .ref (gA g 20), .ref (gA g 22), .ref (gA g 23), .ref (gA g 24), .int (nI t)] : List Value).toArray s 3 12 (Ab g)) (F0 m 252 ls []) := by
                    intro f
                    induction f with
                    | zero => intro j h; exact absurd h (Nat.not_lt_zero _)
                    | succ f ih5 =>
                      intro j hfj hj hkj H locs hP hS ls hl
                      refine lv_iload C.1 hb dL_smooth_252 (lv_at hl 13 rfl) ?_
                      refine lv_iload C.1 hb dL_smooth_254 (lv_at hl 11 rfl) ?_
                      refine lv_icmp_ge (tgt := 301) C.1 hb dL_smooth_256 (by decide) (fun c141 => ?_) (fun c141 => ?_)
                      · have hin : j = (B - 1) := by have := le_nI (a := B - 1) (b := j) (by omega) (by omega) c141; omega
                        rw [hin] at hl hP
                        refine lv_iconst (v := 1) C.1 hb dL_smooth_301 (by decide) ?_
                        refine lv_istore (lv' := [(12, .int 1), (0, .ref (gA g 17)), (1, .ref (gA g 18)), (2, .ref (gA g 19)), (3, .ref (gA g 20)), (4, .ref (gA g 22)), (5, .ref (gA g 23)), (6, .ref (gA g 24)), (7, .int (nI t)), (8, .ref q1), (9, .ref q6), (10, .ref q11), (11, .int (nI (B - 1))), (15, .int (nI (B - 1)))]) C.1 hb dL_smooth_302 hl (by decide) rfl (fun ls hl => ?_)
                        refine lv_goto (tgt := 86) C.1 hb dL_smooth_304 (by decide) ?_
                        have he2 : xSmF n t (B - 1) (xJoin U n t (tN (xLow U t)) (xJst U t)) = xSmF n t (levN t) (xSm0 T t (levN t)) := by
                          have e9 : B = (B - 1) + 1 := by omega
                          rw [e9] at he
                          exact (if_neg hne).symm.trans he
                        exact ih2 (B - 1) 1 (by omega) (Nat.le_refl 1) (by omega) _ _ _ _ _ (BI_cg hB2 (shf_mgL M hk1) (shf_mgL V hk1) (shf_mgI Z hk1)) hJ2 (fun j h1 h2 => absurd h2 (by omega)) he2 _ _ hP hS ls (lv_sub hl [1, 2, 3, 4, 5, 6, 7, 8, 9, 10, 11, 12, 0] rfl)
                      · have hjB : j < B - 1 := nle_nI (a := B - 1) (b := j) (by omega) (by omega) c141
                        refine lv_aload C.1 hb dL_smooth_259 (lv_at hl 8 rfl) ?_
                        refine lv_iload C.1 hb dL_smooth_261 (lv_at hl 13 rfl) ?_
                        refine lv_aload C.1 hb dL_smooth_263 (lv_at hl 8 rfl) ?_
                        refine lv_iload C.1 hb dL_smooth_265 (lv_at hl 13 rfl) ?_
                        refine lv_iconst (v := 1) C.1 hb dL_smooth_267 (by decide) ?_
                        refine lv_iadd C.1 hb dL_smooth_268 ?_
                        refine ldE_s0 (j := (j + 1)) C hb hP (nI_1 j) (by omega) dL_smooth_269 ?_
                        refine toL (shf_at _ _ _) ?_
                        refine stE_s0 (j := j) C hb hP hS rfl (by omega) dL_smooth_270 (fun H locs hP hS => ?_)
                        refine lv_aload C.1 hb dL_smooth_271 (lv_at hl 9 rfl) ?_
                        refine lv_iload C.1 hb dL_smooth_273 (lv_at hl 13 rfl) ?_
                        refine lv_aload C.1 hb dL_smooth_275 (lv_at hl 9 rfl) ?_
                        refine lv_iload C.1 hb dL_smooth_277 (lv_at hl 13 rfl) ?_
                        refine lv_iconst (v := 1) C.1 hb dL_smooth_279 (by decide) ?_
                        refine lv_iadd C.1 hb dL_smooth_280 ?_
                        refine ldE_s1 (j := (j + 1)) C hb hP (nI_1 j) (by omega) dL_smooth_281 ?_
                        refine toL (shf_at _ _ _) ?_
                        refine stE_s1 (j := j) C hb hP hS rfl (by omega) dL_smooth_282 (fun H locs hP hS => ?_)
                        refine lv_aload C.1 hb dL_smooth_283 (lv_at hl 10 rfl) ?_
                        refine lv_iload C.1 hb dL_smooth_285 (lv_at hl 13 rfl) ?_
                        refine lv_aload C.1 hb dL_smooth_287 (lv_at hl 10 rfl) ?_
                        refine lv_iload C.1 hb dL_smooth_289 (lv_at hl 13 rfl) ?_
                        refine lv_iconst (v := 1) C.1 hb dL_smooth_291 (by decide) ?_
                        refine lv_iadd C.1 hb dL_smooth_292 ?_
                        refine ldE_s2 (j := (j + 1)) C hb hP (nI_1 j) (by omega) dL_smooth_293 ?_
                        refine toI (shf_at _ _ _) ?_
                        refine stE_s2 (j := j) C hb hP hS rfl (by omega) dL_smooth_294 (fun H locs hP hS => ?_)
                        have hP : HW g (X, L, [eL g q1 (shf (vp_updL M (k - 1) (lMean M V Z k)) k (j + 1)), eL g q6 (shf (vp_updL V (k - 1) ((V (k - 1)) + (V k))) k (j + 1)), eI g q11 (shf (upd Z (k - 1) ((Z (k - 1)) + (Z k))) k (j + 1))]) H := hP.cg (by rw [shf_sL (vp_updL M (k - 1) (lMean M V Z k)) hkj, shf_sL (vp_updL V (k - 1) ((V (k - 1)) + (V k))) hkj, shf_sI (upd Z (k - 1) ((Z (k - 1)) + (Z k))) hkj])
                        refine lv_iinc (v := nI (j + 1)) (lv' := [(15, .int (nI (j + 1))), (0, .ref (gA g 17)), (1, .ref (gA g 18)), (2, .ref (gA g 19)), (3, .ref (gA g 20)), (4, .ref (gA g 22)), (5, .ref (gA g 23)), (6, .ref (gA g 24)), (7, .int (nI t)), (8, .ref q1), (9, .ref q6), (10, .ref q11), (11, .int (nI (B - 1))), (12, .int (nI k))]) C.1 hb dL_smooth_295 hl (k := 13) rfl (nI_1 j) (by decide) rfl (fun ls hl => ?_)
                        refine lv_goto (tgt := 252) C.1 hb dL_smooth_298 (by decide) ?_
                        exact ih5 (j + 1) (by omega) (by omega) (by omega) _ _ hP hS ls (lv_sub hl [1, 2, 3, 4, 5, 6, 7, 8, 9, 10, 11, 12, 13, 0] rfl)
                  exact key5 ((B - 1) - k + 1) k (by omega) (by omega) (Nat.le_refl k) _ _ (hP.cg (by rw [shf_0, shf_0, shf_0])) hS ls (lv_sub hl [3, 4, 5, 6, 7, 8, 9, 10, 11, 12, 13, 1, 14, 0] rfl)
                · refine lv_aload C.1 hb dL_smooth_143 (lv_at hl 9 rfl) ?_
                  refine lv_iload C.1 hb dL_smooth_145 (lv_at hl 13 rfl) ?_
                  refine lv_iconst (v := 1) C.1 hb dL_smooth_147 (by decide) ?_
                  refine lv_isub C.1 hb dL_smooth_148 ?_
                  refine ldE_s0 (j := (k - 1)) C hb hP (nI_sub1 hk1) (by omega) dL_smooth_149 ?_
                  refine lv_aload C.1 hb dL_smooth_150 (lv_at hl 11 rfl) ?_
                  refine lv_iload C.1 hb dL_smooth_152 (lv_at hl 13 rfl) ?_
                  refine lv_iconst (v := 1) C.1 hb dL_smooth_154 (by decide) ?_
                  refine lv_isub C.1 hb dL_smooth_155 ?_
                  refine ldE_s2 (j := (k - 1)) C hb hP (nI_sub1 hk1) (by omega) dL_smooth_156 ?_
                  refine lv_i2l C.1 hb dL_smooth_157 rfl ?_
                  refine lv_lmul C.1 hb dL_smooth_158 ?_
                  refine lv_aload C.1 hb dL_smooth_159 (lv_at hl 9 rfl) ?_
                  refine lv_iload C.1 hb dL_smooth_161 (lv_at hl 13 rfl) ?_
                  refine ldE_s0 (j := k) C hb hP rfl (by omega) dL_smooth_163 ?_
                  refine lv_aload C.1 hb dL_smooth_164 (lv_at hl 11 rfl) ?_
                  refine lv_iload C.1 hb dL_smooth_166 (lv_at hl 13 rfl) ?_
                  refine ldE_s2 (j := k) C hb hP rfl (by omega) dL_smooth_168 ?_
                  refine lv_i2l C.1 hb dL_smooth_169 rfl ?_
                  refine lv_lmul C.1 hb dL_smooth_170 ?_
                  refine lv_ladd C.1 hb dL_smooth_171 ?_
                  refine lv_aload C.1 hb dL_smooth_172 (lv_at hl 11 rfl) ?_
                  refine lv_iload C.1 hb dL_smooth_174 (lv_at hl 13 rfl) ?_
                  refine lv_iconst (v := 1) C.1 hb dL_smooth_176 (by decide) ?_
                  refine lv_isub C.1 hb dL_smooth_177 ?_
                  refine ldE_s2 (j := (k - 1)) C hb hP (nI_sub1 hk1) (by omega) dL_smooth_178 ?_
                  refine lv_aload C.1 hb dL_smooth_179 (lv_at hl 11 rfl) ?_
                  refine lv_iload C.1 hb dL_smooth_181 (lv_at hl 13 rfl) ?_
                  refine ldE_s2 (j := k) C hb hP rfl (by omega) dL_smooth_183 ?_
                  refine lv_iadd C.1 hb dL_smooth_184 ?_
                  refine lv_i2l C.1 hb dL_smooth_185 rfl ?_
                  refine lv_ldiv C.1 hb dL_smooth_186 (bi_zne hBI hk1 hlt) ?_
                  refine lv_goto (tgt := 220) C.1 hb dL_smooth_187 (by decide) ?_
                  refine toL (show _ = lMean M V Z k from (by unfold lMean; rw [if_pos c140])) ?_
                  refine stE_s0 (j := (k - 1)) C hb hP hS (nI_sub1 hk1) (by omega) dL_smooth_220 (fun H locs hP hS => ?_)
                  refine lv_aload C.1 hb dL_smooth_221 (lv_at hl 10 rfl) ?_
                  refine lv_iload C.1 hb dL_smooth_223 (lv_at hl 13 rfl) ?_
                  refine lv_iconst (v := 1) C.1 hb dL_smooth_225 (by decide) ?_
                  refine lv_isub C.1 hb dL_smooth_226 ?_
                  refine lv_lload C.1 hb dL_smooth_227 (lv_at hl 0 rfl) ?_
                  refine stE_s1 (j := (k - 1)) C hb hP hS (nI_sub1 hk1) (by omega) dL_smooth_229 (fun H locs hP hS => ?_)
                  refine lv_aload C.1 hb dL_smooth_230 (lv_at hl 11 rfl) ?_
                  refine lv_iload C.1 hb dL_smooth_232 (lv_at hl 13 rfl) ?_
                  refine lv_iconst (v := 1) C.1 hb dL_smooth_234 (by decide) ?_
                  refine lv_isub C.1 hb dL_smooth_235 ?_
                  refine lv_dup2_11 C.1 hb dL_smooth_236 rfl rfl ?_
                  refine ldE_s2 (j := (k - 1)) C hb hP (nI_sub1 hk1) (by omega) dL_smooth_237 ?_
                  refine lv_aload C.1 hb dL_smooth_238 (lv_at hl 11 rfl) ?_
                  refine lv_iload C.1 hb dL_smooth_240 (lv_at hl 13 rfl) ?_
                  refine ldE_s2 (j := k) C hb hP rfl (by omega) dL_smooth_242 ?_
                  refine lv_iadd C.1 hb dL_smooth_243 ?_
                  refine stE_s2 (j := (k - 1)) C hb hP hS (nI_sub1 hk1) (by omega) dL_smooth_244 (fun H locs hP hS => ?_)
                  refine lv_iinc (v := nI (B - 1)) (lv' := [(11, .int (nI (B - 1))), (13, .long ((V (k - 1)) + (V k))), (0, .ref (gA g 17)), (1, .ref (gA g 18)), (2, .ref (gA g 19)), (3, .ref (gA g 20)), (4, .ref (gA g 22)), (5, .ref (gA g 23)), (6, .ref (gA g 24)), (7, .int (nI t)), (8, .ref q1), (9, .ref q6), (10, .ref q11), (12, .int (nI k))]) C.1 hb dL_smooth_245 hl (k := 12) rfl (nI_m1 (by omega)) (by decide) rfl (fun ls hl => ?_)
                  refine lv_iload C.1 hb dL_smooth_248 (lv_at hl 13 rfl) ?_
                  refine lv_istore (lv' := [(15, .int (nI k)), (11, .int (nI (B - 1))), (13, .long ((V (k - 1)) + (V k))), (0, .ref (gA g 17)), (1, .ref (gA g 18)), (2, .ref (gA g 19)), (3, .ref (gA g 20)), (4, .ref (gA g 22)), (5, .ref (gA g 23)), (6, .ref (gA g 24)), (7, .int (nI t)), (8, .ref q1), (9, .ref q6), (10, .ref q11), (12, .int (nI k))]) C.1 hb dL_smooth_250 hl (by decide) rfl (fun ls hl => ?_)
                  have key5 : ∀ f j : Nat, (B - 1) - j < f → j ≤ (B - 1) → (k ≤ j) → ∀ (H : Heap) (locs : List Loc), HW g (X, L, [eL g q1 (shf (vp_updL M (k - 1) (lMean M V Z k)) k j), eL g q6 (shf (vp_updL V (k - 1) ((V (k - 1)) + (V k))) k j), eI g q11 (shf (upd Z (k - 1) ((Z (k - 1)) + (Z k))) k j)]) H → va_S (Ab g) s.heap H locs → ∀ ls : Array Slot, lv_has ls 16 [(0, .ref (gA g 17)), (1, .ref (gA g 18)), (2, .ref (gA g 19)), (3, .ref (gA g 20)), (4, .ref (gA g 22)), (5, .ref (gA g 23)), (6, .ref (gA g 24)), (7, .int (nI t)), (8, .ref q1), (9, .ref q6), (10, .ref q11), (11, .int (nI (B - 1))), (12, .int (nI k)), (15, .int (nI j))] → W p l e ({ frames := 2, cells := 3, slots := 12, locals := 80 }) s m ([.ref (gA g 17), .ref (gA g 18), .ref (gA g 19), .ref (gA g 20), .ref (gA g 22), .ref (gA g 23), .ref (gA g 24), .int (nI t)] : List Value).toArray below meth c H locs (0 + 1 + 1 + 1) (0 + 4 + 4 + 4) (MQ below (WQ g (X, lPut L t (xFac (xSmF n t (levN t) (xSm0 T t (levN t))) t) (levN t), []) (some (.int (nI (xV_smooth T n t))))) ([.ref (gA g 17), .ref (gA g 18), .ref (gA g 19), .ref (gA g 20), .ref (gA g 22), .ref (gA g 23), .ref (gA g 24), .int (nI t)] : List Value).toArray s 3 12 (Ab g)) (F0 m 252 ls []) := by
                    intro f
                    induction f with
                    | zero => intro j h; exact absurd h (Nat.not_lt_zero _)
                    | succ f ih5 =>
                      intro j hfj hj hkj H locs hP hS ls hl
                      refine lv_iload C.1 hb dL_smooth_252 (lv_at hl 13 rfl) ?_
                      refine lv_iload C.1 hb dL_smooth_254 (lv_at hl 11 rfl) ?_
                      refine lv_icmp_ge (tgt := 301) C.1 hb dL_smooth_256 (by decide) (fun c142 => ?_) (fun c142 => ?_)
                      · have hin : j = (B - 1) := by have := le_nI (a := B - 1) (b := j) (by omega) (by omega) c142; omega
                        rw [hin] at hl hP
                        refine lv_iconst (v := 1) C.1 hb dL_smooth_301 (by decide) ?_
                        refine lv_istore (lv' := [(12, .int 1), (0, .ref (gA g 17)), (1, .ref (gA g 18)), (2, .ref (gA g 19)), (3, .ref (gA g 20)), (4, .ref (gA g 22)), (5, .ref (gA g 23)), (6, .ref (gA g 24)), (7, .int (nI t)), (8, .ref q1), (9, .ref q6), (10, .ref q11), (11, .int (nI (B - 1))), (15, .int (nI (B - 1)))]) C.1 hb dL_smooth_302 hl (by decide) rfl (fun ls hl => ?_)
                        refine lv_goto (tgt := 86) C.1 hb dL_smooth_304 (by decide) ?_
                        have he2 : xSmF n t (B - 1) (xJoin U n t (tN (xLow U t)) (xJst U t)) = xSmF n t (levN t) (xSm0 T t (levN t)) := by
                          have e9 : B = (B - 1) + 1 := by omega
                          rw [e9] at he
                          exact (if_neg hne).symm.trans he
                        exact ih2 (B - 1) 1 (by omega) (Nat.le_refl 1) (by omega) _ _ _ _ _ (BI_cg hB2 (shf_mgL M hk1) (shf_mgL V hk1) (shf_mgI Z hk1)) hJ2 (fun j h1 h2 => absurd h2 (by omega)) he2 _ _ hP hS ls (lv_sub hl [1, 2, 3, 4, 5, 6, 7, 8, 9, 10, 11, 12, 0] rfl)
                      · have hjB : j < B - 1 := nle_nI (a := B - 1) (b := j) (by omega) (by omega) c142
                        refine lv_aload C.1 hb dL_smooth_259 (lv_at hl 8 rfl) ?_
                        refine lv_iload C.1 hb dL_smooth_261 (lv_at hl 13 rfl) ?_
                        refine lv_aload C.1 hb dL_smooth_263 (lv_at hl 8 rfl) ?_
                        refine lv_iload C.1 hb dL_smooth_265 (lv_at hl 13 rfl) ?_
                        refine lv_iconst (v := 1) C.1 hb dL_smooth_267 (by decide) ?_
                        refine lv_iadd C.1 hb dL_smooth_268 ?_
                        refine ldE_s0 (j := (j + 1)) C hb hP (nI_1 j) (by omega) dL_smooth_269 ?_
                        refine toL (shf_at _ _ _) ?_
                        refine stE_s0 (j := j) C hb hP hS rfl (by omega) dL_smooth_270 (fun H locs hP hS => ?_)
                        refine lv_aload C.1 hb dL_smooth_271 (lv_at hl 9 rfl) ?_
                        refine lv_iload C.1 hb dL_smooth_273 (lv_at hl 13 rfl) ?_
                        refine lv_aload C.1 hb dL_smooth_275 (lv_at hl 9 rfl) ?_
                        refine lv_iload C.1 hb dL_smooth_277 (lv_at hl 13 rfl) ?_
                        refine lv_iconst (v := 1) C.1 hb dL_smooth_279 (by decide) ?_
                        refine lv_iadd C.1 hb dL_smooth_280 ?_
                        refine ldE_s1 (j := (j + 1)) C hb hP (nI_1 j) (by omega) dL_smooth_281 ?_
                        refine toL (shf_at _ _ _) ?_
                        refine stE_s1 (j := j) C hb hP hS rfl (by omega) dL_smooth_282 (fun H locs hP hS => ?_)
                        refine lv_aload C.1 hb dL_smooth_283 (lv_at hl 10 rfl) ?_
                        refine lv_iload C.1 hb dL_smooth_285 (lv_at hl 13 rfl) ?_
                        refine lv_aload C.1 hb dL_smooth_287 (lv_at hl 10 rfl) ?_
                        refine lv_iload C.1 hb dL_smooth_289 (lv_at hl 13 rfl) ?_
                        refine lv_iconst (v := 1) C.1 hb dL_smooth_291 (by decide) ?_
                        refine lv_iadd C.1 hb dL_smooth_292 ?_
                        refine ldE_s2 (j := (j + 1)) C hb hP (nI_1 j) (by omega) dL_smooth_293 ?_
                        refine toI (shf_at _ _ _) ?_
                        refine stE_s2 (j := j) C hb hP hS rfl (by omega) dL_smooth_294 (fun H locs hP hS => ?_)
                        have hP : HW g (X, L, [eL g q1 (shf (vp_updL M (k - 1) (lMean M V Z k)) k (j + 1)), eL g q6 (shf (vp_updL V (k - 1) ((V (k - 1)) + (V k))) k (j + 1)), eI g q11 (shf (upd Z (k - 1) ((Z (k - 1)) + (Z k))) k (j + 1))]) H := hP.cg (by rw [shf_sL (vp_updL M (k - 1) (lMean M V Z k)) hkj, shf_sL (vp_updL V (k - 1) ((V (k - 1)) + (V k))) hkj, shf_sI (upd Z (k - 1) ((Z (k - 1)) + (Z k))) hkj])
                        refine lv_iinc (v := nI (j + 1)) (lv' := [(15, .int (nI (j + 1))), (0, .ref (gA g 17)), (1, .ref (gA g 18)), (2, .ref (gA g 19)), (3, .ref (gA g 20)), (4, .ref (gA g 22)), (5, .ref (gA g 23)), (6, .ref (gA g 24)), (7, .int (nI t)), (8, .ref q1), (9, .ref q6), (10, .ref q11), (11, .int (nI (B - 1))), (12, .int (nI k))]) C.1 hb dL_smooth_295 hl (k := 13) rfl (nI_1 j) (by decide) rfl (fun ls hl => ?_)
                        refine lv_goto (tgt := 252) C.1 hb dL_smooth_298 (by decide) ?_
                        exact ih5 (j + 1) (by omega) (by omega) (by omega) _ _ hP hS ls (lv_sub hl [1, 2, 3, 4, 5, 6, 7, 8, 9, 10, 11, 12, 13, 0] rfl)
                  exact key5 ((B - 1) - k + 1) k (by omega) (by omega) (Nat.le_refl k) _ _ (hP.cg (by rw [shf_0, shf_0, shf_0])) hS ls (lv_sub hl [3, 4, 5, 6, 7, 8, 9, 10, 11, 12, 13, 1, 14, 0] rfl)
              · refine lv_iinc (v := nI (k + 1)) (lv' := [(12, .int (nI (k + 1))), (0, .ref (gA g 17)), (1, .ref (gA g 18)), (2, .ref (gA g 19)), (3, .ref (gA g 20)), (4, .ref (gA g 22)), (5, .ref (gA g 23)), (6, .ref (gA g 24)), (7, .int (nI t)), (8, .ref q1), (9, .ref q6), (10, .ref q11), (11, .int (nI B))]) C.1 hb dL_smooth_109 hl (k := 12) rfl (nI_1 k) (by decide) rfl (fun ls hl => ?_)
                refine lv_goto (tgt := 86) C.1 hb dL_smooth_112 (by decide) ?_
                exact ih2 B (k + 1) (by omega) (by omega) (by omega) U z M V Z hBI hJ (fun j h1 h2 => (Nat.lt_or_ge j k).elim (hs j h1) (fun e => by rw [show j = k by omega]; exact Int64.not_lt.mp c139)) he _ _ hP hS ls (lv_sub hl [1, 2, 3, 4, 5, 6, 7, 8, 9, 10, 11, 12, 0] rfl)
        exact key2 (6 * levN t) (levN t) 1 (by omega) (Nat.le_refl 1) (by omega) _ _ _ _ _ (bi_0 hR.1 ht) (xJI_0 T t) (fun j h1 h2 => absurd h2 (by omega)) rfl _ _ hP hS ls (lv_sub hl [1, 2, 3, 4, 5, 6, 7, 8, 9, 10, 11, 12, 0] rfl)
      · have hlt : i < levN t := nle_nI (a := levN t) (b := i) (by omega) (by omega) c134
        refine lv_aload C.1 hb dL_smooth_32 (lv_at hl 8 rfl) ?_
        refine lv_iload C.1 hb dL_smooth_34 (lv_at hl 12 rfl) ?_
        refine lv_aload C.1 hb dL_smooth_36 (lv_at hl 5 rfl) ?_
        refine lv_iconst (v := 4) C.1 hb dL_smooth_38 (by decide) ?_
        refine lv_iload C.1 hb dL_smooth_39 (lv_at hl 7 rfl) ?_
        refine lv_imul C.1 hb dL_smooth_41 ?_
        refine lv_iload C.1 hb dL_smooth_42 (lv_at hl 12 rfl) ?_
        refine lv_iadd C.1 hb dL_smooth_44 ?_
        refine ldA_f (j := (4 * t + i)) C hb hP (ix4 t i) (by omega) dL_smooth_45 ?_
        refine toI (lr_f hR ht hlt) ?_
        refine lv_i2l C.1 hb dL_smooth_46 rfl ?_
        refine stE_s0 (j := i) C hb hP hS rfl (by omega) dL_smooth_47 (fun H locs hP hS => ?_)
        refine lv_aload C.1 hb dL_smooth_48 (lv_at hl 9 rfl) ?_
        refine lv_iload C.1 hb dL_smooth_50 (lv_at hl 12 rfl) ?_
        refine lv_aload_n C.1 hb dL_smooth_52 rfl (lv_at hl 0 rfl) ?_
        refine lv_aload_n C.1 hb dL_smooth_53 rfl (lv_at hl 1 rfl) ?_
        refine lv_aload_n C.1 hb dL_smooth_54 rfl (lv_at hl 2 rfl) ?_
        refine lv_aload_n C.1 hb dL_smooth_55 rfl (lv_at hl 3 rfl) ?_
        refine lv_aload C.1 hb dL_smooth_56 (lv_at hl 4 rfl) ?_
        refine lv_aload C.1 hb dL_smooth_58 (lv_at hl 5 rfl) ?_
        refine lv_aload C.1 hb dL_smooth_60 (lv_at hl 6 rfl) ?_
        refine lv_iconst (v := 3) C.1 hb dL_smooth_62 (by decide) ?_
        refine lv_iload C.1 hb dL_smooth_63 (lv_at hl 7 rfl) ?_
        refine lv_iload C.1 hb dL_smooth_65 (lv_at hl 12 rfl) ?_
        refine run_rd (cRunS (As := [.ref (gA g 17), .ref (gA g 18), .ref (gA g 19), .ref (gA g 20), .ref (gA g 22), .ref (gA g 23), .ref (gA g 24), .int 3, .int (nI t), .int (nI i)]) (rest := [.int (nI i), .ref q6]) C hb (hml.trans hl.1.symm) hP hS (k_L_sum3 l g (X, L, [eL g q1 (vp_updL (fil (fun v => (xFac T t v).toInt64) (fun _ => 0) i) i (xFac T t i).toInt64), eL g q6 (fil (sExp T n t) (fun _ => 0) i), eI g q11 (fil (fun _ => 1) (fun _ => 0) i)]) n T hR t i ht hlt) wm_192 wm_193 wm_194 wm_2 (n := 10) (by decide +kernel) rfl ⟨rfl, rfl, Nat.le_of_ble_eq_true rfl, Nat.le_of_ble_eq_true rfl⟩ (Nat.le_of_ble_eq_true rfl) rfl ⟨by show 0 + 1 + 1 + 1 + 0 ≤ 3; omega, by show 0 + 4 + 4 + 4 + 0 ≤ 12; omega⟩ dL_smooth_67) ?_
        refine stE_s1 (j := i) C hb hP hS rfl (by omega) dL_smooth_70 (fun H locs hP hS => ?_)
        refine lv_aload C.1 hb dL_smooth_71 (lv_at hl 10 rfl) ?_
        refine lv_iload C.1 hb dL_smooth_73 (lv_at hl 12 rfl) ?_
        refine lv_iconst (v := 1) C.1 hb dL_smooth_75 (by decide) ?_
        refine stE_s2 (j := i) C hb hP hS rfl (by omega) dL_smooth_76 (fun H locs hP hS => ?_)
        have hP : HW g (X, L, [eL g q1 (fil (fun v => (xFac T t v).toInt64) (fun _ => 0) (i + 1)), eL g q6 (fil (sExp T n t) (fun _ => 0) (i + 1)), eI g q11 (fil (fun _ => 1) (fun _ => 0) (i + 1))]) H := hP.cg (by rw [fil_sL (fun v => (xFac T t v).toInt64), fil_sL (sExp T n t), fil_sI (fun _ => 1)])
        refine lv_iinc (v := nI (i + 1)) (lv' := [(12, .int (nI (i + 1))), (0, .ref (gA g 17)), (1, .ref (gA g 18)), (2, .ref (gA g 19)), (3, .ref (gA g 20)), (4, .ref (gA g 22)), (5, .ref (gA g 23)), (6, .ref (gA g 24)), (7, .int (nI t)), (8, .ref q1), (9, .ref q6), (10, .ref q11), (11, .int (nI (levN t)))]) C.1 hb dL_smooth_77 hl (k := 12) rfl (nI_1 i) (by decide) rfl (fun ls hl => ?_)
        refine lv_goto (tgt := 25) C.1 hb dL_smooth_80 (by decide) ?_
        exact ih (i + 1) (by omega) (by omega)  _ _ hP hS ls (lv_sub hl [1, 2, 3, 4, 5, 6, 7, 8, 9, 10, 11, 12, 0] rfl)
  exact key (levN t - 0 + 1) 0 (by omega) (by omega)  _ _ (hP.cg (by rw [fil_0, fil_0, fil_0])) hS ls (lv_sub hl [5, 6, 7, 8, 9, 10, 11, 12, 4, 3, 2, 1, 0] rfl)
