set_option maxRecDepth 100000 in
set_option maxHeartbeats 4000000 in
theorem holds_rest (l : Launch) (hl0 : l.stackTraces = false) (g : gG) {p : Program} {e : Env} {s : State} {m : MethodId} {below : List Frame} {meth : Method} {c : Code} {H : Heap} {locs : List Loc} {ls : Array Slot} (C : CW g RL p s m ([.ref (gB g)] : List Value).toArray) (hb : c.code = cL_holds) (hml : c.maxLocals = 13) (hret : meth.sig.returnType = some .boolean) (hlk : meth.locks = false) (hP : HW g (XS0, fun _ _ => 0, []) H) (hS : va_S (Ab g) s.heap H locs) (hl : lv_has ls 13 [(0, .ref (gB g)), (1, .ref (gA g 0)), (2, .ref (gA g 17)), (3, .ref (gA g 18)), (4, .ref (gA g 19)), (5, .ref (gA g 20)), (6, .ref (gA g 21)), (7, .ref (gA g 22)), (8, .ref (gA g 23)), (9, .ref (gA g 24))]) : W p l e ({ frames := 9, cells := 20000, slots := 110000, locals := 400 }) s m ([.ref (gB g)] : List Value).toArray below meth c H locs 30 600 (MQ below (HQ g) ([.ref (gB g)] : List Value).toArray s 20000 110000 (Ab g)) (F0 m 53 ls []) := by
  have hP : HW g (XS0, lf0 0, []) H := hP.cg (by rw [lf0_0])
  have hI0 : XI 0 (XS0, LS0, []) := lr_0.1.1
  refine lv_iconst (v := 0) C.1 hb dL_holds_53 (by decide) ?_
  refine lv_istore (lv' := [(10, .int 0), (0, .ref (gB g)), (1, .ref (gA g 0)), (2, .ref (gA g 17)), (3, .ref (gA g 18)), (4, .ref (gA g 19)), (5, .ref (gA g 20)), (6, .ref (gA g 21)), (7, .ref (gA g 22)), (8, .ref (gA g 23)), (9, .ref (gA g 24))]) C.1 hb dL_holds_54 hl (by decide) rfl (fun ls hl => ?_)
  have key : ∀ f i : Nat, 12 - i < f → i ≤ 12 → ∀ (H : Heap) (locs : List Loc), HW g (XS0, lf0 i, []) H → va_S (Ab g) s.heap H locs → ∀ ls : Array Slot, lv_has ls 13 [(0, .ref (gB g)), (1, .ref (gA g 0)), (2, .ref (gA g 17)), (3, .ref (gA g 18)), (4, .ref (gA g 19)), (5, .ref (gA g 20)), (6, .ref (gA g 21)), (7, .ref (gA g 22)), (8, .ref (gA g 23)), (9, .ref (gA g 24)), (10, .int (nI i))] → W p l e ({ frames := 9, cells := 20000, slots := 110000, locals := 400 }) s m ([.ref (gB g)] : List Value).toArray below meth c H locs 30 600 (MQ below (HQ g) ([.ref (gB g)] : List Value).toArray s 20000 110000 (Ab g)) (F0 m 56 ls []) := by
    intro f
    induction f with
    | zero => intro i h; exact absurd h (Nat.not_lt_zero _)
    | succ f ih =>
      intro i hfi hi  H locs hP hS ls hl
      refine lv_iload C.1 hb dL_holds_56 (lv_at hl 10 rfl) ?_
      refine lv_bipush (v := 12) C.1 hb dL_holds_58 (by decide) ?_
      refine lv_icmp_ge (tgt := 77) C.1 hb dL_holds_60 (by decide) (fun c176 => ?_) (fun c176 => ?_)
      · have hin : i = 12 := by have := le_nI (a := 12) (b := i) (by decide) (by omega) c176; omega
        rw [hin] at hl hP
        refine lv_aload C.1 hb dL_holds_77 (lv_at hl 9 rfl) ?_
        refine lv_iconst (v := 2) C.1 hb dL_holds_79 (by decide) ?_
        refine lv_iconst (v := (-1)) C.1 hb dL_holds_80 (by decide) ?_
        refine stA_m (j := 2) C hb hP hS (by decide) (by decide) dL_holds_81 (fun H locs hP hS => ?_)
        have hP : HW g (XS0, lM (lf0 12) 2 (-1), []) H := hP
        refine lv_aload C.1 hb dL_holds_82 (lv_at hl 9 rfl) ?_
        refine lv_iconst (v := 3) C.1 hb dL_holds_84 (by decide) ?_
        refine lv_sipush (v := 10000) C.1 hb dL_holds_85 (by decide) ?_
        refine stA_m (j := 3) C hb hP hS (by decide) (by decide) dL_holds_88 (fun H locs hP hS => ?_)
        have hP : HW g (XS0, LS0, []) H := hP
        refine lv_aload_n C.1 hb dL_holds_89 rfl (lv_at hl 1 rfl) ?_
        refine run_rd (cRunX (As := []) (rest := []) C hb (hml.trans hl.1.symm) hP hS rfl (k_X0_rows l g (XS0, LS0, [])) wm_44 wm_45 wm_46 wm_47 wm_12 (n := 0) (by decide +kernel) rfl ⟨rfl, rfl, Nat.le_of_ble_eq_true rfl, Nat.le_of_ble_eq_true rfl⟩ (Nat.le_of_ble_eq_true rfl) rfl ⟨by show 30 + 0 ≤ 20000; omega, by show 600 + 0 ≤ 110000; omega⟩ dL_holds_90) ?_
        refine toI (show _ = 0 from rfl) ?_
        refine lv_if_ne (tgt := 117) C.1 hb dL_holds_93 (by decide) (fun c9 => absurd (by decide) c9) (fun _ => ?_)
        refine lv_aload_n C.1 hb dL_holds_96 rfl (lv_at hl 1 rfl) ?_
        refine run_rd (cRunX (As := []) (rest := []) C hb (hml.trans hl.1.symm) hP hS rfl (k_X0_base l g (XS0, LS0, [])) wm_48 wm_49 wm_50 wm_51 wm_12 (n := 0) (by decide +kernel) rfl ⟨rfl, rfl, Nat.le_of_ble_eq_true rfl, Nat.le_of_ble_eq_true rfl⟩ (Nat.le_of_ble_eq_true rfl) rfl ⟨by show 30 + 0 ≤ 20000; omega, by show 600 + 0 ≤ 110000; omega⟩ dL_holds_97) ?_
        refine toL (show _ = 0 from rfl) ?_
        refine lv_lconst (v := 0) C.1 hb dL_holds_100 (by decide) ?_
        refine lc_ne (tgt := 117) C hb dL_holds_101 dL_holds_102 (by decide) (fun c9 => absurd (rfl : (0 : Int64) = 0) c9) (fun _ => ?_)
        refine lv_aload_n C.1 hb dL_holds_105 rfl (lv_at hl 1 rfl) ?_
        refine run_wr (cRunX (As := []) (rest := []) C hb (hml.trans hl.1.symm) hP hS rfl (k_X0_settle l g (XS0, LS0, []) 0 hI0) wm_52 wm_53 wm_54 wm_55 wm_12 (n := 0) (by decide +kernel) rfl ⟨rfl, rfl, Nat.le_of_ble_eq_true rfl, Nat.le_of_ble_eq_true rfl⟩ (Nat.le_of_ble_eq_true rfl) rfl ⟨by show 30 + 0 ≤ 20000; omega, by show 600 + 0 ≤ 110000; omega⟩ dL_holds_106) hS (fun H locs hP hS => ?_)
        refine toI (show _ = 1 from (by rw [settle_0 rfl]; rfl)) ?_
        have hP : HW g (XS0, LS0, []) H := hP.cg (by rw [settle_0 rfl])
        refine lv_iconst (v := 1) C.1 hb dL_holds_109 (by decide) ?_
        refine lv_icmp_ne (tgt := 117) C.1 hb dL_holds_110 (by decide) (fun c9 => absurd (by decide) c9) (fun _ => ?_)
        refine lv_iconst (v := 1) C.1 hb dL_holds_113 (by decide) ?_
        refine lv_goto (tgt := 118) C.1 hb dL_holds_114 (by decide) ?_
        refine lv_istore (lv' := [(10, .int 1), (0, .ref (gB g)), (1, .ref (gA g 0)), (2, .ref (gA g 17)), (3, .ref (gA g 18)), (4, .ref (gA g 19)), (5, .ref (gA g 20)), (6, .ref (gA g 21)), (7, .ref (gA g 22)), (8, .ref (gA g 23)), (9, .ref (gA g 24))]) C.1 hb dL_holds_118 hl (by decide) rfl (fun ls hl => ?_)
        refine lv_iconst (v := 0) C.1 hb dL_holds_120 (by decide) ?_
        refine lv_istore (lv' := [(11, .int 0), (10, .int 1), (0, .ref (gB g)), (1, .ref (gA g 0)), (2, .ref (gA g 17)), (3, .ref (gA g 18)), (4, .ref (gA g 19)), (5, .ref (gA g 20)), (6, .ref (gA g 21)), (7, .ref (gA g 22)), (8, .ref (gA g 23)), (9, .ref (gA g 24))]) C.1 hb dL_holds_121 hl (by decide) rfl (fun ls hl => ?_)
        refine W.widen (k := 30 + 290 * 0) (n := 600 + 1740 * 0) (by omega) (by omega) ?_
        have key2 : ∀ f k : Nat, 60 - k < f → k ≤ 60 → ∀ (n : Nat), ∀ (X : XS), ∀ (L : LAr), (LR n (X, L, []) (X, L, [])) → ∀ (H : Heap) (locs : List Loc), HW g (X, L, []) H → va_S (Ab g) s.heap H locs → ∀ ls : Array Slot, lv_has ls 13 [(0, .ref (gB g)), (1, .ref (gA g 0)), (2, .ref (gA g 17)), (3, .ref (gA g 18)), (4, .ref (gA g 19)), (5, .ref (gA g 20)), (6, .ref (gA g 21)), (7, .ref (gA g 22)), (8, .ref (gA g 23)), (9, .ref (gA g 24)), (10, .int 1), (11, .int (nI k))] → W p l e ({ frames := 9, cells := 20000, slots := 110000, locals := 400 }) s m ([.ref (gB g)] : List Value).toArray below meth c H locs (30 + 290 * k) (600 + 1740 * k) (MQ below (HQ g) ([.ref (gB g)] : List Value).toArray s 20000 110000 (Ab g)) (F0 m 123 ls []) := by
          intro f
          induction f with
          | zero => intro k h; exact absurd h (Nat.not_lt_zero _)
          | succ f ih2 =>
            intro k hfk hk n X L hR H locs hP hS ls hl
            refine lv_iload C.1 hb dL_holds_123 (lv_at hl 11 rfl) ?_
            refine lv_bipush (v := 60) C.1 hb dL_holds_125 (by decide) ?_
            refine lv_icmp_ge (tgt := 233) C.1 hb dL_holds_127 (by decide) (fun c177 => ?_) (fun c177 => ?_)
            · have hin : k = 60 := by have := le_nI (a := 60) (b := k) (by decide) (by omega) c177; omega
              rw [hin] at hl
              refine lv_iload C.1 hb dL_holds_233 (lv_at hl 10 rfl) ?_
              refine lv_if_eq (tgt := 263) C.1 hb dL_holds_235 (by decide) (fun c9 => absurd c9 (by decide)) (fun _ => ?_)
              refine lv_aload_n C.1 hb dL_holds_238 rfl (lv_at hl 1 rfl) ?_
              refine lv_aload_n C.1 hb dL_holds_239 rfl (lv_at hl 2 rfl) ?_
              refine lv_aload_n C.1 hb dL_holds_240 rfl (lv_at hl 3 rfl) ?_
              refine lv_aload C.1 hb dL_holds_241 (lv_at hl 4 rfl) ?_
              refine lv_aload C.1 hb dL_holds_243 (lv_at hl 5 rfl) ?_
              refine lv_aload C.1 hb dL_holds_245 (lv_at hl 6 rfl) ?_
              refine lv_aload C.1 hb dL_holds_247 (lv_at hl 7 rfl) ?_
              refine lv_aload C.1 hb dL_holds_249 (lv_at hl 8 rfl) ?_
              refine lv_aload C.1 hb dL_holds_251 (lv_at hl 9 rfl) ?_
              refine run_wc (cRunC (As := [.ref (gA g 0), .ref (gA g 17), .ref (gA g 18), .ref (gA g 19), .ref (gA g 20), .ref (gA g 21), .ref (gA g 22), .ref (gA g 23), .ref (gA g 24)]) (rest := []) C hb (hml.trans hl.1.symm) hP hS (k_L_isTold l hl0 g (X, L, []) n hR) wm_239 wm_240 wm_241 wm_2 (n := 9) (by decide +kernel) rfl ⟨rfl, rfl, Nat.le_of_ble_eq_true rfl, Nat.le_of_ble_eq_true rfl⟩ (Nat.le_of_ble_eq_true rfl) rfl ⟨by show 30 + 290 * k + 90 ≤ 20000; omega, by show 600 + 1740 * k + 540 ≤ 110000; omega⟩ dL_holds_253) hS (fun H locs hP hS => ?_)
              refine bz_eq (tgt := 263) C hb dL_holds_256 (by decide) (fun c9 => absurd ((rfl : true = true).symm.trans c9) (by decide)) (fun _ => ?_)
              refine lv_iconst (v := 1) C.1 hb dL_holds_259 (by decide) ?_
              refine lv_goto (tgt := 264) C.1 hb dL_holds_260 (by decide) ?_
              exact hqZ (by omega) (by omega) C hb hret hlk hS dL_holds_264 rfl
            · have hlt : k < 60 := nle_nI (a := 60) (b := k) (by decide) (by omega) c177
              refine lv_iload C.1 hb dL_holds_130 (lv_at hl 10 rfl) ?_
              refine lv_if_eq (tgt := 233) C.1 hb dL_holds_132 (by decide) (fun c9 => absurd c9 (by decide)) (fun _ => ?_)
              have K1 : ∀ (wy : Nat), wy < 18 → W p l e ({ frames := 9, cells := 20000, slots := 110000, locals := 400 }) s m ([.ref (gB g)] : List Value).toArray below meth c H locs (30 + 290 * k) (600 + 1740 * k) (MQ below (HQ g) ([.ref (gB g)] : List Value).toArray s 20000 110000 (Ab g)) (F0 m 155 ls [.int (nI wy)]) := by
                intro wy hwy
                refine lv_istore (lv' := [(12, .int (nI wy)), (0, .ref (gB g)), (1, .ref (gA g 0)), (2, .ref (gA g 17)), (3, .ref (gA g 18)), (4, .ref (gA g 19)), (5, .ref (gA g 20)), (6, .ref (gA g 21)), (7, .ref (gA g 22)), (8, .ref (gA g 23)), (9, .ref (gA g 24)), (10, .int 1), (11, .int (nI k))]) C.1 hb dL_holds_155 hl (by decide) rfl (fun ls hl => ?_)
                refine lv_aload_n C.1 hb dL_holds_157 rfl (lv_at hl 2 rfl) ?_
                refine lv_aload_n C.1 hb dL_holds_158 rfl (lv_at hl 3 rfl) ?_
                refine lv_aload_n C.1 hb dL_holds_159 rfl (lv_at hl 4 rfl) ?_
                refine lv_aload C.1 hb dL_holds_160 (lv_at hl 5 rfl) ?_
                refine lv_aload C.1 hb dL_holds_162 (lv_at hl 6 rfl) ?_
                refine lv_aload C.1 hb dL_holds_164 (lv_at hl 7 rfl) ?_
                refine lv_aload C.1 hb dL_holds_166 (lv_at hl 8 rfl) ?_
                refine lv_aload C.1 hb dL_holds_168 (lv_at hl 9 rfl) ?_
                refine lv_aload C.1 hb dL_holds_170 (lv_at hl 10 rfl) ?_
                refine lv_iload C.1 hb dL_holds_172 (lv_at hl 0 rfl) ?_
                refine lv_aload_n C.1 hb dL_holds_174 rfl (lv_at hl 1 rfl) ?_
                refine lv_iconst (v := 2) C.1 hb dL_holds_175 (by decide) ?_
                refine lv_iload C.1 hb dL_holds_176 (lv_at hl 12 rfl) ?_
                refine lv_imul C.1 hb dL_holds_178 ?_
                refine lv_iconst (v := 1) C.1 hb dL_holds_179 (by decide) ?_
                refine lv_iadd C.1 hb dL_holds_180 ?_
                refine toI (show _ = nI (2 * k + 1) from (ix2 k 1)) ?_
                refine lv_ldc (v := 1000000000) C.1 hb C.2.1 (C.2.2.1 _ wm_14) dL_holds_181 ?_
                refine run_rd (cRunS16 (As := [.ref (gB g), .int (nI (2 * k + 1)), .int 1000000000]) (rest := [.int (nI wy), .ref (gA g 24), .ref (gA g 23), .ref (gA g 22), .ref (gA g 21), .ref (gA g 20), .ref (gA g 19), .ref (gA g 18), .ref (gA g 17), .ref (gA g 0)]) C hb (hml.trans hl.1.symm) hP hS (k_L_from l g (X, L, []) (2 * k + 1) 1000000000 (by omega) (by decide) (by decide)) wm_98 wm_99 wm_100 wm_2 (n := 3) (by decide +kernel) rfl ⟨rfl, rfl, Nat.le_of_ble_eq_true rfl, Nat.le_of_ble_eq_true rfl⟩ (Nat.le_of_ble_eq_true rfl) rfl ⟨by show 30 + 290 * k + 0 ≤ 20000; omega, by show 600 + 1740 * k + 0 ≤ 110000; omega⟩ dL_holds_183) ?_
                have hzz : fV (gN g) (gX g) (2 * k + 1) 1000000000 < 1000000000 := fV_lt _ _ _ (by decide)
                refine run_wa (cRunC (As := [.ref (gA g 0), .ref (gA g 17), .ref (gA g 18), .ref (gA g 19), .ref (gA g 20), .ref (gA g 21), .ref (gA g 22), .ref (gA g 23), .ref (gA g 24), .int (nI wy), .int (nI (fV (gN g) (gX g) (2 * k + 1) 1000000000))]) (rest := []) C hb (hml.trans hl.1.symm) hP hS (k_L_acts l hl0 g X L n hR wy (fV (gN g) (gX g) (2 * k + 1) 1000000000) hwy hzz) wm_103 wm_104 wm_105 wm_2 (n := 11) (by decide +kernel) rfl ⟨rfl, rfl, Nat.le_of_ble_eq_true rfl, Nat.le_of_ble_eq_true rfl⟩ (Nat.le_of_ble_eq_true rfl) rfl ⟨by show 30 + 290 * k + 200 ≤ 20000; omega, by show 600 + 1740 * k + 1200 ≤ 110000; omega⟩ dL_holds_186) hS (fun n2 X2 L2 H locs hR2 hP hS => ?_)
                refine bz_eq (tgt := 224) C hb dL_holds_189 (by decide) (fun c9 => absurd ((rfl : true = true).symm.trans c9) (by decide)) (fun _ => ?_)
                refine lv_iload C.1 hb dL_holds_192 (lv_at hl 12 rfl) ?_
                refine lv_iconst (v := 2) C.1 hb dL_holds_194 (by decide) ?_
                refine lv_irem C.1 hb dL_holds_195 (by decide) ?_
                refine toI (pk_rem (a := k) (d := 2) (by omega) (by decide) (by decide)) ?_
                refine lv_if_eq (tgt := 220) C.1 hb dL_holds_196 (by decide) (fun c178 => ?_) (fun c178 => ?_)
                · refine lv_iconst (v := 1) C.1 hb dL_holds_220 (by decide) ?_
                  refine lv_goto (tgt := 225) C.1 hb dL_holds_221 (by decide) ?_
                  refine lv_istore (lv' := [(10, .int 1), (12, .int (nI wy)), (0, .ref (gB g)), (1, .ref (gA g 0)), (2, .ref (gA g 17)), (3, .ref (gA g 18)), (4, .ref (gA g 19)), (5, .ref (gA g 20)), (6, .ref (gA g 21)), (7, .ref (gA g 22)), (8, .ref (gA g 23)), (9, .ref (gA g 24)), (11, .int (nI k))]) C.1 hb dL_holds_225 hl (by decide) rfl (fun ls hl => ?_)
                  refine lv_iinc (v := nI (k + 1)) (lv' := [(11, .int (nI (k + 1))), (10, .int 1), (12, .int (nI wy)), (0, .ref (gB g)), (1, .ref (gA g 0)), (2, .ref (gA g 17)), (3, .ref (gA g 18)), (4, .ref (gA g 19)), (5, .ref (gA g 20)), (6, .ref (gA g 21)), (7, .ref (gA g 22)), (8, .ref (gA g 23)), (9, .ref (gA g 24))]) C.1 hb dL_holds_227 hl (k := 12) rfl (nI_1 k) (by decide) rfl (fun ls hl => ?_)
                  refine lv_goto (tgt := 123) C.1 hb dL_holds_230 (by decide) ?_
                  refine W.widen (k := 30 + 290 * (k + 1)) (n := 600 + 1740 * (k + 1)) (by omega) (by omega) ?_
                  exact ih2 (k + 1) (by omega) (by omega) n2 X2 L2 hR2 _ _ hP hS ls (lv_sub hl [3, 4, 5, 6, 7, 8, 9, 10, 11, 12, 1, 0] rfl)
                · refine lv_aload_n C.1 hb dL_holds_199 rfl (lv_at hl 2 rfl) ?_
                  refine lv_aload_n C.1 hb dL_holds_200 rfl (lv_at hl 3 rfl) ?_
                  refine lv_aload_n C.1 hb dL_holds_201 rfl (lv_at hl 4 rfl) ?_
                  refine lv_aload C.1 hb dL_holds_202 (lv_at hl 5 rfl) ?_
                  refine lv_aload C.1 hb dL_holds_204 (lv_at hl 6 rfl) ?_
                  refine lv_aload C.1 hb dL_holds_206 (lv_at hl 7 rfl) ?_
                  refine lv_aload C.1 hb dL_holds_208 (lv_at hl 8 rfl) ?_
                  refine lv_aload C.1 hb dL_holds_210 (lv_at hl 9 rfl) ?_
                  refine lv_aload C.1 hb dL_holds_212 (lv_at hl 10 rfl) ?_
                  refine run_wc (cRunC (As := [.ref (gA g 0), .ref (gA g 17), .ref (gA g 18), .ref (gA g 19), .ref (gA g 20), .ref (gA g 21), .ref (gA g 22), .ref (gA g 23), .ref (gA g 24)]) (rest := []) C hb (hml.trans hl.1.symm) hP hS (k_L_isTold l hl0 g (X2, L2, []) n2 hR2) wm_239 wm_240 wm_241 wm_2 (n := 9) (by decide +kernel) rfl ⟨rfl, rfl, Nat.le_of_ble_eq_true rfl, Nat.le_of_ble_eq_true rfl⟩ (Nat.le_of_ble_eq_true rfl) rfl ⟨by show 30 + 290 * k + 200 + 90 ≤ 20000; omega, by show 600 + 1740 * k + 1200 + 540 ≤ 110000; omega⟩ dL_holds_214) hS (fun H locs hP hS => ?_)
                  refine bz_eq (tgt := 224) C hb dL_holds_217 (by decide) (fun c9 => absurd ((rfl : true = true).symm.trans c9) (by decide)) (fun _ => ?_)
                  refine lv_iconst (v := 1) C.1 hb dL_holds_220 (by decide) ?_
                  refine lv_goto (tgt := 225) C.1 hb dL_holds_221 (by decide) ?_
                  refine lv_istore (lv' := [(10, .int 1), (12, .int (nI wy)), (0, .ref (gB g)), (1, .ref (gA g 0)), (2, .ref (gA g 17)), (3, .ref (gA g 18)), (4, .ref (gA g 19)), (5, .ref (gA g 20)), (6, .ref (gA g 21)), (7, .ref (gA g 22)), (8, .ref (gA g 23)), (9, .ref (gA g 24)), (11, .int (nI k))]) C.1 hb dL_holds_225 hl (by decide) rfl (fun ls hl => ?_)
                  refine lv_iinc (v := nI (k + 1)) (lv' := [(11, .int (nI (k + 1))), (10, .int 1), (12, .int (nI wy)), (0, .ref (gB g)), (1, .ref (gA g 0)), (2, .ref (gA g 17)), (3, .ref (gA g 18)), (4, .ref (gA g 19)), (5, .ref (gA g 20)), (6, .ref (gA g 21)), (7, .ref (gA g 22)), (8, .ref (gA g 23)), (9, .ref (gA g 24))]) C.1 hb dL_holds_227 hl (k := 12) rfl (nI_1 k) (by decide) rfl (fun ls hl => ?_)
                  refine lv_goto (tgt := 123) C.1 hb dL_holds_230 (by decide) ?_
                  refine W.widen (k := 30 + 290 * (k + 1)) (n := 600 + 1740 * (k + 1)) (by omega) (by omega) ?_
                  exact ih2 (k + 1) (by omega) (by omega) n2 X2 L2 hR2 _ _ hP hS ls (lv_sub hl [3, 4, 5, 6, 7, 8, 9, 10, 11, 12, 1, 0] rfl)
              refine lv_iload C.1 hb dL_holds_135 (lv_at hl 11 rfl) ?_
              refine lv_iconst (v := 5) C.1 hb dL_holds_137 (by decide) ?_
              refine lv_icmp_ge (tgt := 145) C.1 hb dL_holds_138 (by decide) (fun c179 => ?_) (fun c179 => ?_)
              · refine lv_aload_n C.1 hb dL_holds_145 rfl (lv_at hl 0 rfl) ?_
                refine lv_iconst (v := 2) C.1 hb dL_holds_146 (by decide) ?_
                refine lv_iload C.1 hb dL_holds_147 (lv_at hl 11 rfl) ?_
                refine lv_imul C.1 hb dL_holds_149 ?_
                refine toI (show _ = nI (2 * k) from (pk_mul 2 k)) ?_
                refine lv_bipush (v := 18) C.1 hb dL_holds_150 (by decide) ?_
                refine run_rd (cRunS (As := [.ref (gB g), .int (nI (2 * k)), .int 18]) (rest := []) C hb (hml.trans hl.1.symm) hP hS (k_L_from l g (X, L, []) (2 * k) 18 (by omega) (by decide) (by decide)) wm_98 wm_99 wm_100 wm_2 (n := 3) (by decide +kernel) rfl ⟨rfl, rfl, Nat.le_of_ble_eq_true rfl, Nat.le_of_ble_eq_true rfl⟩ (Nat.le_of_ble_eq_true rfl) rfl ⟨by show 30 + 290 * k + 0 ≤ 20000; omega, by show 600 + 1740 * k + 0 ≤ 110000; omega⟩ dL_holds_152) ?_
                exact K1 _ (fV_lt _ _ _ (by decide))
              · refine lv_iconst (v := 0) C.1 hb dL_holds_141 (by decide) ?_
                refine lv_goto (tgt := 155) C.1 hb dL_holds_142 (by decide) ?_
                exact K1 0 (by decide)
        exact key2 (60 - 0 + 1) 0 (by omega) (by omega) 0 XS0 LS0 lr_0 _ _ hP hS ls (lv_sub hl [2, 3, 4, 5, 6, 7, 8, 9, 10, 11, 1, 0] rfl)
      · have hlt : i < 12 := nle_nI (a := 12) (b := i) (by decide) (by omega) c176
        refine lv_aload C.1 hb dL_holds_63 (lv_at hl 8 rfl) ?_
        refine lv_iload C.1 hb dL_holds_65 (lv_at hl 10 rfl) ?_
        refine lv_sipush (v := 10000) C.1 hb dL_holds_67 (by decide) ?_
        refine stA_f (j := i) C hb hP hS rfl (by omega) dL_holds_70 (fun H locs hP hS => ?_)
        have hP : HW g (XS0, lf0 (i + 1), []) H := hP.cg (by show (XS0, va_up (lf0 i) 6 (upd (lf0 i 6) i 10000), []) = _; rw [lf0_s])
        refine lv_iinc (v := nI (i + 1)) (lv' := [(10, .int (nI (i + 1))), (0, .ref (gB g)), (1, .ref (gA g 0)), (2, .ref (gA g 17)), (3, .ref (gA g 18)), (4, .ref (gA g 19)), (5, .ref (gA g 20)), (6, .ref (gA g 21)), (7, .ref (gA g 22)), (8, .ref (gA g 23)), (9, .ref (gA g 24))]) C.1 hb dL_holds_71 hl (k := 10) rfl (nI_1 i) (by decide) rfl (fun ls hl => ?_)
        refine lv_goto (tgt := 56) C.1 hb dL_holds_74 (by decide) ?_
        exact ih (i + 1) (by omega) (by omega)  _ _ hP hS ls (lv_sub hl [1, 2, 3, 4, 5, 6, 7, 8, 9, 10, 0] rfl)
  exact key (12 - 0 + 1) 0 (by omega) (by omega)  _ _ hP hS ls (lv_sub hl [1, 2, 3, 4, 5, 6, 7, 8, 9, 10, 0] rfl)

set_option maxRecDepth 100000 in
set_option maxHeartbeats 4000000 in
theorem k_L_holds (l : Launch) (hl0 : l.stackTraces = false) (g : gG) : Met l yL_holds (wA yL_holds cL_holds 13 (some .boolean)) ({ frames := 9, cells := 20000, slots := 110000, locals := 400 }) (HPc g) (HQ g) 20000 110000 (Ab g) := by
  refine metH (by decide +kernel) (Nat.le_of_ble_eq_true rfl) ?_
  intro p e s m below meth c C hAO hz hb hml hret hlk ls hl
  have C : CW g RL p s m ([.ref (gB g)] : List Value).toArray := C
  obtain ⟨hx, hown, hW, hKS⟩ := id C
  have hK := hKS.1
  have hA : ∀ q : Nat, s.heap.size ≤ q → Ab g q := fun q h => Nat.le_trans hz h
  have hS : va_S (Ab g) s.heap s.heap [] := va_S.rf
  have hP : va_P (gD g) vwCl [] s.heap := fun k q h => by simp at h
  have hD : va_D (Ab g) [] := ⟨fun i j p q h => by simp at h, fun k q h => by simp at h⟩
  have hl : lv_has ls 13 [(0, .ref (gB g))] := hl
  refine va_new (own := RL) (ci := 0) (fs := [.null, .null, .null, .null, .null, .null, .null, .int 0, .int 0, .int 0, .int 0, .int 0, .long 0, .null, .null, .null]) (C := RX0) (T := TX0) (N := 16) hx hb hW inlX0 tyX0 tyX0_ok hown (hW _ wm_10) (hW _ wm_11) (hW _ wm_12) hK hP hD hS hA rfl (fun j hj => by rcases (show j = 0 ∨ j = 1 ∨ j = 2 ∨ j = 3 ∨ j = 4 ∨ j = 5 ∨ j = 6 ∨ j = 7 ∨ j = 8 ∨ j = 9 ∨ j = 10 ∨ j = 11 ∨ j = 12 ∨ j = 13 ∨ j = 14 ∨ j = 15 by omega) with rfl | rfl | rfl | rfl | rfl | rfl | rfl | rfl | rfl | rfl | rfl | rfl | rfl | rfl | rfl | rfl <;> rfl) (Nat.le_of_ble_eq_true rfl) (Nat.le_of_ble_eq_true rfl) dL_holds_0 (fun q0 H hP hD hS => ?_)
  have hP : va_P (gD g) vwCl [(q0, .inr (0, [.null, .null, .null, .null, .null, .null, .null, .int 0, .int 0, .int 0, .int 0, .int 0, .long 0, .null, .null, .null]))] H := hP
  have hD : va_D (Ab g) [(q0, .inr (0, [.null, .null, .null, .null, .null, .null, .null, .int 0, .int 0, .int 0, .int 0, .int 0, .long 0, .null, .null, .null]))] := hD
  refine lv_dup hx hb dL_holds_3 rfl ?_
  have hFc := va_free (wc := [(q0, .inr (0, [.null, .null, .null, .null, .null, .null, .null, .int 0, .int 0, .int 0, .int 0, .int 0, .long 0, .null, .null, .null]))]) hD hS hA [0] rfl
  refine va_callv (va_runI (Ts := WA) (own := RL) (As := []) (rest := [.ref q0]) ⟨hx, hb, hml, hown, hW⟩ (k_X0_init l (gD g) (gT g) q0 H.size) ⟨callB_of 0 hW (wA_in wm_17) rfl rfl rfl (hW _ wm_12) (hW _ wm_15) (by decide +kernel) ⟨(Nat.le_of_ble_eq_true rfl), (Nat.le_of_ble_eq_true rfl)⟩, rfl, hW _ wm_16⟩ ⟨fun a U g2 mk q => by obtain ⟨q0, q1, qP, qK, qA, qD⟩ := q; exact ⟨q0, q1, qP, va_K.moved (u := U) (U := U.calling g2 mk a) (Vm.Alike.refl U.vm) qK, va_AOA.moved (u := U) (U := U.calling g2 mk a) (Vm.Alike.refl U.vm) qA, qD⟩, fun U hU hW2 => ⟨rfl, by rw [hU], by rw [hU]; exact hP, va_K.moved hW2.alike hK, va_AOA.moved hW2.alike hAO, hD.weaken (fun _ _ _ _ => trivial)⟩⟩ rfl rfl hl.1 rfl (lv_room (Nat.le_of_ble_eq_true rfl)) dL_holds_4 ⟨(Nat.le_of_ble_eq_true rfl), (Nat.le_of_ble_eq_true rfl)⟩) hS (fun q _ h => hFc q h) hFc (fun a t H1 locs ht hvm hw hB hz9 hk1 hS => ?_)
  obtain ⟨hP1, -, hD1⟩ := hB
  rw [ht] at hP1
  obtain ⟨hP, hD⟩ := va_join (wr := []) (w1 := xCells (gT g) a WS0) hP hD [0] [] rfl rfl (by decide) (by decide) hk1 hFc hP1 hD1
  clear hFc hk1 hP1 hD1
  have ha0 : a 0 = q0 := hw
  generalize H1 = H at hP hS ⊢
  have hP : va_P (gD g) vwCl (xCells (gT g) a WS0) H := hP
  have hD : va_D (Ab g) (xCells (gT g) a WS0) := hD
  refine lv_astore_n (lv' := [(1, .ref (a 0)), (0, .ref (gB g))]) hx hb dL_holds_7 rfl hl (by decide) (by rw [ha0]; rfl) (fun ls hl => ?_)
  refine lv_bipush (v := 36) hx hb dL_holds_8 (by decide) ?_
  refine va_newa (atype := .int) (ty := .int) (N' := 36) (a0 := (36, .inl (fun _ => 0))) hx hb (hW _ wm_13) rfl hK hP hD hS hA (fun _ => rfl) (by decide) (by decide) (Nat.le_of_ble_eq_true rfl) (Nat.le_of_ble_eq_true rfl) (Nat.le_of_ble_eq_true rfl) dL_holds_10 (fun b1 cA H hK2 hP hD hS => ?_)
  have ec : cA = gT g 0 := ra_same hK2 4 0 rfl rfl (fun _ _ => rfl)
  subst ec
  clear hK2
  refine lv_astore_n (lv' := [(2, .ref b1), (1, .ref (a 0)), (0, .ref (gB g))]) hx hb dL_holds_12 rfl hl (by decide) rfl (fun ls hl => ?_)
  refine lv_bipush (v := 12) hx hb dL_holds_13 (by decide) ?_
  refine va_newa (atype := .int) (ty := .int) (N' := 12) (a0 := (12, .inl (fun _ => 0))) hx hb (hW _ wm_13) rfl hK hP hD hS hA (fun _ => rfl) (by decide) (by decide) (Nat.le_of_ble_eq_true rfl) (Nat.le_of_ble_eq_true rfl) (Nat.le_of_ble_eq_true rfl) dL_holds_15 (fun b2 cA H hK2 hP hD hS => ?_)
  have ec : cA = gT g 0 := ra_same hK2 4 0 rfl rfl (fun _ _ => rfl)
  subst ec
  clear hK2
  refine lv_astore_n (lv' := [(3, .ref b2), (2, .ref b1), (1, .ref (a 0)), (0, .ref (gB g))]) hx hb dL_holds_17 rfl hl (by decide) rfl (fun ls hl => ?_)
  refine lv_bipush (v := 12) hx hb dL_holds_18 (by decide) ?_
  refine va_newa (atype := .int) (ty := .int) (N' := 12) (a0 := (12, .inl (fun _ => 0))) hx hb (hW _ wm_13) rfl hK hP hD hS hA (fun _ => rfl) (by decide) (by decide) (Nat.le_of_ble_eq_true rfl) (Nat.le_of_ble_eq_true rfl) (Nat.le_of_ble_eq_true rfl) dL_holds_20 (fun b3 cA H hK2 hP hD hS => ?_)
  have ec : cA = gT g 0 := ra_same hK2 4 0 rfl rfl (fun _ _ => rfl)
  subst ec
  clear hK2
  refine lv_astore (lv' := [(4, .ref b3), (3, .ref b2), (2, .ref b1), (1, .ref (a 0)), (0, .ref (gB g))]) hx hb dL_holds_22 hl (by decide) rfl (fun ls hl => ?_)
  refine lv_bipush (v := 12) hx hb dL_holds_24 (by decide) ?_
  refine va_newa (atype := .int) (ty := .int) (N' := 12) (a0 := (12, .inl (fun _ => 0))) hx hb (hW _ wm_13) rfl hK hP hD hS hA (fun _ => rfl) (by decide) (by decide) (Nat.le_of_ble_eq_true rfl) (Nat.le_of_ble_eq_true rfl) (Nat.le_of_ble_eq_true rfl) dL_holds_26 (fun b4 cA H hK2 hP hD hS => ?_)
  have ec : cA = gT g 0 := ra_same hK2 4 0 rfl rfl (fun _ _ => rfl)
  subst ec
  clear hK2
  refine lv_astore (lv' := [(5, .ref b4), (4, .ref b3), (3, .ref b2), (2, .ref b1), (1, .ref (a 0)), (0, .ref (gB g))]) hx hb dL_holds_28 hl (by decide) rfl (fun ls hl => ?_)
  refine lv_bipush (v := 12) hx hb dL_holds_30 (by decide) ?_
  refine va_newa (atype := .int) (ty := .int) (N' := 12) (a0 := (12, .inl (fun _ => 0))) hx hb (hW _ wm_13) rfl hK hP hD hS hA (fun _ => rfl) (by decide) (by decide) (Nat.le_of_ble_eq_true rfl) (Nat.le_of_ble_eq_true rfl) (Nat.le_of_ble_eq_true rfl) dL_holds_32 (fun b5 cA H hK2 hP hD hS => ?_)
  have ec : cA = gT g 0 := ra_same hK2 4 0 rfl rfl (fun _ _ => rfl)
  subst ec
  clear hK2
  refine lv_astore (lv' := [(6, .ref b5), (5, .ref b4), (4, .ref b3), (3, .ref b2), (2, .ref b1), (1, .ref (a 0)), (0, .ref (gB g))]) hx hb dL_holds_34 hl (by decide) rfl (fun ls hl => ?_)
  refine lv_bipush (v := 12) hx hb dL_holds_36 (by decide) ?_
  refine va_newa (atype := .int) (ty := .int) (N' := 12) (a0 := (12, .inl (fun _ => 0))) hx hb (hW _ wm_13) rfl hK hP hD hS hA (fun _ => rfl) (by decide) (by decide) (Nat.le_of_ble_eq_true rfl) (Nat.le_of_ble_eq_true rfl) (Nat.le_of_ble_eq_true rfl) dL_holds_38 (fun b6 cA H hK2 hP hD hS => ?_)
  have ec : cA = gT g 0 := ra_same hK2 4 0 rfl rfl (fun _ _ => rfl)
  subst ec
  clear hK2
  refine lv_astore (lv' := [(7, .ref b6), (6, .ref b5), (5, .ref b4), (4, .ref b3), (3, .ref b2), (2, .ref b1), (1, .ref (a 0)), (0, .ref (gB g))]) hx hb dL_holds_40 hl (by decide) rfl (fun ls hl => ?_)
  refine lv_bipush (v := 12) hx hb dL_holds_42 (by decide) ?_
  refine va_newa (atype := .int) (ty := .int) (N' := 12) (a0 := (12, .inl (fun _ => 0))) hx hb (hW _ wm_13) rfl hK hP hD hS hA (fun _ => rfl) (by decide) (by decide) (Nat.le_of_ble_eq_true rfl) (Nat.le_of_ble_eq_true rfl) (Nat.le_of_ble_eq_true rfl) dL_holds_44 (fun b7 cA H hK2 hP hD hS => ?_)
  have ec : cA = gT g 0 := ra_same hK2 4 0 rfl rfl (fun _ _ => rfl)
  subst ec
  clear hK2
  refine lv_astore (lv' := [(8, .ref b7), (7, .ref b6), (6, .ref b5), (5, .ref b4), (4, .ref b3), (3, .ref b2), (2, .ref b1), (1, .ref (a 0)), (0, .ref (gB g))]) hx hb dL_holds_46 hl (by decide) rfl (fun ls hl => ?_)
  refine lv_iconst (v := 4) hx hb dL_holds_48 (by decide) ?_
  refine va_newa (atype := .int) (ty := .int) (N' := 4) (a0 := (4, .inl (fun _ => 0))) hx hb (hW _ wm_13) rfl hK hP hD hS hA (fun _ => rfl) (by decide) (by decide) (Nat.le_of_ble_eq_true rfl) (Nat.le_of_ble_eq_true rfl) (Nat.le_of_ble_eq_true rfl) dL_holds_49 (fun b8 cA H hK2 hP hD hS => ?_)
  have ec : cA = gT g 0 := ra_same hK2 4 0 rfl rfl (fun _ _ => rfl)
  subst ec
  clear hK2
  refine lv_astore (lv' := [(9, .ref b8), (8, .ref b7), (7, .ref b6), (6, .ref b5), (5, .ref b4), (4, .ref b3), (3, .ref b2), (2, .ref b1), (1, .ref (a 0)), (0, .ref (gB g))]) hx hb dL_holds_51 hl (by decide) rfl (fun ls hl => ?_)
  have hP8 : va_P (gD g) vwCl (w8 (gT g) a b1 b2 b3 b4 b5 b6 b7 b8) H := hP
  have hD8 : va_D (Ab g) (w8 (gT g) a b1 b2 b3 b4 b5 b6 b7 b8) := hD
  refine W.widen (k := 30) (n := 600) (Nat.le_of_ble_eq_true rfl) (Nat.le_of_ble_eq_true rfl) ?_
  exact holds_rest l hl0 (gOf g a b1 b2 b3 b4 b5 b6 b7 b8) ⟨hx, hown, hW, KS_of g a b1 b2 b3 b4 b5 b6 b7 b8 hKS⟩ hb hml hret hlk (w8_HW hP8 hD8) hS (lv_sub hl [9, 8, 7, 6, 5, 4, 3, 2, 1, 0] rfl)

set_option maxRecDepth 100000 in
set_option maxHeartbeats 4000000 in
theorem k_L_isHeld (l : Launch) (hl0 : l.stackTraces = false) (g : gG) : Met l yL_isHeld (wL yL_isHeld cL_isHeld 2 (some .boolean) [(0, 4, 5, 51), (0, 4, 8, 147), (0, 4, 11, 149)]) ({ frames := 10, cells := 20000, slots := 110000, locals := 440 }) (HPc g) (HQ g) 20000 110000 (Ab g) := by
  refine metHL (by decide +kernel) (Nat.le_of_ble_eq_true rfl) ?_
  intro p e s m below meth c C hAO hz hb hml hret hlk ls hl
  have C : CW g RL p s m ([.ref (gB g)] : List Value).toArray := C
  have hS : va_S (Ab g) s.heap s.heap [] := va_S.rf
  have hl : lv_has ls 2 [(0, .ref (gB g))] := hl
  refine lv_aload_n C.1 hb dL_isHeld_0 rfl (lv_at hl 0 rfl) ?_
  refine run_hq (cRunH C hAO hz hb (hml.trans hl.1.symm) hS (k_L_holds l hl0 g) wm_7 wm_8 wm_9 wm_2 (by decide +kernel) ⟨rfl, rfl, Nat.le_of_ble_eq_true rfl, Nat.le_of_ble_eq_true rfl⟩ ⟨Nat.le_of_ble_eq_true rfl, Nat.le_of_ble_eq_true rfl⟩ dL_isHeld_1) hS (fun H locs hS => ?_)
  exact hqZ (by omega) (by omega) C hb hret hlk hS dL_isHeld_4 rfl
