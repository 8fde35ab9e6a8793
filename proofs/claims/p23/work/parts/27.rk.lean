set_option maxRecDepth 100000 in
set_option maxHeartbeats 4000000 in
theorem k_L_isRanked (l : Launch) (hl0 : l.stackTraces = false) (g : gG) (S : WS) (n : Nat) (hR : LR n S S) : Met l yL_isRanked (wA yL_isRanked cL_isRanked 16 (some .boolean)) ({ frames := 7, cells := 12, slots := 72, locals := 290 }) (PW g S [.ref (gA g 0), .ref (gA g 17), .ref (gA g 18), .ref (gA g 20), .ref (gA g 22), .ref (gA g 23), .ref (gA g 24), .int (nI (xCnt (xLiv S) n))]) (WQ g S (some (.int (bI true)))) 12 72 (Ab g) := by
  refine metI (by decide +kernel) (Nat.le_of_ble_eq_true rfl) ?_
  intro p e s m below meth c C hb hml hret hlk hP ls hl
  have C : CW g RL p s m ([.ref (gA g 0), .ref (gA g 17), .ref (gA g 18), .ref (gA g 20), .ref (gA g 22), .ref (gA g 23), .ref (gA g 24), .int (nI (xCnt (xLiv S) n))] : List Value).toArray := C
  have hS : va_S (Ab g) s.heap s.heap [] := va_S.rf
  have hl : lv_has ls 16 [(0, .ref (gA g 0)), (1, .ref (gA g 17)), (2, .ref (gA g 18)), (3, .ref (gA g 20)), (4, .ref (gA g 22)), (5, .ref (gA g 23)), (6, .ref (gA g 24)), (7, .int (nI (xCnt (xLiv S) n)))] := hl
  have hn12 := lr_n hR
  have hI := hR.1.1
  have hRW : xCnt (xLiv S) n ≤ n := xCnt_le _ _
  refine lv_aload_n C.1 hb dL_isRanked_0 rfl (lv_at hl 2 rfl) ?_
  refine lv_aload_n C.1 hb dL_isRanked_1 rfl (lv_at hl 3 rfl) ?_
  refine lv_aload C.1 hb dL_isRanked_2 (lv_at hl 4 rfl) ?_
  refine lv_aload C.1 hb dL_isRanked_4 (lv_at hl 6 rfl) ?_
  refine run_rd (cRunS (As := [.ref (gA g 18), .ref (gA g 20), .ref (gA g 22), .ref (gA g 24)]) (rest := []) C hb (hml.trans hl.1.symm) hP hS (k_L_base l g S n S hR) wm_195 wm_196 wm_197 wm_2 (n := 4) (by decide +kernel) rfl ⟨rfl, rfl, Nat.le_of_ble_eq_true rfl, Nat.le_of_ble_eq_true rfl⟩ (Nat.le_of_ble_eq_true rfl) rfl ⟨by show 0 + 0 ≤ 12; omega, by show 0 + 0 ≤ 72; omega⟩ dL_isRanked_6) ?_
  refine toL (show _ = xBase S from (lr_base hR).symm) ?_
  refine lv_lstore (lv' := [(8, .long (xBase S)), (0, .ref (gA g 0)), (1, .ref (gA g 17)), (2, .ref (gA g 18)), (3, .ref (gA g 20)), (4, .ref (gA g 22)), (5, .ref (gA g 23)), (6, .ref (gA g 24)), (7, .int (nI (xCnt (xLiv S) n)))]) C.1 hb dL_isRanked_9 hl (by decide) rfl (fun ls hl => ?_)
  refine lv_iconst (v := 0) C.1 hb dL_isRanked_11 (by decide) ?_
  refine lv_istore (lv' := [(10, .int 0), (8, .long (xBase S)), (0, .ref (gA g 0)), (1, .ref (gA g 17)), (2, .ref (gA g 18)), (3, .ref (gA g 20)), (4, .ref (gA g 22)), (5, .ref (gA g 23)), (6, .ref (gA g 24)), (7, .int (nI (xCnt (xLiv S) n)))]) C.1 hb dL_isRanked_12 hl (by decide) rfl (fun ls hl => ?_)
  refine lv_iconst (v := 1) C.1 hb dL_isRanked_14 (by decide) ?_
  refine lv_istore (lv' := [(11, .int 1), (10, .int 0), (8, .long (xBase S)), (0, .ref (gA g 0)), (1, .ref (gA g 17)), (2, .ref (gA g 18)), (3, .ref (gA g 20)), (4, .ref (gA g 22)), (5, .ref (gA g 23)), (6, .ref (gA g 24)), (7, .int (nI (xCnt (xLiv S) n)))]) C.1 hb dL_isRanked_15 hl (by decide) rfl (fun ls hl => ?_)
  refine lv_iconst (v := 0) C.1 hb dL_isRanked_17 (by decide) ?_
  refine lv_istore (lv' := [(12, .int 0), (11, .int 1), (10, .int 0), (8, .long (xBase S)), (0, .ref (gA g 0)), (1, .ref (gA g 17)), (2, .ref (gA g 18)), (3, .ref (gA g 20)), (4, .ref (gA g 22)), (5, .ref (gA g 23)), (6, .ref (gA g 24)), (7, .int (nI (xCnt (xLiv S) n)))]) C.1 hb dL_isRanked_18 hl (by decide) rfl (fun ls hl => ?_)
  refine W.widen (k := 0) (n := 6 * 0) (by omega) (by omega) ?_
  have key : ∀ f j : Nat, (xCnt (xLiv S) n) - j < f → j ≤ (xCnt (xLiv S) n) → ∀ (M : Nat), (RkO S n j M) → ∀ (H : Heap) (locs : List Loc), HW g S H → va_S (Ab g) s.heap H locs → ∀ ls : Array Slot, lv_has ls 16 [(0, .ref (gA g 0)), (1, .ref (gA g 17)), (2, .ref (gA g 18)), (3, .ref (gA g 20)), (4, .ref (gA g 22)), (5, .ref (gA g 23)), (6, .ref (gA g 24)), (7, .int (nI (xCnt (xLiv S) n))), (8, .long (xBase S)), (10, .int (nI M)), (11, .int 1), (12, .int (nI j))] → W p l e ({ frames := 7, cells := 12, slots := 72, locals := 290 }) s m ([.ref (gA g 0), .ref (gA g 17), .ref (gA g 18), .ref (gA g 20), .ref (gA g 22), .ref (gA g 23), .ref (gA g 24), .int (nI (xCnt (xLiv S) n))] : List Value).toArray below meth c H locs j (6 * j) (MQ below (WQ g S (some (.int (bI true)))) ([.ref (gA g 0), .ref (gA g 17), .ref (gA g 18), .ref (gA g 20), .ref (gA g 22), .ref (gA g 23), .ref (gA g 24), .int (nI (xCnt (xLiv S) n))] : List Value).toArray s 12 72 (Ab g)) (F0 m 20 ls []) := by
    intro f
    induction f with
    | zero => intro j h; exact absurd h (Nat.not_lt_zero _)
    | succ f ih =>
      intro j hfj hj M hO H locs hP hS ls hl
      refine lv_iload C.1 hb dL_isRanked_20 (lv_at hl 11 rfl) ?_
      refine lv_iload C.1 hb dL_isRanked_22 (lv_at hl 7 rfl) ?_
      refine lv_icmp_ge (tgt := 172) C.1 hb dL_isRanked_24 (by decide) (fun c121 => ?_) (fun c121 => ?_)
      · have hin : j = (xCnt (xLiv S) n) := by have := le_nI (a := xCnt (xLiv S) n) (b := j) (by omega) (by omega) c121; omega
        rw [hin] at hl
        refine lv_iload C.1 hb dL_isRanked_172 (lv_at hl 10 rfl) ?_
        exact weZ (by omega) (by omega) C hb hret hlk hP hS dL_isRanked_174 rfl rfl
      · have hpl : j < xCnt (xLiv S) n := nle_nI (a := xCnt (xLiv S) n) (b := j) (by omega) (by omega) c121
        have hM := hO.1
        refine lv_iload C.1 hb dL_isRanked_27 (lv_at hl 10 rfl) ?_
        refine lv_if_eq (tgt := 172) C.1 hb dL_isRanked_29 (by decide) (fun c9 => absurd c9 (by decide)) (fun _ => ?_)
        refine lv_iconst (v := (-1)) C.1 hb dL_isRanked_32 (by decide) ?_
        refine lv_istore (lv' := [(13, .int (-1)), (0, .ref (gA g 0)), (1, .ref (gA g 17)), (2, .ref (gA g 18)), (3, .ref (gA g 20)), (4, .ref (gA g 22)), (5, .ref (gA g 23)), (6, .ref (gA g 24)), (7, .int (nI (xCnt (xLiv S) n))), (8, .long (xBase S)), (10, .int (nI M)), (11, .int 1), (12, .int (nI j))]) C.1 hb dL_isRanked_33 hl (by decide) rfl (fun ls hl => ?_)
        refine lv_iconst (v := 0) C.1 hb dL_isRanked_35 (by decide) ?_
        refine lv_istore (lv' := [(14, .int 0), (13, .int (-1)), (0, .ref (gA g 0)), (1, .ref (gA g 17)), (2, .ref (gA g 18)), (3, .ref (gA g 20)), (4, .ref (gA g 22)), (5, .ref (gA g 23)), (6, .ref (gA g 24)), (7, .int (nI (xCnt (xLiv S) n))), (8, .long (xBase S)), (10, .int (nI M)), (11, .int 1), (12, .int (nI j))]) C.1 hb dL_isRanked_36 hl (by decide) rfl (fun ls hl => ?_)
        have key2 : ∀ f k : Nat, n - k < f → k ≤ n → ∀ (best : Int32), (RkI S M k best) → ∀ (H : Heap) (locs : List Loc), HW g S H → va_S (Ab g) s.heap H locs → ∀ ls : Array Slot, lv_has ls 16 [(0, .ref (gA g 0)), (1, .ref (gA g 17)), (2, .ref (gA g 18)), (3, .ref (gA g 20)), (4, .ref (gA g 22)), (5, .ref (gA g 23)), (6, .ref (gA g 24)), (7, .int (nI (xCnt (xLiv S) n))), (8, .long (xBase S)), (10, .int (nI M)), (11, .int 1), (12, .int (nI j)), (13, .int best), (14, .int (nI k))] → W p l e ({ frames := 7, cells := 12, slots := 72, locals := 290 }) s m ([.ref (gA g 0), .ref (gA g 17), .ref (gA g 18), .ref (gA g 20), .ref (gA g 22), .ref (gA g 23), .ref (gA g 24), .int (nI (xCnt (xLiv S) n))] : List Value).toArray below meth c H locs j (6 * j) (MQ below (WQ g S (some (.int (bI true)))) ([.ref (gA g 0), .ref (gA g 17), .ref (gA g 18), .ref (gA g 20), .ref (gA g 22), .ref (gA g 23), .ref (gA g 24), .int (nI (xCnt (xLiv S) n))] : List Value).toArray s 12 72 (Ab g)) (F0 m 38 ls []) := by
          intro f
          induction f with
          | zero => intro k h; exact absurd h (Nat.not_lt_zero _)
          | succ f ih2 =>
            intro k hfk hk best hbe H locs hP hS ls hl
            refine lv_iload C.1 hb dL_isRanked_38 (lv_at hl 13 rfl) ?_
            refine lv_aload C.1 hb dL_isRanked_40 (lv_at hl 6 rfl) ?_
            refine lv_iconst (v := 0) C.1 hb dL_isRanked_42 (by decide) ?_
            refine ldA_m (j := 0) C hb hP (by decide) (by decide) dL_isRanked_43 ?_
            refine toI (lr_m0 hR) ?_
            refine lv_icmp_ge (tgt := 139) C.1 hb dL_isRanked_44 (by decide) (fun c122 => ?_) (fun c122 => ?_)
            · have hin : k = n := by have := le_nI (a := n) (b := k) (by omega) (by omega) c122; omega
              rw [hin] at hl
              rw [hin] at hbe
              obtain ⟨b, hb1, hb2, hb3, hb4⟩ := rk_end hR.1 hO hbe hpl
              subst hb2
              refine lv_iload C.1 hb dL_isRanked_139 (lv_at hl 9 rfl) ?_
              refine lv_iconst (v := 1) C.1 hb dL_isRanked_141 (by decide) ?_
              refine lv_iload C.1 hb dL_isRanked_142 (lv_at hl 12 rfl) ?_
              refine lv_ishl C.1 hb dL_isRanked_144 ?_
              refine toI (show _ = nI (2 ^ b) from (rk_shl (by omega))) ?_
              refine lv_ior C.1 hb dL_isRanked_145 ?_
              refine toI (show _ = nI (M ||| 2 ^ b) from (rk_or _ _)) ?_
              refine lv_istore (lv' := [(10, .int (nI (M ||| 2 ^ b))), (0, .ref (gA g 0)), (1, .ref (gA g 17)), (2, .ref (gA g 18)), (3, .ref (gA g 20)), (4, .ref (gA g 22)), (5, .ref (gA g 23)), (6, .ref (gA g 24)), (7, .int (nI (xCnt (xLiv S) n))), (8, .long (xBase S)), (11, .int 1), (12, .int (nI j)), (13, .int (nI b)), (14, .int (nI n))]) C.1 hb dL_isRanked_146 hl (by decide) rfl (fun ls hl => ?_)
              refine lv_aload_n C.1 hb dL_isRanked_148 rfl (lv_at hl 1 rfl) ?_
              refine lv_iload C.1 hb dL_isRanked_149 (lv_at hl 11 rfl) ?_
              refine run_txn (cRunTX (As := [.int (nI j)]) (rest := []) C hb (hml.trans hl.1.symm) hP hS rfl (k_X0_rankedAt l hl0 g S n hI (nI j)) wm_268 wm_269 wm_270 wm_271 wm_12 (n := 1) (by decide +kernel) rfl ⟨rfl, rfl, Nat.le_of_ble_eq_true rfl, Nat.le_of_ble_eq_true rfl⟩ (Nat.le_of_ble_eq_true rfl) rfl ⟨by show j + 1 ≤ 12; omega, by show 6 * j + 6 ≤ 72; omega⟩ dL_isRanked_151) (by unfold xE_rank; rw [hb3]) hS (fun H locs hP hS => ?_)
              refine toI (show _ = nI b from (by rw [hb3]; rfl)) ?_
              refine lv_iload C.1 hb dL_isRanked_154 (lv_at hl 12 rfl) ?_
              refine lv_icmp_ne (tgt := 163) C.1 hb dL_isRanked_156 (by decide) (fun c9 => absurd (rfl : nI b = nI b) c9) (fun _ => ?_)
              refine lv_iconst (v := 1) C.1 hb dL_isRanked_159 (by decide) ?_
              refine lv_goto (tgt := 164) C.1 hb dL_isRanked_160 (by decide) ?_
              refine lv_istore (lv' := [(11, .int 1), (10, .int (nI (M ||| 2 ^ b))), (0, .ref (gA g 0)), (1, .ref (gA g 17)), (2, .ref (gA g 18)), (3, .ref (gA g 20)), (4, .ref (gA g 22)), (5, .ref (gA g 23)), (6, .ref (gA g 24)), (7, .int (nI (xCnt (xLiv S) n))), (8, .long (xBase S)), (12, .int (nI j)), (13, .int (nI b)), (14, .int (nI n))]) C.1 hb dL_isRanked_164 hl (by decide) rfl (fun ls hl => ?_)
              refine lv_iinc (v := nI (j + 1)) (lv' := [(12, .int (nI (j + 1))), (11, .int 1), (10, .int (nI (M ||| 2 ^ b))), (0, .ref (gA g 0)), (1, .ref (gA g 17)), (2, .ref (gA g 18)), (3, .ref (gA g 20)), (4, .ref (gA g 22)), (5, .ref (gA g 23)), (6, .ref (gA g 24)), (7, .int (nI (xCnt (xLiv S) n))), (8, .long (xBase S)), (13, .int (nI b)), (14, .int (nI n))]) C.1 hb dL_isRanked_166 hl (k := 11) rfl (nI_1 j) (by decide) rfl (fun ls hl => ?_)
              refine lv_goto (tgt := 20) C.1 hb dL_isRanked_169 (by decide) ?_
              refine W.widen (k := (j + 1)) (n := 6 * (j + 1)) (by omega) (by omega) ?_
              exact ih (j + 1) (by omega) (by omega) (M ||| 2 ^ b) hb4 _ _ hP hS ls (lv_sub hl [3, 4, 5, 6, 7, 8, 9, 10, 11, 2, 1, 0] rfl)
            · have hlt : k < n := nle_nI (a := n) (b := k) (by omega) (by omega) c122
              refine lv_aload C.1 hb dL_isRanked_47 (lv_at hl 4 rfl) ?_
              refine lv_iload C.1 hb dL_isRanked_49 (lv_at hl 13 rfl) ?_
              refine ldA_g (j := k) C hb hP rfl (by omega) dL_isRanked_51 ?_
              refine lv_if_ne (tgt := 133) C.1 hb dL_isRanked_52 (by decide) (fun c123 => ?_) (fun c123 => ?_)
              · refine lv_iinc (v := nI (k + 1)) (lv' := [(14, .int (nI (k + 1))), (0, .ref (gA g 0)), (1, .ref (gA g 17)), (2, .ref (gA g 18)), (3, .ref (gA g 20)), (4, .ref (gA g 22)), (5, .ref (gA g 23)), (6, .ref (gA g 24)), (7, .int (nI (xCnt (xLiv S) n))), (8, .long (xBase S)), (10, .int (nI M)), (11, .int 1), (12, .int (nI j)), (13, .int best)]) C.1 hb dL_isRanked_133 hl (k := 13) rfl (nI_1 k) (by decide) rfl (fun ls hl => ?_)
                refine lv_goto (tgt := 38) C.1 hb dL_isRanked_136 (by decide) ?_
                exact ih2 (k + 1) (by omega) (by omega) best (rki_skip hbe (fun q => by have := lr_z1 hR hlt c123; simp [xLiv, this] at q)) _ _ hP hS ls (lv_sub hl [1, 2, 3, 4, 5, 6, 7, 8, 9, 10, 11, 12, 13, 0] rfl)
              · have vk : xLiv S k = true := by simp [xLiv, lr_z0 hR hlt c123]
                refine lv_iload C.1 hb dL_isRanked_55 (lv_at hl 9 rfl) ?_
                refine lv_iload C.1 hb dL_isRanked_57 (lv_at hl 13 rfl) ?_
                refine lv_ishr C.1 hb dL_isRanked_59 ?_
                refine lv_iconst (v := 1) C.1 hb dL_isRanked_60 (by decide) ?_
                refine lv_iand C.1 hb dL_isRanked_61 ?_
                refine toI (show _ = nI (M / 2 ^ k % 2) from (rk_bit hM (by omega))) ?_
                refine lv_if_ne (tgt := 133) C.1 hb dL_isRanked_62 (by decide) (fun c124 => ?_) (fun c124 => ?_)
                · refine lv_iinc (v := nI (k + 1)) (lv' := [(14, .int (nI (k + 1))), (0, .ref (gA g 0)), (1, .ref (gA g 17)), (2, .ref (gA g 18)), (3, .ref (gA g 20)), (4, .ref (gA g 22)), (5, .ref (gA g 23)), (6, .ref (gA g 24)), (7, .int (nI (xCnt (xLiv S) n))), (8, .long (xBase S)), (10, .int (nI M)), (11, .int 1), (12, .int (nI j)), (13, .int best)]) C.1 hb dL_isRanked_133 hl (k := 13) rfl (nI_1 k) (by decide) rfl (fun ls hl => ?_)
                  refine lv_goto (tgt := 38) C.1 hb dL_isRanked_136 (by decide) ?_
                  exact ih2 (k + 1) (by omega) (by omega) best (rki_skip hbe (fun q => by have := rk_bt c124; rw [q.2] at this; cases this)) _ _ hP hS ls (lv_sub hl [1, 2, 3, 4, 5, 6, 7, 8, 9, 10, 11, 12, 13, 0] rfl)
                · have mk := rk_bf c124
                  refine lv_iload C.1 hb dL_isRanked_65 (lv_at hl 12 rfl) ?_
                  refine lv_if_lt (tgt := 112) C.1 hb dL_isRanked_67 (by decide) (fun c125 => ?_) (fun c125 => ?_)
                  · refine lv_iconst (v := 1) C.1 hb dL_isRanked_112 (by decide) ?_
                    refine lv_goto (tgt := 117) C.1 hb dL_isRanked_113 (by decide) ?_
                    refine lv_istore (lv' := [(15, .int 1), (0, .ref (gA g 0)), (1, .ref (gA g 17)), (2, .ref (gA g 18)), (3, .ref (gA g 20)), (4, .ref (gA g 22)), (5, .ref (gA g 23)), (6, .ref (gA g 24)), (7, .int (nI (xCnt (xLiv S) n))), (8, .long (xBase S)), (10, .int (nI M)), (11, .int 1), (12, .int (nI j)), (13, .int best), (14, .int (nI k))]) C.1 hb dL_isRanked_117 hl (by decide) rfl (fun ls hl => ?_)
                    refine lv_iload C.1 hb dL_isRanked_119 (lv_at hl 0 rfl) ?_
                    refine lv_if_eq (tgt := 129) C.1 hb dL_isRanked_121 (by decide) (fun c9 => absurd c9 (by decide)) (fun _ => ?_)
                    refine lv_iload C.1 hb dL_isRanked_124 (lv_at hl 14 rfl) ?_
                    refine lv_goto (tgt := 131) C.1 hb dL_isRanked_126 (by decide) ?_
                    refine lv_istore (lv' := [(13, .int (nI k)), (15, .int 1), (0, .ref (gA g 0)), (1, .ref (gA g 17)), (2, .ref (gA g 18)), (3, .ref (gA g 20)), (4, .ref (gA g 22)), (5, .ref (gA g 23)), (6, .ref (gA g 24)), (7, .int (nI (xCnt (xLiv S) n))), (8, .long (xBase S)), (10, .int (nI M)), (11, .int 1), (12, .int (nI j)), (14, .int (nI k))]) C.1 hb dL_isRanked_131 hl (by decide) rfl (fun ls hl => ?_)
                    refine lv_iinc (v := nI (k + 1)) (lv' := [(14, .int (nI (k + 1))), (13, .int (nI k)), (15, .int 1), (0, .ref (gA g 0)), (1, .ref (gA g 17)), (2, .ref (gA g 18)), (3, .ref (gA g 20)), (4, .ref (gA g 22)), (5, .ref (gA g 23)), (6, .ref (gA g 24)), (7, .int (nI (xCnt (xLiv S) n))), (8, .long (xBase S)), (10, .int (nI M)), (11, .int 1), (12, .int (nI j))]) C.1 hb dL_isRanked_133 hl (k := 14) rfl (nI_1 k) (by decide) rfl (fun ls hl => ?_)
                    refine lv_goto (tgt := 38) C.1 hb dL_isRanked_136 (by decide) ?_
                    exact ih2 (k + 1) (by omega) (by omega) (nI k) (rki_neg hbe c125 (by omega) vk mk) _ _ hP hS ls (lv_sub hl [3, 4, 5, 6, 7, 8, 9, 10, 11, 12, 13, 14, 1, 0] rfl)
                  · obtain ⟨b, hb1, hb2, hb3, hb4, hb5⟩ := rki_pos hbe c125
                    subst hb2
                    refine lv_aload_n C.1 hb dL_isRanked_70 rfl (lv_at hl 3 rfl) ?_
                    refine lv_iload C.1 hb dL_isRanked_71 (lv_at hl 13 rfl) ?_
                    refine ldA_d (j := k) C hb hP rfl (by omega) dL_isRanked_73 ?_
                    refine lv_i2l C.1 hb dL_isRanked_74 rfl ?_
                    refine lv_aload_n C.1 hb dL_isRanked_75 rfl (lv_at hl 1 rfl) ?_
                    refine lv_aload_n C.1 hb dL_isRanked_76 rfl (lv_at hl 2 rfl) ?_
                    refine lv_aload C.1 hb dL_isRanked_77 (lv_at hl 5 rfl) ?_
                    refine lv_iload C.1 hb dL_isRanked_79 (lv_at hl 12 rfl) ?_
                    refine lv_lload C.1 hb dL_isRanked_81 (lv_at hl 8 rfl) ?_
                    refine run_rd (cRunS (As := [.ref (gA g 17), .ref (gA g 18), .ref (gA g 23), .int (nI b), .long (xBase S)]) (rest := [.long (lA S 3 k).toInt64]) C hb (hml.trans hl.1.symm) hP hS (k_L_fitted l g S n S hR b (by omega)) wm_198 wm_199 wm_200 wm_2 (n := 5) (by decide +kernel) rfl ⟨rfl, rfl, Nat.le_of_ble_eq_true rfl, Nat.le_of_ble_eq_true rfl⟩ (Nat.le_of_ble_eq_true rfl) rfl ⟨by show j + 0 ≤ 12; omega, by show 6 * j + 0 ≤ 72; omega⟩ dL_isRanked_83) ?_
                    refine lv_lconst (v := 1) C.1 hb dL_isRanked_86 (by decide) ?_
                    refine lv_ladd C.1 hb dL_isRanked_87 ?_
                    refine lv_lmul C.1 hb dL_isRanked_88 ?_
                    refine lv_aload_n C.1 hb dL_isRanked_89 rfl (lv_at hl 3 rfl) ?_
                    refine lv_iload C.1 hb dL_isRanked_90 (lv_at hl 12 rfl) ?_
                    refine ldA_d (j := b) C hb hP rfl (by omega) dL_isRanked_92 ?_
                    refine lv_i2l C.1 hb dL_isRanked_93 rfl ?_
                    refine lv_aload_n C.1 hb dL_isRanked_94 rfl (lv_at hl 1 rfl) ?_
                    refine lv_aload_n C.1 hb dL_isRanked_95 rfl (lv_at hl 2 rfl) ?_
                    refine lv_aload C.1 hb dL_isRanked_96 (lv_at hl 5 rfl) ?_
                    refine lv_iload C.1 hb dL_isRanked_98 (lv_at hl 13 rfl) ?_
                    refine lv_lload C.1 hb dL_isRanked_100 (lv_at hl 8 rfl) ?_
                    refine run_rd (cRunS (As := [.ref (gA g 17), .ref (gA g 18), .ref (gA g 23), .int (nI k), .long (xBase S)]) (rest := [.long (lA S 3 b).toInt64, .long ((lA S 3 k).toInt64 * ((xFit S b) + 1))]) C hb (hml.trans hl.1.symm) hP hS (k_L_fitted l g S n S hR k hlt) wm_198 wm_199 wm_200 wm_2 (n := 5) (by decide +kernel) rfl ⟨rfl, rfl, Nat.le_of_ble_eq_true rfl, Nat.le_of_ble_eq_true rfl⟩ (Nat.le_of_ble_eq_true rfl) rfl ⟨by show j + 0 ≤ 12; omega, by show 6 * j + 0 ≤ 72; omega⟩ dL_isRanked_102) ?_
                    refine lv_lconst (v := 1) C.1 hb dL_isRanked_105 (by decide) ?_
                    refine lv_ladd C.1 hb dL_isRanked_106 ?_
                    refine lv_lmul C.1 hb dL_isRanked_107 ?_
                    refine lc_le (tgt := 116) C hb dL_isRanked_108 dL_isRanked_109 (by decide) (fun c126 => ?_) (fun c126 => ?_)
                    · refine lv_iconst (v := 0) C.1 hb dL_isRanked_116 (by decide) ?_
                      refine lv_istore (lv' := [(15, .int 0), (0, .ref (gA g 0)), (1, .ref (gA g 17)), (2, .ref (gA g 18)), (3, .ref (gA g 20)), (4, .ref (gA g 22)), (5, .ref (gA g 23)), (6, .ref (gA g 24)), (7, .int (nI (xCnt (xLiv S) n))), (8, .long (xBase S)), (10, .int (nI M)), (11, .int 1), (12, .int (nI j)), (13, .int (nI b)), (14, .int (nI k))]) C.1 hb dL_isRanked_117 hl (by decide) rfl (fun ls hl => ?_)
                      refine lv_iload C.1 hb dL_isRanked_119 (lv_at hl 0 rfl) ?_
                      refine lv_if_eq (tgt := 129) C.1 hb dL_isRanked_121 (by decide) (fun _ => ?_) (fun c9 => absurd (by decide) c9)
                      refine lv_iload C.1 hb dL_isRanked_129 (lv_at hl 13 rfl) ?_
                      refine lv_istore (lv' := [(13, .int (nI b)), (15, .int 0), (0, .ref (gA g 0)), (1, .ref (gA g 17)), (2, .ref (gA g 18)), (3, .ref (gA g 20)), (4, .ref (gA g 22)), (5, .ref (gA g 23)), (6, .ref (gA g 24)), (7, .int (nI (xCnt (xLiv S) n))), (8, .long (xBase S)), (10, .int (nI M)), (11, .int 1), (12, .int (nI j)), (14, .int (nI k))]) C.1 hb dL_isRanked_131 hl (by decide) rfl (fun ls hl => ?_)
                      refine lv_iinc (v := nI (k + 1)) (lv' := [(14, .int (nI (k + 1))), (13, .int (nI b)), (15, .int 0), (0, .ref (gA g 0)), (1, .ref (gA g 17)), (2, .ref (gA g 18)), (3, .ref (gA g 20)), (4, .ref (gA g 22)), (5, .ref (gA g 23)), (6, .ref (gA g 24)), (7, .int (nI (xCnt (xLiv S) n))), (8, .long (xBase S)), (10, .int (nI M)), (11, .int 1), (12, .int (nI j))]) C.1 hb dL_isRanked_133 hl (k := 14) rfl (nI_1 k) (by decide) rfl (fun ls hl => ?_)
                      refine lv_goto (tgt := 38) C.1 hb dL_isRanked_136 (by decide) ?_
                      exact ih2 (k + 1) (by omega) (by omega) (nI b) (rki_less hR hlt hb1 hb3 hb4 hb5 vk c126) _ _ hP hS ls (lv_sub hl [3, 4, 5, 6, 7, 8, 9, 10, 11, 12, 13, 14, 1, 0] rfl)
                    · refine lv_iconst (v := 1) C.1 hb dL_isRanked_112 (by decide) ?_
                      refine lv_goto (tgt := 117) C.1 hb dL_isRanked_113 (by decide) ?_
                      refine lv_istore (lv' := [(15, .int 1), (0, .ref (gA g 0)), (1, .ref (gA g 17)), (2, .ref (gA g 18)), (3, .ref (gA g 20)), (4, .ref (gA g 22)), (5, .ref (gA g 23)), (6, .ref (gA g 24)), (7, .int (nI (xCnt (xLiv S) n))), (8, .long (xBase S)), (10, .int (nI M)), (11, .int 1), (12, .int (nI j)), (13, .int (nI b)), (14, .int (nI k))]) C.1 hb dL_isRanked_117 hl (by decide) rfl (fun ls hl => ?_)
                      refine lv_iload C.1 hb dL_isRanked_119 (lv_at hl 0 rfl) ?_
                      refine lv_if_eq (tgt := 129) C.1 hb dL_isRanked_121 (by decide) (fun c9 => absurd c9 (by decide)) (fun _ => ?_)
                      refine lv_iload C.1 hb dL_isRanked_124 (lv_at hl 14 rfl) ?_
                      refine lv_goto (tgt := 131) C.1 hb dL_isRanked_126 (by decide) ?_
                      refine lv_istore (lv' := [(13, .int (nI k)), (15, .int 1), (0, .ref (gA g 0)), (1, .ref (gA g 17)), (2, .ref (gA g 18)), (3, .ref (gA g 20)), (4, .ref (gA g 22)), (5, .ref (gA g 23)), (6, .ref (gA g 24)), (7, .int (nI (xCnt (xLiv S) n))), (8, .long (xBase S)), (10, .int (nI M)), (11, .int 1), (12, .int (nI j)), (14, .int (nI k))]) C.1 hb dL_isRanked_131 hl (by decide) rfl (fun ls hl => ?_)
                      refine lv_iinc (v := nI (k + 1)) (lv' := [(14, .int (nI (k + 1))), (13, .int (nI k)), (15, .int 1), (0, .ref (gA g 0)), (1, .ref (gA g 17)), (2, .ref (gA g 18)), (3, .ref (gA g 20)), (4, .ref (gA g 22)), (5, .ref (gA g 23)), (6, .ref (gA g 24)), (7, .int (nI (xCnt (xLiv S) n))), (8, .long (xBase S)), (10, .int (nI M)), (11, .int 1), (12, .int (nI j))]) C.1 hb dL_isRanked_133 hl (k := 14) rfl (nI_1 k) (by decide) rfl (fun ls hl => ?_)
                      refine lv_goto (tgt := 38) C.1 hb dL_isRanked_136 (by decide) ?_
                      exact ih2 (k + 1) (by omega) (by omega) (nI k) (rki_more hR hlt hb1 hb3 hb4 hb5 vk mk c126) _ _ hP hS ls (lv_sub hl [3, 4, 5, 6, 7, 8, 9, 10, 11, 12, 13, 14, 1, 0] rfl)
        exact key2 (n - 0 + 1) 0 (by omega) (by omega) (-1) rki_0 _ _ hP hS ls (lv_sub hl [2, 3, 4, 5, 6, 7, 8, 9, 10, 11, 12, 13, 1, 0] rfl)
  exact key ((xCnt (xLiv S) n) - 0 + 1) 0 (by omega) (by omega) 0 rko_0 _ _ hP hS ls (lv_sub hl [4, 5, 6, 7, 8, 9, 10, 11, 3, 2, 1, 0] rfl)
